section
/-! the model's tokens -/
theorem blank_if {α : Type} (y : Int32) (A B : α) : (if y = 9 then A else if y = 10 then A else if y = 13 then A else if y = 32 then A else B) = if isBl y then A else B := by
  unfold isBl
  by_cases h1 : y = 9
  · simp [h1]
  · by_cases h2 : y = 10
    · simp [h2]
    · by_cases h3 : y = 13
      · simp [h3]
      · by_cases h4 : y = 32
        · simp [h4]
        · simp [h1, h2, h3, h4]
section CUTS
variable {τ : XS} {J : Nat → Nat → Int32} {m : Nat} {b : Nat → Int32}
theorem TX_c {J' : Nat → Nat → Int32} (h4 : J' 183 4 = J 183 4) (h5 : ∀ k, J' 185 k = J 185 k) (h : TX J b m) : TX J' b m := by
  obtain ⟨h1, h2, h3⟩ := h
  exact ⟨h1, by rw [h4]; exact h2, fun k hk => by rw [h5]; exact h3 k hk⟩
theorem sign_ok (hS : Shp τ) {i n : Nat} {y : Int32} (hn : n < 403) (h10 : J 183 10 = nI n) : f_X12_sign (xw τ J) 183 (nI i) y = some ((1 : Int32), xw (xl τ (xup (xL τ) 189 n 0)) (tkI J n (if y = 59 then 4 else if y = 45 then 5 else 3) (nI i) 0)) := by
  have tok : ∀ k : Int32, f_X12_sign_j22 (xw τ J) (nI i) 183 k = some ((1 : Int32), xw (xl τ (xup (xL τ) 189 n 0)) (tkI J n k (nI i) 0)) := fun k => by
    unfold f_X12_sign_j22
    rw [xw_ck, kC183 hS, Option.bind_some, token_ok hS hn h10, Option.bind_some]
  unfold f_X12_sign
  rw [tok, tok, tok]
  by_cases h1 : y = 59
  · rw [if_pos h1, if_pos h1]
  · rw [if_neg h1, if_neg h1]
    by_cases h2 : y = 45
    · rw [if_pos h2, if_pos h2]
    · rw [if_neg h2, if_neg h2]
theorem cutsText_ok (hS : Shp τ) (hk : KY (xL τ)) (hX : TX J b m) : ∃ (L : Nat → Nat → Int64) (J' : Nat → Nat → Int32) (N : Nat), f_X12_cutsText (xw τ J) 183 = some (xw (xl τ L) J') ∧ (∀ q, L 190 q = xL τ 190 q) ∧ N ≤ 401 ∧ 0 < N ∧ J' 183 10 = nI N ∧ TKM J' b m N ∧ (∀ i, i + 1 < N → tKd b m i ≠ 0) ∧ (N = 401 ∨ tKd b m (N - 1) = 0) ∧ ∀ a q, ¬ (186 ≤ a ∧ a ≤ 188) → ¬ (a = 183 ∧ q = 10) → J' a q = J a q := by
  have hm := hX.1
  unfold f_X12_cutsText
  simp (disch := first | assumption | omega) only [Option.bind_some, Option.map_some, xw_gR, xw_gN, xw_al, xw_ck, xw_uI, xw_ur, xup_at, xur_at, if_true, if_false, reduceIte, and_true, true_and, and_false, false_and, not_true_eq_false, not_false_eq_true, Nat.reduceEqDiff, eq_self, Nat.reduceAdd, Nat.reduceMul, kC1, kG1, kP1, kR1_0, kR1_1, kR1_2, kR1_3, kR1_4, kR1_5, kR1_6, kR1_7, kR1_8, kR1_9, kR1_10, kR1_11, kR1_12, kR1_13, kC2, kG2, kP2, kR2_0, kR2_1, kC3, kG3, kP3, kR3_0, kR3_1, kR3_2, kR3_3, kL4, kA4, kS4, kL5, kA5, kS5, kL6, kA6, kS6, kL7, kA7, kS7, kC8, kG8, kP8, kR8_0, kR8_1, kL9, kA9, kS9, kL10, kA10, kS10, kC11, kG11, kP11, kR11_0, kR11_1, kR11_2, kR11_3, kL12, kA12, kS12, kL13, kA13, kS13, kL14, kA14, kS14, kL15, kA15, kS15, kC16, kG16, kP16, kR16_0, kR16_1, kL17, kA17, kS17, kL18, kA18, kS18, kC19, kG19, kP19, kR19_0, kL20, kL141, kL146, kA146, kS146, kL151, kA151, kS151, kL156, kA156, kS156, kC157, kG157, kP157, kR157_0, kR157_1, kL158, kA158, kS158, kL159, kA159, kS159, kC161, kG161, kP161, kR161_0, kR161_1, kL162, kA162, kS162, kL163, kA163, kS163, kC165, kG165, kP165, kR165_0, kR165_1, kR165_2, kR165_3, kL166, kA166, kS166, kL167, kA167, kS167, kL168, kA168, kS168, kL169, kA169, kS169, kC170, kG170, kP170, kR170_0, kR170_1, kR170_2, kL171, kA171, kS171, kL172, kA172, kS172, kL173, kA173, kS173, kC174, kG174, kP174, kR174_0, kR174_1, kR174_2, kR174_3, kR174_4, kL175, kA175, kS175, kL176, kA176, kS176, kL177, kA177, kS177, kL178, kA178, kS178, kL179, kC180, kG180, kP180, kL181, kL182, kA182, kS182, kC183, kG183, kP183, kR183_1, kR183_3, kR183_5, kR183_6, kR183_7, kR183_8, kR183_9, kR183_21, kR183_26, kR183_27, kR183_30, kR183_31, kR183_33, kR183_34, kR183_36, kR183_37, kR183_38, kR183_39, kR183_40, kR183_41, kR183_42, kR183_43, kR183_44, kL184, kA184, kS184, kL185, kA185, kS185, kL186, kA186, kS186, kL187, kA187, kS187, kL188, kA188, kS188, kL189, kL190, kL191, kA191, kS191, kL192, kA192, kS192, kL193, kA193, kS193, kL194, kA194, kS194, kL195, kA195, kS195, kL196, kA196, kS196, kL197, kA197, kS197, kL198, kA198, kS198, kL199, kA199, kS199, kL200, kA200, kS200, kL201, kL202, kA202, kS202, kL203, kA203, kS203, kL204, kA204, kS204, kL205, kL206, kA206, kS206]
  have key := xloop_run (f := f_X12_cutsText_b7 183) (fun k a => ∃ (i n : Nat) (L : Nat → Nat → Int64) (J' : Nat → Nat → Int32), a = (nI i, xw (xl τ L) J') ∧ k = m - i ∧ i ≤ m ∧ n ≤ 401 ∧ (∀ q, L 190 q = xL τ 190 q) ∧ J' 183 10 = nI n ∧ TKM J' b m n ∧ (∀ j, j < n → tKd b m j ≠ 0) ∧ tPo b m n ≤ i ∧ (∀ j, tPo b m n ≤ j → j < i → isBl (b j) = true) ∧ ∀ a q, ¬ (186 ≤ a ∧ a ≤ 188) → ¬ (a = 183 ∧ q = 10) → J' a q = J a q) (fun z => ∃ (L : Nat → Nat → Int64) (J' : Nat → Nat → Int32) (N : Nat), z = xw (xl τ L) J' ∧ (∀ q, L 190 q = xL τ 190 q) ∧ N ≤ 401 ∧ 0 < N ∧ J' 183 10 = nI N ∧ TKM J' b m N ∧ (∀ i, i + 1 < N → tKd b m i ≠ 0) ∧ (N = 401 ∨ tKd b m (N - 1) = 0) ∧ ∀ a q, ¬ (186 ≤ a ∧ a ≤ 188) → ¬ (a = 183 ∧ q = 10) → J' a q = J a q) ?_ (m - 0) ((0 : Int32), xw τ (xup J 183 10 0)) ⟨0, 0, xL τ, xup J 183 10 0, rfl, rfl, Nat.zero_le _, by omega, fun _ => rfl, by rw [xup_at, if_pos ⟨rfl, rfl⟩]; rfl, fun i hi => absurd hi (Nat.not_lt_zero _), fun i hi => absurd hi (Nat.not_lt_zero _), Nat.le_refl _, fun j _ h2 => absurd h2 (Nat.not_lt_zero _), fun a q _ h2 => by rw [xup_at, if_neg h2]⟩
  · obtain ⟨z, e, L, J', N, rfl, rest⟩ := key
    exact ⟨L, J', N, e, rest⟩
  · rintro k a ⟨i, n, L, J', rfl, rfl, hi, hn, hL, h10, hT, hnz, hpo, hbl, u⟩
    have hS' : Shp (xl τ L) := hS
    have hK' : KY (xL (xl τ L)) := fun q hq => (hL q).trans (hk q hq)
    have hX' : TX J' b m := TX_c (u _ _ (by omega) (by omega)) (fun q => u _ _ (by omega) (by omega)) hX
    have q400 : ((400 : Int32) < nI n) = (400 < n) := by rw [show (400 : Int32) = nI 400 from rfl, nn_lt (by omega) (by omega)]
    by_cases h401 : 400 < n
    · left
      refine ⟨_, ?_, L, J', n, rfl, hL, hn, by omega, h10, hT, fun j hj => hnz j (by omega), .inl (by omega), u⟩
      simp only [f_X12_cutsText_b7]
      rw [show xgI (xw (xl τ L) J') 183 12 10 = some (nI n) from by rw [← h10]; exact kG183 hS', Option.bind_some, if_pos (by rw [q400]; exact h401)]
      rfl
    · have qi : (nI i < nI m) = (i < m) := nn_lt (by omega) (by omega)
      have h4 := hX'.2.1
      have n403 : n < 403 := by omega
      by_cases him : i < m
      · have hb := byte12_ok (τ := xl τ L) hS' hX' him
        obtain ⟨x1, x2, x3, x4, x5, x6⟩ := b255_x (hX.2.2 i him).2
        right
        cases hbk : isBl (b i) with
        | true =>
          refine ⟨m - (i + 1), (nI (i + 1), xw (xl τ L) J'), by omega, ?_, i + 1, n, L, J', rfl, rfl, by omega, hn, hL, h10, hT, hnz, by omega, fun j h1 h2 => ?_, u⟩
          · simp only [f_X12_cutsText_b7]
            simp (disch := first | assumption | omega) only [Option.bind_some, Option.map_some, xw_gR, xw_gN, xw_al, xw_ck, xw_uI, xw_ur, xup_at, xur_at, if_true, if_false, reduceIte, and_true, true_and, and_false, false_and, not_true_eq_false, not_false_eq_true, Nat.reduceEqDiff, eq_self, Nat.reduceAdd, Nat.reduceMul, kC1, kG1, kP1, kR1_0, kR1_1, kR1_2, kR1_3, kR1_4, kR1_5, kR1_6, kR1_7, kR1_8, kR1_9, kR1_10, kR1_11, kR1_12, kR1_13, kC2, kG2, kP2, kR2_0, kR2_1, kC3, kG3, kP3, kR3_0, kR3_1, kR3_2, kR3_3, kL4, kA4, kS4, kL5, kA5, kS5, kL6, kA6, kS6, kL7, kA7, kS7, kC8, kG8, kP8, kR8_0, kR8_1, kL9, kA9, kS9, kL10, kA10, kS10, kC11, kG11, kP11, kR11_0, kR11_1, kR11_2, kR11_3, kL12, kA12, kS12, kL13, kA13, kS13, kL14, kA14, kS14, kL15, kA15, kS15, kC16, kG16, kP16, kR16_0, kR16_1, kL17, kA17, kS17, kL18, kA18, kS18, kC19, kG19, kP19, kR19_0, kL20, kL141, kL146, kA146, kS146, kL151, kA151, kS151, kL156, kA156, kS156, kC157, kG157, kP157, kR157_0, kR157_1, kL158, kA158, kS158, kL159, kA159, kS159, kC161, kG161, kP161, kR161_0, kR161_1, kL162, kA162, kS162, kL163, kA163, kS163, kC165, kG165, kP165, kR165_0, kR165_1, kR165_2, kR165_3, kL166, kA166, kS166, kL167, kA167, kS167, kL168, kA168, kS168, kL169, kA169, kS169, kC170, kG170, kP170, kR170_0, kR170_1, kR170_2, kL171, kA171, kS171, kL172, kA172, kS172, kL173, kA173, kS173, kC174, kG174, kP174, kR174_0, kR174_1, kR174_2, kR174_3, kR174_4, kL175, kA175, kS175, kL176, kA176, kS176, kL177, kA177, kS177, kL178, kA178, kS178, kL179, kC180, kG180, kP180, kL181, kL182, kA182, kS182, kC183, kG183, kP183, kR183_1, kR183_3, kR183_5, kR183_6, kR183_7, kR183_8, kR183_9, kR183_21, kR183_26, kR183_27, kR183_30, kR183_31, kR183_33, kR183_34, kR183_36, kR183_37, kR183_38, kR183_39, kR183_40, kR183_41, kR183_42, kR183_43, kR183_44, kL184, kA184, kS184, kL185, kA185, kS185, kL186, kA186, kS186, kL187, kA187, kS187, kL188, kA188, kS188, kL189, kL190, kL191, kA191, kS191, kL192, kA192, kS192, kL193, kA193, kS193, kL194, kA194, kS194, kL195, kA195, kS195, kL196, kA196, kS196, kL197, kA197, kS197, kL198, kA198, kS198, kL199, kA199, kS199, kL200, kA200, kS200, kL201, kL202, kA202, kS202, kL203, kA203, kS203, kL204, kA204, kS204, kL205, kL206, kA206, kS206, h10, q400, h401, hb, h4, qi, him]
            rw [blank_if, x3, hbk, if_pos rfl, nI_succ]
          · by_cases z : j = i
            · rw [z]; exact hbk
            · exact hbl j h1 (by omega)
        | false =>
          have hst : tSt b m n = i := nxP_one hpo hi hbl (fun _ => hbk)
          have hne : tKd b m n ≠ 0 := fun z => by
            have := (tKd_0 (b := b) (m := m) n).mp z
            omega
          have hsm : ¬ m ≤ i := by omega
          -- a token of kind kd and value v was laid
          have fin : ∀ (kd v : Int32) (L' : Nat → Nat → Int64), f_X12_cutsText_b7 183 (nI i, xw (xl τ L) J') = some (.inl (nI (tE0 b m i), xw (xl τ L') (tkI J' n kd (nI i) v))) → KMr (tKd b m n) kd → (tKd b m n = 2 → v = nI (tNu b m n)) → (∀ q, L' 190 q = xL τ 190 q) → ∃ k' a', k' < m - i ∧ f_X12_cutsText_b7 183 (nI i, xw (xl τ L) J') = some (.inl a') ∧ ∃ (i n : Nat) (L : Nat → Nat → Int64) (J' : Nat → Nat → Int32), a' = (nI i, xw (xl τ L) J') ∧ k' = m - i ∧ i ≤ m ∧ n ≤ 401 ∧ (∀ q, L 190 q = xL τ 190 q) ∧ J' 183 10 = nI n ∧ TKM J' b m n ∧ (∀ j, j < n → tKd b m j ≠ 0) ∧ tPo b m n ≤ i ∧ (∀ j, tPo b m n ≤ j → j < i → isBl (b j) = true) ∧ ∀ a q, ¬ (186 ≤ a ∧ a ≤ 188) → ¬ (a = 183 ∧ q = 10) → J' a q = J a q := by
            intro kd v L' he hkd hv hL'
            have tb := tE0_b (b := b) hi
            have hpe : tPo b m (n + 1) = tE0 b m i := by rw [tPo_s, hst]
            refine ⟨m - tE0 b m i, _, by have := tb.2.2 him; omega, he, tE0 b m i, n + 1, L', _, rfl, rfl, tb.2.1, by omega, hL', tkI_10, TKM_s hT hkd (by rw [hst]) hv, fun j hj => ?_, by omega, fun j h1 h2 => by omega, fun a q h1 h2 => by rw [tkI_out h1 h2]; exact u a q h1 h2⟩
            by_cases z : j = n
            · rw [z]; exact hne
            · exact hnz j (by omega)
          have stp : f_X12_cutsText_b7 183 (nI i, xw (xl τ L) J') = (f_X12_isLetter (b i &&& 255)).bind fun v9 => if v9 = 0 then ((f_X12_isDigit (b i &&& 255)).bind fun v11 => if v11 = 0 then ((xck (xw (xl τ L) J') 183 12).bind fun _ => (f_X12_sign (xw (xl τ L) J') 183 (nI i) (b i &&& 255)).bind fun (v15, σ14) => some (.inl (nI i + v15, σ14))) else xloop (f_X12_cutsText_b208 (xw (xl τ L) J') 183 (nI i)) ((0 : Int32), (0 : Int32))) else xloop (f_X12_cutsText_b85 (xw (xl τ L) J') 183 (nI i)) ((0 : Int32), (0 : Int64)) := by
            simp only [f_X12_cutsText_b7]
            rw [show xgI (xw (xl τ L) J') 183 12 10 = some (nI n) from by rw [← h10]; exact kG183 hS', Option.bind_some, if_neg (by rw [q400]; exact h401), xw_ck, kC183 hS', Option.bind_some, hb, Option.bind_some, show xgI (xw (xl τ L) J') 183 12 4 = some (nI m) from by rw [← h4]; exact kG183 hS', Option.bind_some, if_pos (by rw [qi]; exact him), blank_if, x3, hbk, if_neg (show ¬ (false = true) by decide)]
          have tkd : tKd b m n = tK0 b m i := by unfold tKd; rw [hst]
          have tnu : tNu b m n = tN0 b m i := by unfold tNu; rw [hst]
          cases hlt : isLt (b i) with
          | true =>
            obtain ⟨L', kd, e1, e2, e3⟩ := letters12 (τ := xl τ L) (J := J') hS' hK' hX' him hlt n403 h10
            have te : tE0 b m i = nxP isLt b m i := by unfold tE0; rw [if_neg hsm, if_pos hlt]
            have tk : tK0 b m i = wdK b i (nxP isLt b m i - i) := by unfold tK0; rw [if_neg hsm, if_pos hlt]
            refine fin kd 0 L' ?_ (by rw [tkd, tk]; exact e2) (fun z => ?_) (fun q => (e3 q).trans (hL q))
            · rw [stp, lt12_ok, Option.bind_some, x1, hlt, if_pos rfl, if_neg (by decide), te]
              exact e1
            · exfalso
              rw [tkd, tk] at z
              have h2 : ∀ p k, k ≤ 11 → wkF p k ≠ 2 := by
                intro p k
                induction k with
                | zero => intro _ q; cases q
                | succ k ih =>
                  intro hk q
                  rw [wkF] at q
                  split at q
                  · omega
                  · exact ih (by omega) q
              exact h2 _ 11 (by omega) z
          | false =>
            cases hdg : isDg (b i) with
            | true =>
              obtain ⟨L', v, e1, e2, e3⟩ := digits12 (τ := xl τ L) (J := J') hS' hX' him hdg n403 h10
              have te : tE0 b m i = nxP isDg b m i := by unfold tE0; rw [if_neg hsm, hlt, if_neg (by decide), if_pos hdg]
              have tk : tK0 b m i = if nxP isDg b m i - i ≤ 4 then 2 else 1 := by unfold tK0; rw [if_neg hsm, hlt, if_neg (by decide), if_pos hdg]
              refine fin (if nxP isDg b m i - i ≤ 4 then 2 else 3) v L' ?_ ?_ (fun z => ?_) (fun q => (e3 q).trans (hL q))
              · rw [stp, lt12_ok, Option.bind_some, x1, hlt, if_neg (show ¬ (false = true) by decide), if_pos rfl, dg12_ok, Option.bind_some, x2, hdg, if_pos rfl, if_neg (by decide), te]
                exact e1
              · rw [tkd, tk]
                by_cases h4 : nxP isDg b m i - i ≤ 4
                · rw [if_pos h4, if_pos h4]; exact .inr ⟨by decide, rfl⟩
                · rw [if_neg h4, if_neg h4]; exact .inl ⟨rfl, .inr rfl⟩
              · rw [tkd, tk] at z
                have h4 : nxP isDg b m i - i ≤ 4 := by
                  apply Classical.byContradiction
                  intro w
                  rw [if_neg w] at z
                  cases z
                rw [tnu]; exact e2 h4
            | false =>
              have te : tE0 b m i = i + 1 := by unfold tE0; rw [if_neg hsm, hlt, if_neg (by decide), hdg, if_neg (by decide)]
              have tk : tK0 b m i = if b i = 45 then 3 else if b i = 59 then 4 else 1 := by unfold tK0; rw [if_neg hsm, hlt, if_neg (by decide), hdg, if_neg (by decide)]
              have sg := sign_ok (τ := xl τ L) (J := J') (i := i) (y := b i &&& 255) hS' n403 h10
              refine fin (if b i &&& 255 = 59 then 4 else if b i &&& 255 = 45 then 5 else 3) 0 (xup (xL (xl τ L)) 189 n 0) ?_ ?_ (fun z => ?_) (fun q => ?_)
              · rw [stp, lt12_ok, Option.bind_some, x1, hlt, if_neg (show ¬ (false = true) by decide), if_pos rfl, dg12_ok, Option.bind_some, x2, hdg, if_neg (show ¬ (false = true) by decide), if_pos rfl, xw_ck, kC183 hS', Option.bind_some, sg, Option.bind_some, te, nI_succ]
                rfl
              · rw [tkd, tk]
                by_cases z1 : b i = 45
                · rw [if_pos z1, if_neg (fun w => by rw [x5.mp w] at z1; exact absurd z1 (by decide)), if_pos (x4.mpr z1)]
                  exact .inr ⟨by decide, rfl⟩
                · by_cases z2 : b i = 59
                  · rw [if_neg z1, if_pos z2, if_pos (x5.mpr z2)]
                    exact .inr ⟨by decide, rfl⟩
                  · rw [if_neg z1, if_neg z2, if_neg (fun w => z2 (x5.mp w)), if_neg (fun w => z1 (x4.mp w))]
                    exact .inl ⟨rfl, .inr rfl⟩
              · exfalso
                rw [tkd, tk] at z
                split at z
                · cases z
                · split at z <;> cases z
              · show (if 190 = 189 ∧ q = n then 0 else L 190 q) = _
                rw [if_neg (by omega)]; exact hL q
      · left
        have eim : i = m := by omega
        have hb := byte12_end (τ := xl τ L) hS' hX' (show m ≤ i by omega) (by omega)
        have hst : tSt b m n = m := nxP_one (by omega) (Nat.le_refl _) (fun j h1 h2 => hbl j h1 (by omega)) (fun h => by omega)
        have h0 : tKd b m n = 0 := (tKd_0 n).mpr hst
        have tok := token_ok (τ := xl τ L) (J := J') (k := 0) (p := nI m) (v := 0) (w := 0) hS' n403 h10
        refine ⟨_, ?_, xup (xL (xl τ L)) 189 n 0, tkI J' n 0 (nI m) 0, n + 1, rfl, fun q => ?_, by omega, by omega, tkI_10, TKM_s hT (by rw [h0]; exact .inr ⟨by decide, rfl⟩) (by rw [hst]) (fun z => by rw [h0] at z; cases z), fun j hj => hnz j (by omega), .inr (by rw [Nat.add_sub_cancel]; exact h0), fun a q h1 h2 => by rw [tkI_out h1 h2]; exact u a q h1 h2⟩
        · simp only [f_X12_cutsText_b7]
          simp (disch := first | assumption | omega) only [Option.bind_some, Option.map_some, xw_gR, xw_gN, xw_al, xw_ck, xw_uI, xw_ur, xup_at, xur_at, if_true, if_false, reduceIte, and_true, true_and, and_false, false_and, not_true_eq_false, not_false_eq_true, Nat.reduceEqDiff, eq_self, Nat.reduceAdd, Nat.reduceMul, kC1, kG1, kP1, kR1_0, kR1_1, kR1_2, kR1_3, kR1_4, kR1_5, kR1_6, kR1_7, kR1_8, kR1_9, kR1_10, kR1_11, kR1_12, kR1_13, kC2, kG2, kP2, kR2_0, kR2_1, kC3, kG3, kP3, kR3_0, kR3_1, kR3_2, kR3_3, kL4, kA4, kS4, kL5, kA5, kS5, kL6, kA6, kS6, kL7, kA7, kS7, kC8, kG8, kP8, kR8_0, kR8_1, kL9, kA9, kS9, kL10, kA10, kS10, kC11, kG11, kP11, kR11_0, kR11_1, kR11_2, kR11_3, kL12, kA12, kS12, kL13, kA13, kS13, kL14, kA14, kS14, kL15, kA15, kS15, kC16, kG16, kP16, kR16_0, kR16_1, kL17, kA17, kS17, kL18, kA18, kS18, kC19, kG19, kP19, kR19_0, kL20, kL141, kL146, kA146, kS146, kL151, kA151, kS151, kL156, kA156, kS156, kC157, kG157, kP157, kR157_0, kR157_1, kL158, kA158, kS158, kL159, kA159, kS159, kC161, kG161, kP161, kR161_0, kR161_1, kL162, kA162, kS162, kL163, kA163, kS163, kC165, kG165, kP165, kR165_0, kR165_1, kR165_2, kR165_3, kL166, kA166, kS166, kL167, kA167, kS167, kL168, kA168, kS168, kL169, kA169, kS169, kC170, kG170, kP170, kR170_0, kR170_1, kR170_2, kL171, kA171, kS171, kL172, kA172, kS172, kL173, kA173, kS173, kC174, kG174, kP174, kR174_0, kR174_1, kR174_2, kR174_3, kR174_4, kL175, kA175, kS175, kL176, kA176, kS176, kL177, kA177, kS177, kL178, kA178, kS178, kL179, kC180, kG180, kP180, kL181, kL182, kA182, kS182, kC183, kG183, kP183, kR183_1, kR183_3, kR183_5, kR183_6, kR183_7, kR183_8, kR183_9, kR183_21, kR183_26, kR183_27, kR183_30, kR183_31, kR183_33, kR183_34, kR183_36, kR183_37, kR183_38, kR183_39, kR183_40, kR183_41, kR183_42, kR183_43, kR183_44, kL184, kA184, kS184, kL185, kA185, kS185, kL186, kA186, kS186, kL187, kA187, kS187, kL188, kA188, kS188, kL189, kL190, kL191, kA191, kS191, kL192, kA192, kS192, kL193, kA193, kS193, kL194, kA194, kS194, kL195, kA195, kS195, kL196, kA196, kS196, kL197, kA197, kS197, kL198, kA198, kS198, kL199, kA199, kS199, kL200, kA200, kS200, kL201, kL202, kA202, kS202, kL203, kA203, kS203, kL204, kA204, kS204, kL205, kL206, kA206, kS206, h10, q400, h401, hb, h4, qi, him, tok]
          rfl
        · show (if 190 = 189 ∧ q = n then 0 else L 190 q) = _
          rw [if_neg (by omega)]; exact hL q
end CUTS
end
section
/-! the model's grammar -/
def TN (J0 : Nat → Nat → Int32) (b : Nat → Int32) (m N : Nat) : Prop := N ≤ 401 ∧ 0 < N ∧ TKM J0 b m N ∧ (∀ i, i + 1 < N → tKd b m i ≠ 0) ∧ (N = 401 ∨ tKd b m (N - 1) = 0)
def GF (J0 J : Nat → Nat → Int32) : Prop := ∀ a q, ¬ (a = 183 ∧ 11 ≤ q ∧ q ≤ 13) → J a q = J0 a q
def GR (J : Nat → Nat → Int32) (b : Nat → Int32) (m t w : Nat) : Prop := J 183 11 = nI t ∧ J 183 12 = 0 ∧ t ≤ 400 ∧ ws b m t = some w
def GB (J : Nat → Nat → Int32) (b : Nat → Int32) (m : Nat) : Prop := ∃ n r pl, 0 < r ∧ r < 3 ∧ cutR b m n r pl ∧ J 183 12 = nI r ∧ J 183 13 = nI pl
def ST (J0 J : Nat → Nat → Int32) (b : Nat → Int32) (m lo w : Nat) : Prop := GF J0 J ∧ ((∃ t, lo ≤ t ∧ GR J b m t w) ∨ GB J b m)
theorem KMr_eq {k k' : Nat} {x : Int32} (h : KMr k x) (hk : k ≤ 15) (hk' : k' ≤ 15) (h1 : k' ≠ 1) : (x = nI (kmN k')) = (k = k') := by
  have c : kmN k' ≠ 1 ∧ kmN k' ≠ 3 ∧ kmN k' < 100 := by
    unfold kmN
    split
    · omega
    · split <;> omega
  apply propext
  rcases h with ⟨h, hx1⟩ | ⟨h, hx1⟩
  · constructor
    · intro z
      exfalso
      rcases hx1 with y | y
      · have e : (nI 1 = nI (kmN k')) = (1 = kmN k') := nn_eq (by omega) (by omega)
        have : 1 = kmN k' := by rw [← e]; exact y.symm.trans z
        omega
      · have e : (nI 3 = nI (kmN k')) = (3 = kmN k') := nn_eq (by omega) (by omega)
        have : 3 = kmN k' := by rw [← e]; exact y.symm.trans z
        omega
    · intro z; omega
  · have c2 : kmN k < 100 := by
      unfold kmN
      split
      · omega
      · split <;> omega
    rw [hx1, nn_eq (by omega) (by omega)]
    constructor
    · intro z
      unfold kmN at z
      split at z <;> split at z <;> (try split at z) <;> (try split at z) <;> omega
    · intro z; rw [z]
section GRAM
variable {τ : XS} {J0 J : Nat → Nat → Int32} {b : Nat → Int32} {m N t w : Nat}
theorem GR_N (h : TN J0 b m N) (hg : GR J b m t w) : t < N := by
  obtain ⟨h1, h2, h3, h4, h5⟩ := h
  obtain ⟨g1, g2, g3, g4⟩ := hg
  rcases h5 with z | z
  · omega
  · apply Classical.byContradiction
    intro hn
    obtain ⟨v, v1, v2, -⟩ := ws_pre t w g4 (N - 1) (by omega)
    exact v2 z
theorem is12_ok (hS : Shp τ) (hN : TN J0 b m N) (hF : GF J0 J) (hg : GR J b m t w) {k' : Nat} (hk' : k' ≤ 15) (h1 : k' ≠ 1) : f_X12_is (xw τ J) 183 (nI (kmN k')) = some (if tKd b m t = k' then 1 else 0) := by
  have ht := GR_N hN hg
  obtain ⟨g1, g2, g3, g4⟩ := hg
  have t403 : t < 403 := by omega
  have v : J 186 t = J0 186 t := hF _ _ (by omega)
  have e := KMr_eq (hN.2.2.1 t ht).1 (tKd_b t) hk' h1
  unfold f_X12_is
  simp (disch := first | assumption | omega) only [Option.bind_some, Option.map_some, xw_gR, xw_gN, xw_al, xw_ck, xw_uI, xw_ur, xup_at, xur_at, if_true, if_false, reduceIte, and_true, true_and, and_false, false_and, not_true_eq_false, not_false_eq_true, Nat.reduceEqDiff, eq_self, Nat.reduceAdd, Nat.reduceMul, kC1, kG1, kP1, kR1_0, kR1_1, kR1_2, kR1_3, kR1_4, kR1_5, kR1_6, kR1_7, kR1_8, kR1_9, kR1_10, kR1_11, kR1_12, kR1_13, kC2, kG2, kP2, kR2_0, kR2_1, kC3, kG3, kP3, kR3_0, kR3_1, kR3_2, kR3_3, kL4, kA4, kS4, kL5, kA5, kS5, kL6, kA6, kS6, kL7, kA7, kS7, kC8, kG8, kP8, kR8_0, kR8_1, kL9, kA9, kS9, kL10, kA10, kS10, kC11, kG11, kP11, kR11_0, kR11_1, kR11_2, kR11_3, kL12, kA12, kS12, kL13, kA13, kS13, kL14, kA14, kS14, kL15, kA15, kS15, kC16, kG16, kP16, kR16_0, kR16_1, kL17, kA17, kS17, kL18, kA18, kS18, kC19, kG19, kP19, kR19_0, kL20, kL141, kL146, kA146, kS146, kL151, kA151, kS151, kL156, kA156, kS156, kC157, kG157, kP157, kR157_0, kR157_1, kL158, kA158, kS158, kL159, kA159, kS159, kC161, kG161, kP161, kR161_0, kR161_1, kL162, kA162, kS162, kL163, kA163, kS163, kC165, kG165, kP165, kR165_0, kR165_1, kR165_2, kR165_3, kL166, kA166, kS166, kL167, kA167, kS167, kL168, kA168, kS168, kL169, kA169, kS169, kC170, kG170, kP170, kR170_0, kR170_1, kR170_2, kL171, kA171, kS171, kL172, kA172, kS172, kL173, kA173, kS173, kC174, kG174, kP174, kR174_0, kR174_1, kR174_2, kR174_3, kR174_4, kL175, kA175, kS175, kL176, kA176, kS176, kL177, kA177, kS177, kL178, kA178, kS178, kL179, kC180, kG180, kP180, kL181, kL182, kA182, kS182, kC183, kG183, kP183, kR183_1, kR183_3, kR183_5, kR183_6, kR183_7, kR183_8, kR183_9, kR183_21, kR183_26, kR183_27, kR183_30, kR183_31, kR183_33, kR183_34, kR183_36, kR183_37, kR183_38, kR183_39, kR183_40, kR183_41, kR183_42, kR183_43, kR183_44, kL184, kA184, kS184, kL185, kA185, kS185, kL186, kA186, kS186, kL187, kA187, kS187, kL188, kA188, kS188, kL189, kL190, kL191, kA191, kS191, kL192, kA192, kS192, kL193, kA193, kS193, kL194, kA194, kS194, kL195, kA195, kS195, kL196, kA196, kS196, kL197, kA197, kS197, kL198, kA198, kS198, kL199, kA199, kS199, kL200, kA200, kS200, kL201, kL202, kA202, kS202, kL203, kA203, kS203, kL204, kA204, kS204, kL205, kL206, kA206, kS206, g2, g1, v, e]
  by_cases z : tKd b m t = k'
  · rw [if_pos z, if_pos z]
  · rw [if_neg z, if_neg z]
theorem is12_b (hS : Shp τ) (hg : GB J b m) (x : Int32) : f_X12_is (xw τ J) 183 x = some 0 := by
  obtain ⟨n, r, pl, r0, r3, -, g1, g2⟩ := hg
  have q : (nI r = 0) = False := eq_false (nI_ne0 (by omega) (by omega))
  unfold f_X12_is
  simp (disch := first | assumption | omega) only [Option.bind_some, Option.map_some, xw_gR, xw_gN, xw_al, xw_ck, xw_uI, xw_ur, xup_at, xur_at, if_true, if_false, reduceIte, and_true, true_and, and_false, false_and, not_true_eq_false, not_false_eq_true, Nat.reduceEqDiff, eq_self, Nat.reduceAdd, Nat.reduceMul, kC1, kG1, kP1, kR1_0, kR1_1, kR1_2, kR1_3, kR1_4, kR1_5, kR1_6, kR1_7, kR1_8, kR1_9, kR1_10, kR1_11, kR1_12, kR1_13, kC2, kG2, kP2, kR2_0, kR2_1, kC3, kG3, kP3, kR3_0, kR3_1, kR3_2, kR3_3, kL4, kA4, kS4, kL5, kA5, kS5, kL6, kA6, kS6, kL7, kA7, kS7, kC8, kG8, kP8, kR8_0, kR8_1, kL9, kA9, kS9, kL10, kA10, kS10, kC11, kG11, kP11, kR11_0, kR11_1, kR11_2, kR11_3, kL12, kA12, kS12, kL13, kA13, kS13, kL14, kA14, kS14, kL15, kA15, kS15, kC16, kG16, kP16, kR16_0, kR16_1, kL17, kA17, kS17, kL18, kA18, kS18, kC19, kG19, kP19, kR19_0, kL20, kL141, kL146, kA146, kS146, kL151, kA151, kS151, kL156, kA156, kS156, kC157, kG157, kP157, kR157_0, kR157_1, kL158, kA158, kS158, kL159, kA159, kS159, kC161, kG161, kP161, kR161_0, kR161_1, kL162, kA162, kS162, kL163, kA163, kS163, kC165, kG165, kP165, kR165_0, kR165_1, kR165_2, kR165_3, kL166, kA166, kS166, kL167, kA167, kS167, kL168, kA168, kS168, kL169, kA169, kS169, kC170, kG170, kP170, kR170_0, kR170_1, kR170_2, kL171, kA171, kS171, kL172, kA172, kS172, kL173, kA173, kS173, kC174, kG174, kP174, kR174_0, kR174_1, kR174_2, kR174_3, kR174_4, kL175, kA175, kS175, kL176, kA176, kS176, kL177, kA177, kS177, kL178, kA178, kS178, kL179, kC180, kG180, kP180, kL181, kL182, kA182, kS182, kC183, kG183, kP183, kR183_1, kR183_3, kR183_5, kR183_6, kR183_7, kR183_8, kR183_9, kR183_21, kR183_26, kR183_27, kR183_30, kR183_31, kR183_33, kR183_34, kR183_36, kR183_37, kR183_38, kR183_39, kR183_40, kR183_41, kR183_42, kR183_43, kR183_44, kL184, kA184, kS184, kL185, kA185, kS185, kL186, kA186, kS186, kL187, kA187, kS187, kL188, kA188, kS188, kL189, kL190, kL191, kA191, kS191, kL192, kA192, kS192, kL193, kA193, kS193, kL194, kA194, kS194, kL195, kA195, kS195, kL196, kA196, kS196, kL197, kA197, kS197, kL198, kA198, kS198, kL199, kA199, kS199, kL200, kA200, kS200, kL201, kL202, kA202, kS202, kL203, kA203, kS203, kL204, kA204, kS204, kL205, kL206, kA206, kS206, g1, q]
theorem fail12_b (hS : Shp τ) (hg : GB J b m) (x : Int32) : f_X12_fail (xw τ J) 183 x = some (xw τ J) := by
  obtain ⟨n, r, pl, r0, r3, -, g1, g2⟩ := hg
  have q : (nI r ≤ 0) = False := eq_false (nI_nle (by omega) (by omega))
  unfold f_X12_fail
  simp (disch := first | assumption | omega) only [Option.bind_some, Option.map_some, xw_gR, xw_gN, xw_al, xw_ck, xw_uI, xw_ur, xup_at, xur_at, if_true, if_false, reduceIte, and_true, true_and, and_false, false_and, not_true_eq_false, not_false_eq_true, Nat.reduceEqDiff, eq_self, Nat.reduceAdd, Nat.reduceMul, kC1, kG1, kP1, kR1_0, kR1_1, kR1_2, kR1_3, kR1_4, kR1_5, kR1_6, kR1_7, kR1_8, kR1_9, kR1_10, kR1_11, kR1_12, kR1_13, kC2, kG2, kP2, kR2_0, kR2_1, kC3, kG3, kP3, kR3_0, kR3_1, kR3_2, kR3_3, kL4, kA4, kS4, kL5, kA5, kS5, kL6, kA6, kS6, kL7, kA7, kS7, kC8, kG8, kP8, kR8_0, kR8_1, kL9, kA9, kS9, kL10, kA10, kS10, kC11, kG11, kP11, kR11_0, kR11_1, kR11_2, kR11_3, kL12, kA12, kS12, kL13, kA13, kS13, kL14, kA14, kS14, kL15, kA15, kS15, kC16, kG16, kP16, kR16_0, kR16_1, kL17, kA17, kS17, kL18, kA18, kS18, kC19, kG19, kP19, kR19_0, kL20, kL141, kL146, kA146, kS146, kL151, kA151, kS151, kL156, kA156, kS156, kC157, kG157, kP157, kR157_0, kR157_1, kL158, kA158, kS158, kL159, kA159, kS159, kC161, kG161, kP161, kR161_0, kR161_1, kL162, kA162, kS162, kL163, kA163, kS163, kC165, kG165, kP165, kR165_0, kR165_1, kR165_2, kR165_3, kL166, kA166, kS166, kL167, kA167, kS167, kL168, kA168, kS168, kL169, kA169, kS169, kC170, kG170, kP170, kR170_0, kR170_1, kR170_2, kL171, kA171, kS171, kL172, kA172, kS172, kL173, kA173, kS173, kC174, kG174, kP174, kR174_0, kR174_1, kR174_2, kR174_3, kR174_4, kL175, kA175, kS175, kL176, kA176, kS176, kL177, kA177, kS177, kL178, kA178, kS178, kL179, kC180, kG180, kP180, kL181, kL182, kA182, kS182, kC183, kG183, kP183, kR183_1, kR183_3, kR183_5, kR183_6, kR183_7, kR183_8, kR183_9, kR183_21, kR183_26, kR183_27, kR183_30, kR183_31, kR183_33, kR183_34, kR183_36, kR183_37, kR183_38, kR183_39, kR183_40, kR183_41, kR183_42, kR183_43, kR183_44, kL184, kA184, kS184, kL185, kA185, kS185, kL186, kA186, kS186, kL187, kA187, kS187, kL188, kA188, kS188, kL189, kL190, kL191, kA191, kS191, kL192, kA192, kS192, kL193, kA193, kS193, kL194, kA194, kS194, kL195, kA195, kS195, kL196, kA196, kS196, kL197, kA197, kS197, kL198, kA198, kS198, kL199, kA199, kS199, kL200, kA200, kS200, kL201, kL202, kA202, kS202, kL203, kA203, kS203, kL204, kA204, kS204, kL205, kL206, kA206, kS206, g1, q]
theorem fail12_g (hS : Shp τ) (hN : TN J0 b m N) (hF : GF J0 J) (hg : GR J b m t w) (r : Int32) : f_X12_fail (xw τ J) 183 r = some (xw τ (xup (xup J 183 12 r) 183 13 (nI (tSt b m t)))) := by
  have ht := GR_N hN hg
  obtain ⟨g1, g2, g3, g4⟩ := hg
  have t403 : t < 403 := by omega
  have v : J 187 t = nI (tSt b m t) := by rw [hF _ _ (by omega)]; exact (hN.2.2.1 t ht).2.1
  have hN1 := hN.1
  have q : ((0 : Int32) ≤ 0) = True := eq_true (by decide)
  unfold f_X12_fail
  simp (disch := first | assumption | omega) only [Option.bind_some, Option.map_some, xw_gR, xw_gN, xw_al, xw_ck, xw_uI, xw_ur, xup_at, xur_at, if_true, if_false, reduceIte, and_true, true_and, and_false, false_and, not_true_eq_false, not_false_eq_true, Nat.reduceEqDiff, eq_self, Nat.reduceAdd, Nat.reduceMul, kC1, kG1, kP1, kR1_0, kR1_1, kR1_2, kR1_3, kR1_4, kR1_5, kR1_6, kR1_7, kR1_8, kR1_9, kR1_10, kR1_11, kR1_12, kR1_13, kC2, kG2, kP2, kR2_0, kR2_1, kC3, kG3, kP3, kR3_0, kR3_1, kR3_2, kR3_3, kL4, kA4, kS4, kL5, kA5, kS5, kL6, kA6, kS6, kL7, kA7, kS7, kC8, kG8, kP8, kR8_0, kR8_1, kL9, kA9, kS9, kL10, kA10, kS10, kC11, kG11, kP11, kR11_0, kR11_1, kR11_2, kR11_3, kL12, kA12, kS12, kL13, kA13, kS13, kL14, kA14, kS14, kL15, kA15, kS15, kC16, kG16, kP16, kR16_0, kR16_1, kL17, kA17, kS17, kL18, kA18, kS18, kC19, kG19, kP19, kR19_0, kL20, kL141, kL146, kA146, kS146, kL151, kA151, kS151, kL156, kA156, kS156, kC157, kG157, kP157, kR157_0, kR157_1, kL158, kA158, kS158, kL159, kA159, kS159, kC161, kG161, kP161, kR161_0, kR161_1, kL162, kA162, kS162, kL163, kA163, kS163, kC165, kG165, kP165, kR165_0, kR165_1, kR165_2, kR165_3, kL166, kA166, kS166, kL167, kA167, kS167, kL168, kA168, kS168, kL169, kA169, kS169, kC170, kG170, kP170, kR170_0, kR170_1, kR170_2, kL171, kA171, kS171, kL172, kA172, kS172, kL173, kA173, kS173, kC174, kG174, kP174, kR174_0, kR174_1, kR174_2, kR174_3, kR174_4, kL175, kA175, kS175, kL176, kA176, kS176, kL177, kA177, kS177, kL178, kA178, kS178, kL179, kC180, kG180, kP180, kL181, kL182, kA182, kS182, kC183, kG183, kP183, kR183_1, kR183_3, kR183_5, kR183_6, kR183_7, kR183_8, kR183_9, kR183_21, kR183_26, kR183_27, kR183_30, kR183_31, kR183_33, kR183_34, kR183_36, kR183_37, kR183_38, kR183_39, kR183_40, kR183_41, kR183_42, kR183_43, kR183_44, kL184, kA184, kS184, kL185, kA185, kS185, kL186, kA186, kS186, kL187, kA187, kS187, kL188, kA188, kS188, kL189, kL190, kL191, kA191, kS191, kL192, kA192, kS192, kL193, kA193, kS193, kL194, kA194, kS194, kL195, kA195, kS195, kL196, kA196, kS196, kL197, kA197, kS197, kL198, kA198, kS198, kL199, kA199, kS199, kL200, kA200, kS200, kL201, kL202, kA202, kS202, kL203, kA203, kS203, kL204, kA204, kS204, kL205, kL206, kA206, kS206, g2, q, g1, v]
theorem GB_up {n r pl : Nat} (hF : GF J0 J) (hr : 0 < r) (hr3 : r < 3) (hc : cutR b m n r pl) : GF J0 (xup (xup J 183 12 (nI r)) 183 13 (nI pl)) ∧ GB (xup (xup J 183 12 (nI r)) 183 13 (nI pl)) b m :=
  ⟨fun a q h => by rw [xup_at, if_neg (by omega), xup_at, if_neg (by omega)]; exact hF a q h, n, r, pl, hr, hr3, hc, by rw [xup_at, if_neg (by omega), xup_at, if_pos ⟨rfl, rfl⟩], by rw [xup_at, if_pos ⟨rfl, rfl⟩]⟩
theorem passes_g (hS : Shp τ) (hN : TN J0 b m N) (hF : GF J0 J) (hg : GR J b m t w) {w' : Nat} (hk0 : tKd b m t ≠ 0) (hd : dl w (tKd b m t) = some w') : ∃ J', f_X12_passes (xw τ J) 183 = some (xw τ J') ∧ GF J0 J' ∧ (GR J' b m (t + 1) w' ∨ GB J' b m) := by
  have hw' : ws b m (t + 1) = some w' := by rw [ws_s hg.2.2.2, if_neg hk0]; exact hd
  have fg := fail12_g (τ := τ) hS hN hF hg 2
  obtain ⟨g1, g2, g3, g4⟩ := hg
  have q : (nI t = (400 : Int32)) = (t = 400) := nn_eq (b := 400) (by omega) (by decide)
  by_cases h400 : t = 400
  · obtain ⟨z1, z2⟩ := GB_up (b := b) (m := m) (n := 401) (r := 2) (pl := tSt b m 400) hF (by omega) (by omega) ⟨w', by rw [h400] at hw'; exact hw', .inr (.inr ⟨rfl, rfl, rfl⟩)⟩
    refine ⟨_, ?_, z1, .inr z2⟩
    unfold f_X12_passes
    have q1 : (nI t = (400 : Int32)) = True := q.trans (eq_true h400)
    simp (disch := first | assumption | omega) only [Option.bind_some, Option.map_some, xw_gR, xw_gN, xw_al, xw_ck, xw_uI, xw_ur, xup_at, xur_at, if_true, if_false, reduceIte, and_true, true_and, and_false, false_and, not_true_eq_false, not_false_eq_true, Nat.reduceEqDiff, eq_self, Nat.reduceAdd, Nat.reduceMul, kC1, kG1, kP1, kR1_0, kR1_1, kR1_2, kR1_3, kR1_4, kR1_5, kR1_6, kR1_7, kR1_8, kR1_9, kR1_10, kR1_11, kR1_12, kR1_13, kC2, kG2, kP2, kR2_0, kR2_1, kC3, kG3, kP3, kR3_0, kR3_1, kR3_2, kR3_3, kL4, kA4, kS4, kL5, kA5, kS5, kL6, kA6, kS6, kL7, kA7, kS7, kC8, kG8, kP8, kR8_0, kR8_1, kL9, kA9, kS9, kL10, kA10, kS10, kC11, kG11, kP11, kR11_0, kR11_1, kR11_2, kR11_3, kL12, kA12, kS12, kL13, kA13, kS13, kL14, kA14, kS14, kL15, kA15, kS15, kC16, kG16, kP16, kR16_0, kR16_1, kL17, kA17, kS17, kL18, kA18, kS18, kC19, kG19, kP19, kR19_0, kL20, kL141, kL146, kA146, kS146, kL151, kA151, kS151, kL156, kA156, kS156, kC157, kG157, kP157, kR157_0, kR157_1, kL158, kA158, kS158, kL159, kA159, kS159, kC161, kG161, kP161, kR161_0, kR161_1, kL162, kA162, kS162, kL163, kA163, kS163, kC165, kG165, kP165, kR165_0, kR165_1, kR165_2, kR165_3, kL166, kA166, kS166, kL167, kA167, kS167, kL168, kA168, kS168, kL169, kA169, kS169, kC170, kG170, kP170, kR170_0, kR170_1, kR170_2, kL171, kA171, kS171, kL172, kA172, kS172, kL173, kA173, kS173, kC174, kG174, kP174, kR174_0, kR174_1, kR174_2, kR174_3, kR174_4, kL175, kA175, kS175, kL176, kA176, kS176, kL177, kA177, kS177, kL178, kA178, kS178, kL179, kC180, kG180, kP180, kL181, kL182, kA182, kS182, kC183, kG183, kP183, kR183_1, kR183_3, kR183_5, kR183_6, kR183_7, kR183_8, kR183_9, kR183_21, kR183_26, kR183_27, kR183_30, kR183_31, kR183_33, kR183_34, kR183_36, kR183_37, kR183_38, kR183_39, kR183_40, kR183_41, kR183_42, kR183_43, kR183_44, kL184, kA184, kS184, kL185, kA185, kS185, kL186, kA186, kS186, kL187, kA187, kS187, kL188, kA188, kS188, kL189, kL190, kL191, kA191, kS191, kL192, kA192, kS192, kL193, kA193, kS193, kL194, kA194, kS194, kL195, kA195, kS195, kL196, kA196, kS196, kL197, kA197, kS197, kL198, kA198, kS198, kL199, kA199, kS199, kL200, kA200, kS200, kL201, kL202, kA202, kS202, kL203, kA203, kS203, kL204, kA204, kS204, kL205, kL206, kA206, kS206, g1, q1, fg]
    rw [h400]
    rfl
  · refine ⟨xup J 183 11 (nI (t + 1)), ?_, fun a p h => by rw [xup_at, if_neg (by omega)]; exact hF a p h, .inl ⟨by rw [xup_at, if_pos ⟨rfl, rfl⟩], by rw [xup_at, if_neg (by omega)]; exact g2, by omega, hw'⟩⟩
    unfold f_X12_passes
    simp (disch := first | assumption | omega) only [Option.bind_some, Option.map_some, xw_gR, xw_gN, xw_al, xw_ck, xw_uI, xw_ur, xup_at, xur_at, if_true, if_false, reduceIte, and_true, true_and, and_false, false_and, not_true_eq_false, not_false_eq_true, Nat.reduceEqDiff, eq_self, Nat.reduceAdd, Nat.reduceMul, kC1, kG1, kP1, kR1_0, kR1_1, kR1_2, kR1_3, kR1_4, kR1_5, kR1_6, kR1_7, kR1_8, kR1_9, kR1_10, kR1_11, kR1_12, kR1_13, kC2, kG2, kP2, kR2_0, kR2_1, kC3, kG3, kP3, kR3_0, kR3_1, kR3_2, kR3_3, kL4, kA4, kS4, kL5, kA5, kS5, kL6, kA6, kS6, kL7, kA7, kS7, kC8, kG8, kP8, kR8_0, kR8_1, kL9, kA9, kS9, kL10, kA10, kS10, kC11, kG11, kP11, kR11_0, kR11_1, kR11_2, kR11_3, kL12, kA12, kS12, kL13, kA13, kS13, kL14, kA14, kS14, kL15, kA15, kS15, kC16, kG16, kP16, kR16_0, kR16_1, kL17, kA17, kS17, kL18, kA18, kS18, kC19, kG19, kP19, kR19_0, kL20, kL141, kL146, kA146, kS146, kL151, kA151, kS151, kL156, kA156, kS156, kC157, kG157, kP157, kR157_0, kR157_1, kL158, kA158, kS158, kL159, kA159, kS159, kC161, kG161, kP161, kR161_0, kR161_1, kL162, kA162, kS162, kL163, kA163, kS163, kC165, kG165, kP165, kR165_0, kR165_1, kR165_2, kR165_3, kL166, kA166, kS166, kL167, kA167, kS167, kL168, kA168, kS168, kL169, kA169, kS169, kC170, kG170, kP170, kR170_0, kR170_1, kR170_2, kL171, kA171, kS171, kL172, kA172, kS172, kL173, kA173, kS173, kC174, kG174, kP174, kR174_0, kR174_1, kR174_2, kR174_3, kR174_4, kL175, kA175, kS175, kL176, kA176, kS176, kL177, kA177, kS177, kL178, kA178, kS178, kL179, kC180, kG180, kP180, kL181, kL182, kA182, kS182, kC183, kG183, kP183, kR183_1, kR183_3, kR183_5, kR183_6, kR183_7, kR183_8, kR183_9, kR183_21, kR183_26, kR183_27, kR183_30, kR183_31, kR183_33, kR183_34, kR183_36, kR183_37, kR183_38, kR183_39, kR183_40, kR183_41, kR183_42, kR183_43, kR183_44, kL184, kA184, kS184, kL185, kA185, kS185, kL186, kA186, kS186, kL187, kA187, kS187, kL188, kA188, kS188, kL189, kL190, kL191, kA191, kS191, kL192, kA192, kS192, kL193, kA193, kS193, kL194, kA194, kS194, kL195, kA195, kS195, kL196, kA196, kS196, kL197, kA197, kS197, kL198, kA198, kS198, kL199, kA199, kS199, kL200, kA200, kS200, kL201, kL202, kA202, kS202, kL203, kA203, kS203, kL204, kA204, kS204, kL205, kL206, kA206, kS206, g1, q, h400]
    rw [nI_succ]
theorem must_g (hS : Shp τ) (hN : TN J0 b m N) (hF : GF J0 J) (hg : GR J b m t w) {k' w' : Nat} (hk' : k' ≤ 15) (h1 : k' ≠ 1) (h0 : k' ≠ 0) (hw4 : w ≠ 4) (hacc : dl w k' = some w') (hrej : tKd b m t ≠ k' → tKd b m t ≠ 0 → dl w (tKd b m t) = none) : ∃ J', f_X12_must (xw τ J) 183 (nI (kmN k')) = some (xw τ J') ∧ GF J0 J' ∧ (GR J' b m (t + 1) w' ∨ GB J' b m) := by
  have is := is12_ok (τ := τ) hS hN hF hg hk' h1
  by_cases hk : tKd b m t = k'
  · rw [if_pos hk] at is
    obtain ⟨J', p1, p2⟩ := passes_g (τ := τ) hS hN hF hg (by rw [hk]; exact h0) (by rw [hk]; exact hacc)
    refine ⟨J', ?_, p2⟩
    unfold f_X12_must
    simp (disch := first | assumption | omega) only [Option.bind_some, Option.map_some, xw_gR, xw_gN, xw_al, xw_ck, xw_uI, xw_ur, xup_at, xur_at, if_true, if_false, reduceIte, and_true, true_and, and_false, false_and, not_true_eq_false, not_false_eq_true, Nat.reduceEqDiff, eq_self, Nat.reduceAdd, Nat.reduceMul, kC1, kG1, kP1, kR1_0, kR1_1, kR1_2, kR1_3, kR1_4, kR1_5, kR1_6, kR1_7, kR1_8, kR1_9, kR1_10, kR1_11, kR1_12, kR1_13, kC2, kG2, kP2, kR2_0, kR2_1, kC3, kG3, kP3, kR3_0, kR3_1, kR3_2, kR3_3, kL4, kA4, kS4, kL5, kA5, kS5, kL6, kA6, kS6, kL7, kA7, kS7, kC8, kG8, kP8, kR8_0, kR8_1, kL9, kA9, kS9, kL10, kA10, kS10, kC11, kG11, kP11, kR11_0, kR11_1, kR11_2, kR11_3, kL12, kA12, kS12, kL13, kA13, kS13, kL14, kA14, kS14, kL15, kA15, kS15, kC16, kG16, kP16, kR16_0, kR16_1, kL17, kA17, kS17, kL18, kA18, kS18, kC19, kG19, kP19, kR19_0, kL20, kL141, kL146, kA146, kS146, kL151, kA151, kS151, kL156, kA156, kS156, kC157, kG157, kP157, kR157_0, kR157_1, kL158, kA158, kS158, kL159, kA159, kS159, kC161, kG161, kP161, kR161_0, kR161_1, kL162, kA162, kS162, kL163, kA163, kS163, kC165, kG165, kP165, kR165_0, kR165_1, kR165_2, kR165_3, kL166, kA166, kS166, kL167, kA167, kS167, kL168, kA168, kS168, kL169, kA169, kS169, kC170, kG170, kP170, kR170_0, kR170_1, kR170_2, kL171, kA171, kS171, kL172, kA172, kS172, kL173, kA173, kS173, kC174, kG174, kP174, kR174_0, kR174_1, kR174_2, kR174_3, kR174_4, kL175, kA175, kS175, kL176, kA176, kS176, kL177, kA177, kS177, kL178, kA178, kS178, kL179, kC180, kG180, kP180, kL181, kL182, kA182, kS182, kC183, kG183, kP183, kR183_1, kR183_3, kR183_5, kR183_6, kR183_7, kR183_8, kR183_9, kR183_21, kR183_26, kR183_27, kR183_30, kR183_31, kR183_33, kR183_34, kR183_36, kR183_37, kR183_38, kR183_39, kR183_40, kR183_41, kR183_42, kR183_43, kR183_44, kL184, kA184, kS184, kL185, kA185, kS185, kL186, kA186, kS186, kL187, kA187, kS187, kL188, kA188, kS188, kL189, kL190, kL191, kA191, kS191, kL192, kA192, kS192, kL193, kA193, kS193, kL194, kA194, kS194, kL195, kA195, kS195, kL196, kA196, kS196, kL197, kA197, kS197, kL198, kA198, kS198, kL199, kA199, kS199, kL200, kA200, kS200, kL201, kL202, kA202, kS202, kL203, kA203, kS203, kL204, kA204, kS204, kL205, kL206, kA206, kS206, is, one0, p1]
  · rw [if_neg hk] at is
    have fg := fail12_g (τ := τ) hS hN hF hg 1
    obtain ⟨z1, z2⟩ := GB_up (b := b) (m := m) (n := t) (r := 1) (pl := tSt b m t) hF (by omega) (by omega) ⟨w, hg.2.2.2, .inr (.inl ⟨rfl, rfl, hg.2.2.1, by
      by_cases k0 : tKd b m t = 0
      · exact .inl ⟨k0, hw4⟩
      · exact .inr ⟨k0, hrej hk k0⟩⟩)⟩
    refine ⟨_, ?_, z1, .inr z2⟩
    unfold f_X12_must
    simp (disch := first | assumption | omega) only [Option.bind_some, Option.map_some, xw_gR, xw_gN, xw_al, xw_ck, xw_uI, xw_ur, xup_at, xur_at, if_true, if_false, reduceIte, and_true, true_and, and_false, false_and, not_true_eq_false, not_false_eq_true, Nat.reduceEqDiff, eq_self, Nat.reduceAdd, Nat.reduceMul, kC1, kG1, kP1, kR1_0, kR1_1, kR1_2, kR1_3, kR1_4, kR1_5, kR1_6, kR1_7, kR1_8, kR1_9, kR1_10, kR1_11, kR1_12, kR1_13, kC2, kG2, kP2, kR2_0, kR2_1, kC3, kG3, kP3, kR3_0, kR3_1, kR3_2, kR3_3, kL4, kA4, kS4, kL5, kA5, kS5, kL6, kA6, kS6, kL7, kA7, kS7, kC8, kG8, kP8, kR8_0, kR8_1, kL9, kA9, kS9, kL10, kA10, kS10, kC11, kG11, kP11, kR11_0, kR11_1, kR11_2, kR11_3, kL12, kA12, kS12, kL13, kA13, kS13, kL14, kA14, kS14, kL15, kA15, kS15, kC16, kG16, kP16, kR16_0, kR16_1, kL17, kA17, kS17, kL18, kA18, kS18, kC19, kG19, kP19, kR19_0, kL20, kL141, kL146, kA146, kS146, kL151, kA151, kS151, kL156, kA156, kS156, kC157, kG157, kP157, kR157_0, kR157_1, kL158, kA158, kS158, kL159, kA159, kS159, kC161, kG161, kP161, kR161_0, kR161_1, kL162, kA162, kS162, kL163, kA163, kS163, kC165, kG165, kP165, kR165_0, kR165_1, kR165_2, kR165_3, kL166, kA166, kS166, kL167, kA167, kS167, kL168, kA168, kS168, kL169, kA169, kS169, kC170, kG170, kP170, kR170_0, kR170_1, kR170_2, kL171, kA171, kS171, kL172, kA172, kS172, kL173, kA173, kS173, kC174, kG174, kP174, kR174_0, kR174_1, kR174_2, kR174_3, kR174_4, kL175, kA175, kS175, kL176, kA176, kS176, kL177, kA177, kS177, kL178, kA178, kS178, kL179, kC180, kG180, kP180, kL181, kL182, kA182, kS182, kC183, kG183, kP183, kR183_1, kR183_3, kR183_5, kR183_6, kR183_7, kR183_8, kR183_9, kR183_21, kR183_26, kR183_27, kR183_30, kR183_31, kR183_33, kR183_34, kR183_36, kR183_37, kR183_38, kR183_39, kR183_40, kR183_41, kR183_42, kR183_43, kR183_44, kL184, kA184, kS184, kL185, kA185, kS185, kL186, kA186, kS186, kL187, kA187, kS187, kL188, kA188, kS188, kL189, kL190, kL191, kA191, kS191, kL192, kA192, kS192, kL193, kA193, kS193, kL194, kA194, kS194, kL195, kA195, kS195, kL196, kA196, kS196, kL197, kA197, kS197, kL198, kA198, kS198, kL199, kA199, kS199, kL200, kA200, kS200, kL201, kL202, kA202, kS202, kL203, kA203, kS203, kL204, kA204, kS204, kL205, kL206, kA206, kS206, is, fg]
    rfl
theorem must_b (hS : Shp τ) (hg : GB J b m) (x : Int32) : f_X12_must (xw τ J) 183 x = some (xw τ J) := by
  have is := is12_b (τ := τ) hS hg x
  have fb := fail12_b (τ := τ) hS hg 1
  unfold f_X12_must
  simp (disch := first | assumption | omega) only [Option.bind_some, Option.map_some, xw_gR, xw_gN, xw_al, xw_ck, xw_uI, xw_ur, xup_at, xur_at, if_true, if_false, reduceIte, and_true, true_and, and_false, false_and, not_true_eq_false, not_false_eq_true, Nat.reduceEqDiff, eq_self, Nat.reduceAdd, Nat.reduceMul, kC1, kG1, kP1, kR1_0, kR1_1, kR1_2, kR1_3, kR1_4, kR1_5, kR1_6, kR1_7, kR1_8, kR1_9, kR1_10, kR1_11, kR1_12, kR1_13, kC2, kG2, kP2, kR2_0, kR2_1, kC3, kG3, kP3, kR3_0, kR3_1, kR3_2, kR3_3, kL4, kA4, kS4, kL5, kA5, kS5, kL6, kA6, kS6, kL7, kA7, kS7, kC8, kG8, kP8, kR8_0, kR8_1, kL9, kA9, kS9, kL10, kA10, kS10, kC11, kG11, kP11, kR11_0, kR11_1, kR11_2, kR11_3, kL12, kA12, kS12, kL13, kA13, kS13, kL14, kA14, kS14, kL15, kA15, kS15, kC16, kG16, kP16, kR16_0, kR16_1, kL17, kA17, kS17, kL18, kA18, kS18, kC19, kG19, kP19, kR19_0, kL20, kL141, kL146, kA146, kS146, kL151, kA151, kS151, kL156, kA156, kS156, kC157, kG157, kP157, kR157_0, kR157_1, kL158, kA158, kS158, kL159, kA159, kS159, kC161, kG161, kP161, kR161_0, kR161_1, kL162, kA162, kS162, kL163, kA163, kS163, kC165, kG165, kP165, kR165_0, kR165_1, kR165_2, kR165_3, kL166, kA166, kS166, kL167, kA167, kS167, kL168, kA168, kS168, kL169, kA169, kS169, kC170, kG170, kP170, kR170_0, kR170_1, kR170_2, kL171, kA171, kS171, kL172, kA172, kS172, kL173, kA173, kS173, kC174, kG174, kP174, kR174_0, kR174_1, kR174_2, kR174_3, kR174_4, kL175, kA175, kS175, kL176, kA176, kS176, kL177, kA177, kS177, kL178, kA178, kS178, kL179, kC180, kG180, kP180, kL181, kL182, kA182, kS182, kC183, kG183, kP183, kR183_1, kR183_3, kR183_5, kR183_6, kR183_7, kR183_8, kR183_9, kR183_21, kR183_26, kR183_27, kR183_30, kR183_31, kR183_33, kR183_34, kR183_36, kR183_37, kR183_38, kR183_39, kR183_40, kR183_41, kR183_42, kR183_43, kR183_44, kL184, kA184, kS184, kL185, kA185, kS185, kL186, kA186, kS186, kL187, kA187, kS187, kL188, kA188, kS188, kL189, kL190, kL191, kA191, kS191, kL192, kA192, kS192, kL193, kA193, kS193, kL194, kA194, kS194, kL195, kA195, kS195, kL196, kA196, kS196, kL197, kA197, kS197, kL198, kA198, kS198, kL199, kA199, kS199, kL200, kA200, kS200, kL201, kL202, kA202, kS202, kL203, kA203, kS203, kL204, kA204, kS204, kL205, kL206, kA206, kS206, is, fb]
theorem must_s (hS : Shp τ) (hN : TN J0 b m N) {lo : Nat} (hs : ST J0 J b m lo w) {k' w' : Nat} (hk' : k' ≤ 15) (h1 : k' ≠ 1) (h0 : k' ≠ 0) (hw4 : w ≠ 4) (hacc : dl w k' = some w') (hrej : ∀ k, k < 16 → k ≠ k' → dl w k = none) : ∃ J', f_X12_must (xw τ J) 183 (nI (kmN k')) = some (xw τ J') ∧ ST J0 J' b m (lo + 1) w' := by
  obtain ⟨hF, ⟨t, ht, hg⟩ | hb⟩ := hs
  · obtain ⟨J', e, f, q | q⟩ := must_g (τ := τ) hS hN hF hg hk' h1 h0 hw4 hacc (fun z1 z2 => hrej _ (by have := tKd_b (b := b) (m := m) t; omega) z1)
    · exact ⟨J', e, f, .inl ⟨t + 1, by omega, q⟩⟩
    · exact ⟨J', e, f, .inr q⟩
  · exact ⟨J, must_b hS hb _, hF, .inr hb⟩
theorem mustJ_s (hS : Shp τ) (hN : TN J0 b m N) {lo : Nat} (hs : ST J0 J b m lo 5) : ∃ J', f_X12_mustJ (xw τ J) 183 = some (xw τ J') ∧ ST J0 J' b m (lo + 1) 3 := by
  have j12 : ∀ {J1 : Nat → Nat → Int32} {z : XS}, f_X12_must (xw τ J1) 183 (2 : Int32) = some z → f_X12_mustJ_j12 (xw τ J1) 183 = some z := by
    intro J1 z hz
    unfold f_X12_mustJ_j12
    rw [xw_ck, kC183 hS, Option.bind_some, hz, Option.bind_some]
  obtain ⟨hF, ⟨t, ht, hg⟩ | hb⟩ := hs
  · have is := is12_ok (τ := τ) hS hN hF hg (k' := 3) (by omega) (by omega)
    by_cases hk : tKd b m t = 3
    · rw [if_pos hk] at is
      have is : f_X12_is (xw τ J) 183 (5 : Int32) = some 1 := is
      obtain ⟨J1, p1, p2, p3⟩ := passes_g (τ := τ) hS hN hF hg (by omega) (w' := 6) (by rw [hk]; rfl)
      obtain ⟨J2, e2, s2⟩ := must_s (τ := τ) (J := J1) (lo := lo + 1) hS hN (w := 6) ⟨p2, by
        rcases p3 with q | q
        · exact .inl ⟨t + 1, by omega, q⟩
        · exact .inr q⟩ (k' := 2) (w' := 3) (by omega) (by omega) (by omega) (by omega) rfl (by decide)
      refine ⟨J2, ?_, s2.1, ?_⟩
      · unfold f_X12_mustJ
        simp (disch := first | assumption | omega) only [Option.bind_some, Option.map_some, xw_gR, xw_gN, xw_al, xw_ck, xw_uI, xw_ur, xup_at, xur_at, if_true, if_false, reduceIte, and_true, true_and, and_false, false_and, not_true_eq_false, not_false_eq_true, Nat.reduceEqDiff, eq_self, Nat.reduceAdd, Nat.reduceMul, kC1, kG1, kP1, kR1_0, kR1_1, kR1_2, kR1_3, kR1_4, kR1_5, kR1_6, kR1_7, kR1_8, kR1_9, kR1_10, kR1_11, kR1_12, kR1_13, kC2, kG2, kP2, kR2_0, kR2_1, kC3, kG3, kP3, kR3_0, kR3_1, kR3_2, kR3_3, kL4, kA4, kS4, kL5, kA5, kS5, kL6, kA6, kS6, kL7, kA7, kS7, kC8, kG8, kP8, kR8_0, kR8_1, kL9, kA9, kS9, kL10, kA10, kS10, kC11, kG11, kP11, kR11_0, kR11_1, kR11_2, kR11_3, kL12, kA12, kS12, kL13, kA13, kS13, kL14, kA14, kS14, kL15, kA15, kS15, kC16, kG16, kP16, kR16_0, kR16_1, kL17, kA17, kS17, kL18, kA18, kS18, kC19, kG19, kP19, kR19_0, kL20, kL141, kL146, kA146, kS146, kL151, kA151, kS151, kL156, kA156, kS156, kC157, kG157, kP157, kR157_0, kR157_1, kL158, kA158, kS158, kL159, kA159, kS159, kC161, kG161, kP161, kR161_0, kR161_1, kL162, kA162, kS162, kL163, kA163, kS163, kC165, kG165, kP165, kR165_0, kR165_1, kR165_2, kR165_3, kL166, kA166, kS166, kL167, kA167, kS167, kL168, kA168, kS168, kL169, kA169, kS169, kC170, kG170, kP170, kR170_0, kR170_1, kR170_2, kL171, kA171, kS171, kL172, kA172, kS172, kL173, kA173, kS173, kC174, kG174, kP174, kR174_0, kR174_1, kR174_2, kR174_3, kR174_4, kL175, kA175, kS175, kL176, kA176, kS176, kL177, kA177, kS177, kL178, kA178, kS178, kL179, kC180, kG180, kP180, kL181, kL182, kA182, kS182, kC183, kG183, kP183, kR183_1, kR183_3, kR183_5, kR183_6, kR183_7, kR183_8, kR183_9, kR183_21, kR183_26, kR183_27, kR183_30, kR183_31, kR183_33, kR183_34, kR183_36, kR183_37, kR183_38, kR183_39, kR183_40, kR183_41, kR183_42, kR183_43, kR183_44, kL184, kA184, kS184, kL185, kA185, kS185, kL186, kA186, kS186, kL187, kA187, kS187, kL188, kA188, kS188, kL189, kL190, kL191, kA191, kS191, kL192, kA192, kS192, kL193, kA193, kS193, kL194, kA194, kS194, kL195, kA195, kS195, kL196, kA196, kS196, kL197, kA197, kS197, kL198, kA198, kS198, kL199, kA199, kS199, kL200, kA200, kS200, kL201, kL202, kA202, kS202, kL203, kA203, kS203, kL204, kA204, kS204, kL205, kL206, kA206, kS206, is, one0, p1]
        exact j12 e2
      · rcases s2.2 with ⟨t', ht', q⟩ | q
        · exact .inl ⟨t', by omega, q⟩
        · exact .inr q
    · rw [if_neg hk] at is
      have is : f_X12_is (xw τ J) 183 (5 : Int32) = some 0 := is
      obtain ⟨J', e, f, q⟩ := must_g (τ := τ) hS hN hF hg (k' := 2) (w' := 3) (by omega) (by omega) (by omega) (by omega) rfl (fun z1 z2 => by
        have kb := tKd_b (b := b) (m := m) t
        have d5 : ∀ k, k < 16 → k ≠ 2 → k ≠ 3 → dl 5 k = none := by decide
        exact d5 _ (by omega) z1 hk)
      refine ⟨J', ?_, f, ?_⟩
      · unfold f_X12_mustJ
        simp (disch := first | assumption | omega) only [Option.bind_some, Option.map_some, xw_gR, xw_gN, xw_al, xw_ck, xw_uI, xw_ur, xup_at, xur_at, if_true, if_false, reduceIte, and_true, true_and, and_false, false_and, not_true_eq_false, not_false_eq_true, Nat.reduceEqDiff, eq_self, Nat.reduceAdd, Nat.reduceMul, kC1, kG1, kP1, kR1_0, kR1_1, kR1_2, kR1_3, kR1_4, kR1_5, kR1_6, kR1_7, kR1_8, kR1_9, kR1_10, kR1_11, kR1_12, kR1_13, kC2, kG2, kP2, kR2_0, kR2_1, kC3, kG3, kP3, kR3_0, kR3_1, kR3_2, kR3_3, kL4, kA4, kS4, kL5, kA5, kS5, kL6, kA6, kS6, kL7, kA7, kS7, kC8, kG8, kP8, kR8_0, kR8_1, kL9, kA9, kS9, kL10, kA10, kS10, kC11, kG11, kP11, kR11_0, kR11_1, kR11_2, kR11_3, kL12, kA12, kS12, kL13, kA13, kS13, kL14, kA14, kS14, kL15, kA15, kS15, kC16, kG16, kP16, kR16_0, kR16_1, kL17, kA17, kS17, kL18, kA18, kS18, kC19, kG19, kP19, kR19_0, kL20, kL141, kL146, kA146, kS146, kL151, kA151, kS151, kL156, kA156, kS156, kC157, kG157, kP157, kR157_0, kR157_1, kL158, kA158, kS158, kL159, kA159, kS159, kC161, kG161, kP161, kR161_0, kR161_1, kL162, kA162, kS162, kL163, kA163, kS163, kC165, kG165, kP165, kR165_0, kR165_1, kR165_2, kR165_3, kL166, kA166, kS166, kL167, kA167, kS167, kL168, kA168, kS168, kL169, kA169, kS169, kC170, kG170, kP170, kR170_0, kR170_1, kR170_2, kL171, kA171, kS171, kL172, kA172, kS172, kL173, kA173, kS173, kC174, kG174, kP174, kR174_0, kR174_1, kR174_2, kR174_3, kR174_4, kL175, kA175, kS175, kL176, kA176, kS176, kL177, kA177, kS177, kL178, kA178, kS178, kL179, kC180, kG180, kP180, kL181, kL182, kA182, kS182, kC183, kG183, kP183, kR183_1, kR183_3, kR183_5, kR183_6, kR183_7, kR183_8, kR183_9, kR183_21, kR183_26, kR183_27, kR183_30, kR183_31, kR183_33, kR183_34, kR183_36, kR183_37, kR183_38, kR183_39, kR183_40, kR183_41, kR183_42, kR183_43, kR183_44, kL184, kA184, kS184, kL185, kA185, kS185, kL186, kA186, kS186, kL187, kA187, kS187, kL188, kA188, kS188, kL189, kL190, kL191, kA191, kS191, kL192, kA192, kS192, kL193, kA193, kS193, kL194, kA194, kS194, kL195, kA195, kS195, kL196, kA196, kS196, kL197, kA197, kS197, kL198, kA198, kS198, kL199, kA199, kS199, kL200, kA200, kS200, kL201, kL202, kA202, kS202, kL203, kA203, kS203, kL204, kA204, kS204, kL205, kL206, kA206, kS206, is]
        exact j12 e
      · rcases q with q | q
        · exact .inl ⟨t + 1, by omega, q⟩
        · exact .inr q
  · refine ⟨J, ?_, hF, .inr hb⟩
    unfold f_X12_mustJ
    have is := is12_b (τ := τ) hS hb 5
    simp (disch := first | assumption | omega) only [Option.bind_some, Option.map_some, xw_gR, xw_gN, xw_al, xw_ck, xw_uI, xw_ur, xup_at, xur_at, if_true, if_false, reduceIte, and_true, true_and, and_false, false_and, not_true_eq_false, not_false_eq_true, Nat.reduceEqDiff, eq_self, Nat.reduceAdd, Nat.reduceMul, kC1, kG1, kP1, kR1_0, kR1_1, kR1_2, kR1_3, kR1_4, kR1_5, kR1_6, kR1_7, kR1_8, kR1_9, kR1_10, kR1_11, kR1_12, kR1_13, kC2, kG2, kP2, kR2_0, kR2_1, kC3, kG3, kP3, kR3_0, kR3_1, kR3_2, kR3_3, kL4, kA4, kS4, kL5, kA5, kS5, kL6, kA6, kS6, kL7, kA7, kS7, kC8, kG8, kP8, kR8_0, kR8_1, kL9, kA9, kS9, kL10, kA10, kS10, kC11, kG11, kP11, kR11_0, kR11_1, kR11_2, kR11_3, kL12, kA12, kS12, kL13, kA13, kS13, kL14, kA14, kS14, kL15, kA15, kS15, kC16, kG16, kP16, kR16_0, kR16_1, kL17, kA17, kS17, kL18, kA18, kS18, kC19, kG19, kP19, kR19_0, kL20, kL141, kL146, kA146, kS146, kL151, kA151, kS151, kL156, kA156, kS156, kC157, kG157, kP157, kR157_0, kR157_1, kL158, kA158, kS158, kL159, kA159, kS159, kC161, kG161, kP161, kR161_0, kR161_1, kL162, kA162, kS162, kL163, kA163, kS163, kC165, kG165, kP165, kR165_0, kR165_1, kR165_2, kR165_3, kL166, kA166, kS166, kL167, kA167, kS167, kL168, kA168, kS168, kL169, kA169, kS169, kC170, kG170, kP170, kR170_0, kR170_1, kR170_2, kL171, kA171, kS171, kL172, kA172, kS172, kL173, kA173, kS173, kC174, kG174, kP174, kR174_0, kR174_1, kR174_2, kR174_3, kR174_4, kL175, kA175, kS175, kL176, kA176, kS176, kL177, kA177, kS177, kL178, kA178, kS178, kL179, kC180, kG180, kP180, kL181, kL182, kA182, kS182, kC183, kG183, kP183, kR183_1, kR183_3, kR183_5, kR183_6, kR183_7, kR183_8, kR183_9, kR183_21, kR183_26, kR183_27, kR183_30, kR183_31, kR183_33, kR183_34, kR183_36, kR183_37, kR183_38, kR183_39, kR183_40, kR183_41, kR183_42, kR183_43, kR183_44, kL184, kA184, kS184, kL185, kA185, kS185, kL186, kA186, kS186, kL187, kA187, kS187, kL188, kA188, kS188, kL189, kL190, kL191, kA191, kS191, kL192, kA192, kS192, kL193, kA193, kS193, kL194, kA194, kS194, kL195, kA195, kS195, kL196, kA196, kS196, kL197, kA197, kS197, kL198, kA198, kS198, kL199, kA199, kS199, kL200, kA200, kS200, kL201, kL202, kA202, kS202, kL203, kA203, kS203, kL204, kA204, kS204, kL205, kL206, kA206, kS206, is]
    exact j12 (must_b hS hb 2)
/-- one of two words -/
theorem must2_s (hS : Shp τ) (hN : TN J0 b m N) {lo : Nat} {k1 k2 w' : Nat} (hs : ST J0 J b m lo w) (hk1 : k1 ≤ 15) (hk2 : k2 ≤ 15) (h1 : 2 ≤ k1) (h2 : 2 ≤ k2) (hw4 : w ≠ 4) (d1 : dl w k1 = some w') (d2 : dl w k2 = some w') (hrej : ∀ k, k < 16 → k ≠ k1 → k ≠ k2 → dl w k = none) :
    ∃ J', ((f_X12_is (xw τ J) 183 (nI (kmN k1)) = some 1 ∧ f_X12_passes (xw τ J) 183 = some (xw τ J')) ∨ (f_X12_is (xw τ J) 183 (nI (kmN k1)) = some 0 ∧ f_X12_must (xw τ J) 183 (nI (kmN k2)) = some (xw τ J'))) ∧ ST J0 J' b m (lo + 1) w' := by
  obtain ⟨hF, ⟨t, ht, hg⟩ | hb⟩ := hs
  · have is := is12_ok (τ := τ) hS hN hF hg hk1 (by omega)
    by_cases hk : tKd b m t = k1
    · rw [if_pos hk] at is
      obtain ⟨J1, p1, p2, p3⟩ := passes_g (τ := τ) hS hN hF hg (by omega) (w' := w') (by rw [hk]; exact d1)
      refine ⟨J1, .inl ⟨is, p1⟩, p2, ?_⟩
      rcases p3 with q | q
      · exact .inl ⟨t + 1, by omega, q⟩
      · exact .inr q
    · rw [if_neg hk] at is
      obtain ⟨J', e, f, q⟩ := must_g (τ := τ) hS hN hF hg hk2 (by omega) (by omega) hw4 d2 (fun z1 z2 => hrej _ (by have := tKd_b (b := b) (m := m) t; omega) hk z1)
      refine ⟨J', .inr ⟨is, e⟩, f, ?_⟩
      rcases q with q | q
      · exact .inl ⟨t + 1, by omega, q⟩
      · exact .inr q
  · exact ⟨J, .inr ⟨is12_b hS hb _, must_b hS hb _⟩, hF, .inr hb⟩
theorem mustWay_s (hS : Shp τ) (hN : TN J0 b m N) {lo w' : Nat} (hs : ST J0 J b m lo w) (hw4 : w ≠ 4) (d1 : dl w 6 = some w') (d2 : dl w 7 = some w') (hrej : ∀ k, k < 16 → k ≠ 6 → k ≠ 7 → dl w k = none) : ∃ J', f_X12_mustWay (xw τ J) 183 = some (xw τ J') ∧ ST J0 J' b m (lo + 1) w' := by
  obtain ⟨J', h, s⟩ := must2_s (τ := τ) hS hN hs (k1 := 6) (k2 := 7) (by omega) (by omega) (by omega) (by omega) hw4 d1 d2 hrej
  refine ⟨J', ?_, s⟩
  unfold f_X12_mustWay
  rcases h with ⟨a1, a2⟩ | ⟨a1, a2⟩
  · have a1 : f_X12_is (xw τ J) 183 (21 : Int32) = some 1 := a1
    simp (disch := first | assumption | omega) only [Option.bind_some, Option.map_some, xw_gR, xw_gN, xw_al, xw_ck, xw_uI, xw_ur, xup_at, xur_at, if_true, if_false, reduceIte, and_true, true_and, and_false, false_and, not_true_eq_false, not_false_eq_true, Nat.reduceEqDiff, eq_self, Nat.reduceAdd, Nat.reduceMul, kC1, kG1, kP1, kR1_0, kR1_1, kR1_2, kR1_3, kR1_4, kR1_5, kR1_6, kR1_7, kR1_8, kR1_9, kR1_10, kR1_11, kR1_12, kR1_13, kC2, kG2, kP2, kR2_0, kR2_1, kC3, kG3, kP3, kR3_0, kR3_1, kR3_2, kR3_3, kL4, kA4, kS4, kL5, kA5, kS5, kL6, kA6, kS6, kL7, kA7, kS7, kC8, kG8, kP8, kR8_0, kR8_1, kL9, kA9, kS9, kL10, kA10, kS10, kC11, kG11, kP11, kR11_0, kR11_1, kR11_2, kR11_3, kL12, kA12, kS12, kL13, kA13, kS13, kL14, kA14, kS14, kL15, kA15, kS15, kC16, kG16, kP16, kR16_0, kR16_1, kL17, kA17, kS17, kL18, kA18, kS18, kC19, kG19, kP19, kR19_0, kL20, kL141, kL146, kA146, kS146, kL151, kA151, kS151, kL156, kA156, kS156, kC157, kG157, kP157, kR157_0, kR157_1, kL158, kA158, kS158, kL159, kA159, kS159, kC161, kG161, kP161, kR161_0, kR161_1, kL162, kA162, kS162, kL163, kA163, kS163, kC165, kG165, kP165, kR165_0, kR165_1, kR165_2, kR165_3, kL166, kA166, kS166, kL167, kA167, kS167, kL168, kA168, kS168, kL169, kA169, kS169, kC170, kG170, kP170, kR170_0, kR170_1, kR170_2, kL171, kA171, kS171, kL172, kA172, kS172, kL173, kA173, kS173, kC174, kG174, kP174, kR174_0, kR174_1, kR174_2, kR174_3, kR174_4, kL175, kA175, kS175, kL176, kA176, kS176, kL177, kA177, kS177, kL178, kA178, kS178, kL179, kC180, kG180, kP180, kL181, kL182, kA182, kS182, kC183, kG183, kP183, kR183_1, kR183_3, kR183_5, kR183_6, kR183_7, kR183_8, kR183_9, kR183_21, kR183_26, kR183_27, kR183_30, kR183_31, kR183_33, kR183_34, kR183_36, kR183_37, kR183_38, kR183_39, kR183_40, kR183_41, kR183_42, kR183_43, kR183_44, kL184, kA184, kS184, kL185, kA185, kS185, kL186, kA186, kS186, kL187, kA187, kS187, kL188, kA188, kS188, kL189, kL190, kL191, kA191, kS191, kL192, kA192, kS192, kL193, kA193, kS193, kL194, kA194, kS194, kL195, kA195, kS195, kL196, kA196, kS196, kL197, kA197, kS197, kL198, kA198, kS198, kL199, kA199, kS199, kL200, kA200, kS200, kL201, kL202, kA202, kS202, kL203, kA203, kS203, kL204, kA204, kS204, kL205, kL206, kA206, kS206, a1, one0, a2]
  · have a1 : f_X12_is (xw τ J) 183 (21 : Int32) = some 0 := a1
    have a2 : f_X12_must (xw τ J) 183 (22 : Int32) = some (xw τ J') := a2
    simp (disch := first | assumption | omega) only [Option.bind_some, Option.map_some, xw_gR, xw_gN, xw_al, xw_ck, xw_uI, xw_ur, xup_at, xur_at, if_true, if_false, reduceIte, and_true, true_and, and_false, false_and, not_true_eq_false, not_false_eq_true, Nat.reduceEqDiff, eq_self, Nat.reduceAdd, Nat.reduceMul, kC1, kG1, kP1, kR1_0, kR1_1, kR1_2, kR1_3, kR1_4, kR1_5, kR1_6, kR1_7, kR1_8, kR1_9, kR1_10, kR1_11, kR1_12, kR1_13, kC2, kG2, kP2, kR2_0, kR2_1, kC3, kG3, kP3, kR3_0, kR3_1, kR3_2, kR3_3, kL4, kA4, kS4, kL5, kA5, kS5, kL6, kA6, kS6, kL7, kA7, kS7, kC8, kG8, kP8, kR8_0, kR8_1, kL9, kA9, kS9, kL10, kA10, kS10, kC11, kG11, kP11, kR11_0, kR11_1, kR11_2, kR11_3, kL12, kA12, kS12, kL13, kA13, kS13, kL14, kA14, kS14, kL15, kA15, kS15, kC16, kG16, kP16, kR16_0, kR16_1, kL17, kA17, kS17, kL18, kA18, kS18, kC19, kG19, kP19, kR19_0, kL20, kL141, kL146, kA146, kS146, kL151, kA151, kS151, kL156, kA156, kS156, kC157, kG157, kP157, kR157_0, kR157_1, kL158, kA158, kS158, kL159, kA159, kS159, kC161, kG161, kP161, kR161_0, kR161_1, kL162, kA162, kS162, kL163, kA163, kS163, kC165, kG165, kP165, kR165_0, kR165_1, kR165_2, kR165_3, kL166, kA166, kS166, kL167, kA167, kS167, kL168, kA168, kS168, kL169, kA169, kS169, kC170, kG170, kP170, kR170_0, kR170_1, kR170_2, kL171, kA171, kS171, kL172, kA172, kS172, kL173, kA173, kS173, kC174, kG174, kP174, kR174_0, kR174_1, kR174_2, kR174_3, kR174_4, kL175, kA175, kS175, kL176, kA176, kS176, kL177, kA177, kS177, kL178, kA178, kS178, kL179, kC180, kG180, kP180, kL181, kL182, kA182, kS182, kC183, kG183, kP183, kR183_1, kR183_3, kR183_5, kR183_6, kR183_7, kR183_8, kR183_9, kR183_21, kR183_26, kR183_27, kR183_30, kR183_31, kR183_33, kR183_34, kR183_36, kR183_37, kR183_38, kR183_39, kR183_40, kR183_41, kR183_42, kR183_43, kR183_44, kL184, kA184, kS184, kL185, kA185, kS185, kL186, kA186, kS186, kL187, kA187, kS187, kL188, kA188, kS188, kL189, kL190, kL191, kA191, kS191, kL192, kA192, kS192, kL193, kA193, kS193, kL194, kA194, kS194, kL195, kA195, kS195, kL196, kA196, kS196, kL197, kA197, kS197, kL198, kA198, kS198, kL199, kA199, kS199, kL200, kA200, kS200, kL201, kL202, kA202, kS202, kL203, kA203, kS203, kL204, kA204, kS204, kL205, kL206, kA206, kS206, a1, a2]
theorem line_j (hS : Shp τ) (hN : TN J0 b m N) {lo : Nat} (hs : ST J0 J b m lo 3) : ∃ J', f_X12_line_j174 (xw τ J) 183 = some (xw τ J') ∧ ST J0 J' b m (lo + 1) 4 := by
  obtain ⟨J', e, s⟩ := must_s (τ := τ) hS hN hs (k' := 4) (w' := 4) (by omega) (by omega) (by omega) (by omega) rfl (by decide)
  have e : f_X12_must (xw τ J) 183 (4 : Int32) = some (xw τ J') := e
  refine ⟨J', ?_, s⟩
  unfold f_X12_line_j174
  simp (disch := first | assumption | omega) only [Option.bind_some, Option.map_some, xw_gR, xw_gN, xw_al, xw_ck, xw_uI, xw_ur, xup_at, xur_at, if_true, if_false, reduceIte, and_true, true_and, and_false, false_and, not_true_eq_false, not_false_eq_true, Nat.reduceEqDiff, eq_self, Nat.reduceAdd, Nat.reduceMul, kC1, kG1, kP1, kR1_0, kR1_1, kR1_2, kR1_3, kR1_4, kR1_5, kR1_6, kR1_7, kR1_8, kR1_9, kR1_10, kR1_11, kR1_12, kR1_13, kC2, kG2, kP2, kR2_0, kR2_1, kC3, kG3, kP3, kR3_0, kR3_1, kR3_2, kR3_3, kL4, kA4, kS4, kL5, kA5, kS5, kL6, kA6, kS6, kL7, kA7, kS7, kC8, kG8, kP8, kR8_0, kR8_1, kL9, kA9, kS9, kL10, kA10, kS10, kC11, kG11, kP11, kR11_0, kR11_1, kR11_2, kR11_3, kL12, kA12, kS12, kL13, kA13, kS13, kL14, kA14, kS14, kL15, kA15, kS15, kC16, kG16, kP16, kR16_0, kR16_1, kL17, kA17, kS17, kL18, kA18, kS18, kC19, kG19, kP19, kR19_0, kL20, kL141, kL146, kA146, kS146, kL151, kA151, kS151, kL156, kA156, kS156, kC157, kG157, kP157, kR157_0, kR157_1, kL158, kA158, kS158, kL159, kA159, kS159, kC161, kG161, kP161, kR161_0, kR161_1, kL162, kA162, kS162, kL163, kA163, kS163, kC165, kG165, kP165, kR165_0, kR165_1, kR165_2, kR165_3, kL166, kA166, kS166, kL167, kA167, kS167, kL168, kA168, kS168, kL169, kA169, kS169, kC170, kG170, kP170, kR170_0, kR170_1, kR170_2, kL171, kA171, kS171, kL172, kA172, kS172, kL173, kA173, kS173, kC174, kG174, kP174, kR174_0, kR174_1, kR174_2, kR174_3, kR174_4, kL175, kA175, kS175, kL176, kA176, kS176, kL177, kA177, kS177, kL178, kA178, kS178, kL179, kC180, kG180, kP180, kL181, kL182, kA182, kS182, kC183, kG183, kP183, kR183_1, kR183_3, kR183_5, kR183_6, kR183_7, kR183_8, kR183_9, kR183_21, kR183_26, kR183_27, kR183_30, kR183_31, kR183_33, kR183_34, kR183_36, kR183_37, kR183_38, kR183_39, kR183_40, kR183_41, kR183_42, kR183_43, kR183_44, kL184, kA184, kS184, kL185, kA185, kS185, kL186, kA186, kS186, kL187, kA187, kS187, kL188, kA188, kS188, kL189, kL190, kL191, kA191, kS191, kL192, kA192, kS192, kL193, kA193, kS193, kL194, kA194, kS194, kL195, kA195, kS195, kL196, kA196, kS196, kL197, kA197, kS197, kL198, kA198, kS198, kL199, kA199, kS199, kL200, kA200, kS200, kL201, kL202, kA202, kS202, kL203, kA203, kS203, kL204, kA204, kS204, kL205, kL206, kA206, kS206, e]
theorem xsw21 {β : Type} {k : Nat} {as : List (Option β)} {d : Option β} (hk : k < 2147483648) : xsw (nI k) 21 as d = if k < 21 then d else as.getD (k - 21) d := by
  unfold xsw
  rw [nI_toInt hk]
  by_cases h : k < 21
  · rw [if_pos (by omega), if_pos h]
  · rw [if_neg (by omega), if_neg h, show ((k : Int) - 21).toNat = k - 21 by omega, List.getD_eq_getElem?_getD]
theorem line_g (hS : Shp τ) (hN : TN J0 b m N) (hF : GF J0 J) (hg : GR J b m t 4) (hk0 : tKd b m t ≠ 0) : ∃ J', f_X12_line (xw τ J) 183 = some (xw τ J') ∧ ST J0 J' b m (t + 1) 4 := by
  have ht := GR_N hN hg
  have kb := tKd_b (b := b) (m := m) t
  have km := (hN.2.2.1 t ht).1
  have hN1 := hN.1
  have t403 : t < 403 := by omega
  have v6 : J 186 t = J0 186 t := hF _ _ (by omega)
  have g1 := hg.1
  -- a line that can't be
  have bad : dl 4 (tKd b m t) = none → ∃ J', f_X12_fail (xw τ J) 183 (1 : Int32) = some (xw τ J') ∧ ST J0 J' b m (t + 1) 4 := fun hd => by
    obtain ⟨z1, z2⟩ := GB_up (b := b) (m := m) (n := t) (r := 1) (pl := tSt b m t) hF (by omega) (by omega) ⟨4, hg.2.2.2, .inr (.inl ⟨rfl, rfl, hg.2.2.1, .inr ⟨hk0, hd⟩⟩)⟩
    exact ⟨_, fail12_g hS hN hF hg 1, z1, .inr z2⟩
  have ps : ∀ w', dl 4 (tKd b m t) = some w' → ∃ J1, f_X12_passes (xw τ J) 183 = some (xw τ J1) ∧ ST J0 J1 b m (t + 1) w' := fun w' hd => by
    obtain ⟨J1, p1, p2, p3⟩ := passes_g (τ := τ) hS hN hF hg hk0 hd
    refine ⟨J1, p1, p2, ?_⟩
    rcases p3 with q | q
    · exact .inl ⟨t + 1, by omega, q⟩
    · exact .inr q
  have lower : ∀ {J1 : Nat → Nat → Int32} {lo w : Nat}, t + 1 ≤ lo → ST J0 J1 b m lo w → ST J0 J1 b m (t + 1) w := fun h1 h2 => ⟨h2.1, h2.2.elim (fun ⟨t', q1, q2⟩ => .inl ⟨t', by omega, q2⟩) .inr⟩
  have start : ∀ z, (∀ v, J0 186 t = v → xsw v 21 [(xck (xw τ J) 183 12).bind fun _ => (f_X12_passes (xw τ J) 183).bind fun σ9 => (xck σ9 183 12).bind fun _ => (f_X12_mustJ σ9 183).bind fun σ12 => f_X12_line_j174 σ12 183, (xck (xw τ J) 183 12).bind fun _ => (f_X12_passes (xw τ J) 183).bind fun σ9 => (xck σ9 183 12).bind fun _ => (f_X12_mustJ σ9 183).bind fun σ12 => f_X12_line_j174 σ12 183, (xck (xw τ J) 183 12).bind fun _ => (f_X12_passes (xw τ J) 183).bind fun σ9 => (xck σ9 183 12).bind fun _ => (f_X12_mustJ σ9 183).bind fun σ12 => f_X12_line_j174 σ12 183, (xck (xw τ J) 183 12).bind fun _ => (f_X12_passes (xw τ J) 183).bind fun σ9 => (xck σ9 183 12).bind fun _ => (f_X12_mustWay σ9 183).bind fun σ12 => f_X12_line_j174 σ12 183, (xck (xw τ J) 183 12).bind fun _ => (f_X12_passes (xw τ J) 183).bind fun σ9 => (xck σ9 183 12).bind fun _ => (f_X12_must σ9 183 (2 : Int32)).bind fun σ12 => (xck σ12 183 12).bind fun _ => (f_X12_mustWay σ12 183).bind fun σ15 => (xck σ15 183 12).bind fun _ => (f_X12_mustJ σ15 183).bind fun σ18 => f_X12_line_j174 σ18 183, (xck (xw τ J) 183 12).bind fun _ => (f_X12_passes (xw τ J) 183).bind fun σ9 => (xck σ9 183 12).bind fun _ => (f_X12_must σ9 183 (2 : Int32)).bind fun σ12 => (xck σ12 183 12).bind fun _ => (f_X12_mustJ σ12 183).bind fun σ15 => f_X12_line_j174 σ15 183, (xck (xw τ J) 183 12).bind fun _ => (f_X12_passes (xw τ J) 183).bind fun σ9 => (xck σ9 183 12).bind fun _ => (f_X12_must σ9 183 (2 : Int32)).bind fun σ12 => (xck σ12 183 12).bind fun _ => (f_X12_is σ12 183 (28 : Int32)).bind fun v15 => if v15 = 0 then ((xck σ12 183 12).bind fun _ => (f_X12_must σ12 183 (29 : Int32)).bind fun σ18 => f_X12_line_j174 σ18 183) else (xck σ12 183 12).bind fun _ => (f_X12_passes σ12 183).bind fun σ18 => f_X12_line_j174 σ18 183, (xck (xw τ J) 183 12).bind fun _ => (f_X12_fail (xw τ J) 183 (1 : Int32)).bind fun σ9 => some σ9, (xck (xw τ J) 183 12).bind fun _ => (f_X12_fail (xw τ J) 183 (1 : Int32)).bind fun σ9 => some σ9, (xck (xw τ J) 183 12).bind fun _ => (f_X12_passes (xw τ J) 183).bind fun σ9 => (xck σ9 183 12).bind fun _ => (f_X12_must σ9 183 (2 : Int32)).bind fun σ12 => f_X12_line_j174 σ12 183] ((xck (xw τ J) 183 12).bind fun _ => (f_X12_fail (xw τ J) 183 (1 : Int32)).bind fun σ9 => some σ9) = z) → f_X12_line (xw τ J) 183 = z := by
    intro z hz
    rw [← hz _ rfl]
    unfold f_X12_line
    rw [xw_gR, kR183_5 hS, Option.bind_some, kG183 hS, Option.bind_some, g1, kA186 hS t403, Option.bind_some, v6]
  -- the kinds in the model's numbers
  have kv : tKd b m t ≠ 1 → J0 186 t = nI (kmN (tKd b m t)) := fun h => by
    rcases km with ⟨z, -⟩ | ⟨-, z⟩
    · exact absurd z h
    · exact z
  rcases (show tKd b m t ≤ 5 ∨ (6 ≤ tKd b m t ∧ tKd b m t ≤ 8) ∨ tKd b m t = 9 ∨ tKd b m t = 10 ∨ tKd b m t = 11 ∨ tKd b m t = 12 ∨ tKd b m t = 13 ∨ tKd b m t = 14 ∨ tKd b m t = 15 by omega) with h | h | h | h | h | h | h | h | h
  · have hd : dl 4 (tKd b m t) = none := by
      have d4 : ∀ k, k < 6 → dl 4 k = none := by decide
      exact d4 _ (by omega)
    obtain ⟨J', e, s⟩ := bad hd
    refine ⟨J', start _ (fun v hv => ?_), s⟩
    have e' : ((xck (xw τ J) 183 12).bind fun _ => (f_X12_fail (xw τ J) 183 (1 : Int32)).bind fun σ9 => some σ9) = some (xw τ J') := by rw [xw_ck, kC183 hS, Option.bind_some, e, Option.bind_some]
    have small : ∃ k, k < 21 ∧ v = nI k := by
      rcases km with ⟨-, z | z⟩ | ⟨z, y⟩
      · exact ⟨1, by omega, by rw [← hv, z]; rfl⟩
      · exact ⟨3, by omega, by rw [← hv, z]; rfl⟩
      · refine ⟨kmN (tKd b m t), ?_, by rw [← hv]; exact y⟩
        unfold kmN
        split
        · omega
        · split <;> omega
    obtain ⟨k, k1, rfl⟩ := small
    rw [xsw21 (by omega), if_pos k1]
    exact e'
  · obtain ⟨J1, p1, s1⟩ := ps 5 (by
      have d4 : ∀ k, k < 9 → 6 ≤ k → dl 4 k = some 5 := by decide
      exact d4 _ (by omega) h.1)
    obtain ⟨J2, p2, s2⟩ := mustJ_s (τ := τ) hS hN s1
    obtain ⟨J3, p3, s3⟩ := line_j (τ := τ) hS hN s2
    refine ⟨J3, start _ (fun v hv => ?_), lower (by omega) s3⟩
    have e : ((xck (xw τ J) 183 12).bind fun _ => (f_X12_passes (xw τ J) 183).bind fun σ9 => (xck σ9 183 12).bind fun _ => (f_X12_mustJ σ9 183).bind fun σ12 => f_X12_line_j174 σ12 183) = some (xw τ J3) := by
      simp (disch := first | assumption | omega) only [Option.bind_some, Option.map_some, xw_gR, xw_gN, xw_al, xw_ck, xw_uI, xw_ur, xup_at, xur_at, if_true, if_false, reduceIte, and_true, true_and, and_false, false_and, not_true_eq_false, not_false_eq_true, Nat.reduceEqDiff, eq_self, Nat.reduceAdd, Nat.reduceMul, kC1, kG1, kP1, kR1_0, kR1_1, kR1_2, kR1_3, kR1_4, kR1_5, kR1_6, kR1_7, kR1_8, kR1_9, kR1_10, kR1_11, kR1_12, kR1_13, kC2, kG2, kP2, kR2_0, kR2_1, kC3, kG3, kP3, kR3_0, kR3_1, kR3_2, kR3_3, kL4, kA4, kS4, kL5, kA5, kS5, kL6, kA6, kS6, kL7, kA7, kS7, kC8, kG8, kP8, kR8_0, kR8_1, kL9, kA9, kS9, kL10, kA10, kS10, kC11, kG11, kP11, kR11_0, kR11_1, kR11_2, kR11_3, kL12, kA12, kS12, kL13, kA13, kS13, kL14, kA14, kS14, kL15, kA15, kS15, kC16, kG16, kP16, kR16_0, kR16_1, kL17, kA17, kS17, kL18, kA18, kS18, kC19, kG19, kP19, kR19_0, kL20, kL141, kL146, kA146, kS146, kL151, kA151, kS151, kL156, kA156, kS156, kC157, kG157, kP157, kR157_0, kR157_1, kL158, kA158, kS158, kL159, kA159, kS159, kC161, kG161, kP161, kR161_0, kR161_1, kL162, kA162, kS162, kL163, kA163, kS163, kC165, kG165, kP165, kR165_0, kR165_1, kR165_2, kR165_3, kL166, kA166, kS166, kL167, kA167, kS167, kL168, kA168, kS168, kL169, kA169, kS169, kC170, kG170, kP170, kR170_0, kR170_1, kR170_2, kL171, kA171, kS171, kL172, kA172, kS172, kL173, kA173, kS173, kC174, kG174, kP174, kR174_0, kR174_1, kR174_2, kR174_3, kR174_4, kL175, kA175, kS175, kL176, kA176, kS176, kL177, kA177, kS177, kL178, kA178, kS178, kL179, kC180, kG180, kP180, kL181, kL182, kA182, kS182, kC183, kG183, kP183, kR183_1, kR183_3, kR183_5, kR183_6, kR183_7, kR183_8, kR183_9, kR183_21, kR183_26, kR183_27, kR183_30, kR183_31, kR183_33, kR183_34, kR183_36, kR183_37, kR183_38, kR183_39, kR183_40, kR183_41, kR183_42, kR183_43, kR183_44, kL184, kA184, kS184, kL185, kA185, kS185, kL186, kA186, kS186, kL187, kA187, kS187, kL188, kA188, kS188, kL189, kL190, kL191, kA191, kS191, kL192, kA192, kS192, kL193, kA193, kS193, kL194, kA194, kS194, kL195, kA195, kS195, kL196, kA196, kS196, kL197, kA197, kS197, kL198, kA198, kS198, kL199, kA199, kS199, kL200, kA200, kS200, kL201, kL202, kA202, kS202, kL203, kA203, kS203, kL204, kA204, kS204, kL205, kL206, kA206, kS206, p1, p2, p3]
    have hv' : v = nI (15 + tKd b m t) := by
      rw [← hv, kv (by omega)]
      unfold kmN
      rw [if_neg (by omega), if_pos (by omega)]
      congr 1
      omega
    rw [hv', xsw21 (by omega), if_neg (by omega)]
    rcases (show tKd b m t = 6 ∨ tKd b m t = 7 ∨ tKd b m t = 8 by omega) with z | z | z <;> rw [z] <;> exact e
  · obtain ⟨J1, p1, s1⟩ := ps 7 (by rw [h]; rfl)
    obtain ⟨J2, p2, s2⟩ := mustWay_s (τ := τ) hS hN s1 (by omega) (w' := 3) rfl rfl (by decide)
    obtain ⟨J3, p3, s3⟩ := line_j (τ := τ) hS hN s2
    refine ⟨J3, start _ (fun v hv => ?_), lower (by omega) s3⟩
    have e : ((xck (xw τ J) 183 12).bind fun _ => (f_X12_passes (xw τ J) 183).bind fun σ9 => (xck σ9 183 12).bind fun _ => (f_X12_mustWay σ9 183).bind fun σ12 => f_X12_line_j174 σ12 183) = some (xw τ J3) := by
      simp (disch := first | assumption | omega) only [Option.bind_some, Option.map_some, xw_gR, xw_gN, xw_al, xw_ck, xw_uI, xw_ur, xup_at, xur_at, if_true, if_false, reduceIte, and_true, true_and, and_false, false_and, not_true_eq_false, not_false_eq_true, Nat.reduceEqDiff, eq_self, Nat.reduceAdd, Nat.reduceMul, kC1, kG1, kP1, kR1_0, kR1_1, kR1_2, kR1_3, kR1_4, kR1_5, kR1_6, kR1_7, kR1_8, kR1_9, kR1_10, kR1_11, kR1_12, kR1_13, kC2, kG2, kP2, kR2_0, kR2_1, kC3, kG3, kP3, kR3_0, kR3_1, kR3_2, kR3_3, kL4, kA4, kS4, kL5, kA5, kS5, kL6, kA6, kS6, kL7, kA7, kS7, kC8, kG8, kP8, kR8_0, kR8_1, kL9, kA9, kS9, kL10, kA10, kS10, kC11, kG11, kP11, kR11_0, kR11_1, kR11_2, kR11_3, kL12, kA12, kS12, kL13, kA13, kS13, kL14, kA14, kS14, kL15, kA15, kS15, kC16, kG16, kP16, kR16_0, kR16_1, kL17, kA17, kS17, kL18, kA18, kS18, kC19, kG19, kP19, kR19_0, kL20, kL141, kL146, kA146, kS146, kL151, kA151, kS151, kL156, kA156, kS156, kC157, kG157, kP157, kR157_0, kR157_1, kL158, kA158, kS158, kL159, kA159, kS159, kC161, kG161, kP161, kR161_0, kR161_1, kL162, kA162, kS162, kL163, kA163, kS163, kC165, kG165, kP165, kR165_0, kR165_1, kR165_2, kR165_3, kL166, kA166, kS166, kL167, kA167, kS167, kL168, kA168, kS168, kL169, kA169, kS169, kC170, kG170, kP170, kR170_0, kR170_1, kR170_2, kL171, kA171, kS171, kL172, kA172, kS172, kL173, kA173, kS173, kC174, kG174, kP174, kR174_0, kR174_1, kR174_2, kR174_3, kR174_4, kL175, kA175, kS175, kL176, kA176, kS176, kL177, kA177, kS177, kL178, kA178, kS178, kL179, kC180, kG180, kP180, kL181, kL182, kA182, kS182, kC183, kG183, kP183, kR183_1, kR183_3, kR183_5, kR183_6, kR183_7, kR183_8, kR183_9, kR183_21, kR183_26, kR183_27, kR183_30, kR183_31, kR183_33, kR183_34, kR183_36, kR183_37, kR183_38, kR183_39, kR183_40, kR183_41, kR183_42, kR183_43, kR183_44, kL184, kA184, kS184, kL185, kA185, kS185, kL186, kA186, kS186, kL187, kA187, kS187, kL188, kA188, kS188, kL189, kL190, kL191, kA191, kS191, kL192, kA192, kS192, kL193, kA193, kS193, kL194, kA194, kS194, kL195, kA195, kS195, kL196, kA196, kS196, kL197, kA197, kS197, kL198, kA198, kS198, kL199, kA199, kS199, kL200, kA200, kS200, kL201, kL202, kA202, kS202, kL203, kA203, kS203, kL204, kA204, kS204, kL205, kL206, kA206, kS206, p1, p2, p3]
    have hv' : v = nI 24 := by rw [← hv, kv (by omega), h]; rfl
    rw [hv', xsw21 (by omega), if_neg (by omega)]
    exact e
  · obtain ⟨J1, p1, s1⟩ := ps 8 (by rw [h]; rfl)
    obtain ⟨J2, p2, s2⟩ := must_s (τ := τ) hS hN s1 (k' := 2) (w' := 9) (by omega) (by omega) (by omega) (by omega) rfl (by decide)
    have p2 : f_X12_must (xw τ J1) 183 (2 : Int32) = some (xw τ J2) := p2
    obtain ⟨J3, p3, s3⟩ := mustWay_s (τ := τ) hS hN s2 (by omega) (w' := 5) rfl rfl (by decide)
    obtain ⟨J4, p4, s4⟩ := mustJ_s (τ := τ) hS hN s3
    obtain ⟨J5, p5, s5⟩ := line_j (τ := τ) hS hN s4
    refine ⟨J5, start _ (fun v hv => ?_), lower (by omega) s5⟩
    have e : ((xck (xw τ J) 183 12).bind fun _ => (f_X12_passes (xw τ J) 183).bind fun σ9 => (xck σ9 183 12).bind fun _ => (f_X12_must σ9 183 (2 : Int32)).bind fun σ12 => (xck σ12 183 12).bind fun _ => (f_X12_mustWay σ12 183).bind fun σ15 => (xck σ15 183 12).bind fun _ => (f_X12_mustJ σ15 183).bind fun σ18 => f_X12_line_j174 σ18 183) = some (xw τ J5) := by
      simp (disch := first | assumption | omega) only [Option.bind_some, Option.map_some, xw_gR, xw_gN, xw_al, xw_ck, xw_uI, xw_ur, xup_at, xur_at, if_true, if_false, reduceIte, and_true, true_and, and_false, false_and, not_true_eq_false, not_false_eq_true, Nat.reduceEqDiff, eq_self, Nat.reduceAdd, Nat.reduceMul, kC1, kG1, kP1, kR1_0, kR1_1, kR1_2, kR1_3, kR1_4, kR1_5, kR1_6, kR1_7, kR1_8, kR1_9, kR1_10, kR1_11, kR1_12, kR1_13, kC2, kG2, kP2, kR2_0, kR2_1, kC3, kG3, kP3, kR3_0, kR3_1, kR3_2, kR3_3, kL4, kA4, kS4, kL5, kA5, kS5, kL6, kA6, kS6, kL7, kA7, kS7, kC8, kG8, kP8, kR8_0, kR8_1, kL9, kA9, kS9, kL10, kA10, kS10, kC11, kG11, kP11, kR11_0, kR11_1, kR11_2, kR11_3, kL12, kA12, kS12, kL13, kA13, kS13, kL14, kA14, kS14, kL15, kA15, kS15, kC16, kG16, kP16, kR16_0, kR16_1, kL17, kA17, kS17, kL18, kA18, kS18, kC19, kG19, kP19, kR19_0, kL20, kL141, kL146, kA146, kS146, kL151, kA151, kS151, kL156, kA156, kS156, kC157, kG157, kP157, kR157_0, kR157_1, kL158, kA158, kS158, kL159, kA159, kS159, kC161, kG161, kP161, kR161_0, kR161_1, kL162, kA162, kS162, kL163, kA163, kS163, kC165, kG165, kP165, kR165_0, kR165_1, kR165_2, kR165_3, kL166, kA166, kS166, kL167, kA167, kS167, kL168, kA168, kS168, kL169, kA169, kS169, kC170, kG170, kP170, kR170_0, kR170_1, kR170_2, kL171, kA171, kS171, kL172, kA172, kS172, kL173, kA173, kS173, kC174, kG174, kP174, kR174_0, kR174_1, kR174_2, kR174_3, kR174_4, kL175, kA175, kS175, kL176, kA176, kS176, kL177, kA177, kS177, kL178, kA178, kS178, kL179, kC180, kG180, kP180, kL181, kL182, kA182, kS182, kC183, kG183, kP183, kR183_1, kR183_3, kR183_5, kR183_6, kR183_7, kR183_8, kR183_9, kR183_21, kR183_26, kR183_27, kR183_30, kR183_31, kR183_33, kR183_34, kR183_36, kR183_37, kR183_38, kR183_39, kR183_40, kR183_41, kR183_42, kR183_43, kR183_44, kL184, kA184, kS184, kL185, kA185, kS185, kL186, kA186, kS186, kL187, kA187, kS187, kL188, kA188, kS188, kL189, kL190, kL191, kA191, kS191, kL192, kA192, kS192, kL193, kA193, kS193, kL194, kA194, kS194, kL195, kA195, kS195, kL196, kA196, kS196, kL197, kA197, kS197, kL198, kA198, kS198, kL199, kA199, kS199, kL200, kA200, kS200, kL201, kL202, kA202, kS202, kL203, kA203, kS203, kL204, kA204, kS204, kL205, kL206, kA206, kS206, p1, p2, p3, p4, p5]
    have hv' : v = nI 25 := by rw [← hv, kv (by omega), h]; rfl
    rw [hv', xsw21 (by omega), if_neg (by omega)]
    exact e
  · obtain ⟨J1, p1, s1⟩ := ps 10 (by rw [h]; rfl)
    obtain ⟨J2, p2, s2⟩ := must_s (τ := τ) hS hN s1 (k' := 2) (w' := 5) (by omega) (by omega) (by omega) (by omega) rfl (by decide)
    have p2 : f_X12_must (xw τ J1) 183 (2 : Int32) = some (xw τ J2) := p2
    obtain ⟨J3, p3, s3⟩ := mustJ_s (τ := τ) hS hN s2
    obtain ⟨J4, p4, s4⟩ := line_j (τ := τ) hS hN s3
    refine ⟨J4, start _ (fun v hv => ?_), lower (by omega) s4⟩
    have e : ((xck (xw τ J) 183 12).bind fun _ => (f_X12_passes (xw τ J) 183).bind fun σ9 => (xck σ9 183 12).bind fun _ => (f_X12_must σ9 183 (2 : Int32)).bind fun σ12 => (xck σ12 183 12).bind fun _ => (f_X12_mustJ σ12 183).bind fun σ15 => f_X12_line_j174 σ15 183) = some (xw τ J4) := by
      simp (disch := first | assumption | omega) only [Option.bind_some, Option.map_some, xw_gR, xw_gN, xw_al, xw_ck, xw_uI, xw_ur, xup_at, xur_at, if_true, if_false, reduceIte, and_true, true_and, and_false, false_and, not_true_eq_false, not_false_eq_true, Nat.reduceEqDiff, eq_self, Nat.reduceAdd, Nat.reduceMul, kC1, kG1, kP1, kR1_0, kR1_1, kR1_2, kR1_3, kR1_4, kR1_5, kR1_6, kR1_7, kR1_8, kR1_9, kR1_10, kR1_11, kR1_12, kR1_13, kC2, kG2, kP2, kR2_0, kR2_1, kC3, kG3, kP3, kR3_0, kR3_1, kR3_2, kR3_3, kL4, kA4, kS4, kL5, kA5, kS5, kL6, kA6, kS6, kL7, kA7, kS7, kC8, kG8, kP8, kR8_0, kR8_1, kL9, kA9, kS9, kL10, kA10, kS10, kC11, kG11, kP11, kR11_0, kR11_1, kR11_2, kR11_3, kL12, kA12, kS12, kL13, kA13, kS13, kL14, kA14, kS14, kL15, kA15, kS15, kC16, kG16, kP16, kR16_0, kR16_1, kL17, kA17, kS17, kL18, kA18, kS18, kC19, kG19, kP19, kR19_0, kL20, kL141, kL146, kA146, kS146, kL151, kA151, kS151, kL156, kA156, kS156, kC157, kG157, kP157, kR157_0, kR157_1, kL158, kA158, kS158, kL159, kA159, kS159, kC161, kG161, kP161, kR161_0, kR161_1, kL162, kA162, kS162, kL163, kA163, kS163, kC165, kG165, kP165, kR165_0, kR165_1, kR165_2, kR165_3, kL166, kA166, kS166, kL167, kA167, kS167, kL168, kA168, kS168, kL169, kA169, kS169, kC170, kG170, kP170, kR170_0, kR170_1, kR170_2, kL171, kA171, kS171, kL172, kA172, kS172, kL173, kA173, kS173, kC174, kG174, kP174, kR174_0, kR174_1, kR174_2, kR174_3, kR174_4, kL175, kA175, kS175, kL176, kA176, kS176, kL177, kA177, kS177, kL178, kA178, kS178, kL179, kC180, kG180, kP180, kL181, kL182, kA182, kS182, kC183, kG183, kP183, kR183_1, kR183_3, kR183_5, kR183_6, kR183_7, kR183_8, kR183_9, kR183_21, kR183_26, kR183_27, kR183_30, kR183_31, kR183_33, kR183_34, kR183_36, kR183_37, kR183_38, kR183_39, kR183_40, kR183_41, kR183_42, kR183_43, kR183_44, kL184, kA184, kS184, kL185, kA185, kS185, kL186, kA186, kS186, kL187, kA187, kS187, kL188, kA188, kS188, kL189, kL190, kL191, kA191, kS191, kL192, kA192, kS192, kL193, kA193, kS193, kL194, kA194, kS194, kL195, kA195, kS195, kL196, kA196, kS196, kL197, kA197, kS197, kL198, kA198, kS198, kL199, kA199, kS199, kL200, kA200, kS200, kL201, kL202, kA202, kS202, kL203, kA203, kS203, kL204, kA204, kS204, kL205, kL206, kA206, kS206, p1, p2, p3, p4]
    have hv' : v = nI 26 := by rw [← hv, kv (by omega), h]; rfl
    rw [hv', xsw21 (by omega), if_neg (by omega)]
    exact e
  · obtain ⟨J1, p1, s1⟩ := ps 11 (by rw [h]; rfl)
    obtain ⟨J2, p2, s2⟩ := must_s (τ := τ) hS hN s1 (k' := 2) (w' := 12) (by omega) (by omega) (by omega) (by omega) rfl (by decide)
    have p2 : f_X12_must (xw τ J1) 183 (2 : Int32) = some (xw τ J2) := p2
    obtain ⟨J3, p3, s3⟩ := must2_s (τ := τ) hS hN s2 (k1 := 13) (k2 := 14) (w' := 3) (by omega) (by omega) (by omega) (by omega) (by omega) rfl rfl (by decide)
    obtain ⟨J4, p4, s4⟩ := line_j (τ := τ) hS hN s3
    refine ⟨J4, start _ (fun v hv => ?_), lower (by omega) s4⟩
    have e : ((xck (xw τ J) 183 12).bind fun _ => (f_X12_passes (xw τ J) 183).bind fun σ9 => (xck σ9 183 12).bind fun _ => (f_X12_must σ9 183 (2 : Int32)).bind fun σ12 => (xck σ12 183 12).bind fun _ => (f_X12_is σ12 183 (28 : Int32)).bind fun v15 => if v15 = 0 then ((xck σ12 183 12).bind fun _ => (f_X12_must σ12 183 (29 : Int32)).bind fun σ18 => f_X12_line_j174 σ18 183) else (xck σ12 183 12).bind fun _ => (f_X12_passes σ12 183).bind fun σ18 => f_X12_line_j174 σ18 183) = some (xw τ J4) := by
      rcases p3 with ⟨a1, a2⟩ | ⟨a1, a2⟩
      · have a1 : f_X12_is (xw τ J2) 183 (28 : Int32) = some 1 := a1
        simp (disch := first | assumption | omega) only [Option.bind_some, Option.map_some, xw_gR, xw_gN, xw_al, xw_ck, xw_uI, xw_ur, xup_at, xur_at, if_true, if_false, reduceIte, and_true, true_and, and_false, false_and, not_true_eq_false, not_false_eq_true, Nat.reduceEqDiff, eq_self, Nat.reduceAdd, Nat.reduceMul, kC1, kG1, kP1, kR1_0, kR1_1, kR1_2, kR1_3, kR1_4, kR1_5, kR1_6, kR1_7, kR1_8, kR1_9, kR1_10, kR1_11, kR1_12, kR1_13, kC2, kG2, kP2, kR2_0, kR2_1, kC3, kG3, kP3, kR3_0, kR3_1, kR3_2, kR3_3, kL4, kA4, kS4, kL5, kA5, kS5, kL6, kA6, kS6, kL7, kA7, kS7, kC8, kG8, kP8, kR8_0, kR8_1, kL9, kA9, kS9, kL10, kA10, kS10, kC11, kG11, kP11, kR11_0, kR11_1, kR11_2, kR11_3, kL12, kA12, kS12, kL13, kA13, kS13, kL14, kA14, kS14, kL15, kA15, kS15, kC16, kG16, kP16, kR16_0, kR16_1, kL17, kA17, kS17, kL18, kA18, kS18, kC19, kG19, kP19, kR19_0, kL20, kL141, kL146, kA146, kS146, kL151, kA151, kS151, kL156, kA156, kS156, kC157, kG157, kP157, kR157_0, kR157_1, kL158, kA158, kS158, kL159, kA159, kS159, kC161, kG161, kP161, kR161_0, kR161_1, kL162, kA162, kS162, kL163, kA163, kS163, kC165, kG165, kP165, kR165_0, kR165_1, kR165_2, kR165_3, kL166, kA166, kS166, kL167, kA167, kS167, kL168, kA168, kS168, kL169, kA169, kS169, kC170, kG170, kP170, kR170_0, kR170_1, kR170_2, kL171, kA171, kS171, kL172, kA172, kS172, kL173, kA173, kS173, kC174, kG174, kP174, kR174_0, kR174_1, kR174_2, kR174_3, kR174_4, kL175, kA175, kS175, kL176, kA176, kS176, kL177, kA177, kS177, kL178, kA178, kS178, kL179, kC180, kG180, kP180, kL181, kL182, kA182, kS182, kC183, kG183, kP183, kR183_1, kR183_3, kR183_5, kR183_6, kR183_7, kR183_8, kR183_9, kR183_21, kR183_26, kR183_27, kR183_30, kR183_31, kR183_33, kR183_34, kR183_36, kR183_37, kR183_38, kR183_39, kR183_40, kR183_41, kR183_42, kR183_43, kR183_44, kL184, kA184, kS184, kL185, kA185, kS185, kL186, kA186, kS186, kL187, kA187, kS187, kL188, kA188, kS188, kL189, kL190, kL191, kA191, kS191, kL192, kA192, kS192, kL193, kA193, kS193, kL194, kA194, kS194, kL195, kA195, kS195, kL196, kA196, kS196, kL197, kA197, kS197, kL198, kA198, kS198, kL199, kA199, kS199, kL200, kA200, kS200, kL201, kL202, kA202, kS202, kL203, kA203, kS203, kL204, kA204, kS204, kL205, kL206, kA206, kS206, p1, p2, a1, one0, a2, p4]
      · have a1 : f_X12_is (xw τ J2) 183 (28 : Int32) = some 0 := a1
        have a2 : f_X12_must (xw τ J2) 183 (29 : Int32) = some (xw τ J3) := a2
        simp (disch := first | assumption | omega) only [Option.bind_some, Option.map_some, xw_gR, xw_gN, xw_al, xw_ck, xw_uI, xw_ur, xup_at, xur_at, if_true, if_false, reduceIte, and_true, true_and, and_false, false_and, not_true_eq_false, not_false_eq_true, Nat.reduceEqDiff, eq_self, Nat.reduceAdd, Nat.reduceMul, kC1, kG1, kP1, kR1_0, kR1_1, kR1_2, kR1_3, kR1_4, kR1_5, kR1_6, kR1_7, kR1_8, kR1_9, kR1_10, kR1_11, kR1_12, kR1_13, kC2, kG2, kP2, kR2_0, kR2_1, kC3, kG3, kP3, kR3_0, kR3_1, kR3_2, kR3_3, kL4, kA4, kS4, kL5, kA5, kS5, kL6, kA6, kS6, kL7, kA7, kS7, kC8, kG8, kP8, kR8_0, kR8_1, kL9, kA9, kS9, kL10, kA10, kS10, kC11, kG11, kP11, kR11_0, kR11_1, kR11_2, kR11_3, kL12, kA12, kS12, kL13, kA13, kS13, kL14, kA14, kS14, kL15, kA15, kS15, kC16, kG16, kP16, kR16_0, kR16_1, kL17, kA17, kS17, kL18, kA18, kS18, kC19, kG19, kP19, kR19_0, kL20, kL141, kL146, kA146, kS146, kL151, kA151, kS151, kL156, kA156, kS156, kC157, kG157, kP157, kR157_0, kR157_1, kL158, kA158, kS158, kL159, kA159, kS159, kC161, kG161, kP161, kR161_0, kR161_1, kL162, kA162, kS162, kL163, kA163, kS163, kC165, kG165, kP165, kR165_0, kR165_1, kR165_2, kR165_3, kL166, kA166, kS166, kL167, kA167, kS167, kL168, kA168, kS168, kL169, kA169, kS169, kC170, kG170, kP170, kR170_0, kR170_1, kR170_2, kL171, kA171, kS171, kL172, kA172, kS172, kL173, kA173, kS173, kC174, kG174, kP174, kR174_0, kR174_1, kR174_2, kR174_3, kR174_4, kL175, kA175, kS175, kL176, kA176, kS176, kL177, kA177, kS177, kL178, kA178, kS178, kL179, kC180, kG180, kP180, kL181, kL182, kA182, kS182, kC183, kG183, kP183, kR183_1, kR183_3, kR183_5, kR183_6, kR183_7, kR183_8, kR183_9, kR183_21, kR183_26, kR183_27, kR183_30, kR183_31, kR183_33, kR183_34, kR183_36, kR183_37, kR183_38, kR183_39, kR183_40, kR183_41, kR183_42, kR183_43, kR183_44, kL184, kA184, kS184, kL185, kA185, kS185, kL186, kA186, kS186, kL187, kA187, kS187, kL188, kA188, kS188, kL189, kL190, kL191, kA191, kS191, kL192, kA192, kS192, kL193, kA193, kS193, kL194, kA194, kS194, kL195, kA195, kS195, kL196, kA196, kS196, kL197, kA197, kS197, kL198, kA198, kS198, kL199, kA199, kS199, kL200, kA200, kS200, kL201, kL202, kA202, kS202, kL203, kA203, kS203, kL204, kA204, kS204, kL205, kL206, kA206, kS206, p1, p2, a1, a2, p4]
    have hv' : v = nI 27 := by rw [← hv, kv (by omega), h]; rfl
    rw [hv', xsw21 (by omega), if_neg (by omega)]
    exact e
  · obtain ⟨J', e, s⟩ := bad (by rw [h]; rfl)
    refine ⟨J', start _ (fun v hv => ?_), s⟩
    have e' : ((xck (xw τ J) 183 12).bind fun _ => (f_X12_fail (xw τ J) 183 (1 : Int32)).bind fun σ9 => some σ9) = some (xw τ J') := by rw [xw_ck, kC183 hS, Option.bind_some, e, Option.bind_some]
    have hv' : v = nI 28 := by rw [← hv, kv (by omega), h]; rfl
    rw [hv', xsw21 (by omega), if_neg (by omega)]
    exact e'
  · obtain ⟨J', e, s⟩ := bad (by rw [h]; rfl)
    refine ⟨J', start _ (fun v hv => ?_), s⟩
    have e' : ((xck (xw τ J) 183 12).bind fun _ => (f_X12_fail (xw τ J) 183 (1 : Int32)).bind fun σ9 => some σ9) = some (xw τ J') := by rw [xw_ck, kC183 hS, Option.bind_some, e, Option.bind_some]
    have hv' : v = nI 29 := by rw [← hv, kv (by omega), h]; rfl
    rw [hv', xsw21 (by omega), if_neg (by omega)]
    exact e'
  · obtain ⟨J1, p1, s1⟩ := ps 13 (by rw [h]; rfl)
    obtain ⟨J2, p2, s2⟩ := must_s (τ := τ) hS hN s1 (k' := 2) (w' := 3) (by omega) (by omega) (by omega) (by omega) rfl (by decide)
    have p2 : f_X12_must (xw τ J1) 183 (2 : Int32) = some (xw τ J2) := p2
    obtain ⟨J3, p3, s3⟩ := line_j (τ := τ) hS hN s2
    refine ⟨J3, start _ (fun v hv => ?_), lower (by omega) s3⟩
    have e : ((xck (xw τ J) 183 12).bind fun _ => (f_X12_passes (xw τ J) 183).bind fun σ9 => (xck σ9 183 12).bind fun _ => (f_X12_must σ9 183 (2 : Int32)).bind fun σ12 => f_X12_line_j174 σ12 183) = some (xw τ J3) := by
      simp (disch := first | assumption | omega) only [Option.bind_some, Option.map_some, xw_gR, xw_gN, xw_al, xw_ck, xw_uI, xw_ur, xup_at, xur_at, if_true, if_false, reduceIte, and_true, true_and, and_false, false_and, not_true_eq_false, not_false_eq_true, Nat.reduceEqDiff, eq_self, Nat.reduceAdd, Nat.reduceMul, kC1, kG1, kP1, kR1_0, kR1_1, kR1_2, kR1_3, kR1_4, kR1_5, kR1_6, kR1_7, kR1_8, kR1_9, kR1_10, kR1_11, kR1_12, kR1_13, kC2, kG2, kP2, kR2_0, kR2_1, kC3, kG3, kP3, kR3_0, kR3_1, kR3_2, kR3_3, kL4, kA4, kS4, kL5, kA5, kS5, kL6, kA6, kS6, kL7, kA7, kS7, kC8, kG8, kP8, kR8_0, kR8_1, kL9, kA9, kS9, kL10, kA10, kS10, kC11, kG11, kP11, kR11_0, kR11_1, kR11_2, kR11_3, kL12, kA12, kS12, kL13, kA13, kS13, kL14, kA14, kS14, kL15, kA15, kS15, kC16, kG16, kP16, kR16_0, kR16_1, kL17, kA17, kS17, kL18, kA18, kS18, kC19, kG19, kP19, kR19_0, kL20, kL141, kL146, kA146, kS146, kL151, kA151, kS151, kL156, kA156, kS156, kC157, kG157, kP157, kR157_0, kR157_1, kL158, kA158, kS158, kL159, kA159, kS159, kC161, kG161, kP161, kR161_0, kR161_1, kL162, kA162, kS162, kL163, kA163, kS163, kC165, kG165, kP165, kR165_0, kR165_1, kR165_2, kR165_3, kL166, kA166, kS166, kL167, kA167, kS167, kL168, kA168, kS168, kL169, kA169, kS169, kC170, kG170, kP170, kR170_0, kR170_1, kR170_2, kL171, kA171, kS171, kL172, kA172, kS172, kL173, kA173, kS173, kC174, kG174, kP174, kR174_0, kR174_1, kR174_2, kR174_3, kR174_4, kL175, kA175, kS175, kL176, kA176, kS176, kL177, kA177, kS177, kL178, kA178, kS178, kL179, kC180, kG180, kP180, kL181, kL182, kA182, kS182, kC183, kG183, kP183, kR183_1, kR183_3, kR183_5, kR183_6, kR183_7, kR183_8, kR183_9, kR183_21, kR183_26, kR183_27, kR183_30, kR183_31, kR183_33, kR183_34, kR183_36, kR183_37, kR183_38, kR183_39, kR183_40, kR183_41, kR183_42, kR183_43, kR183_44, kL184, kA184, kS184, kL185, kA185, kS185, kL186, kA186, kS186, kL187, kA187, kS187, kL188, kA188, kS188, kL189, kL190, kL191, kA191, kS191, kL192, kA192, kS192, kL193, kA193, kS193, kL194, kA194, kS194, kL195, kA195, kS195, kL196, kA196, kS196, kL197, kA197, kS197, kL198, kA198, kS198, kL199, kA199, kS199, kL200, kA200, kS200, kL201, kL202, kA202, kS202, kL203, kA203, kS203, kL204, kA204, kS204, kL205, kL206, kA206, kS206, p1, p2, p3]
    have hv' : v = nI 30 := by rw [← hv, kv (by omega), h]; rfl
    rw [hv', xsw21 (by omega), if_neg (by omega)]
    exact e
theorem gram_l (hS : Shp τ) (hN : TN J0 b m N) : ∀ k lo J, 401 - lo ≤ k → ST J0 J b m lo 4 → ∃ J', GF J0 J' ∧ (((∃ n, cutR b m n 0 0) ∧ J' 183 12 = 0) ∨ GB J' b m) ∧ ∀ z, f_X12_read_j103 (xw τ J') 183 = some z → xloop (f_X12_read_b81 183) (xw τ J) = some z := by
  intro k
  induction k with
  | zero =>
    intro lo J hlo hs
    obtain ⟨hF, ⟨t, ht, hg⟩ | hb⟩ := hs
    · have := hg.2.2.1
      omega
    · refine ⟨J, hF, .inr hb, fun z hz => xloop_end ?_⟩
      obtain ⟨n, r, pl, r0, r3, -, g1, g2⟩ := hb
      have q : (nI r = 0) = False := eq_false (nI_ne0 (by omega) (by omega))
      simp only [f_X12_read_b81]
      simp (disch := first | assumption | omega) only [Option.bind_some, Option.map_some, xw_gR, xw_gN, xw_al, xw_ck, xw_uI, xw_ur, xup_at, xur_at, if_true, if_false, reduceIte, and_true, true_and, and_false, false_and, not_true_eq_false, not_false_eq_true, Nat.reduceEqDiff, eq_self, Nat.reduceAdd, Nat.reduceMul, kC1, kG1, kP1, kR1_0, kR1_1, kR1_2, kR1_3, kR1_4, kR1_5, kR1_6, kR1_7, kR1_8, kR1_9, kR1_10, kR1_11, kR1_12, kR1_13, kC2, kG2, kP2, kR2_0, kR2_1, kC3, kG3, kP3, kR3_0, kR3_1, kR3_2, kR3_3, kL4, kA4, kS4, kL5, kA5, kS5, kL6, kA6, kS6, kL7, kA7, kS7, kC8, kG8, kP8, kR8_0, kR8_1, kL9, kA9, kS9, kL10, kA10, kS10, kC11, kG11, kP11, kR11_0, kR11_1, kR11_2, kR11_3, kL12, kA12, kS12, kL13, kA13, kS13, kL14, kA14, kS14, kL15, kA15, kS15, kC16, kG16, kP16, kR16_0, kR16_1, kL17, kA17, kS17, kL18, kA18, kS18, kC19, kG19, kP19, kR19_0, kL20, kL141, kL146, kA146, kS146, kL151, kA151, kS151, kL156, kA156, kS156, kC157, kG157, kP157, kR157_0, kR157_1, kL158, kA158, kS158, kL159, kA159, kS159, kC161, kG161, kP161, kR161_0, kR161_1, kL162, kA162, kS162, kL163, kA163, kS163, kC165, kG165, kP165, kR165_0, kR165_1, kR165_2, kR165_3, kL166, kA166, kS166, kL167, kA167, kS167, kL168, kA168, kS168, kL169, kA169, kS169, kC170, kG170, kP170, kR170_0, kR170_1, kR170_2, kL171, kA171, kS171, kL172, kA172, kS172, kL173, kA173, kS173, kC174, kG174, kP174, kR174_0, kR174_1, kR174_2, kR174_3, kR174_4, kL175, kA175, kS175, kL176, kA176, kS176, kL177, kA177, kS177, kL178, kA178, kS178, kL179, kC180, kG180, kP180, kL181, kL182, kA182, kS182, kC183, kG183, kP183, kR183_1, kR183_3, kR183_5, kR183_6, kR183_7, kR183_8, kR183_9, kR183_21, kR183_26, kR183_27, kR183_30, kR183_31, kR183_33, kR183_34, kR183_36, kR183_37, kR183_38, kR183_39, kR183_40, kR183_41, kR183_42, kR183_43, kR183_44, kL184, kA184, kS184, kL185, kA185, kS185, kL186, kA186, kS186, kL187, kA187, kS187, kL188, kA188, kS188, kL189, kL190, kL191, kA191, kS191, kL192, kA192, kS192, kL193, kA193, kS193, kL194, kA194, kS194, kL195, kA195, kS195, kL196, kA196, kS196, kL197, kA197, kS197, kL198, kA198, kS198, kL199, kA199, kS199, kL200, kA200, kS200, kL201, kL202, kA202, kS202, kL203, kA203, kS203, kL204, kA204, kS204, kL205, kL206, kA206, kS206, g1, q, hz]
  | succ k ih =>
    intro lo J hlo hs
    obtain ⟨hF, ⟨t, ht, hg⟩ | hb⟩ := hs
    · have is := is12_ok (τ := τ) hS hN hF hg (k' := 0) (by omega) (by omega)
      by_cases hk : tKd b m t = 0
      · rw [if_pos hk] at is
        have is : f_X12_is (xw τ J) 183 (0 : Int32) = some 1 := is
        refine ⟨J, hF, .inl ⟨⟨t, 4, hg.2.2.2, .inl ⟨rfl, rfl, hg.2.2.1, hk, rfl⟩⟩, hg.2.1⟩, fun z hz => xloop_end ?_⟩
        simp only [f_X12_read_b81]
        simp (disch := first | assumption | omega) only [Option.bind_some, Option.map_some, xw_gR, xw_gN, xw_al, xw_ck, xw_uI, xw_ur, xup_at, xur_at, if_true, if_false, reduceIte, and_true, true_and, and_false, false_and, not_true_eq_false, not_false_eq_true, Nat.reduceEqDiff, eq_self, Nat.reduceAdd, Nat.reduceMul, kC1, kG1, kP1, kR1_0, kR1_1, kR1_2, kR1_3, kR1_4, kR1_5, kR1_6, kR1_7, kR1_8, kR1_9, kR1_10, kR1_11, kR1_12, kR1_13, kC2, kG2, kP2, kR2_0, kR2_1, kC3, kG3, kP3, kR3_0, kR3_1, kR3_2, kR3_3, kL4, kA4, kS4, kL5, kA5, kS5, kL6, kA6, kS6, kL7, kA7, kS7, kC8, kG8, kP8, kR8_0, kR8_1, kL9, kA9, kS9, kL10, kA10, kS10, kC11, kG11, kP11, kR11_0, kR11_1, kR11_2, kR11_3, kL12, kA12, kS12, kL13, kA13, kS13, kL14, kA14, kS14, kL15, kA15, kS15, kC16, kG16, kP16, kR16_0, kR16_1, kL17, kA17, kS17, kL18, kA18, kS18, kC19, kG19, kP19, kR19_0, kL20, kL141, kL146, kA146, kS146, kL151, kA151, kS151, kL156, kA156, kS156, kC157, kG157, kP157, kR157_0, kR157_1, kL158, kA158, kS158, kL159, kA159, kS159, kC161, kG161, kP161, kR161_0, kR161_1, kL162, kA162, kS162, kL163, kA163, kS163, kC165, kG165, kP165, kR165_0, kR165_1, kR165_2, kR165_3, kL166, kA166, kS166, kL167, kA167, kS167, kL168, kA168, kS168, kL169, kA169, kS169, kC170, kG170, kP170, kR170_0, kR170_1, kR170_2, kL171, kA171, kS171, kL172, kA172, kS172, kL173, kA173, kS173, kC174, kG174, kP174, kR174_0, kR174_1, kR174_2, kR174_3, kR174_4, kL175, kA175, kS175, kL176, kA176, kS176, kL177, kA177, kS177, kL178, kA178, kS178, kL179, kC180, kG180, kP180, kL181, kL182, kA182, kS182, kC183, kG183, kP183, kR183_1, kR183_3, kR183_5, kR183_6, kR183_7, kR183_8, kR183_9, kR183_21, kR183_26, kR183_27, kR183_30, kR183_31, kR183_33, kR183_34, kR183_36, kR183_37, kR183_38, kR183_39, kR183_40, kR183_41, kR183_42, kR183_43, kR183_44, kL184, kA184, kS184, kL185, kA185, kS185, kL186, kA186, kS186, kL187, kA187, kS187, kL188, kA188, kS188, kL189, kL190, kL191, kA191, kS191, kL192, kA192, kS192, kL193, kA193, kS193, kL194, kA194, kS194, kL195, kA195, kS195, kL196, kA196, kS196, kL197, kA197, kS197, kL198, kA198, kS198, kL199, kA199, kS199, kL200, kA200, kS200, kL201, kL202, kA202, kS202, kL203, kA203, kS203, kL204, kA204, kS204, kL205, kL206, kA206, kS206, hg.2.1, is, one0, hz]
      · rw [if_neg hk] at is
        have is : f_X12_is (xw τ J) 183 (0 : Int32) = some 0 := is
        obtain ⟨J1, e1, s1⟩ := line_g (τ := τ) hS hN hF hg hk
        obtain ⟨J', h1, h2, h3⟩ := ih (t + 1) J1 (by omega) s1
        refine ⟨J', h1, h2, fun z hz => ?_⟩
        rw [← h3 z hz]
        refine xloop_step ?_
        simp only [f_X12_read_b81]
        simp (disch := first | assumption | omega) only [Option.bind_some, Option.map_some, xw_gR, xw_gN, xw_al, xw_ck, xw_uI, xw_ur, xup_at, xur_at, if_true, if_false, reduceIte, and_true, true_and, and_false, false_and, not_true_eq_false, not_false_eq_true, Nat.reduceEqDiff, eq_self, Nat.reduceAdd, Nat.reduceMul, kC1, kG1, kP1, kR1_0, kR1_1, kR1_2, kR1_3, kR1_4, kR1_5, kR1_6, kR1_7, kR1_8, kR1_9, kR1_10, kR1_11, kR1_12, kR1_13, kC2, kG2, kP2, kR2_0, kR2_1, kC3, kG3, kP3, kR3_0, kR3_1, kR3_2, kR3_3, kL4, kA4, kS4, kL5, kA5, kS5, kL6, kA6, kS6, kL7, kA7, kS7, kC8, kG8, kP8, kR8_0, kR8_1, kL9, kA9, kS9, kL10, kA10, kS10, kC11, kG11, kP11, kR11_0, kR11_1, kR11_2, kR11_3, kL12, kA12, kS12, kL13, kA13, kS13, kL14, kA14, kS14, kL15, kA15, kS15, kC16, kG16, kP16, kR16_0, kR16_1, kL17, kA17, kS17, kL18, kA18, kS18, kC19, kG19, kP19, kR19_0, kL20, kL141, kL146, kA146, kS146, kL151, kA151, kS151, kL156, kA156, kS156, kC157, kG157, kP157, kR157_0, kR157_1, kL158, kA158, kS158, kL159, kA159, kS159, kC161, kG161, kP161, kR161_0, kR161_1, kL162, kA162, kS162, kL163, kA163, kS163, kC165, kG165, kP165, kR165_0, kR165_1, kR165_2, kR165_3, kL166, kA166, kS166, kL167, kA167, kS167, kL168, kA168, kS168, kL169, kA169, kS169, kC170, kG170, kP170, kR170_0, kR170_1, kR170_2, kL171, kA171, kS171, kL172, kA172, kS172, kL173, kA173, kS173, kC174, kG174, kP174, kR174_0, kR174_1, kR174_2, kR174_3, kR174_4, kL175, kA175, kS175, kL176, kA176, kS176, kL177, kA177, kS177, kL178, kA178, kS178, kL179, kC180, kG180, kP180, kL181, kL182, kA182, kS182, kC183, kG183, kP183, kR183_1, kR183_3, kR183_5, kR183_6, kR183_7, kR183_8, kR183_9, kR183_21, kR183_26, kR183_27, kR183_30, kR183_31, kR183_33, kR183_34, kR183_36, kR183_37, kR183_38, kR183_39, kR183_40, kR183_41, kR183_42, kR183_43, kR183_44, kL184, kA184, kS184, kL185, kA185, kS185, kL186, kA186, kS186, kL187, kA187, kS187, kL188, kA188, kS188, kL189, kL190, kL191, kA191, kS191, kL192, kA192, kS192, kL193, kA193, kS193, kL194, kA194, kS194, kL195, kA195, kS195, kL196, kA196, kS196, kL197, kA197, kS197, kL198, kA198, kS198, kL199, kA199, kS199, kL200, kA200, kS200, kL201, kL202, kA202, kS202, kL203, kA203, kS203, kL204, kA204, kS204, kL205, kL206, kA206, kS206, hg.2.1, is, e1]
    · refine ⟨J, hF, .inr hb, fun z hz => xloop_end ?_⟩
      obtain ⟨n, r, pl, r0, r3, -, g1, g2⟩ := hb
      have q : (nI r = 0) = False := eq_false (nI_ne0 (by omega) (by omega))
      simp only [f_X12_read_b81]
      simp (disch := first | assumption | omega) only [Option.bind_some, Option.map_some, xw_gR, xw_gN, xw_al, xw_ck, xw_uI, xw_ur, xup_at, xur_at, if_true, if_false, reduceIte, and_true, true_and, and_false, false_and, not_true_eq_false, not_false_eq_true, Nat.reduceEqDiff, eq_self, Nat.reduceAdd, Nat.reduceMul, kC1, kG1, kP1, kR1_0, kR1_1, kR1_2, kR1_3, kR1_4, kR1_5, kR1_6, kR1_7, kR1_8, kR1_9, kR1_10, kR1_11, kR1_12, kR1_13, kC2, kG2, kP2, kR2_0, kR2_1, kC3, kG3, kP3, kR3_0, kR3_1, kR3_2, kR3_3, kL4, kA4, kS4, kL5, kA5, kS5, kL6, kA6, kS6, kL7, kA7, kS7, kC8, kG8, kP8, kR8_0, kR8_1, kL9, kA9, kS9, kL10, kA10, kS10, kC11, kG11, kP11, kR11_0, kR11_1, kR11_2, kR11_3, kL12, kA12, kS12, kL13, kA13, kS13, kL14, kA14, kS14, kL15, kA15, kS15, kC16, kG16, kP16, kR16_0, kR16_1, kL17, kA17, kS17, kL18, kA18, kS18, kC19, kG19, kP19, kR19_0, kL20, kL141, kL146, kA146, kS146, kL151, kA151, kS151, kL156, kA156, kS156, kC157, kG157, kP157, kR157_0, kR157_1, kL158, kA158, kS158, kL159, kA159, kS159, kC161, kG161, kP161, kR161_0, kR161_1, kL162, kA162, kS162, kL163, kA163, kS163, kC165, kG165, kP165, kR165_0, kR165_1, kR165_2, kR165_3, kL166, kA166, kS166, kL167, kA167, kS167, kL168, kA168, kS168, kL169, kA169, kS169, kC170, kG170, kP170, kR170_0, kR170_1, kR170_2, kL171, kA171, kS171, kL172, kA172, kS172, kL173, kA173, kS173, kC174, kG174, kP174, kR174_0, kR174_1, kR174_2, kR174_3, kR174_4, kL175, kA175, kS175, kL176, kA176, kS176, kL177, kA177, kS177, kL178, kA178, kS178, kL179, kC180, kG180, kP180, kL181, kL182, kA182, kS182, kC183, kG183, kP183, kR183_1, kR183_3, kR183_5, kR183_6, kR183_7, kR183_8, kR183_9, kR183_21, kR183_26, kR183_27, kR183_30, kR183_31, kR183_33, kR183_34, kR183_36, kR183_37, kR183_38, kR183_39, kR183_40, kR183_41, kR183_42, kR183_43, kR183_44, kL184, kA184, kS184, kL185, kA185, kS185, kL186, kA186, kS186, kL187, kA187, kS187, kL188, kA188, kS188, kL189, kL190, kL191, kA191, kS191, kL192, kA192, kS192, kL193, kA193, kS193, kL194, kA194, kS194, kL195, kA195, kS195, kL196, kA196, kS196, kL197, kA197, kS197, kL198, kA198, kS198, kL199, kA199, kS199, kL200, kA200, kS200, kL201, kL202, kA202, kS202, kL203, kA203, kS203, kL204, kA204, kS204, kL205, kL206, kA206, kS206, g1, q, hz]
end GRAM
end
section
/-! the lines, what they tell -/
def lsB (b : Nat → Int32) (m k : Nat) : Bool := decide (4 ≤ k) && decide (tKd b m (k - 1) = 4)
def jnT (b : Nat → Int32) (m t : Nat) : Nat := if tKd b m t = 3 then t + 1 else t
def jvT (b : Nat → Int32) (m t : Nat) : Int := if tKd b m t = 3 then -(tNu b m (t + 1) : Int) else (tNu b m t : Int)
def jlT (b : Nat → Int32) (m t : Nat) : Nat := if tKd b m t = 3 then 2 else 1
def isJt (b : Nat → Int32) (m t : Nat) : Prop := (tKd b m t = 3 ∧ tKd b m (t + 1) = 2) ∨ tKd b m t = 2
theorem dl3 : ∀ k, k < 16 → dl 3 k = none ∨ (k = 4 ∧ dl 3 k = some 4) := by decide
theorem dl5 : ∀ k, k < 16 → dl 5 k = none ∨ (k = 3 ∧ dl 5 k = some 6) ∨ (k = 2 ∧ dl 5 k = some 3) := by decide
theorem dl6 : ∀ k, k < 16 → dl 6 k = none ∨ (k = 2 ∧ dl 6 k = some 3) := by decide
theorem dl7 : ∀ k, k < 16 → dl 7 k = none ∨ ((k = 6 ∨ k = 7) ∧ dl 7 k = some 3) := by decide
theorem dl8 : ∀ k, k < 16 → dl 8 k = none ∨ (k = 2 ∧ dl 8 k = some 9) := by decide
theorem dl9 : ∀ k, k < 16 → dl 9 k = none ∨ ((k = 6 ∨ k = 7) ∧ dl 9 k = some 5) := by decide
theorem dl10 : ∀ k, k < 16 → dl 10 k = none ∨ (k = 2 ∧ dl 10 k = some 5) := by decide
theorem dl11 : ∀ k, k < 16 → dl 11 k = none ∨ (k = 2 ∧ dl 11 k = some 12) := by decide
theorem dl12 : ∀ k, k < 16 → dl 12 k = none ∨ ((k = 13 ∨ k = 14) ∧ dl 12 k = some 3) := by decide
theorem dl13 : ∀ k, k < 16 → dl 13 k = none ∨ (k = 2 ∧ dl 13 k = some 3) := by decide
theorem dl4 : ∀ k, k < 16 → dl 4 k = none ∨ ((k = 6 ∨ k = 7 ∨ k = 8) ∧ dl 4 k = some 5) ∨ (k = 9 ∧ dl 4 k = some 7) ∨ (k = 10 ∧ dl 4 k = some 8) ∨ (k = 11 ∧ dl 4 k = some 10) ∨ (k = 12 ∧ dl 4 k = some 11) ∨ (k = 15 ∧ dl 4 k = some 13) := by decide
theorem dl0 : ∀ k, k < 16 → dl 0 k = none ∨ (k = 5 ∧ dl 0 k = some 1) := by decide
theorem dl1 : ∀ k, k < 16 → dl 1 k = none ∨ (k = 2 ∧ dl 1 k = some 2) := by decide
theorem dl2 : ∀ k, k < 16 → dl 2 k = none ∨ (k = 2 ∧ dl 2 k = some 3) := by decide
theorem dl_4 : ∀ v, v < 14 → ∀ k, k < 16 → (dl v k = some 4 → k = 4) ∧ (k = 4 → dl v k = none ∨ dl v k = some 4) := by decide
section LINES
variable {b : Nat → Int32} {m T : Nat}
/-- the text that the grammar lets pass -/
def OKT (b : Nat → Int32) (m T : Nat) : Prop := ws b m T = some 4 ∧ T ≤ 400 ∧ tKd b m T = 0
theorem OKT_of (h : cutR b m T 0 0) : OKT b m T := by
  obtain ⟨w, h1, h2⟩ := h
  rcases h2 with ⟨-, -, a, c, rfl⟩ | ⟨a, -⟩ | ⟨a, -⟩
  · exact ⟨h1, a, c⟩
  · cases a
  · cases a
theorem ws_go (hT : OKT b m T) {t w : Nat} (h : ws b m t = some w) (ht : t ≤ T) (hw : w ≠ 4) : t < T ∧ tKd b m t ≠ 0 ∧ tKd b m t < 16 ∧ ∃ u, dl w (tKd b m t) = some u ∧ ws b m (t + 1) = some u := by
  have hne : t ≠ T := fun z => by
    rw [z, hT.1] at h
    cases h
    exact hw rfl
  have hlt : t < T := by omega
  obtain ⟨v, v1, v2, u, v3, v4⟩ := ws_pre T 4 hT.1 t hlt
  rw [h] at v1
  cases v1
  exact ⟨hlt, v2, by have := tKd_b (b := b) (m := m) t; omega, u, v3, v4⟩
theorem end_at (hT : OKT b m T) {t : Nat} (h : ws b m t = some 3) (ht : t ≤ T) : tKd b m t = 4 ∧ ws b m (t + 1) = some 4 ∧ t + 1 ≤ T := by
  obtain ⟨h1, h2, h3, u, h4, h5⟩ := ws_go hT h ht (by omega)
  rcases dl3 _ h3 with z | ⟨z1, z2⟩
  · rw [z] at h4; cases h4
  · rw [z2] at h4; cases h4
    exact ⟨z1, h5, by omega⟩
theorem J_at (hT : OKT b m T) {t : Nat} (h : ws b m t = some 5) (ht : t ≤ T) : isJt b m t ∧ tKd b m (t + jlT b m t) = 4 ∧ ws b m (t + jlT b m t + 1) = some 4 ∧ t + jlT b m t + 1 ≤ T := by
  obtain ⟨h1, h2, h3, u, h4, h5⟩ := ws_go hT h ht (by omega)
  rcases dl5 _ h3 with z | ⟨z1, z2⟩ | ⟨z1, z2⟩
  · rw [z] at h4; cases h4
  · rw [z2] at h4; cases h4
    obtain ⟨k1, k2, k3, u', k4, k5⟩ := ws_go hT h5 (by omega) (by omega)
    rcases dl6 _ k3 with y | ⟨y1, y2⟩
    · rw [y] at k4; cases k4
    · rw [y2] at k4; cases k4
      have e := end_at hT k5 (by omega)
      unfold jlT
      rw [if_pos z1]
      exact ⟨.inl ⟨z1, y1⟩, e⟩
  · rw [z2] at h4; cases h4
    have e := end_at hT h5 (by omega)
    unfold jlT
    rw [if_neg (by omega)]
    exact ⟨.inr z1, e⟩
/-- the shapes of a line -/
def LN1 (b : Nat → Int32) (m t : Nat) : Prop := (tKd b m t = 6 ∨ tKd b m t = 7 ∨ tKd b m t = 8) ∧ isJt b m (t + 1)
def LN2 (b : Nat → Int32) (m t : Nat) : Prop := tKd b m t = 9 ∧ (tKd b m (t + 1) = 6 ∨ tKd b m (t + 1) = 7)
def LN3 (b : Nat → Int32) (m t : Nat) : Prop := tKd b m t = 10 ∧ tKd b m (t + 1) = 2 ∧ (tKd b m (t + 2) = 6 ∨ tKd b m (t + 2) = 7) ∧ isJt b m (t + 3)
def LN4 (b : Nat → Int32) (m t : Nat) : Prop := tKd b m t = 11 ∧ tKd b m (t + 1) = 2 ∧ isJt b m (t + 2)
def LN5 (b : Nat → Int32) (m t : Nat) : Prop := tKd b m t = 12 ∧ tKd b m (t + 1) = 2 ∧ (tKd b m (t + 2) = 13 ∨ tKd b m (t + 2) = 14)
def LN6 (b : Nat → Int32) (m t : Nat) : Prop := tKd b m t = 15 ∧ tKd b m (t + 1) = 2
def lnE (b : Nat → Int32) (m t : Nat) : Nat := if tKd b m t = 9 ∨ tKd b m t = 15 then t + 2 else if tKd b m t = 10 then t + 3 + jlT b m (t + 3) else if tKd b m t = 11 then t + 2 + jlT b m (t + 2) else if tKd b m t = 12 then t + 3 else t + 1 + jlT b m (t + 1)
theorem line_at (hT : OKT b m T) {t : Nat} (h : ws b m t = some 4) (ht : t < T) : (LN1 b m t ∨ LN2 b m t ∨ LN3 b m t ∨ LN4 b m t ∨ LN5 b m t ∨ LN6 b m t) ∧ tKd b m (lnE b m t) = 4 ∧ ws b m (lnE b m t + 1) = some 4 ∧ lnE b m t + 1 ≤ T ∧ t < lnE b m t := by
  obtain ⟨v, v1, v2, u, v3, v4⟩ := ws_pre T 4 hT.1 t ht
  rw [h] at v1
  cases v1
  have k16 : tKd b m t < 16 := by have := tKd_b (b := b) (m := m) t; omega
  have jl1 : ∀ t, 1 ≤ jlT b m t := fun t => by unfold jlT; split <;> omega
  rcases dl4 _ k16 with z | ⟨z1, z2⟩ | ⟨z1, z2⟩ | ⟨z1, z2⟩ | ⟨z1, z2⟩ | ⟨z1, z2⟩ | ⟨z1, z2⟩
  · rw [z] at v3; cases v3
  · rw [z2] at v3; cases v3
    obtain ⟨a1, a2, a3, a4⟩ := J_at hT v4 (by omega)
    have e : lnE b m t = t + 1 + jlT b m (t + 1) := by
      unfold lnE
      rw [if_neg (by omega), if_neg (by omega), if_neg (by omega), if_neg (by omega)]
    rw [e]
    have := jl1 (t + 1)
    exact ⟨.inl ⟨z1, a1⟩, a2, a3, a4, by omega⟩
  · rw [z2] at v3; cases v3
    obtain ⟨k1, k2, k3, u', k4, k5⟩ := ws_go hT v4 (by omega) (by omega)
    rcases dl7 _ k3 with y | ⟨y1, y2⟩
    · rw [y] at k4; cases k4
    · rw [y2] at k4; cases k4
      obtain ⟨a1, a2, a3⟩ := end_at hT k5 (by omega)
      have e : lnE b m t = t + 2 := by unfold lnE; rw [if_pos (by omega)]
      rw [e]
      exact ⟨.inr (.inl ⟨z1, y1⟩), a1, a2, a3, by omega⟩
  · rw [z2] at v3; cases v3
    obtain ⟨k1, k2, k3, u', k4, k5⟩ := ws_go hT v4 (by omega) (by omega)
    rcases dl8 _ k3 with y | ⟨y1, y2⟩
    · rw [y] at k4; cases k4
    · rw [y2] at k4; cases k4
      obtain ⟨q1, q2, q3, u', q4, q5⟩ := ws_go hT k5 (by omega) (by omega)
      rcases dl9 _ q3 with x | ⟨x1, x2⟩
      · rw [x] at q4; cases q4
      · rw [x2] at q4; cases q4
        obtain ⟨a1, a2, a3, a4⟩ := J_at hT q5 (by omega)
        have e : lnE b m t = t + 3 + jlT b m (t + 3) := by unfold lnE; rw [if_neg (by omega), if_pos z1]
        rw [e]
        have := jl1 (t + 3)
        exact ⟨.inr (.inr (.inl ⟨z1, y1, x1, a1⟩)), a2, a3, a4, by omega⟩
  · rw [z2] at v3; cases v3
    obtain ⟨k1, k2, k3, u', k4, k5⟩ := ws_go hT v4 (by omega) (by omega)
    rcases dl10 _ k3 with y | ⟨y1, y2⟩
    · rw [y] at k4; cases k4
    · rw [y2] at k4; cases k4
      obtain ⟨a1, a2, a3, a4⟩ := J_at hT k5 (by omega)
      have e : lnE b m t = t + 2 + jlT b m (t + 2) := by unfold lnE; rw [if_neg (by omega), if_neg (by omega), if_pos z1]
      rw [e]
      have := jl1 (t + 2)
      exact ⟨.inr (.inr (.inr (.inl ⟨z1, y1, a1⟩))), a2, a3, a4, by omega⟩
  · rw [z2] at v3; cases v3
    obtain ⟨k1, k2, k3, u', k4, k5⟩ := ws_go hT v4 (by omega) (by omega)
    rcases dl11 _ k3 with y | ⟨y1, y2⟩
    · rw [y] at k4; cases k4
    · rw [y2] at k4; cases k4
      obtain ⟨q1, q2, q3, u', q4, q5⟩ := ws_go hT k5 (by omega) (by omega)
      rcases dl12 _ q3 with x | ⟨x1, x2⟩
      · rw [x] at q4; cases q4
      · rw [x2] at q4; cases q4
        obtain ⟨a1, a2, a3⟩ := end_at hT q5 (by omega)
        have e : lnE b m t = t + 3 := by unfold lnE; rw [if_neg (by omega), if_neg (by omega), if_neg (by omega), if_pos z1]
        rw [e]
        exact ⟨.inr (.inr (.inr (.inr (.inl ⟨z1, y1, x1⟩)))), a1, a2, a3, by omega⟩
  · rw [z2] at v3; cases v3
    obtain ⟨k1, k2, k3, u', k4, k5⟩ := ws_go hT v4 (by omega) (by omega)
    rcases dl13 _ k3 with y | ⟨y1, y2⟩
    · rw [y] at k4; cases k4
    · rw [y2] at k4; cases k4
      obtain ⟨a1, a2, a3⟩ := end_at hT k5 (by omega)
      have e : lnE b m t = t + 2 := by unfold lnE; rw [if_pos (by omega)]
      rw [e]
      exact ⟨.inr (.inr (.inr (.inr (.inr ⟨z1, y1⟩)))), a1, a2, a3, by omega⟩
/-- the head of the text -/
theorem head_at (hT : OKT b m T) : 4 ≤ T ∧ tKd b m 0 = 5 ∧ tKd b m 1 = 2 ∧ tKd b m 2 = 2 ∧ tKd b m 3 = 4 ∧ ws b m 4 = some 4 := by
  obtain ⟨h1, h2, h3, u, h4, h5⟩ := ws_go hT (t := 0) (w := 0) rfl (by omega) (by omega)
  rcases dl0 _ h3 with z | ⟨z1, z2⟩
  · rw [z] at h4; cases h4
  · rw [z2] at h4; cases h4
    obtain ⟨k1, k2, k3, u', k4, k5⟩ := ws_go hT h5 (by omega) (by omega)
    rcases dl1 _ k3 with y | ⟨y1, y2⟩
    · rw [y] at k4; cases k4
    · rw [y2] at k4; cases k4
      obtain ⟨q1, q2, q3, u', q4, q5⟩ := ws_go hT k5 (by omega) (by omega)
      rcases dl2 _ q3 with x | ⟨x1, x2⟩
      · rw [x] at q4; cases q4
      · rw [x2] at q4; cases q4
        obtain ⟨a1, a2, a3⟩ := end_at hT q5 (by omega)
        exact ⟨by omega, z1, y1, x1, a1, a2⟩
theorem ls_ws (hT : OKT b m T) {k : Nat} (h4 : 4 ≤ k) (hk : k ≤ T) : lsB b m k = true ↔ ws b m k = some 4 := by
  obtain ⟨v, v1, v2, u, v3, v4⟩ := ws_pre T 4 hT.1 (k - 1) (by omega)
  have v14 := ws_b (k - 1) v v1
  have k16 : tKd b m (k - 1) < 16 := by have := tKd_b (b := b) (m := m) (k - 1); omega
  have d := dl_4 v v14 _ k16
  rw [show k - 1 + 1 = k by omega] at v4
  unfold lsB
  rw [decide_eq_true h4, Bool.true_and, decide_eq_true_eq, v4]
  constructor
  · intro z
    rcases d.2 z with y | y
    · rw [y] at v3; cases v3
    · rw [y] at v3; exact v3.symm
  · intro z
    cases z
    exact d.1 v3
/-- inside a line no line begins -/
theorem ls_no (hT : OKT b m T) {t : Nat} (h : ws b m t = some 4) (ht : t < T) {i : Nat} (h1 : t < i) (h2 : i ≤ lnE b m t) : lsB b m i = false := by
  have hnot : tKd b m (i - 1) ≠ 4 := by
    obtain ⟨hl, -⟩ := line_at hT h ht
    have jb : ∀ s, isJt b m s → (tKd b m s = 3 ∧ jlT b m s = 2 ∧ tKd b m (s + 1) = 2) ∨ (tKd b m s = 2 ∧ jlT b m s = 1) := fun s hs => by
      unfold jlT
      rcases hs with ⟨a1, a2⟩ | a1
      · left; rw [if_pos a1]; exact ⟨a1, rfl, a2⟩
      · right; rw [if_neg (by omega)]; exact ⟨a1, rfl⟩
    unfold lnE at h2
    rcases hl with ⟨a1, a2⟩ | ⟨a1, a2⟩ | ⟨a1, a2, a3, a4⟩ | ⟨a1, a2, a3⟩ | ⟨a1, a2, a3⟩ | ⟨a1, a2⟩
    · rw [if_neg (by omega), if_neg (by omega), if_neg (by omega), if_neg (by omega)] at h2
      rcases jb _ a2 with ⟨c1, c2, c3⟩ | ⟨c1, c2⟩
      · rw [c2] at h2
        rcases (show i - 1 = t ∨ i - 1 = t + 1 ∨ i - 1 = t + 1 + 1 by omega) with e | e | e <;> rw [e] <;> omega
      · rw [c2] at h2
        rcases (show i - 1 = t ∨ i - 1 = t + 1 by omega) with e | e <;> rw [e] <;> omega
    · rw [if_pos (by omega)] at h2
      rcases (show i - 1 = t ∨ i - 1 = t + 1 by omega) with e | e <;> rw [e] <;> omega
    · rw [if_neg (by omega), if_pos a1] at h2
      rcases jb _ a4 with ⟨c1, c2, c3⟩ | ⟨c1, c2⟩
      · rw [c2] at h2
        rcases (show i - 1 = t ∨ i - 1 = t + 1 ∨ i - 1 = t + 2 ∨ i - 1 = t + 3 ∨ i - 1 = t + 3 + 1 by omega) with e | e | e | e | e <;> rw [e] <;> omega
      · rw [c2] at h2
        rcases (show i - 1 = t ∨ i - 1 = t + 1 ∨ i - 1 = t + 2 ∨ i - 1 = t + 3 by omega) with e | e | e | e <;> rw [e] <;> omega
    · rw [if_neg (by omega), if_neg (by omega), if_pos a1] at h2
      rcases jb _ a3 with ⟨c1, c2, c3⟩ | ⟨c1, c2⟩
      · rw [c2] at h2
        rcases (show i - 1 = t ∨ i - 1 = t + 1 ∨ i - 1 = t + 2 ∨ i - 1 = t + 2 + 1 by omega) with e | e | e | e <;> rw [e] <;> omega
      · rw [c2] at h2
        rcases (show i - 1 = t ∨ i - 1 = t + 1 ∨ i - 1 = t + 2 by omega) with e | e | e <;> rw [e] <;> omega
    · rw [if_neg (by omega), if_neg (by omega), if_neg (by omega), if_pos a1] at h2
      rcases (show i - 1 = t ∨ i - 1 = t + 1 ∨ i - 1 = t + 2 by omega) with e | e | e <;> rw [e] <;> omega
    · rw [if_pos (by omega)] at h2
      rcases (show i - 1 = t ∨ i - 1 = t + 1 by omega) with e | e <;> rw [e] <;> omega
  unfold lsB
  rw [decide_eq_false hnot, Bool.and_false]
end LINES
/-- what was told so far, token by token -/
def foldL {α : Type} (b : Nat → Int32) (m : Nat) (a0 : α) (f : Nat → α → α) : Nat → α
  | 0 => a0
  | k + 1 => if lsB b m k then f k (foldL b m a0 f k) else foldL b m a0 f k
theorem foldL_4 {α : Type} {b : Nat → Int32} {m : Nat} (a0 : α) (f : Nat → α → α) : ∀ k, k ≤ 4 → foldL b m a0 f k = a0
  | 0, _ => rfl
  | k + 1, h => by
    rw [foldL]
    have : lsB b m k = false := by unfold lsB; rw [decide_eq_false (by omega), Bool.false_and]
    rw [this, if_neg (by decide)]
    exact foldL_4 a0 f k (by omega)
theorem foldL_no {α : Type} {b : Nat → Int32} {m : Nat} (a0 : α) (f : Nat → α → α) {t : Nat} : ∀ e, t ≤ e → (∀ i, t ≤ i → i < e → lsB b m i = false) → foldL b m a0 f e = foldL b m a0 f t
  | 0, h, _ => by rw [show t = 0 by omega]
  | e + 1, h, hn => by
    by_cases z : t = e + 1
    · rw [z]
    · rw [foldL, hn e (by omega) (by omega), if_neg (by decide)]
      exact foldL_no a0 f e (by omega) (fun i h1 h2 => hn i h1 (by omega))
/-- over a whole line -/
theorem foldL_line {α : Type} {b : Nat → Int32} {m T : Nat} (a0 : α) (f : Nat → α → α) (hT : OKT b m T) {t : Nat} (h4 : 4 ≤ t) (h : ws b m t = some 4) (ht : t < T) : foldL b m a0 f (lnE b m t + 1) = f t (foldL b m a0 f t) := by
  have hl := (line_at hT h ht).2.2.2.2
  rw [foldL_no a0 f (t := t + 1) (lnE b m t + 1) (by omega) (fun i h1 h2 => ls_no hT h ht (by omega) (by omega)), foldL, (ls_ws hT h4 (by omega)).mpr h, if_pos rfl]
end
section
/-! what a text means, what is wrong with it -/
section MEAN
variable {b : Nat → Int32} {m T w l r : Nat}
def aLL (b : Nat → Int32) (m c : Nat) : Nat → Int := foldL b m 0 (fun k a => if tKd b m k = c then jvT b m (k + 1) else a)
def sDD (b : Nat → Int32) (m : Nat) : Nat → Nat := foldL b m 0 (fun k a => if tKd b m k = 15 then tNu b m (k + 1) else a)
def tpl (b : Nat → Int32) (m k : Nat) : Nat := if tKd b m (k + 2) = 7 then 16 + tNu b m (k + 1) else tNu b m (k + 1)
def tII (b : Nat → Int32) (m t : Nat) : Nat → Option Int := foldL b m none (fun k a => if tKd b m k = 10 ∧ tpl b m k = t then some (jvT b m (k + 3)) else a)
def pUU (b : Nat → Int32) (m i : Nat) : Nat → Option Int := foldL b m none (fun k a => if tKd b m k = 11 ∧ tNu b m (k + 1) = i then some (jvT b m (k + 2)) else a)
def pII (b : Nat → Int32) (m i : Nat) : Nat → Nat := foldL b m 0 (fun k a => if tKd b m k = 12 ∧ tNu b m (k + 1) = i then (if tKd b m (k + 2) = 13 then 1 else 2) else a)
def szF (w l : Nat) : Option (Nat × Nat) := if w < 1 ∨ 4 < w then some (3, 1) else if l < 1 ∨ 16 < l ∨ 16 < w * l then some (3, 2) else none
def badS (b : Nat → Int32) (m w l r k : Nat) : Bool := decide (w * l ≤ tNu b m (k + 1)) || (decide (tKd b m k = 10) && (gTo (w, l, r) (tpl b m k)).isNone)
def linF (b : Nat → Int32) (m w l r k : Nat) : Option (Nat × Nat) := if tKd b m k = 6 ∨ tKd b m k = 7 ∨ tKd b m k = 8 then (if 3 < tNu b m (jnT b m (k + 1)) then some (3, jnT b m (k + 1)) else none) else if tKd b m k = 10 then (if badS b m w l r k then some (4, k + 1) else if 3 < tNu b m (jnT b m (k + 3)) then some (3, jnT b m (k + 3)) else none) else if tKd b m k = 11 then (if badS b m w l r k then some (4, k + 1) else if 3 < tNu b m (jnT b m (k + 2)) then some (3, jnT b m (k + 2)) else none) else if tKd b m k = 12 then (if badS b m w l r k then some (4, k + 1) else none) else none
def fFF (b : Nat → Int32) (m w l r : Nat) : Nat → Option (Nat × Nat) := foldL b m (szF w l) (fun k a => match a with
  | some x => some x
  | none => linF b m w l r k)
/-- a wrong token of a line, as the model meets it -/
def clL (b : Nat → Int32) (m : Nat) (β : Nat → Bool) (k c j : Nat) : Prop := ((tKd b m k = 6 ∨ tKd b m k = 7 ∨ tKd b m k = 8) ∧ 3 < tNu b m (jnT b m (k + 1)) ∧ c = 3 ∧ j = jnT b m (k + 1)) ∨ ((tKd b m k = 10 ∨ tKd b m k = 11 ∨ tKd b m k = 12) ∧ β k = true ∧ c = 4 ∧ j = k + 1) ∨ (tKd b m k = 10 ∧ 3 < tNu b m (jnT b m (k + 3)) ∧ c = 3 ∧ j = jnT b m (k + 3)) ∨ (tKd b m k = 11 ∧ 3 < tNu b m (jnT b m (k + 2)) ∧ c = 3 ∧ j = jnT b m (k + 2))
theorem jn_b (t : Nat) : t ≤ jnT b m t ∧ jnT b m t < t + jlT b m t := by
  unfold jnT jlT
  split <;> omega
theorem fF_none : ∀ e, fFF b m w l r e = none → szF w l = none ∧ ∀ k, k < e → lsB b m k = true → linF b m w l r k = none
  | 0, h => ⟨h, fun k hk => by omega⟩
  | e + 1, h => by
    unfold fFF at h
    rw [foldL] at h
    by_cases hl : lsB b m e = true
    · rw [if_pos hl] at h
      cases hf : fFF b m w l r e with
      | some x =>
        unfold fFF at hf
        rw [hf] at h; cases h
      | none =>
        obtain ⟨h1, h2⟩ := fF_none e hf
        unfold fFF at hf
        rw [hf] at h
        refine ⟨h1, fun k hk hk2 => ?_⟩
        by_cases z : k = e
        · rw [z]; exact h
        · exact h2 k (by omega) hk2
    · rw [if_neg hl] at h
      obtain ⟨h1, h2⟩ := fF_none e h
      refine ⟨h1, fun k hk hk2 => ?_⟩
      by_cases z : k = e
      · rw [z] at hk2; exact absurd hk2 hl
      · exact h2 k (by omega) hk2
theorem fF_some {x : Nat × Nat} : ∀ e, fFF b m w l r e = some x → szF w l = some x ∨ (szF w l = none ∧ ∃ k, k < e ∧ lsB b m k = true ∧ linF b m w l r k = some x ∧ fFF b m w l r k = none)
  | 0, h => .inl h
  | e + 1, h => by
    have h' := h
    unfold fFF at h
    rw [foldL] at h
    by_cases hl : lsB b m e = true
    · rw [if_pos hl] at h
      cases hf : fFF b m w l r e with
      | some y =>
        have hf' := hf
        unfold fFF at hf
        rw [hf] at h
        have h : some y = some x := h
        rw [h] at hf'
        rcases fF_some e hf' with z | ⟨z, k, k1, k2, k3, k4⟩
        · exact .inl z
        · exact .inr ⟨z, k, by omega, k2, k3, k4⟩
      | none =>
        have h1 := fF_none e hf
        have hf' := hf
        unfold fFF at hf
        rw [hf] at h
        exact .inr ⟨h1.1, e, by omega, hl, h, hf'⟩
    · rw [if_neg hl] at h
      rcases fF_some e h with z | ⟨z, k, k1, k2, k3, k4⟩
      · exact .inl z
      · exact .inr ⟨z, k, by omega, k2, k3, k4⟩
theorem lsB_4 {k : Nat} (h : lsB b m k = true) : 4 ≤ k := by
  unfold lsB at h
  simp only [Bool.and_eq_true, decide_eq_true_eq] at h
  exact h.1
/-- the first wrong token of a line lies in it, and no other of its wrong ones lies before it -/
theorem lin_in (hT : OKT b m T) {k c j : Nat} (hk : k < T) (hl : lsB b m k = true) (h : linF b m w l r k = some (c, j)) : k < j ∧ j < lnE b m k ∧ (c = 3 ∨ c = 4) ∧ clL b m (badS b m w l r) k c j ∧ ∀ c' j', clL b m (badS b m w l r) k c' j' → j < j' ∨ (j = j' ∧ c' = c) := by
  have hws := (ls_ws hT (lsB_4 hl) (by omega)).mp hl
  obtain ⟨hline, -, -, -, -⟩ := line_at hT hws hk
  have j1 := jn_b (b := b) (m := m) (k + 1)
  have j2 := jn_b (b := b) (m := m) (k + 2)
  have j3 := jn_b (b := b) (m := m) (k + 3)
  unfold linF at h
  unfold lnE clL
  by_cases a1 : tKd b m k = 6 ∨ tKd b m k = 7 ∨ tKd b m k = 8
  · rw [if_pos a1] at h
    rw [if_neg (by omega), if_neg (by omega), if_neg (by omega), if_neg (by omega)]
    split at h
    · next q =>
      cases h
      refine ⟨by omega, by omega, .inl rfl, .inl ⟨a1, q, rfl, rfl⟩, fun c' j' hc => ?_⟩
      rcases hc with ⟨-, -, z1, z2⟩ | ⟨z, -⟩ | ⟨z, -⟩ | ⟨z, -⟩ <;> omega
    · cases h
  · rw [if_neg a1] at h
    by_cases a2 : tKd b m k = 10
    · rw [if_pos a2] at h
      rw [if_neg (by omega), if_pos a2]
      split at h
      · next q =>
        cases h
        refine ⟨by omega, by omega, .inr rfl, .inr (.inl ⟨.inl a2, q, rfl, rfl⟩), fun c' j' hc => ?_⟩
        rcases hc with ⟨z, -⟩ | ⟨-, -, z1, z2⟩ | ⟨-, -, z1, z2⟩ | ⟨z, -⟩ <;> omega
      · next q =>
        split at h
        · next q2 =>
          cases h
          refine ⟨by omega, by omega, .inl rfl, .inr (.inr (.inl ⟨a2, q2, rfl, rfl⟩)), fun c' j' hc => ?_⟩
          rcases hc with ⟨z, -⟩ | ⟨-, z, -⟩ | ⟨-, -, z1, z2⟩ | ⟨z, -⟩
          · omega
          · exact absurd z q
          · omega
          · omega
        · cases h
    · rw [if_neg a2] at h
      by_cases a3 : tKd b m k = 11
      · rw [if_pos a3] at h
        rw [if_neg (by omega), if_neg a2, if_pos a3]
        split at h
        · next q =>
          cases h
          refine ⟨by omega, by omega, .inr rfl, .inr (.inl ⟨.inr (.inl a3), q, rfl, rfl⟩), fun c' j' hc => ?_⟩
          rcases hc with ⟨z, -⟩ | ⟨-, -, z1, z2⟩ | ⟨z, -⟩ | ⟨-, -, z1, z2⟩ <;> omega
        · next q =>
          split at h
          · next q2 =>
            cases h
            refine ⟨by omega, by omega, .inl rfl, .inr (.inr (.inr ⟨a3, q2, rfl, rfl⟩)), fun c' j' hc => ?_⟩
            rcases hc with ⟨z, -⟩ | ⟨-, z, -⟩ | ⟨z, -⟩ | ⟨-, -, z1, z2⟩
            · omega
            · exact absurd z q
            · omega
            · omega
          · cases h
      · rw [if_neg a3] at h
        by_cases a4 : tKd b m k = 12
        · rw [if_pos a4] at h
          rw [if_neg (by omega), if_neg a2, if_neg a3, if_pos a4]
          split at h
          · next q =>
            cases h
            refine ⟨by omega, by omega, .inr rfl, .inr (.inl ⟨.inr (.inr a4), q, rfl, rfl⟩), fun c' j' hc => ?_⟩
            rcases hc with ⟨z, -⟩ | ⟨-, -, z1, z2⟩ | ⟨z, -⟩ | ⟨z, -⟩ <;> omega
          · cases h
        · rw [if_neg a4] at h; cases h
theorem lin_cl {k c j : Nat} (h : linF b m w l r k = none) : ¬ clL b m (badS b m w l r) k c j := by
  intro hc
  unfold linF at h
  rcases hc with ⟨a1, a2, -⟩ | ⟨a1, a2, -⟩ | ⟨a1, a2, -⟩ | ⟨a1, a2, -⟩
  · rw [if_pos a1, if_pos a2] at h; cases h
  · rw [if_neg (by omega)] at h
    rcases a1 with z | z | z
    · rw [if_pos z, if_pos a2] at h; cases h
    · rw [if_neg (by omega), if_pos z, if_pos a2] at h; cases h
    · rw [if_neg (by omega), if_neg (by omega), if_pos z, if_pos a2] at h; cases h
  · rw [if_neg (by omega), if_pos a1] at h
    split at h
    · cases h
    · cases h
  · rw [if_neg (by omega), if_neg (by omega), if_pos a1] at h
    split at h
    · cases h
    · cases h
theorem szF_in {c j : Nat} (h : szF w l = some (c, j)) : c = 3 ∧ (j = 1 ∨ j = 2) := by
  unfold szF at h
  split at h
  · cases h; omega
  · split at h
    · cases h; omega
    · cases h
theorem cl_low {β : Nat → Bool} {k c j : Nat} (h : clL b m β k c j) : k < j := by
  have j1 := jn_b (b := b) (m := m) (k + 1)
  have j2 := jn_b (b := b) (m := m) (k + 2)
  have j3 := jn_b (b := b) (m := m) (k + 3)
  rcases h with ⟨-, -, -, z⟩ | ⟨-, -, -, z⟩ | ⟨-, -, -, z⟩ | ⟨-, -, -, z⟩ <;> omega
/-- of all wrong tokens the class's is the first -/
theorem ff_first (hT : OKT b m T) {c i : Nat} (h : fFF b m w l r T = some (c, i)) {β : Nat → Bool} (hβ : szF w l = none → β = badS b m w l r) {k c' j' : Nat} (hk : k < T) (hl : lsB b m k = true) (hc : clL b m β k c' j') : i < j' ∨ (i = j' ∧ c' = c) := by
  have low := cl_low hc
  have k4 := lsB_4 hl
  rcases fF_some T h with z | ⟨z, k0, k1, k2, k3, k4'⟩
  · have := szF_in z
    omega
  · rw [hβ z] at hc
    have hin := lin_in hT k1 k2 k3
    rcases Nat.lt_trichotomy k k0 with y | y | y
    · have := (fF_none k0 k4').2 k y hl
      exact absurd hc (lin_cl this)
    · rw [y] at hc
      exact hin.2.2.2.2 c' j' hc
    · have hws := (ls_ws hT (lsB_4 k2) (by omega)).mp k2
      have : lnE b m k0 < k := by
        apply Classical.byContradiction
        intro q
        have := ls_no hT hws k1 y (by omega)
        rw [hl] at this; cases this
      omega
theorem ff_reach (hT : OKT b m T) {c i : Nat} (h : fFF b m w l r T = some (c, i)) (hz : szF w l = none) : ∃ k, k < T ∧ lsB b m k = true ∧ clL b m (badS b m w l r) k c i := by
  rcases fF_some T h with z | ⟨z, k0, k1, k2, k3, -⟩
  · rw [hz] at z; cases z
  · exact ⟨k0, k1, k2, (lin_in hT k1 k2 k3).2.2.2.1⟩
theorem ff_in (hT : OKT b m T) {c i : Nat} (h : fFF b m w l r T = some (c, i)) : (c = 3 ∨ c = 4) ∧ 0 < i ∧ i < T := by
  have h4 := (head_at hT).1
  rcases fF_some T h with z | ⟨z, k0, k1, k2, k3, -⟩
  · have := szF_in z
    omega
  · have hin := lin_in hT k1 k2 k3
    have hws := (ls_ws hT (lsB_4 k2) (by omega)).mp k2
    have := (line_at hT hws k1).2.2.2.1
    exact ⟨hin.2.2.1, by omega, by omega⟩
end MEAN
end
section
/-! the class takes tokens -/
theorem bt_1 : ∀ j, j < 32 → bt 1 j = decide (j = 0) := by decide +kernel
theorem bit_bt {x : Int32} {t : Nat} (ht : t < 32) : f_X11_bitOf x (nI t) = some (if bt x t then 1 else 0) := by
  unfold f_X11_bitOf
  congr 1
  apply b_ext
  intro i hi
  rw [b_and, b_sshr t ht x hi, bt_1 i hi]
  by_cases h : i = 0
  · rw [h, Nat.add_zero, if_pos ht, decide_eq_true rfl, Bool.and_true]
    cases bt x t <;> decide
  · rw [decide_eq_false h, Bool.and_false]
    cases bt x t
    · exact (b_0 i).symm
    · rw [if_pos rfl, bt_1 i hi, decide_eq_false h]
theorem bt_set {x : Int32} {n i : Nat} (hn : n < 32) (hi : i < 32) : bt (x ||| ((1 : Int32) <<< (nI n &&& 31))) i = (bt x i || decide (i = n)) := by
  rw [b_or, b_shl n hn 1 hi]
  congr 1
  by_cases h : n ≤ i
  · rw [decide_eq_true h, Bool.true_and, bt_1 _ (by omega)]
    by_cases z : i = n
    · rw [decide_eq_true z, decide_eq_true (by omega)]
    · rw [decide_eq_false z, decide_eq_false (by omega)]
  · rw [decide_eq_false h, Bool.false_and, decide_eq_false (by omega)]
section TAKE
variable {σ : XS} {J : Nat → Nat → Int32} {b : Nat → Int32} {m T : Nat}
/-- the class's tokens at hand -/
def CT (J : Nat → Nat → Int32) (b : Nat → Int32) (m T : Nat) : Prop := OKT b m T ∧ J 3 5 = nI T ∧ TKC J b m T
theorem CT_c {J' : Nat → Nat → Int32} (h : ∀ a q, a ≠ 2 → a ≠ 8 → a ≠ 9 → a ≠ 10 → J' a q = J a q) (H : CT J b m T) : CT J' b m T := by
  obtain ⟨h1, h2, h3⟩ := H
  refine ⟨h1, by rw [h _ _ (by omega) (by omega) (by omega) (by omega)]; exact h2, fun i hi => ?_⟩
  rw [h 5 i (by omega) (by omega) (by omega) (by omega), h 7 i (by omega) (by omega) (by omega) (by omega), h 6 i (by omega) (by omega) (by omega) (by omega)]
  exact h3 i hi
theorem kindAt_ok (hS : Shp σ) (hC : CT J b m T) {i : Nat} (hi : i ≤ T) : f_X8_kindAt (xw σ J) 3 (nI i) = some (nI (tKd b m i)) := by
  obtain ⟨h1, h2, h3⟩ := hC
  have hT := h1.2.1
  unfold f_X8_kindAt
  rw [if_neg (nI_pos (by omega))]
  by_cases z : i = T
  · have q1 : (nI T ≤ nI i) = True := by rw [nn_le (by omega) (by omega)]; exact eq_true (by omega)
    simp (disch := first | assumption | omega) only [Option.bind_some, Option.map_some, xw_gR, xw_gN, xw_al, xw_ck, xw_uI, xw_ur, xup_at, xur_at, if_true, if_false, reduceIte, and_true, true_and, and_false, false_and, not_true_eq_false, not_false_eq_true, Nat.reduceEqDiff, eq_self, Nat.reduceAdd, Nat.reduceMul, kC1, kG1, kP1, kR1_0, kR1_1, kR1_2, kR1_3, kR1_4, kR1_5, kR1_6, kR1_7, kR1_8, kR1_9, kR1_10, kR1_11, kR1_12, kR1_13, kC2, kG2, kP2, kR2_0, kR2_1, kC3, kG3, kP3, kR3_0, kR3_1, kR3_2, kR3_3, kL4, kA4, kS4, kL5, kA5, kS5, kL6, kA6, kS6, kL7, kA7, kS7, kC8, kG8, kP8, kR8_0, kR8_1, kL9, kA9, kS9, kL10, kA10, kS10, kC11, kG11, kP11, kR11_0, kR11_1, kR11_2, kR11_3, kL12, kA12, kS12, kL13, kA13, kS13, kL14, kA14, kS14, kL15, kA15, kS15, kC16, kG16, kP16, kR16_0, kR16_1, kL17, kA17, kS17, kL18, kA18, kS18, kC19, kG19, kP19, kR19_0, kL20, kL141, kL146, kA146, kS146, kL151, kA151, kS151, kL156, kA156, kS156, kC157, kG157, kP157, kR157_0, kR157_1, kL158, kA158, kS158, kL159, kA159, kS159, kC161, kG161, kP161, kR161_0, kR161_1, kL162, kA162, kS162, kL163, kA163, kS163, kC165, kG165, kP165, kR165_0, kR165_1, kR165_2, kR165_3, kL166, kA166, kS166, kL167, kA167, kS167, kL168, kA168, kS168, kL169, kA169, kS169, kC170, kG170, kP170, kR170_0, kR170_1, kR170_2, kL171, kA171, kS171, kL172, kA172, kS172, kL173, kA173, kS173, kC174, kG174, kP174, kR174_0, kR174_1, kR174_2, kR174_3, kR174_4, kL175, kA175, kS175, kL176, kA176, kS176, kL177, kA177, kS177, kL178, kA178, kS178, kL179, kC180, kG180, kP180, kL181, kL182, kA182, kS182, kC183, kG183, kP183, kR183_1, kR183_3, kR183_5, kR183_6, kR183_7, kR183_8, kR183_9, kR183_21, kR183_26, kR183_27, kR183_30, kR183_31, kR183_33, kR183_34, kR183_36, kR183_37, kR183_38, kR183_39, kR183_40, kR183_41, kR183_42, kR183_43, kR183_44, kL184, kA184, kS184, kL185, kA185, kS185, kL186, kA186, kS186, kL187, kA187, kS187, kL188, kA188, kS188, kL189, kL190, kL191, kA191, kS191, kL192, kA192, kS192, kL193, kA193, kS193, kL194, kA194, kS194, kL195, kA195, kS195, kL196, kA196, kS196, kL197, kA197, kS197, kL198, kA198, kS198, kL199, kA199, kS199, kL200, kA200, kS200, kL201, kL202, kA202, kS202, kL203, kA203, kS203, kL204, kA204, kS204, kL205, kL206, kA206, kS206, h2, q1]
    rw [z, h1.2.2]; rfl
  · have q1 : (nI T ≤ nI i) = False := by rw [nn_le (by omega) (by omega)]; exact eq_false (by omega)
    have q2 : (nI 400 ≤ nI i) = False := by rw [nn_le (by omega) (by omega)]; exact eq_false (by omega)
    have i4 : i < 400 := by omega
    simp (disch := first | assumption | omega) only [Option.bind_some, Option.map_some, xw_gR, xw_gN, xw_al, xw_ck, xw_uI, xw_ur, xup_at, xur_at, if_true, if_false, reduceIte, and_true, true_and, and_false, false_and, not_true_eq_false, not_false_eq_true, Nat.reduceEqDiff, eq_self, Nat.reduceAdd, Nat.reduceMul, kC1, kG1, kP1, kR1_0, kR1_1, kR1_2, kR1_3, kR1_4, kR1_5, kR1_6, kR1_7, kR1_8, kR1_9, kR1_10, kR1_11, kR1_12, kR1_13, kC2, kG2, kP2, kR2_0, kR2_1, kC3, kG3, kP3, kR3_0, kR3_1, kR3_2, kR3_3, kL4, kA4, kS4, kL5, kA5, kS5, kL6, kA6, kS6, kL7, kA7, kS7, kC8, kG8, kP8, kR8_0, kR8_1, kL9, kA9, kS9, kL10, kA10, kS10, kC11, kG11, kP11, kR11_0, kR11_1, kR11_2, kR11_3, kL12, kA12, kS12, kL13, kA13, kS13, kL14, kA14, kS14, kL15, kA15, kS15, kC16, kG16, kP16, kR16_0, kR16_1, kL17, kA17, kS17, kL18, kA18, kS18, kC19, kG19, kP19, kR19_0, kL20, kL141, kL146, kA146, kS146, kL151, kA151, kS151, kL156, kA156, kS156, kC157, kG157, kP157, kR157_0, kR157_1, kL158, kA158, kS158, kL159, kA159, kS159, kC161, kG161, kP161, kR161_0, kR161_1, kL162, kA162, kS162, kL163, kA163, kS163, kC165, kG165, kP165, kR165_0, kR165_1, kR165_2, kR165_3, kL166, kA166, kS166, kL167, kA167, kS167, kL168, kA168, kS168, kL169, kA169, kS169, kC170, kG170, kP170, kR170_0, kR170_1, kR170_2, kL171, kA171, kS171, kL172, kA172, kS172, kL173, kA173, kS173, kC174, kG174, kP174, kR174_0, kR174_1, kR174_2, kR174_3, kR174_4, kL175, kA175, kS175, kL176, kA176, kS176, kL177, kA177, kS177, kL178, kA178, kS178, kL179, kC180, kG180, kP180, kL181, kL182, kA182, kS182, kC183, kG183, kP183, kR183_1, kR183_3, kR183_5, kR183_6, kR183_7, kR183_8, kR183_9, kR183_21, kR183_26, kR183_27, kR183_30, kR183_31, kR183_33, kR183_34, kR183_36, kR183_37, kR183_38, kR183_39, kR183_40, kR183_41, kR183_42, kR183_43, kR183_44, kL184, kA184, kS184, kL185, kA185, kS185, kL186, kA186, kS186, kL187, kA187, kS187, kL188, kA188, kS188, kL189, kL190, kL191, kA191, kS191, kL192, kA192, kS192, kL193, kA193, kS193, kL194, kA194, kS194, kL195, kA195, kS195, kL196, kA196, kS196, kL197, kA197, kS197, kL198, kA198, kS198, kL199, kA199, kS199, kL200, kA200, kS200, kL201, kL202, kA202, kS202, kL203, kA203, kS203, kL204, kA204, kS204, kL205, kL206, kA206, kS206, h2, q1, q2, (h3 i (by omega)).1]
theorem numAt_ok (hS : Shp σ) (hC : CT J b m T) {i : Nat} (hi : i < T) (hk : tKd b m i = 2) : f_X8_numberAt (xw σ J) 3 (nI i) = some (nI (tNu b m i)) := by
  obtain ⟨h1, h2, h3⟩ := hC
  have hT := h1.2.1
  unfold f_X8_numberAt
  rw [if_neg (nI_pos (by omega))]
  have q1 : (nI T ≤ nI i) = False := by rw [nn_le (by omega) (by omega)]; exact eq_false (by omega)
  have q2 : (nI 400 ≤ nI i) = False := by rw [nn_le (by omega) (by omega)]; exact eq_false (by omega)
  have i4 : i < 400 := by omega
  simp (disch := first | assumption | omega) only [Option.bind_some, Option.map_some, xw_gR, xw_gN, xw_al, xw_ck, xw_uI, xw_ur, xup_at, xur_at, if_true, if_false, reduceIte, and_true, true_and, and_false, false_and, not_true_eq_false, not_false_eq_true, Nat.reduceEqDiff, eq_self, Nat.reduceAdd, Nat.reduceMul, kC1, kG1, kP1, kR1_0, kR1_1, kR1_2, kR1_3, kR1_4, kR1_5, kR1_6, kR1_7, kR1_8, kR1_9, kR1_10, kR1_11, kR1_12, kR1_13, kC2, kG2, kP2, kR2_0, kR2_1, kC3, kG3, kP3, kR3_0, kR3_1, kR3_2, kR3_3, kL4, kA4, kS4, kL5, kA5, kS5, kL6, kA6, kS6, kL7, kA7, kS7, kC8, kG8, kP8, kR8_0, kR8_1, kL9, kA9, kS9, kL10, kA10, kS10, kC11, kG11, kP11, kR11_0, kR11_1, kR11_2, kR11_3, kL12, kA12, kS12, kL13, kA13, kS13, kL14, kA14, kS14, kL15, kA15, kS15, kC16, kG16, kP16, kR16_0, kR16_1, kL17, kA17, kS17, kL18, kA18, kS18, kC19, kG19, kP19, kR19_0, kL20, kL141, kL146, kA146, kS146, kL151, kA151, kS151, kL156, kA156, kS156, kC157, kG157, kP157, kR157_0, kR157_1, kL158, kA158, kS158, kL159, kA159, kS159, kC161, kG161, kP161, kR161_0, kR161_1, kL162, kA162, kS162, kL163, kA163, kS163, kC165, kG165, kP165, kR165_0, kR165_1, kR165_2, kR165_3, kL166, kA166, kS166, kL167, kA167, kS167, kL168, kA168, kS168, kL169, kA169, kS169, kC170, kG170, kP170, kR170_0, kR170_1, kR170_2, kL171, kA171, kS171, kL172, kA172, kS172, kL173, kA173, kS173, kC174, kG174, kP174, kR174_0, kR174_1, kR174_2, kR174_3, kR174_4, kL175, kA175, kS175, kL176, kA176, kS176, kL177, kA177, kS177, kL178, kA178, kS178, kL179, kC180, kG180, kP180, kL181, kL182, kA182, kS182, kC183, kG183, kP183, kR183_1, kR183_3, kR183_5, kR183_6, kR183_7, kR183_8, kR183_9, kR183_21, kR183_26, kR183_27, kR183_30, kR183_31, kR183_33, kR183_34, kR183_36, kR183_37, kR183_38, kR183_39, kR183_40, kR183_41, kR183_42, kR183_43, kR183_44, kL184, kA184, kS184, kL185, kA185, kS185, kL186, kA186, kS186, kL187, kA187, kS187, kL188, kA188, kS188, kL189, kL190, kL191, kA191, kS191, kL192, kA192, kS192, kL193, kA193, kS193, kL194, kA194, kS194, kL195, kA195, kS195, kL196, kA196, kS196, kL197, kA197, kS197, kL198, kA198, kS198, kL199, kA199, kS199, kL200, kA200, kS200, kL201, kL202, kA202, kS202, kL203, kA203, kS203, kL204, kA204, kS204, kL205, kL206, kA206, kS206, h2, q1, q2, (h3 i hi).2.2 hk]
theorem plAt_ok (hS : Shp σ) (hC : CT J b m T) {i : Nat} (hi : i < T) : f_X8_placeAt (xw σ J) 3 (nI i) = some (nI (tSt b m i)) := by
  obtain ⟨h1, h2, h3⟩ := hC
  have hT := h1.2.1
  unfold f_X8_placeAt
  rw [if_neg (nI_pos (by omega))]
  have q1 : (nI T ≤ nI i) = False := by rw [nn_le (by omega) (by omega)]; exact eq_false (by omega)
  have q2 : (nI 400 ≤ nI i) = False := by rw [nn_le (by omega) (by omega)]; exact eq_false (by omega)
  have i4 : i < 400 := by omega
  simp (disch := first | assumption | omega) only [Option.bind_some, Option.map_some, xw_gR, xw_gN, xw_al, xw_ck, xw_uI, xw_ur, xup_at, xur_at, if_true, if_false, reduceIte, and_true, true_and, and_false, false_and, not_true_eq_false, not_false_eq_true, Nat.reduceEqDiff, eq_self, Nat.reduceAdd, Nat.reduceMul, kC1, kG1, kP1, kR1_0, kR1_1, kR1_2, kR1_3, kR1_4, kR1_5, kR1_6, kR1_7, kR1_8, kR1_9, kR1_10, kR1_11, kR1_12, kR1_13, kC2, kG2, kP2, kR2_0, kR2_1, kC3, kG3, kP3, kR3_0, kR3_1, kR3_2, kR3_3, kL4, kA4, kS4, kL5, kA5, kS5, kL6, kA6, kS6, kL7, kA7, kS7, kC8, kG8, kP8, kR8_0, kR8_1, kL9, kA9, kS9, kL10, kA10, kS10, kC11, kG11, kP11, kR11_0, kR11_1, kR11_2, kR11_3, kL12, kA12, kS12, kL13, kA13, kS13, kL14, kA14, kS14, kL15, kA15, kS15, kC16, kG16, kP16, kR16_0, kR16_1, kL17, kA17, kS17, kL18, kA18, kS18, kC19, kG19, kP19, kR19_0, kL20, kL141, kL146, kA146, kS146, kL151, kA151, kS151, kL156, kA156, kS156, kC157, kG157, kP157, kR157_0, kR157_1, kL158, kA158, kS158, kL159, kA159, kS159, kC161, kG161, kP161, kR161_0, kR161_1, kL162, kA162, kS162, kL163, kA163, kS163, kC165, kG165, kP165, kR165_0, kR165_1, kR165_2, kR165_3, kL166, kA166, kS166, kL167, kA167, kS167, kL168, kA168, kS168, kL169, kA169, kS169, kC170, kG170, kP170, kR170_0, kR170_1, kR170_2, kL171, kA171, kS171, kL172, kA172, kS172, kL173, kA173, kS173, kC174, kG174, kP174, kR174_0, kR174_1, kR174_2, kR174_3, kR174_4, kL175, kA175, kS175, kL176, kA176, kS176, kL177, kA177, kS177, kL178, kA178, kS178, kL179, kC180, kG180, kP180, kL181, kL182, kA182, kS182, kC183, kG183, kP183, kR183_1, kR183_3, kR183_5, kR183_6, kR183_7, kR183_8, kR183_9, kR183_21, kR183_26, kR183_27, kR183_30, kR183_31, kR183_33, kR183_34, kR183_36, kR183_37, kR183_38, kR183_39, kR183_40, kR183_41, kR183_42, kR183_43, kR183_44, kL184, kA184, kS184, kL185, kA185, kS185, kL186, kA186, kS186, kL187, kA187, kS187, kL188, kA188, kS188, kL189, kL190, kL191, kA191, kS191, kL192, kA192, kS192, kL193, kA193, kS193, kL194, kA194, kS194, kL195, kA195, kS195, kL196, kA196, kS196, kL197, kA197, kS197, kL198, kA198, kS198, kL199, kA199, kS199, kL200, kA200, kS200, kL201, kL202, kA202, kS202, kL203, kA203, kS203, kL204, kA204, kS204, kL205, kL206, kA206, kS206, h2, q1, q2, (h3 i hi).2.1]
theorem tkKind (hS : Shp σ) (hC : CT J b m T) {c : Nat} (hc : c ≤ T) (h4 : J 2 4 = nI c) : f_X1_takeKind (xw σ J) 2 = some (nI (tKd b m c), xw σ (xup J 2 4 (nI (c + 1)))) := by
  have k := kindAt_ok (σ := σ) hS hC hc
  unfold f_X1_takeKind
  simp (disch := first | assumption | omega) only [Option.bind_some, Option.map_some, xw_gR, xw_gN, xw_al, xw_ck, xw_uI, xw_ur, xup_at, xur_at, if_true, if_false, reduceIte, and_true, true_and, and_false, false_and, not_true_eq_false, not_false_eq_true, Nat.reduceEqDiff, eq_self, Nat.reduceAdd, Nat.reduceMul, kC1, kG1, kP1, kR1_0, kR1_1, kR1_2, kR1_3, kR1_4, kR1_5, kR1_6, kR1_7, kR1_8, kR1_9, kR1_10, kR1_11, kR1_12, kR1_13, kC2, kG2, kP2, kR2_0, kR2_1, kC3, kG3, kP3, kR3_0, kR3_1, kR3_2, kR3_3, kL4, kA4, kS4, kL5, kA5, kS5, kL6, kA6, kS6, kL7, kA7, kS7, kC8, kG8, kP8, kR8_0, kR8_1, kL9, kA9, kS9, kL10, kA10, kS10, kC11, kG11, kP11, kR11_0, kR11_1, kR11_2, kR11_3, kL12, kA12, kS12, kL13, kA13, kS13, kL14, kA14, kS14, kL15, kA15, kS15, kC16, kG16, kP16, kR16_0, kR16_1, kL17, kA17, kS17, kL18, kA18, kS18, kC19, kG19, kP19, kR19_0, kL20, kL141, kL146, kA146, kS146, kL151, kA151, kS151, kL156, kA156, kS156, kC157, kG157, kP157, kR157_0, kR157_1, kL158, kA158, kS158, kL159, kA159, kS159, kC161, kG161, kP161, kR161_0, kR161_1, kL162, kA162, kS162, kL163, kA163, kS163, kC165, kG165, kP165, kR165_0, kR165_1, kR165_2, kR165_3, kL166, kA166, kS166, kL167, kA167, kS167, kL168, kA168, kS168, kL169, kA169, kS169, kC170, kG170, kP170, kR170_0, kR170_1, kR170_2, kL171, kA171, kS171, kL172, kA172, kS172, kL173, kA173, kS173, kC174, kG174, kP174, kR174_0, kR174_1, kR174_2, kR174_3, kR174_4, kL175, kA175, kS175, kL176, kA176, kS176, kL177, kA177, kS177, kL178, kA178, kS178, kL179, kC180, kG180, kP180, kL181, kL182, kA182, kS182, kC183, kG183, kP183, kR183_1, kR183_3, kR183_5, kR183_6, kR183_7, kR183_8, kR183_9, kR183_21, kR183_26, kR183_27, kR183_30, kR183_31, kR183_33, kR183_34, kR183_36, kR183_37, kR183_38, kR183_39, kR183_40, kR183_41, kR183_42, kR183_43, kR183_44, kL184, kA184, kS184, kL185, kA185, kS185, kL186, kA186, kS186, kL187, kA187, kS187, kL188, kA188, kS188, kL189, kL190, kL191, kA191, kS191, kL192, kA192, kS192, kL193, kA193, kS193, kL194, kA194, kS194, kL195, kA195, kS195, kL196, kA196, kS196, kL197, kA197, kS197, kL198, kA198, kS198, kL199, kA199, kS199, kL200, kA200, kS200, kL201, kL202, kA202, kS202, kL203, kA203, kS203, kL204, kA204, kS204, kL205, kL206, kA206, kS206, h4, k]
  rw [nI_succ]
theorem tkInt (hS : Shp σ) (hC : CT J b m T) {c : Nat} (hc : c < T) (hk : tKd b m c = 2) (h4 : J 2 4 = nI c) : f_X1_takeInt (xw σ J) 2 = some (nI (tNu b m c), xw σ (xup J 2 4 (nI (c + 1)))) := by
  have k := numAt_ok (σ := σ) hS hC hc hk
  unfold f_X1_takeInt
  simp (disch := first | assumption | omega) only [Option.bind_some, Option.map_some, xw_gR, xw_gN, xw_al, xw_ck, xw_uI, xw_ur, xup_at, xur_at, if_true, if_false, reduceIte, and_true, true_and, and_false, false_and, not_true_eq_false, not_false_eq_true, Nat.reduceEqDiff, eq_self, Nat.reduceAdd, Nat.reduceMul, kC1, kG1, kP1, kR1_0, kR1_1, kR1_2, kR1_3, kR1_4, kR1_5, kR1_6, kR1_7, kR1_8, kR1_9, kR1_10, kR1_11, kR1_12, kR1_13, kC2, kG2, kP2, kR2_0, kR2_1, kC3, kG3, kP3, kR3_0, kR3_1, kR3_2, kR3_3, kL4, kA4, kS4, kL5, kA5, kS5, kL6, kA6, kS6, kL7, kA7, kS7, kC8, kG8, kP8, kR8_0, kR8_1, kL9, kA9, kS9, kL10, kA10, kS10, kC11, kG11, kP11, kR11_0, kR11_1, kR11_2, kR11_3, kL12, kA12, kS12, kL13, kA13, kS13, kL14, kA14, kS14, kL15, kA15, kS15, kC16, kG16, kP16, kR16_0, kR16_1, kL17, kA17, kS17, kL18, kA18, kS18, kC19, kG19, kP19, kR19_0, kL20, kL141, kL146, kA146, kS146, kL151, kA151, kS151, kL156, kA156, kS156, kC157, kG157, kP157, kR157_0, kR157_1, kL158, kA158, kS158, kL159, kA159, kS159, kC161, kG161, kP161, kR161_0, kR161_1, kL162, kA162, kS162, kL163, kA163, kS163, kC165, kG165, kP165, kR165_0, kR165_1, kR165_2, kR165_3, kL166, kA166, kS166, kL167, kA167, kS167, kL168, kA168, kS168, kL169, kA169, kS169, kC170, kG170, kP170, kR170_0, kR170_1, kR170_2, kL171, kA171, kS171, kL172, kA172, kS172, kL173, kA173, kS173, kC174, kG174, kP174, kR174_0, kR174_1, kR174_2, kR174_3, kR174_4, kL175, kA175, kS175, kL176, kA176, kS176, kL177, kA177, kS177, kL178, kA178, kS178, kL179, kC180, kG180, kP180, kL181, kL182, kA182, kS182, kC183, kG183, kP183, kR183_1, kR183_3, kR183_5, kR183_6, kR183_7, kR183_8, kR183_9, kR183_21, kR183_26, kR183_27, kR183_30, kR183_31, kR183_33, kR183_34, kR183_36, kR183_37, kR183_38, kR183_39, kR183_40, kR183_41, kR183_42, kR183_43, kR183_44, kL184, kA184, kS184, kL185, kA185, kS185, kL186, kA186, kS186, kL187, kA187, kS187, kL188, kA188, kS188, kL189, kL190, kL191, kA191, kS191, kL192, kA192, kS192, kL193, kA193, kS193, kL194, kA194, kS194, kL195, kA195, kS195, kL196, kA196, kS196, kL197, kA197, kS197, kL198, kA198, kS198, kL199, kA199, kS199, kL200, kA200, kS200, kL201, kL202, kA202, kS202, kL203, kA203, kS203, kL204, kA204, kS204, kL205, kL206, kA206, kS206, h4, k]
  rw [nI_succ]
theorem blame_0 (hS : Shp σ) (h : J 2 2 = 0) (x y : Int32) : f_X1_blame (xw σ J) 2 x y = some (xw σ (xup (xup J 2 2 x) 2 3 y)) := by
  unfold f_X1_blame
  simp (disch := first | assumption | omega) only [Option.bind_some, Option.map_some, xw_gR, xw_gN, xw_al, xw_ck, xw_uI, xw_ur, xup_at, xur_at, if_true, if_false, reduceIte, and_true, true_and, and_false, false_and, not_true_eq_false, not_false_eq_true, Nat.reduceEqDiff, eq_self, Nat.reduceAdd, Nat.reduceMul, kC1, kG1, kP1, kR1_0, kR1_1, kR1_2, kR1_3, kR1_4, kR1_5, kR1_6, kR1_7, kR1_8, kR1_9, kR1_10, kR1_11, kR1_12, kR1_13, kC2, kG2, kP2, kR2_0, kR2_1, kC3, kG3, kP3, kR3_0, kR3_1, kR3_2, kR3_3, kL4, kA4, kS4, kL5, kA5, kS5, kL6, kA6, kS6, kL7, kA7, kS7, kC8, kG8, kP8, kR8_0, kR8_1, kL9, kA9, kS9, kL10, kA10, kS10, kC11, kG11, kP11, kR11_0, kR11_1, kR11_2, kR11_3, kL12, kA12, kS12, kL13, kA13, kS13, kL14, kA14, kS14, kL15, kA15, kS15, kC16, kG16, kP16, kR16_0, kR16_1, kL17, kA17, kS17, kL18, kA18, kS18, kC19, kG19, kP19, kR19_0, kL20, kL141, kL146, kA146, kS146, kL151, kA151, kS151, kL156, kA156, kS156, kC157, kG157, kP157, kR157_0, kR157_1, kL158, kA158, kS158, kL159, kA159, kS159, kC161, kG161, kP161, kR161_0, kR161_1, kL162, kA162, kS162, kL163, kA163, kS163, kC165, kG165, kP165, kR165_0, kR165_1, kR165_2, kR165_3, kL166, kA166, kS166, kL167, kA167, kS167, kL168, kA168, kS168, kL169, kA169, kS169, kC170, kG170, kP170, kR170_0, kR170_1, kR170_2, kL171, kA171, kS171, kL172, kA172, kS172, kL173, kA173, kS173, kC174, kG174, kP174, kR174_0, kR174_1, kR174_2, kR174_3, kR174_4, kL175, kA175, kS175, kL176, kA176, kS176, kL177, kA177, kS177, kL178, kA178, kS178, kL179, kC180, kG180, kP180, kL181, kL182, kA182, kS182, kC183, kG183, kP183, kR183_1, kR183_3, kR183_5, kR183_6, kR183_7, kR183_8, kR183_9, kR183_21, kR183_26, kR183_27, kR183_30, kR183_31, kR183_33, kR183_34, kR183_36, kR183_37, kR183_38, kR183_39, kR183_40, kR183_41, kR183_42, kR183_43, kR183_44, kL184, kA184, kS184, kL185, kA185, kS185, kL186, kA186, kS186, kL187, kA187, kS187, kL188, kA188, kS188, kL189, kL190, kL191, kA191, kS191, kL192, kA192, kS192, kL193, kA193, kS193, kL194, kA194, kS194, kL195, kA195, kS195, kL196, kA196, kS196, kL197, kA197, kS197, kL198, kA198, kS198, kL199, kA199, kS199, kL200, kA200, kS200, kL201, kL202, kA202, kS202, kL203, kA203, kS203, kL204, kA204, kS204, kL205, kL206, kA206, kS206, h]
theorem blame_1 (hS : Shp σ) (h : J 2 2 ≠ 0) (x y : Int32) : f_X1_blame (xw σ J) 2 x y = some (xw σ J) := by
  unfold f_X1_blame
  simp (disch := first | assumption | omega) only [Option.bind_some, Option.map_some, xw_gR, xw_gN, xw_al, xw_ck, xw_uI, xw_ur, xup_at, xur_at, if_true, if_false, reduceIte, and_true, true_and, and_false, false_and, not_true_eq_false, not_false_eq_true, Nat.reduceEqDiff, eq_self, Nat.reduceAdd, Nat.reduceMul, kC1, kG1, kP1, kR1_0, kR1_1, kR1_2, kR1_3, kR1_4, kR1_5, kR1_6, kR1_7, kR1_8, kR1_9, kR1_10, kR1_11, kR1_12, kR1_13, kC2, kG2, kP2, kR2_0, kR2_1, kC3, kG3, kP3, kR3_0, kR3_1, kR3_2, kR3_3, kL4, kA4, kS4, kL5, kA5, kS5, kL6, kA6, kS6, kL7, kA7, kS7, kC8, kG8, kP8, kR8_0, kR8_1, kL9, kA9, kS9, kL10, kA10, kS10, kC11, kG11, kP11, kR11_0, kR11_1, kR11_2, kR11_3, kL12, kA12, kS12, kL13, kA13, kS13, kL14, kA14, kS14, kL15, kA15, kS15, kC16, kG16, kP16, kR16_0, kR16_1, kL17, kA17, kS17, kL18, kA18, kS18, kC19, kG19, kP19, kR19_0, kL20, kL141, kL146, kA146, kS146, kL151, kA151, kS151, kL156, kA156, kS156, kC157, kG157, kP157, kR157_0, kR157_1, kL158, kA158, kS158, kL159, kA159, kS159, kC161, kG161, kP161, kR161_0, kR161_1, kL162, kA162, kS162, kL163, kA163, kS163, kC165, kG165, kP165, kR165_0, kR165_1, kR165_2, kR165_3, kL166, kA166, kS166, kL167, kA167, kS167, kL168, kA168, kS168, kL169, kA169, kS169, kC170, kG170, kP170, kR170_0, kR170_1, kR170_2, kL171, kA171, kS171, kL172, kA172, kS172, kL173, kA173, kS173, kC174, kG174, kP174, kR174_0, kR174_1, kR174_2, kR174_3, kR174_4, kL175, kA175, kS175, kL176, kA176, kS176, kL177, kA177, kS177, kL178, kA178, kS178, kL179, kC180, kG180, kP180, kL181, kL182, kA182, kS182, kC183, kG183, kP183, kR183_1, kR183_3, kR183_5, kR183_6, kR183_7, kR183_8, kR183_9, kR183_21, kR183_26, kR183_27, kR183_30, kR183_31, kR183_33, kR183_34, kR183_36, kR183_37, kR183_38, kR183_39, kR183_40, kR183_41, kR183_42, kR183_43, kR183_44, kL184, kA184, kS184, kL185, kA185, kS185, kL186, kA186, kS186, kL187, kA187, kS187, kL188, kA188, kS188, kL189, kL190, kL191, kA191, kS191, kL192, kA192, kS192, kL193, kA193, kS193, kL194, kA194, kS194, kL195, kA195, kS195, kL196, kA196, kS196, kL197, kA197, kS197, kL198, kA198, kS198, kL199, kA199, kS199, kL200, kA200, kS200, kL201, kL202, kA202, kS202, kL203, kA203, kS203, kL204, kA204, kS204, kL205, kL206, kA206, kS206, h]
/-- the fault of a draft behind one more blame -/
def blI (J : Nat → Nat → Int32) (bad : Bool) (x y : Int32) : Nat → Nat → Int32 := if bad = true ∧ J 2 2 = 0 then xup (xup J 2 2 x) 2 3 y else J
theorem blI_out {bad : Bool} {x y : Int32} {a q : Nat} (h : ¬ (a = 2 ∧ (q = 2 ∨ q = 3))) : blI J bad x y a q = J a q := by
  unfold blI
  split
  · rw [xup_at, if_neg (by omega), xup_at, if_neg (by omega)]
  · rfl
theorem blI_f {x y : Int32} : blI J false x y = J := by
  unfold blI
  rw [if_neg (fun z => by cases z.1)]
theorem blI_n {bad : Bool} {x y : Int32} (h : J 2 2 ≠ 0) : blI J bad x y = J := by
  unfold blI
  rw [if_neg (fun z => h z.2)]
theorem blI_t {x y : Int32} (h : J 2 2 = 0) : blI J true x y = xup (xup J 2 2 x) 2 3 y := by
  unfold blI
  rw [if_pos ⟨rfl, h⟩]
theorem blame_b (hS : Shp σ) (x y : Int32) : f_X1_blame (xw σ J) 2 x y = some (xw σ (blI J true x y)) := by
  by_cases h : J 2 2 = 0
  · rw [blI_t h]; exact blame_0 hS h x y
  · rw [blI_n h]; exact blame_1 hS h x y
theorem takeJ_ok (hS : Shp σ) (hC : CT J b m T) {c : Nat} (hJ : isJt b m c) (hc : c + jlT b m c ≤ T) (h4 : J 2 4 = nI c) : f_X1_takeJ (xw σ J) 2 = some (iI (jvT b m c), xw σ (blI (xup J 2 4 (nI (c + jlT b m c))) (decide (3 < tNu b m (jnT b m c))) 3 (nI (tSt b m (jnT b m c))))) := by
  have hT := hC.1.2.1
  -- from the number on
  have num : ∀ (J1 : Nat → Nat → Int32) (p : Nat) (x : Int32), CT J1 b m T → J1 2 4 = nI p → p < T → tKd b m p = 2 → f_X1_takeJ_j30 (xw σ J1) 2 x = some (if x = 0 then nI (tNu b m p) else -nI (tNu b m p), xw σ (blI (xup J1 2 4 (nI (p + 1))) (decide (3 < tNu b m p)) 3 (nI (tSt b m p)))) := by
    intro J1 p x hC1 h41 hp hk
    have hv := tNu_b hk
    have ti := tkInt (σ := σ) hS hC1 hp hk h41
    have hC2 : CT (xup J1 2 4 (nI (p + 1))) b m T := CT_c (fun a q h1 _ _ _ => by rw [xup_at, if_neg (by omega)]) hC1
    have pl := plAt_ok (σ := σ) hS hC2 hp
    have u4 : xup J1 2 4 (nI (p + 1)) 2 4 = nI (p + 1) := by rw [xup_at, if_pos ⟨rfl, rfl⟩]
    have q3 : (nI (tNu b m p) ≤ (3 : Int32)) = (tNu b m p ≤ 3) := by rw [show (3 : Int32) = nI 3 from rfl, nn_le (by omega) (by omega)]
    have e1 : nI (p + 1) - (1 : Int32) = nI p := by rw [show (1 : Int32) = nI 1 from rfl, nn_sub (by omega), Nat.add_sub_cancel]
    have j58 : ∀ J2, f_X1_takeJ_j58 (xw σ J2) x (nI (tNu b m p)) = some (if x = 0 then nI (tNu b m p) else -nI (tNu b m p), xw σ J2) := fun J2 => by
      unfold f_X1_takeJ_j58
      by_cases z : x = 0
      · rw [if_pos z, if_pos z]
      · rw [if_neg z, if_neg z]
    unfold f_X1_takeJ_j30
    rw [xw_ck, kC2 hS, Option.bind_some, ti, Option.bind_some]
    dsimp only
    simp only [q3]
    by_cases hle : tNu b m p ≤ 3
    · rw [if_pos hle, j58, decide_eq_false (by omega), blI_f]
    · rw [if_neg hle, decide_eq_true (by omega)]
      rw [xw_gR, kR2_0 hS, Option.bind_some, kG2 hS, Option.bind_some, u4, e1, xw_ck, kC3 hS, Option.bind_some, pl, Option.bind_some, xw_ck, kC2 hS, Option.bind_some, blame_b hS, Option.bind_some, j58]
  have k := kindAt_ok (σ := σ) hS hC (show c ≤ T by omega)
  unfold f_X1_takeJ
  rw [xw_gR, kR2_0 hS, Option.bind_some, kG2 hS, Option.bind_some, h4, xw_ck, kC3 hS, Option.bind_some, k, Option.bind_some]
  have q3 : (nI (tKd b m c) = (3 : Int32)) = (tKd b m c = 3) := nn_eq (b := 3) (by have := tKd_b (b := b) (m := m) c; omega) (by decide)
  simp only [q3]
  rcases hJ with ⟨a1, a2⟩ | a1
  · have ejl : jlT b m c = 2 := by unfold jlT; rw [if_pos a1]
    have ejn : jnT b m c = c + 1 := by unfold jnT; rw [if_pos a1]
    have ejv : jvT b m c = -(tNu b m (c + 1) : Int) := by unfold jvT; rw [if_pos a1]
    rw [if_pos a1, ejl, ejn, ejv]
    unfold f_X1_takeJ_j20
    rw [if_neg (by decide), xw_ck, kC2 hS, Option.bind_some, tkKind hS hC (by omega) h4, Option.bind_some]
    dsimp only
    rw [num _ (c + 1) 1 (CT_c (fun a q h1 _ _ _ => by rw [xup_at, if_neg (by omega)]) hC) (by rw [xup_at, if_pos ⟨rfl, rfl⟩]) (by omega) a2, if_neg (by decide), xup2, iI_n, iI_neg]
  · have n3 : ¬ tKd b m c = 3 := by omega
    have ejl : jlT b m c = 1 := by unfold jlT; rw [if_neg n3]
    have ejn : jnT b m c = c := by unfold jnT; rw [if_neg n3]
    have ejv : jvT b m c = (tNu b m c : Int) := by unfold jvT; rw [if_neg n3]
    rw [if_neg n3, ejl, ejn, ejv]
    unfold f_X1_takeJ_j20
    rw [if_pos rfl, num J c 0 hC h4 (by omega) a1, if_pos rfl, iI_n]
theorem takeSite_ok (hS : Shp σ) (hC : CT J b m T) {c w l : Nat} (hc : c < T) (hk : tKd b m c = 2) (h4 : J 2 4 = nI c) (h5 : J 2 5 = nI w) (h6 : J 2 6 = nI l) (hwl : w * l < 2147483648) : f_X1_takeSite (xw σ J) 2 = some (nI (tNu b m c), xw σ (blI (xup J 2 4 (nI (c + 1))) (decide (w * l ≤ tNu b m c)) 4 (nI (tSt b m c)))) := by
  have hv := tNu_b hk
  have hT := hC.1.2.1
  have ti := tkInt (σ := σ) hS hC hc hk h4
  have hC2 : CT (xup J 2 4 (nI (c + 1))) b m T := CT_c (fun a q h1 _ _ _ => by rw [xup_at, if_neg (by omega)]) hC
  have pl := plAt_ok (σ := σ) hS hC2 hc
  have u4 : xup J 2 4 (nI (c + 1)) 2 4 = nI (c + 1) := by rw [xup_at, if_pos ⟨rfl, rfl⟩]
  have u5 : xup J 2 4 (nI (c + 1)) 2 5 = nI w := by rw [xup_at, if_neg (by omega)]; exact h5
  have u6 : xup J 2 4 (nI (c + 1)) 2 6 = nI l := by rw [xup_at, if_neg (by omega)]; exact h6
  have e1 : nI (c + 1) - (1 : Int32) = nI c := by rw [show (1 : Int32) = nI 1 from rfl, nn_sub (by omega), Nat.add_sub_cancel]
  have q : (nI (tNu b m c) < nI w * nI l) = (tNu b m c < w * l) := by rw [nn_mul, nn_lt (by omega) hwl]
  unfold f_X1_takeSite
  rw [xw_ck, kC2 hS, Option.bind_some, ti, Option.bind_some]
  dsimp only
  rw [kG2 hS, Option.bind_some, u5, kG2 hS, Option.bind_some, u6]
  simp only [q]
  by_cases hlt : tNu b m c < w * l
  · rw [if_pos hlt, decide_eq_false (by omega), blI_f]
  · rw [if_neg hlt, decide_eq_true (by omega), xw_gR, kR2_0 hS, Option.bind_some, kG2 hS, Option.bind_some, u4, e1, xw_ck, kC3 hS, Option.bind_some, pl, Option.bind_some, xw_ck, kC2 hS, Option.bind_some, blame_b hS, Option.bind_some]
theorem setPin8 (hS : Shp σ) {i p u : Nat} (hp : J 8 2 = nI p) (hu : J 8 3 = nI u) (hi : i < 32) (v : Int32) : f_X6_setPin (xw σ J) 8 (nI i) v = some (xw σ (xup (xup J 8 2 (nI (pN p i v))) 8 3 (nI (uN2 u i v)))) := by
  unfold f_X6_setPin f_X6_setPin_j26 pN uN2
  by_cases h0 : v = 0
  · subst h0
    simp (disch := first | assumption | omega) only [Option.bind_some, Option.map_some, xw_gR, xw_gN, xw_al, xw_ck, xw_uI, xw_ur, xup_at, xur_at, if_true, if_false, reduceIte, and_true, true_and, and_false, false_and, not_true_eq_false, not_false_eq_true, Nat.reduceEqDiff, eq_self, Nat.reduceAdd, Nat.reduceMul, kC1, kG1, kP1, kR1_0, kR1_1, kR1_2, kR1_3, kR1_4, kR1_5, kR1_6, kR1_7, kR1_8, kR1_9, kR1_10, kR1_11, kR1_12, kR1_13, kC2, kG2, kP2, kR2_0, kR2_1, kC3, kG3, kP3, kR3_0, kR3_1, kR3_2, kR3_3, kL4, kA4, kS4, kL5, kA5, kS5, kL6, kA6, kS6, kL7, kA7, kS7, kC8, kG8, kP8, kR8_0, kR8_1, kL9, kA9, kS9, kL10, kA10, kS10, kC11, kG11, kP11, kR11_0, kR11_1, kR11_2, kR11_3, kL12, kA12, kS12, kL13, kA13, kS13, kL14, kA14, kS14, kL15, kA15, kS15, kC16, kG16, kP16, kR16_0, kR16_1, kL17, kA17, kS17, kL18, kA18, kS18, kC19, kG19, kP19, kR19_0, kL20, kL141, kL146, kA146, kS146, kL151, kA151, kS151, kL156, kA156, kS156, kC157, kG157, kP157, kR157_0, kR157_1, kL158, kA158, kS158, kL159, kA159, kS159, kC161, kG161, kP161, kR161_0, kR161_1, kL162, kA162, kS162, kL163, kA163, kS163, kC165, kG165, kP165, kR165_0, kR165_1, kR165_2, kR165_3, kL166, kA166, kS166, kL167, kA167, kS167, kL168, kA168, kS168, kL169, kA169, kS169, kC170, kG170, kP170, kR170_0, kR170_1, kR170_2, kL171, kA171, kS171, kL172, kA172, kS172, kL173, kA173, kS173, kC174, kG174, kP174, kR174_0, kR174_1, kR174_2, kR174_3, kR174_4, kL175, kA175, kS175, kL176, kA176, kS176, kL177, kA177, kS177, kL178, kA178, kS178, kL179, kC180, kG180, kP180, kL181, kL182, kA182, kS182, kC183, kG183, kP183, kR183_1, kR183_3, kR183_5, kR183_6, kR183_7, kR183_8, kR183_9, kR183_21, kR183_26, kR183_27, kR183_30, kR183_31, kR183_33, kR183_34, kR183_36, kR183_37, kR183_38, kR183_39, kR183_40, kR183_41, kR183_42, kR183_43, kR183_44, kL184, kA184, kS184, kL185, kA185, kS185, kL186, kA186, kS186, kL187, kA187, kS187, kL188, kA188, kS188, kL189, kL190, kL191, kA191, kS191, kL192, kA192, kS192, kL193, kA193, kS193, kL194, kA194, kS194, kL195, kA195, kS195, kL196, kA196, kS196, kL197, kA197, kS197, kL198, kA198, kS198, kL199, kA199, kS199, kL200, kA200, kS200, kL201, kL202, kA202, kS202, kL203, kA203, kS203, kL204, kA204, kS204, kL205, kL206, kA206, kS206, hp, hu, nn_one, nn_andn, show ((0 : Int32) = 1) = False from eq_false (by decide)]
  · by_cases h1 : v = 1
    · subst h1
      simp (disch := first | assumption | omega) only [Option.bind_some, Option.map_some, xw_gR, xw_gN, xw_al, xw_ck, xw_uI, xw_ur, xup_at, xur_at, if_true, if_false, reduceIte, and_true, true_and, and_false, false_and, not_true_eq_false, not_false_eq_true, Nat.reduceEqDiff, eq_self, Nat.reduceAdd, Nat.reduceMul, kC1, kG1, kP1, kR1_0, kR1_1, kR1_2, kR1_3, kR1_4, kR1_5, kR1_6, kR1_7, kR1_8, kR1_9, kR1_10, kR1_11, kR1_12, kR1_13, kC2, kG2, kP2, kR2_0, kR2_1, kC3, kG3, kP3, kR3_0, kR3_1, kR3_2, kR3_3, kL4, kA4, kS4, kL5, kA5, kS5, kL6, kA6, kS6, kL7, kA7, kS7, kC8, kG8, kP8, kR8_0, kR8_1, kL9, kA9, kS9, kL10, kA10, kS10, kC11, kG11, kP11, kR11_0, kR11_1, kR11_2, kR11_3, kL12, kA12, kS12, kL13, kA13, kS13, kL14, kA14, kS14, kL15, kA15, kS15, kC16, kG16, kP16, kR16_0, kR16_1, kL17, kA17, kS17, kL18, kA18, kS18, kC19, kG19, kP19, kR19_0, kL20, kL141, kL146, kA146, kS146, kL151, kA151, kS151, kL156, kA156, kS156, kC157, kG157, kP157, kR157_0, kR157_1, kL158, kA158, kS158, kL159, kA159, kS159, kC161, kG161, kP161, kR161_0, kR161_1, kL162, kA162, kS162, kL163, kA163, kS163, kC165, kG165, kP165, kR165_0, kR165_1, kR165_2, kR165_3, kL166, kA166, kS166, kL167, kA167, kS167, kL168, kA168, kS168, kL169, kA169, kS169, kC170, kG170, kP170, kR170_0, kR170_1, kR170_2, kL171, kA171, kS171, kL172, kA172, kS172, kL173, kA173, kS173, kC174, kG174, kP174, kR174_0, kR174_1, kR174_2, kR174_3, kR174_4, kL175, kA175, kS175, kL176, kA176, kS176, kL177, kA177, kS177, kL178, kA178, kS178, kL179, kC180, kG180, kP180, kL181, kL182, kA182, kS182, kC183, kG183, kP183, kR183_1, kR183_3, kR183_5, kR183_6, kR183_7, kR183_8, kR183_9, kR183_21, kR183_26, kR183_27, kR183_30, kR183_31, kR183_33, kR183_34, kR183_36, kR183_37, kR183_38, kR183_39, kR183_40, kR183_41, kR183_42, kR183_43, kR183_44, kL184, kA184, kS184, kL185, kA185, kS185, kL186, kA186, kS186, kL187, kA187, kS187, kL188, kA188, kS188, kL189, kL190, kL191, kA191, kS191, kL192, kA192, kS192, kL193, kA193, kS193, kL194, kA194, kS194, kL195, kA195, kS195, kL196, kA196, kS196, kL197, kA197, kS197, kL198, kA198, kS198, kL199, kA199, kS199, kL200, kA200, kS200, kL201, kL202, kA202, kS202, kL203, kA203, kS203, kL204, kA204, kS204, kL205, kL206, kA206, kS206, hp, hu, nn_one, fa_or, one0]
    · simp (disch := first | assumption | omega) only [Option.bind_some, Option.map_some, xw_gR, xw_gN, xw_al, xw_ck, xw_uI, xw_ur, xup_at, xur_at, if_true, if_false, reduceIte, and_true, true_and, and_false, false_and, not_true_eq_false, not_false_eq_true, Nat.reduceEqDiff, eq_self, Nat.reduceAdd, Nat.reduceMul, kC1, kG1, kP1, kR1_0, kR1_1, kR1_2, kR1_3, kR1_4, kR1_5, kR1_6, kR1_7, kR1_8, kR1_9, kR1_10, kR1_11, kR1_12, kR1_13, kC2, kG2, kP2, kR2_0, kR2_1, kC3, kG3, kP3, kR3_0, kR3_1, kR3_2, kR3_3, kL4, kA4, kS4, kL5, kA5, kS5, kL6, kA6, kS6, kL7, kA7, kS7, kC8, kG8, kP8, kR8_0, kR8_1, kL9, kA9, kS9, kL10, kA10, kS10, kC11, kG11, kP11, kR11_0, kR11_1, kR11_2, kR11_3, kL12, kA12, kS12, kL13, kA13, kS13, kL14, kA14, kS14, kL15, kA15, kS15, kC16, kG16, kP16, kR16_0, kR16_1, kL17, kA17, kS17, kL18, kA18, kS18, kC19, kG19, kP19, kR19_0, kL20, kL141, kL146, kA146, kS146, kL151, kA151, kS151, kL156, kA156, kS156, kC157, kG157, kP157, kR157_0, kR157_1, kL158, kA158, kS158, kL159, kA159, kS159, kC161, kG161, kP161, kR161_0, kR161_1, kL162, kA162, kS162, kL163, kA163, kS163, kC165, kG165, kP165, kR165_0, kR165_1, kR165_2, kR165_3, kL166, kA166, kS166, kL167, kA167, kS167, kL168, kA168, kS168, kL169, kA169, kS169, kC170, kG170, kP170, kR170_0, kR170_1, kR170_2, kL171, kA171, kS171, kL172, kA172, kS172, kL173, kA173, kS173, kC174, kG174, kP174, kR174_0, kR174_1, kR174_2, kR174_3, kR174_4, kL175, kA175, kS175, kL176, kA176, kS176, kL177, kA177, kS177, kL178, kA178, kS178, kL179, kC180, kG180, kP180, kL181, kL182, kA182, kS182, kC183, kG183, kP183, kR183_1, kR183_3, kR183_5, kR183_6, kR183_7, kR183_8, kR183_9, kR183_21, kR183_26, kR183_27, kR183_30, kR183_31, kR183_33, kR183_34, kR183_36, kR183_37, kR183_38, kR183_39, kR183_40, kR183_41, kR183_42, kR183_43, kR183_44, kL184, kA184, kS184, kL185, kA185, kS185, kL186, kA186, kS186, kL187, kA187, kS187, kL188, kA188, kS188, kL189, kL190, kL191, kA191, kS191, kL192, kA192, kS192, kL193, kA193, kS193, kL194, kA194, kS194, kL195, kA195, kS195, kL196, kA196, kS196, kL197, kA197, kS197, kL198, kA198, kS198, kL199, kA199, kS199, kL200, kA200, kS200, kL201, kL202, kA202, kS202, kL203, kA203, kS203, kL204, kA204, kS204, kL205, kL206, kA206, kS206, hp, hu, nn_one, nn_andn, fa_or, h0, h1]
end TAKE
end
section
/-! the class takes a line -/
theorem xsw6 {β : Type} {k : Nat} {as : List (Option β)} {d : Option β} (hk : k < 2147483648) : xsw (nI k) 6 as d = if k < 6 then d else as.getD (k - 6) d := by
  unfold xsw
  rw [nI_toInt hk]
  by_cases h : k < 6
  · rw [if_pos (by omega), if_pos h]
  · rw [if_neg (by omega), if_neg h, show ((k : Int) - 6).toNat = k - 6 by omega, List.getD_eq_getElem?_getD]
def DRb (J0 J : Nat → Nat → Int32) : Prop := ∀ a q, ¬ (a = 2 ∨ (8 ≤ a ∧ a ≤ 10)) → J a q = J0 a q
/-- the draft, all lines before c taken, none of them wrong -/
def DR (J0 J : Nat → Nat → Int32) (b : Nat → Int32) (m w l r c : Nat) : Prop := DRb J0 J ∧ J 2 2 = 0 ∧ J 2 3 = -1 ∧ J 2 4 = nI c ∧ (J 2 5 = nI w ∧ J 2 6 = nI l ∧ J 2 7 = nI r) ∧ (J 2 8 = iI (aLL b m 6 c) ∧ J 2 9 = iI (aLL b m 7 c) ∧ J 2 10 = iI (aLL b m 8 c)) ∧ (∀ t, t < 32 → bt (J 2 11) t = (tII b m t c).isSome ∧ J 9 t = iI ((tII b m t c).getD 0)) ∧ (∀ i, i < 16 → bt (J 2 12) i = (pUU b m i c).isSome ∧ J 10 i = iI ((pUU b m i c).getD 0)) ∧ (∃ p u, J 8 2 = nI p ∧ J 8 3 = nI u ∧ (∀ i, p.testBit i = (decide (i < 16) && decide (pII b m i c ≠ 0))) ∧ ∀ i, u.testBit i = (decide (i < 16) && decide (pII b m i c = 1))) ∧ J 8 4 = 0 ∧ J 8 5 = nI (sDD b m c)
/-- the draft with its fault -/
def DF (J0 J : Nat → Nat → Int32) (b : Nat → Int32) (m c j : Nat) : Prop := DRb J0 J ∧ J 2 2 = nI c ∧ J 2 3 = nI (tSt b m j)
section TELL
variable {σ : XS} {J0 J : Nat → Nat → Int32} {b : Nat → Int32} {m T w l r c : Nat}
theorem DR_next {J' : Nat → Nat → Int32} (hT : OKT b m T) (h4c : 4 ≤ c) (hws : ws b m c = some 4) (hc : c < T) (hD : DR J0 J b m w l r c) (hb : DRb J0 J') (h2 : J' 2 2 = 0) (h3 : J' 2 3 = -1) (h4 : J' 2 4 = nI (lnE b m c + 1)) (h5 : ∀ q, 5 ≤ q → q ≤ 7 → J' 2 q = J 2 q)
    (h8 : J' 2 8 = iI (if tKd b m c = 6 then jvT b m (c + 1) else aLL b m 6 c)) (h9 : J' 2 9 = iI (if tKd b m c = 7 then jvT b m (c + 1) else aLL b m 7 c)) (h10 : J' 2 10 = iI (if tKd b m c = 8 then jvT b m (c + 1) else aLL b m 8 c))
    (ht : ∀ t, t < 32 → bt (J' 2 11) t = (if tKd b m c = 10 ∧ tpl b m c = t then some (jvT b m (c + 3)) else tII b m t c).isSome ∧ J' 9 t = iI ((if tKd b m c = 10 ∧ tpl b m c = t then some (jvT b m (c + 3)) else tII b m t c).getD 0))
    (hu : ∀ i, i < 16 → bt (J' 2 12) i = (if tKd b m c = 11 ∧ tNu b m (c + 1) = i then some (jvT b m (c + 2)) else pUU b m i c).isSome ∧ J' 10 i = iI ((if tKd b m c = 11 ∧ tNu b m (c + 1) = i then some (jvT b m (c + 2)) else pUU b m i c).getD 0))
    (hp : ∃ p u, J' 8 2 = nI p ∧ J' 8 3 = nI u ∧ (∀ i, p.testBit i = (decide (i < 16) && decide ((if tKd b m c = 12 ∧ tNu b m (c + 1) = i then (if tKd b m (c + 2) = 13 then 1 else 2) else pII b m i c) ≠ 0))) ∧ ∀ i, u.testBit i = (decide (i < 16) && decide ((if tKd b m c = 12 ∧ tNu b m (c + 1) = i then (if tKd b m (c + 2) = 13 then 1 else 2) else pII b m i c) = 1)))
    (h84 : J' 8 4 = 0) (h85 : J' 8 5 = nI (if tKd b m c = 15 then tNu b m (c + 1) else sDD b m c)) : DR J0 J' b m w l r (lnE b m c + 1) := by
  obtain ⟨-, -, -, -, ⟨d5, d6, d7⟩, -⟩ := hD
  have eA : ∀ k, aLL b m k (lnE b m c + 1) = if tKd b m c = k then jvT b m (c + 1) else aLL b m k c := fun k => foldL_line _ _ hT h4c hws hc
  have eT : ∀ t, tII b m t (lnE b m c + 1) = if tKd b m c = 10 ∧ tpl b m c = t then some (jvT b m (c + 3)) else tII b m t c := fun t => foldL_line _ _ hT h4c hws hc
  have eU : ∀ i, pUU b m i (lnE b m c + 1) = if tKd b m c = 11 ∧ tNu b m (c + 1) = i then some (jvT b m (c + 2)) else pUU b m i c := fun i => foldL_line _ _ hT h4c hws hc
  have eP : ∀ i, pII b m i (lnE b m c + 1) = if tKd b m c = 12 ∧ tNu b m (c + 1) = i then (if tKd b m (c + 2) = 13 then 1 else 2) else pII b m i c := fun i => foldL_line _ _ hT h4c hws hc
  have eS : sDD b m (lnE b m c + 1) = if tKd b m c = 15 then tNu b m (c + 1) else sDD b m c := foldL_line _ _ hT h4c hws hc
  refine ⟨hb, h2, h3, h4, ⟨(h5 5 (by omega) (by omega)).trans d5, (h5 6 (by omega) (by omega)).trans d6, (h5 7 (by omega) (by omega)).trans d7⟩, ⟨by rw [eA]; exact h8, by rw [eA]; exact h9, by rw [eA]; exact h10⟩, fun t h => by rw [eT]; exact ht t h, fun i h => by rw [eU]; exact hu i h, ?_, h84, by rw [eS]; exact h85⟩
  obtain ⟨p, u, p1, p2, p3, p4⟩ := hp
  exact ⟨p, u, p1, p2, fun i => by rw [eP]; exact p3 i, fun i => by rw [eP]; exact p4 i⟩
theorem j133_ok (hS : Shp σ) {J1 : Nat → Nat → Int32} (hC : CT J1 b m T) {e : Nat} (he : e ≤ T) (h4 : J1 2 4 = nI e) : f_X1_takeTell_j133 (xw σ J1) 2 = some (xw σ (xup J1 2 4 (nI (e + 1)))) := by
  unfold f_X1_takeTell_j133
  rw [xw_ck, kC2 hS, Option.bind_some, tkKind hS hC he h4, Option.bind_some]
/-- no other line's things change -/
theorem DR_same {J' : Nat → Nat → Int32} (hT : OKT b m T) (h4c : 4 ≤ c) (hws : ws b m c = some 4) (hc : c < T) (hD : DR J0 J b m w l r c) (hk : tKd b m c = 6 ∨ tKd b m c = 7 ∨ tKd b m c = 8 ∨ tKd b m c = 9 ∨ tKd b m c = 15) (h4 : J' 2 4 = nI (lnE b m c + 1)) (hf : ∀ a q, ¬ (a = 2 ∧ (q = 4 ∨ q = 8 ∨ q = 9 ∨ q = 10)) → ¬ (a = 8 ∧ q = 5) → J' a q = J a q)
    (h8 : J' 2 8 = iI (if tKd b m c = 6 then jvT b m (c + 1) else aLL b m 6 c)) (h9 : J' 2 9 = iI (if tKd b m c = 7 then jvT b m (c + 1) else aLL b m 7 c)) (h10 : J' 2 10 = iI (if tKd b m c = 8 then jvT b m (c + 1) else aLL b m 8 c)) (h85 : J' 8 5 = nI (if tKd b m c = 15 then tNu b m (c + 1) else sDD b m c)) : DR J0 J' b m w l r (lnE b m c + 1) := by
  obtain ⟨d1, d2, d3, d4, d5, d6, d7, d8, d9, d10, d11⟩ := id hD
  refine DR_next hT h4c hws hc hD (fun a q h => by rw [hf a q (by omega) (by omega)]; exact d1 a q h) (by rw [hf _ _ (by omega) (by omega)]; exact d2) (by rw [hf _ _ (by omega) (by omega)]; exact d3) h4 (fun q h1 h2 => hf _ _ (by omega) (by omega)) h8 h9 h10 (fun t ht => ?_) (fun i hi => ?_) ?_ (by rw [hf _ _ (by omega) (by omega)]; exact d10) h85
  · rw [if_neg (by omega), hf _ _ (by omega) (by omega), hf 9 t (by omega) (by omega)]; exact d7 t ht
  · rw [if_neg (by omega), hf _ _ (by omega) (by omega), hf 10 i (by omega) (by omega)]; exact d8 i hi
  · obtain ⟨p, u, p1, p2, p3, p4⟩ := d9
    refine ⟨p, u, by rw [hf _ _ (by omega) (by omega)]; exact p1, by rw [hf _ _ (by omega) (by omega)]; exact p2, fun i => ?_, fun i => ?_⟩
    · rw [if_neg (by omega)]; exact p3 i
    · rw [if_neg (by omega)]; exact p4 i
theorem tell1 (hS : Shp σ) (hC : CT J0 b m T) (h4c : 4 ≤ c) (hws : ws b m c = some 4) (hc : c < T) (hD : DR J0 J b m w l r c) (hL : LN1 b m c) : ∃ J', f_X1_takeTell (xw σ J) 2 = some (xw σ J') ∧ (linF b m w l r c = none → DR J0 J' b m w l r (lnE b m c + 1)) ∧ ∀ x j, linF b m w l r c = some (x, j) → DF J0 J' b m x j := by
  obtain ⟨d1, d2, d3, d4, d5, d6, d7, d8, d9, d10, d11⟩ := id hD
  obtain ⟨hk, hJ⟩ := hL
  have hT := hC.1
  have hend := (line_at hT hws hc).2.2.2.1
  have hE : lnE b m c = c + 1 + jlT b m (c + 1) := by
    unfold lnE
    rw [if_neg (by omega), if_neg (by omega), if_neg (by omega), if_neg (by omega)]
  have T4 := hT.2.1
  have hCJ : CT J b m T := CT_c (fun a q h1 h2 h3 h4 => d1 a q (by omega)) hC
  obtain ⟨J1, hJ1⟩ : ∃ J1, J1 = xup J 2 4 (nI (c + 1)) := ⟨_, rfl⟩
  have hC1 : CT J1 b m T := CT_c (fun a q h1 _ _ _ => by rw [hJ1, xup_at, if_neg (by omega)]) hCJ
  have tk := tkKind (σ := σ) hS hCJ (show c ≤ T by omega) d4
  rw [← hJ1] at tk
  have tj := takeJ_ok (σ := σ) (J := J1) hS hC1 hJ (by omega) (by rw [hJ1, xup_at, if_pos ⟨rfl, rfl⟩])
  obtain ⟨J2, hJ2⟩ : ∃ J2, J2 = blI (xup J1 2 4 (nI (c + 1 + jlT b m (c + 1)))) (decide (3 < tNu b m (jnT b m (c + 1)))) 3 (nI (tSt b m (jnT b m (c + 1)))) := ⟨_, rfl⟩
  rw [← hJ2] at tj
  have u2 : ∀ a q, ¬ (a = 2 ∧ (q = 2 ∨ q = 3)) → ¬ (a = 2 ∧ q = 4) → J2 a q = J a q := fun a q h1 h2 => by rw [hJ2, blI_out h1, xup_at, if_neg h2, hJ1, xup_at, if_neg h2]
  have c2 : J2 2 4 = nI (lnE b m c) := by rw [hJ2, blI_out (by omega), xup_at, if_pos ⟨rfl, rfl⟩, hE]
  -- the field that takes the J
  obtain ⟨f, hf⟩ : ∃ f, f = tKd b m c + 2 := ⟨_, rfl⟩
  have hCf : CT (xup J2 2 f (iI (jvT b m (c + 1)))) b m T := CT_c (fun a q h1 h2 h3 h4 => by rw [xup_at, if_neg (by omega)]; exact u2 a q (by omega) (by omega)) hCJ
  have jo := j133_ok (σ := σ) (J1 := xup J2 2 f (iI (jvT b m (c + 1)))) hS hCf (show lnE b m c ≤ T by omega) (by rw [xup_at, if_neg (by omega)]; exact c2)
  refine ⟨xup (xup J2 2 f (iI (jvT b m (c + 1)))) 2 4 (nI (lnE b m c + 1)), ?_, fun hno => ?_, fun x j hx1 => ?_⟩
  rotate_left
  · -- nothing wrong
    show DR J0 (xup (xup J2 2 f (iI (jvT b m (c + 1)))) 2 4 (nI (lnE b m c + 1))) b m w l r (lnE b m c + 1)
    have hle : ¬ 3 < tNu b m (jnT b m (c + 1)) := fun z => by
      unfold linF at hno
      rw [if_pos hk, if_pos z] at hno; cases hno
    have e2 : J2 = xup J1 2 4 (nI (c + 1 + jlT b m (c + 1))) := by rw [hJ2, decide_eq_false hle, blI_f]
    have v2 : ∀ a q, ¬ (a = 2 ∧ q = 4) → J2 a q = J a q := fun a q h => by rw [e2, xup_at, if_neg h, hJ1, xup_at, if_neg h]
    have ff : ∀ q, 8 ≤ q → q ≤ 10 → xup (xup J2 2 f (iI (jvT b m (c + 1)))) 2 4 (nI (lnE b m c + 1)) 2 q = if q = f then iI (jvT b m (c + 1)) else J 2 q := fun q h1 h2 => by
      rw [xup_at, if_neg (by omega), xup_at]
      by_cases z : q = f
      · rw [if_pos ⟨rfl, z⟩, if_pos z]
      · rw [if_neg (by omega), if_neg z]; exact v2 _ _ (by omega)
    refine DR_same hT h4c hws hc hD (by omega) (by rw [xup_at, if_pos ⟨rfl, rfl⟩]) (fun a q h1 h2 => by rw [xup_at, if_neg (by omega), xup_at, if_neg (by omega)]; exact v2 a q (by omega)) ?_ ?_ ?_ ?_
    · rw [ff 8 (by omega) (by omega)]
      by_cases z : tKd b m c = 6
      · rw [if_pos (by omega), if_pos z]
      · rw [if_neg (by omega), if_neg z]; exact d6.1
    · rw [ff 9 (by omega) (by omega)]
      by_cases z : tKd b m c = 7
      · rw [if_pos (by omega), if_pos z]
      · rw [if_neg (by omega), if_neg z]; exact d6.2.1
    · rw [ff 10 (by omega) (by omega)]
      by_cases z : tKd b m c = 8
      · rw [if_pos (by omega), if_pos z]
      · rw [if_neg (by omega), if_neg z]; exact d6.2.2
    · rw [if_neg (by omega), xup_at, if_neg (by omega), xup_at, if_neg (by omega), v2 _ _ (by omega)]; exact d11
  · -- too large a J
    show DF J0 (xup (xup J2 2 f (iI (jvT b m (c + 1)))) 2 4 (nI (lnE b m c + 1))) b m x j
    unfold linF at hx1
    rw [if_pos hk] at hx1
    split at hx1
    · next q =>
      cases hx1
      have j0 : xup J1 2 4 (nI (c + 1 + jlT b m (c + 1))) 2 2 = 0 := by rw [xup_at, if_neg (by omega), hJ1, xup_at, if_neg (by omega)]; exact d2
      have e2 := blI_t (J := xup J1 2 4 (nI (c + 1 + jlT b m (c + 1)))) (x := 3) (y := nI (tSt b m (jnT b m (c + 1)))) j0
      rw [decide_eq_true q] at hJ2
      refine ⟨fun a p h => ?_, ?_, ?_⟩
      · rw [xup_at, if_neg (by omega), xup_at, if_neg (by omega), u2 a p (by omega) (by omega)]; exact d1 a p h
      · rw [xup_at, if_neg (by omega), xup_at, if_neg (by omega), hJ2, e2, xup_at, if_neg (by omega), xup_at, if_pos ⟨rfl, rfl⟩]; rfl
      · rw [xup_at, if_neg (by omega), xup_at, if_neg (by omega), hJ2, e2, xup_at, if_pos ⟨rfl, rfl⟩]
    · cases hx1
  · unfold f_X1_takeTell
    rw [xw_ck, kC2 hS, Option.bind_some, tk, Option.bind_some]
    dsimp only
    rw [xsw6 (by have := tKd_b (b := b) (m := m) c; omega), if_neg (by omega)]
    have body : ∀ q, q = f → ((xck (xw σ J1) 2 1).bind fun _ => (f_X1_takeJ (xw σ J1) 2).bind fun (v8, σ7) => (xpI σ7 2 1 q v8).bind fun σ10 => f_X1_takeTell_j133 σ10 2) = some (xw σ (xup (xup J2 2 f (iI (jvT b m (c + 1)))) 2 4 (nI (lnE b m c + 1)))) := by
      rintro q rfl
      rw [xw_ck, kC2 hS, Option.bind_some, tj, Option.bind_some]
      dsimp only
      rw [kP2 hS, Option.bind_some, jo]
    rcases hk with z | z | z
    · rw [z]; exact body 8 (by omega)
    · rw [z]; exact body 9 (by omega)
    · rw [z]; exact body 10 (by omega)
end TELL
end
section
/-! the other lines -/
section TELL2
variable {σ : XS} {J0 J : Nat → Nat → Int32} {b : Nat → Int32} {m T w l r c : Nat}
theorem tell2 (hS : Shp σ) (hC : CT J0 b m T) (h4c : 4 ≤ c) (hws : ws b m c = some 4) (hc : c < T) (hD : DR J0 J b m w l r c) (hL : LN2 b m c) : ∃ J', f_X1_takeTell (xw σ J) 2 = some (xw σ J') ∧ DR J0 J' b m w l r (lnE b m c + 1) ∧ linF b m w l r c = none := by
  obtain ⟨d1, d2, d3, d4, d5, d6, d7, d8, d9, d10, d11⟩ := id hD
  obtain ⟨hk, -⟩ := hL
  have hT := hC.1
  have hend := (line_at hT hws hc).2.2.2.1
  have hE : lnE b m c = c + 2 := by unfold lnE; rw [if_pos (by omega)]
  have T4 := hT.2.1
  have hCJ : CT J b m T := CT_c (fun a q h1 h2 h3 h4 => d1 a q (by omega)) hC
  have hC1 : ∀ v, CT (xup J 2 4 v) b m T := fun v => CT_c (fun a q h1 _ _ _ => by rw [xup_at, if_neg (by omega)]) hCJ
  have tk := tkKind (σ := σ) hS hCJ (show c ≤ T by omega) d4
  have tk2 := tkKind (σ := σ) hS (hC1 (nI (c + 1))) (show c + 1 ≤ T by omega) (by rw [xup_at, if_pos ⟨rfl, rfl⟩])
  rw [xup2] at tk2
  have jo := j133_ok (σ := σ) hS (hC1 (nI (c + 1 + 1))) (e := c + 2) (by omega) (by rw [xup_at, if_pos ⟨rfl, rfl⟩])
  rw [xup2] at jo
  refine ⟨xup J 2 4 (nI (c + 2 + 1)), ?_, ?_, ?_⟩
  · unfold f_X1_takeTell
    rw [xw_ck, kC2 hS, Option.bind_some, tk, Option.bind_some]
    dsimp only
    rw [xsw6 (by have := tKd_b (b := b) (m := m) c; omega), if_neg (by omega), hk]
    show ((xck (xw σ (xup J 2 4 (nI (c + 1)))) 2 1).bind fun _ => (f_X1_takeKind (xw σ (xup J 2 4 (nI (c + 1)))) 2).bind fun (v8, σ7) => f_X1_takeTell_j133 σ7 2) = _
    rw [xw_ck, kC2 hS, Option.bind_some, tk2, Option.bind_some]
    exact jo
  · refine DR_same hT h4c hws hc hD (by omega) (by rw [xup_at, if_pos ⟨rfl, rfl⟩, hE]) (fun a q h1 h2 => by rw [xup_at, if_neg (by omega)]) ?_ ?_ ?_ ?_
    · rw [if_neg (by omega), xup_at, if_neg (by omega)]; exact d6.1
    · rw [if_neg (by omega), xup_at, if_neg (by omega)]; exact d6.2.1
    · rw [if_neg (by omega), xup_at, if_neg (by omega)]; exact d6.2.2
    · rw [if_neg (by omega), xup_at, if_neg (by omega)]; exact d11
  · unfold linF
    rw [if_neg (by omega), if_neg (by omega), if_neg (by omega), if_neg (by omega)]
theorem tell6 (hS : Shp σ) (hC : CT J0 b m T) (h4c : 4 ≤ c) (hws : ws b m c = some 4) (hc : c < T) (hD : DR J0 J b m w l r c) (hL : LN6 b m c) : ∃ J', f_X1_takeTell (xw σ J) 2 = some (xw σ J') ∧ DR J0 J' b m w l r (lnE b m c + 1) ∧ linF b m w l r c = none := by
  obtain ⟨d1, d2, d3, d4, d5, d6, d7, d8, d9, d10, d11⟩ := id hD
  obtain ⟨hk, hk1⟩ := hL
  have hT := hC.1
  have hend := (line_at hT hws hc).2.2.2.1
  have hE : lnE b m c = c + 2 := by unfold lnE; rw [if_pos (by omega)]
  have T4 := hT.2.1
  have hCJ : CT J b m T := CT_c (fun a q h1 h2 h3 h4 => d1 a q (by omega)) hC
  have hC1 : ∀ v, CT (xup J 2 4 v) b m T := fun v => CT_c (fun a q h1 _ _ _ => by rw [xup_at, if_neg (by omega)]) hCJ
  have tk := tkKind (σ := σ) hS hCJ (show c ≤ T by omega) d4
  have tk2 := tkInt (σ := σ) hS (hC1 (nI (c + 1))) (show c + 1 < T by omega) hk1 (by rw [xup_at, if_pos ⟨rfl, rfl⟩])
  rw [xup2] at tk2
  have hC2 : CT (xup (xup J 2 4 (nI (c + 1 + 1))) 8 5 (nI (tNu b m (c + 1)))) b m T := CT_c (fun a q h1 h2 h3 h4 => by rw [xup_at, if_neg (by omega), xup_at, if_neg (by omega)]) hCJ
  have jo := j133_ok (σ := σ) hS hC2 (e := c + 2) (by omega) (by rw [xup_at, if_neg (by omega), xup_at, if_pos ⟨rfl, rfl⟩])
  refine ⟨xup (xup (xup J 2 4 (nI (c + 1 + 1))) 8 5 (nI (tNu b m (c + 1)))) 2 4 (nI (c + 2 + 1)), ?_, ?_, ?_⟩
  · unfold f_X1_takeTell
    rw [xw_ck, kC2 hS, Option.bind_some, tk, Option.bind_some]
    dsimp only
    rw [xsw6 (by have := tKd_b (b := b) (m := m) c; omega), if_neg (by omega), hk]
    show ((xgR (xw σ (xup J 2 4 (nI (c + 1)))) 2 1 1).bind fun z6 => (xck (xw σ (xup J 2 4 (nI (c + 1)))) 2 1).bind fun _ => (f_X1_takeInt (xw σ (xup J 2 4 (nI (c + 1)))) 2).bind fun (v10, σ9) => (xpI σ9 z6 6 5 v10).bind fun σ12 => f_X1_takeTell_j133 σ12 2) = _
    rw [xw_gR, kR2_1 hS, Option.bind_some, xw_ck, kC2 hS, Option.bind_some, tk2, Option.bind_some]
    dsimp only
    rw [kP8 hS, Option.bind_some]
    exact jo
  · refine DR_same hT h4c hws hc hD (by omega) (by rw [xup_at, if_pos ⟨rfl, rfl⟩, hE]) (fun a q h1 h2 => by rw [xup_at, if_neg (by omega), xup_at, if_neg (by omega), xup_at, if_neg (by omega)]) ?_ ?_ ?_ ?_
    · rw [if_neg (by omega), xup_at, if_neg (by omega), xup_at, if_neg (by omega), xup_at, if_neg (by omega)]; exact d6.1
    · rw [if_neg (by omega), xup_at, if_neg (by omega), xup_at, if_neg (by omega), xup_at, if_neg (by omega)]; exact d6.2.1
    · rw [if_neg (by omega), xup_at, if_neg (by omega), xup_at, if_neg (by omega), xup_at, if_neg (by omega)]; exact d6.2.2
    · rw [if_pos hk, xup_at, if_neg (by omega), xup_at, if_pos ⟨rfl, rfl⟩]
  · unfold linF
    rw [if_neg (by omega), if_neg (by omega), if_neg (by omega), if_neg (by omega)]
theorem badS_n (h : tKd b m c ≠ 10) : badS b m w l r c = decide (w * l ≤ tNu b m (c + 1)) := by
  unfold badS
  rw [decide_eq_false h, Bool.false_and, Bool.or_false]
theorem tell5 (hS : Shp σ) (hC : CT J0 b m T) (hwl : w * l ≤ 16) (h4c : 4 ≤ c) (hws : ws b m c = some 4) (hc : c < T) (hD : DR J0 J b m w l r c) (hL : LN5 b m c) : ∃ J', f_X1_takeTell (xw σ J) 2 = some (xw σ J') ∧ (linF b m w l r c = none → DR J0 J' b m w l r (lnE b m c + 1)) ∧ ∀ x j, linF b m w l r c = some (x, j) → DF J0 J' b m x j := by
  obtain ⟨d1, d2, d3, d4, d5, d6, d7, d8, d9, d10, d11⟩ := id hD
  obtain ⟨hk, hk1, hk2⟩ := hL
  obtain ⟨p, u, p1, p2, p3, p4⟩ := d9
  have hT := hC.1
  have hend := (line_at hT hws hc).2.2.2.1
  have hE : lnE b m c = c + 3 := by unfold lnE; rw [if_neg (by omega), if_neg (by omega), if_neg (by omega), if_pos hk]
  have T4 := hT.2.1
  have hCJ : CT J b m T := CT_c (fun a q h1 h2 h3 h4 => d1 a q (by omega)) hC
  have hlin : linF b m w l r c = if decide (w * l ≤ tNu b m (c + 1)) = true then some (4, c + 1) else none := by
    unfold linF
    rw [if_neg (by omega), if_neg (by omega), if_neg (by omega), if_pos hk, badS_n (by omega)]
  obtain ⟨J1, hJ1⟩ : ∃ J1, J1 = xup J 2 4 (nI (c + 1)) := ⟨_, rfl⟩
  have v1 : ∀ a q, ¬ (a = 2 ∧ q = 4) → J1 a q = J a q := fun a q h => by rw [hJ1, xup_at, if_neg h]
  have hC1 : CT J1 b m T := CT_c (fun a q h1 _ _ _ => v1 a q (by omega)) hCJ
  have tk := tkKind (σ := σ) hS hCJ (show c ≤ T by omega) d4
  rw [← hJ1] at tk
  have ts := takeSite_ok (σ := σ) (J := J1) hS hC1 (show c + 1 < T by omega) hk1 (by rw [hJ1, xup_at, if_pos ⟨rfl, rfl⟩]) (by rw [v1 _ _ (by omega)]; exact d5.1) (by rw [v1 _ _ (by omega)]; exact d5.2.1) (by omega)
  obtain ⟨J2, hJ2⟩ : ∃ J2, J2 = blI (xup J1 2 4 (nI (c + 1 + 1))) (decide (w * l ≤ tNu b m (c + 1))) 4 (nI (tSt b m (c + 1))) := ⟨_, rfl⟩
  rw [← hJ2] at ts
  have u2 : ∀ a q, ¬ (a = 2 ∧ (q = 2 ∨ q = 3)) → ¬ (a = 2 ∧ q = 4) → J2 a q = J a q := fun a q h1 h2 => by rw [hJ2, blI_out h1, xup_at, if_neg h2]; exact v1 a q h2
  have c2 : J2 2 4 = nI (c + 2) := by rw [hJ2, blI_out (by omega), xup_at, if_pos ⟨rfl, rfl⟩]
  have hC2 : CT J2 b m T := CT_c (fun a q h1 _ _ _ => u2 a q (by omega) (by omega)) hCJ
  have tk2 := tkKind (σ := σ) hS hC2 (show c + 2 ≤ T by omega) c2
  obtain ⟨J3, hJ3⟩ : ∃ J3, J3 = xup J2 2 4 (nI (c + 2 + 1)) := ⟨_, rfl⟩
  rw [← hJ3] at tk2
  have q13 : (nI (tKd b m (c + 2)) = (13 : Int32)) = (tKd b m (c + 2) = 13) := nn_eq (b := 13) (by omega) (by decide)
  obtain ⟨hv, hhv⟩ : ∃ hv : Int32, hv = if tKd b m (c + 2) = 13 then 1 else 2 := ⟨_, rfl⟩
  have start : ∀ J5, f_X1_takePin_j19 (xw σ J3) 2 (nI (tNu b m (c + 1))) hv = some (xw σ J5) → CT J5 b m T → J5 2 4 = nI (c + 3) → f_X1_takeTell (xw σ J) 2 = some (xw σ (xup J5 2 4 (nI (c + 3 + 1)))) := by
    intro J5 h1 h2 h3
    have pin : f_X1_takePin (xw σ J1) 2 = some (xw σ J5) := by
      unfold f_X1_takePin
      rw [xw_ck, kC2 hS, Option.bind_some, ts, Option.bind_some]
      dsimp only
      rw [xw_ck, kC2 hS, Option.bind_some, tk2, Option.bind_some]
      dsimp only
      simp only [q13]
      rw [hhv] at h1
      by_cases z : tKd b m (c + 2) = 13
      · rw [if_pos z] at h1 ⊢; exact h1
      · rw [if_neg z] at h1 ⊢; exact h1
    unfold f_X1_takeTell
    rw [xw_ck, kC2 hS, Option.bind_some, tk, Option.bind_some]
    dsimp only
    rw [xsw6 (by have := tKd_b (b := b) (m := m) c; omega), if_neg (by omega), hk]
    show ((xck (xw σ J1) 2 1).bind fun _ => (f_X1_takePin (xw σ J1) 2).bind fun σ7 => f_X1_takeTell_j133 σ7 2) = _
    rw [xw_ck, kC2 hS, Option.bind_some, pin, Option.bind_some]
    exact j133_ok hS h2 (by omega) h3
  have c3 : J3 2 4 = nI (c + 3) := by rw [hJ3, xup_at, if_pos ⟨rfl, rfl⟩]
  by_cases hbad : w * l ≤ tNu b m (c + 1)
  · have hf : J3 2 2 = 4 ∧ J3 2 3 = nI (tSt b m (c + 1)) := by
      have j0 : xup J1 2 4 (nI (c + 1 + 1)) 2 2 = 0 := by rw [xup_at, if_neg (by omega), v1 _ _ (by omega)]; exact d2
      rw [hJ3, xup_at, if_neg (by omega), xup_at, if_neg (by omega), hJ2, decide_eq_true hbad, blI_t j0, xup_at, if_neg (by omega), xup_at, if_pos ⟨rfl, rfl⟩, xup_at, if_pos ⟨rfl, rfl⟩]
      exact ⟨rfl, rfl⟩
    have j19 : f_X1_takePin_j19 (xw σ J3) 2 (nI (tNu b m (c + 1))) hv = some (xw σ J3) := by
      unfold f_X1_takePin_j19
      have q4 : ((4 : Int32) = 0) = False := eq_false (by decide)
      simp (disch := first | assumption | omega) only [Option.bind_some, Option.map_some, xw_gR, xw_gN, xw_al, xw_ck, xw_uI, xw_ur, xup_at, xur_at, if_true, if_false, reduceIte, and_true, true_and, and_false, false_and, not_true_eq_false, not_false_eq_true, Nat.reduceEqDiff, eq_self, Nat.reduceAdd, Nat.reduceMul, kC1, kG1, kP1, kR1_0, kR1_1, kR1_2, kR1_3, kR1_4, kR1_5, kR1_6, kR1_7, kR1_8, kR1_9, kR1_10, kR1_11, kR1_12, kR1_13, kC2, kG2, kP2, kR2_0, kR2_1, kC3, kG3, kP3, kR3_0, kR3_1, kR3_2, kR3_3, kL4, kA4, kS4, kL5, kA5, kS5, kL6, kA6, kS6, kL7, kA7, kS7, kC8, kG8, kP8, kR8_0, kR8_1, kL9, kA9, kS9, kL10, kA10, kS10, kC11, kG11, kP11, kR11_0, kR11_1, kR11_2, kR11_3, kL12, kA12, kS12, kL13, kA13, kS13, kL14, kA14, kS14, kL15, kA15, kS15, kC16, kG16, kP16, kR16_0, kR16_1, kL17, kA17, kS17, kL18, kA18, kS18, kC19, kG19, kP19, kR19_0, kL20, kL141, kL146, kA146, kS146, kL151, kA151, kS151, kL156, kA156, kS156, kC157, kG157, kP157, kR157_0, kR157_1, kL158, kA158, kS158, kL159, kA159, kS159, kC161, kG161, kP161, kR161_0, kR161_1, kL162, kA162, kS162, kL163, kA163, kS163, kC165, kG165, kP165, kR165_0, kR165_1, kR165_2, kR165_3, kL166, kA166, kS166, kL167, kA167, kS167, kL168, kA168, kS168, kL169, kA169, kS169, kC170, kG170, kP170, kR170_0, kR170_1, kR170_2, kL171, kA171, kS171, kL172, kA172, kS172, kL173, kA173, kS173, kC174, kG174, kP174, kR174_0, kR174_1, kR174_2, kR174_3, kR174_4, kL175, kA175, kS175, kL176, kA176, kS176, kL177, kA177, kS177, kL178, kA178, kS178, kL179, kC180, kG180, kP180, kL181, kL182, kA182, kS182, kC183, kG183, kP183, kR183_1, kR183_3, kR183_5, kR183_6, kR183_7, kR183_8, kR183_9, kR183_21, kR183_26, kR183_27, kR183_30, kR183_31, kR183_33, kR183_34, kR183_36, kR183_37, kR183_38, kR183_39, kR183_40, kR183_41, kR183_42, kR183_43, kR183_44, kL184, kA184, kS184, kL185, kA185, kS185, kL186, kA186, kS186, kL187, kA187, kS187, kL188, kA188, kS188, kL189, kL190, kL191, kA191, kS191, kL192, kA192, kS192, kL193, kA193, kS193, kL194, kA194, kS194, kL195, kA195, kS195, kL196, kA196, kS196, kL197, kA197, kS197, kL198, kA198, kS198, kL199, kA199, kS199, kL200, kA200, kS200, kL201, kL202, kA202, kS202, kL203, kA203, kS203, kL204, kA204, kS204, kL205, kL206, kA206, kS206, hf.1, q4]
    have u3 : ∀ a q, ¬ (a = 2 ∧ (q = 2 ∨ q = 3)) → ¬ (a = 2 ∧ q = 4) → J3 a q = J a q := fun a q h1 h2 => by rw [hJ3, xup_at, if_neg h2]; exact u2 a q h1 h2
    refine ⟨_, start J3 j19 (CT_c (fun a q h1 _ _ _ => u3 a q (by omega) (by omega)) hCJ) c3, fun hno => ?_, fun x j hx1 => ?_⟩
    · rw [hlin, decide_eq_true hbad, if_pos rfl] at hno; cases hno
    · rw [hlin, decide_eq_true hbad, if_pos rfl] at hx1; cases hx1
      refine ⟨fun a q h => ?_, ?_, ?_⟩
      · rw [xup_at, if_neg (by omega), u3 a q (by omega) (by omega)]; exact d1 a q h
      · rw [xup_at, if_neg (by omega)]; exact hf.1
      · rw [xup_at, if_neg (by omega)]; exact hf.2
  · have e2 : J2 = xup J1 2 4 (nI (c + 1 + 1)) := by rw [hJ2, decide_eq_false hbad, blI_f]
    have v3 : ∀ a q, ¬ (a = 2 ∧ q = 4) → J3 a q = J a q := fun a q h => by rw [hJ3, xup_at, if_neg h, e2, xup_at, if_neg h]; exact v1 a q h
    obtain ⟨s, hs⟩ : ∃ s, s = tNu b m (c + 1) := ⟨_, rfl⟩
    have s16 : s < 16 := by omega
    have sp := setPin8 (σ := σ) (J := J3) (i := s) hS (by rw [v3 _ _ (by omega)]; exact p1) (by rw [v3 _ _ (by omega)]; exact p2) (by omega) hv
    have j19 : f_X1_takePin_j19 (xw σ J3) 2 (nI (tNu b m (c + 1))) hv = some (xw σ (xup (xup J3 8 2 (nI (pN p s hv))) 8 3 (nI (uN2 u s hv)))) := by
      rw [← hs]
      unfold f_X1_takePin_j19
      have z2 : J3 2 2 = 0 := by rw [v3 _ _ (by omega)]; exact d2
      simp (disch := first | assumption | omega) only [Option.bind_some, Option.map_some, xw_gR, xw_gN, xw_al, xw_ck, xw_uI, xw_ur, xup_at, xur_at, if_true, if_false, reduceIte, and_true, true_and, and_false, false_and, not_true_eq_false, not_false_eq_true, Nat.reduceEqDiff, eq_self, Nat.reduceAdd, Nat.reduceMul, kC1, kG1, kP1, kR1_0, kR1_1, kR1_2, kR1_3, kR1_4, kR1_5, kR1_6, kR1_7, kR1_8, kR1_9, kR1_10, kR1_11, kR1_12, kR1_13, kC2, kG2, kP2, kR2_0, kR2_1, kC3, kG3, kP3, kR3_0, kR3_1, kR3_2, kR3_3, kL4, kA4, kS4, kL5, kA5, kS5, kL6, kA6, kS6, kL7, kA7, kS7, kC8, kG8, kP8, kR8_0, kR8_1, kL9, kA9, kS9, kL10, kA10, kS10, kC11, kG11, kP11, kR11_0, kR11_1, kR11_2, kR11_3, kL12, kA12, kS12, kL13, kA13, kS13, kL14, kA14, kS14, kL15, kA15, kS15, kC16, kG16, kP16, kR16_0, kR16_1, kL17, kA17, kS17, kL18, kA18, kS18, kC19, kG19, kP19, kR19_0, kL20, kL141, kL146, kA146, kS146, kL151, kA151, kS151, kL156, kA156, kS156, kC157, kG157, kP157, kR157_0, kR157_1, kL158, kA158, kS158, kL159, kA159, kS159, kC161, kG161, kP161, kR161_0, kR161_1, kL162, kA162, kS162, kL163, kA163, kS163, kC165, kG165, kP165, kR165_0, kR165_1, kR165_2, kR165_3, kL166, kA166, kS166, kL167, kA167, kS167, kL168, kA168, kS168, kL169, kA169, kS169, kC170, kG170, kP170, kR170_0, kR170_1, kR170_2, kL171, kA171, kS171, kL172, kA172, kS172, kL173, kA173, kS173, kC174, kG174, kP174, kR174_0, kR174_1, kR174_2, kR174_3, kR174_4, kL175, kA175, kS175, kL176, kA176, kS176, kL177, kA177, kS177, kL178, kA178, kS178, kL179, kC180, kG180, kP180, kL181, kL182, kA182, kS182, kC183, kG183, kP183, kR183_1, kR183_3, kR183_5, kR183_6, kR183_7, kR183_8, kR183_9, kR183_21, kR183_26, kR183_27, kR183_30, kR183_31, kR183_33, kR183_34, kR183_36, kR183_37, kR183_38, kR183_39, kR183_40, kR183_41, kR183_42, kR183_43, kR183_44, kL184, kA184, kS184, kL185, kA185, kS185, kL186, kA186, kS186, kL187, kA187, kS187, kL188, kA188, kS188, kL189, kL190, kL191, kA191, kS191, kL192, kA192, kS192, kL193, kA193, kS193, kL194, kA194, kS194, kL195, kA195, kS195, kL196, kA196, kS196, kL197, kA197, kS197, kL198, kA198, kS198, kL199, kA199, kS199, kL200, kA200, kS200, kL201, kL202, kA202, kS202, kL203, kA203, kS203, kL204, kA204, kS204, kL205, kL206, kA206, kS206, z2, sp]
    have hv0 : hv ≠ 0 := by rw [hhv]; split <;> decide
    have hv1 : (hv = 1) ↔ tKd b m (c + 2) = 13 := by
      rw [hhv]
      by_cases z : tKd b m (c + 2) = 13
      · rw [if_pos z]; simp [z]
      · rw [if_neg z]; simp [z]
    refine ⟨_, start _ j19 (CT_c (fun a q h1 h2 _ _ => by rw [xup_at, if_neg (by omega), xup_at, if_neg (by omega)]; exact v3 a q (by omega)) hCJ) (by rw [xup_at, if_neg (by omega), xup_at, if_neg (by omega)]; exact c3), fun hno => ?_, fun x j hx1 => ?_⟩
    · have fr : ∀ a q, ¬ (a = 2 ∧ q = 4) → ¬ (a = 8 ∧ (q = 2 ∨ q = 3)) → xup (xup (xup J3 8 2 (nI (pN p s hv))) 8 3 (nI (uN2 u s hv))) 2 4 (nI (c + 3 + 1)) a q = J a q := fun a q h1 h2 => by rw [xup_at, if_neg h1, xup_at, if_neg (by omega), xup_at, if_neg (by omega)]; exact v3 a q h1
      refine DR_next hT h4c hws hc hD (fun a q h => by rw [fr a q (by omega) (by omega)]; exact d1 a q h) (by rw [fr _ _ (by omega) (by omega)]; exact d2) (by rw [fr _ _ (by omega) (by omega)]; exact d3) (by rw [xup_at, if_pos ⟨rfl, rfl⟩, hE]) (fun q h1 h2 => fr _ _ (by omega) (by omega)) ?_ ?_ ?_ (fun t ht => ?_) (fun i hi => ?_) ?_ (by rw [fr _ _ (by omega) (by omega)]; exact d10) (by rw [if_neg (by omega), fr _ _ (by omega) (by omega)]; exact d11)
      · rw [if_neg (by omega), fr _ _ (by omega) (by omega)]; exact d6.1
      · rw [if_neg (by omega), fr _ _ (by omega) (by omega)]; exact d6.2.1
      · rw [if_neg (by omega), fr _ _ (by omega) (by omega)]; exact d6.2.2
      · rw [if_neg (by omega), fr _ _ (by omega) (by omega), fr 9 t (by omega) (by omega)]; exact d7 t ht
      · rw [if_neg (by omega), fr _ _ (by omega) (by omega), fr 10 i (by omega) (by omega)]; exact d8 i hi
      · refine ⟨pN p s hv, uN2 u s hv, by rw [xup_at, if_neg (by omega), xup_at, if_neg (by omega), xup_at, if_pos ⟨rfl, rfl⟩], by rw [xup_at, if_neg (by omega), xup_at, if_pos ⟨rfl, rfl⟩], fun i => ?_, fun i => ?_⟩
        · unfold pN
          rw [if_neg hv0, fb_bit_set, p3]
          by_cases z : s = i
          · rw [if_pos ⟨hk, by rw [← hs]; exact z⟩, decide_eq_true z.symm, Bool.or_true, decide_eq_true (by omega), Bool.true_and]
            symm
            apply decide_eq_true
            split <;> omega
          · rw [if_neg (fun y => z (by rw [hs]; exact y.2)), decide_eq_false (show ¬ i = s from fun y => z y.symm), Bool.or_false]
        · unfold uN2
          by_cases h13 : tKd b m (c + 2) = 13
          · rw [if_pos (hv1.mpr h13), fb_bit_set, p4]
            by_cases z : s = i
            · rw [if_pos ⟨hk, by rw [← hs]; exact z⟩, if_pos h13, decide_eq_true z.symm, Bool.or_true, decide_eq_true (show i < 16 by omega), Bool.true_and, decide_eq_true rfl]
            · rw [if_neg (fun y => z (by rw [hs]; exact y.2)), decide_eq_false (show ¬ i = s from fun y => z y.symm), Bool.or_false]
          · rw [if_neg (fun y => h13 (hv1.mp y))]
            by_cases hi : i < 32
            · rw [andn_bit _ _ _ hi, p4, Nat.testBit_two_pow]
              by_cases z : s = i
              · rw [if_pos ⟨hk, by rw [← hs]; exact z⟩, if_neg h13, decide_eq_true z]
                simp
              · rw [if_neg (fun y => z (by rw [hs]; exact y.2)), decide_eq_false z]
                simp
            · rw [Nat.testBit_and, p4, decide_eq_false (show ¬ i < 16 by omega)]
              simp
    · rw [hlin, decide_eq_false hbad, if_neg (by decide)] at hx1; cases hx1
end TELL2
end
section
/-! pulls and ties -/
section TELL3
variable {σ : XS} {J0 J : Nat → Nat → Int32} {b : Nat → Int32} {m T w l r c : Nat}
theorem tell4 (hS : Shp σ) (hC : CT J0 b m T) (hwl : w * l ≤ 16) (h4c : 4 ≤ c) (hws : ws b m c = some 4) (hc : c < T) (hD : DR J0 J b m w l r c) (hL : LN4 b m c) : ∃ J', f_X1_takeTell (xw σ J) 2 = some (xw σ J') ∧ (linF b m w l r c = none → DR J0 J' b m w l r (lnE b m c + 1)) ∧ ∀ x j, linF b m w l r c = some (x, j) → DF J0 J' b m x j := by
  obtain ⟨d1, d2, d3, d4, d5, d6, d7, d8, d9, d10, d11⟩ := id hD
  obtain ⟨hk, hk1, hJ⟩ := hL
  have hT := hC.1
  have hend := (line_at hT hws hc).2.2.2.1
  have hE : lnE b m c = c + 2 + jlT b m (c + 2) := by unfold lnE; rw [if_neg (by omega), if_neg (by omega), if_pos hk]
  have T4 := hT.2.1
  have hCJ : CT J b m T := CT_c (fun a q h1 h2 h3 h4 => d1 a q (by omega)) hC
  have hlin : linF b m w l r c = if decide (w * l ≤ tNu b m (c + 1)) = true then some (4, c + 1) else if 3 < tNu b m (jnT b m (c + 2)) then some (3, jnT b m (c + 2)) else none := by
    unfold linF
    rw [if_neg (by omega), if_neg (by omega), if_pos hk, badS_n (by omega)]
  obtain ⟨J1, hJ1⟩ : ∃ J1, J1 = xup J 2 4 (nI (c + 1)) := ⟨_, rfl⟩
  have v1 : ∀ a q, ¬ (a = 2 ∧ q = 4) → J1 a q = J a q := fun a q h => by rw [hJ1, xup_at, if_neg h]
  have hC1 : CT J1 b m T := CT_c (fun a q h1 _ _ _ => v1 a q (by omega)) hCJ
  have tk := tkKind (σ := σ) hS hCJ (show c ≤ T by omega) d4
  rw [← hJ1] at tk
  have ts := takeSite_ok (σ := σ) (J := J1) hS hC1 (show c + 1 < T by omega) hk1 (by rw [hJ1, xup_at, if_pos ⟨rfl, rfl⟩]) (by rw [v1 _ _ (by omega)]; exact d5.1) (by rw [v1 _ _ (by omega)]; exact d5.2.1) (by omega)
  obtain ⟨J2, hJ2⟩ : ∃ J2, J2 = blI (xup J1 2 4 (nI (c + 1 + 1))) (decide (w * l ≤ tNu b m (c + 1))) 4 (nI (tSt b m (c + 1))) := ⟨_, rfl⟩
  rw [← hJ2] at ts
  have u2 : ∀ a q, ¬ (a = 2 ∧ (q = 2 ∨ q = 3)) → ¬ (a = 2 ∧ q = 4) → J2 a q = J a q := fun a q h1 h2 => by rw [hJ2, blI_out h1, xup_at, if_neg h2]; exact v1 a q h2
  have c2 : J2 2 4 = nI (c + 2) := by rw [hJ2, blI_out (by omega), xup_at, if_pos ⟨rfl, rfl⟩]
  have hC2 : CT J2 b m T := CT_c (fun a q h1 _ _ _ => u2 a q (by omega) (by omega)) hCJ
  have tj := takeJ_ok (σ := σ) (J := J2) hS hC2 hJ (by omega) c2
  obtain ⟨J3, hJ3⟩ : ∃ J3, J3 = blI (xup J2 2 4 (nI (c + 2 + jlT b m (c + 2)))) (decide (3 < tNu b m (jnT b m (c + 2)))) 3 (nI (tSt b m (jnT b m (c + 2)))) := ⟨_, rfl⟩
  rw [← hJ3] at tj
  have u3 : ∀ a q, ¬ (a = 2 ∧ (q = 2 ∨ q = 3)) → ¬ (a = 2 ∧ q = 4) → J3 a q = J a q := fun a q h1 h2 => by rw [hJ3, blI_out h1, xup_at, if_neg h2]; exact u2 a q h1 h2
  have c3 : J3 2 4 = nI (lnE b m c) := by rw [hJ3, blI_out (by omega), xup_at, if_pos ⟨rfl, rfl⟩, hE]
  have start : ∀ J5, (if J3 2 2 = 0 then ((f_X6_setField (xw σ J3) 8 (nI (tNu b m (c + 1))) (iI (jvT b m (c + 2)))).bind fun σ15 => (xgI σ15 2 1 12).bind fun v17 => (xpI σ15 2 1 12 (v17 ||| ((1 : Int32) <<< (nI (tNu b m (c + 1)) &&& 31)))).bind fun σ19 => some σ19) else some (xw σ J3)) = some (xw σ J5) → CT J5 b m T → J5 2 4 = nI (lnE b m c) → f_X1_takeTell (xw σ J) 2 = some (xw σ (xup J5 2 4 (nI (lnE b m c + 1)))) := by
    intro J5 h1 h2 h3
    have pul : f_X1_takePull (xw σ J1) 2 = some (xw σ J5) := by
      unfold f_X1_takePull
      rw [xw_ck, kC2 hS, Option.bind_some, ts, Option.bind_some]
      dsimp only
      rw [xw_ck, kC2 hS, Option.bind_some, tj, Option.bind_some]
      dsimp only
      rw [kG2 hS, Option.bind_some]
      by_cases z : J3 2 2 = 0
      · rw [if_pos z] at h1 ⊢
        rw [xw_gR, kR2_1 hS, Option.bind_some, xw_ck, kC8 hS, Option.bind_some]; exact h1
      · rw [if_neg z] at h1 ⊢; exact h1
    unfold f_X1_takeTell
    rw [xw_ck, kC2 hS, Option.bind_some, tk, Option.bind_some]
    dsimp only
    rw [xsw6 (by have := tKd_b (b := b) (m := m) c; omega), if_neg (by omega), hk]
    show ((xck (xw σ J1) 2 1).bind fun _ => (f_X1_takePull (xw σ J1) 2).bind fun σ7 => f_X1_takeTell_j133 σ7 2) = _
    rw [xw_ck, kC2 hS, Option.bind_some, pul, Option.bind_some]
    exact j133_ok hS h2 (by omega) h3
  -- a fault: all that is wanted
  have flt : ∀ x j : Nat, x ≠ 0 → x < 5 → J3 2 2 = nI x → J3 2 3 = nI (tSt b m j) → linF b m w l r c = some (x, j) → ∃ J', f_X1_takeTell (xw σ J) 2 = some (xw σ J') ∧ (linF b m w l r c = none → DR J0 J' b m w l r (lnE b m c + 1)) ∧ ∀ x j, linF b m w l r c = some (x, j) → DF J0 J' b m x j := by
    intro x j hx0 hx5 f2 f3 hl
    have nz : J3 2 2 ≠ 0 := by rw [f2]; exact nI_ne0 (by omega) (by omega)
    refine ⟨_, start J3 (by rw [if_neg nz]) (CT_c (fun a q h1 _ _ _ => u3 a q (by omega) (by omega)) hCJ) c3, fun hno => ?_, fun x' j' h' => ?_⟩
    · rw [hl] at hno; cases hno
    · rw [hl] at h'; cases h'
      refine ⟨fun a q h => ?_, ?_, ?_⟩
      · rw [xup_at, if_neg (by omega), u3 a q (by omega) (by omega)]; exact d1 a q h
      · rw [xup_at, if_neg (by omega)]; exact f2
      · rw [xup_at, if_neg (by omega)]; exact f3
  by_cases hbad : w * l ≤ tNu b m (c + 1)
  · have j0 : xup J1 2 4 (nI (c + 1 + 1)) 2 2 = 0 := by rw [xup_at, if_neg (by omega), v1 _ _ (by omega)]; exact d2
    have e2 : J2 2 2 = nI 4 ∧ J2 2 3 = nI (tSt b m (c + 1)) := by
      rw [hJ2, decide_eq_true hbad, blI_t j0, xup_at, if_neg (by omega), xup_at, if_pos ⟨rfl, rfl⟩, xup_at, if_pos ⟨rfl, rfl⟩]
      exact ⟨rfl, rfl⟩
    have j3 : xup J2 2 4 (nI (c + 2 + jlT b m (c + 2))) 2 2 ≠ 0 := by
      rw [xup_at, if_neg (by omega), e2.1]; decide
    rw [blI_n j3] at hJ3
    exact flt 4 (c + 1) (by omega) (by omega) (by rw [hJ3, xup_at, if_neg (by omega)]; exact e2.1) (by rw [hJ3, xup_at, if_neg (by omega)]; exact e2.2) (by rw [hlin, decide_eq_true hbad, if_pos rfl])
  · have e2 : J2 = xup J1 2 4 (nI (c + 1 + 1)) := by rw [hJ2, decide_eq_false hbad, blI_f]
    have j0 : xup J2 2 4 (nI (c + 2 + jlT b m (c + 2))) 2 2 = 0 := by rw [xup_at, if_neg (by omega), e2, xup_at, if_neg (by omega), v1 _ _ (by omega)]; exact d2
    by_cases h3 : 3 < tNu b m (jnT b m (c + 2))
    · rw [decide_eq_true h3, blI_t j0] at hJ3
      exact flt 3 (jnT b m (c + 2)) (by omega) (by omega) (by rw [hJ3, xup_at, if_neg (by omega), xup_at, if_pos ⟨rfl, rfl⟩]; rfl) (by rw [hJ3, xup_at, if_pos ⟨rfl, rfl⟩]) (by rw [hlin, decide_eq_false hbad, if_neg (by decide), if_pos h3])
    · rw [decide_eq_false h3, blI_f] at hJ3
      have v3 : ∀ a q, ¬ (a = 2 ∧ q = 4) → J3 a q = J a q := fun a q h => by rw [hJ3, xup_at, if_neg h, e2, xup_at, if_neg h]; exact v1 a q h
      obtain ⟨s, hs⟩ : ∃ s, s = tNu b m (c + 1) := ⟨_, rfl⟩
      have s16 : s < 16 := by omega
      have z2 : J3 2 2 = 0 := by rw [v3 _ _ (by omega)]; exact d2
      have sf := setField_ok (σ := σ) (I := J3) (a := 8) hS suA_8 s16 (iI (jvT b m (c + 2)))
      refine ⟨_, start (xup (xup J3 10 s (iI (jvT b m (c + 2)))) 2 12 (J 2 12 ||| ((1 : Int32) <<< (nI s &&& 31)))) ?_ (CT_c (fun a q h1 h2 h3 h4 => by rw [xup_at, if_neg (by omega), xup_at, if_neg (by omega)]; exact v3 a q (by omega)) hCJ) (by rw [xup_at, if_neg (by omega), xup_at, if_neg (by omega)]; exact c3), fun hno => ?_, fun x j hx1 => ?_⟩
      · rw [if_pos z2, ← hs, sf, Option.bind_some, kG2 hS, Option.bind_some, xup_at, if_neg (by omega), v3 2 12 (by omega), kP2 hS, Option.bind_some]
      · have fr : ∀ a q, ¬ (a = 2 ∧ (q = 4 ∨ q = 12)) → a ≠ 10 → xup (xup (xup J3 10 s (iI (jvT b m (c + 2)))) 2 12 (J 2 12 ||| ((1 : Int32) <<< (nI s &&& 31)))) 2 4 (nI (lnE b m c + 1)) a q = J a q := fun a q h1 h2 => by rw [xup_at, if_neg (by omega), xup_at, if_neg (by omega), xup_at, if_neg (by omega)]; exact v3 a q (by omega)
        refine DR_next hT h4c hws hc hD (fun a q h => by rw [fr a q (by omega) (by omega)]; exact d1 a q h) (by rw [fr _ _ (by omega) (by omega)]; exact d2) (by rw [fr _ _ (by omega) (by omega)]; exact d3) (by rw [xup_at, if_pos ⟨rfl, rfl⟩]) (fun q h1 h2 => fr _ _ (by omega) (by omega)) ?_ ?_ ?_ (fun t ht => ?_) (fun i hi => ?_) ?_ (by rw [fr _ _ (by omega) (by omega)]; exact d10) (by rw [if_neg (by omega), fr _ _ (by omega) (by omega)]; exact d11)
        · rw [if_neg (by omega), fr _ _ (by omega) (by omega)]; exact d6.1
        · rw [if_neg (by omega), fr _ _ (by omega) (by omega)]; exact d6.2.1
        · rw [if_neg (by omega), fr _ _ (by omega) (by omega)]; exact d6.2.2
        · rw [if_neg (by omega), fr _ _ (by omega) (by omega), fr 9 t (by omega) (by omega)]; exact d7 t ht
        · have e12 : xup (xup (xup J3 10 s (iI (jvT b m (c + 2)))) 2 12 (J 2 12 ||| ((1 : Int32) <<< (nI s &&& 31)))) 2 4 (nI (lnE b m c + 1)) 2 12 = J 2 12 ||| ((1 : Int32) <<< (nI s &&& 31)) := by rw [xup_at, if_neg (by omega), xup_at, if_pos ⟨rfl, rfl⟩]
          have e10 : xup (xup (xup J3 10 s (iI (jvT b m (c + 2)))) 2 12 (J 2 12 ||| ((1 : Int32) <<< (nI s &&& 31)))) 2 4 (nI (lnE b m c + 1)) 10 i = if i = s then iI (jvT b m (c + 2)) else J 10 i := by
            rw [xup_at, if_neg (by omega), xup_at, if_neg (by omega), xup_at]
            by_cases z : i = s
            · rw [if_pos ⟨rfl, z⟩, if_pos z]
            · rw [if_neg (by omega), if_neg z]; exact v3 _ _ (by omega)
          rw [e12, e10, bt_set (by omega) (by omega)]
          by_cases z : i = s
          · rw [if_pos ⟨hk, by rw [← hs]; exact z.symm⟩, if_pos z, decide_eq_true z, Bool.or_true]
            exact ⟨rfl, rfl⟩
          · rw [if_neg (fun y => z (by rw [hs]; exact y.2.symm)), if_neg z, decide_eq_false z, Bool.or_false]
            exact d8 i hi
        · obtain ⟨p, u, p1, p2, p3, p4⟩ := d9
          refine ⟨p, u, by rw [fr _ _ (by omega) (by omega)]; exact p1, by rw [fr _ _ (by omega) (by omega)]; exact p2, fun i => ?_, fun i => ?_⟩
          · rw [if_neg (by omega)]; exact p3 i
          · rw [if_neg (by omega)]; exact p4 i
      · rw [hlin, decide_eq_false hbad, if_neg (by decide), if_neg h3] at hx1; cases hx1
theorem tell3 (hS : Shp σ) (hC : CT J0 b m T) (hg : ((w, l, r) : GD) ∈ gAll) (h4c : 4 ≤ c) (hws : ws b m c = some 4) (hc : c < T) (hD : DR J0 J b m w l r c) (hL : LN3 b m c) : ∃ J', f_X1_takeTell (xw σ J) 2 = some (xw σ J') ∧ (linF b m w l r c = none → DR J0 J' b m w l r (lnE b m c + 1)) ∧ ∀ x j, linF b m w l r c = some (x, j) → DF J0 J' b m x j := by
  have hwl : w * l ≤ 16 := (gAll_b _ hg).2.2.1
  obtain ⟨d1, d2, d3, d4, d5, d6, d7, d8, d9, d10, d11⟩ := id hD
  obtain ⟨hk, hk1, hk2, hJ⟩ := hL
  have hT := hC.1
  have hend := (line_at hT hws hc).2.2.2.1
  have hE : lnE b m c = c + 3 + jlT b m (c + 3) := by unfold lnE; rw [if_neg (by omega), if_pos hk]
  have T4 := hT.2.1
  have hV := tNu_b hk1
  have hCJ : CT J b m T := CT_c (fun a q h1 h2 h3 h4 => d1 a q (by omega)) hC
  have hlin : linF b m w l r c = if badS b m w l r c = true then some (4, c + 1) else if 3 < tNu b m (jnT b m (c + 3)) then some (3, jnT b m (c + 3)) else none := by
    unfold linF
    rw [if_neg (by omega), if_pos hk]
  obtain ⟨J1, hJ1⟩ : ∃ J1, J1 = xup J 2 4 (nI (c + 1)) := ⟨_, rfl⟩
  have v1 : ∀ a q, ¬ (a = 2 ∧ q = 4) → J1 a q = J a q := fun a q h => by rw [hJ1, xup_at, if_neg h]
  have hC1 : CT J1 b m T := CT_c (fun a q h1 _ _ _ => v1 a q (by omega)) hCJ
  have tk := tkKind (σ := σ) hS hCJ (show c ≤ T by omega) d4
  rw [← hJ1] at tk
  have ts := takeSite_ok (σ := σ) (J := J1) hS hC1 (show c + 1 < T by omega) hk1 (by rw [hJ1, xup_at, if_pos ⟨rfl, rfl⟩]) (by rw [v1 _ _ (by omega)]; exact d5.1) (by rw [v1 _ _ (by omega)]; exact d5.2.1) (by omega)
  obtain ⟨J2, hJ2⟩ : ∃ J2, J2 = blI (xup J1 2 4 (nI (c + 1 + 1))) (decide (w * l ≤ tNu b m (c + 1))) 4 (nI (tSt b m (c + 1))) := ⟨_, rfl⟩
  rw [← hJ2] at ts
  have u2 : ∀ a q, ¬ (a = 2 ∧ (q = 2 ∨ q = 3)) → ¬ (a = 2 ∧ q = 4) → J2 a q = J a q := fun a q h1 h2 => by rw [hJ2, blI_out h1, xup_at, if_neg h2]; exact v1 a q h2
  have c2 : J2 2 4 = nI (c + 2) := by rw [hJ2, blI_out (by omega), xup_at, if_pos ⟨rfl, rfl⟩]
  have hC2 : CT J2 b m T := CT_c (fun a q h1 _ _ _ => u2 a q (by omega) (by omega)) hCJ
  have tk2 := tkKind (σ := σ) hS hC2 (show c + 2 ≤ T by omega) c2
  obtain ⟨J3, hJ3⟩ : ∃ J3, J3 = xup J2 2 4 (nI (c + 2 + 1)) := ⟨_, rfl⟩
  rw [← hJ3] at tk2
  have u3 : ∀ a q, ¬ (a = 2 ∧ (q = 2 ∨ q = 3)) → ¬ (a = 2 ∧ q = 4) → J3 a q = J a q := fun a q h1 h2 => by rw [hJ3, xup_at, if_neg h2]; exact u2 a q h1 h2
  have c3 : J3 2 4 = nI (c + 3) := by rw [hJ3, xup_at, if_pos ⟨rfl, rfl⟩]
  have hC3 : CT J3 b m T := CT_c (fun a q h1 _ _ _ => u3 a q (by omega) (by omega)) hCJ
  obtain ⟨tp, htp⟩ : ∃ tp, tp = tpl b m c := ⟨_, rfl⟩
  have q7 : (nI (tKd b m (c + 2)) = (7 : Int32)) = (tKd b m (c + 2) = 7) := nn_eq (b := 7) (by omega) (by decide)
  have start : ∀ J5, f_X1_takeTie_j22 (xw σ J3) 2 (nI tp) = some (xw σ J5) → CT J5 b m T → J5 2 4 = nI (lnE b m c) → f_X1_takeTell (xw σ J) 2 = some (xw σ (xup J5 2 4 (nI (lnE b m c + 1)))) := by
    intro J5 h1 h2 h3
    have tie : f_X1_takeTie (xw σ J1) 2 = some (xw σ J5) := by
      unfold f_X1_takeTie
      rw [xw_ck, kC2 hS, Option.bind_some, ts, Option.bind_some]
      dsimp only
      rw [xw_ck, kC2 hS, Option.bind_some, tk2, Option.bind_some]
      dsimp only
      simp only [q7]
      rw [htp] at h1
      unfold tpl at h1
      by_cases z : tKd b m (c + 2) = 7
      · rw [if_pos z] at h1 ⊢
        rw [show (16 : Int32) = nI 16 from rfl, nn_add]; exact h1
      · rw [if_neg z] at h1 ⊢; exact h1
    unfold f_X1_takeTell
    rw [xw_ck, kC2 hS, Option.bind_some, tk, Option.bind_some]
    dsimp only
    rw [xsw6 (by have := tKd_b (b := b) (m := m) c; omega), if_neg (by omega), hk]
    show ((xck (xw σ J1) 2 1).bind fun _ => (f_X1_takeTie (xw σ J1) 2).bind fun σ7 => f_X1_takeTell_j133 σ7 2) = _
    rw [xw_ck, kC2 hS, Option.bind_some, tie, Option.bind_some]
    exact j133_ok hS h2 (by omega) h3
  -- the J of a tie, on a draft that is at fault already
  have j68f : ∀ J4, CT J4 b m T → J4 2 4 = nI (c + 3) → J4 2 2 ≠ 0 → f_X1_takeTie_j68 (xw σ J4) 2 (nI tp) = some (xw σ (xup J4 2 4 (nI (c + 3 + jlT b m (c + 3))))) := by
    intro J4 h1 h2 h3
    have tj := takeJ_ok (σ := σ) (J := J4) hS h1 hJ (by omega) h2
    have h3' : xup J4 2 4 (nI (c + 3 + jlT b m (c + 3))) 2 2 ≠ 0 := by rw [xup_at, if_neg (by omega)]; exact h3
    rw [blI_n h3'] at tj
    unfold f_X1_takeTie_j68
    rw [xw_ck, kC2 hS, Option.bind_some, tj, Option.bind_some]
    dsimp only
    rw [kG2 hS, Option.bind_some, if_neg h3']
  have flt : ∀ (J5 : Nat → Nat → Int32) (x j : Nat), f_X1_takeTie_j22 (xw σ J3) 2 (nI tp) = some (xw σ J5) → (∀ a q, ¬ (a = 2 ∧ (q = 2 ∨ q = 3)) → ¬ (a = 2 ∧ q = 4) → J5 a q = J a q) → J5 2 4 = nI (lnE b m c) → J5 2 2 = nI x → J5 2 3 = nI (tSt b m j) → linF b m w l r c = some (x, j) → ∃ J', f_X1_takeTell (xw σ J) 2 = some (xw σ J') ∧ (linF b m w l r c = none → DR J0 J' b m w l r (lnE b m c + 1)) ∧ ∀ x j, linF b m w l r c = some (x, j) → DF J0 J' b m x j := by
    intro J5 x j h1 u5 c5 f2 f3 hl
    refine ⟨_, start J5 h1 (CT_c (fun a q h1 _ _ _ => u5 a q (by omega) (by omega)) hCJ) c5, fun hno => ?_, fun x' j' h' => ?_⟩
    · rw [hl] at hno; cases hno
    · rw [hl] at h'; cases h'
      refine ⟨fun a q h => ?_, ?_, ?_⟩
      · rw [xup_at, if_neg (by omega), u5 a q (by omega) (by omega)]; exact d1 a q h
      · rw [xup_at, if_neg (by omega)]; exact f2
      · rw [xup_at, if_neg (by omega)]; exact f3
  by_cases hbad : w * l ≤ tNu b m (c + 1)
  · have j0 : xup J1 2 4 (nI (c + 1 + 1)) 2 2 = 0 := by rw [xup_at, if_neg (by omega), v1 _ _ (by omega)]; exact d2
    have e2 : J2 2 2 = nI 4 ∧ J2 2 3 = nI (tSt b m (c + 1)) := by
      rw [hJ2, decide_eq_true hbad, blI_t j0, xup_at, if_neg (by omega), xup_at, if_pos ⟨rfl, rfl⟩, xup_at, if_pos ⟨rfl, rfl⟩]
      exact ⟨rfl, rfl⟩
    have f3 : J3 2 2 = nI 4 := by rw [hJ3, xup_at, if_neg (by omega)]; exact e2.1
    have nz : J3 2 2 ≠ 0 := by rw [f3]; decide
    have bd : badS b m w l r c = true := by unfold badS; rw [decide_eq_true hbad, Bool.true_or]
    refine flt (xup J3 2 4 (nI (c + 3 + jlT b m (c + 3)))) 4 (c + 1) ?_ (fun a q h1 h2 => by rw [xup_at, if_neg h2]; exact u3 a q h1 h2) (by rw [xup_at, if_pos ⟨rfl, rfl⟩, hE]) (by rw [xup_at, if_neg (by omega)]; exact f3) (by rw [xup_at, if_neg (by omega), hJ3, xup_at, if_neg (by omega)]; exact e2.2) (by rw [hlin, bd, if_pos rfl])
    unfold f_X1_takeTie_j22
    rw [kG2 hS, Option.bind_some, if_neg nz]
    exact j68f J3 hC3 c3 nz
  · have e2 : J2 = xup J1 2 4 (nI (c + 1 + 1)) := by rw [hJ2, decide_eq_false hbad, blI_f]
    have v3 : ∀ a q, ¬ (a = 2 ∧ q = 4) → J3 a q = J a q := fun a q h => by rw [hJ3, xup_at, if_neg h, e2, xup_at, if_neg h]; exact v1 a q h
    have z3 : J3 2 2 = 0 := by rw [v3 _ _ (by omega)]; exact d2
    have tp32 : tp < 32 := by rw [htp]; unfold tpl; split <;> omega
    have eo := endOf_ok (w, l, r) hg tp tp32
    have eo : f_X3_endOf (nI w) (nI l) (nI r) (nI tp) = some (oI (gTo (w, l, r) tp)) := eo
    have j22 : f_X1_takeTie_j22 (xw σ J3) 2 (nI tp) = if oI (gTo (w, l, r) tp) = (-1 : Int32) then f_X1_takeTie_j68 (xw σ (xup (xup J3 2 2 4) 2 3 (nI (tSt b m (c + 1))))) 2 (nI tp) else f_X1_takeTie_j68 (xw σ J3) 2 (nI tp) := by
      have e1 : nI (c + 3) - (2 : Int32) = nI (c + 1) := by rw [show (2 : Int32) = nI 2 from rfl, nn_sub (by omega)]; congr 1
      have pl := plAt_ok (σ := σ) hS hC3 (show c + 1 < T by omega)
      unfold f_X1_takeTie_j22
      rw [kG2 hS, Option.bind_some, if_pos z3, kG2 hS, Option.bind_some, kG2 hS, Option.bind_some, kG2 hS, Option.bind_some, v3 2 5 (by omega), v3 2 6 (by omega), v3 2 7 (by omega), d5.1, d5.2.1, d5.2.2, eo, Option.bind_some, xw_gR, kR2_0 hS, Option.bind_some, kG2 hS, Option.bind_some, c3, e1, xw_ck, kC3 hS, Option.bind_some, pl, Option.bind_some, xw_ck, kC2 hS, Option.bind_some, blame_0 hS z3, Option.bind_some]
    have bdS : badS b m w l r c = (gTo (w, l, r) tp).isNone := by
      unfold badS
      rw [decide_eq_false hbad, Bool.false_or, decide_eq_true hk, Bool.true_and, ← htp]
    cases hgt : gTo (w, l, r) tp with
    | none =>
      rw [hgt] at bdS j22
      rw [if_pos (show oI none = -1 from rfl)] at j22
      have bdS : badS b m w l r c = true := bdS
      have f4 : xup (xup J3 2 2 4) 2 3 (nI (tSt b m (c + 1))) 2 2 = nI 4 := by rw [xup_at, if_neg (by omega), xup_at, if_pos ⟨rfl, rfl⟩]; rfl
      have j := j68f (xup (xup J3 2 2 4) 2 3 (nI (tSt b m (c + 1)))) (CT_c (fun a q h1 _ _ _ => by rw [xup_at, if_neg (by omega), xup_at, if_neg (by omega)]; exact u3 a q (by omega) (by omega)) hCJ) (by rw [xup_at, if_neg (by omega), xup_at, if_neg (by omega)]; exact c3) (by rw [f4]; decide)
      exact flt _ 4 (c + 1) (j22.trans j) (fun a q h1 h2 => by rw [xup_at, if_neg h2, xup_at, if_neg (by omega), xup_at, if_neg (by omega)]; exact u3 a q h1 h2) (by rw [xup_at, if_pos ⟨rfl, rfl⟩, hE]) (by rw [xup_at, if_neg (by omega)]; exact f4) (by rw [xup_at, if_neg (by omega), xup_at, if_pos ⟨rfl, rfl⟩]) (by rw [hlin, bdS, if_pos rfl])
    | some e =>
      rw [hgt] at bdS j22
      have e16 := (gTo_b (w, l, r) hg tp tp32 e hgt).2.1
      have e16' : e < 16 := Nat.lt_of_lt_of_le e16 hwl
      rw [if_neg (show ¬ oI (some e) = -1 by have := nn_m1 (a := e) (by omega); show ¬ nI e = -1; rw [this]; exact id)] at j22
      have bd : badS b m w l r c = false := bdS
      have tj := takeJ_ok (σ := σ) (J := J3) hS hC3 hJ (by omega) c3
      have j0 : xup J3 2 4 (nI (c + 3 + jlT b m (c + 3))) 2 2 = 0 := by rw [xup_at, if_neg (by omega)]; exact z3
      by_cases h3 : 3 < tNu b m (jnT b m (c + 3))
      · rw [decide_eq_true h3, blI_t j0] at tj
        obtain ⟨J5, hJ5⟩ : ∃ J5, J5 = xup (xup (xup J3 2 4 (nI (c + 3 + jlT b m (c + 3)))) 2 2 3) 2 3 (nI (tSt b m (jnT b m (c + 3)))) := ⟨_, rfl⟩
        rw [← hJ5] at tj
        have f5 : J5 2 2 = nI 3 := by rw [hJ5, xup_at, if_neg (by omega), xup_at, if_pos ⟨rfl, rfl⟩]; rfl
        refine flt J5 3 (jnT b m (c + 3)) ?_ (fun a q h1 h2 => by rw [hJ5, xup_at, if_neg (by omega), xup_at, if_neg (by omega), xup_at, if_neg h2]; exact u3 a q h1 h2) (by rw [hJ5, xup_at, if_neg (by omega), xup_at, if_neg (by omega), xup_at, if_pos ⟨rfl, rfl⟩, hE]) f5 (by rw [hJ5, xup_at, if_pos ⟨rfl, rfl⟩]) (by rw [hlin, bd, if_neg (by decide), if_pos h3])
        rw [j22]
        unfold f_X1_takeTie_j68
        rw [xw_ck, kC2 hS, Option.bind_some, tj, Option.bind_some]
        dsimp only
        rw [kG2 hS, Option.bind_some, if_neg (by rw [f5]; decide)]
      · rw [decide_eq_false h3, blI_f] at tj
        obtain ⟨J4, hJ4⟩ : ∃ J4, J4 = xup J3 2 4 (nI (c + 3 + jlT b m (c + 3))) := ⟨_, rfl⟩
        rw [← hJ4] at tj j0
        have v4 : ∀ a q, ¬ (a = 2 ∧ q = 4) → J4 a q = J a q := fun a q h => by rw [hJ4, xup_at, if_neg h]; exact v3 a q h
        have sb := setBond_ok (σ := σ) (I := J4) (a := 8) hS suA_8 tp32 (iI (jvT b m (c + 3)))
        have j68 : f_X1_takeTie_j68 (xw σ J3) 2 (nI tp) = some (xw σ (xup (xup J4 9 tp (iI (jvT b m (c + 3)))) 2 11 (J 2 11 ||| ((1 : Int32) <<< (nI tp &&& 31))))) := by
          unfold f_X1_takeTie_j68
          rw [xw_ck, kC2 hS, Option.bind_some, tj, Option.bind_some]
          dsimp only
          rw [kG2 hS, Option.bind_some, if_pos j0, xw_gR, kR2_1 hS, Option.bind_some, xw_ck, kC8 hS, Option.bind_some, sb, Option.bind_some, kG2 hS, Option.bind_some, xup_at, if_neg (by omega), v4 2 11 (by omega), kP2 hS, Option.bind_some]
        refine ⟨_, start _ (j22.trans j68) (CT_c (fun a q h1 h2 h3 h4 => by rw [xup_at, if_neg (by omega), xup_at, if_neg (by omega)]; exact v4 a q (by omega)) hCJ) (by rw [xup_at, if_neg (by omega), xup_at, if_neg (by omega), hJ4, xup_at, if_pos ⟨rfl, rfl⟩, hE]), fun hno => ?_, fun x j hx1 => ?_⟩
        · have fr : ∀ a q, ¬ (a = 2 ∧ (q = 4 ∨ q = 11)) → a ≠ 9 → xup (xup (xup J4 9 tp (iI (jvT b m (c + 3)))) 2 11 (J 2 11 ||| ((1 : Int32) <<< (nI tp &&& 31)))) 2 4 (nI (lnE b m c + 1)) a q = J a q := fun a q h1 h2 => by rw [xup_at, if_neg (by omega), xup_at, if_neg (by omega), xup_at, if_neg (by omega)]; exact v4 a q (by omega)
          refine DR_next hT h4c hws hc hD (fun a q h => by rw [fr a q (by omega) (by omega)]; exact d1 a q h) (by rw [fr _ _ (by omega) (by omega)]; exact d2) (by rw [fr _ _ (by omega) (by omega)]; exact d3) (by rw [xup_at, if_pos ⟨rfl, rfl⟩]) (fun q h1 h2 => fr _ _ (by omega) (by omega)) ?_ ?_ ?_ (fun t ht => ?_) (fun i hi => ?_) ?_ (by rw [fr _ _ (by omega) (by omega)]; exact d10) (by rw [if_neg (by omega), fr _ _ (by omega) (by omega)]; exact d11)
          · rw [if_neg (by omega), fr _ _ (by omega) (by omega)]; exact d6.1
          · rw [if_neg (by omega), fr _ _ (by omega) (by omega)]; exact d6.2.1
          · rw [if_neg (by omega), fr _ _ (by omega) (by omega)]; exact d6.2.2
          · have e11 : xup (xup (xup J4 9 tp (iI (jvT b m (c + 3)))) 2 11 (J 2 11 ||| ((1 : Int32) <<< (nI tp &&& 31)))) 2 4 (nI (lnE b m c + 1)) 2 11 = J 2 11 ||| ((1 : Int32) <<< (nI tp &&& 31)) := by rw [xup_at, if_neg (by omega), xup_at, if_pos ⟨rfl, rfl⟩]
            have e9 : xup (xup (xup J4 9 tp (iI (jvT b m (c + 3)))) 2 11 (J 2 11 ||| ((1 : Int32) <<< (nI tp &&& 31)))) 2 4 (nI (lnE b m c + 1)) 9 t = if t = tp then iI (jvT b m (c + 3)) else J 9 t := by
              rw [xup_at, if_neg (by omega), xup_at, if_neg (by omega), xup_at]
              by_cases z : t = tp
              · rw [if_pos ⟨rfl, z⟩, if_pos z]
              · rw [if_neg (by omega), if_neg z]; exact v4 _ _ (by omega)
            rw [e11, e9, bt_set (by omega) (by omega)]
            by_cases z : t = tp
            · rw [if_pos ⟨hk, by rw [← htp]; exact z.symm⟩, if_pos z, decide_eq_true z, Bool.or_true]
              exact ⟨rfl, rfl⟩
            · rw [if_neg (fun y => z (by rw [htp]; exact y.2.symm)), if_neg z, decide_eq_false z, Bool.or_false]
              exact d7 t ht
          · rw [if_neg (by omega), fr _ _ (by omega) (by omega), fr 10 i (by omega) (by omega)]; exact d8 i hi
          · obtain ⟨p, u, p1, p2, p3, p4⟩ := d9
            refine ⟨p, u, by rw [fr _ _ (by omega) (by omega)]; exact p1, by rw [fr _ _ (by omega) (by omega)]; exact p2, fun i => ?_, fun i => ?_⟩
            · rw [if_neg (by omega)]; exact p3 i
            · rw [if_neg (by omega)]; exact p4 i
        · rw [hlin, bd, if_neg (by decide), if_neg h3] at hx1; cases hx1
/-- a line, whichever it is -/
theorem tell_ok (hS : Shp σ) (hC : CT J0 b m T) (hg : ((w, l, r) : GD) ∈ gAll) (h4c : 4 ≤ c) (hws : ws b m c = some 4) (hc : c < T) (hD : DR J0 J b m w l r c) : ∃ J', f_X1_takeTell (xw σ J) 2 = some (xw σ J') ∧ (linF b m w l r c = none → DR J0 J' b m w l r (lnE b m c + 1)) ∧ ∀ x j, linF b m w l r c = some (x, j) → DF J0 J' b m x j := by
  have hwl : w * l ≤ 16 := (gAll_b _ hg).2.2.1
  rcases (line_at hC.1 hws hc).1 with h | h | h | h | h | h
  · exact tell1 hS hC h4c hws hc hD h
  · obtain ⟨J', e, a1, a2⟩ := tell2 hS hC h4c hws hc hD h
    exact ⟨J', e, fun _ => a1, fun x j z => by rw [a2] at z; cases z⟩
  · exact tell3 hS hC hg h4c hws hc hD h
  · exact tell4 hS hC hwl h4c hws hc hD h
  · exact tell5 hS hC hwl h4c hws hc hD h
  · obtain ⟨J', e, a1, a2⟩ := tell6 hS hC h4c hws hc hD h
    exact ⟨J', e, fun _ => a1, fun x j z => by rw [a2] at z; cases z⟩
end TELL3
end
