/-! the model's tokens -/
theorem blank_if {α : Type} (y : Int32) (A B : α) : (if y = 9 then A else if y = 10 then A else if y = 13 then A else if y = 32 then A else B) = if isBl y then A else B := by
  unfold isBl
  by_cases h1 : y = 9
  · simp [h1]
  · by_cases h2 : y = 10
    · simp [h2]
    · by_cases h3 : y = 13
      · simp [h3]
      · by_cases h4 : y = 32
        · simp [h4]
        · simp [h1, h2, h3, h4]
section CUTS
variable {τ : XS} {J : Nat → Nat → Int32} {m : Nat} {b : Nat → Int32}
theorem TX_c {J' : Nat → Nat → Int32} (h4 : J' 183 4 = J 183 4) (h5 : ∀ k, J' 185 k = J 185 k) (h : TX J b m) : TX J' b m := by
  obtain ⟨h1, h2, h3⟩ := h
  exact ⟨h1, by rw [h4]; exact h2, fun k hk => by rw [h5]; exact h3 k hk⟩
theorem sign_ok (hS : Shp τ) {i n : Nat} {y : Int32} (hn : n < 403) (h10 : J 183 10 = nI n) : f_X12_sign (xw τ J) 183 (nI i) y = some ((1 : Int32), xw (xl τ (xup (xL τ) 189 n 0)) (tkI J n (if y = 59 then 4 else if y = 45 then 5 else 3) (nI i) 0)) := by
  have tok : ∀ k : Int32, f_X12_sign_j22 (xw τ J) (nI i) 183 k = some ((1 : Int32), xw (xl τ (xup (xL τ) 189 n 0)) (tkI J n k (nI i) 0)) := fun k => by
    unfold f_X12_sign_j22
    rw [xw_ck, kC183 hS, Option.bind_some, token_ok hS hn h10, Option.bind_some]
  unfold f_X12_sign
  rw [tok, tok, tok]
  by_cases h1 : y = 59
  · rw [if_pos h1, if_pos h1]
  · rw [if_neg h1, if_neg h1]
    by_cases h2 : y = 45
    · rw [if_pos h2, if_pos h2]
    · rw [if_neg h2, if_neg h2]
theorem cutsText_ok (hS : Shp τ) (hk : KY (xL τ)) (hX : TX J b m) : ∃ (L : Nat → Nat → Int64) (J' : Nat → Nat → Int32) (N : Nat), f_X12_cutsText (xw τ J) 183 = some (xw (xl τ L) J') ∧ (∀ q, L 190 q = xL τ 190 q) ∧ N ≤ 401 ∧ 0 < N ∧ J' 183 10 = nI N ∧ TKM J' b m N ∧ (∀ i, i + 1 < N → tKd b m i ≠ 0) ∧ (N = 401 ∨ tKd b m (N - 1) = 0) ∧ ∀ a q, ¬ (186 ≤ a ∧ a ≤ 188) → ¬ (a = 183 ∧ q = 10) → J' a q = J a q := by
  have hm := hX.1
  unfold f_X12_cutsText
  simp (disch := first | assumption | omega) only [Option.bind_some, Option.map_some, xw_gR, xw_gN, xw_al, xw_ck, xw_uI, xw_ur, xup_at, xur_at, if_true, if_false, reduceIte, and_true, true_and, and_false, false_and, not_true_eq_false, not_false_eq_true, Nat.reduceEqDiff, eq_self, Nat.reduceAdd, Nat.reduceMul, kC1, kG1, kP1, kR1_0, kR1_1, kR1_2, kR1_3, kR1_4, kR1_5, kR1_6, kR1_7, kR1_8, kR1_9, kR1_10, kR1_11, kR1_12, kR1_13, kC2, kG2, kP2, kR2_0, kR2_1, kC3, kG3, kP3, kR3_0, kR3_1, kR3_2, kR3_3, kL4, kA4, kS4, kL5, kA5, kS5, kL6, kA6, kS6, kL7, kA7, kS7, kC8, kG8, kP8, kR8_0, kR8_1, kL9, kA9, kS9, kL10, kA10, kS10, kC11, kG11, kP11, kR11_0, kR11_1, kR11_2, kR11_3, kL12, kA12, kS12, kL13, kA13, kS13, kL14, kA14, kS14, kL15, kA15, kS15, kC16, kG16, kP16, kR16_0, kR16_1, kL17, kA17, kS17, kL18, kA18, kS18, kC19, kG19, kP19, kR19_0, kL20, kL141, kL146, kA146, kS146, kL151, kA151, kS151, kL156, kA156, kS156, kC157, kG157, kP157, kR157_0, kR157_1, kL158, kA158, kS158, kL159, kA159, kS159, kC161, kG161, kP161, kR161_0, kR161_1, kL162, kA162, kS162, kL163, kA163, kS163, kC165, kG165, kP165, kR165_0, kR165_1, kR165_2, kR165_3, kL166, kA166, kS166, kL167, kA167, kS167, kL168, kA168, kS168, kL169, kA169, kS169, kC170, kG170, kP170, kR170_0, kR170_1, kR170_2, kL171, kA171, kS171, kL172, kA172, kS172, kL173, kA173, kS173, kC174, kG174, kP174, kR174_0, kR174_1, kR174_2, kR174_3, kR174_4, kL175, kA175, kS175, kL176, kA176, kS176, kL177, kA177, kS177, kL178, kA178, kS178, kL179, kC180, kG180, kP180, kL181, kL182, kA182, kS182, kC183, kG183, kP183, kR183_1, kR183_3, kR183_5, kR183_6, kR183_7, kR183_8, kR183_9, kR183_21, kR183_26, kR183_27, kR183_30, kR183_31, kR183_33, kR183_34, kR183_36, kR183_37, kR183_38, kR183_39, kR183_40, kR183_41, kR183_42, kR183_43, kR183_44, kL184, kA184, kS184, kL185, kA185, kS185, kL186, kA186, kS186, kL187, kA187, kS187, kL188, kA188, kS188, kL189, kL190, kL191, kA191, kS191, kL192, kA192, kS192, kL193, kA193, kS193, kL194, kA194, kS194, kL195, kA195, kS195, kL196, kA196, kS196, kL197, kA197, kS197, kL198, kA198, kS198, kL199, kA199, kS199, kL200, kA200, kS200, kL201, kL202, kA202, kS202, kL203, kA203, kS203, kL204, kA204, kS204, kL205, kL206, kA206, kS206]
  have key := xloop_run (f := f_X12_cutsText_b7 183) (fun k a => ∃ (i n : Nat) (L : Nat → Nat → Int64) (J' : Nat → Nat → Int32), a = (nI i, xw (xl τ L) J') ∧ k = m - i ∧ i ≤ m ∧ n ≤ 401 ∧ (∀ q, L 190 q = xL τ 190 q) ∧ J' 183 10 = nI n ∧ TKM J' b m n ∧ (∀ j, j < n → tKd b m j ≠ 0) ∧ tPo b m n ≤ i ∧ (∀ j, tPo b m n ≤ j → j < i → isBl (b j) = true) ∧ ∀ a q, ¬ (186 ≤ a ∧ a ≤ 188) → ¬ (a = 183 ∧ q = 10) → J' a q = J a q) (fun z => ∃ (L : Nat → Nat → Int64) (J' : Nat → Nat → Int32) (N : Nat), z = xw (xl τ L) J' ∧ (∀ q, L 190 q = xL τ 190 q) ∧ N ≤ 401 ∧ 0 < N ∧ J' 183 10 = nI N ∧ TKM J' b m N ∧ (∀ i, i + 1 < N → tKd b m i ≠ 0) ∧ (N = 401 ∨ tKd b m (N - 1) = 0) ∧ ∀ a q, ¬ (186 ≤ a ∧ a ≤ 188) → ¬ (a = 183 ∧ q = 10) → J' a q = J a q) ?_ (m - 0) ((0 : Int32), xw τ (xup J 183 10 0)) ⟨0, 0, xL τ, xup J 183 10 0, rfl, rfl, Nat.zero_le _, by omega, fun _ => rfl, by rw [xup_at, if_pos ⟨rfl, rfl⟩]; rfl, fun i hi => absurd hi (Nat.not_lt_zero _), fun i hi => absurd hi (Nat.not_lt_zero _), Nat.le_refl _, fun j _ h2 => absurd h2 (Nat.not_lt_zero _), fun a q _ h2 => by rw [xup_at, if_neg h2]⟩
  · obtain ⟨z, e, L, J', N, rfl, rest⟩ := key
    exact ⟨L, J', N, e, rest⟩
  · rintro k a ⟨i, n, L, J', rfl, rfl, hi, hn, hL, h10, hT, hnz, hpo, hbl, u⟩
    have hS' : Shp (xl τ L) := hS
    have hK' : KY (xL (xl τ L)) := fun q hq => (hL q).trans (hk q hq)
    have hX' : TX J' b m := TX_c (u _ _ (by omega) (by omega)) (fun q => u _ _ (by omega) (by omega)) hX
    have q400 : ((400 : Int32) < nI n) = (400 < n) := by rw [show (400 : Int32) = nI 400 from rfl, nn_lt (by omega) (by omega)]
    by_cases h401 : 400 < n
    · left
      refine ⟨_, ?_, L, J', n, rfl, hL, hn, by omega, h10, hT, fun j hj => hnz j (by omega), .inl (by omega), u⟩
      simp only [f_X12_cutsText_b7]
      rw [show xgI (xw (xl τ L) J') 183 12 10 = some (nI n) from by rw [← h10]; exact kG183 hS', Option.bind_some, if_pos (by rw [q400]; exact h401)]
      rfl
    · have qi : (nI i < nI m) = (i < m) := nn_lt (by omega) (by omega)
      have h4 := hX'.2.1
      have n403 : n < 403 := by omega
      by_cases him : i < m
      · have hb := byte12_ok (τ := xl τ L) hS' hX' him
        obtain ⟨x1, x2, x3, x4, x5, x6⟩ := b255_x (hX.2.2 i him).2
        right
        cases hbk : isBl (b i) with
        | true =>
          refine ⟨m - (i + 1), (nI (i + 1), xw (xl τ L) J'), by omega, ?_, i + 1, n, L, J', rfl, rfl, by omega, hn, hL, h10, hT, hnz, by omega, fun j h1 h2 => ?_, u⟩
          · simp only [f_X12_cutsText_b7]
            simp (disch := first | assumption | omega) only [Option.bind_some, Option.map_some, xw_gR, xw_gN, xw_al, xw_ck, xw_uI, xw_ur, xup_at, xur_at, if_true, if_false, reduceIte, and_true, true_and, and_false, false_and, not_true_eq_false, not_false_eq_true, Nat.reduceEqDiff, eq_self, Nat.reduceAdd, Nat.reduceMul, kC1, kG1, kP1, kR1_0, kR1_1, kR1_2, kR1_3, kR1_4, kR1_5, kR1_6, kR1_7, kR1_8, kR1_9, kR1_10, kR1_11, kR1_12, kR1_13, kC2, kG2, kP2, kR2_0, kR2_1, kC3, kG3, kP3, kR3_0, kR3_1, kR3_2, kR3_3, kL4, kA4, kS4, kL5, kA5, kS5, kL6, kA6, kS6, kL7, kA7, kS7, kC8, kG8, kP8, kR8_0, kR8_1, kL9, kA9, kS9, kL10, kA10, kS10, kC11, kG11, kP11, kR11_0, kR11_1, kR11_2, kR11_3, kL12, kA12, kS12, kL13, kA13, kS13, kL14, kA14, kS14, kL15, kA15, kS15, kC16, kG16, kP16, kR16_0, kR16_1, kL17, kA17, kS17, kL18, kA18, kS18, kC19, kG19, kP19, kR19_0, kL20, kL141, kL146, kA146, kS146, kL151, kA151, kS151, kL156, kA156, kS156, kC157, kG157, kP157, kR157_0, kR157_1, kL158, kA158, kS158, kL159, kA159, kS159, kC161, kG161, kP161, kR161_0, kR161_1, kL162, kA162, kS162, kL163, kA163, kS163, kC165, kG165, kP165, kR165_0, kR165_1, kR165_2, kR165_3, kL166, kA166, kS166, kL167, kA167, kS167, kL168, kA168, kS168, kL169, kA169, kS169, kC170, kG170, kP170, kR170_0, kR170_1, kR170_2, kL171, kA171, kS171, kL172, kA172, kS172, kL173, kA173, kS173, kC174, kG174, kP174, kR174_0, kR174_1, kR174_2, kR174_3, kR174_4, kL175, kA175, kS175, kL176, kA176, kS176, kL177, kA177, kS177, kL178, kA178, kS178, kL179, kC180, kG180, kP180, kL181, kL182, kA182, kS182, kC183, kG183, kP183, kR183_1, kR183_3, kR183_5, kR183_6, kR183_7, kR183_8, kR183_9, kR183_21, kR183_26, kR183_27, kR183_30, kR183_31, kR183_33, kR183_34, kR183_36, kR183_37, kR183_38, kR183_39, kR183_40, kR183_41, kR183_42, kR183_43, kR183_44, kL184, kA184, kS184, kL185, kA185, kS185, kL186, kA186, kS186, kL187, kA187, kS187, kL188, kA188, kS188, kL189, kL190, kL191, kA191, kS191, kL192, kA192, kS192, kL193, kA193, kS193, kL194, kA194, kS194, kL195, kA195, kS195, kL196, kA196, kS196, kL197, kA197, kS197, kL198, kA198, kS198, kL199, kA199, kS199, kL200, kA200, kS200, kL201, kL202, kA202, kS202, kL203, kA203, kS203, kL204, kA204, kS204, kL205, kL206, kA206, kS206, h10, q400, h401, hb, h4, qi, him]
            rw [blank_if, x3, hbk, if_pos rfl, nI_succ]
          · by_cases z : j = i
            · rw [z]; exact hbk
            · exact hbl j h1 (by omega)
        | false =>
          have hst : tSt b m n = i := nxP_one hpo hi hbl (fun _ => hbk)
          have hne : tKd b m n ≠ 0 := fun z => by
            have := (tKd_0 (b := b) (m := m) n).mp z
            omega
          have hsm : ¬ m ≤ i := by omega
          -- a token of kind kd and value v was laid
          have fin : ∀ (kd v : Int32) (L' : Nat → Nat → Int64), f_X12_cutsText_b7 183 (nI i, xw (xl τ L) J') = some (.inl (nI (tE0 b m i), xw (xl τ L') (tkI J' n kd (nI i) v))) → KMr (tKd b m n) kd → (tKd b m n = 2 → v = nI (tNu b m n)) → (∀ q, L' 190 q = xL τ 190 q) → ∃ k' a', k' < m - i ∧ f_X12_cutsText_b7 183 (nI i, xw (xl τ L) J') = some (.inl a') ∧ ∃ (i n : Nat) (L : Nat → Nat → Int64) (J' : Nat → Nat → Int32), a' = (nI i, xw (xl τ L) J') ∧ k' = m - i ∧ i ≤ m ∧ n ≤ 401 ∧ (∀ q, L 190 q = xL τ 190 q) ∧ J' 183 10 = nI n ∧ TKM J' b m n ∧ (∀ j, j < n → tKd b m j ≠ 0) ∧ tPo b m n ≤ i ∧ (∀ j, tPo b m n ≤ j → j < i → isBl (b j) = true) ∧ ∀ a q, ¬ (186 ≤ a ∧ a ≤ 188) → ¬ (a = 183 ∧ q = 10) → J' a q = J a q := by
            intro kd v L' he hkd hv hL'
            have tb := tE0_b (b := b) hi
            have hpe : tPo b m (n + 1) = tE0 b m i := by rw [tPo_s, hst]
            refine ⟨m - tE0 b m i, _, by have := tb.2.2 him; omega, he, tE0 b m i, n + 1, L', _, rfl, rfl, tb.2.1, by omega, hL', tkI_10, TKM_s hT hkd (by rw [hst]) hv, fun j hj => ?_, by omega, fun j h1 h2 => by omega, fun a q h1 h2 => by rw [tkI_out h1 h2]; exact u a q h1 h2⟩
            by_cases z : j = n
            · rw [z]; exact hne
            · exact hnz j (by omega)
          have stp : f_X12_cutsText_b7 183 (nI i, xw (xl τ L) J') = (f_X12_isLetter (b i &&& 255)).bind fun v9 => if v9 = 0 then ((f_X12_isDigit (b i &&& 255)).bind fun v11 => if v11 = 0 then ((xck (xw (xl τ L) J') 183 12).bind fun _ => (f_X12_sign (xw (xl τ L) J') 183 (nI i) (b i &&& 255)).bind fun (v15, σ14) => some (.inl (nI i + v15, σ14))) else xloop (f_X12_cutsText_b208 (xw (xl τ L) J') 183 (nI i)) ((0 : Int32), (0 : Int32))) else xloop (f_X12_cutsText_b85 (xw (xl τ L) J') 183 (nI i)) ((0 : Int32), (0 : Int64)) := by
            simp only [f_X12_cutsText_b7]
            rw [show xgI (xw (xl τ L) J') 183 12 10 = some (nI n) from by rw [← h10]; exact kG183 hS', Option.bind_some, if_neg (by rw [q400]; exact h401), xw_ck, kC183 hS', Option.bind_some, hb, Option.bind_some, show xgI (xw (xl τ L) J') 183 12 4 = some (nI m) from by rw [← h4]; exact kG183 hS', Option.bind_some, if_pos (by rw [qi]; exact him), blank_if, x3, hbk, if_neg (show ¬ (false = true) by decide)]
          have tkd : tKd b m n = tK0 b m i := by unfold tKd; rw [hst]
          have tnu : tNu b m n = tN0 b m i := by unfold tNu; rw [hst]
          cases hlt : isLt (b i) with
          | true =>
            obtain ⟨L', kd, e1, e2, e3⟩ := letters12 (τ := xl τ L) (J := J') hS' hK' hX' him hlt n403 h10
            have te : tE0 b m i = nxP isLt b m i := by unfold tE0; rw [if_neg hsm, if_pos hlt]
            have tk : tK0 b m i = wdK b i (nxP isLt b m i - i) := by unfold tK0; rw [if_neg hsm, if_pos hlt]
            refine fin kd 0 L' ?_ (by rw [tkd, tk]; exact e2) (fun z => ?_) (fun q => (e3 q).trans (hL q))
            · rw [stp, lt12_ok, Option.bind_some, x1, hlt, if_pos rfl, if_neg (by decide), te]
              exact e1
            · exfalso
              rw [tkd, tk] at z
              have h2 : ∀ p k, k ≤ 11 → wkF p k ≠ 2 := by
                intro p k
                induction k with
                | zero => intro _ q; cases q
                | succ k ih =>
                  intro hk q
                  rw [wkF] at q
                  split at q
                  · omega
                  · exact ih (by omega) q
              exact h2 _ 11 (by omega) z
          | false =>
            cases hdg : isDg (b i) with
            | true =>
              obtain ⟨L', v, e1, e2, e3⟩ := digits12 (τ := xl τ L) (J := J') hS' hX' him hdg n403 h10
              have te : tE0 b m i = nxP isDg b m i := by unfold tE0; rw [if_neg hsm, hlt, if_neg (by decide), if_pos hdg]
              have tk : tK0 b m i = if nxP isDg b m i - i ≤ 4 then 2 else 1 := by unfold tK0; rw [if_neg hsm, hlt, if_neg (by decide), if_pos hdg]
              refine fin (if nxP isDg b m i - i ≤ 4 then 2 else 3) v L' ?_ ?_ (fun z => ?_) (fun q => (e3 q).trans (hL q))
              · rw [stp, lt12_ok, Option.bind_some, x1, hlt, if_neg (show ¬ (false = true) by decide), if_pos rfl, dg12_ok, Option.bind_some, x2, hdg, if_pos rfl, if_neg (by decide), te]
                exact e1
              · rw [tkd, tk]
                by_cases h4 : nxP isDg b m i - i ≤ 4
                · rw [if_pos h4, if_pos h4]; exact .inr ⟨by decide, rfl⟩
                · rw [if_neg h4, if_neg h4]; exact .inl ⟨rfl, .inr rfl⟩
              · rw [tkd, tk] at z
                have h4 : nxP isDg b m i - i ≤ 4 := by
                  apply Classical.byContradiction
                  intro w
                  rw [if_neg w] at z
                  cases z
                rw [tnu]; exact e2 h4
            | false =>
              have te : tE0 b m i = i + 1 := by unfold tE0; rw [if_neg hsm, hlt, if_neg (by decide), hdg, if_neg (by decide)]
              have tk : tK0 b m i = if b i = 45 then 3 else if b i = 59 then 4 else 1 := by unfold tK0; rw [if_neg hsm, hlt, if_neg (by decide), hdg, if_neg (by decide)]
              have sg := sign_ok (τ := xl τ L) (J := J') (i := i) (y := b i &&& 255) hS' n403 h10
              refine fin (if b i &&& 255 = 59 then 4 else if b i &&& 255 = 45 then 5 else 3) 0 (xup (xL (xl τ L)) 189 n 0) ?_ ?_ (fun z => ?_) (fun q => ?_)
              · rw [stp, lt12_ok, Option.bind_some, x1, hlt, if_neg (show ¬ (false = true) by decide), if_pos rfl, dg12_ok, Option.bind_some, x2, hdg, if_neg (show ¬ (false = true) by decide), if_pos rfl, xw_ck, kC183 hS', Option.bind_some, sg, Option.bind_some, te, nI_succ]
                rfl
              · rw [tkd, tk]
                by_cases z1 : b i = 45
                · rw [if_pos z1, if_neg (fun w => by rw [x5.mp w] at z1; exact absurd z1 (by decide)), if_pos (x4.mpr z1)]
                  exact .inr ⟨by decide, rfl⟩
                · by_cases z2 : b i = 59
                  · rw [if_neg z1, if_pos z2, if_pos (x5.mpr z2)]
                    exact .inr ⟨by decide, rfl⟩
                  · rw [if_neg z1, if_neg z2, if_neg (fun w => z2 (x5.mp w)), if_neg (fun w => z1 (x4.mp w))]
                    exact .inl ⟨rfl, .inr rfl⟩
              · exfalso
                rw [tkd, tk] at z
                split at z
                · cases z
                · split at z <;> cases z
              · show (if 190 = 189 ∧ q = n then 0 else L 190 q) = _
                rw [if_neg (by omega)]; exact hL q
      · left
        have eim : i = m := by omega
        have hb := byte12_end (τ := xl τ L) hS' hX' (show m ≤ i by omega) (by omega)
        have hst : tSt b m n = m := nxP_one (by omega) (Nat.le_refl _) (fun j h1 h2 => hbl j h1 (by omega)) (fun h => by omega)
        have h0 : tKd b m n = 0 := (tKd_0 n).mpr hst
        have tok := token_ok (τ := xl τ L) (J := J') (k := 0) (p := nI m) (v := 0) (w := 0) hS' n403 h10
        refine ⟨_, ?_, xup (xL (xl τ L)) 189 n 0, tkI J' n 0 (nI m) 0, n + 1, rfl, fun q => ?_, by omega, by omega, tkI_10, TKM_s hT (by rw [h0]; exact .inr ⟨by decide, rfl⟩) (by rw [hst]) (fun z => by rw [h0] at z; cases z), fun j hj => hnz j (by omega), .inr (by rw [Nat.add_sub_cancel]; exact h0), fun a q h1 h2 => by rw [tkI_out h1 h2]; exact u a q h1 h2⟩
        · simp only [f_X12_cutsText_b7]
          simp (disch := first | assumption | omega) only [Option.bind_some, Option.map_some, xw_gR, xw_gN, xw_al, xw_ck, xw_uI, xw_ur, xup_at, xur_at, if_true, if_false, reduceIte, and_true, true_and, and_false, false_and, not_true_eq_false, not_false_eq_true, Nat.reduceEqDiff, eq_self, Nat.reduceAdd, Nat.reduceMul, kC1, kG1, kP1, kR1_0, kR1_1, kR1_2, kR1_3, kR1_4, kR1_5, kR1_6, kR1_7, kR1_8, kR1_9, kR1_10, kR1_11, kR1_12, kR1_13, kC2, kG2, kP2, kR2_0, kR2_1, kC3, kG3, kP3, kR3_0, kR3_1, kR3_2, kR3_3, kL4, kA4, kS4, kL5, kA5, kS5, kL6, kA6, kS6, kL7, kA7, kS7, kC8, kG8, kP8, kR8_0, kR8_1, kL9, kA9, kS9, kL10, kA10, kS10, kC11, kG11, kP11, kR11_0, kR11_1, kR11_2, kR11_3, kL12, kA12, kS12, kL13, kA13, kS13, kL14, kA14, kS14, kL15, kA15, kS15, kC16, kG16, kP16, kR16_0, kR16_1, kL17, kA17, kS17, kL18, kA18, kS18, kC19, kG19, kP19, kR19_0, kL20, kL141, kL146, kA146, kS146, kL151, kA151, kS151, kL156, kA156, kS156, kC157, kG157, kP157, kR157_0, kR157_1, kL158, kA158, kS158, kL159, kA159, kS159, kC161, kG161, kP161, kR161_0, kR161_1, kL162, kA162, kS162, kL163, kA163, kS163, kC165, kG165, kP165, kR165_0, kR165_1, kR165_2, kR165_3, kL166, kA166, kS166, kL167, kA167, kS167, kL168, kA168, kS168, kL169, kA169, kS169, kC170, kG170, kP170, kR170_0, kR170_1, kR170_2, kL171, kA171, kS171, kL172, kA172, kS172, kL173, kA173, kS173, kC174, kG174, kP174, kR174_0, kR174_1, kR174_2, kR174_3, kR174_4, kL175, kA175, kS175, kL176, kA176, kS176, kL177, kA177, kS177, kL178, kA178, kS178, kL179, kC180, kG180, kP180, kL181, kL182, kA182, kS182, kC183, kG183, kP183, kR183_1, kR183_3, kR183_5, kR183_6, kR183_7, kR183_8, kR183_9, kR183_21, kR183_26, kR183_27, kR183_30, kR183_31, kR183_33, kR183_34, kR183_36, kR183_37, kR183_38, kR183_39, kR183_40, kR183_41, kR183_42, kR183_43, kR183_44, kL184, kA184, kS184, kL185, kA185, kS185, kL186, kA186, kS186, kL187, kA187, kS187, kL188, kA188, kS188, kL189, kL190, kL191, kA191, kS191, kL192, kA192, kS192, kL193, kA193, kS193, kL194, kA194, kS194, kL195, kA195, kS195, kL196, kA196, kS196, kL197, kA197, kS197, kL198, kA198, kS198, kL199, kA199, kS199, kL200, kA200, kS200, kL201, kL202, kA202, kS202, kL203, kA203, kS203, kL204, kA204, kS204, kL205, kL206, kA206, kS206, h10, q400, h401, hb, h4, qi, him, tok]
          rfl
        · show (if 190 = 189 ∧ q = n then 0 else L 190 q) = _
          rw [if_neg (by omega)]; exact hL q
end CUTS
