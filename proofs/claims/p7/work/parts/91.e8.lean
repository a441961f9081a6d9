/-! the grammar: what is wanted behind what -/
def dlT (k : Nat) : Option Nat := if k = 6 ∨ k = 7 ∨ k = 8 then some 5 else if k = 9 then some 7 else if k = 10 then some 8 else if k = 11 then some 10 else if k = 12 then some 11 else if k = 15 then some 13 else none
def dl (w k : Nat) : Option Nat := if w = 0 then (if k = 5 then some 1 else none) else if w = 1 then (if k = 2 then some 2 else none) else if w = 2 then (if k = 2 then some 3 else none) else if w = 3 then (if k = 4 then some 4 else none) else if w = 4 then dlT k else if w = 5 then (if k = 3 then some 6 else if k = 2 then some 3 else none) else if w = 6 then (if k = 2 then some 3 else none) else if w = 7 then (if k = 6 ∨ k = 7 then some 3 else none) else if w = 8 then (if k = 2 then some 9 else none) else if w = 9 then (if k = 6 ∨ k = 7 then some 5 else none) else if w = 10 then (if k = 2 then some 5 else none) else if w = 11 then (if k = 2 then some 12 else none) else if w = 12 then (if k = 13 ∨ k = 14 then some 3 else none) else if w = 13 then (if k = 2 then some 3 else none) else none
theorem dl_ok : ∀ w, w < 14 → ∀ k, k < 16 → f_X8_wantBehind (nI w) (nI k) = some (oI (dl w k)) := by decide +kernel
theorem dl_b : ∀ w, w < 14 → ∀ k, k < 16 → (dl w k).all (fun e => decide (e < 14)) = true := by decide +kernel
def ws (b : Nat → Int32) (m : Nat) : Nat → Option Nat
  | 0 => some 0
  | n + 1 => match ws b m n with
    | none => none
    | some w => if tKd b m n = 0 then none else dl w (tKd b m n)
section WANT
variable {b : Nat → Int32} {m : Nat}
theorem ws_s {n w : Nat} (h : ws b m n = some w) : ws b m (n + 1) = if tKd b m n = 0 then none else dl w (tKd b m n) := by
  rw [ws, h]
theorem ws_b : ∀ n w, ws b m n = some w → w < 14
  | 0, w => fun h => by cases h; decide
  | n + 1, w => fun h => by
    cases hn : ws b m n with
    | none =>
      rw [ws, hn] at h; cases h
    | some v =>
      rw [ws_s hn] at h
      have hv := ws_b n v hn
      split at h
      · cases h
      · have := dl_b v hv (tKd b m n) (by have := tKd_b (b := b) (m := m) n; omega)
        rw [h] at this
        exact of_decide_eq_true this
theorem ws_pre : ∀ i w, ws b m i = some w → ∀ j, j < i → ∃ v, ws b m j = some v ∧ tKd b m j ≠ 0 ∧ ∃ u, dl v (tKd b m j) = some u ∧ ws b m (j + 1) = some u
  | 0, w => fun _ j hj => by omega
  | i + 1, w => fun h j hj => by
    cases hi : ws b m i with
    | none =>
      rw [ws, hi] at h; cases h
    | some v =>
      have h' := h
      rw [ws_s hi] at h
      by_cases z : j = i
      · subst z
        by_cases k0 : tKd b m j = 0
        · rw [if_pos k0] at h; cases h
        · rw [if_neg k0] at h
          exact ⟨v, hi, k0, w, h, h'⟩
      · exact ws_pre i v hi j (by omega)
/-- how the reading of the tokens ends -/
def cutR (b : Nat → Int32) (m n r pl : Nat) : Prop := ∃ w, ws b m n = some w ∧ ((r = 0 ∧ pl = 0 ∧ n ≤ 400 ∧ tKd b m n = 0 ∧ w = 4) ∨ (r = 1 ∧ pl = tSt b m n ∧ n ≤ 400 ∧ (tKd b m n = 0 ∧ w ≠ 4 ∨ tKd b m n ≠ 0 ∧ dl w (tKd b m n) = none)) ∨ (r = 2 ∧ pl = tSt b m 400 ∧ n = 401))
theorem cutR_no {n r pl i w : Nat} (h : cutR b m n r pl) (hi : n < i) (h2 : n ≤ 400) (hw : ws b m i = some w) : False := by
  obtain ⟨v, v1, v2, u, v3, v4⟩ := ws_pre i w hw n hi
  obtain ⟨w', w1, h⟩ := h
  rw [w1] at v1
  cases v1
  rcases h with ⟨-, -, -, k0, -⟩ | ⟨-, -, -, ⟨k0, -⟩ | ⟨-, d0⟩⟩ | ⟨-, -, n4⟩
  · exact v2 k0
  · exact v2 k0
  · rw [d0] at v3; cases v3
  · omega
theorem cutR_one {n r pl n' r' pl' : Nat} (h : cutR b m n r pl) (h' : cutR b m n' r' pl') : n = n' ∧ r = r' ∧ pl = pl' := by
  have hn : n ≤ 401 := by
    obtain ⟨w, -, h⟩ := h
    rcases h with h | h | h <;> omega
  have hn' : n' ≤ 401 := by
    obtain ⟨w, -, h⟩ := h'
    rcases h with h | h | h <;> omega
  have e : n = n' := by
    rcases Nat.lt_trichotomy n n' with z | z | z
    · obtain ⟨w, w1, -⟩ := id h'
      exact (cutR_no h z (by omega) w1).elim
    · exact z
    · obtain ⟨w, w1, -⟩ := id h
      exact (cutR_no h' z (by omega) w1).elim
  subst e
  obtain ⟨w, w1, h⟩ := h
  obtain ⟨w', w1', h'⟩ := h'
  rw [w1] at w1'
  cases w1'
  refine ⟨rfl, ?_⟩
  rcases h with ⟨a1, a2, a3, a4, a5⟩ | ⟨a1, a2, a3, ⟨a4, a5⟩ | ⟨a4, a5⟩⟩ | ⟨a1, a2, a3⟩ <;> rcases h' with ⟨b1, b2, b3, b4, b5⟩ | ⟨b1, b2, b3, ⟨b4, b5⟩ | ⟨b4, b5⟩⟩ | ⟨b1, b2, b3⟩ <;> first
    | omega
    | (exfalso; omega)
    | (exfalso; subst a5; subst b5; omega)
    | (exfalso; exact absurd a5 b5)
    | (exfalso; exact absurd b5 a5)
end WANT
/-- the class's tokens as they lie -/
def TKC (J : Nat → Nat → Int32) (b : Nat → Int32) (m n : Nat) : Prop := ∀ i, i < n → J 5 i = nI (tKd b m i) ∧ J 7 i = nI (tSt b m i) ∧ (tKd b m i = 2 → J 6 i = nI (tNu b m i))
section CUT
variable {σ : XS} {J : Nat → Nat → Int32} {m : Nat}
theorem keep8_ok (hS : Shp σ) {n : Nat} {k v p : Int32} (hn : n < 400) (h5 : J 3 5 = nI n) (h6 : J 3 6 = k) (h7 : J 3 7 = v) (h8 : J 3 8 = p) : f_X8_keepToken (xw σ J) 3 = some (xw σ (xup (xup (xup (xup J 5 n k) 6 n v) 7 n p) 3 5 (nI (n + 1)))) := by
  unfold f_X8_keepToken
  have q : ((400 : Int32) ≤ nI n) = False := by rw [show (400 : Int32) = nI 400 from rfl, nn_le (by omega) (by omega)]; exact eq_false (by omega)
  simp (disch := first | assumption | omega) only [Option.bind_some, Option.map_some, xw_gR, xw_gN, xw_al, xw_ck, xw_uI, xw_ur, xup_at, xur_at, if_true, if_false, reduceIte, and_true, true_and, and_false, false_and, not_true_eq_false, not_false_eq_true, Nat.reduceEqDiff, eq_self, Nat.reduceAdd, Nat.reduceMul, kC1, kG1, kP1, kR1_0, kR1_1, kR1_2, kR1_3, kR1_4, kR1_5, kR1_6, kR1_7, kR1_8, kR1_9, kR1_10, kR1_11, kR1_12, kR1_13, kC2, kG2, kP2, kR2_0, kR2_1, kC3, kG3, kP3, kR3_0, kR3_1, kR3_2, kR3_3, kL4, kA4, kS4, kL5, kA5, kS5, kL6, kA6, kS6, kL7, kA7, kS7, kC8, kG8, kP8, kR8_0, kR8_1, kL9, kA9, kS9, kL10, kA10, kS10, kC11, kG11, kP11, kR11_0, kR11_1, kR11_2, kR11_3, kL12, kA12, kS12, kL13, kA13, kS13, kL14, kA14, kS14, kL15, kA15, kS15, kC16, kG16, kP16, kR16_0, kR16_1, kL17, kA17, kS17, kL18, kA18, kS18, kC19, kG19, kP19, kR19_0, kL20, kL141, kL146, kA146, kS146, kL151, kA151, kS151, kL156, kA156, kS156, kC157, kG157, kP157, kR157_0, kR157_1, kL158, kA158, kS158, kL159, kA159, kS159, kC161, kG161, kP161, kR161_0, kR161_1, kL162, kA162, kS162, kL163, kA163, kS163, kC165, kG165, kP165, kR165_0, kR165_1, kR165_2, kR165_3, kL166, kA166, kS166, kL167, kA167, kS167, kL168, kA168, kS168, kL169, kA169, kS169, kC170, kG170, kP170, kR170_0, kR170_1, kR170_2, kL171, kA171, kS171, kL172, kA172, kS172, kL173, kA173, kS173, kC174, kG174, kP174, kR174_0, kR174_1, kR174_2, kR174_3, kR174_4, kL175, kA175, kS175, kL176, kA176, kS176, kL177, kA177, kS177, kL178, kA178, kS178, kL179, kC180, kG180, kP180, kL181, kL182, kA182, kS182, kC183, kG183, kP183, kR183_1, kR183_3, kR183_5, kR183_6, kR183_7, kR183_8, kR183_9, kR183_21, kR183_26, kR183_27, kR183_30, kR183_31, kR183_33, kR183_34, kR183_36, kR183_37, kR183_38, kR183_39, kR183_40, kR183_41, kR183_42, kR183_43, kR183_44, kL184, kA184, kS184, kL185, kA185, kS185, kL186, kA186, kS186, kL187, kA187, kS187, kL188, kA188, kS188, kL189, kL190, kL191, kA191, kS191, kL192, kA192, kS192, kL193, kA193, kS193, kL194, kA194, kS194, kL195, kA195, kS195, kL196, kA196, kS196, kL197, kA197, kS197, kL198, kA198, kS198, kL199, kA199, kS199, kL200, kA200, kS200, kL201, kL202, kA202, kS202, kL203, kA203, kS203, kL204, kA204, kS204, kL205, kL206, kA206, kS206, h5, nn_nneg, q, h6, h7, h8]
  rw [← nI_succ]
theorem keep8_full (hS : Shp σ) (h5 : J 3 5 = nI 400) : f_X8_keepToken (xw σ J) 3 = some (xw σ J) := by
  unfold f_X8_keepToken
  have q : ((400 : Int32) ≤ nI 400) = True := eq_true (by decide)
  simp (disch := first | assumption | omega) only [Option.bind_some, Option.map_some, xw_gR, xw_gN, xw_al, xw_ck, xw_uI, xw_ur, xup_at, xur_at, if_true, if_false, reduceIte, and_true, true_and, and_false, false_and, not_true_eq_false, not_false_eq_true, Nat.reduceEqDiff, eq_self, Nat.reduceAdd, Nat.reduceMul, kC1, kG1, kP1, kR1_0, kR1_1, kR1_2, kR1_3, kR1_4, kR1_5, kR1_6, kR1_7, kR1_8, kR1_9, kR1_10, kR1_11, kR1_12, kR1_13, kC2, kG2, kP2, kR2_0, kR2_1, kC3, kG3, kP3, kR3_0, kR3_1, kR3_2, kR3_3, kL4, kA4, kS4, kL5, kA5, kS5, kL6, kA6, kS6, kL7, kA7, kS7, kC8, kG8, kP8, kR8_0, kR8_1, kL9, kA9, kS9, kL10, kA10, kS10, kC11, kG11, kP11, kR11_0, kR11_1, kR11_2, kR11_3, kL12, kA12, kS12, kL13, kA13, kS13, kL14, kA14, kS14, kL15, kA15, kS15, kC16, kG16, kP16, kR16_0, kR16_1, kL17, kA17, kS17, kL18, kA18, kS18, kC19, kG19, kP19, kR19_0, kL20, kL141, kL146, kA146, kS146, kL151, kA151, kS151, kL156, kA156, kS156, kC157, kG157, kP157, kR157_0, kR157_1, kL158, kA158, kS158, kL159, kA159, kS159, kC161, kG161, kP161, kR161_0, kR161_1, kL162, kA162, kS162, kL163, kA163, kS163, kC165, kG165, kP165, kR165_0, kR165_1, kR165_2, kR165_3, kL166, kA166, kS166, kL167, kA167, kS167, kL168, kA168, kS168, kL169, kA169, kS169, kC170, kG170, kP170, kR170_0, kR170_1, kR170_2, kL171, kA171, kS171, kL172, kA172, kS172, kL173, kA173, kS173, kC174, kG174, kP174, kR174_0, kR174_1, kR174_2, kR174_3, kR174_4, kL175, kA175, kS175, kL176, kA176, kS176, kL177, kA177, kS177, kL178, kA178, kS178, kL179, kC180, kG180, kP180, kL181, kL182, kA182, kS182, kC183, kG183, kP183, kR183_1, kR183_3, kR183_5, kR183_6, kR183_7, kR183_8, kR183_9, kR183_21, kR183_26, kR183_27, kR183_30, kR183_31, kR183_33, kR183_34, kR183_36, kR183_37, kR183_38, kR183_39, kR183_40, kR183_41, kR183_42, kR183_43, kR183_44, kL184, kA184, kS184, kL185, kA185, kS185, kL186, kA186, kS186, kL187, kA187, kS187, kL188, kA188, kS188, kL189, kL190, kL191, kA191, kS191, kL192, kA192, kS192, kL193, kA193, kS193, kL194, kA194, kS194, kL195, kA195, kS195, kL196, kA196, kS196, kL197, kA197, kS197, kL198, kA198, kS198, kL199, kA199, kS199, kL200, kA200, kS200, kL201, kL202, kA202, kS202, kL203, kA203, kS203, kL204, kA204, kS204, kL205, kL206, kA206, kS206, h5, nn_nneg, q]
theorem cut_ok (hS : Shp σ) (hm : m ≤ 2000) (h4 : J 3 4 = nI m) : ∃ (r n pl : Nat) (J' : Nat → Nat → Int32), f_X8_cut (xw σ J) 3 = some (nI r, xw σ J') ∧ cutR (J 4) m n r pl ∧ (r = 0 → J' 3 5 = nI n ∧ TKC J' (J 4) m n) ∧ (r ≠ 0 → J' 3 8 = nI pl) ∧ ∀ a q, ¬ ((a = 3 ∧ 5 ≤ q ∧ q ≤ 9) ∨ (5 ≤ a ∧ a ≤ 7)) → J' a q = J a q := by
  obtain ⟨b, hb⟩ : ∃ b, b = J 4 := ⟨_, rfl⟩
  rw [← hb]
  unfold f_X8_cut
  simp (disch := first | assumption | omega) only [Option.bind_some, Option.map_some, xw_gR, xw_gN, xw_al, xw_ck, xw_uI, xw_ur, xup_at, xur_at, if_true, if_false, reduceIte, and_true, true_and, and_false, false_and, not_true_eq_false, not_false_eq_true, Nat.reduceEqDiff, eq_self, Nat.reduceAdd, Nat.reduceMul, kC1, kG1, kP1, kR1_0, kR1_1, kR1_2, kR1_3, kR1_4, kR1_5, kR1_6, kR1_7, kR1_8, kR1_9, kR1_10, kR1_11, kR1_12, kR1_13, kC2, kG2, kP2, kR2_0, kR2_1, kC3, kG3, kP3, kR3_0, kR3_1, kR3_2, kR3_3, kL4, kA4, kS4, kL5, kA5, kS5, kL6, kA6, kS6, kL7, kA7, kS7, kC8, kG8, kP8, kR8_0, kR8_1, kL9, kA9, kS9, kL10, kA10, kS10, kC11, kG11, kP11, kR11_0, kR11_1, kR11_2, kR11_3, kL12, kA12, kS12, kL13, kA13, kS13, kL14, kA14, kS14, kL15, kA15, kS15, kC16, kG16, kP16, kR16_0, kR16_1, kL17, kA17, kS17, kL18, kA18, kS18, kC19, kG19, kP19, kR19_0, kL20, kL141, kL146, kA146, kS146, kL151, kA151, kS151, kL156, kA156, kS156, kC157, kG157, kP157, kR157_0, kR157_1, kL158, kA158, kS158, kL159, kA159, kS159, kC161, kG161, kP161, kR161_0, kR161_1, kL162, kA162, kS162, kL163, kA163, kS163, kC165, kG165, kP165, kR165_0, kR165_1, kR165_2, kR165_3, kL166, kA166, kS166, kL167, kA167, kS167, kL168, kA168, kS168, kL169, kA169, kS169, kC170, kG170, kP170, kR170_0, kR170_1, kR170_2, kL171, kA171, kS171, kL172, kA172, kS172, kL173, kA173, kS173, kC174, kG174, kP174, kR174_0, kR174_1, kR174_2, kR174_3, kR174_4, kL175, kA175, kS175, kL176, kA176, kS176, kL177, kA177, kS177, kL178, kA178, kS178, kL179, kC180, kG180, kP180, kL181, kL182, kA182, kS182, kC183, kG183, kP183, kR183_1, kR183_3, kR183_5, kR183_6, kR183_7, kR183_8, kR183_9, kR183_21, kR183_26, kR183_27, kR183_30, kR183_31, kR183_33, kR183_34, kR183_36, kR183_37, kR183_38, kR183_39, kR183_40, kR183_41, kR183_42, kR183_43, kR183_44, kL184, kA184, kS184, kL185, kA185, kS185, kL186, kA186, kS186, kL187, kA187, kS187, kL188, kA188, kS188, kL189, kL190, kL191, kA191, kS191, kL192, kA192, kS192, kL193, kA193, kS193, kL194, kA194, kS194, kL195, kA195, kS195, kL196, kA196, kS196, kL197, kA197, kS197, kL198, kA198, kS198, kL199, kA199, kS199, kL200, kA200, kS200, kL201, kL202, kA202, kS202, kL203, kA203, kS203, kL204, kA204, kS204, kL205, kL206, kA206, kS206]
  have key := xloop_run (f := f_X8_cut_b14 3) (fun k a => ∃ (n w : Nat) (J' : Nat → Nat → Int32), a = (nI w, nI n, xw σ J') ∧ k = 401 - n ∧ n ≤ 401 ∧ ws b m n = some w ∧ J' 3 5 = nI (min n 400) ∧ J' 3 9 = nI (tPo b m n) ∧ TKC J' b m (min n 400) ∧ (n = 401 → J' 3 8 = nI (tSt b m 400)) ∧ ∀ a q, ¬ ((a = 3 ∧ 5 ≤ q ∧ q ≤ 9) ∨ (5 ≤ a ∧ a ≤ 7)) → J' a q = J a q) (fun z => ∃ (r n pl : Nat) (J' : Nat → Nat → Int32), z = (nI r, xw σ J') ∧ cutR b m n r pl ∧ (r = 0 → J' 3 5 = nI n ∧ TKC J' b m n) ∧ (r ≠ 0 → J' 3 8 = nI pl) ∧ ∀ a q, ¬ ((a = 3 ∧ 5 ≤ q ∧ q ≤ 9) ∨ (5 ≤ a ∧ a ≤ 7)) → J' a q = J a q) ?_ (401 - 0) ((0 : Int32), (0 : Int32), xw σ (xup (xup J 3 5 0) 3 9 0)) ⟨0, 0, _, rfl, rfl, by omega, rfl, by rw [xup_at, if_neg (by omega), xup_at, if_pos ⟨rfl, rfl⟩]; rfl, by rw [xup_at, if_pos ⟨rfl, rfl⟩]; rfl, fun i hi => by omega, fun z => by omega, fun a q hq => by rw [xup_at, if_neg (by omega), xup_at, if_neg (by omega)]⟩
  · obtain ⟨z, e, r, n, pl, J', rfl, rest⟩ := key
    exact ⟨r, n, pl, J', e, rest⟩
  · rintro k a ⟨n, w, J', rfl, rfl, hn, hw, v5, v9, tk, v8, u⟩
    have hw14 := ws_b n w hw
    by_cases h401 : n = 401
    · left
      refine ⟨(nI 2, xw σ J'), ?_, 2, n, tSt b m 400, J', rfl, ⟨w, hw, .inr (.inr ⟨rfl, rfl, h401⟩)⟩, fun z => by omega, fun _ => v8 h401, u⟩
      simp only [f_X8_cut_b14]
      rw [if_pos (by rw [h401]; decide)]
      rfl
    · have q0 : ((400 : Int32) < nI n) = False := by rw [show (400 : Int32) = nI 400 from rfl, nn_lt (by omega) (by omega)]; exact eq_false (by omega)
      have u4 : J' 3 4 = nI m := by rw [u _ _ (by omega)]; exact h4
      have u3 : J' 4 = b := by rw [hb]; funext k; exact u 4 k (by omega)
      obtain ⟨J2, j1, j2, j3, j4, j5, j6⟩ := findTok_ok (σ := σ) (J := J') hS hm u4 (tPo_b (b := b) (m := m) n)
      rw [u3] at j2 j3 j4 j5
      have j2 : J2 3 8 = nI (tSt b m n) := j2
      have j3 : J2 3 9 = nI (tPo b m (n + 1)) := j3
      have j4 : J2 3 6 = nI (tKd b m n) := j4
      have j5 : tKd b m n = 2 → J2 3 7 = nI (tNu b m n) := j5
      have kb := tKd_b (b := b) (m := m) n
      have u2 : ∀ a q, ¬ ((a = 3 ∧ 5 ≤ q ∧ q ≤ 9) ∨ (5 ≤ a ∧ a ≤ 7)) → J2 a q = J a q := fun a q hq => by rw [j6 a q (by omega)]; exact u a q hq
      have t5 : J2 3 5 = nI (min n 400) := by rw [j6 _ _ (by omega)]; exact v5
      have tk2 : TKC J2 b m (min n 400) := fun i hi => by rw [j6 5 i (by omega), j6 7 i (by omega), j6 6 i (by omega)]; exact tk i hi
      by_cases k0 : tKd b m n = 0
      · left
        have mn : min n 400 = n := by omega
        rw [mn] at t5 tk2
        have q1 : (nI (tKd b m n) = 0) = True := by rw [k0]; exact eq_true rfl
        have q4 : (nI w = (4 : Int32)) = (w = 4) := nn_eq (b := 4) (by omega) (by decide)
        by_cases w4 : w = 4
        · refine ⟨(nI 0, xw σ J2), ?_, 0, n, 0, J2, rfl, ⟨w, hw, .inl ⟨rfl, rfl, by omega, k0, w4⟩⟩, fun _ => ⟨t5, tk2⟩, fun z => absurd rfl z, u2⟩
          simp only [f_X8_cut_b14]
          simp (disch := first | assumption | omega) only [Option.bind_some, Option.map_some, xw_gR, xw_gN, xw_al, xw_ck, xw_uI, xw_ur, xup_at, xur_at, if_true, if_false, reduceIte, and_true, true_and, and_false, false_and, not_true_eq_false, not_false_eq_true, Nat.reduceEqDiff, eq_self, Nat.reduceAdd, Nat.reduceMul, kC1, kG1, kP1, kR1_0, kR1_1, kR1_2, kR1_3, kR1_4, kR1_5, kR1_6, kR1_7, kR1_8, kR1_9, kR1_10, kR1_11, kR1_12, kR1_13, kC2, kG2, kP2, kR2_0, kR2_1, kC3, kG3, kP3, kR3_0, kR3_1, kR3_2, kR3_3, kL4, kA4, kS4, kL5, kA5, kS5, kL6, kA6, kS6, kL7, kA7, kS7, kC8, kG8, kP8, kR8_0, kR8_1, kL9, kA9, kS9, kL10, kA10, kS10, kC11, kG11, kP11, kR11_0, kR11_1, kR11_2, kR11_3, kL12, kA12, kS12, kL13, kA13, kS13, kL14, kA14, kS14, kL15, kA15, kS15, kC16, kG16, kP16, kR16_0, kR16_1, kL17, kA17, kS17, kL18, kA18, kS18, kC19, kG19, kP19, kR19_0, kL20, kL141, kL146, kA146, kS146, kL151, kA151, kS151, kL156, kA156, kS156, kC157, kG157, kP157, kR157_0, kR157_1, kL158, kA158, kS158, kL159, kA159, kS159, kC161, kG161, kP161, kR161_0, kR161_1, kL162, kA162, kS162, kL163, kA163, kS163, kC165, kG165, kP165, kR165_0, kR165_1, kR165_2, kR165_3, kL166, kA166, kS166, kL167, kA167, kS167, kL168, kA168, kS168, kL169, kA169, kS169, kC170, kG170, kP170, kR170_0, kR170_1, kR170_2, kL171, kA171, kS171, kL172, kA172, kS172, kL173, kA173, kS173, kC174, kG174, kP174, kR174_0, kR174_1, kR174_2, kR174_3, kR174_4, kL175, kA175, kS175, kL176, kA176, kS176, kL177, kA177, kS177, kL178, kA178, kS178, kL179, kC180, kG180, kP180, kL181, kL182, kA182, kS182, kC183, kG183, kP183, kR183_1, kR183_3, kR183_5, kR183_6, kR183_7, kR183_8, kR183_9, kR183_21, kR183_26, kR183_27, kR183_30, kR183_31, kR183_33, kR183_34, kR183_36, kR183_37, kR183_38, kR183_39, kR183_40, kR183_41, kR183_42, kR183_43, kR183_44, kL184, kA184, kS184, kL185, kA185, kS185, kL186, kA186, kS186, kL187, kA187, kS187, kL188, kA188, kS188, kL189, kL190, kL191, kA191, kS191, kL192, kA192, kS192, kL193, kA193, kS193, kL194, kA194, kS194, kL195, kA195, kS195, kL196, kA196, kS196, kL197, kA197, kS197, kL198, kA198, kS198, kL199, kA199, kS199, kL200, kA200, kS200, kL201, kL202, kA202, kS202, kL203, kA203, kS203, kL204, kA204, kS204, kL205, kL206, kA206, kS206, q0, v9, j1, j4, q1, q4, w4]
          rfl
        · refine ⟨(nI 1, xw σ J2), ?_, 1, n, tSt b m n, J2, rfl, ⟨w, hw, .inr (.inl ⟨rfl, rfl, by omega, .inl ⟨k0, w4⟩⟩)⟩, fun z => by omega, fun _ => j2, u2⟩
          simp only [f_X8_cut_b14]
          simp (disch := first | assumption | omega) only [Option.bind_some, Option.map_some, xw_gR, xw_gN, xw_al, xw_ck, xw_uI, xw_ur, xup_at, xur_at, if_true, if_false, reduceIte, and_true, true_and, and_false, false_and, not_true_eq_false, not_false_eq_true, Nat.reduceEqDiff, eq_self, Nat.reduceAdd, Nat.reduceMul, kC1, kG1, kP1, kR1_0, kR1_1, kR1_2, kR1_3, kR1_4, kR1_5, kR1_6, kR1_7, kR1_8, kR1_9, kR1_10, kR1_11, kR1_12, kR1_13, kC2, kG2, kP2, kR2_0, kR2_1, kC3, kG3, kP3, kR3_0, kR3_1, kR3_2, kR3_3, kL4, kA4, kS4, kL5, kA5, kS5, kL6, kA6, kS6, kL7, kA7, kS7, kC8, kG8, kP8, kR8_0, kR8_1, kL9, kA9, kS9, kL10, kA10, kS10, kC11, kG11, kP11, kR11_0, kR11_1, kR11_2, kR11_3, kL12, kA12, kS12, kL13, kA13, kS13, kL14, kA14, kS14, kL15, kA15, kS15, kC16, kG16, kP16, kR16_0, kR16_1, kL17, kA17, kS17, kL18, kA18, kS18, kC19, kG19, kP19, kR19_0, kL20, kL141, kL146, kA146, kS146, kL151, kA151, kS151, kL156, kA156, kS156, kC157, kG157, kP157, kR157_0, kR157_1, kL158, kA158, kS158, kL159, kA159, kS159, kC161, kG161, kP161, kR161_0, kR161_1, kL162, kA162, kS162, kL163, kA163, kS163, kC165, kG165, kP165, kR165_0, kR165_1, kR165_2, kR165_3, kL166, kA166, kS166, kL167, kA167, kS167, kL168, kA168, kS168, kL169, kA169, kS169, kC170, kG170, kP170, kR170_0, kR170_1, kR170_2, kL171, kA171, kS171, kL172, kA172, kS172, kL173, kA173, kS173, kC174, kG174, kP174, kR174_0, kR174_1, kR174_2, kR174_3, kR174_4, kL175, kA175, kS175, kL176, kA176, kS176, kL177, kA177, kS177, kL178, kA178, kS178, kL179, kC180, kG180, kP180, kL181, kL182, kA182, kS182, kC183, kG183, kP183, kR183_1, kR183_3, kR183_5, kR183_6, kR183_7, kR183_8, kR183_9, kR183_21, kR183_26, kR183_27, kR183_30, kR183_31, kR183_33, kR183_34, kR183_36, kR183_37, kR183_38, kR183_39, kR183_40, kR183_41, kR183_42, kR183_43, kR183_44, kL184, kA184, kS184, kL185, kA185, kS185, kL186, kA186, kS186, kL187, kA187, kS187, kL188, kA188, kS188, kL189, kL190, kL191, kA191, kS191, kL192, kA192, kS192, kL193, kA193, kS193, kL194, kA194, kS194, kL195, kA195, kS195, kL196, kA196, kS196, kL197, kA197, kS197, kL198, kA198, kS198, kL199, kA199, kS199, kL200, kA200, kS200, kL201, kL202, kA202, kS202, kL203, kA203, kS203, kL204, kA204, kS204, kL205, kL206, kA206, kS206, q0, v9, j1, j4, q1, q4, w4]
          rfl
      · have q1 : (nI (tKd b m n) = 0) = False := by
          have : (nI (tKd b m n) = nI 0) = (tKd b m n = 0) := nn_eq (by omega) (by omega)
          exact this.trans (eq_false k0)
        have dk := dl_ok w hw14 (tKd b m n) (by omega)
        cases hd : dl w (tKd b m n) with
        | none =>
          left
          rw [hd] at dk
          refine ⟨(nI 1, xw σ J2), ?_, 1, n, tSt b m n, J2, rfl, ⟨w, hw, .inr (.inl ⟨rfl, rfl, by omega, .inr ⟨k0, hd⟩⟩)⟩, fun z => by omega, fun _ => j2, u2⟩
          simp only [f_X8_cut_b14]
          have q2 : (oI none = -1) = True := eq_true rfl
          simp (disch := first | assumption | omega) only [Option.bind_some, Option.map_some, xw_gR, xw_gN, xw_al, xw_ck, xw_uI, xw_ur, xup_at, xur_at, if_true, if_false, reduceIte, and_true, true_and, and_false, false_and, not_true_eq_false, not_false_eq_true, Nat.reduceEqDiff, eq_self, Nat.reduceAdd, Nat.reduceMul, kC1, kG1, kP1, kR1_0, kR1_1, kR1_2, kR1_3, kR1_4, kR1_5, kR1_6, kR1_7, kR1_8, kR1_9, kR1_10, kR1_11, kR1_12, kR1_13, kC2, kG2, kP2, kR2_0, kR2_1, kC3, kG3, kP3, kR3_0, kR3_1, kR3_2, kR3_3, kL4, kA4, kS4, kL5, kA5, kS5, kL6, kA6, kS6, kL7, kA7, kS7, kC8, kG8, kP8, kR8_0, kR8_1, kL9, kA9, kS9, kL10, kA10, kS10, kC11, kG11, kP11, kR11_0, kR11_1, kR11_2, kR11_3, kL12, kA12, kS12, kL13, kA13, kS13, kL14, kA14, kS14, kL15, kA15, kS15, kC16, kG16, kP16, kR16_0, kR16_1, kL17, kA17, kS17, kL18, kA18, kS18, kC19, kG19, kP19, kR19_0, kL20, kL141, kL146, kA146, kS146, kL151, kA151, kS151, kL156, kA156, kS156, kC157, kG157, kP157, kR157_0, kR157_1, kL158, kA158, kS158, kL159, kA159, kS159, kC161, kG161, kP161, kR161_0, kR161_1, kL162, kA162, kS162, kL163, kA163, kS163, kC165, kG165, kP165, kR165_0, kR165_1, kR165_2, kR165_3, kL166, kA166, kS166, kL167, kA167, kS167, kL168, kA168, kS168, kL169, kA169, kS169, kC170, kG170, kP170, kR170_0, kR170_1, kR170_2, kL171, kA171, kS171, kL172, kA172, kS172, kL173, kA173, kS173, kC174, kG174, kP174, kR174_0, kR174_1, kR174_2, kR174_3, kR174_4, kL175, kA175, kS175, kL176, kA176, kS176, kL177, kA177, kS177, kL178, kA178, kS178, kL179, kC180, kG180, kP180, kL181, kL182, kA182, kS182, kC183, kG183, kP183, kR183_1, kR183_3, kR183_5, kR183_6, kR183_7, kR183_8, kR183_9, kR183_21, kR183_26, kR183_27, kR183_30, kR183_31, kR183_33, kR183_34, kR183_36, kR183_37, kR183_38, kR183_39, kR183_40, kR183_41, kR183_42, kR183_43, kR183_44, kL184, kA184, kS184, kL185, kA185, kS185, kL186, kA186, kS186, kL187, kA187, kS187, kL188, kA188, kS188, kL189, kL190, kL191, kA191, kS191, kL192, kA192, kS192, kL193, kA193, kS193, kL194, kA194, kS194, kL195, kA195, kS195, kL196, kA196, kS196, kL197, kA197, kS197, kL198, kA198, kS198, kL199, kA199, kS199, kL200, kA200, kS200, kL201, kL202, kA202, kS202, kL203, kA203, kS203, kL204, kA204, kS204, kL205, kL206, kA206, kS206, q0, v9, j1, j4, q1, dk, q2]
          rfl
        | some w' =>
          right
          rw [hd] at dk
          have hw' : ws b m (n + 1) = some w' := by rw [ws_s hw, if_neg k0]; exact hd
          have w14 := ws_b (n + 1) w' hw'
          have q2 : (oI (some w') = -1) = False := nn_m1 (by omega)
          by_cases h400 : n = 400
          · have kf := keep8_full (σ := σ) (J := J2) hS (by rw [t5, h400]; rfl)
            refine ⟨401 - (n + 1), (nI w', nI (n + 1), xw σ J2), by omega, ?_, n + 1, w', J2, rfl, rfl, by omega, hw', ?_, j3, ?_, fun _ => by rw [j2, h400], u2⟩
            · simp only [f_X8_cut_b14]
              simp (disch := first | assumption | omega) only [Option.bind_some, Option.map_some, xw_gR, xw_gN, xw_al, xw_ck, xw_uI, xw_ur, xup_at, xur_at, if_true, if_false, reduceIte, and_true, true_and, and_false, false_and, not_true_eq_false, not_false_eq_true, Nat.reduceEqDiff, eq_self, Nat.reduceAdd, Nat.reduceMul, kC1, kG1, kP1, kR1_0, kR1_1, kR1_2, kR1_3, kR1_4, kR1_5, kR1_6, kR1_7, kR1_8, kR1_9, kR1_10, kR1_11, kR1_12, kR1_13, kC2, kG2, kP2, kR2_0, kR2_1, kC3, kG3, kP3, kR3_0, kR3_1, kR3_2, kR3_3, kL4, kA4, kS4, kL5, kA5, kS5, kL6, kA6, kS6, kL7, kA7, kS7, kC8, kG8, kP8, kR8_0, kR8_1, kL9, kA9, kS9, kL10, kA10, kS10, kC11, kG11, kP11, kR11_0, kR11_1, kR11_2, kR11_3, kL12, kA12, kS12, kL13, kA13, kS13, kL14, kA14, kS14, kL15, kA15, kS15, kC16, kG16, kP16, kR16_0, kR16_1, kL17, kA17, kS17, kL18, kA18, kS18, kC19, kG19, kP19, kR19_0, kL20, kL141, kL146, kA146, kS146, kL151, kA151, kS151, kL156, kA156, kS156, kC157, kG157, kP157, kR157_0, kR157_1, kL158, kA158, kS158, kL159, kA159, kS159, kC161, kG161, kP161, kR161_0, kR161_1, kL162, kA162, kS162, kL163, kA163, kS163, kC165, kG165, kP165, kR165_0, kR165_1, kR165_2, kR165_3, kL166, kA166, kS166, kL167, kA167, kS167, kL168, kA168, kS168, kL169, kA169, kS169, kC170, kG170, kP170, kR170_0, kR170_1, kR170_2, kL171, kA171, kS171, kL172, kA172, kS172, kL173, kA173, kS173, kC174, kG174, kP174, kR174_0, kR174_1, kR174_2, kR174_3, kR174_4, kL175, kA175, kS175, kL176, kA176, kS176, kL177, kA177, kS177, kL178, kA178, kS178, kL179, kC180, kG180, kP180, kL181, kL182, kA182, kS182, kC183, kG183, kP183, kR183_1, kR183_3, kR183_5, kR183_6, kR183_7, kR183_8, kR183_9, kR183_21, kR183_26, kR183_27, kR183_30, kR183_31, kR183_33, kR183_34, kR183_36, kR183_37, kR183_38, kR183_39, kR183_40, kR183_41, kR183_42, kR183_43, kR183_44, kL184, kA184, kS184, kL185, kA185, kS185, kL186, kA186, kS186, kL187, kA187, kS187, kL188, kA188, kS188, kL189, kL190, kL191, kA191, kS191, kL192, kA192, kS192, kL193, kA193, kS193, kL194, kA194, kS194, kL195, kA195, kS195, kL196, kA196, kS196, kL197, kA197, kS197, kL198, kA198, kS198, kL199, kA199, kS199, kL200, kA200, kS200, kL201, kL202, kA202, kS202, kL203, kA203, kS203, kL204, kA204, kS204, kL205, kL206, kA206, kS206, q0, v9, j1, j4, q1, dk, q2, kf]
              rw [nI_succ]
              rfl
            · rw [t5]; congr 1; omega
            · rw [show min (n + 1) 400 = min n 400 by omega]; exact tk2
          · have mn : min n 400 = n := by omega
            rw [mn] at t5 tk2
            have kp := keep8_ok (σ := σ) (J := J2) hS (show n < 400 by omega) t5 j4 rfl j2
            refine ⟨401 - (n + 1), _, by omega, ?_, n + 1, w', xup (xup (xup (xup J2 5 n (nI (tKd b m n))) 6 n (J2 3 7)) 7 n (nI (tSt b m n))) 3 5 (nI (n + 1)), rfl, rfl, by omega, hw', ?_, ?_, fun i hi => ?_, fun z => by omega, fun a q hq => ?_⟩
            · simp only [f_X8_cut_b14]
              simp (disch := first | assumption | omega) only [Option.bind_some, Option.map_some, xw_gR, xw_gN, xw_al, xw_ck, xw_uI, xw_ur, xup_at, xur_at, if_true, if_false, reduceIte, and_true, true_and, and_false, false_and, not_true_eq_false, not_false_eq_true, Nat.reduceEqDiff, eq_self, Nat.reduceAdd, Nat.reduceMul, kC1, kG1, kP1, kR1_0, kR1_1, kR1_2, kR1_3, kR1_4, kR1_5, kR1_6, kR1_7, kR1_8, kR1_9, kR1_10, kR1_11, kR1_12, kR1_13, kC2, kG2, kP2, kR2_0, kR2_1, kC3, kG3, kP3, kR3_0, kR3_1, kR3_2, kR3_3, kL4, kA4, kS4, kL5, kA5, kS5, kL6, kA6, kS6, kL7, kA7, kS7, kC8, kG8, kP8, kR8_0, kR8_1, kL9, kA9, kS9, kL10, kA10, kS10, kC11, kG11, kP11, kR11_0, kR11_1, kR11_2, kR11_3, kL12, kA12, kS12, kL13, kA13, kS13, kL14, kA14, kS14, kL15, kA15, kS15, kC16, kG16, kP16, kR16_0, kR16_1, kL17, kA17, kS17, kL18, kA18, kS18, kC19, kG19, kP19, kR19_0, kL20, kL141, kL146, kA146, kS146, kL151, kA151, kS151, kL156, kA156, kS156, kC157, kG157, kP157, kR157_0, kR157_1, kL158, kA158, kS158, kL159, kA159, kS159, kC161, kG161, kP161, kR161_0, kR161_1, kL162, kA162, kS162, kL163, kA163, kS163, kC165, kG165, kP165, kR165_0, kR165_1, kR165_2, kR165_3, kL166, kA166, kS166, kL167, kA167, kS167, kL168, kA168, kS168, kL169, kA169, kS169, kC170, kG170, kP170, kR170_0, kR170_1, kR170_2, kL171, kA171, kS171, kL172, kA172, kS172, kL173, kA173, kS173, kC174, kG174, kP174, kR174_0, kR174_1, kR174_2, kR174_3, kR174_4, kL175, kA175, kS175, kL176, kA176, kS176, kL177, kA177, kS177, kL178, kA178, kS178, kL179, kC180, kG180, kP180, kL181, kL182, kA182, kS182, kC183, kG183, kP183, kR183_1, kR183_3, kR183_5, kR183_6, kR183_7, kR183_8, kR183_9, kR183_21, kR183_26, kR183_27, kR183_30, kR183_31, kR183_33, kR183_34, kR183_36, kR183_37, kR183_38, kR183_39, kR183_40, kR183_41, kR183_42, kR183_43, kR183_44, kL184, kA184, kS184, kL185, kA185, kS185, kL186, kA186, kS186, kL187, kA187, kS187, kL188, kA188, kS188, kL189, kL190, kL191, kA191, kS191, kL192, kA192, kS192, kL193, kA193, kS193, kL194, kA194, kS194, kL195, kA195, kS195, kL196, kA196, kS196, kL197, kA197, kS197, kL198, kA198, kS198, kL199, kA199, kS199, kL200, kA200, kS200, kL201, kL202, kA202, kS202, kL203, kA203, kS203, kL204, kA204, kS204, kL205, kL206, kA206, kS206, q0, v9, j1, j4, q1, dk, q2, kp]
              rw [nI_succ]
              rfl
            · rw [xup_at, if_pos ⟨rfl, rfl⟩]; congr 1; omega
            · rw [xup_at, if_neg (by omega), xup_at, if_neg (by omega), xup_at, if_neg (by omega), xup_at, if_neg (by omega)]; exact j3
            · have hi' : i < n + 1 := by omega
              simp only [xup_at]
              by_cases z : i = n
              · subst z
                simp only [Nat.reduceEqDiff, false_and, true_and, if_true, if_false, and_true, and_self, eq_self]
                first
                  | exact ⟨trivial, trivial, j5⟩
                  | exact j5
                  | exact ⟨rfl, rfl, j5⟩
              · have := tk2 i (by omega)
                simp only [Nat.reduceEqDiff, false_and, true_and, if_false, z, and_false]
                exact this
            · rw [xup_at, if_neg (by omega), xup_at, if_neg (by omega), xup_at, if_neg (by omega), xup_at, if_neg (by omega)]; exact u2 a q hq
end CUT
