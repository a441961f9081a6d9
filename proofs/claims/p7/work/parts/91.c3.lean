/-! rows -/
def inN (N : Nat) (x : Int32) : Bool := decide (0 ≤ x.toInt) && decide (x.toInt < (N : Int))
theorem inN_t {N : Nat} {x : Int32} (h : inN N x = true) : ∃ i, i < N ∧ x = nI i := by
  unfold inN at h
  simp only [Bool.and_eq_true, decide_eq_true_eq] at h
  refine ⟨x.toInt.toNat, by omega, ?_⟩
  rw [iI_n, Int.toNat_of_nonneg h.1]
  exact iI_of x
theorem inN_n {N i : Nat} (h : i < N) (hN : N ≤ 1073741824) : inN N (nI i) = true := by
  unfold inN
  rw [nI_toInt (by omega), Bool.and_eq_true, decide_eq_true_eq, decide_eq_true_eq]
  omega
theorem inN_in {N : Nat} (hN : N ≤ 1073741824) (x : Int32) : f_X12_in x 0 (nI N - 1) = some (if inN N x then 1 else 0) := by
  unfold f_X12_in
  have e : nI N - 1 = iI ((N : Int) - 1) := by rw [iI_n, show (1 : Int32) = iI 1 from rfl, iI_sub]
  have hr := x.toInt_lt
  have hl := x.le_toInt
  have c1 : (x < 0) = (x.toInt < 0) := propext (fa_lt _ _)
  have c2 : (iI ((N : Int) - 1) < x) = ((N : Int) - 1 < x.toInt) := by rw [fa_lt, iI_ti (by omega) (by omega)]
  unfold inN
  simp only [e, c1, c2]
  by_cases h1 : x.toInt < 0
  · have : ¬ (0 ≤ x.toInt) := by omega
    simp [h1, this]
  · by_cases h2 : (N : Int) - 1 < x.toInt
    · have a : ¬ (x.toInt < (N : Int)) := by omega
      simp [h1, h2, a]
    · have a : (x.toInt < (N : Int)) := by omega
      have b : 0 ≤ x.toInt := by omega
      simp [h1, h2, a, b]
theorem inN_f {N : Nat} (hN : N ≤ 1073741824) {x : Int32} (h : inN N x = false) : x < 0 ∨ ∃ i, i < 2147483648 ∧ x = nI i ∧ N ≤ i := by
  by_cases h0 : x < 0
  · exact .inl h0
  · obtain ⟨i, hi, rfl⟩ := nn_of h0
    refine .inr ⟨i, hi, rfl, ?_⟩
    rcases Nat.lt_or_ge i N with z | z
    · rw [inN_n z hN] at h; cases h
    · exact z
theorem energiesOfRows_ok {n : Nat} {σ : XS} {g : GD} {gT gP : GH} {st : Nat} (hn : n ≤ 512) (H : IV n σ g gT gP st) {r : Nat} (hr : r < g.2.1) : ∃ τ E c m, f_X11_energiesOfRows σ 1 (nI r) = some (E, τ) ∧ IV n τ g gT gP st ∧ EnO τ E c m ∧ 2 ^ (g.1 * (r + 1)) ≤ m ∧ (∀ s, s < 2 ^ (g.1 * (r + 1)) → xI τ c s = iI (eP g (zR (xI σ 191)) (g.1 * (r + 1)) s)) ∧ ∀ a k, (a < 157 ∨ (183 ≤ a ∧ a ≤ 206)) → xI τ a k = xI σ a k := by
  have hS := H.shp
  have hG := H.grd
  have hg := hG.1
  have hb := gAll_b g hg
  have hk := gRow3 g hg (r + 1) (by omega) (by omega)
  have e1l : nI g.2.1 - (1 : Int32) = nI (g.2.1 - 1) := by rw [show (1 : Int32) = nI 1 from rfl, nn_sub (by omega)]
  have hcmp : (nI r = nI (g.2.1 - 1)) = (r = g.2.1 - 1) := nn_eq (by omega) (by omega)
  by_cases hlast : r = g.2.1 - 1
  · obtain ⟨τ, e1, H1, K1, u1, -⟩ := energiesNow_ok hn H
    obtain ⟨c, a, hE, ha, hcn⟩ := H1.en157
    have rτ : xI τ 191 = xI σ 191 := by funext k; exact u1 191 k (by omega)
    rw [rτ] at K1
    have hkn : g.1 * (r + 1) = gSz g := by unfold gSz; rw [show r + 1 = g.2.1 by omega]
    have hm := K1.1
    rw [hE.2.1] at hm
    unfold xlen at hm
    rw [hE.2.2.1] at hm
    refine ⟨τ, 157, c, 2 ^ a, ?_, H1, hE, by rw [hkn]; exact hm, fun s hs => ?_, fun a k h => u1 a k (by omega)⟩
    · show f_X11_energiesOfRows (xw σ (xI σ)) 1 (nI r) = _
      unfold f_X11_energiesOfRows f_X11_energiesOfRows_j17
      have e1' : f_X11_energiesNow (xw σ (xI σ)) 1 = some (157, τ) := e1
      simp (disch := first | assumption | omega) only [Option.bind_some, Option.map_some, xw_gR, xw_gN, xw_al, xw_ck, xw_uI, xw_ur, xup_at, xur_at, if_true, if_false, reduceIte, and_true, true_and, and_false, false_and, not_true_eq_false, not_false_eq_true, Nat.reduceEqDiff, eq_self, Nat.reduceAdd, Nat.reduceMul, kC1, kG1, kP1, kR1_0, kR1_1, kR1_2, kR1_3, kR1_4, kR1_5, kR1_6, kR1_7, kR1_8, kR1_9, kR1_10, kR1_11, kR1_12, kR1_13, kC2, kG2, kP2, kR2_0, kR2_1, kC3, kG3, kP3, kR3_0, kR3_1, kR3_2, kR3_3, kL4, kA4, kS4, kL5, kA5, kS5, kL6, kA6, kS6, kL7, kA7, kS7, kC8, kG8, kP8, kR8_0, kR8_1, kL9, kA9, kS9, kL10, kA10, kS10, kC11, kG11, kP11, kR11_0, kR11_1, kR11_2, kR11_3, kL12, kA12, kS12, kL13, kA13, kS13, kL14, kA14, kS14, kL15, kA15, kS15, kC16, kG16, kP16, kR16_0, kR16_1, kL17, kA17, kS17, kL18, kA18, kS18, kC19, kG19, kP19, kR19_0, kL20, kL141, kL146, kA146, kS146, kL151, kA151, kS151, kL156, kA156, kS156, kC157, kG157, kP157, kR157_0, kR157_1, kL158, kA158, kS158, kL159, kA159, kS159, kC161, kG161, kP161, kR161_0, kR161_1, kL162, kA162, kS162, kL163, kA163, kS163, kC165, kG165, kP165, kR165_0, kR165_1, kR165_2, kR165_3, kL166, kA166, kS166, kL167, kA167, kS167, kL168, kA168, kS168, kL169, kA169, kS169, kC170, kG170, kP170, kR170_0, kR170_1, kR170_2, kL171, kA171, kS171, kL172, kA172, kS172, kL173, kA173, kS173, kC174, kG174, kP174, kR174_0, kR174_1, kR174_2, kR174_3, kR174_4, kL175, kA175, kS175, kL176, kA176, kS176, kL177, kA177, kS177, kL178, kA178, kS178, kL179, kC180, kG180, kP180, kL181, kL182, kA182, kS182, kC183, kG183, kP183, kR183_1, kR183_3, kR183_5, kR183_6, kR183_7, kR183_8, kR183_9, kR183_21, kR183_26, kR183_27, kR183_30, kR183_31, kR183_33, kR183_34, kR183_36, kR183_37, kR183_38, kR183_39, kR183_40, kR183_41, kR183_42, kR183_43, kR183_44, kL184, kA184, kS184, kL185, kA185, kS185, kL186, kA186, kS186, kL187, kA187, kS187, kL188, kA188, kS188, kL189, kL190, kL191, kA191, kS191, kL192, kA192, kS192, kL193, kA193, kS193, kL194, kA194, kS194, kL195, kA195, kS195, kL196, kA196, kS196, kL197, kA197, kS197, kL198, kA198, kS198, kL199, kA199, kS199, kL200, kA200, kS200, kL201, kL202, kA202, kS202, kL203, kA203, kS203, kL204, kA204, kS204, kL205, kL206, kA206, kS206, hG.2.2.1, e1l, hcmp, hlast, e1', xnz_ok]
    · rw [hkn] at hs ⊢
      have := K1.2 s hs
      rw [hE.2.1] at this
      rw [this, eP_all hg]
  · obtain ⟨c, b, hE, hbb, hcn⟩ := H.en161
    have hEb := hE.b
    have K17 : σ.1 17 = (20, 32) := xw_K hS (by decide) (by decide) (by decide)
    have K18 : σ.1 18 = (20, 16) := xw_K hS (by decide) (by decide) (by decide)
    have hf := SR_fill hg H.now.1 H.now.2.1
    obtain ⟨τ, e1, hτ⟩ := fill11_ok (I := xI σ) (k := g.1 * (r + 1)) hS hG hE hbb hcn K17 K18 (by omega) (by omega) (by omega) (by omega) (by omega) (by omega) hk hf.1 hf.2
    have HA := H.aside hE (fun a k h => rfl) hτ
    obtain ⟨hτS, ⟨c', b', hE', f1, f2, f3, f4, f5, f6, f7, f8, f9⟩, f10, f11, f12, f13⟩ := hτ
    have hEb' := hE'.b
    have h206 := hS.1
    refine ⟨τ, 161, c', 2 ^ b', ?_, HA, hE', Nat.pow_le_pow_right (by decide) f3, f8, fun a k h => f9 a k (by omega) (by omega) (by omega)⟩
    show f_X11_energiesOfRows (xw σ (xI σ)) 1 (nI r) = _
    unfold f_X11_energiesOfRows f_X11_energiesOfRows_j54
    have hmul : (nI r + (1 : Int32)) * nI g.1 = nI (g.1 * (r + 1)) := by rw [show (1 : Int32) = nI 1 from rfl, nn_add, nn_mul, Nat.mul_comm]
    simp (disch := first | assumption | omega) only [Option.bind_some, Option.map_some, xw_gR, xw_gN, xw_al, xw_ck, xw_uI, xw_ur, xup_at, xur_at, if_true, if_false, reduceIte, and_true, true_and, and_false, false_and, not_true_eq_false, not_false_eq_true, Nat.reduceEqDiff, eq_self, Nat.reduceAdd, Nat.reduceMul, kC1, kG1, kP1, kR1_0, kR1_1, kR1_2, kR1_3, kR1_4, kR1_5, kR1_6, kR1_7, kR1_8, kR1_9, kR1_10, kR1_11, kR1_12, kR1_13, kC2, kG2, kP2, kR2_0, kR2_1, kC3, kG3, kP3, kR3_0, kR3_1, kR3_2, kR3_3, kL4, kA4, kS4, kL5, kA5, kS5, kL6, kA6, kS6, kL7, kA7, kS7, kC8, kG8, kP8, kR8_0, kR8_1, kL9, kA9, kS9, kL10, kA10, kS10, kC11, kG11, kP11, kR11_0, kR11_1, kR11_2, kR11_3, kL12, kA12, kS12, kL13, kA13, kS13, kL14, kA14, kS14, kL15, kA15, kS15, kC16, kG16, kP16, kR16_0, kR16_1, kL17, kA17, kS17, kL18, kA18, kS18, kC19, kG19, kP19, kR19_0, kL20, kL141, kL146, kA146, kS146, kL151, kA151, kS151, kL156, kA156, kS156, kC157, kG157, kP157, kR157_0, kR157_1, kL158, kA158, kS158, kL159, kA159, kS159, kC161, kG161, kP161, kR161_0, kR161_1, kL162, kA162, kS162, kL163, kA163, kS163, kC165, kG165, kP165, kR165_0, kR165_1, kR165_2, kR165_3, kL166, kA166, kS166, kL167, kA167, kS167, kL168, kA168, kS168, kL169, kA169, kS169, kC170, kG170, kP170, kR170_0, kR170_1, kR170_2, kL171, kA171, kS171, kL172, kA172, kS172, kL173, kA173, kS173, kC174, kG174, kP174, kR174_0, kR174_1, kR174_2, kR174_3, kR174_4, kL175, kA175, kS175, kL176, kA176, kS176, kL177, kA177, kS177, kL178, kA178, kS178, kL179, kC180, kG180, kP180, kL181, kL182, kA182, kS182, kC183, kG183, kP183, kR183_1, kR183_3, kR183_5, kR183_6, kR183_7, kR183_8, kR183_9, kR183_21, kR183_26, kR183_27, kR183_30, kR183_31, kR183_33, kR183_34, kR183_36, kR183_37, kR183_38, kR183_39, kR183_40, kR183_41, kR183_42, kR183_43, kR183_44, kL184, kA184, kS184, kL185, kA185, kS185, kL186, kA186, kS186, kL187, kA187, kS187, kL188, kA188, kS188, kL189, kL190, kL191, kA191, kS191, kL192, kA192, kS192, kL193, kA193, kS193, kL194, kA194, kS194, kL195, kA195, kS195, kL196, kA196, kS196, kL197, kA197, kS197, kL198, kA198, kS198, kL199, kA199, kS199, kL200, kA200, kS200, kL201, kL202, kA202, kS202, kL203, kA203, kS203, kL204, kA204, kS204, kL205, kL206, kA206, kS206, hG.2.2.1, hG.2.1, e1l, hcmp, hlast, hmul, e1]
    rw [xnz_ok (by decide)]
    rfl
/-- the lawful states of the first k sites -/
def lwk (F : Nat → Int32) (k s : Nat) : Bool := (List.range k).all (fun i => decide (F (48 + i) = 0) || (s.testBit i == decide (F (48 + i) = 1)))
theorem lwk_iff {F : Nat → Int32} {k s : Nat} : lwk F k s = true ↔ ∀ i, i < k → F (48 + i) ≠ 0 → s.testBit i = decide (F (48 + i) = 1) := by
  unfold lwk
  rw [List.all_eq_true]
  constructor
  · intro h i hi hne
    have := h i (List.mem_range.mpr hi)
    simp only [hne, decide_false, Bool.false_or, beq_iff_eq] at this
    exact this
  · intro h i hi
    by_cases hne : F (48 + i) = 0
    · simp [hne]
    · have := h i (List.mem_range.mp hi) hne
      simp [hne, this]
theorem op_rows : Op_rows INV := by
  intro n σ hn ⟨g, gT, gP, st, H⟩ x y z
  have hS := H.shp
  have hG := H.grd
  have hg := hG.1
  have hb := gAll_b g hg
  have hpw : 2 ^ g.1 ≤ 2 ^ 4 := Nat.pow_le_pow_right (by decide) hb.1
  have h24 : (2 : Nat) ^ 4 = 16 := by decide
  by_cases hx1 : inN g.2.1 x = true
  · obtain ⟨r, hr, rfl⟩ := inN_t hx1
    have x0 : ¬ nI r < 0 := nI_pos (by omega)
    have x1 : ¬ g.2.1 ≤ r := by omega
    by_cases hy1 : inN (2 ^ g.1) y = true
    · obtain ⟨w, hw, rfl⟩ := inN_t hy1
      obtain ⟨τ, E, c, m, e1, H1, hE, hm, hv, fr⟩ := energiesOfRows_ok (by omega) H hr
      have hSτ := H1.shp
      have hGτ := H1.grd
      obtain ⟨F, hF⟩ : ∃ F, F = xI σ 191 := ⟨_, rfl⟩
      have rτ : xI τ 191 = F := by rw [hF]; funext k; exact fr 191 k (by omega)
      have hSR := H1.now.1
      have ho := H1.now.2.1
      rw [rτ] at hSR ho
      rw [← hF] at hv
      obtain ⟨-, -, ⟨p, u, e3, e4, e5, e6⟩, -, -⟩ := id hSR
      have hk := gRow3 g hg (r + 1) (by omega) (by omega)
      obtain ⟨k, hkd⟩ : ∃ k, k = g.1 * (r + 1) := ⟨_, rfl⟩
      obtain ⟨at0, had⟩ : ∃ a, a = g.1 * r := ⟨_, rfl⟩
      have hka : k = at0 + g.1 := by rw [hkd, had, Nat.mul_succ]
      rw [← hkd] at hm hv hk
      have hpk : 2 ^ k ≤ 2 ^ 16 := Nat.pow_le_pow_right (by decide) (by omega)
      have h65 : (2 : Nat) ^ 16 = 65536 := by decide
      have hpk2 : 2 ^ k = 2 ^ at0 * 2 ^ g.1 := by rw [hka, Nat.pow_add]
      have hpa : 0 < 2 ^ at0 := Nat.two_pow_pos _
      have hbase : w * 2 ^ at0 + 2 ^ at0 ≤ 2 ^ k := by
        rw [hpk2, Nat.mul_comm (2 ^ at0), ← Nat.succ_mul]
        exact Nat.mul_le_mul_right _ hw
      obtain ⟨q, hq⟩ : ∃ q : Nat → Bool, q = fun low => lwk F k (w * 2 ^ at0 + low) && decide (iI (eP g (zR F) k (w * 2 ^ at0 + low)) = z) := ⟨_, rfl⟩
      have hp : p < 65536 := Nat.lt_pow_two_of_testBit (n := 16) p (fun j hj => by rw [e5]; simp; omega)
      have hu : u < 65536 := Nat.lt_pow_two_of_testBit (n := 16) u (fun j hj => by rw [e6]; simp; omega)
      refine ⟨nI (fb_ct q (2 ^ at0)), τ, ?_, ?_, INV_i H1.nop⟩
      · show f_X11_rows (xw σ (xI σ)) 1 (nI r) (nI w) z = _
        unfold f_X11_rows
        have e1' : f_X11_energiesOfRows (xw σ (xI σ)) 1 (nI r) = some (E, τ) := e1
        have y0 : ¬ nI w < 0 := nI_pos (by omega)
        have hE0 : E ≠ 0 := by rcases hE.1 with z | z <;> omega
        have hwl : (nI w < nI (2 ^ g.1)) = True := by rw [nn_lt (by omega) (by omega)]; exact eq_true hw
        simp (disch := first | assumption | omega) only [Option.bind_some, Option.map_some, xw_gR, xw_gN, xw_al, xw_ck, xw_uI, xw_ur, xup_at, xur_at, if_true, if_false, reduceIte, and_true, true_and, and_false, false_and, not_true_eq_false, not_false_eq_true, Nat.reduceEqDiff, eq_self, Nat.reduceAdd, Nat.reduceMul, kC1, kG1, kP1, kR1_0, kR1_1, kR1_2, kR1_3, kR1_4, kR1_5, kR1_6, kR1_7, kR1_8, kR1_9, kR1_10, kR1_11, kR1_12, kR1_13, kC2, kG2, kP2, kR2_0, kR2_1, kC3, kG3, kP3, kR3_0, kR3_1, kR3_2, kR3_3, kL4, kA4, kS4, kL5, kA5, kS5, kL6, kA6, kS6, kL7, kA7, kS7, kC8, kG8, kP8, kR8_0, kR8_1, kL9, kA9, kS9, kL10, kA10, kS10, kC11, kG11, kP11, kR11_0, kR11_1, kR11_2, kR11_3, kL12, kA12, kS12, kL13, kA13, kS13, kL14, kA14, kS14, kL15, kA15, kS15, kC16, kG16, kP16, kR16_0, kR16_1, kL17, kA17, kS17, kL18, kA18, kS18, kC19, kG19, kP19, kR19_0, kL20, kL141, kL146, kA146, kS146, kL151, kA151, kS151, kL156, kA156, kS156, kC157, kG157, kP157, kR157_0, kR157_1, kL158, kA158, kS158, kL159, kA159, kS159, kC161, kG161, kP161, kR161_0, kR161_1, kL162, kA162, kS162, kL163, kA163, kS163, kC165, kG165, kP165, kR165_0, kR165_1, kR165_2, kR165_3, kL166, kA166, kS166, kL167, kA167, kS167, kL168, kA168, kS168, kL169, kA169, kS169, kC170, kG170, kP170, kR170_0, kR170_1, kR170_2, kL171, kA171, kS171, kL172, kA172, kS172, kL173, kA173, kS173, kC174, kG174, kP174, kR174_0, kR174_1, kR174_2, kR174_3, kR174_4, kL175, kA175, kS175, kL176, kA176, kS176, kL177, kA177, kS177, kL178, kA178, kS178, kL179, kC180, kG180, kP180, kL181, kL182, kA182, kS182, kC183, kG183, kP183, kR183_1, kR183_3, kR183_5, kR183_6, kR183_7, kR183_8, kR183_9, kR183_21, kR183_26, kR183_27, kR183_30, kR183_31, kR183_33, kR183_34, kR183_36, kR183_37, kR183_38, kR183_39, kR183_40, kR183_41, kR183_42, kR183_43, kR183_44, kL184, kA184, kS184, kL185, kA185, kS185, kL186, kA186, kS186, kL187, kA187, kS187, kL188, kA188, kS188, kL189, kL190, kL191, kA191, kS191, kL192, kA192, kS192, kL193, kA193, kS193, kL194, kA194, kS194, kL195, kA195, kS195, kL196, kA196, kS196, kL197, kA197, kS197, kL198, kA198, kS198, kL199, kA199, kS199, kL200, kA200, kS200, kL201, kL202, kA202, kS202, kL203, kA203, kS203, kL204, kA204, kS204, kL205, kL206, kA206, kS206, x0, hG.2.2.1, nn_le, x1, y0, hG.2.1, nn_one, hwl, e1', xnz_ok hE0]
        show f_X11_rows_j39 (xw τ (xI τ)) 1 (nI r) (nI w) z E = _
        unfold f_X11_rows_j39
        have m1 : nI r * nI g.1 = nI at0 := by rw [nn_mul, had, Nat.mul_comm]
        have m2 : nI at0 + nI g.1 = nI k := by rw [nn_add, hka]
        simp (disch := first | assumption | omega) only [Option.bind_some, Option.map_some, xw_gR, xw_gN, xw_al, xw_ck, xw_uI, xw_ur, xup_at, xur_at, if_true, if_false, reduceIte, and_true, true_and, and_false, false_and, not_true_eq_false, not_false_eq_true, Nat.reduceEqDiff, eq_self, Nat.reduceAdd, Nat.reduceMul, kC1, kG1, kP1, kR1_0, kR1_1, kR1_2, kR1_3, kR1_4, kR1_5, kR1_6, kR1_7, kR1_8, kR1_9, kR1_10, kR1_11, kR1_12, kR1_13, kC2, kG2, kP2, kR2_0, kR2_1, kC3, kG3, kP3, kR3_0, kR3_1, kR3_2, kR3_3, kL4, kA4, kS4, kL5, kA5, kS5, kL6, kA6, kS6, kL7, kA7, kS7, kC8, kG8, kP8, kR8_0, kR8_1, kL9, kA9, kS9, kL10, kA10, kS10, kC11, kG11, kP11, kR11_0, kR11_1, kR11_2, kR11_3, kL12, kA12, kS12, kL13, kA13, kS13, kL14, kA14, kS14, kL15, kA15, kS15, kC16, kG16, kP16, kR16_0, kR16_1, kL17, kA17, kS17, kL18, kA18, kS18, kC19, kG19, kP19, kR19_0, kL20, kL141, kL146, kA146, kS146, kL151, kA151, kS151, kL156, kA156, kS156, kC157, kG157, kP157, kR157_0, kR157_1, kL158, kA158, kS158, kL159, kA159, kS159, kC161, kG161, kP161, kR161_0, kR161_1, kL162, kA162, kS162, kL163, kA163, kS163, kC165, kG165, kP165, kR165_0, kR165_1, kR165_2, kR165_3, kL166, kA166, kS166, kL167, kA167, kS167, kL168, kA168, kS168, kL169, kA169, kS169, kC170, kG170, kP170, kR170_0, kR170_1, kR170_2, kL171, kA171, kS171, kL172, kA172, kS172, kL173, kA173, kS173, kC174, kG174, kP174, kR174_0, kR174_1, kR174_2, kR174_3, kR174_4, kL175, kA175, kS175, kL176, kA176, kS176, kL177, kA177, kS177, kL178, kA178, kS178, kL179, kC180, kG180, kP180, kL181, kL182, kA182, kS182, kC183, kG183, kP183, kR183_1, kR183_3, kR183_5, kR183_6, kR183_7, kR183_8, kR183_9, kR183_21, kR183_26, kR183_27, kR183_30, kR183_31, kR183_33, kR183_34, kR183_36, kR183_37, kR183_38, kR183_39, kR183_40, kR183_41, kR183_42, kR183_43, kR183_44, kL184, kA184, kS184, kL185, kA185, kS185, kL186, kA186, kS186, kL187, kA187, kS187, kL188, kA188, kS188, kL189, kL190, kL191, kA191, kS191, kL192, kA192, kS192, kL193, kA193, kS193, kL194, kA194, kS194, kL195, kA195, kS195, kL196, kA196, kS196, kL197, kA197, kS197, kL198, kA198, kS198, kL199, kA199, kS199, kL200, kA200, kS200, kL201, kL202, kA202, kS202, kL203, kA203, kS203, kL204, kA204, kS204, kL205, kL206, kA206, kS206, hGτ.2.1, m1, m2, nn_one, nn_shl]
        have kn1 : nI (2 ^ k) - (1 : Int32) = nI (2 ^ k - 1) := by rw [show (1 : Int32) = nI 1 from rfl, nn_sub (Nat.two_pow_pos k)]
        rw [kn1, nn_add]
        refine xforE (fun low : Nat => (nI (fb_ct q low), nI (w * 2 ^ at0 + low))) (2 ^ at0) rfl (fun low hlow => ?_) ?_
        · simp only [f_X11_rows_b90]
          have hlt : w * 2 ^ at0 + low < 2 ^ k := by omega
          rw [if_neg (by rw [nn_le (by omega) (by omega)]; omega)]
          have hof : f_X2_of (xw τ (xI τ)) E (nI (w * 2 ^ at0 + low)) = some (iI (eP g (zR F) k (w * 2 ^ at0 + low))) := by
            rw [of_at hSτ hE (by omega), hv _ hlt]
          have hlw : (nI ((w * 2 ^ at0 + low) &&& p) = nI (u &&& (2 ^ k - 1))) = (lwk F k (w * 2 ^ at0 + low) = true) := by
            have b1 : (w * 2 ^ at0 + low) &&& p < 65536 := Nat.lt_of_le_of_lt Nat.and_le_right hp
            have b2 : u &&& (2 ^ k - 1) < 65536 := Nat.lt_of_le_of_lt Nat.and_le_left hu
            rw [nn_eq (by omega) (by omega), lwk_iff]
            apply propext
            constructor
            · intro h i hi hne
              have := congrArg (fun x => Nat.testBit x i) h
              have hi2 : i < gSz g := by omega
              simp [Nat.testBit_and, Nat.testBit_two_pow_sub_one, e5, e6, hi, hi2, hne] at this
              exact this
            · intro h
              apply Nat.eq_of_testBit_eq
              intro i
              rw [Nat.testBit_and, Nat.testBit_and, Nat.testBit_two_pow_sub_one, e5, e6]
              by_cases hi : i < k
              · have hi2 : i < gSz g := by omega
                by_cases hne : F (48 + i) = 0
                · simp [hi, hi2, hne]
                · rw [h i hi hne]; simp [hi, hi2, hne]
              · have : (w * 2 ^ at0 + low).testBit i = false := Nat.testBit_lt_two_pow (Nat.lt_of_lt_of_le hlt (Nat.pow_le_pow_right (by decide) (by omega)))
                simp [hi, this]
          simp (disch := first | assumption | omega) only [Option.bind_some, Option.map_some, xw_gR, xw_gN, xw_al, xw_ck, xw_uI, xw_ur, xup_at, xur_at, if_true, if_false, reduceIte, and_true, true_and, and_false, false_and, not_true_eq_false, not_false_eq_true, Nat.reduceEqDiff, eq_self, Nat.reduceAdd, Nat.reduceMul, kC1, kG1, kP1, kR1_0, kR1_1, kR1_2, kR1_3, kR1_4, kR1_5, kR1_6, kR1_7, kR1_8, kR1_9, kR1_10, kR1_11, kR1_12, kR1_13, kC2, kG2, kP2, kR2_0, kR2_1, kC3, kG3, kP3, kR3_0, kR3_1, kR3_2, kR3_3, kL4, kA4, kS4, kL5, kA5, kS5, kL6, kA6, kS6, kL7, kA7, kS7, kC8, kG8, kP8, kR8_0, kR8_1, kL9, kA9, kS9, kL10, kA10, kS10, kC11, kG11, kP11, kR11_0, kR11_1, kR11_2, kR11_3, kL12, kA12, kS12, kL13, kA13, kS13, kL14, kA14, kS14, kL15, kA15, kS15, kC16, kG16, kP16, kR16_0, kR16_1, kL17, kA17, kS17, kL18, kA18, kS18, kC19, kG19, kP19, kR19_0, kL20, kL141, kL146, kA146, kS146, kL151, kA151, kS151, kL156, kA156, kS156, kC157, kG157, kP157, kR157_0, kR157_1, kL158, kA158, kS158, kL159, kA159, kS159, kC161, kG161, kP161, kR161_0, kR161_1, kL162, kA162, kS162, kL163, kA163, kS163, kC165, kG165, kP165, kR165_0, kR165_1, kR165_2, kR165_3, kL166, kA166, kS166, kL167, kA167, kS167, kL168, kA168, kS168, kL169, kA169, kS169, kC170, kG170, kP170, kR170_0, kR170_1, kR170_2, kL171, kA171, kS171, kL172, kA172, kS172, kL173, kA173, kS173, kC174, kG174, kP174, kR174_0, kR174_1, kR174_2, kR174_3, kR174_4, kL175, kA175, kS175, kL176, kA176, kS176, kL177, kA177, kS177, kL178, kA178, kS178, kL179, kC180, kG180, kP180, kL181, kL182, kA182, kS182, kC183, kG183, kP183, kR183_1, kR183_3, kR183_5, kR183_6, kR183_7, kR183_8, kR183_9, kR183_21, kR183_26, kR183_27, kR183_30, kR183_31, kR183_33, kR183_34, kR183_36, kR183_37, kR183_38, kR183_39, kR183_40, kR183_41, kR183_42, kR183_43, kR183_44, kL184, kA184, kS184, kL185, kA185, kS185, kL186, kA186, kS186, kL187, kA187, kS187, kL188, kA188, kS188, kL189, kL190, kL191, kA191, kS191, kL192, kA192, kS192, kL193, kA193, kS193, kL194, kA194, kS194, kL195, kA195, kS195, kL196, kA196, kS196, kL197, kA197, kS197, kL198, kA198, kS198, kL199, kA199, kS199, kL200, kA200, kS200, kL201, kL202, kA202, kS202, kL203, kA203, kS203, kL204, kA204, kS204, kL205, kL206, kA206, kS206, e3, e4, fa_and, hlw]
          rw [xck_ok (hE.T hSτ), Option.bind_some, hof, Option.bind_some, fb_ct_succ, ← nI_succ, ← nI_succ]
          have vq : q low = (lwk F k (w * 2 ^ at0 + low) && decide (iI (eP g (zR F) k (w * 2 ^ at0 + low)) = z)) := by rw [hq]
          rw [vq]
          by_cases h1 : lwk F k (w * 2 ^ at0 + low) = true
          · rw [if_pos h1]
            by_cases h2 : iI (eP g (zR F) k (w * 2 ^ at0 + low)) = z
            · rw [if_pos h2]; simp [h1, h2]; rfl
            · rw [if_neg h2]; simp [h2]; rfl
          · rw [if_neg h1]; simp [h1]; rfl
        · simp only [f_X11_rows_b90]
          rw [if_pos (by rw [nn_le (by omega) (by omega)]; exact Nat.le_refl _)]
          rfl
      · show f_X12_rows (xw τ (xI τ)) 183 (nI r) (nI w) z = _
        unfold f_X12_rows
        have hKK : τ.1 191 = (20, 66) := xw_K hSτ (by decide) (by decide) (by decide)
        have m1 : nI g.1 * nI r = nI at0 := by rw [nn_mul, had]
        have in1 := inN_in (N := g.2.1) (by omega) (nI r)
        have in2 := inN_in (N := 2 ^ g.1) (by omega) (nI w)
        rw [hx1, if_pos rfl] at in1
        rw [hy1, if_pos rfl] at in2
        simp (disch := first | assumption | omega) only [Option.bind_some, Option.map_some, xw_gR, xw_gN, xw_al, xw_ck, xw_uI, xw_ur, xup_at, xur_at, if_true, if_false, reduceIte, and_true, true_and, and_false, false_and, not_true_eq_false, not_false_eq_true, Nat.reduceEqDiff, eq_self, Nat.reduceAdd, Nat.reduceMul, kC1, kG1, kP1, kR1_0, kR1_1, kR1_2, kR1_3, kR1_4, kR1_5, kR1_6, kR1_7, kR1_8, kR1_9, kR1_10, kR1_11, kR1_12, kR1_13, kC2, kG2, kP2, kR2_0, kR2_1, kC3, kG3, kP3, kR3_0, kR3_1, kR3_2, kR3_3, kL4, kA4, kS4, kL5, kA5, kS5, kL6, kA6, kS6, kL7, kA7, kS7, kC8, kG8, kP8, kR8_0, kR8_1, kL9, kA9, kS9, kL10, kA10, kS10, kC11, kG11, kP11, kR11_0, kR11_1, kR11_2, kR11_3, kL12, kA12, kS12, kL13, kA13, kS13, kL14, kA14, kS14, kL15, kA15, kS15, kC16, kG16, kP16, kR16_0, kR16_1, kL17, kA17, kS17, kL18, kA18, kS18, kC19, kG19, kP19, kR19_0, kL20, kL141, kL146, kA146, kS146, kL151, kA151, kS151, kL156, kA156, kS156, kC157, kG157, kP157, kR157_0, kR157_1, kL158, kA158, kS158, kL159, kA159, kS159, kC161, kG161, kP161, kR161_0, kR161_1, kL162, kA162, kS162, kL163, kA163, kS163, kC165, kG165, kP165, kR165_0, kR165_1, kR165_2, kR165_3, kL166, kA166, kS166, kL167, kA167, kS167, kL168, kA168, kS168, kL169, kA169, kS169, kC170, kG170, kP170, kR170_0, kR170_1, kR170_2, kL171, kA171, kS171, kL172, kA172, kS172, kL173, kA173, kS173, kC174, kG174, kP174, kR174_0, kR174_1, kR174_2, kR174_3, kR174_4, kL175, kA175, kS175, kL176, kA176, kS176, kL177, kA177, kS177, kL178, kA178, kS178, kL179, kC180, kG180, kP180, kL181, kL182, kA182, kS182, kC183, kG183, kP183, kR183_1, kR183_3, kR183_5, kR183_6, kR183_7, kR183_8, kR183_9, kR183_21, kR183_26, kR183_27, kR183_30, kR183_31, kR183_33, kR183_34, kR183_36, kR183_37, kR183_38, kR183_39, kR183_40, kR183_41, kR183_42, kR183_43, kR183_44, kL184, kA184, kS184, kL185, kA185, kS185, kL186, kA186, kS186, kL187, kA187, kS187, kL188, kA188, kS188, kL189, kL190, kL191, kA191, kS191, kL192, kA192, kS192, kL193, kA193, kS193, kL194, kA194, kS194, kL195, kA195, kS195, kL196, kA196, kS196, kL197, kA197, kS197, kL198, kA198, kS198, kL199, kA199, kS199, kL200, kA200, kS200, kL201, kL202, kA202, kS202, kL203, kA203, kS203, kL204, kA204, kS204, kL205, kL206, kA206, kS206, hGτ.2.2.2.2.2.2.2.2.1, hGτ.2.2.2.2.2.2.2.2.2.1, in1, one0, nn_one, in2, m1]
        refine xforE (fun low : Nat => (nI (fb_ct q low), nI low)) (2 ^ at0) rfl (fun low hlow => ?_) ?_
        · simp only [f_X12_rows_b46]
          have hlt : w * 2 ^ at0 + low < 2 ^ k := by omega
          have hor : nI low ||| nI (w * 2 ^ at0) = nI (w * 2 ^ at0 + low) := by
            have := fa_or_sum (a := low) (k := at0) w hlow
            rw [fa_or, Nat.or_comm, ← fa_or, Nat.mul_comm w]
            exact this
          rw [nn_one (by omega), if_neg (by rw [nn_le (by omega) (by omega)]; omega), nn_shl (by omega), hor]
          have m2 : nI at0 + nI g.1 = nI k := by rw [nn_add, hka]
          have hlb := lawfulBy_ok (σ := τ) (I := xI τ) (a := 191) (s := w * 2 ^ at0 + low) (k := k) hSτ hKK (by omega) (by omega) (fun i hi => by rw [rτ]; exact (ho.2.1 i (by omega)).1)
          rw [rτ] at hlb
          have hen := energy12_ok (σ := τ) (I := xI τ) (a := 191) (s := w * 2 ^ at0 + low) (r := r + 1) hSτ hGτ hKK (by omega) (by omega)
          rw [rτ, ← hkd] at hen
          have r1 : nI r + (1 : Int32) = nI (r + 1) := (nI_succ r).symm
          simp (disch := first | assumption | omega) only [Option.bind_some, Option.map_some, xw_gR, xw_gN, xw_al, xw_ck, xw_uI, xw_ur, xup_at, xur_at, if_true, if_false, reduceIte, and_true, true_and, and_false, false_and, not_true_eq_false, not_false_eq_true, Nat.reduceEqDiff, eq_self, Nat.reduceAdd, Nat.reduceMul, kC1, kG1, kP1, kR1_0, kR1_1, kR1_2, kR1_3, kR1_4, kR1_5, kR1_6, kR1_7, kR1_8, kR1_9, kR1_10, kR1_11, kR1_12, kR1_13, kC2, kG2, kP2, kR2_0, kR2_1, kC3, kG3, kP3, kR3_0, kR3_1, kR3_2, kR3_3, kL4, kA4, kS4, kL5, kA5, kS5, kL6, kA6, kS6, kL7, kA7, kS7, kC8, kG8, kP8, kR8_0, kR8_1, kL9, kA9, kS9, kL10, kA10, kS10, kC11, kG11, kP11, kR11_0, kR11_1, kR11_2, kR11_3, kL12, kA12, kS12, kL13, kA13, kS13, kL14, kA14, kS14, kL15, kA15, kS15, kC16, kG16, kP16, kR16_0, kR16_1, kL17, kA17, kS17, kL18, kA18, kS18, kC19, kG19, kP19, kR19_0, kL20, kL141, kL146, kA146, kS146, kL151, kA151, kS151, kL156, kA156, kS156, kC157, kG157, kP157, kR157_0, kR157_1, kL158, kA158, kS158, kL159, kA159, kS159, kC161, kG161, kP161, kR161_0, kR161_1, kL162, kA162, kS162, kL163, kA163, kS163, kC165, kG165, kP165, kR165_0, kR165_1, kR165_2, kR165_3, kL166, kA166, kS166, kL167, kA167, kS167, kL168, kA168, kS168, kL169, kA169, kS169, kC170, kG170, kP170, kR170_0, kR170_1, kR170_2, kL171, kA171, kS171, kL172, kA172, kS172, kL173, kA173, kS173, kC174, kG174, kP174, kR174_0, kR174_1, kR174_2, kR174_3, kR174_4, kL175, kA175, kS175, kL176, kA176, kS176, kL177, kA177, kS177, kL178, kA178, kS178, kL179, kC180, kG180, kP180, kL181, kL182, kA182, kS182, kC183, kG183, kP183, kR183_1, kR183_3, kR183_5, kR183_6, kR183_7, kR183_8, kR183_9, kR183_21, kR183_26, kR183_27, kR183_30, kR183_31, kR183_33, kR183_34, kR183_36, kR183_37, kR183_38, kR183_39, kR183_40, kR183_41, kR183_42, kR183_43, kR183_44, kL184, kA184, kS184, kL185, kA185, kS185, kL186, kA186, kS186, kL187, kA187, kS187, kL188, kA188, kS188, kL189, kL190, kL191, kA191, kS191, kL192, kA192, kS192, kL193, kA193, kS193, kL194, kA194, kS194, kL195, kA195, kS195, kL196, kA196, kS196, kL197, kA197, kS197, kL198, kA198, kS198, kL199, kA199, kS199, kL200, kA200, kS200, kL201, kL202, kA202, kS202, kL203, kA203, kS203, kL204, kA204, kS204, kL205, kL206, kA206, kS206, hGτ.2.2.2.2.2.2.2.2.1, m2, hlb, r1, hen]
          rw [fb_ct_succ, ← nI_succ, ← nI_succ]
          have vq : q low = (lwk F k (w * 2 ^ at0 + low) && decide (iI (eP g (zR F) k (w * 2 ^ at0 + low)) = z)) := by rw [hq]
          rw [vq]
          show (if (if lwk F k (w * 2 ^ at0 + low) = true then (1 : Int32) else 0) = 0 then _ else _) = _
          by_cases h1 : lwk F k (w * 2 ^ at0 + low) = true
          · rw [if_pos h1, if_neg (by decide)]
            by_cases h2 : iI (eP g (zR F) k (w * 2 ^ at0 + low)) = z
            · rw [if_pos h2]; simp [h1, h2]
            · rw [if_neg h2]; simp [h2]
          · rw [if_neg h1, if_pos rfl]; simp [h1]
        · simp only [f_X12_rows_b46]
          rw [nn_one (by omega), if_pos (by rw [nn_le (by omega) (by omega)]; exact Nat.le_refl _)]
          rfl
    · refine ⟨-1, σ, ?_, ?_, INV_i H.nop⟩
      · show f_X11_rows (xw σ (xI σ)) 1 (nI r) y z = _
        unfold f_X11_rows
        simp (disch := first | assumption | omega) only [Option.bind_some, Option.map_some, xw_gR, xw_gN, xw_al, xw_ck, xw_uI, xw_ur, xup_at, xur_at, if_true, if_false, reduceIte, and_true, true_and, and_false, false_and, not_true_eq_false, not_false_eq_true, Nat.reduceEqDiff, eq_self, Nat.reduceAdd, Nat.reduceMul, kC1, kG1, kP1, kR1_0, kR1_1, kR1_2, kR1_3, kR1_4, kR1_5, kR1_6, kR1_7, kR1_8, kR1_9, kR1_10, kR1_11, kR1_12, kR1_13, kC2, kG2, kP2, kR2_0, kR2_1, kC3, kG3, kP3, kR3_0, kR3_1, kR3_2, kR3_3, kL4, kA4, kS4, kL5, kA5, kS5, kL6, kA6, kS6, kL7, kA7, kS7, kC8, kG8, kP8, kR8_0, kR8_1, kL9, kA9, kS9, kL10, kA10, kS10, kC11, kG11, kP11, kR11_0, kR11_1, kR11_2, kR11_3, kL12, kA12, kS12, kL13, kA13, kS13, kL14, kA14, kS14, kL15, kA15, kS15, kC16, kG16, kP16, kR16_0, kR16_1, kL17, kA17, kS17, kL18, kA18, kS18, kC19, kG19, kP19, kR19_0, kL20, kL141, kL146, kA146, kS146, kL151, kA151, kS151, kL156, kA156, kS156, kC157, kG157, kP157, kR157_0, kR157_1, kL158, kA158, kS158, kL159, kA159, kS159, kC161, kG161, kP161, kR161_0, kR161_1, kL162, kA162, kS162, kL163, kA163, kS163, kC165, kG165, kP165, kR165_0, kR165_1, kR165_2, kR165_3, kL166, kA166, kS166, kL167, kA167, kS167, kL168, kA168, kS168, kL169, kA169, kS169, kC170, kG170, kP170, kR170_0, kR170_1, kR170_2, kL171, kA171, kS171, kL172, kA172, kS172, kL173, kA173, kS173, kC174, kG174, kP174, kR174_0, kR174_1, kR174_2, kR174_3, kR174_4, kL175, kA175, kS175, kL176, kA176, kS176, kL177, kA177, kS177, kL178, kA178, kS178, kL179, kC180, kG180, kP180, kL181, kL182, kA182, kS182, kC183, kG183, kP183, kR183_1, kR183_3, kR183_5, kR183_6, kR183_7, kR183_8, kR183_9, kR183_21, kR183_26, kR183_27, kR183_30, kR183_31, kR183_33, kR183_34, kR183_36, kR183_37, kR183_38, kR183_39, kR183_40, kR183_41, kR183_42, kR183_43, kR183_44, kL184, kA184, kS184, kL185, kA185, kS185, kL186, kA186, kS186, kL187, kA187, kS187, kL188, kA188, kS188, kL189, kL190, kL191, kA191, kS191, kL192, kA192, kS192, kL193, kA193, kS193, kL194, kA194, kS194, kL195, kA195, kS195, kL196, kA196, kS196, kL197, kA197, kS197, kL198, kA198, kS198, kL199, kA199, kS199, kL200, kA200, kS200, kL201, kL202, kA202, kS202, kL203, kA203, kS203, kL204, kA204, kS204, kL205, kL206, kA206, kS206, x0, hG.2.2.1, nn_le, x1, hG.2.1, nn_one]
        rcases inN_f (by omega) (Bool.not_eq_true _ ▸ hy1) with q | ⟨i, hi, rfl, hge⟩
        · rw [if_pos q]; rfl
        · rw [if_neg (nI_pos (by omega)), if_neg (by rw [nn_lt (by omega) (by omega)]; omega)]; rfl
      · show f_X12_rows (xw σ (xI σ)) 183 (nI r) y z = _
        unfold f_X12_rows
        have in1 := inN_in (N := g.2.1) (by omega) (nI r)
        have in2 := inN_in (N := 2 ^ g.1) (by omega) y
        rw [hx1, if_pos rfl] at in1
        have hy2 : inN (2 ^ g.1) y = false := Bool.not_eq_true _ ▸ hy1
        rw [hy2, if_neg (by decide)] at in2
        simp (disch := first | assumption | omega) only [Option.bind_some, Option.map_some, xw_gR, xw_gN, xw_al, xw_ck, xw_uI, xw_ur, xup_at, xur_at, if_true, if_false, reduceIte, and_true, true_and, and_false, false_and, not_true_eq_false, not_false_eq_true, Nat.reduceEqDiff, eq_self, Nat.reduceAdd, Nat.reduceMul, kC1, kG1, kP1, kR1_0, kR1_1, kR1_2, kR1_3, kR1_4, kR1_5, kR1_6, kR1_7, kR1_8, kR1_9, kR1_10, kR1_11, kR1_12, kR1_13, kC2, kG2, kP2, kR2_0, kR2_1, kC3, kG3, kP3, kR3_0, kR3_1, kR3_2, kR3_3, kL4, kA4, kS4, kL5, kA5, kS5, kL6, kA6, kS6, kL7, kA7, kS7, kC8, kG8, kP8, kR8_0, kR8_1, kL9, kA9, kS9, kL10, kA10, kS10, kC11, kG11, kP11, kR11_0, kR11_1, kR11_2, kR11_3, kL12, kA12, kS12, kL13, kA13, kS13, kL14, kA14, kS14, kL15, kA15, kS15, kC16, kG16, kP16, kR16_0, kR16_1, kL17, kA17, kS17, kL18, kA18, kS18, kC19, kG19, kP19, kR19_0, kL20, kL141, kL146, kA146, kS146, kL151, kA151, kS151, kL156, kA156, kS156, kC157, kG157, kP157, kR157_0, kR157_1, kL158, kA158, kS158, kL159, kA159, kS159, kC161, kG161, kP161, kR161_0, kR161_1, kL162, kA162, kS162, kL163, kA163, kS163, kC165, kG165, kP165, kR165_0, kR165_1, kR165_2, kR165_3, kL166, kA166, kS166, kL167, kA167, kS167, kL168, kA168, kS168, kL169, kA169, kS169, kC170, kG170, kP170, kR170_0, kR170_1, kR170_2, kL171, kA171, kS171, kL172, kA172, kS172, kL173, kA173, kS173, kC174, kG174, kP174, kR174_0, kR174_1, kR174_2, kR174_3, kR174_4, kL175, kA175, kS175, kL176, kA176, kS176, kL177, kA177, kS177, kL178, kA178, kS178, kL179, kC180, kG180, kP180, kL181, kL182, kA182, kS182, kC183, kG183, kP183, kR183_1, kR183_3, kR183_5, kR183_6, kR183_7, kR183_8, kR183_9, kR183_21, kR183_26, kR183_27, kR183_30, kR183_31, kR183_33, kR183_34, kR183_36, kR183_37, kR183_38, kR183_39, kR183_40, kR183_41, kR183_42, kR183_43, kR183_44, kL184, kA184, kS184, kL185, kA185, kS185, kL186, kA186, kS186, kL187, kA187, kS187, kL188, kA188, kS188, kL189, kL190, kL191, kA191, kS191, kL192, kA192, kS192, kL193, kA193, kS193, kL194, kA194, kS194, kL195, kA195, kS195, kL196, kA196, kS196, kL197, kA197, kS197, kL198, kA198, kS198, kL199, kA199, kS199, kL200, kA200, kS200, kL201, kL202, kA202, kS202, kL203, kA203, kS203, kL204, kA204, kS204, kL205, kL206, kA206, kS206, hG.2.2.2.2.2.2.2.2.1, hG.2.2.2.2.2.2.2.2.2.1, in1, one0, nn_one, in2]
  · refine ⟨-1, σ, ?_, ?_, INV_i H.nop⟩
    · show f_X11_rows (xw σ (xI σ)) 1 x y z = _
      unfold f_X11_rows
      simp (disch := first | assumption | omega) only [Option.bind_some, Option.map_some, xw_gR, xw_gN, xw_al, xw_ck, xw_uI, xw_ur, xup_at, xur_at, if_true, if_false, reduceIte, and_true, true_and, and_false, false_and, not_true_eq_false, not_false_eq_true, Nat.reduceEqDiff, eq_self, Nat.reduceAdd, Nat.reduceMul, kC1, kG1, kP1, kR1_0, kR1_1, kR1_2, kR1_3, kR1_4, kR1_5, kR1_6, kR1_7, kR1_8, kR1_9, kR1_10, kR1_11, kR1_12, kR1_13, kC2, kG2, kP2, kR2_0, kR2_1, kC3, kG3, kP3, kR3_0, kR3_1, kR3_2, kR3_3, kL4, kA4, kS4, kL5, kA5, kS5, kL6, kA6, kS6, kL7, kA7, kS7, kC8, kG8, kP8, kR8_0, kR8_1, kL9, kA9, kS9, kL10, kA10, kS10, kC11, kG11, kP11, kR11_0, kR11_1, kR11_2, kR11_3, kL12, kA12, kS12, kL13, kA13, kS13, kL14, kA14, kS14, kL15, kA15, kS15, kC16, kG16, kP16, kR16_0, kR16_1, kL17, kA17, kS17, kL18, kA18, kS18, kC19, kG19, kP19, kR19_0, kL20, kL141, kL146, kA146, kS146, kL151, kA151, kS151, kL156, kA156, kS156, kC157, kG157, kP157, kR157_0, kR157_1, kL158, kA158, kS158, kL159, kA159, kS159, kC161, kG161, kP161, kR161_0, kR161_1, kL162, kA162, kS162, kL163, kA163, kS163, kC165, kG165, kP165, kR165_0, kR165_1, kR165_2, kR165_3, kL166, kA166, kS166, kL167, kA167, kS167, kL168, kA168, kS168, kL169, kA169, kS169, kC170, kG170, kP170, kR170_0, kR170_1, kR170_2, kL171, kA171, kS171, kL172, kA172, kS172, kL173, kA173, kS173, kC174, kG174, kP174, kR174_0, kR174_1, kR174_2, kR174_3, kR174_4, kL175, kA175, kS175, kL176, kA176, kS176, kL177, kA177, kS177, kL178, kA178, kS178, kL179, kC180, kG180, kP180, kL181, kL182, kA182, kS182, kC183, kG183, kP183, kR183_1, kR183_3, kR183_5, kR183_6, kR183_7, kR183_8, kR183_9, kR183_21, kR183_26, kR183_27, kR183_30, kR183_31, kR183_33, kR183_34, kR183_36, kR183_37, kR183_38, kR183_39, kR183_40, kR183_41, kR183_42, kR183_43, kR183_44, kL184, kA184, kS184, kL185, kA185, kS185, kL186, kA186, kS186, kL187, kA187, kS187, kL188, kA188, kS188, kL189, kL190, kL191, kA191, kS191, kL192, kA192, kS192, kL193, kA193, kS193, kL194, kA194, kS194, kL195, kA195, kS195, kL196, kA196, kS196, kL197, kA197, kS197, kL198, kA198, kS198, kL199, kA199, kS199, kL200, kA200, kS200, kL201, kL202, kA202, kS202, kL203, kA203, kS203, kL204, kA204, kS204, kL205, kL206, kA206, kS206, hG.2.2.1]
      rcases inN_f (by omega) (Bool.not_eq_true _ ▸ hx1) with q | ⟨i, hi, rfl, hge⟩
      · rw [if_pos q]; rfl
      · rw [if_neg (nI_pos (by omega)), if_pos (by rw [nn_le (by omega) (by omega)]; omega)]; rfl
    · show f_X12_rows (xw σ (xI σ)) 183 x y z = _
      unfold f_X12_rows
      have in1 := inN_in (N := g.2.1) (by omega) x
      have hx2 : inN g.2.1 x = false := Bool.not_eq_true _ ▸ hx1
      rw [hx2, if_neg (by decide)] at in1
      simp (disch := first | assumption | omega) only [Option.bind_some, Option.map_some, xw_gR, xw_gN, xw_al, xw_ck, xw_uI, xw_ur, xup_at, xur_at, if_true, if_false, reduceIte, and_true, true_and, and_false, false_and, not_true_eq_false, not_false_eq_true, Nat.reduceEqDiff, eq_self, Nat.reduceAdd, Nat.reduceMul, kC1, kG1, kP1, kR1_0, kR1_1, kR1_2, kR1_3, kR1_4, kR1_5, kR1_6, kR1_7, kR1_8, kR1_9, kR1_10, kR1_11, kR1_12, kR1_13, kC2, kG2, kP2, kR2_0, kR2_1, kC3, kG3, kP3, kR3_0, kR3_1, kR3_2, kR3_3, kL4, kA4, kS4, kL5, kA5, kS5, kL6, kA6, kS6, kL7, kA7, kS7, kC8, kG8, kP8, kR8_0, kR8_1, kL9, kA9, kS9, kL10, kA10, kS10, kC11, kG11, kP11, kR11_0, kR11_1, kR11_2, kR11_3, kL12, kA12, kS12, kL13, kA13, kS13, kL14, kA14, kS14, kL15, kA15, kS15, kC16, kG16, kP16, kR16_0, kR16_1, kL17, kA17, kS17, kL18, kA18, kS18, kC19, kG19, kP19, kR19_0, kL20, kL141, kL146, kA146, kS146, kL151, kA151, kS151, kL156, kA156, kS156, kC157, kG157, kP157, kR157_0, kR157_1, kL158, kA158, kS158, kL159, kA159, kS159, kC161, kG161, kP161, kR161_0, kR161_1, kL162, kA162, kS162, kL163, kA163, kS163, kC165, kG165, kP165, kR165_0, kR165_1, kR165_2, kR165_3, kL166, kA166, kS166, kL167, kA167, kS167, kL168, kA168, kS168, kL169, kA169, kS169, kC170, kG170, kP170, kR170_0, kR170_1, kR170_2, kL171, kA171, kS171, kL172, kA172, kS172, kL173, kA173, kS173, kC174, kG174, kP174, kR174_0, kR174_1, kR174_2, kR174_3, kR174_4, kL175, kA175, kS175, kL176, kA176, kS176, kL177, kA177, kS177, kL178, kA178, kS178, kL179, kC180, kG180, kP180, kL181, kL182, kA182, kS182, kC183, kG183, kP183, kR183_1, kR183_3, kR183_5, kR183_6, kR183_7, kR183_8, kR183_9, kR183_21, kR183_26, kR183_27, kR183_30, kR183_31, kR183_33, kR183_34, kR183_36, kR183_37, kR183_38, kR183_39, kR183_40, kR183_41, kR183_42, kR183_43, kR183_44, kL184, kA184, kS184, kL185, kA185, kS185, kL186, kA186, kS186, kL187, kA187, kS187, kL188, kA188, kS188, kL189, kL190, kL191, kA191, kS191, kL192, kA192, kS192, kL193, kA193, kS193, kL194, kA194, kS194, kL195, kA195, kS195, kL196, kA196, kS196, kL197, kA197, kS197, kL198, kA198, kS198, kL199, kA199, kS199, kL200, kA200, kS200, kL201, kL202, kA202, kS202, kL203, kA203, kS203, kL204, kA204, kS204, kL205, kL206, kA206, kS206, hG.2.2.2.2.2.2.2.2.2.1, in1]
