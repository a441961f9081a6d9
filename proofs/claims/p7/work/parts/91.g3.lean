/-! the model's meaning: what is wrong, what all sites get -/
def MB (J0 : Nat → Nat → Int32) (b : Nat → Int32) (m T : Nat) : Prop := OKT b m T ∧ TKM J0 b m (T + 1) ∧ J0 183 10 = nI (T + 1) ∧ J0 183 12 = 0 ∧ m ≤ 2000
def MF (J0 J : Nat → Nat → Int32) : Prop := ∀ a q, a ≠ 192 → ¬ (a = 183 ∧ (q = 14 ∨ q = 15 ∨ (22 ≤ q ∧ q ≤ 25))) → J a q = J0 a q
def MW (J : Nat → Nat → Int32) (b : Nat → Int32) (m : Nat) (W : Nat → Nat → Prop) : Prop := (J 183 14 = 0 ∧ ∀ c j, ¬ W c j) ∨ ∃ c j, W c j ∧ 0 < c ∧ c < 5 ∧ J 183 14 = nI c ∧ J 183 15 = nI (tSt b m j) ∧ ∀ c' j', W c' j' → tSt b m j < tSt b m j' ∨ (tSt b m j = tSt b m j' ∧ c ≤ c')
theorem MW_c {J J' : Nat → Nat → Int32} {b : Nat → Int32} {m : Nat} {W W' : Nat → Nat → Prop} (h4 : J' 183 14 = J 183 14) (h5 : J' 183 15 = J 183 15) (hW : ∀ c j, W' c j ↔ W c j) (h : MW J b m W) : MW J' b m W' := by
  have e : W' = W := by funext c j; exact propext (hW c j)
  rw [e]
  unfold MW
  rw [h4, h5]
  exact h
section MM
variable {τ : XS} {J0 J : Nat → Nat → Int32} {b : Nat → Int32} {m T : Nat} {W : Nat → Nat → Prop}
theorem mK (hB : MB J0 b m T) (hF : MF J0 J) {k : Nat} (hk : k ≤ T) : KMr (tKd b m k) (J 186 k) ∧ J 187 k = nI (tSt b m k) ∧ (tKd b m k = 2 → J 188 k = nI (tNu b m k)) := by
  rw [hF 186 k (by omega) (by omega), hF 187 k (by omega) (by omega), hF 188 k (by omega) (by omega)]
  exact hB.2.1 k (by omega)
theorem mKe (hB : MB J0 b m T) (hF : MF J0 J) {k k' : Nat} (hk : k ≤ T) (hk' : k' ≤ 15) (h1 : k' ≠ 1) : (J 186 k = nI (kmN k')) = (tKd b m k = k') := KMr_eq (mK hB hF hk).1 (tKd_b k) hk' h1
theorem wrong_ok (hS : Shp τ) (hB : MB J0 b m T) (hF : MF J0 J) (hW : MW J b m W) {c j : Nat} (hc : 0 < c) (hc5 : c < 5) (hj : j ≤ T) : ∃ J', f_X12_wrong (xw τ J) 183 (nI c) (nI j) = some (xw τ J') ∧ MW J' b m (fun c' j' => W c' j' ∨ (c' = c ∧ j' = j)) ∧ ∀ a q, ¬ (a = 183 ∧ (q = 14 ∨ q = 15)) → J' a q = J a q := by
  have hT := hB.1.2.1
  have hm := hB.2.2.2.2
  have vp := (mK hB hF hj).2.1
  have v12 : J 183 12 = 0 := by rw [hF _ _ (by omega) (by omega)]; exact hB.2.2.2.1
  have j403 : j < 403 := by omega
  have sb := (tSt_b (b := b) (m := m) j).2
  have z0 : ((0 : Int32) < 0) = False := eq_false (by decide)
  obtain ⟨S1, hS1⟩ : ∃ S1, S1 = xup (xup J 183 14 (nI c)) 183 15 (nI (tSt b m j)) := ⟨_, rfl⟩
  have j46 : f_X12_wrong_j46 (xw τ J) 183 (nI c) (nI (tSt b m j)) = some (xw τ S1) := by
    unfold f_X12_wrong_j46
    simp (disch := first | assumption | omega) only [Option.bind_some, Option.map_some, xw_gR, xw_gN, xw_al, xw_ck, xw_uI, xw_ur, xup_at, xur_at, if_true, if_false, reduceIte, and_true, true_and, and_false, false_and, not_true_eq_false, not_false_eq_true, Nat.reduceEqDiff, eq_self, Nat.reduceAdd, Nat.reduceMul, kC1, kG1, kP1, kR1_0, kR1_1, kR1_2, kR1_3, kR1_4, kR1_5, kR1_6, kR1_7, kR1_8, kR1_9, kR1_10, kR1_11, kR1_12, kR1_13, kC2, kG2, kP2, kR2_0, kR2_1, kC3, kG3, kP3, kR3_0, kR3_1, kR3_2, kR3_3, kL4, kA4, kS4, kL5, kA5, kS5, kL6, kA6, kS6, kL7, kA7, kS7, kC8, kG8, kP8, kR8_0, kR8_1, kL9, kA9, kS9, kL10, kA10, kS10, kC11, kG11, kP11, kR11_0, kR11_1, kR11_2, kR11_3, kL12, kA12, kS12, kL13, kA13, kS13, kL14, kA14, kS14, kL15, kA15, kS15, kC16, kG16, kP16, kR16_0, kR16_1, kL17, kA17, kS17, kL18, kA18, kS18, kC19, kG19, kP19, kR19_0, kL20, kL141, kL146, kA146, kS146, kL151, kA151, kS151, kL156, kA156, kS156, kC157, kG157, kP157, kR157_0, kR157_1, kL158, kA158, kS158, kL159, kA159, kS159, kC161, kG161, kP161, kR161_0, kR161_1, kL162, kA162, kS162, kL163, kA163, kS163, kC165, kG165, kP165, kR165_0, kR165_1, kR165_2, kR165_3, kL166, kA166, kS166, kL167, kA167, kS167, kL168, kA168, kS168, kL169, kA169, kS169, kC170, kG170, kP170, kR170_0, kR170_1, kR170_2, kL171, kA171, kS171, kL172, kA172, kS172, kL173, kA173, kS173, kC174, kG174, kP174, kR174_0, kR174_1, kR174_2, kR174_3, kR174_4, kL175, kA175, kS175, kL176, kA176, kS176, kL177, kA177, kS177, kL178, kA178, kS178, kL179, kC180, kG180, kP180, kL181, kL182, kA182, kS182, kC183, kG183, kP183, kR183_1, kR183_3, kR183_5, kR183_6, kR183_7, kR183_8, kR183_9, kR183_21, kR183_26, kR183_27, kR183_30, kR183_31, kR183_33, kR183_34, kR183_36, kR183_37, kR183_38, kR183_39, kR183_40, kR183_41, kR183_42, kR183_43, kR183_44, kL184, kA184, kS184, kL185, kA185, kS185, kL186, kA186, kS186, kL187, kA187, kS187, kL188, kA188, kS188, kL189, kL190, kL191, kA191, kS191, kL192, kA192, kS192, kL193, kA193, kS193, kL194, kA194, kS194, kL195, kA195, kS195, kL196, kA196, kS196, kL197, kA197, kS197, kL198, kA198, kS198, kL199, kA199, kS199, kL200, kA200, kS200, kL201, kL202, kA202, kS202, kL203, kA203, kS203, kL204, kA204, kS204, kL205, kL206, kA206, kS206, ← hS1]
  have s14 : S1 183 14 = nI c := by rw [hS1, xup_at, if_neg (by omega), xup_at, if_pos ⟨rfl, rfl⟩]
  have s15 : S1 183 15 = nI (tSt b m j) := by rw [hS1, xup_at, if_pos ⟨rfl, rfl⟩]
  have uS : ∀ a q, ¬ (a = 183 ∧ (q = 14 ∨ q = 15)) → S1 a q = J a q := fun a q h => by rw [hS1, xup_at, if_neg (by omega), xup_at, if_neg (by omega)]
  -- it becomes the worst
  have set : (∀ c' j', W c' j' → tSt b m j < tSt b m j' ∨ (tSt b m j = tSt b m j' ∧ c ≤ c')) → MW S1 b m (fun c' j' => W c' j' ∨ (c' = c ∧ j' = j)) := fun h => .inr ⟨c, j, .inr ⟨rfl, rfl⟩, hc, hc5, s14, s15, fun c' j' hh => by
    rcases hh with z | ⟨z1, z2⟩
    · exact h c' j' z
    · rw [z1, z2]; exact .inr ⟨rfl, Nat.le_refl _⟩⟩
  unfold f_X12_wrong
  rw [xw_gR, kR183_6 hS, Option.bind_some, kA187 hS j403, Option.bind_some, vp, kG183 hS, Option.bind_some, v12, if_neg (by decide), kG183 hS, Option.bind_some]
  rcases hW with ⟨w1, w2⟩ | ⟨c0, j0, w1, w2, w3, w4, w5, w6⟩
  · rw [w1, if_pos rfl, j46]
    exact ⟨S1, rfl, set (fun c' j' h => absurd h (w2 c' j')), uS⟩
  · have sb0 := (tSt_b (b := b) (m := m) j0).2
    have q1 : (nI (tSt b m j0) < nI (tSt b m j)) = (tSt b m j0 < tSt b m j) := nn_lt (by omega) (by omega)
    have q2 : (nI (tSt b m j) = nI (tSt b m j0)) = (tSt b m j = tSt b m j0) := nn_eq (by omega) (by omega)
    have q3 : (nI c < nI c0) = (c < c0) := nn_lt (by omega) (by omega)
    have keep : (tSt b m j0 < tSt b m j ∨ (tSt b m j0 = tSt b m j ∧ c0 ≤ c)) → MW J b m (fun c' j' => W c' j' ∨ (c' = c ∧ j' = j)) := fun h => .inr ⟨c0, j0, .inl w1, w2, w3, w4, w5, fun c' j' hh => by
      rcases hh with z | ⟨z1, z2⟩
      · exact w6 c' j' z
      · rw [z1, z2]; exact h⟩
    rw [w4, if_neg (nI_ne0 (by omega) (by omega)), kG183 hS, Option.bind_some, w5]
    simp only [q1]
    by_cases h1 : tSt b m j0 < tSt b m j
    · rw [if_pos h1]
      exact ⟨J, rfl, keep (.inl h1), fun _ _ _ => rfl⟩
    · rw [if_neg h1]
      simp only [Option.bind_some, q2, kG183 hS, w5, w4, q3]
      by_cases h2 : tSt b m j = tSt b m j0
      · rw [if_pos h2]
        by_cases h3 : c < c0
        · rw [if_pos h3, j46]
          refine ⟨S1, rfl, set (fun c' j' h => ?_), uS⟩
          have := w6 c' j' h
          omega
        · rw [if_neg h3]
          exact ⟨J, rfl, keep (.inr ⟨h2.symm, by omega⟩), fun _ _ _ => rfl⟩
      · rw [if_neg h2, j46]
        refine ⟨S1, rfl, set (fun c' j' h => ?_), uS⟩
        have := w6 c' j' h
        omega
theorem jAt_ok (hS : Shp τ) (hB : MB J0 b m T) (hF : MF J0 J) (hW : MW J b m W) {t : Nat} (hJ : isJt b m t) (ht : t + jlT b m t ≤ T) : ∃ J', f_X12_jAt (xw τ J) 183 (nI t) = some (iI (jvT b m t), xw τ J') ∧ MW J' b m (fun c j => W c j ∨ (3 < tNu b m (jnT b m t) ∧ c = 3 ∧ j = jnT b m t)) ∧ ∀ a q, ¬ (a = 183 ∧ (q = 14 ∨ q = 15)) → J' a q = J a q := by
  have hT := hB.1.2.1
  have jl1 : 1 ≤ jlT b m t := by unfold jlT; split <;> omega
  have jnb := jn_b (b := b) (m := m) t
  obtain ⟨n, hn⟩ : ∃ n, n = jnT b m t := ⟨_, rfl⟩
  rw [← hn] at jnb ⊢
  have kn : tKd b m n = 2 := by
    rw [hn]; unfold jnT
    rcases hJ with ⟨a1, a2⟩ | a1
    · rw [if_pos a1]; exact a2
    · rw [if_neg (by omega)]; exact a1
  have nv := tNu_b kn
  have n403 : n < 403 := by omega
  have t403 : t < 403 := by omega
  have q5 : ∀ J1, MF J0 J1 → (J1 186 t = (5 : Int32)) = (tKd b m t = 3) := fun J1 h => mKe (k' := 3) hB h (by omega) (by omega) (by omega)
  have v8 : ∀ J1, MF J0 J1 → J1 188 n = nI (tNu b m n) := fun J1 h => (mK hB h (by omega)).2.2 kn
  have j34 : ∀ J1, MF J0 J1 → f_X12_jAt_j34 (xw τ J1) 183 (nI t) (nI n) = some (iI (jvT b m t), xw τ J1) := fun J1 h => by
    unfold f_X12_jAt_j34
    simp only [xw_gR, kR183_5 hS, kR183_7 hS, Option.bind_some, kA186 hS t403, kA188 hS n403, v8 J1 h, q5 J1 h]
    unfold jvT
    by_cases z : tKd b m t = 3
    · have en : n = t + 1 := by rw [hn]; unfold jnT; rw [if_pos z]
      rw [if_pos z, if_pos z, ← en, iI_n, iI_neg]
    · have en : n = t := by rw [hn]; unfold jnT; rw [if_neg z]
      rw [if_neg z, if_neg z, ← en, iI_n]
  have j17 : f_X12_jAt (xw τ J) 183 (nI t) = f_X12_jAt_j17 (xw τ J) 183 (nI t) (nI n) := by
    unfold f_X12_jAt
    rw [xw_gR, kR183_5 hS, Option.bind_some, kA186 hS t403, Option.bind_some]
    simp only [q5 J hF]
    by_cases z : tKd b m t = 3
    · have en : n = t + 1 := by rw [hn]; unfold jnT; rw [if_pos z]
      rw [if_pos z, en, nI_succ]
    · have en : n = t := by rw [hn]; unfold jnT; rw [if_neg z]
      rw [if_neg z, en]
  have q3 : (nI (tNu b m n) ≤ (3 : Int32)) = (tNu b m n ≤ 3) := by rw [show (3 : Int32) = nI 3 from rfl, nn_le (by omega) (by omega)]
  rw [j17]
  unfold f_X12_jAt_j17
  rw [xw_gR, kR183_7 hS, Option.bind_some, kA188 hS n403, Option.bind_some, v8 J hF]
  simp only [q3]
  by_cases h3 : tNu b m n ≤ 3
  · rw [if_pos h3, j34 J hF]
    refine ⟨J, rfl, MW_c rfl rfl (fun c j => ⟨fun z => z.elim id (fun y => by omega), .inl⟩) hW, fun _ _ _ => rfl⟩
  · rw [if_neg h3]
    obtain ⟨J', e, w, u⟩ := wrong_ok (τ := τ) hS hB hF hW (c := 3) (j := n) (by omega) (by omega) (by omega)
    have e : f_X12_wrong (xw τ J) 183 (3 : Int32) (nI n) = some (xw τ J') := e
    have hF' : MF J0 J' := fun a q h1 h2 => by rw [u a q (by omega)]; exact hF a q h1 h2
    rw [xw_ck, kC183 hS, Option.bind_some, e, Option.bind_some, j34 J' hF']
    refine ⟨J', rfl, MW_c rfl rfl (fun c j => ⟨fun z => z.elim .inl (fun y => .inr ⟨y.2.1, y.2.2⟩), fun z => z.elim .inl (fun y => .inr ⟨by omega, y.1, y.2⟩)⟩) w, u⟩
/-- the new row behind the first pass -/
def FR1 (J : Nat → Nat → Int32) (b : Nat → Int32) (m k : Nat) : Prop := (∀ i, i < 16 → J 192 i = iI (aLL b m 6 k) ∧ J 192 (16 + i) = iI (aLL b m 7 k) ∧ J 192 (32 + i) = iI (aLL b m 8 k) ∧ J 192 (48 + i) = 0) ∧ J 192 64 = 0 ∧ J 192 65 = nI (sDD b m k)
theorem fold_at {α : Type} {x0 : α} {f : Nat → α → α} {k : Nat} (h : lsB b m k = true) : foldL b m x0 f (k + 1) = f k (foldL b m x0 f k) := by rw [foldL, if_pos h]
theorem fold_no {α : Type} {x0 : α} {f : Nat → α → α} {k : Nat} (h : lsB b m k = false) : foldL b m x0 f (k + 1) = foldL b m x0 f k := by rw [foldL, h, if_neg (by decide)]
theorem all16 (hS : Shp τ) {at_ : Nat} (ha : at_ + 16 ≤ 66) (v : Int32) : xloop (f_X12_meansAll_b105 183 (nI at_) v) ((0 : Int32), xw τ J) = some (xw τ (fun a q => if a = 192 ∧ at_ ≤ q ∧ q < at_ + 16 then v else J a q)) := by
  refine xforE (fun i : Nat => (nI i, xw τ (fun a q => if a = 192 ∧ at_ ≤ q ∧ q < at_ + i then v else J a q))) 16 ?_ (fun i hi => ?_) ?_
  · have : (fun a q => if a = 192 ∧ at_ ≤ q ∧ q < at_ + 0 then v else J a q) = J := by
      funext a q
      rw [if_neg (by omega)]
    simp only [this]
    rfl
  · have q1 : ((16 : Int32) ≤ nI i) = False := by rw [show (16 : Int32) = nI 16 from rfl, nn_le (by omega) (by omega)]; exact eq_false (by omega)
    have e : xup (fun a q => if a = 192 ∧ at_ ≤ q ∧ q < at_ + i then v else J a q) 192 (at_ + i) v = fun a q => if a = 192 ∧ at_ ≤ q ∧ q < at_ + (i + 1) then v else J a q := by
      funext a q
      rw [xup_at]
      by_cases z : a = 192 ∧ q = at_ + i
      · rw [if_pos z, if_pos (by omega)]
      · rw [if_neg z]
        by_cases y : a = 192 ∧ at_ ≤ q ∧ q < at_ + i
        · rw [if_pos y, if_pos (by omega)]
        · rw [if_neg y, if_neg (by omega)]
    simp only [f_X12_meansAll_b105]
    rw [if_neg (by rw [q1]; exact id), xw_gR, kR183_26 hS, Option.bind_some, nn_add, kS192 hS (by omega), Option.bind_some, e, nI_succ]
  · simp only [f_X12_meansAll_b105]
    rw [if_pos (by decide)]
    rfl
theorem meansAll_ok (hS : Shp τ) (hB : MB J0 b m T) (hF : MF J0 J) (hW : MW J b m W) {k : Nat} (hk4 : 4 ≤ k) (hkT : k ≤ T) (hl : lsB b m k = true) (hR : FR1 J b m k) : ∃ J', f_X12_meansAll (xw τ J) 183 (nI k) = some (xw τ J') ∧ MF J0 J' ∧ MW J' b m (fun c j => W c j ∨ ((tKd b m k = 6 ∨ tKd b m k = 7 ∨ tKd b m k = 8) ∧ 3 < tNu b m (jnT b m (k + 1)) ∧ c = 3 ∧ j = jnT b m (k + 1))) ∧ FR1 J' b m (k + 1) ∧ ∀ q, 22 ≤ q → q ≤ 25 → J' 183 q = J 183 q := by
  have hT := hB.1
  have T400 := hT.2.1
  have k403 : k < 403 := by omega
  have q30 : ∀ J1, MF J0 J1 → (J1 186 k = (30 : Int32)) = (tKd b m k = 15) := fun J1 h => mKe (k' := 15) hB h hkT (by omega) (by omega)
  have q21 : ∀ J1, MF J0 J1 → (J1 186 k = (21 : Int32)) = (tKd b m k = 6) := fun J1 h => mKe (k' := 6) hB h hkT (by omega) (by omega)
  have q22 : ∀ J1, MF J0 J1 → (J1 186 k = (22 : Int32)) = (tKd b m k = 7) := fun J1 h => mKe (k' := 7) hB h hkT (by omega) (by omega)
  have q23 : ∀ J1, MF J0 J1 → (J1 186 k = (23 : Int32)) = (tKd b m k = 8) := fun J1 h => mKe (k' := 8) hB h hkT (by omega) (by omega)
  have hws := (ls_ws hT hk4 hkT).mp hl
  have eA : ∀ c, aLL b m c (k + 1) = if tKd b m k = c then jvT b m (k + 1) else aLL b m c k := fun c => fold_at hl
  have eS : sDD b m (k + 1) = if tKd b m k = 15 then tNu b m (k + 1) else sDD b m k := fold_at hl
  obtain ⟨r1, r2, r3⟩ := hR
  -- the second half, whatever the first did
  have half : ∀ J1, MF J0 J1 → (∀ a q, ¬ (a = 192 ∧ q = 65) → J1 a q = J a q) → J1 192 65 = nI (sDD b m (k + 1)) → ∃ J', f_X12_meansAll_j26 (xw τ J1) 183 (nI k) = some (xw τ J') ∧ MF J0 J' ∧ MW J' b m (fun c j => W c j ∨ ((tKd b m k = 6 ∨ tKd b m k = 7 ∨ tKd b m k = 8) ∧ 3 < tNu b m (jnT b m (k + 1)) ∧ c = 3 ∧ j = jnT b m (k + 1))) ∧ FR1 J' b m (k + 1) ∧ ∀ q, 22 ≤ q → q ≤ 25 → J' 183 q = J 183 q := by
    intro J1 hF1 u1 s1
    have hW1 : MW J1 b m W := MW_c (u1 _ _ (by omega)) (u1 _ _ (by omega)) (fun _ _ => Iff.rfl) hW
    by_cases hk : tKd b m k = 6 ∨ tKd b m k = 7 ∨ tKd b m k = 8
    · have hlt : k < T := by
        rcases Nat.lt_or_ge k T with z | z
        · exact z
        · have : k = T := by omega
          rw [this, hT.2.2] at hk; omega
      have hJ : isJt b m (k + 1) := by
        rcases (line_at hT hws hlt).1 with ⟨-, h⟩ | ⟨h, -⟩ | ⟨h, -⟩ | ⟨h, -⟩ | ⟨h, -⟩ | ⟨h, -⟩
        · exact h
        all_goals omega
      have hend : k + 1 + jlT b m (k + 1) ≤ T := by
        have h1 := (line_at hT hws hlt).2.2.2.1
        unfold lnE at h1
        rw [if_neg (by omega), if_neg (by omega), if_neg (by omega), if_neg (by omega)] at h1
        omega
      obtain ⟨J2, e2, w2, u2⟩ := jAt_ok (τ := τ) hS hB hF1 hW1 hJ hend
      obtain ⟨at_, hat⟩ : ∃ at_, at_ = if tKd b m k = 6 then 0 else if tKd b m k = 7 then 16 else 32 := ⟨_, rfl⟩
      have at48 : at_ + 16 ≤ 48 := by rw [hat]; split; omega; split <;> omega
      have al := all16 (τ := τ) (J := J2) hS (show at_ + 16 ≤ 66 by omega) (iI (jvT b m (k + 1)))
      obtain ⟨J3, hJ3⟩ : ∃ J3 : Nat → Nat → Int32, J3 = fun a q => if a = 192 ∧ at_ ≤ q ∧ q < at_ + 16 then iI (jvT b m (k + 1)) else J2 a q := ⟨_, rfl⟩
      rw [← hJ3] at al
      have j93 : f_X12_meansAll_j93 (xw τ J1) 183 (nI k) (nI at_) = some (xw τ J3) := by
        unfold f_X12_meansAll_j93
        rw [xw_ck, kC183 hS, Option.bind_some, ← nI_succ, e2, Option.bind_some]
        exact al
      have j60 : f_X12_meansAll_j60 (xw τ J1) 183 (nI k) = some (xw τ J3) := by
        unfold f_X12_meansAll_j60
        simp only [xw_gR, kR183_5 hS, Option.bind_some, kA186 hS k403, q21 J1 hF1, q22 J1 hF1]
        rw [hat] at j93
        by_cases z1 : tKd b m k = 6
        · rw [if_pos z1] at j93 ⊢; exact j93
        · rw [if_neg z1] at j93 ⊢
          by_cases z2 : tKd b m k = 7
          · rw [if_pos z2] at j93 ⊢; exact j93
          · rw [if_neg z2] at j93 ⊢; exact j93
      have u3 : ∀ a q, ¬ (a = 192 ∧ at_ ≤ q ∧ q < at_ + 16) → J3 a q = J2 a q := fun a q h => by
        rw [hJ3]
        show (if a = 192 ∧ at_ ≤ q ∧ q < at_ + 16 then _ else J2 a q) = _
        rw [if_neg h]
      have i3 : ∀ q, at_ ≤ q → q < at_ + 16 → J3 192 q = iI (jvT b m (k + 1)) := fun q h1 h2 => by
        rw [hJ3]
        show (if 192 = 192 ∧ at_ ≤ q ∧ q < at_ + 16 then _ else J2 192 q) = _
        rw [if_pos ⟨rfl, h1, h2⟩]
      have old : ∀ q, q < 65 → J2 192 q = J 192 q := fun q hq => by rw [u2 _ _ (by omega)]; exact u1 _ _ (by omega)
      refine ⟨J3, ?_, fun a q h1 h2 => by rw [u3 a q (by omega), u2 a q (by omega)]; exact hF1 a q h1 h2, ?_, ⟨fun i hi => ?_, ?_, ?_⟩, fun q h1 h2 => by rw [u3 _ _ (by omega), u2 _ _ (by omega)]; exact u1 _ _ (by omega)⟩
      · unfold f_X12_meansAll_j26
        simp only [xw_gR, kR183_5 hS, Option.bind_some, kA186 hS k403, j60, q21 J1 hF1, q22 J1 hF1, q23 J1 hF1]
        by_cases z1 : tKd b m k = 6
        · rw [if_pos z1]
        · rw [if_neg z1]
          by_cases z2 : tKd b m k = 7
          · rw [if_pos z2]
          · rw [if_neg z2, if_pos (by omega)]
      · refine MW_c (u3 _ _ (by omega)) (u3 _ _ (by omega)) (fun c j => ?_) w2
        constructor
        · rintro (z | ⟨-, z⟩)
          · exact .inl z
          · exact .inr z
        · rintro (z | z)
          · exact .inl z
          · exact .inr ⟨hk, z⟩
      · obtain ⟨o1, o2, o3, o4⟩ := r1 i hi
        rw [eA, eA, eA]
        rcases hk with z | z | z
        · have ea : at_ = 0 := by rw [hat, if_pos z]
          rw [if_pos z, if_neg (by omega), if_neg (by omega)]
          refine ⟨i3 i (by omega) (by omega), ?_, ?_, ?_⟩
          · rw [u3 _ _ (by omega), old _ (by omega)]; exact o2
          · rw [u3 _ _ (by omega), old _ (by omega)]; exact o3
          · rw [u3 _ _ (by omega), old _ (by omega)]; exact o4
        · have ea : at_ = 16 := by rw [hat, if_neg (by omega), if_pos z]
          rw [if_neg (by omega), if_pos z, if_neg (by omega)]
          refine ⟨?_, i3 _ (by omega) (by omega), ?_, ?_⟩
          · rw [u3 _ _ (by omega), old _ (by omega)]; exact o1
          · rw [u3 _ _ (by omega), old _ (by omega)]; exact o3
          · rw [u3 _ _ (by omega), old _ (by omega)]; exact o4
        · have ea : at_ = 32 := by rw [hat, if_neg (by omega), if_neg (by omega)]
          rw [if_neg (by omega), if_neg (by omega), if_pos z]
          refine ⟨?_, ?_, i3 _ (by omega) (by omega), ?_⟩
          · rw [u3 _ _ (by omega), old _ (by omega)]; exact o1
          · rw [u3 _ _ (by omega), old _ (by omega)]; exact o2
          · rw [u3 _ _ (by omega), old _ (by omega)]; exact o4
      · rw [u3 _ _ (by omega), old _ (by omega)]; exact r2
      · rw [u3 _ _ (by omega), u2 _ _ (by omega)]; exact s1
    · refine ⟨J1, ?_, hF1, MW_c rfl rfl (fun c j => ⟨fun z => z.elim id (fun y => absurd y.1 hk), .inl⟩) hW1, ⟨fun i hi => ?_, ?_, s1⟩, fun q h1 h2 => u1 _ _ (by omega)⟩
      · unfold f_X12_meansAll_j26
        simp only [xw_gR, kR183_5 hS, Option.bind_some, kA186 hS k403, q21 J1 hF1, q22 J1 hF1, q23 J1 hF1]
        rw [if_neg (by omega), if_neg (by omega), if_neg (by omega)]
      · obtain ⟨o1, o2, o3, o4⟩ := r1 i hi
        rw [eA, eA, eA, if_neg (by omega), if_neg (by omega), if_neg (by omega), u1 _ _ (by omega), u1 _ _ (by omega), u1 _ _ (by omega), u1 _ _ (by omega)]
        exact ⟨o1, o2, o3, o4⟩
      · rw [u1 _ _ (by omega)]; exact r2
  unfold f_X12_meansAll
  rw [xw_gR, kR183_5 hS, Option.bind_some, kA186 hS k403, Option.bind_some]
  simp only [q30 J hF]
  by_cases hk : tKd b m k = 15
  · have hlt : k < T := by
      rcases Nat.lt_or_ge k T with z | z
      · exact z
      · have : k = T := by omega
        rw [this, hT.2.2] at hk; omega
    have hk1 : tKd b m (k + 1) = 2 := by
      rcases (line_at hT hws hlt).1 with ⟨h, -⟩ | ⟨h, -⟩ | ⟨h, -⟩ | ⟨h, -⟩ | ⟨h, -⟩ | ⟨-, h⟩
      all_goals first
        | exact h
        | omega
    have v8 := (mK hB hF (show k + 1 ≤ T by omega)).2.2 hk1
    rw [if_pos hk, xw_gR, kR183_26 hS, Option.bind_some, xw_gR, kR183_7 hS, Option.bind_some, ← nI_succ, kA188 hS (by omega), Option.bind_some, v8, show (65 : Int32) = nI 65 from rfl, kS192 hS (by omega), Option.bind_some]
    exact half _ (fun a q h1 h2 => by rw [xup_at, if_neg (by omega)]; exact hF a q h1 h2) (fun a q h => by rw [xup_at, if_neg h]) (by rw [xup_at, if_pos ⟨rfl, rfl⟩, eS, if_pos hk])
  · rw [if_neg hk]
    exact half J hF (fun _ _ _ => rfl) (by rw [eS, if_neg hk]; exact r3)
end MM
