/-! the energies that are kept -/
theorem eE_congr {g : GD} (hg : g ∈ gAll) {F F' : Nat → Int32} (h : ∀ k, k < 48 → F' k = F k) : eE g (zR F') = eE g (zR F) := by
  have h16 := (gAll_b g hg).2.2.1
  funext s
  unfold eE
  congr 1
  · apply fb_si_cong
    intro t ht
    unfold eT zR
    split
    · rfl
    · rw [h t (by omega)]
  · apply fb_si_cong
    intro t ht
    unfold eH zR
    rw [h (32 + t) (by omega)]
theorem IV.cache {n : Nat} {σ τ : XS} {g : GD} {gT gP : GH} {st : Nat} (H : IV n σ g gT gP st) (hS : Shp τ) (u : ∀ a k, (a < 157 ∨ a = 173 ∨ (183 ≤ a ∧ a ≤ 206)) → xI τ a k = xI σ a k) (hC : CCH (xI τ) (xR τ) (xlen τ) gT gP st) (hL : CEL τ.1 (xR τ) (xn τ) (xz τ) (xL τ)) : IV n τ g gT gP st := by
  have hg := H.grd.1
  refine ⟨hS, H.stn, (u 1 15 (by omega)).trans H.sts, TAP_c (fun a k q => u a k (by unfold sTAP at q; omega)) H.tap, ?_, GRD_c (fun a k q => u a k (by unfold sGRD at q; omega)) H.grd, NOW_c hg (fun a k q => u a k (by unfold sNOW at q; omega)) H.now, PST_c hg (fun a k q => u a k (by unfold sPST at q; omega)) (Nat.le_refl _) (fun _ _ => rfl) (fun _ _ => rfl) H.pst, SLT_c hg (fun a k q => u a k (by unfold sSLT at q; omega)) (Nat.le_refl _) (fun _ _ => rfl) (fun _ _ => rfl) H.slt, hC, KNW_c hg (fun a k q => u a k (by unfold sKNW at q; omega)) H.knw, hL⟩
  rw [u _ _ (by omega), u _ _ (by omega)]; exact H.plc
theorem IV.en157 {n : Nat} {σ : XS} {g : GD} {gT gP : GH} {st : Nat} (H : IV n σ g gT gP st) : ∃ c a, EnO σ 157 c (2 ^ a) ∧ a ≤ 16 ∧ c ≤ xn σ := by
  obtain ⟨a, b, h1, h2, h3, h4, h5, h6, h7, h8, h9, h10, h11⟩ := H.cel
  have hp : 2 ^ a ≤ 2 ^ 16 := Nat.pow_le_pow_right (by decide) h1
  exact ⟨xR σ 157 4, a, ⟨.inl rfl, rfl, h3, by omega, h5⟩, h1, h8⟩
theorem IV.en161 {n : Nat} {σ : XS} {g : GD} {gT gP : GH} {st : Nat} (H : IV n σ g gT gP st) : ∃ c a, EnO σ 161 c (2 ^ a) ∧ a ≤ 16 ∧ c ≤ xn σ := by
  obtain ⟨a, b, h1, h2, h3, h4, h5, h6, h7, h8, h9, h10, h11⟩ := H.cel
  have hp : 2 ^ b ≤ 2 ^ 16 := Nat.pow_le_pow_right (by decide) h2
  exact ⟨xR σ 161 4, b, ⟨.inr rfl, rfl, h4, by omega, h6⟩, h2, h9⟩
theorem SR_fill {g : GD} {I : Nat → Nat → Int32} {a : Nat} {F : Nat → Int32} (hg : g ∈ gAll) (h : SR g I a F) (ho : RO g F) : (∀ t, t < 32 → (gTo g t).isSome = true → I (a + 1) t = iI (zR F t) ∧ -3 ≤ zR F t ∧ zR F t ≤ 3) ∧ ∀ i, i < gSz g → I (a + 2) i = iI (zR F (32 + i)) := by
  have h16 := (gAll_b g hg).2.2.1
  refine ⟨fun t ht he => ⟨?_, (ho.1 t (by omega)).1, (ho.1 t (by omega)).2⟩, fun i hi => ?_⟩
  · rw [h.1 t ht, if_pos he]; exact iI_of _
  · rw [h.2.1 i (by omega), if_pos hi]; exact iI_of _
theorem energiesNow_ok {n : Nat} {σ : XS} {g : GD} {gT gP : GH} {st : Nat} (hn : n ≤ 512) (H : IV n σ g gT gP st) : ∃ τ, f_X11_energiesNow σ 1 = some (157, τ) ∧ IV n τ g gT gP st ∧ ENK (xI τ) (xR τ) (xlen τ) 157 g (xI τ 191) ∧ (∀ b j, (b < 157 ∨ (161 ≤ b ∧ b ≤ 206)) → xI τ b j = xI σ b j) ∧ (∀ b j, b ≤ xn σ → xL τ b j = xL σ b j) := by
  have hS := H.shp
  have hG := H.grd
  have hg := hG.1
  have h16 := (gAll_b g hg).2.2.1
  obtain ⟨hSR, hRO, t, p, ht, hp, e6, e7, gt1, gt2, gp1, gp2⟩ := H.now
  have hst := H.stn
  have stp : f_X11_energiesNow σ 1 = if xI σ 157 5 = nI t then some (157, σ) else (f_X2_fill (xw σ (xI σ)) 157 11 17 18 (nI (gSz g))).bind fun σ27 => f_X11_energiesNow_j49 σ27 1 := by
    show f_X11_energiesNow (xw σ (xI σ)) 1 = _
    unfold f_X11_energiesNow
    simp (disch := first | assumption | omega) only [Option.bind_some, Option.map_some, xw_gR, xw_gN, xw_al, xw_ck, xw_uI, xw_ur, xup_at, xur_at, if_true, if_false, reduceIte, and_true, true_and, and_false, false_and, not_true_eq_false, not_false_eq_true, Nat.reduceEqDiff, eq_self, Nat.reduceAdd, Nat.reduceMul, kC1, kG1, kP1, kR1_0, kR1_1, kR1_2, kR1_3, kR1_4, kR1_5, kR1_6, kR1_7, kR1_8, kR1_9, kR1_10, kR1_11, kR1_12, kR1_13, kC2, kG2, kP2, kR2_0, kR2_1, kC3, kG3, kP3, kR3_0, kR3_1, kR3_2, kR3_3, kL4, kA4, kS4, kL5, kA5, kS5, kL6, kA6, kS6, kL7, kA7, kS7, kC8, kG8, kP8, kR8_0, kR8_1, kL9, kA9, kS9, kL10, kA10, kS10, kC11, kG11, kP11, kR11_0, kR11_1, kR11_2, kR11_3, kL12, kA12, kS12, kL13, kA13, kS13, kL14, kA14, kS14, kL15, kA15, kS15, kC16, kG16, kP16, kR16_0, kR16_1, kL17, kA17, kS17, kL18, kA18, kS18, kC19, kG19, kP19, kR19_0, kL20, kL141, kL146, kA146, kS146, kL151, kA151, kS151, kL156, kA156, kS156, kC157, kG157, kP157, kR157_0, kR157_1, kL158, kA158, kS158, kL159, kA159, kS159, kC161, kG161, kP161, kR161_0, kR161_1, kL162, kA162, kS162, kL163, kA163, kS163, kC165, kG165, kP165, kR165_0, kR165_1, kR165_2, kR165_3, kL166, kA166, kS166, kL167, kA167, kS167, kL168, kA168, kS168, kL169, kA169, kS169, kC170, kG170, kP170, kR170_0, kR170_1, kR170_2, kL171, kA171, kS171, kL172, kA172, kS172, kL173, kA173, kS173, kC174, kG174, kP174, kR174_0, kR174_1, kR174_2, kR174_3, kR174_4, kL175, kA175, kS175, kL176, kA176, kS176, kL177, kA177, kS177, kL178, kA178, kS178, kL179, kC180, kG180, kP180, kL181, kL182, kA182, kS182, kC183, kG183, kP183, kR183_1, kR183_3, kR183_5, kR183_6, kR183_7, kR183_8, kR183_9, kR183_21, kR183_26, kR183_27, kR183_30, kR183_31, kR183_33, kR183_34, kR183_36, kR183_37, kR183_38, kR183_39, kR183_40, kR183_41, kR183_42, kR183_43, kR183_44, kL184, kA184, kS184, kL185, kA185, kS185, kL186, kA186, kS186, kL187, kA187, kS187, kL188, kA188, kS188, kL189, kL190, kL191, kA191, kS191, kL192, kA192, kS192, kL193, kA193, kS193, kL194, kA194, kS194, kL195, kA195, kS195, kL196, kA196, kS196, kL197, kA197, kS197, kL198, kA198, kS198, kL199, kA199, kS199, kL200, kA200, kS200, kL201, kL202, kA202, kS202, kL203, kA203, kS203, kL204, kA204, kS204, kL205, kL206, kA206, kS206, e6, hG.2.2.2.2.1, xnz_ok]
    rfl
  rw [stp]
  by_cases hq : xI σ 157 5 = nI t
  · rw [if_pos hq]
    refine ⟨σ, rfl, H, ?_, fun _ _ _ => rfl, fun _ _ _ => rfl⟩
    rcases H.cch.1 with z | ⟨t', z1, z2, z3⟩
    · rw [hq] at z
      exact absurd z (by have := nn_m1 (a := t) (by omega); rw [this]; exact id)
    · have : t' = t := by
        rw [hq, nn_eq (by omega) (by omega)] at z2; exact z2.symm
      subst this
      rw [gt1] at z3
      refine ⟨z3.1, fun s hs => ?_⟩
      rw [z3.2 s hs, eE_congr hg gt2]
  · rw [if_neg hq]
    obtain ⟨c, a, hE, ha, hcn⟩ := H.en157
    have hf := SR_fill hg hSR hRO
    have K17 : σ.1 17 = (20, 32) := xw_K hS (by decide) (by decide) (by decide)
    have K18 : σ.1 18 = (20, 16) := xw_K hS (by decide) (by decide) (by decide)
    have hEb := hE.b
    obtain ⟨τ, e1, hτS, ⟨c', a', hE', f1, f2, f3, f4, f5, f6, f7, f8, f9⟩, f10, f11, f12, f13⟩ := fill11_ok (I := xI σ) (k := gSz g) hS hG hE ha hcn K17 K18 (by omega) (by omega) (by omega) (by omega) (by omega) (by omega) (Nat.le_refl _) hf.1 hf.2
    rw [e1, Option.bind_some]
    have h206 := hS.1
    have hEb' := hE'.b
    have fr : ∀ b j, (b < 157 ∨ (161 ≤ b ∧ b ≤ 206)) → xI τ b j = xI σ b j := fun b j hb => f9 b j (by omega) (by omega) (by omega)
    have e16 : xI τ 16 6 = nI t := (fr 16 6 (by omega)).trans e6
    have jj : f_X11_energiesNow_j49 τ 1 = some (157, xw τ (xup (xI τ) 157 5 (nI t))) := by
      show f_X11_energiesNow_j49 (xw τ (xI τ)) 1 = _
      unfold f_X11_energiesNow_j49
      simp (disch := first | assumption | omega) only [Option.bind_some, Option.map_some, xw_gR, xw_gN, xw_al, xw_ck, xw_uI, xw_ur, xup_at, xur_at, if_true, if_false, reduceIte, and_true, true_and, and_false, false_and, not_true_eq_false, not_false_eq_true, Nat.reduceEqDiff, eq_self, Nat.reduceAdd, Nat.reduceMul, kC1, kG1, kP1, kR1_0, kR1_1, kR1_2, kR1_3, kR1_4, kR1_5, kR1_6, kR1_7, kR1_8, kR1_9, kR1_10, kR1_11, kR1_12, kR1_13, kC2, kG2, kP2, kR2_0, kR2_1, kC3, kG3, kP3, kR3_0, kR3_1, kR3_2, kR3_3, kL4, kA4, kS4, kL5, kA5, kS5, kL6, kA6, kS6, kL7, kA7, kS7, kC8, kG8, kP8, kR8_0, kR8_1, kL9, kA9, kS9, kL10, kA10, kS10, kC11, kG11, kP11, kR11_0, kR11_1, kR11_2, kR11_3, kL12, kA12, kS12, kL13, kA13, kS13, kL14, kA14, kS14, kL15, kA15, kS15, kC16, kG16, kP16, kR16_0, kR16_1, kL17, kA17, kS17, kL18, kA18, kS18, kC19, kG19, kP19, kR19_0, kL20, kL141, kL146, kA146, kS146, kL151, kA151, kS151, kL156, kA156, kS156, kC157, kG157, kP157, kR157_0, kR157_1, kL158, kA158, kS158, kL159, kA159, kS159, kC161, kG161, kP161, kR161_0, kR161_1, kL162, kA162, kS162, kL163, kA163, kS163, kC165, kG165, kP165, kR165_0, kR165_1, kR165_2, kR165_3, kL166, kA166, kS166, kL167, kA167, kS167, kL168, kA168, kS168, kL169, kA169, kS169, kC170, kG170, kP170, kR170_0, kR170_1, kR170_2, kL171, kA171, kS171, kL172, kA172, kS172, kL173, kA173, kS173, kC174, kG174, kP174, kR174_0, kR174_1, kR174_2, kR174_3, kR174_4, kL175, kA175, kS175, kL176, kA176, kS176, kL177, kA177, kS177, kL178, kA178, kS178, kL179, kC180, kG180, kP180, kL181, kL182, kA182, kS182, kC183, kG183, kP183, kR183_1, kR183_3, kR183_5, kR183_6, kR183_7, kR183_8, kR183_9, kR183_21, kR183_26, kR183_27, kR183_30, kR183_31, kR183_33, kR183_34, kR183_36, kR183_37, kR183_38, kR183_39, kR183_40, kR183_41, kR183_42, kR183_43, kR183_44, kL184, kA184, kS184, kL185, kA185, kS185, kL186, kA186, kS186, kL187, kA187, kS187, kL188, kA188, kS188, kL189, kL190, kL191, kA191, kS191, kL192, kA192, kS192, kL193, kA193, kS193, kL194, kA194, kS194, kL195, kA195, kS195, kL196, kA196, kS196, kL197, kA197, kS197, kL198, kA198, kS198, kL199, kA199, kS199, kL200, kA200, kS200, kL201, kL202, kA202, kS202, kL203, kA203, kS203, kL204, kA204, kS204, kL205, kL206, kA206, kS206, e16, xnz_ok]
    have enk : ENK (xup (xI τ) 157 5 (nI t)) (xR τ) (xlen τ) 157 g (xI σ 191) := by
      refine ⟨?_, fun s hs => ?_⟩
      · rw [hE'.2.1]
        unfold xlen
        rw [hE'.2.2.1]
        exact Nat.pow_le_pow_right (by decide) f3
      · rw [hE'.2.1, xup_at, if_neg (by omega), f8 s hs, eP_all hg]
    refine ⟨_, jj, ?_, ?_, fun b j hb => ?_, f13⟩
    · refine H.cache hτS (fun b j hb => ?_) ?_ ?_
      · rw [xw_I, xup_at, if_neg (by omega), fr b j (by omega)]
      · have r5 : ∀ b j, b ≤ xn σ → ¬ (b = 157 ∧ j = 4) → xR τ b j = xR σ b j := f12
        obtain ⟨-, c2, c3, c4⟩ := H.cch
        have u : ∀ b j, (161 ≤ b ∧ b ≤ 206) → xup (xI τ) 157 5 (nI t) b j = xI σ b j := fun b j hb => by rw [xup_at, if_neg (by omega), fr b j (by omega)]
        refine ⟨.inr ⟨t, ht, ?_, ?_⟩, ?_, ?_, ?_⟩
        · rw [xw_I, xup_at, if_pos ⟨rfl, rfl⟩]
        · rw [gt1]
          refine ⟨enk.1, fun s hs => ?_⟩
          rw [← eE_congr hg gt2]
          exact enk.2 s hs
        · rw [xw_I, u _ _ (by omega)]
          rcases c2 with z | ⟨q, z1, z2, z3⟩
          · exact .inl z
          · exact .inr ⟨q, z1, z2, LVK_c (fun b j hb => u b j (by omega)) z3⟩
        · rw [xw_I, u _ _ (by omega)]
          rcases c3 with z | ⟨q, z1, z2, z3⟩
          · exact .inl z
          · exact .inr ⟨q, z1, z2, BRK_c (fun j => u 171 j (by omega)) z3⟩
        · rw [xw_I, u _ _ (by omega)]
          rcases c4 with z | ⟨q, z1, z2, z3⟩
          · exact .inl z
          · refine .inr ⟨q, z1, z2, ?_⟩
            intro hs
            have := TRK_c (I' := xup (xI τ) 157 5 (nI t)) (fun b j hb => u b j (by omega)) z3 hs
            rw [xw_R, r5 174 5 (by omega) (by omega), r5 174 6 (by omega) (by omega)]
            exact this
      · obtain ⟨a0, b0, h1, h2, h3, h4, h5, h6, h7, h8, h9, h10, h11⟩ := H.cel
        have ea : a0 = a := by
          have q := hE.2.2.1
          rw [hE.2.1] at h3
          rw [h3] at q
          have q2 := congrArg Prod.snd q
          exact Nat.le_antisymm ((Nat.pow_le_pow_iff_right (by decide)).mp (Nat.le_of_eq q2)) ((Nat.pow_le_pow_iff_right (by decide)).mp (Nat.le_of_eq q2.symm))
        have r161 : xR τ 161 4 = xR σ 161 4 := f12 161 4 (by omega) (by omega)
        refine ⟨a', b0, f2, h2, ?_, ?_, ?_, ?_, ?_, ?_, ?_, ?_, ?_, fun k hk => (f13 190 k (by have := hS.1; omega)).trans (h11.2 k hk)⟩
        · show τ.1 (xR τ 157 4) = _
          rw [hE'.2.1]; exact hE'.2.2.1
        · show τ.1 (xR τ 161 4) = _
          rw [r161, f11 _ h9]; exact h4
        · show xR τ 157 4 = 160 ∨ 206 < xR τ 157 4
          rw [hE'.2.1]; exact hE'.2.2.2.2
        · show xR τ 161 4 = 164 ∨ 206 < xR τ 161 4
          rw [r161]; exact h6
        · show xR τ 157 4 ≠ xR τ 161 4
          rw [hE'.2.1, r161]
          rcases f5 with z | z
          · rw [z]; exact h7
          · rw [z]; omega
        · show xR τ 157 4 ≤ xn τ
          rw [hE'.2.1]; exact f4
        · show xR τ 161 4 ≤ xn τ
          rw [r161]; omega
        · show xn τ ≤ _
          omega
        · show xz τ ≤ _
          omega
    · have e191 : ∀ k, xup (xI τ) 157 5 (nI t) 191 k = xI σ 191 k := fun k => by rw [xup_at, if_neg (by omega), fr _ _ (by omega)]
      refine ⟨enk.1, fun s hs => ?_⟩
      have : xI (xw τ (xup (xI τ) 157 5 (nI t))) 191 = xI σ 191 := funext e191
      rw [this]
      exact enk.2 s hs
    · rw [xw_I, xup_at, if_neg (by omega), fr b j hb]
