section
/-! the energies that are kept -/
theorem eE_congr {g : GD} (hg : g ∈ gAll) {F F' : Nat → Int32} (h : ∀ k, k < 48 → F' k = F k) : eE g (zR F') = eE g (zR F) := by
  have h16 := (gAll_b g hg).2.2.1
  funext s
  unfold eE
  congr 1
  · apply fb_si_cong
    intro t ht
    unfold eT zR
    split
    · rfl
    · rw [h t (by omega)]
  · apply fb_si_cong
    intro t ht
    unfold eH zR
    rw [h (32 + t) (by omega)]
theorem IV.cache {n : Nat} {σ τ : XS} {g : GD} {gT gP : GH} {st : Nat} (H : IV n σ g gT gP st) (hS : Shp τ) (u : ∀ a k, (a < 157 ∨ a = 173 ∨ (183 ≤ a ∧ a ≤ 206)) → xI τ a k = xI σ a k) (hC : CCH (xI τ) (xR τ) (xlen τ) gT gP st) (hL : CEL τ.1 (xR τ) (xn τ) (xz τ) (xL τ)) : IV n τ g gT gP st := by
  have hg := H.grd.1
  refine ⟨hS, H.stn, (u 1 15 (by omega)).trans H.sts, TAP_c (fun a k q => u a k (by unfold sTAP at q; omega)) H.tap, ?_, GRD_c (fun a k q => u a k (by unfold sGRD at q; omega)) H.grd, NOW_c hg (fun a k q => u a k (by unfold sNOW at q; omega)) H.now, PST_c hg (fun a k q => u a k (by unfold sPST at q; omega)) (Nat.le_refl _) (fun _ _ => rfl) (fun _ _ => rfl) H.pst, SLT_c hg (fun a k q => u a k (by unfold sSLT at q; omega)) (Nat.le_refl _) (fun _ _ => rfl) (fun _ _ => rfl) H.slt, hC, KNW_c hg (fun a k q => u a k (by unfold sKNW at q; omega)) H.knw, hL⟩
  rw [u _ _ (by omega), u _ _ (by omega)]; exact H.plc
theorem IV.en157 {n : Nat} {σ : XS} {g : GD} {gT gP : GH} {st : Nat} (H : IV n σ g gT gP st) : ∃ c a, EnO σ 157 c (2 ^ a) ∧ a ≤ 16 ∧ c ≤ xn σ := by
  obtain ⟨a, b, h1, h2, h3, h4, h5, h6, h7, h8, h9, h10, h11⟩ := H.cel
  have hp : 2 ^ a ≤ 2 ^ 16 := Nat.pow_le_pow_right (by decide) h1
  exact ⟨xR σ 157 4, a, ⟨.inl rfl, rfl, h3, by omega, h5⟩, h1, h8⟩
theorem IV.en161 {n : Nat} {σ : XS} {g : GD} {gT gP : GH} {st : Nat} (H : IV n σ g gT gP st) : ∃ c a, EnO σ 161 c (2 ^ a) ∧ a ≤ 16 ∧ c ≤ xn σ := by
  obtain ⟨a, b, h1, h2, h3, h4, h5, h6, h7, h8, h9, h10, h11⟩ := H.cel
  have hp : 2 ^ b ≤ 2 ^ 16 := Nat.pow_le_pow_right (by decide) h2
  exact ⟨xR σ 161 4, b, ⟨.inr rfl, rfl, h4, by omega, h6⟩, h2, h9⟩
theorem SR_fill {g : GD} {I : Nat → Nat → Int32} {a : Nat} {F : Nat → Int32} (hg : g ∈ gAll) (h : SR g I a F) (ho : RO g F) : (∀ t, t < 32 → (gTo g t).isSome = true → I (a + 1) t = iI (zR F t) ∧ -3 ≤ zR F t ∧ zR F t ≤ 3) ∧ ∀ i, i < gSz g → I (a + 2) i = iI (zR F (32 + i)) := by
  have h16 := (gAll_b g hg).2.2.1
  refine ⟨fun t ht he => ⟨?_, (ho.1 t (by omega)).1, (ho.1 t (by omega)).2⟩, fun i hi => ?_⟩
  · rw [h.1 t ht, if_pos he]; exact iI_of _
  · rw [h.2.1 i (by omega), if_pos hi]; exact iI_of _
theorem energiesNow_ok {n : Nat} {σ : XS} {g : GD} {gT gP : GH} {st : Nat} (hn : n ≤ 512) (H : IV n σ g gT gP st) : ∃ τ, f_X11_energiesNow σ 1 = some (157, τ) ∧ IV n τ g gT gP st ∧ ENK (xI τ) (xR τ) (xlen τ) 157 g (xI τ 191) ∧ (∀ b j, (b < 157 ∨ (161 ≤ b ∧ b ≤ 206)) → xI τ b j = xI σ b j) ∧ (∀ b j, b ≤ xn σ → xL τ b j = xL σ b j) := by
  have hS := H.shp
  have hG := H.grd
  have hg := hG.1
  have h16 := (gAll_b g hg).2.2.1
  obtain ⟨hSR, hRO, t, p, ht, hp, e6, e7, gt1, gt2, gp1, gp2⟩ := H.now
  have hst := H.stn
  have stp : f_X11_energiesNow σ 1 = if xI σ 157 5 = nI t then some (157, σ) else (f_X2_fill (xw σ (xI σ)) 157 11 17 18 (nI (gSz g))).bind fun σ27 => f_X11_energiesNow_j49 σ27 1 := by
    show f_X11_energiesNow (xw σ (xI σ)) 1 = _
    unfold f_X11_energiesNow
    simp (disch := first | assumption | omega) only [Option.bind_some, Option.map_some, xw_gR, xw_gN, xw_al, xw_ck, xw_uI, xw_ur, xup_at, xur_at, if_true, if_false, reduceIte, and_true, true_and, and_false, false_and, not_true_eq_false, not_false_eq_true, Nat.reduceEqDiff, eq_self, Nat.reduceAdd, Nat.reduceMul, kC1, kG1, kP1, kR1_0, kR1_1, kR1_2, kR1_3, kR1_4, kR1_5, kR1_6, kR1_7, kR1_8, kR1_9, kR1_10, kR1_11, kR1_12, kR1_13, kC2, kG2, kP2, kR2_0, kR2_1, kC3, kG3, kP3, kR3_0, kR3_1, kR3_2, kR3_3, kL4, kA4, kS4, kL5, kA5, kS5, kL6, kA6, kS6, kL7, kA7, kS7, kC8, kG8, kP8, kR8_0, kR8_1, kL9, kA9, kS9, kL10, kA10, kS10, kC11, kG11, kP11, kR11_0, kR11_1, kR11_2, kR11_3, kL12, kA12, kS12, kL13, kA13, kS13, kL14, kA14, kS14, kL15, kA15, kS15, kC16, kG16, kP16, kR16_0, kR16_1, kL17, kA17, kS17, kL18, kA18, kS18, kC19, kG19, kP19, kR19_0, kL20, kL141, kL146, kA146, kS146, kL151, kA151, kS151, kL156, kA156, kS156, kC157, kG157, kP157, kR157_0, kR157_1, kL158, kA158, kS158, kL159, kA159, kS159, kC161, kG161, kP161, kR161_0, kR161_1, kL162, kA162, kS162, kL163, kA163, kS163, kC165, kG165, kP165, kR165_0, kR165_1, kR165_2, kR165_3, kL166, kA166, kS166, kL167, kA167, kS167, kL168, kA168, kS168, kL169, kA169, kS169, kC170, kG170, kP170, kR170_0, kR170_1, kR170_2, kL171, kA171, kS171, kL172, kA172, kS172, kL173, kA173, kS173, kC174, kG174, kP174, kR174_0, kR174_1, kR174_2, kR174_3, kR174_4, kL175, kA175, kS175, kL176, kA176, kS176, kL177, kA177, kS177, kL178, kA178, kS178, kL179, kC180, kG180, kP180, kL181, kL182, kA182, kS182, kC183, kG183, kP183, kR183_1, kR183_3, kR183_5, kR183_6, kR183_7, kR183_8, kR183_9, kR183_21, kR183_26, kR183_27, kR183_30, kR183_31, kR183_33, kR183_34, kR183_36, kR183_37, kR183_38, kR183_39, kR183_40, kR183_41, kR183_42, kR183_43, kR183_44, kL184, kA184, kS184, kL185, kA185, kS185, kL186, kA186, kS186, kL187, kA187, kS187, kL188, kA188, kS188, kL189, kL190, kL191, kA191, kS191, kL192, kA192, kS192, kL193, kA193, kS193, kL194, kA194, kS194, kL195, kA195, kS195, kL196, kA196, kS196, kL197, kA197, kS197, kL198, kA198, kS198, kL199, kA199, kS199, kL200, kA200, kS200, kL201, kL202, kA202, kS202, kL203, kA203, kS203, kL204, kA204, kS204, kL205, kL206, kA206, kS206, e6, hG.2.2.2.2.1, xnz_ok]
    rfl
  rw [stp]
  by_cases hq : xI σ 157 5 = nI t
  · rw [if_pos hq]
    refine ⟨σ, rfl, H, ?_, fun _ _ _ => rfl, fun _ _ _ => rfl⟩
    rcases H.cch.1 with z | ⟨t', z1, z2, z3⟩
    · rw [hq] at z
      exact absurd z (by have := nn_m1 (a := t) (by omega); rw [this]; exact id)
    · have : t' = t := by
        rw [hq, nn_eq (by omega) (by omega)] at z2; exact z2.symm
      subst this
      rw [gt1] at z3
      refine ⟨z3.1, fun s hs => ?_⟩
      rw [z3.2 s hs, eE_congr hg gt2]
  · rw [if_neg hq]
    obtain ⟨c, a, hE, ha, hcn⟩ := H.en157
    have hf := SR_fill hg hSR hRO
    have K17 : σ.1 17 = (20, 32) := xw_K hS (by decide) (by decide) (by decide)
    have K18 : σ.1 18 = (20, 16) := xw_K hS (by decide) (by decide) (by decide)
    have hEb := hE.b
    obtain ⟨τ, e1, hτS, ⟨c', a', hE', f1, f2, f3, f4, f5, f6, f7, f8, f9⟩, f10, f11, f12, f13⟩ := fill11_ok (I := xI σ) (k := gSz g) hS hG hE ha hcn K17 K18 (by omega) (by omega) (by omega) (by omega) (by omega) (by omega) (Nat.le_refl _) hf.1 hf.2
    rw [e1, Option.bind_some]
    have h206 := hS.1
    have hEb' := hE'.b
    have fr : ∀ b j, (b < 157 ∨ (161 ≤ b ∧ b ≤ 206)) → xI τ b j = xI σ b j := fun b j hb => f9 b j (by omega) (by omega) (by omega)
    have e16 : xI τ 16 6 = nI t := (fr 16 6 (by omega)).trans e6
    have jj : f_X11_energiesNow_j49 τ 1 = some (157, xw τ (xup (xI τ) 157 5 (nI t))) := by
      show f_X11_energiesNow_j49 (xw τ (xI τ)) 1 = _
      unfold f_X11_energiesNow_j49
      simp (disch := first | assumption | omega) only [Option.bind_some, Option.map_some, xw_gR, xw_gN, xw_al, xw_ck, xw_uI, xw_ur, xup_at, xur_at, if_true, if_false, reduceIte, and_true, true_and, and_false, false_and, not_true_eq_false, not_false_eq_true, Nat.reduceEqDiff, eq_self, Nat.reduceAdd, Nat.reduceMul, kC1, kG1, kP1, kR1_0, kR1_1, kR1_2, kR1_3, kR1_4, kR1_5, kR1_6, kR1_7, kR1_8, kR1_9, kR1_10, kR1_11, kR1_12, kR1_13, kC2, kG2, kP2, kR2_0, kR2_1, kC3, kG3, kP3, kR3_0, kR3_1, kR3_2, kR3_3, kL4, kA4, kS4, kL5, kA5, kS5, kL6, kA6, kS6, kL7, kA7, kS7, kC8, kG8, kP8, kR8_0, kR8_1, kL9, kA9, kS9, kL10, kA10, kS10, kC11, kG11, kP11, kR11_0, kR11_1, kR11_2, kR11_3, kL12, kA12, kS12, kL13, kA13, kS13, kL14, kA14, kS14, kL15, kA15, kS15, kC16, kG16, kP16, kR16_0, kR16_1, kL17, kA17, kS17, kL18, kA18, kS18, kC19, kG19, kP19, kR19_0, kL20, kL141, kL146, kA146, kS146, kL151, kA151, kS151, kL156, kA156, kS156, kC157, kG157, kP157, kR157_0, kR157_1, kL158, kA158, kS158, kL159, kA159, kS159, kC161, kG161, kP161, kR161_0, kR161_1, kL162, kA162, kS162, kL163, kA163, kS163, kC165, kG165, kP165, kR165_0, kR165_1, kR165_2, kR165_3, kL166, kA166, kS166, kL167, kA167, kS167, kL168, kA168, kS168, kL169, kA169, kS169, kC170, kG170, kP170, kR170_0, kR170_1, kR170_2, kL171, kA171, kS171, kL172, kA172, kS172, kL173, kA173, kS173, kC174, kG174, kP174, kR174_0, kR174_1, kR174_2, kR174_3, kR174_4, kL175, kA175, kS175, kL176, kA176, kS176, kL177, kA177, kS177, kL178, kA178, kS178, kL179, kC180, kG180, kP180, kL181, kL182, kA182, kS182, kC183, kG183, kP183, kR183_1, kR183_3, kR183_5, kR183_6, kR183_7, kR183_8, kR183_9, kR183_21, kR183_26, kR183_27, kR183_30, kR183_31, kR183_33, kR183_34, kR183_36, kR183_37, kR183_38, kR183_39, kR183_40, kR183_41, kR183_42, kR183_43, kR183_44, kL184, kA184, kS184, kL185, kA185, kS185, kL186, kA186, kS186, kL187, kA187, kS187, kL188, kA188, kS188, kL189, kL190, kL191, kA191, kS191, kL192, kA192, kS192, kL193, kA193, kS193, kL194, kA194, kS194, kL195, kA195, kS195, kL196, kA196, kS196, kL197, kA197, kS197, kL198, kA198, kS198, kL199, kA199, kS199, kL200, kA200, kS200, kL201, kL202, kA202, kS202, kL203, kA203, kS203, kL204, kA204, kS204, kL205, kL206, kA206, kS206, e16, xnz_ok]
    have enk : ENK (xup (xI τ) 157 5 (nI t)) (xR τ) (xlen τ) 157 g (xI σ 191) := by
      refine ⟨?_, fun s hs => ?_⟩
      · rw [hE'.2.1]
        unfold xlen
        rw [hE'.2.2.1]
        exact Nat.pow_le_pow_right (by decide) f3
      · rw [hE'.2.1, xup_at, if_neg (by omega), f8 s hs, eP_all hg]
    refine ⟨_, jj, ?_, ?_, fun b j hb => ?_, f13⟩
    · refine H.cache hτS (fun b j hb => ?_) ?_ ?_
      · rw [xw_I, xup_at, if_neg (by omega), fr b j (by omega)]
      · have r5 : ∀ b j, b ≤ xn σ → ¬ (b = 157 ∧ j = 4) → xR τ b j = xR σ b j := f12
        obtain ⟨-, c2, c3, c4⟩ := H.cch
        have u : ∀ b j, (161 ≤ b ∧ b ≤ 206) → xup (xI τ) 157 5 (nI t) b j = xI σ b j := fun b j hb => by rw [xup_at, if_neg (by omega), fr b j (by omega)]
        refine ⟨.inr ⟨t, ht, ?_, ?_⟩, ?_, ?_, ?_⟩
        · rw [xw_I, xup_at, if_pos ⟨rfl, rfl⟩]
        · rw [gt1]
          refine ⟨enk.1, fun s hs => ?_⟩
          rw [← eE_congr hg gt2]
          exact enk.2 s hs
        · rw [xw_I, u _ _ (by omega)]
          rcases c2 with z | ⟨q, z1, z2, z3⟩
          · exact .inl z
          · exact .inr ⟨q, z1, z2, LVK_c (fun b j hb => u b j (by omega)) z3⟩
        · rw [xw_I, u _ _ (by omega)]
          rcases c3 with z | ⟨q, z1, z2, z3⟩
          · exact .inl z
          · exact .inr ⟨q, z1, z2, BRK_c (fun j => u 171 j (by omega)) z3⟩
        · rw [xw_I, u _ _ (by omega)]
          rcases c4 with z | ⟨q, z1, z2, z3⟩
          · exact .inl z
          · refine .inr ⟨q, z1, z2, ?_⟩
            intro hs
            have := TRK_c (I' := xup (xI τ) 157 5 (nI t)) (fun b j hb => u b j (by omega)) z3 hs
            rw [xw_R, r5 174 5 (by omega) (by omega), r5 174 6 (by omega) (by omega)]
            exact this
      · obtain ⟨a0, b0, h1, h2, h3, h4, h5, h6, h7, h8, h9, h10, h11⟩ := H.cel
        have ea : a0 = a := by
          have q := hE.2.2.1
          rw [hE.2.1] at h3
          rw [h3] at q
          have q2 := congrArg Prod.snd q
          exact Nat.le_antisymm ((Nat.pow_le_pow_iff_right (by decide)).mp (Nat.le_of_eq q2)) ((Nat.pow_le_pow_iff_right (by decide)).mp (Nat.le_of_eq q2.symm))
        have r161 : xR τ 161 4 = xR σ 161 4 := f12 161 4 (by omega) (by omega)
        refine ⟨a', b0, f2, h2, ?_, ?_, ?_, ?_, ?_, ?_, ?_, ?_, ?_, fun k hk => (f13 190 k (by have := hS.1; omega)).trans (h11.2 k hk)⟩
        · show τ.1 (xR τ 157 4) = _
          rw [hE'.2.1]; exact hE'.2.2.1
        · show τ.1 (xR τ 161 4) = _
          rw [r161, f11 _ h9]; exact h4
        · show xR τ 157 4 = 160 ∨ 206 < xR τ 157 4
          rw [hE'.2.1]; exact hE'.2.2.2.2
        · show xR τ 161 4 = 164 ∨ 206 < xR τ 161 4
          rw [r161]; exact h6
        · show xR τ 157 4 ≠ xR τ 161 4
          rw [hE'.2.1, r161]
          rcases f5 with z | z
          · rw [z]; exact h7
          · rw [z]; omega
        · show xR τ 157 4 ≤ xn τ
          rw [hE'.2.1]; exact f4
        · show xR τ 161 4 ≤ xn τ
          rw [r161]; omega
        · show xn τ ≤ _
          omega
        · show xz τ ≤ _
          omega
    · have e191 : ∀ k, xup (xI τ) 157 5 (nI t) 191 k = xI σ 191 k := fun k => by rw [xup_at, if_neg (by omega), fr _ _ (by omega)]
      refine ⟨enk.1, fun s hs => ?_⟩
      have : xI (xw τ (xup (xI τ) 157 5 (nI t))) 191 = xI σ 191 := funext e191
      rw [this]
      exact enk.2 s hs
    · rw [xw_I, xup_at, if_neg (by omega), fr b j hb]
end
section
/-! how many bits are set -/
def bC0 (s : Nat) : Nat := s - ((s >>> 1) &&& 1431655765)
def bC1 (s : Nat) : Nat := (bC0 s &&& 858993459) + ((bC0 s >>> 2) &&& 858993459)
def bC2 (s : Nat) : Nat := (bC1 s + (bC1 s >>> 4)) &&& 252645135
def bC3 (s : Nat) : Nat := bC2 s + (bC2 s >>> 8)
def bC4 (s : Nat) : Nat := bC3 s + (bC3 s >>> 16)
def pcT (s : Nat) : Nat := s % 2 + s / 2 % 2 + s / 4 % 2 + s / 8 % 2 + s / 16 % 2 + s / 32 % 2 + s / 64 % 2 + s / 128 % 2 + s / 256 % 2 + s / 512 % 2 + s / 1024 % 2 + s / 2048 % 2 + s / 4096 % 2 + s / 8192 % 2 + s / 16384 % 2 + s / 32768 % 2
def bCt (s : Nat) : Bool := (Nat.ble ((s >>> 1) &&& 1431655765) s) && (Nat.blt (bC1 s) 65536) && (Nat.blt (bC2 s) 65536) && (Nat.blt (bC3 s) 65536) && (Nat.beq (bC4 s &&& 63) (pcT s))
def bCf : Nat → (Nat → Bool) → Bool
  | 0, f => f 0
  | n + 1, f => f (n + 1)
theorem bCf_ok (n : Nat) (f : Nat → Bool) : bCf n f = f n := by cases n <;> rfl
def pcR (s : Nat) : Nat := (Nat.add (Nat.add (Nat.add (Nat.add (Nat.add (Nat.add (Nat.add (Nat.add (Nat.add (Nat.add (Nat.add (Nat.add (Nat.add (Nat.add (Nat.add (Nat.mod s 2) (Nat.mod (Nat.div s 2) 2)) (Nat.mod (Nat.div s 4) 2)) (Nat.mod (Nat.div s 8) 2)) (Nat.mod (Nat.div s 16) 2)) (Nat.mod (Nat.div s 32) 2)) (Nat.mod (Nat.div s 64) 2)) (Nat.mod (Nat.div s 128) 2)) (Nat.mod (Nat.div s 256) 2)) (Nat.mod (Nat.div s 512) 2)) (Nat.mod (Nat.div s 1024) 2)) (Nat.mod (Nat.div s 2048) 2)) (Nat.mod (Nat.div s 4096) 2)) (Nat.mod (Nat.div s 8192) 2)) (Nat.mod (Nat.div s 16384) 2)) (Nat.mod (Nat.div s 32768) 2))
def bCu (s : Nat) : Bool := bCf (Nat.land (Nat.shiftRight s 1) 1431655765) fun x => Nat.ble x s && bCf (Nat.sub s x) fun y => bCf (Nat.add (Nat.land y 858993459) (Nat.land (Nat.shiftRight y 2) 858993459)) fun z => Nat.ble (Nat.succ z) 65536 && bCf (Nat.land (Nat.add z (Nat.shiftRight z 4)) 252645135) fun v => Nat.ble (Nat.succ v) 65536 && bCf (Nat.add v (Nat.shiftRight v 8)) fun w => Nat.ble (Nat.succ w) 65536 && Nat.beq (Nat.land (Nat.add w (Nat.shiftRight w 16)) 63) (pcR s)
theorem bCu_ok (s : Nat) : bCu s = bCt s := by
  have e : bCu s = (Nat.ble ((s >>> 1) &&& 1431655765) s && (Nat.blt (bC1 s) 65536 && (Nat.blt (bC2 s) 65536 && (Nat.blt (bC3 s) 65536 && Nat.beq (bC4 s &&& 63) (pcT s))))) := by
    simp only [bCu, bCf_ok]
    rfl
  rw [e, bCt]
  simp only [Bool.and_assoc]
def bCall : Nat → Nat → Bool
  | 0, _ => true
  | n + 1, a => bCf a fun a => bCu a && bCu (a + 1) && bCu (a + 2) && bCu (a + 3) && bCu (a + 4) && bCu (a + 5) && bCu (a + 6) && bCu (a + 7) && bCall n (a + 8)
theorem bCall_ok : ∀ n a, bCall n a = true → ∀ s, a ≤ s → s < a + 8 * n → bCt s = true := by
  intro n
  induction n with
  | zero => intro a _ s h1 h2; omega
  | succ n ih =>
    intro a h s h1 h2
    simp only [bCall, bCf_ok, bCu_ok, Bool.and_eq_true] at h
    by_cases h3 : s < a + 8
    · rcases (show s = a ∨ s = a + 1 ∨ s = a + 2 ∨ s = a + 3 ∨ s = a + 4 ∨ s = a + 5 ∨ s = a + 6 ∨ s = a + 7 by omega) with q | q | q | q | q | q | q | q <;> rw [q] <;> simp [h]
    · exact ih (a + 8) h.2 s (by omega) (by omega)
set_option maxRecDepth 100000 in
theorem bC_all : bCall 8192 0 = true := by decide +kernel
end
section
theorem pcT_pC (s : Nat) : pcT s = pC s := by
  unfold pC pcT
  simp only [fb_ct, Nat.testBit_eq_decide_div_mod_eq]
  have h : ∀ x : Nat, x % 2 = if decide (x % 2 = 1) = true then 1 else 0 := by
    intro x
    by_cases q : x % 2 = 1
    · simp [q]
    · simp [q]; omega
  rw [h s, h (s / 2), h (s / 4), h (s / 8), h (s / 16), h (s / 32), h (s / 64), h (s / 128), h (s / 256), h (s / 512), h (s / 1024), h (s / 2048), h (s / 4096), h (s / 8192), h (s / 16384), h (s / 32768)]
  simp
theorem bitCount_ok {s : Nat} (hs : s < 65536) : f_J6_bitCount_0f7a4 (nI s) = some (nI (pC s)) := by
  have h := bCall_ok 8192 0 bC_all s (by omega) (by omega)
  simp only [bCt, Bool.and_eq_true] at h
  obtain ⟨⟨⟨⟨h1, h2⟩, h3⟩, h4⟩, h5⟩ := h
  have h1 : (s >>> 1) &&& 1431655765 ≤ s := Nat.le_of_ble_eq_true h1
  have h2 : bC1 s < 65536 := by
    have q : bC1 s ≤ 65535 := by simpa [Nat.blt] using h2
    omega
  have h3 : bC2 s < 65536 := by
    have q : bC2 s ≤ 65535 := by simpa [Nat.blt] using h3
    omega
  have h4 : bC3 s < 65536 := by
    have q : bC3 s ≤ 65535 := by simpa [Nat.blt] using h4
    omega
  have h5 : bC4 s &&& 63 = pcT s := Nat.eq_of_beq_eq_true h5
  have h0 : bC0 s < 65536 := by unfold bC0; omega
  unfold f_J6_bitCount_0f7a4
  have u1 : ((nI s).toUInt32 >>> ((1 : Int32).toUInt32 &&& Int32.toUInt32 31)).toInt32 = nI (s >>> 1) := nx_ush (j := 1) hs (by decide)
  have a0 : nI s - (nI (s >>> 1) &&& (1431655765 : Int32)) = nI (bC0 s) := by
    rw [show (1431655765 : Int32) = nI 1431655765 from rfl, nx_and, nn_sub h1]; rfl
  have u2 : ((nI (bC0 s)).toUInt32 >>> ((2 : Int32).toUInt32 &&& Int32.toUInt32 31)).toInt32 = nI (bC0 s >>> 2) := nx_ush (j := 2) h0 (by decide)
  have a1 : (nI (bC0 s) &&& (858993459 : Int32)) + (nI (bC0 s >>> 2) &&& (858993459 : Int32)) = nI (bC1 s) := by
    rw [show (858993459 : Int32) = nI 858993459 from rfl, nx_and, nx_and, nn_add]; rfl
  have u3 : ((nI (bC1 s)).toUInt32 >>> ((4 : Int32).toUInt32 &&& Int32.toUInt32 31)).toInt32 = nI (bC1 s >>> 4) := nx_ush (j := 4) h2 (by decide)
  have a2 : (nI (bC1 s) + nI (bC1 s >>> 4)) &&& (252645135 : Int32) = nI (bC2 s) := by
    rw [show (252645135 : Int32) = nI 252645135 from rfl, nn_add, nx_and]; rfl
  have u4 : ((nI (bC2 s)).toUInt32 >>> ((8 : Int32).toUInt32 &&& Int32.toUInt32 31)).toInt32 = nI (bC2 s >>> 8) := nx_ush (j := 8) h3 (by decide)
  have a3 : nI (bC2 s) + nI (bC2 s >>> 8) = nI (bC3 s) := by rw [nn_add]; rfl
  have u5 : ((nI (bC3 s)).toUInt32 >>> ((16 : Int32).toUInt32 &&& Int32.toUInt32 31)).toInt32 = nI (bC3 s >>> 16) := nx_ush (j := 16) h4 (by decide)
  have a4 : nI (bC3 s) + nI (bC3 s >>> 16) = nI (bC4 s) := by rw [nn_add]; rfl
  simp only [u1, a0, u2, a1, u3, a2, u4, a3, u5, a4]
  rw [show (63 : Int32) = nI 63 from rfl, nx_and, h5, pcT_pC]
theorem pC_16 (s : Nat) : pC s ≤ 16 := fb_ct_le _ _
end
section
/-! states, lawful states, bits -/
theorem xallL {α β : Type} {f : α → Option (α ⊕ β)} {a0 : α} (s : Nat → α) (N : Nat) (p : Nat → Bool) {bad good : β} (h0 : a0 = s 0) (h1 : ∀ i, i < N → p i = true → f (s i) = some (.inl (s (i + 1)))) (h2 : ∀ i, i < N → p i = false → f (s i) = some (.inr bad)) (h3 : f (s N) = some (.inr good)) : xloop f a0 = some (if (List.range N).all p then good else bad) := by
  have key : ∀ m i, i + m = N → ((∀ j, i ≤ j → j < N → p j = true) → xloop f (s i) = some good) ∧ ((∃ j, i ≤ j ∧ j < N ∧ p j = false) → xloop f (s i) = some bad) := by
    intro m
    induction m with
    | zero =>
      intro i hi
      have : i = N := by omega
      subst this
      exact ⟨fun _ => xloop_end h3, fun ⟨j, q1, q2, _⟩ => by omega⟩
    | succ m ih =>
      intro i hi
      have h := ih (i + 1) (by omega)
      by_cases hp : p i = true
      · rw [xloop_step (h1 i (by omega) hp)]
        refine ⟨fun q => h.1 (fun j z1 z2 => q j (by omega) z2), fun ⟨j, z1, z2, z3⟩ => h.2 ⟨j, ?_, z2, z3⟩⟩
        by_cases w : j = i
        · rw [w, hp] at z3
          exact absurd z3 (by decide)
        · omega
      · have hp : p i = false := Bool.not_eq_true _ ▸ hp
        refine ⟨fun q => ?_, fun _ => xloop_end (h2 i (by omega) hp)⟩
        have := q i (Nat.le_refl _) (by omega)
        rw [hp] at this
        exact absurd this (by decide)
  rw [h0]
  cases hall : (List.range N).all p with
  | true =>
    rw [List.all_eq_true] at hall
    rw [(key N 0 (by omega)).1 (fun j _ hj => hall j (List.mem_range.mpr hj))]
    rfl
  | false =>
    rw [List.all_eq_false] at hall
    obtain ⟨j, hj, hpj⟩ := hall
    rw [(key N 0 (by omega)).2 ⟨j, Nat.zero_le _, List.mem_range.mp hj, Bool.not_eq_true _ ▸ hpj⟩]
    rfl
theorem gSt_b {g : GD} (hg : g ∈ gAll) : gSt g ≤ 65536 ∧ gSt g ≤ 2 ^ gSz g := by
  have h16 := (gAll_b g hg).2.2.1
  unfold gSt
  have : 2 ^ gSz g ≤ 2 ^ 16 := Nat.pow_le_pow_right (by decide) h16
  split
  · exact ⟨by omega, Nat.zero_le _⟩
  · exact ⟨by omega, Nat.le_refl _⟩
theorem gSt_pos {g : GD} {s : Nat} (h : s < gSt g) : 0 < gSz g ∧ s < 2 ^ gSz g := by
  unfold gSt at h
  split at h
  · omega
  · exact ⟨by omega, h⟩
theorem gSt_flip {g : GD} {s i : Nat} (h : s < gSt g) (hi : i < gSz g) : s ^^^ 2 ^ i < gSt g := by
  have h1 := gSt_pos h
  have : s ^^^ 2 ^ i < 2 ^ gSz g := Nat.xor_lt_two_pow h1.2 (Nat.pow_lt_pow_right (by decide) hi)
  unfold gSt
  rw [if_neg (by omega)]
  exact this
theorem lW_iff {g : GD} {F : Nat → Int32} {s : Nat} : lW g F s = true ↔ ∀ i, i < gSz g → F (48 + i) ≠ 0 → s.testBit i = decide (F (48 + i) = 1) := by
  unfold lW
  rw [List.all_eq_true]
  constructor
  · intro h i hi hne
    have := h i (List.mem_range.mpr hi)
    simp only [hne, decide_false, Bool.false_or, beq_iff_eq] at this
    exact this
  · intro h i hi
    by_cases hne : F (48 + i) = 0
    · simp [hne]
    · have := h i (List.mem_range.mp hi) hne
      simp [hne, this]
section STATES
variable {σ : XS} {I : Nat → Nat → Int32} {g : GD} {a : Nat} {F : Nat → Int32}
theorem states11_ok (hS : Shp σ) (hG : GRD I g) : f_X3_states (xw σ I) 11 = some (nI (gSt g)) := by
  have h16 := (gAll_b g hG.1).2.2.1
  unfold f_X3_states gSt
  have e : (nI (gSz g) ≤ 0) = (gSz g ≤ 0) := nn_le (b := 0) (by omega) (by decide)
  simp (disch := first | assumption | omega) only [Option.bind_some, Option.map_some, xw_gR, xw_gN, xw_al, xw_ck, xw_uI, xw_ur, xup_at, xur_at, if_true, if_false, reduceIte, and_true, true_and, and_false, false_and, not_true_eq_false, not_false_eq_true, Nat.reduceEqDiff, eq_self, Nat.reduceAdd, Nat.reduceMul, kC1, kG1, kP1, kR1_0, kR1_1, kR1_2, kR1_3, kR1_4, kR1_5, kR1_6, kR1_7, kR1_8, kR1_9, kR1_10, kR1_11, kR1_12, kR1_13, kC2, kG2, kP2, kR2_0, kR2_1, kC3, kG3, kP3, kR3_0, kR3_1, kR3_2, kR3_3, kL4, kA4, kS4, kL5, kA5, kS5, kL6, kA6, kS6, kL7, kA7, kS7, kC8, kG8, kP8, kR8_0, kR8_1, kL9, kA9, kS9, kL10, kA10, kS10, kC11, kG11, kP11, kR11_0, kR11_1, kR11_2, kR11_3, kL12, kA12, kS12, kL13, kA13, kS13, kL14, kA14, kS14, kL15, kA15, kS15, kC16, kG16, kP16, kR16_0, kR16_1, kL17, kA17, kS17, kL18, kA18, kS18, kC19, kG19, kP19, kR19_0, kL20, kL141, kL146, kA146, kS146, kL151, kA151, kS151, kL156, kA156, kS156, kC157, kG157, kP157, kR157_0, kR157_1, kL158, kA158, kS158, kL159, kA159, kS159, kC161, kG161, kP161, kR161_0, kR161_1, kL162, kA162, kS162, kL163, kA163, kS163, kC165, kG165, kP165, kR165_0, kR165_1, kR165_2, kR165_3, kL166, kA166, kS166, kL167, kA167, kS167, kL168, kA168, kS168, kL169, kA169, kS169, kC170, kG170, kP170, kR170_0, kR170_1, kR170_2, kL171, kA171, kS171, kL172, kA172, kS172, kL173, kA173, kS173, kC174, kG174, kP174, kR174_0, kR174_1, kR174_2, kR174_3, kR174_4, kL175, kA175, kS175, kL176, kA176, kS176, kL177, kA177, kS177, kL178, kA178, kS178, kL179, kC180, kG180, kP180, kL181, kL182, kA182, kS182, kC183, kG183, kP183, kR183_1, kR183_3, kR183_5, kR183_6, kR183_7, kR183_8, kR183_9, kR183_21, kR183_26, kR183_27, kR183_30, kR183_31, kR183_33, kR183_34, kR183_36, kR183_37, kR183_38, kR183_39, kR183_40, kR183_41, kR183_42, kR183_43, kR183_44, kL184, kA184, kS184, kL185, kA185, kS185, kL186, kA186, kS186, kL187, kA187, kS187, kL188, kA188, kS188, kL189, kL190, kL191, kA191, kS191, kL192, kA192, kS192, kL193, kA193, kS193, kL194, kA194, kS194, kL195, kA195, kS195, kL196, kA196, kS196, kL197, kA197, kS197, kL198, kA198, kS198, kL199, kA199, kS199, kL200, kA200, kS200, kL201, kL202, kA202, kS202, kL203, kA203, kS203, kL204, kA204, kS204, kL205, kL206, kA206, kS206, hG.2.2.2.2.1, e, nn_one]
  by_cases h : gSz g = 0
  · rw [if_pos (by omega), if_pos h]; rfl
  · rw [if_neg (by omega), if_neg h]
theorem states12_ok (hS : Shp σ) (hG : GRD I g) : f_X12_states (xw σ I) 183 = some (nI (gSt g)) := by
  have h16 := (gAll_b g hG.1).2.2.1
  unfold f_X12_states gSt
  have e : (nI (gSz g) = 0) = (gSz g = 0) := nn_eq (b := 0) (by omega) (by decide)
  simp (disch := first | assumption | omega) only [Option.bind_some, Option.map_some, xw_gR, xw_gN, xw_al, xw_ck, xw_uI, xw_ur, xup_at, xur_at, if_true, if_false, reduceIte, and_true, true_and, and_false, false_and, not_true_eq_false, not_false_eq_true, Nat.reduceEqDiff, eq_self, Nat.reduceAdd, Nat.reduceMul, kC1, kG1, kP1, kR1_0, kR1_1, kR1_2, kR1_3, kR1_4, kR1_5, kR1_6, kR1_7, kR1_8, kR1_9, kR1_10, kR1_11, kR1_12, kR1_13, kC2, kG2, kP2, kR2_0, kR2_1, kC3, kG3, kP3, kR3_0, kR3_1, kR3_2, kR3_3, kL4, kA4, kS4, kL5, kA5, kS5, kL6, kA6, kS6, kL7, kA7, kS7, kC8, kG8, kP8, kR8_0, kR8_1, kL9, kA9, kS9, kL10, kA10, kS10, kC11, kG11, kP11, kR11_0, kR11_1, kR11_2, kR11_3, kL12, kA12, kS12, kL13, kA13, kS13, kL14, kA14, kS14, kL15, kA15, kS15, kC16, kG16, kP16, kR16_0, kR16_1, kL17, kA17, kS17, kL18, kA18, kS18, kC19, kG19, kP19, kR19_0, kL20, kL141, kL146, kA146, kS146, kL151, kA151, kS151, kL156, kA156, kS156, kC157, kG157, kP157, kR157_0, kR157_1, kL158, kA158, kS158, kL159, kA159, kS159, kC161, kG161, kP161, kR161_0, kR161_1, kL162, kA162, kS162, kL163, kA163, kS163, kC165, kG165, kP165, kR165_0, kR165_1, kR165_2, kR165_3, kL166, kA166, kS166, kL167, kA167, kS167, kL168, kA168, kS168, kL169, kA169, kS169, kC170, kG170, kP170, kR170_0, kR170_1, kR170_2, kL171, kA171, kS171, kL172, kA172, kS172, kL173, kA173, kS173, kC174, kG174, kP174, kR174_0, kR174_1, kR174_2, kR174_3, kR174_4, kL175, kA175, kS175, kL176, kA176, kS176, kL177, kA177, kS177, kL178, kA178, kS178, kL179, kC180, kG180, kP180, kL181, kL182, kA182, kS182, kC183, kG183, kP183, kR183_1, kR183_3, kR183_5, kR183_6, kR183_7, kR183_8, kR183_9, kR183_21, kR183_26, kR183_27, kR183_30, kR183_31, kR183_33, kR183_34, kR183_36, kR183_37, kR183_38, kR183_39, kR183_40, kR183_41, kR183_42, kR183_43, kR183_44, kL184, kA184, kS184, kL185, kA185, kS185, kL186, kA186, kS186, kL187, kA187, kS187, kL188, kA188, kS188, kL189, kL190, kL191, kA191, kS191, kL192, kA192, kS192, kL193, kA193, kS193, kL194, kA194, kS194, kL195, kA195, kS195, kL196, kA196, kS196, kL197, kA197, kS197, kL198, kA198, kS198, kL199, kA199, kS199, kL200, kA200, kS200, kL201, kL202, kA202, kS202, kL203, kA203, kS203, kL204, kA204, kS204, kL205, kL206, kA206, kS206, sites_ok hS hG, e, nn_one]
  by_cases h : gSz g = 0
  · rw [if_pos h, if_pos h]; rfl
  · rw [if_neg h, if_neg h]
theorem allows_ok (hS : Shp σ) (hg : g ∈ gAll) (ha : a ∈ suA) (h : SR g I a F) (s : Nat) : f_X6_allows (xw σ I) a (nI s) = some (if lW g F s then 1 else 0) := by
  have h16 := (gAll_b g hg).2.2.1
  obtain ⟨-, -, ⟨p, u, e3, e4, e5, e6⟩, -, -⟩ := h
  have hp : p < 65536 := Nat.lt_pow_two_of_testBit (n := 16) p (fun j hj => by rw [e5]; simp; omega)
  have hu : u < 65536 := Nat.lt_pow_two_of_testBit (n := 16) u (fun j hj => by rw [e6]; simp; omega)
  have hsp : s &&& p < 65536 := Nat.lt_of_le_of_lt Nat.and_le_right hp
  unfold f_X6_allows
  simp (disch := first | assumption | omega) only [Option.bind_some, Option.map_some, xw_gR, xw_gN, xw_al, xw_ck, xw_uI, xw_ur, xup_at, xur_at, if_true, if_false, reduceIte, and_true, true_and, and_false, false_and, not_true_eq_false, not_false_eq_true, Nat.reduceEqDiff, eq_self, Nat.reduceAdd, Nat.reduceMul, suG hS ha, e3, e4, fa_and]
  have e : (nI (s &&& p) = nI u) = (lW g F s = true) := by
    rw [nn_eq (by omega) (by omega), lW_iff]
    apply propext
    constructor
    · intro h i hi hne
      have := congrArg (fun x => Nat.testBit x i) h
      simp [Nat.testBit_and, e5, e6, hi, hne] at this
      exact this
    · intro h
      apply Nat.eq_of_testBit_eq
      intro i
      rw [Nat.testBit_and, e5, e6]
      by_cases hi : i < gSz g
      · by_cases hne : F (48 + i) = 0
        · simp [hi, hne]
        · rw [h i hi hne]; simp [hi, hne]
      · simp [hi]
  simp only [e]
  split <;> rfl
theorem lawfulBy_ok (hS : Shp σ) (ha : σ.1 a = (20, 66)) {k s : Nat} (hs : s < 2147483648) (hk : k ≤ 16) (hp : ∀ i, i < k → I a (48 + i) = 0 ∨ I a (48 + i) = 1 ∨ I a (48 + i) = 2) : f_X12_isLawfulBy (xw σ I) a (nI s) (nI k) = some (if (List.range k).all (fun i => decide (I a (48 + i) = 0) || (s.testBit i == decide (I a (48 + i) = 1))) then 1 else 0) := by
  unfold f_X12_isLawfulBy
  have hv : ∀ i, i < k → xaI (xw σ I) 20 a ((48 : Int32) + nI i) = some (I a (48 + i)) := fun i hi => by
    rw [show (48 : Int32) = nI 48 from rfl, nn_add]; exact xw_aI ha (by omega) (by decide)
  refine xallL (fun i : Nat => nI i) k _ rfl (fun i hi hpi => ?_) (fun i hi hpi => ?_) ?_
  · simp only [f_X12_isLawfulBy_b2]
    rw [if_neg (by rw [nn_le (by omega) (by omega)]; omega), hv i hi, Option.bind_some, Option.bind_some, nn_bit hs (by omega), ← nI_succ]
    rcases hp i hi with z | z | z
    · rw [z, if_pos (by decide)]
    · rw [z, if_neg (by decide)]
      rw [z] at hpi
      have : s.testBit i = true := by simpa using hpi
      rw [this, if_pos (by decide)]
    · rw [z, if_neg (by decide)]
      rw [z] at hpi
      have : s.testBit i = false := by simpa using hpi
      rw [this, if_pos (by decide)]
  · simp only [f_X12_isLawfulBy_b2]
    rw [if_neg (by rw [nn_le (by omega) (by omega)]; omega), hv i hi, Option.bind_some, Option.bind_some, nn_bit hs (by omega)]
    rcases hp i hi with z | z | z
    · rw [z] at hpi; simp at hpi
    · rw [z, if_neg (by decide)]
      rw [z] at hpi
      have : s.testBit i = false := by simpa using hpi
      rw [this, if_neg (by decide)]
      rfl
    · rw [z, if_neg (by decide)]
      rw [z] at hpi
      have : s.testBit i = true := by simpa using hpi
      rw [this, if_neg (by decide)]
      rfl
  · simp only [f_X12_isLawfulBy_b2]
    rw [if_pos (by rw [nn_le (by omega) (by omega)]; exact Nat.le_refl _)]
    rfl
def isB (g : GD) (F : Nat → Int32) (x : Int32) : Bool := decide (0 ≤ x.toInt) && decide (x.toInt < (gSt g : Int)) && lW g F x.toInt.toNat
theorem isB_t {x : Int32} (h : isB g F x = true) : ∃ s, s < gSt g ∧ x = nI s ∧ lW g F s = true := by
  unfold isB at h
  simp only [Bool.and_eq_true, decide_eq_true_eq] at h
  refine ⟨x.toInt.toNat, by omega, ?_, h.2⟩
  rw [iI_n, Int.toNat_of_nonneg h.1.1]
  exact iI_of x
theorem isB_n (hg : g ∈ gAll) {s : Nat} (h : s < gSt g) : isB g F (nI s) = lW g F s := by
  have := (gSt_b hg).1
  unfold isB
  rw [nI_toInt (by omega)]
  have h2 : ((s : Int) < (gSt g : Int)) := by omega
  simp [h2]
theorem isLawful12_ok (hS : Shp σ) (hG : GRD I g) (ho : RO g (I 191)) (x : Int32) : f_X12_isLawful (xw σ I) 183 x = some (if isB g (I 191) x then 1 else 0) := by
  have h16 := (gAll_b g hG.1).2.2.1
  have hSt := (gSt_b hG.1).1
  unfold f_X12_isLawful
  simp (disch := first | assumption | omega) only [Option.bind_some, Option.map_some, xw_gR, xw_gN, xw_al, xw_ck, xw_uI, xw_ur, xup_at, xur_at, if_true, if_false, reduceIte, and_true, true_and, and_false, false_and, not_true_eq_false, not_false_eq_true, Nat.reduceEqDiff, eq_self, Nat.reduceAdd, Nat.reduceMul, kC1, kG1, kP1, kR1_0, kR1_1, kR1_2, kR1_3, kR1_4, kR1_5, kR1_6, kR1_7, kR1_8, kR1_9, kR1_10, kR1_11, kR1_12, kR1_13, kC2, kG2, kP2, kR2_0, kR2_1, kC3, kG3, kP3, kR3_0, kR3_1, kR3_2, kR3_3, kL4, kA4, kS4, kL5, kA5, kS5, kL6, kA6, kS6, kL7, kA7, kS7, kC8, kG8, kP8, kR8_0, kR8_1, kL9, kA9, kS9, kL10, kA10, kS10, kC11, kG11, kP11, kR11_0, kR11_1, kR11_2, kR11_3, kL12, kA12, kS12, kL13, kA13, kS13, kL14, kA14, kS14, kL15, kA15, kS15, kC16, kG16, kP16, kR16_0, kR16_1, kL17, kA17, kS17, kL18, kA18, kS18, kC19, kG19, kP19, kR19_0, kL20, kL141, kL146, kA146, kS146, kL151, kA151, kS151, kL156, kA156, kS156, kC157, kG157, kP157, kR157_0, kR157_1, kL158, kA158, kS158, kL159, kA159, kS159, kC161, kG161, kP161, kR161_0, kR161_1, kL162, kA162, kS162, kL163, kA163, kS163, kC165, kG165, kP165, kR165_0, kR165_1, kR165_2, kR165_3, kL166, kA166, kS166, kL167, kA167, kS167, kL168, kA168, kS168, kL169, kA169, kS169, kC170, kG170, kP170, kR170_0, kR170_1, kR170_2, kL171, kA171, kS171, kL172, kA172, kS172, kL173, kA173, kS173, kC174, kG174, kP174, kR174_0, kR174_1, kR174_2, kR174_3, kR174_4, kL175, kA175, kS175, kL176, kA176, kS176, kL177, kA177, kS177, kL178, kA178, kS178, kL179, kC180, kG180, kP180, kL181, kL182, kA182, kS182, kC183, kG183, kP183, kR183_1, kR183_3, kR183_5, kR183_6, kR183_7, kR183_8, kR183_9, kR183_21, kR183_26, kR183_27, kR183_30, kR183_31, kR183_33, kR183_34, kR183_36, kR183_37, kR183_38, kR183_39, kR183_40, kR183_41, kR183_42, kR183_43, kR183_44, kL184, kA184, kS184, kL185, kA185, kS185, kL186, kA186, kS186, kL187, kA187, kS187, kL188, kA188, kS188, kL189, kL190, kL191, kA191, kS191, kL192, kA192, kS192, kL193, kA193, kS193, kL194, kA194, kS194, kL195, kA195, kS195, kL196, kA196, kS196, kL197, kA197, kS197, kL198, kA198, kS198, kL199, kA199, kS199, kL200, kA200, kS200, kL201, kL202, kA202, kS202, kL203, kA203, kS203, kL204, kA204, kS204, kL205, kL206, kA206, kS206, states12_ok hS hG, sites_ok hS hG]
  unfold f_X12_in
  have e : nI (gSt g) - 1 = iI ((gSt g : Int) - 1) := by rw [iI_n, show (1 : Int32) = iI 1 from rfl, iI_sub]
  have hr := x.toInt_lt
  have hl := x.le_toInt
  have c1 : (x < 0) = (x.toInt < 0) := propext (fa_lt _ _)
  have c2 : (iI ((gSt g : Int) - 1) < x) = ((gSt g : Int) - 1 < x.toInt) := by
    rw [fa_lt, iI_ti (by omega) (by omega)]
  simp only [e, c1, c2]
  by_cases h1 : x.toInt < 0
  · rw [if_pos h1]
    have : isB g (I 191) x = false := by unfold isB; simp; omega
    rw [this]; rfl
  · by_cases h2 : (gSt g : Int) - 1 < x.toInt
    · rw [if_neg h1, if_pos h2]
      have : isB g (I 191) x = false := by unfold isB; simp; omega
      rw [this]; rfl
    · rw [if_neg h1, if_neg h2, Option.bind_some, if_neg (by decide)]
      have hx0 : ¬ x < 0 := by rw [c1]; exact h1
      obtain ⟨s, hs, rfl⟩ := nn_of hx0
      rw [nI_toInt hs] at h2
      rw [isB_n hG.1 (by omega), lawfulBy_ok hS (xw_K hS (by decide) (by decide) (by decide)) hs h16 (fun i hi => (ho.2.1 i (by omega)).1), Option.bind_some]
      show _ = some (if lW g (I 191) s = true then 1 else 0)
      unfold lW
      cases (List.range (gSz g)).all (fun i => decide (I 191 (48 + i) = 0) || (s.testBit i == decide (I 191 (48 + i) = 1))) <;> rfl
theorem bitsOf_l : ∀ (m c s : Nat), m ≤ 31 → s < 2 ^ m → xloop f_X12_bitsOf_b4 (nI c, nI s) = some (nI (c + fb_ct (fun i => s.testBit i) m)) := by
  intro m
  induction m with
  | zero =>
    intro c s hm hs
    have : s = 0 := by simpa using hs
    subst this
    exact xloop_end rfl
  | succ m ih =>
    intro c s hm hs
    have hsb : s < 2147483648 := Nat.lt_of_lt_of_le hs (Nat.pow_le_pow_right (by decide) hm)
    by_cases h0 : s = 0
    · subst h0
      have : fb_ct (fun i => (0 : Nat).testBit i) (m + 1) = 0 := fb_ct_zero.mpr (fun k _ => Nat.zero_testBit k)
      rw [this]
      exact xloop_end rfl
    · have hst : f_X12_bitsOf_b4 (nI c, nI s) = some (.inl (nI (c + s % 2), nI (s / 2))) := by
        simp only [f_X12_bitsOf_b4]
        rw [if_neg (nI_nle (by omega) (by omega)), show (1 : Int32) = nI (2 ^ 1 - 1) from rfl, fa_mask, nn_add]
        have := nn_shr (a := s) (k := 1) hsb (by decide)
        rw [show nI (2 ^ 1 - 1) = nI 1 from rfl, this]
      rw [xloop_step hst, ih (c + s % 2) (s / 2) (by omega) (by rw [Nat.pow_succ] at hs; omega)]
      congr 2
      rw [Nat.add_comm m 1, fb_ct_split]
      have e1 : fb_ct (fun i => s.testBit i) 1 = s % 2 := by
        show 0 + (if s.testBit 0 then 1 else 0) = s % 2
        rw [Nat.testBit_zero]
        by_cases q : s % 2 = 1
        · simp [q]
        · simp [q]; omega
      have e2 : fb_ct (fun i => s.testBit (1 + i)) m = fb_ct (fun i => (s / 2).testBit i) m := fb_ct_cong (fun i _ => by rw [Nat.add_comm 1 i, Nat.testBit_succ])
      rw [e1, e2]; omega
theorem bitsOf_ok {s : Nat} (hs : s < 65536) : f_X12_bitsOf (nI s) = some (nI (pC s)) := by
  unfold f_X12_bitsOf pC
  have := bitsOf_l 16 0 s (by decide) hs
  rw [Nat.zero_add] at this
  exact this
end STATES
end
section
/-! what the model knows -/
def knI (I : Nat → Nat → Int32) (g : GD) (F : Nat → Int32) (s : Nat) : Nat → Nat → Int32 := fun c k => if c = 196 ∧ k < s then (if lW g F k then iI (eE g (zR F) k) else nI 100000) else if c = 197 ∧ k < 301 then nI (fb_ct (lE g F ((k : Int) - 150)) s) else I c k
theorem knI_out {I : Nat → Nat → Int32} {g : GD} {F : Nat → Int32} {s c k : Nat} (h : c ≠ 196) (h2 : c ≠ 197) : knI I g F s c k = I c k := by
  unfold knI
  rw [if_neg (by omega), if_neg (by omega)]
theorem knI_no {I : Nat → Nat → Int32} {g : GD} {F : Nat → Int32} {s : Nat} (h : lW g F s = false) : xup (knI I g F s) 196 s (nI 100000) = knI I g F (s + 1) := by
  funext c k
  simp only [xup_at, knI]
  by_cases h0 : c = 196
  · subst h0
    by_cases h1 : k = s
    · subst h1; simp [h]
    · have : (k < s + 1) ↔ (k < s) := by omega
      simp [h1, this]
  · by_cases h1 : c = 197
    · subst h1
      have e : fb_ct (lE g F ((k : Int) - 150)) (s + 1) = fb_ct (lE g F ((k : Int) - 150)) s := by
        rw [fb_ct_succ]
        unfold lE
        rw [h]; simp
      simp [e]
    · simp [h0, h1]
theorem knI_yes {I : Nat → Nat → Int32} {g : GD} {F : Nat → Int32} {s e : Nat} (h : lW g F s = true) (he : eE g (zR F) s = (e : Int) - 150) (he2 : e < 301) : xup (xup (knI I g F s) 196 s (iI (eE g (zR F) s))) 197 e (nI (fb_ct (lE g F ((e : Int) - 150)) s) + 1) = knI I g F (s + 1) := by
  funext c k
  simp only [xup_at, knI]
  by_cases h0 : c = 196
  · subst h0
    by_cases h1 : k = s
    · subst h1; simp [h]
    · have : (k < s + 1) ↔ (k < s) := by omega
      simp [h1, this]
  · by_cases h1 : c = 197
    · subst h1
      by_cases h2 : k = e
      · subst h2
        have e1 : fb_ct (lE g F ((k : Int) - 150)) (s + 1) = fb_ct (lE g F ((k : Int) - 150)) s + 1 := by
          rw [fb_ct_succ]
          unfold lE
          rw [h, he]; simp
        simp [he2, e1, nI_succ]
      · have e1 : fb_ct (lE g F ((k : Int) - 150)) (s + 1) = fb_ct (lE g F ((k : Int) - 150)) s := by
          rw [fb_ct_succ]
          have : lE g F ((k : Int) - 150) s = false := by
            unfold lE
            rw [h, he]
            have : ¬ ((e : Int) - 150 = (k : Int) - 150) := by omega
            simp [this]
          rw [this]; simp
        simp [h2, e1]
    · simp [h0, h1]
/-- the levels among 301, among 289 -/
def lvQ (g : GD) (F : Nat → Int32) (e : Nat) : Bool := decide (0 < lC g F ((e : Int) - 150))
theorem lC_big {g : GD} (hg : g ∈ gAll) {F : Nat → Int32} (ho : RO g F) {e : Int} (h : e < -144 ∨ 144 < e) : lC g F e = 0 := by
  unfold lC
  rw [fb_ct_zero]
  intro s _
  unfold lE
  have := eE_b hg ho s
  have : ¬ eE g (zR F) s = e := by omega
  simp [this]
theorem lvQ_P {g : GD} {F : Nat → Int32} (k : Nat) : lvQ g F (6 + k) = lvP g F k := by
  unfold lvQ lvP
  rw [show (((6 + k : Nat) : Int) - 150) = (k : Int) - 144 by omega]
theorem lvQ_ct {g : GD} (hg : g ∈ gAll) {F : Nat → Int32} (ho : RO g F) (k : Nat) : fb_ct (lvQ g F) (6 + k) = fb_ct (lvP g F) k := by
  rw [fb_ct_split]
  have : fb_ct (lvQ g F) 6 = 0 := fb_ct_zero.mpr (fun e he => by
    unfold lvQ
    rw [lC_big hg ho (by omega)]; rfl)
  rw [this, Nat.zero_add]
  exact fb_ct_cong (fun i _ => lvQ_P i)
theorem lvQ_all {g : GD} (hg : g ∈ gAll) {F : Nat → Int32} (ho : RO g F) : fb_ct (lvQ g F) 301 = lvN g F := by
  rw [show (301 : Nat) = 295 + 6 from rfl, fb_ct_split, show (295 : Nat) = 6 + 289 from rfl, lvQ_ct hg ho]
  have : fb_ct (fun k => lvQ g F (6 + 289 + k)) 6 = 0 := fb_ct_zero.mpr (fun e he => by
    unfold lvQ
    rw [lC_big hg ho (by omega)]; rfl)
  rw [this, Nat.add_zero]
  unfold lvN
  rfl
section KNOWS
variable {σ : XS} {I : Nat → Nat → Int32} {g : GD}
theorem knows_l3 (hS : Shp σ) (hg : g ∈ gAll) {F : Nat → Int32} (ho : RO g F) (hM : ∀ e, e < 301 → I 197 e = nI (lC g F ((e : Int) - 150))) (h35 : I 183 35 = 0) :
    ∃ J, xloop (f_X12_knows_b122 183) ((0 : Int32), xw σ I) = some (xw σ J) ∧ J 183 35 = nI (lvN g F) ∧ (∀ k, k < 289 → lvP g F k = true → J 198 (fb_ct (lvP g F) k) = iI ((k : Int) - 144)) ∧ ∀ a k, a ≠ 198 → ¬ (a = 183 ∧ k = 35) → J a k = I a k := by
  have hSt := (gSt_b hg).1
  have key : ∃ τ, xloop (f_X12_knows_b122 183) (nI 0, xw σ I) = some τ ∧ ∃ J, τ = xw σ J ∧ J 183 35 = nI (fb_ct (lvQ g F) 301) ∧ (∀ e, e < 301 → lvQ g F e = true → J 198 (fb_ct (lvQ g F) e) = iI ((e : Int) - 150)) ∧ ∀ a k, a ≠ 198 → ¬ (a = 183 ∧ k = 35) → J a k = I a k := by
    refine xforI (fun i x => ∃ J, x = (nI i, xw σ J) ∧ J 183 35 = nI (fb_ct (lvQ g F) i) ∧ (∀ e, e < i → lvQ g F e = true → J 198 (fb_ct (lvQ g F) e) = iI ((e : Int) - 150)) ∧ ∀ a k, a ≠ 198 → ¬ (a = 183 ∧ k = 35) → J a k = I a k) 301 ⟨I, rfl, h35, fun e he => by omega, fun _ _ _ _ => rfl⟩ ?_ ?_
    · rintro i x hi ⟨J, rfl, j1, j2, j3⟩
      have hb : lC g F ((i : Int) - 150) ≤ 65536 := Nat.le_trans (fb_ct_le _ _) hSt
      have hc := fb_ct_le (lvQ g F) i
      have hz : (nI (lC g F ((i : Int) - 150)) = 0) = (lC g F ((i : Int) - 150) = 0) := nn_eq (b := 0) (by omega) (by decide)
      by_cases h0 : lC g F ((i : Int) - 150) = 0
      · have hq : lvQ g F i = false := by unfold lvQ; rw [h0]; rfl
        refine ⟨(nI (i + 1), xw σ J), ?_, J, rfl, ?_, ?_, j3⟩
        · simp only [f_X12_knows_b122]
          rw [if_neg (by rw [show (301 : Int32) = nI 301 from rfl, nn_le (by omega) (by omega)]; omega)]
          simp (disch := first | assumption | omega) only [Option.bind_some, Option.map_some, xw_gR, xw_gN, xw_al, xw_ck, xw_uI, xw_ur, xup_at, xur_at, if_true, if_false, reduceIte, and_true, true_and, and_false, false_and, not_true_eq_false, not_false_eq_true, Nat.reduceEqDiff, eq_self, Nat.reduceAdd, Nat.reduceMul, kC1, kG1, kP1, kR1_0, kR1_1, kR1_2, kR1_3, kR1_4, kR1_5, kR1_6, kR1_7, kR1_8, kR1_9, kR1_10, kR1_11, kR1_12, kR1_13, kC2, kG2, kP2, kR2_0, kR2_1, kC3, kG3, kP3, kR3_0, kR3_1, kR3_2, kR3_3, kL4, kA4, kS4, kL5, kA5, kS5, kL6, kA6, kS6, kL7, kA7, kS7, kC8, kG8, kP8, kR8_0, kR8_1, kL9, kA9, kS9, kL10, kA10, kS10, kC11, kG11, kP11, kR11_0, kR11_1, kR11_2, kR11_3, kL12, kA12, kS12, kL13, kA13, kS13, kL14, kA14, kS14, kL15, kA15, kS15, kC16, kG16, kP16, kR16_0, kR16_1, kL17, kA17, kS17, kL18, kA18, kS18, kC19, kG19, kP19, kR19_0, kL20, kL141, kL146, kA146, kS146, kL151, kA151, kS151, kL156, kA156, kS156, kC157, kG157, kP157, kR157_0, kR157_1, kL158, kA158, kS158, kL159, kA159, kS159, kC161, kG161, kP161, kR161_0, kR161_1, kL162, kA162, kS162, kL163, kA163, kS163, kC165, kG165, kP165, kR165_0, kR165_1, kR165_2, kR165_3, kL166, kA166, kS166, kL167, kA167, kS167, kL168, kA168, kS168, kL169, kA169, kS169, kC170, kG170, kP170, kR170_0, kR170_1, kR170_2, kL171, kA171, kS171, kL172, kA172, kS172, kL173, kA173, kS173, kC174, kG174, kP174, kR174_0, kR174_1, kR174_2, kR174_3, kR174_4, kL175, kA175, kS175, kL176, kA176, kS176, kL177, kA177, kS177, kL178, kA178, kS178, kL179, kC180, kG180, kP180, kL181, kL182, kA182, kS182, kC183, kG183, kP183, kR183_1, kR183_3, kR183_5, kR183_6, kR183_7, kR183_8, kR183_9, kR183_21, kR183_26, kR183_27, kR183_30, kR183_31, kR183_33, kR183_34, kR183_36, kR183_37, kR183_38, kR183_39, kR183_40, kR183_41, kR183_42, kR183_43, kR183_44, kL184, kA184, kS184, kL185, kA185, kS185, kL186, kA186, kS186, kL187, kA187, kS187, kL188, kA188, kS188, kL189, kL190, kL191, kA191, kS191, kL192, kA192, kS192, kL193, kA193, kS193, kL194, kA194, kS194, kL195, kA195, kS195, kL196, kA196, kS196, kL197, kA197, kS197, kL198, kA198, kS198, kL199, kA199, kS199, kL200, kA200, kS200, kL201, kL202, kA202, kS202, kL203, kA203, kS203, kL204, kA204, kS204, kL205, kL206, kA206, kS206, j3 197 i (by decide) (by omega), hM i hi, h0, show (nI 0 = 0) = True from eq_true rfl]
          rw [nI_succ]
        · rw [j1, fb_ct_succ, hq]; simp
        · intro e he hq2
          by_cases hei : e = i
          · rw [hei, hq] at hq2; cases hq2
          · exact j2 e (by omega) hq2
      · have hq : lvQ g F i = true := by unfold lvQ; simp; omega
        refine ⟨(nI (i + 1), xw σ (xup (xup J 198 (fb_ct (lvQ g F) i) (iI ((i : Int) - 150))) 183 35 (nI (fb_ct (lvQ g F) i + 1)))), ?_, _, rfl, ?_, ?_, ?_⟩
        · simp only [f_X12_knows_b122]
          rw [if_neg (by rw [show (301 : Int32) = nI 301 from rfl, nn_le (by omega) (by omega)]; omega)]
          have e150 : nI i - (150 : Int32) = iI ((i : Int) - 150) := by rw [iI_n, show (150 : Int32) = iI 150 from rfl, iI_sub]
          simp (disch := first | assumption | omega) only [Option.bind_some, Option.map_some, xw_gR, xw_gN, xw_al, xw_ck, xw_uI, xw_ur, xup_at, xur_at, if_true, if_false, reduceIte, and_true, true_and, and_false, false_and, not_true_eq_false, not_false_eq_true, Nat.reduceEqDiff, eq_self, Nat.reduceAdd, Nat.reduceMul, kC1, kG1, kP1, kR1_0, kR1_1, kR1_2, kR1_3, kR1_4, kR1_5, kR1_6, kR1_7, kR1_8, kR1_9, kR1_10, kR1_11, kR1_12, kR1_13, kC2, kG2, kP2, kR2_0, kR2_1, kC3, kG3, kP3, kR3_0, kR3_1, kR3_2, kR3_3, kL4, kA4, kS4, kL5, kA5, kS5, kL6, kA6, kS6, kL7, kA7, kS7, kC8, kG8, kP8, kR8_0, kR8_1, kL9, kA9, kS9, kL10, kA10, kS10, kC11, kG11, kP11, kR11_0, kR11_1, kR11_2, kR11_3, kL12, kA12, kS12, kL13, kA13, kS13, kL14, kA14, kS14, kL15, kA15, kS15, kC16, kG16, kP16, kR16_0, kR16_1, kL17, kA17, kS17, kL18, kA18, kS18, kC19, kG19, kP19, kR19_0, kL20, kL141, kL146, kA146, kS146, kL151, kA151, kS151, kL156, kA156, kS156, kC157, kG157, kP157, kR157_0, kR157_1, kL158, kA158, kS158, kL159, kA159, kS159, kC161, kG161, kP161, kR161_0, kR161_1, kL162, kA162, kS162, kL163, kA163, kS163, kC165, kG165, kP165, kR165_0, kR165_1, kR165_2, kR165_3, kL166, kA166, kS166, kL167, kA167, kS167, kL168, kA168, kS168, kL169, kA169, kS169, kC170, kG170, kP170, kR170_0, kR170_1, kR170_2, kL171, kA171, kS171, kL172, kA172, kS172, kL173, kA173, kS173, kC174, kG174, kP174, kR174_0, kR174_1, kR174_2, kR174_3, kR174_4, kL175, kA175, kS175, kL176, kA176, kS176, kL177, kA177, kS177, kL178, kA178, kS178, kL179, kC180, kG180, kP180, kL181, kL182, kA182, kS182, kC183, kG183, kP183, kR183_1, kR183_3, kR183_5, kR183_6, kR183_7, kR183_8, kR183_9, kR183_21, kR183_26, kR183_27, kR183_30, kR183_31, kR183_33, kR183_34, kR183_36, kR183_37, kR183_38, kR183_39, kR183_40, kR183_41, kR183_42, kR183_43, kR183_44, kL184, kA184, kS184, kL185, kA185, kS185, kL186, kA186, kS186, kL187, kA187, kS187, kL188, kA188, kS188, kL189, kL190, kL191, kA191, kS191, kL192, kA192, kS192, kL193, kA193, kS193, kL194, kA194, kS194, kL195, kA195, kS195, kL196, kA196, kS196, kL197, kA197, kS197, kL198, kA198, kS198, kL199, kA199, kS199, kL200, kA200, kS200, kL201, kL202, kA202, kS202, kL203, kA203, kS203, kL204, kA204, kS204, kL205, kL206, kA206, kS206, j3 197 i (by decide) (by omega), hM i hi, hz, h0, j1, e150]
          rw [← nI_succ, ← nI_succ]
        · rw [xup_at, if_pos ⟨rfl, rfl⟩, fb_ct_succ, hq]; simp
        · intro e he hq2
          rw [xup_at, if_neg (by omega), xup_at]
          by_cases hei : e = i
          · rw [hei, if_pos ⟨rfl, rfl⟩]
          · rw [if_neg, j2 e (by omega) hq2]
            rintro ⟨_, z⟩
            exact hei (fb_ct_kth_one hq2 hq z)
        · intro a k h1 h2
          rw [xup_at, if_neg (by omega), xup_at, if_neg (by omega)]
          exact j3 a k h1 h2
    · rintro x ⟨J, rfl, j1, j2, j3⟩
      refine ⟨xw σ J, ?_, J, rfl, j1, j2, j3⟩
      simp only [f_X12_knows_b122]
      rw [if_pos (by decide)]
      rfl
  obtain ⟨τ, h1, J, rfl, j1, j2, j3⟩ := key
  refine ⟨J, h1, by rw [j1, lvQ_all hg ho], fun k hk hp => ?_, j3⟩
  have := j2 (6 + k) (by omega) (by rw [lvQ_P]; exact hp)
  rw [lvQ_ct hg ho] at this
  rw [this]
  congr 1; omega
theorem knows_l2 (hS : Shp σ) (hG : GRD I g) {F : Nat → Int32} (hF : F = I 191) (ho : RO g F) :
    ∃ J, xloop (f_X12_knows_b37 183) ((0 : Int32), xw σ (knI I g F 0)) = some (xw σ J) ∧ KNK J g F ∧ ∀ a k, ¬ (196 ≤ a ∧ a ≤ 198) → ¬ (a = 183 ∧ k = 35) → J a k = I a k := by
  have hg := hG.1
  have h16 := (gAll_b g hg).2.2.1
  have hSt := (gSt_b hg).1
  have hM0 : ∀ e, e < 301 → xup (knI I g F (gSt g)) 183 35 0 197 e = nI (lC g F ((e : Int) - 150)) := by
    intro e he
    rw [xup_at, if_neg (by omega)]
    unfold knI
    rw [if_neg (by omega), if_pos ⟨rfl, he⟩]
    rfl
  obtain ⟨J, e1, j1, j2, j3⟩ := knows_l3 (I := xup (knI I g F (gSt g)) 183 35 0) hS hg ho hM0 (by rw [xup_at, if_pos ⟨rfl, rfl⟩])
  refine ⟨J, ?_, ⟨fun s hs => ?_, fun e he => ?_, j1, j2⟩, fun a k h1 h2 => ?_⟩
  · have hGk : ∀ s, GRD (knI I g F s) g := fun s => GRD_c (fun a k z => knI_out (by unfold sGRD at z; omega) (by unfold sGRD at z; omega)) hG
    refine xforE (fun s : Nat => (nI s, xw σ (knI I g F s))) (gSt g) rfl (fun s hs => ?_) ?_
    · have hrow : knI I g F s 191 = F := by funext k; rw [hF, knI_out (by decide) (by decide)]
      have hL := isLawful12_ok (I := knI I g F s) hS (hGk s) (by rw [hrow]; exact ho) (nI s)
      rw [hrow, isB_n hg hs] at hL
      simp only [f_X12_knows_b37]
      simp (disch := first | assumption | omega) only [Option.bind_some, Option.map_some, xw_gR, xw_gN, xw_al, xw_ck, xw_uI, xw_ur, xup_at, xur_at, if_true, if_false, reduceIte, and_true, true_and, and_false, false_and, not_true_eq_false, not_false_eq_true, Nat.reduceEqDiff, eq_self, Nat.reduceAdd, Nat.reduceMul, kC1, kG1, kP1, kR1_0, kR1_1, kR1_2, kR1_3, kR1_4, kR1_5, kR1_6, kR1_7, kR1_8, kR1_9, kR1_10, kR1_11, kR1_12, kR1_13, kC2, kG2, kP2, kR2_0, kR2_1, kC3, kG3, kP3, kR3_0, kR3_1, kR3_2, kR3_3, kL4, kA4, kS4, kL5, kA5, kS5, kL6, kA6, kS6, kL7, kA7, kS7, kC8, kG8, kP8, kR8_0, kR8_1, kL9, kA9, kS9, kL10, kA10, kS10, kC11, kG11, kP11, kR11_0, kR11_1, kR11_2, kR11_3, kL12, kA12, kS12, kL13, kA13, kS13, kL14, kA14, kS14, kL15, kA15, kS15, kC16, kG16, kP16, kR16_0, kR16_1, kL17, kA17, kS17, kL18, kA18, kS18, kC19, kG19, kP19, kR19_0, kL20, kL141, kL146, kA146, kS146, kL151, kA151, kS151, kL156, kA156, kS156, kC157, kG157, kP157, kR157_0, kR157_1, kL158, kA158, kS158, kL159, kA159, kS159, kC161, kG161, kP161, kR161_0, kR161_1, kL162, kA162, kS162, kL163, kA163, kS163, kC165, kG165, kP165, kR165_0, kR165_1, kR165_2, kR165_3, kL166, kA166, kS166, kL167, kA167, kS167, kL168, kA168, kS168, kL169, kA169, kS169, kC170, kG170, kP170, kR170_0, kR170_1, kR170_2, kL171, kA171, kS171, kL172, kA172, kS172, kL173, kA173, kS173, kC174, kG174, kP174, kR174_0, kR174_1, kR174_2, kR174_3, kR174_4, kL175, kA175, kS175, kL176, kA176, kS176, kL177, kA177, kS177, kL178, kA178, kS178, kL179, kC180, kG180, kP180, kL181, kL182, kA182, kS182, kC183, kG183, kP183, kR183_1, kR183_3, kR183_5, kR183_6, kR183_7, kR183_8, kR183_9, kR183_21, kR183_26, kR183_27, kR183_30, kR183_31, kR183_33, kR183_34, kR183_36, kR183_37, kR183_38, kR183_39, kR183_40, kR183_41, kR183_42, kR183_43, kR183_44, kL184, kA184, kS184, kL185, kA185, kS185, kL186, kA186, kS186, kL187, kA187, kS187, kL188, kA188, kS188, kL189, kL190, kL191, kA191, kS191, kL192, kA192, kS192, kL193, kA193, kS193, kL194, kA194, kS194, kL195, kA195, kS195, kL196, kA196, kS196, kL197, kA197, kS197, kL198, kA198, kS198, kL199, kA199, kS199, kL200, kA200, kS200, kL201, kL202, kA202, kS202, kL203, kA203, kS203, kL204, kA204, kS204, kL205, kL206, kA206, kS206, states12_ok hS (hGk s), nn_le, show ¬ (gSt g ≤ s) by omega, hL]
      cases hl : lW g F s with
      | false =>
        rw [if_pos (by decide)]
        unfold f_X12_knows_j77
        simp (disch := first | assumption | omega) only [Option.bind_some, Option.map_some, xw_gR, xw_gN, xw_al, xw_ck, xw_uI, xw_ur, xup_at, xur_at, if_true, if_false, reduceIte, and_true, true_and, and_false, false_and, not_true_eq_false, not_false_eq_true, Nat.reduceEqDiff, eq_self, Nat.reduceAdd, Nat.reduceMul, kC1, kG1, kP1, kR1_0, kR1_1, kR1_2, kR1_3, kR1_4, kR1_5, kR1_6, kR1_7, kR1_8, kR1_9, kR1_10, kR1_11, kR1_12, kR1_13, kC2, kG2, kP2, kR2_0, kR2_1, kC3, kG3, kP3, kR3_0, kR3_1, kR3_2, kR3_3, kL4, kA4, kS4, kL5, kA5, kS5, kL6, kA6, kS6, kL7, kA7, kS7, kC8, kG8, kP8, kR8_0, kR8_1, kL9, kA9, kS9, kL10, kA10, kS10, kC11, kG11, kP11, kR11_0, kR11_1, kR11_2, kR11_3, kL12, kA12, kS12, kL13, kA13, kS13, kL14, kA14, kS14, kL15, kA15, kS15, kC16, kG16, kP16, kR16_0, kR16_1, kL17, kA17, kS17, kL18, kA18, kS18, kC19, kG19, kP19, kR19_0, kL20, kL141, kL146, kA146, kS146, kL151, kA151, kS151, kL156, kA156, kS156, kC157, kG157, kP157, kR157_0, kR157_1, kL158, kA158, kS158, kL159, kA159, kS159, kC161, kG161, kP161, kR161_0, kR161_1, kL162, kA162, kS162, kL163, kA163, kS163, kC165, kG165, kP165, kR165_0, kR165_1, kR165_2, kR165_3, kL166, kA166, kS166, kL167, kA167, kS167, kL168, kA168, kS168, kL169, kA169, kS169, kC170, kG170, kP170, kR170_0, kR170_1, kR170_2, kL171, kA171, kS171, kL172, kA172, kS172, kL173, kA173, kS173, kC174, kG174, kP174, kR174_0, kR174_1, kR174_2, kR174_3, kR174_4, kL175, kA175, kS175, kL176, kA176, kS176, kL177, kA177, kS177, kL178, kA178, kS178, kL179, kC180, kG180, kP180, kL181, kL182, kA182, kS182, kC183, kG183, kP183, kR183_1, kR183_3, kR183_5, kR183_6, kR183_7, kR183_8, kR183_9, kR183_21, kR183_26, kR183_27, kR183_30, kR183_31, kR183_33, kR183_34, kR183_36, kR183_37, kR183_38, kR183_39, kR183_40, kR183_41, kR183_42, kR183_43, kR183_44, kL184, kA184, kS184, kL185, kA185, kS185, kL186, kA186, kS186, kL187, kA187, kS187, kL188, kA188, kS188, kL189, kL190, kL191, kA191, kS191, kL192, kA192, kS192, kL193, kA193, kS193, kL194, kA194, kS194, kL195, kA195, kS195, kL196, kA196, kS196, kL197, kA197, kS197, kL198, kA198, kS198, kL199, kA199, kS199, kL200, kA200, kS200, kL201, kL202, kA202, kS202, kL203, kA203, kS203, kL204, kA204, kS204, kL205, kL206, kA206, kS206, show (100000 : Int32) = nI 100000 from rfl, nn_le, Nat.le_refl]
        rw [knI_no hl, nI_succ]
      | true =>
        rw [if_neg (by decide)]
        have hEb := eE_b hg ho s
        obtain ⟨e, he, he2⟩ : ∃ e : Nat, eE g (zR F) s = (e : Int) - 150 ∧ e < 301 := ⟨(eE g (zR F) s + 150).toNat, by omega, by omega⟩
        have hE := energy12_ok (I := knI I g F s) (s := s) (r := g.2.1) hS (hGk s) (xw_K hS (a := 191) (by decide) (by decide) (by decide)) (by omega) (Nat.le_refl _)
        rw [hrow] at hE
        have hpa := eP_all hg (zR F) s
        unfold gSz at hpa
        rw [hpa] at hE
        have h18 := (hGk s).2.2.2.2.2.2.2.2.2.1
        simp (disch := first | assumption | omega) only [Option.bind_some, Option.map_some, xw_gR, xw_gN, xw_al, xw_ck, xw_uI, xw_ur, xup_at, xur_at, if_true, if_false, reduceIte, and_true, true_and, and_false, false_and, not_true_eq_false, not_false_eq_true, Nat.reduceEqDiff, eq_self, Nat.reduceAdd, Nat.reduceMul, kC1, kG1, kP1, kR1_0, kR1_1, kR1_2, kR1_3, kR1_4, kR1_5, kR1_6, kR1_7, kR1_8, kR1_9, kR1_10, kR1_11, kR1_12, kR1_13, kC2, kG2, kP2, kR2_0, kR2_1, kC3, kG3, kP3, kR3_0, kR3_1, kR3_2, kR3_3, kL4, kA4, kS4, kL5, kA5, kS5, kL6, kA6, kS6, kL7, kA7, kS7, kC8, kG8, kP8, kR8_0, kR8_1, kL9, kA9, kS9, kL10, kA10, kS10, kC11, kG11, kP11, kR11_0, kR11_1, kR11_2, kR11_3, kL12, kA12, kS12, kL13, kA13, kS13, kL14, kA14, kS14, kL15, kA15, kS15, kC16, kG16, kP16, kR16_0, kR16_1, kL17, kA17, kS17, kL18, kA18, kS18, kC19, kG19, kP19, kR19_0, kL20, kL141, kL146, kA146, kS146, kL151, kA151, kS151, kL156, kA156, kS156, kC157, kG157, kP157, kR157_0, kR157_1, kL158, kA158, kS158, kL159, kA159, kS159, kC161, kG161, kP161, kR161_0, kR161_1, kL162, kA162, kS162, kL163, kA163, kS163, kC165, kG165, kP165, kR165_0, kR165_1, kR165_2, kR165_3, kL166, kA166, kS166, kL167, kA167, kS167, kL168, kA168, kS168, kL169, kA169, kS169, kC170, kG170, kP170, kR170_0, kR170_1, kR170_2, kL171, kA171, kS171, kL172, kA172, kS172, kL173, kA173, kS173, kC174, kG174, kP174, kR174_0, kR174_1, kR174_2, kR174_3, kR174_4, kL175, kA175, kS175, kL176, kA176, kS176, kL177, kA177, kS177, kL178, kA178, kS178, kL179, kC180, kG180, kP180, kL181, kL182, kA182, kS182, kC183, kG183, kP183, kR183_1, kR183_3, kR183_5, kR183_6, kR183_7, kR183_8, kR183_9, kR183_21, kR183_26, kR183_27, kR183_30, kR183_31, kR183_33, kR183_34, kR183_36, kR183_37, kR183_38, kR183_39, kR183_40, kR183_41, kR183_42, kR183_43, kR183_44, kL184, kA184, kS184, kL185, kA185, kS185, kL186, kA186, kS186, kL187, kA187, kS187, kL188, kA188, kS188, kL189, kL190, kL191, kA191, kS191, kL192, kA192, kS192, kL193, kA193, kS193, kL194, kA194, kS194, kL195, kA195, kS195, kL196, kA196, kS196, kL197, kA197, kS197, kL198, kA198, kS198, kL199, kA199, kS199, kL200, kA200, kS200, kL201, kL202, kA202, kS202, kL203, kA203, kS203, kL204, kA204, kS204, kL205, kL206, kA206, kS206, h18]
        rw [hE, Option.bind_some]
        unfold f_X12_knows_j77
        have e150 : (150 : Int32) + iI (eE g (zR F) s) = nI e := by rw [show (150 : Int32) = iI 150 from rfl, iI_add, iI_n]; congr 1; omega
        have e1e : ((100000 : Int32) ≤ iI (eE g (zR F) s)) = False := by
          rw [show (100000 : Int32) = iI 100000 from rfl, iI_le (by omega) (by omega) (by omega) (by omega)]
          exact eq_false (by omega)
        have kv : knI I g F s 197 e = nI (fb_ct (lE g F ((e : Int) - 150)) s) := by
          unfold knI
          rw [if_neg (by omega), if_pos ⟨rfl, he2⟩]
        simp (disch := first | assumption | omega) only [Option.bind_some, Option.map_some, xw_gR, xw_gN, xw_al, xw_ck, xw_uI, xw_ur, xup_at, xur_at, if_true, if_false, reduceIte, and_true, true_and, and_false, false_and, not_true_eq_false, not_false_eq_true, Nat.reduceEqDiff, eq_self, Nat.reduceAdd, Nat.reduceMul, kC1, kG1, kP1, kR1_0, kR1_1, kR1_2, kR1_3, kR1_4, kR1_5, kR1_6, kR1_7, kR1_8, kR1_9, kR1_10, kR1_11, kR1_12, kR1_13, kC2, kG2, kP2, kR2_0, kR2_1, kC3, kG3, kP3, kR3_0, kR3_1, kR3_2, kR3_3, kL4, kA4, kS4, kL5, kA5, kS5, kL6, kA6, kS6, kL7, kA7, kS7, kC8, kG8, kP8, kR8_0, kR8_1, kL9, kA9, kS9, kL10, kA10, kS10, kC11, kG11, kP11, kR11_0, kR11_1, kR11_2, kR11_3, kL12, kA12, kS12, kL13, kA13, kS13, kL14, kA14, kS14, kL15, kA15, kS15, kC16, kG16, kP16, kR16_0, kR16_1, kL17, kA17, kS17, kL18, kA18, kS18, kC19, kG19, kP19, kR19_0, kL20, kL141, kL146, kA146, kS146, kL151, kA151, kS151, kL156, kA156, kS156, kC157, kG157, kP157, kR157_0, kR157_1, kL158, kA158, kS158, kL159, kA159, kS159, kC161, kG161, kP161, kR161_0, kR161_1, kL162, kA162, kS162, kL163, kA163, kS163, kC165, kG165, kP165, kR165_0, kR165_1, kR165_2, kR165_3, kL166, kA166, kS166, kL167, kA167, kS167, kL168, kA168, kS168, kL169, kA169, kS169, kC170, kG170, kP170, kR170_0, kR170_1, kR170_2, kL171, kA171, kS171, kL172, kA172, kS172, kL173, kA173, kS173, kC174, kG174, kP174, kR174_0, kR174_1, kR174_2, kR174_3, kR174_4, kL175, kA175, kS175, kL176, kA176, kS176, kL177, kA177, kS177, kL178, kA178, kS178, kL179, kC180, kG180, kP180, kL181, kL182, kA182, kS182, kC183, kG183, kP183, kR183_1, kR183_3, kR183_5, kR183_6, kR183_7, kR183_8, kR183_9, kR183_21, kR183_26, kR183_27, kR183_30, kR183_31, kR183_33, kR183_34, kR183_36, kR183_37, kR183_38, kR183_39, kR183_40, kR183_41, kR183_42, kR183_43, kR183_44, kL184, kA184, kS184, kL185, kA185, kS185, kL186, kA186, kS186, kL187, kA187, kS187, kL188, kA188, kS188, kL189, kL190, kL191, kA191, kS191, kL192, kA192, kS192, kL193, kA193, kS193, kL194, kA194, kS194, kL195, kA195, kS195, kL196, kA196, kS196, kL197, kA197, kS197, kL198, kA198, kS198, kL199, kA199, kS199, kL200, kA200, kS200, kL201, kL202, kA202, kS202, kL203, kA203, kS203, kL204, kA204, kS204, kL205, kL206, kA206, kS206, e1e, e150, kv]
        rw [knI_yes hl he he2, nI_succ]
    · simp only [f_X12_knows_b37]
      simp (disch := first | assumption | omega) only [Option.bind_some, Option.map_some, xw_gR, xw_gN, xw_al, xw_ck, xw_uI, xw_ur, xup_at, xur_at, if_true, if_false, reduceIte, and_true, true_and, and_false, false_and, not_true_eq_false, not_false_eq_true, Nat.reduceEqDiff, eq_self, Nat.reduceAdd, Nat.reduceMul, kC1, kG1, kP1, kR1_0, kR1_1, kR1_2, kR1_3, kR1_4, kR1_5, kR1_6, kR1_7, kR1_8, kR1_9, kR1_10, kR1_11, kR1_12, kR1_13, kC2, kG2, kP2, kR2_0, kR2_1, kC3, kG3, kP3, kR3_0, kR3_1, kR3_2, kR3_3, kL4, kA4, kS4, kL5, kA5, kS5, kL6, kA6, kS6, kL7, kA7, kS7, kC8, kG8, kP8, kR8_0, kR8_1, kL9, kA9, kS9, kL10, kA10, kS10, kC11, kG11, kP11, kR11_0, kR11_1, kR11_2, kR11_3, kL12, kA12, kS12, kL13, kA13, kS13, kL14, kA14, kS14, kL15, kA15, kS15, kC16, kG16, kP16, kR16_0, kR16_1, kL17, kA17, kS17, kL18, kA18, kS18, kC19, kG19, kP19, kR19_0, kL20, kL141, kL146, kA146, kS146, kL151, kA151, kS151, kL156, kA156, kS156, kC157, kG157, kP157, kR157_0, kR157_1, kL158, kA158, kS158, kL159, kA159, kS159, kC161, kG161, kP161, kR161_0, kR161_1, kL162, kA162, kS162, kL163, kA163, kS163, kC165, kG165, kP165, kR165_0, kR165_1, kR165_2, kR165_3, kL166, kA166, kS166, kL167, kA167, kS167, kL168, kA168, kS168, kL169, kA169, kS169, kC170, kG170, kP170, kR170_0, kR170_1, kR170_2, kL171, kA171, kS171, kL172, kA172, kS172, kL173, kA173, kS173, kC174, kG174, kP174, kR174_0, kR174_1, kR174_2, kR174_3, kR174_4, kL175, kA175, kS175, kL176, kA176, kS176, kL177, kA177, kS177, kL178, kA178, kS178, kL179, kC180, kG180, kP180, kL181, kL182, kA182, kS182, kC183, kG183, kP183, kR183_1, kR183_3, kR183_5, kR183_6, kR183_7, kR183_8, kR183_9, kR183_21, kR183_26, kR183_27, kR183_30, kR183_31, kR183_33, kR183_34, kR183_36, kR183_37, kR183_38, kR183_39, kR183_40, kR183_41, kR183_42, kR183_43, kR183_44, kL184, kA184, kS184, kL185, kA185, kS185, kL186, kA186, kS186, kL187, kA187, kS187, kL188, kA188, kS188, kL189, kL190, kL191, kA191, kS191, kL192, kA192, kS192, kL193, kA193, kS193, kL194, kA194, kS194, kL195, kA195, kS195, kL196, kA196, kS196, kL197, kA197, kS197, kL198, kA198, kS198, kL199, kA199, kS199, kL200, kA200, kS200, kL201, kL202, kA202, kS202, kL203, kA203, kS203, kL204, kA204, kS204, kL205, kL206, kA206, kS206, states12_ok hS (hGk (gSt g)), nn_le, Nat.le_refl]
      rw [e1]
      rfl
  · rw [j3 196 s (by omega) (by omega), xup_at, if_neg (by omega)]
    unfold knI
    rw [if_pos ⟨rfl, hs⟩]
  · rw [j3 197 e (by omega) (by omega)]
    exact hM0 e he
  · rw [j3 a k (by omega) h2, xup_at, if_neg (by omega), knI_out (by omega) (by omega)]
end KNOWS
end
section
/-! the model's own notes change -/
theorem IV.model {n : Nat} {σ : XS} {g : GD} {gT gP : GH} {st : Nat} (H : IV n σ g gT gP st) {I' : Nat → Nat → Int32} (u : ∀ a k, (a < 183 ∨ 206 < a ∨ a = 184 ∨ a = 191 ∨ (193 ≤ a ∧ a ≤ 195) ∨ (a = 183 ∧ (k = 2 ∨ (16 ≤ k ∧ k ≤ 20) ∨ k = 28 ∨ k = 29))) → I' a k = xI σ a k) (hk : KNW I' g) : IV n (xw σ I') g gT gP st := by
  have hg := H.grd.1
  have hc := H.cells
  refine ⟨H.shp, H.stn, (u 1 15 (by omega)).trans H.sts, TAP_c (fun a k q => u a k (by unfold sTAP at q; omega)) H.tap, ?_, GRD_c (fun a k q => u a k (by unfold sGRD at q; omega)) H.grd, NOW_c hg (fun a k q => u a k (by unfold sNOW at q; omega)) H.now, PST_c hg (fun a k q => u a k (by unfold sPST at q; omega)) (Nat.le_refl _) (fun _ _ => rfl) (fun _ _ => rfl) H.pst, SLT_c hg (fun a k q => u a k (by unfold sSLT at q; omega)) (Nat.le_refl _) (fun _ _ => rfl) (fun _ _ => rfl) H.slt, CCH_c (fun a k q => u a k (by unfold sCCH at q; rw [xw_R] at q; omega)) (Nat.le_refl _) (fun _ _ => rfl) (fun _ _ => rfl) H.cch, hk, H.cel⟩
  show I' 1 14 = I' 183 16
  rw [u _ _ (by omega), u _ _ (by omega)]; exact H.plc
theorem knows_ok {n : Nat} {σ : XS} {g : GD} {gT gP : GH} {st : Nat} (H : IV n σ g gT gP st) : ∃ I', f_X12_knows σ 183 = some (xw σ I') ∧ IV n (xw σ I') g gT gP st ∧ KNK I' g (I' 191) ∧ (∀ b j, ¬ (196 ≤ b ∧ b ≤ 198) → ¬ (b = 183 ∧ (j = 32 ∨ j = 35)) → I' b j = xI σ b j) := by
  have hS := H.shp
  have hG := H.grd
  rcases H.knw with h0 | ⟨h1, hk⟩
  · obtain ⟨z, hz⟩ : ∃ z, z = xup (xI σ) 183 32 1 := ⟨_, rfl⟩
    have uz : ∀ a k, ¬ (a = 183 ∧ k = 32) → z a k = xI σ a k := fun a k h => by rw [hz, xup_at, if_neg h]
    have hGz : GRD z g := GRD_c (fun a k q => uz a k (by unfold sGRD at q; omega)) hG
    have hrow : z 191 = xI σ 191 := by funext k; exact uz 191 k (by omega)
    obtain ⟨J, e1, j1, j2⟩ := knows_l2 (I := z) hS hGz rfl (by rw [hrow]; exact H.now.2.1)
    have rJ : J 191 = xI σ 191 := by funext k; rw [j2 191 k (by omega) (by omega), hrow]
    have uJ : ∀ b j, ¬ (196 ≤ b ∧ b ≤ 198) → ¬ (b = 183 ∧ (j = 32 ∨ j = 35)) → J b j = xI σ b j := fun b j h1 h2 => by rw [j2 b j h1 (by omega), uz b j (by omega)]
    have kJ : KNK J g (J 191) := by rw [rJ, ← hrow]; exact j1
    refine ⟨J, ?_, H.model (fun a k h => uJ a k (by omega) (by omega)) (.inr ⟨?_, kJ⟩), kJ, uJ⟩
    · show f_X12_knows (xw σ (xI σ)) 183 = _
      unfold f_X12_knows
      simp (disch := first | assumption | omega) only [Option.bind_some, Option.map_some, xw_gR, xw_gN, xw_al, xw_ck, xw_uI, xw_ur, xup_at, xur_at, if_true, if_false, reduceIte, and_true, true_and, and_false, false_and, not_true_eq_false, not_false_eq_true, Nat.reduceEqDiff, eq_self, Nat.reduceAdd, Nat.reduceMul, kC1, kG1, kP1, kR1_0, kR1_1, kR1_2, kR1_3, kR1_4, kR1_5, kR1_6, kR1_7, kR1_8, kR1_9, kR1_10, kR1_11, kR1_12, kR1_13, kC2, kG2, kP2, kR2_0, kR2_1, kC3, kG3, kP3, kR3_0, kR3_1, kR3_2, kR3_3, kL4, kA4, kS4, kL5, kA5, kS5, kL6, kA6, kS6, kL7, kA7, kS7, kC8, kG8, kP8, kR8_0, kR8_1, kL9, kA9, kS9, kL10, kA10, kS10, kC11, kG11, kP11, kR11_0, kR11_1, kR11_2, kR11_3, kL12, kA12, kS12, kL13, kA13, kS13, kL14, kA14, kS14, kL15, kA15, kS15, kC16, kG16, kP16, kR16_0, kR16_1, kL17, kA17, kS17, kL18, kA18, kS18, kC19, kG19, kP19, kR19_0, kL20, kL141, kL146, kA146, kS146, kL151, kA151, kS151, kL156, kA156, kS156, kC157, kG157, kP157, kR157_0, kR157_1, kL158, kA158, kS158, kL159, kA159, kS159, kC161, kG161, kP161, kR161_0, kR161_1, kL162, kA162, kS162, kL163, kA163, kS163, kC165, kG165, kP165, kR165_0, kR165_1, kR165_2, kR165_3, kL166, kA166, kS166, kL167, kA167, kS167, kL168, kA168, kS168, kL169, kA169, kS169, kC170, kG170, kP170, kR170_0, kR170_1, kR170_2, kL171, kA171, kS171, kL172, kA172, kS172, kL173, kA173, kS173, kC174, kG174, kP174, kR174_0, kR174_1, kR174_2, kR174_3, kR174_4, kL175, kA175, kS175, kL176, kA176, kS176, kL177, kA177, kS177, kL178, kA178, kS178, kL179, kC180, kG180, kP180, kL181, kL182, kA182, kS182, kC183, kG183, kP183, kR183_1, kR183_3, kR183_5, kR183_6, kR183_7, kR183_8, kR183_9, kR183_21, kR183_26, kR183_27, kR183_30, kR183_31, kR183_33, kR183_34, kR183_36, kR183_37, kR183_38, kR183_39, kR183_40, kR183_41, kR183_42, kR183_43, kR183_44, kL184, kA184, kS184, kL185, kA185, kS185, kL186, kA186, kS186, kL187, kA187, kS187, kL188, kA188, kS188, kL189, kL190, kL191, kA191, kS191, kL192, kA192, kS192, kL193, kA193, kS193, kL194, kA194, kS194, kL195, kA195, kS195, kL196, kA196, kS196, kL197, kA197, kS197, kL198, kA198, kS198, kL199, kA199, kS199, kL200, kA200, kS200, kL201, kL202, kA202, kS202, kL203, kA203, kS203, kL204, kA204, kS204, kL205, kL206, kA206, kS206, h0]
      rw [← hz]
      refine xforE (fun j : Nat => (nI j, xw σ (fun c k => if c = 197 ∧ k < j then nI 0 else z c k))) 301 ?_ (fun j hj => ?_) ?_
      · congr 2
        funext c k
        rw [if_neg (by omega)]
      · simp only [f_X12_knows_b15]
        rw [if_neg (by rw [show (301 : Int32) = nI 301 from rfl, nn_le (by omega) (by omega)]; omega)]
        simp (disch := first | assumption | omega) only [Option.bind_some, Option.map_some, xw_gR, xw_gN, xw_al, xw_ck, xw_uI, xw_ur, xup_at, xur_at, if_true, if_false, reduceIte, and_true, true_and, and_false, false_and, not_true_eq_false, not_false_eq_true, Nat.reduceEqDiff, eq_self, Nat.reduceAdd, Nat.reduceMul, kC1, kG1, kP1, kR1_0, kR1_1, kR1_2, kR1_3, kR1_4, kR1_5, kR1_6, kR1_7, kR1_8, kR1_9, kR1_10, kR1_11, kR1_12, kR1_13, kC2, kG2, kP2, kR2_0, kR2_1, kC3, kG3, kP3, kR3_0, kR3_1, kR3_2, kR3_3, kL4, kA4, kS4, kL5, kA5, kS5, kL6, kA6, kS6, kL7, kA7, kS7, kC8, kG8, kP8, kR8_0, kR8_1, kL9, kA9, kS9, kL10, kA10, kS10, kC11, kG11, kP11, kR11_0, kR11_1, kR11_2, kR11_3, kL12, kA12, kS12, kL13, kA13, kS13, kL14, kA14, kS14, kL15, kA15, kS15, kC16, kG16, kP16, kR16_0, kR16_1, kL17, kA17, kS17, kL18, kA18, kS18, kC19, kG19, kP19, kR19_0, kL20, kL141, kL146, kA146, kS146, kL151, kA151, kS151, kL156, kA156, kS156, kC157, kG157, kP157, kR157_0, kR157_1, kL158, kA158, kS158, kL159, kA159, kS159, kC161, kG161, kP161, kR161_0, kR161_1, kL162, kA162, kS162, kL163, kA163, kS163, kC165, kG165, kP165, kR165_0, kR165_1, kR165_2, kR165_3, kL166, kA166, kS166, kL167, kA167, kS167, kL168, kA168, kS168, kL169, kA169, kS169, kC170, kG170, kP170, kR170_0, kR170_1, kR170_2, kL171, kA171, kS171, kL172, kA172, kS172, kL173, kA173, kS173, kC174, kG174, kP174, kR174_0, kR174_1, kR174_2, kR174_3, kR174_4, kL175, kA175, kS175, kL176, kA176, kS176, kL177, kA177, kS177, kL178, kA178, kS178, kL179, kC180, kG180, kP180, kL181, kL182, kA182, kS182, kC183, kG183, kP183, kR183_1, kR183_3, kR183_5, kR183_6, kR183_7, kR183_8, kR183_9, kR183_21, kR183_26, kR183_27, kR183_30, kR183_31, kR183_33, kR183_34, kR183_36, kR183_37, kR183_38, kR183_39, kR183_40, kR183_41, kR183_42, kR183_43, kR183_44, kL184, kA184, kS184, kL185, kA185, kS185, kL186, kA186, kS186, kL187, kA187, kS187, kL188, kA188, kS188, kL189, kL190, kL191, kA191, kS191, kL192, kA192, kS192, kL193, kA193, kS193, kL194, kA194, kS194, kL195, kA195, kS195, kL196, kA196, kS196, kL197, kA197, kS197, kL198, kA198, kS198, kL199, kA199, kS199, kL200, kA200, kS200, kL201, kL202, kA202, kS202, kL203, kA203, kS203, kL204, kA204, kS204, kL205, kL206, kA206, kS206]
        rw [nI_succ]
        congr 4
        funext c k
        simp only [xup_at]
        by_cases q : c = 197
        · subst q
          by_cases q2 : k = j
          · subst q2; simp; rfl
          · have : (k < j + 1) ↔ (k < j) := by omega
            simp [q2, this]
        · simp [q]
      · simp only [f_X12_knows_b15]
        rw [if_pos (by decide)]
        have e : (fun c k => if c = 197 ∧ k < 301 then nI 0 else z c k) = knI z g (z 191) 0 := by
          funext c k
          unfold knI
          rw [if_neg (show ¬ (c = 196 ∧ k < 0) by omega)]
          rfl
        rw [e, e1]
        rfl
    · rw [j2 183 32 (by omega) (by omega), hz, xup_at, if_pos ⟨rfl, rfl⟩]
  · refine ⟨xI σ, ?_, H, hk, fun _ _ _ _ => rfl⟩
    show f_X12_knows (xw σ (xI σ)) 183 = _
    unfold f_X12_knows
    simp (disch := first | assumption | omega) only [Option.bind_some, Option.map_some, xw_gR, xw_gN, xw_al, xw_ck, xw_uI, xw_ur, xup_at, xur_at, if_true, if_false, reduceIte, and_true, true_and, and_false, false_and, not_true_eq_false, not_false_eq_true, Nat.reduceEqDiff, eq_self, Nat.reduceAdd, Nat.reduceMul, kC1, kG1, kP1, kR1_0, kR1_1, kR1_2, kR1_3, kR1_4, kR1_5, kR1_6, kR1_7, kR1_8, kR1_9, kR1_10, kR1_11, kR1_12, kR1_13, kC2, kG2, kP2, kR2_0, kR2_1, kC3, kG3, kP3, kR3_0, kR3_1, kR3_2, kR3_3, kL4, kA4, kS4, kL5, kA5, kS5, kL6, kA6, kS6, kL7, kA7, kS7, kC8, kG8, kP8, kR8_0, kR8_1, kL9, kA9, kS9, kL10, kA10, kS10, kC11, kG11, kP11, kR11_0, kR11_1, kR11_2, kR11_3, kL12, kA12, kS12, kL13, kA13, kS13, kL14, kA14, kS14, kL15, kA15, kS15, kC16, kG16, kP16, kR16_0, kR16_1, kL17, kA17, kS17, kL18, kA18, kS18, kC19, kG19, kP19, kR19_0, kL20, kL141, kL146, kA146, kS146, kL151, kA151, kS151, kL156, kA156, kS156, kC157, kG157, kP157, kR157_0, kR157_1, kL158, kA158, kS158, kL159, kA159, kS159, kC161, kG161, kP161, kR161_0, kR161_1, kL162, kA162, kS162, kL163, kA163, kS163, kC165, kG165, kP165, kR165_0, kR165_1, kR165_2, kR165_3, kL166, kA166, kS166, kL167, kA167, kS167, kL168, kA168, kS168, kL169, kA169, kS169, kC170, kG170, kP170, kR170_0, kR170_1, kR170_2, kL171, kA171, kS171, kL172, kA172, kS172, kL173, kA173, kS173, kC174, kG174, kP174, kR174_0, kR174_1, kR174_2, kR174_3, kR174_4, kL175, kA175, kS175, kL176, kA176, kS176, kL177, kA177, kS177, kL178, kA178, kS178, kL179, kC180, kG180, kP180, kL181, kL182, kA182, kS182, kC183, kG183, kP183, kR183_1, kR183_3, kR183_5, kR183_6, kR183_7, kR183_8, kR183_9, kR183_21, kR183_26, kR183_27, kR183_30, kR183_31, kR183_33, kR183_34, kR183_36, kR183_37, kR183_38, kR183_39, kR183_40, kR183_41, kR183_42, kR183_43, kR183_44, kL184, kA184, kS184, kL185, kA185, kS185, kL186, kA186, kS186, kL187, kA187, kS187, kL188, kA188, kS188, kL189, kL190, kL191, kA191, kS191, kL192, kA192, kS192, kL193, kA193, kS193, kL194, kA194, kS194, kL195, kA195, kS195, kL196, kA196, kS196, kL197, kA197, kS197, kL198, kA198, kS198, kL199, kA199, kS199, kL200, kA200, kS200, kL201, kL202, kA202, kS202, kL203, kA203, kS203, kL204, kA204, kS204, kL205, kL206, kA206, kS206, h1, one0]
end
section
/-! the levels that the class gathers -/
def cU (p : Nat → Bool) (m N : Nat) : Nat := fb_ct (fun i => p (m + i)) (N - m)
theorem cU_s (p : Nat → Bool) {m N : Nat} (h : m < N) : cU p m N = (if p m then 1 else 0) + cU p (m + 1) N := by
  unfold cU
  rw [show N - m = 1 + (N - (m + 1)) by omega, fb_ct_split]
  congr 1
  · show 0 + (if p (m + 0) then 1 else 0) = _
    rw [Nat.add_zero, Nat.zero_add]
  · exact fb_ct_cong (fun i _ => by rw [← Nat.add_assoc])
theorem cU_0 (p : Nat → Bool) (N : Nat) : cU p 0 N = fb_ct p N := by
  unfold cU
  exact fb_ct_cong (fun i _ => by rw [Nat.zero_add])
theorem cU_e (p : Nat → Bool) (N : Nat) : cU p N N = 0 := by
  unfold cU
  rw [Nat.sub_self]; rfl
theorem cU_le (p : Nat → Bool) (m N : Nat) : cU p m N ≤ N := Nat.le_trans (fb_ct_le _ _) (Nat.sub_le _ _)
section OF
variable {σ : XS} {I : Nat → Nat → Int32} {g : GD} {F : Nat → Int32} {E c m : Nat}
theorem of_at (hS : Shp σ) (hE : EnO σ E c m) {s : Nat} (hs : s < m) : f_X2_of (xw σ I) E (nI s) = some (I c s) := by
  have hm := hE.2.2.2.1
  unfold f_X2_of
  rw [if_neg (nI_pos (by omega)), xw_gR, hE.R4 hS, Option.bind_some, xw_al, hE.L, Option.bind_some, if_neg (by rw [nn_le (by omega) (by omega)]; omega), Option.bind_some, xw_aI hE.2.2.1 hs (by omega), Option.bind_some]
theorem of_ok (hS : Shp σ) (hE : EnO σ E c m) (hK : ENK I (xR σ) (xlen σ) E g F) {s : Nat} (hs : s < 2 ^ gSz g) : f_X2_of (xw σ I) E (nI s) = some (iI (eE g (zR F) s)) := by
  have h1 := hK.1
  rw [hE.2.1] at h1
  unfold xlen at h1
  rw [hE.2.2.1] at h1
  rw [of_at hS hE (show s < m by exact Nat.lt_of_lt_of_le hs h1)]
  have := hK.2 s hs
  rw [hE.2.1] at this
  rw [this]
theorem fillI_ok {a n : Nat} {v : Int32} (h : σ.1 a = (20, n)) (hn : n < 2147483648) : f_J7_fill_53178 (xw σ I) a v = some (xw σ (xur I a (fun j => if j < n then v else I a j))) := fill_ok (σ := xw σ I) (congrArg Prod.fst h) (congrArg Prod.snd h) hn
end OF
section GATHER
variable {σ : XS} {I : Nat → Nat → Int32} {g : GD} {F : Nat → Int32} {c m : Nat}
theorem list_ok (hS : Shp σ) (hg : g ∈ gAll) (hM : WAY I 166 g F) :
    ∃ J, f_X4_listLevels (xw σ I) 165 = some (xw σ J) ∧ J 165 4 = nI (lvN g F) ∧ (∀ k, k < 289 → lvP g F k = true → J 169 (fb_ct (lvP g F) k) = iI ((k : Int) - 144)) ∧ ∀ a k, a ≠ 169 → ¬ (a = 165 ∧ k = 4) → J a k = I a k := by
  have hSt := (gSt_b hg).1
  unfold f_X4_listLevels
  simp (disch := first | assumption | omega) only [Option.bind_some, Option.map_some, xw_gR, xw_gN, xw_al, xw_ck, xw_uI, xw_ur, xup_at, xur_at, if_true, if_false, reduceIte, and_true, true_and, and_false, false_and, not_true_eq_false, not_false_eq_true, Nat.reduceEqDiff, eq_self, Nat.reduceAdd, Nat.reduceMul, kC1, kG1, kP1, kR1_0, kR1_1, kR1_2, kR1_3, kR1_4, kR1_5, kR1_6, kR1_7, kR1_8, kR1_9, kR1_10, kR1_11, kR1_12, kR1_13, kC2, kG2, kP2, kR2_0, kR2_1, kC3, kG3, kP3, kR3_0, kR3_1, kR3_2, kR3_3, kL4, kA4, kS4, kL5, kA5, kS5, kL6, kA6, kS6, kL7, kA7, kS7, kC8, kG8, kP8, kR8_0, kR8_1, kL9, kA9, kS9, kL10, kA10, kS10, kC11, kG11, kP11, kR11_0, kR11_1, kR11_2, kR11_3, kL12, kA12, kS12, kL13, kA13, kS13, kL14, kA14, kS14, kL15, kA15, kS15, kC16, kG16, kP16, kR16_0, kR16_1, kL17, kA17, kS17, kL18, kA18, kS18, kC19, kG19, kP19, kR19_0, kL20, kL141, kL146, kA146, kS146, kL151, kA151, kS151, kL156, kA156, kS156, kC157, kG157, kP157, kR157_0, kR157_1, kL158, kA158, kS158, kL159, kA159, kS159, kC161, kG161, kP161, kR161_0, kR161_1, kL162, kA162, kS162, kL163, kA163, kS163, kC165, kG165, kP165, kR165_0, kR165_1, kR165_2, kR165_3, kL166, kA166, kS166, kL167, kA167, kS167, kL168, kA168, kS168, kL169, kA169, kS169, kC170, kG170, kP170, kR170_0, kR170_1, kR170_2, kL171, kA171, kS171, kL172, kA172, kS172, kL173, kA173, kS173, kC174, kG174, kP174, kR174_0, kR174_1, kR174_2, kR174_3, kR174_4, kL175, kA175, kS175, kL176, kA176, kS176, kL177, kA177, kS177, kL178, kA178, kS178, kL179, kC180, kG180, kP180, kL181, kL182, kA182, kS182, kC183, kG183, kP183, kR183_1, kR183_3, kR183_5, kR183_6, kR183_7, kR183_8, kR183_9, kR183_21, kR183_26, kR183_27, kR183_30, kR183_31, kR183_33, kR183_34, kR183_36, kR183_37, kR183_38, kR183_39, kR183_40, kR183_41, kR183_42, kR183_43, kR183_44, kL184, kA184, kS184, kL185, kA185, kS185, kL186, kA186, kS186, kL187, kA187, kS187, kL188, kA188, kS188, kL189, kL190, kL191, kA191, kS191, kL192, kA192, kS192, kL193, kA193, kS193, kL194, kA194, kS194, kL195, kA195, kS195, kL196, kA196, kS196, kL197, kA197, kS197, kL198, kA198, kS198, kL199, kA199, kS199, kL200, kA200, kS200, kL201, kL202, kA202, kS202, kL203, kA203, kS203, kL204, kA204, kS204, kL205, kL206, kA206, kS206]
  have key : ∃ τ, xloop (f_X4_listLevels_b7 165) (nI 0, xw σ (xup I 165 4 0)) = some τ ∧ ∃ J, τ = xw σ J ∧ J 165 4 = nI (fb_ct (lvP g F) 289) ∧ (∀ e, e < 289 → lvP g F e = true → J 169 (fb_ct (lvP g F) e) = iI ((e : Int) - 144)) ∧ ∀ a k, a ≠ 169 → ¬ (a = 165 ∧ k = 4) → J a k = I a k := by
    refine xforI (fun i x => ∃ J, x = (nI i, xw σ J) ∧ J 165 4 = nI (fb_ct (lvP g F) i) ∧ (∀ e, e < i → lvP g F e = true → J 169 (fb_ct (lvP g F) e) = iI ((e : Int) - 144)) ∧ ∀ a k, a ≠ 169 → ¬ (a = 165 ∧ k = 4) → J a k = I a k) 289 ⟨_, rfl, by rw [xup_at, if_pos ⟨rfl, rfl⟩]; rfl, fun e he => by omega, fun a k _ h => by rw [xup_at, if_neg h]⟩ ?_ ?_
    · rintro i x hi ⟨J, rfl, j1, j2, j3⟩
      have hb : lC g F ((i : Int) - 144) ≤ 65536 := Nat.le_trans (fb_ct_le _ _) hSt
      have hc := fb_ct_le (lvP g F) i
      have hz : (nI (lC g F ((i : Int) - 144)) ≤ 0) = (lC g F ((i : Int) - 144) ≤ 0) := nn_le (b := 0) (by omega) (by decide)
      by_cases h0 : lC g F ((i : Int) - 144) = 0
      · have hq : lvP g F i = false := by unfold lvP; rw [h0]; rfl
        refine ⟨(nI (i + 1), xw σ J), ?_, J, rfl, ?_, ?_, j3⟩
        · simp only [f_X4_listLevels_b7]
          rw [if_neg (by rw [show (289 : Int32) = nI 289 from rfl, nn_le (by omega) (by omega)]; omega)]
          simp (disch := first | assumption | omega) only [Option.bind_some, Option.map_some, xw_gR, xw_gN, xw_al, xw_ck, xw_uI, xw_ur, xup_at, xur_at, if_true, if_false, reduceIte, and_true, true_and, and_false, false_and, not_true_eq_false, not_false_eq_true, Nat.reduceEqDiff, eq_self, Nat.reduceAdd, Nat.reduceMul, kC1, kG1, kP1, kR1_0, kR1_1, kR1_2, kR1_3, kR1_4, kR1_5, kR1_6, kR1_7, kR1_8, kR1_9, kR1_10, kR1_11, kR1_12, kR1_13, kC2, kG2, kP2, kR2_0, kR2_1, kC3, kG3, kP3, kR3_0, kR3_1, kR3_2, kR3_3, kL4, kA4, kS4, kL5, kA5, kS5, kL6, kA6, kS6, kL7, kA7, kS7, kC8, kG8, kP8, kR8_0, kR8_1, kL9, kA9, kS9, kL10, kA10, kS10, kC11, kG11, kP11, kR11_0, kR11_1, kR11_2, kR11_3, kL12, kA12, kS12, kL13, kA13, kS13, kL14, kA14, kS14, kL15, kA15, kS15, kC16, kG16, kP16, kR16_0, kR16_1, kL17, kA17, kS17, kL18, kA18, kS18, kC19, kG19, kP19, kR19_0, kL20, kL141, kL146, kA146, kS146, kL151, kA151, kS151, kL156, kA156, kS156, kC157, kG157, kP157, kR157_0, kR157_1, kL158, kA158, kS158, kL159, kA159, kS159, kC161, kG161, kP161, kR161_0, kR161_1, kL162, kA162, kS162, kL163, kA163, kS163, kC165, kG165, kP165, kR165_0, kR165_1, kR165_2, kR165_3, kL166, kA166, kS166, kL167, kA167, kS167, kL168, kA168, kS168, kL169, kA169, kS169, kC170, kG170, kP170, kR170_0, kR170_1, kR170_2, kL171, kA171, kS171, kL172, kA172, kS172, kL173, kA173, kS173, kC174, kG174, kP174, kR174_0, kR174_1, kR174_2, kR174_3, kR174_4, kL175, kA175, kS175, kL176, kA176, kS176, kL177, kA177, kS177, kL178, kA178, kS178, kL179, kC180, kG180, kP180, kL181, kL182, kA182, kS182, kC183, kG183, kP183, kR183_1, kR183_3, kR183_5, kR183_6, kR183_7, kR183_8, kR183_9, kR183_21, kR183_26, kR183_27, kR183_30, kR183_31, kR183_33, kR183_34, kR183_36, kR183_37, kR183_38, kR183_39, kR183_40, kR183_41, kR183_42, kR183_43, kR183_44, kL184, kA184, kS184, kL185, kA185, kS185, kL186, kA186, kS186, kL187, kA187, kS187, kL188, kA188, kS188, kL189, kL190, kL191, kA191, kS191, kL192, kA192, kS192, kL193, kA193, kS193, kL194, kA194, kS194, kL195, kA195, kS195, kL196, kA196, kS196, kL197, kA197, kS197, kL198, kA198, kS198, kL199, kA199, kS199, kL200, kA200, kS200, kL201, kL202, kA202, kS202, kL203, kA203, kS203, kL204, kA204, kS204, kL205, kL206, kA206, kS206, j3 166 i (by decide) (by omega), hM i hi, h0, show (nI 0 ≤ 0) = True from eq_true (by decide)]
          rw [nI_succ]
        · rw [j1, fb_ct_succ, hq]; simp
        · intro e he hq2
          by_cases hei : e = i
          · rw [hei, hq] at hq2; cases hq2
          · exact j2 e (by omega) hq2
      · have hq : lvP g F i = true := by unfold lvP; simp; omega
        refine ⟨(nI (i + 1), xw σ (xup (xup J 169 (fb_ct (lvP g F) i) (iI ((i : Int) - 144))) 165 4 (nI (fb_ct (lvP g F) i + 1)))), ?_, _, rfl, ?_, ?_, ?_⟩
        · simp only [f_X4_listLevels_b7]
          rw [if_neg (by rw [show (289 : Int32) = nI 289 from rfl, nn_le (by omega) (by omega)]; omega)]
          have e150 : nI i - (144 : Int32) = iI ((i : Int) - 144) := by rw [iI_n, show (144 : Int32) = iI 144 from rfl, iI_sub]
          have hz2 : ¬ (lC g F ((i : Int) - 144) ≤ 0) := by omega
          simp (disch := first | assumption | omega) only [Option.bind_some, Option.map_some, xw_gR, xw_gN, xw_al, xw_ck, xw_uI, xw_ur, xup_at, xur_at, if_true, if_false, reduceIte, and_true, true_and, and_false, false_and, not_true_eq_false, not_false_eq_true, Nat.reduceEqDiff, eq_self, Nat.reduceAdd, Nat.reduceMul, kC1, kG1, kP1, kR1_0, kR1_1, kR1_2, kR1_3, kR1_4, kR1_5, kR1_6, kR1_7, kR1_8, kR1_9, kR1_10, kR1_11, kR1_12, kR1_13, kC2, kG2, kP2, kR2_0, kR2_1, kC3, kG3, kP3, kR3_0, kR3_1, kR3_2, kR3_3, kL4, kA4, kS4, kL5, kA5, kS5, kL6, kA6, kS6, kL7, kA7, kS7, kC8, kG8, kP8, kR8_0, kR8_1, kL9, kA9, kS9, kL10, kA10, kS10, kC11, kG11, kP11, kR11_0, kR11_1, kR11_2, kR11_3, kL12, kA12, kS12, kL13, kA13, kS13, kL14, kA14, kS14, kL15, kA15, kS15, kC16, kG16, kP16, kR16_0, kR16_1, kL17, kA17, kS17, kL18, kA18, kS18, kC19, kG19, kP19, kR19_0, kL20, kL141, kL146, kA146, kS146, kL151, kA151, kS151, kL156, kA156, kS156, kC157, kG157, kP157, kR157_0, kR157_1, kL158, kA158, kS158, kL159, kA159, kS159, kC161, kG161, kP161, kR161_0, kR161_1, kL162, kA162, kS162, kL163, kA163, kS163, kC165, kG165, kP165, kR165_0, kR165_1, kR165_2, kR165_3, kL166, kA166, kS166, kL167, kA167, kS167, kL168, kA168, kS168, kL169, kA169, kS169, kC170, kG170, kP170, kR170_0, kR170_1, kR170_2, kL171, kA171, kS171, kL172, kA172, kS172, kL173, kA173, kS173, kC174, kG174, kP174, kR174_0, kR174_1, kR174_2, kR174_3, kR174_4, kL175, kA175, kS175, kL176, kA176, kS176, kL177, kA177, kS177, kL178, kA178, kS178, kL179, kC180, kG180, kP180, kL181, kL182, kA182, kS182, kC183, kG183, kP183, kR183_1, kR183_3, kR183_5, kR183_6, kR183_7, kR183_8, kR183_9, kR183_21, kR183_26, kR183_27, kR183_30, kR183_31, kR183_33, kR183_34, kR183_36, kR183_37, kR183_38, kR183_39, kR183_40, kR183_41, kR183_42, kR183_43, kR183_44, kL184, kA184, kS184, kL185, kA185, kS185, kL186, kA186, kS186, kL187, kA187, kS187, kL188, kA188, kS188, kL189, kL190, kL191, kA191, kS191, kL192, kA192, kS192, kL193, kA193, kS193, kL194, kA194, kS194, kL195, kA195, kS195, kL196, kA196, kS196, kL197, kA197, kS197, kL198, kA198, kS198, kL199, kA199, kS199, kL200, kA200, kS200, kL201, kL202, kA202, kS202, kL203, kA203, kS203, kL204, kA204, kS204, kL205, kL206, kA206, kS206, j3 166 i (by decide) (by omega), hM i hi, hz, hz2, j1, e150]
          rw [← nI_succ, ← nI_succ]
        · rw [xup_at, if_pos ⟨rfl, rfl⟩, fb_ct_succ, hq]; simp
        · intro e he hq2
          rw [xup_at, if_neg (by omega), xup_at]
          by_cases hei : e = i
          · rw [hei, if_pos ⟨rfl, rfl⟩]
          · rw [if_neg, j2 e (by omega) hq2]
            rintro ⟨_, z⟩
            exact hei (fb_ct_kth_one hq2 hq z)
        · intro a k h1 h2
          rw [xup_at, if_neg (by omega), xup_at, if_neg (by omega)]
          exact j3 a k h1 h2
    · rintro x ⟨J, rfl, j1, j2, j3⟩
      refine ⟨xw σ J, ?_, J, rfl, j1, j2, j3⟩
      simp only [f_X4_listLevels_b7]
      rw [if_pos (by decide)]
      rfl
  obtain ⟨τ, h1, J, rfl, j1, j2, j3⟩ := key
  exact ⟨J, h1, j1, j2, j3⟩
/-- what is gathered of the states from m on -/
def gaP (J : Nat → Nat → Int32) (g : GD) (F : Nat → Int32) (m : Nat) : Prop := (∀ k : Nat, k < 289 → J 166 k = nI (cU (lE g F ((k : Int) - 144)) m (gSt g))) ∧
  (∀ k s : Nat, k < 289 → m ≤ s → s < gSt g → lE g F ((k : Int) - 144) s = true → (∀ s', m ≤ s' → s' < s → lE g F ((k : Int) - 144) s' = false) → J 167 k = nI s) ∧
  ∀ k u : Nat, k < 289 → u < 17 → J 168 (17 * k + u) = nI (cU (fun s => lE g F ((k : Int) - 144) s && decide (pC s = u)) m (gSt g))
theorem gather_ok (hS : Shp σ) (hg : g ∈ gAll) (hE : EnO σ 157 c m) (hK : ENK I (xR σ) (xlen σ) 157 g F) (hSR : SR g I 16 F) (ho : RO g F) :
    ∃ J, f_X4_gather (xw σ I) 165 157 16 (nI (gSt g)) = some (xw σ J) ∧ LVK J g F ∧ ∀ a k, ¬ (166 ≤ a ∧ a ≤ 169) → ¬ (a = 165 ∧ k = 4) → J a k = I a k := by
  have hSt := (gSt_b hg).1
  have hSt2 := (gSt_b hg).2
  have hEb := hE.b
  have K166 : σ.1 166 = (20, 289) := xw_K hS (by decide) (by decide) (by decide)
  have K168 : σ.1 168 = (20, 4913) := xw_K hS (by decide) (by decide) (by decide)
  have eT2 : xck σ 157 2 = some () := xck_ok (sT157 hS)
  unfold f_X4_gather
  simp (disch := first | assumption | omega) only [Option.bind_some, Option.map_some, xw_gR, xw_gN, xw_al, xw_ck, xw_uI, xw_ur, xup_at, xur_at, if_true, if_false, reduceIte, and_true, true_and, and_false, false_and, not_true_eq_false, not_false_eq_true, Nat.reduceEqDiff, eq_self, Nat.reduceAdd, Nat.reduceMul, kC1, kG1, kP1, kR1_0, kR1_1, kR1_2, kR1_3, kR1_4, kR1_5, kR1_6, kR1_7, kR1_8, kR1_9, kR1_10, kR1_11, kR1_12, kR1_13, kC2, kG2, kP2, kR2_0, kR2_1, kC3, kG3, kP3, kR3_0, kR3_1, kR3_2, kR3_3, kL4, kA4, kS4, kL5, kA5, kS5, kL6, kA6, kS6, kL7, kA7, kS7, kC8, kG8, kP8, kR8_0, kR8_1, kL9, kA9, kS9, kL10, kA10, kS10, kC11, kG11, kP11, kR11_0, kR11_1, kR11_2, kR11_3, kL12, kA12, kS12, kL13, kA13, kS13, kL14, kA14, kS14, kL15, kA15, kS15, kC16, kG16, kP16, kR16_0, kR16_1, kL17, kA17, kS17, kL18, kA18, kS18, kC19, kG19, kP19, kR19_0, kL20, kL141, kL146, kA146, kS146, kL151, kA151, kS151, kL156, kA156, kS156, kC157, kG157, kP157, kR157_0, kR157_1, kL158, kA158, kS158, kL159, kA159, kS159, kC161, kG161, kP161, kR161_0, kR161_1, kL162, kA162, kS162, kL163, kA163, kS163, kC165, kG165, kP165, kR165_0, kR165_1, kR165_2, kR165_3, kL166, kA166, kS166, kL167, kA167, kS167, kL168, kA168, kS168, kL169, kA169, kS169, kC170, kG170, kP170, kR170_0, kR170_1, kR170_2, kL171, kA171, kS171, kL172, kA172, kS172, kL173, kA173, kS173, kC174, kG174, kP174, kR174_0, kR174_1, kR174_2, kR174_3, kR174_4, kL175, kA175, kS175, kL176, kA176, kS176, kL177, kA177, kS177, kL178, kA178, kS178, kL179, kC180, kG180, kP180, kL181, kL182, kA182, kS182, kC183, kG183, kP183, kR183_1, kR183_3, kR183_5, kR183_6, kR183_7, kR183_8, kR183_9, kR183_21, kR183_26, kR183_27, kR183_30, kR183_31, kR183_33, kR183_34, kR183_36, kR183_37, kR183_38, kR183_39, kR183_40, kR183_41, kR183_42, kR183_43, kR183_44, kL184, kA184, kS184, kL185, kA185, kS185, kL186, kA186, kS186, kL187, kA187, kS187, kL188, kA188, kS188, kL189, kL190, kL191, kA191, kS191, kL192, kA192, kS192, kL193, kA193, kS193, kL194, kA194, kS194, kL195, kA195, kS195, kL196, kA196, kS196, kL197, kA197, kS197, kL198, kA198, kS198, kL199, kA199, kS199, kL200, kA200, kS200, kL201, kL202, kA202, kS202, kL203, kA203, kS203, kL204, kA204, kS204, kL205, kL206, kA206, kS206, fillI_ok K166, fillI_ok K168]
  have x0 : nI (gSt g) - (1 : Int32) = iI ((gSt g : Int) - 1 - ((0 : Nat) : Int)) := by rw [iI_n, show (1 : Int32) = iI 1 from rfl, iI_sub]; simp
  rw [x0]
  have key : ∃ τ, xloop (f_X4_gather_b21 165 157 16) (iI ((gSt g : Int) - 1 - ((0 : Nat) : Int)), xw σ (xur (xur I 166 (fun j => if j < 289 then 0 else I 166 j)) 168 (fun j => if j < 4913 then 0 else I 168 j))) = some τ ∧ ∃ J, τ = xw σ J ∧ LVK J g F ∧ ∀ a k, ¬ (166 ≤ a ∧ a ≤ 169) → ¬ (a = 165 ∧ k = 4) → J a k = I a k := by
    refine xforI (fun j x => ∃ J, x = (iI ((gSt g : Int) - 1 - (j : Int)), xw σ J) ∧ gaP J g F (gSt g - j) ∧ ∀ a k, ¬ (166 ≤ a ∧ a ≤ 168) → J a k = I a k) (gSt g) ⟨_, rfl, ⟨fun k hk => ?_, fun k s _ h1 h2 => by omega, fun k u hk hu => ?_⟩, fun a k h => by rw [xur_at, if_neg (by omega), xur_at, if_neg (by omega)]⟩ ?_ ?_
    · rw [Nat.sub_zero, cU_e, xur_at, if_neg (by omega), xur_at, if_pos rfl, if_pos hk]; rfl
    · rw [Nat.sub_zero, cU_e, xur_at, if_pos rfl, if_pos (by omega)]; rfl
    · rintro j x hj ⟨J, rfl, ⟨g1, g2, g3⟩, j3⟩
      obtain ⟨s, hs⟩ : ∃ s, s = gSt g - 1 - j := ⟨_, rfl⟩
      have hsN : s < gSt g := by omega
      have hsm : gSt g - j = s + 1 := by omega
      rw [hsm] at g1 g2 g3
      have hs2 : s < 2 ^ gSz g := (gSt_pos hsN).2
      have exs : iI ((gSt g : Int) - 1 - (j : Int)) = nI s := by rw [iI_n]; congr 1; omega
      have hKJ : ENK J (xR σ) (xlen σ) 157 g F := ENK_c (fun k => j3 _ k (by rw [hE.2.1]; omega)) hK
      have hSJ : SR g J 16 F := SR_m hg (fun k _ _ => j3 _ k (by omega)) (fun k _ => j3 _ k (by omega)) (fun k _ => j3 _ k (by omega)) (fun k _ => rfl) hSR
      have nx : nI s + (-1 : Int32) = iI ((gSt g : Int) - 1 - ((j + 1 : Nat) : Int)) := by rw [iI_n, show (-1 : Int32) = iI (-1) from rfl, iI_add]; congr 1; omega
      have hEb2 := eE_b hg ho s
      obtain ⟨e, he, he2⟩ : ∃ e : Nat, eE g (zR F) s = (e : Int) - 144 ∧ e < 289 := ⟨(eE g (zR F) s + 144).toNat, by omega, by omega⟩
      have e144 : iI (eE g (zR F) s) + (144 : Int32) = nI e := by rw [show (144 : Int32) = iI 144 from rfl, iI_add, iI_n]; congr 1; omega
      have hpc := pC_16 s
      have hm1 : gSt g - (j + 1) = s := by omega
      simp only [f_X4_gather_b21]
      rw [exs, if_neg (nI_pos (by omega))]
      simp (disch := first | assumption | omega) only [Option.bind_some, Option.map_some, xw_gR, xw_gN, xw_al, xw_ck, xw_uI, xw_ur, xup_at, xur_at, if_true, if_false, reduceIte, and_true, true_and, and_false, false_and, not_true_eq_false, not_false_eq_true, Nat.reduceEqDiff, eq_self, Nat.reduceAdd, Nat.reduceMul, kC1, kG1, kP1, kR1_0, kR1_1, kR1_2, kR1_3, kR1_4, kR1_5, kR1_6, kR1_7, kR1_8, kR1_9, kR1_10, kR1_11, kR1_12, kR1_13, kC2, kG2, kP2, kR2_0, kR2_1, kC3, kG3, kP3, kR3_0, kR3_1, kR3_2, kR3_3, kL4, kA4, kS4, kL5, kA5, kS5, kL6, kA6, kS6, kL7, kA7, kS7, kC8, kG8, kP8, kR8_0, kR8_1, kL9, kA9, kS9, kL10, kA10, kS10, kC11, kG11, kP11, kR11_0, kR11_1, kR11_2, kR11_3, kL12, kA12, kS12, kL13, kA13, kS13, kL14, kA14, kS14, kL15, kA15, kS15, kC16, kG16, kP16, kR16_0, kR16_1, kL17, kA17, kS17, kL18, kA18, kS18, kC19, kG19, kP19, kR19_0, kL20, kL141, kL146, kA146, kS146, kL151, kA151, kS151, kL156, kA156, kS156, kC157, kG157, kP157, kR157_0, kR157_1, kL158, kA158, kS158, kL159, kA159, kS159, kC161, kG161, kP161, kR161_0, kR161_1, kL162, kA162, kS162, kL163, kA163, kS163, kC165, kG165, kP165, kR165_0, kR165_1, kR165_2, kR165_3, kL166, kA166, kS166, kL167, kA167, kS167, kL168, kA168, kS168, kL169, kA169, kS169, kC170, kG170, kP170, kR170_0, kR170_1, kR170_2, kL171, kA171, kS171, kL172, kA172, kS172, kL173, kA173, kS173, kC174, kG174, kP174, kR174_0, kR174_1, kR174_2, kR174_3, kR174_4, kL175, kA175, kS175, kL176, kA176, kS176, kL177, kA177, kS177, kL178, kA178, kS178, kL179, kC180, kG180, kP180, kL181, kL182, kA182, kS182, kC183, kG183, kP183, kR183_1, kR183_3, kR183_5, kR183_6, kR183_7, kR183_8, kR183_9, kR183_21, kR183_26, kR183_27, kR183_30, kR183_31, kR183_33, kR183_34, kR183_36, kR183_37, kR183_38, kR183_39, kR183_40, kR183_41, kR183_42, kR183_43, kR183_44, kL184, kA184, kS184, kL185, kA185, kS185, kL186, kA186, kS186, kL187, kA187, kS187, kL188, kA188, kS188, kL189, kL190, kL191, kA191, kS191, kL192, kA192, kS192, kL193, kA193, kS193, kL194, kA194, kS194, kL195, kA195, kS195, kL196, kA196, kS196, kL197, kA197, kS197, kL198, kA198, kS198, kL199, kA199, kS199, kL200, kA200, kS200, kL201, kL202, kA202, kS202, kL203, kA203, kS203, kL204, kA204, kS204, kL205, kL206, kA206, kS206, of_ok hS hE hKJ hs2, bitCount_ok (show s < 65536 by omega), allows_ok hS hg suA_16 hSJ, e144, nx, show (17 : Int32) = nI 17 from rfl, nn_mul, nn_add]
      cases hl : lW g F s with
      | false =>
        refine ⟨_, by rw [if_pos (by decide)], J, rfl, ?_, j3⟩
        rw [hm1]
        have hno : ∀ k : Nat, lE g F ((k : Int) - 144) s = false := fun k => by unfold lE; rw [hl]; rfl
        refine ⟨fun k hk => ?_, fun k s' hk h1 h2 h3 h4 => ?_, fun k u hk hu => ?_⟩
        · rw [g1 k hk, cU_s _ hsN, hno k]; simp
        · by_cases z : s' = s
          · rw [z, hno k] at h3; cases h3
          · exact g2 k s' hk (by omega) h2 h3 (fun s'' q1 q2 => h4 s'' (by omega) q2)
        · rw [g3 k u hk hu, cU_s _ hsN, hno k]; simp
      | true =>
        rw [if_neg (by decide), if_neg (nI_pos (by omega)), if_neg (by rw [show (289 : Int32) = nI 289 from rfl, nn_le (by omega) (by omega)]; omega), if_neg (by rw [nn_le (by omega) (by omega)]; omega)]
        have hyes : ∀ k : Nat, lE g F ((k : Int) - 144) s = decide (k = e) := fun k => by
          unfold lE
          rw [hl, he]
          have : ((e : Int) - 144 = (k : Int) - 144) ↔ (k = e) := by omega
          simp only [this, Bool.true_and]
        have hix : e * 17 + pC s = 17 * e + pC s := by omega
        simp (disch := first | assumption | omega) only [Option.bind_some, Option.map_some, xw_gR, xw_gN, xw_al, xw_ck, xw_uI, xw_ur, xup_at, xur_at, if_true, if_false, reduceIte, and_true, true_and, and_false, false_and, not_true_eq_false, not_false_eq_true, Nat.reduceEqDiff, eq_self, Nat.reduceAdd, Nat.reduceMul, kC1, kG1, kP1, kR1_0, kR1_1, kR1_2, kR1_3, kR1_4, kR1_5, kR1_6, kR1_7, kR1_8, kR1_9, kR1_10, kR1_11, kR1_12, kR1_13, kC2, kG2, kP2, kR2_0, kR2_1, kC3, kG3, kP3, kR3_0, kR3_1, kR3_2, kR3_3, kL4, kA4, kS4, kL5, kA5, kS5, kL6, kA6, kS6, kL7, kA7, kS7, kC8, kG8, kP8, kR8_0, kR8_1, kL9, kA9, kS9, kL10, kA10, kS10, kC11, kG11, kP11, kR11_0, kR11_1, kR11_2, kR11_3, kL12, kA12, kS12, kL13, kA13, kS13, kL14, kA14, kS14, kL15, kA15, kS15, kC16, kG16, kP16, kR16_0, kR16_1, kL17, kA17, kS17, kL18, kA18, kS18, kC19, kG19, kP19, kR19_0, kL20, kL141, kL146, kA146, kS146, kL151, kA151, kS151, kL156, kA156, kS156, kC157, kG157, kP157, kR157_0, kR157_1, kL158, kA158, kS158, kL159, kA159, kS159, kC161, kG161, kP161, kR161_0, kR161_1, kL162, kA162, kS162, kL163, kA163, kS163, kC165, kG165, kP165, kR165_0, kR165_1, kR165_2, kR165_3, kL166, kA166, kS166, kL167, kA167, kS167, kL168, kA168, kS168, kL169, kA169, kS169, kC170, kG170, kP170, kR170_0, kR170_1, kR170_2, kL171, kA171, kS171, kL172, kA172, kS172, kL173, kA173, kS173, kC174, kG174, kP174, kR174_0, kR174_1, kR174_2, kR174_3, kR174_4, kL175, kA175, kS175, kL176, kA176, kS176, kL177, kA177, kS177, kL178, kA178, kS178, kL179, kC180, kG180, kP180, kL181, kL182, kA182, kS182, kC183, kG183, kP183, kR183_1, kR183_3, kR183_5, kR183_6, kR183_7, kR183_8, kR183_9, kR183_21, kR183_26, kR183_27, kR183_30, kR183_31, kR183_33, kR183_34, kR183_36, kR183_37, kR183_38, kR183_39, kR183_40, kR183_41, kR183_42, kR183_43, kR183_44, kL184, kA184, kS184, kL185, kA185, kS185, kL186, kA186, kS186, kL187, kA187, kS187, kL188, kA188, kS188, kL189, kL190, kL191, kA191, kS191, kL192, kA192, kS192, kL193, kA193, kS193, kL194, kA194, kS194, kL195, kA195, kS195, kL196, kA196, kS196, kL197, kA197, kS197, kL198, kA198, kS198, kL199, kA199, kS199, kL200, kA200, kS200, kL201, kL202, kA202, kS202, kL203, kA203, kS203, kL204, kA204, kS204, kL205, kL206, kA206, kS206, g1 e he2, hix, g3 e (pC s) he2 (show pC s < 17 by omega)]
        refine ⟨_, rfl, _, rfl, ?_, fun a k h => by rw [xup_at, if_neg (by omega), xup_at, if_neg (by omega), xup_at, if_neg (by omega)]; exact j3 a k h⟩
        rw [hm1]
        refine ⟨fun k hk => ?_, fun k s' hk h1 h2 h3 h4 => ?_, fun k u hk hu => ?_⟩
        · rw [xup_at, if_neg (by omega), xup_at, cU_s _ hsN, hyes k]
          by_cases z : k = e
          · subst z
            rw [if_pos ⟨rfl, rfl⟩, ← nI_succ]
            simp [Nat.add_comm]
          · rw [if_neg (by omega), xup_at, if_neg (by omega), g1 k hk]
            simp [z]
        · rw [xup_at, if_neg (by omega), xup_at, if_neg (by omega), xup_at]
          by_cases z : k = e
          · subst z
            rw [if_pos ⟨rfl, rfl⟩]
            by_cases w : s' = s
            · rw [w]
            · have := h4 s (Nat.le_refl _) (by omega)
              rw [hyes k] at this
              simp at this
          · rw [if_neg (by omega)]
            by_cases w : s' = s
            · rw [w, hyes k] at h3
              simp at h3
              exact absurd h3 z
            · exact g2 k s' hk (by omega) h2 h3 (fun s'' q1 q2 => h4 s'' (by omega) q2)
        · rw [xup_at, cU_s _ hsN, hyes k]
          by_cases z : k = e ∧ u = pC s
          · obtain ⟨z1, z2⟩ := z
            subst z1 z2
            rw [if_pos ⟨rfl, rfl⟩, ← nI_succ]
            simp [Nat.add_comm]
          · rw [if_neg (by omega), xup_at, if_neg (by omega), xup_at, if_neg (by omega), g3 k u hk hu]
            by_cases z1 : k = e
            · have : ¬ pC s = u := fun w => z ⟨z1, w.symm⟩
              simp [this]
            · simp [z1]
    · rintro x ⟨J, rfl, ⟨g1, g2, g3⟩, j3⟩
      rw [Nat.sub_self] at g1 g2 g3
      have hW : WAY J 166 g F := fun k hk => by rw [g1 k hk, cU_0]; rfl
      obtain ⟨J2, q1, q2, q3, q4⟩ := list_ok hS hg hW
      refine ⟨xw σ J2, ?_, J2, rfl, ⟨fun k hk => ?_, fun k s hk hs h1 h2 => ?_, fun k u hk hu => ?_, q2, q3⟩, fun a k h1 h2 => ?_⟩
      · simp only [f_X4_gather_b21]
        rw [if_pos (by rw [show (0 : Int32) = iI 0 from rfl, iI_lt (by omega) (by omega) (by omega) (by omega)]; omega)]
        simp (disch := first | assumption | omega) only [Option.bind_some, Option.map_some, xw_gR, xw_gN, xw_al, xw_ck, xw_uI, xw_ur, xup_at, xur_at, if_true, if_false, reduceIte, and_true, true_and, and_false, false_and, not_true_eq_false, not_false_eq_true, Nat.reduceEqDiff, eq_self, Nat.reduceAdd, Nat.reduceMul, kC1, kG1, kP1, kR1_0, kR1_1, kR1_2, kR1_3, kR1_4, kR1_5, kR1_6, kR1_7, kR1_8, kR1_9, kR1_10, kR1_11, kR1_12, kR1_13, kC2, kG2, kP2, kR2_0, kR2_1, kC3, kG3, kP3, kR3_0, kR3_1, kR3_2, kR3_3, kL4, kA4, kS4, kL5, kA5, kS5, kL6, kA6, kS6, kL7, kA7, kS7, kC8, kG8, kP8, kR8_0, kR8_1, kL9, kA9, kS9, kL10, kA10, kS10, kC11, kG11, kP11, kR11_0, kR11_1, kR11_2, kR11_3, kL12, kA12, kS12, kL13, kA13, kS13, kL14, kA14, kS14, kL15, kA15, kS15, kC16, kG16, kP16, kR16_0, kR16_1, kL17, kA17, kS17, kL18, kA18, kS18, kC19, kG19, kP19, kR19_0, kL20, kL141, kL146, kA146, kS146, kL151, kA151, kS151, kL156, kA156, kS156, kC157, kG157, kP157, kR157_0, kR157_1, kL158, kA158, kS158, kL159, kA159, kS159, kC161, kG161, kP161, kR161_0, kR161_1, kL162, kA162, kS162, kL163, kA163, kS163, kC165, kG165, kP165, kR165_0, kR165_1, kR165_2, kR165_3, kL166, kA166, kS166, kL167, kA167, kS167, kL168, kA168, kS168, kL169, kA169, kS169, kC170, kG170, kP170, kR170_0, kR170_1, kR170_2, kL171, kA171, kS171, kL172, kA172, kS172, kL173, kA173, kS173, kC174, kG174, kP174, kR174_0, kR174_1, kR174_2, kR174_3, kR174_4, kL175, kA175, kS175, kL176, kA176, kS176, kL177, kA177, kS177, kL178, kA178, kS178, kL179, kC180, kG180, kP180, kL181, kL182, kA182, kS182, kC183, kG183, kP183, kR183_1, kR183_3, kR183_5, kR183_6, kR183_7, kR183_8, kR183_9, kR183_21, kR183_26, kR183_27, kR183_30, kR183_31, kR183_33, kR183_34, kR183_36, kR183_37, kR183_38, kR183_39, kR183_40, kR183_41, kR183_42, kR183_43, kR183_44, kL184, kA184, kS184, kL185, kA185, kS185, kL186, kA186, kS186, kL187, kA187, kS187, kL188, kA188, kS188, kL189, kL190, kL191, kA191, kS191, kL192, kA192, kS192, kL193, kA193, kS193, kL194, kA194, kS194, kL195, kA195, kS195, kL196, kA196, kS196, kL197, kA197, kS197, kL198, kA198, kS198, kL199, kA199, kS199, kL200, kA200, kS200, kL201, kL202, kA202, kS202, kL203, kA203, kS203, kL204, kA204, kS204, kL205, kL206, kA206, kS206, q1]
      · rw [q4 _ _ (by omega) (by omega)]; exact hW k hk
      · rw [q4 _ _ (by omega) (by omega)]
        exact g2 k s hk (Nat.zero_le _) hs h1 (fun s' _ h => h2 s' h)
      · rw [q4 _ _ (by omega) (by omega), g3 k u hk hu, cU_0]; rfl
      · rw [q4 _ _ (by omega) h2]; exact j3 a k (by omega)
  obtain ⟨τ, h1, J, rfl, h2⟩ := key
  exact ⟨J, h1, h2⟩
end GATHER
end
section
/-! levels at hand -/
theorem levelsNow_ok {n : Nat} {σ : XS} {g : GD} {gT gP : GH} {st : Nat} (hn : n ≤ 512) (H : IV n σ g gT gP st) : ∃ τ, f_X11_levelsNow σ 1 = some (165, τ) ∧ IV n τ g gT gP st ∧ ENK (xI τ) (xR τ) (xlen τ) 157 g (xI τ 191) ∧ LVK (xI τ) g (xI τ 191) ∧ (∀ b j, (b < 157 ∨ (161 ≤ b ∧ b ≤ 164) ∨ (170 ≤ b ∧ b ≤ 206)) → xI τ b j = xI σ b j) ∧ (∀ b j, b ≤ xn σ → xL τ b j = xL σ b j) := by
  obtain ⟨σ1, e1, H1, K1, u1, l1⟩ := energiesNow_ok hn H
  have hS := H1.shp
  have hG := H1.grd
  have hg := hG.1
  obtain ⟨hSR, hRO, t, p, ht, hp, e6, e7, gt1, gt2, gp1, gp2⟩ := H1.now
  have hst := H1.stn
  obtain ⟨c, a, hE, ha, hcn⟩ := H1.en157
  have hEb := hE.b
  obtain ⟨J, q1, q2, q3⟩ := gather_ok (I := xI σ1) hS hg hE K1 hSR hRO
  have stp : f_X11_levelsNow σ 1 = if xI σ1 165 5 = nI p then some (165, σ1) else some (165, xw σ1 (xup J 165 5 (nI p))) := by
    unfold f_X11_levelsNow
    rw [xck_ok (sT1 H.shp), Option.bind_some, e1, Option.bind_some]
    dsimp only
    rw [xnz_ok (by decide), Option.bind_some]
    show f_X11_levelsNow_j4 (xw σ1 (xI σ1)) 1 157 = _
    unfold f_X11_levelsNow_j4
    have j16 : J 16 7 = nI p := by rw [q3 16 7 (by omega) (by omega)]; exact e7
    simp (disch := first | assumption | omega) only [Option.bind_some, Option.map_some, xw_gR, xw_gN, xw_al, xw_ck, xw_uI, xw_ur, xup_at, xur_at, if_true, if_false, reduceIte, and_true, true_and, and_false, false_and, not_true_eq_false, not_false_eq_true, Nat.reduceEqDiff, eq_self, Nat.reduceAdd, Nat.reduceMul, kC1, kG1, kP1, kR1_0, kR1_1, kR1_2, kR1_3, kR1_4, kR1_5, kR1_6, kR1_7, kR1_8, kR1_9, kR1_10, kR1_11, kR1_12, kR1_13, kC2, kG2, kP2, kR2_0, kR2_1, kC3, kG3, kP3, kR3_0, kR3_1, kR3_2, kR3_3, kL4, kA4, kS4, kL5, kA5, kS5, kL6, kA6, kS6, kL7, kA7, kS7, kC8, kG8, kP8, kR8_0, kR8_1, kL9, kA9, kS9, kL10, kA10, kS10, kC11, kG11, kP11, kR11_0, kR11_1, kR11_2, kR11_3, kL12, kA12, kS12, kL13, kA13, kS13, kL14, kA14, kS14, kL15, kA15, kS15, kC16, kG16, kP16, kR16_0, kR16_1, kL17, kA17, kS17, kL18, kA18, kS18, kC19, kG19, kP19, kR19_0, kL20, kL141, kL146, kA146, kS146, kL151, kA151, kS151, kL156, kA156, kS156, kC157, kG157, kP157, kR157_0, kR157_1, kL158, kA158, kS158, kL159, kA159, kS159, kC161, kG161, kP161, kR161_0, kR161_1, kL162, kA162, kS162, kL163, kA163, kS163, kC165, kG165, kP165, kR165_0, kR165_1, kR165_2, kR165_3, kL166, kA166, kS166, kL167, kA167, kS167, kL168, kA168, kS168, kL169, kA169, kS169, kC170, kG170, kP170, kR170_0, kR170_1, kR170_2, kL171, kA171, kS171, kL172, kA172, kS172, kL173, kA173, kS173, kC174, kG174, kP174, kR174_0, kR174_1, kR174_2, kR174_3, kR174_4, kL175, kA175, kS175, kL176, kA176, kS176, kL177, kA177, kS177, kL178, kA178, kS178, kL179, kC180, kG180, kP180, kL181, kL182, kA182, kS182, kC183, kG183, kP183, kR183_1, kR183_3, kR183_5, kR183_6, kR183_7, kR183_8, kR183_9, kR183_21, kR183_26, kR183_27, kR183_30, kR183_31, kR183_33, kR183_34, kR183_36, kR183_37, kR183_38, kR183_39, kR183_40, kR183_41, kR183_42, kR183_43, kR183_44, kL184, kA184, kS184, kL185, kA185, kS185, kL186, kA186, kS186, kL187, kA187, kS187, kL188, kA188, kS188, kL189, kL190, kL191, kA191, kS191, kL192, kA192, kS192, kL193, kA193, kS193, kL194, kA194, kS194, kL195, kA195, kS195, kL196, kA196, kS196, kL197, kA197, kS197, kL198, kA198, kS198, kL199, kA199, kS199, kL200, kA200, kS200, kL201, kL202, kA202, kS202, kL203, kA203, kS203, kL204, kA204, kS204, kL205, kL206, kA206, kS206, e7, xnz_ok, states11_ok hS hG, q1, j16]
    rfl
  rw [stp]
  by_cases hq : xI σ1 165 5 = nI p
  · rw [if_pos hq]
    refine ⟨σ1, rfl, H1, K1, ?_, fun b j hb => u1 b j (by omega), l1⟩
    rcases H1.cch.2.1 with z | ⟨p', z1, z2, z3⟩
    · rw [hq] at z
      exact absurd z (by have := nn_m1 (a := p) (by omega); rw [this]; exact id)
    · have : p' = p := by
        rw [hq, nn_eq (by omega) (by omega)] at z2; exact z2.symm
      subst this
      rw [gp1] at z3
      obtain ⟨c1, c2, c3, c4, c5, c6, c7⟩ := ct_congr hg (F := (gP p').2) (F' := xI σ1 191) gp2
      obtain ⟨y1, y2, y3, y4, y5⟩ := z3
      have cN : lvN g (xI σ1 191) = lvN g (gP p').2 := by unfold lvN; rw [c6]
      refine ⟨fun k hk => by rw [c4]; exact y1 k hk, fun k s hk hs => by rw [c3]; exact y2 k s hk hs, fun k u hk hu => by rw [c5]; exact y3 k u hk hu, by rw [cN]; exact y4, fun k hk => by rw [c6]; exact y5 k hk⟩
  · rw [if_neg hq]
    have ux : ∀ b j, ¬ (165 ≤ b ∧ b ≤ 169) → xup J 165 5 (nI p) b j = xI σ1 b j := fun b j hb => by rw [xup_at, if_neg (by omega), q3 b j (by omega) (by omega)]
    have lvk : LVK (xup J 165 5 (nI p)) g (xI σ1 191) := by
      obtain ⟨y1, y2, y3, y4, y5⟩ := q2
      exact ⟨fun k hk => by rw [xup_at, if_neg (by omega)]; exact y1 k hk, fun k s hk hs h1 h2 => by rw [xup_at, if_neg (by omega)]; exact y2 k s hk hs h1 h2, fun k u hk hu => by rw [xup_at, if_neg (by omega)]; exact y3 k u hk hu, by rw [xup_at, if_neg (by omega)]; exact y4, fun k hk h => by rw [xup_at, if_neg (by omega)]; exact y5 k hk h⟩
    have row : xup J 165 5 (nI p) 191 = xI σ1 191 := by funext k; exact ux 191 k (by omega)
    have enk : ∀ F, ENK (xI σ1) (xR σ1) (xlen σ1) 157 g F → ENK (xup J 165 5 (nI p)) (xR σ1) (xlen σ1) 157 g F := fun F h => ENK_c (fun k => ux _ k (by rw [hE.2.1]; omega)) h
    refine ⟨_, rfl, H1.cache hS (fun b j hb => ux b j (by omega)) ?_ H1.cel, ?_, ?_, fun b j hb => ?_, l1⟩
    · obtain ⟨c1, -, c3, c4⟩ := H1.cch
      refine ⟨?_, .inr ⟨p, hp, ?_, ?_⟩, ?_, ?_⟩
      · rw [xw_I, ux 157 5 (by omega)]
        rcases c1 with z | ⟨q, z1, z2, z3⟩
        · exact .inl z
        · exact .inr ⟨q, z1, z2, ENK_c (R := xR σ1) (fun k => ux _ k (by rw [hE.2.1]; omega)) z3⟩
      · rw [xw_I, xup_at, if_pos ⟨rfl, rfl⟩]
      · rw [gp1]
        obtain ⟨c1, c2, c3, c4, c5, c6, c7⟩ := ct_congr hg (F := (gP p).2) (F' := xI σ1 191) gp2
        obtain ⟨y1, y2, y3, y4, y5⟩ := lvk
        have cN : lvN g (xI σ1 191) = lvN g (gP p).2 := by unfold lvN; rw [c6]
        exact ⟨fun k hk => by rw [← c4]; exact y1 k hk, fun k s hk hs => by rw [← c3]; exact y2 k s hk hs, fun k u hk hu => by rw [← c5]; exact y3 k u hk hu, by rw [← cN]; exact y4, fun k hk => by rw [← c6]; exact y5 k hk⟩
      · rw [xw_I, ux 170 3 (by omega)]
        rcases c3 with z | ⟨q, z1, z2, z3⟩
        · exact .inl z
        · exact .inr ⟨q, z1, z2, BRK_c (fun k => ux _ k (by omega)) z3⟩
      · rw [xw_I, ux 174 10 (by omega)]
        rcases c4 with z | ⟨q, z1, z2, z3⟩
        · exact .inl z
        · exact .inr ⟨q, z1, z2, TRK_c (fun b k hb => ux _ k (by omega)) z3⟩
    · rw [xw_I, row]; exact enk _ K1
    · rw [xw_I, row]; exact lvk
    · rw [xw_I, ux b j (by omega)]; exact u1 b j (by omega)
/-- levels and all that is known, on both sides -/
theorem both_ready {n : Nat} {σ : XS} {g : GD} {gT gP : GH} {st : Nat} (hn : n ≤ 512) (H : IV n σ g gT gP st) : ∃ τ I', f_X11_levelsNow σ 1 = some (165, τ) ∧ f_X12_knows τ 183 = some (xw τ I') ∧ IV n τ g gT gP st ∧ IV n (xw τ I') g gT gP st ∧ Shp τ ∧ GRD (xI τ) g ∧ GRD I' g ∧ RO g (xI σ 191) ∧ SR g (xI τ) 16 (xI σ 191) ∧ ENK (xI τ) (xR τ) (xlen τ) 157 g (xI σ 191) ∧ LVK (xI τ) g (xI σ 191) ∧ KNK I' g (xI σ 191) ∧ xI τ 191 = xI σ 191 ∧ I' 191 = xI σ 191 ∧ (∀ b j, (b < 157 ∨ (161 ≤ b ∧ b ≤ 164) ∨ (170 ≤ b ∧ b ≤ 206)) → xI τ b j = xI σ b j) ∧ (∀ b j, ¬ (196 ≤ b ∧ b ≤ 198) → ¬ (b = 183 ∧ (j = 32 ∨ j = 35)) → I' b j = xI τ b j) := by
  obtain ⟨τ, e1, H1, K1, L1, u1, l1⟩ := levelsNow_ok hn H
  obtain ⟨I', e2, H2, K2, u2⟩ := knows_ok H1
  have r1 : xI τ 191 = xI σ 191 := by funext k; exact u1 191 k (by omega)
  have r2 : I' 191 = xI σ 191 := by funext k; rw [u2 191 k (by omega) (by omega), r1]
  rw [r1] at K1 L1
  rw [r2] at K2
  have hN := H1.now
  rw [r1] at hN
  exact ⟨τ, I', e1, e2, H1, H2, H1.shp, H1.grd, H2.grd, H.now.2.1, hN.1, K1, L1, K2, r1, r2, u1, u2⟩
end
section
/-! levels told on both sides -/
theorem lvl_at {g : GD} {F : Nat → Int32} {i : Nat} (h : i < lvN g F) : ∃ k, k < 289 ∧ lvP g F k = true ∧ fb_ct (lvP g F) k = i := fb_ct_kth h
theorem lvN_b (g : GD) (F : Nat → Int32) : lvN g F ≤ 289 := fb_ct_le _ _
def isL (g : GD) (F : Nat → Int32) (x : Int32) : Bool := decide (0 ≤ x.toInt) && decide (x.toInt < (lvN g F : Int))
theorem isL_t {g : GD} {F : Nat → Int32} {x : Int32} (h : isL g F x = true) : ∃ i, i < lvN g F ∧ x = nI i := by
  unfold isL at h
  simp only [Bool.and_eq_true, decide_eq_true_eq] at h
  refine ⟨x.toInt.toNat, by omega, ?_⟩
  rw [iI_n, Int.toNat_of_nonneg h.1]
  exact iI_of x
theorem isL_n {g : GD} {F : Nat → Int32} {i : Nat} (h : i < lvN g F) : isL g F (nI i) = true := by
  have := lvN_b g F
  unfold isL
  rw [nI_toInt (by omega), Bool.and_eq_true, decide_eq_true_eq, decide_eq_true_eq]
  omega
theorem isL_in {g : GD} {F : Nat → Int32} (x : Int32) : f_X12_in x 0 (nI (lvN g F) - 1) = some (if isL g F x then 1 else 0) := by
  have hb := lvN_b g F
  unfold f_X12_in
  have e : nI (lvN g F) - 1 = iI ((lvN g F : Int) - 1) := by rw [iI_n, show (1 : Int32) = iI 1 from rfl, iI_sub]
  have hr := x.toInt_lt
  have hl := x.le_toInt
  have c1 : (x < 0) = (x.toInt < 0) := propext (fa_lt _ _)
  have c2 : (iI ((lvN g F : Int) - 1) < x) = ((lvN g F : Int) - 1 < x.toInt) := by
    rw [fa_lt, iI_ti (by omega) (by omega)]
  unfold isL
  simp only [e, c1, c2]
  by_cases h1 : x.toInt < 0
  · have : ¬ (0 ≤ x.toInt) := by omega
    simp [h1, this]
  · by_cases h2 : (lvN g F : Int) - 1 < x.toInt
    · have a : ¬ (x.toInt < (lvN g F : Int)) := by omega
      simp [h1, h2, a]
    · have a : (x.toInt < (lvN g F : Int)) := by omega
      have b : 0 ≤ x.toInt := by omega
      simp [h1, h2, a, b]
theorem lC_b {g : GD} (hg : g ∈ gAll) (F : Nat → Int32) (e : Int) : lC g F e ≤ 65536 := Nat.le_trans (fb_ct_le _ _) (gSt_b hg).1
theorem lU_b {g : GD} (hg : g ∈ gAll) (F : Nat → Int32) (e : Int) (u : Nat) : lU g F e u ≤ 65536 := Nat.le_trans (fb_ct_le _ _) (gSt_b hg).1
/-- an energy's own state -/
theorem knE {g : GD} (hg : g ∈ gAll) {F : Nat → Int32} (ho : RO g F) {e : Int} (h1 : -144 ≤ e) (h2 : e ≤ 144) (s : Nat) : ((if lW g F s then iI (eE g (zR F) s) else nI 100000) = iI e) = (lE g F e s = true) := by
  have hb := eE_b hg ho s
  unfold lE
  cases lW g F s with
  | false =>
    rw [if_neg (by decide), iI_n, iI_eq (by omega) (by omega) (by omega) (by omega)]
    have : ¬ ((100000 : Int) = e) := by omega
    simp [this]
  | true =>
    rw [if_pos rfl, iI_eq (by omega) (by omega) (by omega) (by omega)]
    simp
theorem knF {g : GD} (hg : g ∈ gAll) {F : Nat → Int32} (ho : RO g F) (s : Nat) : ((100000 : Int32) ≤ (if lW g F s then iI (eE g (zR F) s) else nI 100000)) = (lW g F s = false) := by
  have hb := eE_b hg ho s
  cases lW g F s with
  | false =>
    rw [if_neg (by decide), show (100000 : Int32) = nI 100000 from rfl, nn_le (by omega) (by omega)]
    simp
  | true =>
    rw [if_pos rfl, show (100000 : Int32) = iI 100000 from rfl, iI_le (by omega) (by omega) (by omega) (by omega)]
    have : ¬ ((100000 : Int) ≤ eE g (zR F) s) := by omega
    simp [this]
section LEV
variable {σ : XS} {J : Nat → Nat → Int32} {g : GD} {F : Nat → Int32}
theorem hasLevel_ok (hS : Shp σ) (hL : LVK J g F) (x : Int32) : f_X4_hasLevel (xw σ J) 165 x = some (if isL g F x then 1 else 0) := by
  have hb := lvN_b g F
  unfold f_X4_hasLevel
  by_cases h0 : x < 0
  · rw [if_pos h0]
    have : isL g F x = false := by
      unfold isL
      have : x.toInt < 0 := (fa_lt _ _).mp h0
      simp; omega
    rw [this]; rfl
  · rw [if_neg h0]
    obtain ⟨i, hi, rfl⟩ := nn_of h0
    simp (disch := first | assumption | omega) only [Option.bind_some, Option.map_some, xw_gR, xw_gN, xw_al, xw_ck, xw_uI, xw_ur, xup_at, xur_at, if_true, if_false, reduceIte, and_true, true_and, and_false, false_and, not_true_eq_false, not_false_eq_true, Nat.reduceEqDiff, eq_self, Nat.reduceAdd, Nat.reduceMul, kC1, kG1, kP1, kR1_0, kR1_1, kR1_2, kR1_3, kR1_4, kR1_5, kR1_6, kR1_7, kR1_8, kR1_9, kR1_10, kR1_11, kR1_12, kR1_13, kC2, kG2, kP2, kR2_0, kR2_1, kC3, kG3, kP3, kR3_0, kR3_1, kR3_2, kR3_3, kL4, kA4, kS4, kL5, kA5, kS5, kL6, kA6, kS6, kL7, kA7, kS7, kC8, kG8, kP8, kR8_0, kR8_1, kL9, kA9, kS9, kL10, kA10, kS10, kC11, kG11, kP11, kR11_0, kR11_1, kR11_2, kR11_3, kL12, kA12, kS12, kL13, kA13, kS13, kL14, kA14, kS14, kL15, kA15, kS15, kC16, kG16, kP16, kR16_0, kR16_1, kL17, kA17, kS17, kL18, kA18, kS18, kC19, kG19, kP19, kR19_0, kL20, kL141, kL146, kA146, kS146, kL151, kA151, kS151, kL156, kA156, kS156, kC157, kG157, kP157, kR157_0, kR157_1, kL158, kA158, kS158, kL159, kA159, kS159, kC161, kG161, kP161, kR161_0, kR161_1, kL162, kA162, kS162, kL163, kA163, kS163, kC165, kG165, kP165, kR165_0, kR165_1, kR165_2, kR165_3, kL166, kA166, kS166, kL167, kA167, kS167, kL168, kA168, kS168, kL169, kA169, kS169, kC170, kG170, kP170, kR170_0, kR170_1, kR170_2, kL171, kA171, kS171, kL172, kA172, kS172, kL173, kA173, kS173, kC174, kG174, kP174, kR174_0, kR174_1, kR174_2, kR174_3, kR174_4, kL175, kA175, kS175, kL176, kA176, kS176, kL177, kA177, kS177, kL178, kA178, kS178, kL179, kC180, kG180, kP180, kL181, kL182, kA182, kS182, kC183, kG183, kP183, kR183_1, kR183_3, kR183_5, kR183_6, kR183_7, kR183_8, kR183_9, kR183_21, kR183_26, kR183_27, kR183_30, kR183_31, kR183_33, kR183_34, kR183_36, kR183_37, kR183_38, kR183_39, kR183_40, kR183_41, kR183_42, kR183_43, kR183_44, kL184, kA184, kS184, kL185, kA185, kS185, kL186, kA186, kS186, kL187, kA187, kS187, kL188, kA188, kS188, kL189, kL190, kL191, kA191, kS191, kL192, kA192, kS192, kL193, kA193, kS193, kL194, kA194, kS194, kL195, kA195, kS195, kL196, kA196, kS196, kL197, kA197, kS197, kL198, kA198, kS198, kL199, kA199, kS199, kL200, kA200, kS200, kL201, kL202, kA202, kS202, kL203, kA203, kS203, kL204, kA204, kS204, kL205, kL206, kA206, kS206, hL.2.2.2.1]
    have e : (nI (lvN g F) ≤ nI i) = (lvN g F ≤ i) := nn_le (by omega) hi
    unfold isL
    rw [nI_toInt hi]
    simp only [e]
    by_cases hq : lvN g F ≤ i
    · rw [if_pos hq]
      have : ¬ ((i : Int) < (lvN g F : Int)) := by omega
      simp [this]
    · rw [if_neg hq]
      have : ((i : Int) < (lvN g F : Int)) := by omega
      simp [this]
theorem energyOf_ok (hS : Shp σ) (hL : LVK J g F) {k : Nat} (hk : k < 289) (hp : lvP g F k = true) : f_X4_energyOf (xw σ J) 165 (nI (fb_ct (lvP g F) k)) = some (iI ((k : Int) - 144)) := by
  have hb := lvN_b g F
  have hlt : fb_ct (lvP g F) k < lvN g F := by
    unfold lvN
    have h1 : fb_ct (lvP g F) (k + 1) = fb_ct (lvP g F) k + 1 := by rw [fb_ct_succ, hp]; rfl
    have h2 := fb_ct_mono (lvP g F) (show k + 1 ≤ 289 by omega)
    omega
  unfold f_X4_energyOf
  simp (disch := first | assumption | omega) only [Option.bind_some, Option.map_some, xw_gR, xw_gN, xw_al, xw_ck, xw_uI, xw_ur, xup_at, xur_at, if_true, if_false, reduceIte, and_true, true_and, and_false, false_and, not_true_eq_false, not_false_eq_true, Nat.reduceEqDiff, eq_self, Nat.reduceAdd, Nat.reduceMul, kC1, kG1, kP1, kR1_0, kR1_1, kR1_2, kR1_3, kR1_4, kR1_5, kR1_6, kR1_7, kR1_8, kR1_9, kR1_10, kR1_11, kR1_12, kR1_13, kC2, kG2, kP2, kR2_0, kR2_1, kC3, kG3, kP3, kR3_0, kR3_1, kR3_2, kR3_3, kL4, kA4, kS4, kL5, kA5, kS5, kL6, kA6, kS6, kL7, kA7, kS7, kC8, kG8, kP8, kR8_0, kR8_1, kL9, kA9, kS9, kL10, kA10, kS10, kC11, kG11, kP11, kR11_0, kR11_1, kR11_2, kR11_3, kL12, kA12, kS12, kL13, kA13, kS13, kL14, kA14, kS14, kL15, kA15, kS15, kC16, kG16, kP16, kR16_0, kR16_1, kL17, kA17, kS17, kL18, kA18, kS18, kC19, kG19, kP19, kR19_0, kL20, kL141, kL146, kA146, kS146, kL151, kA151, kS151, kL156, kA156, kS156, kC157, kG157, kP157, kR157_0, kR157_1, kL158, kA158, kS158, kL159, kA159, kS159, kC161, kG161, kP161, kR161_0, kR161_1, kL162, kA162, kS162, kL163, kA163, kS163, kC165, kG165, kP165, kR165_0, kR165_1, kR165_2, kR165_3, kL166, kA166, kS166, kL167, kA167, kS167, kL168, kA168, kS168, kL169, kA169, kS169, kC170, kG170, kP170, kR170_0, kR170_1, kR170_2, kL171, kA171, kS171, kL172, kA172, kS172, kL173, kA173, kS173, kC174, kG174, kP174, kR174_0, kR174_1, kR174_2, kR174_3, kR174_4, kL175, kA175, kS175, kL176, kA176, kS176, kL177, kA177, kS177, kL178, kA178, kS178, kL179, kC180, kG180, kP180, kL181, kL182, kA182, kS182, kC183, kG183, kP183, kR183_1, kR183_3, kR183_5, kR183_6, kR183_7, kR183_8, kR183_9, kR183_21, kR183_26, kR183_27, kR183_30, kR183_31, kR183_33, kR183_34, kR183_36, kR183_37, kR183_38, kR183_39, kR183_40, kR183_41, kR183_42, kR183_43, kR183_44, kL184, kA184, kS184, kL185, kA185, kS185, kL186, kA186, kS186, kL187, kA187, kS187, kL188, kA188, kS188, kL189, kL190, kL191, kA191, kS191, kL192, kA192, kS192, kL193, kA193, kS193, kL194, kA194, kS194, kL195, kA195, kS195, kL196, kA196, kS196, kL197, kA197, kS197, kL198, kA198, kS198, kL199, kA199, kS199, kL200, kA200, kS200, kL201, kL202, kA202, kS202, kL203, kA203, kS203, kL204, kA204, kS204, kL205, kL206, kA206, kS206, nn_nneg, hL.2.2.2.1, nn_le, show ¬ (lvN g F ≤ fb_ct (lvP g F) k) by omega, show ¬ (289 ≤ fb_ct (lvP g F) k) by omega, hL.2.2.2.2 k hk hp]
theorem isEnergy_ok (x : Int32) : f_X4_isEnergy x = some (if x.toInt < -144 ∨ 144 < x.toInt then 0 else 1) := by
  unfold f_X4_isEnergy
  have c1 : (x < -144) = (x.toInt < -144) := propext (fa_lt _ _)
  have c2 : ((144 : Int32) < x) = (144 < x.toInt) := propext (fa_lt _ _)
  simp only [c1, c2]
  by_cases h1 : x.toInt < -144
  · simp [h1]
  · by_cases h2 : 144 < x.toInt <;> simp [h1, h2]
theorem isEnergy_k {k : Nat} (hk : k < 289) : f_X4_isEnergy (iI ((k : Int) - 144)) = some 1 := by
  rw [isEnergy_ok, iI_ti (by omega) (by omega), if_neg (by omega)]
theorem e144 (k : Nat) : iI ((k : Int) - 144) + (144 : Int32) = nI k := by
  rw [show (144 : Int32) = iI 144 from rfl, iI_add, iI_n]; congr 1; omega
theorem waysOf_ok (hS : Shp σ) (hL : LVK J g F) {k : Nat} (hk : k < 289) : f_X4_waysOf (xw σ J) 165 (iI ((k : Int) - 144)) = some (nI (lC g F ((k : Int) - 144))) := by
  unfold f_X4_waysOf
  simp (disch := first | assumption | omega) only [Option.bind_some, Option.map_some, xw_gR, xw_gN, xw_al, xw_ck, xw_uI, xw_ur, xup_at, xur_at, if_true, if_false, reduceIte, and_true, true_and, and_false, false_and, not_true_eq_false, not_false_eq_true, Nat.reduceEqDiff, eq_self, Nat.reduceAdd, Nat.reduceMul, kC1, kG1, kP1, kR1_0, kR1_1, kR1_2, kR1_3, kR1_4, kR1_5, kR1_6, kR1_7, kR1_8, kR1_9, kR1_10, kR1_11, kR1_12, kR1_13, kC2, kG2, kP2, kR2_0, kR2_1, kC3, kG3, kP3, kR3_0, kR3_1, kR3_2, kR3_3, kL4, kA4, kS4, kL5, kA5, kS5, kL6, kA6, kS6, kL7, kA7, kS7, kC8, kG8, kP8, kR8_0, kR8_1, kL9, kA9, kS9, kL10, kA10, kS10, kC11, kG11, kP11, kR11_0, kR11_1, kR11_2, kR11_3, kL12, kA12, kS12, kL13, kA13, kS13, kL14, kA14, kS14, kL15, kA15, kS15, kC16, kG16, kP16, kR16_0, kR16_1, kL17, kA17, kS17, kL18, kA18, kS18, kC19, kG19, kP19, kR19_0, kL20, kL141, kL146, kA146, kS146, kL151, kA151, kS151, kL156, kA156, kS156, kC157, kG157, kP157, kR157_0, kR157_1, kL158, kA158, kS158, kL159, kA159, kS159, kC161, kG161, kP161, kR161_0, kR161_1, kL162, kA162, kS162, kL163, kA163, kS163, kC165, kG165, kP165, kR165_0, kR165_1, kR165_2, kR165_3, kL166, kA166, kS166, kL167, kA167, kS167, kL168, kA168, kS168, kL169, kA169, kS169, kC170, kG170, kP170, kR170_0, kR170_1, kR170_2, kL171, kA171, kS171, kL172, kA172, kS172, kL173, kA173, kS173, kC174, kG174, kP174, kR174_0, kR174_1, kR174_2, kR174_3, kR174_4, kL175, kA175, kS175, kL176, kA176, kS176, kL177, kA177, kS177, kL178, kA178, kS178, kL179, kC180, kG180, kP180, kL181, kL182, kA182, kS182, kC183, kG183, kP183, kR183_1, kR183_3, kR183_5, kR183_6, kR183_7, kR183_8, kR183_9, kR183_21, kR183_26, kR183_27, kR183_30, kR183_31, kR183_33, kR183_34, kR183_36, kR183_37, kR183_38, kR183_39, kR183_40, kR183_41, kR183_42, kR183_43, kR183_44, kL184, kA184, kS184, kL185, kA185, kS185, kL186, kA186, kS186, kL187, kA187, kS187, kL188, kA188, kS188, kL189, kL190, kL191, kA191, kS191, kL192, kA192, kS192, kL193, kA193, kS193, kL194, kA194, kS194, kL195, kA195, kS195, kL196, kA196, kS196, kL197, kA197, kS197, kL198, kA198, kS198, kL199, kA199, kS199, kL200, kA200, kS200, kL201, kL202, kA202, kS202, kL203, kA203, kS203, kL204, kA204, kS204, kL205, kL206, kA206, kS206, isEnergy_k hk, one0, e144, hL.1 k hk]
theorem leastOf_ok (hS : Shp σ) (hL : LVK J g F) {k s : Nat} (hk : k < 289) (hs : s < gSt g) (h1 : lE g F ((k : Int) - 144) s = true) (h2 : ∀ s', s' < s → lE g F ((k : Int) - 144) s' = false) : f_X4_leastOf (xw σ J) 165 (iI ((k : Int) - 144)) = some (nI s) := by
  unfold f_X4_leastOf
  simp (disch := first | assumption | omega) only [Option.bind_some, Option.map_some, xw_gR, xw_gN, xw_al, xw_ck, xw_uI, xw_ur, xup_at, xur_at, if_true, if_false, reduceIte, and_true, true_and, and_false, false_and, not_true_eq_false, not_false_eq_true, Nat.reduceEqDiff, eq_self, Nat.reduceAdd, Nat.reduceMul, kC1, kG1, kP1, kR1_0, kR1_1, kR1_2, kR1_3, kR1_4, kR1_5, kR1_6, kR1_7, kR1_8, kR1_9, kR1_10, kR1_11, kR1_12, kR1_13, kC2, kG2, kP2, kR2_0, kR2_1, kC3, kG3, kP3, kR3_0, kR3_1, kR3_2, kR3_3, kL4, kA4, kS4, kL5, kA5, kS5, kL6, kA6, kS6, kL7, kA7, kS7, kC8, kG8, kP8, kR8_0, kR8_1, kL9, kA9, kS9, kL10, kA10, kS10, kC11, kG11, kP11, kR11_0, kR11_1, kR11_2, kR11_3, kL12, kA12, kS12, kL13, kA13, kS13, kL14, kA14, kS14, kL15, kA15, kS15, kC16, kG16, kP16, kR16_0, kR16_1, kL17, kA17, kS17, kL18, kA18, kS18, kC19, kG19, kP19, kR19_0, kL20, kL141, kL146, kA146, kS146, kL151, kA151, kS151, kL156, kA156, kS156, kC157, kG157, kP157, kR157_0, kR157_1, kL158, kA158, kS158, kL159, kA159, kS159, kC161, kG161, kP161, kR161_0, kR161_1, kL162, kA162, kS162, kL163, kA163, kS163, kC165, kG165, kP165, kR165_0, kR165_1, kR165_2, kR165_3, kL166, kA166, kS166, kL167, kA167, kS167, kL168, kA168, kS168, kL169, kA169, kS169, kC170, kG170, kP170, kR170_0, kR170_1, kR170_2, kL171, kA171, kS171, kL172, kA172, kS172, kL173, kA173, kS173, kC174, kG174, kP174, kR174_0, kR174_1, kR174_2, kR174_3, kR174_4, kL175, kA175, kS175, kL176, kA176, kS176, kL177, kA177, kS177, kL178, kA178, kS178, kL179, kC180, kG180, kP180, kL181, kL182, kA182, kS182, kC183, kG183, kP183, kR183_1, kR183_3, kR183_5, kR183_6, kR183_7, kR183_8, kR183_9, kR183_21, kR183_26, kR183_27, kR183_30, kR183_31, kR183_33, kR183_34, kR183_36, kR183_37, kR183_38, kR183_39, kR183_40, kR183_41, kR183_42, kR183_43, kR183_44, kL184, kA184, kS184, kL185, kA185, kS185, kL186, kA186, kS186, kL187, kA187, kS187, kL188, kA188, kS188, kL189, kL190, kL191, kA191, kS191, kL192, kA192, kS192, kL193, kA193, kS193, kL194, kA194, kS194, kL195, kA195, kS195, kL196, kA196, kS196, kL197, kA197, kS197, kL198, kA198, kS198, kL199, kA199, kS199, kL200, kA200, kS200, kL201, kL202, kA202, kS202, kL203, kA203, kS203, kL204, kA204, kS204, kL205, kL206, kA206, kS206, isEnergy_k hk, one0, e144, hL.2.1 k s hk hs h1 h2]
theorem withUps_ok (hS : Shp σ) (hL : LVK J g F) {k u : Nat} (hk : k < 289) (hu : u < 17) : f_X4_waysWithUps (xw σ J) 165 (iI ((k : Int) - 144)) (nI u) = some (nI (lU g F ((k : Int) - 144) u)) := by
  unfold f_X4_waysWithUps f_X4_waysWithUps_j22
  rw [isEnergy_k hk, Option.bind_some, if_neg (by decide), if_neg (nI_pos (by omega)), if_neg (by rw [show (17 : Int32) = nI 17 from rfl, nn_le (by omega) (by omega)]; omega), if_neg (by decide)]
  have := hL.2.2.1 k u hk hu
  simp (disch := first | assumption | omega) only [Option.bind_some, Option.map_some, xw_gR, xw_gN, xw_al, xw_ck, xw_uI, xw_ur, xup_at, xur_at, if_true, if_false, reduceIte, and_true, true_and, and_false, false_and, not_true_eq_false, not_false_eq_true, Nat.reduceEqDiff, eq_self, Nat.reduceAdd, Nat.reduceMul, kC1, kG1, kP1, kR1_0, kR1_1, kR1_2, kR1_3, kR1_4, kR1_5, kR1_6, kR1_7, kR1_8, kR1_9, kR1_10, kR1_11, kR1_12, kR1_13, kC2, kG2, kP2, kR2_0, kR2_1, kC3, kG3, kP3, kR3_0, kR3_1, kR3_2, kR3_3, kL4, kA4, kS4, kL5, kA5, kS5, kL6, kA6, kS6, kL7, kA7, kS7, kC8, kG8, kP8, kR8_0, kR8_1, kL9, kA9, kS9, kL10, kA10, kS10, kC11, kG11, kP11, kR11_0, kR11_1, kR11_2, kR11_3, kL12, kA12, kS12, kL13, kA13, kS13, kL14, kA14, kS14, kL15, kA15, kS15, kC16, kG16, kP16, kR16_0, kR16_1, kL17, kA17, kS17, kL18, kA18, kS18, kC19, kG19, kP19, kR19_0, kL20, kL141, kL146, kA146, kS146, kL151, kA151, kS151, kL156, kA156, kS156, kC157, kG157, kP157, kR157_0, kR157_1, kL158, kA158, kS158, kL159, kA159, kS159, kC161, kG161, kP161, kR161_0, kR161_1, kL162, kA162, kS162, kL163, kA163, kS163, kC165, kG165, kP165, kR165_0, kR165_1, kR165_2, kR165_3, kL166, kA166, kS166, kL167, kA167, kS167, kL168, kA168, kS168, kL169, kA169, kS169, kC170, kG170, kP170, kR170_0, kR170_1, kR170_2, kL171, kA171, kS171, kL172, kA172, kS172, kL173, kA173, kS173, kC174, kG174, kP174, kR174_0, kR174_1, kR174_2, kR174_3, kR174_4, kL175, kA175, kS175, kL176, kA176, kS176, kL177, kA177, kS177, kL178, kA178, kS178, kL179, kC180, kG180, kP180, kL181, kL182, kA182, kS182, kC183, kG183, kP183, kR183_1, kR183_3, kR183_5, kR183_6, kR183_7, kR183_8, kR183_9, kR183_21, kR183_26, kR183_27, kR183_30, kR183_31, kR183_33, kR183_34, kR183_36, kR183_37, kR183_38, kR183_39, kR183_40, kR183_41, kR183_42, kR183_43, kR183_44, kL184, kA184, kS184, kL185, kA185, kS185, kL186, kA186, kS186, kL187, kA187, kS187, kL188, kA188, kS188, kL189, kL190, kL191, kA191, kS191, kL192, kA192, kS192, kL193, kA193, kS193, kL194, kA194, kS194, kL195, kA195, kS195, kL196, kA196, kS196, kL197, kA197, kS197, kL198, kA198, kS198, kL199, kA199, kS199, kL200, kA200, kS200, kL201, kL202, kA202, kS202, kL203, kA203, kS203, kL204, kA204, kS204, kL205, kL206, kA206, kS206, e144, show (17 : Int32) = nI 17 from rfl, nn_mul, nn_add, show k * 17 + u = 17 * k + u by omega, this]
theorem withUps_no (σ : XS) {x y : Int32} (h : (x.toInt < -144 ∨ 144 < x.toInt) ∨ y < 0 ∨ 17 ≤ y) : f_X4_waysWithUps σ 165 x y = some 0 := by
  unfold f_X4_waysWithUps f_X4_waysWithUps_j22
  rw [isEnergy_ok, Option.bind_some]
  by_cases h1 : x.toInt < -144 ∨ 144 < x.toInt
  · rw [if_pos h1, if_pos rfl, if_pos rfl]
  · rw [if_neg h1, if_neg (by decide)]
    by_cases h2 : y < 0
    · rw [if_pos h2, if_pos rfl]
    · rw [if_neg h2, if_pos (by rcases h with z | z | z <;> first | exact absurd z h1 | exact absurd z h2 | exact z), if_pos rfl]
end LEV
/-- the model's count of states by energy and ups -/
theorem both12 {σ : XS} {J : Nat → Nat → Int32} {g : GD} {F : Nat → Int32} (hS : Shp σ) (hG : GRD J g) (ho : RO g F) (hK : KNK J g F) (x y : Int32) : xloop (f_X12_both_b9 (xw σ J) 183 x y) ((0 : Int32), (0 : Int32)) = some (nI (fb_ct (fun s => lW g F s && decide (iI (eE g (zR F) s) = x) && decide (nI (pC s) = y)) (gSt g)), xw σ J) := by
  have hg := hG.1
  have hSt := (gSt_b hg).1
  refine xforE (fun s : Nat => (nI (fb_ct (fun s => lW g F s && decide (iI (eE g (zR F) s) = x) && decide (nI (pC s) = y)) s), nI s)) (gSt g) rfl (fun s hs => ?_) ?_
  · simp only [f_X12_both_b9]
    have hv := hK.1 s hs
    have hF := knF hg ho s
    simp (disch := first | assumption | omega) only [Option.bind_some, Option.map_some, xw_gR, xw_gN, xw_al, xw_ck, xw_uI, xw_ur, xup_at, xur_at, if_true, if_false, reduceIte, and_true, true_and, and_false, false_and, not_true_eq_false, not_false_eq_true, Nat.reduceEqDiff, eq_self, Nat.reduceAdd, Nat.reduceMul, kC1, kG1, kP1, kR1_0, kR1_1, kR1_2, kR1_3, kR1_4, kR1_5, kR1_6, kR1_7, kR1_8, kR1_9, kR1_10, kR1_11, kR1_12, kR1_13, kC2, kG2, kP2, kR2_0, kR2_1, kC3, kG3, kP3, kR3_0, kR3_1, kR3_2, kR3_3, kL4, kA4, kS4, kL5, kA5, kS5, kL6, kA6, kS6, kL7, kA7, kS7, kC8, kG8, kP8, kR8_0, kR8_1, kL9, kA9, kS9, kL10, kA10, kS10, kC11, kG11, kP11, kR11_0, kR11_1, kR11_2, kR11_3, kL12, kA12, kS12, kL13, kA13, kS13, kL14, kA14, kS14, kL15, kA15, kS15, kC16, kG16, kP16, kR16_0, kR16_1, kL17, kA17, kS17, kL18, kA18, kS18, kC19, kG19, kP19, kR19_0, kL20, kL141, kL146, kA146, kS146, kL151, kA151, kS151, kL156, kA156, kS156, kC157, kG157, kP157, kR157_0, kR157_1, kL158, kA158, kS158, kL159, kA159, kS159, kC161, kG161, kP161, kR161_0, kR161_1, kL162, kA162, kS162, kL163, kA163, kS163, kC165, kG165, kP165, kR165_0, kR165_1, kR165_2, kR165_3, kL166, kA166, kS166, kL167, kA167, kS167, kL168, kA168, kS168, kL169, kA169, kS169, kC170, kG170, kP170, kR170_0, kR170_1, kR170_2, kL171, kA171, kS171, kL172, kA172, kS172, kL173, kA173, kS173, kC174, kG174, kP174, kR174_0, kR174_1, kR174_2, kR174_3, kR174_4, kL175, kA175, kS175, kL176, kA176, kS176, kL177, kA177, kS177, kL178, kA178, kS178, kL179, kC180, kG180, kP180, kL181, kL182, kA182, kS182, kC183, kG183, kP183, kR183_1, kR183_3, kR183_5, kR183_6, kR183_7, kR183_8, kR183_9, kR183_21, kR183_26, kR183_27, kR183_30, kR183_31, kR183_33, kR183_34, kR183_36, kR183_37, kR183_38, kR183_39, kR183_40, kR183_41, kR183_42, kR183_43, kR183_44, kL184, kA184, kS184, kL185, kA185, kS185, kL186, kA186, kS186, kL187, kA187, kS187, kL188, kA188, kS188, kL189, kL190, kL191, kA191, kS191, kL192, kA192, kS192, kL193, kA193, kS193, kL194, kA194, kS194, kL195, kA195, kS195, kL196, kA196, kS196, kL197, kA197, kS197, kL198, kA198, kS198, kL199, kA199, kS199, kL200, kA200, kS200, kL201, kL202, kA202, kS202, kL203, kA203, kS203, kL204, kA204, kS204, kL205, kL206, kA206, kS206, states12_ok hS hG, nn_le, show ¬ (gSt g ≤ s) by omega, hv, hF, bitsOf_ok (show s < 65536 by omega)]
    rw [fb_ct_succ]
    cases lW g F s with
    | false => simp [nI_succ]
    | true =>
      simp only [if_true, Bool.true_and, Bool.true_eq_false, if_false]
      by_cases h1 : iI (eE g (zR F) s) = x
      · rw [if_pos h1]
        by_cases h2 : nI (pC s) = y
        · rw [if_pos h2]; simp [h1, h2, nI_succ]
        · rw [if_neg h2]; simp [h1, h2, nI_succ]
      · rw [if_neg h1]; simp [h1, nI_succ]
  · simp only [f_X12_both_b9]
    simp (disch := first | assumption | omega) only [Option.bind_some, Option.map_some, xw_gR, xw_gN, xw_al, xw_ck, xw_uI, xw_ur, xup_at, xur_at, if_true, if_false, reduceIte, and_true, true_and, and_false, false_and, not_true_eq_false, not_false_eq_true, Nat.reduceEqDiff, eq_self, Nat.reduceAdd, Nat.reduceMul, kC1, kG1, kP1, kR1_0, kR1_1, kR1_2, kR1_3, kR1_4, kR1_5, kR1_6, kR1_7, kR1_8, kR1_9, kR1_10, kR1_11, kR1_12, kR1_13, kC2, kG2, kP2, kR2_0, kR2_1, kC3, kG3, kP3, kR3_0, kR3_1, kR3_2, kR3_3, kL4, kA4, kS4, kL5, kA5, kS5, kL6, kA6, kS6, kL7, kA7, kS7, kC8, kG8, kP8, kR8_0, kR8_1, kL9, kA9, kS9, kL10, kA10, kS10, kC11, kG11, kP11, kR11_0, kR11_1, kR11_2, kR11_3, kL12, kA12, kS12, kL13, kA13, kS13, kL14, kA14, kS14, kL15, kA15, kS15, kC16, kG16, kP16, kR16_0, kR16_1, kL17, kA17, kS17, kL18, kA18, kS18, kC19, kG19, kP19, kR19_0, kL20, kL141, kL146, kA146, kS146, kL151, kA151, kS151, kL156, kA156, kS156, kC157, kG157, kP157, kR157_0, kR157_1, kL158, kA158, kS158, kL159, kA159, kS159, kC161, kG161, kP161, kR161_0, kR161_1, kL162, kA162, kS162, kL163, kA163, kS163, kC165, kG165, kP165, kR165_0, kR165_1, kR165_2, kR165_3, kL166, kA166, kS166, kL167, kA167, kS167, kL168, kA168, kS168, kL169, kA169, kS169, kC170, kG170, kP170, kR170_0, kR170_1, kR170_2, kL171, kA171, kS171, kL172, kA172, kS172, kL173, kA173, kS173, kC174, kG174, kP174, kR174_0, kR174_1, kR174_2, kR174_3, kR174_4, kL175, kA175, kS175, kL176, kA176, kS176, kL177, kA177, kS177, kL178, kA178, kS178, kL179, kC180, kG180, kP180, kL181, kL182, kA182, kS182, kC183, kG183, kP183, kR183_1, kR183_3, kR183_5, kR183_6, kR183_7, kR183_8, kR183_9, kR183_21, kR183_26, kR183_27, kR183_30, kR183_31, kR183_33, kR183_34, kR183_36, kR183_37, kR183_38, kR183_39, kR183_40, kR183_41, kR183_42, kR183_43, kR183_44, kL184, kA184, kS184, kL185, kA185, kS185, kL186, kA186, kS186, kL187, kA187, kS187, kL188, kA188, kS188, kL189, kL190, kL191, kA191, kS191, kL192, kA192, kS192, kL193, kA193, kS193, kL194, kA194, kS194, kL195, kA195, kS195, kL196, kA196, kS196, kL197, kA197, kS197, kL198, kA198, kS198, kL199, kA199, kS199, kL200, kA200, kS200, kL201, kL202, kA202, kS202, kL203, kA203, kS203, kL204, kA204, kS204, kL205, kL206, kA206, kS206, states12_ok hS hG, nn_le, Nat.le_refl]
theorem op_both : Op_both INV := by
  intro n σ hn ⟨g, gT, gP, st, H⟩ x y
  obtain ⟨τ, I', e1, e2, H1, H2, hS, hG1, hG2, ho, hSR, hE, hL, hK, r1, r2, u1, u2⟩ := both_ready (by omega) H
  have hg := hG1.1
  have hSt := (gSt_b hg).1
  refine ⟨nI (fb_ct (fun s => lW g (xI σ 191) s && decide (iI (eE g (zR (xI σ 191)) s) = x) && decide (nI (pC s) = y)) (gSt g)), τ, xw τ I', ?_, ?_, INV_i H2.nop⟩
  · unfold f_X11_both
    rw [xck_ok (sT1 H.shp), Option.bind_some, e1, Option.bind_some]
    dsimp only
    rw [xnz_ok (by decide), Option.bind_some]
    unfold f_X11_both_j4
    rw [xck_ok (sT165 hS), Option.bind_some]
    by_cases hx : x.toInt < -144 ∨ 144 < x.toInt
    · rw [withUps_no _ (.inl hx)]
      have : fb_ct (fun s => lW g (xI σ 191) s && decide (iI (eE g (zR (xI σ 191)) s) = x) && decide (nI (pC s) = y)) (gSt g) = 0 := fb_ct_zero.mpr (fun s _ => by
        have hb := eE_b hg ho s
        have : ¬ iI (eE g (zR (xI σ 191)) s) = x := fun z => by
          have := congrArg Int32.toInt z
          rw [iI_ti (by omega) (by omega)] at this
          omega
        simp [this])
      rw [this]; rfl
    · by_cases hy : y < 0 ∨ 17 ≤ y
      · rw [withUps_no _ (.inr hy)]
        have : fb_ct (fun s => lW g (xI σ 191) s && decide (iI (eE g (zR (xI σ 191)) s) = x) && decide (nI (pC s) = y)) (gSt g) = 0 := fb_ct_zero.mpr (fun s _ => by
          have hb := pC_16 s
          have : ¬ nI (pC s) = y := fun z => by
            rw [← z] at hy
            rcases hy with q | q
            · exact nI_pos (by omega) q
            · rw [show (17 : Int32) = nI 17 from rfl, nn_le (by omega) (by omega)] at q
              omega
          simp [this])
        rw [this]; rfl
      · obtain ⟨u, hu, rfl⟩ := nn_of (fun z => hy (.inl z))
        have hu17 : u < 17 := by
          rcases Nat.lt_or_ge u 17 with z | z
          · exact z
          · exfalso; apply hy; right
            rw [show (17 : Int32) = nI 17 from rfl, nn_le (by omega) (by omega)]; exact z
        obtain ⟨k, hk, rfl⟩ : ∃ k : Nat, k < 289 ∧ x = iI ((k : Int) - 144) := ⟨(x.toInt + 144).toNat, by omega, by
          rw [show (((x.toInt + 144).toNat : Int) - 144) = x.toInt by omega]; exact iI_of x⟩
        have := withUps_ok (σ := τ) (J := xI τ) hS hL hk hu17
        rw [xw_self] at this
        rw [this, Option.bind_some]
        congr 3
        unfold lU lE
        apply fb_ct_cong
        intro s _
        have hb := eE_b hg ho s
        have hb2 := pC_16 s
        have q1 : (iI (eE g (zR (xI σ 191)) s) = iI ((k : Int) - 144)) = (eE g (zR (xI σ 191)) s = (k : Int) - 144) := iI_eq (by omega) (by omega) (by omega) (by omega)
        have q2 : (nI (pC s) = nI u) = (pC s = u) := nn_eq (by omega) (by omega)
        simp only [q1, q2]
  · show f_X12_both τ 183 x y = _
    unfold f_X12_both
    rw [xck_ok (sT183 hS), Option.bind_some, e2, Option.bind_some]
    exact both12 hS hG2 ho hK x y
end
section
/-! the least state of a level, its fewest and most ups -/
theorem lvP_least {g : GD} {F : Nat → Int32} {k : Nat} (hp : lvP g F k = true) : ∃ s, s < gSt g ∧ lE g F ((k : Int) - 144) s = true ∧ ∀ s', s' < s → lE g F ((k : Int) - 144) s' = false := by
  unfold lvP lC at hp
  rw [decide_eq_true_eq, fb_ct_pos] at hp
  obtain ⟨s, h1, h2, h3⟩ := fb_first (p := fun s => lE g F ((k : Int) - 144) s = true) hp
  exact ⟨s, h1, h2, fun s' h => by
    cases q : lE g F ((k : Int) - 144) s' with
    | false => rfl
    | true => exact absurd q (h3 s' h)⟩
section UPS
variable {σ : XS} {J : Nat → Nat → Int32} {g : GD} {F : Nat → Int32}
theorem least12 (hS : Shp σ) (hg : g ∈ gAll) (ho : RO g F) (hK : KNK J g F) {k s : Nat} (hk : k < 289) (hs : s < gSt g) (h1 : lE g F ((k : Int) - 144) s = true) (h2 : ∀ s', s' < s → lE g F ((k : Int) - 144) s' = false) : f_X12_leastOf (xw σ J) 183 (iI ((k : Int) - 144)) = some (nI s) := by
  have hSt := (gSt_b hg).1
  unfold f_X12_leastOf
  refine xforE (fun j : Nat => nI j) s rfl (fun j hj => ?_) ?_
  · simp only [f_X12_leastOf_b2]
    have hv := hK.1 j (by omega)
    have hq := knE hg ho (e := (k : Int) - 144) (by omega) (by omega) j
    rw [h2 j hj] at hq
    simp (disch := first | assumption | omega) only [Option.bind_some, Option.map_some, xw_gR, xw_gN, xw_al, xw_ck, xw_uI, xw_ur, xup_at, xur_at, if_true, if_false, reduceIte, and_true, true_and, and_false, false_and, not_true_eq_false, not_false_eq_true, Nat.reduceEqDiff, eq_self, Nat.reduceAdd, Nat.reduceMul, kC1, kG1, kP1, kR1_0, kR1_1, kR1_2, kR1_3, kR1_4, kR1_5, kR1_6, kR1_7, kR1_8, kR1_9, kR1_10, kR1_11, kR1_12, kR1_13, kC2, kG2, kP2, kR2_0, kR2_1, kC3, kG3, kP3, kR3_0, kR3_1, kR3_2, kR3_3, kL4, kA4, kS4, kL5, kA5, kS5, kL6, kA6, kS6, kL7, kA7, kS7, kC8, kG8, kP8, kR8_0, kR8_1, kL9, kA9, kS9, kL10, kA10, kS10, kC11, kG11, kP11, kR11_0, kR11_1, kR11_2, kR11_3, kL12, kA12, kS12, kL13, kA13, kS13, kL14, kA14, kS14, kL15, kA15, kS15, kC16, kG16, kP16, kR16_0, kR16_1, kL17, kA17, kS17, kL18, kA18, kS18, kC19, kG19, kP19, kR19_0, kL20, kL141, kL146, kA146, kS146, kL151, kA151, kS151, kL156, kA156, kS156, kC157, kG157, kP157, kR157_0, kR157_1, kL158, kA158, kS158, kL159, kA159, kS159, kC161, kG161, kP161, kR161_0, kR161_1, kL162, kA162, kS162, kL163, kA163, kS163, kC165, kG165, kP165, kR165_0, kR165_1, kR165_2, kR165_3, kL166, kA166, kS166, kL167, kA167, kS167, kL168, kA168, kS168, kL169, kA169, kS169, kC170, kG170, kP170, kR170_0, kR170_1, kR170_2, kL171, kA171, kS171, kL172, kA172, kS172, kL173, kA173, kS173, kC174, kG174, kP174, kR174_0, kR174_1, kR174_2, kR174_3, kR174_4, kL175, kA175, kS175, kL176, kA176, kS176, kL177, kA177, kS177, kL178, kA178, kS178, kL179, kC180, kG180, kP180, kL181, kL182, kA182, kS182, kC183, kG183, kP183, kR183_1, kR183_3, kR183_5, kR183_6, kR183_7, kR183_8, kR183_9, kR183_21, kR183_26, kR183_27, kR183_30, kR183_31, kR183_33, kR183_34, kR183_36, kR183_37, kR183_38, kR183_39, kR183_40, kR183_41, kR183_42, kR183_43, kR183_44, kL184, kA184, kS184, kL185, kA185, kS185, kL186, kA186, kS186, kL187, kA187, kS187, kL188, kA188, kS188, kL189, kL190, kL191, kA191, kS191, kL192, kA192, kS192, kL193, kA193, kS193, kL194, kA194, kS194, kL195, kA195, kS195, kL196, kA196, kS196, kL197, kA197, kS197, kL198, kA198, kS198, kL199, kA199, kS199, kL200, kA200, kS200, kL201, kL202, kA202, kS202, kL203, kA203, kS203, kL204, kA204, kS204, kL205, kL206, kA206, kS206, hv, hq, Bool.false_eq_true]
    rw [nI_succ]
  · simp only [f_X12_leastOf_b2]
    have hv := hK.1 s hs
    have hq := knE hg ho (e := (k : Int) - 144) (by omega) (by omega) s
    rw [h1] at hq
    simp (disch := first | assumption | omega) only [Option.bind_some, Option.map_some, xw_gR, xw_gN, xw_al, xw_ck, xw_uI, xw_ur, xup_at, xur_at, if_true, if_false, reduceIte, and_true, true_and, and_false, false_and, not_true_eq_false, not_false_eq_true, Nat.reduceEqDiff, eq_self, Nat.reduceAdd, Nat.reduceMul, kC1, kG1, kP1, kR1_0, kR1_1, kR1_2, kR1_3, kR1_4, kR1_5, kR1_6, kR1_7, kR1_8, kR1_9, kR1_10, kR1_11, kR1_12, kR1_13, kC2, kG2, kP2, kR2_0, kR2_1, kC3, kG3, kP3, kR3_0, kR3_1, kR3_2, kR3_3, kL4, kA4, kS4, kL5, kA5, kS5, kL6, kA6, kS6, kL7, kA7, kS7, kC8, kG8, kP8, kR8_0, kR8_1, kL9, kA9, kS9, kL10, kA10, kS10, kC11, kG11, kP11, kR11_0, kR11_1, kR11_2, kR11_3, kL12, kA12, kS12, kL13, kA13, kS13, kL14, kA14, kS14, kL15, kA15, kS15, kC16, kG16, kP16, kR16_0, kR16_1, kL17, kA17, kS17, kL18, kA18, kS18, kC19, kG19, kP19, kR19_0, kL20, kL141, kL146, kA146, kS146, kL151, kA151, kS151, kL156, kA156, kS156, kC157, kG157, kP157, kR157_0, kR157_1, kL158, kA158, kS158, kL159, kA159, kS159, kC161, kG161, kP161, kR161_0, kR161_1, kL162, kA162, kS162, kL163, kA163, kS163, kC165, kG165, kP165, kR165_0, kR165_1, kR165_2, kR165_3, kL166, kA166, kS166, kL167, kA167, kS167, kL168, kA168, kS168, kL169, kA169, kS169, kC170, kG170, kP170, kR170_0, kR170_1, kR170_2, kL171, kA171, kS171, kL172, kA172, kS172, kL173, kA173, kS173, kC174, kG174, kP174, kR174_0, kR174_1, kR174_2, kR174_3, kR174_4, kL175, kA175, kS175, kL176, kA176, kS176, kL177, kA177, kS177, kL178, kA178, kS178, kL179, kC180, kG180, kP180, kL181, kL182, kA182, kS182, kC183, kG183, kP183, kR183_1, kR183_3, kR183_5, kR183_6, kR183_7, kR183_8, kR183_9, kR183_21, kR183_26, kR183_27, kR183_30, kR183_31, kR183_33, kR183_34, kR183_36, kR183_37, kR183_38, kR183_39, kR183_40, kR183_41, kR183_42, kR183_43, kR183_44, kL184, kA184, kS184, kL185, kA185, kS185, kL186, kA186, kS186, kL187, kA187, kS187, kL188, kA188, kS188, kL189, kL190, kL191, kA191, kS191, kL192, kA192, kS192, kL193, kA193, kS193, kL194, kA194, kS194, kL195, kA195, kS195, kL196, kA196, kS196, kL197, kA197, kS197, kL198, kA198, kS198, kL199, kA199, kS199, kL200, kA200, kS200, kL201, kL202, kA202, kS202, kL203, kA203, kS203, kL204, kA204, kS204, kL205, kL206, kA206, kS206, hv, hq]
theorem ups12 (hS : Shp σ) (hG : GRD J g) (ho : RO g F) (hK : KNK J g F) {k : Nat} (hk : k < 289) (hp : lvP g F k = true) (sg : Int) (hsg : sg = 1 ∨ sg = -1) : ∃ s0, s0 < gSt g ∧ lE g F ((k : Int) - 144) s0 = true ∧ (∀ s', s' < gSt g → lE g F ((k : Int) - 144) s' = true → sg * (pC s0 : Int) ≤ sg * (pC s' : Int)) ∧ f_X12_upsOf (xw σ J) 183 (iI ((k : Int) - 144)) (iI sg) = some (nI (pC s0)) := by
  have hg := hG.1
  have hSt := (gSt_b hg).1
  have key : ∃ r, xloop (f_X12_upsOf_b7 (xw σ J) 183 (iI ((k : Int) - 144)) (iI sg)) (iI 100000, nI 0) = some r ∧ ∃ B : Int, r = iI (sg * B) ∧ (∀ s', s' < gSt g → lE g F ((k : Int) - 144) s' = true → B ≤ sg * (pC s' : Int)) ∧ (B = 100000 ∨ ∃ s', s' < gSt g ∧ lE g F ((k : Int) - 144) s' = true ∧ B = sg * (pC s' : Int)) := by
    refine xforI (fun s x => ∃ B : Int, x = (iI B, nI s) ∧ (∀ s', s' < s → lE g F ((k : Int) - 144) s' = true → B ≤ sg * (pC s' : Int)) ∧ (B = 100000 ∨ ∃ s', s' < s ∧ lE g F ((k : Int) - 144) s' = true ∧ B = sg * (pC s' : Int))) (gSt g) ⟨100000, rfl, fun s' h => by omega, .inl rfl⟩ ?_ ?_
    · rintro s x hs ⟨B, rfl, b1, b2⟩
      have hv := hK.1 s hs
      have hq := knE hg ho (e := (k : Int) - 144) (by omega) (by omega) s
      have hpc := pC_16 s
      have hB : -16 ≤ B ∧ B ≤ 100000 := by
        rcases b2 with z | ⟨s', _, _, z⟩
        · omega
        · have := pC_16 s'
          rcases hsg with q | q <;> rw [q] at z <;> omega
      have hsp : -16 ≤ sg * (pC s : Int) ∧ sg * (pC s : Int) ≤ 16 := by
        rcases hsg with q | q <;> rw [q] <;> omega
      have hm : iI sg * nI (pC s) = iI (sg * (pC s : Int)) := by rw [iI_n, iI_mul]
      have hle : (iI B ≤ iI (sg * (pC s : Int))) = (B ≤ sg * (pC s : Int)) := iI_le (by omega) (by omega) (by omega) (by omega)
      simp only [f_X12_upsOf_b7]
      simp (disch := first | assumption | omega) only [Option.bind_some, Option.map_some, xw_gR, xw_gN, xw_al, xw_ck, xw_uI, xw_ur, xup_at, xur_at, if_true, if_false, reduceIte, and_true, true_and, and_false, false_and, not_true_eq_false, not_false_eq_true, Nat.reduceEqDiff, eq_self, Nat.reduceAdd, Nat.reduceMul, kC1, kG1, kP1, kR1_0, kR1_1, kR1_2, kR1_3, kR1_4, kR1_5, kR1_6, kR1_7, kR1_8, kR1_9, kR1_10, kR1_11, kR1_12, kR1_13, kC2, kG2, kP2, kR2_0, kR2_1, kC3, kG3, kP3, kR3_0, kR3_1, kR3_2, kR3_3, kL4, kA4, kS4, kL5, kA5, kS5, kL6, kA6, kS6, kL7, kA7, kS7, kC8, kG8, kP8, kR8_0, kR8_1, kL9, kA9, kS9, kL10, kA10, kS10, kC11, kG11, kP11, kR11_0, kR11_1, kR11_2, kR11_3, kL12, kA12, kS12, kL13, kA13, kS13, kL14, kA14, kS14, kL15, kA15, kS15, kC16, kG16, kP16, kR16_0, kR16_1, kL17, kA17, kS17, kL18, kA18, kS18, kC19, kG19, kP19, kR19_0, kL20, kL141, kL146, kA146, kS146, kL151, kA151, kS151, kL156, kA156, kS156, kC157, kG157, kP157, kR157_0, kR157_1, kL158, kA158, kS158, kL159, kA159, kS159, kC161, kG161, kP161, kR161_0, kR161_1, kL162, kA162, kS162, kL163, kA163, kS163, kC165, kG165, kP165, kR165_0, kR165_1, kR165_2, kR165_3, kL166, kA166, kS166, kL167, kA167, kS167, kL168, kA168, kS168, kL169, kA169, kS169, kC170, kG170, kP170, kR170_0, kR170_1, kR170_2, kL171, kA171, kS171, kL172, kA172, kS172, kL173, kA173, kS173, kC174, kG174, kP174, kR174_0, kR174_1, kR174_2, kR174_3, kR174_4, kL175, kA175, kS175, kL176, kA176, kS176, kL177, kA177, kS177, kL178, kA178, kS178, kL179, kC180, kG180, kP180, kL181, kL182, kA182, kS182, kC183, kG183, kP183, kR183_1, kR183_3, kR183_5, kR183_6, kR183_7, kR183_8, kR183_9, kR183_21, kR183_26, kR183_27, kR183_30, kR183_31, kR183_33, kR183_34, kR183_36, kR183_37, kR183_38, kR183_39, kR183_40, kR183_41, kR183_42, kR183_43, kR183_44, kL184, kA184, kS184, kL185, kA185, kS185, kL186, kA186, kS186, kL187, kA187, kS187, kL188, kA188, kS188, kL189, kL190, kL191, kA191, kS191, kL192, kA192, kS192, kL193, kA193, kS193, kL194, kA194, kS194, kL195, kA195, kS195, kL196, kA196, kS196, kL197, kA197, kS197, kL198, kA198, kS198, kL199, kA199, kS199, kL200, kA200, kS200, kL201, kL202, kA202, kS202, kL203, kA203, kS203, kL204, kA204, kS204, kL205, kL206, kA206, kS206, states12_ok hS hG, nn_le, show ¬ (gSt g ≤ s) by omega, hv, hq, bitsOf_ok (show s < 65536 by omega), hm, hle]
      rw [← nI_succ]
      cases hl : lE g F ((k : Int) - 144) s with
      | false =>
        rw [if_neg (by decide)]
        refine ⟨_, rfl, B, rfl, fun s' h1 h2 => ?_, ?_⟩
        · by_cases z : s' = s
          · rw [z, hl] at h2; cases h2
          · exact b1 s' (by omega) h2
        · rcases b2 with z | ⟨s', z1, z2⟩
          · exact .inl z
          · exact .inr ⟨s', by omega, z2⟩
      | true =>
        rw [if_pos rfl]
        by_cases hc : B ≤ sg * (pC s : Int)
        · rw [if_pos hc]
          refine ⟨_, rfl, B, rfl, fun s' h1 h2 => ?_, ?_⟩
          · by_cases z : s' = s
            · rw [z]; exact hc
            · exact b1 s' (by omega) h2
          · rcases b2 with z | ⟨s', z1, z2⟩
            · exact .inl z
            · exact .inr ⟨s', by omega, z2⟩
        · rw [if_neg hc]
          refine ⟨_, rfl, sg * (pC s : Int), rfl, fun s' h1 h2 => ?_, .inr ⟨s, by omega, hl, rfl⟩⟩
          by_cases z : s' = s
          · rw [z]; exact Int.le_refl _
          · have := b1 s' (by omega) h2
            omega
    · rintro x ⟨B, rfl, b1, b2⟩
      refine ⟨iI (sg * B), ?_, B, rfl, b1, b2⟩
      simp only [f_X12_upsOf_b7]
      simp (disch := first | assumption | omega) only [Option.bind_some, Option.map_some, xw_gR, xw_gN, xw_al, xw_ck, xw_uI, xw_ur, xup_at, xur_at, if_true, if_false, reduceIte, and_true, true_and, and_false, false_and, not_true_eq_false, not_false_eq_true, Nat.reduceEqDiff, eq_self, Nat.reduceAdd, Nat.reduceMul, kC1, kG1, kP1, kR1_0, kR1_1, kR1_2, kR1_3, kR1_4, kR1_5, kR1_6, kR1_7, kR1_8, kR1_9, kR1_10, kR1_11, kR1_12, kR1_13, kC2, kG2, kP2, kR2_0, kR2_1, kC3, kG3, kP3, kR3_0, kR3_1, kR3_2, kR3_3, kL4, kA4, kS4, kL5, kA5, kS5, kL6, kA6, kS6, kL7, kA7, kS7, kC8, kG8, kP8, kR8_0, kR8_1, kL9, kA9, kS9, kL10, kA10, kS10, kC11, kG11, kP11, kR11_0, kR11_1, kR11_2, kR11_3, kL12, kA12, kS12, kL13, kA13, kS13, kL14, kA14, kS14, kL15, kA15, kS15, kC16, kG16, kP16, kR16_0, kR16_1, kL17, kA17, kS17, kL18, kA18, kS18, kC19, kG19, kP19, kR19_0, kL20, kL141, kL146, kA146, kS146, kL151, kA151, kS151, kL156, kA156, kS156, kC157, kG157, kP157, kR157_0, kR157_1, kL158, kA158, kS158, kL159, kA159, kS159, kC161, kG161, kP161, kR161_0, kR161_1, kL162, kA162, kS162, kL163, kA163, kS163, kC165, kG165, kP165, kR165_0, kR165_1, kR165_2, kR165_3, kL166, kA166, kS166, kL167, kA167, kS167, kL168, kA168, kS168, kL169, kA169, kS169, kC170, kG170, kP170, kR170_0, kR170_1, kR170_2, kL171, kA171, kS171, kL172, kA172, kS172, kL173, kA173, kS173, kC174, kG174, kP174, kR174_0, kR174_1, kR174_2, kR174_3, kR174_4, kL175, kA175, kS175, kL176, kA176, kS176, kL177, kA177, kS177, kL178, kA178, kS178, kL179, kC180, kG180, kP180, kL181, kL182, kA182, kS182, kC183, kG183, kP183, kR183_1, kR183_3, kR183_5, kR183_6, kR183_7, kR183_8, kR183_9, kR183_21, kR183_26, kR183_27, kR183_30, kR183_31, kR183_33, kR183_34, kR183_36, kR183_37, kR183_38, kR183_39, kR183_40, kR183_41, kR183_42, kR183_43, kR183_44, kL184, kA184, kS184, kL185, kA185, kS185, kL186, kA186, kS186, kL187, kA187, kS187, kL188, kA188, kS188, kL189, kL190, kL191, kA191, kS191, kL192, kA192, kS192, kL193, kA193, kS193, kL194, kA194, kS194, kL195, kA195, kS195, kL196, kA196, kS196, kL197, kA197, kS197, kL198, kA198, kS198, kL199, kA199, kS199, kL200, kA200, kS200, kL201, kL202, kA202, kS202, kL203, kA203, kS203, kL204, kA204, kS204, kL205, kL206, kA206, kS206, states12_ok hS hG, nn_le, Nat.le_refl, iI_mul]
  obtain ⟨r, e1, B, rfl, b1, b2⟩ := key
  obtain ⟨s1, h1, h2, -⟩ := lvP_least hp
  have hb := b1 s1 h1 h2
  have := pC_16 s1
  rcases b2 with z | ⟨s0, z1, z2, z3⟩
  · exfalso
    rcases hsg with q | q <;> rw [q, z] at hb <;> omega
  · refine ⟨s0, z1, z2, fun s' h1 h2 => ?_, ?_⟩
    · rw [← z3]; exact b1 s' h1 h2
    · show xloop (f_X12_upsOf_b7 (xw σ J) 183 (iI ((k : Int) - 144)) (iI sg)) (iI 100000, nI 0) = _
      rw [e1, z3, iI_n]
      congr 2
      rcases hsg with q | q <;> rw [q] <;> omega
theorem lU_pos {e : Int} {u : Nat} : 0 < lU g F e u ↔ ∃ s, s < gSt g ∧ lE g F e s = true ∧ pC s = u := by
  unfold lU
  rw [fb_ct_pos]
  constructor
  · rintro ⟨s, h1, h2⟩
    simp only [Bool.and_eq_true, decide_eq_true_eq] at h2
    exact ⟨s, h1, h2⟩
  · rintro ⟨s, h1, h2, h3⟩
    refine ⟨s, h1, ?_⟩
    simp [h2, h3]
theorem fewest_ok (hS : Shp σ) (hg : g ∈ gAll) (hL : LVK J g F) {k s0 : Nat} (hk : k < 289) (h0 : s0 < gSt g) (h1 : lE g F ((k : Int) - 144) s0 = true) (h2 : ∀ s', s' < gSt g → lE g F ((k : Int) - 144) s' = true → (1 : Int) * (pC s0 : Int) ≤ 1 * (pC s' : Int)) : f_X4_fewestUps (xw σ J) 165 (iI ((k : Int) - 144)) = some (nI (pC s0)) := by
  have hpc := pC_16 s0
  unfold f_X4_fewestUps
  refine xforE (fun j : Nat => nI j) (pC s0) rfl (fun u hu => ?_) ?_
  · simp only [f_X4_fewestUps_b2]
    rw [if_neg (by rw [show (17 : Int32) = nI 17 from rfl, nn_le (by omega) (by omega)]; omega)]
    have hz : lU g F ((k : Int) - 144) u = 0 := by
      rcases Nat.eq_zero_or_pos (lU g F ((k : Int) - 144) u) with z | z
      · exact z
      · obtain ⟨s', q1, q2, q3⟩ := lU_pos.mp z
        have := h2 s' q1 q2
        omega
    simp (disch := first | assumption | omega) only [Option.bind_some, Option.map_some, xw_gR, xw_gN, xw_al, xw_ck, xw_uI, xw_ur, xup_at, xur_at, if_true, if_false, reduceIte, and_true, true_and, and_false, false_and, not_true_eq_false, not_false_eq_true, Nat.reduceEqDiff, eq_self, Nat.reduceAdd, Nat.reduceMul, kC1, kG1, kP1, kR1_0, kR1_1, kR1_2, kR1_3, kR1_4, kR1_5, kR1_6, kR1_7, kR1_8, kR1_9, kR1_10, kR1_11, kR1_12, kR1_13, kC2, kG2, kP2, kR2_0, kR2_1, kC3, kG3, kP3, kR3_0, kR3_1, kR3_2, kR3_3, kL4, kA4, kS4, kL5, kA5, kS5, kL6, kA6, kS6, kL7, kA7, kS7, kC8, kG8, kP8, kR8_0, kR8_1, kL9, kA9, kS9, kL10, kA10, kS10, kC11, kG11, kP11, kR11_0, kR11_1, kR11_2, kR11_3, kL12, kA12, kS12, kL13, kA13, kS13, kL14, kA14, kS14, kL15, kA15, kS15, kC16, kG16, kP16, kR16_0, kR16_1, kL17, kA17, kS17, kL18, kA18, kS18, kC19, kG19, kP19, kR19_0, kL20, kL141, kL146, kA146, kS146, kL151, kA151, kS151, kL156, kA156, kS156, kC157, kG157, kP157, kR157_0, kR157_1, kL158, kA158, kS158, kL159, kA159, kS159, kC161, kG161, kP161, kR161_0, kR161_1, kL162, kA162, kS162, kL163, kA163, kS163, kC165, kG165, kP165, kR165_0, kR165_1, kR165_2, kR165_3, kL166, kA166, kS166, kL167, kA167, kS167, kL168, kA168, kS168, kL169, kA169, kS169, kC170, kG170, kP170, kR170_0, kR170_1, kR170_2, kL171, kA171, kS171, kL172, kA172, kS172, kL173, kA173, kS173, kC174, kG174, kP174, kR174_0, kR174_1, kR174_2, kR174_3, kR174_4, kL175, kA175, kS175, kL176, kA176, kS176, kL177, kA177, kS177, kL178, kA178, kS178, kL179, kC180, kG180, kP180, kL181, kL182, kA182, kS182, kC183, kG183, kP183, kR183_1, kR183_3, kR183_5, kR183_6, kR183_7, kR183_8, kR183_9, kR183_21, kR183_26, kR183_27, kR183_30, kR183_31, kR183_33, kR183_34, kR183_36, kR183_37, kR183_38, kR183_39, kR183_40, kR183_41, kR183_42, kR183_43, kR183_44, kL184, kA184, kS184, kL185, kA185, kS185, kL186, kA186, kS186, kL187, kA187, kS187, kL188, kA188, kS188, kL189, kL190, kL191, kA191, kS191, kL192, kA192, kS192, kL193, kA193, kS193, kL194, kA194, kS194, kL195, kA195, kS195, kL196, kA196, kS196, kL197, kA197, kS197, kL198, kA198, kS198, kL199, kA199, kS199, kL200, kA200, kS200, kL201, kL202, kA202, kS202, kL203, kA203, kS203, kL204, kA204, kS204, kL205, kL206, kA206, kS206, withUps_ok hS hL hk (show u < 17 by omega), hz, show (nI 0 ≤ 0) = True from eq_true (by decide)]
    rw [nI_succ]
  · simp only [f_X4_fewestUps_b2]
    rw [if_neg (by rw [show (17 : Int32) = nI 17 from rfl, nn_le (by omega) (by omega)]; omega)]
    have hz : 0 < lU g F ((k : Int) - 144) (pC s0) := lU_pos.mpr ⟨s0, h0, h1, rfl⟩
    have hb := lU_b hg F ((k : Int) - 144) (pC s0)
    simp (disch := first | assumption | omega) only [Option.bind_some, Option.map_some, xw_gR, xw_gN, xw_al, xw_ck, xw_uI, xw_ur, xup_at, xur_at, if_true, if_false, reduceIte, and_true, true_and, and_false, false_and, not_true_eq_false, not_false_eq_true, Nat.reduceEqDiff, eq_self, Nat.reduceAdd, Nat.reduceMul, kC1, kG1, kP1, kR1_0, kR1_1, kR1_2, kR1_3, kR1_4, kR1_5, kR1_6, kR1_7, kR1_8, kR1_9, kR1_10, kR1_11, kR1_12, kR1_13, kC2, kG2, kP2, kR2_0, kR2_1, kC3, kG3, kP3, kR3_0, kR3_1, kR3_2, kR3_3, kL4, kA4, kS4, kL5, kA5, kS5, kL6, kA6, kS6, kL7, kA7, kS7, kC8, kG8, kP8, kR8_0, kR8_1, kL9, kA9, kS9, kL10, kA10, kS10, kC11, kG11, kP11, kR11_0, kR11_1, kR11_2, kR11_3, kL12, kA12, kS12, kL13, kA13, kS13, kL14, kA14, kS14, kL15, kA15, kS15, kC16, kG16, kP16, kR16_0, kR16_1, kL17, kA17, kS17, kL18, kA18, kS18, kC19, kG19, kP19, kR19_0, kL20, kL141, kL146, kA146, kS146, kL151, kA151, kS151, kL156, kA156, kS156, kC157, kG157, kP157, kR157_0, kR157_1, kL158, kA158, kS158, kL159, kA159, kS159, kC161, kG161, kP161, kR161_0, kR161_1, kL162, kA162, kS162, kL163, kA163, kS163, kC165, kG165, kP165, kR165_0, kR165_1, kR165_2, kR165_3, kL166, kA166, kS166, kL167, kA167, kS167, kL168, kA168, kS168, kL169, kA169, kS169, kC170, kG170, kP170, kR170_0, kR170_1, kR170_2, kL171, kA171, kS171, kL172, kA172, kS172, kL173, kA173, kS173, kC174, kG174, kP174, kR174_0, kR174_1, kR174_2, kR174_3, kR174_4, kL175, kA175, kS175, kL176, kA176, kS176, kL177, kA177, kS177, kL178, kA178, kS178, kL179, kC180, kG180, kP180, kL181, kL182, kA182, kS182, kC183, kG183, kP183, kR183_1, kR183_3, kR183_5, kR183_6, kR183_7, kR183_8, kR183_9, kR183_21, kR183_26, kR183_27, kR183_30, kR183_31, kR183_33, kR183_34, kR183_36, kR183_37, kR183_38, kR183_39, kR183_40, kR183_41, kR183_42, kR183_43, kR183_44, kL184, kA184, kS184, kL185, kA185, kS185, kL186, kA186, kS186, kL187, kA187, kS187, kL188, kA188, kS188, kL189, kL190, kL191, kA191, kS191, kL192, kA192, kS192, kL193, kA193, kS193, kL194, kA194, kS194, kL195, kA195, kS195, kL196, kA196, kS196, kL197, kA197, kS197, kL198, kA198, kS198, kL199, kA199, kS199, kL200, kA200, kS200, kL201, kL202, kA202, kS202, kL203, kA203, kS203, kL204, kA204, kS204, kL205, kL206, kA206, kS206, withUps_ok hS hL hk (show pC s0 < 17 by omega)]
    rw [if_neg (nI_nle hz (by omega))]
theorem most_ok (hS : Shp σ) (hg : g ∈ gAll) (hL : LVK J g F) {k s0 : Nat} (hk : k < 289) (h0 : s0 < gSt g) (h1 : lE g F ((k : Int) - 144) s0 = true) (h2 : ∀ s', s' < gSt g → lE g F ((k : Int) - 144) s' = true → (-1 : Int) * (pC s0 : Int) ≤ -1 * (pC s' : Int)) : f_X4_mostUps (xw σ J) 165 (iI ((k : Int) - 144)) = some (nI (pC s0)) := by
  have hpc := pC_16 s0
  unfold f_X4_mostUps
  refine xforE (fun j : Nat => nI (16 - j)) (16 - pC s0) rfl (fun u hu => ?_) ?_
  · simp only [f_X4_mostUps_b3]
    rw [if_neg (nI_pos (by omega))]
    have hz : lU g F ((k : Int) - 144) (16 - u) = 0 := by
      rcases Nat.eq_zero_or_pos (lU g F ((k : Int) - 144) (16 - u)) with z | z
      · exact z
      · obtain ⟨s', q1, q2, q3⟩ := lU_pos.mp z
        have := h2 s' q1 q2
        omega
    simp (disch := first | assumption | omega) only [Option.bind_some, Option.map_some, xw_gR, xw_gN, xw_al, xw_ck, xw_uI, xw_ur, xup_at, xur_at, if_true, if_false, reduceIte, and_true, true_and, and_false, false_and, not_true_eq_false, not_false_eq_true, Nat.reduceEqDiff, eq_self, Nat.reduceAdd, Nat.reduceMul, kC1, kG1, kP1, kR1_0, kR1_1, kR1_2, kR1_3, kR1_4, kR1_5, kR1_6, kR1_7, kR1_8, kR1_9, kR1_10, kR1_11, kR1_12, kR1_13, kC2, kG2, kP2, kR2_0, kR2_1, kC3, kG3, kP3, kR3_0, kR3_1, kR3_2, kR3_3, kL4, kA4, kS4, kL5, kA5, kS5, kL6, kA6, kS6, kL7, kA7, kS7, kC8, kG8, kP8, kR8_0, kR8_1, kL9, kA9, kS9, kL10, kA10, kS10, kC11, kG11, kP11, kR11_0, kR11_1, kR11_2, kR11_3, kL12, kA12, kS12, kL13, kA13, kS13, kL14, kA14, kS14, kL15, kA15, kS15, kC16, kG16, kP16, kR16_0, kR16_1, kL17, kA17, kS17, kL18, kA18, kS18, kC19, kG19, kP19, kR19_0, kL20, kL141, kL146, kA146, kS146, kL151, kA151, kS151, kL156, kA156, kS156, kC157, kG157, kP157, kR157_0, kR157_1, kL158, kA158, kS158, kL159, kA159, kS159, kC161, kG161, kP161, kR161_0, kR161_1, kL162, kA162, kS162, kL163, kA163, kS163, kC165, kG165, kP165, kR165_0, kR165_1, kR165_2, kR165_3, kL166, kA166, kS166, kL167, kA167, kS167, kL168, kA168, kS168, kL169, kA169, kS169, kC170, kG170, kP170, kR170_0, kR170_1, kR170_2, kL171, kA171, kS171, kL172, kA172, kS172, kL173, kA173, kS173, kC174, kG174, kP174, kR174_0, kR174_1, kR174_2, kR174_3, kR174_4, kL175, kA175, kS175, kL176, kA176, kS176, kL177, kA177, kS177, kL178, kA178, kS178, kL179, kC180, kG180, kP180, kL181, kL182, kA182, kS182, kC183, kG183, kP183, kR183_1, kR183_3, kR183_5, kR183_6, kR183_7, kR183_8, kR183_9, kR183_21, kR183_26, kR183_27, kR183_30, kR183_31, kR183_33, kR183_34, kR183_36, kR183_37, kR183_38, kR183_39, kR183_40, kR183_41, kR183_42, kR183_43, kR183_44, kL184, kA184, kS184, kL185, kA185, kS185, kL186, kA186, kS186, kL187, kA187, kS187, kL188, kA188, kS188, kL189, kL190, kL191, kA191, kS191, kL192, kA192, kS192, kL193, kA193, kS193, kL194, kA194, kS194, kL195, kA195, kS195, kL196, kA196, kS196, kL197, kA197, kS197, kL198, kA198, kS198, kL199, kA199, kS199, kL200, kA200, kS200, kL201, kL202, kA202, kS202, kL203, kA203, kS203, kL204, kA204, kS204, kL205, kL206, kA206, kS206, withUps_ok hS hL hk (show 16 - u < 17 by omega), hz, show (nI 0 ≤ 0) = True from eq_true (by decide)]
    have e : nI (16 - u) + (-1 : Int32) = nI (16 - (u + 1)) := by
      rw [iI_n, iI_n, show (-1 : Int32) = iI (-1) from rfl, iI_add]
      congr 1; omega
    rw [e]
  · simp only [f_X4_mostUps_b3]
    rw [show 16 - (16 - pC s0) = pC s0 by omega, if_neg (nI_pos (by omega))]
    have hz : 0 < lU g F ((k : Int) - 144) (pC s0) := lU_pos.mpr ⟨s0, h0, h1, rfl⟩
    have hb := lU_b hg F ((k : Int) - 144) (pC s0)
    simp (disch := first | assumption | omega) only [Option.bind_some, Option.map_some, xw_gR, xw_gN, xw_al, xw_ck, xw_uI, xw_ur, xup_at, xur_at, if_true, if_false, reduceIte, and_true, true_and, and_false, false_and, not_true_eq_false, not_false_eq_true, Nat.reduceEqDiff, eq_self, Nat.reduceAdd, Nat.reduceMul, kC1, kG1, kP1, kR1_0, kR1_1, kR1_2, kR1_3, kR1_4, kR1_5, kR1_6, kR1_7, kR1_8, kR1_9, kR1_10, kR1_11, kR1_12, kR1_13, kC2, kG2, kP2, kR2_0, kR2_1, kC3, kG3, kP3, kR3_0, kR3_1, kR3_2, kR3_3, kL4, kA4, kS4, kL5, kA5, kS5, kL6, kA6, kS6, kL7, kA7, kS7, kC8, kG8, kP8, kR8_0, kR8_1, kL9, kA9, kS9, kL10, kA10, kS10, kC11, kG11, kP11, kR11_0, kR11_1, kR11_2, kR11_3, kL12, kA12, kS12, kL13, kA13, kS13, kL14, kA14, kS14, kL15, kA15, kS15, kC16, kG16, kP16, kR16_0, kR16_1, kL17, kA17, kS17, kL18, kA18, kS18, kC19, kG19, kP19, kR19_0, kL20, kL141, kL146, kA146, kS146, kL151, kA151, kS151, kL156, kA156, kS156, kC157, kG157, kP157, kR157_0, kR157_1, kL158, kA158, kS158, kL159, kA159, kS159, kC161, kG161, kP161, kR161_0, kR161_1, kL162, kA162, kS162, kL163, kA163, kS163, kC165, kG165, kP165, kR165_0, kR165_1, kR165_2, kR165_3, kL166, kA166, kS166, kL167, kA167, kS167, kL168, kA168, kS168, kL169, kA169, kS169, kC170, kG170, kP170, kR170_0, kR170_1, kR170_2, kL171, kA171, kS171, kL172, kA172, kS172, kL173, kA173, kS173, kC174, kG174, kP174, kR174_0, kR174_1, kR174_2, kR174_3, kR174_4, kL175, kA175, kS175, kL176, kA176, kS176, kL177, kA177, kS177, kL178, kA178, kS178, kL179, kC180, kG180, kP180, kL181, kL182, kA182, kS182, kC183, kG183, kP183, kR183_1, kR183_3, kR183_5, kR183_6, kR183_7, kR183_8, kR183_9, kR183_21, kR183_26, kR183_27, kR183_30, kR183_31, kR183_33, kR183_34, kR183_36, kR183_37, kR183_38, kR183_39, kR183_40, kR183_41, kR183_42, kR183_43, kR183_44, kL184, kA184, kS184, kL185, kA185, kS185, kL186, kA186, kS186, kL187, kA187, kS187, kL188, kA188, kS188, kL189, kL190, kL191, kA191, kS191, kL192, kA192, kS192, kL193, kA193, kS193, kL194, kA194, kS194, kL195, kA195, kS195, kL196, kA196, kS196, kL197, kA197, kS197, kL198, kA198, kS198, kL199, kA199, kS199, kL200, kA200, kS200, kL201, kL202, kA202, kS202, kL203, kA203, kS203, kL204, kA204, kS204, kL205, kL206, kA206, kS206, withUps_ok hS hL hk (show pC s0 < 17 by omega)]
    rw [if_neg (nI_nle hz (by omega))]
end UPS
end
section
/-! level and ground -/
section LEV12
variable {σ : XS} {J : Nat → Nat → Int32} {g : GD} {F : Nat → Int32}
theorem e150 {k : Nat} : (150 : Int32) + iI ((k : Int) - 144) = nI (k + 6) := by
  rw [show (150 : Int32) = iI 150 from rfl, iI_add, iI_n]; congr 1; omega
theorem lvl_lt {k : Nat} (hk : k < 289) (hp : lvP g F k = true) : fb_ct (lvP g F) k < lvN g F := by
  unfold lvN
  have h1 : fb_ct (lvP g F) (k + 1) = fb_ct (lvP g F) k + 1 := by rw [fb_ct_succ, hp]; rfl
  have h2 := fb_ct_mono (lvP g F) (show k + 1 ≤ 289 by omega)
  omega
theorem many12 (hK : KNK J g F) {k : Nat} (hk : k < 289) : J 197 (k + 6) = nI (lC g F ((k : Int) - 144)) := by
  rw [hK.2.1 (k + 6) (by omega)]
  congr 2; omega
end LEV12
theorem op_level : Op_level INV := by
  intro n σ hn ⟨g, gT, gP, st, H⟩ x v
  obtain ⟨τ, I', e1, e2, H1, H2, hS, hG1, hG2, ho, hSR, hE, hL, hK, r1, r2, u1, u2⟩ := both_ready (by omega) H
  have hg := hG1.1
  have hSt := (gSt_b hg).1
  have hlb := lvN_b g (xI σ 191)
  have A : f_X11_level σ 1 x v = f_X11_level_j4 (xw τ (xI τ)) x v 165 := by
    unfold f_X11_level
    rw [xck_ok (sT1 H.shp), Option.bind_some, e1, Option.bind_some]
    dsimp only
    rw [xnz_ok (by decide), Option.bind_some]
    rfl
  by_cases hm : x = -1
  · subst hm
    refine ⟨nI (lvN g (xI σ 191)), τ, xw τ I', ?_, ?_, INV_i H2.nop⟩
    · rw [A]
      unfold f_X11_level_j4
      simp (disch := first | assumption | omega) only [Option.bind_some, Option.map_some, xw_gR, xw_gN, xw_al, xw_ck, xw_uI, xw_ur, xup_at, xur_at, if_true, if_false, reduceIte, and_true, true_and, and_false, false_and, not_true_eq_false, not_false_eq_true, Nat.reduceEqDiff, eq_self, Nat.reduceAdd, Nat.reduceMul, kC1, kG1, kP1, kR1_0, kR1_1, kR1_2, kR1_3, kR1_4, kR1_5, kR1_6, kR1_7, kR1_8, kR1_9, kR1_10, kR1_11, kR1_12, kR1_13, kC2, kG2, kP2, kR2_0, kR2_1, kC3, kG3, kP3, kR3_0, kR3_1, kR3_2, kR3_3, kL4, kA4, kS4, kL5, kA5, kS5, kL6, kA6, kS6, kL7, kA7, kS7, kC8, kG8, kP8, kR8_0, kR8_1, kL9, kA9, kS9, kL10, kA10, kS10, kC11, kG11, kP11, kR11_0, kR11_1, kR11_2, kR11_3, kL12, kA12, kS12, kL13, kA13, kS13, kL14, kA14, kS14, kL15, kA15, kS15, kC16, kG16, kP16, kR16_0, kR16_1, kL17, kA17, kS17, kL18, kA18, kS18, kC19, kG19, kP19, kR19_0, kL20, kL141, kL146, kA146, kS146, kL151, kA151, kS151, kL156, kA156, kS156, kC157, kG157, kP157, kR157_0, kR157_1, kL158, kA158, kS158, kL159, kA159, kS159, kC161, kG161, kP161, kR161_0, kR161_1, kL162, kA162, kS162, kL163, kA163, kS163, kC165, kG165, kP165, kR165_0, kR165_1, kR165_2, kR165_3, kL166, kA166, kS166, kL167, kA167, kS167, kL168, kA168, kS168, kL169, kA169, kS169, kC170, kG170, kP170, kR170_0, kR170_1, kR170_2, kL171, kA171, kS171, kL172, kA172, kS172, kL173, kA173, kS173, kC174, kG174, kP174, kR174_0, kR174_1, kR174_2, kR174_3, kR174_4, kL175, kA175, kS175, kL176, kA176, kS176, kL177, kA177, kS177, kL178, kA178, kS178, kL179, kC180, kG180, kP180, kL181, kL182, kA182, kS182, kC183, kG183, kP183, kR183_1, kR183_3, kR183_5, kR183_6, kR183_7, kR183_8, kR183_9, kR183_21, kR183_26, kR183_27, kR183_30, kR183_31, kR183_33, kR183_34, kR183_36, kR183_37, kR183_38, kR183_39, kR183_40, kR183_41, kR183_42, kR183_43, kR183_44, kL184, kA184, kS184, kL185, kA185, kS185, kL186, kA186, kS186, kL187, kA187, kS187, kL188, kA188, kS188, kL189, kL190, kL191, kA191, kS191, kL192, kA192, kS192, kL193, kA193, kS193, kL194, kA194, kS194, kL195, kA195, kS195, kL196, kA196, kS196, kL197, kA197, kS197, kL198, kA198, kS198, kL199, kA199, kS199, kL200, kA200, kS200, kL201, kL202, kA202, kS202, kL203, kA203, kS203, kL204, kA204, kS204, kL205, kL206, kA206, kS206, hL.2.2.2.1]
      rfl
    · unfold f_X12_level
      rw [xck_ok (sT183 hS), Option.bind_some, e2, Option.bind_some]
      simp (disch := first | assumption | omega) only [Option.bind_some, Option.map_some, xw_gR, xw_gN, xw_al, xw_ck, xw_uI, xw_ur, xup_at, xur_at, if_true, if_false, reduceIte, and_true, true_and, and_false, false_and, not_true_eq_false, not_false_eq_true, Nat.reduceEqDiff, eq_self, Nat.reduceAdd, Nat.reduceMul, kC1, kG1, kP1, kR1_0, kR1_1, kR1_2, kR1_3, kR1_4, kR1_5, kR1_6, kR1_7, kR1_8, kR1_9, kR1_10, kR1_11, kR1_12, kR1_13, kC2, kG2, kP2, kR2_0, kR2_1, kC3, kG3, kP3, kR3_0, kR3_1, kR3_2, kR3_3, kL4, kA4, kS4, kL5, kA5, kS5, kL6, kA6, kS6, kL7, kA7, kS7, kC8, kG8, kP8, kR8_0, kR8_1, kL9, kA9, kS9, kL10, kA10, kS10, kC11, kG11, kP11, kR11_0, kR11_1, kR11_2, kR11_3, kL12, kA12, kS12, kL13, kA13, kS13, kL14, kA14, kS14, kL15, kA15, kS15, kC16, kG16, kP16, kR16_0, kR16_1, kL17, kA17, kS17, kL18, kA18, kS18, kC19, kG19, kP19, kR19_0, kL20, kL141, kL146, kA146, kS146, kL151, kA151, kS151, kL156, kA156, kS156, kC157, kG157, kP157, kR157_0, kR157_1, kL158, kA158, kS158, kL159, kA159, kS159, kC161, kG161, kP161, kR161_0, kR161_1, kL162, kA162, kS162, kL163, kA163, kS163, kC165, kG165, kP165, kR165_0, kR165_1, kR165_2, kR165_3, kL166, kA166, kS166, kL167, kA167, kS167, kL168, kA168, kS168, kL169, kA169, kS169, kC170, kG170, kP170, kR170_0, kR170_1, kR170_2, kL171, kA171, kS171, kL172, kA172, kS172, kL173, kA173, kS173, kC174, kG174, kP174, kR174_0, kR174_1, kR174_2, kR174_3, kR174_4, kL175, kA175, kS175, kL176, kA176, kS176, kL177, kA177, kS177, kL178, kA178, kS178, kL179, kC180, kG180, kP180, kL181, kL182, kA182, kS182, kC183, kG183, kP183, kR183_1, kR183_3, kR183_5, kR183_6, kR183_7, kR183_8, kR183_9, kR183_21, kR183_26, kR183_27, kR183_30, kR183_31, kR183_33, kR183_34, kR183_36, kR183_37, kR183_38, kR183_39, kR183_40, kR183_41, kR183_42, kR183_43, kR183_44, kL184, kA184, kS184, kL185, kA185, kS185, kL186, kA186, kS186, kL187, kA187, kS187, kL188, kA188, kS188, kL189, kL190, kL191, kA191, kS191, kL192, kA192, kS192, kL193, kA193, kS193, kL194, kA194, kS194, kL195, kA195, kS195, kL196, kA196, kS196, kL197, kA197, kS197, kL198, kA198, kS198, kL199, kA199, kS199, kL200, kA200, kS200, kL201, kL202, kA202, kS202, kL203, kA203, kS203, kL204, kA204, kS204, kL205, kL206, kA206, kS206, hK.2.2.1]
  by_cases hl : isL g (xI σ 191) x = true
  · obtain ⟨i, hi, rfl⟩ := isL_t hl
    obtain ⟨k, hk, hp, hki⟩ := lvl_at hi
    obtain ⟨s, hs, hs1, hs2⟩ := lvP_least hp
    obtain ⟨sf, f1, f2, f3, f4⟩ := ups12 (σ := τ) (J := I') hS hG2 ho hK hk hp 1 (.inl rfl)
    obtain ⟨sm, m1, m2, m3, m4⟩ := ups12 (σ := τ) (J := I') hS hG2 ho hK hk hp (-1) (.inr rfl)
    have q0 : I' 198 i = iI ((k : Int) - 144) := by rw [← hki]; exact hK.2.2.2 k hk hp
    rw [show iI 1 = (1 : Int32) from rfl] at f4
    rw [show iI (-1) = (-1 : Int32) from rfl] at m4
    have hen := energyOf_ok (σ := τ) (J := xI τ) hS hL hk hp
    rw [hki] at hen
    have A2 : f_X11_level σ 1 (nI i) v = xsw v 0 [some (iI ((k : Int) - 144), τ), some (nI (lC g (xI σ 191) ((k : Int) - 144)), τ), some (nI s, τ), some (nI (pC sf), τ), some (nI (pC sm), τ)] (some (-100000, τ)) := by
      rw [A]
      unfold f_X11_level_j4
      simp (disch := first | assumption | omega) only [Option.bind_some, Option.map_some, xw_gR, xw_gN, xw_al, xw_ck, xw_uI, xw_ur, xup_at, xur_at, if_true, if_false, reduceIte, and_true, true_and, and_false, false_and, not_true_eq_false, not_false_eq_true, Nat.reduceEqDiff, eq_self, Nat.reduceAdd, Nat.reduceMul, kC1, kG1, kP1, kR1_0, kR1_1, kR1_2, kR1_3, kR1_4, kR1_5, kR1_6, kR1_7, kR1_8, kR1_9, kR1_10, kR1_11, kR1_12, kR1_13, kC2, kG2, kP2, kR2_0, kR2_1, kC3, kG3, kP3, kR3_0, kR3_1, kR3_2, kR3_3, kL4, kA4, kS4, kL5, kA5, kS5, kL6, kA6, kS6, kL7, kA7, kS7, kC8, kG8, kP8, kR8_0, kR8_1, kL9, kA9, kS9, kL10, kA10, kS10, kC11, kG11, kP11, kR11_0, kR11_1, kR11_2, kR11_3, kL12, kA12, kS12, kL13, kA13, kS13, kL14, kA14, kS14, kL15, kA15, kS15, kC16, kG16, kP16, kR16_0, kR16_1, kL17, kA17, kS17, kL18, kA18, kS18, kC19, kG19, kP19, kR19_0, kL20, kL141, kL146, kA146, kS146, kL151, kA151, kS151, kL156, kA156, kS156, kC157, kG157, kP157, kR157_0, kR157_1, kL158, kA158, kS158, kL159, kA159, kS159, kC161, kG161, kP161, kR161_0, kR161_1, kL162, kA162, kS162, kL163, kA163, kS163, kC165, kG165, kP165, kR165_0, kR165_1, kR165_2, kR165_3, kL166, kA166, kS166, kL167, kA167, kS167, kL168, kA168, kS168, kL169, kA169, kS169, kC170, kG170, kP170, kR170_0, kR170_1, kR170_2, kL171, kA171, kS171, kL172, kA172, kS172, kL173, kA173, kS173, kC174, kG174, kP174, kR174_0, kR174_1, kR174_2, kR174_3, kR174_4, kL175, kA175, kS175, kL176, kA176, kS176, kL177, kA177, kS177, kL178, kA178, kS178, kL179, kC180, kG180, kP180, kL181, kL182, kA182, kS182, kC183, kG183, kP183, kR183_1, kR183_3, kR183_5, kR183_6, kR183_7, kR183_8, kR183_9, kR183_21, kR183_26, kR183_27, kR183_30, kR183_31, kR183_33, kR183_34, kR183_36, kR183_37, kR183_38, kR183_39, kR183_40, kR183_41, kR183_42, kR183_43, kR183_44, kL184, kA184, kS184, kL185, kA185, kS185, kL186, kA186, kS186, kL187, kA187, kS187, kL188, kA188, kS188, kL189, kL190, kL191, kA191, kS191, kL192, kA192, kS192, kL193, kA193, kS193, kL194, kA194, kS194, kL195, kA195, kS195, kL196, kA196, kS196, kL197, kA197, kS197, kL198, kA198, kS198, kL199, kA199, kS199, kL200, kA200, kS200, kL201, kL202, kA202, kS202, kL203, kA203, kS203, kL204, kA204, kS204, kL205, kL206, kA206, kS206, hm, hasLevel_ok hS hL, hl, one0, hen, waysOf_ok hS hL hk, leastOf_ok hS hL hk hs hs1 hs2, fewest_ok hS hg hL hk f1 f2 f3, most_ok hS hg hL hk m1 m2 m3]
      rfl
    have B2 : f_X12_level τ 183 (nI i) v = xsw v 0 [some (iI ((k : Int) - 144), xw τ I'), some (nI (lC g (xI σ 191) ((k : Int) - 144)), xw τ I'), some (nI s, xw τ I'), some (nI (pC sf), xw τ I'), some (nI (pC sm), xw τ I')] (some (-100000, xw τ I')) := by
      unfold f_X12_level
      rw [xck_ok (sT183 hS), Option.bind_some, e2, Option.bind_some]
      simp (disch := first | assumption | omega) only [Option.bind_some, Option.map_some, xw_gR, xw_gN, xw_al, xw_ck, xw_uI, xw_ur, xup_at, xur_at, if_true, if_false, reduceIte, and_true, true_and, and_false, false_and, not_true_eq_false, not_false_eq_true, Nat.reduceEqDiff, eq_self, Nat.reduceAdd, Nat.reduceMul, kC1, kG1, kP1, kR1_0, kR1_1, kR1_2, kR1_3, kR1_4, kR1_5, kR1_6, kR1_7, kR1_8, kR1_9, kR1_10, kR1_11, kR1_12, kR1_13, kC2, kG2, kP2, kR2_0, kR2_1, kC3, kG3, kP3, kR3_0, kR3_1, kR3_2, kR3_3, kL4, kA4, kS4, kL5, kA5, kS5, kL6, kA6, kS6, kL7, kA7, kS7, kC8, kG8, kP8, kR8_0, kR8_1, kL9, kA9, kS9, kL10, kA10, kS10, kC11, kG11, kP11, kR11_0, kR11_1, kR11_2, kR11_3, kL12, kA12, kS12, kL13, kA13, kS13, kL14, kA14, kS14, kL15, kA15, kS15, kC16, kG16, kP16, kR16_0, kR16_1, kL17, kA17, kS17, kL18, kA18, kS18, kC19, kG19, kP19, kR19_0, kL20, kL141, kL146, kA146, kS146, kL151, kA151, kS151, kL156, kA156, kS156, kC157, kG157, kP157, kR157_0, kR157_1, kL158, kA158, kS158, kL159, kA159, kS159, kC161, kG161, kP161, kR161_0, kR161_1, kL162, kA162, kS162, kL163, kA163, kS163, kC165, kG165, kP165, kR165_0, kR165_1, kR165_2, kR165_3, kL166, kA166, kS166, kL167, kA167, kS167, kL168, kA168, kS168, kL169, kA169, kS169, kC170, kG170, kP170, kR170_0, kR170_1, kR170_2, kL171, kA171, kS171, kL172, kA172, kS172, kL173, kA173, kS173, kC174, kG174, kP174, kR174_0, kR174_1, kR174_2, kR174_3, kR174_4, kL175, kA175, kS175, kL176, kA176, kS176, kL177, kA177, kS177, kL178, kA178, kS178, kL179, kC180, kG180, kP180, kL181, kL182, kA182, kS182, kC183, kG183, kP183, kR183_1, kR183_3, kR183_5, kR183_6, kR183_7, kR183_8, kR183_9, kR183_21, kR183_26, kR183_27, kR183_30, kR183_31, kR183_33, kR183_34, kR183_36, kR183_37, kR183_38, kR183_39, kR183_40, kR183_41, kR183_42, kR183_43, kR183_44, kL184, kA184, kS184, kL185, kA185, kS185, kL186, kA186, kS186, kL187, kA187, kS187, kL188, kA188, kS188, kL189, kL190, kL191, kA191, kS191, kL192, kA192, kS192, kL193, kA193, kS193, kL194, kA194, kS194, kL195, kA195, kS195, kL196, kA196, kS196, kL197, kA197, kS197, kL198, kA198, kS198, kL199, kA199, kS199, kL200, kA200, kS200, kL201, kL202, kA202, kS202, kL203, kA203, kS203, kL204, kA204, kS204, kL205, kL206, kA206, kS206, hm, hK.2.2.1, isL_in, hl, one0, q0, e150, many12 hK hk, least12 hS hg ho hK hk hs hs1 hs2, f4, m4]
    rcases sw_c v 5 with ⟨w, hw, hw2, rfl⟩ | hd
    · rw [xsw_n hw2] at A2 B2
      rcases (show w = 0 ∨ w = 1 ∨ w = 2 ∨ w = 3 ∨ w = 4 by omega) with rfl | rfl | rfl | rfl | rfl <;> exact ⟨_, _, _, A2, B2, INV_i H2.nop⟩
    · exact ⟨_, _, _, A2.trans (hd _ _ _ (Nat.le_refl 5)), B2.trans (hd _ _ _ (Nat.le_refl 5)), INV_i H2.nop⟩
  · refine ⟨-100000, τ, xw τ I', ?_, ?_, INV_i H2.nop⟩
    · rw [A]
      unfold f_X11_level_j4
      simp (disch := first | assumption | omega) only [Option.bind_some, Option.map_some, xw_gR, xw_gN, xw_al, xw_ck, xw_uI, xw_ur, xup_at, xur_at, if_true, if_false, reduceIte, and_true, true_and, and_false, false_and, not_true_eq_false, not_false_eq_true, Nat.reduceEqDiff, eq_self, Nat.reduceAdd, Nat.reduceMul, kC1, kG1, kP1, kR1_0, kR1_1, kR1_2, kR1_3, kR1_4, kR1_5, kR1_6, kR1_7, kR1_8, kR1_9, kR1_10, kR1_11, kR1_12, kR1_13, kC2, kG2, kP2, kR2_0, kR2_1, kC3, kG3, kP3, kR3_0, kR3_1, kR3_2, kR3_3, kL4, kA4, kS4, kL5, kA5, kS5, kL6, kA6, kS6, kL7, kA7, kS7, kC8, kG8, kP8, kR8_0, kR8_1, kL9, kA9, kS9, kL10, kA10, kS10, kC11, kG11, kP11, kR11_0, kR11_1, kR11_2, kR11_3, kL12, kA12, kS12, kL13, kA13, kS13, kL14, kA14, kS14, kL15, kA15, kS15, kC16, kG16, kP16, kR16_0, kR16_1, kL17, kA17, kS17, kL18, kA18, kS18, kC19, kG19, kP19, kR19_0, kL20, kL141, kL146, kA146, kS146, kL151, kA151, kS151, kL156, kA156, kS156, kC157, kG157, kP157, kR157_0, kR157_1, kL158, kA158, kS158, kL159, kA159, kS159, kC161, kG161, kP161, kR161_0, kR161_1, kL162, kA162, kS162, kL163, kA163, kS163, kC165, kG165, kP165, kR165_0, kR165_1, kR165_2, kR165_3, kL166, kA166, kS166, kL167, kA167, kS167, kL168, kA168, kS168, kL169, kA169, kS169, kC170, kG170, kP170, kR170_0, kR170_1, kR170_2, kL171, kA171, kS171, kL172, kA172, kS172, kL173, kA173, kS173, kC174, kG174, kP174, kR174_0, kR174_1, kR174_2, kR174_3, kR174_4, kL175, kA175, kS175, kL176, kA176, kS176, kL177, kA177, kS177, kL178, kA178, kS178, kL179, kC180, kG180, kP180, kL181, kL182, kA182, kS182, kC183, kG183, kP183, kR183_1, kR183_3, kR183_5, kR183_6, kR183_7, kR183_8, kR183_9, kR183_21, kR183_26, kR183_27, kR183_30, kR183_31, kR183_33, kR183_34, kR183_36, kR183_37, kR183_38, kR183_39, kR183_40, kR183_41, kR183_42, kR183_43, kR183_44, kL184, kA184, kS184, kL185, kA185, kS185, kL186, kA186, kS186, kL187, kA187, kS187, kL188, kA188, kS188, kL189, kL190, kL191, kA191, kS191, kL192, kA192, kS192, kL193, kA193, kS193, kL194, kA194, kS194, kL195, kA195, kS195, kL196, kA196, kS196, kL197, kA197, kS197, kL198, kA198, kS198, kL199, kA199, kS199, kL200, kA200, kS200, kL201, kL202, kA202, kS202, kL203, kA203, kS203, kL204, kA204, kS204, kL205, kL206, kA206, kS206, hm, hasLevel_ok hS hL, hl]
      rfl
    · unfold f_X12_level
      rw [xck_ok (sT183 hS), Option.bind_some, e2, Option.bind_some]
      simp (disch := first | assumption | omega) only [Option.bind_some, Option.map_some, xw_gR, xw_gN, xw_al, xw_ck, xw_uI, xw_ur, xup_at, xur_at, if_true, if_false, reduceIte, and_true, true_and, and_false, false_and, not_true_eq_false, not_false_eq_true, Nat.reduceEqDiff, eq_self, Nat.reduceAdd, Nat.reduceMul, kC1, kG1, kP1, kR1_0, kR1_1, kR1_2, kR1_3, kR1_4, kR1_5, kR1_6, kR1_7, kR1_8, kR1_9, kR1_10, kR1_11, kR1_12, kR1_13, kC2, kG2, kP2, kR2_0, kR2_1, kC3, kG3, kP3, kR3_0, kR3_1, kR3_2, kR3_3, kL4, kA4, kS4, kL5, kA5, kS5, kL6, kA6, kS6, kL7, kA7, kS7, kC8, kG8, kP8, kR8_0, kR8_1, kL9, kA9, kS9, kL10, kA10, kS10, kC11, kG11, kP11, kR11_0, kR11_1, kR11_2, kR11_3, kL12, kA12, kS12, kL13, kA13, kS13, kL14, kA14, kS14, kL15, kA15, kS15, kC16, kG16, kP16, kR16_0, kR16_1, kL17, kA17, kS17, kL18, kA18, kS18, kC19, kG19, kP19, kR19_0, kL20, kL141, kL146, kA146, kS146, kL151, kA151, kS151, kL156, kA156, kS156, kC157, kG157, kP157, kR157_0, kR157_1, kL158, kA158, kS158, kL159, kA159, kS159, kC161, kG161, kP161, kR161_0, kR161_1, kL162, kA162, kS162, kL163, kA163, kS163, kC165, kG165, kP165, kR165_0, kR165_1, kR165_2, kR165_3, kL166, kA166, kS166, kL167, kA167, kS167, kL168, kA168, kS168, kL169, kA169, kS169, kC170, kG170, kP170, kR170_0, kR170_1, kR170_2, kL171, kA171, kS171, kL172, kA172, kS172, kL173, kA173, kS173, kC174, kG174, kP174, kR174_0, kR174_1, kR174_2, kR174_3, kR174_4, kL175, kA175, kS175, kL176, kA176, kS176, kL177, kA177, kS177, kL178, kA178, kS178, kL179, kC180, kG180, kP180, kL181, kL182, kA182, kS182, kC183, kG183, kP183, kR183_1, kR183_3, kR183_5, kR183_6, kR183_7, kR183_8, kR183_9, kR183_21, kR183_26, kR183_27, kR183_30, kR183_31, kR183_33, kR183_34, kR183_36, kR183_37, kR183_38, kR183_39, kR183_40, kR183_41, kR183_42, kR183_43, kR183_44, kL184, kA184, kS184, kL185, kA185, kS185, kL186, kA186, kS186, kL187, kA187, kS187, kL188, kA188, kS188, kL189, kL190, kL191, kA191, kS191, kL192, kA192, kS192, kL193, kA193, kS193, kL194, kA194, kS194, kL195, kA195, kS195, kL196, kA196, kS196, kL197, kA197, kS197, kL198, kA198, kS198, kL199, kA199, kS199, kL200, kA200, kS200, kL201, kL202, kA202, kS202, kL203, kA203, kS203, kL204, kA204, kS204, kL205, kL206, kA206, kS206, hm, hK.2.2.1, isL_in, hl]
      rfl
/-- the first two levels -/
theorem lv_first {g : GD} {F : Nat → Int32} (h : 0 < lvN g F) : ∃ k, k < 289 ∧ lvP g F k = true ∧ fb_ct (lvP g F) k = 0 := fb_ct_kth h
theorem op_ground : Op_ground INV := by
  intro n σ hn ⟨g, gT, gP, st, H⟩ v
  obtain ⟨τ, I', e1, e2, H1, H2, hS, hG1, hG2, ho, hSR, hE, hL, hK, r1, r2, u1, u2⟩ := both_ready (by omega) H
  have hg := hG1.1
  have hSt := (gSt_b hg).1
  have hlb := lvN_b g (xI σ 191)
  have A : f_X11_ground σ 1 v = f_X11_ground_j4 (xw τ (xI τ)) v 165 := by
    unfold f_X11_ground
    rw [xck_ok (sT1 H.shp), Option.bind_some, e1, Option.bind_some]
    dsimp only
    rw [xnz_ok (by decide), Option.bind_some]
    rfl
  by_cases h0 : lvN g (xI σ 191) = 0
  · refine ⟨-100000, τ, xw τ I', ?_, ?_, INV_i H2.nop⟩
    · rw [A]
      unfold f_X11_ground_j4
      simp (disch := first | assumption | omega) only [Option.bind_some, Option.map_some, xw_gR, xw_gN, xw_al, xw_ck, xw_uI, xw_ur, xup_at, xur_at, if_true, if_false, reduceIte, and_true, true_and, and_false, false_and, not_true_eq_false, not_false_eq_true, Nat.reduceEqDiff, eq_self, Nat.reduceAdd, Nat.reduceMul, kC1, kG1, kP1, kR1_0, kR1_1, kR1_2, kR1_3, kR1_4, kR1_5, kR1_6, kR1_7, kR1_8, kR1_9, kR1_10, kR1_11, kR1_12, kR1_13, kC2, kG2, kP2, kR2_0, kR2_1, kC3, kG3, kP3, kR3_0, kR3_1, kR3_2, kR3_3, kL4, kA4, kS4, kL5, kA5, kS5, kL6, kA6, kS6, kL7, kA7, kS7, kC8, kG8, kP8, kR8_0, kR8_1, kL9, kA9, kS9, kL10, kA10, kS10, kC11, kG11, kP11, kR11_0, kR11_1, kR11_2, kR11_3, kL12, kA12, kS12, kL13, kA13, kS13, kL14, kA14, kS14, kL15, kA15, kS15, kC16, kG16, kP16, kR16_0, kR16_1, kL17, kA17, kS17, kL18, kA18, kS18, kC19, kG19, kP19, kR19_0, kL20, kL141, kL146, kA146, kS146, kL151, kA151, kS151, kL156, kA156, kS156, kC157, kG157, kP157, kR157_0, kR157_1, kL158, kA158, kS158, kL159, kA159, kS159, kC161, kG161, kP161, kR161_0, kR161_1, kL162, kA162, kS162, kL163, kA163, kS163, kC165, kG165, kP165, kR165_0, kR165_1, kR165_2, kR165_3, kL166, kA166, kS166, kL167, kA167, kS167, kL168, kA168, kS168, kL169, kA169, kS169, kC170, kG170, kP170, kR170_0, kR170_1, kR170_2, kL171, kA171, kS171, kL172, kA172, kS172, kL173, kA173, kS173, kC174, kG174, kP174, kR174_0, kR174_1, kR174_2, kR174_3, kR174_4, kL175, kA175, kS175, kL176, kA176, kS176, kL177, kA177, kS177, kL178, kA178, kS178, kL179, kC180, kG180, kP180, kL181, kL182, kA182, kS182, kC183, kG183, kP183, kR183_1, kR183_3, kR183_5, kR183_6, kR183_7, kR183_8, kR183_9, kR183_21, kR183_26, kR183_27, kR183_30, kR183_31, kR183_33, kR183_34, kR183_36, kR183_37, kR183_38, kR183_39, kR183_40, kR183_41, kR183_42, kR183_43, kR183_44, kL184, kA184, kS184, kL185, kA185, kS185, kL186, kA186, kS186, kL187, kA187, kS187, kL188, kA188, kS188, kL189, kL190, kL191, kA191, kS191, kL192, kA192, kS192, kL193, kA193, kS193, kL194, kA194, kS194, kL195, kA195, kS195, kL196, kA196, kS196, kL197, kA197, kS197, kL198, kA198, kS198, kL199, kA199, kS199, kL200, kA200, kS200, kL201, kL202, kA202, kS202, kL203, kA203, kS203, kL204, kA204, kS204, kL205, kL206, kA206, kS206, hL.2.2.2.1, h0, show (nI 0 = 0) = True from eq_true rfl]
      rfl
    · unfold f_X12_ground
      rw [xck_ok (sT183 hS), Option.bind_some, e2, Option.bind_some]
      simp (disch := first | assumption | omega) only [Option.bind_some, Option.map_some, xw_gR, xw_gN, xw_al, xw_ck, xw_uI, xw_ur, xup_at, xur_at, if_true, if_false, reduceIte, and_true, true_and, and_false, false_and, not_true_eq_false, not_false_eq_true, Nat.reduceEqDiff, eq_self, Nat.reduceAdd, Nat.reduceMul, kC1, kG1, kP1, kR1_0, kR1_1, kR1_2, kR1_3, kR1_4, kR1_5, kR1_6, kR1_7, kR1_8, kR1_9, kR1_10, kR1_11, kR1_12, kR1_13, kC2, kG2, kP2, kR2_0, kR2_1, kC3, kG3, kP3, kR3_0, kR3_1, kR3_2, kR3_3, kL4, kA4, kS4, kL5, kA5, kS5, kL6, kA6, kS6, kL7, kA7, kS7, kC8, kG8, kP8, kR8_0, kR8_1, kL9, kA9, kS9, kL10, kA10, kS10, kC11, kG11, kP11, kR11_0, kR11_1, kR11_2, kR11_3, kL12, kA12, kS12, kL13, kA13, kS13, kL14, kA14, kS14, kL15, kA15, kS15, kC16, kG16, kP16, kR16_0, kR16_1, kL17, kA17, kS17, kL18, kA18, kS18, kC19, kG19, kP19, kR19_0, kL20, kL141, kL146, kA146, kS146, kL151, kA151, kS151, kL156, kA156, kS156, kC157, kG157, kP157, kR157_0, kR157_1, kL158, kA158, kS158, kL159, kA159, kS159, kC161, kG161, kP161, kR161_0, kR161_1, kL162, kA162, kS162, kL163, kA163, kS163, kC165, kG165, kP165, kR165_0, kR165_1, kR165_2, kR165_3, kL166, kA166, kS166, kL167, kA167, kS167, kL168, kA168, kS168, kL169, kA169, kS169, kC170, kG170, kP170, kR170_0, kR170_1, kR170_2, kL171, kA171, kS171, kL172, kA172, kS172, kL173, kA173, kS173, kC174, kG174, kP174, kR174_0, kR174_1, kR174_2, kR174_3, kR174_4, kL175, kA175, kS175, kL176, kA176, kS176, kL177, kA177, kS177, kL178, kA178, kS178, kL179, kC180, kG180, kP180, kL181, kL182, kA182, kS182, kC183, kG183, kP183, kR183_1, kR183_3, kR183_5, kR183_6, kR183_7, kR183_8, kR183_9, kR183_21, kR183_26, kR183_27, kR183_30, kR183_31, kR183_33, kR183_34, kR183_36, kR183_37, kR183_38, kR183_39, kR183_40, kR183_41, kR183_42, kR183_43, kR183_44, kL184, kA184, kS184, kL185, kA185, kS185, kL186, kA186, kS186, kL187, kA187, kS187, kL188, kA188, kS188, kL189, kL190, kL191, kA191, kS191, kL192, kA192, kS192, kL193, kA193, kS193, kL194, kA194, kS194, kL195, kA195, kS195, kL196, kA196, kS196, kL197, kA197, kS197, kL198, kA198, kS198, kL199, kA199, kS199, kL200, kA200, kS200, kL201, kL202, kA202, kS202, kL203, kA203, kS203, kL204, kA204, kS204, kL205, kL206, kA206, kS206, hK.2.2.1, h0, show (nI 0 = 0) = True from eq_true rfl]
  · have hn0 : (nI (lvN g (xI σ 191)) = 0) = False := eq_false (nI_ne0 (by omega) (by omega))
    obtain ⟨k, hk, hp, hki⟩ := lv_first (g := g) (F := xI σ 191) (by omega)
    obtain ⟨s, hs, hs1, hs2⟩ := lvP_least hp
    have q0 : I' 198 0 = iI ((k : Int) - 144) := by rw [← hki]; exact hK.2.2.2 k hk hp
    have hen := energyOf_ok (σ := τ) (J := xI τ) hS hL hk hp
    rw [hki, show nI 0 = (0 : Int32) from rfl] at hen
    obtain ⟨d, hd1, hd2⟩ : ∃ d : Int32, (if nI (lvN g (xI σ 191)) ≤ (1 : Int32) then (some ((-2 : Int32), xw τ (xI τ))) else (f_X4_energyOf (xw τ (xI τ)) 165 (1 : Int32)).bind fun v10 => some (v10 - iI ((k : Int) - 144), xw τ (xI τ))) = some (d, τ) ∧ (if nI (lvN g (xI σ 191)) = (1 : Int32) then (some ((-2 : Int32), xw τ I')) else some (I' 198 1 - iI ((k : Int) - 144), xw τ I')) = some (d, xw τ I') := by
      by_cases h1 : lvN g (xI σ 191) = 1
      · refine ⟨-2, ?_, ?_⟩
        · rw [if_pos (by rw [h1]; decide)]; rfl
        · rw [if_pos (by rw [h1]; rfl)]
      · obtain ⟨k1, hk1, hp1, hki1⟩ := lvl_at (g := g) (F := xI σ 191) (i := 1) (by omega)
        have hen1 := energyOf_ok (σ := τ) (J := xI τ) hS hL hk1 hp1
        rw [hki1, show nI 1 = (1 : Int32) from rfl] at hen1
        have q1 : I' 198 1 = iI ((k1 : Int) - 144) := by rw [← hki1]; exact hK.2.2.2 k1 hk1 hp1
        refine ⟨iI ((k1 : Int) - 144) - iI ((k : Int) - 144), ?_, ?_⟩
        · rw [if_neg (by rw [show (1 : Int32) = nI 1 from rfl, nn_le (by omega) (by omega)]; omega), hen1]; rfl
        · rw [if_neg (by rw [show (1 : Int32) = nI 1 from rfl, nn_eq (by omega) (by omega)]; omega), q1]
    have A2 : f_X11_ground σ 1 v = xsw v 0 [some (iI ((k : Int) - 144), τ), some (nI (lC g (xI σ 191) ((k : Int) - 144)), τ), some (nI s, τ), some (d, τ)] (some (-100000, τ)) := by
      rw [A]
      unfold f_X11_ground_j4
      simp (disch := first | assumption | omega) only [Option.bind_some, Option.map_some, xw_gR, xw_gN, xw_al, xw_ck, xw_uI, xw_ur, xup_at, xur_at, if_true, if_false, reduceIte, and_true, true_and, and_false, false_and, not_true_eq_false, not_false_eq_true, Nat.reduceEqDiff, eq_self, Nat.reduceAdd, Nat.reduceMul, kC1, kG1, kP1, kR1_0, kR1_1, kR1_2, kR1_3, kR1_4, kR1_5, kR1_6, kR1_7, kR1_8, kR1_9, kR1_10, kR1_11, kR1_12, kR1_13, kC2, kG2, kP2, kR2_0, kR2_1, kC3, kG3, kP3, kR3_0, kR3_1, kR3_2, kR3_3, kL4, kA4, kS4, kL5, kA5, kS5, kL6, kA6, kS6, kL7, kA7, kS7, kC8, kG8, kP8, kR8_0, kR8_1, kL9, kA9, kS9, kL10, kA10, kS10, kC11, kG11, kP11, kR11_0, kR11_1, kR11_2, kR11_3, kL12, kA12, kS12, kL13, kA13, kS13, kL14, kA14, kS14, kL15, kA15, kS15, kC16, kG16, kP16, kR16_0, kR16_1, kL17, kA17, kS17, kL18, kA18, kS18, kC19, kG19, kP19, kR19_0, kL20, kL141, kL146, kA146, kS146, kL151, kA151, kS151, kL156, kA156, kS156, kC157, kG157, kP157, kR157_0, kR157_1, kL158, kA158, kS158, kL159, kA159, kS159, kC161, kG161, kP161, kR161_0, kR161_1, kL162, kA162, kS162, kL163, kA163, kS163, kC165, kG165, kP165, kR165_0, kR165_1, kR165_2, kR165_3, kL166, kA166, kS166, kL167, kA167, kS167, kL168, kA168, kS168, kL169, kA169, kS169, kC170, kG170, kP170, kR170_0, kR170_1, kR170_2, kL171, kA171, kS171, kL172, kA172, kS172, kL173, kA173, kS173, kC174, kG174, kP174, kR174_0, kR174_1, kR174_2, kR174_3, kR174_4, kL175, kA175, kS175, kL176, kA176, kS176, kL177, kA177, kS177, kL178, kA178, kS178, kL179, kC180, kG180, kP180, kL181, kL182, kA182, kS182, kC183, kG183, kP183, kR183_1, kR183_3, kR183_5, kR183_6, kR183_7, kR183_8, kR183_9, kR183_21, kR183_26, kR183_27, kR183_30, kR183_31, kR183_33, kR183_34, kR183_36, kR183_37, kR183_38, kR183_39, kR183_40, kR183_41, kR183_42, kR183_43, kR183_44, kL184, kA184, kS184, kL185, kA185, kS185, kL186, kA186, kS186, kL187, kA187, kS187, kL188, kA188, kS188, kL189, kL190, kL191, kA191, kS191, kL192, kA192, kS192, kL193, kA193, kS193, kL194, kA194, kS194, kL195, kA195, kS195, kL196, kA196, kS196, kL197, kA197, kS197, kL198, kA198, kS198, kL199, kA199, kS199, kL200, kA200, kS200, kL201, kL202, kA202, kS202, kL203, kA203, kS203, kL204, kA204, kS204, kL205, kL206, kA206, kS206, hL.2.2.2.1, hn0, hen, waysOf_ok hS hL hk, leastOf_ok hS hL hk hs hs1 hs2]
      rw [hd1]
      rfl
    have B2 : f_X12_ground τ 183 v = xsw v 0 [some (iI ((k : Int) - 144), xw τ I'), some (nI (lC g (xI σ 191) ((k : Int) - 144)), xw τ I'), some (nI s, xw τ I'), some (d, xw τ I')] (some (-100000, xw τ I')) := by
      unfold f_X12_ground
      rw [xck_ok (sT183 hS), Option.bind_some, e2, Option.bind_some]
      have z0 : xaI (xw τ I') 20 198 (0 : Int32) = some (I' 198 0) := kA198 hS (i := 0) (by decide)
      have z1 : xaI (xw τ I') 20 198 (1 : Int32) = some (I' 198 1) := kA198 hS (i := 1) (by decide)
      simp (disch := first | assumption | omega) only [Option.bind_some, Option.map_some, xw_gR, xw_gN, xw_al, xw_ck, xw_uI, xw_ur, xup_at, xur_at, if_true, if_false, reduceIte, and_true, true_and, and_false, false_and, not_true_eq_false, not_false_eq_true, Nat.reduceEqDiff, eq_self, Nat.reduceAdd, Nat.reduceMul, kC1, kG1, kP1, kR1_0, kR1_1, kR1_2, kR1_3, kR1_4, kR1_5, kR1_6, kR1_7, kR1_8, kR1_9, kR1_10, kR1_11, kR1_12, kR1_13, kC2, kG2, kP2, kR2_0, kR2_1, kC3, kG3, kP3, kR3_0, kR3_1, kR3_2, kR3_3, kL4, kA4, kS4, kL5, kA5, kS5, kL6, kA6, kS6, kL7, kA7, kS7, kC8, kG8, kP8, kR8_0, kR8_1, kL9, kA9, kS9, kL10, kA10, kS10, kC11, kG11, kP11, kR11_0, kR11_1, kR11_2, kR11_3, kL12, kA12, kS12, kL13, kA13, kS13, kL14, kA14, kS14, kL15, kA15, kS15, kC16, kG16, kP16, kR16_0, kR16_1, kL17, kA17, kS17, kL18, kA18, kS18, kC19, kG19, kP19, kR19_0, kL20, kL141, kL146, kA146, kS146, kL151, kA151, kS151, kL156, kA156, kS156, kC157, kG157, kP157, kR157_0, kR157_1, kL158, kA158, kS158, kL159, kA159, kS159, kC161, kG161, kP161, kR161_0, kR161_1, kL162, kA162, kS162, kL163, kA163, kS163, kC165, kG165, kP165, kR165_0, kR165_1, kR165_2, kR165_3, kL166, kA166, kS166, kL167, kA167, kS167, kL168, kA168, kS168, kL169, kA169, kS169, kC170, kG170, kP170, kR170_0, kR170_1, kR170_2, kL171, kA171, kS171, kL172, kA172, kS172, kL173, kA173, kS173, kC174, kG174, kP174, kR174_0, kR174_1, kR174_2, kR174_3, kR174_4, kL175, kA175, kS175, kL176, kA176, kS176, kL177, kA177, kS177, kL178, kA178, kS178, kL179, kC180, kG180, kP180, kL181, kL182, kA182, kS182, kC183, kG183, kP183, kR183_1, kR183_3, kR183_5, kR183_6, kR183_7, kR183_8, kR183_9, kR183_21, kR183_26, kR183_27, kR183_30, kR183_31, kR183_33, kR183_34, kR183_36, kR183_37, kR183_38, kR183_39, kR183_40, kR183_41, kR183_42, kR183_43, kR183_44, kL184, kA184, kS184, kL185, kA185, kS185, kL186, kA186, kS186, kL187, kA187, kS187, kL188, kA188, kS188, kL189, kL190, kL191, kA191, kS191, kL192, kA192, kS192, kL193, kA193, kS193, kL194, kA194, kS194, kL195, kA195, kS195, kL196, kA196, kS196, kL197, kA197, kS197, kL198, kA198, kS198, kL199, kA199, kS199, kL200, kA200, kS200, kL201, kL202, kA202, kS202, kL203, kA203, kS203, kL204, kA204, kS204, kL205, kL206, kA206, kS206, hK.2.2.1, hn0, z0, z1, q0, e150, many12 hK hk, least12 hS hg ho hK hk hs hs1 hs2]
      rw [hd2]
    rcases sw_c v 4 with ⟨w, hw, hw2, rfl⟩ | hd
    · rw [xsw_n hw2] at A2 B2
      rcases (show w = 0 ∨ w = 1 ∨ w = 2 ∨ w = 3 by omega) with rfl | rfl | rfl | rfl <;> exact ⟨_, _, _, A2, B2, INV_i H2.nop⟩
    · exact ⟨_, _, _, A2.trans (hd _ _ _ (Nat.le_refl 4)), B2.trans (hd _ _ _ (Nat.le_refl 4)), INV_i H2.nop⟩
end
section
/-! fractions -/
theorem mod_half {a b : Nat} (hb : 0 < b) (h : 0 < a % b) : b % (a % b) < (b + 1) / 2 := by
  have h1 : a % b < b := Nat.mod_lt _ hb
  generalize a % b = r at *
  by_cases h2 : r ≤ b / 2
  · have := Nat.mod_lt b h
    omega
  · have e : b % r = b - r := by
      rw [Nat.mod_eq_sub_mod (by omega), Nat.mod_eq_of_lt (by omega)]
    omega
theorem gcd11_l : ∀ (m a b n : Nat), a < 2147483648 → b < 2 ^ m → m ≤ 20 → 2 * m + n ≤ 63 → xloop f_X11_commonDivisor_b7 (nI a, nI b, nI n) = some (nI (Nat.gcd a b)) := by
  have stop : ∀ a n, n ≤ 64 → xloop f_X11_commonDivisor_b7 (nI a, nI 0, nI n) = some (nI a) := by
    intro a n hn
    refine xloop_end ?_
    simp only [f_X11_commonDivisor_b7]
    by_cases h : (64 : Int32) ≤ nI n
    · rw [if_pos h]; rfl
    · rw [if_neg h, if_pos (show nI 0 = 0 from rfl)]; rfl
  have step : ∀ a b n, a < 2147483648 → b < 2147483648 → 0 < b → n < 64 → f_X11_commonDivisor_b7 (nI a, nI b, nI n) = some (.inl (nI b, nI (a % b), nI (n + 1))) := by
    intro a b n ha hb h0 hn
    simp only [f_X11_commonDivisor_b7]
    rw [if_neg (by rw [show (64 : Int32) = nI 64 from rfl, nn_le (by omega) (by omega)]; omega), if_neg (nI_ne0 h0 (by omega))]
    unfold xdz
    rw [if_neg (nI_ne0 h0 (by omega)), Option.bind_some, nn_rem ha hb, nI_succ]
  intro m
  induction m with
  | zero =>
    intro a b n ha hb _ hn
    have : b = 0 := by simpa using hb
    subst this
    rw [stop a n (by omega), Nat.gcd_zero_right]
  | succ m ih =>
    intro a b n ha hb hm hn
    have hp : 2 ^ (m + 1) ≤ 2 ^ 20 := Nat.pow_le_pow_right (by decide) hm
    have hp2 : (2 : Nat) ^ 20 = 1048576 := by decide
    by_cases h0 : b = 0
    · subst h0
      rw [stop a n (by omega), Nat.gcd_zero_right]
    · rw [xloop_step (step a b n ha (by omega) (by omega) (by omega))]
      have hr := Nat.mod_lt a (show 0 < b by omega)
      by_cases h1 : a % b = 0
      · rw [h1, stop b _ (by omega)]
        congr 2
        rw [Nat.gcd_comm, Nat.gcd_rec, h1, Nat.gcd_zero_left]
      · rw [xloop_step (step b (a % b) (n + 1) (by omega) (by omega) (by omega) (by omega))]
        have hh := mod_half (a := a) (b := b) (by omega) (by omega)
        rw [ih (a % b) (b % (a % b)) (n + 1 + 1) (by omega) (by rw [Nat.pow_succ] at hb; omega) (by omega) (by omega)]
        congr 2
        rw [Nat.gcd_comm (a % b), ← Nat.gcd_rec, ← Nat.gcd_rec, Nat.gcd_comm]
theorem gcd11_ok {a b : Nat} (ha : a < 2147483648) (hb : b ≤ 65536) : f_X11_commonDivisor (nI a) (nI b) = some (nI (Nat.gcd a b)) := gcd11_l 17 a b 0 ha (by omega) (by decide) (by decide)
theorem gcd12_l (x0 x1 x2 : Int32) : ∀ (m a b : Nat), b < m → a < 2147483648 → b < 2147483648 → 0 < Nat.gcd a b → xloop (f_X12_part_b14 x0 x1 x2) (nI a, nI b) = some (if x2 = 0 then x0 / nI (Nat.gcd a b) else x1 / nI (Nat.gcd a b)) := by
  intro m
  induction m with
  | zero => intro a b h; omega
  | succ m ih =>
    intro a b h ha hb hg
    by_cases h0 : b = 0
    · subst h0
      rw [Nat.gcd_zero_right] at hg ⊢
      refine xloop_end ?_
      simp only [f_X12_part_b14]
      rw [if_pos (by decide)]
      unfold xdz
      rw [if_neg (nI_ne0 hg (by omega))]
      split <;> rfl
    · have st : f_X12_part_b14 x0 x1 x2 (nI a, nI b) = some (.inl (nI b, nI (a % b))) := by
        simp only [f_X12_part_b14]
        rw [if_neg (nI_nle (by omega) (by omega))]
        unfold xdz
        rw [if_neg (nI_ne0 (by omega) (by omega)), Option.bind_some, nn_rem ha hb]
      have hr := Nat.mod_lt a (show 0 < b by omega)
      have e : Nat.gcd b (a % b) = Nat.gcd a b := by rw [Nat.gcd_comm, ← Nat.gcd_rec, Nat.gcd_comm]
      rw [xloop_step st, ih b (a % b) (by omega) hb (by omega) (by rw [e]; exact hg), e]
/-- the two sides' parts of a fraction -/
theorem part_ok {z : Int} {b : Nat} (hz : -2147483648 < z) (hz2 : z < 2147483648) (hb : 0 < b) (hb2 : b ≤ 65536) (x : Int32) : ∃ r : Int32, f_X11_partOfFraction (iI z) (nI b) x = some (if x = 0 ∨ x = 1 then r else -100000) ∧ f_X12_part (iI z) (nI b) x = some r := by
  have hg : 0 < Nat.gcd z.natAbs b := Nat.gcd_pos_of_pos_right _ hb
  have hgl : Nat.gcd z.natAbs b ≤ b := Nat.gcd_le_right _ hb
  have ha : xabs (iI z) = nI z.natAbs := by
    unfold xabs
    have e : ((0 : Int32) ≤ iI z) = (0 ≤ z) := iI_le (a := 0) (by omega) (by omega) (by omega) (by omega)
    simp only [e]
    by_cases h : 0 ≤ z
    · rw [if_pos h, iI_n]; congr 1; omega
    · rw [if_neg h, show (0 : Int32) = iI 0 from rfl, iI_sub, iI_n]; congr 1; omega
  have hd : xdz (nI (Nat.gcd z.natAbs b)) = some () := by unfold xdz; rw [if_neg (nI_ne0 hg (by omega))]
  refine ⟨if x = 0 then iI z / nI (Nat.gcd z.natAbs b) else nI b / nI (Nat.gcd z.natAbs b), ?_, ?_⟩
  · unfold f_X11_partOfFraction
    rw [ha, gcd11_ok (by omega) hb2, Option.bind_some, if_neg (nI_ne0 hg (by omega)), hd]
    by_cases h0 : x = 0
    · simp [h0]
    · by_cases h1 : x = 1
      · simp [h1]
      · simp [h0, h1]
  · unfold f_X12_part
    have e : ((0 : Int32) ≤ iI z) = (0 ≤ z) := iI_le (a := 0) (by omega) (by omega) (by omega) (by omega)
    have h1 : (if (0 : Int32) ≤ iI z then xloop (f_X12_part_b14 (iI z) (nI b) x) (iI z, nI b) else xloop (f_X12_part_b14 (iI z) (nI b) x) (-iI z, nI b)) = xloop (f_X12_part_b14 (iI z) (nI b) x) (nI z.natAbs, nI b) := by
      simp only [e]
      by_cases h : 0 ≤ z
      · rw [if_pos h]; congr 2; rw [iI_n]; congr 1; omega
      · rw [if_neg h, iI_neg]; congr 2; rw [iI_n]; congr 1; omega
    rw [h1]
    exact gcd12_l _ _ _ (b + 1) _ b (by omega) (by omega) (by omega) hg
theorem in_01 (x : Int32) : f_X12_in x 0 1 = some (if x = 0 ∨ x = 1 then 1 else 0) := by
  unfold f_X12_in
  by_cases h0 : x < 0
  · rw [if_pos h0]
    have a : ¬ (x = 0 ∨ x = 1) := by
      rintro (z | z) <;> rw [z] at h0 <;> exact absurd h0 (by decide)
    rw [if_neg a]
  · rw [if_neg h0]
    obtain ⟨j, hj, rfl⟩ := nn_of h0
    have e1 : ((1 : Int32) < nI j) = (1 < j) := nn_lt (a := 1) (by decide) hj
    have e2 : (nI j = 0) = (j = 0) := nn_eq (b := 0) hj (by decide)
    have e3 : (nI j = 1) = (j = 1) := nn_eq (b := 1) hj (by decide)
    simp only [e1, e2, e3]
    by_cases h : 1 < j
    · rw [if_pos h, if_neg (by omega)]
    · rw [if_neg h, if_pos (by omega)]
end
section
/-! mean and pair -/
theorem sum_by {p : Nat → Bool} {q : Nat → Nat} (hq : ∀ s, q s ≤ 16) : ∀ N, fb_sm (fun u => u * fb_ct (fun s => p s && decide (q s = u)) N) 17 = fb_sm (fun s => if p s then q s else 0) N := by
  intro N
  induction N with
  | zero =>
    have e : fb_sm (fun u => u * fb_ct (fun s => p s && decide (q s = u)) 0) 17 = fb_sm (fun _ => 0) 17 := fb_sm_cong (fun k _ => rfl)
    rw [e, fb_sm_const]
    rfl
  | succ N ih =>
    rw [fb_sm_succ (fun s => if p s then q s else 0) N, ← ih]
    have e : fb_sm (fun u => u * fb_ct (fun s => p s && decide (q s = u)) (N + 1)) 17 = fb_sm (fun u => u * fb_ct (fun s => p s && decide (q s = u)) N + (if u = q N then (if p N then q N else 0) else 0)) 17 := fb_sm_cong (fun u _ => by
      rw [fb_ct_succ, Nat.mul_add]
      congr 1
      by_cases h : u = q N
      · subst h
        cases p N <;> simp
      · have : ¬ q N = u := fun z => h z.symm
        simp [h, this])
    rw [e, fb_sm_add]
    congr 1
    have h2 := fb_sm_upd (fun _ => 0) (if p N then q N else 0) (i := q N) (n := 17) (by have := hq N; omega)
    rw [fb_sm_const] at h2
    omega
section MEAN
variable {σ : XS} {J : Nat → Nat → Int32} {g : GD} {F : Nat → Int32}
theorem upsAdded_ok (hS : Shp σ) (hg : g ∈ gAll) (hL : LVK J g F) {k : Nat} (hk : k < 289) : f_X4_upsAdded (xw σ J) 165 (iI ((k : Int) - 144)) = some (nI (fb_sm (fun s => if lE g F ((k : Int) - 144) s then pC s else 0) (gSt g))) := by
  rw [← sum_by pC_16]
  unfold f_X4_upsAdded
  refine xforE (fun u : Nat => (nI (fb_sm (fun u => u * lU g F ((k : Int) - 144) u) u), nI u)) 17 rfl (fun u hu => ?_) ?_
  · simp only [f_X4_upsAdded_b4]
    rw [if_neg (by rw [show (17 : Int32) = nI 17 from rfl, nn_le (by omega) (by omega)]; omega)]
    simp (disch := first | assumption | omega) only [Option.bind_some, Option.map_some, xw_gR, xw_gN, xw_al, xw_ck, xw_uI, xw_ur, xup_at, xur_at, if_true, if_false, reduceIte, and_true, true_and, and_false, false_and, not_true_eq_false, not_false_eq_true, Nat.reduceEqDiff, eq_self, Nat.reduceAdd, Nat.reduceMul, kC1, kG1, kP1, kR1_0, kR1_1, kR1_2, kR1_3, kR1_4, kR1_5, kR1_6, kR1_7, kR1_8, kR1_9, kR1_10, kR1_11, kR1_12, kR1_13, kC2, kG2, kP2, kR2_0, kR2_1, kC3, kG3, kP3, kR3_0, kR3_1, kR3_2, kR3_3, kL4, kA4, kS4, kL5, kA5, kS5, kL6, kA6, kS6, kL7, kA7, kS7, kC8, kG8, kP8, kR8_0, kR8_1, kL9, kA9, kS9, kL10, kA10, kS10, kC11, kG11, kP11, kR11_0, kR11_1, kR11_2, kR11_3, kL12, kA12, kS12, kL13, kA13, kS13, kL14, kA14, kS14, kL15, kA15, kS15, kC16, kG16, kP16, kR16_0, kR16_1, kL17, kA17, kS17, kL18, kA18, kS18, kC19, kG19, kP19, kR19_0, kL20, kL141, kL146, kA146, kS146, kL151, kA151, kS151, kL156, kA156, kS156, kC157, kG157, kP157, kR157_0, kR157_1, kL158, kA158, kS158, kL159, kA159, kS159, kC161, kG161, kP161, kR161_0, kR161_1, kL162, kA162, kS162, kL163, kA163, kS163, kC165, kG165, kP165, kR165_0, kR165_1, kR165_2, kR165_3, kL166, kA166, kS166, kL167, kA167, kS167, kL168, kA168, kS168, kL169, kA169, kS169, kC170, kG170, kP170, kR170_0, kR170_1, kR170_2, kL171, kA171, kS171, kL172, kA172, kS172, kL173, kA173, kS173, kC174, kG174, kP174, kR174_0, kR174_1, kR174_2, kR174_3, kR174_4, kL175, kA175, kS175, kL176, kA176, kS176, kL177, kA177, kS177, kL178, kA178, kS178, kL179, kC180, kG180, kP180, kL181, kL182, kA182, kS182, kC183, kG183, kP183, kR183_1, kR183_3, kR183_5, kR183_6, kR183_7, kR183_8, kR183_9, kR183_21, kR183_26, kR183_27, kR183_30, kR183_31, kR183_33, kR183_34, kR183_36, kR183_37, kR183_38, kR183_39, kR183_40, kR183_41, kR183_42, kR183_43, kR183_44, kL184, kA184, kS184, kL185, kA185, kS185, kL186, kA186, kS186, kL187, kA187, kS187, kL188, kA188, kS188, kL189, kL190, kL191, kA191, kS191, kL192, kA192, kS192, kL193, kA193, kS193, kL194, kA194, kS194, kL195, kA195, kS195, kL196, kA196, kS196, kL197, kA197, kS197, kL198, kA198, kS198, kL199, kA199, kS199, kL200, kA200, kS200, kL201, kL202, kA202, kS202, kL203, kA203, kS203, kL204, kA204, kS204, kL205, kL206, kA206, kS206, withUps_ok hS hL hk hu, nn_mul, nn_add]
    rw [fb_sm_succ, nI_succ]
  · simp only [f_X4_upsAdded_b4]
    rw [if_pos (by decide)]
    rfl
theorem upsum_b (hg : g ∈ gAll) (e : Int) : fb_sm (fun s => if lE g F e s then pC s else 0) (gSt g) ≤ 1048576 := by
  have hSt := (gSt_b hg).1
  have := fb_sm_bound (f := fun s => if lE g F e s then pC s else 0) (c := 16) (n := gSt g) (fun s _ => by
    have := pC_16 s
    split <;> omega)
  omega
theorem mean12 (hS : Shp σ) (hG : GRD J g) (ho : RO g F) (hK : KNK J g F) {k : Nat} (hk : k < 289) (hp : lvP g F k = true) {x2 r : Int32} (hr : f_X12_part (iI ((fb_sm (fun s => if lE g F ((k : Int) - 144) s then pC s else 0) (gSt g) : Nat) : Int)) (nI (lC g F ((k : Int) - 144))) x2 = some r) :
    xloop (f_X12_mean_b36 (xw σ J) 183 (nI (fb_ct (lvP g F) k)) x2) ((0 : Int32), (0 : Int32)) = some (r, xw σ J) := by
  have hg := hG.1
  have hSt := (gSt_b hg).1
  have hlt := lvl_lt hk hp
  have hlb := lvN_b g F
  have q0 := hK.2.2.2 k hk hp
  refine xforE (fun s : Nat => (nI (fb_sm (fun s => if lE g F ((k : Int) - 144) s then pC s else 0) s), nI s)) (gSt g) rfl (fun s hs => ?_) ?_
  · simp only [f_X12_mean_b36]
    have hv := hK.1 s hs
    have hq := knE hg ho (e := (k : Int) - 144) (by omega) (by omega) s
    simp (disch := first | assumption | omega) only [Option.bind_some, Option.map_some, xw_gR, xw_gN, xw_al, xw_ck, xw_uI, xw_ur, xup_at, xur_at, if_true, if_false, reduceIte, and_true, true_and, and_false, false_and, not_true_eq_false, not_false_eq_true, Nat.reduceEqDiff, eq_self, Nat.reduceAdd, Nat.reduceMul, kC1, kG1, kP1, kR1_0, kR1_1, kR1_2, kR1_3, kR1_4, kR1_5, kR1_6, kR1_7, kR1_8, kR1_9, kR1_10, kR1_11, kR1_12, kR1_13, kC2, kG2, kP2, kR2_0, kR2_1, kC3, kG3, kP3, kR3_0, kR3_1, kR3_2, kR3_3, kL4, kA4, kS4, kL5, kA5, kS5, kL6, kA6, kS6, kL7, kA7, kS7, kC8, kG8, kP8, kR8_0, kR8_1, kL9, kA9, kS9, kL10, kA10, kS10, kC11, kG11, kP11, kR11_0, kR11_1, kR11_2, kR11_3, kL12, kA12, kS12, kL13, kA13, kS13, kL14, kA14, kS14, kL15, kA15, kS15, kC16, kG16, kP16, kR16_0, kR16_1, kL17, kA17, kS17, kL18, kA18, kS18, kC19, kG19, kP19, kR19_0, kL20, kL141, kL146, kA146, kS146, kL151, kA151, kS151, kL156, kA156, kS156, kC157, kG157, kP157, kR157_0, kR157_1, kL158, kA158, kS158, kL159, kA159, kS159, kC161, kG161, kP161, kR161_0, kR161_1, kL162, kA162, kS162, kL163, kA163, kS163, kC165, kG165, kP165, kR165_0, kR165_1, kR165_2, kR165_3, kL166, kA166, kS166, kL167, kA167, kS167, kL168, kA168, kS168, kL169, kA169, kS169, kC170, kG170, kP170, kR170_0, kR170_1, kR170_2, kL171, kA171, kS171, kL172, kA172, kS172, kL173, kA173, kS173, kC174, kG174, kP174, kR174_0, kR174_1, kR174_2, kR174_3, kR174_4, kL175, kA175, kS175, kL176, kA176, kS176, kL177, kA177, kS177, kL178, kA178, kS178, kL179, kC180, kG180, kP180, kL181, kL182, kA182, kS182, kC183, kG183, kP183, kR183_1, kR183_3, kR183_5, kR183_6, kR183_7, kR183_8, kR183_9, kR183_21, kR183_26, kR183_27, kR183_30, kR183_31, kR183_33, kR183_34, kR183_36, kR183_37, kR183_38, kR183_39, kR183_40, kR183_41, kR183_42, kR183_43, kR183_44, kL184, kA184, kS184, kL185, kA185, kS185, kL186, kA186, kS186, kL187, kA187, kS187, kL188, kA188, kS188, kL189, kL190, kL191, kA191, kS191, kL192, kA192, kS192, kL193, kA193, kS193, kL194, kA194, kS194, kL195, kA195, kS195, kL196, kA196, kS196, kL197, kA197, kS197, kL198, kA198, kS198, kL199, kA199, kS199, kL200, kA200, kS200, kL201, kL202, kA202, kS202, kL203, kA203, kS203, kL204, kA204, kS204, kL205, kL206, kA206, kS206, states12_ok hS hG, nn_le, show ¬ (gSt g ≤ s) by omega, hv, q0, hq, bitsOf_ok (show s < 65536 by omega), nn_add]
    rw [fb_sm_succ, nI_succ]
    by_cases h : lE g F ((k : Int) - 144) s = true
    · rw [if_pos h, if_pos h]
    · rw [if_neg h, if_neg h, Nat.add_zero]
  · simp only [f_X12_mean_b36]
    simp (disch := first | assumption | omega) only [Option.bind_some, Option.map_some, xw_gR, xw_gN, xw_al, xw_ck, xw_uI, xw_ur, xup_at, xur_at, if_true, if_false, reduceIte, and_true, true_and, and_false, false_and, not_true_eq_false, not_false_eq_true, Nat.reduceEqDiff, eq_self, Nat.reduceAdd, Nat.reduceMul, kC1, kG1, kP1, kR1_0, kR1_1, kR1_2, kR1_3, kR1_4, kR1_5, kR1_6, kR1_7, kR1_8, kR1_9, kR1_10, kR1_11, kR1_12, kR1_13, kC2, kG2, kP2, kR2_0, kR2_1, kC3, kG3, kP3, kR3_0, kR3_1, kR3_2, kR3_3, kL4, kA4, kS4, kL5, kA5, kS5, kL6, kA6, kS6, kL7, kA7, kS7, kC8, kG8, kP8, kR8_0, kR8_1, kL9, kA9, kS9, kL10, kA10, kS10, kC11, kG11, kP11, kR11_0, kR11_1, kR11_2, kR11_3, kL12, kA12, kS12, kL13, kA13, kS13, kL14, kA14, kS14, kL15, kA15, kS15, kC16, kG16, kP16, kR16_0, kR16_1, kL17, kA17, kS17, kL18, kA18, kS18, kC19, kG19, kP19, kR19_0, kL20, kL141, kL146, kA146, kS146, kL151, kA151, kS151, kL156, kA156, kS156, kC157, kG157, kP157, kR157_0, kR157_1, kL158, kA158, kS158, kL159, kA159, kS159, kC161, kG161, kP161, kR161_0, kR161_1, kL162, kA162, kS162, kL163, kA163, kS163, kC165, kG165, kP165, kR165_0, kR165_1, kR165_2, kR165_3, kL166, kA166, kS166, kL167, kA167, kS167, kL168, kA168, kS168, kL169, kA169, kS169, kC170, kG170, kP170, kR170_0, kR170_1, kR170_2, kL171, kA171, kS171, kL172, kA172, kS172, kL173, kA173, kS173, kC174, kG174, kP174, kR174_0, kR174_1, kR174_2, kR174_3, kR174_4, kL175, kA175, kS175, kL176, kA176, kS176, kL177, kA177, kS177, kL178, kA178, kS178, kL179, kC180, kG180, kP180, kL181, kL182, kA182, kS182, kC183, kG183, kP183, kR183_1, kR183_3, kR183_5, kR183_6, kR183_7, kR183_8, kR183_9, kR183_21, kR183_26, kR183_27, kR183_30, kR183_31, kR183_33, kR183_34, kR183_36, kR183_37, kR183_38, kR183_39, kR183_40, kR183_41, kR183_42, kR183_43, kR183_44, kL184, kA184, kS184, kL185, kA185, kS185, kL186, kA186, kS186, kL187, kA187, kS187, kL188, kA188, kS188, kL189, kL190, kL191, kA191, kS191, kL192, kA192, kS192, kL193, kA193, kS193, kL194, kA194, kS194, kL195, kA195, kS195, kL196, kA196, kS196, kL197, kA197, kS197, kL198, kA198, kS198, kL199, kA199, kS199, kL200, kA200, kS200, kL201, kL202, kA202, kS202, kL203, kA203, kS203, kL204, kA204, kS204, kL205, kL206, kA206, kS206, states12_ok hS hG, nn_le, Nat.le_refl, q0, e150, many12 hK hk]
    rw [iI_n, hr]
    rfl
end MEAN
theorem op_mean : Op_mean INV := by
  intro n σ hn ⟨g, gT, gP, st, H⟩ x v
  obtain ⟨τ, I', e1, e2, H1, H2, hS, hG1, hG2, ho, hSR, hE, hL, hK, r1, r2, u1, u2⟩ := both_ready (by omega) H
  have hg := hG1.1
  have hSt := (gSt_b hg).1
  have A : f_X11_mean σ 1 x v = f_X11_mean_j4 (xw τ (xI τ)) x v 165 := by
    unfold f_X11_mean
    rw [xck_ok (sT1 H.shp), Option.bind_some, e1, Option.bind_some]
    dsimp only
    rw [xnz_ok (by decide), Option.bind_some]
    rfl
  by_cases hl : isL g (xI σ 191) x = true
  · obtain ⟨i, hi, rfl⟩ := isL_t hl
    obtain ⟨k, hk, hp, hki⟩ := lvl_at hi
    subst hki
    have hub := upsum_b (F := xI σ 191) hg ((k : Int) - 144)
    have hpos : 0 < lC g (xI σ 191) ((k : Int) - 144) := of_decide_eq_true hp
    obtain ⟨r, p1, p2⟩ := part_ok (z := ((fb_sm (fun s => if lE g (xI σ 191) ((k : Int) - 144) s then pC s else 0) (gSt g) : Nat) : Int)) (by omega) (by omega) hpos (lC_b hg _ _) v
    refine ⟨if v = 0 ∨ v = 1 then r else -100000, τ, xw τ I', ?_, ?_, INV_i H2.nop⟩
    · rw [A]
      unfold f_X11_mean_j4
      rw [← iI_n] at p1
      simp (disch := first | assumption | omega) only [Option.bind_some, Option.map_some, xw_gR, xw_gN, xw_al, xw_ck, xw_uI, xw_ur, xup_at, xur_at, if_true, if_false, reduceIte, and_true, true_and, and_false, false_and, not_true_eq_false, not_false_eq_true, Nat.reduceEqDiff, eq_self, Nat.reduceAdd, Nat.reduceMul, kC1, kG1, kP1, kR1_0, kR1_1, kR1_2, kR1_3, kR1_4, kR1_5, kR1_6, kR1_7, kR1_8, kR1_9, kR1_10, kR1_11, kR1_12, kR1_13, kC2, kG2, kP2, kR2_0, kR2_1, kC3, kG3, kP3, kR3_0, kR3_1, kR3_2, kR3_3, kL4, kA4, kS4, kL5, kA5, kS5, kL6, kA6, kS6, kL7, kA7, kS7, kC8, kG8, kP8, kR8_0, kR8_1, kL9, kA9, kS9, kL10, kA10, kS10, kC11, kG11, kP11, kR11_0, kR11_1, kR11_2, kR11_3, kL12, kA12, kS12, kL13, kA13, kS13, kL14, kA14, kS14, kL15, kA15, kS15, kC16, kG16, kP16, kR16_0, kR16_1, kL17, kA17, kS17, kL18, kA18, kS18, kC19, kG19, kP19, kR19_0, kL20, kL141, kL146, kA146, kS146, kL151, kA151, kS151, kL156, kA156, kS156, kC157, kG157, kP157, kR157_0, kR157_1, kL158, kA158, kS158, kL159, kA159, kS159, kC161, kG161, kP161, kR161_0, kR161_1, kL162, kA162, kS162, kL163, kA163, kS163, kC165, kG165, kP165, kR165_0, kR165_1, kR165_2, kR165_3, kL166, kA166, kS166, kL167, kA167, kS167, kL168, kA168, kS168, kL169, kA169, kS169, kC170, kG170, kP170, kR170_0, kR170_1, kR170_2, kL171, kA171, kS171, kL172, kA172, kS172, kL173, kA173, kS173, kC174, kG174, kP174, kR174_0, kR174_1, kR174_2, kR174_3, kR174_4, kL175, kA175, kS175, kL176, kA176, kS176, kL177, kA177, kS177, kL178, kA178, kS178, kL179, kC180, kG180, kP180, kL181, kL182, kA182, kS182, kC183, kG183, kP183, kR183_1, kR183_3, kR183_5, kR183_6, kR183_7, kR183_8, kR183_9, kR183_21, kR183_26, kR183_27, kR183_30, kR183_31, kR183_33, kR183_34, kR183_36, kR183_37, kR183_38, kR183_39, kR183_40, kR183_41, kR183_42, kR183_43, kR183_44, kL184, kA184, kS184, kL185, kA185, kS185, kL186, kA186, kS186, kL187, kA187, kS187, kL188, kA188, kS188, kL189, kL190, kL191, kA191, kS191, kL192, kA192, kS192, kL193, kA193, kS193, kL194, kA194, kS194, kL195, kA195, kS195, kL196, kA196, kS196, kL197, kA197, kS197, kL198, kA198, kS198, kL199, kA199, kS199, kL200, kA200, kS200, kL201, kL202, kA202, kS202, kL203, kA203, kS203, kL204, kA204, kS204, kL205, kL206, kA206, kS206, hasLevel_ok hS hL, hl, one0, energyOf_ok hS hL hk hp, upsAdded_ok hS hg hL hk, waysOf_ok hS hL hk, p1]
      rfl
    · unfold f_X12_mean
      rw [xck_ok (sT183 hS), Option.bind_some, e2, Option.bind_some]
      simp (disch := first | assumption | omega) only [Option.bind_some, Option.map_some, xw_gR, xw_gN, xw_al, xw_ck, xw_uI, xw_ur, xup_at, xur_at, if_true, if_false, reduceIte, and_true, true_and, and_false, false_and, not_true_eq_false, not_false_eq_true, Nat.reduceEqDiff, eq_self, Nat.reduceAdd, Nat.reduceMul, kC1, kG1, kP1, kR1_0, kR1_1, kR1_2, kR1_3, kR1_4, kR1_5, kR1_6, kR1_7, kR1_8, kR1_9, kR1_10, kR1_11, kR1_12, kR1_13, kC2, kG2, kP2, kR2_0, kR2_1, kC3, kG3, kP3, kR3_0, kR3_1, kR3_2, kR3_3, kL4, kA4, kS4, kL5, kA5, kS5, kL6, kA6, kS6, kL7, kA7, kS7, kC8, kG8, kP8, kR8_0, kR8_1, kL9, kA9, kS9, kL10, kA10, kS10, kC11, kG11, kP11, kR11_0, kR11_1, kR11_2, kR11_3, kL12, kA12, kS12, kL13, kA13, kS13, kL14, kA14, kS14, kL15, kA15, kS15, kC16, kG16, kP16, kR16_0, kR16_1, kL17, kA17, kS17, kL18, kA18, kS18, kC19, kG19, kP19, kR19_0, kL20, kL141, kL146, kA146, kS146, kL151, kA151, kS151, kL156, kA156, kS156, kC157, kG157, kP157, kR157_0, kR157_1, kL158, kA158, kS158, kL159, kA159, kS159, kC161, kG161, kP161, kR161_0, kR161_1, kL162, kA162, kS162, kL163, kA163, kS163, kC165, kG165, kP165, kR165_0, kR165_1, kR165_2, kR165_3, kL166, kA166, kS166, kL167, kA167, kS167, kL168, kA168, kS168, kL169, kA169, kS169, kC170, kG170, kP170, kR170_0, kR170_1, kR170_2, kL171, kA171, kS171, kL172, kA172, kS172, kL173, kA173, kS173, kC174, kG174, kP174, kR174_0, kR174_1, kR174_2, kR174_3, kR174_4, kL175, kA175, kS175, kL176, kA176, kS176, kL177, kA177, kS177, kL178, kA178, kS178, kL179, kC180, kG180, kP180, kL181, kL182, kA182, kS182, kC183, kG183, kP183, kR183_1, kR183_3, kR183_5, kR183_6, kR183_7, kR183_8, kR183_9, kR183_21, kR183_26, kR183_27, kR183_30, kR183_31, kR183_33, kR183_34, kR183_36, kR183_37, kR183_38, kR183_39, kR183_40, kR183_41, kR183_42, kR183_43, kR183_44, kL184, kA184, kS184, kL185, kA185, kS185, kL186, kA186, kS186, kL187, kA187, kS187, kL188, kA188, kS188, kL189, kL190, kL191, kA191, kS191, kL192, kA192, kS192, kL193, kA193, kS193, kL194, kA194, kS194, kL195, kA195, kS195, kL196, kA196, kS196, kL197, kA197, kS197, kL198, kA198, kS198, kL199, kA199, kS199, kL200, kA200, kS200, kL201, kL202, kA202, kS202, kL203, kA203, kS203, kL204, kA204, kS204, kL205, kL206, kA206, kS206, hK.2.2.1, isL_in, hl, one0, in_01]
      by_cases hv : v = 0 ∨ v = 1
      · rw [if_pos hv, if_neg (by decide), if_pos hv, mean12 hS hG2 ho hK hk hp p2]
      · rw [if_neg hv, if_pos rfl, if_neg hv]
  · refine ⟨-100000, τ, xw τ I', ?_, ?_, INV_i H2.nop⟩
    · rw [A]
      unfold f_X11_mean_j4
      simp (disch := first | assumption | omega) only [Option.bind_some, Option.map_some, xw_gR, xw_gN, xw_al, xw_ck, xw_uI, xw_ur, xup_at, xur_at, if_true, if_false, reduceIte, and_true, true_and, and_false, false_and, not_true_eq_false, not_false_eq_true, Nat.reduceEqDiff, eq_self, Nat.reduceAdd, Nat.reduceMul, kC1, kG1, kP1, kR1_0, kR1_1, kR1_2, kR1_3, kR1_4, kR1_5, kR1_6, kR1_7, kR1_8, kR1_9, kR1_10, kR1_11, kR1_12, kR1_13, kC2, kG2, kP2, kR2_0, kR2_1, kC3, kG3, kP3, kR3_0, kR3_1, kR3_2, kR3_3, kL4, kA4, kS4, kL5, kA5, kS5, kL6, kA6, kS6, kL7, kA7, kS7, kC8, kG8, kP8, kR8_0, kR8_1, kL9, kA9, kS9, kL10, kA10, kS10, kC11, kG11, kP11, kR11_0, kR11_1, kR11_2, kR11_3, kL12, kA12, kS12, kL13, kA13, kS13, kL14, kA14, kS14, kL15, kA15, kS15, kC16, kG16, kP16, kR16_0, kR16_1, kL17, kA17, kS17, kL18, kA18, kS18, kC19, kG19, kP19, kR19_0, kL20, kL141, kL146, kA146, kS146, kL151, kA151, kS151, kL156, kA156, kS156, kC157, kG157, kP157, kR157_0, kR157_1, kL158, kA158, kS158, kL159, kA159, kS159, kC161, kG161, kP161, kR161_0, kR161_1, kL162, kA162, kS162, kL163, kA163, kS163, kC165, kG165, kP165, kR165_0, kR165_1, kR165_2, kR165_3, kL166, kA166, kS166, kL167, kA167, kS167, kL168, kA168, kS168, kL169, kA169, kS169, kC170, kG170, kP170, kR170_0, kR170_1, kR170_2, kL171, kA171, kS171, kL172, kA172, kS172, kL173, kA173, kS173, kC174, kG174, kP174, kR174_0, kR174_1, kR174_2, kR174_3, kR174_4, kL175, kA175, kS175, kL176, kA176, kS176, kL177, kA177, kS177, kL178, kA178, kS178, kL179, kC180, kG180, kP180, kL181, kL182, kA182, kS182, kC183, kG183, kP183, kR183_1, kR183_3, kR183_5, kR183_6, kR183_7, kR183_8, kR183_9, kR183_21, kR183_26, kR183_27, kR183_30, kR183_31, kR183_33, kR183_34, kR183_36, kR183_37, kR183_38, kR183_39, kR183_40, kR183_41, kR183_42, kR183_43, kR183_44, kL184, kA184, kS184, kL185, kA185, kS185, kL186, kA186, kS186, kL187, kA187, kS187, kL188, kA188, kS188, kL189, kL190, kL191, kA191, kS191, kL192, kA192, kS192, kL193, kA193, kS193, kL194, kA194, kS194, kL195, kA195, kS195, kL196, kA196, kS196, kL197, kA197, kS197, kL198, kA198, kS198, kL199, kA199, kS199, kL200, kA200, kS200, kL201, kL202, kA202, kS202, kL203, kA203, kS203, kL204, kA204, kS204, kL205, kL206, kA206, kS206, hasLevel_ok hS hL, hl]
      rfl
    · unfold f_X12_mean
      rw [xck_ok (sT183 hS), Option.bind_some, e2, Option.bind_some]
      simp (disch := first | assumption | omega) only [Option.bind_some, Option.map_some, xw_gR, xw_gN, xw_al, xw_ck, xw_uI, xw_ur, xup_at, xur_at, if_true, if_false, reduceIte, and_true, true_and, and_false, false_and, not_true_eq_false, not_false_eq_true, Nat.reduceEqDiff, eq_self, Nat.reduceAdd, Nat.reduceMul, kC1, kG1, kP1, kR1_0, kR1_1, kR1_2, kR1_3, kR1_4, kR1_5, kR1_6, kR1_7, kR1_8, kR1_9, kR1_10, kR1_11, kR1_12, kR1_13, kC2, kG2, kP2, kR2_0, kR2_1, kC3, kG3, kP3, kR3_0, kR3_1, kR3_2, kR3_3, kL4, kA4, kS4, kL5, kA5, kS5, kL6, kA6, kS6, kL7, kA7, kS7, kC8, kG8, kP8, kR8_0, kR8_1, kL9, kA9, kS9, kL10, kA10, kS10, kC11, kG11, kP11, kR11_0, kR11_1, kR11_2, kR11_3, kL12, kA12, kS12, kL13, kA13, kS13, kL14, kA14, kS14, kL15, kA15, kS15, kC16, kG16, kP16, kR16_0, kR16_1, kL17, kA17, kS17, kL18, kA18, kS18, kC19, kG19, kP19, kR19_0, kL20, kL141, kL146, kA146, kS146, kL151, kA151, kS151, kL156, kA156, kS156, kC157, kG157, kP157, kR157_0, kR157_1, kL158, kA158, kS158, kL159, kA159, kS159, kC161, kG161, kP161, kR161_0, kR161_1, kL162, kA162, kS162, kL163, kA163, kS163, kC165, kG165, kP165, kR165_0, kR165_1, kR165_2, kR165_3, kL166, kA166, kS166, kL167, kA167, kS167, kL168, kA168, kS168, kL169, kA169, kS169, kC170, kG170, kP170, kR170_0, kR170_1, kR170_2, kL171, kA171, kS171, kL172, kA172, kS172, kL173, kA173, kS173, kC174, kG174, kP174, kR174_0, kR174_1, kR174_2, kR174_3, kR174_4, kL175, kA175, kS175, kL176, kA176, kS176, kL177, kA177, kS177, kL178, kA178, kS178, kL179, kC180, kG180, kP180, kL181, kL182, kA182, kS182, kC183, kG183, kP183, kR183_1, kR183_3, kR183_5, kR183_6, kR183_7, kR183_8, kR183_9, kR183_21, kR183_26, kR183_27, kR183_30, kR183_31, kR183_33, kR183_34, kR183_36, kR183_37, kR183_38, kR183_39, kR183_40, kR183_41, kR183_42, kR183_43, kR183_44, kL184, kA184, kS184, kL185, kA185, kS185, kL186, kA186, kS186, kL187, kA187, kS187, kL188, kA188, kS188, kL189, kL190, kL191, kA191, kS191, kL192, kA192, kS192, kL193, kA193, kS193, kL194, kA194, kS194, kL195, kA195, kS195, kL196, kA196, kS196, kL197, kA197, kS197, kL198, kA198, kS198, kL199, kA199, kS199, kL200, kA200, kS200, kL201, kL202, kA202, kS202, kL203, kA203, kS203, kL204, kA204, kS204, kL205, kL206, kA206, kS206, hK.2.2.1, isL_in, hl]
      rfl
theorem has_ok {s i : Nat} (hs : s < 2147483648) (hi : i < 32) : f_X12_has (nI s) (nI i) = some (nI (if s.testBit i then 1 else 0)) := by
  unfold f_X12_has
  rw [nn_bit hs hi]
  cases s.testBit i <;> rfl
section PAIR
variable {σ : XS} {J : Nat → Nat → Int32} {g : GD} {F : Nat → Int32} {c m : Nat}
def alk (g : GD) (F : Nat → Int32) (e : Int) (i j s : Nat) : Bool := lE g F e s && decide (s.testBit i = s.testBit j)
theorem alike_ok (hS : Shp σ) (hG : GRD J g) (ho : RO g F) (hE : EnO σ 157 c m) (hK : ENK J (xR σ) (xlen σ) 157 g F) (hSR : SR g J 16 F) {k i j : Nat} (hk : k < 289) (hi : i < gSz g) (hj : j < gSz g) : f_X11_countAlike (xw σ J) 1 (nI i) (nI j) (iI ((k : Int) - 144)) = some (nI (fb_ct (alk g F ((k : Int) - 144) i j) (gSt g))) := by
  have hg := hG.1
  have h16 := (gAll_b g hg).2.2.1
  have hSt := (gSt_b hg).1
  unfold f_X11_countAlike
  simp (disch := first | assumption | omega) only [Option.bind_some, Option.map_some, xw_gR, xw_gN, xw_al, xw_ck, xw_uI, xw_ur, xup_at, xur_at, if_true, if_false, reduceIte, and_true, true_and, and_false, false_and, not_true_eq_false, not_false_eq_true, Nat.reduceEqDiff, eq_self, Nat.reduceAdd, Nat.reduceMul, kC1, kG1, kP1, kR1_0, kR1_1, kR1_2, kR1_3, kR1_4, kR1_5, kR1_6, kR1_7, kR1_8, kR1_9, kR1_10, kR1_11, kR1_12, kR1_13, kC2, kG2, kP2, kR2_0, kR2_1, kC3, kG3, kP3, kR3_0, kR3_1, kR3_2, kR3_3, kL4, kA4, kS4, kL5, kA5, kS5, kL6, kA6, kS6, kL7, kA7, kS7, kC8, kG8, kP8, kR8_0, kR8_1, kL9, kA9, kS9, kL10, kA10, kS10, kC11, kG11, kP11, kR11_0, kR11_1, kR11_2, kR11_3, kL12, kA12, kS12, kL13, kA13, kS13, kL14, kA14, kS14, kL15, kA15, kS15, kC16, kG16, kP16, kR16_0, kR16_1, kL17, kA17, kS17, kL18, kA18, kS18, kC19, kG19, kP19, kR19_0, kL20, kL141, kL146, kA146, kS146, kL151, kA151, kS151, kL156, kA156, kS156, kC157, kG157, kP157, kR157_0, kR157_1, kL158, kA158, kS158, kL159, kA159, kS159, kC161, kG161, kP161, kR161_0, kR161_1, kL162, kA162, kS162, kL163, kA163, kS163, kC165, kG165, kP165, kR165_0, kR165_1, kR165_2, kR165_3, kL166, kA166, kS166, kL167, kA167, kS167, kL168, kA168, kS168, kL169, kA169, kS169, kC170, kG170, kP170, kR170_0, kR170_1, kR170_2, kL171, kA171, kS171, kL172, kA172, kS172, kL173, kA173, kS173, kC174, kG174, kP174, kR174_0, kR174_1, kR174_2, kR174_3, kR174_4, kL175, kA175, kS175, kL176, kA176, kS176, kL177, kA177, kS177, kL178, kA178, kS178, kL179, kC180, kG180, kP180, kL181, kL182, kA182, kS182, kC183, kG183, kP183, kR183_1, kR183_3, kR183_5, kR183_6, kR183_7, kR183_8, kR183_9, kR183_21, kR183_26, kR183_27, kR183_30, kR183_31, kR183_33, kR183_34, kR183_36, kR183_37, kR183_38, kR183_39, kR183_40, kR183_41, kR183_42, kR183_43, kR183_44, kL184, kA184, kS184, kL185, kA185, kS185, kL186, kA186, kS186, kL187, kA187, kS187, kL188, kA188, kS188, kL189, kL190, kL191, kA191, kS191, kL192, kA192, kS192, kL193, kA193, kS193, kL194, kA194, kS194, kL195, kA195, kS195, kL196, kA196, kS196, kL197, kA197, kS197, kL198, kA198, kS198, kL199, kA199, kS199, kL200, kA200, kS200, kL201, kL202, kA202, kS202, kL203, kA203, kS203, kL204, kA204, kS204, kL205, kL206, kA206, kS206, states11_ok hS hG]
  refine xforE (fun s : Nat => (nI (fb_ct (alk g F ((k : Int) - 144) i j) s), nI s)) (gSt g) rfl (fun s hs => ?_) ?_
  · simp only [f_X11_countAlike_b15]
    have hb := eE_b hg ho s
    have hq : (iI (eE g (zR F) s) = iI ((k : Int) - 144)) = (eE g (zR F) s = (k : Int) - 144) := iI_eq (by omega) (by omega) (by omega) (by omega)
    rw [if_neg (by rw [nn_le (by omega) (by omega)]; omega)]
    simp (disch := first | assumption | omega) only [Option.bind_some, Option.map_some, xw_gR, xw_gN, xw_al, xw_ck, xw_uI, xw_ur, xup_at, xur_at, if_true, if_false, reduceIte, and_true, true_and, and_false, false_and, not_true_eq_false, not_false_eq_true, Nat.reduceEqDiff, eq_self, Nat.reduceAdd, Nat.reduceMul, kC1, kG1, kP1, kR1_0, kR1_1, kR1_2, kR1_3, kR1_4, kR1_5, kR1_6, kR1_7, kR1_8, kR1_9, kR1_10, kR1_11, kR1_12, kR1_13, kC2, kG2, kP2, kR2_0, kR2_1, kC3, kG3, kP3, kR3_0, kR3_1, kR3_2, kR3_3, kL4, kA4, kS4, kL5, kA5, kS5, kL6, kA6, kS6, kL7, kA7, kS7, kC8, kG8, kP8, kR8_0, kR8_1, kL9, kA9, kS9, kL10, kA10, kS10, kC11, kG11, kP11, kR11_0, kR11_1, kR11_2, kR11_3, kL12, kA12, kS12, kL13, kA13, kS13, kL14, kA14, kS14, kL15, kA15, kS15, kC16, kG16, kP16, kR16_0, kR16_1, kL17, kA17, kS17, kL18, kA18, kS18, kC19, kG19, kP19, kR19_0, kL20, kL141, kL146, kA146, kS146, kL151, kA151, kS151, kL156, kA156, kS156, kC157, kG157, kP157, kR157_0, kR157_1, kL158, kA158, kS158, kL159, kA159, kS159, kC161, kG161, kP161, kR161_0, kR161_1, kL162, kA162, kS162, kL163, kA163, kS163, kC165, kG165, kP165, kR165_0, kR165_1, kR165_2, kR165_3, kL166, kA166, kS166, kL167, kA167, kS167, kL168, kA168, kS168, kL169, kA169, kS169, kC170, kG170, kP170, kR170_0, kR170_1, kR170_2, kL171, kA171, kS171, kL172, kA172, kS172, kL173, kA173, kS173, kC174, kG174, kP174, kR174_0, kR174_1, kR174_2, kR174_3, kR174_4, kL175, kA175, kS175, kL176, kA176, kS176, kL177, kA177, kS177, kL178, kA178, kS178, kL179, kC180, kG180, kP180, kL181, kL182, kA182, kS182, kC183, kG183, kP183, kR183_1, kR183_3, kR183_5, kR183_6, kR183_7, kR183_8, kR183_9, kR183_21, kR183_26, kR183_27, kR183_30, kR183_31, kR183_33, kR183_34, kR183_36, kR183_37, kR183_38, kR183_39, kR183_40, kR183_41, kR183_42, kR183_43, kR183_44, kL184, kA184, kS184, kL185, kA185, kS185, kL186, kA186, kS186, kL187, kA187, kS187, kL188, kA188, kS188, kL189, kL190, kL191, kA191, kS191, kL192, kA192, kS192, kL193, kA193, kS193, kL194, kA194, kS194, kL195, kA195, kS195, kL196, kA196, kS196, kL197, kA197, kS197, kL198, kA198, kS198, kL199, kA199, kS199, kL200, kA200, kS200, kL201, kL202, kA202, kS202, kL203, kA203, kS203, kL204, kA204, kS204, kL205, kL206, kA206, kS206, allows_ok hS hg suA_16 hSR, of_ok hS hE hK (gSt_pos hs).2, hq, bitOf_ok (show s < 2147483648 by omega) (show i < 32 by omega), bitOf_ok (show s < 2147483648 by omega) (show j < 32 by omega), bI_eq]
    rw [fb_ct_succ, ← nI_succ, ← nI_succ]
    unfold alk lE
    cases lW g F s with
    | false => simp
    | true =>
      rw [if_neg (by decide)]
      by_cases h1 : eE g (zR F) s = (k : Int) - 144
      · rw [if_pos h1]
        by_cases h2 : s.testBit i = s.testBit j
        · rw [if_pos h2]; simp [h1, h2]
        · rw [if_neg h2]; simp [h1, h2]
      · rw [if_neg h1]; simp [h1]
  · simp only [f_X11_countAlike_b15]
    rw [if_pos (by rw [nn_le (by omega) (by omega)]; exact Nat.le_refl _)]
    rfl
theorem alk_le (e : Int) (i j N : Nat) : fb_ct (alk g F e i j) N ≤ fb_ct (lE g F e) N := fb_ct_sub (fun s _ h => by
  unfold alk at h
  rw [Bool.and_eq_true] at h
  exact h.1)
theorem pair12 (hS : Shp σ) (hG : GRD J g) (ho : RO g F) (hK : KNK J g F) {k i j : Nat} (hk : k < 289) (hp : lvP g F k = true) (hi : i < gSz g) (hj : j < gSz g) {x2 r : Int32} (hr : f_X12_part (iI (2 * (fb_ct (alk g F ((k : Int) - 144) i j) (gSt g) : Int) - (lC g F ((k : Int) - 144) : Int))) (nI (lC g F ((k : Int) - 144))) x2 = some r) :
    xloop (f_X12_pair_b54 (xw σ J) 183 (nI i) (nI j) (nI (fb_ct (lvP g F) k)) x2) ((0 : Int32), (0 : Int32)) = some (r, xw σ J) := by
  have hg := hG.1
  have h16 := (gAll_b g hg).2.2.1
  have hSt := (gSt_b hg).1
  have hlt := lvl_lt hk hp
  have hlb := lvN_b g F
  have q0 := hK.2.2.2 k hk hp
  refine xforE (fun s : Nat => (iI (2 * (fb_ct (alk g F ((k : Int) - 144) i j) s : Int) - (fb_ct (lE g F ((k : Int) - 144)) s : Int)), nI s)) (gSt g) rfl (fun s hs => ?_) ?_
  · simp only [f_X12_pair_b54]
    have hv := hK.1 s hs
    have hq := knE hg ho (e := (k : Int) - 144) (by omega) (by omega) s
    simp (disch := first | assumption | omega) only [Option.bind_some, Option.map_some, xw_gR, xw_gN, xw_al, xw_ck, xw_uI, xw_ur, xup_at, xur_at, if_true, if_false, reduceIte, and_true, true_and, and_false, false_and, not_true_eq_false, not_false_eq_true, Nat.reduceEqDiff, eq_self, Nat.reduceAdd, Nat.reduceMul, kC1, kG1, kP1, kR1_0, kR1_1, kR1_2, kR1_3, kR1_4, kR1_5, kR1_6, kR1_7, kR1_8, kR1_9, kR1_10, kR1_11, kR1_12, kR1_13, kC2, kG2, kP2, kR2_0, kR2_1, kC3, kG3, kP3, kR3_0, kR3_1, kR3_2, kR3_3, kL4, kA4, kS4, kL5, kA5, kS5, kL6, kA6, kS6, kL7, kA7, kS7, kC8, kG8, kP8, kR8_0, kR8_1, kL9, kA9, kS9, kL10, kA10, kS10, kC11, kG11, kP11, kR11_0, kR11_1, kR11_2, kR11_3, kL12, kA12, kS12, kL13, kA13, kS13, kL14, kA14, kS14, kL15, kA15, kS15, kC16, kG16, kP16, kR16_0, kR16_1, kL17, kA17, kS17, kL18, kA18, kS18, kC19, kG19, kP19, kR19_0, kL20, kL141, kL146, kA146, kS146, kL151, kA151, kS151, kL156, kA156, kS156, kC157, kG157, kP157, kR157_0, kR157_1, kL158, kA158, kS158, kL159, kA159, kS159, kC161, kG161, kP161, kR161_0, kR161_1, kL162, kA162, kS162, kL163, kA163, kS163, kC165, kG165, kP165, kR165_0, kR165_1, kR165_2, kR165_3, kL166, kA166, kS166, kL167, kA167, kS167, kL168, kA168, kS168, kL169, kA169, kS169, kC170, kG170, kP170, kR170_0, kR170_1, kR170_2, kL171, kA171, kS171, kL172, kA172, kS172, kL173, kA173, kS173, kC174, kG174, kP174, kR174_0, kR174_1, kR174_2, kR174_3, kR174_4, kL175, kA175, kS175, kL176, kA176, kS176, kL177, kA177, kS177, kL178, kA178, kS178, kL179, kC180, kG180, kP180, kL181, kL182, kA182, kS182, kC183, kG183, kP183, kR183_1, kR183_3, kR183_5, kR183_6, kR183_7, kR183_8, kR183_9, kR183_21, kR183_26, kR183_27, kR183_30, kR183_31, kR183_33, kR183_34, kR183_36, kR183_37, kR183_38, kR183_39, kR183_40, kR183_41, kR183_42, kR183_43, kR183_44, kL184, kA184, kS184, kL185, kA185, kS185, kL186, kA186, kS186, kL187, kA187, kS187, kL188, kA188, kS188, kL189, kL190, kL191, kA191, kS191, kL192, kA192, kS192, kL193, kA193, kS193, kL194, kA194, kS194, kL195, kA195, kS195, kL196, kA196, kS196, kL197, kA197, kS197, kL198, kA198, kS198, kL199, kA199, kS199, kL200, kA200, kS200, kL201, kL202, kA202, kS202, kL203, kA203, kS203, kL204, kA204, kS204, kL205, kL206, kA206, kS206, states12_ok hS hG, nn_le, show ¬ (gSt g ≤ s) by omega, hv, q0, hq, has_ok (show s < 2147483648 by omega) (show i < 32 by omega), has_ok (show s < 2147483648 by omega) (show j < 32 by omega), bI_eq]
    rw [fb_ct_succ, fb_ct_succ, ← nI_succ, show (-1 : Int32) = iI (-1) from rfl, show (1 : Int32) = iI 1 from rfl, iI_add, iI_add]
    unfold alk
    by_cases h : lE g F ((k : Int) - 144) s = true
    · rw [if_pos h]
      by_cases h2 : s.testBit i = s.testBit j
      · rw [if_pos h2]; simp only [h, h2, decide_true, Bool.and_true, if_true]
        congr 4; omega
      · rw [if_neg h2]; simp only [h, h2, decide_false, Bool.and_false, if_true, Bool.false_eq_true, if_false]
        congr 4; omega
    · rw [if_neg h]; simp [h]
  · simp only [f_X12_pair_b54]
    simp (disch := first | assumption | omega) only [Option.bind_some, Option.map_some, xw_gR, xw_gN, xw_al, xw_ck, xw_uI, xw_ur, xup_at, xur_at, if_true, if_false, reduceIte, and_true, true_and, and_false, false_and, not_true_eq_false, not_false_eq_true, Nat.reduceEqDiff, eq_self, Nat.reduceAdd, Nat.reduceMul, kC1, kG1, kP1, kR1_0, kR1_1, kR1_2, kR1_3, kR1_4, kR1_5, kR1_6, kR1_7, kR1_8, kR1_9, kR1_10, kR1_11, kR1_12, kR1_13, kC2, kG2, kP2, kR2_0, kR2_1, kC3, kG3, kP3, kR3_0, kR3_1, kR3_2, kR3_3, kL4, kA4, kS4, kL5, kA5, kS5, kL6, kA6, kS6, kL7, kA7, kS7, kC8, kG8, kP8, kR8_0, kR8_1, kL9, kA9, kS9, kL10, kA10, kS10, kC11, kG11, kP11, kR11_0, kR11_1, kR11_2, kR11_3, kL12, kA12, kS12, kL13, kA13, kS13, kL14, kA14, kS14, kL15, kA15, kS15, kC16, kG16, kP16, kR16_0, kR16_1, kL17, kA17, kS17, kL18, kA18, kS18, kC19, kG19, kP19, kR19_0, kL20, kL141, kL146, kA146, kS146, kL151, kA151, kS151, kL156, kA156, kS156, kC157, kG157, kP157, kR157_0, kR157_1, kL158, kA158, kS158, kL159, kA159, kS159, kC161, kG161, kP161, kR161_0, kR161_1, kL162, kA162, kS162, kL163, kA163, kS163, kC165, kG165, kP165, kR165_0, kR165_1, kR165_2, kR165_3, kL166, kA166, kS166, kL167, kA167, kS167, kL168, kA168, kS168, kL169, kA169, kS169, kC170, kG170, kP170, kR170_0, kR170_1, kR170_2, kL171, kA171, kS171, kL172, kA172, kS172, kL173, kA173, kS173, kC174, kG174, kP174, kR174_0, kR174_1, kR174_2, kR174_3, kR174_4, kL175, kA175, kS175, kL176, kA176, kS176, kL177, kA177, kS177, kL178, kA178, kS178, kL179, kC180, kG180, kP180, kL181, kL182, kA182, kS182, kC183, kG183, kP183, kR183_1, kR183_3, kR183_5, kR183_6, kR183_7, kR183_8, kR183_9, kR183_21, kR183_26, kR183_27, kR183_30, kR183_31, kR183_33, kR183_34, kR183_36, kR183_37, kR183_38, kR183_39, kR183_40, kR183_41, kR183_42, kR183_43, kR183_44, kL184, kA184, kS184, kL185, kA185, kS185, kL186, kA186, kS186, kL187, kA187, kS187, kL188, kA188, kS188, kL189, kL190, kL191, kA191, kS191, kL192, kA192, kS192, kL193, kA193, kS193, kL194, kA194, kS194, kL195, kA195, kS195, kL196, kA196, kS196, kL197, kA197, kS197, kL198, kA198, kS198, kL199, kA199, kS199, kL200, kA200, kS200, kL201, kL202, kA202, kS202, kL203, kA203, kS203, kL204, kA204, kS204, kL205, kL206, kA206, kS206, states12_ok hS hG, nn_le, Nat.le_refl, q0, e150, many12 hK hk]
    unfold lC at hr
    unfold lC
    rw [hr]
    rfl
end PAIR

theorem op_pair : Op_pair INV := by
  intro n σ hn ⟨g, gT, gP, st, H⟩ x y z v
  have hS0 := H.shp
  have hG0 := H.grd
  have hg := hG0.1
  by_cases hx1 : isS g x = true
  · by_cases hy1 : isS g y = true
    · obtain ⟨τ, I', e1, e2, H1, H2, hS, hG1, hG2, ho, hSR, hE, hL, hK, r1, r2, u1, u2⟩ := both_ready (by omega) H
      obtain ⟨i, hi, rfl⟩ := isS_t hx1
      obtain ⟨j, hj, rfl⟩ := isS_t hy1
      have A : f_X11_pair σ 1 (nI i) (nI j) z v = f_X11_pair_j26 (xw τ (xI τ)) 1 (nI i) (nI j) z v 165 := by
        show f_X11_pair (xw σ (xI σ)) 1 (nI i) (nI j) z v = _
        unfold f_X11_pair
        have e1' : f_X11_levelsNow (xw σ (xI σ)) 1 = some (165, τ) := e1
        simp (disch := first | assumption | omega) only [Option.bind_some, Option.map_some, xw_gR, xw_gN, xw_al, xw_ck, xw_uI, xw_ur, xup_at, xur_at, if_true, if_false, reduceIte, and_true, true_and, and_false, false_and, not_true_eq_false, not_false_eq_true, Nat.reduceEqDiff, eq_self, Nat.reduceAdd, Nat.reduceMul, kC1, kG1, kP1, kR1_0, kR1_1, kR1_2, kR1_3, kR1_4, kR1_5, kR1_6, kR1_7, kR1_8, kR1_9, kR1_10, kR1_11, kR1_12, kR1_13, kC2, kG2, kP2, kR2_0, kR2_1, kC3, kG3, kP3, kR3_0, kR3_1, kR3_2, kR3_3, kL4, kA4, kS4, kL5, kA5, kS5, kL6, kA6, kS6, kL7, kA7, kS7, kC8, kG8, kP8, kR8_0, kR8_1, kL9, kA9, kS9, kL10, kA10, kS10, kC11, kG11, kP11, kR11_0, kR11_1, kR11_2, kR11_3, kL12, kA12, kS12, kL13, kA13, kS13, kL14, kA14, kS14, kL15, kA15, kS15, kC16, kG16, kP16, kR16_0, kR16_1, kL17, kA17, kS17, kL18, kA18, kS18, kC19, kG19, kP19, kR19_0, kL20, kL141, kL146, kA146, kS146, kL151, kA151, kS151, kL156, kA156, kS156, kC157, kG157, kP157, kR157_0, kR157_1, kL158, kA158, kS158, kL159, kA159, kS159, kC161, kG161, kP161, kR161_0, kR161_1, kL162, kA162, kS162, kL163, kA163, kS163, kC165, kG165, kP165, kR165_0, kR165_1, kR165_2, kR165_3, kL166, kA166, kS166, kL167, kA167, kS167, kL168, kA168, kS168, kL169, kA169, kS169, kC170, kG170, kP170, kR170_0, kR170_1, kR170_2, kL171, kA171, kS171, kL172, kA172, kS172, kL173, kA173, kS173, kC174, kG174, kP174, kR174_0, kR174_1, kR174_2, kR174_3, kR174_4, kL175, kA175, kS175, kL176, kA176, kS176, kL177, kA177, kS177, kL178, kA178, kS178, kL179, kC180, kG180, kP180, kL181, kL182, kA182, kS182, kC183, kG183, kP183, kR183_1, kR183_3, kR183_5, kR183_6, kR183_7, kR183_8, kR183_9, kR183_21, kR183_26, kR183_27, kR183_30, kR183_31, kR183_33, kR183_34, kR183_36, kR183_37, kR183_38, kR183_39, kR183_40, kR183_41, kR183_42, kR183_43, kR183_44, kL184, kA184, kS184, kL185, kA185, kS185, kL186, kA186, kS186, kL187, kA187, kS187, kL188, kA188, kS188, kL189, kL190, kL191, kA191, kS191, kL192, kA192, kS192, kL193, kA193, kS193, kL194, kA194, kS194, kL195, kA195, kS195, kL196, kA196, kS196, kL197, kA197, kS197, kL198, kA198, kS198, kL199, kA199, kS199, kL200, kA200, kS200, kL201, kL202, kA202, kS202, kL203, kA203, kS203, kL204, kA204, kS204, kL205, kL206, kA206, kS206, hasSite_ok hS0 hG0, hx1, hy1, one0, e1', xnz_ok]
        rfl
      obtain ⟨c, a, hEn, ha, hcn⟩ := H1.en157
      by_cases hl : isL g (xI σ 191) z = true
      · obtain ⟨i0, hi0, rfl⟩ := isL_t hl
        obtain ⟨k, hk, hp, hki⟩ := lvl_at hi0
        subst hki
        have hpos : 0 < lC g (xI σ 191) ((k : Int) - 144) := of_decide_eq_true hp
        have hCb := lC_b hg (xI σ 191) ((k : Int) - 144)
        have hab := alk_le (g := g) (F := xI σ 191) ((k : Int) - 144) i j (gSt g)
        have hab2 : fb_ct (alk g (xI σ 191) ((k : Int) - 144) i j) (gSt g) ≤ lC g (xI σ 191) ((k : Int) - 144) := hab
        obtain ⟨r, p1, p2⟩ := part_ok (z := 2 * (fb_ct (alk g (xI σ 191) ((k : Int) - 144) i j) (gSt g) : Int) - (lC g (xI σ 191) ((k : Int) - 144) : Int)) (by omega) (by omega) hpos hCb v
        have hab3 : (2 : Int32) * nI (fb_ct (alk g (xI σ 191) ((k : Int) - 144) i j) (gSt g)) - nI (lC g (xI σ 191) ((k : Int) - 144)) = iI (2 * (fb_ct (alk g (xI σ 191) ((k : Int) - 144) i j) (gSt g) : Int) - (lC g (xI σ 191) ((k : Int) - 144) : Int)) := by
          rw [show (2 : Int32) = iI 2 from rfl, iI_n, iI_n, iI_mul, iI_sub]
        refine ⟨if v = 0 ∨ v = 1 then r else -100000, τ, xw τ I', ?_, ?_, INV_i H2.nop⟩
        · rw [A]
          unfold f_X11_pair_j26
          simp (disch := first | assumption | omega) only [Option.bind_some, Option.map_some, xw_gR, xw_gN, xw_al, xw_ck, xw_uI, xw_ur, xup_at, xur_at, if_true, if_false, reduceIte, and_true, true_and, and_false, false_and, not_true_eq_false, not_false_eq_true, Nat.reduceEqDiff, eq_self, Nat.reduceAdd, Nat.reduceMul, kC1, kG1, kP1, kR1_0, kR1_1, kR1_2, kR1_3, kR1_4, kR1_5, kR1_6, kR1_7, kR1_8, kR1_9, kR1_10, kR1_11, kR1_12, kR1_13, kC2, kG2, kP2, kR2_0, kR2_1, kC3, kG3, kP3, kR3_0, kR3_1, kR3_2, kR3_3, kL4, kA4, kS4, kL5, kA5, kS5, kL6, kA6, kS6, kL7, kA7, kS7, kC8, kG8, kP8, kR8_0, kR8_1, kL9, kA9, kS9, kL10, kA10, kS10, kC11, kG11, kP11, kR11_0, kR11_1, kR11_2, kR11_3, kL12, kA12, kS12, kL13, kA13, kS13, kL14, kA14, kS14, kL15, kA15, kS15, kC16, kG16, kP16, kR16_0, kR16_1, kL17, kA17, kS17, kL18, kA18, kS18, kC19, kG19, kP19, kR19_0, kL20, kL141, kL146, kA146, kS146, kL151, kA151, kS151, kL156, kA156, kS156, kC157, kG157, kP157, kR157_0, kR157_1, kL158, kA158, kS158, kL159, kA159, kS159, kC161, kG161, kP161, kR161_0, kR161_1, kL162, kA162, kS162, kL163, kA163, kS163, kC165, kG165, kP165, kR165_0, kR165_1, kR165_2, kR165_3, kL166, kA166, kS166, kL167, kA167, kS167, kL168, kA168, kS168, kL169, kA169, kS169, kC170, kG170, kP170, kR170_0, kR170_1, kR170_2, kL171, kA171, kS171, kL172, kA172, kS172, kL173, kA173, kS173, kC174, kG174, kP174, kR174_0, kR174_1, kR174_2, kR174_3, kR174_4, kL175, kA175, kS175, kL176, kA176, kS176, kL177, kA177, kS177, kL178, kA178, kS178, kL179, kC180, kG180, kP180, kL181, kL182, kA182, kS182, kC183, kG183, kP183, kR183_1, kR183_3, kR183_5, kR183_6, kR183_7, kR183_8, kR183_9, kR183_21, kR183_26, kR183_27, kR183_30, kR183_31, kR183_33, kR183_34, kR183_36, kR183_37, kR183_38, kR183_39, kR183_40, kR183_41, kR183_42, kR183_43, kR183_44, kL184, kA184, kS184, kL185, kA185, kS185, kL186, kA186, kS186, kL187, kA187, kS187, kL188, kA188, kS188, kL189, kL190, kL191, kA191, kS191, kL192, kA192, kS192, kL193, kA193, kS193, kL194, kA194, kS194, kL195, kA195, kS195, kL196, kA196, kS196, kL197, kA197, kS197, kL198, kA198, kS198, kL199, kA199, kS199, kL200, kA200, kS200, kL201, kL202, kA202, kS202, kL203, kA203, kS203, kL204, kA204, kS204, kL205, kL206, kA206, kS206, hasLevel_ok hS hL, hl, one0, energyOf_ok hS hL hk hp, alike_ok hS hG1 ho hEn hE hSR hk hi hj, waysOf_ok hS hL hk, hab3, p1]
          rfl
        · unfold f_X12_pair
          rw [xck_ok (sT183 hS), Option.bind_some, e2, Option.bind_some]
          simp (disch := first | assumption | omega) only [Option.bind_some, Option.map_some, xw_gR, xw_gN, xw_al, xw_ck, xw_uI, xw_ur, xup_at, xur_at, if_true, if_false, reduceIte, and_true, true_and, and_false, false_and, not_true_eq_false, not_false_eq_true, Nat.reduceEqDiff, eq_self, Nat.reduceAdd, Nat.reduceMul, kC1, kG1, kP1, kR1_0, kR1_1, kR1_2, kR1_3, kR1_4, kR1_5, kR1_6, kR1_7, kR1_8, kR1_9, kR1_10, kR1_11, kR1_12, kR1_13, kC2, kG2, kP2, kR2_0, kR2_1, kC3, kG3, kP3, kR3_0, kR3_1, kR3_2, kR3_3, kL4, kA4, kS4, kL5, kA5, kS5, kL6, kA6, kS6, kL7, kA7, kS7, kC8, kG8, kP8, kR8_0, kR8_1, kL9, kA9, kS9, kL10, kA10, kS10, kC11, kG11, kP11, kR11_0, kR11_1, kR11_2, kR11_3, kL12, kA12, kS12, kL13, kA13, kS13, kL14, kA14, kS14, kL15, kA15, kS15, kC16, kG16, kP16, kR16_0, kR16_1, kL17, kA17, kS17, kL18, kA18, kS18, kC19, kG19, kP19, kR19_0, kL20, kL141, kL146, kA146, kS146, kL151, kA151, kS151, kL156, kA156, kS156, kC157, kG157, kP157, kR157_0, kR157_1, kL158, kA158, kS158, kL159, kA159, kS159, kC161, kG161, kP161, kR161_0, kR161_1, kL162, kA162, kS162, kL163, kA163, kS163, kC165, kG165, kP165, kR165_0, kR165_1, kR165_2, kR165_3, kL166, kA166, kS166, kL167, kA167, kS167, kL168, kA168, kS168, kL169, kA169, kS169, kC170, kG170, kP170, kR170_0, kR170_1, kR170_2, kL171, kA171, kS171, kL172, kA172, kS172, kL173, kA173, kS173, kC174, kG174, kP174, kR174_0, kR174_1, kR174_2, kR174_3, kR174_4, kL175, kA175, kS175, kL176, kA176, kS176, kL177, kA177, kS177, kL178, kA178, kS178, kL179, kC180, kG180, kP180, kL181, kL182, kA182, kS182, kC183, kG183, kP183, kR183_1, kR183_3, kR183_5, kR183_6, kR183_7, kR183_8, kR183_9, kR183_21, kR183_26, kR183_27, kR183_30, kR183_31, kR183_33, kR183_34, kR183_36, kR183_37, kR183_38, kR183_39, kR183_40, kR183_41, kR183_42, kR183_43, kR183_44, kL184, kA184, kS184, kL185, kA185, kS185, kL186, kA186, kS186, kL187, kA187, kS187, kL188, kA188, kS188, kL189, kL190, kL191, kA191, kS191, kL192, kA192, kS192, kL193, kA193, kS193, kL194, kA194, kS194, kL195, kA195, kS195, kL196, kA196, kS196, kL197, kA197, kS197, kL198, kA198, kS198, kL199, kA199, kS199, kL200, kA200, kS200, kL201, kL202, kA202, kS202, kL203, kA203, kS203, kL204, kA204, kS204, kL205, kL206, kA206, kS206, isSite_ok hS hG2, hx1, hy1, hK.2.2.1, isL_in, hl, one0, in_01]
          by_cases hv : v = 0 ∨ v = 1
          · rw [if_pos hv, if_neg (by decide), if_pos hv, pair12 hS hG2 ho hK hk hp hi hj p2]
          · rw [if_neg hv, if_pos rfl, if_neg hv]
      · refine ⟨-100000, τ, xw τ I', ?_, ?_, INV_i H2.nop⟩
        · rw [A]
          unfold f_X11_pair_j26
          simp (disch := first | assumption | omega) only [Option.bind_some, Option.map_some, xw_gR, xw_gN, xw_al, xw_ck, xw_uI, xw_ur, xup_at, xur_at, if_true, if_false, reduceIte, and_true, true_and, and_false, false_and, not_true_eq_false, not_false_eq_true, Nat.reduceEqDiff, eq_self, Nat.reduceAdd, Nat.reduceMul, kC1, kG1, kP1, kR1_0, kR1_1, kR1_2, kR1_3, kR1_4, kR1_5, kR1_6, kR1_7, kR1_8, kR1_9, kR1_10, kR1_11, kR1_12, kR1_13, kC2, kG2, kP2, kR2_0, kR2_1, kC3, kG3, kP3, kR3_0, kR3_1, kR3_2, kR3_3, kL4, kA4, kS4, kL5, kA5, kS5, kL6, kA6, kS6, kL7, kA7, kS7, kC8, kG8, kP8, kR8_0, kR8_1, kL9, kA9, kS9, kL10, kA10, kS10, kC11, kG11, kP11, kR11_0, kR11_1, kR11_2, kR11_3, kL12, kA12, kS12, kL13, kA13, kS13, kL14, kA14, kS14, kL15, kA15, kS15, kC16, kG16, kP16, kR16_0, kR16_1, kL17, kA17, kS17, kL18, kA18, kS18, kC19, kG19, kP19, kR19_0, kL20, kL141, kL146, kA146, kS146, kL151, kA151, kS151, kL156, kA156, kS156, kC157, kG157, kP157, kR157_0, kR157_1, kL158, kA158, kS158, kL159, kA159, kS159, kC161, kG161, kP161, kR161_0, kR161_1, kL162, kA162, kS162, kL163, kA163, kS163, kC165, kG165, kP165, kR165_0, kR165_1, kR165_2, kR165_3, kL166, kA166, kS166, kL167, kA167, kS167, kL168, kA168, kS168, kL169, kA169, kS169, kC170, kG170, kP170, kR170_0, kR170_1, kR170_2, kL171, kA171, kS171, kL172, kA172, kS172, kL173, kA173, kS173, kC174, kG174, kP174, kR174_0, kR174_1, kR174_2, kR174_3, kR174_4, kL175, kA175, kS175, kL176, kA176, kS176, kL177, kA177, kS177, kL178, kA178, kS178, kL179, kC180, kG180, kP180, kL181, kL182, kA182, kS182, kC183, kG183, kP183, kR183_1, kR183_3, kR183_5, kR183_6, kR183_7, kR183_8, kR183_9, kR183_21, kR183_26, kR183_27, kR183_30, kR183_31, kR183_33, kR183_34, kR183_36, kR183_37, kR183_38, kR183_39, kR183_40, kR183_41, kR183_42, kR183_43, kR183_44, kL184, kA184, kS184, kL185, kA185, kS185, kL186, kA186, kS186, kL187, kA187, kS187, kL188, kA188, kS188, kL189, kL190, kL191, kA191, kS191, kL192, kA192, kS192, kL193, kA193, kS193, kL194, kA194, kS194, kL195, kA195, kS195, kL196, kA196, kS196, kL197, kA197, kS197, kL198, kA198, kS198, kL199, kA199, kS199, kL200, kA200, kS200, kL201, kL202, kA202, kS202, kL203, kA203, kS203, kL204, kA204, kS204, kL205, kL206, kA206, kS206, hasLevel_ok hS hL, hl]
          rfl
        · unfold f_X12_pair
          rw [xck_ok (sT183 hS), Option.bind_some, e2, Option.bind_some]
          simp (disch := first | assumption | omega) only [Option.bind_some, Option.map_some, xw_gR, xw_gN, xw_al, xw_ck, xw_uI, xw_ur, xup_at, xur_at, if_true, if_false, reduceIte, and_true, true_and, and_false, false_and, not_true_eq_false, not_false_eq_true, Nat.reduceEqDiff, eq_self, Nat.reduceAdd, Nat.reduceMul, kC1, kG1, kP1, kR1_0, kR1_1, kR1_2, kR1_3, kR1_4, kR1_5, kR1_6, kR1_7, kR1_8, kR1_9, kR1_10, kR1_11, kR1_12, kR1_13, kC2, kG2, kP2, kR2_0, kR2_1, kC3, kG3, kP3, kR3_0, kR3_1, kR3_2, kR3_3, kL4, kA4, kS4, kL5, kA5, kS5, kL6, kA6, kS6, kL7, kA7, kS7, kC8, kG8, kP8, kR8_0, kR8_1, kL9, kA9, kS9, kL10, kA10, kS10, kC11, kG11, kP11, kR11_0, kR11_1, kR11_2, kR11_3, kL12, kA12, kS12, kL13, kA13, kS13, kL14, kA14, kS14, kL15, kA15, kS15, kC16, kG16, kP16, kR16_0, kR16_1, kL17, kA17, kS17, kL18, kA18, kS18, kC19, kG19, kP19, kR19_0, kL20, kL141, kL146, kA146, kS146, kL151, kA151, kS151, kL156, kA156, kS156, kC157, kG157, kP157, kR157_0, kR157_1, kL158, kA158, kS158, kL159, kA159, kS159, kC161, kG161, kP161, kR161_0, kR161_1, kL162, kA162, kS162, kL163, kA163, kS163, kC165, kG165, kP165, kR165_0, kR165_1, kR165_2, kR165_3, kL166, kA166, kS166, kL167, kA167, kS167, kL168, kA168, kS168, kL169, kA169, kS169, kC170, kG170, kP170, kR170_0, kR170_1, kR170_2, kL171, kA171, kS171, kL172, kA172, kS172, kL173, kA173, kS173, kC174, kG174, kP174, kR174_0, kR174_1, kR174_2, kR174_3, kR174_4, kL175, kA175, kS175, kL176, kA176, kS176, kL177, kA177, kS177, kL178, kA178, kS178, kL179, kC180, kG180, kP180, kL181, kL182, kA182, kS182, kC183, kG183, kP183, kR183_1, kR183_3, kR183_5, kR183_6, kR183_7, kR183_8, kR183_9, kR183_21, kR183_26, kR183_27, kR183_30, kR183_31, kR183_33, kR183_34, kR183_36, kR183_37, kR183_38, kR183_39, kR183_40, kR183_41, kR183_42, kR183_43, kR183_44, kL184, kA184, kS184, kL185, kA185, kS185, kL186, kA186, kS186, kL187, kA187, kS187, kL188, kA188, kS188, kL189, kL190, kL191, kA191, kS191, kL192, kA192, kS192, kL193, kA193, kS193, kL194, kA194, kS194, kL195, kA195, kS195, kL196, kA196, kS196, kL197, kA197, kS197, kL198, kA198, kS198, kL199, kA199, kS199, kL200, kA200, kS200, kL201, kL202, kA202, kS202, kL203, kA203, kS203, kL204, kA204, kS204, kL205, kL206, kA206, kS206, isSite_ok hS hG2, hx1, hy1, hK.2.2.1, isL_in, hl, one0]
          rfl
    · obtain ⟨I', e2, H2, K2, u2⟩ := knows_ok H
      refine ⟨-100000, σ, xw σ I', ?_, ?_, INV_i H2.nop⟩
      · show f_X11_pair (xw σ (xI σ)) 1 x y z v = _
        unfold f_X11_pair
        simp (disch := first | assumption | omega) only [Option.bind_some, Option.map_some, xw_gR, xw_gN, xw_al, xw_ck, xw_uI, xw_ur, xup_at, xur_at, if_true, if_false, reduceIte, and_true, true_and, and_false, false_and, not_true_eq_false, not_false_eq_true, Nat.reduceEqDiff, eq_self, Nat.reduceAdd, Nat.reduceMul, kC1, kG1, kP1, kR1_0, kR1_1, kR1_2, kR1_3, kR1_4, kR1_5, kR1_6, kR1_7, kR1_8, kR1_9, kR1_10, kR1_11, kR1_12, kR1_13, kC2, kG2, kP2, kR2_0, kR2_1, kC3, kG3, kP3, kR3_0, kR3_1, kR3_2, kR3_3, kL4, kA4, kS4, kL5, kA5, kS5, kL6, kA6, kS6, kL7, kA7, kS7, kC8, kG8, kP8, kR8_0, kR8_1, kL9, kA9, kS9, kL10, kA10, kS10, kC11, kG11, kP11, kR11_0, kR11_1, kR11_2, kR11_3, kL12, kA12, kS12, kL13, kA13, kS13, kL14, kA14, kS14, kL15, kA15, kS15, kC16, kG16, kP16, kR16_0, kR16_1, kL17, kA17, kS17, kL18, kA18, kS18, kC19, kG19, kP19, kR19_0, kL20, kL141, kL146, kA146, kS146, kL151, kA151, kS151, kL156, kA156, kS156, kC157, kG157, kP157, kR157_0, kR157_1, kL158, kA158, kS158, kL159, kA159, kS159, kC161, kG161, kP161, kR161_0, kR161_1, kL162, kA162, kS162, kL163, kA163, kS163, kC165, kG165, kP165, kR165_0, kR165_1, kR165_2, kR165_3, kL166, kA166, kS166, kL167, kA167, kS167, kL168, kA168, kS168, kL169, kA169, kS169, kC170, kG170, kP170, kR170_0, kR170_1, kR170_2, kL171, kA171, kS171, kL172, kA172, kS172, kL173, kA173, kS173, kC174, kG174, kP174, kR174_0, kR174_1, kR174_2, kR174_3, kR174_4, kL175, kA175, kS175, kL176, kA176, kS176, kL177, kA177, kS177, kL178, kA178, kS178, kL179, kC180, kG180, kP180, kL181, kL182, kA182, kS182, kC183, kG183, kP183, kR183_1, kR183_3, kR183_5, kR183_6, kR183_7, kR183_8, kR183_9, kR183_21, kR183_26, kR183_27, kR183_30, kR183_31, kR183_33, kR183_34, kR183_36, kR183_37, kR183_38, kR183_39, kR183_40, kR183_41, kR183_42, kR183_43, kR183_44, kL184, kA184, kS184, kL185, kA185, kS185, kL186, kA186, kS186, kL187, kA187, kS187, kL188, kA188, kS188, kL189, kL190, kL191, kA191, kS191, kL192, kA192, kS192, kL193, kA193, kS193, kL194, kA194, kS194, kL195, kA195, kS195, kL196, kA196, kS196, kL197, kA197, kS197, kL198, kA198, kS198, kL199, kA199, kS199, kL200, kA200, kS200, kL201, kL202, kA202, kS202, kL203, kA203, kS203, kL204, kA204, kS204, kL205, kL206, kA206, kS206, hasSite_ok hS0 hG0, hx1, hy1, one0]
        rfl
      · unfold f_X12_pair
        rw [xck_ok (sT183 hS0), Option.bind_some, e2, Option.bind_some]
        simp (disch := first | assumption | omega) only [Option.bind_some, Option.map_some, xw_gR, xw_gN, xw_al, xw_ck, xw_uI, xw_ur, xup_at, xur_at, if_true, if_false, reduceIte, and_true, true_and, and_false, false_and, not_true_eq_false, not_false_eq_true, Nat.reduceEqDiff, eq_self, Nat.reduceAdd, Nat.reduceMul, kC1, kG1, kP1, kR1_0, kR1_1, kR1_2, kR1_3, kR1_4, kR1_5, kR1_6, kR1_7, kR1_8, kR1_9, kR1_10, kR1_11, kR1_12, kR1_13, kC2, kG2, kP2, kR2_0, kR2_1, kC3, kG3, kP3, kR3_0, kR3_1, kR3_2, kR3_3, kL4, kA4, kS4, kL5, kA5, kS5, kL6, kA6, kS6, kL7, kA7, kS7, kC8, kG8, kP8, kR8_0, kR8_1, kL9, kA9, kS9, kL10, kA10, kS10, kC11, kG11, kP11, kR11_0, kR11_1, kR11_2, kR11_3, kL12, kA12, kS12, kL13, kA13, kS13, kL14, kA14, kS14, kL15, kA15, kS15, kC16, kG16, kP16, kR16_0, kR16_1, kL17, kA17, kS17, kL18, kA18, kS18, kC19, kG19, kP19, kR19_0, kL20, kL141, kL146, kA146, kS146, kL151, kA151, kS151, kL156, kA156, kS156, kC157, kG157, kP157, kR157_0, kR157_1, kL158, kA158, kS158, kL159, kA159, kS159, kC161, kG161, kP161, kR161_0, kR161_1, kL162, kA162, kS162, kL163, kA163, kS163, kC165, kG165, kP165, kR165_0, kR165_1, kR165_2, kR165_3, kL166, kA166, kS166, kL167, kA167, kS167, kL168, kA168, kS168, kL169, kA169, kS169, kC170, kG170, kP170, kR170_0, kR170_1, kR170_2, kL171, kA171, kS171, kL172, kA172, kS172, kL173, kA173, kS173, kC174, kG174, kP174, kR174_0, kR174_1, kR174_2, kR174_3, kR174_4, kL175, kA175, kS175, kL176, kA176, kS176, kL177, kA177, kS177, kL178, kA178, kS178, kL179, kC180, kG180, kP180, kL181, kL182, kA182, kS182, kC183, kG183, kP183, kR183_1, kR183_3, kR183_5, kR183_6, kR183_7, kR183_8, kR183_9, kR183_21, kR183_26, kR183_27, kR183_30, kR183_31, kR183_33, kR183_34, kR183_36, kR183_37, kR183_38, kR183_39, kR183_40, kR183_41, kR183_42, kR183_43, kR183_44, kL184, kA184, kS184, kL185, kA185, kS185, kL186, kA186, kS186, kL187, kA187, kS187, kL188, kA188, kS188, kL189, kL190, kL191, kA191, kS191, kL192, kA192, kS192, kL193, kA193, kS193, kL194, kA194, kS194, kL195, kA195, kS195, kL196, kA196, kS196, kL197, kA197, kS197, kL198, kA198, kS198, kL199, kA199, kS199, kL200, kA200, kS200, kL201, kL202, kA202, kS202, kL203, kA203, kS203, kL204, kA204, kS204, kL205, kL206, kA206, kS206, isSite_ok hS0 (show GRD I' g from H2.grd), hx1, hy1, one0]
        rfl
  · obtain ⟨I', e2, H2, K2, u2⟩ := knows_ok H
    refine ⟨-100000, σ, xw σ I', ?_, ?_, INV_i H2.nop⟩
    · show f_X11_pair (xw σ (xI σ)) 1 x y z v = _
      unfold f_X11_pair
      simp (disch := first | assumption | omega) only [Option.bind_some, Option.map_some, xw_gR, xw_gN, xw_al, xw_ck, xw_uI, xw_ur, xup_at, xur_at, if_true, if_false, reduceIte, and_true, true_and, and_false, false_and, not_true_eq_false, not_false_eq_true, Nat.reduceEqDiff, eq_self, Nat.reduceAdd, Nat.reduceMul, kC1, kG1, kP1, kR1_0, kR1_1, kR1_2, kR1_3, kR1_4, kR1_5, kR1_6, kR1_7, kR1_8, kR1_9, kR1_10, kR1_11, kR1_12, kR1_13, kC2, kG2, kP2, kR2_0, kR2_1, kC3, kG3, kP3, kR3_0, kR3_1, kR3_2, kR3_3, kL4, kA4, kS4, kL5, kA5, kS5, kL6, kA6, kS6, kL7, kA7, kS7, kC8, kG8, kP8, kR8_0, kR8_1, kL9, kA9, kS9, kL10, kA10, kS10, kC11, kG11, kP11, kR11_0, kR11_1, kR11_2, kR11_3, kL12, kA12, kS12, kL13, kA13, kS13, kL14, kA14, kS14, kL15, kA15, kS15, kC16, kG16, kP16, kR16_0, kR16_1, kL17, kA17, kS17, kL18, kA18, kS18, kC19, kG19, kP19, kR19_0, kL20, kL141, kL146, kA146, kS146, kL151, kA151, kS151, kL156, kA156, kS156, kC157, kG157, kP157, kR157_0, kR157_1, kL158, kA158, kS158, kL159, kA159, kS159, kC161, kG161, kP161, kR161_0, kR161_1, kL162, kA162, kS162, kL163, kA163, kS163, kC165, kG165, kP165, kR165_0, kR165_1, kR165_2, kR165_3, kL166, kA166, kS166, kL167, kA167, kS167, kL168, kA168, kS168, kL169, kA169, kS169, kC170, kG170, kP170, kR170_0, kR170_1, kR170_2, kL171, kA171, kS171, kL172, kA172, kS172, kL173, kA173, kS173, kC174, kG174, kP174, kR174_0, kR174_1, kR174_2, kR174_3, kR174_4, kL175, kA175, kS175, kL176, kA176, kS176, kL177, kA177, kS177, kL178, kA178, kS178, kL179, kC180, kG180, kP180, kL181, kL182, kA182, kS182, kC183, kG183, kP183, kR183_1, kR183_3, kR183_5, kR183_6, kR183_7, kR183_8, kR183_9, kR183_21, kR183_26, kR183_27, kR183_30, kR183_31, kR183_33, kR183_34, kR183_36, kR183_37, kR183_38, kR183_39, kR183_40, kR183_41, kR183_42, kR183_43, kR183_44, kL184, kA184, kS184, kL185, kA185, kS185, kL186, kA186, kS186, kL187, kA187, kS187, kL188, kA188, kS188, kL189, kL190, kL191, kA191, kS191, kL192, kA192, kS192, kL193, kA193, kS193, kL194, kA194, kS194, kL195, kA195, kS195, kL196, kA196, kS196, kL197, kA197, kS197, kL198, kA198, kS198, kL199, kA199, kS199, kL200, kA200, kS200, kL201, kL202, kA202, kS202, kL203, kA203, kS203, kL204, kA204, kS204, kL205, kL206, kA206, kS206, hasSite_ok hS0 hG0, hx1, one0]
      rfl
    · unfold f_X12_pair
      rw [xck_ok (sT183 hS0), Option.bind_some, e2, Option.bind_some]
      simp (disch := first | assumption | omega) only [Option.bind_some, Option.map_some, xw_gR, xw_gN, xw_al, xw_ck, xw_uI, xw_ur, xup_at, xur_at, if_true, if_false, reduceIte, and_true, true_and, and_false, false_and, not_true_eq_false, not_false_eq_true, Nat.reduceEqDiff, eq_self, Nat.reduceAdd, Nat.reduceMul, kC1, kG1, kP1, kR1_0, kR1_1, kR1_2, kR1_3, kR1_4, kR1_5, kR1_6, kR1_7, kR1_8, kR1_9, kR1_10, kR1_11, kR1_12, kR1_13, kC2, kG2, kP2, kR2_0, kR2_1, kC3, kG3, kP3, kR3_0, kR3_1, kR3_2, kR3_3, kL4, kA4, kS4, kL5, kA5, kS5, kL6, kA6, kS6, kL7, kA7, kS7, kC8, kG8, kP8, kR8_0, kR8_1, kL9, kA9, kS9, kL10, kA10, kS10, kC11, kG11, kP11, kR11_0, kR11_1, kR11_2, kR11_3, kL12, kA12, kS12, kL13, kA13, kS13, kL14, kA14, kS14, kL15, kA15, kS15, kC16, kG16, kP16, kR16_0, kR16_1, kL17, kA17, kS17, kL18, kA18, kS18, kC19, kG19, kP19, kR19_0, kL20, kL141, kL146, kA146, kS146, kL151, kA151, kS151, kL156, kA156, kS156, kC157, kG157, kP157, kR157_0, kR157_1, kL158, kA158, kS158, kL159, kA159, kS159, kC161, kG161, kP161, kR161_0, kR161_1, kL162, kA162, kS162, kL163, kA163, kS163, kC165, kG165, kP165, kR165_0, kR165_1, kR165_2, kR165_3, kL166, kA166, kS166, kL167, kA167, kS167, kL168, kA168, kS168, kL169, kA169, kS169, kC170, kG170, kP170, kR170_0, kR170_1, kR170_2, kL171, kA171, kS171, kL172, kA172, kS172, kL173, kA173, kS173, kC174, kG174, kP174, kR174_0, kR174_1, kR174_2, kR174_3, kR174_4, kL175, kA175, kS175, kL176, kA176, kS176, kL177, kA177, kS177, kL178, kA178, kS178, kL179, kC180, kG180, kP180, kL181, kL182, kA182, kS182, kC183, kG183, kP183, kR183_1, kR183_3, kR183_5, kR183_6, kR183_7, kR183_8, kR183_9, kR183_21, kR183_26, kR183_27, kR183_30, kR183_31, kR183_33, kR183_34, kR183_36, kR183_37, kR183_38, kR183_39, kR183_40, kR183_41, kR183_42, kR183_43, kR183_44, kL184, kA184, kS184, kL185, kA185, kS185, kL186, kA186, kS186, kL187, kA187, kS187, kL188, kA188, kS188, kL189, kL190, kL191, kA191, kS191, kL192, kA192, kS192, kL193, kA193, kS193, kL194, kA194, kS194, kL195, kA195, kS195, kL196, kA196, kS196, kL197, kA197, kS197, kL198, kA198, kS198, kL199, kA199, kS199, kL200, kA200, kS200, kL201, kL202, kA202, kS202, kL203, kA203, kS203, kL204, kA204, kS204, kL205, kL206, kA206, kS206, isSite_ok hS0 (show GRD I' g from H2.grd), hx1, one0]
      rfl
end
section
/-! value -/
def vW (x : Nat) : Nat → Nat
  | 0 => 1
  | j + 1 => vW x j * x % 1000003
def vS (g : GD) (F : Nat → Int32) (x k0 : Nat) : Nat → Nat
  | 0 => 0
  | j + 1 => (vS g F x k0 j + lC g F (((k0 + j : Nat) : Int) - 144) * vW x j) % 1000003
theorem vW_b (x : Nat) : ∀ j, vW x j < 1000003
  | 0 => by show 1 < 1000003; decide
  | j + 1 => Nat.mod_lt _ (by decide)
theorem vS_b (g : GD) (F : Nat → Int32) (x k0 : Nat) : ∀ j, vS g F x k0 j < 1000003
  | 0 => by show 0 < 1000003; decide
  | j + 1 => Nat.mod_lt _ (by decide)
theorem vS_no {g : GD} {F : Nat → Int32} {x k0 j : Nat} (h : lvP g F (k0 + j) = false) : vS g F x k0 (j + 1) = vS g F x k0 j := by
  have : lC g F (((k0 + j : Nat) : Int) - 144) = 0 := by
    unfold lvP at h
    rw [decide_eq_false_iff_not] at h
    omega
  rw [vS, this, Nat.zero_mul, Nat.add_zero, Nat.mod_eq_of_lt (vS_b g F x k0 j)]
theorem vS_end {g : GD} {F : Nat → Int32} {x k0 j : Nat} (h : fb_ct (lvP g F) (k0 + j) = lvN g F) : ∀ m, k0 + j + m ≤ 289 → vS g F x k0 (j + m) = vS g F x k0 j := by
  intro m
  induction m with
  | zero => intro _; rfl
  | succ m ih =>
    intro hm
    rw [← ih (by omega)]
    apply vS_no
    cases hq : lvP g F (k0 + (j + m)) with
    | false => rfl
    | true =>
      have h1 := lvl_lt (g := g) (F := F) (k := k0 + (j + m)) (by omega) hq
      have h2 := fb_ct_mono (lvP g F) (show k0 + j ≤ k0 + (j + m) by omega)
      omega
section VAL
variable {σ : XS} {J : Nat → Nat → Int32} {g : GD} {F : Nat → Int32}
theorem mul_b {a b : Nat} (ha : a ≤ 65536) (hb : b < 1000003) : a * b ≤ 65536 * 1000003 := Nat.mul_le_mul ha (by omega)
theorem value11 (hS : Shp σ) (hg : g ∈ gAll) (hL : LVK J g F) {x k0 : Nat} (hx : x < 1000003) (hk : k0 < 289) : xloop (f_X11_value_b39 (xw σ J) (nI x) 165) ((0 : Int64), (1 : Int64), iI ((k0 : Int) - 144)) = some (nI (vS g F x k0 (289 - k0)), xw σ J) := by
  refine xforE (fun j : Nat => (lN (vS g F x k0 j), lN (vW x j), iI (((k0 + j : Nat) : Int) - 144))) (289 - k0) rfl (fun j hj => ?_) ?_
  · simp only [f_X11_value_b39]
    have hC := lC_b hg F (((k0 + j : Nat) : Int) - 144)
    have h1 := vS_b g F x k0 j
    have h2 := vW_b x j
    have h3 := mul_b hC h2
    have h4 : vW x j * x ≤ 1000003 * 1000003 := Nat.mul_le_mul (by omega) (by omega)
    rw [if_neg (by rw [show (144 : Int32) = iI 144 from rfl, iI_lt (by omega) (by omega) (by omega) (by omega)]; omega)]
    simp (disch := first | assumption | omega) only [Option.bind_some, Option.map_some, xw_gR, xw_gN, xw_al, xw_ck, xw_uI, xw_ur, xup_at, xur_at, if_true, if_false, reduceIte, and_true, true_and, and_false, false_and, not_true_eq_false, not_false_eq_true, Nat.reduceEqDiff, eq_self, Nat.reduceAdd, Nat.reduceMul, kC1, kG1, kP1, kR1_0, kR1_1, kR1_2, kR1_3, kR1_4, kR1_5, kR1_6, kR1_7, kR1_8, kR1_9, kR1_10, kR1_11, kR1_12, kR1_13, kC2, kG2, kP2, kR2_0, kR2_1, kC3, kG3, kP3, kR3_0, kR3_1, kR3_2, kR3_3, kL4, kA4, kS4, kL5, kA5, kS5, kL6, kA6, kS6, kL7, kA7, kS7, kC8, kG8, kP8, kR8_0, kR8_1, kL9, kA9, kS9, kL10, kA10, kS10, kC11, kG11, kP11, kR11_0, kR11_1, kR11_2, kR11_3, kL12, kA12, kS12, kL13, kA13, kS13, kL14, kA14, kS14, kL15, kA15, kS15, kC16, kG16, kP16, kR16_0, kR16_1, kL17, kA17, kS17, kL18, kA18, kS18, kC19, kG19, kP19, kR19_0, kL20, kL141, kL146, kA146, kS146, kL151, kA151, kS151, kL156, kA156, kS156, kC157, kG157, kP157, kR157_0, kR157_1, kL158, kA158, kS158, kL159, kA159, kS159, kC161, kG161, kP161, kR161_0, kR161_1, kL162, kA162, kS162, kL163, kA163, kS163, kC165, kG165, kP165, kR165_0, kR165_1, kR165_2, kR165_3, kL166, kA166, kS166, kL167, kA167, kS167, kL168, kA168, kS168, kL169, kA169, kS169, kC170, kG170, kP170, kR170_0, kR170_1, kR170_2, kL171, kA171, kS171, kL172, kA172, kS172, kL173, kA173, kS173, kC174, kG174, kP174, kR174_0, kR174_1, kR174_2, kR174_3, kR174_4, kL175, kA175, kS175, kL176, kA176, kS176, kL177, kA177, kS177, kL178, kA178, kS178, kL179, kC180, kG180, kP180, kL181, kL182, kA182, kS182, kC183, kG183, kP183, kR183_1, kR183_3, kR183_5, kR183_6, kR183_7, kR183_8, kR183_9, kR183_21, kR183_26, kR183_27, kR183_30, kR183_31, kR183_33, kR183_34, kR183_36, kR183_37, kR183_38, kR183_39, kR183_40, kR183_41, kR183_42, kR183_43, kR183_44, kL184, kA184, kS184, kL185, kA185, kS185, kL186, kA186, kS186, kL187, kA187, kS187, kL188, kA188, kS188, kL189, kL190, kL191, kA191, kS191, kL192, kA192, kS192, kL193, kA193, kS193, kL194, kA194, kS194, kL195, kA195, kS195, kL196, kA196, kS196, kL197, kA197, kS197, kL198, kA198, kS198, kL199, kA199, kS199, kL200, kA200, kS200, kL201, kL202, kA202, kS202, kL203, kA203, kS203, kL204, kA204, kS204, kL205, kL206, kA206, kS206, waysOf_ok hS hL (show k0 + j < 289 by omega), nI_i64]
    rw [vL_mul (by omega) (by omega) (by omega), vL_add (by omega), show (1000003 : Int64) = lN 1000003 from rfl, vL_rem (by omega) (by omega), vL_mul (by omega) (by omega) (by omega), vL_rem (by omega) (by omega), show (1 : Int32) = iI 1 from rfl, iI_add]
    show _ = some (Sum.inl (lN (vS g F x k0 (j + 1)), lN (vW x (j + 1)), iI (((k0 + (j + 1) : Nat) : Int) - 144)))
    rw [vS, vW]
    congr 5
    omega
  · simp only [f_X11_value_b39]
    have h1 := vS_b g F x k0 (289 - k0)
    rw [if_pos (by rw [show (144 : Int32) = iI 144 from rfl, iI_lt (by omega) (by omega) (by omega) (by omega)]; omega), vL_i32 (by omega)]
    rfl
theorem value12 (hS : Shp σ) (hg : g ∈ gAll) (hK : KNK J g F) {x k0 : Nat} (hx : x < 1000003) (hk : k0 < 289) (h0 : fb_ct (lvP g F) k0 = 0) : xloop (f_X12_value_b44 (xw σ J) 183 (nI x)) ((0 : Int64), (1 : Int64), (0 : Int32), iI ((k0 : Int) - 144)) = some (nI (vS g F x k0 (289 - k0)), xw σ J) := by
  have hlb := lvN_b g F
  obtain ⟨M, hM, hM1, hM2⟩ := fb_first (p := fun j => fb_ct (lvP g F) (k0 + j) = lvN g F) (n := 289 - k0 + 1) ⟨289 - k0, by omega, by rw [show k0 + (289 - k0) = 289 by omega]; rfl⟩
  have hend := vS_end (x := x) hM1 (289 - k0 - M) (by omega)
  rw [show M + (289 - k0 - M) = 289 - k0 by omega] at hend
  rw [hend]
  refine xforE (fun j : Nat => (lN (vS g F x k0 j), lN (vW x j), nI (fb_ct (lvP g F) (k0 + j)), iI (((k0 + j : Nat) : Int) - 144))) M ?_ (fun j hj => ?_) ?_
  · rw [show k0 + 0 = k0 from rfl, h0]; rfl
  · have hC := lC_b hg F (((k0 + j : Nat) : Int) - 144)
    have h1 := vS_b g F x k0 j
    have h2 := vW_b x j
    have h3 := mul_b hC h2
    have h4 : vW x j * x ≤ 1000003 * 1000003 := Nat.mul_le_mul (by omega) (by omega)
    have hlt : fb_ct (lvP g F) (k0 + j) < lvN g F := by
      have hne := hM2 j hj
      have := fb_ct_mono (lvP g F) (show k0 + j ≤ 289 by omega)
      have e : fb_ct (lvP g F) 289 = lvN g F := rfl
      omega
    obtain ⟨k', hk', hp', hki'⟩ := lvl_at hlt
    have q0 := hK.2.2.2 k' hk' hp'
    rw [hki'] at q0
    have hw : (lN (vW x j) * (nI x).toInt64) - (lN (vW x j) * (nI x).toInt64) / (1000003 : Int64) * (1000003 : Int64) = lN (vW x (j + 1)) := by
      rw [nI_i64 (by omega), vL_mul (by omega) (by omega) (by omega), show (1000003 : Int64) = lN 1000003 from rfl, vL_rem (by omega) (by omega), vW]
    have hnx : iI (((k0 + j : Nat) : Int) - 144) + (1 : Int32) = iI (((k0 + (j + 1) : Nat) : Int) - 144) := by
      rw [show (1 : Int32) = iI 1 from rfl, iI_add]; congr 1; omega
    have hcmp : (iI (((k0 + j : Nat) : Int) - 144) = iI ((k' : Int) - 144)) = (k0 + j = k') := by
      rw [iI_eq (by omega) (by omega) (by omega) (by omega)]
      apply propext; omega
    simp only [f_X12_value_b44]
    simp (disch := first | assumption | omega) only [Option.bind_some, Option.map_some, xw_gR, xw_gN, xw_al, xw_ck, xw_uI, xw_ur, xup_at, xur_at, if_true, if_false, reduceIte, and_true, true_and, and_false, false_and, not_true_eq_false, not_false_eq_true, Nat.reduceEqDiff, eq_self, Nat.reduceAdd, Nat.reduceMul, kC1, kG1, kP1, kR1_0, kR1_1, kR1_2, kR1_3, kR1_4, kR1_5, kR1_6, kR1_7, kR1_8, kR1_9, kR1_10, kR1_11, kR1_12, kR1_13, kC2, kG2, kP2, kR2_0, kR2_1, kC3, kG3, kP3, kR3_0, kR3_1, kR3_2, kR3_3, kL4, kA4, kS4, kL5, kA5, kS5, kL6, kA6, kS6, kL7, kA7, kS7, kC8, kG8, kP8, kR8_0, kR8_1, kL9, kA9, kS9, kL10, kA10, kS10, kC11, kG11, kP11, kR11_0, kR11_1, kR11_2, kR11_3, kL12, kA12, kS12, kL13, kA13, kS13, kL14, kA14, kS14, kL15, kA15, kS15, kC16, kG16, kP16, kR16_0, kR16_1, kL17, kA17, kS17, kL18, kA18, kS18, kC19, kG19, kP19, kR19_0, kL20, kL141, kL146, kA146, kS146, kL151, kA151, kS151, kL156, kA156, kS156, kC157, kG157, kP157, kR157_0, kR157_1, kL158, kA158, kS158, kL159, kA159, kS159, kC161, kG161, kP161, kR161_0, kR161_1, kL162, kA162, kS162, kL163, kA163, kS163, kC165, kG165, kP165, kR165_0, kR165_1, kR165_2, kR165_3, kL166, kA166, kS166, kL167, kA167, kS167, kL168, kA168, kS168, kL169, kA169, kS169, kC170, kG170, kP170, kR170_0, kR170_1, kR170_2, kL171, kA171, kS171, kL172, kA172, kS172, kL173, kA173, kS173, kC174, kG174, kP174, kR174_0, kR174_1, kR174_2, kR174_3, kR174_4, kL175, kA175, kS175, kL176, kA176, kS176, kL177, kA177, kS177, kL178, kA178, kS178, kL179, kC180, kG180, kP180, kL181, kL182, kA182, kS182, kC183, kG183, kP183, kR183_1, kR183_3, kR183_5, kR183_6, kR183_7, kR183_8, kR183_9, kR183_21, kR183_26, kR183_27, kR183_30, kR183_31, kR183_33, kR183_34, kR183_36, kR183_37, kR183_38, kR183_39, kR183_40, kR183_41, kR183_42, kR183_43, kR183_44, kL184, kA184, kS184, kL185, kA185, kS185, kL186, kA186, kS186, kL187, kA187, kS187, kL188, kA188, kS188, kL189, kL190, kL191, kA191, kS191, kL192, kA192, kS192, kL193, kA193, kS193, kL194, kA194, kS194, kL195, kA195, kS195, kL196, kA196, kS196, kL197, kA197, kS197, kL198, kA198, kS198, kL199, kA199, kS199, kL200, kA200, kS200, kL201, kL202, kA202, kS202, kL203, kA203, kS203, kL204, kA204, kS204, kL205, kL206, kA206, kS206, hK.2.2.1, nn_le, show ¬ (lvN g F ≤ fb_ct (lvP g F) (k0 + j)) by omega, q0, hcmp]
    by_cases hp : lvP g F (k0 + j) = true
    · have hkk : k0 + j = k' := fb_ct_kth_one hp hp' hki'.symm
      rw [if_pos hkk]
      have hm := many12 hK (show k0 + j < 289 by omega)
      simp (disch := first | assumption | omega) only [Option.bind_some, Option.map_some, xw_gR, xw_gN, xw_al, xw_ck, xw_uI, xw_ur, xup_at, xur_at, if_true, if_false, reduceIte, and_true, true_and, and_false, false_and, not_true_eq_false, not_false_eq_true, Nat.reduceEqDiff, eq_self, Nat.reduceAdd, Nat.reduceMul, kC1, kG1, kP1, kR1_0, kR1_1, kR1_2, kR1_3, kR1_4, kR1_5, kR1_6, kR1_7, kR1_8, kR1_9, kR1_10, kR1_11, kR1_12, kR1_13, kC2, kG2, kP2, kR2_0, kR2_1, kC3, kG3, kP3, kR3_0, kR3_1, kR3_2, kR3_3, kL4, kA4, kS4, kL5, kA5, kS5, kL6, kA6, kS6, kL7, kA7, kS7, kC8, kG8, kP8, kR8_0, kR8_1, kL9, kA9, kS9, kL10, kA10, kS10, kC11, kG11, kP11, kR11_0, kR11_1, kR11_2, kR11_3, kL12, kA12, kS12, kL13, kA13, kS13, kL14, kA14, kS14, kL15, kA15, kS15, kC16, kG16, kP16, kR16_0, kR16_1, kL17, kA17, kS17, kL18, kA18, kS18, kC19, kG19, kP19, kR19_0, kL20, kL141, kL146, kA146, kS146, kL151, kA151, kS151, kL156, kA156, kS156, kC157, kG157, kP157, kR157_0, kR157_1, kL158, kA158, kS158, kL159, kA159, kS159, kC161, kG161, kP161, kR161_0, kR161_1, kL162, kA162, kS162, kL163, kA163, kS163, kC165, kG165, kP165, kR165_0, kR165_1, kR165_2, kR165_3, kL166, kA166, kS166, kL167, kA167, kS167, kL168, kA168, kS168, kL169, kA169, kS169, kC170, kG170, kP170, kR170_0, kR170_1, kR170_2, kL171, kA171, kS171, kL172, kA172, kS172, kL173, kA173, kS173, kC174, kG174, kP174, kR174_0, kR174_1, kR174_2, kR174_3, kR174_4, kL175, kA175, kS175, kL176, kA176, kS176, kL177, kA177, kS177, kL178, kA178, kS178, kL179, kC180, kG180, kP180, kL181, kL182, kA182, kS182, kC183, kG183, kP183, kR183_1, kR183_3, kR183_5, kR183_6, kR183_7, kR183_8, kR183_9, kR183_21, kR183_26, kR183_27, kR183_30, kR183_31, kR183_33, kR183_34, kR183_36, kR183_37, kR183_38, kR183_39, kR183_40, kR183_41, kR183_42, kR183_43, kR183_44, kL184, kA184, kS184, kL185, kA185, kS185, kL186, kA186, kS186, kL187, kA187, kS187, kL188, kA188, kS188, kL189, kL190, kL191, kA191, kS191, kL192, kA192, kS192, kL193, kA193, kS193, kL194, kA194, kS194, kL195, kA195, kS195, kL196, kA196, kS196, kL197, kA197, kS197, kL198, kA198, kS198, kL199, kA199, kS199, kL200, kA200, kS200, kL201, kL202, kA202, kS202, kL203, kA203, kS203, kL204, kA204, kS204, kL205, kL206, kA206, kS206, e150, hm, nI_i64]
      unfold f_X12_value_j90
      rw [hw, hnx, vL_mul (by omega) (by omega) (by rw [Nat.mul_comm]; omega), vL_add (by rw [Nat.mul_comm]; omega), show (1000003 : Int64) = lN 1000003 from rfl, vL_rem (by rw [Nat.mul_comm]; omega) (by omega)]
      have e1 : vS g F x k0 (j + 1) = (vS g F x k0 j + vW x j * lC g F (((k0 + j : Nat) : Int) - 144)) % 1000003 := by rw [vS, Nat.mul_comm]
      have e2 : fb_ct (lvP g F) (k0 + (j + 1)) = fb_ct (lvP g F) (k0 + j) + 1 := by
        show fb_ct (lvP g F) (k0 + j + 1) = _
        rw [fb_ct_succ, hp]; rfl
      rw [e1, e2, nI_succ]
    · have hp : lvP g F (k0 + j) = false := Bool.not_eq_true _ ▸ hp
      have hkk : ¬ (k0 + j = k') := fun z => by rw [z, hp'] at hp; cases hp
      rw [if_neg hkk]
      unfold f_X12_value_j90
      have e2 : fb_ct (lvP g F) (k0 + (j + 1)) = fb_ct (lvP g F) (k0 + j) := by
        show fb_ct (lvP g F) (k0 + j + 1) = _
        rw [fb_ct_succ, hp]; rfl
      rw [hw, hnx, vS_no hp, e2]
  · simp only [f_X12_value_b44]
    have h1 := vS_b g F x k0 M
    simp (disch := first | assumption | omega) only [Option.bind_some, Option.map_some, xw_gR, xw_gN, xw_al, xw_ck, xw_uI, xw_ur, xup_at, xur_at, if_true, if_false, reduceIte, and_true, true_and, and_false, false_and, not_true_eq_false, not_false_eq_true, Nat.reduceEqDiff, eq_self, Nat.reduceAdd, Nat.reduceMul, kC1, kG1, kP1, kR1_0, kR1_1, kR1_2, kR1_3, kR1_4, kR1_5, kR1_6, kR1_7, kR1_8, kR1_9, kR1_10, kR1_11, kR1_12, kR1_13, kC2, kG2, kP2, kR2_0, kR2_1, kC3, kG3, kP3, kR3_0, kR3_1, kR3_2, kR3_3, kL4, kA4, kS4, kL5, kA5, kS5, kL6, kA6, kS6, kL7, kA7, kS7, kC8, kG8, kP8, kR8_0, kR8_1, kL9, kA9, kS9, kL10, kA10, kS10, kC11, kG11, kP11, kR11_0, kR11_1, kR11_2, kR11_3, kL12, kA12, kS12, kL13, kA13, kS13, kL14, kA14, kS14, kL15, kA15, kS15, kC16, kG16, kP16, kR16_0, kR16_1, kL17, kA17, kS17, kL18, kA18, kS18, kC19, kG19, kP19, kR19_0, kL20, kL141, kL146, kA146, kS146, kL151, kA151, kS151, kL156, kA156, kS156, kC157, kG157, kP157, kR157_0, kR157_1, kL158, kA158, kS158, kL159, kA159, kS159, kC161, kG161, kP161, kR161_0, kR161_1, kL162, kA162, kS162, kL163, kA163, kS163, kC165, kG165, kP165, kR165_0, kR165_1, kR165_2, kR165_3, kL166, kA166, kS166, kL167, kA167, kS167, kL168, kA168, kS168, kL169, kA169, kS169, kC170, kG170, kP170, kR170_0, kR170_1, kR170_2, kL171, kA171, kS171, kL172, kA172, kS172, kL173, kA173, kS173, kC174, kG174, kP174, kR174_0, kR174_1, kR174_2, kR174_3, kR174_4, kL175, kA175, kS175, kL176, kA176, kS176, kL177, kA177, kS177, kL178, kA178, kS178, kL179, kC180, kG180, kP180, kL181, kL182, kA182, kS182, kC183, kG183, kP183, kR183_1, kR183_3, kR183_5, kR183_6, kR183_7, kR183_8, kR183_9, kR183_21, kR183_26, kR183_27, kR183_30, kR183_31, kR183_33, kR183_34, kR183_36, kR183_37, kR183_38, kR183_39, kR183_40, kR183_41, kR183_42, kR183_43, kR183_44, kL184, kA184, kS184, kL185, kA185, kS185, kL186, kA186, kS186, kL187, kA187, kS187, kL188, kA188, kS188, kL189, kL190, kL191, kA191, kS191, kL192, kA192, kS192, kL193, kA193, kS193, kL194, kA194, kS194, kL195, kA195, kS195, kL196, kA196, kS196, kL197, kA197, kS197, kL198, kA198, kS198, kL199, kA199, kS199, kL200, kA200, kS200, kL201, kL202, kA202, kS202, kL203, kA203, kS203, kL204, kA204, kS204, kL205, kL206, kA206, kS206, hK.2.2.1, nn_le, hM1, Nat.le_refl, vL_i32]
end VAL
theorem op_value : Op_value INV := by
  intro n σ hn ⟨g, gT, gP, st, H⟩ x
  have inP : f_X12_in x 0 1000002 = some (if x < 0 ∨ 1000002 < x then 0 else 1) := by
    unfold f_X12_in
    by_cases h1 : x < 0
    · simp [h1]
    · by_cases h2 : (1000002 : Int32) < x <;> simp [h1, h2]
  by_cases hx0 : x < 0
  · refine ⟨-1, σ, σ, ?_, ?_, g, gT, gP, st, H.nop⟩
    · unfold f_X11_value; rw [if_pos hx0]
    · unfold f_X12_value; rw [inP, if_pos (.inl hx0)]; rfl
  obtain ⟨y, hy, rfl⟩ := nn_of hx0
  by_cases hyP : y < 1000003
  · obtain ⟨τ, I', e1, e2, H1, H2, hS, hG1, hG2, ho, hSR, hE, hL, hK, r1, r2, u1, u2⟩ := both_ready (by omega) H
    have hg := hG1.1
    have hlb := lvN_b g (xI σ 191)
    have A : f_X11_value σ 1 (nI y) = f_X11_value_j17 (xw τ (xI τ)) (nI y) 165 := by
      unfold f_X11_value
      rw [if_neg hx0, if_pos (by rw [show (1000003 : Int32) = nI 1000003 from rfl, nn_lt (by omega) (by omega)]; exact hyP), xck_ok (sT1 H.shp), Option.bind_some, e1, Option.bind_some]
      dsimp only
      rw [xnz_ok (by decide), Option.bind_some]
      rfl
    have hin : ¬ (nI y < 0 ∨ 1000002 < nI y) := by
      rintro (z | z)
      · exact hx0 z
      · rw [show (1000002 : Int32) = nI 1000002 from rfl, nn_lt (by omega) (by omega)] at z; omega
    by_cases h0 : lvN g (xI σ 191) = 0
    · refine ⟨0, τ, xw τ I', ?_, ?_, INV_i H2.nop⟩
      · rw [A]
        unfold f_X11_value_j17
        simp (disch := first | assumption | omega) only [Option.bind_some, Option.map_some, xw_gR, xw_gN, xw_al, xw_ck, xw_uI, xw_ur, xup_at, xur_at, if_true, if_false, reduceIte, and_true, true_and, and_false, false_and, not_true_eq_false, not_false_eq_true, Nat.reduceEqDiff, eq_self, Nat.reduceAdd, Nat.reduceMul, kC1, kG1, kP1, kR1_0, kR1_1, kR1_2, kR1_3, kR1_4, kR1_5, kR1_6, kR1_7, kR1_8, kR1_9, kR1_10, kR1_11, kR1_12, kR1_13, kC2, kG2, kP2, kR2_0, kR2_1, kC3, kG3, kP3, kR3_0, kR3_1, kR3_2, kR3_3, kL4, kA4, kS4, kL5, kA5, kS5, kL6, kA6, kS6, kL7, kA7, kS7, kC8, kG8, kP8, kR8_0, kR8_1, kL9, kA9, kS9, kL10, kA10, kS10, kC11, kG11, kP11, kR11_0, kR11_1, kR11_2, kR11_3, kL12, kA12, kS12, kL13, kA13, kS13, kL14, kA14, kS14, kL15, kA15, kS15, kC16, kG16, kP16, kR16_0, kR16_1, kL17, kA17, kS17, kL18, kA18, kS18, kC19, kG19, kP19, kR19_0, kL20, kL141, kL146, kA146, kS146, kL151, kA151, kS151, kL156, kA156, kS156, kC157, kG157, kP157, kR157_0, kR157_1, kL158, kA158, kS158, kL159, kA159, kS159, kC161, kG161, kP161, kR161_0, kR161_1, kL162, kA162, kS162, kL163, kA163, kS163, kC165, kG165, kP165, kR165_0, kR165_1, kR165_2, kR165_3, kL166, kA166, kS166, kL167, kA167, kS167, kL168, kA168, kS168, kL169, kA169, kS169, kC170, kG170, kP170, kR170_0, kR170_1, kR170_2, kL171, kA171, kS171, kL172, kA172, kS172, kL173, kA173, kS173, kC174, kG174, kP174, kR174_0, kR174_1, kR174_2, kR174_3, kR174_4, kL175, kA175, kS175, kL176, kA176, kS176, kL177, kA177, kS177, kL178, kA178, kS178, kL179, kC180, kG180, kP180, kL181, kL182, kA182, kS182, kC183, kG183, kP183, kR183_1, kR183_3, kR183_5, kR183_6, kR183_7, kR183_8, kR183_9, kR183_21, kR183_26, kR183_27, kR183_30, kR183_31, kR183_33, kR183_34, kR183_36, kR183_37, kR183_38, kR183_39, kR183_40, kR183_41, kR183_42, kR183_43, kR183_44, kL184, kA184, kS184, kL185, kA185, kS185, kL186, kA186, kS186, kL187, kA187, kS187, kL188, kA188, kS188, kL189, kL190, kL191, kA191, kS191, kL192, kA192, kS192, kL193, kA193, kS193, kL194, kA194, kS194, kL195, kA195, kS195, kL196, kA196, kS196, kL197, kA197, kS197, kL198, kA198, kS198, kL199, kA199, kS199, kL200, kA200, kS200, kL201, kL202, kA202, kS202, kL203, kA203, kS203, kL204, kA204, kS204, kL205, kL206, kA206, kS206, hL.2.2.2.1, h0, show (nI 0 = 0) = True from eq_true rfl]
        rfl
      · unfold f_X12_value
        rw [inP, if_neg hin, Option.bind_some, if_neg (by decide), xck_ok (sT183 hS), Option.bind_some, e2, Option.bind_some]
        simp (disch := first | assumption | omega) only [Option.bind_some, Option.map_some, xw_gR, xw_gN, xw_al, xw_ck, xw_uI, xw_ur, xup_at, xur_at, if_true, if_false, reduceIte, and_true, true_and, and_false, false_and, not_true_eq_false, not_false_eq_true, Nat.reduceEqDiff, eq_self, Nat.reduceAdd, Nat.reduceMul, kC1, kG1, kP1, kR1_0, kR1_1, kR1_2, kR1_3, kR1_4, kR1_5, kR1_6, kR1_7, kR1_8, kR1_9, kR1_10, kR1_11, kR1_12, kR1_13, kC2, kG2, kP2, kR2_0, kR2_1, kC3, kG3, kP3, kR3_0, kR3_1, kR3_2, kR3_3, kL4, kA4, kS4, kL5, kA5, kS5, kL6, kA6, kS6, kL7, kA7, kS7, kC8, kG8, kP8, kR8_0, kR8_1, kL9, kA9, kS9, kL10, kA10, kS10, kC11, kG11, kP11, kR11_0, kR11_1, kR11_2, kR11_3, kL12, kA12, kS12, kL13, kA13, kS13, kL14, kA14, kS14, kL15, kA15, kS15, kC16, kG16, kP16, kR16_0, kR16_1, kL17, kA17, kS17, kL18, kA18, kS18, kC19, kG19, kP19, kR19_0, kL20, kL141, kL146, kA146, kS146, kL151, kA151, kS151, kL156, kA156, kS156, kC157, kG157, kP157, kR157_0, kR157_1, kL158, kA158, kS158, kL159, kA159, kS159, kC161, kG161, kP161, kR161_0, kR161_1, kL162, kA162, kS162, kL163, kA163, kS163, kC165, kG165, kP165, kR165_0, kR165_1, kR165_2, kR165_3, kL166, kA166, kS166, kL167, kA167, kS167, kL168, kA168, kS168, kL169, kA169, kS169, kC170, kG170, kP170, kR170_0, kR170_1, kR170_2, kL171, kA171, kS171, kL172, kA172, kS172, kL173, kA173, kS173, kC174, kG174, kP174, kR174_0, kR174_1, kR174_2, kR174_3, kR174_4, kL175, kA175, kS175, kL176, kA176, kS176, kL177, kA177, kS177, kL178, kA178, kS178, kL179, kC180, kG180, kP180, kL181, kL182, kA182, kS182, kC183, kG183, kP183, kR183_1, kR183_3, kR183_5, kR183_6, kR183_7, kR183_8, kR183_9, kR183_21, kR183_26, kR183_27, kR183_30, kR183_31, kR183_33, kR183_34, kR183_36, kR183_37, kR183_38, kR183_39, kR183_40, kR183_41, kR183_42, kR183_43, kR183_44, kL184, kA184, kS184, kL185, kA185, kS185, kL186, kA186, kS186, kL187, kA187, kS187, kL188, kA188, kS188, kL189, kL190, kL191, kA191, kS191, kL192, kA192, kS192, kL193, kA193, kS193, kL194, kA194, kS194, kL195, kA195, kS195, kL196, kA196, kS196, kL197, kA197, kS197, kL198, kA198, kS198, kL199, kA199, kS199, kL200, kA200, kS200, kL201, kL202, kA202, kS202, kL203, kA203, kS203, kL204, kA204, kS204, kL205, kL206, kA206, kS206, hK.2.2.1, h0, show (nI 0 = 0) = True from eq_true rfl]
        refine xloop_end ?_
        simp only [f_X12_value_b44]
        simp (disch := first | assumption | omega) only [Option.bind_some, Option.map_some, xw_gR, xw_gN, xw_al, xw_ck, xw_uI, xw_ur, xup_at, xur_at, if_true, if_false, reduceIte, and_true, true_and, and_false, false_and, not_true_eq_false, not_false_eq_true, Nat.reduceEqDiff, eq_self, Nat.reduceAdd, Nat.reduceMul, kC1, kG1, kP1, kR1_0, kR1_1, kR1_2, kR1_3, kR1_4, kR1_5, kR1_6, kR1_7, kR1_8, kR1_9, kR1_10, kR1_11, kR1_12, kR1_13, kC2, kG2, kP2, kR2_0, kR2_1, kC3, kG3, kP3, kR3_0, kR3_1, kR3_2, kR3_3, kL4, kA4, kS4, kL5, kA5, kS5, kL6, kA6, kS6, kL7, kA7, kS7, kC8, kG8, kP8, kR8_0, kR8_1, kL9, kA9, kS9, kL10, kA10, kS10, kC11, kG11, kP11, kR11_0, kR11_1, kR11_2, kR11_3, kL12, kA12, kS12, kL13, kA13, kS13, kL14, kA14, kS14, kL15, kA15, kS15, kC16, kG16, kP16, kR16_0, kR16_1, kL17, kA17, kS17, kL18, kA18, kS18, kC19, kG19, kP19, kR19_0, kL20, kL141, kL146, kA146, kS146, kL151, kA151, kS151, kL156, kA156, kS156, kC157, kG157, kP157, kR157_0, kR157_1, kL158, kA158, kS158, kL159, kA159, kS159, kC161, kG161, kP161, kR161_0, kR161_1, kL162, kA162, kS162, kL163, kA163, kS163, kC165, kG165, kP165, kR165_0, kR165_1, kR165_2, kR165_3, kL166, kA166, kS166, kL167, kA167, kS167, kL168, kA168, kS168, kL169, kA169, kS169, kC170, kG170, kP170, kR170_0, kR170_1, kR170_2, kL171, kA171, kS171, kL172, kA172, kS172, kL173, kA173, kS173, kC174, kG174, kP174, kR174_0, kR174_1, kR174_2, kR174_3, kR174_4, kL175, kA175, kS175, kL176, kA176, kS176, kL177, kA177, kS177, kL178, kA178, kS178, kL179, kC180, kG180, kP180, kL181, kL182, kA182, kS182, kC183, kG183, kP183, kR183_1, kR183_3, kR183_5, kR183_6, kR183_7, kR183_8, kR183_9, kR183_21, kR183_26, kR183_27, kR183_30, kR183_31, kR183_33, kR183_34, kR183_36, kR183_37, kR183_38, kR183_39, kR183_40, kR183_41, kR183_42, kR183_43, kR183_44, kL184, kA184, kS184, kL185, kA185, kS185, kL186, kA186, kS186, kL187, kA187, kS187, kL188, kA188, kS188, kL189, kL190, kL191, kA191, kS191, kL192, kA192, kS192, kL193, kA193, kS193, kL194, kA194, kS194, kL195, kA195, kS195, kL196, kA196, kS196, kL197, kA197, kS197, kL198, kA198, kS198, kL199, kA199, kS199, kL200, kA200, kS200, kL201, kL202, kA202, kS202, kL203, kA203, kS203, kL204, kA204, kS204, kL205, kL206, kA206, kS206, hK.2.2.1, h0, show (nI 0 ≤ 0) = True from eq_true (by decide)]
        rfl
    · have hn0 : (nI (lvN g (xI σ 191)) = 0) = False := eq_false (nI_ne0 (by omega) (by omega))
      obtain ⟨k, hk, hp, hki⟩ := lv_first (g := g) (F := xI σ 191) (by omega)
      have q0 : I' 198 0 = iI ((k : Int) - 144) := by rw [← hki]; exact hK.2.2.2 k hk hp
      have hen := energyOf_ok (σ := τ) (J := xI τ) hS hL hk hp
      rw [hki, show nI 0 = (0 : Int32) from rfl] at hen
      refine ⟨nI (vS g (xI σ 191) y k (289 - k)), τ, xw τ I', ?_, ?_, INV_i H2.nop⟩
      · rw [A]
        unfold f_X11_value_j17
        simp (disch := first | assumption | omega) only [Option.bind_some, Option.map_some, xw_gR, xw_gN, xw_al, xw_ck, xw_uI, xw_ur, xup_at, xur_at, if_true, if_false, reduceIte, and_true, true_and, and_false, false_and, not_true_eq_false, not_false_eq_true, Nat.reduceEqDiff, eq_self, Nat.reduceAdd, Nat.reduceMul, kC1, kG1, kP1, kR1_0, kR1_1, kR1_2, kR1_3, kR1_4, kR1_5, kR1_6, kR1_7, kR1_8, kR1_9, kR1_10, kR1_11, kR1_12, kR1_13, kC2, kG2, kP2, kR2_0, kR2_1, kC3, kG3, kP3, kR3_0, kR3_1, kR3_2, kR3_3, kL4, kA4, kS4, kL5, kA5, kS5, kL6, kA6, kS6, kL7, kA7, kS7, kC8, kG8, kP8, kR8_0, kR8_1, kL9, kA9, kS9, kL10, kA10, kS10, kC11, kG11, kP11, kR11_0, kR11_1, kR11_2, kR11_3, kL12, kA12, kS12, kL13, kA13, kS13, kL14, kA14, kS14, kL15, kA15, kS15, kC16, kG16, kP16, kR16_0, kR16_1, kL17, kA17, kS17, kL18, kA18, kS18, kC19, kG19, kP19, kR19_0, kL20, kL141, kL146, kA146, kS146, kL151, kA151, kS151, kL156, kA156, kS156, kC157, kG157, kP157, kR157_0, kR157_1, kL158, kA158, kS158, kL159, kA159, kS159, kC161, kG161, kP161, kR161_0, kR161_1, kL162, kA162, kS162, kL163, kA163, kS163, kC165, kG165, kP165, kR165_0, kR165_1, kR165_2, kR165_3, kL166, kA166, kS166, kL167, kA167, kS167, kL168, kA168, kS168, kL169, kA169, kS169, kC170, kG170, kP170, kR170_0, kR170_1, kR170_2, kL171, kA171, kS171, kL172, kA172, kS172, kL173, kA173, kS173, kC174, kG174, kP174, kR174_0, kR174_1, kR174_2, kR174_3, kR174_4, kL175, kA175, kS175, kL176, kA176, kS176, kL177, kA177, kS177, kL178, kA178, kS178, kL179, kC180, kG180, kP180, kL181, kL182, kA182, kS182, kC183, kG183, kP183, kR183_1, kR183_3, kR183_5, kR183_6, kR183_7, kR183_8, kR183_9, kR183_21, kR183_26, kR183_27, kR183_30, kR183_31, kR183_33, kR183_34, kR183_36, kR183_37, kR183_38, kR183_39, kR183_40, kR183_41, kR183_42, kR183_43, kR183_44, kL184, kA184, kS184, kL185, kA185, kS185, kL186, kA186, kS186, kL187, kA187, kS187, kL188, kA188, kS188, kL189, kL190, kL191, kA191, kS191, kL192, kA192, kS192, kL193, kA193, kS193, kL194, kA194, kS194, kL195, kA195, kS195, kL196, kA196, kS196, kL197, kA197, kS197, kL198, kA198, kS198, kL199, kA199, kS199, kL200, kA200, kS200, kL201, kL202, kA202, kS202, kL203, kA203, kS203, kL204, kA204, kS204, kL205, kL206, kA206, kS206, hL.2.2.2.1, hn0, hen]
        exact value11 hS hg hL hyP hk
      · unfold f_X12_value
        rw [inP, if_neg hin, Option.bind_some, if_neg (by decide), xck_ok (sT183 hS), Option.bind_some, e2, Option.bind_some]
        have z0 : xaI (xw τ I') 20 198 (0 : Int32) = some (I' 198 0) := kA198 hS (i := 0) (by decide)
        simp (disch := first | assumption | omega) only [Option.bind_some, Option.map_some, xw_gR, xw_gN, xw_al, xw_ck, xw_uI, xw_ur, xup_at, xur_at, if_true, if_false, reduceIte, and_true, true_and, and_false, false_and, not_true_eq_false, not_false_eq_true, Nat.reduceEqDiff, eq_self, Nat.reduceAdd, Nat.reduceMul, kC1, kG1, kP1, kR1_0, kR1_1, kR1_2, kR1_3, kR1_4, kR1_5, kR1_6, kR1_7, kR1_8, kR1_9, kR1_10, kR1_11, kR1_12, kR1_13, kC2, kG2, kP2, kR2_0, kR2_1, kC3, kG3, kP3, kR3_0, kR3_1, kR3_2, kR3_3, kL4, kA4, kS4, kL5, kA5, kS5, kL6, kA6, kS6, kL7, kA7, kS7, kC8, kG8, kP8, kR8_0, kR8_1, kL9, kA9, kS9, kL10, kA10, kS10, kC11, kG11, kP11, kR11_0, kR11_1, kR11_2, kR11_3, kL12, kA12, kS12, kL13, kA13, kS13, kL14, kA14, kS14, kL15, kA15, kS15, kC16, kG16, kP16, kR16_0, kR16_1, kL17, kA17, kS17, kL18, kA18, kS18, kC19, kG19, kP19, kR19_0, kL20, kL141, kL146, kA146, kS146, kL151, kA151, kS151, kL156, kA156, kS156, kC157, kG157, kP157, kR157_0, kR157_1, kL158, kA158, kS158, kL159, kA159, kS159, kC161, kG161, kP161, kR161_0, kR161_1, kL162, kA162, kS162, kL163, kA163, kS163, kC165, kG165, kP165, kR165_0, kR165_1, kR165_2, kR165_3, kL166, kA166, kS166, kL167, kA167, kS167, kL168, kA168, kS168, kL169, kA169, kS169, kC170, kG170, kP170, kR170_0, kR170_1, kR170_2, kL171, kA171, kS171, kL172, kA172, kS172, kL173, kA173, kS173, kC174, kG174, kP174, kR174_0, kR174_1, kR174_2, kR174_3, kR174_4, kL175, kA175, kS175, kL176, kA176, kS176, kL177, kA177, kS177, kL178, kA178, kS178, kL179, kC180, kG180, kP180, kL181, kL182, kA182, kS182, kC183, kG183, kP183, kR183_1, kR183_3, kR183_5, kR183_6, kR183_7, kR183_8, kR183_9, kR183_21, kR183_26, kR183_27, kR183_30, kR183_31, kR183_33, kR183_34, kR183_36, kR183_37, kR183_38, kR183_39, kR183_40, kR183_41, kR183_42, kR183_43, kR183_44, kL184, kA184, kS184, kL185, kA185, kS185, kL186, kA186, kS186, kL187, kA187, kS187, kL188, kA188, kS188, kL189, kL190, kL191, kA191, kS191, kL192, kA192, kS192, kL193, kA193, kS193, kL194, kA194, kS194, kL195, kA195, kS195, kL196, kA196, kS196, kL197, kA197, kS197, kL198, kA198, kS198, kL199, kA199, kS199, kL200, kA200, kS200, kL201, kL202, kA202, kS202, kL203, kA203, kS203, kL204, kA204, kS204, kL205, kL206, kA206, kS206, hK.2.2.1, hn0, z0, q0]
        exact value12 hS hg hK hyP hk hki
  · refine ⟨-1, σ, σ, ?_, ?_, g, gT, gP, st, H.nop⟩
    · unfold f_X11_value
      rw [if_neg hx0, if_neg (by rw [show (1000003 : Int32) = nI 1000003 from rfl, nn_lt (by omega) (by omega)]; exact hyP)]
    · unfold f_X12_value
      rw [inP, if_pos (.inr (by rw [show (1000002 : Int32) = nI 1000002 from rfl, nn_lt (by omega) (by omega)]; omega))]; rfl
end
section
/-! the steepest turn; where none helps -/
def sp (g : GD) (F : Nat → Int32) (s : Nat) : Nat → Int × Option Nat
  | 0 => (0, none)
  | i + 1 => if F (48 + i) = 0 ∧ eC g (zR F) s i < (sp g F s i).1 then (eC g (zR F) s i, some i) else sp g F s i
theorem sp_le (g : GD) (F : Nat → Int32) (s : Nat) : ∀ m, (sp g F s m).1 ≤ 0 ∧ ∀ i, i < m → F (48 + i) = 0 → (sp g F s m).1 ≤ eC g (zR F) s i
  | 0 => ⟨Int.le_refl _, fun i h => by omega⟩
  | m + 1 => by
    have ih := sp_le g F s m
    rw [sp]
    split
    · next h =>
      refine ⟨by show eC g (zR F) s m ≤ 0; omega, fun i hi h0 => ?_⟩
      by_cases z : i = m
      · rw [z]; exact Int.le_refl _
      · have := ih.2 i (by omega) h0
        show eC g (zR F) s m ≤ _
        omega
    · next h =>
      refine ⟨ih.1, fun i hi h0 => ?_⟩
      by_cases z : i = m
      · subst z
        have : ¬ eC g (zR F) s i < (sp g F s i).1 := fun w => h ⟨h0, w⟩
        omega
      · exact ih.2 i (by omega) h0
theorem sp_some (g : GD) (F : Nat → Int32) (s : Nat) : ∀ m, ((sp g F s m).2 = none → (sp g F s m).1 = 0) ∧ ∀ i, (sp g F s m).2 = some i → i < m ∧ F (48 + i) = 0 ∧ eC g (zR F) s i = (sp g F s m).1 ∧ (sp g F s m).1 < 0
  | 0 => ⟨fun _ => rfl, fun i h => nomatch h⟩
  | m + 1 => by
    have ih := sp_some g F s m
    have hl := sp_le g F s m
    rw [sp]
    split
    · next h =>
      refine ⟨(fun z => nomatch z), fun i hi => ?_⟩
      cases hi
      exact ⟨by omega, h.1, rfl, by show eC g (zR F) s m < 0; omega⟩
    · next h =>
      refine ⟨ih.1, fun i hi => ?_⟩
      have := ih.2 i hi
      exact ⟨by omega, this.2⟩
theorem sp_none (g : GD) (F : Nat → Int32) (s m : Nat) : (sp g F s m).2 = none ↔ ∀ i, i < m → F (48 + i) = 0 → 0 ≤ eC g (zR F) s i := by
  constructor
  · intro h i hi h0
    have h1 := (sp_some g F s m).1 h
    have h2 := (sp_le g F s m).2 i hi h0
    omega
  · intro h
    cases hq : (sp g F s m).2 with
    | none => rfl
    | some i =>
      have := (sp_some g F s m).2 i hq
      have := h i this.1 this.2.1
      omega
theorem sp_b {g : GD} (hg : g ∈ gAll) {F : Nat → Int32} (ho : RO g F) (s : Nat) {i : Nat} (hi : i < gSz g) : -288 ≤ eC g (zR F) s i ∧ eC g (zR F) s i ≤ 288 := by
  have h1 := eE_b hg ho s
  have h2 := eE_b hg ho (s ^^^ 2 ^ i)
  rw [eE_flip hg _ hi] at h2
  omega
theorem sp_lb {g : GD} (hg : g ∈ gAll) {F : Nat → Int32} (ho : RO g F) (s : Nat) : ∀ m, m ≤ gSz g → -288 ≤ (sp g F s m).1
  | 0, _ => by show -288 ≤ (0 : Int); omega
  | m + 1, h => by
    rw [sp]
    split
    · exact (sp_b hg ho s (by omega)).1
    · exact sp_lb hg ho s m (by omega)
theorem lW_flip {g : GD} {F : Nat → Int32} {s i : Nat} (hi : i < gSz g) (h : lW g F s = true) : lW g F (s ^^^ 2 ^ i) = decide (F (48 + i) = 0) := by
  rw [Bool.eq_iff_iff, lW_iff, decide_eq_true_eq]
  rw [lW_iff] at h
  constructor
  · intro h2
    by_cases hne : F (48 + i) = 0
    · exact hne
    · exfalso
      have a := h i hi hne
      have b := h2 i hi hne
      rw [fb_bit_flip, a] at b
      simp at b
  · intro h0 j hj hne
    rw [fb_bit_flip, h j hj hne]
    have : j ≠ i := fun z => hne (z ▸ h0)
    simp [this]
section STEEP
variable {σ : XS} {J : Nat → Nat → Int32} {g : GD} {F : Nat → Int32} {c m : Nat}
theorem oI_step (o : Option Nat) (i : Nat) : oI (some i) = nI i := rfl
theorem steep12_ok (hS : Shp σ) (hG : GRD J g) (ho : RO g F) (hK : KNK J g F) {s : Nat} (hs : s < gSt g) (hl : lW g F s = true) : f_X12_steepest (xw σ J) 183 (nI s) = some (oI (sp g F s (gSz g)).2) := by
  have hg := hG.1
  have h16 := (gAll_b g hg).2.2.1
  have hSt := (gSt_b hg).1
  have hEb := eE_b hg ho s
  have hv := hK.1 s hs
  rw [hl, if_pos rfl] at hv
  unfold f_X12_steepest
  simp (disch := first | assumption | omega) only [Option.bind_some, Option.map_some, xw_gR, xw_gN, xw_al, xw_ck, xw_uI, xw_ur, xup_at, xur_at, if_true, if_false, reduceIte, and_true, true_and, and_false, false_and, not_true_eq_false, not_false_eq_true, Nat.reduceEqDiff, eq_self, Nat.reduceAdd, Nat.reduceMul, kC1, kG1, kP1, kR1_0, kR1_1, kR1_2, kR1_3, kR1_4, kR1_5, kR1_6, kR1_7, kR1_8, kR1_9, kR1_10, kR1_11, kR1_12, kR1_13, kC2, kG2, kP2, kR2_0, kR2_1, kC3, kG3, kP3, kR3_0, kR3_1, kR3_2, kR3_3, kL4, kA4, kS4, kL5, kA5, kS5, kL6, kA6, kS6, kL7, kA7, kS7, kC8, kG8, kP8, kR8_0, kR8_1, kL9, kA9, kS9, kL10, kA10, kS10, kC11, kG11, kP11, kR11_0, kR11_1, kR11_2, kR11_3, kL12, kA12, kS12, kL13, kA13, kS13, kL14, kA14, kS14, kL15, kA15, kS15, kC16, kG16, kP16, kR16_0, kR16_1, kL17, kA17, kS17, kL18, kA18, kS18, kC19, kG19, kP19, kR19_0, kL20, kL141, kL146, kA146, kS146, kL151, kA151, kS151, kL156, kA156, kS156, kC157, kG157, kP157, kR157_0, kR157_1, kL158, kA158, kS158, kL159, kA159, kS159, kC161, kG161, kP161, kR161_0, kR161_1, kL162, kA162, kS162, kL163, kA163, kS163, kC165, kG165, kP165, kR165_0, kR165_1, kR165_2, kR165_3, kL166, kA166, kS166, kL167, kA167, kS167, kL168, kA168, kS168, kL169, kA169, kS169, kC170, kG170, kP170, kR170_0, kR170_1, kR170_2, kL171, kA171, kS171, kL172, kA172, kS172, kL173, kA173, kS173, kC174, kG174, kP174, kR174_0, kR174_1, kR174_2, kR174_3, kR174_4, kL175, kA175, kS175, kL176, kA176, kS176, kL177, kA177, kS177, kL178, kA178, kS178, kL179, kC180, kG180, kP180, kL181, kL182, kA182, kS182, kC183, kG183, kP183, kR183_1, kR183_3, kR183_5, kR183_6, kR183_7, kR183_8, kR183_9, kR183_21, kR183_26, kR183_27, kR183_30, kR183_31, kR183_33, kR183_34, kR183_36, kR183_37, kR183_38, kR183_39, kR183_40, kR183_41, kR183_42, kR183_43, kR183_44, kL184, kA184, kS184, kL185, kA185, kS185, kL186, kA186, kS186, kL187, kA187, kS187, kL188, kA188, kS188, kL189, kL190, kL191, kA191, kS191, kL192, kA192, kS192, kL193, kA193, kS193, kL194, kA194, kS194, kL195, kA195, kS195, kL196, kA196, kS196, kL197, kA197, kS197, kL198, kA198, kS198, kL199, kA199, kS199, kL200, kA200, kS200, kL201, kL202, kA202, kS202, kL203, kA203, kS203, kL204, kA204, kS204, kL205, kL206, kA206, kS206, hv]
  refine xforE (fun i : Nat => (oI (sp g F s i).2, iI (eE g (zR F) s + (sp g F s i).1), nI i)) (gSz g) ?_ (fun i hi => ?_) ?_
  · show (_, _, _) = (oI none, iI (eE g (zR F) s + 0), nI 0)
    rw [Int.add_zero]; rfl
  · simp only [f_X12_steepest_b12]
    have hf := gSt_flip hs hi
    have hv2 := hK.1 _ hf
    rw [lW_flip hi hl, eE_flip hg _ hi] at hv2
    have hlb := sp_lb hg ho s i (by omega)
    have hle := (sp_le g F s i).1
    have hcb := sp_b hg ho s hi
    have hfb := eE_b hg ho (s ^^^ 2 ^ i)
    rw [eE_flip hg _ hi] at hfb
    simp (disch := first | assumption | omega) only [Option.bind_some, Option.map_some, xw_gR, xw_gN, xw_al, xw_ck, xw_uI, xw_ur, xup_at, xur_at, if_true, if_false, reduceIte, and_true, true_and, and_false, false_and, not_true_eq_false, not_false_eq_true, Nat.reduceEqDiff, eq_self, Nat.reduceAdd, Nat.reduceMul, kC1, kG1, kP1, kR1_0, kR1_1, kR1_2, kR1_3, kR1_4, kR1_5, kR1_6, kR1_7, kR1_8, kR1_9, kR1_10, kR1_11, kR1_12, kR1_13, kC2, kG2, kP2, kR2_0, kR2_1, kC3, kG3, kP3, kR3_0, kR3_1, kR3_2, kR3_3, kL4, kA4, kS4, kL5, kA5, kS5, kL6, kA6, kS6, kL7, kA7, kS7, kC8, kG8, kP8, kR8_0, kR8_1, kL9, kA9, kS9, kL10, kA10, kS10, kC11, kG11, kP11, kR11_0, kR11_1, kR11_2, kR11_3, kL12, kA12, kS12, kL13, kA13, kS13, kL14, kA14, kS14, kL15, kA15, kS15, kC16, kG16, kP16, kR16_0, kR16_1, kL17, kA17, kS17, kL18, kA18, kS18, kC19, kG19, kP19, kR19_0, kL20, kL141, kL146, kA146, kS146, kL151, kA151, kS151, kL156, kA156, kS156, kC157, kG157, kP157, kR157_0, kR157_1, kL158, kA158, kS158, kL159, kA159, kS159, kC161, kG161, kP161, kR161_0, kR161_1, kL162, kA162, kS162, kL163, kA163, kS163, kC165, kG165, kP165, kR165_0, kR165_1, kR165_2, kR165_3, kL166, kA166, kS166, kL167, kA167, kS167, kL168, kA168, kS168, kL169, kA169, kS169, kC170, kG170, kP170, kR170_0, kR170_1, kR170_2, kL171, kA171, kS171, kL172, kA172, kS172, kL173, kA173, kS173, kC174, kG174, kP174, kR174_0, kR174_1, kR174_2, kR174_3, kR174_4, kL175, kA175, kS175, kL176, kA176, kS176, kL177, kA177, kS177, kL178, kA178, kS178, kL179, kC180, kG180, kP180, kL181, kL182, kA182, kS182, kC183, kG183, kP183, kR183_1, kR183_3, kR183_5, kR183_6, kR183_7, kR183_8, kR183_9, kR183_21, kR183_26, kR183_27, kR183_30, kR183_31, kR183_33, kR183_34, kR183_36, kR183_37, kR183_38, kR183_39, kR183_40, kR183_41, kR183_42, kR183_43, kR183_44, kL184, kA184, kS184, kL185, kA185, kS185, kL186, kA186, kS186, kL187, kA187, kS187, kL188, kA188, kS188, kL189, kL190, kL191, kA191, kS191, kL192, kA192, kS192, kL193, kA193, kS193, kL194, kA194, kS194, kL195, kA195, kS195, kL196, kA196, kS196, kL197, kA197, kS197, kL198, kA198, kS198, kL199, kA199, kS199, kL200, kA200, kS200, kL201, kL202, kA202, kS202, kL203, kA203, kS203, kL204, kA204, kS204, kL205, kL206, kA206, kS206, sites_ok hS hG, nn_le, show ¬ (gSz g ≤ i) by omega, nn_one, nn_xor, hv2]
    rw [← nI_succ]
    show _ = some (Sum.inl (oI (sp g F s (i + 1)).2, iI (eE g (zR F) s + (sp g F s (i + 1)).1), nI (i + 1)))
    rw [sp]
    by_cases h0 : F (48 + i) = 0
    · have q : (iI (eE g (zR F) s + eC g (zR F) s i) < iI (eE g (zR F) s + (sp g F s i).1)) = (eC g (zR F) s i < (sp g F s i).1) := by
        rw [iI_lt (by omega) (by omega) (by omega) (by omega)]; apply propext; omega
      simp only [h0, decide_true, if_true, q, true_and]
      by_cases h1 : eC g (zR F) s i < (sp g F s i).1
      · rw [if_pos h1, if_pos h1]; rfl
      · rw [if_neg h1, if_neg h1]
    · have q : (nI 100000 < iI (eE g (zR F) s + (sp g F s i).1)) = False := by
        rw [iI_n, iI_lt (by omega) (by omega) (by omega) (by omega)]; exact eq_false (by omega)
      simp only [h0, decide_false, Bool.false_eq_true, if_false, q, false_and]
  · simp only [f_X12_steepest_b12]
    simp (disch := first | assumption | omega) only [Option.bind_some, Option.map_some, xw_gR, xw_gN, xw_al, xw_ck, xw_uI, xw_ur, xup_at, xur_at, if_true, if_false, reduceIte, and_true, true_and, and_false, false_and, not_true_eq_false, not_false_eq_true, Nat.reduceEqDiff, eq_self, Nat.reduceAdd, Nat.reduceMul, kC1, kG1, kP1, kR1_0, kR1_1, kR1_2, kR1_3, kR1_4, kR1_5, kR1_6, kR1_7, kR1_8, kR1_9, kR1_10, kR1_11, kR1_12, kR1_13, kC2, kG2, kP2, kR2_0, kR2_1, kC3, kG3, kP3, kR3_0, kR3_1, kR3_2, kR3_3, kL4, kA4, kS4, kL5, kA5, kS5, kL6, kA6, kS6, kL7, kA7, kS7, kC8, kG8, kP8, kR8_0, kR8_1, kL9, kA9, kS9, kL10, kA10, kS10, kC11, kG11, kP11, kR11_0, kR11_1, kR11_2, kR11_3, kL12, kA12, kS12, kL13, kA13, kS13, kL14, kA14, kS14, kL15, kA15, kS15, kC16, kG16, kP16, kR16_0, kR16_1, kL17, kA17, kS17, kL18, kA18, kS18, kC19, kG19, kP19, kR19_0, kL20, kL141, kL146, kA146, kS146, kL151, kA151, kS151, kL156, kA156, kS156, kC157, kG157, kP157, kR157_0, kR157_1, kL158, kA158, kS158, kL159, kA159, kS159, kC161, kG161, kP161, kR161_0, kR161_1, kL162, kA162, kS162, kL163, kA163, kS163, kC165, kG165, kP165, kR165_0, kR165_1, kR165_2, kR165_3, kL166, kA166, kS166, kL167, kA167, kS167, kL168, kA168, kS168, kL169, kA169, kS169, kC170, kG170, kP170, kR170_0, kR170_1, kR170_2, kL171, kA171, kS171, kL172, kA172, kS172, kL173, kA173, kS173, kC174, kG174, kP174, kR174_0, kR174_1, kR174_2, kR174_3, kR174_4, kL175, kA175, kS175, kL176, kA176, kS176, kL177, kA177, kS177, kL178, kA178, kS178, kL179, kC180, kG180, kP180, kL181, kL182, kA182, kS182, kC183, kG183, kP183, kR183_1, kR183_3, kR183_5, kR183_6, kR183_7, kR183_8, kR183_9, kR183_21, kR183_26, kR183_27, kR183_30, kR183_31, kR183_33, kR183_34, kR183_36, kR183_37, kR183_38, kR183_39, kR183_40, kR183_41, kR183_42, kR183_43, kR183_44, kL184, kA184, kS184, kL185, kA185, kS185, kL186, kA186, kS186, kL187, kA187, kS187, kL188, kA188, kS188, kL189, kL190, kL191, kA191, kS191, kL192, kA192, kS192, kL193, kA193, kS193, kL194, kA194, kS194, kL195, kA195, kS195, kL196, kA196, kS196, kL197, kA197, kS197, kL198, kA198, kS198, kL199, kA199, kS199, kL200, kA200, kS200, kL201, kL202, kA202, kS202, kL203, kA203, kS203, kL204, kA204, kS204, kL205, kL206, kA206, kS206, sites_ok hS hG, nn_le, Nat.le_refl]
theorem oI_n0 {o : Option Nat} (h : ∀ e, o = some e → e < 2147483648) : (0 ≤ oI o) = (o ≠ none) := by
  cases o with
  | none => simp [oI]
  | some e =>
    have := h e rfl
    have q : ((0 : Int32) ≤ nI e) = (0 ≤ e) := nn_le (a := 0) (by decide) this
    simp only [oI, q]
    simp
theorem noneLower_ok (hS : Shp σ) (hg : g ∈ gAll) (hg0 : GRD J g) (ho : RO g F) (hE : EnO σ 157 c m) (hK : ENK J (xR σ) (xlen σ) 157 g F) {s p : Nat} (hs : s < gSt g) (hp : ∀ i, p.testBit i = (decide (i < gSz g) && decide (F (48 + i) ≠ 0))) :
    f_X2_hasNoneLower (xw σ J) 157 (nI s) (nI p) (nI (gSt g)) = some (if (sp g F s (gSz g)).2 = none then 1 else 0) := by
  have h16 := (gAll_b g hg).2.2.1
  have hSt := (gSt_b hg).1
  have hpos := gSt_pos hs
  have hEm := hE.2.2.2.1
  have hN : gSt g = 2 ^ gSz g := by unfold gSt; rw [if_neg (by omega)]
  have hb := eE_b hg ho s
  have hm : 2 ^ gSz g ≤ m := by
    have := hK.1
    rw [hE.2.1] at this
    unfold xlen at this
    rw [hE.2.2.1] at this
    exact this
  unfold f_X2_hasNoneLower
  rw [xw_ck, xck_ok (hE.T hS), Option.bind_some, of_ok hS hE hK hpos.2, Option.bind_some]
  have key := xallL (f := f_X2_hasNoneLower_b10 (xw σ J) 157 (nI s) (nI p) (nI (gSt g)) (iI (eE g (zR F) s))) (a0 := (1 : Int32)) (fun i : Nat => nI (2 ^ i)) (gSz g) (fun i => !(decide (F (48 + i) = 0) && decide (eC g (zR F) s i < 0))) (bad := (0 : Int32)) (good := (1 : Int32)) rfl ?_ ?_ ?_
  · rw [key]
    congr 1
    have : ((List.range (gSz g)).all (fun i => !(decide (F (48 + i) = 0) && decide (eC g (zR F) s i < 0))) = true) ↔ ((sp g F s (gSz g)).2 = none) := by
      rw [sp_none, List.all_eq_true]
      constructor
      · intro h i hi h0
        have := h i (List.mem_range.mpr hi)
        simp [h0] at this
        exact this
      · intro h i hi
        have := h i (List.mem_range.mp hi)
        by_cases h0 : F (48 + i) = 0
        · have := this h0
          simp [h0]; omega
        · simp [h0]
    simp only [this]
  all_goals have h2i : ∀ i, i < gSz g → 2 ^ i < 65536 := fun i hi => Nat.pow_lt_pow_right (n := 16) (by decide) (by omega)
  · intro i hi hpi
    have hpi2 := h2i i hi
    have hlt : 2 ^ i < 2 ^ gSz g := Nat.pow_lt_pow_right (by decide) hi
    have hf := gSt_flip hs hi
    have hdb : nI (2 ^ i) + nI (2 ^ i) = nI (2 ^ (i + 1)) := by rw [nn_add, Nat.pow_succ]; congr 1; omega
    simp only [f_X2_hasNoneLower_b10]
    rw [if_neg (by rw [nn_le (by omega) (by omega)]; omega), fa_and, nn_xor, hdb]
    have hand : (nI (p &&& 2 ^ i) = 0) = (F (48 + i) = 0) := by
      have : (nI (p &&& 2 ^ i) = 0) = (p &&& 2 ^ i = 0) := nn_eq (b := 0) (by have := Nat.and_le_right (n := p) (m := 2 ^ i); omega) (by decide)
      rw [this, fb_bit_nat, hp i]
      simp [hi]
    simp only [hand]
    by_cases h0 : F (48 + i) = 0
    · have hc : ¬ eC g (zR F) s i < 0 := by simpa [h0] using hpi
      rw [if_pos h0, if_neg (nI_pos (by omega)), xw_gR, hE.R4 hS, Option.bind_some, xw_al, hE.L, Option.bind_some, if_neg (by rw [nn_le (by omega) (by omega)]; omega), Option.bind_some, xw_aI hE.2.2.1 (by omega) (by omega), Option.bind_some]
      have hv := hK.2 (s ^^^ 2 ^ i) (by omega)
      rw [hE.2.1, eE_flip hg _ hi] at hv
      have hfb := eE_b hg ho (s ^^^ 2 ^ i)
      rw [eE_flip hg _ hi] at hfb
      rw [hv, if_pos (by rw [iI_le (by omega) (by omega) (by omega) (by omega)]; omega)]
    · rw [if_neg h0]
  · intro i hi hpi
    have hpi2 := h2i i hi
    have hlt : 2 ^ i < 2 ^ gSz g := Nat.pow_lt_pow_right (by decide) hi
    have hf := gSt_flip hs hi
    have h0 : F (48 + i) = 0 ∧ eC g (zR F) s i < 0 := by simpa using hpi
    simp only [f_X2_hasNoneLower_b10]
    rw [if_neg (by rw [nn_le (by omega) (by omega)]; omega), fa_and, nn_xor]
    have hand : nI (p &&& 2 ^ i) = 0 := by
      have : p &&& 2 ^ i = 0 := by rw [fb_bit_nat, hp i]; simp [h0.1]
      rw [this]; rfl
    rw [if_pos hand, if_neg (nI_pos (by omega)), xw_gR, hE.R4 hS, Option.bind_some, xw_al, hE.L, Option.bind_some, if_neg (by rw [nn_le (by omega) (by omega)]; omega), Option.bind_some, xw_aI hE.2.2.1 (by omega) (by omega), Option.bind_some]
    have hv := hK.2 (s ^^^ 2 ^ i) (by omega)
    rw [hE.2.1, eE_flip hg _ hi] at hv
    have hfb := eE_b hg ho (s ^^^ 2 ^ i)
    rw [eE_flip hg _ hi] at hfb
    rw [hv, if_neg (by rw [iI_le (by omega) (by omega) (by omega) (by omega)]; omega)]
    rfl
  · simp only [f_X2_hasNoneLower_b10]
    rw [hN, if_pos (by rw [nn_le (by omega) (by omega)]; exact Nat.le_refl _)]
    rfl
end STEEP
end
section
/-! stuck -/
theorem lE_slot {g : GD} (hg : g ∈ gAll) {F : Nat → Int32} (ho : RO g F) {s : Nat} (hs : s < gSt g) (hl : lW g F s = true) : ∃ e : Nat, e < 289 ∧ eE g (zR F) s = (e : Int) - 144 ∧ lvP g F e = true := by
  have hb := eE_b hg ho s
  refine ⟨(eE g (zR F) s + 144).toNat, by omega, by omega, ?_⟩
  unfold lvP lC
  rw [decide_eq_true_eq, fb_ct_pos]
  refine ⟨s, hs, ?_⟩
  unfold lE
  rw [hl]
  simp
  omega
theorem ground_le {g : GD} (hg : g ∈ gAll) {F : Nat → Int32} (ho : RO g F) {k0 s : Nat} (h0 : fb_ct (lvP g F) k0 = 0) (hs : s < gSt g) (hl : lW g F s = true) : (k0 : Int) - 144 ≤ eE g (zR F) s := by
  obtain ⟨e, he, h1, h2⟩ := lE_slot hg ho hs hl
  rcases Nat.lt_or_ge e k0 with z | z
  · have := fb_ct_zero.mp h0 e z
    rw [h2] at this
    exact absurd this (by decide)
  · omega
theorem none_lawful {g : GD} (hg : g ∈ gAll) {F : Nat → Int32} (ho : RO g F) (h0 : lvN g F = 0) {s : Nat} (hs : s < gSt g) : lW g F s = false := by
  cases hl : lW g F s with
  | false => rfl
  | true =>
    obtain ⟨e, he, h1, h2⟩ := lE_slot hg ho hs hl
    have := fb_ct_zero.mp h0 e he
    rw [h2] at this
    exact absurd this (by decide)
def stk (g : GD) (F : Nat → Int32) (k0 : Nat) (f : Bool) (s : Nat) : Bool := lW g F s && !(f && decide (eE g (zR F) s = (k0 : Int) - 144)) && (sp g F s (gSz g)).2.isNone
theorem op_stuck : Op_stuck INV := by
  intro n σ hn ⟨g, gT, gP, st, H⟩ x hx01
  obtain ⟨τ, I', e1, e2, H1, H2, hS, hG1, hG2, ho, hSR, hE, hL, hK, r1, r2, u1, u2⟩ := both_ready (by omega) H
  have hg := hG1.1
  have h16 := (gAll_b g hg).2.2.1
  have hSt := (gSt_b hg).1
  have hlb := lvN_b g (xI σ 191)
  obtain ⟨c, a, hEn, ha, hcn⟩ := H1.en157
  obtain ⟨-, -, ⟨p, u, s3, s4, s5, s6⟩, -, -⟩ := id hSR
  obtain ⟨F, hF⟩ : ∃ F, F = xI σ 191 := ⟨_, rfl⟩
  rw [← hF] at ho hSR hE hL hK hlb
  simp only [← hF] at s5 s6
  have A : f_X11_stuck σ 1 x = f_X11_stuck_j4 (xw τ (xI τ)) 1 x 165 := by
    unfold f_X11_stuck
    rw [xck_ok (sT1 H.shp), Option.bind_some, e1, Option.bind_some]
    dsimp only
    rw [xnz_ok (by decide), Option.bind_some]
    rfl
  have B : f_X12_stuck τ 183 x = xloop (f_X12_stuck_b8 (xw τ I') 183 x) ((0 : Int32), (0 : Int32)) := by
    unfold f_X12_stuck
    rw [xck_ok (sT183 hS), Option.bind_some, e2, Option.bind_some]
  have noS : ∀ s i, (sp g F s (gSz g)).2 = some i → i < 2147483648 := fun s i h => by
    have := ((sp_some g F s (gSz g)).2 i h).1
    omega
  have hflag : (x = 0) = (decide (x = 1) = false) := by
    rcases hx01 with z | z <;> rw [z] <;> decide
  by_cases h0 : lvN g F = 0
  · refine ⟨0, τ, xw τ I', ?_, ?_, INV_i H2.nop⟩
    · rw [A]
      unfold f_X11_stuck_j4
      simp (disch := first | assumption | omega) only [Option.bind_some, Option.map_some, xw_gR, xw_gN, xw_al, xw_ck, xw_uI, xw_ur, xup_at, xur_at, if_true, if_false, reduceIte, and_true, true_and, and_false, false_and, not_true_eq_false, not_false_eq_true, Nat.reduceEqDiff, eq_self, Nat.reduceAdd, Nat.reduceMul, kC1, kG1, kP1, kR1_0, kR1_1, kR1_2, kR1_3, kR1_4, kR1_5, kR1_6, kR1_7, kR1_8, kR1_9, kR1_10, kR1_11, kR1_12, kR1_13, kC2, kG2, kP2, kR2_0, kR2_1, kC3, kG3, kP3, kR3_0, kR3_1, kR3_2, kR3_3, kL4, kA4, kS4, kL5, kA5, kS5, kL6, kA6, kS6, kL7, kA7, kS7, kC8, kG8, kP8, kR8_0, kR8_1, kL9, kA9, kS9, kL10, kA10, kS10, kC11, kG11, kP11, kR11_0, kR11_1, kR11_2, kR11_3, kL12, kA12, kS12, kL13, kA13, kS13, kL14, kA14, kS14, kL15, kA15, kS15, kC16, kG16, kP16, kR16_0, kR16_1, kL17, kA17, kS17, kL18, kA18, kS18, kC19, kG19, kP19, kR19_0, kL20, kL141, kL146, kA146, kS146, kL151, kA151, kS151, kL156, kA156, kS156, kC157, kG157, kP157, kR157_0, kR157_1, kL158, kA158, kS158, kL159, kA159, kS159, kC161, kG161, kP161, kR161_0, kR161_1, kL162, kA162, kS162, kL163, kA163, kS163, kC165, kG165, kP165, kR165_0, kR165_1, kR165_2, kR165_3, kL166, kA166, kS166, kL167, kA167, kS167, kL168, kA168, kS168, kL169, kA169, kS169, kC170, kG170, kP170, kR170_0, kR170_1, kR170_2, kL171, kA171, kS171, kL172, kA172, kS172, kL173, kA173, kS173, kC174, kG174, kP174, kR174_0, kR174_1, kR174_2, kR174_3, kR174_4, kL175, kA175, kS175, kL176, kA176, kS176, kL177, kA177, kS177, kL178, kA178, kS178, kL179, kC180, kG180, kP180, kL181, kL182, kA182, kS182, kC183, kG183, kP183, kR183_1, kR183_3, kR183_5, kR183_6, kR183_7, kR183_8, kR183_9, kR183_21, kR183_26, kR183_27, kR183_30, kR183_31, kR183_33, kR183_34, kR183_36, kR183_37, kR183_38, kR183_39, kR183_40, kR183_41, kR183_42, kR183_43, kR183_44, kL184, kA184, kS184, kL185, kA185, kS185, kL186, kA186, kS186, kL187, kA187, kS187, kL188, kA188, kS188, kL189, kL190, kL191, kA191, kS191, kL192, kA192, kS192, kL193, kA193, kS193, kL194, kA194, kS194, kL195, kA195, kS195, kL196, kA196, kS196, kL197, kA197, kS197, kL198, kA198, kS198, kL199, kA199, kS199, kL200, kA200, kS200, kL201, kL202, kA202, kS202, kL203, kA203, kS203, kL204, kA204, kS204, kL205, kL206, kA206, kS206, hL.2.2.2.1, h0, show (nI 0 = 0) = True from eq_true rfl]
      rfl
    · rw [B]
      refine xforE (fun s : Nat => (nI 0, nI s)) (gSt g) rfl (fun s hs => ?_) ?_
      · simp only [f_X12_stuck_b8]
        have hv := hK.1 s hs
        rw [none_lawful hg ho h0 hs, if_neg (by decide)] at hv
        simp (disch := first | assumption | omega) only [Option.bind_some, Option.map_some, xw_gR, xw_gN, xw_al, xw_ck, xw_uI, xw_ur, xup_at, xur_at, if_true, if_false, reduceIte, and_true, true_and, and_false, false_and, not_true_eq_false, not_false_eq_true, Nat.reduceEqDiff, eq_self, Nat.reduceAdd, Nat.reduceMul, kC1, kG1, kP1, kR1_0, kR1_1, kR1_2, kR1_3, kR1_4, kR1_5, kR1_6, kR1_7, kR1_8, kR1_9, kR1_10, kR1_11, kR1_12, kR1_13, kC2, kG2, kP2, kR2_0, kR2_1, kC3, kG3, kP3, kR3_0, kR3_1, kR3_2, kR3_3, kL4, kA4, kS4, kL5, kA5, kS5, kL6, kA6, kS6, kL7, kA7, kS7, kC8, kG8, kP8, kR8_0, kR8_1, kL9, kA9, kS9, kL10, kA10, kS10, kC11, kG11, kP11, kR11_0, kR11_1, kR11_2, kR11_3, kL12, kA12, kS12, kL13, kA13, kS13, kL14, kA14, kS14, kL15, kA15, kS15, kC16, kG16, kP16, kR16_0, kR16_1, kL17, kA17, kS17, kL18, kA18, kS18, kC19, kG19, kP19, kR19_0, kL20, kL141, kL146, kA146, kS146, kL151, kA151, kS151, kL156, kA156, kS156, kC157, kG157, kP157, kR157_0, kR157_1, kL158, kA158, kS158, kL159, kA159, kS159, kC161, kG161, kP161, kR161_0, kR161_1, kL162, kA162, kS162, kL163, kA163, kS163, kC165, kG165, kP165, kR165_0, kR165_1, kR165_2, kR165_3, kL166, kA166, kS166, kL167, kA167, kS167, kL168, kA168, kS168, kL169, kA169, kS169, kC170, kG170, kP170, kR170_0, kR170_1, kR170_2, kL171, kA171, kS171, kL172, kA172, kS172, kL173, kA173, kS173, kC174, kG174, kP174, kR174_0, kR174_1, kR174_2, kR174_3, kR174_4, kL175, kA175, kS175, kL176, kA176, kS176, kL177, kA177, kS177, kL178, kA178, kS178, kL179, kC180, kG180, kP180, kL181, kL182, kA182, kS182, kC183, kG183, kP183, kR183_1, kR183_3, kR183_5, kR183_6, kR183_7, kR183_8, kR183_9, kR183_21, kR183_26, kR183_27, kR183_30, kR183_31, kR183_33, kR183_34, kR183_36, kR183_37, kR183_38, kR183_39, kR183_40, kR183_41, kR183_42, kR183_43, kR183_44, kL184, kA184, kS184, kL185, kA185, kS185, kL186, kA186, kS186, kL187, kA187, kS187, kL188, kA188, kS188, kL189, kL190, kL191, kA191, kS191, kL192, kA192, kS192, kL193, kA193, kS193, kL194, kA194, kS194, kL195, kA195, kS195, kL196, kA196, kS196, kL197, kA197, kS197, kL198, kA198, kS198, kL199, kA199, kS199, kL200, kA200, kS200, kL201, kL202, kA202, kS202, kL203, kA203, kS203, kL204, kA204, kS204, kL205, kL206, kA206, kS206, states12_ok hS hG2, nn_le, show ¬ (gSt g ≤ s) by omega, hv, show (100000 : Int32) = nI 100000 from rfl, Nat.le_refl]
        rw [nI_succ]
      · simp only [f_X12_stuck_b8]
        simp (disch := first | assumption | omega) only [Option.bind_some, Option.map_some, xw_gR, xw_gN, xw_al, xw_ck, xw_uI, xw_ur, xup_at, xur_at, if_true, if_false, reduceIte, and_true, true_and, and_false, false_and, not_true_eq_false, not_false_eq_true, Nat.reduceEqDiff, eq_self, Nat.reduceAdd, Nat.reduceMul, kC1, kG1, kP1, kR1_0, kR1_1, kR1_2, kR1_3, kR1_4, kR1_5, kR1_6, kR1_7, kR1_8, kR1_9, kR1_10, kR1_11, kR1_12, kR1_13, kC2, kG2, kP2, kR2_0, kR2_1, kC3, kG3, kP3, kR3_0, kR3_1, kR3_2, kR3_3, kL4, kA4, kS4, kL5, kA5, kS5, kL6, kA6, kS6, kL7, kA7, kS7, kC8, kG8, kP8, kR8_0, kR8_1, kL9, kA9, kS9, kL10, kA10, kS10, kC11, kG11, kP11, kR11_0, kR11_1, kR11_2, kR11_3, kL12, kA12, kS12, kL13, kA13, kS13, kL14, kA14, kS14, kL15, kA15, kS15, kC16, kG16, kP16, kR16_0, kR16_1, kL17, kA17, kS17, kL18, kA18, kS18, kC19, kG19, kP19, kR19_0, kL20, kL141, kL146, kA146, kS146, kL151, kA151, kS151, kL156, kA156, kS156, kC157, kG157, kP157, kR157_0, kR157_1, kL158, kA158, kS158, kL159, kA159, kS159, kC161, kG161, kP161, kR161_0, kR161_1, kL162, kA162, kS162, kL163, kA163, kS163, kC165, kG165, kP165, kR165_0, kR165_1, kR165_2, kR165_3, kL166, kA166, kS166, kL167, kA167, kS167, kL168, kA168, kS168, kL169, kA169, kS169, kC170, kG170, kP170, kR170_0, kR170_1, kR170_2, kL171, kA171, kS171, kL172, kA172, kS172, kL173, kA173, kS173, kC174, kG174, kP174, kR174_0, kR174_1, kR174_2, kR174_3, kR174_4, kL175, kA175, kS175, kL176, kA176, kS176, kL177, kA177, kS177, kL178, kA178, kS178, kL179, kC180, kG180, kP180, kL181, kL182, kA182, kS182, kC183, kG183, kP183, kR183_1, kR183_3, kR183_5, kR183_6, kR183_7, kR183_8, kR183_9, kR183_21, kR183_26, kR183_27, kR183_30, kR183_31, kR183_33, kR183_34, kR183_36, kR183_37, kR183_38, kR183_39, kR183_40, kR183_41, kR183_42, kR183_43, kR183_44, kL184, kA184, kS184, kL185, kA185, kS185, kL186, kA186, kS186, kL187, kA187, kS187, kL188, kA188, kS188, kL189, kL190, kL191, kA191, kS191, kL192, kA192, kS192, kL193, kA193, kS193, kL194, kA194, kS194, kL195, kA195, kS195, kL196, kA196, kS196, kL197, kA197, kS197, kL198, kA198, kS198, kL199, kA199, kS199, kL200, kA200, kS200, kL201, kL202, kA202, kS202, kL203, kA203, kS203, kL204, kA204, kS204, kL205, kL206, kA206, kS206, states12_ok hS hG2, nn_le, Nat.le_refl]
        rfl
  · have hn0 : (nI (lvN g F) = 0) = False := eq_false (nI_ne0 (by omega) (by omega))
    obtain ⟨k, hk, hp, hki⟩ := lv_first (g := g) (F := F) (by omega)
    have q0 : I' 198 0 = iI ((k : Int) - 144) := by rw [← hki]; exact hK.2.2.2 k hk hp
    have hen := energyOf_ok (σ := τ) (J := xI τ) hS hL hk hp
    rw [hki, show nI 0 = (0 : Int32) from rfl] at hen
    refine ⟨nI (fb_ct (stk g F k (decide (x = 1))) (gSt g)), τ, xw τ I', ?_, ?_, INV_i H2.nop⟩
    · rw [A]
      unfold f_X11_stuck_j4
      simp (disch := first | assumption | omega) only [Option.bind_some, Option.map_some, xw_gR, xw_gN, xw_al, xw_ck, xw_uI, xw_ur, xup_at, xur_at, if_true, if_false, reduceIte, and_true, true_and, and_false, false_and, not_true_eq_false, not_false_eq_true, Nat.reduceEqDiff, eq_self, Nat.reduceAdd, Nat.reduceMul, kC1, kG1, kP1, kR1_0, kR1_1, kR1_2, kR1_3, kR1_4, kR1_5, kR1_6, kR1_7, kR1_8, kR1_9, kR1_10, kR1_11, kR1_12, kR1_13, kC2, kG2, kP2, kR2_0, kR2_1, kC3, kG3, kP3, kR3_0, kR3_1, kR3_2, kR3_3, kL4, kA4, kS4, kL5, kA5, kS5, kL6, kA6, kS6, kL7, kA7, kS7, kC8, kG8, kP8, kR8_0, kR8_1, kL9, kA9, kS9, kL10, kA10, kS10, kC11, kG11, kP11, kR11_0, kR11_1, kR11_2, kR11_3, kL12, kA12, kS12, kL13, kA13, kS13, kL14, kA14, kS14, kL15, kA15, kS15, kC16, kG16, kP16, kR16_0, kR16_1, kL17, kA17, kS17, kL18, kA18, kS18, kC19, kG19, kP19, kR19_0, kL20, kL141, kL146, kA146, kS146, kL151, kA151, kS151, kL156, kA156, kS156, kC157, kG157, kP157, kR157_0, kR157_1, kL158, kA158, kS158, kL159, kA159, kS159, kC161, kG161, kP161, kR161_0, kR161_1, kL162, kA162, kS162, kL163, kA163, kS163, kC165, kG165, kP165, kR165_0, kR165_1, kR165_2, kR165_3, kL166, kA166, kS166, kL167, kA167, kS167, kL168, kA168, kS168, kL169, kA169, kS169, kC170, kG170, kP170, kR170_0, kR170_1, kR170_2, kL171, kA171, kS171, kL172, kA172, kS172, kL173, kA173, kS173, kC174, kG174, kP174, kR174_0, kR174_1, kR174_2, kR174_3, kR174_4, kL175, kA175, kS175, kL176, kA176, kS176, kL177, kA177, kS177, kL178, kA178, kS178, kL179, kC180, kG180, kP180, kL181, kL182, kA182, kS182, kC183, kG183, kP183, kR183_1, kR183_3, kR183_5, kR183_6, kR183_7, kR183_8, kR183_9, kR183_21, kR183_26, kR183_27, kR183_30, kR183_31, kR183_33, kR183_34, kR183_36, kR183_37, kR183_38, kR183_39, kR183_40, kR183_41, kR183_42, kR183_43, kR183_44, kL184, kA184, kS184, kL185, kA185, kS185, kL186, kA186, kS186, kL187, kA187, kS187, kL188, kA188, kS188, kL189, kL190, kL191, kA191, kS191, kL192, kA192, kS192, kL193, kA193, kS193, kL194, kA194, kS194, kL195, kA195, kS195, kL196, kA196, kS196, kL197, kA197, kS197, kL198, kA198, kS198, kL199, kA199, kS199, kL200, kA200, kS200, kL201, kL202, kA202, kS202, kL203, kA203, kS203, kL204, kA204, kS204, kL205, kL206, kA206, kS206, hL.2.2.2.1, hn0, hen, states11_ok hS hG1]
      refine xforE (fun s : Nat => (nI (fb_ct (stk g F k (decide (x = 1))) s), nI s)) (gSt g) rfl (fun s hs => ?_) ?_
      · simp only [f_X11_stuck_b35]
        rw [if_neg (by rw [nn_le (by omega) (by omega)]; omega)]
        have hb := eE_b hg ho s
        have hq : (iI (eE g (zR F) s) = iI ((k : Int) - 144)) = (eE g (zR F) s = (k : Int) - 144) := iI_eq (by omega) (by omega) (by omega) (by omega)
        unfold f_X11_stuck_j76
        simp (disch := first | assumption | omega) only [Option.bind_some, Option.map_some, xw_gR, xw_gN, xw_al, xw_ck, xw_uI, xw_ur, xup_at, xur_at, if_true, if_false, reduceIte, and_true, true_and, and_false, false_and, not_true_eq_false, not_false_eq_true, Nat.reduceEqDiff, eq_self, Nat.reduceAdd, Nat.reduceMul, kC1, kG1, kP1, kR1_0, kR1_1, kR1_2, kR1_3, kR1_4, kR1_5, kR1_6, kR1_7, kR1_8, kR1_9, kR1_10, kR1_11, kR1_12, kR1_13, kC2, kG2, kP2, kR2_0, kR2_1, kC3, kG3, kP3, kR3_0, kR3_1, kR3_2, kR3_3, kL4, kA4, kS4, kL5, kA5, kS5, kL6, kA6, kS6, kL7, kA7, kS7, kC8, kG8, kP8, kR8_0, kR8_1, kL9, kA9, kS9, kL10, kA10, kS10, kC11, kG11, kP11, kR11_0, kR11_1, kR11_2, kR11_3, kL12, kA12, kS12, kL13, kA13, kS13, kL14, kA14, kS14, kL15, kA15, kS15, kC16, kG16, kP16, kR16_0, kR16_1, kL17, kA17, kS17, kL18, kA18, kS18, kC19, kG19, kP19, kR19_0, kL20, kL141, kL146, kA146, kS146, kL151, kA151, kS151, kL156, kA156, kS156, kC157, kG157, kP157, kR157_0, kR157_1, kL158, kA158, kS158, kL159, kA159, kS159, kC161, kG161, kP161, kR161_0, kR161_1, kL162, kA162, kS162, kL163, kA163, kS163, kC165, kG165, kP165, kR165_0, kR165_1, kR165_2, kR165_3, kL166, kA166, kS166, kL167, kA167, kS167, kL168, kA168, kS168, kL169, kA169, kS169, kC170, kG170, kP170, kR170_0, kR170_1, kR170_2, kL171, kA171, kS171, kL172, kA172, kS172, kL173, kA173, kS173, kC174, kG174, kP174, kR174_0, kR174_1, kR174_2, kR174_3, kR174_4, kL175, kA175, kS175, kL176, kA176, kS176, kL177, kA177, kS177, kL178, kA178, kS178, kL179, kC180, kG180, kP180, kL181, kL182, kA182, kS182, kC183, kG183, kP183, kR183_1, kR183_3, kR183_5, kR183_6, kR183_7, kR183_8, kR183_9, kR183_21, kR183_26, kR183_27, kR183_30, kR183_31, kR183_33, kR183_34, kR183_36, kR183_37, kR183_38, kR183_39, kR183_40, kR183_41, kR183_42, kR183_43, kR183_44, kL184, kA184, kS184, kL185, kA185, kS185, kL186, kA186, kS186, kL187, kA187, kS187, kL188, kA188, kS188, kL189, kL190, kL191, kA191, kS191, kL192, kA192, kS192, kL193, kA193, kS193, kL194, kA194, kS194, kL195, kA195, kS195, kL196, kA196, kS196, kL197, kA197, kS197, kL198, kA198, kS198, kL199, kA199, kS199, kL200, kA200, kS200, kL201, kL202, kA202, kS202, kL203, kA203, kS203, kL204, kA204, kS204, kL205, kL206, kA206, kS206, allows_ok hS hg suA_16 hSR, of_ok hS hEn hE (gSt_pos hs).2, hq, s3, noneLower_ok hS hg hG1 ho hEn hE hs s5, one0, hflag]
        rw [fb_ct_succ, ← nI_succ, ← nI_succ]
        unfold stk
        cases lW g F s with
        | false => simp
        | true =>
          rw [if_neg (by decide)]
          cases decide (x = 1) with
          | false =>
            cases hsp : (sp g F s (gSz g)).2 with
            | none => simp
            | some i => simp
          | true =>
            by_cases he : eE g (zR F) s = (k : Int) - 144
            · simp [he]
            · cases hsp : (sp g F s (gSz g)).2 with
              | none => simp [he]
              | some i => simp [he]
      · simp only [f_X11_stuck_b35]
        rw [if_pos (by rw [nn_le (by omega) (by omega)]; exact Nat.le_refl _)]
        rfl
    · rw [B]
      refine xforE (fun s : Nat => (nI (fb_ct (stk g F k (decide (x = 1))) s), nI s)) (gSt g) rfl (fun s hs => ?_) ?_
      · simp only [f_X12_stuck_b8]
        have hv := hK.1 s hs
        have hF2 := knF hg ho s
        have hb := eE_b hg ho s
        have z0 : xaI (xw τ I') 20 198 (0 : Int32) = some (I' 198 0) := kA198 hS (i := 0) (by decide)
        rw [fb_ct_succ]
        unfold stk
        cases hl : lW g F s with
        | false =>
          rw [hl] at hv hF2
          simp (disch := first | assumption | omega) only [Option.bind_some, Option.map_some, xw_gR, xw_gN, xw_al, xw_ck, xw_uI, xw_ur, xup_at, xur_at, if_true, if_false, reduceIte, and_true, true_and, and_false, false_and, not_true_eq_false, not_false_eq_true, Nat.reduceEqDiff, eq_self, Nat.reduceAdd, Nat.reduceMul, kC1, kG1, kP1, kR1_0, kR1_1, kR1_2, kR1_3, kR1_4, kR1_5, kR1_6, kR1_7, kR1_8, kR1_9, kR1_10, kR1_11, kR1_12, kR1_13, kC2, kG2, kP2, kR2_0, kR2_1, kC3, kG3, kP3, kR3_0, kR3_1, kR3_2, kR3_3, kL4, kA4, kS4, kL5, kA5, kS5, kL6, kA6, kS6, kL7, kA7, kS7, kC8, kG8, kP8, kR8_0, kR8_1, kL9, kA9, kS9, kL10, kA10, kS10, kC11, kG11, kP11, kR11_0, kR11_1, kR11_2, kR11_3, kL12, kA12, kS12, kL13, kA13, kS13, kL14, kA14, kS14, kL15, kA15, kS15, kC16, kG16, kP16, kR16_0, kR16_1, kL17, kA17, kS17, kL18, kA18, kS18, kC19, kG19, kP19, kR19_0, kL20, kL141, kL146, kA146, kS146, kL151, kA151, kS151, kL156, kA156, kS156, kC157, kG157, kP157, kR157_0, kR157_1, kL158, kA158, kS158, kL159, kA159, kS159, kC161, kG161, kP161, kR161_0, kR161_1, kL162, kA162, kS162, kL163, kA163, kS163, kC165, kG165, kP165, kR165_0, kR165_1, kR165_2, kR165_3, kL166, kA166, kS166, kL167, kA167, kS167, kL168, kA168, kS168, kL169, kA169, kS169, kC170, kG170, kP170, kR170_0, kR170_1, kR170_2, kL171, kA171, kS171, kL172, kA172, kS172, kL173, kA173, kS173, kC174, kG174, kP174, kR174_0, kR174_1, kR174_2, kR174_3, kR174_4, kL175, kA175, kS175, kL176, kA176, kS176, kL177, kA177, kS177, kL178, kA178, kS178, kL179, kC180, kG180, kP180, kL181, kL182, kA182, kS182, kC183, kG183, kP183, kR183_1, kR183_3, kR183_5, kR183_6, kR183_7, kR183_8, kR183_9, kR183_21, kR183_26, kR183_27, kR183_30, kR183_31, kR183_33, kR183_34, kR183_36, kR183_37, kR183_38, kR183_39, kR183_40, kR183_41, kR183_42, kR183_43, kR183_44, kL184, kA184, kS184, kL185, kA185, kS185, kL186, kA186, kS186, kL187, kA187, kS187, kL188, kA188, kS188, kL189, kL190, kL191, kA191, kS191, kL192, kA192, kS192, kL193, kA193, kS193, kL194, kA194, kS194, kL195, kA195, kS195, kL196, kA196, kS196, kL197, kA197, kS197, kL198, kA198, kS198, kL199, kA199, kS199, kL200, kA200, kS200, kL201, kL202, kA202, kS202, kL203, kA203, kS203, kL204, kA204, kS204, kL205, kL206, kA206, kS206, states12_ok hS hG2, nn_le, show ¬ (gSt g ≤ s) by omega, hv, hF2]
          simp [nI_succ]
        | true =>
          have hst := steep12_ok (σ := τ) (J := I') hS hG2 ho hK hs hl
          have hgl := ground_le hg ho hki hs hl
          rw [hl] at hv hF2
          rw [if_pos rfl] at hv hF2
          have hq : (iI (eE g (zR F) s) ≤ iI ((k : Int) - 144)) = (eE g (zR F) s = (k : Int) - 144) := by
            rw [iI_le (by omega) (by omega) (by omega) (by omega)]; apply propext; omega
          unfold f_X12_stuck_j47
          simp (disch := first | assumption | omega) only [Option.bind_some, Option.map_some, xw_gR, xw_gN, xw_al, xw_ck, xw_uI, xw_ur, xup_at, xur_at, if_true, if_false, reduceIte, and_true, true_and, and_false, false_and, not_true_eq_false, not_false_eq_true, Nat.reduceEqDiff, eq_self, Nat.reduceAdd, Nat.reduceMul, kC1, kG1, kP1, kR1_0, kR1_1, kR1_2, kR1_3, kR1_4, kR1_5, kR1_6, kR1_7, kR1_8, kR1_9, kR1_10, kR1_11, kR1_12, kR1_13, kC2, kG2, kP2, kR2_0, kR2_1, kC3, kG3, kP3, kR3_0, kR3_1, kR3_2, kR3_3, kL4, kA4, kS4, kL5, kA5, kS5, kL6, kA6, kS6, kL7, kA7, kS7, kC8, kG8, kP8, kR8_0, kR8_1, kL9, kA9, kS9, kL10, kA10, kS10, kC11, kG11, kP11, kR11_0, kR11_1, kR11_2, kR11_3, kL12, kA12, kS12, kL13, kA13, kS13, kL14, kA14, kS14, kL15, kA15, kS15, kC16, kG16, kP16, kR16_0, kR16_1, kL17, kA17, kS17, kL18, kA18, kS18, kC19, kG19, kP19, kR19_0, kL20, kL141, kL146, kA146, kS146, kL151, kA151, kS151, kL156, kA156, kS156, kC157, kG157, kP157, kR157_0, kR157_1, kL158, kA158, kS158, kL159, kA159, kS159, kC161, kG161, kP161, kR161_0, kR161_1, kL162, kA162, kS162, kL163, kA163, kS163, kC165, kG165, kP165, kR165_0, kR165_1, kR165_2, kR165_3, kL166, kA166, kS166, kL167, kA167, kS167, kL168, kA168, kS168, kL169, kA169, kS169, kC170, kG170, kP170, kR170_0, kR170_1, kR170_2, kL171, kA171, kS171, kL172, kA172, kS172, kL173, kA173, kS173, kC174, kG174, kP174, kR174_0, kR174_1, kR174_2, kR174_3, kR174_4, kL175, kA175, kS175, kL176, kA176, kS176, kL177, kA177, kS177, kL178, kA178, kS178, kL179, kC180, kG180, kP180, kL181, kL182, kA182, kS182, kC183, kG183, kP183, kR183_1, kR183_3, kR183_5, kR183_6, kR183_7, kR183_8, kR183_9, kR183_21, kR183_26, kR183_27, kR183_30, kR183_31, kR183_33, kR183_34, kR183_36, kR183_37, kR183_38, kR183_39, kR183_40, kR183_41, kR183_42, kR183_43, kR183_44, kL184, kA184, kS184, kL185, kA185, kS185, kL186, kA186, kS186, kL187, kA187, kS187, kL188, kA188, kS188, kL189, kL190, kL191, kA191, kS191, kL192, kA192, kS192, kL193, kA193, kS193, kL194, kA194, kS194, kL195, kA195, kS195, kL196, kA196, kS196, kL197, kA197, kS197, kL198, kA198, kS198, kL199, kA199, kS199, kL200, kA200, kS200, kL201, kL202, kA202, kS202, kL203, kA203, kS203, kL204, kA204, kS204, kL205, kL206, kA206, kS206, states12_ok hS hG2, nn_le, show ¬ (gSt g ≤ s) by omega, hv, hF2, hst, oI_n0 (noS s), z0, q0, hq, hflag, Bool.true_eq_false]
          rw [← nI_succ, ← nI_succ]
          cases decide (x = 1) with
          | false =>
            cases hsp : (sp g F s (gSz g)).2 with
            | none => simp
            | some i => simp
          | true =>
            by_cases he : eE g (zR F) s = (k : Int) - 144
            · simp [he]
            · cases hsp : (sp g F s (gSz g)).2 with
              | none => simp [he]
              | some i => simp [he]
      · simp only [f_X12_stuck_b8]
        simp (disch := first | assumption | omega) only [Option.bind_some, Option.map_some, xw_gR, xw_gN, xw_al, xw_ck, xw_uI, xw_ur, xup_at, xur_at, if_true, if_false, reduceIte, and_true, true_and, and_false, false_and, not_true_eq_false, not_false_eq_true, Nat.reduceEqDiff, eq_self, Nat.reduceAdd, Nat.reduceMul, kC1, kG1, kP1, kR1_0, kR1_1, kR1_2, kR1_3, kR1_4, kR1_5, kR1_6, kR1_7, kR1_8, kR1_9, kR1_10, kR1_11, kR1_12, kR1_13, kC2, kG2, kP2, kR2_0, kR2_1, kC3, kG3, kP3, kR3_0, kR3_1, kR3_2, kR3_3, kL4, kA4, kS4, kL5, kA5, kS5, kL6, kA6, kS6, kL7, kA7, kS7, kC8, kG8, kP8, kR8_0, kR8_1, kL9, kA9, kS9, kL10, kA10, kS10, kC11, kG11, kP11, kR11_0, kR11_1, kR11_2, kR11_3, kL12, kA12, kS12, kL13, kA13, kS13, kL14, kA14, kS14, kL15, kA15, kS15, kC16, kG16, kP16, kR16_0, kR16_1, kL17, kA17, kS17, kL18, kA18, kS18, kC19, kG19, kP19, kR19_0, kL20, kL141, kL146, kA146, kS146, kL151, kA151, kS151, kL156, kA156, kS156, kC157, kG157, kP157, kR157_0, kR157_1, kL158, kA158, kS158, kL159, kA159, kS159, kC161, kG161, kP161, kR161_0, kR161_1, kL162, kA162, kS162, kL163, kA163, kS163, kC165, kG165, kP165, kR165_0, kR165_1, kR165_2, kR165_3, kL166, kA166, kS166, kL167, kA167, kS167, kL168, kA168, kS168, kL169, kA169, kS169, kC170, kG170, kP170, kR170_0, kR170_1, kR170_2, kL171, kA171, kS171, kL172, kA172, kS172, kL173, kA173, kS173, kC174, kG174, kP174, kR174_0, kR174_1, kR174_2, kR174_3, kR174_4, kL175, kA175, kS175, kL176, kA176, kS176, kL177, kA177, kS177, kL178, kA178, kS178, kL179, kC180, kG180, kP180, kL181, kL182, kA182, kS182, kC183, kG183, kP183, kR183_1, kR183_3, kR183_5, kR183_6, kR183_7, kR183_8, kR183_9, kR183_21, kR183_26, kR183_27, kR183_30, kR183_31, kR183_33, kR183_34, kR183_36, kR183_37, kR183_38, kR183_39, kR183_40, kR183_41, kR183_42, kR183_43, kR183_44, kL184, kA184, kS184, kL185, kA185, kS185, kL186, kA186, kS186, kL187, kA187, kS187, kL188, kA188, kS188, kL189, kL190, kL191, kA191, kS191, kL192, kA192, kS192, kL193, kA193, kS193, kL194, kA194, kS194, kL195, kA195, kS195, kL196, kA196, kS196, kL197, kA197, kS197, kL198, kA198, kS198, kL199, kA199, kS199, kL200, kA200, kS200, kL201, kL202, kA202, kS202, kL203, kA203, kS203, kL204, kA204, kS204, kL205, kL206, kA206, kS206, states12_ok hS hG2, nn_le, Nat.le_refl]
end
section
/-! stiff -/
def mnE (E : Nat → Int) (p : Nat → Bool) : Nat → Option Int
  | 0 => none
  | s + 1 => if p s then (match mnE E p s with
    | none => some (E s)
    | some m => some (min m (E s))) else mnE E p s
theorem mnE_b {E : Nat → Int} (p : Nat → Bool) (h : ∀ s, -144 ≤ E s ∧ E s ≤ 144) : ∀ s m, mnE E p s = some m → -144 ≤ m ∧ m ≤ 144
  | 0, m => fun h => nomatch h
  | s + 1, m => fun hm => by
    have ih := mnE_b p h s
    have hs := h s
    rw [mnE] at hm
    split at hm
    · split at hm
      · cases hm; exact hs
      · next m' hm' =>
        have := ih m' hm'
        cases hm
        omega
    · exact ih m hm
def enO (c : Int) (o : Option Int) : Int32 := match o with
  | none => iI c
  | some m => iI m
theorem xmin_i {a b : Int} (h1 : -2147483648 ≤ a) (h2 : a < 2147483648) (h3 : -2147483648 ≤ b) (h4 : b < 2147483648) : xmin (iI a) (iI b) = iI (min a b) := by
  unfold xmin
  simp only [iI_lt h3 h4 h1 h2]
  split
  · congr 1; omega
  · congr 1; omega
theorem isLawful11_ok {σ : XS} {I : Nat → Nat → Int32} {g : GD} {F : Nat → Int32} (hS : Shp σ) (hG : GRD I g) (h : SR g I 16 F) (x : Int32) : f_X11_isLawful (xw σ I) 1 x = some (if isB g F x then 1 else 0) := by
  have hSt := (gSt_b hG.1).1
  unfold f_X11_isLawful
  by_cases h0 : x < 0
  · rw [if_pos h0]
    have : isB g F x = false := by
      unfold isB
      have : x.toInt < 0 := (fa_lt _ _).mp h0
      simp; omega
    rw [this]; rfl
  · obtain ⟨s, hs, rfl⟩ := nn_of h0
    rw [if_neg h0]
    simp (disch := first | assumption | omega) only [Option.bind_some, Option.map_some, xw_gR, xw_gN, xw_al, xw_ck, xw_uI, xw_ur, xup_at, xur_at, if_true, if_false, reduceIte, and_true, true_and, and_false, false_and, not_true_eq_false, not_false_eq_true, Nat.reduceEqDiff, eq_self, Nat.reduceAdd, Nat.reduceMul, kC1, kG1, kP1, kR1_0, kR1_1, kR1_2, kR1_3, kR1_4, kR1_5, kR1_6, kR1_7, kR1_8, kR1_9, kR1_10, kR1_11, kR1_12, kR1_13, kC2, kG2, kP2, kR2_0, kR2_1, kC3, kG3, kP3, kR3_0, kR3_1, kR3_2, kR3_3, kL4, kA4, kS4, kL5, kA5, kS5, kL6, kA6, kS6, kL7, kA7, kS7, kC8, kG8, kP8, kR8_0, kR8_1, kL9, kA9, kS9, kL10, kA10, kS10, kC11, kG11, kP11, kR11_0, kR11_1, kR11_2, kR11_3, kL12, kA12, kS12, kL13, kA13, kS13, kL14, kA14, kS14, kL15, kA15, kS15, kC16, kG16, kP16, kR16_0, kR16_1, kL17, kA17, kS17, kL18, kA18, kS18, kC19, kG19, kP19, kR19_0, kL20, kL141, kL146, kA146, kS146, kL151, kA151, kS151, kL156, kA156, kS156, kC157, kG157, kP157, kR157_0, kR157_1, kL158, kA158, kS158, kL159, kA159, kS159, kC161, kG161, kP161, kR161_0, kR161_1, kL162, kA162, kS162, kL163, kA163, kS163, kC165, kG165, kP165, kR165_0, kR165_1, kR165_2, kR165_3, kL166, kA166, kS166, kL167, kA167, kS167, kL168, kA168, kS168, kL169, kA169, kS169, kC170, kG170, kP170, kR170_0, kR170_1, kR170_2, kL171, kA171, kS171, kL172, kA172, kS172, kL173, kA173, kS173, kC174, kG174, kP174, kR174_0, kR174_1, kR174_2, kR174_3, kR174_4, kL175, kA175, kS175, kL176, kA176, kS176, kL177, kA177, kS177, kL178, kA178, kS178, kL179, kC180, kG180, kP180, kL181, kL182, kA182, kS182, kC183, kG183, kP183, kR183_1, kR183_3, kR183_5, kR183_6, kR183_7, kR183_8, kR183_9, kR183_21, kR183_26, kR183_27, kR183_30, kR183_31, kR183_33, kR183_34, kR183_36, kR183_37, kR183_38, kR183_39, kR183_40, kR183_41, kR183_42, kR183_43, kR183_44, kL184, kA184, kS184, kL185, kA185, kS185, kL186, kA186, kS186, kL187, kA187, kS187, kL188, kA188, kS188, kL189, kL190, kL191, kA191, kS191, kL192, kA192, kS192, kL193, kA193, kS193, kL194, kA194, kS194, kL195, kA195, kS195, kL196, kA196, kS196, kL197, kA197, kS197, kL198, kA198, kS198, kL199, kA199, kS199, kL200, kA200, kS200, kL201, kL202, kA202, kS202, kL203, kA203, kS203, kL204, kA204, kS204, kL205, kL206, kA206, kS206, states11_ok hS hG, nn_le, allows_ok hS hG.1 suA_16 h]
    by_cases hq : gSt g ≤ s
    · rw [if_pos hq]
      have : isB g F (nI s) = false := by
        unfold isB
        rw [nI_toInt hs]
        simp; omega
      rw [this]; rfl
    · rw [if_neg hq, isB_n hG.1 (by omega)]
      cases lW g F s <;> rfl
def stfR (A U : Option Int) : Int32 := match A, U with
  | some a, some b => iI b - iI a
  | _, _ => -100000
theorem op_stiff : Op_stiff INV := by
  intro n σ hn ⟨g, gT, gP, st, H⟩ x y
  have hS0 := H.shp
  have hG0 := H.grd
  have hg := hG0.1
  have h16 := (gAll_b g hg).2.2.1
  have hSt := (gSt_b hg).1
  by_cases hx1 : isS g x = true
  · by_cases hy1 : isS g y = true
    · by_cases hxy : x = y
      · refine ⟨-100000, σ, σ, ?_, ?_, g, gT, gP, st, H.nop⟩
        · show f_X11_stiff (xw σ (xI σ)) 1 x y = _
          unfold f_X11_stiff
          simp (disch := first | assumption | omega) only [Option.bind_some, Option.map_some, xw_gR, xw_gN, xw_al, xw_ck, xw_uI, xw_ur, xup_at, xur_at, if_true, if_false, reduceIte, and_true, true_and, and_false, false_and, not_true_eq_false, not_false_eq_true, Nat.reduceEqDiff, eq_self, Nat.reduceAdd, Nat.reduceMul, kC1, kG1, kP1, kR1_0, kR1_1, kR1_2, kR1_3, kR1_4, kR1_5, kR1_6, kR1_7, kR1_8, kR1_9, kR1_10, kR1_11, kR1_12, kR1_13, kC2, kG2, kP2, kR2_0, kR2_1, kC3, kG3, kP3, kR3_0, kR3_1, kR3_2, kR3_3, kL4, kA4, kS4, kL5, kA5, kS5, kL6, kA6, kS6, kL7, kA7, kS7, kC8, kG8, kP8, kR8_0, kR8_1, kL9, kA9, kS9, kL10, kA10, kS10, kC11, kG11, kP11, kR11_0, kR11_1, kR11_2, kR11_3, kL12, kA12, kS12, kL13, kA13, kS13, kL14, kA14, kS14, kL15, kA15, kS15, kC16, kG16, kP16, kR16_0, kR16_1, kL17, kA17, kS17, kL18, kA18, kS18, kC19, kG19, kP19, kR19_0, kL20, kL141, kL146, kA146, kS146, kL151, kA151, kS151, kL156, kA156, kS156, kC157, kG157, kP157, kR157_0, kR157_1, kL158, kA158, kS158, kL159, kA159, kS159, kC161, kG161, kP161, kR161_0, kR161_1, kL162, kA162, kS162, kL163, kA163, kS163, kC165, kG165, kP165, kR165_0, kR165_1, kR165_2, kR165_3, kL166, kA166, kS166, kL167, kA167, kS167, kL168, kA168, kS168, kL169, kA169, kS169, kC170, kG170, kP170, kR170_0, kR170_1, kR170_2, kL171, kA171, kS171, kL172, kA172, kS172, kL173, kA173, kS173, kC174, kG174, kP174, kR174_0, kR174_1, kR174_2, kR174_3, kR174_4, kL175, kA175, kS175, kL176, kA176, kS176, kL177, kA177, kS177, kL178, kA178, kS178, kL179, kC180, kG180, kP180, kL181, kL182, kA182, kS182, kC183, kG183, kP183, kR183_1, kR183_3, kR183_5, kR183_6, kR183_7, kR183_8, kR183_9, kR183_21, kR183_26, kR183_27, kR183_30, kR183_31, kR183_33, kR183_34, kR183_36, kR183_37, kR183_38, kR183_39, kR183_40, kR183_41, kR183_42, kR183_43, kR183_44, kL184, kA184, kS184, kL185, kA185, kS185, kL186, kA186, kS186, kL187, kA187, kS187, kL188, kA188, kS188, kL189, kL190, kL191, kA191, kS191, kL192, kA192, kS192, kL193, kA193, kS193, kL194, kA194, kS194, kL195, kA195, kS195, kL196, kA196, kS196, kL197, kA197, kS197, kL198, kA198, kS198, kL199, kA199, kS199, kL200, kA200, kS200, kL201, kL202, kA202, kS202, kL203, kA203, kS203, kL204, kA204, kS204, kL205, kL206, kA206, kS206, hasSite_ok hS0 hG0, hx1, hy1, one0, hxy]
          rfl
        · show f_X12_stiff (xw σ (xI σ)) 183 x y = _
          unfold f_X12_stiff
          simp (disch := first | assumption | omega) only [Option.bind_some, Option.map_some, xw_gR, xw_gN, xw_al, xw_ck, xw_uI, xw_ur, xup_at, xur_at, if_true, if_false, reduceIte, and_true, true_and, and_false, false_and, not_true_eq_false, not_false_eq_true, Nat.reduceEqDiff, eq_self, Nat.reduceAdd, Nat.reduceMul, kC1, kG1, kP1, kR1_0, kR1_1, kR1_2, kR1_3, kR1_4, kR1_5, kR1_6, kR1_7, kR1_8, kR1_9, kR1_10, kR1_11, kR1_12, kR1_13, kC2, kG2, kP2, kR2_0, kR2_1, kC3, kG3, kP3, kR3_0, kR3_1, kR3_2, kR3_3, kL4, kA4, kS4, kL5, kA5, kS5, kL6, kA6, kS6, kL7, kA7, kS7, kC8, kG8, kP8, kR8_0, kR8_1, kL9, kA9, kS9, kL10, kA10, kS10, kC11, kG11, kP11, kR11_0, kR11_1, kR11_2, kR11_3, kL12, kA12, kS12, kL13, kA13, kS13, kL14, kA14, kS14, kL15, kA15, kS15, kC16, kG16, kP16, kR16_0, kR16_1, kL17, kA17, kS17, kL18, kA18, kS18, kC19, kG19, kP19, kR19_0, kL20, kL141, kL146, kA146, kS146, kL151, kA151, kS151, kL156, kA156, kS156, kC157, kG157, kP157, kR157_0, kR157_1, kL158, kA158, kS158, kL159, kA159, kS159, kC161, kG161, kP161, kR161_0, kR161_1, kL162, kA162, kS162, kL163, kA163, kS163, kC165, kG165, kP165, kR165_0, kR165_1, kR165_2, kR165_3, kL166, kA166, kS166, kL167, kA167, kS167, kL168, kA168, kS168, kL169, kA169, kS169, kC170, kG170, kP170, kR170_0, kR170_1, kR170_2, kL171, kA171, kS171, kL172, kA172, kS172, kL173, kA173, kS173, kC174, kG174, kP174, kR174_0, kR174_1, kR174_2, kR174_3, kR174_4, kL175, kA175, kS175, kL176, kA176, kS176, kL177, kA177, kS177, kL178, kA178, kS178, kL179, kC180, kG180, kP180, kL181, kL182, kA182, kS182, kC183, kG183, kP183, kR183_1, kR183_3, kR183_5, kR183_6, kR183_7, kR183_8, kR183_9, kR183_21, kR183_26, kR183_27, kR183_30, kR183_31, kR183_33, kR183_34, kR183_36, kR183_37, kR183_38, kR183_39, kR183_40, kR183_41, kR183_42, kR183_43, kR183_44, kL184, kA184, kS184, kL185, kA185, kS185, kL186, kA186, kS186, kL187, kA187, kS187, kL188, kA188, kS188, kL189, kL190, kL191, kA191, kS191, kL192, kA192, kS192, kL193, kA193, kS193, kL194, kA194, kS194, kL195, kA195, kS195, kL196, kA196, kS196, kL197, kA197, kS197, kL198, kA198, kS198, kL199, kA199, kS199, kL200, kA200, kS200, kL201, kL202, kA202, kS202, kL203, kA203, kS203, kL204, kA204, kS204, kL205, kL206, kA206, kS206, isSite_ok hS0 hG0, hx1, hy1, one0, hxy]
          rfl
      · obtain ⟨τ, e1, H1, K1, u1, l1⟩ := energiesNow_ok (by omega) H
        obtain ⟨I', e2, H2, K2, u2⟩ := knows_ok H1
        have hS := H1.shp
        have hG1 := H1.grd
        have hG2 : GRD I' g := H2.grd
        obtain ⟨F, hF⟩ : ∃ F, F = xI τ 191 := ⟨_, rfl⟩
        have r2 : I' 191 = F := by rw [hF]; funext k; exact u2 191 k (by omega) (by omega)
        have hSR := H1.now.1
        have ho := H1.now.2.1
        rw [r2] at K2
        rw [← hF] at K1 hSR ho
        obtain ⟨c, a, hEn, ha, hcn⟩ := H1.en157
        obtain ⟨i, hi, rfl⟩ := isS_t hx1
        obtain ⟨j, hj, rfl⟩ := isS_t hy1
        have hEb : ∀ s, -144 ≤ eE g (zR F) s ∧ eE g (zR F) s ≤ 144 := fun s => eE_b hg ho s
        obtain ⟨pA, hpA⟩ : ∃ p : Nat → Bool, p = fun s => lW g F s && decide (s.testBit i = s.testBit j) := ⟨_, rfl⟩
        obtain ⟨pU, hpU⟩ : ∃ p : Nat → Bool, p = fun s => lW g F s && !decide (s.testBit i = s.testBit j) := ⟨_, rfl⟩
        obtain ⟨A, hA⟩ : ∃ A, A = mnE (eE g (zR F)) pA (gSt g) := ⟨_, rfl⟩
        obtain ⟨U, hU⟩ : ∃ U, U = mnE (eE g (zR F)) pU (gSt g) := ⟨_, rfl⟩
        have hAb : ∀ m, A = some m → -144 ≤ m ∧ m ≤ 144 := fun m h => mnE_b pA hEb (gSt g) m (hA ▸ h)
        have hUb : ∀ m, U = some m → -144 ≤ m ∧ m ≤ 144 := fun m h => mnE_b pU hEb (gSt g) m (hU ▸ h)
        obtain ⟨r, hr⟩ : ∃ r : Int32, r = stfR A U := ⟨_, rfl⟩
        refine ⟨r, τ, xw τ I', ?_, ?_, INV_i H2.nop⟩
        · have e1' : f_X11_energiesNow (xw σ (xI σ)) 1 = some (157, τ) := e1
          show f_X11_stiff (xw σ (xI σ)) 1 (nI i) (nI j) = _
          unfold f_X11_stiff
          simp (disch := first | assumption | omega) only [Option.bind_some, Option.map_some, xw_gR, xw_gN, xw_al, xw_ck, xw_uI, xw_ur, xup_at, xur_at, if_true, if_false, reduceIte, and_true, true_and, and_false, false_and, not_true_eq_false, not_false_eq_true, Nat.reduceEqDiff, eq_self, Nat.reduceAdd, Nat.reduceMul, kC1, kG1, kP1, kR1_0, kR1_1, kR1_2, kR1_3, kR1_4, kR1_5, kR1_6, kR1_7, kR1_8, kR1_9, kR1_10, kR1_11, kR1_12, kR1_13, kC2, kG2, kP2, kR2_0, kR2_1, kC3, kG3, kP3, kR3_0, kR3_1, kR3_2, kR3_3, kL4, kA4, kS4, kL5, kA5, kS5, kL6, kA6, kS6, kL7, kA7, kS7, kC8, kG8, kP8, kR8_0, kR8_1, kL9, kA9, kS9, kL10, kA10, kS10, kC11, kG11, kP11, kR11_0, kR11_1, kR11_2, kR11_3, kL12, kA12, kS12, kL13, kA13, kS13, kL14, kA14, kS14, kL15, kA15, kS15, kC16, kG16, kP16, kR16_0, kR16_1, kL17, kA17, kS17, kL18, kA18, kS18, kC19, kG19, kP19, kR19_0, kL20, kL141, kL146, kA146, kS146, kL151, kA151, kS151, kL156, kA156, kS156, kC157, kG157, kP157, kR157_0, kR157_1, kL158, kA158, kS158, kL159, kA159, kS159, kC161, kG161, kP161, kR161_0, kR161_1, kL162, kA162, kS162, kL163, kA163, kS163, kC165, kG165, kP165, kR165_0, kR165_1, kR165_2, kR165_3, kL166, kA166, kS166, kL167, kA167, kS167, kL168, kA168, kS168, kL169, kA169, kS169, kC170, kG170, kP170, kR170_0, kR170_1, kR170_2, kL171, kA171, kS171, kL172, kA172, kS172, kL173, kA173, kS173, kC174, kG174, kP174, kR174_0, kR174_1, kR174_2, kR174_3, kR174_4, kL175, kA175, kS175, kL176, kA176, kS176, kL177, kA177, kS177, kL178, kA178, kS178, kL179, kC180, kG180, kP180, kL181, kL182, kA182, kS182, kC183, kG183, kP183, kR183_1, kR183_3, kR183_5, kR183_6, kR183_7, kR183_8, kR183_9, kR183_21, kR183_26, kR183_27, kR183_30, kR183_31, kR183_33, kR183_34, kR183_36, kR183_37, kR183_38, kR183_39, kR183_40, kR183_41, kR183_42, kR183_43, kR183_44, kL184, kA184, kS184, kL185, kA185, kS185, kL186, kA186, kS186, kL187, kA187, kS187, kL188, kA188, kS188, kL189, kL190, kL191, kA191, kS191, kL192, kA192, kS192, kL193, kA193, kS193, kL194, kA194, kS194, kL195, kA195, kS195, kL196, kA196, kS196, kL197, kA197, kS197, kL198, kA198, kS198, kL199, kA199, kS199, kL200, kA200, kS200, kL201, kL202, kA202, kS202, kL203, kA203, kS203, kL204, kA204, kS204, kL205, kL206, kA206, kS206, hasSite_ok hS0 hG0, hx1, hy1, one0, hxy, e1', xnz_ok]
          show f_X11_stiff_j34 (xw τ (xI τ)) 1 (nI i) (nI j) 157 = _
          unfold f_X11_stiff_j34
          simp (disch := first | assumption | omega) only [Option.bind_some, Option.map_some, xw_gR, xw_gN, xw_al, xw_ck, xw_uI, xw_ur, xup_at, xur_at, if_true, if_false, reduceIte, and_true, true_and, and_false, false_and, not_true_eq_false, not_false_eq_true, Nat.reduceEqDiff, eq_self, Nat.reduceAdd, Nat.reduceMul, kC1, kG1, kP1, kR1_0, kR1_1, kR1_2, kR1_3, kR1_4, kR1_5, kR1_6, kR1_7, kR1_8, kR1_9, kR1_10, kR1_11, kR1_12, kR1_13, kC2, kG2, kP2, kR2_0, kR2_1, kC3, kG3, kP3, kR3_0, kR3_1, kR3_2, kR3_3, kL4, kA4, kS4, kL5, kA5, kS5, kL6, kA6, kS6, kL7, kA7, kS7, kC8, kG8, kP8, kR8_0, kR8_1, kL9, kA9, kS9, kL10, kA10, kS10, kC11, kG11, kP11, kR11_0, kR11_1, kR11_2, kR11_3, kL12, kA12, kS12, kL13, kA13, kS13, kL14, kA14, kS14, kL15, kA15, kS15, kC16, kG16, kP16, kR16_0, kR16_1, kL17, kA17, kS17, kL18, kA18, kS18, kC19, kG19, kP19, kR19_0, kL20, kL141, kL146, kA146, kS146, kL151, kA151, kS151, kL156, kA156, kS156, kC157, kG157, kP157, kR157_0, kR157_1, kL158, kA158, kS158, kL159, kA159, kS159, kC161, kG161, kP161, kR161_0, kR161_1, kL162, kA162, kS162, kL163, kA163, kS163, kC165, kG165, kP165, kR165_0, kR165_1, kR165_2, kR165_3, kL166, kA166, kS166, kL167, kA167, kS167, kL168, kA168, kS168, kL169, kA169, kS169, kC170, kG170, kP170, kR170_0, kR170_1, kR170_2, kL171, kA171, kS171, kL172, kA172, kS172, kL173, kA173, kS173, kC174, kG174, kP174, kR174_0, kR174_1, kR174_2, kR174_3, kR174_4, kL175, kA175, kS175, kL176, kA176, kS176, kL177, kA177, kS177, kL178, kA178, kS178, kL179, kC180, kG180, kP180, kL181, kL182, kA182, kS182, kC183, kG183, kP183, kR183_1, kR183_3, kR183_5, kR183_6, kR183_7, kR183_8, kR183_9, kR183_21, kR183_26, kR183_27, kR183_30, kR183_31, kR183_33, kR183_34, kR183_36, kR183_37, kR183_38, kR183_39, kR183_40, kR183_41, kR183_42, kR183_43, kR183_44, kL184, kA184, kS184, kL185, kA185, kS185, kL186, kA186, kS186, kL187, kA187, kS187, kL188, kA188, kS188, kL189, kL190, kL191, kA191, kS191, kL192, kA192, kS192, kL193, kA193, kS193, kL194, kA194, kS194, kL195, kA195, kS195, kL196, kA196, kS196, kL197, kA197, kS197, kL198, kA198, kS198, kL199, kA199, kS199, kL200, kA200, kS200, kL201, kL202, kA202, kS202, kL203, kA203, kS203, kL204, kA204, kS204, kL205, kL206, kA206, kS206, states11_ok hS hG1]
          refine xforE (fun s : Nat => (enO 145 (mnE (eE g (zR F)) pU s), enO 145 (mnE (eE g (zR F)) pA s), nI s)) (gSt g) rfl (fun s hs => ?_) ?_
          · simp only [f_X11_stiff_b56]
            rw [if_neg (by rw [nn_le (by omega) (by omega)]; omega)]
            simp (disch := first | assumption | omega) only [Option.bind_some, Option.map_some, xw_gR, xw_gN, xw_al, xw_ck, xw_uI, xw_ur, xup_at, xur_at, if_true, if_false, reduceIte, and_true, true_and, and_false, false_and, not_true_eq_false, not_false_eq_true, Nat.reduceEqDiff, eq_self, Nat.reduceAdd, Nat.reduceMul, kC1, kG1, kP1, kR1_0, kR1_1, kR1_2, kR1_3, kR1_4, kR1_5, kR1_6, kR1_7, kR1_8, kR1_9, kR1_10, kR1_11, kR1_12, kR1_13, kC2, kG2, kP2, kR2_0, kR2_1, kC3, kG3, kP3, kR3_0, kR3_1, kR3_2, kR3_3, kL4, kA4, kS4, kL5, kA5, kS5, kL6, kA6, kS6, kL7, kA7, kS7, kC8, kG8, kP8, kR8_0, kR8_1, kL9, kA9, kS9, kL10, kA10, kS10, kC11, kG11, kP11, kR11_0, kR11_1, kR11_2, kR11_3, kL12, kA12, kS12, kL13, kA13, kS13, kL14, kA14, kS14, kL15, kA15, kS15, kC16, kG16, kP16, kR16_0, kR16_1, kL17, kA17, kS17, kL18, kA18, kS18, kC19, kG19, kP19, kR19_0, kL20, kL141, kL146, kA146, kS146, kL151, kA151, kS151, kL156, kA156, kS156, kC157, kG157, kP157, kR157_0, kR157_1, kL158, kA158, kS158, kL159, kA159, kS159, kC161, kG161, kP161, kR161_0, kR161_1, kL162, kA162, kS162, kL163, kA163, kS163, kC165, kG165, kP165, kR165_0, kR165_1, kR165_2, kR165_3, kL166, kA166, kS166, kL167, kA167, kS167, kL168, kA168, kS168, kL169, kA169, kS169, kC170, kG170, kP170, kR170_0, kR170_1, kR170_2, kL171, kA171, kS171, kL172, kA172, kS172, kL173, kA173, kS173, kC174, kG174, kP174, kR174_0, kR174_1, kR174_2, kR174_3, kR174_4, kL175, kA175, kS175, kL176, kA176, kS176, kL177, kA177, kS177, kL178, kA178, kS178, kL179, kC180, kG180, kP180, kL181, kL182, kA182, kS182, kC183, kG183, kP183, kR183_1, kR183_3, kR183_5, kR183_6, kR183_7, kR183_8, kR183_9, kR183_21, kR183_26, kR183_27, kR183_30, kR183_31, kR183_33, kR183_34, kR183_36, kR183_37, kR183_38, kR183_39, kR183_40, kR183_41, kR183_42, kR183_43, kR183_44, kL184, kA184, kS184, kL185, kA185, kS185, kL186, kA186, kS186, kL187, kA187, kS187, kL188, kA188, kS188, kL189, kL190, kL191, kA191, kS191, kL192, kA192, kS192, kL193, kA193, kS193, kL194, kA194, kS194, kL195, kA195, kS195, kL196, kA196, kS196, kL197, kA197, kS197, kL198, kA198, kS198, kL199, kA199, kS199, kL200, kA200, kS200, kL201, kL202, kA202, kS202, kL203, kA203, kS203, kL204, kA204, kS204, kL205, kL206, kA206, kS206, allows_ok hS hg suA_16 hSR, of_ok hS hEn K1 (gSt_pos hs).2, bitOf_ok (show s < 2147483648 by omega) (show i < 32 by omega), bitOf_ok (show s < 2147483648 by omega) (show j < 32 by omega), bI_eq]
            rw [← nI_succ]
            have hb := hEb s
            have xe : ∀ o, (∀ m, o = some m → -144 ≤ m ∧ m ≤ 144) → xmin (enO 145 o) (iI (eE g (zR F) s)) = enO 145 (match o with | none => some (eE g (zR F) s) | some m => some (min m (eE g (zR F) s))) := by
              intro o ho
              cases o with
              | none => simp only [enO]; rw [xmin_i (by omega) (by omega) (by omega) (by omega)]; congr 1; omega
              | some m => have := ho m rfl; simp only [enO]; rw [xmin_i (by omega) (by omega) (by omega) (by omega)]
            show _ = some (Sum.inl (enO 145 (mnE (eE g (zR F)) pU (s + 1)), enO 145 (mnE (eE g (zR F)) pA (s + 1)), nI (s + 1)))
            have vA : pA s = (lW g F s && decide (s.testBit i = s.testBit j)) := by rw [hpA]
            have vU : pU s = (lW g F s && !decide (s.testBit i = s.testBit j)) := by rw [hpU]
            have sA := xe _ (fun m h => mnE_b pA hEb s m h)
            have sU := xe _ (fun m h => mnE_b pU hEb s m h)
            rw [mnE, mnE, vA, vU]
            cases lW g F s with
            | false => simp
            | true =>
              by_cases hbb : s.testBit i = s.testBit j
              · simp only [hbb, decide_true, Bool.and_true, if_true, Bool.not_true, Bool.and_false, Bool.false_eq_true, if_false, one0]
                rw [sA]
              · simp only [hbb, decide_false, Bool.and_true, if_true, Bool.not_false, Bool.and_false, Bool.false_eq_true, if_false, one0]
                rw [sU]
          · simp only [f_X11_stiff_b56]
            rw [if_pos (by rw [nn_le (by omega) (by omega)]; exact Nat.le_refl _), ← hA, ← hU, hr]
            unfold f_X11_stiff_j151
            have nm : ∀ m, -144 ≤ m → m ≤ 144 → (iI m = (145 : Int32)) = False := fun m h1 h2 => by
              rw [show (145 : Int32) = iI 145 from rfl, iI_eq (by omega) (by omega) (by omega) (by omega)]; exact eq_false (by omega)
            have nM : (iI 145 = (145 : Int32)) = True := eq_true rfl
            cases A with
            | none => simp only [enO, nM, if_true]; rw [if_neg (by decide)]; rfl
            | some a =>
              have qa := hAb a rfl
              cases U with
              | none => simp only [enO, nM, nm a qa.1 qa.2, if_true, if_false]; rw [if_neg (by decide)]; rfl
              | some b =>
                have qb := hUb b rfl
                simp only [enO, nm a qa.1 qa.2, nm b qb.1 qb.2, if_false, if_true]; rfl
        · unfold f_X12_stiff
          have q1 : f_X12_isSite τ 183 (nI i) = some 1 := by
            have := isSite_ok (σ := τ) (I := xI τ) hS hG1 (nI i)
            rw [hx1, if_pos rfl] at this
            exact this
          have q2 : f_X12_isSite τ 183 (nI j) = some 1 := by
            have := isSite_ok (σ := τ) (I := xI τ) hS hG1 (nI j)
            rw [hy1, if_pos rfl] at this
            exact this
          rw [xck_ok (sT183 hS), Option.bind_some, q1, Option.bind_some, if_neg (by decide), Option.bind_some, q2, Option.bind_some, if_neg (by decide), if_neg hxy, Option.bind_some, e2, Option.bind_some]
          refine xforE (fun s : Nat => (enO 100000 (mnE (eE g (zR F)) pA s), enO 100000 (mnE (eE g (zR F)) pU s), nI s)) (gSt g) rfl (fun s hs => ?_) ?_
          · simp only [f_X12_stiff_b41]
            have hv := K2.1 s hs
            have hb := hEb s
            simp (disch := first | assumption | omega) only [Option.bind_some, Option.map_some, xw_gR, xw_gN, xw_al, xw_ck, xw_uI, xw_ur, xup_at, xur_at, if_true, if_false, reduceIte, and_true, true_and, and_false, false_and, not_true_eq_false, not_false_eq_true, Nat.reduceEqDiff, eq_self, Nat.reduceAdd, Nat.reduceMul, kC1, kG1, kP1, kR1_0, kR1_1, kR1_2, kR1_3, kR1_4, kR1_5, kR1_6, kR1_7, kR1_8, kR1_9, kR1_10, kR1_11, kR1_12, kR1_13, kC2, kG2, kP2, kR2_0, kR2_1, kC3, kG3, kP3, kR3_0, kR3_1, kR3_2, kR3_3, kL4, kA4, kS4, kL5, kA5, kS5, kL6, kA6, kS6, kL7, kA7, kS7, kC8, kG8, kP8, kR8_0, kR8_1, kL9, kA9, kS9, kL10, kA10, kS10, kC11, kG11, kP11, kR11_0, kR11_1, kR11_2, kR11_3, kL12, kA12, kS12, kL13, kA13, kS13, kL14, kA14, kS14, kL15, kA15, kS15, kC16, kG16, kP16, kR16_0, kR16_1, kL17, kA17, kS17, kL18, kA18, kS18, kC19, kG19, kP19, kR19_0, kL20, kL141, kL146, kA146, kS146, kL151, kA151, kS151, kL156, kA156, kS156, kC157, kG157, kP157, kR157_0, kR157_1, kL158, kA158, kS158, kL159, kA159, kS159, kC161, kG161, kP161, kR161_0, kR161_1, kL162, kA162, kS162, kL163, kA163, kS163, kC165, kG165, kP165, kR165_0, kR165_1, kR165_2, kR165_3, kL166, kA166, kS166, kL167, kA167, kS167, kL168, kA168, kS168, kL169, kA169, kS169, kC170, kG170, kP170, kR170_0, kR170_1, kR170_2, kL171, kA171, kS171, kL172, kA172, kS172, kL173, kA173, kS173, kC174, kG174, kP174, kR174_0, kR174_1, kR174_2, kR174_3, kR174_4, kL175, kA175, kS175, kL176, kA176, kS176, kL177, kA177, kS177, kL178, kA178, kS178, kL179, kC180, kG180, kP180, kL181, kL182, kA182, kS182, kC183, kG183, kP183, kR183_1, kR183_3, kR183_5, kR183_6, kR183_7, kR183_8, kR183_9, kR183_21, kR183_26, kR183_27, kR183_30, kR183_31, kR183_33, kR183_34, kR183_36, kR183_37, kR183_38, kR183_39, kR183_40, kR183_41, kR183_42, kR183_43, kR183_44, kL184, kA184, kS184, kL185, kA185, kS185, kL186, kA186, kS186, kL187, kA187, kS187, kL188, kA188, kS188, kL189, kL190, kL191, kA191, kS191, kL192, kA192, kS192, kL193, kA193, kS193, kL194, kA194, kS194, kL195, kA195, kS195, kL196, kA196, kS196, kL197, kA197, kS197, kL198, kA198, kS198, kL199, kA199, kS199, kL200, kA200, kS200, kL201, kL202, kA202, kS202, kL203, kA203, kS203, kL204, kA204, kS204, kL205, kL206, kA206, kS206, states12_ok hS hG2, nn_le, show ¬ (gSt g ≤ s) by omega, has_ok (show s < 2147483648 by omega) (show i < 32 by omega), has_ok (show s < 2147483648 by omega) (show j < 32 by omega), bI_eq, hv]
            rw [← nI_succ]
            have xu : ∀ o, (∀ m, o = some m → -144 ≤ m ∧ m ≤ 144) → (enO 100000 o ≤ nI 100000) = True := by
              intro o ho
              cases o with
              | none => exact eq_true (by decide)
              | some m => have := ho m rfl; simp only [enO]; rw [iI_n, iI_le (by omega) (by omega) (by omega) (by omega)]; exact eq_true (by omega)
            have xl : ∀ o, (∀ m, o = some m → -144 ≤ m ∧ m ≤ 144) → (if enO 100000 o ≤ iI (eE g (zR F) s) then enO 100000 o else iI (eE g (zR F) s)) = enO 100000 (match o with | none => some (eE g (zR F) s) | some m => some (min m (eE g (zR F) s))) := by
              intro o ho
              cases o with
              | none =>
                show (if iI 100000 ≤ iI (eE g (zR F) s) then iI 100000 else iI (eE g (zR F) s)) = iI (eE g (zR F) s)
                rw [if_neg (by rw [iI_le (by omega) (by omega) (by omega) (by omega)]; omega)]
              | some m =>
                have := ho m rfl
                show (if iI m ≤ iI (eE g (zR F) s) then iI m else iI (eE g (zR F) s)) = iI (min m (eE g (zR F) s))
                by_cases z : m ≤ eE g (zR F) s
                · rw [if_pos (by rw [iI_le (by omega) (by omega) (by omega) (by omega)]; exact z)]; congr 1; omega
                · rw [if_neg (by rw [iI_le (by omega) (by omega) (by omega) (by omega)]; exact z)]; congr 1; omega
            show _ = some (Sum.inl (enO 100000 (mnE (eE g (zR F)) pA (s + 1)), enO 100000 (mnE (eE g (zR F)) pU (s + 1)), nI (s + 1)))
            have bA := fun m h => mnE_b pA hEb s m h
            have bU := fun m h => mnE_b pU hEb s m h
            have sA := xl _ bA
            have sU := xl _ bU
            rw [mnE, mnE]
            have vA : pA s = (lW g F s && decide (s.testBit i = s.testBit j)) := by rw [hpA]
            have vU : pU s = (lW g F s && !decide (s.testBit i = s.testBit j)) := by rw [hpU]
            rw [vA, vU]
            cases lW g F s with
            | false => simp [xu _ bA, xu _ bU]
            | true =>
              by_cases hbb : s.testBit i = s.testBit j
              · simp only [hbb, decide_true, Bool.and_true, if_true, Bool.not_true, Bool.and_false, Bool.false_eq_true, if_false]
                rw [← sA]
                split <;> rfl
              · simp only [hbb, decide_false, Bool.and_true, if_true, Bool.not_false, Bool.and_false, Bool.false_eq_true, if_false]
                rw [← sU]
                split <;> rfl
          · simp only [f_X12_stiff_b41]
            rw [← hA, ← hU, hr]
            have nm : ∀ m, -144 ≤ m → m ≤ 144 → (iI m = (100000 : Int32)) = False := fun m h1 h2 => by
              rw [show (100000 : Int32) = iI 100000 from rfl, iI_eq (by omega) (by omega) (by omega) (by omega)]; exact eq_false (by omega)
            have nM : (iI 100000 = (100000 : Int32)) = True := eq_true rfl
            simp (disch := first | assumption | omega) only [Option.bind_some, Option.map_some, xw_gR, xw_gN, xw_al, xw_ck, xw_uI, xw_ur, xup_at, xur_at, if_true, if_false, reduceIte, and_true, true_and, and_false, false_and, not_true_eq_false, not_false_eq_true, Nat.reduceEqDiff, eq_self, Nat.reduceAdd, Nat.reduceMul, kC1, kG1, kP1, kR1_0, kR1_1, kR1_2, kR1_3, kR1_4, kR1_5, kR1_6, kR1_7, kR1_8, kR1_9, kR1_10, kR1_11, kR1_12, kR1_13, kC2, kG2, kP2, kR2_0, kR2_1, kC3, kG3, kP3, kR3_0, kR3_1, kR3_2, kR3_3, kL4, kA4, kS4, kL5, kA5, kS5, kL6, kA6, kS6, kL7, kA7, kS7, kC8, kG8, kP8, kR8_0, kR8_1, kL9, kA9, kS9, kL10, kA10, kS10, kC11, kG11, kP11, kR11_0, kR11_1, kR11_2, kR11_3, kL12, kA12, kS12, kL13, kA13, kS13, kL14, kA14, kS14, kL15, kA15, kS15, kC16, kG16, kP16, kR16_0, kR16_1, kL17, kA17, kS17, kL18, kA18, kS18, kC19, kG19, kP19, kR19_0, kL20, kL141, kL146, kA146, kS146, kL151, kA151, kS151, kL156, kA156, kS156, kC157, kG157, kP157, kR157_0, kR157_1, kL158, kA158, kS158, kL159, kA159, kS159, kC161, kG161, kP161, kR161_0, kR161_1, kL162, kA162, kS162, kL163, kA163, kS163, kC165, kG165, kP165, kR165_0, kR165_1, kR165_2, kR165_3, kL166, kA166, kS166, kL167, kA167, kS167, kL168, kA168, kS168, kL169, kA169, kS169, kC170, kG170, kP170, kR170_0, kR170_1, kR170_2, kL171, kA171, kS171, kL172, kA172, kS172, kL173, kA173, kS173, kC174, kG174, kP174, kR174_0, kR174_1, kR174_2, kR174_3, kR174_4, kL175, kA175, kS175, kL176, kA176, kS176, kL177, kA177, kS177, kL178, kA178, kS178, kL179, kC180, kG180, kP180, kL181, kL182, kA182, kS182, kC183, kG183, kP183, kR183_1, kR183_3, kR183_5, kR183_6, kR183_7, kR183_8, kR183_9, kR183_21, kR183_26, kR183_27, kR183_30, kR183_31, kR183_33, kR183_34, kR183_36, kR183_37, kR183_38, kR183_39, kR183_40, kR183_41, kR183_42, kR183_43, kR183_44, kL184, kA184, kS184, kL185, kA185, kS185, kL186, kA186, kS186, kL187, kA187, kS187, kL188, kA188, kS188, kL189, kL190, kL191, kA191, kS191, kL192, kA192, kS192, kL193, kA193, kS193, kL194, kA194, kS194, kL195, kA195, kS195, kL196, kA196, kS196, kL197, kA197, kS197, kL198, kA198, kS198, kL199, kA199, kS199, kL200, kA200, kS200, kL201, kL202, kA202, kS202, kL203, kA203, kS203, kL204, kA204, kS204, kL205, kL206, kA206, kS206, states12_ok hS hG2, nn_le, Nat.le_refl]
            cases A with
            | none => simp only [enO, nM, if_true]; rfl
            | some a =>
              have qa := hAb a rfl
              cases U with
              | none => simp only [enO, nM, nm a qa.1 qa.2, if_true, if_false]; rfl
              | some b =>
                have qb := hUb b rfl
                simp only [enO, nm a qa.1 qa.2, nm b qb.1 qb.2, if_false]; rfl
    · refine ⟨-100000, σ, σ, ?_, ?_, g, gT, gP, st, H.nop⟩
      · show f_X11_stiff (xw σ (xI σ)) 1 x y = _
        unfold f_X11_stiff
        simp (disch := first | assumption | omega) only [Option.bind_some, Option.map_some, xw_gR, xw_gN, xw_al, xw_ck, xw_uI, xw_ur, xup_at, xur_at, if_true, if_false, reduceIte, and_true, true_and, and_false, false_and, not_true_eq_false, not_false_eq_true, Nat.reduceEqDiff, eq_self, Nat.reduceAdd, Nat.reduceMul, kC1, kG1, kP1, kR1_0, kR1_1, kR1_2, kR1_3, kR1_4, kR1_5, kR1_6, kR1_7, kR1_8, kR1_9, kR1_10, kR1_11, kR1_12, kR1_13, kC2, kG2, kP2, kR2_0, kR2_1, kC3, kG3, kP3, kR3_0, kR3_1, kR3_2, kR3_3, kL4, kA4, kS4, kL5, kA5, kS5, kL6, kA6, kS6, kL7, kA7, kS7, kC8, kG8, kP8, kR8_0, kR8_1, kL9, kA9, kS9, kL10, kA10, kS10, kC11, kG11, kP11, kR11_0, kR11_1, kR11_2, kR11_3, kL12, kA12, kS12, kL13, kA13, kS13, kL14, kA14, kS14, kL15, kA15, kS15, kC16, kG16, kP16, kR16_0, kR16_1, kL17, kA17, kS17, kL18, kA18, kS18, kC19, kG19, kP19, kR19_0, kL20, kL141, kL146, kA146, kS146, kL151, kA151, kS151, kL156, kA156, kS156, kC157, kG157, kP157, kR157_0, kR157_1, kL158, kA158, kS158, kL159, kA159, kS159, kC161, kG161, kP161, kR161_0, kR161_1, kL162, kA162, kS162, kL163, kA163, kS163, kC165, kG165, kP165, kR165_0, kR165_1, kR165_2, kR165_3, kL166, kA166, kS166, kL167, kA167, kS167, kL168, kA168, kS168, kL169, kA169, kS169, kC170, kG170, kP170, kR170_0, kR170_1, kR170_2, kL171, kA171, kS171, kL172, kA172, kS172, kL173, kA173, kS173, kC174, kG174, kP174, kR174_0, kR174_1, kR174_2, kR174_3, kR174_4, kL175, kA175, kS175, kL176, kA176, kS176, kL177, kA177, kS177, kL178, kA178, kS178, kL179, kC180, kG180, kP180, kL181, kL182, kA182, kS182, kC183, kG183, kP183, kR183_1, kR183_3, kR183_5, kR183_6, kR183_7, kR183_8, kR183_9, kR183_21, kR183_26, kR183_27, kR183_30, kR183_31, kR183_33, kR183_34, kR183_36, kR183_37, kR183_38, kR183_39, kR183_40, kR183_41, kR183_42, kR183_43, kR183_44, kL184, kA184, kS184, kL185, kA185, kS185, kL186, kA186, kS186, kL187, kA187, kS187, kL188, kA188, kS188, kL189, kL190, kL191, kA191, kS191, kL192, kA192, kS192, kL193, kA193, kS193, kL194, kA194, kS194, kL195, kA195, kS195, kL196, kA196, kS196, kL197, kA197, kS197, kL198, kA198, kS198, kL199, kA199, kS199, kL200, kA200, kS200, kL201, kL202, kA202, kS202, kL203, kA203, kS203, kL204, kA204, kS204, kL205, kL206, kA206, kS206, hasSite_ok hS0 hG0, hx1, hy1, one0]
        rfl
      · show f_X12_stiff (xw σ (xI σ)) 183 x y = _
        unfold f_X12_stiff
        simp (disch := first | assumption | omega) only [Option.bind_some, Option.map_some, xw_gR, xw_gN, xw_al, xw_ck, xw_uI, xw_ur, xup_at, xur_at, if_true, if_false, reduceIte, and_true, true_and, and_false, false_and, not_true_eq_false, not_false_eq_true, Nat.reduceEqDiff, eq_self, Nat.reduceAdd, Nat.reduceMul, kC1, kG1, kP1, kR1_0, kR1_1, kR1_2, kR1_3, kR1_4, kR1_5, kR1_6, kR1_7, kR1_8, kR1_9, kR1_10, kR1_11, kR1_12, kR1_13, kC2, kG2, kP2, kR2_0, kR2_1, kC3, kG3, kP3, kR3_0, kR3_1, kR3_2, kR3_3, kL4, kA4, kS4, kL5, kA5, kS5, kL6, kA6, kS6, kL7, kA7, kS7, kC8, kG8, kP8, kR8_0, kR8_1, kL9, kA9, kS9, kL10, kA10, kS10, kC11, kG11, kP11, kR11_0, kR11_1, kR11_2, kR11_3, kL12, kA12, kS12, kL13, kA13, kS13, kL14, kA14, kS14, kL15, kA15, kS15, kC16, kG16, kP16, kR16_0, kR16_1, kL17, kA17, kS17, kL18, kA18, kS18, kC19, kG19, kP19, kR19_0, kL20, kL141, kL146, kA146, kS146, kL151, kA151, kS151, kL156, kA156, kS156, kC157, kG157, kP157, kR157_0, kR157_1, kL158, kA158, kS158, kL159, kA159, kS159, kC161, kG161, kP161, kR161_0, kR161_1, kL162, kA162, kS162, kL163, kA163, kS163, kC165, kG165, kP165, kR165_0, kR165_1, kR165_2, kR165_3, kL166, kA166, kS166, kL167, kA167, kS167, kL168, kA168, kS168, kL169, kA169, kS169, kC170, kG170, kP170, kR170_0, kR170_1, kR170_2, kL171, kA171, kS171, kL172, kA172, kS172, kL173, kA173, kS173, kC174, kG174, kP174, kR174_0, kR174_1, kR174_2, kR174_3, kR174_4, kL175, kA175, kS175, kL176, kA176, kS176, kL177, kA177, kS177, kL178, kA178, kS178, kL179, kC180, kG180, kP180, kL181, kL182, kA182, kS182, kC183, kG183, kP183, kR183_1, kR183_3, kR183_5, kR183_6, kR183_7, kR183_8, kR183_9, kR183_21, kR183_26, kR183_27, kR183_30, kR183_31, kR183_33, kR183_34, kR183_36, kR183_37, kR183_38, kR183_39, kR183_40, kR183_41, kR183_42, kR183_43, kR183_44, kL184, kA184, kS184, kL185, kA185, kS185, kL186, kA186, kS186, kL187, kA187, kS187, kL188, kA188, kS188, kL189, kL190, kL191, kA191, kS191, kL192, kA192, kS192, kL193, kA193, kS193, kL194, kA194, kS194, kL195, kA195, kS195, kL196, kA196, kS196, kL197, kA197, kS197, kL198, kA198, kS198, kL199, kA199, kS199, kL200, kA200, kS200, kL201, kL202, kA202, kS202, kL203, kA203, kS203, kL204, kA204, kS204, kL205, kL206, kA206, kS206, isSite_ok hS0 hG0, hx1, hy1, one0]
        rfl
  · refine ⟨-100000, σ, σ, ?_, ?_, g, gT, gP, st, H.nop⟩
    · show f_X11_stiff (xw σ (xI σ)) 1 x y = _
      unfold f_X11_stiff
      simp (disch := first | assumption | omega) only [Option.bind_some, Option.map_some, xw_gR, xw_gN, xw_al, xw_ck, xw_uI, xw_ur, xup_at, xur_at, if_true, if_false, reduceIte, and_true, true_and, and_false, false_and, not_true_eq_false, not_false_eq_true, Nat.reduceEqDiff, eq_self, Nat.reduceAdd, Nat.reduceMul, kC1, kG1, kP1, kR1_0, kR1_1, kR1_2, kR1_3, kR1_4, kR1_5, kR1_6, kR1_7, kR1_8, kR1_9, kR1_10, kR1_11, kR1_12, kR1_13, kC2, kG2, kP2, kR2_0, kR2_1, kC3, kG3, kP3, kR3_0, kR3_1, kR3_2, kR3_3, kL4, kA4, kS4, kL5, kA5, kS5, kL6, kA6, kS6, kL7, kA7, kS7, kC8, kG8, kP8, kR8_0, kR8_1, kL9, kA9, kS9, kL10, kA10, kS10, kC11, kG11, kP11, kR11_0, kR11_1, kR11_2, kR11_3, kL12, kA12, kS12, kL13, kA13, kS13, kL14, kA14, kS14, kL15, kA15, kS15, kC16, kG16, kP16, kR16_0, kR16_1, kL17, kA17, kS17, kL18, kA18, kS18, kC19, kG19, kP19, kR19_0, kL20, kL141, kL146, kA146, kS146, kL151, kA151, kS151, kL156, kA156, kS156, kC157, kG157, kP157, kR157_0, kR157_1, kL158, kA158, kS158, kL159, kA159, kS159, kC161, kG161, kP161, kR161_0, kR161_1, kL162, kA162, kS162, kL163, kA163, kS163, kC165, kG165, kP165, kR165_0, kR165_1, kR165_2, kR165_3, kL166, kA166, kS166, kL167, kA167, kS167, kL168, kA168, kS168, kL169, kA169, kS169, kC170, kG170, kP170, kR170_0, kR170_1, kR170_2, kL171, kA171, kS171, kL172, kA172, kS172, kL173, kA173, kS173, kC174, kG174, kP174, kR174_0, kR174_1, kR174_2, kR174_3, kR174_4, kL175, kA175, kS175, kL176, kA176, kS176, kL177, kA177, kS177, kL178, kA178, kS178, kL179, kC180, kG180, kP180, kL181, kL182, kA182, kS182, kC183, kG183, kP183, kR183_1, kR183_3, kR183_5, kR183_6, kR183_7, kR183_8, kR183_9, kR183_21, kR183_26, kR183_27, kR183_30, kR183_31, kR183_33, kR183_34, kR183_36, kR183_37, kR183_38, kR183_39, kR183_40, kR183_41, kR183_42, kR183_43, kR183_44, kL184, kA184, kS184, kL185, kA185, kS185, kL186, kA186, kS186, kL187, kA187, kS187, kL188, kA188, kS188, kL189, kL190, kL191, kA191, kS191, kL192, kA192, kS192, kL193, kA193, kS193, kL194, kA194, kS194, kL195, kA195, kS195, kL196, kA196, kS196, kL197, kA197, kS197, kL198, kA198, kS198, kL199, kA199, kS199, kL200, kA200, kS200, kL201, kL202, kA202, kS202, kL203, kA203, kS203, kL204, kA204, kS204, kL205, kL206, kA206, kS206, hasSite_ok hS0 hG0, hx1]
      rfl
    · show f_X12_stiff (xw σ (xI σ)) 183 x y = _
      unfold f_X12_stiff
      simp (disch := first | assumption | omega) only [Option.bind_some, Option.map_some, xw_gR, xw_gN, xw_al, xw_ck, xw_uI, xw_ur, xup_at, xur_at, if_true, if_false, reduceIte, and_true, true_and, and_false, false_and, not_true_eq_false, not_false_eq_true, Nat.reduceEqDiff, eq_self, Nat.reduceAdd, Nat.reduceMul, kC1, kG1, kP1, kR1_0, kR1_1, kR1_2, kR1_3, kR1_4, kR1_5, kR1_6, kR1_7, kR1_8, kR1_9, kR1_10, kR1_11, kR1_12, kR1_13, kC2, kG2, kP2, kR2_0, kR2_1, kC3, kG3, kP3, kR3_0, kR3_1, kR3_2, kR3_3, kL4, kA4, kS4, kL5, kA5, kS5, kL6, kA6, kS6, kL7, kA7, kS7, kC8, kG8, kP8, kR8_0, kR8_1, kL9, kA9, kS9, kL10, kA10, kS10, kC11, kG11, kP11, kR11_0, kR11_1, kR11_2, kR11_3, kL12, kA12, kS12, kL13, kA13, kS13, kL14, kA14, kS14, kL15, kA15, kS15, kC16, kG16, kP16, kR16_0, kR16_1, kL17, kA17, kS17, kL18, kA18, kS18, kC19, kG19, kP19, kR19_0, kL20, kL141, kL146, kA146, kS146, kL151, kA151, kS151, kL156, kA156, kS156, kC157, kG157, kP157, kR157_0, kR157_1, kL158, kA158, kS158, kL159, kA159, kS159, kC161, kG161, kP161, kR161_0, kR161_1, kL162, kA162, kS162, kL163, kA163, kS163, kC165, kG165, kP165, kR165_0, kR165_1, kR165_2, kR165_3, kL166, kA166, kS166, kL167, kA167, kS167, kL168, kA168, kS168, kL169, kA169, kS169, kC170, kG170, kP170, kR170_0, kR170_1, kR170_2, kL171, kA171, kS171, kL172, kA172, kS172, kL173, kA173, kS173, kC174, kG174, kP174, kR174_0, kR174_1, kR174_2, kR174_3, kR174_4, kL175, kA175, kS175, kL176, kA176, kS176, kL177, kA177, kS177, kL178, kA178, kS178, kL179, kC180, kG180, kP180, kL181, kL182, kA182, kS182, kC183, kG183, kP183, kR183_1, kR183_3, kR183_5, kR183_6, kR183_7, kR183_8, kR183_9, kR183_21, kR183_26, kR183_27, kR183_30, kR183_31, kR183_33, kR183_34, kR183_36, kR183_37, kR183_38, kR183_39, kR183_40, kR183_41, kR183_42, kR183_43, kR183_44, kL184, kA184, kS184, kL185, kA185, kS185, kL186, kA186, kS186, kL187, kA187, kS187, kL188, kA188, kS188, kL189, kL190, kL191, kA191, kS191, kL192, kA192, kS192, kL193, kA193, kS193, kL194, kA194, kS194, kL195, kA195, kS195, kL196, kA196, kS196, kL197, kA197, kS197, kL198, kA198, kS198, kL199, kA199, kS199, kL200, kA200, kS200, kL201, kL202, kA202, kS202, kL203, kA203, kS203, kL204, kA204, kS204, kL205, kL206, kA206, kS206, isSite_ok hS0 hG0, hx1]
      rfl
end
section
/-! nearest -/
def nb (p : Nat → Bool) (b s0 : Nat) : Nat → Nat
  | 0 => s0
  | s + 1 => if p s ∧ pC (s ^^^ b) < pC (nb p b s0 s ^^^ b) then s else nb p b s0 s
theorem nb_b {p : Nat → Bool} {b s0 N : Nat} (h : s0 < N) : ∀ s, s ≤ N → nb p b s0 s < N
  | 0, _ => h
  | s + 1, hs => by
    rw [nb]
    split
    · omega
    · exact nb_b h s (by omega)
theorem nb_lo {p : Nat → Bool} {b s0 : Nat} (h : ∀ s, s < s0 → p s = false) : ∀ s, s ≤ s0 + 1 → nb p b s0 s = s0
  | 0, _ => rfl
  | s + 1, hs => by
    have ih := nb_lo (b := b) h s (by omega)
    rw [nb, ih]
    split
    · next z =>
      by_cases q : s < s0
      · rw [h s q] at z; exact absurd z.1 (by decide)
      · have : s = s0 := by omega
        subst this
        exact absurd z.2 (Nat.lt_irrefl _)
    · rfl
theorem op_nearest : Op_nearest INV := by
  intro n σ hn ⟨g, gT, gP, st, H⟩ x v
  have hS0 := H.shp
  have hG0 := H.grd
  have hg := hG0.1
  have h16 := (gAll_b g hg).2.2.1
  have hSt := (gSt_b hg).1
  by_cases hb1 : isB g (xI σ 191) x = true
  · obtain ⟨b, hb, rfl, hbl⟩ := isB_t hb1
    by_cases hv : v = 0 ∨ v = 1
    · obtain ⟨τ, I', e1, e2, H1, H2, hS, hG1, hG2, ho, hSR, hE, hL, hK, r1, r2, u1, u2⟩ := both_ready (by omega) H
      obtain ⟨F, hF⟩ : ∃ F, F = xI σ 191 := ⟨_, rfl⟩
      rw [← hF] at ho hSR hE hL hK hbl
      have hlb := lvN_b g F
      obtain ⟨c, a, hEn, ha, hcn⟩ := H1.en157
      have hpos : 0 < lvN g F := by
        obtain ⟨e, he, h1, h2⟩ := lE_slot hg ho hb hbl
        have := lvl_lt he h2
        omega
      obtain ⟨k, hk, hp, hki⟩ := lv_first hpos
      obtain ⟨s0, hs0, hs1, hs2⟩ := lvP_least hp
      have q0 : I' 198 0 = iI ((k : Int) - 144) := by rw [← hki]; exact hK.2.2.2 k hk hp
      have hen := energyOf_ok (σ := τ) (J := xI τ) hS hL hk hp
      rw [hki, show nI 0 = (0 : Int32) from rfl] at hen
      obtain ⟨w, hw⟩ : ∃ w, w = nb (lE g F ((k : Int) - 144)) b s0 (gSt g) := ⟨_, rfl⟩
      have hwb : w < gSt g := by rw [hw]; exact nb_b hs0 _ (Nat.le_refl _)
      have x16 : ∀ s t, s < 65536 → t < 65536 → s ^^^ t < 65536 := fun s t h1 h2 => Nat.xor_lt_two_pow (n := 16) h1 h2
      have hng : f_X11_nearestGround σ 1 (nI b) = some (nI w, τ) := by
        unfold f_X11_nearestGround
        rw [xck_ok (sT1 H.shp), Option.bind_some, e1, Option.bind_some]
        dsimp only
        rw [xnz_ok (by decide), Option.bind_some]
        show f_X11_nearestGround_j4 (xw τ (xI τ)) 1 (nI b) 165 = _
        unfold f_X11_nearestGround_j4
        simp (disch := first | assumption | omega) only [Option.bind_some, Option.map_some, xw_gR, xw_gN, xw_al, xw_ck, xw_uI, xw_ur, xup_at, xur_at, if_true, if_false, reduceIte, and_true, true_and, and_false, false_and, not_true_eq_false, not_false_eq_true, Nat.reduceEqDiff, eq_self, Nat.reduceAdd, Nat.reduceMul, kC1, kG1, kP1, kR1_0, kR1_1, kR1_2, kR1_3, kR1_4, kR1_5, kR1_6, kR1_7, kR1_8, kR1_9, kR1_10, kR1_11, kR1_12, kR1_13, kC2, kG2, kP2, kR2_0, kR2_1, kC3, kG3, kP3, kR3_0, kR3_1, kR3_2, kR3_3, kL4, kA4, kS4, kL5, kA5, kS5, kL6, kA6, kS6, kL7, kA7, kS7, kC8, kG8, kP8, kR8_0, kR8_1, kL9, kA9, kS9, kL10, kA10, kS10, kC11, kG11, kP11, kR11_0, kR11_1, kR11_2, kR11_3, kL12, kA12, kS12, kL13, kA13, kS13, kL14, kA14, kS14, kL15, kA15, kS15, kC16, kG16, kP16, kR16_0, kR16_1, kL17, kA17, kS17, kL18, kA18, kS18, kC19, kG19, kP19, kR19_0, kL20, kL141, kL146, kA146, kS146, kL151, kA151, kS151, kL156, kA156, kS156, kC157, kG157, kP157, kR157_0, kR157_1, kL158, kA158, kS158, kL159, kA159, kS159, kC161, kG161, kP161, kR161_0, kR161_1, kL162, kA162, kS162, kL163, kA163, kS163, kC165, kG165, kP165, kR165_0, kR165_1, kR165_2, kR165_3, kL166, kA166, kS166, kL167, kA167, kS167, kL168, kA168, kS168, kL169, kA169, kS169, kC170, kG170, kP170, kR170_0, kR170_1, kR170_2, kL171, kA171, kS171, kL172, kA172, kS172, kL173, kA173, kS173, kC174, kG174, kP174, kR174_0, kR174_1, kR174_2, kR174_3, kR174_4, kL175, kA175, kS175, kL176, kA176, kS176, kL177, kA177, kS177, kL178, kA178, kS178, kL179, kC180, kG180, kP180, kL181, kL182, kA182, kS182, kC183, kG183, kP183, kR183_1, kR183_3, kR183_5, kR183_6, kR183_7, kR183_8, kR183_9, kR183_21, kR183_26, kR183_27, kR183_30, kR183_31, kR183_33, kR183_34, kR183_36, kR183_37, kR183_38, kR183_39, kR183_40, kR183_41, kR183_42, kR183_43, kR183_44, kL184, kA184, kS184, kL185, kA185, kS185, kL186, kA186, kS186, kL187, kA187, kS187, kL188, kA188, kS188, kL189, kL190, kL191, kA191, kS191, kL192, kA192, kS192, kL193, kA193, kS193, kL194, kA194, kS194, kL195, kA195, kS195, kL196, kA196, kS196, kL197, kA197, kS197, kL198, kA198, kS198, kL199, kA199, kS199, kL200, kA200, kS200, kL201, kL202, kA202, kS202, kL203, kA203, kS203, kL204, kA204, kS204, kL205, kL206, kA206, kS206, hen, states11_ok hS hG1, leastOf_ok hS hL hk hs0 hs1 hs2]
        rw [hw]
        refine xforE (fun s : Nat => (nI (nb (lE g F ((k : Int) - 144)) b s0 s), nI s)) (gSt g) rfl (fun s hs => ?_) ?_
        · simp only [f_X11_nearestGround_b30]
          have hbE := eE_b hg ho s
          have hq : (iI (eE g (zR F) s) = iI ((k : Int) - 144)) = (eE g (zR F) s = (k : Int) - 144) := iI_eq (by omega) (by omega) (by omega) (by omega)
          have hnb : nb (lE g F ((k : Int) - 144)) b s0 s < gSt g := nb_b hs0 s (by omega)
          have p1 := pC_16 (s ^^^ b)
          have p2 := pC_16 (nb (lE g F ((k : Int) - 144)) b s0 s ^^^ b)
          rw [if_neg (by rw [nn_le (by omega) (by omega)]; omega)]
          simp (disch := first | assumption | omega) only [Option.bind_some, Option.map_some, xw_gR, xw_gN, xw_al, xw_ck, xw_uI, xw_ur, xup_at, xur_at, if_true, if_false, reduceIte, and_true, true_and, and_false, false_and, not_true_eq_false, not_false_eq_true, Nat.reduceEqDiff, eq_self, Nat.reduceAdd, Nat.reduceMul, kC1, kG1, kP1, kR1_0, kR1_1, kR1_2, kR1_3, kR1_4, kR1_5, kR1_6, kR1_7, kR1_8, kR1_9, kR1_10, kR1_11, kR1_12, kR1_13, kC2, kG2, kP2, kR2_0, kR2_1, kC3, kG3, kP3, kR3_0, kR3_1, kR3_2, kR3_3, kL4, kA4, kS4, kL5, kA5, kS5, kL6, kA6, kS6, kL7, kA7, kS7, kC8, kG8, kP8, kR8_0, kR8_1, kL9, kA9, kS9, kL10, kA10, kS10, kC11, kG11, kP11, kR11_0, kR11_1, kR11_2, kR11_3, kL12, kA12, kS12, kL13, kA13, kS13, kL14, kA14, kS14, kL15, kA15, kS15, kC16, kG16, kP16, kR16_0, kR16_1, kL17, kA17, kS17, kL18, kA18, kS18, kC19, kG19, kP19, kR19_0, kL20, kL141, kL146, kA146, kS146, kL151, kA151, kS151, kL156, kA156, kS156, kC157, kG157, kP157, kR157_0, kR157_1, kL158, kA158, kS158, kL159, kA159, kS159, kC161, kG161, kP161, kR161_0, kR161_1, kL162, kA162, kS162, kL163, kA163, kS163, kC165, kG165, kP165, kR165_0, kR165_1, kR165_2, kR165_3, kL166, kA166, kS166, kL167, kA167, kS167, kL168, kA168, kS168, kL169, kA169, kS169, kC170, kG170, kP170, kR170_0, kR170_1, kR170_2, kL171, kA171, kS171, kL172, kA172, kS172, kL173, kA173, kS173, kC174, kG174, kP174, kR174_0, kR174_1, kR174_2, kR174_3, kR174_4, kL175, kA175, kS175, kL176, kA176, kS176, kL177, kA177, kS177, kL178, kA178, kS178, kL179, kC180, kG180, kP180, kL181, kL182, kA182, kS182, kC183, kG183, kP183, kR183_1, kR183_3, kR183_5, kR183_6, kR183_7, kR183_8, kR183_9, kR183_21, kR183_26, kR183_27, kR183_30, kR183_31, kR183_33, kR183_34, kR183_36, kR183_37, kR183_38, kR183_39, kR183_40, kR183_41, kR183_42, kR183_43, kR183_44, kL184, kA184, kS184, kL185, kA185, kS185, kL186, kA186, kS186, kL187, kA187, kS187, kL188, kA188, kS188, kL189, kL190, kL191, kA191, kS191, kL192, kA192, kS192, kL193, kA193, kS193, kL194, kA194, kS194, kL195, kA195, kS195, kL196, kA196, kS196, kL197, kA197, kS197, kL198, kA198, kS198, kL199, kA199, kS199, kL200, kA200, kS200, kL201, kL202, kA202, kS202, kL203, kA203, kS203, kL204, kA204, kS204, kL205, kL206, kA206, kS206, allows_ok hS hg suA_16 hSR, of_ok hS hEn hE (gSt_pos hs).2, hq, nn_xor, bitCount_ok (x16 s b (by omega) (by omega)), bitCount_ok (x16 (nb (lE g F ((k : Int) - 144)) b s0 s) b (by omega) (by omega)), nn_le]
          rw [← nI_succ]
          show _ = some (Sum.inl (nI (nb (lE g F ((k : Int) - 144)) b s0 (s + 1)), nI (s + 1)))
          rw [nb]
          have hlE : lE g F ((k : Int) - 144) s = (lW g F s && decide (eE g (zR F) s = (k : Int) - 144)) := rfl
          rw [hlE]
          cases lW g F s with
          | false => simp
          | true =>
            rw [if_neg (by decide)]
            by_cases he : eE g (zR F) s = (k : Int) - 144
            · rw [if_pos he]
              by_cases hc : pC (s ^^^ b) < pC (nb (lE g F ((k : Int) - 144)) b s0 s ^^^ b)
              · rw [if_neg (by omega), if_pos (by simp [he, hc])]
              · rw [if_pos (by omega), if_neg (by simp [he]; omega)]
            · rw [if_neg he, if_neg (by simp [he])]
        · simp only [f_X11_nearestGround_b30]
          rw [if_pos (by rw [nn_le (by omega) (by omega)]; exact Nat.le_refl _)]
          rfl
      have p3 := pC_16 (w ^^^ b)
      obtain ⟨r, hr⟩ : ∃ r, r = if v = 0 then nI w else nI (pC (w ^^^ b)) := ⟨_, rfl⟩
      have hx2 := x16 w b (by omega) (by omega)
      refine ⟨r, τ, xw τ I', ?_, ?_, INV_i H2.nop⟩
      · show f_X11_nearest (xw σ (xI σ)) 1 (nI b) v = _
        unfold f_X11_nearest
        have hng' : f_X11_nearestGround (xw σ (xI σ)) 1 (nI b) = some (nI w, τ) := hng
        have v1 : ¬ v < 0 := by rcases hv with z | z <;> rw [z] <;> decide
        have v2 : v ≤ 1 := by rcases hv with z | z <;> rw [z] <;> decide
        simp (disch := first | assumption | omega) only [Option.bind_some, Option.map_some, xw_gR, xw_gN, xw_al, xw_ck, xw_uI, xw_ur, xup_at, xur_at, if_true, if_false, reduceIte, and_true, true_and, and_false, false_and, not_true_eq_false, not_false_eq_true, Nat.reduceEqDiff, eq_self, Nat.reduceAdd, Nat.reduceMul, kC1, kG1, kP1, kR1_0, kR1_1, kR1_2, kR1_3, kR1_4, kR1_5, kR1_6, kR1_7, kR1_8, kR1_9, kR1_10, kR1_11, kR1_12, kR1_13, kC2, kG2, kP2, kR2_0, kR2_1, kC3, kG3, kP3, kR3_0, kR3_1, kR3_2, kR3_3, kL4, kA4, kS4, kL5, kA5, kS5, kL6, kA6, kS6, kL7, kA7, kS7, kC8, kG8, kP8, kR8_0, kR8_1, kL9, kA9, kS9, kL10, kA10, kS10, kC11, kG11, kP11, kR11_0, kR11_1, kR11_2, kR11_3, kL12, kA12, kS12, kL13, kA13, kS13, kL14, kA14, kS14, kL15, kA15, kS15, kC16, kG16, kP16, kR16_0, kR16_1, kL17, kA17, kS17, kL18, kA18, kS18, kC19, kG19, kP19, kR19_0, kL20, kL141, kL146, kA146, kS146, kL151, kA151, kS151, kL156, kA156, kS156, kC157, kG157, kP157, kR157_0, kR157_1, kL158, kA158, kS158, kL159, kA159, kS159, kC161, kG161, kP161, kR161_0, kR161_1, kL162, kA162, kS162, kL163, kA163, kS163, kC165, kG165, kP165, kR165_0, kR165_1, kR165_2, kR165_3, kL166, kA166, kS166, kL167, kA167, kS167, kL168, kA168, kS168, kL169, kA169, kS169, kC170, kG170, kP170, kR170_0, kR170_1, kR170_2, kL171, kA171, kS171, kL172, kA172, kS172, kL173, kA173, kS173, kC174, kG174, kP174, kR174_0, kR174_1, kR174_2, kR174_3, kR174_4, kL175, kA175, kS175, kL176, kA176, kS176, kL177, kA177, kS177, kL178, kA178, kS178, kL179, kC180, kG180, kP180, kL181, kL182, kA182, kS182, kC183, kG183, kP183, kR183_1, kR183_3, kR183_5, kR183_6, kR183_7, kR183_8, kR183_9, kR183_21, kR183_26, kR183_27, kR183_30, kR183_31, kR183_33, kR183_34, kR183_36, kR183_37, kR183_38, kR183_39, kR183_40, kR183_41, kR183_42, kR183_43, kR183_44, kL184, kA184, kS184, kL185, kA185, kS185, kL186, kA186, kS186, kL187, kA187, kS187, kL188, kA188, kS188, kL189, kL190, kL191, kA191, kS191, kL192, kA192, kS192, kL193, kA193, kS193, kL194, kA194, kS194, kL195, kA195, kS195, kL196, kA196, kS196, kL197, kA197, kS197, kL198, kA198, kS198, kL199, kA199, kS199, kL200, kA200, kS200, kL201, kL202, kA202, kS202, kL203, kA203, kS203, kL204, kA204, kS204, kL205, kL206, kA206, kS206, isLawful11_ok hS0 hG0 H.now.1, hb1, one0, v1, v2, hng']
        unfold f_X11_nearest_j25
        rw [nn_xor, bitCount_ok hx2, Option.bind_some, hr]
        split <;> rfl
      · unfold f_X12_nearest
        have ql : f_X12_isLawful τ 183 (nI b) = some 1 := by
          have := isLawful12_ok (σ := τ) (I := xI τ) hS hG1 (by rw [r1, ← hF]; exact ho) (nI b)
          rw [r1, hb1, if_pos rfl] at this
          exact this
        rw [xck_ok (sT183 hS), Option.bind_some, ql, Option.bind_some, if_neg (by decide), in_01, if_pos hv, Option.bind_some, if_neg (by decide), Option.bind_some, e2, Option.bind_some]
        refine xforE (fun s : Nat => (if s ≤ s0 then (-1 : Int32) else nI (nb (lE g F ((k : Int) - 144)) b s0 s), nI s)) (gSt g) rfl (fun s hs => ?_) ?_
        · simp only [f_X12_nearest_b30]
          have hvv := hK.1 s hs
          have hq := knE hg ho (e := (k : Int) - 144) (by omega) (by omega) s
          have z0 : xaI (xw τ I') 20 198 (0 : Int32) = some (I' 198 0) := kA198 hS (i := 0) (by decide)
          have hnb : nb (lE g F ((k : Int) - 144)) b s0 s < gSt g := nb_b hs0 s (by omega)
          have p1 := pC_16 (s ^^^ b)
          have p2 := pC_16 (nb (lE g F ((k : Int) - 144)) b s0 s ^^^ b)
          simp (disch := first | assumption | omega) only [Option.bind_some, Option.map_some, xw_gR, xw_gN, xw_al, xw_ck, xw_uI, xw_ur, xup_at, xur_at, if_true, if_false, reduceIte, and_true, true_and, and_false, false_and, not_true_eq_false, not_false_eq_true, Nat.reduceEqDiff, eq_self, Nat.reduceAdd, Nat.reduceMul, kC1, kG1, kP1, kR1_0, kR1_1, kR1_2, kR1_3, kR1_4, kR1_5, kR1_6, kR1_7, kR1_8, kR1_9, kR1_10, kR1_11, kR1_12, kR1_13, kC2, kG2, kP2, kR2_0, kR2_1, kC3, kG3, kP3, kR3_0, kR3_1, kR3_2, kR3_3, kL4, kA4, kS4, kL5, kA5, kS5, kL6, kA6, kS6, kL7, kA7, kS7, kC8, kG8, kP8, kR8_0, kR8_1, kL9, kA9, kS9, kL10, kA10, kS10, kC11, kG11, kP11, kR11_0, kR11_1, kR11_2, kR11_3, kL12, kA12, kS12, kL13, kA13, kS13, kL14, kA14, kS14, kL15, kA15, kS15, kC16, kG16, kP16, kR16_0, kR16_1, kL17, kA17, kS17, kL18, kA18, kS18, kC19, kG19, kP19, kR19_0, kL20, kL141, kL146, kA146, kS146, kL151, kA151, kS151, kL156, kA156, kS156, kC157, kG157, kP157, kR157_0, kR157_1, kL158, kA158, kS158, kL159, kA159, kS159, kC161, kG161, kP161, kR161_0, kR161_1, kL162, kA162, kS162, kL163, kA163, kS163, kC165, kG165, kP165, kR165_0, kR165_1, kR165_2, kR165_3, kL166, kA166, kS166, kL167, kA167, kS167, kL168, kA168, kS168, kL169, kA169, kS169, kC170, kG170, kP170, kR170_0, kR170_1, kR170_2, kL171, kA171, kS171, kL172, kA172, kS172, kL173, kA173, kS173, kC174, kG174, kP174, kR174_0, kR174_1, kR174_2, kR174_3, kR174_4, kL175, kA175, kS175, kL176, kA176, kS176, kL177, kA177, kS177, kL178, kA178, kS178, kL179, kC180, kG180, kP180, kL181, kL182, kA182, kS182, kC183, kG183, kP183, kR183_1, kR183_3, kR183_5, kR183_6, kR183_7, kR183_8, kR183_9, kR183_21, kR183_26, kR183_27, kR183_30, kR183_31, kR183_33, kR183_34, kR183_36, kR183_37, kR183_38, kR183_39, kR183_40, kR183_41, kR183_42, kR183_43, kR183_44, kL184, kA184, kS184, kL185, kA185, kS185, kL186, kA186, kS186, kL187, kA187, kS187, kL188, kA188, kS188, kL189, kL190, kL191, kA191, kS191, kL192, kA192, kS192, kL193, kA193, kS193, kL194, kA194, kS194, kL195, kA195, kS195, kL196, kA196, kS196, kL197, kA197, kS197, kL198, kA198, kS198, kL199, kA199, kS199, kL200, kA200, kS200, kL201, kL202, kA202, kS202, kL203, kA203, kS203, kL204, kA204, kS204, kL205, kL206, kA206, kS206, states12_ok hS hG2, nn_le, show ¬ (gSt g ≤ s) by omega, hvv, z0, q0, hq]
          rw [← nI_succ]
          by_cases h1 : s ≤ s0
          · rw [if_pos h1, if_pos (show (-1 : Int32) < 0 by decide)]
            by_cases h2 : s = s0
            · subst h2
              rw [if_pos hs1, if_neg (by omega), nb_lo hs2 _ (Nat.le_refl _)]
            · rw [if_neg (by rw [hs2 s (by omega)]; decide), if_pos (by omega)]
          · rw [if_neg h1, if_neg (show ¬ (s + 1 ≤ s0) by omega), if_neg (nI_pos (by omega)), nn_xor, nn_xor, bitsOf_ok (x16 s b (by omega) (by omega)), bitsOf_ok (x16 (nb (lE g F ((k : Int) - 144)) b s0 s) b (by omega) (by omega)), Option.bind_some, Option.bind_some]
            show _ = some (Sum.inl (nI (nb (lE g F ((k : Int) - 144)) b s0 (s + 1)), nI (s + 1)))
            rw [nb]
            by_cases he : lE g F ((k : Int) - 144) s = true
            · rw [if_pos he]
              by_cases hc : pC (s ^^^ b) < pC (nb (lE g F ((k : Int) - 144)) b s0 s ^^^ b)
              · rw [if_neg (by rw [nn_le (by omega) (by omega)]; omega), if_pos ⟨he, hc⟩]
              · rw [if_pos (by rw [nn_le (by omega) (by omega)]; omega), if_neg (fun z => hc z.2)]
            · rw [if_neg he, if_neg (fun z => he z.1)]
        · simp only [f_X12_nearest_b30]
          rw [if_neg (show ¬ (gSt g ≤ s0) by omega), ← hw]
          simp (disch := first | assumption | omega) only [Option.bind_some, Option.map_some, xw_gR, xw_gN, xw_al, xw_ck, xw_uI, xw_ur, xup_at, xur_at, if_true, if_false, reduceIte, and_true, true_and, and_false, false_and, not_true_eq_false, not_false_eq_true, Nat.reduceEqDiff, eq_self, Nat.reduceAdd, Nat.reduceMul, kC1, kG1, kP1, kR1_0, kR1_1, kR1_2, kR1_3, kR1_4, kR1_5, kR1_6, kR1_7, kR1_8, kR1_9, kR1_10, kR1_11, kR1_12, kR1_13, kC2, kG2, kP2, kR2_0, kR2_1, kC3, kG3, kP3, kR3_0, kR3_1, kR3_2, kR3_3, kL4, kA4, kS4, kL5, kA5, kS5, kL6, kA6, kS6, kL7, kA7, kS7, kC8, kG8, kP8, kR8_0, kR8_1, kL9, kA9, kS9, kL10, kA10, kS10, kC11, kG11, kP11, kR11_0, kR11_1, kR11_2, kR11_3, kL12, kA12, kS12, kL13, kA13, kS13, kL14, kA14, kS14, kL15, kA15, kS15, kC16, kG16, kP16, kR16_0, kR16_1, kL17, kA17, kS17, kL18, kA18, kS18, kC19, kG19, kP19, kR19_0, kL20, kL141, kL146, kA146, kS146, kL151, kA151, kS151, kL156, kA156, kS156, kC157, kG157, kP157, kR157_0, kR157_1, kL158, kA158, kS158, kL159, kA159, kS159, kC161, kG161, kP161, kR161_0, kR161_1, kL162, kA162, kS162, kL163, kA163, kS163, kC165, kG165, kP165, kR165_0, kR165_1, kR165_2, kR165_3, kL166, kA166, kS166, kL167, kA167, kS167, kL168, kA168, kS168, kL169, kA169, kS169, kC170, kG170, kP170, kR170_0, kR170_1, kR170_2, kL171, kA171, kS171, kL172, kA172, kS172, kL173, kA173, kS173, kC174, kG174, kP174, kR174_0, kR174_1, kR174_2, kR174_3, kR174_4, kL175, kA175, kS175, kL176, kA176, kS176, kL177, kA177, kS177, kL178, kA178, kS178, kL179, kC180, kG180, kP180, kL181, kL182, kA182, kS182, kC183, kG183, kP183, kR183_1, kR183_3, kR183_5, kR183_6, kR183_7, kR183_8, kR183_9, kR183_21, kR183_26, kR183_27, kR183_30, kR183_31, kR183_33, kR183_34, kR183_36, kR183_37, kR183_38, kR183_39, kR183_40, kR183_41, kR183_42, kR183_43, kR183_44, kL184, kA184, kS184, kL185, kA185, kS185, kL186, kA186, kS186, kL187, kA187, kS187, kL188, kA188, kS188, kL189, kL190, kL191, kA191, kS191, kL192, kA192, kS192, kL193, kA193, kS193, kL194, kA194, kS194, kL195, kA195, kS195, kL196, kA196, kS196, kL197, kA197, kS197, kL198, kA198, kS198, kL199, kA199, kS199, kL200, kA200, kS200, kL201, kL202, kA202, kS202, kL203, kA203, kS203, kL204, kA204, kS204, kL205, kL206, kA206, kS206, states12_ok hS hG2, nn_le, Nat.le_refl, nn_xor, bitsOf_ok hx2]
          rw [hr]
          split <;> rfl
    · refine ⟨-100000, σ, σ, ?_, ?_, g, gT, gP, st, H.nop⟩
      · show f_X11_nearest (xw σ (xI σ)) 1 (nI b) v = _
        unfold f_X11_nearest
        simp (disch := first | assumption | omega) only [Option.bind_some, Option.map_some, xw_gR, xw_gN, xw_al, xw_ck, xw_uI, xw_ur, xup_at, xur_at, if_true, if_false, reduceIte, and_true, true_and, and_false, false_and, not_true_eq_false, not_false_eq_true, Nat.reduceEqDiff, eq_self, Nat.reduceAdd, Nat.reduceMul, kC1, kG1, kP1, kR1_0, kR1_1, kR1_2, kR1_3, kR1_4, kR1_5, kR1_6, kR1_7, kR1_8, kR1_9, kR1_10, kR1_11, kR1_12, kR1_13, kC2, kG2, kP2, kR2_0, kR2_1, kC3, kG3, kP3, kR3_0, kR3_1, kR3_2, kR3_3, kL4, kA4, kS4, kL5, kA5, kS5, kL6, kA6, kS6, kL7, kA7, kS7, kC8, kG8, kP8, kR8_0, kR8_1, kL9, kA9, kS9, kL10, kA10, kS10, kC11, kG11, kP11, kR11_0, kR11_1, kR11_2, kR11_3, kL12, kA12, kS12, kL13, kA13, kS13, kL14, kA14, kS14, kL15, kA15, kS15, kC16, kG16, kP16, kR16_0, kR16_1, kL17, kA17, kS17, kL18, kA18, kS18, kC19, kG19, kP19, kR19_0, kL20, kL141, kL146, kA146, kS146, kL151, kA151, kS151, kL156, kA156, kS156, kC157, kG157, kP157, kR157_0, kR157_1, kL158, kA158, kS158, kL159, kA159, kS159, kC161, kG161, kP161, kR161_0, kR161_1, kL162, kA162, kS162, kL163, kA163, kS163, kC165, kG165, kP165, kR165_0, kR165_1, kR165_2, kR165_3, kL166, kA166, kS166, kL167, kA167, kS167, kL168, kA168, kS168, kL169, kA169, kS169, kC170, kG170, kP170, kR170_0, kR170_1, kR170_2, kL171, kA171, kS171, kL172, kA172, kS172, kL173, kA173, kS173, kC174, kG174, kP174, kR174_0, kR174_1, kR174_2, kR174_3, kR174_4, kL175, kA175, kS175, kL176, kA176, kS176, kL177, kA177, kS177, kL178, kA178, kS178, kL179, kC180, kG180, kP180, kL181, kL182, kA182, kS182, kC183, kG183, kP183, kR183_1, kR183_3, kR183_5, kR183_6, kR183_7, kR183_8, kR183_9, kR183_21, kR183_26, kR183_27, kR183_30, kR183_31, kR183_33, kR183_34, kR183_36, kR183_37, kR183_38, kR183_39, kR183_40, kR183_41, kR183_42, kR183_43, kR183_44, kL184, kA184, kS184, kL185, kA185, kS185, kL186, kA186, kS186, kL187, kA187, kS187, kL188, kA188, kS188, kL189, kL190, kL191, kA191, kS191, kL192, kA192, kS192, kL193, kA193, kS193, kL194, kA194, kS194, kL195, kA195, kS195, kL196, kA196, kS196, kL197, kA197, kS197, kL198, kA198, kS198, kL199, kA199, kS199, kL200, kA200, kS200, kL201, kL202, kA202, kS202, kL203, kA203, kS203, kL204, kA204, kS204, kL205, kL206, kA206, kS206, isLawful11_ok hS0 hG0 H.now.1, hb1, one0]
        by_cases v1 : v < 0
        · rw [if_pos v1]; rfl
        · have v2 : ¬ v ≤ 1 := by
            intro z
            obtain ⟨j, hj, rfl⟩ := nn_of v1
            rw [show (1 : Int32) = nI 1 from rfl, nn_le hj (by decide)] at z
            apply hv
            rcases (show j = 0 ∨ j = 1 by omega) with q | q
            · left; rw [q]; rfl
            · right; rw [q]; rfl
          rw [if_neg v1, if_neg v2]; rfl
      · show f_X12_nearest (xw σ (xI σ)) 183 (nI b) v = _
        unfold f_X12_nearest
        simp (disch := first | assumption | omega) only [Option.bind_some, Option.map_some, xw_gR, xw_gN, xw_al, xw_ck, xw_uI, xw_ur, xup_at, xur_at, if_true, if_false, reduceIte, and_true, true_and, and_false, false_and, not_true_eq_false, not_false_eq_true, Nat.reduceEqDiff, eq_self, Nat.reduceAdd, Nat.reduceMul, kC1, kG1, kP1, kR1_0, kR1_1, kR1_2, kR1_3, kR1_4, kR1_5, kR1_6, kR1_7, kR1_8, kR1_9, kR1_10, kR1_11, kR1_12, kR1_13, kC2, kG2, kP2, kR2_0, kR2_1, kC3, kG3, kP3, kR3_0, kR3_1, kR3_2, kR3_3, kL4, kA4, kS4, kL5, kA5, kS5, kL6, kA6, kS6, kL7, kA7, kS7, kC8, kG8, kP8, kR8_0, kR8_1, kL9, kA9, kS9, kL10, kA10, kS10, kC11, kG11, kP11, kR11_0, kR11_1, kR11_2, kR11_3, kL12, kA12, kS12, kL13, kA13, kS13, kL14, kA14, kS14, kL15, kA15, kS15, kC16, kG16, kP16, kR16_0, kR16_1, kL17, kA17, kS17, kL18, kA18, kS18, kC19, kG19, kP19, kR19_0, kL20, kL141, kL146, kA146, kS146, kL151, kA151, kS151, kL156, kA156, kS156, kC157, kG157, kP157, kR157_0, kR157_1, kL158, kA158, kS158, kL159, kA159, kS159, kC161, kG161, kP161, kR161_0, kR161_1, kL162, kA162, kS162, kL163, kA163, kS163, kC165, kG165, kP165, kR165_0, kR165_1, kR165_2, kR165_3, kL166, kA166, kS166, kL167, kA167, kS167, kL168, kA168, kS168, kL169, kA169, kS169, kC170, kG170, kP170, kR170_0, kR170_1, kR170_2, kL171, kA171, kS171, kL172, kA172, kS172, kL173, kA173, kS173, kC174, kG174, kP174, kR174_0, kR174_1, kR174_2, kR174_3, kR174_4, kL175, kA175, kS175, kL176, kA176, kS176, kL177, kA177, kS177, kL178, kA178, kS178, kL179, kC180, kG180, kP180, kL181, kL182, kA182, kS182, kC183, kG183, kP183, kR183_1, kR183_3, kR183_5, kR183_6, kR183_7, kR183_8, kR183_9, kR183_21, kR183_26, kR183_27, kR183_30, kR183_31, kR183_33, kR183_34, kR183_36, kR183_37, kR183_38, kR183_39, kR183_40, kR183_41, kR183_42, kR183_43, kR183_44, kL184, kA184, kS184, kL185, kA185, kS185, kL186, kA186, kS186, kL187, kA187, kS187, kL188, kA188, kS188, kL189, kL190, kL191, kA191, kS191, kL192, kA192, kS192, kL193, kA193, kS193, kL194, kA194, kS194, kL195, kA195, kS195, kL196, kA196, kS196, kL197, kA197, kS197, kL198, kA198, kS198, kL199, kA199, kS199, kL200, kA200, kS200, kL201, kL202, kA202, kS202, kL203, kA203, kS203, kL204, kA204, kS204, kL205, kL206, kA206, kS206, isLawful12_ok hS0 hG0 H.now.2.1, hb1, one0, in_01, hv]
        rfl
  · refine ⟨-100000, σ, σ, ?_, ?_, g, gT, gP, st, H.nop⟩
    · show f_X11_nearest (xw σ (xI σ)) 1 x v = _
      unfold f_X11_nearest
      simp (disch := first | assumption | omega) only [Option.bind_some, Option.map_some, xw_gR, xw_gN, xw_al, xw_ck, xw_uI, xw_ur, xup_at, xur_at, if_true, if_false, reduceIte, and_true, true_and, and_false, false_and, not_true_eq_false, not_false_eq_true, Nat.reduceEqDiff, eq_self, Nat.reduceAdd, Nat.reduceMul, kC1, kG1, kP1, kR1_0, kR1_1, kR1_2, kR1_3, kR1_4, kR1_5, kR1_6, kR1_7, kR1_8, kR1_9, kR1_10, kR1_11, kR1_12, kR1_13, kC2, kG2, kP2, kR2_0, kR2_1, kC3, kG3, kP3, kR3_0, kR3_1, kR3_2, kR3_3, kL4, kA4, kS4, kL5, kA5, kS5, kL6, kA6, kS6, kL7, kA7, kS7, kC8, kG8, kP8, kR8_0, kR8_1, kL9, kA9, kS9, kL10, kA10, kS10, kC11, kG11, kP11, kR11_0, kR11_1, kR11_2, kR11_3, kL12, kA12, kS12, kL13, kA13, kS13, kL14, kA14, kS14, kL15, kA15, kS15, kC16, kG16, kP16, kR16_0, kR16_1, kL17, kA17, kS17, kL18, kA18, kS18, kC19, kG19, kP19, kR19_0, kL20, kL141, kL146, kA146, kS146, kL151, kA151, kS151, kL156, kA156, kS156, kC157, kG157, kP157, kR157_0, kR157_1, kL158, kA158, kS158, kL159, kA159, kS159, kC161, kG161, kP161, kR161_0, kR161_1, kL162, kA162, kS162, kL163, kA163, kS163, kC165, kG165, kP165, kR165_0, kR165_1, kR165_2, kR165_3, kL166, kA166, kS166, kL167, kA167, kS167, kL168, kA168, kS168, kL169, kA169, kS169, kC170, kG170, kP170, kR170_0, kR170_1, kR170_2, kL171, kA171, kS171, kL172, kA172, kS172, kL173, kA173, kS173, kC174, kG174, kP174, kR174_0, kR174_1, kR174_2, kR174_3, kR174_4, kL175, kA175, kS175, kL176, kA176, kS176, kL177, kA177, kS177, kL178, kA178, kS178, kL179, kC180, kG180, kP180, kL181, kL182, kA182, kS182, kC183, kG183, kP183, kR183_1, kR183_3, kR183_5, kR183_6, kR183_7, kR183_8, kR183_9, kR183_21, kR183_26, kR183_27, kR183_30, kR183_31, kR183_33, kR183_34, kR183_36, kR183_37, kR183_38, kR183_39, kR183_40, kR183_41, kR183_42, kR183_43, kR183_44, kL184, kA184, kS184, kL185, kA185, kS185, kL186, kA186, kS186, kL187, kA187, kS187, kL188, kA188, kS188, kL189, kL190, kL191, kA191, kS191, kL192, kA192, kS192, kL193, kA193, kS193, kL194, kA194, kS194, kL195, kA195, kS195, kL196, kA196, kS196, kL197, kA197, kS197, kL198, kA198, kS198, kL199, kA199, kS199, kL200, kA200, kS200, kL201, kL202, kA202, kS202, kL203, kA203, kS203, kL204, kA204, kS204, kL205, kL206, kA206, kS206, isLawful11_ok hS0 hG0 H.now.1, hb1]
      rfl
    · show f_X12_nearest (xw σ (xI σ)) 183 x v = _
      unfold f_X12_nearest
      simp (disch := first | assumption | omega) only [Option.bind_some, Option.map_some, xw_gR, xw_gN, xw_al, xw_ck, xw_uI, xw_ur, xup_at, xur_at, if_true, if_false, reduceIte, and_true, true_and, and_false, false_and, not_true_eq_false, not_false_eq_true, Nat.reduceEqDiff, eq_self, Nat.reduceAdd, Nat.reduceMul, kC1, kG1, kP1, kR1_0, kR1_1, kR1_2, kR1_3, kR1_4, kR1_5, kR1_6, kR1_7, kR1_8, kR1_9, kR1_10, kR1_11, kR1_12, kR1_13, kC2, kG2, kP2, kR2_0, kR2_1, kC3, kG3, kP3, kR3_0, kR3_1, kR3_2, kR3_3, kL4, kA4, kS4, kL5, kA5, kS5, kL6, kA6, kS6, kL7, kA7, kS7, kC8, kG8, kP8, kR8_0, kR8_1, kL9, kA9, kS9, kL10, kA10, kS10, kC11, kG11, kP11, kR11_0, kR11_1, kR11_2, kR11_3, kL12, kA12, kS12, kL13, kA13, kS13, kL14, kA14, kS14, kL15, kA15, kS15, kC16, kG16, kP16, kR16_0, kR16_1, kL17, kA17, kS17, kL18, kA18, kS18, kC19, kG19, kP19, kR19_0, kL20, kL141, kL146, kA146, kS146, kL151, kA151, kS151, kL156, kA156, kS156, kC157, kG157, kP157, kR157_0, kR157_1, kL158, kA158, kS158, kL159, kA159, kS159, kC161, kG161, kP161, kR161_0, kR161_1, kL162, kA162, kS162, kL163, kA163, kS163, kC165, kG165, kP165, kR165_0, kR165_1, kR165_2, kR165_3, kL166, kA166, kS166, kL167, kA167, kS167, kL168, kA168, kS168, kL169, kA169, kS169, kC170, kG170, kP170, kR170_0, kR170_1, kR170_2, kL171, kA171, kS171, kL172, kA172, kS172, kL173, kA173, kS173, kC174, kG174, kP174, kR174_0, kR174_1, kR174_2, kR174_3, kR174_4, kL175, kA175, kS175, kL176, kA176, kS176, kL177, kA177, kS177, kL178, kA178, kS178, kL179, kC180, kG180, kP180, kL181, kL182, kA182, kS182, kC183, kG183, kP183, kR183_1, kR183_3, kR183_5, kR183_6, kR183_7, kR183_8, kR183_9, kR183_21, kR183_26, kR183_27, kR183_30, kR183_31, kR183_33, kR183_34, kR183_36, kR183_37, kR183_38, kR183_39, kR183_40, kR183_41, kR183_42, kR183_43, kR183_44, kL184, kA184, kS184, kL185, kA185, kS185, kL186, kA186, kS186, kL187, kA187, kS187, kL188, kA188, kS188, kL189, kL190, kL191, kA191, kS191, kL192, kA192, kS192, kL193, kA193, kS193, kL194, kA194, kS194, kL195, kA195, kS195, kL196, kA196, kS196, kL197, kA197, kS197, kL198, kA198, kS198, kL199, kA199, kS199, kL200, kA200, kS200, kL201, kL202, kA202, kS202, kL203, kA203, kS203, kL204, kA204, kS204, kL205, kL206, kA206, kS206, isLawful12_ok hS0 hG0 H.now.2.1, hb1]
      rfl
end
section
/-! the start, the room -/
set_option maxRecDepth 100000 in
theorem z0_a : xI hI0 1 15 = 0 ∧ xI hI0 3 4 = 0 ∧ xI hI0 183 2 = 0 ∧ xI hI0 1 14 = -1 ∧ xI hI0 183 16 = -1 ∧ xI hI0 11 4 = 0 ∧ xI hI0 11 5 = 0 ∧ xI hI0 11 6 = 0 ∧ xI hI0 11 7 = 0 ∧ xI hI0 183 17 = 0 ∧ xI hI0 183 18 = 0 ∧ xI hI0 183 19 = 0 ∧ xI hI0 183 20 = 0 ∧ xI hI0 19 1 = 0 ∧ xI hI0 19 2 = 0 ∧ xI hI0 183 28 = 0 ∧ xI hI0 183 29 = 0 ∧ xI hI0 157 5 = -1 ∧ xI hI0 165 5 = -1 ∧ xI hI0 170 3 = -1 ∧ xI hI0 174 10 = -1 ∧ xI hI0 183 32 = 0 := by decide +kernel
set_option maxRecDepth 100000 in
theorem z0_b : (∀ t, t < 32 → xI hI0 12 t = -1) ∧ (∀ t, t < 16 → xI hI0 15 t = 0) ∧ (∀ t, t < 32 → xI hI0 17 t = 0) ∧ (∀ t, t < 16 → xI hI0 18 t = 0) ∧ (∀ t, t < 8 → xI hI0 16 t = 0) ∧ (∀ t, t < 66 → xI hI0 191 t = 0) ∧ (∀ t, t < 16 → xI hI0 173 t = 0) ∧ ∀ i, i < 3 → xI hI0 (142 + 5 * i) 2 = 0 ∧ xI hI0 (142 + 5 * i) 3 = 0 ∧ xI hI0 195 i = 0 := by decide +kernel
set_option maxRecDepth 100000 in
theorem z0_c : xR hI0 157 4 = 160 ∧ xR hI0 161 4 = 164 ∧ hI0.1 160 = (20, 1) ∧ hI0.1 164 = (20, 1) := by decide +kernel
set_option maxRecDepth 100000 in
theorem z0_k : KY (xL hI0) := by unfold KY; decide +kernel
theorem g0_a : ((0, 0, 0) : GD) ∈ gAll ∧ (∀ t, t < 32 → gTo (0, 0, 0) t = none) ∧ ∀ i, i < 16 → (gMt (0, 0, 0) i).length = 0 := by decide +kernel
theorem IV_0 : IV 0 hI0 (0, 0, 0) (fun _ => ((0, 0, 0), fun _ => 0)) (fun _ => ((0, 0, 0), fun _ => 0)) 0 := by
  obtain ⟨a1, a2, a3, a4, a5, a6, a7, a8, a9, a10, a11, a12, a13, a14, a15, a16, a17, a18, a19, a20, a21, a22⟩ := z0_a
  obtain ⟨b1, b2, b3, b4, b5, b6, b8, b7⟩ := z0_b
  obtain ⟨c1, c2, c3, c4⟩ := z0_c
  obtain ⟨g1, g2, g3⟩ := g0_a
  have e0 : gSz (0, 0, 0) = 0 := rfl
  refine ⟨hI0_Shp, Nat.le_refl _, a1, ⟨0, by omega, a2, a3, fun k hk => by omega⟩, a4.trans a5.symm, ⟨g1, a6, a7, a8, a9, fun t ht => by rw [b1 t ht, g2 t ht]; rfl, fun i hi => by rw [b2 i hi, g3 i hi]; rfl, fun i j hi hj => by rw [g3 i hi] at hj; omega, a10, a11, a12, a13, b8⟩, ⟨⟨fun t ht => ?_, fun i hi => ?_, ⟨0, 0, b5 2 (by omega), b5 3 (by omega), fun i => ?_, fun i => ?_⟩, ?_, ?_⟩, ⟨fun k hk => ?_, fun i hi => ⟨.inl ?_, fun _ => ?_⟩, ⟨0, by decide, b6 64 (by omega), fun i hi => by rw [e0] at hi; omega⟩, ⟨0, by decide, b6 65 (by omega)⟩⟩, 0, 0, Nat.le_refl _, Nat.le_refl _, b5 6 (by omega), b5 7 (by omega), rfl, fun k hk => b6 k (by omega), rfl, fun k hk => b6 k (by omega)⟩, ⟨0, 0, 0, by omega, by omega, by omega, a14, a15, a16, a17, fun i hi => by omega⟩, fun i hi => ⟨0, 0, by decide, by decide, (b7 i hi).1, (b7 i hi).2.2, (b7 i hi).2.1, fun h => absurd h (by decide), fun h => absurd h (by decide)⟩, ⟨.inl a18, .inl a19, .inl a20, .inl a21⟩, .inl a22, ⟨0, 0, by omega, by omega, by rw [c1, c3], by rw [c2, c4], .inl c1, .inl c2, by rw [c1, c2]; decide, by rw [c1, hI0_n]; decide, by rw [c2, hI0_n]; decide, by rw [hI0_n]; omega, by rw [hI0_z]; omega, z0_k⟩⟩
  · show xI hI0 17 t = _
    rw [b3 t ht, g2 t ht]; rfl
  · show xI hI0 18 i = _
    rw [b4 i hi, e0]; rfl
  · rw [Nat.zero_testBit, e0]; simp
  · rw [Nat.zero_testBit, e0]; simp
  · rw [b5 4 (by omega), b6 64 (by omega)]
  · rw [b5 5 (by omega), b6 65 (by omega)]
  · rw [b6 k (by omega)]; decide
  · exact b6 (48 + i) (by omega)
  · exact b6 (48 + i) (by omega)
theorem INV_0 : ∃ σ, INV 0 σ ∧ ∀ L xs, f_L_law L xs xs0 = xloop (f_L_law_b18 L xs 1 183) (0, σ) := ⟨hI0, INV_i IV_0, fun L xs => law_init L xs⟩
theorem INV_room : ∀ n σ, INV n σ → xn σ ≤ 600000 ∧ xz σ ≤ 7302250 := by
  rintro n σ ⟨g, gT, gP, st, H⟩
  obtain ⟨a, b, h1, h2, -, -, -, -, -, -, -, h10, h11⟩ := H.cel
  omega
theorem INV_T : ∀ n σ, INV n σ → xT σ 1 = 11 ∧ xT σ 183 = 12 := fun n σ ⟨g, gT, gP, st, H⟩ => ⟨sT1 H.shp, sT183 H.shp⟩
theorem INV_n : ∀ n σ, INV n σ → 183 ≤ xn σ := fun n σ ⟨g, gT, gP, st, H⟩ => Nat.le_trans (by decide) H.shp.1
end
section
/-! the fall -/
def fs (g : GD) (F : Nat → Int32) (s : Nat) : Nat → Nat
  | 0 => s
  | j + 1 => match (sp g F (fs g F s j) (gSz g)).2 with
    | none => fs g F s j
    | some i => fs g F s j ^^^ 2 ^ i
theorem fs_s {g : GD} {F : Nat → Int32} {s j i : Nat} (h : (sp g F (fs g F s j) (gSz g)).2 = some i) : fs g F s (j + 1) = fs g F s j ^^^ 2 ^ i := by
  rw [fs, h]
theorem fs_l {g : GD} {F : Nat → Int32} {s : Nat} (hs : s < gSt g) (hl : lW g F s = true) : ∀ j, fs g F s j < gSt g ∧ lW g F (fs g F s j) = true
  | 0 => ⟨hs, hl⟩
  | j + 1 => by
    have ih := fs_l hs hl j
    rw [fs]
    cases h : (sp g F (fs g F s j) (gSz g)).2 with
    | none => exact ih
    | some i =>
      have q := (sp_some g F (fs g F s j) (gSz g)).2 i h
      refine ⟨gSt_flip ih.1 q.1, ?_⟩
      show lW g F (fs g F s j ^^^ 2 ^ i) = true
      rw [lW_flip q.1 ih.2]
      exact decide_eq_true q.2.1
/-- where the fall ends, how many turns it takes -/
theorem fs_end {g : GD} (hg : g ∈ gAll) {F : Nat → Int32} (ho : RO g F) {s : Nat} : ∃ M, M ≤ 288 ∧ (sp g F (fs g F s M) (gSz g)).2 = none ∧ ∀ j, j < M → (sp g F (fs g F s j) (gSz g)).2 ≠ none := by
  have dec : ∀ m, (∀ j, j < m → (sp g F (fs g F s j) (gSz g)).2 ≠ none) → eE g (zR F) (fs g F s m) ≤ eE g (zR F) s - (m : Int) := by
    intro m
    induction m with
    | zero => intro _; show eE g (zR F) s ≤ _; omega
    | succ m ih =>
      intro h
      have h1 := ih (fun j hj => h j (by omega))
      obtain ⟨i, hi⟩ := Option.ne_none_iff_exists'.mp (h m (by omega))
      have q := (sp_some g F (fs g F s m) (gSz g)).2 i hi
      rw [fs_s hi, eE_flip hg _ q.1]
      omega
  have ex : ∃ j, j < 289 ∧ (sp g F (fs g F s j) (gSz g)).2 = none := by
    apply Classical.byContradiction
    intro hn
    have h : ∀ j, j < 289 → (sp g F (fs g F s j) (gSz g)).2 ≠ none := fun j hj hz => hn ⟨j, hj, hz⟩
    have h1 := dec 289 h
    have h2 := eE_b hg ho s
    have h3 := eE_b hg ho (fs g F s 289)
    omega
  obtain ⟨M, h1, h2, h3⟩ := fb_first (p := fun j => (sp g F (fs g F s j) (gSz g)).2 = none) ex
  exact ⟨M, by omega, h2, h3⟩
section FALL
variable {σ : XS} {J : Nat → Nat → Int32} {g : GD} {F : Nat → Int32}
theorem steep11_ok (hS : Shp σ) (hG : GRD J g) (ho : RO g F) (hSR : SR g J 16 F) {s : Nat} (hs : s < 2147483648) : f_X3_steepest (xw σ J) 11 16 (nI s) = some (oI (sp g F s (gSz g)).2) := by
  have hg := hG.1
  have h16 := (gAll_b g hg).2.2.1
  obtain ⟨-, -, ⟨p, u, e3, e4, e5, e6⟩, -, -⟩ := id hSR
  have hp : p < 65536 := Nat.lt_pow_two_of_testBit (n := 16) p (fun j hj => by rw [e5]; simp; omega)
  unfold f_X3_steepest
  refine xforE (fun i : Nat => (oI (sp g F s i).2, iI (sp g F s i).1, nI i)) (gSz g) rfl (fun i hi => ?_) ?_
  · simp only [f_X3_steepest_b8]
    have hlb := sp_lb hg ho s i (by omega)
    have hle := (sp_le g F s i).1
    have hcb := sp_b hg ho s hi
    have hq : (iI (sp g F s i).1 ≤ iI (eC g (zR F) s i)) = ((sp g F s i).1 ≤ eC g (zR F) s i) := iI_le (by omega) (by omega) (by omega) (by omega)
    simp (disch := first | assumption | omega) only [Option.bind_some, Option.map_some, xw_gR, xw_gN, xw_al, xw_ck, xw_uI, xw_ur, xup_at, xur_at, if_true, if_false, reduceIte, and_true, true_and, and_false, false_and, not_true_eq_false, not_false_eq_true, Nat.reduceEqDiff, eq_self, Nat.reduceAdd, Nat.reduceMul, kC1, kG1, kP1, kR1_0, kR1_1, kR1_2, kR1_3, kR1_4, kR1_5, kR1_6, kR1_7, kR1_8, kR1_9, kR1_10, kR1_11, kR1_12, kR1_13, kC2, kG2, kP2, kR2_0, kR2_1, kC3, kG3, kP3, kR3_0, kR3_1, kR3_2, kR3_3, kL4, kA4, kS4, kL5, kA5, kS5, kL6, kA6, kS6, kL7, kA7, kS7, kC8, kG8, kP8, kR8_0, kR8_1, kL9, kA9, kS9, kL10, kA10, kS10, kC11, kG11, kP11, kR11_0, kR11_1, kR11_2, kR11_3, kL12, kA12, kS12, kL13, kA13, kS13, kL14, kA14, kS14, kL15, kA15, kS15, kC16, kG16, kP16, kR16_0, kR16_1, kL17, kA17, kS17, kL18, kA18, kS18, kC19, kG19, kP19, kR19_0, kL20, kL141, kL146, kA146, kS146, kL151, kA151, kS151, kL156, kA156, kS156, kC157, kG157, kP157, kR157_0, kR157_1, kL158, kA158, kS158, kL159, kA159, kS159, kC161, kG161, kP161, kR161_0, kR161_1, kL162, kA162, kS162, kL163, kA163, kS163, kC165, kG165, kP165, kR165_0, kR165_1, kR165_2, kR165_3, kL166, kA166, kS166, kL167, kA167, kS167, kL168, kA168, kS168, kL169, kA169, kS169, kC170, kG170, kP170, kR170_0, kR170_1, kR170_2, kL171, kA171, kS171, kL172, kA172, kS172, kL173, kA173, kS173, kC174, kG174, kP174, kR174_0, kR174_1, kR174_2, kR174_3, kR174_4, kL175, kA175, kS175, kL176, kA176, kS176, kL177, kA177, kS177, kL178, kA178, kS178, kL179, kC180, kG180, kP180, kL181, kL182, kA182, kS182, kC183, kG183, kP183, kR183_1, kR183_3, kR183_5, kR183_6, kR183_7, kR183_8, kR183_9, kR183_21, kR183_26, kR183_27, kR183_30, kR183_31, kR183_33, kR183_34, kR183_36, kR183_37, kR183_38, kR183_39, kR183_40, kR183_41, kR183_42, kR183_43, kR183_44, kL184, kA184, kS184, kL185, kA185, kS185, kL186, kA186, kS186, kL187, kA187, kS187, kL188, kA188, kS188, kL189, kL190, kL191, kA191, kS191, kL192, kA192, kS192, kL193, kA193, kS193, kL194, kA194, kS194, kL195, kA195, kS195, kL196, kA196, kS196, kL197, kA197, kS197, kL198, kA198, kS198, kL199, kA199, kS199, kL200, kA200, kS200, kL201, kL202, kA202, kS202, kL203, kA203, kS203, kL204, kA204, kS204, kL205, kL206, kA206, kS206, hG.2.2.2.2.1, nn_le, show ¬ (gSz g ≤ i) by omega, cost_ok hS hG suA_16 hSR hs hi, hq, isPinned_ok hS suA_16 e3 hp (show i < 32 by omega), bI_0]
    rw [← nI_succ]
    show _ = some (Sum.inl (oI (sp g F s (i + 1)).2, iI (sp g F s (i + 1)).1, nI (i + 1)))
    rw [sp]
    have hpb : (p.testBit i = false) = (F (48 + i) = 0) := by rw [e5]; simp [hi]
    simp only [hpb]
    by_cases h1 : (sp g F s i).1 ≤ eC g (zR F) s i
    · rw [if_pos h1, if_neg (fun z => by omega)]
    · rw [if_neg h1]
      by_cases h2 : F (48 + i) = 0
      · rw [if_pos h2, if_pos ⟨h2, by omega⟩]; rfl
      · rw [if_neg h2, if_neg (fun z => h2 z.1)]
  · simp only [f_X3_steepest_b8]
    simp (disch := first | assumption | omega) only [Option.bind_some, Option.map_some, xw_gR, xw_gN, xw_al, xw_ck, xw_uI, xw_ur, xup_at, xur_at, if_true, if_false, reduceIte, and_true, true_and, and_false, false_and, not_true_eq_false, not_false_eq_true, Nat.reduceEqDiff, eq_self, Nat.reduceAdd, Nat.reduceMul, kC1, kG1, kP1, kR1_0, kR1_1, kR1_2, kR1_3, kR1_4, kR1_5, kR1_6, kR1_7, kR1_8, kR1_9, kR1_10, kR1_11, kR1_12, kR1_13, kC2, kG2, kP2, kR2_0, kR2_1, kC3, kG3, kP3, kR3_0, kR3_1, kR3_2, kR3_3, kL4, kA4, kS4, kL5, kA5, kS5, kL6, kA6, kS6, kL7, kA7, kS7, kC8, kG8, kP8, kR8_0, kR8_1, kL9, kA9, kS9, kL10, kA10, kS10, kC11, kG11, kP11, kR11_0, kR11_1, kR11_2, kR11_3, kL12, kA12, kS12, kL13, kA13, kS13, kL14, kA14, kS14, kL15, kA15, kS15, kC16, kG16, kP16, kR16_0, kR16_1, kL17, kA17, kS17, kL18, kA18, kS18, kC19, kG19, kP19, kR19_0, kL20, kL141, kL146, kA146, kS146, kL151, kA151, kS151, kL156, kA156, kS156, kC157, kG157, kP157, kR157_0, kR157_1, kL158, kA158, kS158, kL159, kA159, kS159, kC161, kG161, kP161, kR161_0, kR161_1, kL162, kA162, kS162, kL163, kA163, kS163, kC165, kG165, kP165, kR165_0, kR165_1, kR165_2, kR165_3, kL166, kA166, kS166, kL167, kA167, kS167, kL168, kA168, kS168, kL169, kA169, kS169, kC170, kG170, kP170, kR170_0, kR170_1, kR170_2, kL171, kA171, kS171, kL172, kA172, kS172, kL173, kA173, kS173, kC174, kG174, kP174, kR174_0, kR174_1, kR174_2, kR174_3, kR174_4, kL175, kA175, kS175, kL176, kA176, kS176, kL177, kA177, kS177, kL178, kA178, kS178, kL179, kC180, kG180, kP180, kL181, kL182, kA182, kS182, kC183, kG183, kP183, kR183_1, kR183_3, kR183_5, kR183_6, kR183_7, kR183_8, kR183_9, kR183_21, kR183_26, kR183_27, kR183_30, kR183_31, kR183_33, kR183_34, kR183_36, kR183_37, kR183_38, kR183_39, kR183_40, kR183_41, kR183_42, kR183_43, kR183_44, kL184, kA184, kS184, kL185, kA185, kS185, kL186, kA186, kS186, kL187, kA187, kS187, kL188, kA188, kS188, kL189, kL190, kL191, kA191, kS191, kL192, kA192, kS192, kL193, kA193, kS193, kL194, kA194, kS194, kL195, kA195, kS195, kL196, kA196, kS196, kL197, kA197, kS197, kL198, kA198, kS198, kL199, kA199, kS199, kL200, kA200, kS200, kL201, kL202, kA202, kS202, kL203, kA203, kS203, kL204, kA204, kS204, kL205, kL206, kA206, kS206, hG.2.2.2.2.1, nn_le, Nat.le_refl]
theorem spS {s i : Nat} (hg : g ∈ gAll) (h : (sp g F s (gSz g)).2 = some i) : i < 16 := by
  have h16 := (gAll_b g hg).2.2.1
  have := ((sp_some g F s (gSz g)).2 i h).1
  omega
def flI (I : Nat → Nat → Int32) (b t : Nat) : Nat → Nat → Int32 := xup (xup I 180 0 (nI b)) 180 1 (nI t)
theorem flI_out {I : Nat → Nat → Int32} {b t a k : Nat} (h : a ≠ 180) : flI I b t a k = I a k := by
  unfold flI
  rw [xup_at, if_neg (by omega), xup_at, if_neg (by omega)]
theorem flI_s {I : Nat → Nat → Int32} {b t b' t' : Nat} : xup (xup (flI I b t) 180 0 (nI b')) 180 1 (nI t') = flI I b' t' := by
  funext a k
  unfold flI
  simp only [xup_at]
  by_cases h : a = 180
  · subst h
    by_cases h0 : k = 0
    · simp [h0]
    · by_cases h1 : k = 1
      · simp [h1]
      · simp [h0, h1]
  · simp [h]
theorem fall11_ok (hS : Shp σ) (hG : GRD J g) (ho : RO g F) (hSR : SR g J 16 F) {s M : Nat} (hs : s < gSt g) (hl : lW g F s = true) (hM : M ≤ 288) (h1 : (sp g F (fs g F s M) (gSz g)).2 = none) (h2 : ∀ j, j < M → (sp g F (fs g F s j) (gSz g)).2 ≠ none) :
    f_X10_fallFrom (xw σ J) 180 11 16 (nI s) = some (xw σ (flI J (fs g F s M) M)) := by
  have hg := hG.1
  have hSt := (gSt_b hg).1
  have hf := fs_l (g := g) (F := F) hs hl
  have hGf : ∀ b t, GRD (flI J b t) g := fun b t => GRD_c (fun a k z => flI_out (by unfold sGRD at z; omega)) hG
  have hSf : ∀ b t, SR g (flI J b t) 16 F := fun b t => SR_m hg (fun k _ _ => flI_out (by omega)) (fun k _ => flI_out (by omega)) (fun k _ => flI_out (by omega)) (fun k _ => rfl) hSR
  have st : ∀ j b t, f_X3_steepest (xw σ (flI J b t)) 11 16 (nI (fs g F s j)) = some (oI (sp g F (fs g F s j) (gSz g)).2) := fun j b t => steep11_ok hS (hGf b t) ho (hSf b t) (by have := (hf j).1; omega)
  unfold f_X10_fallFrom
  have e0 : xup (xup J 180 0 (nI s)) 180 1 0 = flI J s 0 := rfl
  have e00 : flI J s 0 180 0 = nI (fs g F s 0) := by unfold flI; simp [xup_at]; rfl
  simp (disch := first | assumption | omega) only [Option.bind_some, Option.map_some, xw_gR, xw_gN, xw_al, xw_ck, xw_uI, xw_ur, xup_at, xur_at, if_true, if_false, reduceIte, and_true, true_and, and_false, false_and, not_true_eq_false, not_false_eq_true, Nat.reduceEqDiff, eq_self, Nat.reduceAdd, Nat.reduceMul, kC1, kG1, kP1, kR1_0, kR1_1, kR1_2, kR1_3, kR1_4, kR1_5, kR1_6, kR1_7, kR1_8, kR1_9, kR1_10, kR1_11, kR1_12, kR1_13, kC2, kG2, kP2, kR2_0, kR2_1, kC3, kG3, kP3, kR3_0, kR3_1, kR3_2, kR3_3, kL4, kA4, kS4, kL5, kA5, kS5, kL6, kA6, kS6, kL7, kA7, kS7, kC8, kG8, kP8, kR8_0, kR8_1, kL9, kA9, kS9, kL10, kA10, kS10, kC11, kG11, kP11, kR11_0, kR11_1, kR11_2, kR11_3, kL12, kA12, kS12, kL13, kA13, kS13, kL14, kA14, kS14, kL15, kA15, kS15, kC16, kG16, kP16, kR16_0, kR16_1, kL17, kA17, kS17, kL18, kA18, kS18, kC19, kG19, kP19, kR19_0, kL20, kL141, kL146, kA146, kS146, kL151, kA151, kS151, kL156, kA156, kS156, kC157, kG157, kP157, kR157_0, kR157_1, kL158, kA158, kS158, kL159, kA159, kS159, kC161, kG161, kP161, kR161_0, kR161_1, kL162, kA162, kS162, kL163, kA163, kS163, kC165, kG165, kP165, kR165_0, kR165_1, kR165_2, kR165_3, kL166, kA166, kS166, kL167, kA167, kS167, kL168, kA168, kS168, kL169, kA169, kS169, kC170, kG170, kP170, kR170_0, kR170_1, kR170_2, kL171, kA171, kS171, kL172, kA172, kS172, kL173, kA173, kS173, kC174, kG174, kP174, kR174_0, kR174_1, kR174_2, kR174_3, kR174_4, kL175, kA175, kS175, kL176, kA176, kS176, kL177, kA177, kS177, kL178, kA178, kS178, kL179, kC180, kG180, kP180, kL181, kL182, kA182, kS182, kC183, kG183, kP183, kR183_1, kR183_3, kR183_5, kR183_6, kR183_7, kR183_8, kR183_9, kR183_21, kR183_26, kR183_27, kR183_30, kR183_31, kR183_33, kR183_34, kR183_36, kR183_37, kR183_38, kR183_39, kR183_40, kR183_41, kR183_42, kR183_43, kR183_44, kL184, kA184, kS184, kL185, kA185, kS185, kL186, kA186, kS186, kL187, kA187, kS187, kL188, kA188, kS188, kL189, kL190, kL191, kA191, kS191, kL192, kA192, kS192, kL193, kA193, kS193, kL194, kA194, kS194, kL195, kA195, kS195, kL196, kA196, kS196, kL197, kA197, kS197, kL198, kA198, kS198, kL199, kA199, kS199, kL200, kA200, kS200, kL201, kL202, kA202, kS202, kL203, kA203, kS203, kL204, kA204, kS204, kL205, kL206, kA206, kS206, e0, e00]
  rw [st 0 s 0, Option.bind_some]
  refine xforE (fun j : Nat => (oI (sp g F (fs g F s j) (gSz g)).2, nI j, xw σ (flI J (fs g F s j) j))) M rfl (fun j hj => ?_) ?_
  · obtain ⟨i, hi⟩ := Option.ne_none_iff_exists'.mp (h2 j hj)
    have hi16 := spS hg hi
    simp only [f_X10_fallFrom_b24, hi, oI]
    rw [if_neg (by rw [show (289 : Int32) = nI 289 from rfl, nn_le (by omega) (by omega)]; omega), if_neg (by rw [nn_m1 (by omega)]; exact id)]
    have v0 : flI J (fs g F s j) j 180 0 = nI (fs g F s j) := by unfold flI; simp [xup_at]
    have v1 : flI J (fs g F s j) j 180 1 = nI j := by unfold flI; simp [xup_at]
    simp (disch := first | assumption | omega) only [Option.bind_some, Option.map_some, xw_gR, xw_gN, xw_al, xw_ck, xw_uI, xw_ur, xup_at, xur_at, if_true, if_false, reduceIte, and_true, true_and, and_false, false_and, not_true_eq_false, not_false_eq_true, Nat.reduceEqDiff, eq_self, Nat.reduceAdd, Nat.reduceMul, kC1, kG1, kP1, kR1_0, kR1_1, kR1_2, kR1_3, kR1_4, kR1_5, kR1_6, kR1_7, kR1_8, kR1_9, kR1_10, kR1_11, kR1_12, kR1_13, kC2, kG2, kP2, kR2_0, kR2_1, kC3, kG3, kP3, kR3_0, kR3_1, kR3_2, kR3_3, kL4, kA4, kS4, kL5, kA5, kS5, kL6, kA6, kS6, kL7, kA7, kS7, kC8, kG8, kP8, kR8_0, kR8_1, kL9, kA9, kS9, kL10, kA10, kS10, kC11, kG11, kP11, kR11_0, kR11_1, kR11_2, kR11_3, kL12, kA12, kS12, kL13, kA13, kS13, kL14, kA14, kS14, kL15, kA15, kS15, kC16, kG16, kP16, kR16_0, kR16_1, kL17, kA17, kS17, kL18, kA18, kS18, kC19, kG19, kP19, kR19_0, kL20, kL141, kL146, kA146, kS146, kL151, kA151, kS151, kL156, kA156, kS156, kC157, kG157, kP157, kR157_0, kR157_1, kL158, kA158, kS158, kL159, kA159, kS159, kC161, kG161, kP161, kR161_0, kR161_1, kL162, kA162, kS162, kL163, kA163, kS163, kC165, kG165, kP165, kR165_0, kR165_1, kR165_2, kR165_3, kL166, kA166, kS166, kL167, kA167, kS167, kL168, kA168, kS168, kL169, kA169, kS169, kC170, kG170, kP170, kR170_0, kR170_1, kR170_2, kL171, kA171, kS171, kL172, kA172, kS172, kL173, kA173, kS173, kC174, kG174, kP174, kR174_0, kR174_1, kR174_2, kR174_3, kR174_4, kL175, kA175, kS175, kL176, kA176, kS176, kL177, kA177, kS177, kL178, kA178, kS178, kL179, kC180, kG180, kP180, kL181, kL182, kA182, kS182, kC183, kG183, kP183, kR183_1, kR183_3, kR183_5, kR183_6, kR183_7, kR183_8, kR183_9, kR183_21, kR183_26, kR183_27, kR183_30, kR183_31, kR183_33, kR183_34, kR183_36, kR183_37, kR183_38, kR183_39, kR183_40, kR183_41, kR183_42, kR183_43, kR183_44, kL184, kA184, kS184, kL185, kA185, kS185, kL186, kA186, kS186, kL187, kA187, kS187, kL188, kA188, kS188, kL189, kL190, kL191, kA191, kS191, kL192, kA192, kS192, kL193, kA193, kS193, kL194, kA194, kS194, kL195, kA195, kS195, kL196, kA196, kS196, kL197, kA197, kS197, kL198, kA198, kS198, kL199, kA199, kS199, kL200, kA200, kS200, kL201, kL202, kA202, kS202, kL203, kA203, kS203, kL204, kA204, kS204, kL205, kL206, kA206, kS206, v0, v1, nn_one, nn_xor, ← nI_succ, flI_s]
    have := st (j + 1) (fs g F s (j + 1)) (j + 1)
    rw [fs_s hi] at this
    rw [this, Option.bind_some, ← fs_s hi]
    rfl
  · simp only [f_X10_fallFrom_b24, h1, oI]
    rw [if_neg (by rw [show (289 : Int32) = nI 289 from rfl, nn_le (by omega) (by omega)]; omega), if_pos trivial]
    rfl
theorem fallEnd_ok (hS : Shp σ) (hG : GRD J g) (ho : RO g F) (hK : KNK J g F) {s M : Nat} (hs : s < gSt g) (hl : lW g F s = true) (h1 : (sp g F (fs g F s M) (gSz g)).2 = none) (h2 : ∀ j, j < M → (sp g F (fs g F s j) (gSz g)).2 ≠ none) : f_X12_fallEnd (xw σ J) 183 (nI s) = some (nI (fs g F s M)) := by
  have hg := hG.1
  have hSt := (gSt_b hg).1
  have hf := fs_l (g := g) (F := F) hs hl
  have st : ∀ j, f_X12_steepest (xw σ J) 183 (nI (fs g F s j)) = some (oI (sp g F (fs g F s j) (gSz g)).2) := fun j => steep12_ok hS hG ho hK (hf j).1 (hf j).2
  unfold f_X12_fallEnd
  rw [show nI s = nI (fs g F s 0) from rfl]
  simp (disch := first | assumption | omega) only [Option.bind_some, Option.map_some, xw_gR, xw_gN, xw_al, xw_ck, xw_uI, xw_ur, xup_at, xur_at, if_true, if_false, reduceIte, and_true, true_and, and_false, false_and, not_true_eq_false, not_false_eq_true, Nat.reduceEqDiff, eq_self, Nat.reduceAdd, Nat.reduceMul, kC1, kG1, kP1, kR1_0, kR1_1, kR1_2, kR1_3, kR1_4, kR1_5, kR1_6, kR1_7, kR1_8, kR1_9, kR1_10, kR1_11, kR1_12, kR1_13, kC2, kG2, kP2, kR2_0, kR2_1, kC3, kG3, kP3, kR3_0, kR3_1, kR3_2, kR3_3, kL4, kA4, kS4, kL5, kA5, kS5, kL6, kA6, kS6, kL7, kA7, kS7, kC8, kG8, kP8, kR8_0, kR8_1, kL9, kA9, kS9, kL10, kA10, kS10, kC11, kG11, kP11, kR11_0, kR11_1, kR11_2, kR11_3, kL12, kA12, kS12, kL13, kA13, kS13, kL14, kA14, kS14, kL15, kA15, kS15, kC16, kG16, kP16, kR16_0, kR16_1, kL17, kA17, kS17, kL18, kA18, kS18, kC19, kG19, kP19, kR19_0, kL20, kL141, kL146, kA146, kS146, kL151, kA151, kS151, kL156, kA156, kS156, kC157, kG157, kP157, kR157_0, kR157_1, kL158, kA158, kS158, kL159, kA159, kS159, kC161, kG161, kP161, kR161_0, kR161_1, kL162, kA162, kS162, kL163, kA163, kS163, kC165, kG165, kP165, kR165_0, kR165_1, kR165_2, kR165_3, kL166, kA166, kS166, kL167, kA167, kS167, kL168, kA168, kS168, kL169, kA169, kS169, kC170, kG170, kP170, kR170_0, kR170_1, kR170_2, kL171, kA171, kS171, kL172, kA172, kS172, kL173, kA173, kS173, kC174, kG174, kP174, kR174_0, kR174_1, kR174_2, kR174_3, kR174_4, kL175, kA175, kS175, kL176, kA176, kS176, kL177, kA177, kS177, kL178, kA178, kS178, kL179, kC180, kG180, kP180, kL181, kL182, kA182, kS182, kC183, kG183, kP183, kR183_1, kR183_3, kR183_5, kR183_6, kR183_7, kR183_8, kR183_9, kR183_21, kR183_26, kR183_27, kR183_30, kR183_31, kR183_33, kR183_34, kR183_36, kR183_37, kR183_38, kR183_39, kR183_40, kR183_41, kR183_42, kR183_43, kR183_44, kL184, kA184, kS184, kL185, kA185, kS185, kL186, kA186, kS186, kL187, kA187, kS187, kL188, kA188, kS188, kL189, kL190, kL191, kA191, kS191, kL192, kA192, kS192, kL193, kA193, kS193, kL194, kA194, kS194, kL195, kA195, kS195, kL196, kA196, kS196, kL197, kA197, kS197, kL198, kA198, kS198, kL199, kA199, kS199, kL200, kA200, kS200, kL201, kL202, kA202, kS202, kL203, kA203, kS203, kL204, kA204, kS204, kL205, kL206, kA206, kS206, st 0]
  refine xforE (fun j : Nat => (nI (fs g F s j), oI (sp g F (fs g F s j) (gSz g)).2)) M rfl (fun j hj => ?_) ?_
  · obtain ⟨i, hi⟩ := Option.ne_none_iff_exists'.mp (h2 j hj)
    have hi16 := spS hg hi
    simp only [f_X12_fallEnd_b8, hi, oI]
    rw [if_neg (nI_pos (by omega)), nn_one (by omega), nn_xor, ← fs_s hi]
    simp (disch := first | assumption | omega) only [Option.bind_some, Option.map_some, xw_gR, xw_gN, xw_al, xw_ck, xw_uI, xw_ur, xup_at, xur_at, if_true, if_false, reduceIte, and_true, true_and, and_false, false_and, not_true_eq_false, not_false_eq_true, Nat.reduceEqDiff, eq_self, Nat.reduceAdd, Nat.reduceMul, kC1, kG1, kP1, kR1_0, kR1_1, kR1_2, kR1_3, kR1_4, kR1_5, kR1_6, kR1_7, kR1_8, kR1_9, kR1_10, kR1_11, kR1_12, kR1_13, kC2, kG2, kP2, kR2_0, kR2_1, kC3, kG3, kP3, kR3_0, kR3_1, kR3_2, kR3_3, kL4, kA4, kS4, kL5, kA5, kS5, kL6, kA6, kS6, kL7, kA7, kS7, kC8, kG8, kP8, kR8_0, kR8_1, kL9, kA9, kS9, kL10, kA10, kS10, kC11, kG11, kP11, kR11_0, kR11_1, kR11_2, kR11_3, kL12, kA12, kS12, kL13, kA13, kS13, kL14, kA14, kS14, kL15, kA15, kS15, kC16, kG16, kP16, kR16_0, kR16_1, kL17, kA17, kS17, kL18, kA18, kS18, kC19, kG19, kP19, kR19_0, kL20, kL141, kL146, kA146, kS146, kL151, kA151, kS151, kL156, kA156, kS156, kC157, kG157, kP157, kR157_0, kR157_1, kL158, kA158, kS158, kL159, kA159, kS159, kC161, kG161, kP161, kR161_0, kR161_1, kL162, kA162, kS162, kL163, kA163, kS163, kC165, kG165, kP165, kR165_0, kR165_1, kR165_2, kR165_3, kL166, kA166, kS166, kL167, kA167, kS167, kL168, kA168, kS168, kL169, kA169, kS169, kC170, kG170, kP170, kR170_0, kR170_1, kR170_2, kL171, kA171, kS171, kL172, kA172, kS172, kL173, kA173, kS173, kC174, kG174, kP174, kR174_0, kR174_1, kR174_2, kR174_3, kR174_4, kL175, kA175, kS175, kL176, kA176, kS176, kL177, kA177, kS177, kL178, kA178, kS178, kL179, kC180, kG180, kP180, kL181, kL182, kA182, kS182, kC183, kG183, kP183, kR183_1, kR183_3, kR183_5, kR183_6, kR183_7, kR183_8, kR183_9, kR183_21, kR183_26, kR183_27, kR183_30, kR183_31, kR183_33, kR183_34, kR183_36, kR183_37, kR183_38, kR183_39, kR183_40, kR183_41, kR183_42, kR183_43, kR183_44, kL184, kA184, kS184, kL185, kA185, kS185, kL186, kA186, kS186, kL187, kA187, kS187, kL188, kA188, kS188, kL189, kL190, kL191, kA191, kS191, kL192, kA192, kS192, kL193, kA193, kS193, kL194, kA194, kS194, kL195, kA195, kS195, kL196, kA196, kS196, kL197, kA197, kS197, kL198, kA198, kS198, kL199, kA199, kS199, kL200, kA200, kS200, kL201, kL202, kA202, kS202, kL203, kA203, kS203, kL204, kA204, kS204, kL205, kL206, kA206, kS206, st (j + 1)]
    rfl
  · simp only [f_X12_fallEnd_b8, h1, oI]
    rw [if_pos (by decide)]
    rfl
theorem fallTurns_ok (hS : Shp σ) (hG : GRD J g) (ho : RO g F) (hK : KNK J g F) {s M : Nat} (hs : s < gSt g) (hl : lW g F s = true) (h1 : (sp g F (fs g F s M) (gSz g)).2 = none) (h2 : ∀ j, j < M → (sp g F (fs g F s j) (gSz g)).2 ≠ none) : f_X12_fallTurns (xw σ J) 183 (nI s) = some (nI M) := by
  have hg := hG.1
  have hSt := (gSt_b hg).1
  have hf := fs_l (g := g) (F := F) hs hl
  have st : ∀ j, f_X12_steepest (xw σ J) 183 (nI (fs g F s j)) = some (oI (sp g F (fs g F s j) (gSz g)).2) := fun j => steep12_ok hS hG ho hK (hf j).1 (hf j).2
  unfold f_X12_fallTurns
  rw [show nI s = nI (fs g F s 0) from rfl]
  simp (disch := first | assumption | omega) only [Option.bind_some, Option.map_some, xw_gR, xw_gN, xw_al, xw_ck, xw_uI, xw_ur, xup_at, xur_at, if_true, if_false, reduceIte, and_true, true_and, and_false, false_and, not_true_eq_false, not_false_eq_true, Nat.reduceEqDiff, eq_self, Nat.reduceAdd, Nat.reduceMul, kC1, kG1, kP1, kR1_0, kR1_1, kR1_2, kR1_3, kR1_4, kR1_5, kR1_6, kR1_7, kR1_8, kR1_9, kR1_10, kR1_11, kR1_12, kR1_13, kC2, kG2, kP2, kR2_0, kR2_1, kC3, kG3, kP3, kR3_0, kR3_1, kR3_2, kR3_3, kL4, kA4, kS4, kL5, kA5, kS5, kL6, kA6, kS6, kL7, kA7, kS7, kC8, kG8, kP8, kR8_0, kR8_1, kL9, kA9, kS9, kL10, kA10, kS10, kC11, kG11, kP11, kR11_0, kR11_1, kR11_2, kR11_3, kL12, kA12, kS12, kL13, kA13, kS13, kL14, kA14, kS14, kL15, kA15, kS15, kC16, kG16, kP16, kR16_0, kR16_1, kL17, kA17, kS17, kL18, kA18, kS18, kC19, kG19, kP19, kR19_0, kL20, kL141, kL146, kA146, kS146, kL151, kA151, kS151, kL156, kA156, kS156, kC157, kG157, kP157, kR157_0, kR157_1, kL158, kA158, kS158, kL159, kA159, kS159, kC161, kG161, kP161, kR161_0, kR161_1, kL162, kA162, kS162, kL163, kA163, kS163, kC165, kG165, kP165, kR165_0, kR165_1, kR165_2, kR165_3, kL166, kA166, kS166, kL167, kA167, kS167, kL168, kA168, kS168, kL169, kA169, kS169, kC170, kG170, kP170, kR170_0, kR170_1, kR170_2, kL171, kA171, kS171, kL172, kA172, kS172, kL173, kA173, kS173, kC174, kG174, kP174, kR174_0, kR174_1, kR174_2, kR174_3, kR174_4, kL175, kA175, kS175, kL176, kA176, kS176, kL177, kA177, kS177, kL178, kA178, kS178, kL179, kC180, kG180, kP180, kL181, kL182, kA182, kS182, kC183, kG183, kP183, kR183_1, kR183_3, kR183_5, kR183_6, kR183_7, kR183_8, kR183_9, kR183_21, kR183_26, kR183_27, kR183_30, kR183_31, kR183_33, kR183_34, kR183_36, kR183_37, kR183_38, kR183_39, kR183_40, kR183_41, kR183_42, kR183_43, kR183_44, kL184, kA184, kS184, kL185, kA185, kS185, kL186, kA186, kS186, kL187, kA187, kS187, kL188, kA188, kS188, kL189, kL190, kL191, kA191, kS191, kL192, kA192, kS192, kL193, kA193, kS193, kL194, kA194, kS194, kL195, kA195, kS195, kL196, kA196, kS196, kL197, kA197, kS197, kL198, kA198, kS198, kL199, kA199, kS199, kL200, kA200, kS200, kL201, kL202, kA202, kS202, kL203, kA203, kS203, kL204, kA204, kS204, kL205, kL206, kA206, kS206, st 0]
  refine xforE (fun j : Nat => (nI (fs g F s j), nI j, oI (sp g F (fs g F s j) (gSz g)).2)) M rfl (fun j hj => ?_) ?_
  · obtain ⟨i, hi⟩ := Option.ne_none_iff_exists'.mp (h2 j hj)
    have hi16 := spS hg hi
    simp only [f_X12_fallTurns_b11, hi, oI]
    rw [if_neg (nI_pos (by omega)), nn_one (by omega), nn_xor, ← fs_s hi]
    simp (disch := first | assumption | omega) only [Option.bind_some, Option.map_some, xw_gR, xw_gN, xw_al, xw_ck, xw_uI, xw_ur, xup_at, xur_at, if_true, if_false, reduceIte, and_true, true_and, and_false, false_and, not_true_eq_false, not_false_eq_true, Nat.reduceEqDiff, eq_self, Nat.reduceAdd, Nat.reduceMul, kC1, kG1, kP1, kR1_0, kR1_1, kR1_2, kR1_3, kR1_4, kR1_5, kR1_6, kR1_7, kR1_8, kR1_9, kR1_10, kR1_11, kR1_12, kR1_13, kC2, kG2, kP2, kR2_0, kR2_1, kC3, kG3, kP3, kR3_0, kR3_1, kR3_2, kR3_3, kL4, kA4, kS4, kL5, kA5, kS5, kL6, kA6, kS6, kL7, kA7, kS7, kC8, kG8, kP8, kR8_0, kR8_1, kL9, kA9, kS9, kL10, kA10, kS10, kC11, kG11, kP11, kR11_0, kR11_1, kR11_2, kR11_3, kL12, kA12, kS12, kL13, kA13, kS13, kL14, kA14, kS14, kL15, kA15, kS15, kC16, kG16, kP16, kR16_0, kR16_1, kL17, kA17, kS17, kL18, kA18, kS18, kC19, kG19, kP19, kR19_0, kL20, kL141, kL146, kA146, kS146, kL151, kA151, kS151, kL156, kA156, kS156, kC157, kG157, kP157, kR157_0, kR157_1, kL158, kA158, kS158, kL159, kA159, kS159, kC161, kG161, kP161, kR161_0, kR161_1, kL162, kA162, kS162, kL163, kA163, kS163, kC165, kG165, kP165, kR165_0, kR165_1, kR165_2, kR165_3, kL166, kA166, kS166, kL167, kA167, kS167, kL168, kA168, kS168, kL169, kA169, kS169, kC170, kG170, kP170, kR170_0, kR170_1, kR170_2, kL171, kA171, kS171, kL172, kA172, kS172, kL173, kA173, kS173, kC174, kG174, kP174, kR174_0, kR174_1, kR174_2, kR174_3, kR174_4, kL175, kA175, kS175, kL176, kA176, kS176, kL177, kA177, kS177, kL178, kA178, kS178, kL179, kC180, kG180, kP180, kL181, kL182, kA182, kS182, kC183, kG183, kP183, kR183_1, kR183_3, kR183_5, kR183_6, kR183_7, kR183_8, kR183_9, kR183_21, kR183_26, kR183_27, kR183_30, kR183_31, kR183_33, kR183_34, kR183_36, kR183_37, kR183_38, kR183_39, kR183_40, kR183_41, kR183_42, kR183_43, kR183_44, kL184, kA184, kS184, kL185, kA185, kS185, kL186, kA186, kS186, kL187, kA187, kS187, kL188, kA188, kS188, kL189, kL190, kL191, kA191, kS191, kL192, kA192, kS192, kL193, kA193, kS193, kL194, kA194, kS194, kL195, kA195, kS195, kL196, kA196, kS196, kL197, kA197, kS197, kL198, kA198, kS198, kL199, kA199, kS199, kL200, kA200, kS200, kL201, kL202, kA202, kS202, kL203, kA203, kS203, kL204, kA204, kS204, kL205, kL206, kA206, kS206, st (j + 1)]
    rw [← nI_succ]
    rfl
  · simp only [f_X12_fallTurns_b11, h1, oI]
    rw [if_pos (by decide)]
    rfl
end FALL
end
section
/-! fall -/
theorem knows_g {σ : XS} {I : Nat → Nat → Int32} {g : GD} (hS : Shp σ) (hG : GRD I g) (ho : RO g (I 191)) (hk : KNW I g) : ∃ J, f_X12_knows (xw σ I) 183 = some (xw σ J) ∧ KNK J g (J 191) ∧ J 183 32 = 1 ∧ (∀ b j, ¬ (196 ≤ b ∧ b ≤ 198) → ¬ (b = 183 ∧ (j = 32 ∨ j = 35)) → J b j = I b j) := by
  rcases hk with h0 | ⟨h1, hk⟩
  · obtain ⟨z, hz⟩ : ∃ z, z = xup I 183 32 1 := ⟨_, rfl⟩
    have uz : ∀ a k, ¬ (a = 183 ∧ k = 32) → z a k = I a k := fun a k h => by rw [hz, xup_at, if_neg h]
    have hGz : GRD z g := GRD_c (fun a k q => uz a k (by unfold sGRD at q; omega)) hG
    have hrow : z 191 = I 191 := by funext k; exact uz 191 k (by omega)
    obtain ⟨J, e1, j1, j2⟩ := knows_l2 (I := z) hS hGz rfl (by rw [hrow]; exact ho)
    have rJ : J 191 = I 191 := by funext k; rw [j2 191 k (by omega) (by omega), hrow]
    have uJ : ∀ b j, ¬ (196 ≤ b ∧ b ≤ 198) → ¬ (b = 183 ∧ (j = 32 ∨ j = 35)) → J b j = I b j := fun b j h1 h2 => by rw [j2 b j h1 (by omega), uz b j (by omega)]
    have kJ : KNK J g (J 191) := by rw [rJ, ← hrow]; exact j1
    refine ⟨J, ?_, kJ, ?_, uJ⟩
    · unfold f_X12_knows
      simp (disch := first | assumption | omega) only [Option.bind_some, Option.map_some, xw_gR, xw_gN, xw_al, xw_ck, xw_uI, xw_ur, xup_at, xur_at, if_true, if_false, reduceIte, and_true, true_and, and_false, false_and, not_true_eq_false, not_false_eq_true, Nat.reduceEqDiff, eq_self, Nat.reduceAdd, Nat.reduceMul, kC1, kG1, kP1, kR1_0, kR1_1, kR1_2, kR1_3, kR1_4, kR1_5, kR1_6, kR1_7, kR1_8, kR1_9, kR1_10, kR1_11, kR1_12, kR1_13, kC2, kG2, kP2, kR2_0, kR2_1, kC3, kG3, kP3, kR3_0, kR3_1, kR3_2, kR3_3, kL4, kA4, kS4, kL5, kA5, kS5, kL6, kA6, kS6, kL7, kA7, kS7, kC8, kG8, kP8, kR8_0, kR8_1, kL9, kA9, kS9, kL10, kA10, kS10, kC11, kG11, kP11, kR11_0, kR11_1, kR11_2, kR11_3, kL12, kA12, kS12, kL13, kA13, kS13, kL14, kA14, kS14, kL15, kA15, kS15, kC16, kG16, kP16, kR16_0, kR16_1, kL17, kA17, kS17, kL18, kA18, kS18, kC19, kG19, kP19, kR19_0, kL20, kL141, kL146, kA146, kS146, kL151, kA151, kS151, kL156, kA156, kS156, kC157, kG157, kP157, kR157_0, kR157_1, kL158, kA158, kS158, kL159, kA159, kS159, kC161, kG161, kP161, kR161_0, kR161_1, kL162, kA162, kS162, kL163, kA163, kS163, kC165, kG165, kP165, kR165_0, kR165_1, kR165_2, kR165_3, kL166, kA166, kS166, kL167, kA167, kS167, kL168, kA168, kS168, kL169, kA169, kS169, kC170, kG170, kP170, kR170_0, kR170_1, kR170_2, kL171, kA171, kS171, kL172, kA172, kS172, kL173, kA173, kS173, kC174, kG174, kP174, kR174_0, kR174_1, kR174_2, kR174_3, kR174_4, kL175, kA175, kS175, kL176, kA176, kS176, kL177, kA177, kS177, kL178, kA178, kS178, kL179, kC180, kG180, kP180, kL181, kL182, kA182, kS182, kC183, kG183, kP183, kR183_1, kR183_3, kR183_5, kR183_6, kR183_7, kR183_8, kR183_9, kR183_21, kR183_26, kR183_27, kR183_30, kR183_31, kR183_33, kR183_34, kR183_36, kR183_37, kR183_38, kR183_39, kR183_40, kR183_41, kR183_42, kR183_43, kR183_44, kL184, kA184, kS184, kL185, kA185, kS185, kL186, kA186, kS186, kL187, kA187, kS187, kL188, kA188, kS188, kL189, kL190, kL191, kA191, kS191, kL192, kA192, kS192, kL193, kA193, kS193, kL194, kA194, kS194, kL195, kA195, kS195, kL196, kA196, kS196, kL197, kA197, kS197, kL198, kA198, kS198, kL199, kA199, kS199, kL200, kA200, kS200, kL201, kL202, kA202, kS202, kL203, kA203, kS203, kL204, kA204, kS204, kL205, kL206, kA206, kS206, h0]
      rw [← hz]
      refine xforE (fun j : Nat => (nI j, xw σ (fun c k => if c = 197 ∧ k < j then nI 0 else z c k))) 301 ?_ (fun j hj => ?_) ?_
      · congr 2
        funext c k
        rw [if_neg (by omega)]
      · simp only [f_X12_knows_b15]
        rw [if_neg (by rw [show (301 : Int32) = nI 301 from rfl, nn_le (by omega) (by omega)]; omega)]
        simp (disch := first | assumption | omega) only [Option.bind_some, Option.map_some, xw_gR, xw_gN, xw_al, xw_ck, xw_uI, xw_ur, xup_at, xur_at, if_true, if_false, reduceIte, and_true, true_and, and_false, false_and, not_true_eq_false, not_false_eq_true, Nat.reduceEqDiff, eq_self, Nat.reduceAdd, Nat.reduceMul, kC1, kG1, kP1, kR1_0, kR1_1, kR1_2, kR1_3, kR1_4, kR1_5, kR1_6, kR1_7, kR1_8, kR1_9, kR1_10, kR1_11, kR1_12, kR1_13, kC2, kG2, kP2, kR2_0, kR2_1, kC3, kG3, kP3, kR3_0, kR3_1, kR3_2, kR3_3, kL4, kA4, kS4, kL5, kA5, kS5, kL6, kA6, kS6, kL7, kA7, kS7, kC8, kG8, kP8, kR8_0, kR8_1, kL9, kA9, kS9, kL10, kA10, kS10, kC11, kG11, kP11, kR11_0, kR11_1, kR11_2, kR11_3, kL12, kA12, kS12, kL13, kA13, kS13, kL14, kA14, kS14, kL15, kA15, kS15, kC16, kG16, kP16, kR16_0, kR16_1, kL17, kA17, kS17, kL18, kA18, kS18, kC19, kG19, kP19, kR19_0, kL20, kL141, kL146, kA146, kS146, kL151, kA151, kS151, kL156, kA156, kS156, kC157, kG157, kP157, kR157_0, kR157_1, kL158, kA158, kS158, kL159, kA159, kS159, kC161, kG161, kP161, kR161_0, kR161_1, kL162, kA162, kS162, kL163, kA163, kS163, kC165, kG165, kP165, kR165_0, kR165_1, kR165_2, kR165_3, kL166, kA166, kS166, kL167, kA167, kS167, kL168, kA168, kS168, kL169, kA169, kS169, kC170, kG170, kP170, kR170_0, kR170_1, kR170_2, kL171, kA171, kS171, kL172, kA172, kS172, kL173, kA173, kS173, kC174, kG174, kP174, kR174_0, kR174_1, kR174_2, kR174_3, kR174_4, kL175, kA175, kS175, kL176, kA176, kS176, kL177, kA177, kS177, kL178, kA178, kS178, kL179, kC180, kG180, kP180, kL181, kL182, kA182, kS182, kC183, kG183, kP183, kR183_1, kR183_3, kR183_5, kR183_6, kR183_7, kR183_8, kR183_9, kR183_21, kR183_26, kR183_27, kR183_30, kR183_31, kR183_33, kR183_34, kR183_36, kR183_37, kR183_38, kR183_39, kR183_40, kR183_41, kR183_42, kR183_43, kR183_44, kL184, kA184, kS184, kL185, kA185, kS185, kL186, kA186, kS186, kL187, kA187, kS187, kL188, kA188, kS188, kL189, kL190, kL191, kA191, kS191, kL192, kA192, kS192, kL193, kA193, kS193, kL194, kA194, kS194, kL195, kA195, kS195, kL196, kA196, kS196, kL197, kA197, kS197, kL198, kA198, kS198, kL199, kA199, kS199, kL200, kA200, kS200, kL201, kL202, kA202, kS202, kL203, kA203, kS203, kL204, kA204, kS204, kL205, kL206, kA206, kS206]
        rw [nI_succ]
        congr 4
        funext c k
        simp only [xup_at]
        by_cases q : c = 197
        · subst q
          by_cases q2 : k = j
          · subst q2; simp; rfl
          · have : (k < j + 1) ↔ (k < j) := by omega
            simp [q2, this]
        · simp [q]
      · simp only [f_X12_knows_b15]
        rw [if_pos (by decide)]
        have e : (fun c k => if c = 197 ∧ k < 301 then nI 0 else z c k) = knI z g (z 191) 0 := by
          funext c k
          unfold knI
          rw [if_neg (show ¬ (c = 196 ∧ k < 0) by omega)]
          rfl
        rw [e, e1]
        rfl
    · rw [j2 183 32 (by omega) (by omega), hz, xup_at, if_pos ⟨rfl, rfl⟩]
  · refine ⟨I, ?_, hk, h1, fun _ _ _ _ => rfl⟩
    unfold f_X12_knows
    simp (disch := first | assumption | omega) only [Option.bind_some, Option.map_some, xw_gR, xw_gN, xw_al, xw_ck, xw_uI, xw_ur, xup_at, xur_at, if_true, if_false, reduceIte, and_true, true_and, and_false, false_and, not_true_eq_false, not_false_eq_true, Nat.reduceEqDiff, eq_self, Nat.reduceAdd, Nat.reduceMul, kC1, kG1, kP1, kR1_0, kR1_1, kR1_2, kR1_3, kR1_4, kR1_5, kR1_6, kR1_7, kR1_8, kR1_9, kR1_10, kR1_11, kR1_12, kR1_13, kC2, kG2, kP2, kR2_0, kR2_1, kC3, kG3, kP3, kR3_0, kR3_1, kR3_2, kR3_3, kL4, kA4, kS4, kL5, kA5, kS5, kL6, kA6, kS6, kL7, kA7, kS7, kC8, kG8, kP8, kR8_0, kR8_1, kL9, kA9, kS9, kL10, kA10, kS10, kC11, kG11, kP11, kR11_0, kR11_1, kR11_2, kR11_3, kL12, kA12, kS12, kL13, kA13, kS13, kL14, kA14, kS14, kL15, kA15, kS15, kC16, kG16, kP16, kR16_0, kR16_1, kL17, kA17, kS17, kL18, kA18, kS18, kC19, kG19, kP19, kR19_0, kL20, kL141, kL146, kA146, kS146, kL151, kA151, kS151, kL156, kA156, kS156, kC157, kG157, kP157, kR157_0, kR157_1, kL158, kA158, kS158, kL159, kA159, kS159, kC161, kG161, kP161, kR161_0, kR161_1, kL162, kA162, kS162, kL163, kA163, kS163, kC165, kG165, kP165, kR165_0, kR165_1, kR165_2, kR165_3, kL166, kA166, kS166, kL167, kA167, kS167, kL168, kA168, kS168, kL169, kA169, kS169, kC170, kG170, kP170, kR170_0, kR170_1, kR170_2, kL171, kA171, kS171, kL172, kA172, kS172, kL173, kA173, kS173, kC174, kG174, kP174, kR174_0, kR174_1, kR174_2, kR174_3, kR174_4, kL175, kA175, kS175, kL176, kA176, kS176, kL177, kA177, kS177, kL178, kA178, kS178, kL179, kC180, kG180, kP180, kL181, kL182, kA182, kS182, kC183, kG183, kP183, kR183_1, kR183_3, kR183_5, kR183_6, kR183_7, kR183_8, kR183_9, kR183_21, kR183_26, kR183_27, kR183_30, kR183_31, kR183_33, kR183_34, kR183_36, kR183_37, kR183_38, kR183_39, kR183_40, kR183_41, kR183_42, kR183_43, kR183_44, kL184, kA184, kS184, kL185, kA185, kS185, kL186, kA186, kS186, kL187, kA187, kS187, kL188, kA188, kS188, kL189, kL190, kL191, kA191, kS191, kL192, kA192, kS192, kL193, kA193, kS193, kL194, kA194, kS194, kL195, kA195, kS195, kL196, kA196, kS196, kL197, kA197, kS197, kL198, kA198, kS198, kL199, kA199, kS199, kL200, kA200, kS200, kL201, kL202, kA202, kS202, kL203, kA203, kS203, kL204, kA204, kS204, kL205, kL206, kA206, kS206, h1, one0]
theorem IV.walk {n : Nat} {σ : XS} {g : GD} {gT gP : GH} {st : Nat} (H : IV n σ g gT gP st) {I' : Nat → Nat → Int32} (u : ∀ a k, ¬ (176 ≤ a ∧ a ≤ 182) → I' a k = xI σ a k) : IV n (xw σ I') g gT gP st := by
  have hc := H.cells
  exact H.cache H.shp (fun a k h => u a k (by omega)) (CCH_c (fun a k q => u a k (by unfold sCCH at q; rw [xw_R] at q; omega)) (Nat.le_refl _) (fun _ _ => rfl) (fun _ _ => rfl) H.cch) H.cel
theorem op_fall : Op_fall INV := by
  intro n σ hn ⟨g, gT, gP, st, H⟩ _
  have hS := H.shp
  have hG := H.grd
  have hg := hG.1
  have h16 := (gAll_b g hg).2.2.1
  have hSt := (gSt_b hg).1
  by_cases h0 : gSz g = 0
  · refine ⟨-1, σ, σ, ?_, ?_, g, gT, gP, st, H.nop⟩
    · show f_X11_fall (xw σ (xI σ)) 1 = _
      unfold f_X11_fall
      simp (disch := first | assumption | omega) only [Option.bind_some, Option.map_some, xw_gR, xw_gN, xw_al, xw_ck, xw_uI, xw_ur, xup_at, xur_at, if_true, if_false, reduceIte, and_true, true_and, and_false, false_and, not_true_eq_false, not_false_eq_true, Nat.reduceEqDiff, eq_self, Nat.reduceAdd, Nat.reduceMul, kC1, kG1, kP1, kR1_0, kR1_1, kR1_2, kR1_3, kR1_4, kR1_5, kR1_6, kR1_7, kR1_8, kR1_9, kR1_10, kR1_11, kR1_12, kR1_13, kC2, kG2, kP2, kR2_0, kR2_1, kC3, kG3, kP3, kR3_0, kR3_1, kR3_2, kR3_3, kL4, kA4, kS4, kL5, kA5, kS5, kL6, kA6, kS6, kL7, kA7, kS7, kC8, kG8, kP8, kR8_0, kR8_1, kL9, kA9, kS9, kL10, kA10, kS10, kC11, kG11, kP11, kR11_0, kR11_1, kR11_2, kR11_3, kL12, kA12, kS12, kL13, kA13, kS13, kL14, kA14, kS14, kL15, kA15, kS15, kC16, kG16, kP16, kR16_0, kR16_1, kL17, kA17, kS17, kL18, kA18, kS18, kC19, kG19, kP19, kR19_0, kL20, kL141, kL146, kA146, kS146, kL151, kA151, kS151, kL156, kA156, kS156, kC157, kG157, kP157, kR157_0, kR157_1, kL158, kA158, kS158, kL159, kA159, kS159, kC161, kG161, kP161, kR161_0, kR161_1, kL162, kA162, kS162, kL163, kA163, kS163, kC165, kG165, kP165, kR165_0, kR165_1, kR165_2, kR165_3, kL166, kA166, kS166, kL167, kA167, kS167, kL168, kA168, kS168, kL169, kA169, kS169, kC170, kG170, kP170, kR170_0, kR170_1, kR170_2, kL171, kA171, kS171, kL172, kA172, kS172, kL173, kA173, kS173, kC174, kG174, kP174, kR174_0, kR174_1, kR174_2, kR174_3, kR174_4, kL175, kA175, kS175, kL176, kA176, kS176, kL177, kA177, kS177, kL178, kA178, kS178, kL179, kC180, kG180, kP180, kL181, kL182, kA182, kS182, kC183, kG183, kP183, kR183_1, kR183_3, kR183_5, kR183_6, kR183_7, kR183_8, kR183_9, kR183_21, kR183_26, kR183_27, kR183_30, kR183_31, kR183_33, kR183_34, kR183_36, kR183_37, kR183_38, kR183_39, kR183_40, kR183_41, kR183_42, kR183_43, kR183_44, kL184, kA184, kS184, kL185, kA185, kS185, kL186, kA186, kS186, kL187, kA187, kS187, kL188, kA188, kS188, kL189, kL190, kL191, kA191, kS191, kL192, kA192, kS192, kL193, kA193, kS193, kL194, kA194, kS194, kL195, kA195, kS195, kL196, kA196, kS196, kL197, kA197, kS197, kL198, kA198, kS198, kL199, kA199, kS199, kL200, kA200, kS200, kL201, kL202, kA202, kS202, kL203, kA203, kS203, kL204, kA204, kS204, kL205, kL206, kA206, kS206, hG.2.2.2.2.1, h0, show (nI 0 = 0) = True from eq_true rfl]
      rfl
    · show f_X12_fall (xw σ (xI σ)) 183 = _
      unfold f_X12_fall
      simp (disch := first | assumption | omega) only [Option.bind_some, Option.map_some, xw_gR, xw_gN, xw_al, xw_ck, xw_uI, xw_ur, xup_at, xur_at, if_true, if_false, reduceIte, and_true, true_and, and_false, false_and, not_true_eq_false, not_false_eq_true, Nat.reduceEqDiff, eq_self, Nat.reduceAdd, Nat.reduceMul, kC1, kG1, kP1, kR1_0, kR1_1, kR1_2, kR1_3, kR1_4, kR1_5, kR1_6, kR1_7, kR1_8, kR1_9, kR1_10, kR1_11, kR1_12, kR1_13, kC2, kG2, kP2, kR2_0, kR2_1, kC3, kG3, kP3, kR3_0, kR3_1, kR3_2, kR3_3, kL4, kA4, kS4, kL5, kA5, kS5, kL6, kA6, kS6, kL7, kA7, kS7, kC8, kG8, kP8, kR8_0, kR8_1, kL9, kA9, kS9, kL10, kA10, kS10, kC11, kG11, kP11, kR11_0, kR11_1, kR11_2, kR11_3, kL12, kA12, kS12, kL13, kA13, kS13, kL14, kA14, kS14, kL15, kA15, kS15, kC16, kG16, kP16, kR16_0, kR16_1, kL17, kA17, kS17, kL18, kA18, kS18, kC19, kG19, kP19, kR19_0, kL20, kL141, kL146, kA146, kS146, kL151, kA151, kS151, kL156, kA156, kS156, kC157, kG157, kP157, kR157_0, kR157_1, kL158, kA158, kS158, kL159, kA159, kS159, kC161, kG161, kP161, kR161_0, kR161_1, kL162, kA162, kS162, kL163, kA163, kS163, kC165, kG165, kP165, kR165_0, kR165_1, kR165_2, kR165_3, kL166, kA166, kS166, kL167, kA167, kS167, kL168, kA168, kS168, kL169, kA169, kS169, kC170, kG170, kP170, kR170_0, kR170_1, kR170_2, kL171, kA171, kS171, kL172, kA172, kS172, kL173, kA173, kS173, kC174, kG174, kP174, kR174_0, kR174_1, kR174_2, kR174_3, kR174_4, kL175, kA175, kS175, kL176, kA176, kS176, kL177, kA177, kS177, kL178, kA178, kS178, kL179, kC180, kG180, kP180, kL181, kL182, kA182, kS182, kC183, kG183, kP183, kR183_1, kR183_3, kR183_5, kR183_6, kR183_7, kR183_8, kR183_9, kR183_21, kR183_26, kR183_27, kR183_30, kR183_31, kR183_33, kR183_34, kR183_36, kR183_37, kR183_38, kR183_39, kR183_40, kR183_41, kR183_42, kR183_43, kR183_44, kL184, kA184, kS184, kL185, kA185, kS185, kL186, kA186, kS186, kL187, kA187, kS187, kL188, kA188, kS188, kL189, kL190, kL191, kA191, kS191, kL192, kA192, kS192, kL193, kA193, kS193, kL194, kA194, kS194, kL195, kA195, kS195, kL196, kA196, kS196, kL197, kA197, kS197, kL198, kA198, kS198, kL199, kA199, kS199, kL200, kA200, kS200, kL201, kL202, kA202, kS202, kL203, kA203, kS203, kL204, kA204, kS204, kL205, kL206, kA206, kS206, sites_ok hS hG, h0, show (nI 0 = 0) = True from eq_true rfl]
      rfl
  have hn0 : (nI (gSz g) = 0) = False := eq_false (nI_ne0 (by omega) (by omega))
  obtain ⟨F, hF⟩ : ∃ F, F = xI σ 191 := ⟨_, rfl⟩
  have hSR := H.now.1
  have ho := H.now.2.1
  rw [← hF] at hSR ho
  obtain ⟨b, o3, o4, o5⟩ := ho.2.2.1
  have hbN : b < gSt g := by unfold gSt; rw [if_neg h0]; exact o3
  have hbl : lW g F b = true := lW_iff.mpr o5
  have hb4 : xI σ 16 4 = nI b := by rw [hSR.2.2.2.1]; exact o4
  obtain ⟨M, hM, m1, m2⟩ := fs_end (s := b) hg ho
  have hfl := fs_l (g := g) (F := F) hbN hbl M
  obtain ⟨w, hw⟩ : ∃ w, w = fs g F b M := ⟨_, rfl⟩
  rw [← hw] at hfl
  have hfall := fall11_ok (σ := σ) (J := xI σ) hS hG ho hSR hbN hbl hM m1 m2
  rw [← hw] at hfall
  have v0 : flI (xI σ) w M 180 0 = nI w := by unfold flI; simp [xup_at]
  have v1 : flI (xI σ) w M 180 1 = nI M := by unfold flI; simp [xup_at]
  by_cases hM0 : M = 0
  · -- nothing falls
    have HW : IV n (xw σ (flI (xI σ) w M)) g gT gP st := H.walk (fun a k h => flI_out (by omega))
    obtain ⟨J, e2, K2, k32, u2⟩ := knows_g (I := flI (xI σ) w M) hS HW.grd HW.now.2.1 HW.knw
    have rJ : J 191 = F := by rw [hF]; funext k; rw [u2 191 k (by omega) (by omega), flI_out (by omega)]
    have H2 : IV n (xw σ J) g gT gP st := HW.model (fun a k h => u2 a k (by omega) (by omega)) (.inr ⟨k32, K2⟩)
    rw [rJ] at K2
    have hG2 : GRD J g := H2.grd
    refine ⟨0, xw σ (flI (xI σ) w M), xw σ J, ?_, ?_, INV_i H2.nop⟩
    · show f_X11_fall (xw σ (xI σ)) 1 = _
      unfold f_X11_fall
      simp (disch := first | assumption | omega) only [Option.bind_some, Option.map_some, xw_gR, xw_gN, xw_al, xw_ck, xw_uI, xw_ur, xup_at, xur_at, if_true, if_false, reduceIte, and_true, true_and, and_false, false_and, not_true_eq_false, not_false_eq_true, Nat.reduceEqDiff, eq_self, Nat.reduceAdd, Nat.reduceMul, kC1, kG1, kP1, kR1_0, kR1_1, kR1_2, kR1_3, kR1_4, kR1_5, kR1_6, kR1_7, kR1_8, kR1_9, kR1_10, kR1_11, kR1_12, kR1_13, kC2, kG2, kP2, kR2_0, kR2_1, kC3, kG3, kP3, kR3_0, kR3_1, kR3_2, kR3_3, kL4, kA4, kS4, kL5, kA5, kS5, kL6, kA6, kS6, kL7, kA7, kS7, kC8, kG8, kP8, kR8_0, kR8_1, kL9, kA9, kS9, kL10, kA10, kS10, kC11, kG11, kP11, kR11_0, kR11_1, kR11_2, kR11_3, kL12, kA12, kS12, kL13, kA13, kS13, kL14, kA14, kS14, kL15, kA15, kS15, kC16, kG16, kP16, kR16_0, kR16_1, kL17, kA17, kS17, kL18, kA18, kS18, kC19, kG19, kP19, kR19_0, kL20, kL141, kL146, kA146, kS146, kL151, kA151, kS151, kL156, kA156, kS156, kC157, kG157, kP157, kR157_0, kR157_1, kL158, kA158, kS158, kL159, kA159, kS159, kC161, kG161, kP161, kR161_0, kR161_1, kL162, kA162, kS162, kL163, kA163, kS163, kC165, kG165, kP165, kR165_0, kR165_1, kR165_2, kR165_3, kL166, kA166, kS166, kL167, kA167, kS167, kL168, kA168, kS168, kL169, kA169, kS169, kC170, kG170, kP170, kR170_0, kR170_1, kR170_2, kL171, kA171, kS171, kL172, kA172, kS172, kL173, kA173, kS173, kC174, kG174, kP174, kR174_0, kR174_1, kR174_2, kR174_3, kR174_4, kL175, kA175, kS175, kL176, kA176, kS176, kL177, kA177, kS177, kL178, kA178, kS178, kL179, kC180, kG180, kP180, kL181, kL182, kA182, kS182, kC183, kG183, kP183, kR183_1, kR183_3, kR183_5, kR183_6, kR183_7, kR183_8, kR183_9, kR183_21, kR183_26, kR183_27, kR183_30, kR183_31, kR183_33, kR183_34, kR183_36, kR183_37, kR183_38, kR183_39, kR183_40, kR183_41, kR183_42, kR183_43, kR183_44, kL184, kA184, kS184, kL185, kA185, kS185, kL186, kA186, kS186, kL187, kA187, kS187, kL188, kA188, kS188, kL189, kL190, kL191, kA191, kS191, kL192, kA192, kS192, kL193, kA193, kS193, kL194, kA194, kS194, kL195, kA195, kS195, kL196, kA196, kS196, kL197, kA197, kS197, kL198, kA198, kS198, kL199, kA199, kS199, kL200, kA200, kS200, kL201, kL202, kA202, kS202, kL203, kA203, kS203, kL204, kA204, kS204, kL205, kL206, kA206, kS206, hG.2.2.2.2.1, hn0, hb4, hfall, v1, hM0, show (nI 0 ≤ 0) = True from eq_true (by decide)]
      rfl
    · unfold f_X12_fall
      have e64 : J 191 64 = nI b := by rw [rJ]; exact o4
      have ft := fallTurns_ok (σ := σ) (J := J) hS hG2 ho K2 hbN hbl m1 m2
      rw [hM0] at ft
      simp (disch := first | assumption | omega) only [Option.bind_some, Option.map_some, xw_gR, xw_gN, xw_al, xw_ck, xw_uI, xw_ur, xup_at, xur_at, if_true, if_false, reduceIte, and_true, true_and, and_false, false_and, not_true_eq_false, not_false_eq_true, Nat.reduceEqDiff, eq_self, Nat.reduceAdd, Nat.reduceMul, kC1, kG1, kP1, kR1_0, kR1_1, kR1_2, kR1_3, kR1_4, kR1_5, kR1_6, kR1_7, kR1_8, kR1_9, kR1_10, kR1_11, kR1_12, kR1_13, kC2, kG2, kP2, kR2_0, kR2_1, kC3, kG3, kP3, kR3_0, kR3_1, kR3_2, kR3_3, kL4, kA4, kS4, kL5, kA5, kS5, kL6, kA6, kS6, kL7, kA7, kS7, kC8, kG8, kP8, kR8_0, kR8_1, kL9, kA9, kS9, kL10, kA10, kS10, kC11, kG11, kP11, kR11_0, kR11_1, kR11_2, kR11_3, kL12, kA12, kS12, kL13, kA13, kS13, kL14, kA14, kS14, kL15, kA15, kS15, kC16, kG16, kP16, kR16_0, kR16_1, kL17, kA17, kS17, kL18, kA18, kS18, kC19, kG19, kP19, kR19_0, kL20, kL141, kL146, kA146, kS146, kL151, kA151, kS151, kL156, kA156, kS156, kC157, kG157, kP157, kR157_0, kR157_1, kL158, kA158, kS158, kL159, kA159, kS159, kC161, kG161, kP161, kR161_0, kR161_1, kL162, kA162, kS162, kL163, kA163, kS163, kC165, kG165, kP165, kR165_0, kR165_1, kR165_2, kR165_3, kL166, kA166, kS166, kL167, kA167, kS167, kL168, kA168, kS168, kL169, kA169, kS169, kC170, kG170, kP170, kR170_0, kR170_1, kR170_2, kL171, kA171, kS171, kL172, kA172, kS172, kL173, kA173, kS173, kC174, kG174, kP174, kR174_0, kR174_1, kR174_2, kR174_3, kR174_4, kL175, kA175, kS175, kL176, kA176, kS176, kL177, kA177, kS177, kL178, kA178, kS178, kL179, kC180, kG180, kP180, kL181, kL182, kA182, kS182, kC183, kG183, kP183, kR183_1, kR183_3, kR183_5, kR183_6, kR183_7, kR183_8, kR183_9, kR183_21, kR183_26, kR183_27, kR183_30, kR183_31, kR183_33, kR183_34, kR183_36, kR183_37, kR183_38, kR183_39, kR183_40, kR183_41, kR183_42, kR183_43, kR183_44, kL184, kA184, kS184, kL185, kA185, kS185, kL186, kA186, kS186, kL187, kA187, kS187, kL188, kA188, kS188, kL189, kL190, kL191, kA191, kS191, kL192, kA192, kS192, kL193, kA193, kS193, kL194, kA194, kS194, kL195, kA195, kS195, kL196, kA196, kS196, kL197, kA197, kS197, kL198, kA198, kS198, kL199, kA199, kS199, kL200, kA200, kS200, kL201, kL202, kA202, kS202, kL203, kA203, kS203, kL204, kA204, kS204, kL205, kL206, kA206, kS206, sites_ok hS (show GRD (flI (xI σ) w M) g from HW.grd), hn0, e2, show (64 : Int32) = nI 64 from rfl, e64, ft, show (nI 0 = 0) = True from eq_true rfl]
  · have hMz : ¬ (nI M ≤ 0) := nI_nle (by omega) (by omega)
    have hMn : (nI M = 0) = False := eq_false (nI_ne0 (by omega) (by omega))
    obtain ⟨q, nx, ea, hq, hnx, hea, p1, p2, p3, p4, p8⟩ := H.pst
    obtain ⟨I1, hI1⟩ : ∃ I1, I1 = flI (xI σ) w M := ⟨_, rfl⟩
    have u1 : ∀ a k, a ≠ 180 → I1 a k = xI σ a k := fun a k h => by rw [hI1, flI_out h]
    obtain ⟨I2, hI2⟩ : ∃ I2, I2 = xup (kpI I1 nx q) 16 4 (nI w) := ⟨_, rfl⟩
    have ui2 : ∀ a k, ¬ (a = 16 ∧ k = 4) → a ≠ 19 → (a < 21 + 3 * nx ∨ 23 + 3 * nx < a) → I2 a k = I1 a k := fun a k h1 h2 h3 => by rw [hI2, xup_at, if_neg h1, kpI_out h2 h3]
    have r2 : I2 191 = F := by rw [hF]; funext k; rw [ui2 191 k (by omega) (by omega) (by omega), u1 _ _ (by omega)]
    have hG2 : GRD I2 g := GRD_c (fun a k z => by unfold sGRD at z; rw [ui2 a k (by omega) (by omega) (by omega), u1 _ _ (by omega)]) hG
    have kn2 : KNW I2 g := KNW_c hg (fun a k z => by unfold sKNW at z; rw [ui2 a k (by omega) (by omega) (by omega), u1 _ _ (by omega)]) H.knw
    obtain ⟨J, e2, K2, k32, uJ⟩ := knows_g (σ := σ) (I := I2) hS hG2 (by rw [r2]; exact ho) kn2
    have rJ : J 191 = F := by rw [← r2]; funext k; exact uJ 191 k (by omega) (by omega)
    rw [rJ] at K2
    have hGJ : GRD J g := GRD_c (fun a k z => uJ a k (by unfold sGRD at z; omega) (by unfold sGRD at z; omega)) hG2
    have e64 : J 191 64 = nI b := by rw [rJ]; exact o4
    -- the same, as a change by hand of a strip that differs in its notes alone
    obtain ⟨B, hB⟩ : ∃ B : Nat → Nat → Int32, B = fun a k => if (196 ≤ a ∧ a ≤ 198) ∨ (a = 183 ∧ (k = 32 ∨ k = 35)) then J a k else I1 a k := ⟨_, rfl⟩
    have uB : ∀ a k, ¬ ((196 ≤ a ∧ a ≤ 198) ∨ (a = 183 ∧ (k = 32 ∨ k = 35))) → B a k = I1 a k := fun a k h => by rw [hB]; exact if_neg h
    have vB : ∀ a k, ((196 ≤ a ∧ a ≤ 198) ∨ (a = 183 ∧ (k = 32 ∨ k = 35))) → B a k = J a k := fun a k h => by rw [hB]; exact if_pos h
    have rB : B 191 = F := by rw [hF]; funext k; rw [uB 191 k (by omega), u1 _ _ (by omega)]
    have HB : IV n (xw σ B) g gT gP st := by
      have HW : IV n (xw σ I1) g gT gP st := H.walk (fun a k h => u1 a k (by omega))
      refine HW.model (fun a k h => uB a k (by omega)) (.inr ⟨by rw [vB 183 32 (by omega)]; exact k32, ?_⟩)
      rw [rB]
      exact KNK_c (I := J) hg (fun a k h => vB a k (by omega)) (fun _ _ => rfl) K2
    have bk1 : ∀ a k, a ≠ 183 → ¬ (196 ≤ a ∧ a ≤ 198) → a ≠ 180 → B a k = xI σ a k := fun a k h1 h2 h3 => by rw [uB a k (by omega), u1 a k h3]
    have hJ : ∀ a k, ¬ (16 ≤ a ∧ a ≤ 18) → J a k = kpI B nx q a k := by
      intro a k h
      by_cases hc : (196 ≤ a ∧ a ≤ 198) ∨ (a = 183 ∧ (k = 32 ∨ k = 35))
      · rw [kpI_out (by omega) (by omega), vB a k hc]
      · rw [uJ a k (by omega) (by omega), hI2, xup_at, if_neg (by omega)]
        unfold kpI cpI
        simp only [xup_at]
        rw [uB 16 k (by omega), uB 17 k (by omega), uB 18 k (by omega), uB a k hc]
    have p3B : B 183 28 = nI ea := by rw [uB _ _ (by omega), u1 _ _ (by omega)]; exact p3
    have mk1 : f_X12_marks (xw σ J) 183 = some (xw σ (mkI J ea q)) := marks_ok hS hea hq (by rw [hJ _ _ (by omega), kpI_out (by omega) (by omega)]; exact p3B) (by rw [hJ _ _ (by omega), kpI_out (by omega) (by omega), uB _ _ (by omega), u1 _ _ (by omega)]; exact p4)
    have um : ∀ a k, a ≠ 193 → (a ≠ 183 ∨ (k ≠ 28 ∧ k ≠ 29)) → mkI J ea q a k = J a k := fun a k h1 h2 => mkI_out h1 h2
    have rM : mkI J ea q 191 = F := by rw [← rJ]; funext k; exact um 191 k (by omega) (by omega)
    have hGM : GRD (mkI J ea q) g := GRD_c (fun a k z => um a k (by unfold sGRD at z; omega) (by unfold sGRD at z; omega)) hGJ
    have KM : KNK (mkI J ea q) g F := KNK_c (I := J) hg (fun a k h => um a k (by omega) (by omega)) (fun _ _ => rfl) K2
    refine ⟨nI M, xw σ I2, xw σ (xup (mkI J ea q) 191 64 (nI w)), ?_, ?_, ?_⟩
    · show f_X11_fall (xw σ (xI σ)) 1 = _
      unfold f_X11_fall
      rw [← hI1] at hfall v0 v1
      have kp : f_X5_keep (xw σ I1) 19 16 = some (xw σ (kpI I1 nx q)) := keep_ok hS hnx hq (by rw [u1 _ _ (by omega)]; exact p1) (by rw [u1 _ _ (by omega)]; exact p2)
      have k0 : kpI I1 nx q 180 0 = nI w := by rw [kpI_out (by omega) (by omega)]; exact v0
      have k1 : kpI I1 nx q 180 1 = nI M := by rw [kpI_out (by omega) (by omega)]; exact v1
      have i1 : I2 180 1 = nI M := by rw [ui2 _ _ (by omega) (by omega) (by omega)]; exact v1
      simp (disch := first | assumption | omega) only [Option.bind_some, Option.map_some, xw_gR, xw_gN, xw_al, xw_ck, xw_uI, xw_ur, xup_at, xur_at, if_true, if_false, reduceIte, and_true, true_and, and_false, false_and, not_true_eq_false, not_false_eq_true, Nat.reduceEqDiff, eq_self, Nat.reduceAdd, Nat.reduceMul, kC1, kG1, kP1, kR1_0, kR1_1, kR1_2, kR1_3, kR1_4, kR1_5, kR1_6, kR1_7, kR1_8, kR1_9, kR1_10, kR1_11, kR1_12, kR1_13, kC2, kG2, kP2, kR2_0, kR2_1, kC3, kG3, kP3, kR3_0, kR3_1, kR3_2, kR3_3, kL4, kA4, kS4, kL5, kA5, kS5, kL6, kA6, kS6, kL7, kA7, kS7, kC8, kG8, kP8, kR8_0, kR8_1, kL9, kA9, kS9, kL10, kA10, kS10, kC11, kG11, kP11, kR11_0, kR11_1, kR11_2, kR11_3, kL12, kA12, kS12, kL13, kA13, kS13, kL14, kA14, kS14, kL15, kA15, kS15, kC16, kG16, kP16, kR16_0, kR16_1, kL17, kA17, kS17, kL18, kA18, kS18, kC19, kG19, kP19, kR19_0, kL20, kL141, kL146, kA146, kS146, kL151, kA151, kS151, kL156, kA156, kS156, kC157, kG157, kP157, kR157_0, kR157_1, kL158, kA158, kS158, kL159, kA159, kS159, kC161, kG161, kP161, kR161_0, kR161_1, kL162, kA162, kS162, kL163, kA163, kS163, kC165, kG165, kP165, kR165_0, kR165_1, kR165_2, kR165_3, kL166, kA166, kS166, kL167, kA167, kS167, kL168, kA168, kS168, kL169, kA169, kS169, kC170, kG170, kP170, kR170_0, kR170_1, kR170_2, kL171, kA171, kS171, kL172, kA172, kS172, kL173, kA173, kS173, kC174, kG174, kP174, kR174_0, kR174_1, kR174_2, kR174_3, kR174_4, kL175, kA175, kS175, kL176, kA176, kS176, kL177, kA177, kS177, kL178, kA178, kS178, kL179, kC180, kG180, kP180, kL181, kL182, kA182, kS182, kC183, kG183, kP183, kR183_1, kR183_3, kR183_5, kR183_6, kR183_7, kR183_8, kR183_9, kR183_21, kR183_26, kR183_27, kR183_30, kR183_31, kR183_33, kR183_34, kR183_36, kR183_37, kR183_38, kR183_39, kR183_40, kR183_41, kR183_42, kR183_43, kR183_44, kL184, kA184, kS184, kL185, kA185, kS185, kL186, kA186, kS186, kL187, kA187, kS187, kL188, kA188, kS188, kL189, kL190, kL191, kA191, kS191, kL192, kA192, kS192, kL193, kA193, kS193, kL194, kA194, kS194, kL195, kA195, kS195, kL196, kA196, kS196, kL197, kA197, kS197, kL198, kA198, kS198, kL199, kA199, kS199, kL200, kA200, kS200, kL201, kL202, kA202, kS202, kL203, kA203, kS203, kL204, kA204, kS204, kL205, kL206, kA206, kS206, hG.2.2.2.2.1, hn0, hb4, hfall, v1, hMz, kp, k0, k1, ← hI2, i1]
    · unfold f_X12_fall
      have ft := fallTurns_ok (σ := σ) (J := J) hS hGJ ho K2 hbN hbl m1 m2
      have fe := fallEnd_ok (σ := σ) (J := mkI J ea q) hS hGM ho KM hbN hbl m1 m2
      rw [← hw] at fe
      have e64M : mkI J ea q 191 64 = nI b := by rw [rM]; exact o4
      simp (disch := first | assumption | omega) only [Option.bind_some, Option.map_some, xw_gR, xw_gN, xw_al, xw_ck, xw_uI, xw_ur, xup_at, xur_at, if_true, if_false, reduceIte, and_true, true_and, and_false, false_and, not_true_eq_false, not_false_eq_true, Nat.reduceEqDiff, eq_self, Nat.reduceAdd, Nat.reduceMul, kC1, kG1, kP1, kR1_0, kR1_1, kR1_2, kR1_3, kR1_4, kR1_5, kR1_6, kR1_7, kR1_8, kR1_9, kR1_10, kR1_11, kR1_12, kR1_13, kC2, kG2, kP2, kR2_0, kR2_1, kC3, kG3, kP3, kR3_0, kR3_1, kR3_2, kR3_3, kL4, kA4, kS4, kL5, kA5, kS5, kL6, kA6, kS6, kL7, kA7, kS7, kC8, kG8, kP8, kR8_0, kR8_1, kL9, kA9, kS9, kL10, kA10, kS10, kC11, kG11, kP11, kR11_0, kR11_1, kR11_2, kR11_3, kL12, kA12, kS12, kL13, kA13, kS13, kL14, kA14, kS14, kL15, kA15, kS15, kC16, kG16, kP16, kR16_0, kR16_1, kL17, kA17, kS17, kL18, kA18, kS18, kC19, kG19, kP19, kR19_0, kL20, kL141, kL146, kA146, kS146, kL151, kA151, kS151, kL156, kA156, kS156, kC157, kG157, kP157, kR157_0, kR157_1, kL158, kA158, kS158, kL159, kA159, kS159, kC161, kG161, kP161, kR161_0, kR161_1, kL162, kA162, kS162, kL163, kA163, kS163, kC165, kG165, kP165, kR165_0, kR165_1, kR165_2, kR165_3, kL166, kA166, kS166, kL167, kA167, kS167, kL168, kA168, kS168, kL169, kA169, kS169, kC170, kG170, kP170, kR170_0, kR170_1, kR170_2, kL171, kA171, kS171, kL172, kA172, kS172, kL173, kA173, kS173, kC174, kG174, kP174, kR174_0, kR174_1, kR174_2, kR174_3, kR174_4, kL175, kA175, kS175, kL176, kA176, kS176, kL177, kA177, kS177, kL178, kA178, kS178, kL179, kC180, kG180, kP180, kL181, kL182, kA182, kS182, kC183, kG183, kP183, kR183_1, kR183_3, kR183_5, kR183_6, kR183_7, kR183_8, kR183_9, kR183_21, kR183_26, kR183_27, kR183_30, kR183_31, kR183_33, kR183_34, kR183_36, kR183_37, kR183_38, kR183_39, kR183_40, kR183_41, kR183_42, kR183_43, kR183_44, kL184, kA184, kS184, kL185, kA185, kS185, kL186, kA186, kS186, kL187, kA187, kS187, kL188, kA188, kS188, kL189, kL190, kL191, kA191, kS191, kL192, kA192, kS192, kL193, kA193, kS193, kL194, kA194, kS194, kL195, kA195, kS195, kL196, kA196, kS196, kL197, kA197, kS197, kL198, kA198, kS198, kL199, kA199, kS199, kL200, kA200, kS200, kL201, kL202, kA202, kS202, kL203, kA203, kS203, kL204, kA204, kS204, kL205, kL206, kA206, kS206, sites_ok hS hG2, hn0, e2, show (64 : Int32) = nI 64 from rfl, e64, ft, hMn, mk1, e64M, fe]
    · have hwb : w < 2 ^ gSz g := by have := (gSt_pos hfl.1).2; exact this
      have row : ∀ k, xI (xw σ B) 191 k = F k := fun k => by rw [xw_I, rB]
      refine INV_i (HB.hand (σ := xw σ B) hq hnx hea p3B ?_ (I2 := J) ?_ ?_ (Nat.le_refl _) (Nat.le_succ_of_le H.stn) (fun _ _ => rfl) (fun _ _ => rfl) ?_ ?_ ?_)
      · intro i hi
        exact LV_m (I := xI σ) hg (fun k _ _ => bk1 _ k (by omega) (by omega) (by omega)) (fun k _ => bk1 _ k (by omega) (by omega) (by omega)) (fun k _ => bk1 _ k (by omega) (by omega) (by omega)) (fun k _ => bk1 193 _ (by omega) (by omega) (by omega)) (Nat.le_refl _) (fun _ _ => rfl) (fun _ _ => rfl) (p8 i hi)
      · intro a k h
        exact hJ a k (by omega)
      · intro a k h; rw [xup_at, if_neg (by omega)]
      · rw [xup_at, if_neg (by omega), um _ _ (by omega) (by omega), hJ _ _ (by omega), kpI_out (by omega) (by omega), uB _ _ (by omega), u1 _ _ (by omega)]; exact H.sts
      · have j16 : ∀ a k, 16 ≤ a → a ≤ 18 → ¬ (a = 16 ∧ k = 4) → J a k = xI σ a k := fun a k h1 h2 h3 => by
          rw [uJ a k (by omega) (by omega), ui2 a k h3 (by omega) (by omega), u1 _ _ (by omega)]
        refine LV_state (I := xI σ) hg (b := w) H.now ?_ ?_ ?_ ?_ ?_ hwb ?_
        · intro k hk; rw [xup_at, if_neg (by omega), um _ _ (by omega) (by omega), j16 16 k (by omega) (by omega) (by omega)]
        · rw [xup_at, if_neg (by omega), um _ _ (by omega) (by omega), uJ _ _ (by omega) (by omega), hI2, xup_at, if_pos ⟨rfl, rfl⟩]
        · intro a k h1 h2; rw [xup_at, if_neg (by omega), um _ _ (by omega) (by omega), j16 a k (by omega) (by omega) (by omega)]
        · intro k hk; rw [xup_at, if_neg (by omega), rM, hF]
        · rw [xup_at, if_pos ⟨rfl, rfl⟩]
        · intro i hi hne
          rw [← hF] at hne ⊢
          exact lW_iff.mp hfl.2 i hi hne
      · refine .inr ⟨?_, ?_⟩
        · rw [xup_at, if_neg (by omega), um _ _ (by omega) (by omega)]; exact k32
        · refine KNK_c (I := mkI J ea q) (F := F) hg (fun a k h => by rw [xup_at, if_neg (by omega)]) (fun k hk => ?_) KM
          rw [xup_at, if_neg (by omega), rM]
end
section
/-! state -/
theorem n11 : (nI 1 = 1) = True := eq_true rfl
theorem n00 : (nI 0 = 0) = True := eq_true rfl
theorem n01 : (nI 0 = 1) = False := eq_false (by decide)
theorem n10 : (nI 1 = 0) = False := eq_false (by decide)
theorem ct_pairs (p : Nat → Bool) : ∀ n, fb_ct (fun k => p (k / 2 + 16 * (k % 2))) (2 * n) = fb_ct p n + fb_ct (fun i => p (16 + i)) n := by
  intro n
  induction n with
  | zero => rfl
  | succ n ih =>
    rw [show 2 * (n + 1) = 2 * n + 1 + 1 by omega, fb_ct_succ, fb_ct_succ, ih, fb_ct_succ, fb_ct_succ]
    rw [show 2 * n / 2 + 16 * (2 * n % 2) = n by omega, show (2 * n + 1) / 2 + 16 * ((2 * n + 1) % 2) = 16 + n by omega]
    omega
theorem ct_ties {g : GD} (hg : g ∈ gAll) (p : Nat → Bool) (h : ∀ t, t < 32 → gTo g t = none → p t = false) : fb_ct (fun k => p (k / 2 + 16 * (k % 2))) (2 * gSz g) = fb_ct p 32 := by
  have h16 := (gAll_b g hg).2.2.1
  rw [ct_pairs, show (32 : Nat) = 16 + 16 from rfl, fb_ct_split p 16 16]
  have z : ∀ (q : Nat → Bool), (∀ i, gSz g ≤ i → i < 16 → q i = false) → fb_ct q 16 = fb_ct q (gSz g) := by
    intro q hq
    have := fb_ct_split q (gSz g) (16 - gSz g)
    rw [show gSz g + (16 - gSz g) = 16 by omega] at this
    rw [this, fb_ct_zero.mpr (fun k hk => hq (gSz g + k) (by omega) (by omega))]
    rfl
  rw [z p (fun i h1 h2 => h i (by omega) (gap g hg i (by omega) (by unfold gFr; rw [if_pos h2]; exact h1))), z (fun i => p (16 + i)) (fun i h1 h2 => h (16 + i) (by omega) (gap g hg (16 + i) (by omega) (by unfold gFr; rw [if_neg (by omega)]; omega)))]
section BROKEN
variable {σ : XS} {J : Nat → Nat → Int32} {g : GD} {F : Nat → Int32}
theorem neg_F {x : Int32} : (0 ≤ x) = ¬ (x.toInt < 0) := by
  rw [fa_le]
  apply propext
  show 0 ≤ x.toInt ↔ _
  omega
theorem broken11_ok (hS : Shp σ) (hG : GRD J g) (hSR : SR g J 16 F) {s : Nat} (hs : s < 2147483648) : f_X3_brokenOf (xw σ J) 11 16 (nI s) = some (nI (bk g F s)) := by
  unfold f_X3_brokenOf bk
  refine xforE (fun t : Nat => (nI (fb_ct (bkP g F s) t), nI t)) 32 rfl (fun t ht => ?_) ?_
  · simp only [f_X3_brokenOf_b5]
    rw [if_neg (by rw [show (32 : Int32) = nI 32 from rfl, nn_le (by omega) (by omega)]; omega)]
    simp (disch := first | assumption | omega) only [Option.bind_some, Option.map_some, xw_gR, xw_gN, xw_al, xw_ck, xw_uI, xw_ur, xup_at, xur_at, if_true, if_false, reduceIte, and_true, true_and, and_false, false_and, not_true_eq_false, not_false_eq_true, Nat.reduceEqDiff, eq_self, Nat.reduceAdd, Nat.reduceMul, kC1, kG1, kP1, kR1_0, kR1_1, kR1_2, kR1_3, kR1_4, kR1_5, kR1_6, kR1_7, kR1_8, kR1_9, kR1_10, kR1_11, kR1_12, kR1_13, kC2, kG2, kP2, kR2_0, kR2_1, kC3, kG3, kP3, kR3_0, kR3_1, kR3_2, kR3_3, kL4, kA4, kS4, kL5, kA5, kS5, kL6, kA6, kS6, kL7, kA7, kS7, kC8, kG8, kP8, kR8_0, kR8_1, kL9, kA9, kS9, kL10, kA10, kS10, kC11, kG11, kP11, kR11_0, kR11_1, kR11_2, kR11_3, kL12, kA12, kS12, kL13, kA13, kS13, kL14, kA14, kS14, kL15, kA15, kS15, kC16, kG16, kP16, kR16_0, kR16_1, kL17, kA17, kS17, kL18, kA18, kS18, kC19, kG19, kP19, kR19_0, kL20, kL141, kL146, kA146, kS146, kL151, kA151, kS151, kL156, kA156, kS156, kC157, kG157, kP157, kR157_0, kR157_1, kL158, kA158, kS158, kL159, kA159, kS159, kC161, kG161, kP161, kR161_0, kR161_1, kL162, kA162, kS162, kL163, kA163, kS163, kC165, kG165, kP165, kR165_0, kR165_1, kR165_2, kR165_3, kL166, kA166, kS166, kL167, kA167, kS167, kL168, kA168, kS168, kL169, kA169, kS169, kC170, kG170, kP170, kR170_0, kR170_1, kR170_2, kL171, kA171, kS171, kL172, kA172, kS172, kL173, kA173, kS173, kC174, kG174, kP174, kR174_0, kR174_1, kR174_2, kR174_3, kR174_4, kL175, kA175, kS175, kL176, kA176, kS176, kL177, kA177, kS177, kL178, kA178, kS178, kL179, kC180, kG180, kP180, kL181, kL182, kA182, kS182, kC183, kG183, kP183, kR183_1, kR183_3, kR183_5, kR183_6, kR183_7, kR183_8, kR183_9, kR183_21, kR183_26, kR183_27, kR183_30, kR183_31, kR183_33, kR183_34, kR183_36, kR183_37, kR183_38, kR183_39, kR183_40, kR183_41, kR183_42, kR183_43, kR183_44, kL184, kA184, kS184, kL185, kA185, kS185, kL186, kA186, kS186, kL187, kA187, kS187, kL188, kA188, kS188, kL189, kL190, kL191, kA191, kS191, kL192, kA192, kS192, kL193, kA193, kS193, kL194, kA194, kS194, kL195, kA195, kS195, kL196, kA196, kS196, kL197, kA197, kS197, kL198, kA198, kS198, kL199, kA199, kS199, kL200, kA200, kS200, kL201, kL202, kA202, kS202, kL203, kA203, kS203, kL204, kA204, kS204, kL205, kL206, kA206, kS206, bondAt_ok hS suA_16 ht, endAt_ok hS hG ht, oI_none (gTo_s hG.1 ht)]
    have hv := hSR.1 t ht
    rw [fb_ct_succ, ← nI_succ]
    unfold bkP
    cases he : gTo g t with
    | none => simp
    | some e =>
      rw [he] at hv
      have hv2 : J 17 t = F t := hv
      rw [if_neg (by simp), hv2, isAlike_ok hS hG hs ht he]
      by_cases h0 : F t = 0
      · simp [h0]
      · rw [if_neg h0]
        simp (disch := first | assumption | omega) only [Option.bind_some, Option.map_some, xw_gR, xw_gN, xw_al, xw_ck, xw_uI, xw_ur, xup_at, xur_at, if_true, if_false, reduceIte, and_true, true_and, and_false, false_and, not_true_eq_false, not_false_eq_true, Nat.reduceEqDiff, eq_self, Nat.reduceAdd, Nat.reduceMul, kC1, kG1, kP1, kR1_0, kR1_1, kR1_2, kR1_3, kR1_4, kR1_5, kR1_6, kR1_7, kR1_8, kR1_9, kR1_10, kR1_11, kR1_12, kR1_13, kC2, kG2, kP2, kR2_0, kR2_1, kC3, kG3, kP3, kR3_0, kR3_1, kR3_2, kR3_3, kL4, kA4, kS4, kL5, kA5, kS5, kL6, kA6, kS6, kL7, kA7, kS7, kC8, kG8, kP8, kR8_0, kR8_1, kL9, kA9, kS9, kL10, kA10, kS10, kC11, kG11, kP11, kR11_0, kR11_1, kR11_2, kR11_3, kL12, kA12, kS12, kL13, kA13, kS13, kL14, kA14, kS14, kL15, kA15, kS15, kC16, kG16, kP16, kR16_0, kR16_1, kL17, kA17, kS17, kL18, kA18, kS18, kC19, kG19, kP19, kR19_0, kL20, kL141, kL146, kA146, kS146, kL151, kA151, kS151, kL156, kA156, kS156, kC157, kG157, kP157, kR157_0, kR157_1, kL158, kA158, kS158, kL159, kA159, kS159, kC161, kG161, kP161, kR161_0, kR161_1, kL162, kA162, kS162, kL163, kA163, kS163, kC165, kG165, kP165, kR165_0, kR165_1, kR165_2, kR165_3, kL166, kA166, kS166, kL167, kA167, kS167, kL168, kA168, kS168, kL169, kA169, kS169, kC170, kG170, kP170, kR170_0, kR170_1, kR170_2, kL171, kA171, kS171, kL172, kA172, kS172, kL173, kA173, kS173, kC174, kG174, kP174, kR174_0, kR174_1, kR174_2, kR174_3, kR174_4, kL175, kA175, kS175, kL176, kA176, kS176, kL177, kA177, kS177, kL178, kA178, kS178, kL179, kC180, kG180, kP180, kL181, kL182, kA182, kS182, kC183, kG183, kP183, kR183_1, kR183_3, kR183_5, kR183_6, kR183_7, kR183_8, kR183_9, kR183_21, kR183_26, kR183_27, kR183_30, kR183_31, kR183_33, kR183_34, kR183_36, kR183_37, kR183_38, kR183_39, kR183_40, kR183_41, kR183_42, kR183_43, kR183_44, kL184, kA184, kS184, kL185, kA185, kS185, kL186, kA186, kS186, kL187, kA187, kS187, kL188, kA188, kS188, kL189, kL190, kL191, kA191, kS191, kL192, kA192, kS192, kL193, kA193, kS193, kL194, kA194, kS194, kL195, kA195, kS195, kL196, kA196, kS196, kL197, kA197, kS197, kL198, kA198, kS198, kL199, kA199, kS199, kL200, kA200, kS200, kL201, kL202, kA202, kS202, kL203, kA203, kS203, kL204, kA204, kS204, kL205, kL206, kA206, kS206]
        unfold f_X3_brokenOf_j52
        simp only [neg_F, ← nI_succ]
        by_cases hn : (F t).toInt < 0
        · by_cases hb : s.testBit (gFr t) = s.testBit e
          · simp [hn, h0, hb, n11]
          · simp [hn, h0, hb, n01]
        · by_cases hb : s.testBit (gFr t) = s.testBit e
          · simp [hn, h0, hb, n10]
          · simp [hn, h0, hb, n00]
  · simp only [f_X3_brokenOf_b5]
    rw [if_pos (by decide)]
    rfl
theorem broken12_ok (hS : Shp σ) (hG : GRD J g) (hr : J 191 = F) {s : Nat} (hs : s < 2147483648) : f_X12_brokenOf (xw σ J) 183 (nI s) = some (nI (bk g F s)) := by
  have hg := hG.1
  have h16 := (gAll_b g hg).2.2.1
  unfold f_X12_brokenOf bk
  rw [← ct_ties hg (bkP g F s) (fun t ht h => by unfold bkP; rw [h])]
  refine xforE (fun k : Nat => (nI (fb_ct (fun k => bkP g F s (k / 2 + 16 * (k % 2))) k), nI k)) (2 * gSz g) rfl (fun k hk => ?_) ?_
  · simp only [f_X12_brokenOf_b4]
    obtain ⟨i, hi⟩ : ∃ i, i = k / 2 := ⟨_, rfl⟩
    obtain ⟨b, hb⟩ : ∃ b, b = k % 2 := ⟨_, rfl⟩
    have hi2 : i < gSz g := by omega
    have hb2 : b < 2 := by omega
    have ht : i + 16 * b < 32 := by omega
    have main : f_X12_brokenOf_j31 (xw σ J) 183 (nI s) (nI (fb_ct (fun k => bkP g F s (k / 2 + 16 * (k % 2))) k)) (nI k) (nI i) (nI b) = some (.inl (nI (fb_ct (fun k => bkP g F s (k / 2 + 16 * (k % 2))) (k + 1)), nI (k + 1))) := by
      have jo : f_X12_jOf (xw σ J) 191 (nI i) (nI b) = some (F (i + 16 * b)) := by
        rw [← hr]
        unfold f_X12_jOf
        rcases (show b = 0 ∨ b = 1 by omega) with rfl | rfl
        · simp (disch := first | assumption | omega) only [Option.bind_some, Option.map_some, xw_gR, xw_gN, xw_al, xw_ck, xw_uI, xw_ur, xup_at, xur_at, if_true, if_false, reduceIte, and_true, true_and, and_false, false_and, not_true_eq_false, not_false_eq_true, Nat.reduceEqDiff, eq_self, Nat.reduceAdd, Nat.reduceMul, kC1, kG1, kP1, kR1_0, kR1_1, kR1_2, kR1_3, kR1_4, kR1_5, kR1_6, kR1_7, kR1_8, kR1_9, kR1_10, kR1_11, kR1_12, kR1_13, kC2, kG2, kP2, kR2_0, kR2_1, kC3, kG3, kP3, kR3_0, kR3_1, kR3_2, kR3_3, kL4, kA4, kS4, kL5, kA5, kS5, kL6, kA6, kS6, kL7, kA7, kS7, kC8, kG8, kP8, kR8_0, kR8_1, kL9, kA9, kS9, kL10, kA10, kS10, kC11, kG11, kP11, kR11_0, kR11_1, kR11_2, kR11_3, kL12, kA12, kS12, kL13, kA13, kS13, kL14, kA14, kS14, kL15, kA15, kS15, kC16, kG16, kP16, kR16_0, kR16_1, kL17, kA17, kS17, kL18, kA18, kS18, kC19, kG19, kP19, kR19_0, kL20, kL141, kL146, kA146, kS146, kL151, kA151, kS151, kL156, kA156, kS156, kC157, kG157, kP157, kR157_0, kR157_1, kL158, kA158, kS158, kL159, kA159, kS159, kC161, kG161, kP161, kR161_0, kR161_1, kL162, kA162, kS162, kL163, kA163, kS163, kC165, kG165, kP165, kR165_0, kR165_1, kR165_2, kR165_3, kL166, kA166, kS166, kL167, kA167, kS167, kL168, kA168, kS168, kL169, kA169, kS169, kC170, kG170, kP170, kR170_0, kR170_1, kR170_2, kL171, kA171, kS171, kL172, kA172, kS172, kL173, kA173, kS173, kC174, kG174, kP174, kR174_0, kR174_1, kR174_2, kR174_3, kR174_4, kL175, kA175, kS175, kL176, kA176, kS176, kL177, kA177, kS177, kL178, kA178, kS178, kL179, kC180, kG180, kP180, kL181, kL182, kA182, kS182, kC183, kG183, kP183, kR183_1, kR183_3, kR183_5, kR183_6, kR183_7, kR183_8, kR183_9, kR183_21, kR183_26, kR183_27, kR183_30, kR183_31, kR183_33, kR183_34, kR183_36, kR183_37, kR183_38, kR183_39, kR183_40, kR183_41, kR183_42, kR183_43, kR183_44, kL184, kA184, kS184, kL185, kA185, kS185, kL186, kA186, kS186, kL187, kA187, kS187, kL188, kA188, kS188, kL189, kL190, kL191, kA191, kS191, kL192, kA192, kS192, kL193, kA193, kS193, kL194, kA194, kS194, kL195, kA195, kS195, kL196, kA196, kS196, kL197, kA197, kS197, kL198, kA198, kS198, kL199, kA199, kS199, kL200, kA200, kS200, kL201, kL202, kA202, kS202, kL203, kA203, kS203, kL204, kA204, kS204, kL205, kL206, kA206, kS206, show (nI 0 = 0) = True from eq_true rfl, show (0 : Int32) = nI 0 from rfl, nn_add, Nat.zero_add]
          rfl
        · simp (disch := first | assumption | omega) only [Option.bind_some, Option.map_some, xw_gR, xw_gN, xw_al, xw_ck, xw_uI, xw_ur, xup_at, xur_at, if_true, if_false, reduceIte, and_true, true_and, and_false, false_and, not_true_eq_false, not_false_eq_true, Nat.reduceEqDiff, eq_self, Nat.reduceAdd, Nat.reduceMul, kC1, kG1, kP1, kR1_0, kR1_1, kR1_2, kR1_3, kR1_4, kR1_5, kR1_6, kR1_7, kR1_8, kR1_9, kR1_10, kR1_11, kR1_12, kR1_13, kC2, kG2, kP2, kR2_0, kR2_1, kC3, kG3, kP3, kR3_0, kR3_1, kR3_2, kR3_3, kL4, kA4, kS4, kL5, kA5, kS5, kL6, kA6, kS6, kL7, kA7, kS7, kC8, kG8, kP8, kR8_0, kR8_1, kL9, kA9, kS9, kL10, kA10, kS10, kC11, kG11, kP11, kR11_0, kR11_1, kR11_2, kR11_3, kL12, kA12, kS12, kL13, kA13, kS13, kL14, kA14, kS14, kL15, kA15, kS15, kC16, kG16, kP16, kR16_0, kR16_1, kL17, kA17, kS17, kL18, kA18, kS18, kC19, kG19, kP19, kR19_0, kL20, kL141, kL146, kA146, kS146, kL151, kA151, kS151, kL156, kA156, kS156, kC157, kG157, kP157, kR157_0, kR157_1, kL158, kA158, kS158, kL159, kA159, kS159, kC161, kG161, kP161, kR161_0, kR161_1, kL162, kA162, kS162, kL163, kA163, kS163, kC165, kG165, kP165, kR165_0, kR165_1, kR165_2, kR165_3, kL166, kA166, kS166, kL167, kA167, kS167, kL168, kA168, kS168, kL169, kA169, kS169, kC170, kG170, kP170, kR170_0, kR170_1, kR170_2, kL171, kA171, kS171, kL172, kA172, kS172, kL173, kA173, kS173, kC174, kG174, kP174, kR174_0, kR174_1, kR174_2, kR174_3, kR174_4, kL175, kA175, kS175, kL176, kA176, kS176, kL177, kA177, kS177, kL178, kA178, kS178, kL179, kC180, kG180, kP180, kL181, kL182, kA182, kS182, kC183, kG183, kP183, kR183_1, kR183_3, kR183_5, kR183_6, kR183_7, kR183_8, kR183_9, kR183_21, kR183_26, kR183_27, kR183_30, kR183_31, kR183_33, kR183_34, kR183_36, kR183_37, kR183_38, kR183_39, kR183_40, kR183_41, kR183_42, kR183_43, kR183_44, kL184, kA184, kS184, kL185, kA185, kS185, kL186, kA186, kS186, kL187, kA187, kS187, kL188, kA188, kS188, kL189, kL190, kL191, kA191, kS191, kL192, kA192, kS192, kL193, kA193, kS193, kL194, kA194, kS194, kL195, kA195, kS195, kL196, kA196, kS196, kL197, kA197, kS197, kL198, kA198, kS198, kL199, kA199, kS199, kL200, kA200, kS200, kL201, kL202, kA202, kS202, kL203, kA203, kS203, kL204, kA204, kS204, kL205, kL206, kA206, kS206, show (nI 1 = 0) = False from eq_false (by decide), show (16 : Int32) = nI 16 from rfl, nn_add, Nat.add_comm 16 i]
      unfold f_X12_brokenOf_j31
      simp (disch := first | assumption | omega) only [Option.bind_some, Option.map_some, xw_gR, xw_gN, xw_al, xw_ck, xw_uI, xw_ur, xup_at, xur_at, if_true, if_false, reduceIte, and_true, true_and, and_false, false_and, not_true_eq_false, not_false_eq_true, Nat.reduceEqDiff, eq_self, Nat.reduceAdd, Nat.reduceMul, kC1, kG1, kP1, kR1_0, kR1_1, kR1_2, kR1_3, kR1_4, kR1_5, kR1_6, kR1_7, kR1_8, kR1_9, kR1_10, kR1_11, kR1_12, kR1_13, kC2, kG2, kP2, kR2_0, kR2_1, kC3, kG3, kP3, kR3_0, kR3_1, kR3_2, kR3_3, kL4, kA4, kS4, kL5, kA5, kS5, kL6, kA6, kS6, kL7, kA7, kS7, kC8, kG8, kP8, kR8_0, kR8_1, kL9, kA9, kS9, kL10, kA10, kS10, kC11, kG11, kP11, kR11_0, kR11_1, kR11_2, kR11_3, kL12, kA12, kS12, kL13, kA13, kS13, kL14, kA14, kS14, kL15, kA15, kS15, kC16, kG16, kP16, kR16_0, kR16_1, kL17, kA17, kS17, kL18, kA18, kS18, kC19, kG19, kP19, kR19_0, kL20, kL141, kL146, kA146, kS146, kL151, kA151, kS151, kL156, kA156, kS156, kC157, kG157, kP157, kR157_0, kR157_1, kL158, kA158, kS158, kL159, kA159, kS159, kC161, kG161, kP161, kR161_0, kR161_1, kL162, kA162, kS162, kL163, kA163, kS163, kC165, kG165, kP165, kR165_0, kR165_1, kR165_2, kR165_3, kL166, kA166, kS166, kL167, kA167, kS167, kL168, kA168, kS168, kL169, kA169, kS169, kC170, kG170, kP170, kR170_0, kR170_1, kR170_2, kL171, kA171, kS171, kL172, kA172, kS172, kL173, kA173, kS173, kC174, kG174, kP174, kR174_0, kR174_1, kR174_2, kR174_3, kR174_4, kL175, kA175, kS175, kL176, kA176, kS176, kL177, kA177, kS177, kL178, kA178, kS178, kL179, kC180, kG180, kP180, kL181, kL182, kA182, kS182, kC183, kG183, kP183, kR183_1, kR183_3, kR183_5, kR183_6, kR183_7, kR183_8, kR183_9, kR183_21, kR183_26, kR183_27, kR183_30, kR183_31, kR183_33, kR183_34, kR183_36, kR183_37, kR183_38, kR183_39, kR183_40, kR183_41, kR183_42, kR183_43, kR183_44, kL184, kA184, kS184, kL185, kA185, kS185, kL186, kA186, kS186, kL187, kA187, kS187, kL188, kA188, kS188, kL189, kL190, kL191, kA191, kS191, kL192, kA192, kS192, kL193, kA193, kS193, kL194, kA194, kS194, kL195, kA195, kS195, kL196, kA196, kS196, kL197, kA197, kS197, kL198, kA198, kS198, kL199, kA199, kS199, kL200, kA200, kS200, kL201, kL202, kA202, kS202, kL203, kA203, kS203, kL204, kA204, kS204, kL205, kL206, kA206, kS206, tieTo_ok hS hG hb2 hi2, jo, oI_neg (gTo_s hg ht)]
      rw [fb_ct_succ, ← hi, ← hb, ← nI_succ]
      have hf : gFr (i + 16 * b) = i := by
        unfold gFr
        rcases (show b = 0 ∨ b = 1 by omega) with rfl | rfl
        · rw [if_pos (by omega)]; omega
        · rw [if_neg (by omega)]; omega
      unfold bkP
      cases he : gTo g (i + 16 * b) with
      | none => simp
      | some e =>
        have heb := gTo_b g hg _ ht e he
        rw [if_neg (by simp)]
        by_cases h0 : F (i + 16 * b) = 0
        · simp [h0]
        · rw [if_neg h0, has_ok hs (by omega), Option.bind_some]
          show ((f_X12_has (nI s) (nI e)).bind _) = _
          rw [has_ok hs (by omega), Option.bind_some]
          unfold f_X12_brokenOf_j89 f_X12_brokenOf_j99
          simp only [neg_F, bI_eq, hf, ← nI_succ]
          by_cases hn : (F (i + 16 * b)).toInt < 0
          · by_cases hbb : s.testBit i = s.testBit e
            · simp [hn, h0, hbb]
            · simp [hn, h0, hbb]
          · by_cases hbb : s.testBit i = s.testBit e
            · simp [hn, h0, hbb]
            · simp [hn, h0, hbb]
    simp (disch := first | assumption | omega) only [Option.bind_some, Option.map_some, xw_gR, xw_gN, xw_al, xw_ck, xw_uI, xw_ur, xup_at, xur_at, if_true, if_false, reduceIte, and_true, true_and, and_false, false_and, not_true_eq_false, not_false_eq_true, Nat.reduceEqDiff, eq_self, Nat.reduceAdd, Nat.reduceMul, kC1, kG1, kP1, kR1_0, kR1_1, kR1_2, kR1_3, kR1_4, kR1_5, kR1_6, kR1_7, kR1_8, kR1_9, kR1_10, kR1_11, kR1_12, kR1_13, kC2, kG2, kP2, kR2_0, kR2_1, kC3, kG3, kP3, kR3_0, kR3_1, kR3_2, kR3_3, kL4, kA4, kS4, kL5, kA5, kS5, kL6, kA6, kS6, kL7, kA7, kS7, kC8, kG8, kP8, kR8_0, kR8_1, kL9, kA9, kS9, kL10, kA10, kS10, kC11, kG11, kP11, kR11_0, kR11_1, kR11_2, kR11_3, kL12, kA12, kS12, kL13, kA13, kS13, kL14, kA14, kS14, kL15, kA15, kS15, kC16, kG16, kP16, kR16_0, kR16_1, kL17, kA17, kS17, kL18, kA18, kS18, kC19, kG19, kP19, kR19_0, kL20, kL141, kL146, kA146, kS146, kL151, kA151, kS151, kL156, kA156, kS156, kC157, kG157, kP157, kR157_0, kR157_1, kL158, kA158, kS158, kL159, kA159, kS159, kC161, kG161, kP161, kR161_0, kR161_1, kL162, kA162, kS162, kL163, kA163, kS163, kC165, kG165, kP165, kR165_0, kR165_1, kR165_2, kR165_3, kL166, kA166, kS166, kL167, kA167, kS167, kL168, kA168, kS168, kL169, kA169, kS169, kC170, kG170, kP170, kR170_0, kR170_1, kR170_2, kL171, kA171, kS171, kL172, kA172, kS172, kL173, kA173, kS173, kC174, kG174, kP174, kR174_0, kR174_1, kR174_2, kR174_3, kR174_4, kL175, kA175, kS175, kL176, kA176, kS176, kL177, kA177, kS177, kL178, kA178, kS178, kL179, kC180, kG180, kP180, kL181, kL182, kA182, kS182, kC183, kG183, kP183, kR183_1, kR183_3, kR183_5, kR183_6, kR183_7, kR183_8, kR183_9, kR183_21, kR183_26, kR183_27, kR183_30, kR183_31, kR183_33, kR183_34, kR183_36, kR183_37, kR183_38, kR183_39, kR183_40, kR183_41, kR183_42, kR183_43, kR183_44, kL184, kA184, kS184, kL185, kA185, kS185, kL186, kA186, kS186, kL187, kA187, kS187, kL188, kA188, kS188, kL189, kL190, kL191, kA191, kS191, kL192, kA192, kS192, kL193, kA193, kS193, kL194, kA194, kS194, kL195, kA195, kS195, kL196, kA196, kS196, kL197, kA197, kS197, kL198, kA198, kS198, kL199, kA199, kS199, kL200, kA200, kS200, kL201, kL202, kA202, kS202, kL203, kA203, kS203, kL204, kA204, kS204, kL205, kL206, kA206, kS206, sites_ok hS hG, show (2 : Int32) = nI 2 from rfl, nn_mul, nn_le, show ¬ (2 * gSz g ≤ k) by omega, nn_rem]
    have e2 : nI k / nI 2 = nI i := by rw [nn_div (by omega) (by omega), hi]
    have er : (nI (k % 2) = 1) = (k % 2 = 1) := nn_eq (b := 1) (by omega) (by decide)
    have er' : nI k - nI k / nI 2 * nI 2 = nI (k % 2) := nn_rem (by omega) (by omega)
    first
      | rw [er']
      | skip
    simp only [e2, er]
    rcases (show b = 0 ∨ b = 1 by omega) with rfl | rfl
    · rw [if_neg (by omega)]
      exact main
    · rw [if_pos (by omega)]
      exact main
  · simp only [f_X12_brokenOf_b4]
    simp (disch := first | assumption | omega) only [Option.bind_some, Option.map_some, xw_gR, xw_gN, xw_al, xw_ck, xw_uI, xw_ur, xup_at, xur_at, if_true, if_false, reduceIte, and_true, true_and, and_false, false_and, not_true_eq_false, not_false_eq_true, Nat.reduceEqDiff, eq_self, Nat.reduceAdd, Nat.reduceMul, kC1, kG1, kP1, kR1_0, kR1_1, kR1_2, kR1_3, kR1_4, kR1_5, kR1_6, kR1_7, kR1_8, kR1_9, kR1_10, kR1_11, kR1_12, kR1_13, kC2, kG2, kP2, kR2_0, kR2_1, kC3, kG3, kP3, kR3_0, kR3_1, kR3_2, kR3_3, kL4, kA4, kS4, kL5, kA5, kS5, kL6, kA6, kS6, kL7, kA7, kS7, kC8, kG8, kP8, kR8_0, kR8_1, kL9, kA9, kS9, kL10, kA10, kS10, kC11, kG11, kP11, kR11_0, kR11_1, kR11_2, kR11_3, kL12, kA12, kS12, kL13, kA13, kS13, kL14, kA14, kS14, kL15, kA15, kS15, kC16, kG16, kP16, kR16_0, kR16_1, kL17, kA17, kS17, kL18, kA18, kS18, kC19, kG19, kP19, kR19_0, kL20, kL141, kL146, kA146, kS146, kL151, kA151, kS151, kL156, kA156, kS156, kC157, kG157, kP157, kR157_0, kR157_1, kL158, kA158, kS158, kL159, kA159, kS159, kC161, kG161, kP161, kR161_0, kR161_1, kL162, kA162, kS162, kL163, kA163, kS163, kC165, kG165, kP165, kR165_0, kR165_1, kR165_2, kR165_3, kL166, kA166, kS166, kL167, kA167, kS167, kL168, kA168, kS168, kL169, kA169, kS169, kC170, kG170, kP170, kR170_0, kR170_1, kR170_2, kL171, kA171, kS171, kL172, kA172, kS172, kL173, kA173, kS173, kC174, kG174, kP174, kR174_0, kR174_1, kR174_2, kR174_3, kR174_4, kL175, kA175, kS175, kL176, kA176, kS176, kL177, kA177, kS177, kL178, kA178, kS178, kL179, kC180, kG180, kP180, kL181, kL182, kA182, kS182, kC183, kG183, kP183, kR183_1, kR183_3, kR183_5, kR183_6, kR183_7, kR183_8, kR183_9, kR183_21, kR183_26, kR183_27, kR183_30, kR183_31, kR183_33, kR183_34, kR183_36, kR183_37, kR183_38, kR183_39, kR183_40, kR183_41, kR183_42, kR183_43, kR183_44, kL184, kA184, kS184, kL185, kA185, kS185, kL186, kA186, kS186, kL187, kA187, kS187, kL188, kA188, kS188, kL189, kL190, kL191, kA191, kS191, kL192, kA192, kS192, kL193, kA193, kS193, kL194, kA194, kS194, kL195, kA195, kS195, kL196, kA196, kS196, kL197, kA197, kS197, kL198, kA198, kS198, kL199, kA199, kS199, kL200, kA200, kS200, kL201, kL202, kA202, kS202, kL203, kA203, kS203, kL204, kA204, kS204, kL205, kL206, kA206, kS206, sites_ok hS hG, show (2 : Int32) = nI 2 from rfl, nn_mul, nn_le, Nat.le_refl]
end BROKEN
end
section
theorem numberOf_ok {σ : XS} {J : Nat → Nat → Int32} {g : GD} {F : Nat → Int32} (hS : Shp σ) (hL : LVK J g F) {e : Nat} (he : e < 289) (hp : lvP g F e = true) : f_X4_numberOf (xw σ J) 165 (iI ((e : Int) - 144)) = some (nI (fb_ct (lvP g F) e)) := by
  have hlt := lvl_lt he hp
  have hlb := lvN_b g F
  unfold f_X4_numberOf
  refine xforE (fun i : Nat => nI i) (fb_ct (lvP g F) e) rfl (fun i hi => ?_) ?_
  · obtain ⟨k, hk, hpk, hki⟩ := lvl_at (g := g) (F := F) (i := i) (by omega)
    have hv := hL.2.2.2.2 k hk hpk
    rw [hki] at hv
    have hne : (iI ((k : Int) - 144) = iI ((e : Int) - 144)) = False := by
      rw [iI_eq (by omega) (by omega) (by omega) (by omega)]
      apply eq_false
      intro z
      have : k = e := by omega
      rw [this] at hki; omega
    simp only [f_X4_numberOf_b2]
    simp (disch := first | assumption | omega) only [Option.bind_some, Option.map_some, xw_gR, xw_gN, xw_al, xw_ck, xw_uI, xw_ur, xup_at, xur_at, if_true, if_false, reduceIte, and_true, true_and, and_false, false_and, not_true_eq_false, not_false_eq_true, Nat.reduceEqDiff, eq_self, Nat.reduceAdd, Nat.reduceMul, kC1, kG1, kP1, kR1_0, kR1_1, kR1_2, kR1_3, kR1_4, kR1_5, kR1_6, kR1_7, kR1_8, kR1_9, kR1_10, kR1_11, kR1_12, kR1_13, kC2, kG2, kP2, kR2_0, kR2_1, kC3, kG3, kP3, kR3_0, kR3_1, kR3_2, kR3_3, kL4, kA4, kS4, kL5, kA5, kS5, kL6, kA6, kS6, kL7, kA7, kS7, kC8, kG8, kP8, kR8_0, kR8_1, kL9, kA9, kS9, kL10, kA10, kS10, kC11, kG11, kP11, kR11_0, kR11_1, kR11_2, kR11_3, kL12, kA12, kS12, kL13, kA13, kS13, kL14, kA14, kS14, kL15, kA15, kS15, kC16, kG16, kP16, kR16_0, kR16_1, kL17, kA17, kS17, kL18, kA18, kS18, kC19, kG19, kP19, kR19_0, kL20, kL141, kL146, kA146, kS146, kL151, kA151, kS151, kL156, kA156, kS156, kC157, kG157, kP157, kR157_0, kR157_1, kL158, kA158, kS158, kL159, kA159, kS159, kC161, kG161, kP161, kR161_0, kR161_1, kL162, kA162, kS162, kL163, kA163, kS163, kC165, kG165, kP165, kR165_0, kR165_1, kR165_2, kR165_3, kL166, kA166, kS166, kL167, kA167, kS167, kL168, kA168, kS168, kL169, kA169, kS169, kC170, kG170, kP170, kR170_0, kR170_1, kR170_2, kL171, kA171, kS171, kL172, kA172, kS172, kL173, kA173, kS173, kC174, kG174, kP174, kR174_0, kR174_1, kR174_2, kR174_3, kR174_4, kL175, kA175, kS175, kL176, kA176, kS176, kL177, kA177, kS177, kL178, kA178, kS178, kL179, kC180, kG180, kP180, kL181, kL182, kA182, kS182, kC183, kG183, kP183, kR183_1, kR183_3, kR183_5, kR183_6, kR183_7, kR183_8, kR183_9, kR183_21, kR183_26, kR183_27, kR183_30, kR183_31, kR183_33, kR183_34, kR183_36, kR183_37, kR183_38, kR183_39, kR183_40, kR183_41, kR183_42, kR183_43, kR183_44, kL184, kA184, kS184, kL185, kA185, kS185, kL186, kA186, kS186, kL187, kA187, kS187, kL188, kA188, kS188, kL189, kL190, kL191, kA191, kS191, kL192, kA192, kS192, kL193, kA193, kS193, kL194, kA194, kS194, kL195, kA195, kS195, kL196, kA196, kS196, kL197, kA197, kS197, kL198, kA198, kS198, kL199, kA199, kS199, kL200, kA200, kS200, kL201, kL202, kA202, kS202, kL203, kA203, kS203, kL204, kA204, kS204, kL205, kL206, kA206, kS206, hL.2.2.2.1, nn_le, show ¬ (lvN g F ≤ i) by omega, show ¬ (289 ≤ i) by omega, hv, hne]
    rw [nI_succ]
  · have hv := hL.2.2.2.2 e he hp
    simp only [f_X4_numberOf_b2]
    simp (disch := first | assumption | omega) only [Option.bind_some, Option.map_some, xw_gR, xw_gN, xw_al, xw_ck, xw_uI, xw_ur, xup_at, xur_at, if_true, if_false, reduceIte, and_true, true_and, and_false, false_and, not_true_eq_false, not_false_eq_true, Nat.reduceEqDiff, eq_self, Nat.reduceAdd, Nat.reduceMul, kC1, kG1, kP1, kR1_0, kR1_1, kR1_2, kR1_3, kR1_4, kR1_5, kR1_6, kR1_7, kR1_8, kR1_9, kR1_10, kR1_11, kR1_12, kR1_13, kC2, kG2, kP2, kR2_0, kR2_1, kC3, kG3, kP3, kR3_0, kR3_1, kR3_2, kR3_3, kL4, kA4, kS4, kL5, kA5, kS5, kL6, kA6, kS6, kL7, kA7, kS7, kC8, kG8, kP8, kR8_0, kR8_1, kL9, kA9, kS9, kL10, kA10, kS10, kC11, kG11, kP11, kR11_0, kR11_1, kR11_2, kR11_3, kL12, kA12, kS12, kL13, kA13, kS13, kL14, kA14, kS14, kL15, kA15, kS15, kC16, kG16, kP16, kR16_0, kR16_1, kL17, kA17, kS17, kL18, kA18, kS18, kC19, kG19, kP19, kR19_0, kL20, kL141, kL146, kA146, kS146, kL151, kA151, kS151, kL156, kA156, kS156, kC157, kG157, kP157, kR157_0, kR157_1, kL158, kA158, kS158, kL159, kA159, kS159, kC161, kG161, kP161, kR161_0, kR161_1, kL162, kA162, kS162, kL163, kA163, kS163, kC165, kG165, kP165, kR165_0, kR165_1, kR165_2, kR165_3, kL166, kA166, kS166, kL167, kA167, kS167, kL168, kA168, kS168, kL169, kA169, kS169, kC170, kG170, kP170, kR170_0, kR170_1, kR170_2, kL171, kA171, kS171, kL172, kA172, kS172, kL173, kA173, kS173, kC174, kG174, kP174, kR174_0, kR174_1, kR174_2, kR174_3, kR174_4, kL175, kA175, kS175, kL176, kA176, kS176, kL177, kA177, kS177, kL178, kA178, kS178, kL179, kC180, kG180, kP180, kL181, kL182, kA182, kS182, kC183, kG183, kP183, kR183_1, kR183_3, kR183_5, kR183_6, kR183_7, kR183_8, kR183_9, kR183_21, kR183_26, kR183_27, kR183_30, kR183_31, kR183_33, kR183_34, kR183_36, kR183_37, kR183_38, kR183_39, kR183_40, kR183_41, kR183_42, kR183_43, kR183_44, kL184, kA184, kS184, kL185, kA185, kS185, kL186, kA186, kS186, kL187, kA187, kS187, kL188, kA188, kS188, kL189, kL190, kL191, kA191, kS191, kL192, kA192, kS192, kL193, kA193, kS193, kL194, kA194, kS194, kL195, kA195, kS195, kL196, kA196, kS196, kL197, kA197, kS197, kL198, kA198, kS198, kL199, kA199, kS199, kL200, kA200, kS200, kL201, kL202, kA202, kS202, kL203, kA203, kS203, kL204, kA204, kS204, kL205, kL206, kA206, kS206, hL.2.2.2.1, nn_le, show ¬ (lvN g F ≤ fb_ct (lvP g F) e) by omega, show ¬ (289 ≤ fb_ct (lvP g F) e) by omega, hv]
theorem levelOf12_ok {σ : XS} {J : Nat → Nat → Int32} {g : GD} {F : Nat → Int32} (hS : Shp σ) (hg : g ∈ gAll) (ho : RO g F) (hK : KNK J g F) {e s : Nat} (he : e < 289) (hp : lvP g F e = true) (hs : s < gSt g) (hl : lW g F s = true) (hE : eE g (zR F) s = (e : Int) - 144) : f_X12_levelOf (xw σ J) 183 (nI s) = some (nI (fb_ct (lvP g F) e)) := by
  have hlt := lvl_lt he hp
  have hlb := lvN_b g F
  have hSt := (gSt_b hg).1
  have hvs := hK.1 s hs
  rw [hl, if_pos rfl, hE] at hvs
  unfold f_X12_levelOf
  refine xforE (fun i : Nat => nI i) (fb_ct (lvP g F) e) rfl (fun i hi => ?_) ?_
  · obtain ⟨k, hk, hpk, hki⟩ := lvl_at (g := g) (F := F) (i := i) (by omega)
    have hv := hK.2.2.2 k hk hpk
    rw [hki] at hv
    have hne : (iI ((k : Int) - 144) = iI ((e : Int) - 144)) = False := by
      rw [iI_eq (by omega) (by omega) (by omega) (by omega)]
      apply eq_false
      intro z
      have : k = e := by omega
      rw [this] at hki; omega
    simp only [f_X12_levelOf_b2]
    simp (disch := first | assumption | omega) only [Option.bind_some, Option.map_some, xw_gR, xw_gN, xw_al, xw_ck, xw_uI, xw_ur, xup_at, xur_at, if_true, if_false, reduceIte, and_true, true_and, and_false, false_and, not_true_eq_false, not_false_eq_true, Nat.reduceEqDiff, eq_self, Nat.reduceAdd, Nat.reduceMul, kC1, kG1, kP1, kR1_0, kR1_1, kR1_2, kR1_3, kR1_4, kR1_5, kR1_6, kR1_7, kR1_8, kR1_9, kR1_10, kR1_11, kR1_12, kR1_13, kC2, kG2, kP2, kR2_0, kR2_1, kC3, kG3, kP3, kR3_0, kR3_1, kR3_2, kR3_3, kL4, kA4, kS4, kL5, kA5, kS5, kL6, kA6, kS6, kL7, kA7, kS7, kC8, kG8, kP8, kR8_0, kR8_1, kL9, kA9, kS9, kL10, kA10, kS10, kC11, kG11, kP11, kR11_0, kR11_1, kR11_2, kR11_3, kL12, kA12, kS12, kL13, kA13, kS13, kL14, kA14, kS14, kL15, kA15, kS15, kC16, kG16, kP16, kR16_0, kR16_1, kL17, kA17, kS17, kL18, kA18, kS18, kC19, kG19, kP19, kR19_0, kL20, kL141, kL146, kA146, kS146, kL151, kA151, kS151, kL156, kA156, kS156, kC157, kG157, kP157, kR157_0, kR157_1, kL158, kA158, kS158, kL159, kA159, kS159, kC161, kG161, kP161, kR161_0, kR161_1, kL162, kA162, kS162, kL163, kA163, kS163, kC165, kG165, kP165, kR165_0, kR165_1, kR165_2, kR165_3, kL166, kA166, kS166, kL167, kA167, kS167, kL168, kA168, kS168, kL169, kA169, kS169, kC170, kG170, kP170, kR170_0, kR170_1, kR170_2, kL171, kA171, kS171, kL172, kA172, kS172, kL173, kA173, kS173, kC174, kG174, kP174, kR174_0, kR174_1, kR174_2, kR174_3, kR174_4, kL175, kA175, kS175, kL176, kA176, kS176, kL177, kA177, kS177, kL178, kA178, kS178, kL179, kC180, kG180, kP180, kL181, kL182, kA182, kS182, kC183, kG183, kP183, kR183_1, kR183_3, kR183_5, kR183_6, kR183_7, kR183_8, kR183_9, kR183_21, kR183_26, kR183_27, kR183_30, kR183_31, kR183_33, kR183_34, kR183_36, kR183_37, kR183_38, kR183_39, kR183_40, kR183_41, kR183_42, kR183_43, kR183_44, kL184, kA184, kS184, kL185, kA185, kS185, kL186, kA186, kS186, kL187, kA187, kS187, kL188, kA188, kS188, kL189, kL190, kL191, kA191, kS191, kL192, kA192, kS192, kL193, kA193, kS193, kL194, kA194, kS194, kL195, kA195, kS195, kL196, kA196, kS196, kL197, kA197, kS197, kL198, kA198, kS198, kL199, kA199, kS199, kL200, kA200, kS200, kL201, kL202, kA202, kS202, kL203, kA203, kS203, kL204, kA204, kS204, kL205, kL206, kA206, kS206, hv, hvs, hne]
    rw [nI_succ]
  · have hv := hK.2.2.2 e he hp
    simp only [f_X12_levelOf_b2]
    simp (disch := first | assumption | omega) only [Option.bind_some, Option.map_some, xw_gR, xw_gN, xw_al, xw_ck, xw_uI, xw_ur, xup_at, xur_at, if_true, if_false, reduceIte, and_true, true_and, and_false, false_and, not_true_eq_false, not_false_eq_true, Nat.reduceEqDiff, eq_self, Nat.reduceAdd, Nat.reduceMul, kC1, kG1, kP1, kR1_0, kR1_1, kR1_2, kR1_3, kR1_4, kR1_5, kR1_6, kR1_7, kR1_8, kR1_9, kR1_10, kR1_11, kR1_12, kR1_13, kC2, kG2, kP2, kR2_0, kR2_1, kC3, kG3, kP3, kR3_0, kR3_1, kR3_2, kR3_3, kL4, kA4, kS4, kL5, kA5, kS5, kL6, kA6, kS6, kL7, kA7, kS7, kC8, kG8, kP8, kR8_0, kR8_1, kL9, kA9, kS9, kL10, kA10, kS10, kC11, kG11, kP11, kR11_0, kR11_1, kR11_2, kR11_3, kL12, kA12, kS12, kL13, kA13, kS13, kL14, kA14, kS14, kL15, kA15, kS15, kC16, kG16, kP16, kR16_0, kR16_1, kL17, kA17, kS17, kL18, kA18, kS18, kC19, kG19, kP19, kR19_0, kL20, kL141, kL146, kA146, kS146, kL151, kA151, kS151, kL156, kA156, kS156, kC157, kG157, kP157, kR157_0, kR157_1, kL158, kA158, kS158, kL159, kA159, kS159, kC161, kG161, kP161, kR161_0, kR161_1, kL162, kA162, kS162, kL163, kA163, kS163, kC165, kG165, kP165, kR165_0, kR165_1, kR165_2, kR165_3, kL166, kA166, kS166, kL167, kA167, kS167, kL168, kA168, kS168, kL169, kA169, kS169, kC170, kG170, kP170, kR170_0, kR170_1, kR170_2, kL171, kA171, kS171, kL172, kA172, kS172, kL173, kA173, kS173, kC174, kG174, kP174, kR174_0, kR174_1, kR174_2, kR174_3, kR174_4, kL175, kA175, kS175, kL176, kA176, kS176, kL177, kA177, kS177, kL178, kA178, kS178, kL179, kC180, kG180, kP180, kL181, kL182, kA182, kS182, kC183, kG183, kP183, kR183_1, kR183_3, kR183_5, kR183_6, kR183_7, kR183_8, kR183_9, kR183_21, kR183_26, kR183_27, kR183_30, kR183_31, kR183_33, kR183_34, kR183_36, kR183_37, kR183_38, kR183_39, kR183_40, kR183_41, kR183_42, kR183_43, kR183_44, kL184, kA184, kS184, kL185, kA185, kS185, kL186, kA186, kS186, kL187, kA187, kS187, kL188, kA188, kS188, kL189, kL190, kL191, kA191, kS191, kL192, kA192, kS192, kL193, kA193, kS193, kL194, kA194, kS194, kL195, kA195, kS195, kL196, kA196, kS196, kL197, kA197, kS197, kL198, kA198, kS198, kL199, kA199, kS199, kL200, kA200, kS200, kL201, kL202, kA202, kS202, kL203, kA203, kS203, kL204, kA204, kS204, kL205, kL206, kA206, kS206, hv, hvs]
/-- what the model tells of a state -/
theorem state12 {n : Nat} {σ : XS} {g : GD} {gT gP : GH} {st : Nat} (H : IV n σ g gT gP st) {F : Nat → Int32} (hF : xI σ 191 = F) {s M e : Nat} (hs : s < gSt g) (hl : lW g F s = true) (m1 : (sp g F (fs g F s M) (gSz g)).2 = none) (m2 : ∀ j, j < M → (sp g F (fs g F s j) (gSz g)).2 ≠ none) (he : e < 289) (hp : lvP g F e = true) (hE : eE g (zR F) s = (e : Int) - 144) :
    ∃ J, IV n (xw σ J) g gT gP st ∧ ∀ v, f_X12_state σ 183 (nI s) v = xsw v 0 [some (iI (eE g (zR F) s), xw σ J), some (nI (bk g F s), xw σ J), some (if (sp g F s (gSz g)).2 = none then 1 else 0, xw σ J), some (nI (fs g F s M), xw σ J), some (nI M, xw σ J), some (nI (fb_ct (lvP g F) e), xw σ J)] (some (-100000, xw σ J)) := by
  obtain ⟨J, e2, H2, K2, u2⟩ := knows_ok H
  have hS := H.shp
  have hG := H.grd
  have hg := hG.1
  have hSt := (gSt_b hg).1
  have ho : RO g F := by rw [← hF]; exact H.now.2.1
  have rJ : J 191 = F := by rw [← hF]; funext k; exact u2 191 k (by omega) (by omega)
  rw [rJ] at K2
  have hG2 : GRD J g := H2.grd
  refine ⟨J, H2, fun v => ?_⟩
  have ql : f_X12_isLawful σ 183 (nI s) = some 1 := by
    have := isLawful12_ok (σ := σ) (I := xI σ) hS hG H.now.2.1 (nI s)
    rw [hF, isB_n hg hs, hl, if_pos rfl] at this
    exact this
  have hv := K2.1 s hs
  rw [hl, if_pos rfl] at hv
  have noS : ∀ i, (sp g F s (gSz g)).2 = some i → i < 2147483648 := fun i h => by have := spS hg h; omega
  unfold f_X12_state
  rw [xck_ok (sT183 hS), Option.bind_some, ql, Option.bind_some, if_neg (by decide), Option.bind_some, e2, Option.bind_some]
  simp (disch := first | assumption | omega) only [Option.bind_some, Option.map_some, xw_gR, xw_gN, xw_al, xw_ck, xw_uI, xw_ur, xup_at, xur_at, if_true, if_false, reduceIte, and_true, true_and, and_false, false_and, not_true_eq_false, not_false_eq_true, Nat.reduceEqDiff, eq_self, Nat.reduceAdd, Nat.reduceMul, kC1, kG1, kP1, kR1_0, kR1_1, kR1_2, kR1_3, kR1_4, kR1_5, kR1_6, kR1_7, kR1_8, kR1_9, kR1_10, kR1_11, kR1_12, kR1_13, kC2, kG2, kP2, kR2_0, kR2_1, kC3, kG3, kP3, kR3_0, kR3_1, kR3_2, kR3_3, kL4, kA4, kS4, kL5, kA5, kS5, kL6, kA6, kS6, kL7, kA7, kS7, kC8, kG8, kP8, kR8_0, kR8_1, kL9, kA9, kS9, kL10, kA10, kS10, kC11, kG11, kP11, kR11_0, kR11_1, kR11_2, kR11_3, kL12, kA12, kS12, kL13, kA13, kS13, kL14, kA14, kS14, kL15, kA15, kS15, kC16, kG16, kP16, kR16_0, kR16_1, kL17, kA17, kS17, kL18, kA18, kS18, kC19, kG19, kP19, kR19_0, kL20, kL141, kL146, kA146, kS146, kL151, kA151, kS151, kL156, kA156, kS156, kC157, kG157, kP157, kR157_0, kR157_1, kL158, kA158, kS158, kL159, kA159, kS159, kC161, kG161, kP161, kR161_0, kR161_1, kL162, kA162, kS162, kL163, kA163, kS163, kC165, kG165, kP165, kR165_0, kR165_1, kR165_2, kR165_3, kL166, kA166, kS166, kL167, kA167, kS167, kL168, kA168, kS168, kL169, kA169, kS169, kC170, kG170, kP170, kR170_0, kR170_1, kR170_2, kL171, kA171, kS171, kL172, kA172, kS172, kL173, kA173, kS173, kC174, kG174, kP174, kR174_0, kR174_1, kR174_2, kR174_3, kR174_4, kL175, kA175, kS175, kL176, kA176, kS176, kL177, kA177, kS177, kL178, kA178, kS178, kL179, kC180, kG180, kP180, kL181, kL182, kA182, kS182, kC183, kG183, kP183, kR183_1, kR183_3, kR183_5, kR183_6, kR183_7, kR183_8, kR183_9, kR183_21, kR183_26, kR183_27, kR183_30, kR183_31, kR183_33, kR183_34, kR183_36, kR183_37, kR183_38, kR183_39, kR183_40, kR183_41, kR183_42, kR183_43, kR183_44, kL184, kA184, kS184, kL185, kA185, kS185, kL186, kA186, kS186, kL187, kA187, kS187, kL188, kA188, kS188, kL189, kL190, kL191, kA191, kS191, kL192, kA192, kS192, kL193, kA193, kS193, kL194, kA194, kS194, kL195, kA195, kS195, kL196, kA196, kS196, kL197, kA197, kS197, kL198, kA198, kS198, kL199, kA199, kS199, kL200, kA200, kS200, kL201, kL202, kA202, kS202, kL203, kA203, kS203, kL204, kA204, kS204, kL205, kL206, kA206, kS206, hv, broken12_ok hS hG2 rJ (show s < 2147483648 by omega), steep12_ok hS hG2 ho K2 hs hl, oI_n0 noS, fallEnd_ok hS hG2 ho K2 hs hl m1 m2, fallTurns_ok hS hG2 ho K2 hs hl m1 m2, levelOf12_ok hS hg ho K2 he hp hs hl hE]
  congr 1
  cases (sp g F s (gSz g)).2 <;> simp
theorem op_state : Op_state INV := by
  intro n σ hn ⟨g, gT, gP, st, H⟩ x v
  have hS := H.shp
  have hG := H.grd
  have hg := hG.1
  have hSt := (gSt_b hg).1
  by_cases hb1 : isB g (xI σ 191) x = true
  · obtain ⟨s, hs, rfl, hl⟩ := isB_t hb1
    obtain ⟨F, hF⟩ : ∃ F, F = xI σ 191 := ⟨_, rfl⟩
    have hSR := H.now.1
    have ho := H.now.2.1
    rw [← hF] at hSR ho hl
    obtain ⟨M, hM, m1, m2⟩ := fs_end (s := s) hg ho
    obtain ⟨e, he, hE, hp⟩ := lE_slot hg ho hs hl
    have ql := isLawful11_ok (σ := σ) (I := xI σ) hS hG H.now.1 (nI s)
    rw [hb1, if_pos rfl] at ql
    have hfall := fall11_ok (σ := σ) (J := xI σ) hS hG ho hSR hs hl hM m1 m2
    have HW : IV n (xw σ (flI (xI σ) (fs g F s M) M)) g gT gP st := H.walk (fun a k h => flI_out (by omega))
    have rW : xI (xw σ (flI (xI σ) (fs g F s M) M)) 191 = F := by
      funext k
      show flI (xI σ) (fs g F s M) M 191 k = F k
      rw [flI_out (by decide)]
      exact (congrFun hF k).symm
    have v0 : flI (xI σ) (fs g F s M) M 180 0 = nI (fs g F s M) := by unfold flI; simp [xup_at]
    have v1 : flI (xI σ) (fs g F s M) M 180 1 = nI M := by unfold flI; simp [xup_at]
    have noS : ∀ i, (sp g F s (gSz g)).2 = some i → i < 2147483648 := fun i h => by have := spS hg h; omega
    obtain ⟨τ, l1, Hl, Kl, Ll, ul, -⟩ := levelsNow_ok (by omega) H
    have rl : xI τ 191 = F := by rw [hF]; funext k; exact ul 191 k (by omega)
    have hSl := Hl.shp
    have hGl := Hl.grd
    have hSRl := Hl.now.1
    rw [rl] at Ll hSRl
    have e5 : f_X11_state_j152 (xw τ (xI τ)) 1 (nI s) 165 = some (nI (fb_ct (lvP g F) e), τ) := by
      unfold f_X11_state_j152
      simp (disch := first | assumption | omega) only [Option.bind_some, Option.map_some, xw_gR, xw_gN, xw_al, xw_ck, xw_uI, xw_ur, xup_at, xur_at, if_true, if_false, reduceIte, and_true, true_and, and_false, false_and, not_true_eq_false, not_false_eq_true, Nat.reduceEqDiff, eq_self, Nat.reduceAdd, Nat.reduceMul, kC1, kG1, kP1, kR1_0, kR1_1, kR1_2, kR1_3, kR1_4, kR1_5, kR1_6, kR1_7, kR1_8, kR1_9, kR1_10, kR1_11, kR1_12, kR1_13, kC2, kG2, kP2, kR2_0, kR2_1, kC3, kG3, kP3, kR3_0, kR3_1, kR3_2, kR3_3, kL4, kA4, kS4, kL5, kA5, kS5, kL6, kA6, kS6, kL7, kA7, kS7, kC8, kG8, kP8, kR8_0, kR8_1, kL9, kA9, kS9, kL10, kA10, kS10, kC11, kG11, kP11, kR11_0, kR11_1, kR11_2, kR11_3, kL12, kA12, kS12, kL13, kA13, kS13, kL14, kA14, kS14, kL15, kA15, kS15, kC16, kG16, kP16, kR16_0, kR16_1, kL17, kA17, kS17, kL18, kA18, kS18, kC19, kG19, kP19, kR19_0, kL20, kL141, kL146, kA146, kS146, kL151, kA151, kS151, kL156, kA156, kS156, kC157, kG157, kP157, kR157_0, kR157_1, kL158, kA158, kS158, kL159, kA159, kS159, kC161, kG161, kP161, kR161_0, kR161_1, kL162, kA162, kS162, kL163, kA163, kS163, kC165, kG165, kP165, kR165_0, kR165_1, kR165_2, kR165_3, kL166, kA166, kS166, kL167, kA167, kS167, kL168, kA168, kS168, kL169, kA169, kS169, kC170, kG170, kP170, kR170_0, kR170_1, kR170_2, kL171, kA171, kS171, kL172, kA172, kS172, kL173, kA173, kS173, kC174, kG174, kP174, kR174_0, kR174_1, kR174_2, kR174_3, kR174_4, kL175, kA175, kS175, kL176, kA176, kS176, kL177, kA177, kS177, kL178, kA178, kS178, kL179, kC180, kG180, kP180, kL181, kL182, kA182, kS182, kC183, kG183, kP183, kR183_1, kR183_3, kR183_5, kR183_6, kR183_7, kR183_8, kR183_9, kR183_21, kR183_26, kR183_27, kR183_30, kR183_31, kR183_33, kR183_34, kR183_36, kR183_37, kR183_38, kR183_39, kR183_40, kR183_41, kR183_42, kR183_43, kR183_44, kL184, kA184, kS184, kL185, kA185, kS185, kL186, kA186, kS186, kL187, kA187, kS187, kL188, kA188, kS188, kL189, kL190, kL191, kA191, kS191, kL192, kA192, kS192, kL193, kA193, kS193, kL194, kA194, kS194, kL195, kA195, kS195, kL196, kA196, kS196, kL197, kA197, kS197, kL198, kA198, kS198, kL199, kA199, kS199, kL200, kA200, kS200, kL201, kL202, kA202, kS202, kL203, kA203, kS203, kL204, kA204, kS204, kL205, kL206, kA206, kS206, energy11_ok hSl hGl suA_16 hSRl (show s < 2147483648 by omega), hE, numberOf_ok hSl Ll he hp]
      rfl
    have A : f_X11_state σ 1 (nI s) v = xsw v 0 [some (iI (eE g (zR F) s), σ), some (nI (bk g F s), σ), some (if (sp g F s (gSz g)).2 = none then 1 else 0, σ), some (nI (fs g F s M), xw σ (flI (xI σ) (fs g F s M) M)), some (nI M, xw σ (flI (xI σ) (fs g F s M) M)), some (nI (fb_ct (lvP g F) e), τ)] (some (-100000, σ)) := by
      show f_X11_state (xw σ (xI σ)) 1 (nI s) v = _
      unfold f_X11_state
      have l1' : f_X11_levelsNow (xw σ (xI σ)) 1 = some (165, τ) := l1
      have e5' : f_X11_state_j152 τ 1 (nI s) 165 = some (nI (fb_ct (lvP g F) e), τ) := e5
      simp (disch := first | assumption | omega) only [Option.bind_some, Option.map_some, xw_gR, xw_gN, xw_al, xw_ck, xw_uI, xw_ur, xup_at, xur_at, if_true, if_false, reduceIte, and_true, true_and, and_false, false_and, not_true_eq_false, not_false_eq_true, Nat.reduceEqDiff, eq_self, Nat.reduceAdd, Nat.reduceMul, kC1, kG1, kP1, kR1_0, kR1_1, kR1_2, kR1_3, kR1_4, kR1_5, kR1_6, kR1_7, kR1_8, kR1_9, kR1_10, kR1_11, kR1_12, kR1_13, kC2, kG2, kP2, kR2_0, kR2_1, kC3, kG3, kP3, kR3_0, kR3_1, kR3_2, kR3_3, kL4, kA4, kS4, kL5, kA5, kS5, kL6, kA6, kS6, kL7, kA7, kS7, kC8, kG8, kP8, kR8_0, kR8_1, kL9, kA9, kS9, kL10, kA10, kS10, kC11, kG11, kP11, kR11_0, kR11_1, kR11_2, kR11_3, kL12, kA12, kS12, kL13, kA13, kS13, kL14, kA14, kS14, kL15, kA15, kS15, kC16, kG16, kP16, kR16_0, kR16_1, kL17, kA17, kS17, kL18, kA18, kS18, kC19, kG19, kP19, kR19_0, kL20, kL141, kL146, kA146, kS146, kL151, kA151, kS151, kL156, kA156, kS156, kC157, kG157, kP157, kR157_0, kR157_1, kL158, kA158, kS158, kL159, kA159, kS159, kC161, kG161, kP161, kR161_0, kR161_1, kL162, kA162, kS162, kL163, kA163, kS163, kC165, kG165, kP165, kR165_0, kR165_1, kR165_2, kR165_3, kL166, kA166, kS166, kL167, kA167, kS167, kL168, kA168, kS168, kL169, kA169, kS169, kC170, kG170, kP170, kR170_0, kR170_1, kR170_2, kL171, kA171, kS171, kL172, kA172, kS172, kL173, kA173, kS173, kC174, kG174, kP174, kR174_0, kR174_1, kR174_2, kR174_3, kR174_4, kL175, kA175, kS175, kL176, kA176, kS176, kL177, kA177, kS177, kL178, kA178, kS178, kL179, kC180, kG180, kP180, kL181, kL182, kA182, kS182, kC183, kG183, kP183, kR183_1, kR183_3, kR183_5, kR183_6, kR183_7, kR183_8, kR183_9, kR183_21, kR183_26, kR183_27, kR183_30, kR183_31, kR183_33, kR183_34, kR183_36, kR183_37, kR183_38, kR183_39, kR183_40, kR183_41, kR183_42, kR183_43, kR183_44, kL184, kA184, kS184, kL185, kA185, kS185, kL186, kA186, kS186, kL187, kA187, kS187, kL188, kA188, kS188, kL189, kL190, kL191, kA191, kS191, kL192, kA192, kS192, kL193, kA193, kS193, kL194, kA194, kS194, kL195, kA195, kS195, kL196, kA196, kS196, kL197, kA197, kS197, kL198, kA198, kS198, kL199, kA199, kS199, kL200, kA200, kS200, kL201, kL202, kA202, kS202, kL203, kA203, kS203, kL204, kA204, kS204, kL205, kL206, kA206, kS206, ql, one0, energy11_ok hS hG suA_16 hSR (show s < 2147483648 by omega), broken11_ok hS hG hSR (show s < 2147483648 by omega), steep11_ok hS hG ho hSR (show s < 2147483648 by omega), oI_none noS, hfall, v0, v1, l1', xnz_ok, e5']
      congr 1
      cases (sp g F s (gSz g)).2 <;> simp <;> rfl
    rcases sw_c v 6 with ⟨w, hw, hw2, rfl⟩ | hd
    · rw [xsw_n hw2] at A
      rcases (show w < 3 ∨ w = 3 ∨ w = 4 ∨ w = 5 by omega) with hw3 | rfl | rfl | rfl
      · obtain ⟨J, H2, B⟩ := state12 H hF.symm hs hl m1 m2 he hp hE
        have B := B (nI w)
        rw [xsw_n hw2] at B
        rcases (show w = 0 ∨ w = 1 ∨ w = 2 by omega) with rfl | rfl | rfl <;> exact ⟨_, _, _, A, B, INV_i H2.nop⟩
      · obtain ⟨J, H2, B⟩ := state12 HW (F := F) rW hs hl m1 m2 he hp hE
        have B := B (nI 3)
        rw [xsw_n hw2] at B
        exact ⟨_, _, _, A, B, INV_i H2.nop⟩
      · obtain ⟨J, H2, B⟩ := state12 HW (F := F) rW hs hl m1 m2 he hp hE
        have B := B (nI 4)
        rw [xsw_n hw2] at B
        exact ⟨_, _, _, A, B, INV_i H2.nop⟩
      · obtain ⟨J, H2, B⟩ := state12 Hl rl hs hl m1 m2 he hp hE
        have B := B (nI 5)
        rw [xsw_n hw2] at B
        exact ⟨_, _, _, A, B, INV_i H2.nop⟩
    · obtain ⟨J, H2, B⟩ := state12 H hF.symm hs hl m1 m2 he hp hE
      exact ⟨_, _, _, A.trans (hd _ _ _ (Nat.le_refl 6)), (B v).trans (hd _ _ _ (Nat.le_refl 6)), INV_i H2.nop⟩
  · refine ⟨-100000, σ, σ, ?_, ?_, g, gT, gP, st, H.nop⟩
    · show f_X11_state (xw σ (xI σ)) 1 x v = _
      unfold f_X11_state
      simp (disch := first | assumption | omega) only [Option.bind_some, Option.map_some, xw_gR, xw_gN, xw_al, xw_ck, xw_uI, xw_ur, xup_at, xur_at, if_true, if_false, reduceIte, and_true, true_and, and_false, false_and, not_true_eq_false, not_false_eq_true, Nat.reduceEqDiff, eq_self, Nat.reduceAdd, Nat.reduceMul, kC1, kG1, kP1, kR1_0, kR1_1, kR1_2, kR1_3, kR1_4, kR1_5, kR1_6, kR1_7, kR1_8, kR1_9, kR1_10, kR1_11, kR1_12, kR1_13, kC2, kG2, kP2, kR2_0, kR2_1, kC3, kG3, kP3, kR3_0, kR3_1, kR3_2, kR3_3, kL4, kA4, kS4, kL5, kA5, kS5, kL6, kA6, kS6, kL7, kA7, kS7, kC8, kG8, kP8, kR8_0, kR8_1, kL9, kA9, kS9, kL10, kA10, kS10, kC11, kG11, kP11, kR11_0, kR11_1, kR11_2, kR11_3, kL12, kA12, kS12, kL13, kA13, kS13, kL14, kA14, kS14, kL15, kA15, kS15, kC16, kG16, kP16, kR16_0, kR16_1, kL17, kA17, kS17, kL18, kA18, kS18, kC19, kG19, kP19, kR19_0, kL20, kL141, kL146, kA146, kS146, kL151, kA151, kS151, kL156, kA156, kS156, kC157, kG157, kP157, kR157_0, kR157_1, kL158, kA158, kS158, kL159, kA159, kS159, kC161, kG161, kP161, kR161_0, kR161_1, kL162, kA162, kS162, kL163, kA163, kS163, kC165, kG165, kP165, kR165_0, kR165_1, kR165_2, kR165_3, kL166, kA166, kS166, kL167, kA167, kS167, kL168, kA168, kS168, kL169, kA169, kS169, kC170, kG170, kP170, kR170_0, kR170_1, kR170_2, kL171, kA171, kS171, kL172, kA172, kS172, kL173, kA173, kS173, kC174, kG174, kP174, kR174_0, kR174_1, kR174_2, kR174_3, kR174_4, kL175, kA175, kS175, kL176, kA176, kS176, kL177, kA177, kS177, kL178, kA178, kS178, kL179, kC180, kG180, kP180, kL181, kL182, kA182, kS182, kC183, kG183, kP183, kR183_1, kR183_3, kR183_5, kR183_6, kR183_7, kR183_8, kR183_9, kR183_21, kR183_26, kR183_27, kR183_30, kR183_31, kR183_33, kR183_34, kR183_36, kR183_37, kR183_38, kR183_39, kR183_40, kR183_41, kR183_42, kR183_43, kR183_44, kL184, kA184, kS184, kL185, kA185, kS185, kL186, kA186, kS186, kL187, kA187, kS187, kL188, kA188, kS188, kL189, kL190, kL191, kA191, kS191, kL192, kA192, kS192, kL193, kA193, kS193, kL194, kA194, kS194, kL195, kA195, kS195, kL196, kA196, kS196, kL197, kA197, kS197, kL198, kA198, kS198, kL199, kA199, kS199, kL200, kA200, kS200, kL201, kL202, kA202, kS202, kL203, kA203, kS203, kL204, kA204, kS204, kL205, kL206, kA206, kS206, isLawful11_ok hS hG H.now.1, hb1]
      rfl
    · show f_X12_state (xw σ (xI σ)) 183 x v = _
      unfold f_X12_state
      simp (disch := first | assumption | omega) only [Option.bind_some, Option.map_some, xw_gR, xw_gN, xw_al, xw_ck, xw_uI, xw_ur, xup_at, xur_at, if_true, if_false, reduceIte, and_true, true_and, and_false, false_and, not_true_eq_false, not_false_eq_true, Nat.reduceEqDiff, eq_self, Nat.reduceAdd, Nat.reduceMul, kC1, kG1, kP1, kR1_0, kR1_1, kR1_2, kR1_3, kR1_4, kR1_5, kR1_6, kR1_7, kR1_8, kR1_9, kR1_10, kR1_11, kR1_12, kR1_13, kC2, kG2, kP2, kR2_0, kR2_1, kC3, kG3, kP3, kR3_0, kR3_1, kR3_2, kR3_3, kL4, kA4, kS4, kL5, kA5, kS5, kL6, kA6, kS6, kL7, kA7, kS7, kC8, kG8, kP8, kR8_0, kR8_1, kL9, kA9, kS9, kL10, kA10, kS10, kC11, kG11, kP11, kR11_0, kR11_1, kR11_2, kR11_3, kL12, kA12, kS12, kL13, kA13, kS13, kL14, kA14, kS14, kL15, kA15, kS15, kC16, kG16, kP16, kR16_0, kR16_1, kL17, kA17, kS17, kL18, kA18, kS18, kC19, kG19, kP19, kR19_0, kL20, kL141, kL146, kA146, kS146, kL151, kA151, kS151, kL156, kA156, kS156, kC157, kG157, kP157, kR157_0, kR157_1, kL158, kA158, kS158, kL159, kA159, kS159, kC161, kG161, kP161, kR161_0, kR161_1, kL162, kA162, kS162, kL163, kA163, kS163, kC165, kG165, kP165, kR165_0, kR165_1, kR165_2, kR165_3, kL166, kA166, kS166, kL167, kA167, kS167, kL168, kA168, kS168, kL169, kA169, kS169, kC170, kG170, kP170, kR170_0, kR170_1, kR170_2, kL171, kA171, kS171, kL172, kA172, kS172, kL173, kA173, kS173, kC174, kG174, kP174, kR174_0, kR174_1, kR174_2, kR174_3, kR174_4, kL175, kA175, kS175, kL176, kA176, kS176, kL177, kA177, kS177, kL178, kA178, kS178, kL179, kC180, kG180, kP180, kL181, kL182, kA182, kS182, kC183, kG183, kP183, kR183_1, kR183_3, kR183_5, kR183_6, kR183_7, kR183_8, kR183_9, kR183_21, kR183_26, kR183_27, kR183_30, kR183_31, kR183_33, kR183_34, kR183_36, kR183_37, kR183_38, kR183_39, kR183_40, kR183_41, kR183_42, kR183_43, kR183_44, kL184, kA184, kS184, kL185, kA185, kS185, kL186, kA186, kS186, kL187, kA187, kS187, kL188, kA188, kS188, kL189, kL190, kL191, kA191, kS191, kL192, kA192, kS192, kL193, kA193, kS193, kL194, kA194, kS194, kL195, kA195, kS195, kL196, kA196, kS196, kL197, kA197, kS197, kL198, kA198, kS198, kL199, kA199, kS199, kL200, kA200, kS200, kL201, kL202, kA202, kS202, kL203, kA203, kS203, kL204, kA204, kS204, kL205, kL206, kA206, kS206, isLawful12_ok hS hG H.now.2.1, hb1]
      rfl
end
section
/-! wander -/
abbrev WD := Nat × Nat × Int × Nat
def wdS (g : GD) (F : Nat → Int32) (c : Nat) (w : WD) : WD :=
  if F (48 + nxt w.1 / 65536 % gSz g) = 0 ∧ ((nxt (nxt w.1) / 65536 % 100 : Nat) : Int) < 100 - (c : Int) * eC g (zR F) w.2.1 (nxt w.1 / 65536 % gSz g) then (nxt (nxt w.1), w.2.1 ^^^ 2 ^ (nxt w.1 / 65536 % gSz g), min w.2.2.1 (eE g (zR F) (w.2.1 ^^^ 2 ^ (nxt w.1 / 65536 % gSz g))), w.2.2.2 + 1) else (nxt (nxt w.1), w.2.1, w.2.2.1, w.2.2.2)
def wd (g : GD) (F : Nat → Int32) (c x b : Nat) : Nat → WD
  | 0 => (x, b, eE g (zR F) b, 0)
  | k + 1 => wdS g F c (wd g F c x b k)
theorem wd_0 {g : GD} {F : Nat → Int32} {c x b : Nat} : wd g F c x b 0 = (x, b, eE g (zR F) b, 0) := by rw [wd]
theorem mul_bd {c : Nat} {z : Int} (hc : c ≤ 100) (h1 : -288 ≤ z) (h2 : z ≤ 288) : -28800 ≤ (c : Int) * z ∧ (c : Int) * z ≤ 28800 := by
  have a : (c : Int) * z ≤ (c : Int) * 288 := Int.mul_le_mul_of_nonneg_left h2 (by omega)
  have b : (c : Int) * (-288) ≤ (c : Int) * z := Int.mul_le_mul_of_nonneg_left h1 (by omega)
  omega
theorem wd_ok {g : GD} (hg : g ∈ gAll) {F : Nat → Int32} (ho : RO g F) {c x b : Nat} (hx : x < 2147483648) (hb : b < gSt g) (hl : lW g F b = true) : ∀ k, (wd g F c x b k).1 < 2147483648 ∧ (wd g F c x b k).2.1 < gSt g ∧ lW g F (wd g F c x b k).2.1 = true ∧ (-144 ≤ (wd g F c x b k).2.2.1 ∧ (wd g F c x b k).2.2.1 ≤ 144) ∧ (wd g F c x b k).2.2.2 ≤ k
  | 0 => ⟨hx, hb, hl, eE_b hg ho b, Nat.le_refl _⟩
  | k + 1 => by
    obtain ⟨h1, h2, h3, h4, h5⟩ := wd_ok hg ho (c := c) hx hb hl k
    have hn : 0 < gSz g := (gSt_pos h2).1
    have hi : nxt (wd g F c x b k).1 / 65536 % gSz g < gSz g := Nat.mod_lt _ hn
    rw [wd]
    unfold wdS
    split
    · next hc =>
      have he := eE_b hg ho ((wd g F c x b k).2.1 ^^^ 2 ^ (nxt (wd g F c x b k).1 / 65536 % gSz g))
      refine ⟨nxt_b _, gSt_flip h2 hi, ?_, ?_, ?_⟩
      · rw [lW_flip hi h3]; exact decide_eq_true hc.1
      · dsimp only; omega
      · dsimp only; omega
    · exact ⟨nxt_b _, h2, h3, h4, by dsimp only; omega⟩
def wkI (I : Nat → Nat → Int32) (b t : Nat) (l : Int) : Nat → Nat → Int32 := xup (xup (xup I 180 0 (nI b)) 180 1 (nI t)) 180 2 (iI l)
theorem wkI_out {I : Nat → Nat → Int32} {b t a k : Nat} {l : Int} (h : a ≠ 180) : wkI I b t l a k = I a k := by
  unfold wkI
  rw [xup_at, if_neg (by omega), xup_at, if_neg (by omega), xup_at, if_neg (by omega)]
theorem wkI_v {I : Nat → Nat → Int32} {b t : Nat} {l : Int} : wkI I b t l 180 0 = nI b ∧ wkI I b t l 180 1 = nI t ∧ wkI I b t l 180 2 = iI l := by
  unfold wkI
  simp [xup_at]
theorem wkI_s {I : Nat → Nat → Int32} {b t b' t' : Nat} {l l' : Int} : xup (xup (xup (wkI I b t l) 180 0 (nI b')) 180 1 (nI t')) 180 2 (iI l') = wkI I b' t' l' := by
  funext a k
  unfold wkI
  simp only [xup_at]
  by_cases h : a = 180
  · subst h
    by_cases h0 : k = 0
    · simp [h0]
    · by_cases h1 : k = 1
      · simp [h1]
      · by_cases h2 : k = 2
        · simp [h2]
        · simp [h0, h1, h2]
  · simp [h]
section WANDER
variable {σ : XS} {J : Nat → Nat → Int32} {g : GD} {F : Nat → Int32}
theorem stroll_step (hS : Shp σ) (hG : GRD J g) (ho : RO g F) (hSR : SR g J 16 F) {m c x b t k x1 x2 i y : Nat} {l : Int} (hk : k < m) (hm : m ≤ 200) (hc : c ≤ 100) (n1 : f_X11_nextLot (lN x) = some (lN x1)) (n2 : f_X11_lotOf (lN x1) (nI (gSz g)) = some (nI i)) (n3 : f_X11_nextLot (lN x1) = some (lN x2)) (n4 : f_X11_lotOf (lN x2) (nI 100) = some (nI y)) (hi2 : i < gSz g) (hy : y < 100) (hb : b < gSt g) (hl1 : -144 ≤ l) (hl2 : l ≤ 144) :
    f_X10_strollFrom_b40 180 11 16 (nI m) (nI c) (iI (eE g (zR F) b), lN x, nI k, xw σ (wkI J b t l)) = (if F (48 + i) = 0 ∧ (y : Int) < 100 - (c : Int) * eC g (zR F) b i then some (.inl (iI (eE g (zR F) (b ^^^ 2 ^ i)), lN x2, nI (k + 1), xw σ (wkI J (b ^^^ 2 ^ i) (t + 1) (min l (eE g (zR F) (b ^^^ 2 ^ i)))))) else some (.inl (iI (eE g (zR F) b), lN x2, nI (k + 1), xw σ (wkI J b t l)))) := by
  have hg := hG.1
  have h16 := (gAll_b g hg).2.2.1
  have hSt := (gSt_b hg).1
  obtain ⟨-, -, ⟨p, u, e3, e4, e5, e6⟩, e7, e8⟩ := id hSR
  have hp : p < 65536 := Nat.lt_pow_two_of_testBit (n := 16) p (fun j hj => by rw [e5]; simp; omega)
  have hGw : GRD (wkI J b t l) g := GRD_c (fun a k z => wkI_out (by unfold sGRD at z; omega)) hG
  have hSw : SR g (wkI J b t l) 16 F := SR_m hg (fun k _ _ => wkI_out (by omega)) (fun k _ => wkI_out (by omega)) (fun k _ => wkI_out (by omega)) (fun k _ => rfl) hSR
  have hcb := sp_b hg ho b hi2
  have hmb := mul_bd hc hcb.1 hcb.2
  have v := wkI_v (I := J) (b := b) (t := t) (l := l)
  have hcost := cost_ok (a := 16) hS hGw suA_16 hSw (s := b) (by omega) hi2
  have hpin := isPinned_ok (I := wkI J b t l) (t := i) hS suA_16 (show wkI J b t l 16 2 = nI p by rw [wkI_out (by decide)]; exact e3) hp (by omega)
  have g7 := hGw.2.2.2.2.1
  have hcmp : (nI 100 - nI c * iI (eC g (zR F) b i) ≤ nI y) = (100 - (c : Int) * eC g (zR F) b i ≤ (y : Int)) := by
    rw [iI_n, iI_n, iI_mul, iI_sub, iI_n, iI_le (by omega) (by omega) (by omega) (by omega)]
    rfl
  have hflip := eE_flip hg (zR F) (s := b) hi2
  have hfb := eE_b hg ho (b ^^^ 2 ^ i)
  have hpb : (p.testBit i = false) = (F (48 + i) = 0) := by rw [e5]; simp [hi2]
  simp only [f_X10_strollFrom_b40]
  rw [if_neg (by rw [nn_le (by omega) (by omega)]; omega), n1, Option.bind_some]
  simp (disch := first | assumption | omega) only [Option.bind_some, Option.map_some, xw_gR, xw_gN, xw_al, xw_ck, xw_uI, xw_ur, xup_at, xur_at, if_true, if_false, reduceIte, and_true, true_and, and_false, false_and, not_true_eq_false, not_false_eq_true, Nat.reduceEqDiff, eq_self, Nat.reduceAdd, Nat.reduceMul, kC1, kG1, kP1, kR1_0, kR1_1, kR1_2, kR1_3, kR1_4, kR1_5, kR1_6, kR1_7, kR1_8, kR1_9, kR1_10, kR1_11, kR1_12, kR1_13, kC2, kG2, kP2, kR2_0, kR2_1, kC3, kG3, kP3, kR3_0, kR3_1, kR3_2, kR3_3, kL4, kA4, kS4, kL5, kA5, kS5, kL6, kA6, kS6, kL7, kA7, kS7, kC8, kG8, kP8, kR8_0, kR8_1, kL9, kA9, kS9, kL10, kA10, kS10, kC11, kG11, kP11, kR11_0, kR11_1, kR11_2, kR11_3, kL12, kA12, kS12, kL13, kA13, kS13, kL14, kA14, kS14, kL15, kA15, kS15, kC16, kG16, kP16, kR16_0, kR16_1, kL17, kA17, kS17, kL18, kA18, kS18, kC19, kG19, kP19, kR19_0, kL20, kL141, kL146, kA146, kS146, kL151, kA151, kS151, kL156, kA156, kS156, kC157, kG157, kP157, kR157_0, kR157_1, kL158, kA158, kS158, kL159, kA159, kS159, kC161, kG161, kP161, kR161_0, kR161_1, kL162, kA162, kS162, kL163, kA163, kS163, kC165, kG165, kP165, kR165_0, kR165_1, kR165_2, kR165_3, kL166, kA166, kS166, kL167, kA167, kS167, kL168, kA168, kS168, kL169, kA169, kS169, kC170, kG170, kP170, kR170_0, kR170_1, kR170_2, kL171, kA171, kS171, kL172, kA172, kS172, kL173, kA173, kS173, kC174, kG174, kP174, kR174_0, kR174_1, kR174_2, kR174_3, kR174_4, kL175, kA175, kS175, kL176, kA176, kS176, kL177, kA177, kS177, kL178, kA178, kS178, kL179, kC180, kG180, kP180, kL181, kL182, kA182, kS182, kC183, kG183, kP183, kR183_1, kR183_3, kR183_5, kR183_6, kR183_7, kR183_8, kR183_9, kR183_21, kR183_26, kR183_27, kR183_30, kR183_31, kR183_33, kR183_34, kR183_36, kR183_37, kR183_38, kR183_39, kR183_40, kR183_41, kR183_42, kR183_43, kR183_44, kL184, kA184, kS184, kL185, kA185, kS185, kL186, kA186, kS186, kL187, kA187, kS187, kL188, kA188, kS188, kL189, kL190, kL191, kA191, kS191, kL192, kA192, kS192, kL193, kA193, kS193, kL194, kA194, kS194, kL195, kA195, kS195, kL196, kA196, kS196, kL197, kA197, kS197, kL198, kA198, kS198, kL199, kA199, kS199, kL200, kA200, kS200, kL201, kL202, kA202, kS202, kL203, kA203, kS203, kL204, kA204, kS204, kL205, kL206, kA206, kS206, g7, n2, n3, v.1, hcost, hpin, bI_0, hpb, show (100 : Int32) = nI 100 from rfl, n4, hcmp]
  rw [← nI_succ]
  by_cases h0 : F (48 + i) = 0
  · rw [if_pos h0]
    by_cases hy : 100 - (c : Int) * eC g (zR F) b i ≤ (y : Int)
    · rw [if_pos hy, if_neg (fun z => by omega)]
    · rw [if_neg hy, if_pos ⟨h0, by omega⟩]
      simp (disch := first | assumption | omega) only [Option.bind_some, Option.map_some, xw_gR, xw_gN, xw_al, xw_ck, xw_uI, xw_ur, xup_at, xur_at, if_true, if_false, reduceIte, and_true, true_and, and_false, false_and, not_true_eq_false, not_false_eq_true, Nat.reduceEqDiff, eq_self, Nat.reduceAdd, Nat.reduceMul, kC1, kG1, kP1, kR1_0, kR1_1, kR1_2, kR1_3, kR1_4, kR1_5, kR1_6, kR1_7, kR1_8, kR1_9, kR1_10, kR1_11, kR1_12, kR1_13, kC2, kG2, kP2, kR2_0, kR2_1, kC3, kG3, kP3, kR3_0, kR3_1, kR3_2, kR3_3, kL4, kA4, kS4, kL5, kA5, kS5, kL6, kA6, kS6, kL7, kA7, kS7, kC8, kG8, kP8, kR8_0, kR8_1, kL9, kA9, kS9, kL10, kA10, kS10, kC11, kG11, kP11, kR11_0, kR11_1, kR11_2, kR11_3, kL12, kA12, kS12, kL13, kA13, kS13, kL14, kA14, kS14, kL15, kA15, kS15, kC16, kG16, kP16, kR16_0, kR16_1, kL17, kA17, kS17, kL18, kA18, kS18, kC19, kG19, kP19, kR19_0, kL20, kL141, kL146, kA146, kS146, kL151, kA151, kS151, kL156, kA156, kS156, kC157, kG157, kP157, kR157_0, kR157_1, kL158, kA158, kS158, kL159, kA159, kS159, kC161, kG161, kP161, kR161_0, kR161_1, kL162, kA162, kS162, kL163, kA163, kS163, kC165, kG165, kP165, kR165_0, kR165_1, kR165_2, kR165_3, kL166, kA166, kS166, kL167, kA167, kS167, kL168, kA168, kS168, kL169, kA169, kS169, kC170, kG170, kP170, kR170_0, kR170_1, kR170_2, kL171, kA171, kS171, kL172, kA172, kS172, kL173, kA173, kS173, kC174, kG174, kP174, kR174_0, kR174_1, kR174_2, kR174_3, kR174_4, kL175, kA175, kS175, kL176, kA176, kS176, kL177, kA177, kS177, kL178, kA178, kS178, kL179, kC180, kG180, kP180, kL181, kL182, kA182, kS182, kC183, kG183, kP183, kR183_1, kR183_3, kR183_5, kR183_6, kR183_7, kR183_8, kR183_9, kR183_21, kR183_26, kR183_27, kR183_30, kR183_31, kR183_33, kR183_34, kR183_36, kR183_37, kR183_38, kR183_39, kR183_40, kR183_41, kR183_42, kR183_43, kR183_44, kL184, kA184, kS184, kL185, kA185, kS185, kL186, kA186, kS186, kL187, kA187, kS187, kL188, kA188, kS188, kL189, kL190, kL191, kA191, kS191, kL192, kA192, kS192, kL193, kA193, kS193, kL194, kA194, kS194, kL195, kA195, kS195, kL196, kA196, kS196, kL197, kA197, kS197, kL198, kA198, kS198, kL199, kA199, kS199, kL200, kA200, kS200, kL201, kL202, kA202, kS202, kL203, kA203, kS203, kL204, kA204, kS204, kL205, kL206, kA206, kS206, v.1, v.2.1, v.2.2, nn_one, nn_xor, ← nI_succ, iI_add]
      rw [← hflip, xmin_i (by omega) (by omega) (by omega) (by omega), wkI_s]
  · rw [if_neg h0, if_neg (fun z => h0 z.1)]
theorem stroll_ok (hS : Shp σ) (hG : GRD J g) (ho : RO g F) (hSR : SR g J 16 F) {m c x b : Nat} (hm : m ≤ 200) (hc : c ≤ 100) (hx : x < 2147483648) (h5 : F 65 = nI x) (h4 : F 64 = nI b) (hb : b < gSt g) (hl : lW g F b = true) :
    f_X10_strollFrom (xw σ J) 180 11 16 (nI m) (nI c) = some (xw σ (wkI J (wd g F c x b m).2.1 (wd g F c x b m).2.2.2 (wd g F c x b m).2.2.1)) := by
  have hg := hG.1
  have h16 := (gAll_b g hg).2.2.1
  have hSt := (gSt_b hg).1
  have hn : 0 < gSz g := (gSt_pos hb).1
  have w := wd_ok (c := c) hg ho hx hb hl
  obtain ⟨-, -, ⟨p, u, e3, e4, e5, e6⟩, e7, e8⟩ := id hSR
  have hp : p < 65536 := Nat.lt_pow_two_of_testBit (n := 16) p (fun j hj => by rw [e5]; simp; omega)
  have q0 : J 16 4 = nI b := e7.trans h4
  have q1 : J 16 5 = nI x := e8.trans h5
  have z0 : xup (xup J 180 0 (nI b)) 180 1 0 = flI J b 0 := rfl
  have en : f_X3_energyOf (xw σ (flI J b 0)) 11 16 (nI b) = some (iI (eE g (zR F) b)) := energy11_ok hS (GRD_c (fun a k z => flI_out (by unfold sGRD at z; omega)) hG) suA_16 (SR_m hg (fun k _ _ => flI_out (by omega)) (fun k _ => flI_out (by omega)) (fun k _ => flI_out (by omega)) (fun k _ => rfl) hSR) (by omega)
  have z1 : xup (flI J b 0) 180 2 (iI (eE g (zR F) b)) = wkI J b 0 (eE g (zR F) b) := rfl
  have f0 : flI J b 0 180 0 = nI b := by unfold flI; simp [xup_at]
  have hGw : ∀ b t l, GRD (wkI J b t l) g := fun b t l => GRD_c (fun a k z => wkI_out (by unfold sGRD at z; omega)) hG
  have hSw : ∀ b t l, SR g (wkI J b t l) 16 F := fun b t l => SR_m hg (fun k _ _ => wkI_out (by omega)) (fun k _ => wkI_out (by omega)) (fun k _ => wkI_out (by omega)) (fun k _ => rfl) hSR
  unfold f_X10_strollFrom
  simp (disch := first | assumption | omega) only [Option.bind_some, Option.map_some, xw_gR, xw_gN, xw_al, xw_ck, xw_uI, xw_ur, xup_at, xur_at, if_true, if_false, reduceIte, and_true, true_and, and_false, false_and, not_true_eq_false, not_false_eq_true, Nat.reduceEqDiff, eq_self, Nat.reduceAdd, Nat.reduceMul, kC1, kG1, kP1, kR1_0, kR1_1, kR1_2, kR1_3, kR1_4, kR1_5, kR1_6, kR1_7, kR1_8, kR1_9, kR1_10, kR1_11, kR1_12, kR1_13, kC2, kG2, kP2, kR2_0, kR2_1, kC3, kG3, kP3, kR3_0, kR3_1, kR3_2, kR3_3, kL4, kA4, kS4, kL5, kA5, kS5, kL6, kA6, kS6, kL7, kA7, kS7, kC8, kG8, kP8, kR8_0, kR8_1, kL9, kA9, kS9, kL10, kA10, kS10, kC11, kG11, kP11, kR11_0, kR11_1, kR11_2, kR11_3, kL12, kA12, kS12, kL13, kA13, kS13, kL14, kA14, kS14, kL15, kA15, kS15, kC16, kG16, kP16, kR16_0, kR16_1, kL17, kA17, kS17, kL18, kA18, kS18, kC19, kG19, kP19, kR19_0, kL20, kL141, kL146, kA146, kS146, kL151, kA151, kS151, kL156, kA156, kS156, kC157, kG157, kP157, kR157_0, kR157_1, kL158, kA158, kS158, kL159, kA159, kS159, kC161, kG161, kP161, kR161_0, kR161_1, kL162, kA162, kS162, kL163, kA163, kS163, kC165, kG165, kP165, kR165_0, kR165_1, kR165_2, kR165_3, kL166, kA166, kS166, kL167, kA167, kS167, kL168, kA168, kS168, kL169, kA169, kS169, kC170, kG170, kP170, kR170_0, kR170_1, kR170_2, kL171, kA171, kS171, kL172, kA172, kS172, kL173, kA173, kS173, kC174, kG174, kP174, kR174_0, kR174_1, kR174_2, kR174_3, kR174_4, kL175, kA175, kS175, kL176, kA176, kS176, kL177, kA177, kS177, kL178, kA178, kS178, kL179, kC180, kG180, kP180, kL181, kL182, kA182, kS182, kC183, kG183, kP183, kR183_1, kR183_3, kR183_5, kR183_6, kR183_7, kR183_8, kR183_9, kR183_21, kR183_26, kR183_27, kR183_30, kR183_31, kR183_33, kR183_34, kR183_36, kR183_37, kR183_38, kR183_39, kR183_40, kR183_41, kR183_42, kR183_43, kR183_44, kL184, kA184, kS184, kL185, kA185, kS185, kL186, kA186, kS186, kL187, kA187, kS187, kL188, kA188, kS188, kL189, kL190, kL191, kA191, kS191, kL192, kA192, kS192, kL193, kA193, kS193, kL194, kA194, kS194, kL195, kA195, kS195, kL196, kA196, kS196, kL197, kA197, kS197, kL198, kA198, kS198, kL199, kA199, kS199, kL200, kA200, kS200, kL201, kL202, kA202, kS202, kL203, kA203, kS203, kL204, kA204, kS204, kL205, kL206, kA206, kS206, q0, z0, f0, en, z1, wkI_out (I := J) (a := 16) (k := 5) (show 16 ≠ 180 by decide), q1, nI_i64]
  refine xforE (fun k : Nat => (iI (eE g (zR F) (wd g F c x b k).2.1), lN (wd g F c x b k).1, nI k, xw σ (wkI J (wd g F c x b k).2.1 (wd g F c x b k).2.2.2 (wd g F c x b k).2.2.1))) m (by simp only [wd_0]; rfl) (fun k hk => ?_) ?_
  · have hw := w k
    have hs := stroll_step (k := k) (m := m) (c := c) (x := (wd g F c x b k).1) (t := (wd g F c x b k).2.2.2) (l := (wd g F c x b k).2.2.1) hS hG ho hSR (by omega) (by omega) hc (nextLot_ok hw.1) (lotOf_ok (nxt_b _) hn (by omega)) (nextLot_ok (nxt_b _)) (lotOf_ok (b := 100) (nxt_b _) (by decide) (by decide)) (Nat.mod_lt _ hn) (Nat.mod_lt _ (by decide)) hw.2.1 hw.2.2.2.1.1 hw.2.2.2.1.2
    have e1 : wd g F c x b (k + 1) = wdS g F c (wd g F c x b k) := by rw [wd]
    refine hs.trans ?_
    show _ = some (Sum.inl (iI (eE g (zR F) (wd g F c x b (k + 1)).2.1), lN (wd g F c x b (k + 1)).1, nI (k + 1), xw σ (wkI J (wd g F c x b (k + 1)).2.1 (wd g F c x b (k + 1)).2.2.2 (wd g F c x b (k + 1)).2.2.1)))
    rw [e1]
    unfold wdS
    split
    · rfl
    · rfl
  · simp only [f_X10_strollFrom_b40]
    rw [if_pos (by rw [nn_le (by omega) (by omega)]; exact Nat.le_refl _)]
    rfl
theorem wander12 (hS : Shp σ) (hG : GRD J g) (ho : RO g F) (hK : KNK J g F) (hr : J 191 = F) {m c x b w : Nat} (hm : m ≤ 200) (hc : c ≤ 100) (hx : x < 2147483648) (hb : b < gSt g) (hl : lW g F b = true) (hw : w < 3) :
    xloop (f_X12_wander_b79 (xw σ J) 183 (nI m) (nI c) (nI w)) (lN x, nI b, iI (eE g (zR F) b), (0 : Int32), (0 : Int32)) = some (if w = 0 then nI (wd g F c x b m).2.1 else if w = 1 then iI (wd g F c x b m).2.2.1 else nI (wd g F c x b m).2.2.2, xw σ J) := by
  have hg := hG.1
  have h16 := (gAll_b g hg).2.2.1
  have hSt := (gSt_b hg).1
  have hn : 0 < gSz g := (gSt_pos hb).1
  have ww := wd_ok (c := c) hg ho hx hb hl
  refine xforE (fun k : Nat => (lN (wd g F c x b k).1, nI (wd g F c x b k).2.1, iI (wd g F c x b k).2.2.1, nI (wd g F c x b k).2.2.2, nI k)) m (by simp only [wd_0]; rfl) (fun k hk => ?_) ?_
  · obtain ⟨W, hW⟩ : ∃ W, W = wd g F c x b k := ⟨_, rfl⟩
    have hw := ww k
    rw [← hW] at hw
    obtain ⟨w1, w2, w3, w4, w5⟩ := hw
    show f_X12_wander_b79 (xw σ J) 183 (nI m) (nI c) (nI w) (lN (wd g F c x b k).1, nI (wd g F c x b k).2.1, iI (wd g F c x b k).2.2.1, nI (wd g F c x b k).2.2.2, nI k) = some (.inl (lN (wd g F c x b (k + 1)).1, nI (wd g F c x b (k + 1)).2.1, iI (wd g F c x b (k + 1)).2.2.1, nI (wd g F c x b (k + 1)).2.2.2, nI (k + 1)))
    rw [wd, ← hW]
    obtain ⟨i, hi⟩ : ∃ i, i = nxt W.1 / 65536 % gSz g := ⟨_, rfl⟩
    have hi2 : i < gSz g := by rw [hi]; exact Nat.mod_lt _ hn
    have hcb := sp_b hg ho W.2.1 hi2
    have hmb := mul_bd hc hcb.1 hcb.2
    have y100 : nxt (nxt W.1) / 65536 % 100 < 100 := Nat.mod_lt _ (by decide)
    have nb1 := nxt_b W.1
    have nb2 := nxt_b (nxt W.1)
    have lot1 : ((lN (nxt W.1) / (65536 : Int64)) - (lN (nxt W.1) / (65536 : Int64)) / lN (gSz g) * lN (gSz g)).toInt32 = nI i := by
      rw [show (65536 : Int64) = lN 65536 from rfl, vL_div (by omega) (by omega), vL_rem (by omega) (by omega), ← hi, vL_i32 (by omega)]
    have lot2 : ((lN (nxt (nxt W.1)) / (65536 : Int64)) - (lN (nxt (nxt W.1)) / (65536 : Int64)) / (100 : Int64) * (100 : Int64)).toInt32 = nI (nxt (nxt W.1) / 65536 % 100) := by
      rw [show (65536 : Int64) = lN 65536 from rfl, vL_div (by omega) (by omega), show (100 : Int64) = lN 100 from rfl, vL_rem (by omega) (by omega), vL_i32 (by omega)]
    have hdz : xdZ (lN (gSz g)) = some () := by
      unfold xdZ
      rw [if_neg (by rw [show (0 : Int64) = lN 0 from rfl, vL_eq (by omega) (by omega)]; omega)]
    have hcmp : (nI (nxt (nxt W.1) / 65536 % 100) < (100 : Int32) - nI c * iI (eC g (zR F) W.2.1 i)) = (((nxt (nxt W.1) / 65536 % 100 : Nat) : Int) < 100 - (c : Int) * eC g (zR F) W.2.1 i) := by
      rw [show (100 : Int32) = iI 100 from rfl, iI_n, iI_n, iI_mul, iI_sub, iI_lt (by omega) (by omega) (by omega) (by omega)]
    have hpin : J 191 (48 + i) = F (48 + i) := by rw [hr]
    have hp3 := (ho.2.1 i (by omega)).1
    have hpc : (0 < F (48 + i)) = ¬ (F (48 + i) = 0) := by
      rcases hp3 with z | z | z <;> rw [z] <;> decide
    have hcost := costOf_ok (σ := σ) (I := J) hS hG (s := W.2.1) (i := i) (by omega) hi2
    rw [hr] at hcost
    have hfl := gSt_flip w2 hi2
    have hflip := eE_flip hg (zR F) (s := W.2.1) hi2
    have hfb := eE_b hg ho (W.2.1 ^^^ 2 ^ i)
    simp only [f_X12_wander_b79]
    rw [if_neg (by rw [nn_le (by omega) (by omega)]; omega), nextOf_ok w1, Option.bind_some]
    simp (disch := first | assumption | omega) only [Option.bind_some, Option.map_some, xw_gR, xw_gN, xw_al, xw_ck, xw_uI, xw_ur, xup_at, xur_at, if_true, if_false, reduceIte, and_true, true_and, and_false, false_and, not_true_eq_false, not_false_eq_true, Nat.reduceEqDiff, eq_self, Nat.reduceAdd, Nat.reduceMul, kC1, kG1, kP1, kR1_0, kR1_1, kR1_2, kR1_3, kR1_4, kR1_5, kR1_6, kR1_7, kR1_8, kR1_9, kR1_10, kR1_11, kR1_12, kR1_13, kC2, kG2, kP2, kR2_0, kR2_1, kC3, kG3, kP3, kR3_0, kR3_1, kR3_2, kR3_3, kL4, kA4, kS4, kL5, kA5, kS5, kL6, kA6, kS6, kL7, kA7, kS7, kC8, kG8, kP8, kR8_0, kR8_1, kL9, kA9, kS9, kL10, kA10, kS10, kC11, kG11, kP11, kR11_0, kR11_1, kR11_2, kR11_3, kL12, kA12, kS12, kL13, kA13, kS13, kL14, kA14, kS14, kL15, kA15, kS15, kC16, kG16, kP16, kR16_0, kR16_1, kL17, kA17, kS17, kL18, kA18, kS18, kC19, kG19, kP19, kR19_0, kL20, kL141, kL146, kA146, kS146, kL151, kA151, kS151, kL156, kA156, kS156, kC157, kG157, kP157, kR157_0, kR157_1, kL158, kA158, kS158, kL159, kA159, kS159, kC161, kG161, kP161, kR161_0, kR161_1, kL162, kA162, kS162, kL163, kA163, kS163, kC165, kG165, kP165, kR165_0, kR165_1, kR165_2, kR165_3, kL166, kA166, kS166, kL167, kA167, kS167, kL168, kA168, kS168, kL169, kA169, kS169, kC170, kG170, kP170, kR170_0, kR170_1, kR170_2, kL171, kA171, kS171, kL172, kA172, kS172, kL173, kA173, kS173, kC174, kG174, kP174, kR174_0, kR174_1, kR174_2, kR174_3, kR174_4, kL175, kA175, kS175, kL176, kA176, kS176, kL177, kA177, kS177, kL178, kA178, kS178, kL179, kC180, kG180, kP180, kL181, kL182, kA182, kS182, kC183, kG183, kP183, kR183_1, kR183_3, kR183_5, kR183_6, kR183_7, kR183_8, kR183_9, kR183_21, kR183_26, kR183_27, kR183_30, kR183_31, kR183_33, kR183_34, kR183_36, kR183_37, kR183_38, kR183_39, kR183_40, kR183_41, kR183_42, kR183_43, kR183_44, kL184, kA184, kS184, kL185, kA185, kS185, kL186, kA186, kS186, kL187, kA187, kS187, kL188, kA188, kS188, kL189, kL190, kL191, kA191, kS191, kL192, kA192, kS192, kL193, kA193, kS193, kL194, kA194, kS194, kL195, kA195, kS195, kL196, kA196, kS196, kL197, kA197, kS197, kL198, kA198, kS198, kL199, kA199, kS199, kL200, kA200, kS200, kL201, kL202, kA202, kS202, kL203, kA203, kS203, kL204, kA204, kS204, kL205, kL206, kA206, kS206, sites_ok hS hG, nI_i64, hdz, nextOf_ok nb1, lot1, show (48 : Int32) = nI 48 from rfl, nn_add, hpin, hpc, hcost, lot2, hcmp, nn_one, nn_xor]
    rw [← nI_succ, ← nI_succ]
    unfold wdS
    rw [← hi]
    by_cases h0 : F (48 + i) = 0
    · simp only [h0, not_true_eq_false, if_false, true_and]
      by_cases hy : ((nxt (nxt W.1) / 65536 % 100 : Nat) : Int) < 100 - (c : Int) * eC g (zR F) W.2.1 i
      · rw [if_pos hy, if_pos hy]
        have hv := hK.1 _ hfl
        rw [lW_flip hi2 w3, decide_eq_true h0, if_pos rfl] at hv
        rw [hv]
        have hle : (iI W.2.2.1 ≤ iI (eE g (zR F) (W.2.1 ^^^ 2 ^ i))) = (W.2.2.1 ≤ eE g (zR F) (W.2.1 ^^^ 2 ^ i)) := iI_le (by omega) (by omega) (by omega) (by omega)
        simp only [hle]
        by_cases hq : W.2.2.1 ≤ eE g (zR F) (W.2.1 ^^^ 2 ^ i)
        · rw [if_pos hq, show min W.2.2.1 (eE g (zR F) (W.2.1 ^^^ 2 ^ i)) = W.2.2.1 by omega]
        · rw [if_neg hq, show min W.2.2.1 (eE g (zR F) (W.2.1 ^^^ 2 ^ i)) = eE g (zR F) (W.2.1 ^^^ 2 ^ i) by omega]
      · rw [if_neg hy, if_neg hy]
    · simp only [h0, not_false_eq_true, if_true, false_and, if_false]
  · simp only [f_X12_wander_b79]
    rw [if_pos (by rw [nn_le (by omega) (by omega)]; exact Nat.le_refl _)]
    rcases (show w = 0 ∨ w = 1 ∨ w = 2 by omega) with rfl | rfl | rfl
    · rfl
    · rfl
    · rfl
end WANDER
end
section
theorem in_gen {x : Int32} {N : Nat} (hN : N < 2147483648) : f_X12_in x 0 (nI N) = some (if x < 0 ∨ nI N < x then 0 else 1) := by
  unfold f_X12_in
  by_cases h1 : x < 0
  · simp [h1]
  · by_cases h2 : nI N < x <;> simp [h1, h2]
theorem op_wander : Op_wander INV := by
  intro n σ hn ⟨g, gT, gP, st, H⟩ x y z
  have hS := H.shp
  have hG := H.grd
  have hg := hG.1
  have h16 := (gAll_b g hg).2.2.1
  have hSt := (gSt_b hg).1
  have i200 : f_X12_in x 0 200 = some (if x < 0 ∨ 200 < x then 0 else 1) := in_gen (N := 200) (by decide)
  have i100 : f_X12_in y 0 100 = some (if y < 0 ∨ 100 < y then 0 else 1) := in_gen (N := 100) (by decide)
  by_cases h0 : gSz g = 0
  · refine ⟨-100000, σ, σ, ?_, ?_, g, gT, gP, st, H.nop⟩
    · show f_X11_wander (xw σ (xI σ)) 1 x y z = _
      unfold f_X11_wander
      simp (disch := first | assumption | omega) only [Option.bind_some, Option.map_some, xw_gR, xw_gN, xw_al, xw_ck, xw_uI, xw_ur, xup_at, xur_at, if_true, if_false, reduceIte, and_true, true_and, and_false, false_and, not_true_eq_false, not_false_eq_true, Nat.reduceEqDiff, eq_self, Nat.reduceAdd, Nat.reduceMul, kC1, kG1, kP1, kR1_0, kR1_1, kR1_2, kR1_3, kR1_4, kR1_5, kR1_6, kR1_7, kR1_8, kR1_9, kR1_10, kR1_11, kR1_12, kR1_13, kC2, kG2, kP2, kR2_0, kR2_1, kC3, kG3, kP3, kR3_0, kR3_1, kR3_2, kR3_3, kL4, kA4, kS4, kL5, kA5, kS5, kL6, kA6, kS6, kL7, kA7, kS7, kC8, kG8, kP8, kR8_0, kR8_1, kL9, kA9, kS9, kL10, kA10, kS10, kC11, kG11, kP11, kR11_0, kR11_1, kR11_2, kR11_3, kL12, kA12, kS12, kL13, kA13, kS13, kL14, kA14, kS14, kL15, kA15, kS15, kC16, kG16, kP16, kR16_0, kR16_1, kL17, kA17, kS17, kL18, kA18, kS18, kC19, kG19, kP19, kR19_0, kL20, kL141, kL146, kA146, kS146, kL151, kA151, kS151, kL156, kA156, kS156, kC157, kG157, kP157, kR157_0, kR157_1, kL158, kA158, kS158, kL159, kA159, kS159, kC161, kG161, kP161, kR161_0, kR161_1, kL162, kA162, kS162, kL163, kA163, kS163, kC165, kG165, kP165, kR165_0, kR165_1, kR165_2, kR165_3, kL166, kA166, kS166, kL167, kA167, kS167, kL168, kA168, kS168, kL169, kA169, kS169, kC170, kG170, kP170, kR170_0, kR170_1, kR170_2, kL171, kA171, kS171, kL172, kA172, kS172, kL173, kA173, kS173, kC174, kG174, kP174, kR174_0, kR174_1, kR174_2, kR174_3, kR174_4, kL175, kA175, kS175, kL176, kA176, kS176, kL177, kA177, kS177, kL178, kA178, kS178, kL179, kC180, kG180, kP180, kL181, kL182, kA182, kS182, kC183, kG183, kP183, kR183_1, kR183_3, kR183_5, kR183_6, kR183_7, kR183_8, kR183_9, kR183_21, kR183_26, kR183_27, kR183_30, kR183_31, kR183_33, kR183_34, kR183_36, kR183_37, kR183_38, kR183_39, kR183_40, kR183_41, kR183_42, kR183_43, kR183_44, kL184, kA184, kS184, kL185, kA185, kS185, kL186, kA186, kS186, kL187, kA187, kS187, kL188, kA188, kS188, kL189, kL190, kL191, kA191, kS191, kL192, kA192, kS192, kL193, kA193, kS193, kL194, kA194, kS194, kL195, kA195, kS195, kL196, kA196, kS196, kL197, kA197, kS197, kL198, kA198, kS198, kL199, kA199, kS199, kL200, kA200, kS200, kL201, kL202, kA202, kS202, kL203, kA203, kS203, kL204, kA204, kS204, kL205, kL206, kA206, kS206, hG.2.2.2.2.1, h0, n00]
      split
      · rfl
      · split
        · rfl
        · split
          · rfl
          · split <;> rfl
    · show f_X12_wander (xw σ (xI σ)) 183 x y z = _
      unfold f_X12_wander
      simp (disch := first | assumption | omega) only [Option.bind_some, Option.map_some, xw_gR, xw_gN, xw_al, xw_ck, xw_uI, xw_ur, xup_at, xur_at, if_true, if_false, reduceIte, and_true, true_and, and_false, false_and, not_true_eq_false, not_false_eq_true, Nat.reduceEqDiff, eq_self, Nat.reduceAdd, Nat.reduceMul, kC1, kG1, kP1, kR1_0, kR1_1, kR1_2, kR1_3, kR1_4, kR1_5, kR1_6, kR1_7, kR1_8, kR1_9, kR1_10, kR1_11, kR1_12, kR1_13, kC2, kG2, kP2, kR2_0, kR2_1, kC3, kG3, kP3, kR3_0, kR3_1, kR3_2, kR3_3, kL4, kA4, kS4, kL5, kA5, kS5, kL6, kA6, kS6, kL7, kA7, kS7, kC8, kG8, kP8, kR8_0, kR8_1, kL9, kA9, kS9, kL10, kA10, kS10, kC11, kG11, kP11, kR11_0, kR11_1, kR11_2, kR11_3, kL12, kA12, kS12, kL13, kA13, kS13, kL14, kA14, kS14, kL15, kA15, kS15, kC16, kG16, kP16, kR16_0, kR16_1, kL17, kA17, kS17, kL18, kA18, kS18, kC19, kG19, kP19, kR19_0, kL20, kL141, kL146, kA146, kS146, kL151, kA151, kS151, kL156, kA156, kS156, kC157, kG157, kP157, kR157_0, kR157_1, kL158, kA158, kS158, kL159, kA159, kS159, kC161, kG161, kP161, kR161_0, kR161_1, kL162, kA162, kS162, kL163, kA163, kS163, kC165, kG165, kP165, kR165_0, kR165_1, kR165_2, kR165_3, kL166, kA166, kS166, kL167, kA167, kS167, kL168, kA168, kS168, kL169, kA169, kS169, kC170, kG170, kP170, kR170_0, kR170_1, kR170_2, kL171, kA171, kS171, kL172, kA172, kS172, kL173, kA173, kS173, kC174, kG174, kP174, kR174_0, kR174_1, kR174_2, kR174_3, kR174_4, kL175, kA175, kS175, kL176, kA176, kS176, kL177, kA177, kS177, kL178, kA178, kS178, kL179, kC180, kG180, kP180, kL181, kL182, kA182, kS182, kC183, kG183, kP183, kR183_1, kR183_3, kR183_5, kR183_6, kR183_7, kR183_8, kR183_9, kR183_21, kR183_26, kR183_27, kR183_30, kR183_31, kR183_33, kR183_34, kR183_36, kR183_37, kR183_38, kR183_39, kR183_40, kR183_41, kR183_42, kR183_43, kR183_44, kL184, kA184, kS184, kL185, kA185, kS185, kL186, kA186, kS186, kL187, kA187, kS187, kL188, kA188, kS188, kL189, kL190, kL191, kA191, kS191, kL192, kA192, kS192, kL193, kA193, kS193, kL194, kA194, kS194, kL195, kA195, kS195, kL196, kA196, kS196, kL197, kA197, kS197, kL198, kA198, kS198, kL199, kA199, kS199, kL200, kA200, kS200, kL201, kL202, kA202, kS202, kL203, kA203, kS203, kL204, kA204, kS204, kL205, kL206, kA206, kS206, sites_ok hS hG, h0, n00]
      rfl
  have hn0 : (nI (gSz g) = 0) = False := eq_false (nI_ne0 (by omega) (by omega))
  by_cases hx1 : x < 0 ∨ 200 < x
  · refine ⟨-100000, σ, σ, ?_, ?_, g, gT, gP, st, H.nop⟩
    · unfold f_X11_wander
      rcases hx1 with q | q
      · rw [if_pos q]
      · by_cases q2 : x < 0
        · rw [if_pos q2]
        · rw [if_neg q2, if_pos q]
    · show f_X12_wander (xw σ (xI σ)) 183 x y z = _
      unfold f_X12_wander
      simp (disch := first | assumption | omega) only [Option.bind_some, Option.map_some, xw_gR, xw_gN, xw_al, xw_ck, xw_uI, xw_ur, xup_at, xur_at, if_true, if_false, reduceIte, and_true, true_and, and_false, false_and, not_true_eq_false, not_false_eq_true, Nat.reduceEqDiff, eq_self, Nat.reduceAdd, Nat.reduceMul, kC1, kG1, kP1, kR1_0, kR1_1, kR1_2, kR1_3, kR1_4, kR1_5, kR1_6, kR1_7, kR1_8, kR1_9, kR1_10, kR1_11, kR1_12, kR1_13, kC2, kG2, kP2, kR2_0, kR2_1, kC3, kG3, kP3, kR3_0, kR3_1, kR3_2, kR3_3, kL4, kA4, kS4, kL5, kA5, kS5, kL6, kA6, kS6, kL7, kA7, kS7, kC8, kG8, kP8, kR8_0, kR8_1, kL9, kA9, kS9, kL10, kA10, kS10, kC11, kG11, kP11, kR11_0, kR11_1, kR11_2, kR11_3, kL12, kA12, kS12, kL13, kA13, kS13, kL14, kA14, kS14, kL15, kA15, kS15, kC16, kG16, kP16, kR16_0, kR16_1, kL17, kA17, kS17, kL18, kA18, kS18, kC19, kG19, kP19, kR19_0, kL20, kL141, kL146, kA146, kS146, kL151, kA151, kS151, kL156, kA156, kS156, kC157, kG157, kP157, kR157_0, kR157_1, kL158, kA158, kS158, kL159, kA159, kS159, kC161, kG161, kP161, kR161_0, kR161_1, kL162, kA162, kS162, kL163, kA163, kS163, kC165, kG165, kP165, kR165_0, kR165_1, kR165_2, kR165_3, kL166, kA166, kS166, kL167, kA167, kS167, kL168, kA168, kS168, kL169, kA169, kS169, kC170, kG170, kP170, kR170_0, kR170_1, kR170_2, kL171, kA171, kS171, kL172, kA172, kS172, kL173, kA173, kS173, kC174, kG174, kP174, kR174_0, kR174_1, kR174_2, kR174_3, kR174_4, kL175, kA175, kS175, kL176, kA176, kS176, kL177, kA177, kS177, kL178, kA178, kS178, kL179, kC180, kG180, kP180, kL181, kL182, kA182, kS182, kC183, kG183, kP183, kR183_1, kR183_3, kR183_5, kR183_6, kR183_7, kR183_8, kR183_9, kR183_21, kR183_26, kR183_27, kR183_30, kR183_31, kR183_33, kR183_34, kR183_36, kR183_37, kR183_38, kR183_39, kR183_40, kR183_41, kR183_42, kR183_43, kR183_44, kL184, kA184, kS184, kL185, kA185, kS185, kL186, kA186, kS186, kL187, kA187, kS187, kL188, kA188, kS188, kL189, kL190, kL191, kA191, kS191, kL192, kA192, kS192, kL193, kA193, kS193, kL194, kA194, kS194, kL195, kA195, kS195, kL196, kA196, kS196, kL197, kA197, kS197, kL198, kA198, kS198, kL199, kA199, kS199, kL200, kA200, kS200, kL201, kL202, kA202, kS202, kL203, kA203, kS203, kL204, kA204, kS204, kL205, kL206, kA206, kS206, sites_ok hS hG, hn0, i200, hx1]
      rfl
  by_cases hy1 : y < 0 ∨ 100 < y
  · refine ⟨-100000, σ, σ, ?_, ?_, g, gT, gP, st, H.nop⟩
    · unfold f_X11_wander
      rw [if_neg (fun q => hx1 (.inl q)), if_neg (fun q => hx1 (.inr q))]
      rcases hy1 with q | q
      · rw [if_pos q]
      · by_cases q2 : y < 0
        · rw [if_pos q2]
        · rw [if_neg q2, if_pos q]
    · show f_X12_wander (xw σ (xI σ)) 183 x y z = _
      unfold f_X12_wander
      simp (disch := first | assumption | omega) only [Option.bind_some, Option.map_some, xw_gR, xw_gN, xw_al, xw_ck, xw_uI, xw_ur, xup_at, xur_at, if_true, if_false, reduceIte, and_true, true_and, and_false, false_and, not_true_eq_false, not_false_eq_true, Nat.reduceEqDiff, eq_self, Nat.reduceAdd, Nat.reduceMul, kC1, kG1, kP1, kR1_0, kR1_1, kR1_2, kR1_3, kR1_4, kR1_5, kR1_6, kR1_7, kR1_8, kR1_9, kR1_10, kR1_11, kR1_12, kR1_13, kC2, kG2, kP2, kR2_0, kR2_1, kC3, kG3, kP3, kR3_0, kR3_1, kR3_2, kR3_3, kL4, kA4, kS4, kL5, kA5, kS5, kL6, kA6, kS6, kL7, kA7, kS7, kC8, kG8, kP8, kR8_0, kR8_1, kL9, kA9, kS9, kL10, kA10, kS10, kC11, kG11, kP11, kR11_0, kR11_1, kR11_2, kR11_3, kL12, kA12, kS12, kL13, kA13, kS13, kL14, kA14, kS14, kL15, kA15, kS15, kC16, kG16, kP16, kR16_0, kR16_1, kL17, kA17, kS17, kL18, kA18, kS18, kC19, kG19, kP19, kR19_0, kL20, kL141, kL146, kA146, kS146, kL151, kA151, kS151, kL156, kA156, kS156, kC157, kG157, kP157, kR157_0, kR157_1, kL158, kA158, kS158, kL159, kA159, kS159, kC161, kG161, kP161, kR161_0, kR161_1, kL162, kA162, kS162, kL163, kA163, kS163, kC165, kG165, kP165, kR165_0, kR165_1, kR165_2, kR165_3, kL166, kA166, kS166, kL167, kA167, kS167, kL168, kA168, kS168, kL169, kA169, kS169, kC170, kG170, kP170, kR170_0, kR170_1, kR170_2, kL171, kA171, kS171, kL172, kA172, kS172, kL173, kA173, kS173, kC174, kG174, kP174, kR174_0, kR174_1, kR174_2, kR174_3, kR174_4, kL175, kA175, kS175, kL176, kA176, kS176, kL177, kA177, kS177, kL178, kA178, kS178, kL179, kC180, kG180, kP180, kL181, kL182, kA182, kS182, kC183, kG183, kP183, kR183_1, kR183_3, kR183_5, kR183_6, kR183_7, kR183_8, kR183_9, kR183_21, kR183_26, kR183_27, kR183_30, kR183_31, kR183_33, kR183_34, kR183_36, kR183_37, kR183_38, kR183_39, kR183_40, kR183_41, kR183_42, kR183_43, kR183_44, kL184, kA184, kS184, kL185, kA185, kS185, kL186, kA186, kS186, kL187, kA187, kS187, kL188, kA188, kS188, kL189, kL190, kL191, kA191, kS191, kL192, kA192, kS192, kL193, kA193, kS193, kL194, kA194, kS194, kL195, kA195, kS195, kL196, kA196, kS196, kL197, kA197, kS197, kL198, kA198, kS198, kL199, kA199, kS199, kL200, kA200, kS200, kL201, kL202, kA202, kS202, kL203, kA203, kS203, kL204, kA204, kS204, kL205, kL206, kA206, kS206, sites_ok hS hG, hn0, i200, hx1, one0, i100, hy1]
      rfl
  obtain ⟨m, hm, rfl⟩ := nn_of (fun q => hx1 (.inl q))
  obtain ⟨c, hc, rfl⟩ := nn_of (fun q => hy1 (.inl q))
  have hm2 : m ≤ 200 := by
    rcases Nat.lt_or_ge 200 m with q | q
    · exact absurd (.inr (by rw [show (200 : Int32) = nI 200 from rfl, nn_lt (by omega) hm]; exact q)) hx1
    · exact q
  have hc2 : c ≤ 100 := by
    rcases Nat.lt_or_ge 100 c with q | q
    · exact absurd (.inr (by rw [show (100 : Int32) = nI 100 from rfl, nn_lt (by omega) hc]; exact q)) hy1
    · exact q
  obtain ⟨F, hF⟩ : ∃ F, F = xI σ 191 := ⟨_, rfl⟩
  have hSR := H.now.1
  have ho := H.now.2.1
  rw [← hF] at hSR ho
  obtain ⟨b, o3, o4, o5⟩ := ho.2.2.1
  obtain ⟨sd, o6, o7⟩ := ho.2.2.2
  have hbN : b < gSt g := by unfold gSt; rw [if_neg h0]; exact o3
  have hbl : lW g F b = true := lW_iff.mpr o5
  have hst := stroll_ok (σ := σ) (J := xI σ) (m := m) (c := c) (x := sd) hS hG ho hSR hm2 hc2 (by omega) o7 o4 hbN hbl
  obtain ⟨W, hW⟩ : ∃ W, W = wd g F c sd b m := ⟨_, rfl⟩
  rw [← hW] at hst
  have HW : IV n (xw σ (wkI (xI σ) W.2.1 W.2.2.2 W.2.2.1)) g gT gP st := H.walk (fun a k h => wkI_out (by omega))
  have v := wkI_v (I := xI σ) (b := W.2.1) (t := W.2.2.2) (l := W.2.2.1)
  have A : f_X11_wander σ 1 (nI m) (nI c) z = xsw z 0 [some (nI W.2.1, xw σ (wkI (xI σ) W.2.1 W.2.2.2 W.2.2.1)), some (iI W.2.2.1, xw σ (wkI (xI σ) W.2.1 W.2.2.2 W.2.2.1)), some (nI W.2.2.2, xw σ (wkI (xI σ) W.2.1 W.2.2.2 W.2.2.1))] (some (-100000, xw σ (wkI (xI σ) W.2.1 W.2.2.2 W.2.2.1))) := by
    show f_X11_wander (xw σ (xI σ)) 1 (nI m) (nI c) z = _
    unfold f_X11_wander
    rw [if_neg (fun q => hx1 (.inl q)), if_neg (fun q => hx1 (.inr q)), if_neg (fun q => hy1 (.inl q)), if_neg (fun q => hy1 (.inr q))]
    simp (disch := first | assumption | omega) only [Option.bind_some, Option.map_some, xw_gR, xw_gN, xw_al, xw_ck, xw_uI, xw_ur, xup_at, xur_at, if_true, if_false, reduceIte, and_true, true_and, and_false, false_and, not_true_eq_false, not_false_eq_true, Nat.reduceEqDiff, eq_self, Nat.reduceAdd, Nat.reduceMul, kC1, kG1, kP1, kR1_0, kR1_1, kR1_2, kR1_3, kR1_4, kR1_5, kR1_6, kR1_7, kR1_8, kR1_9, kR1_10, kR1_11, kR1_12, kR1_13, kC2, kG2, kP2, kR2_0, kR2_1, kC3, kG3, kP3, kR3_0, kR3_1, kR3_2, kR3_3, kL4, kA4, kS4, kL5, kA5, kS5, kL6, kA6, kS6, kL7, kA7, kS7, kC8, kG8, kP8, kR8_0, kR8_1, kL9, kA9, kS9, kL10, kA10, kS10, kC11, kG11, kP11, kR11_0, kR11_1, kR11_2, kR11_3, kL12, kA12, kS12, kL13, kA13, kS13, kL14, kA14, kS14, kL15, kA15, kS15, kC16, kG16, kP16, kR16_0, kR16_1, kL17, kA17, kS17, kL18, kA18, kS18, kC19, kG19, kP19, kR19_0, kL20, kL141, kL146, kA146, kS146, kL151, kA151, kS151, kL156, kA156, kS156, kC157, kG157, kP157, kR157_0, kR157_1, kL158, kA158, kS158, kL159, kA159, kS159, kC161, kG161, kP161, kR161_0, kR161_1, kL162, kA162, kS162, kL163, kA163, kS163, kC165, kG165, kP165, kR165_0, kR165_1, kR165_2, kR165_3, kL166, kA166, kS166, kL167, kA167, kS167, kL168, kA168, kS168, kL169, kA169, kS169, kC170, kG170, kP170, kR170_0, kR170_1, kR170_2, kL171, kA171, kS171, kL172, kA172, kS172, kL173, kA173, kS173, kC174, kG174, kP174, kR174_0, kR174_1, kR174_2, kR174_3, kR174_4, kL175, kA175, kS175, kL176, kA176, kS176, kL177, kA177, kS177, kL178, kA178, kS178, kL179, kC180, kG180, kP180, kL181, kL182, kA182, kS182, kC183, kG183, kP183, kR183_1, kR183_3, kR183_5, kR183_6, kR183_7, kR183_8, kR183_9, kR183_21, kR183_26, kR183_27, kR183_30, kR183_31, kR183_33, kR183_34, kR183_36, kR183_37, kR183_38, kR183_39, kR183_40, kR183_41, kR183_42, kR183_43, kR183_44, kL184, kA184, kS184, kL185, kA185, kS185, kL186, kA186, kS186, kL187, kA187, kS187, kL188, kA188, kS188, kL189, kL190, kL191, kA191, kS191, kL192, kA192, kS192, kL193, kA193, kS193, kL194, kA194, kS194, kL195, kA195, kS195, kL196, kA196, kS196, kL197, kA197, kS197, kL198, kA198, kS198, kL199, kA199, kS199, kL200, kA200, kS200, kL201, kL202, kA202, kS202, kL203, kA203, kS203, kL204, kA204, kS204, kL205, kL206, kA206, kS206, hG.2.2.2.2.1, hn0, hst, v.1, v.2.1, v.2.2]
  have hGW : GRD (wkI (xI σ) W.2.1 W.2.2.2 W.2.2.1) g := HW.grd
  rcases sw_c z 3 with ⟨w, hw, hw2, rfl⟩ | hd
  · obtain ⟨J, e2, H2, K2, u2⟩ := knows_ok HW
    have rW : ∀ k, wkI (xI σ) W.2.1 W.2.2.2 W.2.2.1 191 k = F k := fun k => by rw [wkI_out (by decide)]; exact (congrFun hF k).symm
    have rJ : J 191 = F := by funext k; exact (u2 191 k (by omega) (by omega)).trans (rW k)
    rw [rJ] at K2
    have hG2 : GRD J g := H2.grd
    have inW : f_X12_in (nI w) 0 2 = some 1 := by
      rw [in_02, if_neg]
      rintro (q | q)
      · exact nI_pos (by omega) q
      · rw [show (2 : Int32) = nI 2 from rfl, nn_lt (by omega) (by omega)] at q; omega
    have B : f_X12_wander (xw σ (wkI (xI σ) W.2.1 W.2.2.2 W.2.2.1)) 183 (nI m) (nI c) (nI w) = some (if w = 0 then nI W.2.1 else if w = 1 then iI W.2.2.1 else nI W.2.2.2, xw σ J) := by
      unfold f_X12_wander
      have e2' : f_X12_knows (xw σ (wkI (xI σ) W.2.1 W.2.2.2 W.2.2.1)) 183 = some (xw σ J) := e2
      have e65 : J 191 65 = nI sd := by rw [rJ]; exact o7
      have e64 : J 191 64 = nI b := by rw [rJ]; exact o4
      have eb := K2.1 b hbN
      rw [hbl, if_pos rfl] at eb
      simp (disch := first | assumption | omega) only [Option.bind_some, Option.map_some, xw_gR, xw_gN, xw_al, xw_ck, xw_uI, xw_ur, xup_at, xur_at, if_true, if_false, reduceIte, and_true, true_and, and_false, false_and, not_true_eq_false, not_false_eq_true, Nat.reduceEqDiff, eq_self, Nat.reduceAdd, Nat.reduceMul, kC1, kG1, kP1, kR1_0, kR1_1, kR1_2, kR1_3, kR1_4, kR1_5, kR1_6, kR1_7, kR1_8, kR1_9, kR1_10, kR1_11, kR1_12, kR1_13, kC2, kG2, kP2, kR2_0, kR2_1, kC3, kG3, kP3, kR3_0, kR3_1, kR3_2, kR3_3, kL4, kA4, kS4, kL5, kA5, kS5, kL6, kA6, kS6, kL7, kA7, kS7, kC8, kG8, kP8, kR8_0, kR8_1, kL9, kA9, kS9, kL10, kA10, kS10, kC11, kG11, kP11, kR11_0, kR11_1, kR11_2, kR11_3, kL12, kA12, kS12, kL13, kA13, kS13, kL14, kA14, kS14, kL15, kA15, kS15, kC16, kG16, kP16, kR16_0, kR16_1, kL17, kA17, kS17, kL18, kA18, kS18, kC19, kG19, kP19, kR19_0, kL20, kL141, kL146, kA146, kS146, kL151, kA151, kS151, kL156, kA156, kS156, kC157, kG157, kP157, kR157_0, kR157_1, kL158, kA158, kS158, kL159, kA159, kS159, kC161, kG161, kP161, kR161_0, kR161_1, kL162, kA162, kS162, kL163, kA163, kS163, kC165, kG165, kP165, kR165_0, kR165_1, kR165_2, kR165_3, kL166, kA166, kS166, kL167, kA167, kS167, kL168, kA168, kS168, kL169, kA169, kS169, kC170, kG170, kP170, kR170_0, kR170_1, kR170_2, kL171, kA171, kS171, kL172, kA172, kS172, kL173, kA173, kS173, kC174, kG174, kP174, kR174_0, kR174_1, kR174_2, kR174_3, kR174_4, kL175, kA175, kS175, kL176, kA176, kS176, kL177, kA177, kS177, kL178, kA178, kS178, kL179, kC180, kG180, kP180, kL181, kL182, kA182, kS182, kC183, kG183, kP183, kR183_1, kR183_3, kR183_5, kR183_6, kR183_7, kR183_8, kR183_9, kR183_21, kR183_26, kR183_27, kR183_30, kR183_31, kR183_33, kR183_34, kR183_36, kR183_37, kR183_38, kR183_39, kR183_40, kR183_41, kR183_42, kR183_43, kR183_44, kL184, kA184, kS184, kL185, kA185, kS185, kL186, kA186, kS186, kL187, kA187, kS187, kL188, kA188, kS188, kL189, kL190, kL191, kA191, kS191, kL192, kA192, kS192, kL193, kA193, kS193, kL194, kA194, kS194, kL195, kA195, kS195, kL196, kA196, kS196, kL197, kA197, kS197, kL198, kA198, kS198, kL199, kA199, kS199, kL200, kA200, kS200, kL201, kL202, kA202, kS202, kL203, kA203, kS203, kL204, kA204, kS204, kL205, kL206, kA206, kS206, sites_ok hS hGW, hn0, i200, hx1, one0, i100, hy1, inW, e2', show (65 : Int32) = nI 65 from rfl, show (64 : Int32) = nI 64 from rfl, e65, e64, eb, nI_i64]
      rw [wander12 hS hG2 ho K2 rJ hm2 hc2 (by omega) hbN hbl hw, ← hW]
    rw [xsw_n hw2] at A
    rcases (show w = 0 ∨ w = 1 ∨ w = 2 by omega) with rfl | rfl | rfl <;> exact ⟨_, _, _, A, B, INV_i H2.nop⟩
  · refine ⟨_, _, xw σ (wkI (xI σ) W.2.1 W.2.2.2 W.2.2.1), A.trans (hd _ _ _ (Nat.le_refl 3)), ?_, INV_i HW.nop⟩
    have inW : f_X12_in z 0 2 = some 0 := by
      rw [in_02]
      by_cases q : z < 0 ∨ 2 < z
      · rw [if_pos q]
      · exfalso
        rcases v012 (fun w => q (.inl w)) (fun w => q (.inr w)) with w | w | w
        · have := hd Nat [some 1, some 2, some 3] none (Nat.le_refl 3)
          rw [w] at this; exact absurd this (by decide)
        · have := hd Nat [some 1, some 2, some 3] none (Nat.le_refl 3)
          rw [w] at this; exact absurd this (by decide)
        · have := hd Nat [some 1, some 2, some 3] none (Nat.le_refl 3)
          rw [w] at this; exact absurd this (by decide)
    unfold f_X12_wander
    simp (disch := first | assumption | omega) only [Option.bind_some, Option.map_some, xw_gR, xw_gN, xw_al, xw_ck, xw_uI, xw_ur, xup_at, xur_at, if_true, if_false, reduceIte, and_true, true_and, and_false, false_and, not_true_eq_false, not_false_eq_true, Nat.reduceEqDiff, eq_self, Nat.reduceAdd, Nat.reduceMul, kC1, kG1, kP1, kR1_0, kR1_1, kR1_2, kR1_3, kR1_4, kR1_5, kR1_6, kR1_7, kR1_8, kR1_9, kR1_10, kR1_11, kR1_12, kR1_13, kC2, kG2, kP2, kR2_0, kR2_1, kC3, kG3, kP3, kR3_0, kR3_1, kR3_2, kR3_3, kL4, kA4, kS4, kL5, kA5, kS5, kL6, kA6, kS6, kL7, kA7, kS7, kC8, kG8, kP8, kR8_0, kR8_1, kL9, kA9, kS9, kL10, kA10, kS10, kC11, kG11, kP11, kR11_0, kR11_1, kR11_2, kR11_3, kL12, kA12, kS12, kL13, kA13, kS13, kL14, kA14, kS14, kL15, kA15, kS15, kC16, kG16, kP16, kR16_0, kR16_1, kL17, kA17, kS17, kL18, kA18, kS18, kC19, kG19, kP19, kR19_0, kL20, kL141, kL146, kA146, kS146, kL151, kA151, kS151, kL156, kA156, kS156, kC157, kG157, kP157, kR157_0, kR157_1, kL158, kA158, kS158, kL159, kA159, kS159, kC161, kG161, kP161, kR161_0, kR161_1, kL162, kA162, kS162, kL163, kA163, kS163, kC165, kG165, kP165, kR165_0, kR165_1, kR165_2, kR165_3, kL166, kA166, kS166, kL167, kA167, kS167, kL168, kA168, kS168, kL169, kA169, kS169, kC170, kG170, kP170, kR170_0, kR170_1, kR170_2, kL171, kA171, kS171, kL172, kA172, kS172, kL173, kA173, kS173, kC174, kG174, kP174, kR174_0, kR174_1, kR174_2, kR174_3, kR174_4, kL175, kA175, kS175, kL176, kA176, kS176, kL177, kA177, kS177, kL178, kA178, kS178, kL179, kC180, kG180, kP180, kL181, kL182, kA182, kS182, kC183, kG183, kP183, kR183_1, kR183_3, kR183_5, kR183_6, kR183_7, kR183_8, kR183_9, kR183_21, kR183_26, kR183_27, kR183_30, kR183_31, kR183_33, kR183_34, kR183_36, kR183_37, kR183_38, kR183_39, kR183_40, kR183_41, kR183_42, kR183_43, kR183_44, kL184, kA184, kS184, kL185, kA185, kS185, kL186, kA186, kS186, kL187, kA187, kS187, kL188, kA188, kS188, kL189, kL190, kL191, kA191, kS191, kL192, kA192, kS192, kL193, kA193, kS193, kL194, kA194, kS194, kL195, kA195, kS195, kL196, kA196, kS196, kL197, kA197, kS197, kL198, kA198, kS198, kL199, kA199, kS199, kL200, kA200, kS200, kL201, kL202, kA202, kS202, kL203, kA203, kS203, kL204, kA204, kS204, kL205, kL206, kA206, kS206, sites_ok hS hGW, hn0, i200, hx1, one0, i100, hy1, inW]
end
