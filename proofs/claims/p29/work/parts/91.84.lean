section
/-! the energies that are kept -/
theorem eE_congr {g : GD} (hg : g ∈ gAll) {F F' : Nat → Int32} (h : ∀ k, k < 48 → F' k = F k) : eE g (zR F') = eE g (zR F) := by
  have h16 := (gAll_b g hg).2.2.1
  funext s
  unfold eE
  congr 1
  · apply fb_si_cong
    intro t ht
    unfold eT zR
    split
    · rfl
    · rw [h t (by omega)]
  · apply fb_si_cong
    intro t ht
    unfold eH zR
    rw [h (32 + t) (by omega)]
theorem IV.cache {n : Nat} {σ τ : XS} {g : GD} {gT gP : GH} {st : Nat} (H : IV n σ g gT gP st) (hS : Shp τ) (u : ∀ a k, (a < 157 ∨ a = 173 ∨ (183 ≤ a ∧ a ≤ 206)) → xI τ a k = xI σ a k) (hC : CCH (xI τ) (xR τ) (xlen τ) gT gP st) (hL : CEL τ.1 (xR τ) (xn τ) (xz τ) (xL τ)) : IV n τ g gT gP st := by
  have hg := H.grd.1
  refine ⟨hS, H.stn, (u 1 15 (by omega)).trans H.sts, TAP_c (fun a k q => u a k (by unfold sTAP at q; omega)) H.tap, ?_, GRD_c (fun a k q => u a k (by unfold sGRD at q; omega)) H.grd, NOW_c hg (fun a k q => u a k (by unfold sNOW at q; omega)) H.now, PST_c hg (fun a k q => u a k (by unfold sPST at q; omega)) (Nat.le_refl _) (fun _ _ => rfl) (fun _ _ => rfl) H.pst, SLT_c hg (fun a k q => u a k (by unfold sSLT at q; omega)) (Nat.le_refl _) (fun _ _ => rfl) (fun _ _ => rfl) H.slt, hC, KNW_c hg (fun a k q => u a k (by unfold sKNW at q; omega)) H.knw, hL⟩
  rw [u _ _ (by omega), u _ _ (by omega)]; exact H.plc
theorem IV.en157 {n : Nat} {σ : XS} {g : GD} {gT gP : GH} {st : Nat} (H : IV n σ g gT gP st) : ∃ c a, EnO σ 157 c (2 ^ a) ∧ a ≤ 16 ∧ c ≤ xn σ := by
  obtain ⟨a, b, h1, h2, h3, h4, h5, h6, h7, h8, h9, h10, h11⟩ := H.cel
  have hp : 2 ^ a ≤ 2 ^ 16 := Nat.pow_le_pow_right (by decide) h1
  exact ⟨xR σ 157 4, a, ⟨.inl rfl, rfl, h3, by omega, h5⟩, h1, h8⟩
theorem IV.en161 {n : Nat} {σ : XS} {g : GD} {gT gP : GH} {st : Nat} (H : IV n σ g gT gP st) : ∃ c a, EnO σ 161 c (2 ^ a) ∧ a ≤ 16 ∧ c ≤ xn σ := by
  obtain ⟨a, b, h1, h2, h3, h4, h5, h6, h7, h8, h9, h10, h11⟩ := H.cel
  have hp : 2 ^ b ≤ 2 ^ 16 := Nat.pow_le_pow_right (by decide) h2
  exact ⟨xR σ 161 4, b, ⟨.inr rfl, rfl, h4, by omega, h6⟩, h2, h9⟩
theorem SR_fill {g : GD} {I : Nat → Nat → Int32} {a : Nat} {F : Nat → Int32} (hg : g ∈ gAll) (h : SR g I a F) (ho : RO g F) : (∀ t, t < 32 → (gTo g t).isSome = true → I (a + 1) t = iI (zR F t) ∧ -3 ≤ zR F t ∧ zR F t ≤ 3) ∧ ∀ i, i < gSz g → I (a + 2) i = iI (zR F (32 + i)) := by
  have h16 := (gAll_b g hg).2.2.1
  refine ⟨fun t ht he => ⟨?_, (ho.1 t (by omega)).1, (ho.1 t (by omega)).2⟩, fun i hi => ?_⟩
  · rw [h.1 t ht, if_pos he]; exact iI_of _
  · rw [h.2.1 i (by omega), if_pos hi]; exact iI_of _
theorem energiesNow_ok {n : Nat} {σ : XS} {g : GD} {gT gP : GH} {st : Nat} (hn : n ≤ 512) (H : IV n σ g gT gP st) : ∃ τ, f_X11_energiesNow σ 1 = some (157, τ) ∧ IV n τ g gT gP st ∧ ENK (xI τ) (xR τ) (xlen τ) 157 g (xI τ 191) ∧ (∀ b j, (b < 157 ∨ (161 ≤ b ∧ b ≤ 206)) → xI τ b j = xI σ b j) ∧ (∀ b j, b ≤ xn σ → xL τ b j = xL σ b j) := by
  have hS := H.shp
  have hG := H.grd
  have hg := hG.1
  have h16 := (gAll_b g hg).2.2.1
  obtain ⟨hSR, hRO, t, p, ht, hp, e6, e7, gt1, gt2, gp1, gp2⟩ := H.now
  have hst := H.stn
  have stp : f_X11_energiesNow σ 1 = if xI σ 157 5 = nI t then some (157, σ) else (f_X2_fill (xw σ (xI σ)) 157 11 17 18 (nI (gSz g))).bind fun σ27 => f_X11_energiesNow_j49 σ27 1 := by
    show f_X11_energiesNow (xw σ (xI σ)) 1 = _
    unfold f_X11_energiesNow
    simp (disch := first | assumption | omega) only [Option.bind_some, Option.map_some, xw_gR, xw_gN, xw_al, xw_ck, xw_uI, xw_ur, xup_at, xur_at, if_true, if_false, reduceIte, and_true, true_and, and_false, false_and, not_true_eq_false, not_false_eq_true, Nat.reduceEqDiff, eq_self, Nat.reduceAdd, Nat.reduceMul, kC1, kG1, kP1, kR1_0, kR1_1, kR1_2, kR1_3, kR1_4, kR1_5, kR1_6, kR1_7, kR1_8, kR1_9, kR1_10, kR1_11, kR1_12, kR1_13, kC2, kG2, kP2, kR2_0, kR2_1, kC3, kG3, kP3, kR3_0, kR3_1, kR3_2, kR3_3, kL4, kA4, kS4, kL5, kA5, kS5, kL6, kA6, kS6, kL7, kA7, kS7, kC8, kG8, kP8, kR8_0, kR8_1, kL9, kA9, kS9, kL10, kA10, kS10, kC11, kG11, kP11, kR11_0, kR11_1, kR11_2, kR11_3, kL12, kA12, kS12, kL13, kA13, kS13, kL14, kA14, kS14, kL15, kA15, kS15, kC16, kG16, kP16, kR16_0, kR16_1, kL17, kA17, kS17, kL18, kA18, kS18, kC19, kG19, kP19, kR19_0, kL20, kL141, kL146, kA146, kS146, kL151, kA151, kS151, kL156, kA156, kS156, kC157, kG157, kP157, kR157_0, kR157_1, kL158, kA158, kS158, kL159, kA159, kS159, kC161, kG161, kP161, kR161_0, kR161_1, kL162, kA162, kS162, kL163, kA163, kS163, kC165, kG165, kP165, kR165_0, kR165_1, kR165_2, kR165_3, kL166, kA166, kS166, kL167, kA167, kS167, kL168, kA168, kS168, kL169, kA169, kS169, kC170, kG170, kP170, kR170_0, kR170_1, kR170_2, kL171, kA171, kS171, kL172, kA172, kS172, kL173, kA173, kS173, kC174, kG174, kP174, kR174_0, kR174_1, kR174_2, kR174_3, kR174_4, kL175, kA175, kS175, kL176, kA176, kS176, kL177, kA177, kS177, kL178, kA178, kS178, kL179, kC180, kG180, kP180, kL181, kL182, kA182, kS182, kC183, kG183, kP183, kR183_1, kR183_3, kR183_5, kR183_6, kR183_7, kR183_8, kR183_9, kR183_21, kR183_26, kR183_27, kR183_30, kR183_31, kR183_33, kR183_34, kR183_36, kR183_37, kR183_38, kR183_39, kR183_40, kR183_41, kR183_42, kR183_43, kR183_44, kL184, kA184, kS184, kL185, kA185, kS185, kL186, kA186, kS186, kL187, kA187, kS187, kL188, kA188, kS188, kL189, kL190, kL191, kA191, kS191, kL192, kA192, kS192, kL193, kA193, kS193, kL194, kA194, kS194, kL195, kA195, kS195, kL196, kA196, kS196, kL197, kA197, kS197, kL198, kA198, kS198, kL199, kA199, kS199, kL200, kA200, kS200, kL201, kL202, kA202, kS202, kL203, kA203, kS203, kL204, kA204, kS204, kL205, kL206, kA206, kS206, e6, hG.2.2.2.2.1, xnz_ok]
    rfl
  rw [stp]
  by_cases hq : xI σ 157 5 = nI t
  · rw [if_pos hq]
    refine ⟨σ, rfl, H, ?_, fun _ _ _ => rfl, fun _ _ _ => rfl⟩
    rcases H.cch.1 with z | ⟨t', z1, z2, z3⟩
    · rw [hq] at z
      exact absurd z (by have := nn_m1 (a := t) (by omega); rw [this]; exact id)
    · have : t' = t := by
        rw [hq, nn_eq (by omega) (by omega)] at z2; exact z2.symm
      subst this
      rw [gt1] at z3
      refine ⟨z3.1, fun s hs => ?_⟩
      rw [z3.2 s hs, eE_congr hg gt2]
  · rw [if_neg hq]
    obtain ⟨c, a, hE, ha, hcn⟩ := H.en157
    have hf := SR_fill hg hSR hRO
    have K17 : σ.1 17 = (20, 32) := xw_K hS (by decide) (by decide) (by decide)
    have K18 : σ.1 18 = (20, 16) := xw_K hS (by decide) (by decide) (by decide)
    have hEb := hE.b
    obtain ⟨τ, e1, hτS, ⟨c', a', hE', f1, f2, f3, f4, f5, f6, f7, f8, f9⟩, f10, f11, f12, f13⟩ := fill11_ok (I := xI σ) (k := gSz g) hS hG hE ha hcn K17 K18 (by omega) (by omega) (by omega) (by omega) (by omega) (by omega) (Nat.le_refl _) hf.1 hf.2
    rw [e1, Option.bind_some]
    have h206 := hS.1
    have hEb' := hE'.b
    have fr : ∀ b j, (b < 157 ∨ (161 ≤ b ∧ b ≤ 206)) → xI τ b j = xI σ b j := fun b j hb => f9 b j (by omega) (by omega) (by omega)
    have e16 : xI τ 16 6 = nI t := (fr 16 6 (by omega)).trans e6
    have jj : f_X11_energiesNow_j49 τ 1 = some (157, xw τ (xup (xI τ) 157 5 (nI t))) := by
      show f_X11_energiesNow_j49 (xw τ (xI τ)) 1 = _
      unfold f_X11_energiesNow_j49
      simp (disch := first | assumption | omega) only [Option.bind_some, Option.map_some, xw_gR, xw_gN, xw_al, xw_ck, xw_uI, xw_ur, xup_at, xur_at, if_true, if_false, reduceIte, and_true, true_and, and_false, false_and, not_true_eq_false, not_false_eq_true, Nat.reduceEqDiff, eq_self, Nat.reduceAdd, Nat.reduceMul, kC1, kG1, kP1, kR1_0, kR1_1, kR1_2, kR1_3, kR1_4, kR1_5, kR1_6, kR1_7, kR1_8, kR1_9, kR1_10, kR1_11, kR1_12, kR1_13, kC2, kG2, kP2, kR2_0, kR2_1, kC3, kG3, kP3, kR3_0, kR3_1, kR3_2, kR3_3, kL4, kA4, kS4, kL5, kA5, kS5, kL6, kA6, kS6, kL7, kA7, kS7, kC8, kG8, kP8, kR8_0, kR8_1, kL9, kA9, kS9, kL10, kA10, kS10, kC11, kG11, kP11, kR11_0, kR11_1, kR11_2, kR11_3, kL12, kA12, kS12, kL13, kA13, kS13, kL14, kA14, kS14, kL15, kA15, kS15, kC16, kG16, kP16, kR16_0, kR16_1, kL17, kA17, kS17, kL18, kA18, kS18, kC19, kG19, kP19, kR19_0, kL20, kL141, kL146, kA146, kS146, kL151, kA151, kS151, kL156, kA156, kS156, kC157, kG157, kP157, kR157_0, kR157_1, kL158, kA158, kS158, kL159, kA159, kS159, kC161, kG161, kP161, kR161_0, kR161_1, kL162, kA162, kS162, kL163, kA163, kS163, kC165, kG165, kP165, kR165_0, kR165_1, kR165_2, kR165_3, kL166, kA166, kS166, kL167, kA167, kS167, kL168, kA168, kS168, kL169, kA169, kS169, kC170, kG170, kP170, kR170_0, kR170_1, kR170_2, kL171, kA171, kS171, kL172, kA172, kS172, kL173, kA173, kS173, kC174, kG174, kP174, kR174_0, kR174_1, kR174_2, kR174_3, kR174_4, kL175, kA175, kS175, kL176, kA176, kS176, kL177, kA177, kS177, kL178, kA178, kS178, kL179, kC180, kG180, kP180, kL181, kL182, kA182, kS182, kC183, kG183, kP183, kR183_1, kR183_3, kR183_5, kR183_6, kR183_7, kR183_8, kR183_9, kR183_21, kR183_26, kR183_27, kR183_30, kR183_31, kR183_33, kR183_34, kR183_36, kR183_37, kR183_38, kR183_39, kR183_40, kR183_41, kR183_42, kR183_43, kR183_44, kL184, kA184, kS184, kL185, kA185, kS185, kL186, kA186, kS186, kL187, kA187, kS187, kL188, kA188, kS188, kL189, kL190, kL191, kA191, kS191, kL192, kA192, kS192, kL193, kA193, kS193, kL194, kA194, kS194, kL195, kA195, kS195, kL196, kA196, kS196, kL197, kA197, kS197, kL198, kA198, kS198, kL199, kA199, kS199, kL200, kA200, kS200, kL201, kL202, kA202, kS202, kL203, kA203, kS203, kL204, kA204, kS204, kL205, kL206, kA206, kS206, e16, xnz_ok]
    have enk : ENK (xup (xI τ) 157 5 (nI t)) (xR τ) (xlen τ) 157 g (xI σ 191) := by
      refine ⟨?_, fun s hs => ?_⟩
      · rw [hE'.2.1]
        unfold xlen
        rw [hE'.2.2.1]
        exact Nat.pow_le_pow_right (by decide) f3
      · rw [hE'.2.1, xup_at, if_neg (by omega), f8 s hs, eP_all hg]
    refine ⟨_, jj, ?_, ?_, fun b j hb => ?_, f13⟩
    · refine H.cache hτS (fun b j hb => ?_) ?_ ?_
      · rw [xw_I, xup_at, if_neg (by omega), fr b j (by omega)]
      · have r5 : ∀ b j, b ≤ xn σ → ¬ (b = 157 ∧ j = 4) → xR τ b j = xR σ b j := f12
        obtain ⟨-, c2, c3, c4⟩ := H.cch
        have u : ∀ b j, (161 ≤ b ∧ b ≤ 206) → xup (xI τ) 157 5 (nI t) b j = xI σ b j := fun b j hb => by rw [xup_at, if_neg (by omega), fr b j (by omega)]
        refine ⟨.inr ⟨t, ht, ?_, ?_⟩, ?_, ?_, ?_⟩
        · rw [xw_I, xup_at, if_pos ⟨rfl, rfl⟩]
        · rw [gt1]
          refine ⟨enk.1, fun s hs => ?_⟩
          rw [← eE_congr hg gt2]
          exact enk.2 s hs
        · rw [xw_I, u _ _ (by omega)]
          rcases c2 with z | ⟨q, z1, z2, z3⟩
          · exact .inl z
          · exact .inr ⟨q, z1, z2, LVK_c (fun b j hb => u b j (by omega)) z3⟩
        · rw [xw_I, u _ _ (by omega)]
          rcases c3 with z | ⟨q, z1, z2, z3⟩
          · exact .inl z
          · exact .inr ⟨q, z1, z2, BRK_c (fun j => u 171 j (by omega)) z3⟩
        · rw [xw_I, u _ _ (by omega)]
          rcases c4 with z | ⟨q, z1, z2, z3⟩
          · exact .inl z
          · refine .inr ⟨q, z1, z2, ?_⟩
            intro hs
            have := TRK_c (I' := xup (xI τ) 157 5 (nI t)) (fun b j hb => u b j (by omega)) z3 hs
            rw [xw_R, r5 174 5 (by omega) (by omega), r5 174 6 (by omega) (by omega)]
            exact this
      · obtain ⟨a0, b0, h1, h2, h3, h4, h5, h6, h7, h8, h9, h10, h11⟩ := H.cel
        have ea : a0 = a := by
          have q := hE.2.2.1
          rw [hE.2.1] at h3
          rw [h3] at q
          have q2 := congrArg Prod.snd q
          exact Nat.le_antisymm ((Nat.pow_le_pow_iff_right (by decide)).mp (Nat.le_of_eq q2)) ((Nat.pow_le_pow_iff_right (by decide)).mp (Nat.le_of_eq q2.symm))
        have r161 : xR τ 161 4 = xR σ 161 4 := f12 161 4 (by omega) (by omega)
        refine ⟨a', b0, f2, h2, ?_, ?_, ?_, ?_, ?_, ?_, ?_, ?_, ?_, fun k hk => (f13 190 k (by have := hS.1; omega)).trans (h11.2 k hk)⟩
        · show τ.1 (xR τ 157 4) = _
          rw [hE'.2.1]; exact hE'.2.2.1
        · show τ.1 (xR τ 161 4) = _
          rw [r161, f11 _ h9]; exact h4
        · show xR τ 157 4 = 160 ∨ 206 < xR τ 157 4
          rw [hE'.2.1]; exact hE'.2.2.2.2
        · show xR τ 161 4 = 164 ∨ 206 < xR τ 161 4
          rw [r161]; exact h6
        · show xR τ 157 4 ≠ xR τ 161 4
          rw [hE'.2.1, r161]
          rcases f5 with z | z
          · rw [z]; exact h7
          · rw [z]; omega
        · show xR τ 157 4 ≤ xn τ
          rw [hE'.2.1]; exact f4
        · show xR τ 161 4 ≤ xn τ
          rw [r161]; omega
        · show xn τ ≤ _
          omega
        · show xz τ ≤ _
          omega
    · have e191 : ∀ k, xup (xI τ) 157 5 (nI t) 191 k = xI σ 191 k := fun k => by rw [xup_at, if_neg (by omega), fr _ _ (by omega)]
      refine ⟨enk.1, fun s hs => ?_⟩
      have : xI (xw τ (xup (xI τ) 157 5 (nI t))) 191 = xI σ 191 := funext e191
      rw [this]
      exact enk.2 s hs
    · rw [xw_I, xup_at, if_neg (by omega), fr b j hb]
end
section
/-! how many bits are set -/
def bC0 (s : Nat) : Nat := s - ((s >>> 1) &&& 1431655765)
def bC1 (s : Nat) : Nat := (bC0 s &&& 858993459) + ((bC0 s >>> 2) &&& 858993459)
def bC2 (s : Nat) : Nat := (bC1 s + (bC1 s >>> 4)) &&& 252645135
def bC3 (s : Nat) : Nat := bC2 s + (bC2 s >>> 8)
def bC4 (s : Nat) : Nat := bC3 s + (bC3 s >>> 16)
def pcT (s : Nat) : Nat := s % 2 + s / 2 % 2 + s / 4 % 2 + s / 8 % 2 + s / 16 % 2 + s / 32 % 2 + s / 64 % 2 + s / 128 % 2 + s / 256 % 2 + s / 512 % 2 + s / 1024 % 2 + s / 2048 % 2 + s / 4096 % 2 + s / 8192 % 2 + s / 16384 % 2 + s / 32768 % 2
def bCt (s : Nat) : Bool := (Nat.ble ((s >>> 1) &&& 1431655765) s) && (Nat.blt (bC1 s) 65536) && (Nat.blt (bC2 s) 65536) && (Nat.blt (bC3 s) 65536) && (Nat.beq (bC4 s &&& 63) (pcT s))
def bCf : Nat → (Nat → Bool) → Bool
  | 0, f => f 0
  | n + 1, f => f (n + 1)
theorem bCf_ok (n : Nat) (f : Nat → Bool) : bCf n f = f n := by cases n <;> rfl
def pcR (s : Nat) : Nat := (Nat.add (Nat.add (Nat.add (Nat.add (Nat.add (Nat.add (Nat.add (Nat.add (Nat.add (Nat.add (Nat.add (Nat.add (Nat.add (Nat.add (Nat.add (Nat.mod s 2) (Nat.mod (Nat.div s 2) 2)) (Nat.mod (Nat.div s 4) 2)) (Nat.mod (Nat.div s 8) 2)) (Nat.mod (Nat.div s 16) 2)) (Nat.mod (Nat.div s 32) 2)) (Nat.mod (Nat.div s 64) 2)) (Nat.mod (Nat.div s 128) 2)) (Nat.mod (Nat.div s 256) 2)) (Nat.mod (Nat.div s 512) 2)) (Nat.mod (Nat.div s 1024) 2)) (Nat.mod (Nat.div s 2048) 2)) (Nat.mod (Nat.div s 4096) 2)) (Nat.mod (Nat.div s 8192) 2)) (Nat.mod (Nat.div s 16384) 2)) (Nat.mod (Nat.div s 32768) 2))
def bCu (s : Nat) : Bool := bCf (Nat.land (Nat.shiftRight s 1) 1431655765) fun x => Nat.ble x s && bCf (Nat.sub s x) fun y => bCf (Nat.add (Nat.land y 858993459) (Nat.land (Nat.shiftRight y 2) 858993459)) fun z => Nat.ble (Nat.succ z) 65536 && bCf (Nat.land (Nat.add z (Nat.shiftRight z 4)) 252645135) fun v => Nat.ble (Nat.succ v) 65536 && bCf (Nat.add v (Nat.shiftRight v 8)) fun w => Nat.ble (Nat.succ w) 65536 && Nat.beq (Nat.land (Nat.add w (Nat.shiftRight w 16)) 63) (pcR s)
theorem bCu_ok (s : Nat) : bCu s = bCt s := by
  have e : bCu s = (Nat.ble ((s >>> 1) &&& 1431655765) s && (Nat.blt (bC1 s) 65536 && (Nat.blt (bC2 s) 65536 && (Nat.blt (bC3 s) 65536 && Nat.beq (bC4 s &&& 63) (pcT s))))) := by
    simp only [bCu, bCf_ok]
    rfl
  rw [e, bCt]
  simp only [Bool.and_assoc]
def bCall : Nat → Nat → Bool
  | 0, _ => true
  | n + 1, a => bCf a fun a => bCu a && bCu (a + 1) && bCu (a + 2) && bCu (a + 3) && bCu (a + 4) && bCu (a + 5) && bCu (a + 6) && bCu (a + 7) && bCall n (a + 8)
theorem bCall_ok : ∀ n a, bCall n a = true → ∀ s, a ≤ s → s < a + 8 * n → bCt s = true := by
  intro n
  induction n with
  | zero => intro a _ s h1 h2; omega
  | succ n ih =>
    intro a h s h1 h2
    simp only [bCall, bCf_ok, bCu_ok, Bool.and_eq_true] at h
    by_cases h3 : s < a + 8
    · rcases (show s = a ∨ s = a + 1 ∨ s = a + 2 ∨ s = a + 3 ∨ s = a + 4 ∨ s = a + 5 ∨ s = a + 6 ∨ s = a + 7 by omega) with q | q | q | q | q | q | q | q <;> rw [q] <;> simp [h]
    · exact ih (a + 8) h.2 s (by omega) (by omega)
set_option maxRecDepth 100000 in
theorem bC_all : bCall 8192 0 = true := by decide +kernel
end
section
theorem pcT_pC (s : Nat) : pcT s = pC s := by
  unfold pC pcT
  simp only [fb_ct, Nat.testBit_eq_decide_div_mod_eq]
  have h : ∀ x : Nat, x % 2 = if decide (x % 2 = 1) = true then 1 else 0 := by
    intro x
    by_cases q : x % 2 = 1
    · simp [q]
    · simp [q]; omega
  rw [h s, h (s / 2), h (s / 4), h (s / 8), h (s / 16), h (s / 32), h (s / 64), h (s / 128), h (s / 256), h (s / 512), h (s / 1024), h (s / 2048), h (s / 4096), h (s / 8192), h (s / 16384), h (s / 32768)]
  simp
theorem bitCount_ok {s : Nat} (hs : s < 65536) : f_J6_bitCount_0f7a4 (nI s) = some (nI (pC s)) := by
  have h := bCall_ok 8192 0 bC_all s (by omega) (by omega)
  simp only [bCt, Bool.and_eq_true] at h
  obtain ⟨⟨⟨⟨h1, h2⟩, h3⟩, h4⟩, h5⟩ := h
  have h1 : (s >>> 1) &&& 1431655765 ≤ s := Nat.le_of_ble_eq_true h1
  have h2 : bC1 s < 65536 := by
    have q : bC1 s ≤ 65535 := by simpa [Nat.blt] using h2
    omega
  have h3 : bC2 s < 65536 := by
    have q : bC2 s ≤ 65535 := by simpa [Nat.blt] using h3
    omega
  have h4 : bC3 s < 65536 := by
    have q : bC3 s ≤ 65535 := by simpa [Nat.blt] using h4
    omega
  have h5 : bC4 s &&& 63 = pcT s := Nat.eq_of_beq_eq_true h5
  have h0 : bC0 s < 65536 := by unfold bC0; omega
  unfold f_J6_bitCount_0f7a4
  have u1 : ((nI s).toUInt32 >>> ((1 : Int32).toUInt32 &&& Int32.toUInt32 31)).toInt32 = nI (s >>> 1) := nx_ush (j := 1) hs (by decide)
  have a0 : nI s - (nI (s >>> 1) &&& (1431655765 : Int32)) = nI (bC0 s) := by
    rw [show (1431655765 : Int32) = nI 1431655765 from rfl, nx_and, nn_sub h1]; rfl
  have u2 : ((nI (bC0 s)).toUInt32 >>> ((2 : Int32).toUInt32 &&& Int32.toUInt32 31)).toInt32 = nI (bC0 s >>> 2) := nx_ush (j := 2) h0 (by decide)
  have a1 : (nI (bC0 s) &&& (858993459 : Int32)) + (nI (bC0 s >>> 2) &&& (858993459 : Int32)) = nI (bC1 s) := by
    rw [show (858993459 : Int32) = nI 858993459 from rfl, nx_and, nx_and, nn_add]; rfl
  have u3 : ((nI (bC1 s)).toUInt32 >>> ((4 : Int32).toUInt32 &&& Int32.toUInt32 31)).toInt32 = nI (bC1 s >>> 4) := nx_ush (j := 4) h2 (by decide)
  have a2 : (nI (bC1 s) + nI (bC1 s >>> 4)) &&& (252645135 : Int32) = nI (bC2 s) := by
    rw [show (252645135 : Int32) = nI 252645135 from rfl, nn_add, nx_and]; rfl
  have u4 : ((nI (bC2 s)).toUInt32 >>> ((8 : Int32).toUInt32 &&& Int32.toUInt32 31)).toInt32 = nI (bC2 s >>> 8) := nx_ush (j := 8) h3 (by decide)
  have a3 : nI (bC2 s) + nI (bC2 s >>> 8) = nI (bC3 s) := by rw [nn_add]; rfl
  have u5 : ((nI (bC3 s)).toUInt32 >>> ((16 : Int32).toUInt32 &&& Int32.toUInt32 31)).toInt32 = nI (bC3 s >>> 16) := nx_ush (j := 16) h4 (by decide)
  have a4 : nI (bC3 s) + nI (bC3 s >>> 16) = nI (bC4 s) := by rw [nn_add]; rfl
  simp only [u1, a0, u2, a1, u3, a2, u4, a3, u5, a4]
  rw [show (63 : Int32) = nI 63 from rfl, nx_and, h5, pcT_pC]
theorem pC_16 (s : Nat) : pC s ≤ 16 := fb_ct_le _ _
end
section
/-! states, lawful states, bits -/
theorem xallL {α β : Type} {f : α → Option (α ⊕ β)} {a0 : α} (s : Nat → α) (N : Nat) (p : Nat → Bool) {bad good : β} (h0 : a0 = s 0) (h1 : ∀ i, i < N → p i = true → f (s i) = some (.inl (s (i + 1)))) (h2 : ∀ i, i < N → p i = false → f (s i) = some (.inr bad)) (h3 : f (s N) = some (.inr good)) : xloop f a0 = some (if (List.range N).all p then good else bad) := by
  have key : ∀ m i, i + m = N → ((∀ j, i ≤ j → j < N → p j = true) → xloop f (s i) = some good) ∧ ((∃ j, i ≤ j ∧ j < N ∧ p j = false) → xloop f (s i) = some bad) := by
    intro m
    induction m with
    | zero =>
      intro i hi
      have : i = N := by omega
      subst this
      exact ⟨fun _ => xloop_end h3, fun ⟨j, q1, q2, _⟩ => by omega⟩
    | succ m ih =>
      intro i hi
      have h := ih (i + 1) (by omega)
      by_cases hp : p i = true
      · rw [xloop_step (h1 i (by omega) hp)]
        refine ⟨fun q => h.1 (fun j z1 z2 => q j (by omega) z2), fun ⟨j, z1, z2, z3⟩ => h.2 ⟨j, ?_, z2, z3⟩⟩
        by_cases w : j = i
        · rw [w, hp] at z3
          exact absurd z3 (by decide)
        · omega
      · have hp : p i = false := Bool.not_eq_true _ ▸ hp
        refine ⟨fun q => ?_, fun _ => xloop_end (h2 i (by omega) hp)⟩
        have := q i (Nat.le_refl _) (by omega)
        rw [hp] at this
        exact absurd this (by decide)
  rw [h0]
  cases hall : (List.range N).all p with
  | true =>
    rw [List.all_eq_true] at hall
    rw [(key N 0 (by omega)).1 (fun j _ hj => hall j (List.mem_range.mpr hj))]
    rfl
  | false =>
    rw [List.all_eq_false] at hall
    obtain ⟨j, hj, hpj⟩ := hall
    rw [(key N 0 (by omega)).2 ⟨j, Nat.zero_le _, List.mem_range.mp hj, Bool.not_eq_true _ ▸ hpj⟩]
    rfl
theorem gSt_b {g : GD} (hg : g ∈ gAll) : gSt g ≤ 65536 ∧ gSt g ≤ 2 ^ gSz g := by
  have h16 := (gAll_b g hg).2.2.1
  unfold gSt
  have : 2 ^ gSz g ≤ 2 ^ 16 := Nat.pow_le_pow_right (by decide) h16
  split
  · exact ⟨by omega, Nat.zero_le _⟩
  · exact ⟨by omega, Nat.le_refl _⟩
theorem gSt_pos {g : GD} {s : Nat} (h : s < gSt g) : 0 < gSz g ∧ s < 2 ^ gSz g := by
  unfold gSt at h
  split at h
  · omega
  · exact ⟨by omega, h⟩
theorem gSt_flip {g : GD} {s i : Nat} (h : s < gSt g) (hi : i < gSz g) : s ^^^ 2 ^ i < gSt g := by
  have h1 := gSt_pos h
  have : s ^^^ 2 ^ i < 2 ^ gSz g := Nat.xor_lt_two_pow h1.2 (Nat.pow_lt_pow_right (by decide) hi)
  unfold gSt
  rw [if_neg (by omega)]
  exact this
theorem lW_iff {g : GD} {F : Nat → Int32} {s : Nat} : lW g F s = true ↔ ∀ i, i < gSz g → F (48 + i) ≠ 0 → s.testBit i = decide (F (48 + i) = 1) := by
  unfold lW
  rw [List.all_eq_true]
  constructor
  · intro h i hi hne
    have := h i (List.mem_range.mpr hi)
    simp only [hne, decide_false, Bool.false_or, beq_iff_eq] at this
    exact this
  · intro h i hi
    by_cases hne : F (48 + i) = 0
    · simp [hne]
    · have := h i (List.mem_range.mp hi) hne
      simp [hne, this]
section STATES
variable {σ : XS} {I : Nat → Nat → Int32} {g : GD} {a : Nat} {F : Nat → Int32}
theorem states11_ok (hS : Shp σ) (hG : GRD I g) : f_X3_states (xw σ I) 11 = some (nI (gSt g)) := by
  have h16 := (gAll_b g hG.1).2.2.1
  unfold f_X3_states gSt
  have e : (nI (gSz g) ≤ 0) = (gSz g ≤ 0) := nn_le (b := 0) (by omega) (by decide)
  simp (disch := first | assumption | omega) only [Option.bind_some, Option.map_some, xw_gR, xw_gN, xw_al, xw_ck, xw_uI, xw_ur, xup_at, xur_at, if_true, if_false, reduceIte, and_true, true_and, and_false, false_and, not_true_eq_false, not_false_eq_true, Nat.reduceEqDiff, eq_self, Nat.reduceAdd, Nat.reduceMul, kC1, kG1, kP1, kR1_0, kR1_1, kR1_2, kR1_3, kR1_4, kR1_5, kR1_6, kR1_7, kR1_8, kR1_9, kR1_10, kR1_11, kR1_12, kR1_13, kC2, kG2, kP2, kR2_0, kR2_1, kC3, kG3, kP3, kR3_0, kR3_1, kR3_2, kR3_3, kL4, kA4, kS4, kL5, kA5, kS5, kL6, kA6, kS6, kL7, kA7, kS7, kC8, kG8, kP8, kR8_0, kR8_1, kL9, kA9, kS9, kL10, kA10, kS10, kC11, kG11, kP11, kR11_0, kR11_1, kR11_2, kR11_3, kL12, kA12, kS12, kL13, kA13, kS13, kL14, kA14, kS14, kL15, kA15, kS15, kC16, kG16, kP16, kR16_0, kR16_1, kL17, kA17, kS17, kL18, kA18, kS18, kC19, kG19, kP19, kR19_0, kL20, kL141, kL146, kA146, kS146, kL151, kA151, kS151, kL156, kA156, kS156, kC157, kG157, kP157, kR157_0, kR157_1, kL158, kA158, kS158, kL159, kA159, kS159, kC161, kG161, kP161, kR161_0, kR161_1, kL162, kA162, kS162, kL163, kA163, kS163, kC165, kG165, kP165, kR165_0, kR165_1, kR165_2, kR165_3, kL166, kA166, kS166, kL167, kA167, kS167, kL168, kA168, kS168, kL169, kA169, kS169, kC170, kG170, kP170, kR170_0, kR170_1, kR170_2, kL171, kA171, kS171, kL172, kA172, kS172, kL173, kA173, kS173, kC174, kG174, kP174, kR174_0, kR174_1, kR174_2, kR174_3, kR174_4, kL175, kA175, kS175, kL176, kA176, kS176, kL177, kA177, kS177, kL178, kA178, kS178, kL179, kC180, kG180, kP180, kL181, kL182, kA182, kS182, kC183, kG183, kP183, kR183_1, kR183_3, kR183_5, kR183_6, kR183_7, kR183_8, kR183_9, kR183_21, kR183_26, kR183_27, kR183_30, kR183_31, kR183_33, kR183_34, kR183_36, kR183_37, kR183_38, kR183_39, kR183_40, kR183_41, kR183_42, kR183_43, kR183_44, kL184, kA184, kS184, kL185, kA185, kS185, kL186, kA186, kS186, kL187, kA187, kS187, kL188, kA188, kS188, kL189, kL190, kL191, kA191, kS191, kL192, kA192, kS192, kL193, kA193, kS193, kL194, kA194, kS194, kL195, kA195, kS195, kL196, kA196, kS196, kL197, kA197, kS197, kL198, kA198, kS198, kL199, kA199, kS199, kL200, kA200, kS200, kL201, kL202, kA202, kS202, kL203, kA203, kS203, kL204, kA204, kS204, kL205, kL206, kA206, kS206, hG.2.2.2.2.1, e, nn_one]
  by_cases h : gSz g = 0
  · rw [if_pos (by omega), if_pos h]; rfl
  · rw [if_neg (by omega), if_neg h]
theorem states12_ok (hS : Shp σ) (hG : GRD I g) : f_X12_states (xw σ I) 183 = some (nI (gSt g)) := by
  have h16 := (gAll_b g hG.1).2.2.1
  unfold f_X12_states gSt
  have e : (nI (gSz g) = 0) = (gSz g = 0) := nn_eq (b := 0) (by omega) (by decide)
  simp (disch := first | assumption | omega) only [Option.bind_some, Option.map_some, xw_gR, xw_gN, xw_al, xw_ck, xw_uI, xw_ur, xup_at, xur_at, if_true, if_false, reduceIte, and_true, true_and, and_false, false_and, not_true_eq_false, not_false_eq_true, Nat.reduceEqDiff, eq_self, Nat.reduceAdd, Nat.reduceMul, kC1, kG1, kP1, kR1_0, kR1_1, kR1_2, kR1_3, kR1_4, kR1_5, kR1_6, kR1_7, kR1_8, kR1_9, kR1_10, kR1_11, kR1_12, kR1_13, kC2, kG2, kP2, kR2_0, kR2_1, kC3, kG3, kP3, kR3_0, kR3_1, kR3_2, kR3_3, kL4, kA4, kS4, kL5, kA5, kS5, kL6, kA6, kS6, kL7, kA7, kS7, kC8, kG8, kP8, kR8_0, kR8_1, kL9, kA9, kS9, kL10, kA10, kS10, kC11, kG11, kP11, kR11_0, kR11_1, kR11_2, kR11_3, kL12, kA12, kS12, kL13, kA13, kS13, kL14, kA14, kS14, kL15, kA15, kS15, kC16, kG16, kP16, kR16_0, kR16_1, kL17, kA17, kS17, kL18, kA18, kS18, kC19, kG19, kP19, kR19_0, kL20, kL141, kL146, kA146, kS146, kL151, kA151, kS151, kL156, kA156, kS156, kC157, kG157, kP157, kR157_0, kR157_1, kL158, kA158, kS158, kL159, kA159, kS159, kC161, kG161, kP161, kR161_0, kR161_1, kL162, kA162, kS162, kL163, kA163, kS163, kC165, kG165, kP165, kR165_0, kR165_1, kR165_2, kR165_3, kL166, kA166, kS166, kL167, kA167, kS167, kL168, kA168, kS168, kL169, kA169, kS169, kC170, kG170, kP170, kR170_0, kR170_1, kR170_2, kL171, kA171, kS171, kL172, kA172, kS172, kL173, kA173, kS173, kC174, kG174, kP174, kR174_0, kR174_1, kR174_2, kR174_3, kR174_4, kL175, kA175, kS175, kL176, kA176, kS176, kL177, kA177, kS177, kL178, kA178, kS178, kL179, kC180, kG180, kP180, kL181, kL182, kA182, kS182, kC183, kG183, kP183, kR183_1, kR183_3, kR183_5, kR183_6, kR183_7, kR183_8, kR183_9, kR183_21, kR183_26, kR183_27, kR183_30, kR183_31, kR183_33, kR183_34, kR183_36, kR183_37, kR183_38, kR183_39, kR183_40, kR183_41, kR183_42, kR183_43, kR183_44, kL184, kA184, kS184, kL185, kA185, kS185, kL186, kA186, kS186, kL187, kA187, kS187, kL188, kA188, kS188, kL189, kL190, kL191, kA191, kS191, kL192, kA192, kS192, kL193, kA193, kS193, kL194, kA194, kS194, kL195, kA195, kS195, kL196, kA196, kS196, kL197, kA197, kS197, kL198, kA198, kS198, kL199, kA199, kS199, kL200, kA200, kS200, kL201, kL202, kA202, kS202, kL203, kA203, kS203, kL204, kA204, kS204, kL205, kL206, kA206, kS206, sites_ok hS hG, e, nn_one]
  by_cases h : gSz g = 0
  · rw [if_pos h, if_pos h]; rfl
  · rw [if_neg h, if_neg h]
theorem allows_ok (hS : Shp σ) (hg : g ∈ gAll) (ha : a ∈ suA) (h : SR g I a F) (s : Nat) : f_X6_allows (xw σ I) a (nI s) = some (if lW g F s then 1 else 0) := by
  have h16 := (gAll_b g hg).2.2.1
  obtain ⟨-, -, ⟨p, u, e3, e4, e5, e6⟩, -, -⟩ := h
  have hp : p < 65536 := Nat.lt_pow_two_of_testBit (n := 16) p (fun j hj => by rw [e5]; simp; omega)
  have hu : u < 65536 := Nat.lt_pow_two_of_testBit (n := 16) u (fun j hj => by rw [e6]; simp; omega)
  have hsp : s &&& p < 65536 := Nat.lt_of_le_of_lt Nat.and_le_right hp
  unfold f_X6_allows
  simp (disch := first | assumption | omega) only [Option.bind_some, Option.map_some, xw_gR, xw_gN, xw_al, xw_ck, xw_uI, xw_ur, xup_at, xur_at, if_true, if_false, reduceIte, and_true, true_and, and_false, false_and, not_true_eq_false, not_false_eq_true, Nat.reduceEqDiff, eq_self, Nat.reduceAdd, Nat.reduceMul, suG hS ha, e3, e4, fa_and]
  have e : (nI (s &&& p) = nI u) = (lW g F s = true) := by
    rw [nn_eq (by omega) (by omega), lW_iff]
    apply propext
    constructor
    · intro h i hi hne
      have := congrArg (fun x => Nat.testBit x i) h
      simp [Nat.testBit_and, e5, e6, hi, hne] at this
      exact this
    · intro h
      apply Nat.eq_of_testBit_eq
      intro i
      rw [Nat.testBit_and, e5, e6]
      by_cases hi : i < gSz g
      · by_cases hne : F (48 + i) = 0
        · simp [hi, hne]
        · rw [h i hi hne]; simp [hi, hne]
      · simp [hi]
  simp only [e]
  split <;> rfl
theorem lawfulBy_ok (hS : Shp σ) (ha : σ.1 a = (20, 66)) {k s : Nat} (hs : s < 2147483648) (hk : k ≤ 16) (hp : ∀ i, i < k → I a (48 + i) = 0 ∨ I a (48 + i) = 1 ∨ I a (48 + i) = 2) : f_X12_isLawfulBy (xw σ I) a (nI s) (nI k) = some (if (List.range k).all (fun i => decide (I a (48 + i) = 0) || (s.testBit i == decide (I a (48 + i) = 1))) then 1 else 0) := by
  unfold f_X12_isLawfulBy
  have hv : ∀ i, i < k → xaI (xw σ I) 20 a ((48 : Int32) + nI i) = some (I a (48 + i)) := fun i hi => by
    rw [show (48 : Int32) = nI 48 from rfl, nn_add]; exact xw_aI ha (by omega) (by decide)
  refine xallL (fun i : Nat => nI i) k _ rfl (fun i hi hpi => ?_) (fun i hi hpi => ?_) ?_
  · simp only [f_X12_isLawfulBy_b2]
    rw [if_neg (by rw [nn_le (by omega) (by omega)]; omega), hv i hi, Option.bind_some, Option.bind_some, nn_bit hs (by omega), ← nI_succ]
    rcases hp i hi with z | z | z
    · rw [z, if_pos (by decide)]
    · rw [z, if_neg (by decide)]
      rw [z] at hpi
      have : s.testBit i = true := by simpa using hpi
      rw [this, if_pos (by decide)]
    · rw [z, if_neg (by decide)]
      rw [z] at hpi
      have : s.testBit i = false := by simpa using hpi
      rw [this, if_pos (by decide)]
  · simp only [f_X12_isLawfulBy_b2]
    rw [if_neg (by rw [nn_le (by omega) (by omega)]; omega), hv i hi, Option.bind_some, Option.bind_some, nn_bit hs (by omega)]
    rcases hp i hi with z | z | z
    · rw [z] at hpi; simp at hpi
    · rw [z, if_neg (by decide)]
      rw [z] at hpi
      have : s.testBit i = false := by simpa using hpi
      rw [this, if_neg (by decide)]
      rfl
    · rw [z, if_neg (by decide)]
      rw [z] at hpi
      have : s.testBit i = true := by simpa using hpi
      rw [this, if_neg (by decide)]
      rfl
  · simp only [f_X12_isLawfulBy_b2]
    rw [if_pos (by rw [nn_le (by omega) (by omega)]; exact Nat.le_refl _)]
    rfl
def isB (g : GD) (F : Nat → Int32) (x : Int32) : Bool := decide (0 ≤ x.toInt) && decide (x.toInt < (gSt g : Int)) && lW g F x.toInt.toNat
theorem isB_t {x : Int32} (h : isB g F x = true) : ∃ s, s < gSt g ∧ x = nI s ∧ lW g F s = true := by
  unfold isB at h
  simp only [Bool.and_eq_true, decide_eq_true_eq] at h
  refine ⟨x.toInt.toNat, by omega, ?_, h.2⟩
  rw [iI_n, Int.toNat_of_nonneg h.1.1]
  exact iI_of x
theorem isB_n (hg : g ∈ gAll) {s : Nat} (h : s < gSt g) : isB g F (nI s) = lW g F s := by
  have := (gSt_b hg).1
  unfold isB
  rw [nI_toInt (by omega)]
  have h2 : ((s : Int) < (gSt g : Int)) := by omega
  simp [h2]
theorem isLawful12_ok (hS : Shp σ) (hG : GRD I g) (ho : RO g (I 191)) (x : Int32) : f_X12_isLawful (xw σ I) 183 x = some (if isB g (I 191) x then 1 else 0) := by
  have h16 := (gAll_b g hG.1).2.2.1
  have hSt := (gSt_b hG.1).1
  unfold f_X12_isLawful
  simp (disch := first | assumption | omega) only [Option.bind_some, Option.map_some, xw_gR, xw_gN, xw_al, xw_ck, xw_uI, xw_ur, xup_at, xur_at, if_true, if_false, reduceIte, and_true, true_and, and_false, false_and, not_true_eq_false, not_false_eq_true, Nat.reduceEqDiff, eq_self, Nat.reduceAdd, Nat.reduceMul, kC1, kG1, kP1, kR1_0, kR1_1, kR1_2, kR1_3, kR1_4, kR1_5, kR1_6, kR1_7, kR1_8, kR1_9, kR1_10, kR1_11, kR1_12, kR1_13, kC2, kG2, kP2, kR2_0, kR2_1, kC3, kG3, kP3, kR3_0, kR3_1, kR3_2, kR3_3, kL4, kA4, kS4, kL5, kA5, kS5, kL6, kA6, kS6, kL7, kA7, kS7, kC8, kG8, kP8, kR8_0, kR8_1, kL9, kA9, kS9, kL10, kA10, kS10, kC11, kG11, kP11, kR11_0, kR11_1, kR11_2, kR11_3, kL12, kA12, kS12, kL13, kA13, kS13, kL14, kA14, kS14, kL15, kA15, kS15, kC16, kG16, kP16, kR16_0, kR16_1, kL17, kA17, kS17, kL18, kA18, kS18, kC19, kG19, kP19, kR19_0, kL20, kL141, kL146, kA146, kS146, kL151, kA151, kS151, kL156, kA156, kS156, kC157, kG157, kP157, kR157_0, kR157_1, kL158, kA158, kS158, kL159, kA159, kS159, kC161, kG161, kP161, kR161_0, kR161_1, kL162, kA162, kS162, kL163, kA163, kS163, kC165, kG165, kP165, kR165_0, kR165_1, kR165_2, kR165_3, kL166, kA166, kS166, kL167, kA167, kS167, kL168, kA168, kS168, kL169, kA169, kS169, kC170, kG170, kP170, kR170_0, kR170_1, kR170_2, kL171, kA171, kS171, kL172, kA172, kS172, kL173, kA173, kS173, kC174, kG174, kP174, kR174_0, kR174_1, kR174_2, kR174_3, kR174_4, kL175, kA175, kS175, kL176, kA176, kS176, kL177, kA177, kS177, kL178, kA178, kS178, kL179, kC180, kG180, kP180, kL181, kL182, kA182, kS182, kC183, kG183, kP183, kR183_1, kR183_3, kR183_5, kR183_6, kR183_7, kR183_8, kR183_9, kR183_21, kR183_26, kR183_27, kR183_30, kR183_31, kR183_33, kR183_34, kR183_36, kR183_37, kR183_38, kR183_39, kR183_40, kR183_41, kR183_42, kR183_43, kR183_44, kL184, kA184, kS184, kL185, kA185, kS185, kL186, kA186, kS186, kL187, kA187, kS187, kL188, kA188, kS188, kL189, kL190, kL191, kA191, kS191, kL192, kA192, kS192, kL193, kA193, kS193, kL194, kA194, kS194, kL195, kA195, kS195, kL196, kA196, kS196, kL197, kA197, kS197, kL198, kA198, kS198, kL199, kA199, kS199, kL200, kA200, kS200, kL201, kL202, kA202, kS202, kL203, kA203, kS203, kL204, kA204, kS204, kL205, kL206, kA206, kS206, states12_ok hS hG, sites_ok hS hG]
  unfold f_X12_in
  have e : nI (gSt g) - 1 = iI ((gSt g : Int) - 1) := by rw [iI_n, show (1 : Int32) = iI 1 from rfl, iI_sub]
  have hr := x.toInt_lt
  have hl := x.le_toInt
  have c1 : (x < 0) = (x.toInt < 0) := propext (fa_lt _ _)
  have c2 : (iI ((gSt g : Int) - 1) < x) = ((gSt g : Int) - 1 < x.toInt) := by
    rw [fa_lt, iI_ti (by omega) (by omega)]
  simp only [e, c1, c2]
  by_cases h1 : x.toInt < 0
  · rw [if_pos h1]
    have : isB g (I 191) x = false := by unfold isB; simp; omega
    rw [this]; rfl
  · by_cases h2 : (gSt g : Int) - 1 < x.toInt
    · rw [if_neg h1, if_pos h2]
      have : isB g (I 191) x = false := by unfold isB; simp; omega
      rw [this]; rfl
    · rw [if_neg h1, if_neg h2, Option.bind_some, if_neg (by decide)]
      have hx0 : ¬ x < 0 := by rw [c1]; exact h1
      obtain ⟨s, hs, rfl⟩ := nn_of hx0
      rw [nI_toInt hs] at h2
      rw [isB_n hG.1 (by omega), lawfulBy_ok hS (xw_K hS (by decide) (by decide) (by decide)) hs h16 (fun i hi => (ho.2.1 i (by omega)).1), Option.bind_some]
      show _ = some (if lW g (I 191) s = true then 1 else 0)
      unfold lW
      cases (List.range (gSz g)).all (fun i => decide (I 191 (48 + i) = 0) || (s.testBit i == decide (I 191 (48 + i) = 1))) <;> rfl
theorem bitsOf_l : ∀ (m c s : Nat), m ≤ 31 → s < 2 ^ m → xloop f_X12_bitsOf_b4 (nI c, nI s) = some (nI (c + fb_ct (fun i => s.testBit i) m)) := by
  intro m
  induction m with
  | zero =>
    intro c s hm hs
    have : s = 0 := by simpa using hs
    subst this
    exact xloop_end rfl
  | succ m ih =>
    intro c s hm hs
    have hsb : s < 2147483648 := Nat.lt_of_lt_of_le hs (Nat.pow_le_pow_right (by decide) hm)
    by_cases h0 : s = 0
    · subst h0
      have : fb_ct (fun i => (0 : Nat).testBit i) (m + 1) = 0 := fb_ct_zero.mpr (fun k _ => Nat.zero_testBit k)
      rw [this]
      exact xloop_end rfl
    · have hst : f_X12_bitsOf_b4 (nI c, nI s) = some (.inl (nI (c + s % 2), nI (s / 2))) := by
        simp only [f_X12_bitsOf_b4]
        rw [if_neg (nI_nle (by omega) (by omega)), show (1 : Int32) = nI (2 ^ 1 - 1) from rfl, fa_mask, nn_add]
        have := nn_shr (a := s) (k := 1) hsb (by decide)
        rw [show nI (2 ^ 1 - 1) = nI 1 from rfl, this]
      rw [xloop_step hst, ih (c + s % 2) (s / 2) (by omega) (by rw [Nat.pow_succ] at hs; omega)]
      congr 2
      rw [Nat.add_comm m 1, fb_ct_split]
      have e1 : fb_ct (fun i => s.testBit i) 1 = s % 2 := by
        show 0 + (if s.testBit 0 then 1 else 0) = s % 2
        rw [Nat.testBit_zero]
        by_cases q : s % 2 = 1
        · simp [q]
        · simp [q]; omega
      have e2 : fb_ct (fun i => s.testBit (1 + i)) m = fb_ct (fun i => (s / 2).testBit i) m := fb_ct_cong (fun i _ => by rw [Nat.add_comm 1 i, Nat.testBit_succ])
      rw [e1, e2]; omega
theorem bitsOf_ok {s : Nat} (hs : s < 65536) : f_X12_bitsOf (nI s) = some (nI (pC s)) := by
  unfold f_X12_bitsOf pC
  have := bitsOf_l 16 0 s (by decide) hs
  rw [Nat.zero_add] at this
  exact this
end STATES
end
section
/-! what the model knows -/
def knI (I : Nat → Nat → Int32) (g : GD) (F : Nat → Int32) (s : Nat) : Nat → Nat → Int32 := fun c k => if c = 196 ∧ k < s then (if lW g F k then iI (eE g (zR F) k) else nI 100000) else if c = 197 ∧ k < 301 then nI (fb_ct (lE g F ((k : Int) - 150)) s) else I c k
theorem knI_out {I : Nat → Nat → Int32} {g : GD} {F : Nat → Int32} {s c k : Nat} (h : c ≠ 196) (h2 : c ≠ 197) : knI I g F s c k = I c k := by
  unfold knI
  rw [if_neg (by omega), if_neg (by omega)]
theorem knI_no {I : Nat → Nat → Int32} {g : GD} {F : Nat → Int32} {s : Nat} (h : lW g F s = false) : xup (knI I g F s) 196 s (nI 100000) = knI I g F (s + 1) := by
  funext c k
  simp only [xup_at, knI]
  by_cases h0 : c = 196
  · subst h0
    by_cases h1 : k = s
    · subst h1; simp [h]
    · have : (k < s + 1) ↔ (k < s) := by omega
      simp [h1, this]
  · by_cases h1 : c = 197
    · subst h1
      have e : fb_ct (lE g F ((k : Int) - 150)) (s + 1) = fb_ct (lE g F ((k : Int) - 150)) s := by
        rw [fb_ct_succ]
        unfold lE
        rw [h]; simp
      simp [e]
    · simp [h0, h1]
theorem knI_yes {I : Nat → Nat → Int32} {g : GD} {F : Nat → Int32} {s e : Nat} (h : lW g F s = true) (he : eE g (zR F) s = (e : Int) - 150) (he2 : e < 301) : xup (xup (knI I g F s) 196 s (iI (eE g (zR F) s))) 197 e (nI (fb_ct (lE g F ((e : Int) - 150)) s) + 1) = knI I g F (s + 1) := by
  funext c k
  simp only [xup_at, knI]
  by_cases h0 : c = 196
  · subst h0
    by_cases h1 : k = s
    · subst h1; simp [h]
    · have : (k < s + 1) ↔ (k < s) := by omega
      simp [h1, this]
  · by_cases h1 : c = 197
    · subst h1
      by_cases h2 : k = e
      · subst h2
        have e1 : fb_ct (lE g F ((k : Int) - 150)) (s + 1) = fb_ct (lE g F ((k : Int) - 150)) s + 1 := by
          rw [fb_ct_succ]
          unfold lE
          rw [h, he]; simp
        simp [he2, e1, nI_succ]
      · have e1 : fb_ct (lE g F ((k : Int) - 150)) (s + 1) = fb_ct (lE g F ((k : Int) - 150)) s := by
          rw [fb_ct_succ]
          have : lE g F ((k : Int) - 150) s = false := by
            unfold lE
            rw [h, he]
            have : ¬ ((e : Int) - 150 = (k : Int) - 150) := by omega
            simp [this]
          rw [this]; simp
        simp [h2, e1]
    · simp [h0, h1]
/-- the levels among 301, among 289 -/
def lvQ (g : GD) (F : Nat → Int32) (e : Nat) : Bool := decide (0 < lC g F ((e : Int) - 150))
theorem lC_big {g : GD} (hg : g ∈ gAll) {F : Nat → Int32} (ho : RO g F) {e : Int} (h : e < -144 ∨ 144 < e) : lC g F e = 0 := by
  unfold lC
  rw [fb_ct_zero]
  intro s _
  unfold lE
  have := eE_b hg ho s
  have : ¬ eE g (zR F) s = e := by omega
  simp [this]
theorem lvQ_P {g : GD} {F : Nat → Int32} (k : Nat) : lvQ g F (6 + k) = lvP g F k := by
  unfold lvQ lvP
  rw [show (((6 + k : Nat) : Int) - 150) = (k : Int) - 144 by omega]
theorem lvQ_ct {g : GD} (hg : g ∈ gAll) {F : Nat → Int32} (ho : RO g F) (k : Nat) : fb_ct (lvQ g F) (6 + k) = fb_ct (lvP g F) k := by
  rw [fb_ct_split]
  have : fb_ct (lvQ g F) 6 = 0 := fb_ct_zero.mpr (fun e he => by
    unfold lvQ
    rw [lC_big hg ho (by omega)]; rfl)
  rw [this, Nat.zero_add]
  exact fb_ct_cong (fun i _ => lvQ_P i)
theorem lvQ_all {g : GD} (hg : g ∈ gAll) {F : Nat → Int32} (ho : RO g F) : fb_ct (lvQ g F) 301 = lvN g F := by
  rw [show (301 : Nat) = 295 + 6 from rfl, fb_ct_split, show (295 : Nat) = 6 + 289 from rfl, lvQ_ct hg ho]
  have : fb_ct (fun k => lvQ g F (6 + 289 + k)) 6 = 0 := fb_ct_zero.mpr (fun e he => by
    unfold lvQ
    rw [lC_big hg ho (by omega)]; rfl)
  rw [this, Nat.add_zero]
  unfold lvN
  rfl
section KNOWS
variable {σ : XS} {I : Nat → Nat → Int32} {g : GD}
theorem knows_l3 (hS : Shp σ) (hg : g ∈ gAll) {F : Nat → Int32} (ho : RO g F) (hM : ∀ e, e < 301 → I 197 e = nI (lC g F ((e : Int) - 150))) (h35 : I 183 35 = 0) :
    ∃ J, xloop (f_X12_knows_b122 183) ((0 : Int32), xw σ I) = some (xw σ J) ∧ J 183 35 = nI (lvN g F) ∧ (∀ k, k < 289 → lvP g F k = true → J 198 (fb_ct (lvP g F) k) = iI ((k : Int) - 144)) ∧ ∀ a k, a ≠ 198 → ¬ (a = 183 ∧ k = 35) → J a k = I a k := by
  have hSt := (gSt_b hg).1
  have key : ∃ τ, xloop (f_X12_knows_b122 183) (nI 0, xw σ I) = some τ ∧ ∃ J, τ = xw σ J ∧ J 183 35 = nI (fb_ct (lvQ g F) 301) ∧ (∀ e, e < 301 → lvQ g F e = true → J 198 (fb_ct (lvQ g F) e) = iI ((e : Int) - 150)) ∧ ∀ a k, a ≠ 198 → ¬ (a = 183 ∧ k = 35) → J a k = I a k := by
    refine xforI (fun i x => ∃ J, x = (nI i, xw σ J) ∧ J 183 35 = nI (fb_ct (lvQ g F) i) ∧ (∀ e, e < i → lvQ g F e = true → J 198 (fb_ct (lvQ g F) e) = iI ((e : Int) - 150)) ∧ ∀ a k, a ≠ 198 → ¬ (a = 183 ∧ k = 35) → J a k = I a k) 301 ⟨I, rfl, h35, fun e he => by omega, fun _ _ _ _ => rfl⟩ ?_ ?_
    · rintro i x hi ⟨J, rfl, j1, j2, j3⟩
      have hb : lC g F ((i : Int) - 150) ≤ 65536 := Nat.le_trans (fb_ct_le _ _) hSt
      have hc := fb_ct_le (lvQ g F) i
      have hz : (nI (lC g F ((i : Int) - 150)) = 0) = (lC g F ((i : Int) - 150) = 0) := nn_eq (b := 0) (by omega) (by decide)
      by_cases h0 : lC g F ((i : Int) - 150) = 0
      · have hq : lvQ g F i = false := by unfold lvQ; rw [h0]; rfl
        refine ⟨(nI (i + 1), xw σ J), ?_, J, rfl, ?_, ?_, j3⟩
        · simp only [f_X12_knows_b122]
          rw [if_neg (by rw [show (301 : Int32) = nI 301 from rfl, nn_le (by omega) (by omega)]; omega)]
          simp (disch := first | assumption | omega) only [Option.bind_some, Option.map_some, xw_gR, xw_gN, xw_al, xw_ck, xw_uI, xw_ur, xup_at, xur_at, if_true, if_false, reduceIte, and_true, true_and, and_false, false_and, not_true_eq_false, not_false_eq_true, Nat.reduceEqDiff, eq_self, Nat.reduceAdd, Nat.reduceMul, kC1, kG1, kP1, kR1_0, kR1_1, kR1_2, kR1_3, kR1_4, kR1_5, kR1_6, kR1_7, kR1_8, kR1_9, kR1_10, kR1_11, kR1_12, kR1_13, kC2, kG2, kP2, kR2_0, kR2_1, kC3, kG3, kP3, kR3_0, kR3_1, kR3_2, kR3_3, kL4, kA4, kS4, kL5, kA5, kS5, kL6, kA6, kS6, kL7, kA7, kS7, kC8, kG8, kP8, kR8_0, kR8_1, kL9, kA9, kS9, kL10, kA10, kS10, kC11, kG11, kP11, kR11_0, kR11_1, kR11_2, kR11_3, kL12, kA12, kS12, kL13, kA13, kS13, kL14, kA14, kS14, kL15, kA15, kS15, kC16, kG16, kP16, kR16_0, kR16_1, kL17, kA17, kS17, kL18, kA18, kS18, kC19, kG19, kP19, kR19_0, kL20, kL141, kL146, kA146, kS146, kL151, kA151, kS151, kL156, kA156, kS156, kC157, kG157, kP157, kR157_0, kR157_1, kL158, kA158, kS158, kL159, kA159, kS159, kC161, kG161, kP161, kR161_0, kR161_1, kL162, kA162, kS162, kL163, kA163, kS163, kC165, kG165, kP165, kR165_0, kR165_1, kR165_2, kR165_3, kL166, kA166, kS166, kL167, kA167, kS167, kL168, kA168, kS168, kL169, kA169, kS169, kC170, kG170, kP170, kR170_0, kR170_1, kR170_2, kL171, kA171, kS171, kL172, kA172, kS172, kL173, kA173, kS173, kC174, kG174, kP174, kR174_0, kR174_1, kR174_2, kR174_3, kR174_4, kL175, kA175, kS175, kL176, kA176, kS176, kL177, kA177, kS177, kL178, kA178, kS178, kL179, kC180, kG180, kP180, kL181, kL182, kA182, kS182, kC183, kG183, kP183, kR183_1, kR183_3, kR183_5, kR183_6, kR183_7, kR183_8, kR183_9, kR183_21, kR183_26, kR183_27, kR183_30, kR183_31, kR183_33, kR183_34, kR183_36, kR183_37, kR183_38, kR183_39, kR183_40, kR183_41, kR183_42, kR183_43, kR183_44, kL184, kA184, kS184, kL185, kA185, kS185, kL186, kA186, kS186, kL187, kA187, kS187, kL188, kA188, kS188, kL189, kL190, kL191, kA191, kS191, kL192, kA192, kS192, kL193, kA193, kS193, kL194, kA194, kS194, kL195, kA195, kS195, kL196, kA196, kS196, kL197, kA197, kS197, kL198, kA198, kS198, kL199, kA199, kS199, kL200, kA200, kS200, kL201, kL202, kA202, kS202, kL203, kA203, kS203, kL204, kA204, kS204, kL205, kL206, kA206, kS206, j3 197 i (by decide) (by omega), hM i hi, h0, show (nI 0 = 0) = True from eq_true rfl]
          rw [nI_succ]
        · rw [j1, fb_ct_succ, hq]; simp
        · intro e he hq2
          by_cases hei : e = i
          · rw [hei, hq] at hq2; cases hq2
          · exact j2 e (by omega) hq2
      · have hq : lvQ g F i = true := by unfold lvQ; simp; omega
        refine ⟨(nI (i + 1), xw σ (xup (xup J 198 (fb_ct (lvQ g F) i) (iI ((i : Int) - 150))) 183 35 (nI (fb_ct (lvQ g F) i + 1)))), ?_, _, rfl, ?_, ?_, ?_⟩
        · simp only [f_X12_knows_b122]
          rw [if_neg (by rw [show (301 : Int32) = nI 301 from rfl, nn_le (by omega) (by omega)]; omega)]
          have e150 : nI i - (150 : Int32) = iI ((i : Int) - 150) := by rw [iI_n, show (150 : Int32) = iI 150 from rfl, iI_sub]
          simp (disch := first | assumption | omega) only [Option.bind_some, Option.map_some, xw_gR, xw_gN, xw_al, xw_ck, xw_uI, xw_ur, xup_at, xur_at, if_true, if_false, reduceIte, and_true, true_and, and_false, false_and, not_true_eq_false, not_false_eq_true, Nat.reduceEqDiff, eq_self, Nat.reduceAdd, Nat.reduceMul, kC1, kG1, kP1, kR1_0, kR1_1, kR1_2, kR1_3, kR1_4, kR1_5, kR1_6, kR1_7, kR1_8, kR1_9, kR1_10, kR1_11, kR1_12, kR1_13, kC2, kG2, kP2, kR2_0, kR2_1, kC3, kG3, kP3, kR3_0, kR3_1, kR3_2, kR3_3, kL4, kA4, kS4, kL5, kA5, kS5, kL6, kA6, kS6, kL7, kA7, kS7, kC8, kG8, kP8, kR8_0, kR8_1, kL9, kA9, kS9, kL10, kA10, kS10, kC11, kG11, kP11, kR11_0, kR11_1, kR11_2, kR11_3, kL12, kA12, kS12, kL13, kA13, kS13, kL14, kA14, kS14, kL15, kA15, kS15, kC16, kG16, kP16, kR16_0, kR16_1, kL17, kA17, kS17, kL18, kA18, kS18, kC19, kG19, kP19, kR19_0, kL20, kL141, kL146, kA146, kS146, kL151, kA151, kS151, kL156, kA156, kS156, kC157, kG157, kP157, kR157_0, kR157_1, kL158, kA158, kS158, kL159, kA159, kS159, kC161, kG161, kP161, kR161_0, kR161_1, kL162, kA162, kS162, kL163, kA163, kS163, kC165, kG165, kP165, kR165_0, kR165_1, kR165_2, kR165_3, kL166, kA166, kS166, kL167, kA167, kS167, kL168, kA168, kS168, kL169, kA169, kS169, kC170, kG170, kP170, kR170_0, kR170_1, kR170_2, kL171, kA171, kS171, kL172, kA172, kS172, kL173, kA173, kS173, kC174, kG174, kP174, kR174_0, kR174_1, kR174_2, kR174_3, kR174_4, kL175, kA175, kS175, kL176, kA176, kS176, kL177, kA177, kS177, kL178, kA178, kS178, kL179, kC180, kG180, kP180, kL181, kL182, kA182, kS182, kC183, kG183, kP183, kR183_1, kR183_3, kR183_5, kR183_6, kR183_7, kR183_8, kR183_9, kR183_21, kR183_26, kR183_27, kR183_30, kR183_31, kR183_33, kR183_34, kR183_36, kR183_37, kR183_38, kR183_39, kR183_40, kR183_41, kR183_42, kR183_43, kR183_44, kL184, kA184, kS184, kL185, kA185, kS185, kL186, kA186, kS186, kL187, kA187, kS187, kL188, kA188, kS188, kL189, kL190, kL191, kA191, kS191, kL192, kA192, kS192, kL193, kA193, kS193, kL194, kA194, kS194, kL195, kA195, kS195, kL196, kA196, kS196, kL197, kA197, kS197, kL198, kA198, kS198, kL199, kA199, kS199, kL200, kA200, kS200, kL201, kL202, kA202, kS202, kL203, kA203, kS203, kL204, kA204, kS204, kL205, kL206, kA206, kS206, j3 197 i (by decide) (by omega), hM i hi, hz, h0, j1, e150]
          rw [← nI_succ, ← nI_succ]
        · rw [xup_at, if_pos ⟨rfl, rfl⟩, fb_ct_succ, hq]; simp
        · intro e he hq2
          rw [xup_at, if_neg (by omega), xup_at]
          by_cases hei : e = i
          · rw [hei, if_pos ⟨rfl, rfl⟩]
          · rw [if_neg, j2 e (by omega) hq2]
            rintro ⟨_, z⟩
            exact hei (fb_ct_kth_one hq2 hq z)
        · intro a k h1 h2
          rw [xup_at, if_neg (by omega), xup_at, if_neg (by omega)]
          exact j3 a k h1 h2
    · rintro x ⟨J, rfl, j1, j2, j3⟩
      refine ⟨xw σ J, ?_, J, rfl, j1, j2, j3⟩
      simp only [f_X12_knows_b122]
      rw [if_pos (by decide)]
      rfl
  obtain ⟨τ, h1, J, rfl, j1, j2, j3⟩ := key
  refine ⟨J, h1, by rw [j1, lvQ_all hg ho], fun k hk hp => ?_, j3⟩
  have := j2 (6 + k) (by omega) (by rw [lvQ_P]; exact hp)
  rw [lvQ_ct hg ho] at this
  rw [this]
  congr 1; omega
theorem knows_l2 (hS : Shp σ) (hG : GRD I g) {F : Nat → Int32} (hF : F = I 191) (ho : RO g F) :
    ∃ J, xloop (f_X12_knows_b37 183) ((0 : Int32), xw σ (knI I g F 0)) = some (xw σ J) ∧ KNK J g F ∧ ∀ a k, ¬ (196 ≤ a ∧ a ≤ 198) → ¬ (a = 183 ∧ k = 35) → J a k = I a k := by
  have hg := hG.1
  have h16 := (gAll_b g hg).2.2.1
  have hSt := (gSt_b hg).1
  have hM0 : ∀ e, e < 301 → xup (knI I g F (gSt g)) 183 35 0 197 e = nI (lC g F ((e : Int) - 150)) := by
    intro e he
    rw [xup_at, if_neg (by omega)]
    unfold knI
    rw [if_neg (by omega), if_pos ⟨rfl, he⟩]
    rfl
  obtain ⟨J, e1, j1, j2, j3⟩ := knows_l3 (I := xup (knI I g F (gSt g)) 183 35 0) hS hg ho hM0 (by rw [xup_at, if_pos ⟨rfl, rfl⟩])
  refine ⟨J, ?_, ⟨fun s hs => ?_, fun e he => ?_, j1, j2⟩, fun a k h1 h2 => ?_⟩
  · have hGk : ∀ s, GRD (knI I g F s) g := fun s => GRD_c (fun a k z => knI_out (by unfold sGRD at z; omega) (by unfold sGRD at z; omega)) hG
    refine xforE (fun s : Nat => (nI s, xw σ (knI I g F s))) (gSt g) rfl (fun s hs => ?_) ?_
    · have hrow : knI I g F s 191 = F := by funext k; rw [hF, knI_out (by decide) (by decide)]
      have hL := isLawful12_ok (I := knI I g F s) hS (hGk s) (by rw [hrow]; exact ho) (nI s)
      rw [hrow, isB_n hg hs] at hL
      simp only [f_X12_knows_b37]
      simp (disch := first | assumption | omega) only [Option.bind_some, Option.map_some, xw_gR, xw_gN, xw_al, xw_ck, xw_uI, xw_ur, xup_at, xur_at, if_true, if_false, reduceIte, and_true, true_and, and_false, false_and, not_true_eq_false, not_false_eq_true, Nat.reduceEqDiff, eq_self, Nat.reduceAdd, Nat.reduceMul, kC1, kG1, kP1, kR1_0, kR1_1, kR1_2, kR1_3, kR1_4, kR1_5, kR1_6, kR1_7, kR1_8, kR1_9, kR1_10, kR1_11, kR1_12, kR1_13, kC2, kG2, kP2, kR2_0, kR2_1, kC3, kG3, kP3, kR3_0, kR3_1, kR3_2, kR3_3, kL4, kA4, kS4, kL5, kA5, kS5, kL6, kA6, kS6, kL7, kA7, kS7, kC8, kG8, kP8, kR8_0, kR8_1, kL9, kA9, kS9, kL10, kA10, kS10, kC11, kG11, kP11, kR11_0, kR11_1, kR11_2, kR11_3, kL12, kA12, kS12, kL13, kA13, kS13, kL14, kA14, kS14, kL15, kA15, kS15, kC16, kG16, kP16, kR16_0, kR16_1, kL17, kA17, kS17, kL18, kA18, kS18, kC19, kG19, kP19, kR19_0, kL20, kL141, kL146, kA146, kS146, kL151, kA151, kS151, kL156, kA156, kS156, kC157, kG157, kP157, kR157_0, kR157_1, kL158, kA158, kS158, kL159, kA159, kS159, kC161, kG161, kP161, kR161_0, kR161_1, kL162, kA162, kS162, kL163, kA163, kS163, kC165, kG165, kP165, kR165_0, kR165_1, kR165_2, kR165_3, kL166, kA166, kS166, kL167, kA167, kS167, kL168, kA168, kS168, kL169, kA169, kS169, kC170, kG170, kP170, kR170_0, kR170_1, kR170_2, kL171, kA171, kS171, kL172, kA172, kS172, kL173, kA173, kS173, kC174, kG174, kP174, kR174_0, kR174_1, kR174_2, kR174_3, kR174_4, kL175, kA175, kS175, kL176, kA176, kS176, kL177, kA177, kS177, kL178, kA178, kS178, kL179, kC180, kG180, kP180, kL181, kL182, kA182, kS182, kC183, kG183, kP183, kR183_1, kR183_3, kR183_5, kR183_6, kR183_7, kR183_8, kR183_9, kR183_21, kR183_26, kR183_27, kR183_30, kR183_31, kR183_33, kR183_34, kR183_36, kR183_37, kR183_38, kR183_39, kR183_40, kR183_41, kR183_42, kR183_43, kR183_44, kL184, kA184, kS184, kL185, kA185, kS185, kL186, kA186, kS186, kL187, kA187, kS187, kL188, kA188, kS188, kL189, kL190, kL191, kA191, kS191, kL192, kA192, kS192, kL193, kA193, kS193, kL194, kA194, kS194, kL195, kA195, kS195, kL196, kA196, kS196, kL197, kA197, kS197, kL198, kA198, kS198, kL199, kA199, kS199, kL200, kA200, kS200, kL201, kL202, kA202, kS202, kL203, kA203, kS203, kL204, kA204, kS204, kL205, kL206, kA206, kS206, states12_ok hS (hGk s), nn_le, show ¬ (gSt g ≤ s) by omega, hL]
      cases hl : lW g F s with
      | false =>
        rw [if_pos (by decide)]
        unfold f_X12_knows_j77
        simp (disch := first | assumption | omega) only [Option.bind_some, Option.map_some, xw_gR, xw_gN, xw_al, xw_ck, xw_uI, xw_ur, xup_at, xur_at, if_true, if_false, reduceIte, and_true, true_and, and_false, false_and, not_true_eq_false, not_false_eq_true, Nat.reduceEqDiff, eq_self, Nat.reduceAdd, Nat.reduceMul, kC1, kG1, kP1, kR1_0, kR1_1, kR1_2, kR1_3, kR1_4, kR1_5, kR1_6, kR1_7, kR1_8, kR1_9, kR1_10, kR1_11, kR1_12, kR1_13, kC2, kG2, kP2, kR2_0, kR2_1, kC3, kG3, kP3, kR3_0, kR3_1, kR3_2, kR3_3, kL4, kA4, kS4, kL5, kA5, kS5, kL6, kA6, kS6, kL7, kA7, kS7, kC8, kG8, kP8, kR8_0, kR8_1, kL9, kA9, kS9, kL10, kA10, kS10, kC11, kG11, kP11, kR11_0, kR11_1, kR11_2, kR11_3, kL12, kA12, kS12, kL13, kA13, kS13, kL14, kA14, kS14, kL15, kA15, kS15, kC16, kG16, kP16, kR16_0, kR16_1, kL17, kA17, kS17, kL18, kA18, kS18, kC19, kG19, kP19, kR19_0, kL20, kL141, kL146, kA146, kS146, kL151, kA151, kS151, kL156, kA156, kS156, kC157, kG157, kP157, kR157_0, kR157_1, kL158, kA158, kS158, kL159, kA159, kS159, kC161, kG161, kP161, kR161_0, kR161_1, kL162, kA162, kS162, kL163, kA163, kS163, kC165, kG165, kP165, kR165_0, kR165_1, kR165_2, kR165_3, kL166, kA166, kS166, kL167, kA167, kS167, kL168, kA168, kS168, kL169, kA169, kS169, kC170, kG170, kP170, kR170_0, kR170_1, kR170_2, kL171, kA171, kS171, kL172, kA172, kS172, kL173, kA173, kS173, kC174, kG174, kP174, kR174_0, kR174_1, kR174_2, kR174_3, kR174_4, kL175, kA175, kS175, kL176, kA176, kS176, kL177, kA177, kS177, kL178, kA178, kS178, kL179, kC180, kG180, kP180, kL181, kL182, kA182, kS182, kC183, kG183, kP183, kR183_1, kR183_3, kR183_5, kR183_6, kR183_7, kR183_8, kR183_9, kR183_21, kR183_26, kR183_27, kR183_30, kR183_31, kR183_33, kR183_34, kR183_36, kR183_37, kR183_38, kR183_39, kR183_40, kR183_41, kR183_42, kR183_43, kR183_44, kL184, kA184, kS184, kL185, kA185, kS185, kL186, kA186, kS186, kL187, kA187, kS187, kL188, kA188, kS188, kL189, kL190, kL191, kA191, kS191, kL192, kA192, kS192, kL193, kA193, kS193, kL194, kA194, kS194, kL195, kA195, kS195, kL196, kA196, kS196, kL197, kA197, kS197, kL198, kA198, kS198, kL199, kA199, kS199, kL200, kA200, kS200, kL201, kL202, kA202, kS202, kL203, kA203, kS203, kL204, kA204, kS204, kL205, kL206, kA206, kS206, show (100000 : Int32) = nI 100000 from rfl, nn_le, Nat.le_refl]
        rw [knI_no hl, nI_succ]
      | true =>
        rw [if_neg (by decide)]
        have hEb := eE_b hg ho s
        obtain ⟨e, he, he2⟩ : ∃ e : Nat, eE g (zR F) s = (e : Int) - 150 ∧ e < 301 := ⟨(eE g (zR F) s + 150).toNat, by omega, by omega⟩
        have hE := energy12_ok (I := knI I g F s) (s := s) (r := g.2.1) hS (hGk s) (xw_K hS (a := 191) (by decide) (by decide) (by decide)) (by omega) (Nat.le_refl _)
        rw [hrow] at hE
        have hpa := eP_all hg (zR F) s
        unfold gSz at hpa
        rw [hpa] at hE
        have h18 := (hGk s).2.2.2.2.2.2.2.2.2.1
        simp (disch := first | assumption | omega) only [Option.bind_some, Option.map_some, xw_gR, xw_gN, xw_al, xw_ck, xw_uI, xw_ur, xup_at, xur_at, if_true, if_false, reduceIte, and_true, true_and, and_false, false_and, not_true_eq_false, not_false_eq_true, Nat.reduceEqDiff, eq_self, Nat.reduceAdd, Nat.reduceMul, kC1, kG1, kP1, kR1_0, kR1_1, kR1_2, kR1_3, kR1_4, kR1_5, kR1_6, kR1_7, kR1_8, kR1_9, kR1_10, kR1_11, kR1_12, kR1_13, kC2, kG2, kP2, kR2_0, kR2_1, kC3, kG3, kP3, kR3_0, kR3_1, kR3_2, kR3_3, kL4, kA4, kS4, kL5, kA5, kS5, kL6, kA6, kS6, kL7, kA7, kS7, kC8, kG8, kP8, kR8_0, kR8_1, kL9, kA9, kS9, kL10, kA10, kS10, kC11, kG11, kP11, kR11_0, kR11_1, kR11_2, kR11_3, kL12, kA12, kS12, kL13, kA13, kS13, kL14, kA14, kS14, kL15, kA15, kS15, kC16, kG16, kP16, kR16_0, kR16_1, kL17, kA17, kS17, kL18, kA18, kS18, kC19, kG19, kP19, kR19_0, kL20, kL141, kL146, kA146, kS146, kL151, kA151, kS151, kL156, kA156, kS156, kC157, kG157, kP157, kR157_0, kR157_1, kL158, kA158, kS158, kL159, kA159, kS159, kC161, kG161, kP161, kR161_0, kR161_1, kL162, kA162, kS162, kL163, kA163, kS163, kC165, kG165, kP165, kR165_0, kR165_1, kR165_2, kR165_3, kL166, kA166, kS166, kL167, kA167, kS167, kL168, kA168, kS168, kL169, kA169, kS169, kC170, kG170, kP170, kR170_0, kR170_1, kR170_2, kL171, kA171, kS171, kL172, kA172, kS172, kL173, kA173, kS173, kC174, kG174, kP174, kR174_0, kR174_1, kR174_2, kR174_3, kR174_4, kL175, kA175, kS175, kL176, kA176, kS176, kL177, kA177, kS177, kL178, kA178, kS178, kL179, kC180, kG180, kP180, kL181, kL182, kA182, kS182, kC183, kG183, kP183, kR183_1, kR183_3, kR183_5, kR183_6, kR183_7, kR183_8, kR183_9, kR183_21, kR183_26, kR183_27, kR183_30, kR183_31, kR183_33, kR183_34, kR183_36, kR183_37, kR183_38, kR183_39, kR183_40, kR183_41, kR183_42, kR183_43, kR183_44, kL184, kA184, kS184, kL185, kA185, kS185, kL186, kA186, kS186, kL187, kA187, kS187, kL188, kA188, kS188, kL189, kL190, kL191, kA191, kS191, kL192, kA192, kS192, kL193, kA193, kS193, kL194, kA194, kS194, kL195, kA195, kS195, kL196, kA196, kS196, kL197, kA197, kS197, kL198, kA198, kS198, kL199, kA199, kS199, kL200, kA200, kS200, kL201, kL202, kA202, kS202, kL203, kA203, kS203, kL204, kA204, kS204, kL205, kL206, kA206, kS206, h18]
        rw [hE, Option.bind_some]
        unfold f_X12_knows_j77
        have e150 : (150 : Int32) + iI (eE g (zR F) s) = nI e := by rw [show (150 : Int32) = iI 150 from rfl, iI_add, iI_n]; congr 1; omega
        have e1e : ((100000 : Int32) ≤ iI (eE g (zR F) s)) = False := by
          rw [show (100000 : Int32) = iI 100000 from rfl, iI_le (by omega) (by omega) (by omega) (by omega)]
          exact eq_false (by omega)
        have kv : knI I g F s 197 e = nI (fb_ct (lE g F ((e : Int) - 150)) s) := by
          unfold knI
          rw [if_neg (by omega), if_pos ⟨rfl, he2⟩]
        simp (disch := first | assumption | omega) only [Option.bind_some, Option.map_some, xw_gR, xw_gN, xw_al, xw_ck, xw_uI, xw_ur, xup_at, xur_at, if_true, if_false, reduceIte, and_true, true_and, and_false, false_and, not_true_eq_false, not_false_eq_true, Nat.reduceEqDiff, eq_self, Nat.reduceAdd, Nat.reduceMul, kC1, kG1, kP1, kR1_0, kR1_1, kR1_2, kR1_3, kR1_4, kR1_5, kR1_6, kR1_7, kR1_8, kR1_9, kR1_10, kR1_11, kR1_12, kR1_13, kC2, kG2, kP2, kR2_0, kR2_1, kC3, kG3, kP3, kR3_0, kR3_1, kR3_2, kR3_3, kL4, kA4, kS4, kL5, kA5, kS5, kL6, kA6, kS6, kL7, kA7, kS7, kC8, kG8, kP8, kR8_0, kR8_1, kL9, kA9, kS9, kL10, kA10, kS10, kC11, kG11, kP11, kR11_0, kR11_1, kR11_2, kR11_3, kL12, kA12, kS12, kL13, kA13, kS13, kL14, kA14, kS14, kL15, kA15, kS15, kC16, kG16, kP16, kR16_0, kR16_1, kL17, kA17, kS17, kL18, kA18, kS18, kC19, kG19, kP19, kR19_0, kL20, kL141, kL146, kA146, kS146, kL151, kA151, kS151, kL156, kA156, kS156, kC157, kG157, kP157, kR157_0, kR157_1, kL158, kA158, kS158, kL159, kA159, kS159, kC161, kG161, kP161, kR161_0, kR161_1, kL162, kA162, kS162, kL163, kA163, kS163, kC165, kG165, kP165, kR165_0, kR165_1, kR165_2, kR165_3, kL166, kA166, kS166, kL167, kA167, kS167, kL168, kA168, kS168, kL169, kA169, kS169, kC170, kG170, kP170, kR170_0, kR170_1, kR170_2, kL171, kA171, kS171, kL172, kA172, kS172, kL173, kA173, kS173, kC174, kG174, kP174, kR174_0, kR174_1, kR174_2, kR174_3, kR174_4, kL175, kA175, kS175, kL176, kA176, kS176, kL177, kA177, kS177, kL178, kA178, kS178, kL179, kC180, kG180, kP180, kL181, kL182, kA182, kS182, kC183, kG183, kP183, kR183_1, kR183_3, kR183_5, kR183_6, kR183_7, kR183_8, kR183_9, kR183_21, kR183_26, kR183_27, kR183_30, kR183_31, kR183_33, kR183_34, kR183_36, kR183_37, kR183_38, kR183_39, kR183_40, kR183_41, kR183_42, kR183_43, kR183_44, kL184, kA184, kS184, kL185, kA185, kS185, kL186, kA186, kS186, kL187, kA187, kS187, kL188, kA188, kS188, kL189, kL190, kL191, kA191, kS191, kL192, kA192, kS192, kL193, kA193, kS193, kL194, kA194, kS194, kL195, kA195, kS195, kL196, kA196, kS196, kL197, kA197, kS197, kL198, kA198, kS198, kL199, kA199, kS199, kL200, kA200, kS200, kL201, kL202, kA202, kS202, kL203, kA203, kS203, kL204, kA204, kS204, kL205, kL206, kA206, kS206, e1e, e150, kv]
        rw [knI_yes hl he he2, nI_succ]
    · simp only [f_X12_knows_b37]
      simp (disch := first | assumption | omega) only [Option.bind_some, Option.map_some, xw_gR, xw_gN, xw_al, xw_ck, xw_uI, xw_ur, xup_at, xur_at, if_true, if_false, reduceIte, and_true, true_and, and_false, false_and, not_true_eq_false, not_false_eq_true, Nat.reduceEqDiff, eq_self, Nat.reduceAdd, Nat.reduceMul, kC1, kG1, kP1, kR1_0, kR1_1, kR1_2, kR1_3, kR1_4, kR1_5, kR1_6, kR1_7, kR1_8, kR1_9, kR1_10, kR1_11, kR1_12, kR1_13, kC2, kG2, kP2, kR2_0, kR2_1, kC3, kG3, kP3, kR3_0, kR3_1, kR3_2, kR3_3, kL4, kA4, kS4, kL5, kA5, kS5, kL6, kA6, kS6, kL7, kA7, kS7, kC8, kG8, kP8, kR8_0, kR8_1, kL9, kA9, kS9, kL10, kA10, kS10, kC11, kG11, kP11, kR11_0, kR11_1, kR11_2, kR11_3, kL12, kA12, kS12, kL13, kA13, kS13, kL14, kA14, kS14, kL15, kA15, kS15, kC16, kG16, kP16, kR16_0, kR16_1, kL17, kA17, kS17, kL18, kA18, kS18, kC19, kG19, kP19, kR19_0, kL20, kL141, kL146, kA146, kS146, kL151, kA151, kS151, kL156, kA156, kS156, kC157, kG157, kP157, kR157_0, kR157_1, kL158, kA158, kS158, kL159, kA159, kS159, kC161, kG161, kP161, kR161_0, kR161_1, kL162, kA162, kS162, kL163, kA163, kS163, kC165, kG165, kP165, kR165_0, kR165_1, kR165_2, kR165_3, kL166, kA166, kS166, kL167, kA167, kS167, kL168, kA168, kS168, kL169, kA169, kS169, kC170, kG170, kP170, kR170_0, kR170_1, kR170_2, kL171, kA171, kS171, kL172, kA172, kS172, kL173, kA173, kS173, kC174, kG174, kP174, kR174_0, kR174_1, kR174_2, kR174_3, kR174_4, kL175, kA175, kS175, kL176, kA176, kS176, kL177, kA177, kS177, kL178, kA178, kS178, kL179, kC180, kG180, kP180, kL181, kL182, kA182, kS182, kC183, kG183, kP183, kR183_1, kR183_3, kR183_5, kR183_6, kR183_7, kR183_8, kR183_9, kR183_21, kR183_26, kR183_27, kR183_30, kR183_31, kR183_33, kR183_34, kR183_36, kR183_37, kR183_38, kR183_39, kR183_40, kR183_41, kR183_42, kR183_43, kR183_44, kL184, kA184, kS184, kL185, kA185, kS185, kL186, kA186, kS186, kL187, kA187, kS187, kL188, kA188, kS188, kL189, kL190, kL191, kA191, kS191, kL192, kA192, kS192, kL193, kA193, kS193, kL194, kA194, kS194, kL195, kA195, kS195, kL196, kA196, kS196, kL197, kA197, kS197, kL198, kA198, kS198, kL199, kA199, kS199, kL200, kA200, kS200, kL201, kL202, kA202, kS202, kL203, kA203, kS203, kL204, kA204, kS204, kL205, kL206, kA206, kS206, states12_ok hS (hGk (gSt g)), nn_le, Nat.le_refl]
      rw [e1]
      rfl
  · rw [j3 196 s (by omega) (by omega), xup_at, if_neg (by omega)]
    unfold knI
    rw [if_pos ⟨rfl, hs⟩]
  · rw [j3 197 e (by omega) (by omega)]
    exact hM0 e he
  · rw [j3 a k (by omega) h2, xup_at, if_neg (by omega), knI_out (by omega) (by omega)]
end KNOWS
end
section
/-! the model's own notes change -/
theorem IV.model {n : Nat} {σ : XS} {g : GD} {gT gP : GH} {st : Nat} (H : IV n σ g gT gP st) {I' : Nat → Nat → Int32} (u : ∀ a k, (a < 183 ∨ 206 < a ∨ a = 184 ∨ a = 191 ∨ (193 ≤ a ∧ a ≤ 195) ∨ (a = 183 ∧ (k = 2 ∨ (16 ≤ k ∧ k ≤ 20) ∨ k = 28 ∨ k = 29))) → I' a k = xI σ a k) (hk : KNW I' g) : IV n (xw σ I') g gT gP st := by
  have hg := H.grd.1
  have hc := H.cells
  refine ⟨H.shp, H.stn, (u 1 15 (by omega)).trans H.sts, TAP_c (fun a k q => u a k (by unfold sTAP at q; omega)) H.tap, ?_, GRD_c (fun a k q => u a k (by unfold sGRD at q; omega)) H.grd, NOW_c hg (fun a k q => u a k (by unfold sNOW at q; omega)) H.now, PST_c hg (fun a k q => u a k (by unfold sPST at q; omega)) (Nat.le_refl _) (fun _ _ => rfl) (fun _ _ => rfl) H.pst, SLT_c hg (fun a k q => u a k (by unfold sSLT at q; omega)) (Nat.le_refl _) (fun _ _ => rfl) (fun _ _ => rfl) H.slt, CCH_c (fun a k q => u a k (by unfold sCCH at q; rw [xw_R] at q; omega)) (Nat.le_refl _) (fun _ _ => rfl) (fun _ _ => rfl) H.cch, hk, H.cel⟩
  show I' 1 14 = I' 183 16
  rw [u _ _ (by omega), u _ _ (by omega)]; exact H.plc
theorem knows_ok {n : Nat} {σ : XS} {g : GD} {gT gP : GH} {st : Nat} (H : IV n σ g gT gP st) : ∃ I', f_X12_knows σ 183 = some (xw σ I') ∧ IV n (xw σ I') g gT gP st ∧ KNK I' g (I' 191) ∧ (∀ b j, ¬ (196 ≤ b ∧ b ≤ 198) → ¬ (b = 183 ∧ (j = 32 ∨ j = 35)) → I' b j = xI σ b j) := by
  have hS := H.shp
  have hG := H.grd
  rcases H.knw with h0 | ⟨h1, hk⟩
  · obtain ⟨z, hz⟩ : ∃ z, z = xup (xI σ) 183 32 1 := ⟨_, rfl⟩
    have uz : ∀ a k, ¬ (a = 183 ∧ k = 32) → z a k = xI σ a k := fun a k h => by rw [hz, xup_at, if_neg h]
    have hGz : GRD z g := GRD_c (fun a k q => uz a k (by unfold sGRD at q; omega)) hG
    have hrow : z 191 = xI σ 191 := by funext k; exact uz 191 k (by omega)
    obtain ⟨J, e1, j1, j2⟩ := knows_l2 (I := z) hS hGz rfl (by rw [hrow]; exact H.now.2.1)
    have rJ : J 191 = xI σ 191 := by funext k; rw [j2 191 k (by omega) (by omega), hrow]
    have uJ : ∀ b j, ¬ (196 ≤ b ∧ b ≤ 198) → ¬ (b = 183 ∧ (j = 32 ∨ j = 35)) → J b j = xI σ b j := fun b j h1 h2 => by rw [j2 b j h1 (by omega), uz b j (by omega)]
    have kJ : KNK J g (J 191) := by rw [rJ, ← hrow]; exact j1
    refine ⟨J, ?_, H.model (fun a k h => uJ a k (by omega) (by omega)) (.inr ⟨?_, kJ⟩), kJ, uJ⟩
    · show f_X12_knows (xw σ (xI σ)) 183 = _
      unfold f_X12_knows
      simp (disch := first | assumption | omega) only [Option.bind_some, Option.map_some, xw_gR, xw_gN, xw_al, xw_ck, xw_uI, xw_ur, xup_at, xur_at, if_true, if_false, reduceIte, and_true, true_and, and_false, false_and, not_true_eq_false, not_false_eq_true, Nat.reduceEqDiff, eq_self, Nat.reduceAdd, Nat.reduceMul, kC1, kG1, kP1, kR1_0, kR1_1, kR1_2, kR1_3, kR1_4, kR1_5, kR1_6, kR1_7, kR1_8, kR1_9, kR1_10, kR1_11, kR1_12, kR1_13, kC2, kG2, kP2, kR2_0, kR2_1, kC3, kG3, kP3, kR3_0, kR3_1, kR3_2, kR3_3, kL4, kA4, kS4, kL5, kA5, kS5, kL6, kA6, kS6, kL7, kA7, kS7, kC8, kG8, kP8, kR8_0, kR8_1, kL9, kA9, kS9, kL10, kA10, kS10, kC11, kG11, kP11, kR11_0, kR11_1, kR11_2, kR11_3, kL12, kA12, kS12, kL13, kA13, kS13, kL14, kA14, kS14, kL15, kA15, kS15, kC16, kG16, kP16, kR16_0, kR16_1, kL17, kA17, kS17, kL18, kA18, kS18, kC19, kG19, kP19, kR19_0, kL20, kL141, kL146, kA146, kS146, kL151, kA151, kS151, kL156, kA156, kS156, kC157, kG157, kP157, kR157_0, kR157_1, kL158, kA158, kS158, kL159, kA159, kS159, kC161, kG161, kP161, kR161_0, kR161_1, kL162, kA162, kS162, kL163, kA163, kS163, kC165, kG165, kP165, kR165_0, kR165_1, kR165_2, kR165_3, kL166, kA166, kS166, kL167, kA167, kS167, kL168, kA168, kS168, kL169, kA169, kS169, kC170, kG170, kP170, kR170_0, kR170_1, kR170_2, kL171, kA171, kS171, kL172, kA172, kS172, kL173, kA173, kS173, kC174, kG174, kP174, kR174_0, kR174_1, kR174_2, kR174_3, kR174_4, kL175, kA175, kS175, kL176, kA176, kS176, kL177, kA177, kS177, kL178, kA178, kS178, kL179, kC180, kG180, kP180, kL181, kL182, kA182, kS182, kC183, kG183, kP183, kR183_1, kR183_3, kR183_5, kR183_6, kR183_7, kR183_8, kR183_9, kR183_21, kR183_26, kR183_27, kR183_30, kR183_31, kR183_33, kR183_34, kR183_36, kR183_37, kR183_38, kR183_39, kR183_40, kR183_41, kR183_42, kR183_43, kR183_44, kL184, kA184, kS184, kL185, kA185, kS185, kL186, kA186, kS186, kL187, kA187, kS187, kL188, kA188, kS188, kL189, kL190, kL191, kA191, kS191, kL192, kA192, kS192, kL193, kA193, kS193, kL194, kA194, kS194, kL195, kA195, kS195, kL196, kA196, kS196, kL197, kA197, kS197, kL198, kA198, kS198, kL199, kA199, kS199, kL200, kA200, kS200, kL201, kL202, kA202, kS202, kL203, kA203, kS203, kL204, kA204, kS204, kL205, kL206, kA206, kS206, h0]
      rw [← hz]
      refine xforE (fun j : Nat => (nI j, xw σ (fun c k => if c = 197 ∧ k < j then nI 0 else z c k))) 301 ?_ (fun j hj => ?_) ?_
      · congr 2
        funext c k
        rw [if_neg (by omega)]
      · simp only [f_X12_knows_b15]
        rw [if_neg (by rw [show (301 : Int32) = nI 301 from rfl, nn_le (by omega) (by omega)]; omega)]
        simp (disch := first | assumption | omega) only [Option.bind_some, Option.map_some, xw_gR, xw_gN, xw_al, xw_ck, xw_uI, xw_ur, xup_at, xur_at, if_true, if_false, reduceIte, and_true, true_and, and_false, false_and, not_true_eq_false, not_false_eq_true, Nat.reduceEqDiff, eq_self, Nat.reduceAdd, Nat.reduceMul, kC1, kG1, kP1, kR1_0, kR1_1, kR1_2, kR1_3, kR1_4, kR1_5, kR1_6, kR1_7, kR1_8, kR1_9, kR1_10, kR1_11, kR1_12, kR1_13, kC2, kG2, kP2, kR2_0, kR2_1, kC3, kG3, kP3, kR3_0, kR3_1, kR3_2, kR3_3, kL4, kA4, kS4, kL5, kA5, kS5, kL6, kA6, kS6, kL7, kA7, kS7, kC8, kG8, kP8, kR8_0, kR8_1, kL9, kA9, kS9, kL10, kA10, kS10, kC11, kG11, kP11, kR11_0, kR11_1, kR11_2, kR11_3, kL12, kA12, kS12, kL13, kA13, kS13, kL14, kA14, kS14, kL15, kA15, kS15, kC16, kG16, kP16, kR16_0, kR16_1, kL17, kA17, kS17, kL18, kA18, kS18, kC19, kG19, kP19, kR19_0, kL20, kL141, kL146, kA146, kS146, kL151, kA151, kS151, kL156, kA156, kS156, kC157, kG157, kP157, kR157_0, kR157_1, kL158, kA158, kS158, kL159, kA159, kS159, kC161, kG161, kP161, kR161_0, kR161_1, kL162, kA162, kS162, kL163, kA163, kS163, kC165, kG165, kP165, kR165_0, kR165_1, kR165_2, kR165_3, kL166, kA166, kS166, kL167, kA167, kS167, kL168, kA168, kS168, kL169, kA169, kS169, kC170, kG170, kP170, kR170_0, kR170_1, kR170_2, kL171, kA171, kS171, kL172, kA172, kS172, kL173, kA173, kS173, kC174, kG174, kP174, kR174_0, kR174_1, kR174_2, kR174_3, kR174_4, kL175, kA175, kS175, kL176, kA176, kS176, kL177, kA177, kS177, kL178, kA178, kS178, kL179, kC180, kG180, kP180, kL181, kL182, kA182, kS182, kC183, kG183, kP183, kR183_1, kR183_3, kR183_5, kR183_6, kR183_7, kR183_8, kR183_9, kR183_21, kR183_26, kR183_27, kR183_30, kR183_31, kR183_33, kR183_34, kR183_36, kR183_37, kR183_38, kR183_39, kR183_40, kR183_41, kR183_42, kR183_43, kR183_44, kL184, kA184, kS184, kL185, kA185, kS185, kL186, kA186, kS186, kL187, kA187, kS187, kL188, kA188, kS188, kL189, kL190, kL191, kA191, kS191, kL192, kA192, kS192, kL193, kA193, kS193, kL194, kA194, kS194, kL195, kA195, kS195, kL196, kA196, kS196, kL197, kA197, kS197, kL198, kA198, kS198, kL199, kA199, kS199, kL200, kA200, kS200, kL201, kL202, kA202, kS202, kL203, kA203, kS203, kL204, kA204, kS204, kL205, kL206, kA206, kS206]
        rw [nI_succ]
        congr 4
        funext c k
        simp only [xup_at]
        by_cases q : c = 197
        · subst q
          by_cases q2 : k = j
          · subst q2; simp; rfl
          · have : (k < j + 1) ↔ (k < j) := by omega
            simp [q2, this]
        · simp [q]
      · simp only [f_X12_knows_b15]
        rw [if_pos (by decide)]
        have e : (fun c k => if c = 197 ∧ k < 301 then nI 0 else z c k) = knI z g (z 191) 0 := by
          funext c k
          unfold knI
          rw [if_neg (show ¬ (c = 196 ∧ k < 0) by omega)]
          rfl
        rw [e, e1]
        rfl
    · rw [j2 183 32 (by omega) (by omega), hz, xup_at, if_pos ⟨rfl, rfl⟩]
  · refine ⟨xI σ, ?_, H, hk, fun _ _ _ _ => rfl⟩
    show f_X12_knows (xw σ (xI σ)) 183 = _
    unfold f_X12_knows
    simp (disch := first | assumption | omega) only [Option.bind_some, Option.map_some, xw_gR, xw_gN, xw_al, xw_ck, xw_uI, xw_ur, xup_at, xur_at, if_true, if_false, reduceIte, and_true, true_and, and_false, false_and, not_true_eq_false, not_false_eq_true, Nat.reduceEqDiff, eq_self, Nat.reduceAdd, Nat.reduceMul, kC1, kG1, kP1, kR1_0, kR1_1, kR1_2, kR1_3, kR1_4, kR1_5, kR1_6, kR1_7, kR1_8, kR1_9, kR1_10, kR1_11, kR1_12, kR1_13, kC2, kG2, kP2, kR2_0, kR2_1, kC3, kG3, kP3, kR3_0, kR3_1, kR3_2, kR3_3, kL4, kA4, kS4, kL5, kA5, kS5, kL6, kA6, kS6, kL7, kA7, kS7, kC8, kG8, kP8, kR8_0, kR8_1, kL9, kA9, kS9, kL10, kA10, kS10, kC11, kG11, kP11, kR11_0, kR11_1, kR11_2, kR11_3, kL12, kA12, kS12, kL13, kA13, kS13, kL14, kA14, kS14, kL15, kA15, kS15, kC16, kG16, kP16, kR16_0, kR16_1, kL17, kA17, kS17, kL18, kA18, kS18, kC19, kG19, kP19, kR19_0, kL20, kL141, kL146, kA146, kS146, kL151, kA151, kS151, kL156, kA156, kS156, kC157, kG157, kP157, kR157_0, kR157_1, kL158, kA158, kS158, kL159, kA159, kS159, kC161, kG161, kP161, kR161_0, kR161_1, kL162, kA162, kS162, kL163, kA163, kS163, kC165, kG165, kP165, kR165_0, kR165_1, kR165_2, kR165_3, kL166, kA166, kS166, kL167, kA167, kS167, kL168, kA168, kS168, kL169, kA169, kS169, kC170, kG170, kP170, kR170_0, kR170_1, kR170_2, kL171, kA171, kS171, kL172, kA172, kS172, kL173, kA173, kS173, kC174, kG174, kP174, kR174_0, kR174_1, kR174_2, kR174_3, kR174_4, kL175, kA175, kS175, kL176, kA176, kS176, kL177, kA177, kS177, kL178, kA178, kS178, kL179, kC180, kG180, kP180, kL181, kL182, kA182, kS182, kC183, kG183, kP183, kR183_1, kR183_3, kR183_5, kR183_6, kR183_7, kR183_8, kR183_9, kR183_21, kR183_26, kR183_27, kR183_30, kR183_31, kR183_33, kR183_34, kR183_36, kR183_37, kR183_38, kR183_39, kR183_40, kR183_41, kR183_42, kR183_43, kR183_44, kL184, kA184, kS184, kL185, kA185, kS185, kL186, kA186, kS186, kL187, kA187, kS187, kL188, kA188, kS188, kL189, kL190, kL191, kA191, kS191, kL192, kA192, kS192, kL193, kA193, kS193, kL194, kA194, kS194, kL195, kA195, kS195, kL196, kA196, kS196, kL197, kA197, kS197, kL198, kA198, kS198, kL199, kA199, kS199, kL200, kA200, kS200, kL201, kL202, kA202, kS202, kL203, kA203, kS203, kL204, kA204, kS204, kL205, kL206, kA206, kS206, h1, one0]
end
section
/-! the levels that the class gathers -/
def cU (p : Nat → Bool) (m N : Nat) : Nat := fb_ct (fun i => p (m + i)) (N - m)
theorem cU_s (p : Nat → Bool) {m N : Nat} (h : m < N) : cU p m N = (if p m then 1 else 0) + cU p (m + 1) N := by
  unfold cU
  rw [show N - m = 1 + (N - (m + 1)) by omega, fb_ct_split]
  congr 1
  · show 0 + (if p (m + 0) then 1 else 0) = _
    rw [Nat.add_zero, Nat.zero_add]
  · exact fb_ct_cong (fun i _ => by rw [← Nat.add_assoc])
theorem cU_0 (p : Nat → Bool) (N : Nat) : cU p 0 N = fb_ct p N := by
  unfold cU
  exact fb_ct_cong (fun i _ => by rw [Nat.zero_add])
theorem cU_e (p : Nat → Bool) (N : Nat) : cU p N N = 0 := by
  unfold cU
  rw [Nat.sub_self]; rfl
theorem cU_le (p : Nat → Bool) (m N : Nat) : cU p m N ≤ N := Nat.le_trans (fb_ct_le _ _) (Nat.sub_le _ _)
section OF
variable {σ : XS} {I : Nat → Nat → Int32} {g : GD} {F : Nat → Int32} {E c m : Nat}
theorem of_at (hS : Shp σ) (hE : EnO σ E c m) {s : Nat} (hs : s < m) : f_X2_of (xw σ I) E (nI s) = some (I c s) := by
  have hm := hE.2.2.2.1
  unfold f_X2_of
  rw [if_neg (nI_pos (by omega)), xw_gR, hE.R4 hS, Option.bind_some, xw_al, hE.L, Option.bind_some, if_neg (by rw [nn_le (by omega) (by omega)]; omega), Option.bind_some, xw_aI hE.2.2.1 hs (by omega), Option.bind_some]
theorem of_ok (hS : Shp σ) (hE : EnO σ E c m) (hK : ENK I (xR σ) (xlen σ) E g F) {s : Nat} (hs : s < 2 ^ gSz g) : f_X2_of (xw σ I) E (nI s) = some (iI (eE g (zR F) s)) := by
  have h1 := hK.1
  rw [hE.2.1] at h1
  unfold xlen at h1
  rw [hE.2.2.1] at h1
  rw [of_at hS hE (show s < m by exact Nat.lt_of_lt_of_le hs h1)]
  have := hK.2 s hs
  rw [hE.2.1] at this
  rw [this]
theorem fillI_ok {a n : Nat} {v : Int32} (h : σ.1 a = (20, n)) (hn : n < 2147483648) : f_J7_fill_53178 (xw σ I) a v = some (xw σ (xur I a (fun j => if j < n then v else I a j))) := fill_ok (σ := xw σ I) (congrArg Prod.fst h) (congrArg Prod.snd h) hn
end OF
section GATHER
variable {σ : XS} {I : Nat → Nat → Int32} {g : GD} {F : Nat → Int32} {c m : Nat}
theorem list_ok (hS : Shp σ) (hg : g ∈ gAll) (hM : WAY I 166 g F) :
    ∃ J, f_X4_listLevels (xw σ I) 165 = some (xw σ J) ∧ J 165 4 = nI (lvN g F) ∧ (∀ k, k < 289 → lvP g F k = true → J 169 (fb_ct (lvP g F) k) = iI ((k : Int) - 144)) ∧ ∀ a k, a ≠ 169 → ¬ (a = 165 ∧ k = 4) → J a k = I a k := by
  have hSt := (gSt_b hg).1
  unfold f_X4_listLevels
  simp (disch := first | assumption | omega) only [Option.bind_some, Option.map_some, xw_gR, xw_gN, xw_al, xw_ck, xw_uI, xw_ur, xup_at, xur_at, if_true, if_false, reduceIte, and_true, true_and, and_false, false_and, not_true_eq_false, not_false_eq_true, Nat.reduceEqDiff, eq_self, Nat.reduceAdd, Nat.reduceMul, kC1, kG1, kP1, kR1_0, kR1_1, kR1_2, kR1_3, kR1_4, kR1_5, kR1_6, kR1_7, kR1_8, kR1_9, kR1_10, kR1_11, kR1_12, kR1_13, kC2, kG2, kP2, kR2_0, kR2_1, kC3, kG3, kP3, kR3_0, kR3_1, kR3_2, kR3_3, kL4, kA4, kS4, kL5, kA5, kS5, kL6, kA6, kS6, kL7, kA7, kS7, kC8, kG8, kP8, kR8_0, kR8_1, kL9, kA9, kS9, kL10, kA10, kS10, kC11, kG11, kP11, kR11_0, kR11_1, kR11_2, kR11_3, kL12, kA12, kS12, kL13, kA13, kS13, kL14, kA14, kS14, kL15, kA15, kS15, kC16, kG16, kP16, kR16_0, kR16_1, kL17, kA17, kS17, kL18, kA18, kS18, kC19, kG19, kP19, kR19_0, kL20, kL141, kL146, kA146, kS146, kL151, kA151, kS151, kL156, kA156, kS156, kC157, kG157, kP157, kR157_0, kR157_1, kL158, kA158, kS158, kL159, kA159, kS159, kC161, kG161, kP161, kR161_0, kR161_1, kL162, kA162, kS162, kL163, kA163, kS163, kC165, kG165, kP165, kR165_0, kR165_1, kR165_2, kR165_3, kL166, kA166, kS166, kL167, kA167, kS167, kL168, kA168, kS168, kL169, kA169, kS169, kC170, kG170, kP170, kR170_0, kR170_1, kR170_2, kL171, kA171, kS171, kL172, kA172, kS172, kL173, kA173, kS173, kC174, kG174, kP174, kR174_0, kR174_1, kR174_2, kR174_3, kR174_4, kL175, kA175, kS175, kL176, kA176, kS176, kL177, kA177, kS177, kL178, kA178, kS178, kL179, kC180, kG180, kP180, kL181, kL182, kA182, kS182, kC183, kG183, kP183, kR183_1, kR183_3, kR183_5, kR183_6, kR183_7, kR183_8, kR183_9, kR183_21, kR183_26, kR183_27, kR183_30, kR183_31, kR183_33, kR183_34, kR183_36, kR183_37, kR183_38, kR183_39, kR183_40, kR183_41, kR183_42, kR183_43, kR183_44, kL184, kA184, kS184, kL185, kA185, kS185, kL186, kA186, kS186, kL187, kA187, kS187, kL188, kA188, kS188, kL189, kL190, kL191, kA191, kS191, kL192, kA192, kS192, kL193, kA193, kS193, kL194, kA194, kS194, kL195, kA195, kS195, kL196, kA196, kS196, kL197, kA197, kS197, kL198, kA198, kS198, kL199, kA199, kS199, kL200, kA200, kS200, kL201, kL202, kA202, kS202, kL203, kA203, kS203, kL204, kA204, kS204, kL205, kL206, kA206, kS206]
  have key : ∃ τ, xloop (f_X4_listLevels_b7 165) (nI 0, xw σ (xup I 165 4 0)) = some τ ∧ ∃ J, τ = xw σ J ∧ J 165 4 = nI (fb_ct (lvP g F) 289) ∧ (∀ e, e < 289 → lvP g F e = true → J 169 (fb_ct (lvP g F) e) = iI ((e : Int) - 144)) ∧ ∀ a k, a ≠ 169 → ¬ (a = 165 ∧ k = 4) → J a k = I a k := by
    refine xforI (fun i x => ∃ J, x = (nI i, xw σ J) ∧ J 165 4 = nI (fb_ct (lvP g F) i) ∧ (∀ e, e < i → lvP g F e = true → J 169 (fb_ct (lvP g F) e) = iI ((e : Int) - 144)) ∧ ∀ a k, a ≠ 169 → ¬ (a = 165 ∧ k = 4) → J a k = I a k) 289 ⟨_, rfl, by rw [xup_at, if_pos ⟨rfl, rfl⟩]; rfl, fun e he => by omega, fun a k _ h => by rw [xup_at, if_neg h]⟩ ?_ ?_
    · rintro i x hi ⟨J, rfl, j1, j2, j3⟩
      have hb : lC g F ((i : Int) - 144) ≤ 65536 := Nat.le_trans (fb_ct_le _ _) hSt
      have hc := fb_ct_le (lvP g F) i
      have hz : (nI (lC g F ((i : Int) - 144)) ≤ 0) = (lC g F ((i : Int) - 144) ≤ 0) := nn_le (b := 0) (by omega) (by decide)
      by_cases h0 : lC g F ((i : Int) - 144) = 0
      · have hq : lvP g F i = false := by unfold lvP; rw [h0]; rfl
        refine ⟨(nI (i + 1), xw σ J), ?_, J, rfl, ?_, ?_, j3⟩
        · simp only [f_X4_listLevels_b7]
          rw [if_neg (by rw [show (289 : Int32) = nI 289 from rfl, nn_le (by omega) (by omega)]; omega)]
          simp (disch := first | assumption | omega) only [Option.bind_some, Option.map_some, xw_gR, xw_gN, xw_al, xw_ck, xw_uI, xw_ur, xup_at, xur_at, if_true, if_false, reduceIte, and_true, true_and, and_false, false_and, not_true_eq_false, not_false_eq_true, Nat.reduceEqDiff, eq_self, Nat.reduceAdd, Nat.reduceMul, kC1, kG1, kP1, kR1_0, kR1_1, kR1_2, kR1_3, kR1_4, kR1_5, kR1_6, kR1_7, kR1_8, kR1_9, kR1_10, kR1_11, kR1_12, kR1_13, kC2, kG2, kP2, kR2_0, kR2_1, kC3, kG3, kP3, kR3_0, kR3_1, kR3_2, kR3_3, kL4, kA4, kS4, kL5, kA5, kS5, kL6, kA6, kS6, kL7, kA7, kS7, kC8, kG8, kP8, kR8_0, kR8_1, kL9, kA9, kS9, kL10, kA10, kS10, kC11, kG11, kP11, kR11_0, kR11_1, kR11_2, kR11_3, kL12, kA12, kS12, kL13, kA13, kS13, kL14, kA14, kS14, kL15, kA15, kS15, kC16, kG16, kP16, kR16_0, kR16_1, kL17, kA17, kS17, kL18, kA18, kS18, kC19, kG19, kP19, kR19_0, kL20, kL141, kL146, kA146, kS146, kL151, kA151, kS151, kL156, kA156, kS156, kC157, kG157, kP157, kR157_0, kR157_1, kL158, kA158, kS158, kL159, kA159, kS159, kC161, kG161, kP161, kR161_0, kR161_1, kL162, kA162, kS162, kL163, kA163, kS163, kC165, kG165, kP165, kR165_0, kR165_1, kR165_2, kR165_3, kL166, kA166, kS166, kL167, kA167, kS167, kL168, kA168, kS168, kL169, kA169, kS169, kC170, kG170, kP170, kR170_0, kR170_1, kR170_2, kL171, kA171, kS171, kL172, kA172, kS172, kL173, kA173, kS173, kC174, kG174, kP174, kR174_0, kR174_1, kR174_2, kR174_3, kR174_4, kL175, kA175, kS175, kL176, kA176, kS176, kL177, kA177, kS177, kL178, kA178, kS178, kL179, kC180, kG180, kP180, kL181, kL182, kA182, kS182, kC183, kG183, kP183, kR183_1, kR183_3, kR183_5, kR183_6, kR183_7, kR183_8, kR183_9, kR183_21, kR183_26, kR183_27, kR183_30, kR183_31, kR183_33, kR183_34, kR183_36, kR183_37, kR183_38, kR183_39, kR183_40, kR183_41, kR183_42, kR183_43, kR183_44, kL184, kA184, kS184, kL185, kA185, kS185, kL186, kA186, kS186, kL187, kA187, kS187, kL188, kA188, kS188, kL189, kL190, kL191, kA191, kS191, kL192, kA192, kS192, kL193, kA193, kS193, kL194, kA194, kS194, kL195, kA195, kS195, kL196, kA196, kS196, kL197, kA197, kS197, kL198, kA198, kS198, kL199, kA199, kS199, kL200, kA200, kS200, kL201, kL202, kA202, kS202, kL203, kA203, kS203, kL204, kA204, kS204, kL205, kL206, kA206, kS206, j3 166 i (by decide) (by omega), hM i hi, h0, show (nI 0 ≤ 0) = True from eq_true (by decide)]
          rw [nI_succ]
        · rw [j1, fb_ct_succ, hq]; simp
        · intro e he hq2
          by_cases hei : e = i
          · rw [hei, hq] at hq2; cases hq2
          · exact j2 e (by omega) hq2
      · have hq : lvP g F i = true := by unfold lvP; simp; omega
        refine ⟨(nI (i + 1), xw σ (xup (xup J 169 (fb_ct (lvP g F) i) (iI ((i : Int) - 144))) 165 4 (nI (fb_ct (lvP g F) i + 1)))), ?_, _, rfl, ?_, ?_, ?_⟩
        · simp only [f_X4_listLevels_b7]
          rw [if_neg (by rw [show (289 : Int32) = nI 289 from rfl, nn_le (by omega) (by omega)]; omega)]
          have e150 : nI i - (144 : Int32) = iI ((i : Int) - 144) := by rw [iI_n, show (144 : Int32) = iI 144 from rfl, iI_sub]
          have hz2 : ¬ (lC g F ((i : Int) - 144) ≤ 0) := by omega
          simp (disch := first | assumption | omega) only [Option.bind_some, Option.map_some, xw_gR, xw_gN, xw_al, xw_ck, xw_uI, xw_ur, xup_at, xur_at, if_true, if_false, reduceIte, and_true, true_and, and_false, false_and, not_true_eq_false, not_false_eq_true, Nat.reduceEqDiff, eq_self, Nat.reduceAdd, Nat.reduceMul, kC1, kG1, kP1, kR1_0, kR1_1, kR1_2, kR1_3, kR1_4, kR1_5, kR1_6, kR1_7, kR1_8, kR1_9, kR1_10, kR1_11, kR1_12, kR1_13, kC2, kG2, kP2, kR2_0, kR2_1, kC3, kG3, kP3, kR3_0, kR3_1, kR3_2, kR3_3, kL4, kA4, kS4, kL5, kA5, kS5, kL6, kA6, kS6, kL7, kA7, kS7, kC8, kG8, kP8, kR8_0, kR8_1, kL9, kA9, kS9, kL10, kA10, kS10, kC11, kG11, kP11, kR11_0, kR11_1, kR11_2, kR11_3, kL12, kA12, kS12, kL13, kA13, kS13, kL14, kA14, kS14, kL15, kA15, kS15, kC16, kG16, kP16, kR16_0, kR16_1, kL17, kA17, kS17, kL18, kA18, kS18, kC19, kG19, kP19, kR19_0, kL20, kL141, kL146, kA146, kS146, kL151, kA151, kS151, kL156, kA156, kS156, kC157, kG157, kP157, kR157_0, kR157_1, kL158, kA158, kS158, kL159, kA159, kS159, kC161, kG161, kP161, kR161_0, kR161_1, kL162, kA162, kS162, kL163, kA163, kS163, kC165, kG165, kP165, kR165_0, kR165_1, kR165_2, kR165_3, kL166, kA166, kS166, kL167, kA167, kS167, kL168, kA168, kS168, kL169, kA169, kS169, kC170, kG170, kP170, kR170_0, kR170_1, kR170_2, kL171, kA171, kS171, kL172, kA172, kS172, kL173, kA173, kS173, kC174, kG174, kP174, kR174_0, kR174_1, kR174_2, kR174_3, kR174_4, kL175, kA175, kS175, kL176, kA176, kS176, kL177, kA177, kS177, kL178, kA178, kS178, kL179, kC180, kG180, kP180, kL181, kL182, kA182, kS182, kC183, kG183, kP183, kR183_1, kR183_3, kR183_5, kR183_6, kR183_7, kR183_8, kR183_9, kR183_21, kR183_26, kR183_27, kR183_30, kR183_31, kR183_33, kR183_34, kR183_36, kR183_37, kR183_38, kR183_39, kR183_40, kR183_41, kR183_42, kR183_43, kR183_44, kL184, kA184, kS184, kL185, kA185, kS185, kL186, kA186, kS186, kL187, kA187, kS187, kL188, kA188, kS188, kL189, kL190, kL191, kA191, kS191, kL192, kA192, kS192, kL193, kA193, kS193, kL194, kA194, kS194, kL195, kA195, kS195, kL196, kA196, kS196, kL197, kA197, kS197, kL198, kA198, kS198, kL199, kA199, kS199, kL200, kA200, kS200, kL201, kL202, kA202, kS202, kL203, kA203, kS203, kL204, kA204, kS204, kL205, kL206, kA206, kS206, j3 166 i (by decide) (by omega), hM i hi, hz, hz2, j1, e150]
          rw [← nI_succ, ← nI_succ]
        · rw [xup_at, if_pos ⟨rfl, rfl⟩, fb_ct_succ, hq]; simp
        · intro e he hq2
          rw [xup_at, if_neg (by omega), xup_at]
          by_cases hei : e = i
          · rw [hei, if_pos ⟨rfl, rfl⟩]
          · rw [if_neg, j2 e (by omega) hq2]
            rintro ⟨_, z⟩
            exact hei (fb_ct_kth_one hq2 hq z)
        · intro a k h1 h2
          rw [xup_at, if_neg (by omega), xup_at, if_neg (by omega)]
          exact j3 a k h1 h2
    · rintro x ⟨J, rfl, j1, j2, j3⟩
      refine ⟨xw σ J, ?_, J, rfl, j1, j2, j3⟩
      simp only [f_X4_listLevels_b7]
      rw [if_pos (by decide)]
      rfl
  obtain ⟨τ, h1, J, rfl, j1, j2, j3⟩ := key
  exact ⟨J, h1, j1, j2, j3⟩
/-- what is gathered of the states from m on -/
def gaP (J : Nat → Nat → Int32) (g : GD) (F : Nat → Int32) (m : Nat) : Prop := (∀ k : Nat, k < 289 → J 166 k = nI (cU (lE g F ((k : Int) - 144)) m (gSt g))) ∧
  (∀ k s : Nat, k < 289 → m ≤ s → s < gSt g → lE g F ((k : Int) - 144) s = true → (∀ s', m ≤ s' → s' < s → lE g F ((k : Int) - 144) s' = false) → J 167 k = nI s) ∧
  ∀ k u : Nat, k < 289 → u < 17 → J 168 (17 * k + u) = nI (cU (fun s => lE g F ((k : Int) - 144) s && decide (pC s = u)) m (gSt g))
theorem gather_ok (hS : Shp σ) (hg : g ∈ gAll) (hE : EnO σ 157 c m) (hK : ENK I (xR σ) (xlen σ) 157 g F) (hSR : SR g I 16 F) (ho : RO g F) :
    ∃ J, f_X4_gather (xw σ I) 165 157 16 (nI (gSt g)) = some (xw σ J) ∧ LVK J g F ∧ ∀ a k, ¬ (166 ≤ a ∧ a ≤ 169) → ¬ (a = 165 ∧ k = 4) → J a k = I a k := by
  have hSt := (gSt_b hg).1
  have hSt2 := (gSt_b hg).2
  have hEb := hE.b
  have K166 : σ.1 166 = (20, 289) := xw_K hS (by decide) (by decide) (by decide)
  have K168 : σ.1 168 = (20, 4913) := xw_K hS (by decide) (by decide) (by decide)
  have eT2 : xck σ 157 2 = some () := xck_ok (sT157 hS)
  unfold f_X4_gather
  simp (disch := first | assumption | omega) only [Option.bind_some, Option.map_some, xw_gR, xw_gN, xw_al, xw_ck, xw_uI, xw_ur, xup_at, xur_at, if_true, if_false, reduceIte, and_true, true_and, and_false, false_and, not_true_eq_false, not_false_eq_true, Nat.reduceEqDiff, eq_self, Nat.reduceAdd, Nat.reduceMul, kC1, kG1, kP1, kR1_0, kR1_1, kR1_2, kR1_3, kR1_4, kR1_5, kR1_6, kR1_7, kR1_8, kR1_9, kR1_10, kR1_11, kR1_12, kR1_13, kC2, kG2, kP2, kR2_0, kR2_1, kC3, kG3, kP3, kR3_0, kR3_1, kR3_2, kR3_3, kL4, kA4, kS4, kL5, kA5, kS5, kL6, kA6, kS6, kL7, kA7, kS7, kC8, kG8, kP8, kR8_0, kR8_1, kL9, kA9, kS9, kL10, kA10, kS10, kC11, kG11, kP11, kR11_0, kR11_1, kR11_2, kR11_3, kL12, kA12, kS12, kL13, kA13, kS13, kL14, kA14, kS14, kL15, kA15, kS15, kC16, kG16, kP16, kR16_0, kR16_1, kL17, kA17, kS17, kL18, kA18, kS18, kC19, kG19, kP19, kR19_0, kL20, kL141, kL146, kA146, kS146, kL151, kA151, kS151, kL156, kA156, kS156, kC157, kG157, kP157, kR157_0, kR157_1, kL158, kA158, kS158, kL159, kA159, kS159, kC161, kG161, kP161, kR161_0, kR161_1, kL162, kA162, kS162, kL163, kA163, kS163, kC165, kG165, kP165, kR165_0, kR165_1, kR165_2, kR165_3, kL166, kA166, kS166, kL167, kA167, kS167, kL168, kA168, kS168, kL169, kA169, kS169, kC170, kG170, kP170, kR170_0, kR170_1, kR170_2, kL171, kA171, kS171, kL172, kA172, kS172, kL173, kA173, kS173, kC174, kG174, kP174, kR174_0, kR174_1, kR174_2, kR174_3, kR174_4, kL175, kA175, kS175, kL176, kA176, kS176, kL177, kA177, kS177, kL178, kA178, kS178, kL179, kC180, kG180, kP180, kL181, kL182, kA182, kS182, kC183, kG183, kP183, kR183_1, kR183_3, kR183_5, kR183_6, kR183_7, kR183_8, kR183_9, kR183_21, kR183_26, kR183_27, kR183_30, kR183_31, kR183_33, kR183_34, kR183_36, kR183_37, kR183_38, kR183_39, kR183_40, kR183_41, kR183_42, kR183_43, kR183_44, kL184, kA184, kS184, kL185, kA185, kS185, kL186, kA186, kS186, kL187, kA187, kS187, kL188, kA188, kS188, kL189, kL190, kL191, kA191, kS191, kL192, kA192, kS192, kL193, kA193, kS193, kL194, kA194, kS194, kL195, kA195, kS195, kL196, kA196, kS196, kL197, kA197, kS197, kL198, kA198, kS198, kL199, kA199, kS199, kL200, kA200, kS200, kL201, kL202, kA202, kS202, kL203, kA203, kS203, kL204, kA204, kS204, kL205, kL206, kA206, kS206, fillI_ok K166, fillI_ok K168]
  have x0 : nI (gSt g) - (1 : Int32) = iI ((gSt g : Int) - 1 - ((0 : Nat) : Int)) := by rw [iI_n, show (1 : Int32) = iI 1 from rfl, iI_sub]; simp
  rw [x0]
  have key : ∃ τ, xloop (f_X4_gather_b21 165 157 16) (iI ((gSt g : Int) - 1 - ((0 : Nat) : Int)), xw σ (xur (xur I 166 (fun j => if j < 289 then 0 else I 166 j)) 168 (fun j => if j < 4913 then 0 else I 168 j))) = some τ ∧ ∃ J, τ = xw σ J ∧ LVK J g F ∧ ∀ a k, ¬ (166 ≤ a ∧ a ≤ 169) → ¬ (a = 165 ∧ k = 4) → J a k = I a k := by
    refine xforI (fun j x => ∃ J, x = (iI ((gSt g : Int) - 1 - (j : Int)), xw σ J) ∧ gaP J g F (gSt g - j) ∧ ∀ a k, ¬ (166 ≤ a ∧ a ≤ 168) → J a k = I a k) (gSt g) ⟨_, rfl, ⟨fun k hk => ?_, fun k s _ h1 h2 => by omega, fun k u hk hu => ?_⟩, fun a k h => by rw [xur_at, if_neg (by omega), xur_at, if_neg (by omega)]⟩ ?_ ?_
    · rw [Nat.sub_zero, cU_e, xur_at, if_neg (by omega), xur_at, if_pos rfl, if_pos hk]; rfl
    · rw [Nat.sub_zero, cU_e, xur_at, if_pos rfl, if_pos (by omega)]; rfl
    · rintro j x hj ⟨J, rfl, ⟨g1, g2, g3⟩, j3⟩
      obtain ⟨s, hs⟩ : ∃ s, s = gSt g - 1 - j := ⟨_, rfl⟩
      have hsN : s < gSt g := by omega
      have hsm : gSt g - j = s + 1 := by omega
      rw [hsm] at g1 g2 g3
      have hs2 : s < 2 ^ gSz g := (gSt_pos hsN).2
      have exs : iI ((gSt g : Int) - 1 - (j : Int)) = nI s := by rw [iI_n]; congr 1; omega
      have hKJ : ENK J (xR σ) (xlen σ) 157 g F := ENK_c (fun k => j3 _ k (by rw [hE.2.1]; omega)) hK
      have hSJ : SR g J 16 F := SR_m hg (fun k _ _ => j3 _ k (by omega)) (fun k _ => j3 _ k (by omega)) (fun k _ => j3 _ k (by omega)) (fun k _ => rfl) hSR
      have nx : nI s + (-1 : Int32) = iI ((gSt g : Int) - 1 - ((j + 1 : Nat) : Int)) := by rw [iI_n, show (-1 : Int32) = iI (-1) from rfl, iI_add]; congr 1; omega
      have hEb2 := eE_b hg ho s
      obtain ⟨e, he, he2⟩ : ∃ e : Nat, eE g (zR F) s = (e : Int) - 144 ∧ e < 289 := ⟨(eE g (zR F) s + 144).toNat, by omega, by omega⟩
      have e144 : iI (eE g (zR F) s) + (144 : Int32) = nI e := by rw [show (144 : Int32) = iI 144 from rfl, iI_add, iI_n]; congr 1; omega
      have hpc := pC_16 s
      have hm1 : gSt g - (j + 1) = s := by omega
      simp only [f_X4_gather_b21]
      rw [exs, if_neg (nI_pos (by omega))]
      simp (disch := first | assumption | omega) only [Option.bind_some, Option.map_some, xw_gR, xw_gN, xw_al, xw_ck, xw_uI, xw_ur, xup_at, xur_at, if_true, if_false, reduceIte, and_true, true_and, and_false, false_and, not_true_eq_false, not_false_eq_true, Nat.reduceEqDiff, eq_self, Nat.reduceAdd, Nat.reduceMul, kC1, kG1, kP1, kR1_0, kR1_1, kR1_2, kR1_3, kR1_4, kR1_5, kR1_6, kR1_7, kR1_8, kR1_9, kR1_10, kR1_11, kR1_12, kR1_13, kC2, kG2, kP2, kR2_0, kR2_1, kC3, kG3, kP3, kR3_0, kR3_1, kR3_2, kR3_3, kL4, kA4, kS4, kL5, kA5, kS5, kL6, kA6, kS6, kL7, kA7, kS7, kC8, kG8, kP8, kR8_0, kR8_1, kL9, kA9, kS9, kL10, kA10, kS10, kC11, kG11, kP11, kR11_0, kR11_1, kR11_2, kR11_3, kL12, kA12, kS12, kL13, kA13, kS13, kL14, kA14, kS14, kL15, kA15, kS15, kC16, kG16, kP16, kR16_0, kR16_1, kL17, kA17, kS17, kL18, kA18, kS18, kC19, kG19, kP19, kR19_0, kL20, kL141, kL146, kA146, kS146, kL151, kA151, kS151, kL156, kA156, kS156, kC157, kG157, kP157, kR157_0, kR157_1, kL158, kA158, kS158, kL159, kA159, kS159, kC161, kG161, kP161, kR161_0, kR161_1, kL162, kA162, kS162, kL163, kA163, kS163, kC165, kG165, kP165, kR165_0, kR165_1, kR165_2, kR165_3, kL166, kA166, kS166, kL167, kA167, kS167, kL168, kA168, kS168, kL169, kA169, kS169, kC170, kG170, kP170, kR170_0, kR170_1, kR170_2, kL171, kA171, kS171, kL172, kA172, kS172, kL173, kA173, kS173, kC174, kG174, kP174, kR174_0, kR174_1, kR174_2, kR174_3, kR174_4, kL175, kA175, kS175, kL176, kA176, kS176, kL177, kA177, kS177, kL178, kA178, kS178, kL179, kC180, kG180, kP180, kL181, kL182, kA182, kS182, kC183, kG183, kP183, kR183_1, kR183_3, kR183_5, kR183_6, kR183_7, kR183_8, kR183_9, kR183_21, kR183_26, kR183_27, kR183_30, kR183_31, kR183_33, kR183_34, kR183_36, kR183_37, kR183_38, kR183_39, kR183_40, kR183_41, kR183_42, kR183_43, kR183_44, kL184, kA184, kS184, kL185, kA185, kS185, kL186, kA186, kS186, kL187, kA187, kS187, kL188, kA188, kS188, kL189, kL190, kL191, kA191, kS191, kL192, kA192, kS192, kL193, kA193, kS193, kL194, kA194, kS194, kL195, kA195, kS195, kL196, kA196, kS196, kL197, kA197, kS197, kL198, kA198, kS198, kL199, kA199, kS199, kL200, kA200, kS200, kL201, kL202, kA202, kS202, kL203, kA203, kS203, kL204, kA204, kS204, kL205, kL206, kA206, kS206, of_ok hS hE hKJ hs2, bitCount_ok (show s < 65536 by omega), allows_ok hS hg suA_16 hSJ, e144, nx, show (17 : Int32) = nI 17 from rfl, nn_mul, nn_add]
      cases hl : lW g F s with
      | false =>
        refine ⟨_, by rw [if_pos (by decide)], J, rfl, ?_, j3⟩
        rw [hm1]
        have hno : ∀ k : Nat, lE g F ((k : Int) - 144) s = false := fun k => by unfold lE; rw [hl]; rfl
        refine ⟨fun k hk => ?_, fun k s' hk h1 h2 h3 h4 => ?_, fun k u hk hu => ?_⟩
        · rw [g1 k hk, cU_s _ hsN, hno k]; simp
        · by_cases z : s' = s
          · rw [z, hno k] at h3; cases h3
          · exact g2 k s' hk (by omega) h2 h3 (fun s'' q1 q2 => h4 s'' (by omega) q2)
        · rw [g3 k u hk hu, cU_s _ hsN, hno k]; simp
      | true =>
        rw [if_neg (by decide), if_neg (nI_pos (by omega)), if_neg (by rw [show (289 : Int32) = nI 289 from rfl, nn_le (by omega) (by omega)]; omega), if_neg (by rw [nn_le (by omega) (by omega)]; omega)]
        have hyes : ∀ k : Nat, lE g F ((k : Int) - 144) s = decide (k = e) := fun k => by
          unfold lE
          rw [hl, he]
          have : ((e : Int) - 144 = (k : Int) - 144) ↔ (k = e) := by omega
          simp only [this, Bool.true_and]
        have hix : e * 17 + pC s = 17 * e + pC s := by omega
        simp (disch := first | assumption | omega) only [Option.bind_some, Option.map_some, xw_gR, xw_gN, xw_al, xw_ck, xw_uI, xw_ur, xup_at, xur_at, if_true, if_false, reduceIte, and_true, true_and, and_false, false_and, not_true_eq_false, not_false_eq_true, Nat.reduceEqDiff, eq_self, Nat.reduceAdd, Nat.reduceMul, kC1, kG1, kP1, kR1_0, kR1_1, kR1_2, kR1_3, kR1_4, kR1_5, kR1_6, kR1_7, kR1_8, kR1_9, kR1_10, kR1_11, kR1_12, kR1_13, kC2, kG2, kP2, kR2_0, kR2_1, kC3, kG3, kP3, kR3_0, kR3_1, kR3_2, kR3_3, kL4, kA4, kS4, kL5, kA5, kS5, kL6, kA6, kS6, kL7, kA7, kS7, kC8, kG8, kP8, kR8_0, kR8_1, kL9, kA9, kS9, kL10, kA10, kS10, kC11, kG11, kP11, kR11_0, kR11_1, kR11_2, kR11_3, kL12, kA12, kS12, kL13, kA13, kS13, kL14, kA14, kS14, kL15, kA15, kS15, kC16, kG16, kP16, kR16_0, kR16_1, kL17, kA17, kS17, kL18, kA18, kS18, kC19, kG19, kP19, kR19_0, kL20, kL141, kL146, kA146, kS146, kL151, kA151, kS151, kL156, kA156, kS156, kC157, kG157, kP157, kR157_0, kR157_1, kL158, kA158, kS158, kL159, kA159, kS159, kC161, kG161, kP161, kR161_0, kR161_1, kL162, kA162, kS162, kL163, kA163, kS163, kC165, kG165, kP165, kR165_0, kR165_1, kR165_2, kR165_3, kL166, kA166, kS166, kL167, kA167, kS167, kL168, kA168, kS168, kL169, kA169, kS169, kC170, kG170, kP170, kR170_0, kR170_1, kR170_2, kL171, kA171, kS171, kL172, kA172, kS172, kL173, kA173, kS173, kC174, kG174, kP174, kR174_0, kR174_1, kR174_2, kR174_3, kR174_4, kL175, kA175, kS175, kL176, kA176, kS176, kL177, kA177, kS177, kL178, kA178, kS178, kL179, kC180, kG180, kP180, kL181, kL182, kA182, kS182, kC183, kG183, kP183, kR183_1, kR183_3, kR183_5, kR183_6, kR183_7, kR183_8, kR183_9, kR183_21, kR183_26, kR183_27, kR183_30, kR183_31, kR183_33, kR183_34, kR183_36, kR183_37, kR183_38, kR183_39, kR183_40, kR183_41, kR183_42, kR183_43, kR183_44, kL184, kA184, kS184, kL185, kA185, kS185, kL186, kA186, kS186, kL187, kA187, kS187, kL188, kA188, kS188, kL189, kL190, kL191, kA191, kS191, kL192, kA192, kS192, kL193, kA193, kS193, kL194, kA194, kS194, kL195, kA195, kS195, kL196, kA196, kS196, kL197, kA197, kS197, kL198, kA198, kS198, kL199, kA199, kS199, kL200, kA200, kS200, kL201, kL202, kA202, kS202, kL203, kA203, kS203, kL204, kA204, kS204, kL205, kL206, kA206, kS206, g1 e he2, hix, g3 e (pC s) he2 (show pC s < 17 by omega)]
        refine ⟨_, rfl, _, rfl, ?_, fun a k h => by rw [xup_at, if_neg (by omega), xup_at, if_neg (by omega), xup_at, if_neg (by omega)]; exact j3 a k h⟩
        rw [hm1]
        refine ⟨fun k hk => ?_, fun k s' hk h1 h2 h3 h4 => ?_, fun k u hk hu => ?_⟩
        · rw [xup_at, if_neg (by omega), xup_at, cU_s _ hsN, hyes k]
          by_cases z : k = e
          · subst z
            rw [if_pos ⟨rfl, rfl⟩, ← nI_succ]
            simp [Nat.add_comm]
          · rw [if_neg (by omega), xup_at, if_neg (by omega), g1 k hk]
            simp [z]
        · rw [xup_at, if_neg (by omega), xup_at, if_neg (by omega), xup_at]
          by_cases z : k = e
          · subst z
            rw [if_pos ⟨rfl, rfl⟩]
            by_cases w : s' = s
            · rw [w]
            · have := h4 s (Nat.le_refl _) (by omega)
              rw [hyes k] at this
              simp at this
          · rw [if_neg (by omega)]
            by_cases w : s' = s
            · rw [w, hyes k] at h3
              simp at h3
              exact absurd h3 z
            · exact g2 k s' hk (by omega) h2 h3 (fun s'' q1 q2 => h4 s'' (by omega) q2)
        · rw [xup_at, cU_s _ hsN, hyes k]
          by_cases z : k = e ∧ u = pC s
          · obtain ⟨z1, z2⟩ := z
            subst z1 z2
            rw [if_pos ⟨rfl, rfl⟩, ← nI_succ]
            simp [Nat.add_comm]
          · rw [if_neg (by omega), xup_at, if_neg (by omega), xup_at, if_neg (by omega), g3 k u hk hu]
            by_cases z1 : k = e
            · have : ¬ pC s = u := fun w => z ⟨z1, w.symm⟩
              simp [this]
            · simp [z1]
    · rintro x ⟨J, rfl, ⟨g1, g2, g3⟩, j3⟩
      rw [Nat.sub_self] at g1 g2 g3
      have hW : WAY J 166 g F := fun k hk => by rw [g1 k hk, cU_0]; rfl
      obtain ⟨J2, q1, q2, q3, q4⟩ := list_ok hS hg hW
      refine ⟨xw σ J2, ?_, J2, rfl, ⟨fun k hk => ?_, fun k s hk hs h1 h2 => ?_, fun k u hk hu => ?_, q2, q3⟩, fun a k h1 h2 => ?_⟩
      · simp only [f_X4_gather_b21]
        rw [if_pos (by rw [show (0 : Int32) = iI 0 from rfl, iI_lt (by omega) (by omega) (by omega) (by omega)]; omega)]
        simp (disch := first | assumption | omega) only [Option.bind_some, Option.map_some, xw_gR, xw_gN, xw_al, xw_ck, xw_uI, xw_ur, xup_at, xur_at, if_true, if_false, reduceIte, and_true, true_and, and_false, false_and, not_true_eq_false, not_false_eq_true, Nat.reduceEqDiff, eq_self, Nat.reduceAdd, Nat.reduceMul, kC1, kG1, kP1, kR1_0, kR1_1, kR1_2, kR1_3, kR1_4, kR1_5, kR1_6, kR1_7, kR1_8, kR1_9, kR1_10, kR1_11, kR1_12, kR1_13, kC2, kG2, kP2, kR2_0, kR2_1, kC3, kG3, kP3, kR3_0, kR3_1, kR3_2, kR3_3, kL4, kA4, kS4, kL5, kA5, kS5, kL6, kA6, kS6, kL7, kA7, kS7, kC8, kG8, kP8, kR8_0, kR8_1, kL9, kA9, kS9, kL10, kA10, kS10, kC11, kG11, kP11, kR11_0, kR11_1, kR11_2, kR11_3, kL12, kA12, kS12, kL13, kA13, kS13, kL14, kA14, kS14, kL15, kA15, kS15, kC16, kG16, kP16, kR16_0, kR16_1, kL17, kA17, kS17, kL18, kA18, kS18, kC19, kG19, kP19, kR19_0, kL20, kL141, kL146, kA146, kS146, kL151, kA151, kS151, kL156, kA156, kS156, kC157, kG157, kP157, kR157_0, kR157_1, kL158, kA158, kS158, kL159, kA159, kS159, kC161, kG161, kP161, kR161_0, kR161_1, kL162, kA162, kS162, kL163, kA163, kS163, kC165, kG165, kP165, kR165_0, kR165_1, kR165_2, kR165_3, kL166, kA166, kS166, kL167, kA167, kS167, kL168, kA168, kS168, kL169, kA169, kS169, kC170, kG170, kP170, kR170_0, kR170_1, kR170_2, kL171, kA171, kS171, kL172, kA172, kS172, kL173, kA173, kS173, kC174, kG174, kP174, kR174_0, kR174_1, kR174_2, kR174_3, kR174_4, kL175, kA175, kS175, kL176, kA176, kS176, kL177, kA177, kS177, kL178, kA178, kS178, kL179, kC180, kG180, kP180, kL181, kL182, kA182, kS182, kC183, kG183, kP183, kR183_1, kR183_3, kR183_5, kR183_6, kR183_7, kR183_8, kR183_9, kR183_21, kR183_26, kR183_27, kR183_30, kR183_31, kR183_33, kR183_34, kR183_36, kR183_37, kR183_38, kR183_39, kR183_40, kR183_41, kR183_42, kR183_43, kR183_44, kL184, kA184, kS184, kL185, kA185, kS185, kL186, kA186, kS186, kL187, kA187, kS187, kL188, kA188, kS188, kL189, kL190, kL191, kA191, kS191, kL192, kA192, kS192, kL193, kA193, kS193, kL194, kA194, kS194, kL195, kA195, kS195, kL196, kA196, kS196, kL197, kA197, kS197, kL198, kA198, kS198, kL199, kA199, kS199, kL200, kA200, kS200, kL201, kL202, kA202, kS202, kL203, kA203, kS203, kL204, kA204, kS204, kL205, kL206, kA206, kS206, q1]
      · rw [q4 _ _ (by omega) (by omega)]; exact hW k hk
      · rw [q4 _ _ (by omega) (by omega)]
        exact g2 k s hk (Nat.zero_le _) hs h1 (fun s' _ h => h2 s' h)
      · rw [q4 _ _ (by omega) (by omega), g3 k u hk hu, cU_0]; rfl
      · rw [q4 _ _ (by omega) h2]; exact j3 a k (by omega)
  obtain ⟨τ, h1, J, rfl, h2⟩ := key
  exact ⟨J, h1, h2⟩
end GATHER
end
section
/-! levels at hand -/
theorem levelsNow_ok {n : Nat} {σ : XS} {g : GD} {gT gP : GH} {st : Nat} (hn : n ≤ 512) (H : IV n σ g gT gP st) : ∃ τ, f_X11_levelsNow σ 1 = some (165, τ) ∧ IV n τ g gT gP st ∧ ENK (xI τ) (xR τ) (xlen τ) 157 g (xI τ 191) ∧ LVK (xI τ) g (xI τ 191) ∧ (∀ b j, (b < 157 ∨ (161 ≤ b ∧ b ≤ 164) ∨ (170 ≤ b ∧ b ≤ 206)) → xI τ b j = xI σ b j) ∧ (∀ b j, b ≤ xn σ → xL τ b j = xL σ b j) := by
  obtain ⟨σ1, e1, H1, K1, u1, l1⟩ := energiesNow_ok hn H
  have hS := H1.shp
  have hG := H1.grd
  have hg := hG.1
  obtain ⟨hSR, hRO, t, p, ht, hp, e6, e7, gt1, gt2, gp1, gp2⟩ := H1.now
  have hst := H1.stn
  obtain ⟨c, a, hE, ha, hcn⟩ := H1.en157
  have hEb := hE.b
  obtain ⟨J, q1, q2, q3⟩ := gather_ok (I := xI σ1) hS hg hE K1 hSR hRO
  have stp : f_X11_levelsNow σ 1 = if xI σ1 165 5 = nI p then some (165, σ1) else some (165, xw σ1 (xup J 165 5 (nI p))) := by
    unfold f_X11_levelsNow
    rw [xck_ok (sT1 H.shp), Option.bind_some, e1, Option.bind_some]
    dsimp only
    rw [xnz_ok (by decide), Option.bind_some]
    show f_X11_levelsNow_j4 (xw σ1 (xI σ1)) 1 157 = _
    unfold f_X11_levelsNow_j4
    have j16 : J 16 7 = nI p := by rw [q3 16 7 (by omega) (by omega)]; exact e7
    simp (disch := first | assumption | omega) only [Option.bind_some, Option.map_some, xw_gR, xw_gN, xw_al, xw_ck, xw_uI, xw_ur, xup_at, xur_at, if_true, if_false, reduceIte, and_true, true_and, and_false, false_and, not_true_eq_false, not_false_eq_true, Nat.reduceEqDiff, eq_self, Nat.reduceAdd, Nat.reduceMul, kC1, kG1, kP1, kR1_0, kR1_1, kR1_2, kR1_3, kR1_4, kR1_5, kR1_6, kR1_7, kR1_8, kR1_9, kR1_10, kR1_11, kR1_12, kR1_13, kC2, kG2, kP2, kR2_0, kR2_1, kC3, kG3, kP3, kR3_0, kR3_1, kR3_2, kR3_3, kL4, kA4, kS4, kL5, kA5, kS5, kL6, kA6, kS6, kL7, kA7, kS7, kC8, kG8, kP8, kR8_0, kR8_1, kL9, kA9, kS9, kL10, kA10, kS10, kC11, kG11, kP11, kR11_0, kR11_1, kR11_2, kR11_3, kL12, kA12, kS12, kL13, kA13, kS13, kL14, kA14, kS14, kL15, kA15, kS15, kC16, kG16, kP16, kR16_0, kR16_1, kL17, kA17, kS17, kL18, kA18, kS18, kC19, kG19, kP19, kR19_0, kL20, kL141, kL146, kA146, kS146, kL151, kA151, kS151, kL156, kA156, kS156, kC157, kG157, kP157, kR157_0, kR157_1, kL158, kA158, kS158, kL159, kA159, kS159, kC161, kG161, kP161, kR161_0, kR161_1, kL162, kA162, kS162, kL163, kA163, kS163, kC165, kG165, kP165, kR165_0, kR165_1, kR165_2, kR165_3, kL166, kA166, kS166, kL167, kA167, kS167, kL168, kA168, kS168, kL169, kA169, kS169, kC170, kG170, kP170, kR170_0, kR170_1, kR170_2, kL171, kA171, kS171, kL172, kA172, kS172, kL173, kA173, kS173, kC174, kG174, kP174, kR174_0, kR174_1, kR174_2, kR174_3, kR174_4, kL175, kA175, kS175, kL176, kA176, kS176, kL177, kA177, kS177, kL178, kA178, kS178, kL179, kC180, kG180, kP180, kL181, kL182, kA182, kS182, kC183, kG183, kP183, kR183_1, kR183_3, kR183_5, kR183_6, kR183_7, kR183_8, kR183_9, kR183_21, kR183_26, kR183_27, kR183_30, kR183_31, kR183_33, kR183_34, kR183_36, kR183_37, kR183_38, kR183_39, kR183_40, kR183_41, kR183_42, kR183_43, kR183_44, kL184, kA184, kS184, kL185, kA185, kS185, kL186, kA186, kS186, kL187, kA187, kS187, kL188, kA188, kS188, kL189, kL190, kL191, kA191, kS191, kL192, kA192, kS192, kL193, kA193, kS193, kL194, kA194, kS194, kL195, kA195, kS195, kL196, kA196, kS196, kL197, kA197, kS197, kL198, kA198, kS198, kL199, kA199, kS199, kL200, kA200, kS200, kL201, kL202, kA202, kS202, kL203, kA203, kS203, kL204, kA204, kS204, kL205, kL206, kA206, kS206, e7, xnz_ok, states11_ok hS hG, q1, j16]
    rfl
  rw [stp]
  by_cases hq : xI σ1 165 5 = nI p
  · rw [if_pos hq]
    refine ⟨σ1, rfl, H1, K1, ?_, fun b j hb => u1 b j (by omega), l1⟩
    rcases H1.cch.2.1 with z | ⟨p', z1, z2, z3⟩
    · rw [hq] at z
      exact absurd z (by have := nn_m1 (a := p) (by omega); rw [this]; exact id)
    · have : p' = p := by
        rw [hq, nn_eq (by omega) (by omega)] at z2; exact z2.symm
      subst this
      rw [gp1] at z3
      obtain ⟨c1, c2, c3, c4, c5, c6, c7⟩ := ct_congr hg (F := (gP p').2) (F' := xI σ1 191) gp2
      obtain ⟨y1, y2, y3, y4, y5⟩ := z3
      have cN : lvN g (xI σ1 191) = lvN g (gP p').2 := by unfold lvN; rw [c6]
      refine ⟨fun k hk => by rw [c4]; exact y1 k hk, fun k s hk hs => by rw [c3]; exact y2 k s hk hs, fun k u hk hu => by rw [c5]; exact y3 k u hk hu, by rw [cN]; exact y4, fun k hk => by rw [c6]; exact y5 k hk⟩
  · rw [if_neg hq]
    have ux : ∀ b j, ¬ (165 ≤ b ∧ b ≤ 169) → xup J 165 5 (nI p) b j = xI σ1 b j := fun b j hb => by rw [xup_at, if_neg (by omega), q3 b j (by omega) (by omega)]
    have lvk : LVK (xup J 165 5 (nI p)) g (xI σ1 191) := by
      obtain ⟨y1, y2, y3, y4, y5⟩ := q2
      exact ⟨fun k hk => by rw [xup_at, if_neg (by omega)]; exact y1 k hk, fun k s hk hs h1 h2 => by rw [xup_at, if_neg (by omega)]; exact y2 k s hk hs h1 h2, fun k u hk hu => by rw [xup_at, if_neg (by omega)]; exact y3 k u hk hu, by rw [xup_at, if_neg (by omega)]; exact y4, fun k hk h => by rw [xup_at, if_neg (by omega)]; exact y5 k hk h⟩
    have row : xup J 165 5 (nI p) 191 = xI σ1 191 := by funext k; exact ux 191 k (by omega)
    have enk : ∀ F, ENK (xI σ1) (xR σ1) (xlen σ1) 157 g F → ENK (xup J 165 5 (nI p)) (xR σ1) (xlen σ1) 157 g F := fun F h => ENK_c (fun k => ux _ k (by rw [hE.2.1]; omega)) h
    refine ⟨_, rfl, H1.cache hS (fun b j hb => ux b j (by omega)) ?_ H1.cel, ?_, ?_, fun b j hb => ?_, l1⟩
    · obtain ⟨c1, -, c3, c4⟩ := H1.cch
      refine ⟨?_, .inr ⟨p, hp, ?_, ?_⟩, ?_, ?_⟩
      · rw [xw_I, ux 157 5 (by omega)]
        rcases c1 with z | ⟨q, z1, z2, z3⟩
        · exact .inl z
        · exact .inr ⟨q, z1, z2, ENK_c (R := xR σ1) (fun k => ux _ k (by rw [hE.2.1]; omega)) z3⟩
      · rw [xw_I, xup_at, if_pos ⟨rfl, rfl⟩]
      · rw [gp1]
        obtain ⟨c1, c2, c3, c4, c5, c6, c7⟩ := ct_congr hg (F := (gP p).2) (F' := xI σ1 191) gp2
        obtain ⟨y1, y2, y3, y4, y5⟩ := lvk
        have cN : lvN g (xI σ1 191) = lvN g (gP p).2 := by unfold lvN; rw [c6]
        exact ⟨fun k hk => by rw [← c4]; exact y1 k hk, fun k s hk hs => by rw [← c3]; exact y2 k s hk hs, fun k u hk hu => by rw [← c5]; exact y3 k u hk hu, by rw [← cN]; exact y4, fun k hk => by rw [← c6]; exact y5 k hk⟩
      · rw [xw_I, ux 170 3 (by omega)]
        rcases c3 with z | ⟨q, z1, z2, z3⟩
        · exact .inl z
        · exact .inr ⟨q, z1, z2, BRK_c (fun k => ux _ k (by omega)) z3⟩
      · rw [xw_I, ux 174 10 (by omega)]
        rcases c4 with z | ⟨q, z1, z2, z3⟩
        · exact .inl z
        · exact .inr ⟨q, z1, z2, TRK_c (fun b k hb => ux _ k (by omega)) z3⟩
    · rw [xw_I, row]; exact enk _ K1
    · rw [xw_I, row]; exact lvk
    · rw [xw_I, ux b j (by omega)]; exact u1 b j (by omega)
/-- levels and all that is known, on both sides -/
theorem both_ready {n : Nat} {σ : XS} {g : GD} {gT gP : GH} {st : Nat} (hn : n ≤ 512) (H : IV n σ g gT gP st) : ∃ τ I', f_X11_levelsNow σ 1 = some (165, τ) ∧ f_X12_knows τ 183 = some (xw τ I') ∧ IV n τ g gT gP st ∧ IV n (xw τ I') g gT gP st ∧ Shp τ ∧ GRD (xI τ) g ∧ GRD I' g ∧ RO g (xI σ 191) ∧ SR g (xI τ) 16 (xI σ 191) ∧ ENK (xI τ) (xR τ) (xlen τ) 157 g (xI σ 191) ∧ LVK (xI τ) g (xI σ 191) ∧ KNK I' g (xI σ 191) ∧ xI τ 191 = xI σ 191 ∧ I' 191 = xI σ 191 ∧ (∀ b j, (b < 157 ∨ (161 ≤ b ∧ b ≤ 164) ∨ (170 ≤ b ∧ b ≤ 206)) → xI τ b j = xI σ b j) ∧ (∀ b j, ¬ (196 ≤ b ∧ b ≤ 198) → ¬ (b = 183 ∧ (j = 32 ∨ j = 35)) → I' b j = xI τ b j) := by
  obtain ⟨τ, e1, H1, K1, L1, u1, l1⟩ := levelsNow_ok hn H
  obtain ⟨I', e2, H2, K2, u2⟩ := knows_ok H1
  have r1 : xI τ 191 = xI σ 191 := by funext k; exact u1 191 k (by omega)
  have r2 : I' 191 = xI σ 191 := by funext k; rw [u2 191 k (by omega) (by omega), r1]
  rw [r1] at K1 L1
  rw [r2] at K2
  have hN := H1.now
  rw [r1] at hN
  exact ⟨τ, I', e1, e2, H1, H2, H1.shp, H1.grd, H2.grd, H.now.2.1, hN.1, K1, L1, K2, r1, r2, u1, u2⟩
end
