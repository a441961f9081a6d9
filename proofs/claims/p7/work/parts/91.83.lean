/-! the energies of all states of the first sites -/
theorem EnO.mem {σ : XS} {E c m : Nat} (h : EnO σ E c m) (I : Nat → Nat → Int32) : EnO (xw σ I) E c m := h
section FILL
variable {σ : XS} {I : Nat → Nat → Int32} {E c m : Nat} {g : GD}
/-- the row of the first i sites' states, and nothing else changed but the marks of E -/
def flP (I J : Nat → Nat → Int32) (E c : Nat) (g : GD) (F : Nat → Int) (i : Nat) : Prop := (∀ s, s < 2 ^ i → J c s = iI (eP g F i s)) ∧ ∀ a k, a ≠ c → (a < E ∨ E + 2 < a ∨ (a = E ∧ k ≠ 2 ∧ k ≠ 3)) → J a k = I a k
theorem fill_l (hS : Shp σ) (hG : GRD I g) (hE : EnO σ E c m) {B H k : Nat} {F : Nat → Int} (hB : σ.1 B = (20, 32)) (hH : σ.1 H = (20, 16)) (hBo : B < E ∨ E + 2 < B) (hHo : H < E ∨ E + 2 < H) (hBc : B ≠ c) (hHc : H ≠ c) (hk : k ≤ gSz g) (hm : 2 ^ k ≤ m)
    (hF : ∀ t, t < 32 → (gTo g t).isSome = true → I B t = iI (F t) ∧ -3 ≤ F t ∧ F t ≤ 3) (hF2 : ∀ i, i < gSz g → I H i = iI (F (32 + i))) :
    ∃ J, f_X2_fill_j35 (xw σ I) E 11 B H (nI k) = some (xw σ J) ∧ flP I J E c g F k := by
  have h16 := (gAll_b g hG.1).2.2.1
  have hEb := hE.b
  have hm0 : 0 < m := Nat.lt_of_lt_of_le (Nat.two_pow_pos k) hm
  have hm1 := hE.2.2.2.1
  unfold f_X2_fill_j35
  rw [xw_gR, hE.R4 hS, Option.bind_some, show (0 : Int32) = nI 0 from rfl, xw_sI hE.2.2.1 hm0 (by omega), Option.bind_some]
  have key : ∃ τ, xloop (f_X2_fill_b45 E 11 B H (nI k)) (nI 0, xw σ (xup I c 0 (nI 0))) = some τ ∧ ∃ J, τ = xw σ J ∧ flP I J E c g F k := by
    refine xforI (fun i x => ∃ J, x = (nI i, xw σ J) ∧ flP I J E c g F i) k ⟨_, rfl, ?_, ?_⟩ ?_ ?_
    · intro s hs
      have : s = 0 := by simpa using hs
      subst this
      rw [xup_at, if_pos ⟨rfl, rfl⟩]
      have e : eP g F 0 0 = 0 := by
        unfold eP
        rw [fb_si_z (k := 0) (by omega) (fun t _ _ => by
          have : gIn g 0 t = false := by
            unfold gIn
            split
            · rfl
            · simp
          rw [this]; rfl)]
        rfl
      rw [e]; rfl
    · intro a k h1 h2
      rw [xup_at, if_neg (by omega)]
    · rintro i x hi ⟨J, rfl, hJ1, hJ2⟩
      have hiz : i < gSz g := by omega
      have hG2 : GRD J g := GRD_c (fun a k z => hJ2 a k (by unfold sGRD at z; omega) (by unfold sGRD at z; omega)) hG
      have hFJ : ∀ t, t < 32 → (gTo g t).isSome = true → J B t = iI (F t) ∧ -3 ≤ F t ∧ F t ≤ 3 := fun t ht h => by rw [hJ2 B t hBc (by omega)]; exact hF t ht h
      have hHl : xal σ H = some (nI 16) := by
        rw [xal_ok (by unfold xT; rw [hH]; decide)]
        unfold xlen
        rw [hH]
      have hpw : 2 ^ (i + 1) ≤ m := Nat.le_trans (Nat.pow_le_pow_right (by decide) (by omega)) hm
      refine ⟨(nI (i + 1), xw σ (adI (slI J E i F (lwM g F i)) c i (plS g F i) (2 ^ i))), ?_, _, rfl, ?_, ?_⟩
      · simp only [f_X2_fill_b45]
        rw [if_neg (by rw [nn_le (by omega) (by omega)]; omega), xw_al, hHl, Option.bind_some, if_neg (by rw [nn_le (by omega) (by omega)]; omega), xw_ck, xck_ok (hE.T hS), Option.bind_some, see_ok hS hG2 hE hB hBo hiz hFJ, Option.bind_some, xw_aI hH (by omega) (by decide), Option.bind_some, xw_ck, xck_ok (hE.T hS), Option.bind_some, add_ok hS hG.1 hE hiz hpw slI_P (by rw [slI_out hHo, hJ2 H i hHc (by omega)]; exact hF2 i hiz), Option.bind_some, nI_succ]
      · intro s hs
        have hp : 2 ^ (i + 1) = 2 ^ i + 2 ^ i := by rw [Nat.pow_succ]; omega
        unfold adI
        by_cases h1 : s < 2 ^ i
        · rw [if_pos ⟨rfl, h1⟩, slI_out (by omega), hJ1 s h1, iI_add, eP_lo hG.1 F hiz h1]
        · rw [if_neg (by omega), if_pos ⟨rfl, by omega, by omega⟩, slI_out (by omega), hJ1 _ (by omega), iI_sub, ← eP_hi hG.1 F hiz (by omega), show 2 ^ i + (s - 2 ^ i) = s by omega]
      · intro a k h1 h2
        rw [adI_out h1]
        rcases h2 with h2 | h2 | h2
        · rw [slI_out (by omega)]; exact hJ2 a k h1 (by omega)
        · rw [slI_out (by omega)]; exact hJ2 a k h1 (by omega)
        · rw [h2.1, slI_ot h2.2.1 h2.2.2]; exact hJ2 E k (by omega) (by omega)
    · rintro x ⟨J, rfl, hJ⟩
      refine ⟨xw σ J, ?_, J, rfl, hJ⟩
      simp only [f_X2_fill_b45]
      rw [if_pos (by rw [nn_le (by omega) (by omega)]; exact Nat.le_refl _)]
      rfl
  obtain ⟨τ, h1, J, rfl, h2⟩ := key
  exact ⟨J, h1, h2⟩
end FILL
/-- what filling leaves -/
def FlR (σ : XS) (I : Nat → Nat → Int32) (E : Nat) (g : GD) (F : Nat → Int) (k : Nat) (a : Nat) (τ : XS) : Prop := Shp τ ∧ (∃ c a', EnO τ E c (2 ^ a') ∧ a ≤ a' ∧ a' ≤ 16 ∧ k ≤ a' ∧ c ≤ xn τ ∧ (c = xR σ E 4 ∨ c = xn σ + 1) ∧ xn τ ≤ xn σ + (a' - a) ∧ xz τ ≤ xz σ + 65536 * (a' - a) ∧ (∀ s, s < 2 ^ k → xI τ c s = iI (eP g F k s)) ∧
  ∀ b j, b ≠ c → b ≤ xn σ → (b < E ∨ E + 2 < b ∨ (b = E ∧ j ≠ 2 ∧ j ≠ 3)) → xI τ b j = I b j) ∧ xn σ ≤ xn τ ∧ (∀ b, b ≤ xn σ → τ.1 b = σ.1 b) ∧ (∀ b j, b ≤ xn σ → ¬ (b = E ∧ j = 4) → xR τ b j = xR σ b j) ∧ ∀ b j, b ≤ xn σ → xL τ b j = xL σ b j
theorem fill11_ok {σ : XS} {I : Nat → Nat → Int32} {E c a : Nat} {g : GD} (hS : Shp σ) (hG : GRD I g) (hE : EnO σ E c (2 ^ a)) (ha : a ≤ 16) (hcn : c ≤ xn σ) {B H k : Nat} {F : Nat → Int} (hB : σ.1 B = (20, 32)) (hH : σ.1 H = (20, 16)) (hBo : B < E ∨ E + 2 < B) (hHo : H < E ∨ E + 2 < H) (hBc : B ≠ c) (hHc : H ≠ c) (hB2 : B < 207) (hH2 : H < 207) (hk : k ≤ gSz g)
    (hF : ∀ t, t < 32 → (gTo g t).isSome = true → I B t = iI (F t) ∧ -3 ≤ F t ∧ F t ≤ 3) (hF2 : ∀ i, i < gSz g → I H i = iI (F (32 + i))) :
    ∃ τ, f_X2_fill (xw σ I) E 11 B H (nI k) = some τ ∧ FlR σ I E g F k a τ := by
  have h16 := (gAll_b g hG.1).2.2.1
  have hEb := hE.b
  have hp : 2 ^ k ≤ 2 ^ 16 := Nat.pow_le_pow_right (by decide) (by omega)
  have hpa : 2 ^ a ≤ 2 ^ 16 := Nat.pow_le_pow_right (by decide) ha
  have h65 : (2 : Nat) ^ 16 = 65536 := by decide
  unfold f_X2_fill
  rw [if_neg (nI_pos (by omega)), if_pos (by rw [show (16 : Int32) = nI 16 from rfl, nn_le (by omega) (by omega)]; omega), xw_gR, hE.R4 hS, Option.bind_some, xw_al, hE.L, Option.bind_some, nn_one (by omega)]
  by_cases hle : 2 ^ k ≤ 2 ^ a
  · rw [if_pos (by rw [nn_le (by omega) (by omega)]; exact hle)]
    obtain ⟨J, e1, e2, e3⟩ := fill_l hS hG hE hB hH hBo hHo hBc hHc hk hle hF hF2
    refine ⟨xw σ J, e1, hS, ⟨c, a, hE, Nat.le_refl _, ha, (Nat.pow_le_pow_iff_right (by decide)).mp hle, hcn, .inl hE.2.1.symm, by show xn σ ≤ _; omega, by show xz σ ≤ _; omega, e2, fun b j h1 _ h2 => e3 b j h1 h2⟩, Nat.le_refl _, fun _ _ => rfl, fun _ _ _ _ => rfl, fun _ _ _ => rfl⟩
  · rw [if_neg (by rw [nn_le (by omega) (by omega)]; exact hle)]
    have hak : a < k := by
      rcases Nat.lt_or_ge a k with h | h
      · exact h
      · exact absurd (Nat.pow_le_pow_right (by decide) h) hle
    rw [xnA_ok (σ := xw σ I) (by omega), Option.bind_some]
    dsimp only
    unfold f_X2_fill_j32
    rw [xnz_ok (by omega), Option.bind_some]
    have hn206 : 206 ≤ xn σ := hS.1
    have hEn : E ≠ xn σ + 1 := by omega
    have hT1 : xT (xnew (xw σ I) 20 (2 ^ k) (2 ^ k)) E = 2 := by
      rw [hT_new, if_neg (show ¬ E = xn (xw σ I) + 1 from hEn)]
      exact hE.T hS
    rw [xpR_ok hT1, Option.bind_some]
    obtain ⟨σ2, hσ2⟩ : ∃ σ2, σ2 = xuR (xnew (xw σ I) 20 (2 ^ k) (2 ^ k)) E 4 (xn σ + 1) := ⟨_, rfl⟩
    have k2 : ∀ b, b ≤ xn σ → σ2.1 b = σ.1 b := fun b hb => by
      rw [hσ2]
      show (if b = xn σ + 1 then ((20, 2 ^ k) : Nat × Nat) else σ.1 b) = σ.1 b
      rw [if_neg (by omega)]
    have kn : σ2.1 (xn σ + 1) = (20, 2 ^ k) := by
      rw [hσ2]
      show (if xn σ + 1 = xn σ + 1 then ((20, 2 ^ k) : Nat × Nat) else σ.1 _) = _
      rw [if_pos rfl]
    have i2 : ∀ b j, b ≤ xn σ → xI σ2 b j = I b j := fun b j hb => by
      rw [hσ2, hI_uR, hI_new]
      rw [if_neg (show ¬ b = xn (xw σ I) + 1 by show ¬ b = xn σ + 1; omega)]
      rfl
    have r2 : ∀ b j, b ≤ xn σ → ¬ (b = E ∧ j = 4) → xR σ2 b j = xR σ b j := fun b j hb h => by
      rw [hσ2, hR_uR, if_neg h, hR_new, if_neg (show ¬ b = xn (xw σ I) + 1 by show ¬ b = xn σ + 1; omega)]
      rfl
    have rE : xR σ2 E 4 = xn σ + 1 := by rw [hσ2, hR_uR, if_pos ⟨rfl, rfl⟩]
    have l2 : ∀ b j, b ≤ xn σ → xL σ2 b j = xL σ b j := fun b j hb => by
      rw [hσ2, hL_uR, hL_new, if_neg (show ¬ b = xn (xw σ I) + 1 by show ¬ b = xn σ + 1; omega)]
      rfl
    have n2 : xn σ2 = xn σ + 1 := by rw [hσ2]; rfl
    have z2 : xz σ2 = xz σ + 2 ^ k := by rw [hσ2]; rfl
    have hS2 : Shp σ2 := by
      refine ⟨by omega, fun b hb h1 h2 => (k2 b (by omega)).trans (hS.2.1 b hb h1 h2), fun b hb j hj => ?_⟩
      rw [r2 b j (by omega) (by
        rintro ⟨z1, z2⟩
        subst z2
        rcases hE.1 with q | q
        · rw [z1, q] at hj; exact hj (by decide +kernel)
        · rw [z1, q] at hj; exact hj (by decide +kernel))]
      exact hS.2.2 b hb j hj
    have hG2 : GRD (xI σ2) g := GRD_c (fun b j z => i2 b j (by unfold sGRD at z; omega)) hG
    have hE2 : EnO σ2 E (xn σ + 1) (2 ^ k) := ⟨hE.1, rE, kn, by omega, .inr (by omega)⟩
    obtain ⟨J, e1, e2, e3⟩ := fill_l (I := xI σ2) hS2 hG2 hE2 ((k2 B (by omega)).trans hB) ((k2 H (by omega)).trans hH) hBo hHo (by omega) (by omega) hk (Nat.le_refl _) (fun t ht h => by rw [i2 B t (by omega)]; exact hF t ht h) (fun i hi => by rw [i2 H i (by omega)]; exact hF2 i hi)
    refine ⟨xw σ2 J, ?_, hS2, ⟨xn σ + 1, k, hE2, by omega, by omega, Nat.le_refl _, by show _ ≤ xn σ2; omega, .inr rfl, by show xn σ2 ≤ _; omega, by show xz σ2 ≤ _; omega, e2, fun b j h1 h2 h3 => (e3 b j h1 h3).trans (i2 b j h2)⟩, by show _ ≤ xn σ2; omega, k2, r2, l2⟩
    have e0 : xn (xw σ I) + 1 = xn σ + 1 := rfl
    rw [e0, ← hσ2]
    exact e1
