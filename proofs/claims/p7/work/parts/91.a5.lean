/-! fractions -/
theorem mod_half {a b : Nat} (hb : 0 < b) (h : 0 < a % b) : b % (a % b) < (b + 1) / 2 := by
  have h1 : a % b < b := Nat.mod_lt _ hb
  generalize a % b = r at *
  by_cases h2 : r ≤ b / 2
  · have := Nat.mod_lt b h
    omega
  · have e : b % r = b - r := by
      rw [Nat.mod_eq_sub_mod (by omega), Nat.mod_eq_of_lt (by omega)]
    omega
theorem gcd11_l : ∀ (m a b n : Nat), a < 2147483648 → b < 2 ^ m → m ≤ 20 → 2 * m + n ≤ 63 → xloop f_X11_commonDivisor_b7 (nI a, nI b, nI n) = some (nI (Nat.gcd a b)) := by
  have stop : ∀ a n, n ≤ 64 → xloop f_X11_commonDivisor_b7 (nI a, nI 0, nI n) = some (nI a) := by
    intro a n hn
    refine xloop_end ?_
    simp only [f_X11_commonDivisor_b7]
    by_cases h : (64 : Int32) ≤ nI n
    · rw [if_pos h]; rfl
    · rw [if_neg h, if_pos (show nI 0 = 0 from rfl)]; rfl
  have step : ∀ a b n, a < 2147483648 → b < 2147483648 → 0 < b → n < 64 → f_X11_commonDivisor_b7 (nI a, nI b, nI n) = some (.inl (nI b, nI (a % b), nI (n + 1))) := by
    intro a b n ha hb h0 hn
    simp only [f_X11_commonDivisor_b7]
    rw [if_neg (by rw [show (64 : Int32) = nI 64 from rfl, nn_le (by omega) (by omega)]; omega), if_neg (nI_ne0 h0 (by omega))]
    unfold xdz
    rw [if_neg (nI_ne0 h0 (by omega)), Option.bind_some, nn_rem ha hb, nI_succ]
  intro m
  induction m with
  | zero =>
    intro a b n ha hb _ hn
    have : b = 0 := by simpa using hb
    subst this
    rw [stop a n (by omega), Nat.gcd_zero_right]
  | succ m ih =>
    intro a b n ha hb hm hn
    have hp : 2 ^ (m + 1) ≤ 2 ^ 20 := Nat.pow_le_pow_right (by decide) hm
    have hp2 : (2 : Nat) ^ 20 = 1048576 := by decide
    by_cases h0 : b = 0
    · subst h0
      rw [stop a n (by omega), Nat.gcd_zero_right]
    · rw [xloop_step (step a b n ha (by omega) (by omega) (by omega))]
      have hr := Nat.mod_lt a (show 0 < b by omega)
      by_cases h1 : a % b = 0
      · rw [h1, stop b _ (by omega)]
        congr 2
        rw [Nat.gcd_comm, Nat.gcd_rec, h1, Nat.gcd_zero_left]
      · rw [xloop_step (step b (a % b) (n + 1) (by omega) (by omega) (by omega) (by omega))]
        have hh := mod_half (a := a) (b := b) (by omega) (by omega)
        rw [ih (a % b) (b % (a % b)) (n + 1 + 1) (by omega) (by rw [Nat.pow_succ] at hb; omega) (by omega) (by omega)]
        congr 2
        rw [Nat.gcd_comm (a % b), ← Nat.gcd_rec, ← Nat.gcd_rec, Nat.gcd_comm]
theorem gcd11_ok {a b : Nat} (ha : a < 2147483648) (hb : b ≤ 65536) : f_X11_commonDivisor (nI a) (nI b) = some (nI (Nat.gcd a b)) := gcd11_l 17 a b 0 ha (by omega) (by decide) (by decide)
theorem gcd12_l (x0 x1 x2 : Int32) : ∀ (m a b : Nat), b < m → a < 2147483648 → b < 2147483648 → 0 < Nat.gcd a b → xloop (f_X12_part_b14 x0 x1 x2) (nI a, nI b) = some (if x2 = 0 then x0 / nI (Nat.gcd a b) else x1 / nI (Nat.gcd a b)) := by
  intro m
  induction m with
  | zero => intro a b h; omega
  | succ m ih =>
    intro a b h ha hb hg
    by_cases h0 : b = 0
    · subst h0
      rw [Nat.gcd_zero_right] at hg ⊢
      refine xloop_end ?_
      simp only [f_X12_part_b14]
      rw [if_pos (by decide)]
      unfold xdz
      rw [if_neg (nI_ne0 hg (by omega))]
      split <;> rfl
    · have st : f_X12_part_b14 x0 x1 x2 (nI a, nI b) = some (.inl (nI b, nI (a % b))) := by
        simp only [f_X12_part_b14]
        rw [if_neg (nI_nle (by omega) (by omega))]
        unfold xdz
        rw [if_neg (nI_ne0 (by omega) (by omega)), Option.bind_some, nn_rem ha hb]
      have hr := Nat.mod_lt a (show 0 < b by omega)
      have e : Nat.gcd b (a % b) = Nat.gcd a b := by rw [Nat.gcd_comm, ← Nat.gcd_rec, Nat.gcd_comm]
      rw [xloop_step st, ih b (a % b) (by omega) hb (by omega) (by rw [e]; exact hg), e]
/-- the two sides' parts of a fraction -/
theorem part_ok {z : Int} {b : Nat} (hz : -2147483648 < z) (hz2 : z < 2147483648) (hb : 0 < b) (hb2 : b ≤ 65536) (x : Int32) : ∃ r : Int32, f_X11_partOfFraction (iI z) (nI b) x = some (if x = 0 ∨ x = 1 then r else -100000) ∧ f_X12_part (iI z) (nI b) x = some r := by
  have hg : 0 < Nat.gcd z.natAbs b := Nat.gcd_pos_of_pos_right _ hb
  have hgl : Nat.gcd z.natAbs b ≤ b := Nat.gcd_le_right _ hb
  have ha : xabs (iI z) = nI z.natAbs := by
    unfold xabs
    have e : ((0 : Int32) ≤ iI z) = (0 ≤ z) := iI_le (a := 0) (by omega) (by omega) (by omega) (by omega)
    simp only [e]
    by_cases h : 0 ≤ z
    · rw [if_pos h, iI_n]; congr 1; omega
    · rw [if_neg h, show (0 : Int32) = iI 0 from rfl, iI_sub, iI_n]; congr 1; omega
  have hd : xdz (nI (Nat.gcd z.natAbs b)) = some () := by unfold xdz; rw [if_neg (nI_ne0 hg (by omega))]
  refine ⟨if x = 0 then iI z / nI (Nat.gcd z.natAbs b) else nI b / nI (Nat.gcd z.natAbs b), ?_, ?_⟩
  · unfold f_X11_partOfFraction
    rw [ha, gcd11_ok (by omega) hb2, Option.bind_some, if_neg (nI_ne0 hg (by omega)), hd]
    by_cases h0 : x = 0
    · simp [h0]
    · by_cases h1 : x = 1
      · simp [h1]
      · simp [h0, h1]
  · unfold f_X12_part
    have e : ((0 : Int32) ≤ iI z) = (0 ≤ z) := iI_le (a := 0) (by omega) (by omega) (by omega) (by omega)
    have h1 : (if (0 : Int32) ≤ iI z then xloop (f_X12_part_b14 (iI z) (nI b) x) (iI z, nI b) else xloop (f_X12_part_b14 (iI z) (nI b) x) (-iI z, nI b)) = xloop (f_X12_part_b14 (iI z) (nI b) x) (nI z.natAbs, nI b) := by
      simp only [e]
      by_cases h : 0 ≤ z
      · rw [if_pos h]; congr 2; rw [iI_n]; congr 1; omega
      · rw [if_neg h, iI_neg]; congr 2; rw [iI_n]; congr 1; omega
    rw [h1]
    exact gcd12_l _ _ _ (b + 1) _ b (by omega) (by omega) (by omega) hg
theorem in_01 (x : Int32) : f_X12_in x 0 1 = some (if x = 0 ∨ x = 1 then 1 else 0) := by
  unfold f_X12_in
  by_cases h0 : x < 0
  · rw [if_pos h0]
    have a : ¬ (x = 0 ∨ x = 1) := by
      rintro (z | z) <;> rw [z] at h0 <;> exact absurd h0 (by decide)
    rw [if_neg a]
  · rw [if_neg h0]
    obtain ⟨j, hj, rfl⟩ := nn_of h0
    have e1 : ((1 : Int32) < nI j) = (1 < j) := nn_lt (a := 1) (by decide) hj
    have e2 : (nI j = 0) = (j = 0) := nn_eq (b := 0) hj (by decide)
    have e3 : (nI j = 1) = (j = 1) := nn_eq (b := 1) hj (by decide)
    simp only [e1, e2, e3]
    by_cases h : 1 < j
    · rw [if_pos h, if_neg (by omega)]
    · rw [if_neg h, if_pos (by omega)]
