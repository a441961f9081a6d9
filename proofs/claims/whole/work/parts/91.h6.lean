/-! rows of turns, counted forwards and backwards with weights -/
theorem wy_csw {K : Nat} (hK : 0 < K) (b : Nat → Bool) (q r a : Nat → Nat) : ∀ n, (∀ i, i < n → b i = true → q i * r i = K) → K * (fb_sm (fun i => if b i then a i else 0) n * fb_sm (fun i => if b i then a i else 0) n) ≤ fb_sm (fun i => if b i then q i else 0) n * fb_sm (fun i => if b i then a i * a i * r i else 0) n
  | 0, _ => Nat.le_refl _
  | n + 1, h => by
    have ih := wy_csw hK b q r a n (fun i hi => h i (by omega))
    rw [fb_sm_succ, fb_sm_succ, fb_sm_succ]
    cases hb : b n with
    | false =>
      rw [if_neg (by decide), if_neg (by decide), if_neg (by decide)]
      exact ih
    | true =>
      have hq := h n (by omega) hb
      rw [if_pos rfl, if_pos rfl, if_pos rfl]
      generalize fb_sm (fun i => if b i then a i else 0) n = S at *
      generalize fb_sm (fun i => if b i then q i else 0) n = c at *
      generalize fb_sm (fun i => if b i then a i * a i * r i else 0) n = M at *
      generalize a n = x at *
      generalize q n = p at *
      generalize r n = z at *
      have k : 2 * (K * (S * x)) ≤ c * (x * x * z) + p * M := by
        by_cases hc : c = 0
        · subst hc
          rw [Nat.zero_mul] at ih
          have h0 := Nat.mul_eq_zero.mp (Nat.le_zero.mp ih)
          have hS : S = 0 := by
            rcases h0 with h0 | h0
            · omega
            · exact (Nat.mul_eq_zero.mp h0).elim id id
          subst hS
          simp
        · have t := Nat.mul_le_mul_left z (wy_two (c * x) (p * S))
          have u := Nat.mul_le_mul_left p ih
          have e1 : c * (2 * (K * (S * x))) = z * (2 * (c * x * (p * S))) := by
            rw [← hq]
            simp only [Nat.mul_assoc, Nat.mul_left_comm, Nat.mul_comm]
          have e2 : z * (c * x * (c * x) + p * S * (p * S)) = c * (c * (x * x * z)) + p * (K * (S * S)) := by
            rw [← hq, Nat.mul_add]
            simp only [Nat.mul_assoc, Nat.mul_left_comm, Nat.mul_comm]
          have e3 : c * (c * (x * x * z) + p * M) = c * (c * (x * x * z)) + p * (c * M) := by
            rw [Nat.mul_add, Nat.mul_left_comm c p M]
          have q2 : c * (2 * (K * (S * x))) ≤ c * (c * (x * x * z) + p * M) := by
            rw [e1, e3]
            rw [e2] at t
            omega
          exact Nat.le_of_mul_le_mul_left q2 (by omega)
      have e1 : K * ((S + x) * (S + x)) = K * (S * S) + 2 * (K * (S * x)) + K * (x * x) := by
        have : (S + x) * (S + x) = S * S + 2 * (S * x) + x * x := by
          simp only [Nat.mul_add, Nat.add_mul, Nat.two_mul]
          rw [Nat.mul_comm x S]
          omega
        rw [this, Nat.mul_add, Nat.mul_add, Nat.mul_left_comm K 2]
      have e2 : (c + p) * (M + x * x * z) = c * M + c * (x * x * z) + p * M + K * (x * x) := by
        rw [Nat.add_mul, Nat.mul_add, Nat.mul_add, ← hq, Nat.mul_comm (x * x) z, ← Nat.mul_assoc p z]
        omega
      rw [e1, e2]
      omega
def fb_pr (f : Nat → Nat) : Nat → Nat
  | 0 => 1
  | n + 1 => fb_pr f n * f n
theorem fb_pr_pos {f : Nat → Nat} : ∀ n, (∀ k, k < n → 0 < f k) → 0 < fb_pr f n
  | 0, _ => Nat.one_pos
  | n + 1, h => Nat.mul_pos (fb_pr_pos n (fun k hk => h k (by omega))) (h n (by omega))
theorem fb_pr_dvd {f : Nat → Nat} {k : Nat} : ∀ n, k < n → f k ∣ fb_pr f n
  | 0, h => absurd h (Nat.not_lt_zero _)
  | n + 1, h => by
    by_cases q : k = n
    · subst q; exact Nat.dvd_mul_left _ _
    · exact Nat.dvd_trans (fb_pr_dvd n (by omega)) (Nat.dvd_mul_right _ _)
section WEIGH
variable {T : Nat → Nat → Bool} {n s0 : Nat} {P Q : Nat → Nat}
/-- weights of the turns out of a state, into it -/
def wyA (T : Nat → Nat → Bool) (n : Nat) (P : Nat → Nat) (s : Nat) : Nat := fb_sm (fun i => if T s i then P (s ^^^ 2 ^ i) else 0) n
def wyB (T : Nat → Nat → Bool) (n : Nat) (Q : Nat → Nat) (t : Nat) : Nat := fb_sm (fun i => if T (t ^^^ 2 ^ i) i then Q (t ^^^ 2 ^ i) else 0) n
theorem wyB_0 (hQ : ∀ s, s < 2 ^ n → 0 < Q s) {t : Nat} (ht : t < 2 ^ n) (h : wyB T n Q t = 0) (L : Nat) : wyX T n s0 (L + 1) t = 0 := by
  have z : ∀ i, i < n → T (t ^^^ 2 ^ i) i = false := fun i hi => by
    have a := fb_sm_zero h i hi
    cases y : T (t ^^^ 2 ^ i) i with
    | false => rfl
    | true =>
      rw [if_pos y] at a
      have := hQ _ (wy_fl ht hi)
      omega
  rw [wyX, show fb_sm (fun i => if T (t ^^^ 2 ^ i) i then wyX T n s0 L (t ^^^ 2 ^ i) else 0) n = fb_sm (fun _ => 0) n from fb_sm_cong (fun i hi => by rw [z i hi]; rfl), fb_sm_const]
  exact Nat.mul_zero _
theorem wy_w1 {K : Nat} {rB rQ : Nat → Nat} (hK : 0 < K) (hQ : ∀ s, s < 2 ^ n → 0 < Q s) (eB : ∀ t, t < 2 ^ n → wyB T n Q t ≠ 0 → wyB T n Q t * rB t = K) (eQ : ∀ t, t < 2 ^ n → Q t * rQ t = K) (L : Nat) : fb_sm (fun t => P t * (rB t * (wyX T n s0 (L + 1) t * wyX T n s0 (L + 1) t))) (2 ^ n) ≤ fb_sm (fun s => wyA T n P s * (rQ s * (wyX T n s0 L s * wyX T n s0 L s))) (2 ^ n) := by
  have e : fb_sm (fun s => wyA T n P s * (rQ s * (wyX T n s0 L s * wyX T n s0 L s))) (2 ^ n) = fb_sm (fun t => P t * fb_sm (fun i => if T (t ^^^ 2 ^ i) i then wyX T n s0 L (t ^^^ 2 ^ i) * wyX T n s0 L (t ^^^ 2 ^ i) * rQ (t ^^^ 2 ^ i) else 0) n) (2 ^ n) := by
    have w := wy_turn (n := n) (fun s i => if T s i then P (s ^^^ 2 ^ i) * (wyX T n s0 L s * wyX T n s0 L s * rQ s) else 0)
    have l : fb_sm (fun s => wyA T n P s * (rQ s * (wyX T n s0 L s * wyX T n s0 L s))) (2 ^ n) = fb_sm (fun s => fb_sm (fun i => if T s i then P (s ^^^ 2 ^ i) * (wyX T n s0 L s * wyX T n s0 L s * rQ s) else 0) n) (2 ^ n) := fb_sm_cong (fun s _ => by
      unfold wyA
      rw [Nat.mul_comm, ← fb_sm_mul]
      refine fb_sm_cong (fun i _ => ?_)
      by_cases y : T s i = true
      · rw [if_pos y, if_pos y, Nat.mul_comm, Nat.mul_comm (rQ s)]
      · rw [if_neg y, if_neg y, Nat.mul_zero])
    rw [l, ← w]
    refine fb_sm_cong (fun t _ => ?_)
    rw [← fb_sm_mul]
    refine fb_sm_cong (fun i _ => ?_)
    rw [wy_ff]
    by_cases y : T (t ^^^ 2 ^ i) i = true
    · rw [if_pos y, if_pos y]
    · rw [if_neg y, if_neg y, Nat.mul_zero]
  rw [e]
  refine fb_sm_le (fun t ht => Nat.mul_le_mul_left _ ?_)
  by_cases hb : wyB T n Q t = 0
  · rw [wyB_0 hQ ht hb]
    simp
  · have cs := wy_csw hK (fun i => T (t ^^^ 2 ^ i) i) (fun i => Q (t ^^^ 2 ^ i)) (fun i => rQ (t ^^^ 2 ^ i)) (fun i => wyX T n s0 L (t ^^^ 2 ^ i)) n (fun i hi _ => eQ _ (wy_fl ht hi))
    have hB := eB t ht hb
    have x : wyX T n s0 (L + 1) t = fb_sm (fun i => if T (t ^^^ 2 ^ i) i then wyX T n s0 L (t ^^^ 2 ^ i) else 0) n := by rw [wyX]
    rw [x]
    have bb : fb_sm (fun i => if T (t ^^^ 2 ^ i) i then Q (t ^^^ 2 ^ i) else 0) n = wyB T n Q t := rfl
    rw [bb] at cs
    generalize fb_sm (fun i => if T (t ^^^ 2 ^ i) i then wyX T n s0 L (t ^^^ 2 ^ i) else 0) n = S at *
    generalize fb_sm (fun i => if T (t ^^^ 2 ^ i) i then wyX T n s0 L (t ^^^ 2 ^ i) * wyX T n s0 L (t ^^^ 2 ^ i) * rQ (t ^^^ 2 ^ i) else 0) n = M at *
    have k := Nat.mul_le_mul_left (rB t) cs
    have k2 : K * (rB t * (S * S)) ≤ K * M := by
      rw [Nat.mul_left_comm K]
      refine Nat.le_trans k (Nat.le_of_eq ?_)
      rw [← Nat.mul_assoc, Nat.mul_comm (rB t), hB]
    exact Nat.le_of_mul_le_mul_left k2 hK
theorem wy_w2 {K : Nat} {rB rQ : Nat → Nat} (hK : 0 < K) (hQ : ∀ s, s < 2 ^ n → 0 < Q s) (eB : ∀ t, t < 2 ^ n → wyB T n Q t ≠ 0 → wyB T n Q t * rB t = K) (eQ : ∀ t, t < 2 ^ n → Q t * rQ t = K) (hAB : ∀ s, s < 2 ^ n → wyA T n P s * wyB T n Q s ≤ P s * Q s) (h0 : s0 < 2 ^ n) : ∀ L, fb_sm (fun t => P t * (rB t * (wyX T n s0 (L + 1) t * wyX T n s0 (L + 1) t))) (2 ^ n) ≤ wyA T n P s0 * rQ s0
  | 0 => by
    refine Nat.le_trans (wy_w1 hK hQ eB eQ 0) (Nat.le_of_eq ?_)
    rw [show fb_sm (fun s => wyA T n P s * (rQ s * (wyX T n s0 0 s * wyX T n s0 0 s))) (2 ^ n) = fb_sm (fun s => if s = s0 then (fun s => wyA T n P s * rQ s) s else 0) (2 ^ n) from fb_sm_cong (fun s _ => by
      show _ * (_ * ((if s = s0 then 1 else 0) * (if s = s0 then 1 else 0))) = _
      by_cases z : s = s0
      · rw [if_pos z, if_pos z]; simp
      · rw [if_neg z, if_neg z]; simp), fb_sm_one, if_pos h0]
  | L + 1 => by
    refine Nat.le_trans (wy_w1 hK hQ eB eQ (L + 1)) (Nat.le_trans (fb_sm_le (fun s hs => ?_)) (wy_w2 hK hQ eB eQ hAB h0 L))
    by_cases hb : wyB T n Q s = 0
    · rw [wyB_0 hQ hs hb]
      simp
    · have e1 := eB s hs hb
      have e2 := eQ s hs
      have ab := hAB s hs
      generalize wyX T n s0 (L + 1) s * wyX T n s0 (L + 1) s = x
      generalize wyA T n P s = A at *
      generalize wyB T n Q s = B at *
      generalize rB s = y at *
      generalize rQ s = z at *
      generalize P s = p at *
      generalize Q s = q at *
      have k : K * (A * z) ≤ K * (p * y) := by
        have m := Nat.mul_le_mul_left (y * z) ab
        have f1 : y * z * (A * B) = K * (A * z) := by
          rw [← e1]
          simp only [Nat.mul_assoc, Nat.mul_left_comm, Nat.mul_comm]
        have f2 : y * z * (p * q) = K * (p * y) := by
          rw [← e2]
          simp only [Nat.mul_assoc, Nat.mul_left_comm, Nat.mul_comm]
        rw [f1, f2] at m
        exact m
      have k2 := Nat.mul_le_mul_right x (Nat.le_of_mul_le_mul_left k hK)
      rw [Nat.mul_assoc, Nat.mul_assoc] at k2
      exact k2
/-- weights P, Q with (turns out, weighted by P) * (turns in, weighted by Q) at most P * Q at every state: the rows of L + 1 turns from s0 to t -/
theorem wy_w (hQ : ∀ s, s < 2 ^ n → 0 < Q s) (hAB : ∀ s, s < 2 ^ n → wyA T n P s * wyB T n Q s ≤ P s * Q s) (h0 : s0 < 2 ^ n) (L : Nat) {t : Nat} (ht : t < 2 ^ n) : wyX T n s0 (L + 1) t * wyX T n s0 (L + 1) t * (P t * Q s0) ≤ wyA T n P s0 * wyB T n Q t := by
  by_cases hb : wyB T n Q t = 0
  · rw [wyB_0 hQ ht hb]
    simp
  · obtain ⟨f, hf⟩ : ∃ f : Nat → Nat, f = fun s => (if wyB T n Q s = 0 then 1 else wyB T n Q s) * Q s := ⟨_, rfl⟩
    have fp : ∀ s, s < 2 ^ n → 0 < f s := fun s hs => by
      rw [hf]
      refine Nat.mul_pos ?_ (hQ s hs)
      by_cases z : wyB T n Q s = 0
      · rw [if_pos z]; exact Nat.one_pos
      · rw [if_neg z]; omega
    obtain ⟨K, hKe⟩ : ∃ K, K = fb_pr f (2 ^ n) := ⟨_, rfl⟩
    have hK : 0 < K := by rw [hKe]; exact fb_pr_pos _ fp
    have dv : ∀ s, s < 2 ^ n → f s ∣ K := fun s hs => by rw [hKe]; exact fb_pr_dvd _ hs
    have eB : ∀ s, s < 2 ^ n → wyB T n Q s ≠ 0 → wyB T n Q s * (K / wyB T n Q s) = K := fun s hs z => by
      refine Nat.mul_div_cancel' (Nat.dvd_trans ?_ (dv s hs))
      rw [hf]
      show wyB T n Q s ∣ (if wyB T n Q s = 0 then 1 else wyB T n Q s) * Q s
      rw [if_neg z]
      exact Nat.dvd_mul_right _ _
    have eQ : ∀ s, s < 2 ^ n → Q s * (K / Q s) = K := fun s hs => by
      refine Nat.mul_div_cancel' (Nat.dvd_trans ?_ (dv s hs))
      rw [hf]
      exact Nat.dvd_mul_left _ _
    have a := wy_w2 (rB := fun s => K / wyB T n Q s) (rQ := fun s => K / Q s) hK hQ eB eQ hAB h0 L
    have c := fb_sm_part (fun t => P t * (K / wyB T n Q t * (wyX T n s0 (L + 1) t * wyX T n s0 (L + 1) t))) ht
    have d : P t * (K / wyB T n Q t * (wyX T n s0 (L + 1) t * wyX T n s0 (L + 1) t)) ≤ wyA T n P s0 * (K / Q s0) := by
      have c2 : P t * (K / wyB T n Q t * (wyX T n s0 (L + 1) t * wyX T n s0 (L + 1) t)) ≤ fb_sm (fun t => P t * (K / wyB T n Q t * (wyX T n s0 (L + 1) t * wyX T n s0 (L + 1) t))) (2 ^ n) := Nat.le_trans (Nat.le_add_left _ _) c
      exact Nat.le_trans c2 a
    have e1 := eB t ht hb
    have e2 := eQ s0 h0
    generalize wyX T n s0 (L + 1) t * wyX T n s0 (L + 1) t = x at *
    generalize wyA T n P s0 = A at *
    generalize wyB T n Q t = B at *
    generalize K / B = y at *
    generalize K / Q s0 = z at *
    generalize P t = p at *
    generalize Q s0 = q at *
    have k : K * (x * (p * q)) ≤ K * (A * B) := by
      have m := Nat.mul_le_mul_left (B * q) d
      have f1 : B * q * (p * (y * x)) = K * (x * (p * q)) := by
        rw [← e1]
        simp only [Nat.mul_assoc, Nat.mul_left_comm, Nat.mul_comm]
      have f2 : B * q * (A * z) = K * (A * B) := by
        rw [← e2]
        simp only [Nat.mul_assoc, Nat.mul_left_comm, Nat.mul_comm]
      rw [f1, f2] at m
      exact m
    exact Nat.le_of_mul_le_mul_left k hK
end WEIGH
