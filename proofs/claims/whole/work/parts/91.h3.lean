/-! rows of turns, counted without wrapping: from any start at most (n/2)^L, up to a factor, have L turns -/
theorem fb_sm_comm (f : Nat → Nat → Nat) (m : Nat) : ∀ n, fb_sm (fun a => fb_sm (f a) m) n = fb_sm (fun b => fb_sm (fun a => f a b) n) m
  | 0 => by
    show 0 = fb_sm (fun _ => 0) m
    rw [fb_sm_const]; rfl
  | n + 1 => by
    rw [fb_sm_succ, fb_sm_comm f m n, ← fb_sm_add]
    exact fb_sm_cong (fun k _ => rfl)
theorem fb_sm_mul (c : Nat) (f : Nat → Nat) : ∀ n, fb_sm (fun k => c * f k) n = c * fb_sm f n
  | 0 => rfl
  | n + 1 => by rw [fb_sm_succ, fb_sm_mul c f n, fb_sm_succ, Nat.mul_add]
theorem fb_sm_one (f : Nat → Nat) (a : Nat) : ∀ n, fb_sm (fun k => if k = a then f k else 0) n = if a < n then f a else 0
  | 0 => rfl
  | n + 1 => by
    rw [fb_sm_succ, fb_sm_one f a n]
    by_cases h : n = a
    · subst h
      rw [if_neg (Nat.lt_irrefl n), if_pos rfl, if_pos (Nat.lt_succ_self n), Nat.zero_add]
    · rw [if_neg h, Nat.add_zero]
      by_cases h2 : a < n
      · rw [if_pos h2, if_pos (by omega)]
      · rw [if_neg h2, if_neg (by omega)]
theorem wy_inv {f p : Nat → Nat} {M : Nat} (h1 : ∀ t, t < M → p t < M) (h2 : ∀ t, t < M → p (p t) = t) : fb_sm (fun t => f (p t)) M = fb_sm f M := by
  have e1 : fb_sm (fun t => f (p t)) M = fb_sm (fun t => fb_sm (fun s => if s = p t then f s else 0) M) M := fb_sm_cong (fun t ht => by rw [fb_sm_one, if_pos (h1 t ht)])
  rw [e1, fb_sm_comm]
  refine fb_sm_cong (fun s hs => ?_)
  have e2 : fb_sm (fun t => if s = p t then f s else 0) M = fb_sm (fun t => if t = p s then (fun _ => f s) t else 0) M := fb_sm_cong (fun t ht => by
    by_cases q : s = p t
    · rw [if_pos q, if_pos (by rw [q, h2 t ht])]
    · rw [if_neg q, if_neg (fun z => q (by rw [z, h2 s hs]))])
  rw [e2, fb_sm_one, if_pos (h1 s hs)]
theorem wy_two (x y : Nat) : 2 * (x * y) ≤ x * x + y * y := by
  rcases Nat.le_total x y with h | h
  · obtain ⟨d, rfl⟩ := Nat.le.dest h
    have e : x * x + (x + d) * (x + d) = 2 * (x * (x + d)) + d * d := by
      simp only [Nat.mul_add, Nat.add_mul, Nat.two_mul]
      rw [Nat.mul_comm d x]
      omega
    rw [e]; exact Nat.le_add_right _ _
  · obtain ⟨d, rfl⟩ := Nat.le.dest h
    have e : (y + d) * (y + d) + y * y = 2 * ((y + d) * y) + d * d := by
      simp only [Nat.mul_add, Nat.add_mul, Nat.two_mul]
      rw [Nat.mul_comm d y]
      omega
    rw [e]; exact Nat.le_add_right _ _
/-- the square of a sum of some numbers -/
theorem wy_cs (b : Nat → Bool) (a : Nat → Nat) : ∀ n, (∀ i, i < n → b i = false → a i = 0) → fb_sm a n * fb_sm a n ≤ fb_ct b n * fb_sm (fun i => a i * a i) n
  | 0, _ => Nat.le_refl _
  | n + 1, h => by
    have ih := wy_cs b a n (fun i hi => h i (by omega))
    rw [fb_sm_succ, fb_ct_succ, fb_sm_succ]
    cases hb : b n with
    | false =>
      have h0 := h n (by omega) hb
      rw [h0]
      simpa using ih
    | true =>
      rw [if_pos rfl]
      generalize fb_sm a n = S at *
      generalize fb_ct b n = c at *
      generalize fb_sm (fun i => a i * a i) n = Q at *
      generalize a n = x at *
      have k : 2 * (S * x) ≤ c * (x * x) + Q := by
        by_cases hc : c = 0
        · subst hc
          have hS : S = 0 := by
            rw [Nat.zero_mul] at ih
            exact (Nat.mul_eq_zero.mp (Nat.le_zero.mp ih)).elim id id
          subst hS
          simp
        · have q1 := wy_two S (c * x)
          have q2 : c * (2 * (S * x)) ≤ c * (c * (x * x) + Q) := by
            have e1 : c * (2 * (S * x)) = 2 * (S * (c * x)) := by rw [Nat.mul_left_comm c 2, Nat.mul_left_comm c S]
            have e2 : c * (c * (x * x) + Q) = c * x * (c * x) + c * Q := by rw [Nat.mul_add, Nat.mul_assoc c x, Nat.mul_left_comm x c x]
            rw [e1, e2]
            omega
          exact Nat.le_of_mul_le_mul_left q2 (by omega)
      have e1 : (S + x) * (S + x) = S * S + 2 * (S * x) + x * x := by
        simp only [Nat.mul_add, Nat.add_mul, Nat.two_mul]
        rw [Nat.mul_comm x S]
        omega
      have e2 : (c + 1) * (Q + x * x) = c * Q + c * (x * x) + Q + x * x := by
        rw [Nat.add_mul, Nat.mul_add]
        omega
      rw [e1, e2]
      omega
section WAYS
variable {T : Nat → Nat → Bool} {n s0 : Nat}
/-- how many rows of turns there are, till none helps; rows of L turns from s0 to t -/
def wyS (T : Nat → Nat → Bool) (n : Nat) : Nat → Nat → Nat
  | 0, _ => 0
  | k + 1, s => if fb_ct (T s) n = 0 then 1 else fb_sm (fun i => if T s i then wyS T n k (s ^^^ 2 ^ i) else 0) n
def wyX (T : Nat → Nat → Bool) (n s0 : Nat) : Nat → Nat → Nat
  | 0, t => if t = s0 then 1 else 0
  | L + 1, t => fb_sm (fun i => if T (t ^^^ 2 ^ i) i then wyX T n s0 L (t ^^^ 2 ^ i) else 0) n
def wyN (T : Nat → Nat → Bool) (n s0 L : Nat) : Nat := fb_sm (wyX T n s0 L) (2 ^ n)
/-- how many turns lead to a state -/
def wyV (T : Nat → Nat → Bool) (n t : Nat) : Nat := fb_ct (fun i => T (t ^^^ 2 ^ i) i) n
theorem wy_fl {t i : Nat} (ht : t < 2 ^ n) (hi : i < n) : t ^^^ 2 ^ i < 2 ^ n := Nat.xor_lt_two_pow ht (Nat.pow_lt_pow_right (by decide) hi)
theorem wy_ff (t i : Nat) : t ^^^ 2 ^ i ^^^ 2 ^ i = t := by rw [Nat.xor_assoc, Nat.xor_self, Nat.xor_zero]
theorem wy_sum (f : Nat → Nat) {i : Nat} (hi : i < n) : fb_sm (fun t => f (t ^^^ 2 ^ i)) (2 ^ n) = fb_sm f (2 ^ n) := wy_inv (p := fun t => t ^^^ 2 ^ i) (fun _ ht => wy_fl ht hi) (fun t _ => wy_ff t i)
/-- the turns into all states are the turns out of all states -/
theorem wy_turn (f : Nat → Nat → Nat) : fb_sm (fun t => fb_sm (fun i => f (t ^^^ 2 ^ i) i) n) (2 ^ n) = fb_sm (fun s => fb_sm (f s) n) (2 ^ n) := by
  exact (fb_sm_comm (fun t i => f (t ^^^ 2 ^ i) i) n (2 ^ n)).trans ((fb_sm_cong (fun i hi => wy_sum (fun s => f s i) hi)).trans (fb_sm_comm f n (2 ^ n)).symm)
theorem wy_go (k L : Nat) : fb_sm (fun t => wyX T n s0 L t * wyS T n (k + 1) t) (2 ^ n) ≤ wyN T n s0 L + fb_sm (fun t => wyX T n s0 (L + 1) t * wyS T n k t) (2 ^ n) := by
  have e : fb_sm (fun t => wyX T n s0 (L + 1) t * wyS T n k t) (2 ^ n) = fb_sm (fun s => fb_sm (fun i => if T s i then wyX T n s0 L s * wyS T n k (s ^^^ 2 ^ i) else 0) n) (2 ^ n) := by
    rw [← wy_turn]
    refine fb_sm_cong (fun t _ => ?_)
    rw [wyX, Nat.mul_comm, ← fb_sm_mul]
    refine fb_sm_cong (fun i _ => ?_)
    rw [wy_ff]
    by_cases z : T (t ^^^ 2 ^ i) i = true
    · rw [if_pos z, if_pos z, Nat.mul_comm]
    · rw [if_neg z, if_neg z, Nat.mul_zero]
  rw [e]
  unfold wyN
  rw [← fb_sm_add]
  refine fb_sm_le (fun s _ => ?_)
  rw [wyS]
  by_cases z : fb_ct (T s) n = 0
  · rw [if_pos z, Nat.mul_one]; exact Nat.le_add_right _ _
  · rw [if_neg z, ← fb_sm_mul]
    refine Nat.le_trans (Nat.le_of_eq (fb_sm_cong (fun i _ => ?_))) (Nat.le_add_left _ _)
    by_cases y : T s i = true
    · rw [if_pos y, if_pos y]
    · rw [if_neg y, if_neg y, Nat.mul_zero]
theorem wy_all : ∀ k L, fb_sm (fun t => wyX T n s0 L t * wyS T n k t) (2 ^ n) ≤ fb_sm (fun l => wyN T n s0 (L + l)) k
  | 0, L => by
    rw [show fb_sm (fun t => wyX T n s0 L t * wyS T n 0 t) (2 ^ n) = fb_sm (fun _ => 0) (2 ^ n) from fb_sm_cong (fun t _ => Nat.mul_zero _), fb_sm_const]
    exact Nat.zero_le _
  | k + 1, L => by
    refine Nat.le_trans (wy_go k L) ?_
    rw [show k + 1 = 1 + k from Nat.add_comm k 1, fb_sm_split]
    refine Nat.add_le_add (Nat.le_of_eq ?_) ?_
    · show wyN T n s0 L = 0 + wyN T n s0 (L + 0)
      rw [Nat.zero_add]; rfl
    · refine Nat.le_trans (wy_all k (L + 1)) (Nat.le_of_eq (fb_sm_cong (fun l _ => ?_)))
      rw [Nat.add_assoc]
theorem wy_ways (h0 : s0 < 2 ^ n) (k : Nat) : wyS T n k s0 ≤ fb_sm (wyN T n s0) k := by
  have a := wy_all (T := T) (n := n) (s0 := s0) k 0
  have e : fb_sm (fun t => wyX T n s0 0 t * wyS T n k t) (2 ^ n) = wyS T n k s0 := by
    rw [show fb_sm (fun t => wyX T n s0 0 t * wyS T n k t) (2 ^ n) = fb_sm (fun t => if t = s0 then wyS T n k t else 0) (2 ^ n) from fb_sm_cong (fun t _ => by
      show (if t = s0 then 1 else 0) * _ = _
      by_cases z : t = s0
      · rw [if_pos z, if_pos z, Nat.one_mul]
      · rw [if_neg z, if_neg z, Nat.zero_mul]), fb_sm_one, if_pos h0]
  rw [e] at a
  refine Nat.le_trans a (Nat.le_of_eq (fb_sm_cong (fun l _ => by rw [Nat.zero_add])))
end WAYS
