/-! rows of L turns: the squares; how long they are; what that gives of small strips -/
theorem fb_sm_if (b : Nat → Bool) (c : Nat) : ∀ n, fb_sm (fun i => if b i then c else 0) n = fb_ct b n * c
  | 0 => (Nat.zero_mul c).symm
  | n + 1 => by
    rw [fb_sm_succ, fb_sm_if b c n, fb_ct_succ, Nat.add_mul]
    congr 1
    cases b n
    · exact (Nat.zero_mul c).symm
    · exact (Nat.one_mul c).symm
theorem wy_dv : ∀ v, v < 11 → 1 ≤ v → v * (2520 / v) = 2520 := by decide
theorem wy_four {u v n : Nat} (h : u + v ≤ n) : 4 * (u * v) ≤ n * n := by
  have a := wy_two u v
  have b := Nat.mul_le_mul h h
  have e : (u + v) * (u + v) = u * u + v * v + 2 * (u * v) := by
    simp only [Nat.mul_add, Nat.add_mul]
    rw [Nat.mul_comm v u]
    omega
  omega
section WAYS2
variable {T : Nat → Nat → Bool} {n s0 : Nat}
theorem wy_uv (hT : ∀ s i, T s i = true → T (s ^^^ 2 ^ i) i = false) (t : Nat) : fb_ct (T t) n + wyV T n t ≤ n := by
  have a := fb_ct_or (p := T t) (q := fun i => T (t ^^^ 2 ^ i) i) (n := n) (fun k _ h => by
    have h1 := hT t k h.1
    rw [h1] at h
    exact absurd h.2 (by decide))
  have b := fb_ct_le (fun k => T t k || T (t ^^^ 2 ^ k) k) n
  unfold wyV
  omega
/-- squares, weighted by how many turns lead to a state -/
def wyQ (T : Nat → Nat → Bool) (n s0 L : Nat) : Nat := fb_sm (fun t => 2520 / wyV T n t * (wyX T n s0 L t * wyX T n s0 L t)) (2 ^ n)
theorem wy_sqx (L t : Nat) : wyX T n s0 (L + 1) t * wyX T n s0 (L + 1) t ≤ wyV T n t * fb_sm (fun i => if T (t ^^^ 2 ^ i) i then wyX T n s0 L (t ^^^ 2 ^ i) * wyX T n s0 L (t ^^^ 2 ^ i) else 0) n := by
  rw [wyX]
  refine Nat.le_trans (wy_cs (fun i => T (t ^^^ 2 ^ i) i) _ n (fun i _ h => if_neg (by rw [h]; decide))) (Nat.le_of_eq ?_)
  unfold wyV
  congr 1
  refine fb_sm_cong (fun i _ => ?_)
  by_cases z : T (t ^^^ 2 ^ i) i = true
  · rw [if_pos z, if_pos z]
  · rw [if_neg z, if_neg z]
theorem wy_q1 (L : Nat) : wyQ T n s0 (L + 1) ≤ fb_sm (fun s => 2520 * (fb_ct (T s) n * (wyX T n s0 L s * wyX T n s0 L s))) (2 ^ n) := by
  have e : fb_sm (fun s => 2520 * (fb_ct (T s) n * (wyX T n s0 L s * wyX T n s0 L s))) (2 ^ n) = fb_sm (fun t => 2520 * fb_sm (fun i => if T (t ^^^ 2 ^ i) i then wyX T n s0 L (t ^^^ 2 ^ i) * wyX T n s0 L (t ^^^ 2 ^ i) else 0) n) (2 ^ n) := by
    rw [fb_sm_mul, fb_sm_mul, wy_turn (fun s i => if T s i then wyX T n s0 L s * wyX T n s0 L s else 0)]
    congr 1
    exact fb_sm_cong (fun s _ => (fb_sm_if (T s) _ n).symm)
  rw [e]
  refine fb_sm_le (fun t _ => ?_)
  refine Nat.le_trans (Nat.mul_le_mul_left _ (wy_sqx L t)) ?_
  rw [← Nat.mul_assoc]
  exact Nat.mul_le_mul_right _ (Nat.div_mul_le_self _ _)
/-- to a state that is reached by turns some turn leads -/
theorem wy_vp (L t : Nat) (h : wyV T n t = 0) : wyX T n s0 (L + 1) t = 0 := by
  unfold wyV at h
  rw [wyX, show fb_sm (fun i => if T (t ^^^ 2 ^ i) i then wyX T n s0 L (t ^^^ 2 ^ i) else 0) n = fb_sm (fun _ => 0) n from fb_sm_cong (fun i hi => by rw [fb_ct_zero.mp h i hi]; rfl), fb_sm_const]
  exact Nat.mul_zero _
theorem wy_q2 (hn : n ≤ 10) (hT : ∀ s i, T s i = true → T (s ^^^ 2 ^ i) i = false) (L : Nat) : 4 * wyQ T n s0 (L + 2) ≤ n * n * wyQ T n s0 (L + 1) := by
  refine Nat.le_trans (Nat.mul_le_mul_left 4 (wy_q1 (L + 1))) ?_
  unfold wyQ
  rw [← fb_sm_mul, ← fb_sm_mul]
  refine fb_sm_le (fun s _ => ?_)
  by_cases hv : wyV T n s = 0
  · rw [wy_vp L s hv]; simp
  · have uv := wy_uv (n := n) hT s
    generalize wyX T n s0 (L + 1) s * wyX T n s0 (L + 1) s = x
    generalize fb_ct (T s) n = u at *
    generalize wyV T n s = v at *
    have d := wy_dv v (by omega) (by omega)
    have f4 := wy_four uv
    generalize 2520 / v = q at *
    rw [← d]
    have e1 : 4 * (v * q * (u * x)) = 4 * (u * v) * (q * x) := by
      rw [Nat.mul_assoc v q, Nat.mul_assoc 4 (u * v), Nat.mul_comm u v, Nat.mul_assoc v u, Nat.mul_left_comm q u x]
    rw [e1]
    exact Nat.mul_le_mul_right _ f4
theorem wy_q0 (h0 : s0 < 2 ^ n) : wyQ T n s0 1 ≤ 2520 * n := by
  refine Nat.le_trans (wy_q1 0) ?_
  rw [fb_sm_mul]
  refine Nat.mul_le_mul_left _ ?_
  have e : fb_sm (fun s => fb_ct (T s) n * (wyX T n s0 0 s * wyX T n s0 0 s)) (2 ^ n) = fb_sm (fun s => if s = s0 then (fun s => fb_ct (T s) n) s else 0) (2 ^ n) := fb_sm_cong (fun s _ => by
    show _ * ((if s = s0 then 1 else 0) * (if s = s0 then 1 else 0)) = _
    by_cases z : s = s0
    · rw [if_pos z, if_pos z, Nat.mul_one]
    · rw [if_neg z, if_neg z, Nat.mul_zero])
  rw [e, fb_sm_one, if_pos h0]
  exact fb_ct_le _ n
theorem wy_q (hn : n ≤ 10) (hT : ∀ s i, T s i = true → T (s ^^^ 2 ^ i) i = false) (h0 : s0 < 2 ^ n) : ∀ L, 4 ^ L * wyQ T n s0 (L + 1) ≤ 2520 * n * (n * n) ^ L
  | 0 => by simpa using wy_q0 (T := T) h0
  | L + 1 => by
    have a := wy_q2 (s0 := s0) hn hT L
    have ih := wy_q hn hT h0 L
    have b := Nat.mul_le_mul_left (4 ^ L) a
    have c := Nat.mul_le_mul_left (n * n) ih
    rw [Nat.pow_succ, Nat.pow_succ, Nat.mul_assoc (4 ^ L)]
    refine Nat.le_trans b ?_
    rw [Nat.mul_left_comm, ← Nat.mul_assoc (2520 * n), Nat.mul_comm (2520 * n * (n * n) ^ L)]
    exact c
theorem wy_sq (hn : n ≤ 10) (hT : ∀ s i, T s i = true → T (s ^^^ 2 ^ i) i = false) (h0 : s0 < 2 ^ n) (L : Nat) : 4 ^ L * (wyN T n s0 (L + 1) * wyN T n s0 (L + 1)) ≤ 2 ^ n * (n * n) ^ (L + 1) := by
  have a := wy_cs (fun _ => true) (wyX T n s0 (L + 1)) (2 ^ n) (fun _ _ h => absurd h (by decide))
  have b := Nat.mul_le_mul_right (fb_sm (fun t => wyX T n s0 (L + 1) t * wyX T n s0 (L + 1) t) (2 ^ n)) (fb_ct_le (fun _ => true) (2 ^ n))
  have c : 2520 * fb_sm (fun t => wyX T n s0 (L + 1) t * wyX T n s0 (L + 1) t) (2 ^ n) ≤ n * wyQ T n s0 (L + 1) := by
    unfold wyQ
    rw [← fb_sm_mul, ← fb_sm_mul]
    refine fb_sm_le (fun t _ => ?_)
    by_cases hv : wyV T n t = 0
    · rw [wy_vp L t hv]; simp
    · have vn : wyV T n t ≤ n := fb_ct_le _ n
      have d := wy_dv (wyV T n t) (by omega) (by omega)
      rw [← Nat.mul_assoc n]
      refine Nat.mul_le_mul_right _ ?_
      have := Nat.mul_le_mul_right (2520 / wyV T n t) vn
      omega
  have q := wy_q (T := T) (s0 := s0) hn hT h0 L
  unfold wyN
  generalize fb_sm (fun t => wyX T n s0 (L + 1) t * wyX T n s0 (L + 1) t) (2 ^ n) = Z at *
  generalize fb_sm (wyX T n s0 (L + 1)) (2 ^ n) = Y at *
  generalize wyQ T n s0 (L + 1) = Q at *
  have k1 : Y * Y ≤ 2 ^ n * Z := Nat.le_trans a b
  have k2 : 2520 * (4 ^ L * (Y * Y)) ≤ 2520 * (2 ^ n * (n * n) ^ (L + 1)) := by
    have s1 : 2520 * (4 ^ L * (Y * Y)) ≤ 4 ^ L * (2 ^ n * (2520 * Z)) := by
      rw [Nat.mul_left_comm 2520, Nat.mul_left_comm (2 ^ n) 2520]
      exact Nat.mul_le_mul_left _ (Nat.mul_le_mul_left _ k1)
    have s2 : 4 ^ L * (2 ^ n * (2520 * Z)) ≤ 4 ^ L * (2 ^ n * (n * Q)) := Nat.mul_le_mul_left _ (Nat.mul_le_mul_left _ c)
    have s3 : 4 ^ L * (2 ^ n * (n * Q)) = 2 ^ n * (n * (4 ^ L * Q)) := by rw [Nat.mul_left_comm (4 ^ L), Nat.mul_left_comm (4 ^ L)]
    have s4 : 2 ^ n * (n * (4 ^ L * Q)) ≤ 2 ^ n * (n * (2520 * n * (n * n) ^ L)) := Nat.mul_le_mul_left _ (Nat.mul_le_mul_left _ q)
    have s5 : 2 ^ n * (n * (2520 * n * (n * n) ^ L)) = 2520 * (2 ^ n * (n * n) ^ (L + 1)) := by
      rw [Nat.pow_succ, Nat.mul_assoc 2520 n, Nat.mul_left_comm n 2520, Nat.mul_left_comm (2 ^ n) 2520, ← Nat.mul_assoc n n, Nat.mul_comm (n * n)]
    omega
  exact Nat.le_of_mul_le_mul_left k2 (by decide)
/-- each turn lowers by 2 at least -/
theorem wy_len {e : Nat → Int} (he : ∀ s i, i < n → T s i = true → e (s ^^^ 2 ^ i) + 2 ≤ e s) : ∀ (L t : Nat), e s0 < e t + 2 * (L : Int) → wyX T n s0 L t = 0
  | 0, t, h => if_neg (fun z => by rw [z] at h; omega)
  | L + 1, t, h => by
    rw [wyX, show fb_sm (fun i => if T (t ^^^ 2 ^ i) i then wyX T n s0 L (t ^^^ 2 ^ i) else 0) n = fb_sm (fun _ => 0) n from fb_sm_cong (fun i hi => by
      by_cases z : T (t ^^^ 2 ^ i) i = true
      · rw [if_pos z]
        have a := he _ i hi z
        rw [wy_ff] at a
        exact wy_len he L _ (by omega)
      · rw [if_neg z]), fb_sm_const]
    exact Nat.mul_zero _
end WAYS2
