/-! the wrapped number of ways is the number of ways; small strips -/
section DSMALL
variable {g : GD} {F : Nat → Int32}
theorem dn_of (T : Nat → Bool) (a : Nat → Nat) : ∀ n, dnS (fun i => if T i then Int64.ofNat (a i) else 0) n = Int64.ofNat (fb_sm (fun i => if T i then a i else 0) n)
  | 0 => rfl
  | n + 1 => by
    rw [dnS, dn_of T a n, fb_sm_succ, Int64.ofNat_add]
    congr 1
    cases T n <;> rfl
theorem dn_un (s : Nat) : ∀ n, dnU g F s n = !decide (fb_ct (dnT g F s) n = 0)
  | 0 => rfl
  | n + 1 => by
    rw [dnU, dn_un s n, fb_ct_succ]
    cases dnT g F s n with
    | false => simp
    | true => simp
theorem dn_wy : ∀ k s, dnV g F k s = Int64.ofNat (wyS (dnT g F) (gSz g) k s)
  | 0, s => rfl
  | k + 1, s => by
    rw [dnV, wyS, dn_un]
    by_cases z : fb_ct (dnT g F s) (gSz g) = 0
    · rw [if_pos z, decide_eq_true z]; rfl
    · rw [if_neg z, decide_eq_false z]
      show (if true = true then _ else _) = _
      rw [if_pos rfl, ← dn_of]
      exact dnS_c _ (fun i _ => by rw [dn_wy k])
theorem wy_pos (hg : g ∈ gAll) (ho : RO g F) : ∀ k s, tK g F s < k → 0 < wyS (dnT g F) (gSz g) k s
  | 0, s, h => by omega
  | k + 1, s, h => by
    rw [wyS]
    by_cases z : fb_ct (dnT g F s) (gSz g) = 0
    · rw [if_pos z]; exact Nat.one_pos
    · rw [if_neg z]
      obtain ⟨i, hi, q⟩ := fb_ct_pos.mp (Nat.pos_of_ne_zero z)
      have a := dnT_lt hg ho hi q
      have b := wy_pos hg ho k (s ^^^ 2 ^ i) (by omega)
      have c := fb_sm_part (fun i => if dnT g F s i then wyS (dnT g F) (gSz g) k (s ^^^ 2 ^ i) else 0) hi
      rw [if_pos q] at c
      omega
/-- fewer than 2^64 ways: they are not 0 -/
theorem dn_ne (hg : g ∈ gAll) (ho : RO g F) {s : Nat} (h : wyS (dnT g F) (gSz g) 289 s < 2 ^ 64) : DNV g F s ≠ 0 := by
  have p := wy_pos hg ho 289 s (tK_ok hg ho s).1
  unfold DNV
  rw [dn_wy]
  intro z
  have q := congrArg (fun v : Int64 => v.toBitVec.toNat) z
  have q2 : wyS (dnT g F) (gSz g) 289 s % 2 ^ 64 = 0 := q
  rw [Nat.mod_eq_of_lt h] at q2
  omega
/-- how far two states can be apart in energy: sites and ties where they are unlike -/
def mxT (g : GD) (d t : Nat) : Bool := match gTo g t with
  | none => false
  | some e => d.testBit (gFr t) != d.testBit e
def mxD (g : GD) (d : Nat) : Nat := fb_ct (fun i => d.testBit i) (gSz g) + fb_ct (mxT g d) 32
theorem fb_si_df {f f' : Nat → Int} {b : Nat → Bool} : ∀ n, (∀ k, k < n → f k - f' k ≤ if b k then 6 else 0) → fb_si f n - fb_si f' n ≤ 6 * (fb_ct b n : Int)
  | 0, _ => Int.le_refl _
  | n + 1, h => by
    have ih := fb_si_df n (fun k hk => h k (by omega))
    have a := h n (by omega)
    rw [fb_si_succ, fb_si_succ, fb_ct_succ]
    cases hb : b n with
    | false =>
      rw [hb, if_neg (by decide)] at a
      rw [if_neg (by decide)]
      omega
    | true =>
      rw [hb, if_pos rfl] at a
      rw [if_pos rfl]
      omega
theorem eE_df (ho : RO g F) (h16 : gSz g ≤ 16) (s t : Nat) : eE g (zR F) s - eE g (zR F) t ≤ 6 * (mxD g (s ^^^ t) : Int) := by
  have h1 := fb_si_df (f := eT g (zR F) s) (f' := eT g (zR F) t) (b := mxT g (s ^^^ t)) 32 (fun k hk => by
    have r := ho.1 k (by omega)
    unfold eT mxT zR
    cases gTo g k with
    | none => simp
    | some e =>
      simp only [Nat.testBit_xor]
      cases s.testBit (gFr k) <;> cases s.testBit e <;> cases t.testBit (gFr k) <;> cases t.testBit e <;> simp <;> omega)
  have h2 := fb_si_df (f := eH (zR F) s) (f' := eH (zR F) t) (b := fun i => (s ^^^ t).testBit i) (gSz g) (fun k hk => by
    have r := ho.1 (32 + k) (by omega)
    unfold eH zR
    simp only [Nat.testBit_xor]
    cases s.testBit k <;> cases t.testBit k <;> simp <;> omega)
  unfold eE mxD
  omega
theorem dn_fall (hg : g ∈ gAll) : ∀ s i, i < gSz g → dnT g F s i = true → eE g (zR F) (s ^^^ 2 ^ i) + 2 ≤ eE g (zR F) s := fun s i hi h => by
  unfold dnT at h
  simp only [Bool.and_eq_true, decide_eq_true_eq] at h
  rw [eE_flip hg _ hi]
  have h2 := h.2
  unfold eC at h2 ⊢
  split at h2 <;> rename_i q
  · rw [if_pos q]; omega
  · rw [if_neg q]; omega
/-- a turn of a site that is none does not count -/
def dnIn (g : GD) (F : Nat → Int32) (s i : Nat) : Bool := decide (i < gSz g) && dnT g F s i
theorem dnIn_ct (s : Nat) : fb_ct (dnIn g F s) (gSz g) = fb_ct (dnT g F s) (gSz g) := fb_ct_cong (fun k hk => by unfold dnIn; rw [decide_eq_true hk]; rfl)
theorem dnIn_wy : ∀ k s, wyS (dnIn g F) (gSz g) k s = wyS (dnT g F) (gSz g) k s
  | 0, _ => rfl
  | k + 1, s => by
    rw [wyS, wyS, dnIn_ct, show fb_sm (fun i => if dnIn g F s i then wyS (dnIn g F) (gSz g) k (s ^^^ 2 ^ i) else 0) (gSz g) = fb_sm (fun i => if dnT g F s i then wyS (dnT g F) (gSz g) k (s ^^^ 2 ^ i) else 0) (gSz g) from fb_sm_cong (fun i hi => by rw [dnIn_wy k]; unfold dnIn; rw [decide_eq_true hi]; rfl)]
theorem dnIn_fall (hg : g ∈ gAll) : ∀ s i, dnIn g F s i = true → eE g (zR F) (s ^^^ 2 ^ i) + 2 ≤ eE g (zR F) s := fun s i h => by
  unfold dnIn at h
  rw [Bool.and_eq_true, decide_eq_true_eq] at h
  exact dn_fall hg s i h.1 h.2
theorem dnIn_one (hg : g ∈ gAll) : ∀ s i, dnIn g F s i = true → dnIn g F (s ^^^ 2 ^ i) i = false := fun s i h => by
  have a := dnIn_fall hg s i h
  cases z : dnIn g F (s ^^^ 2 ^ i) i with
  | false => rfl
  | true =>
    have b := dnIn_fall hg _ i z
    rw [wy_ff] at b
    omega
/-- rows longer than m turns there are none; those of at most m are fewer than 2^b each: fewer than (m + 1) 2^b in all -/
theorem dn_bound (hg : g ∈ gAll) (ho : RO g F) (h10 : gSz g ≤ 10) {s m b : Nat} (hs : s < 2 ^ gSz g) (hm : m < 289) (hl : ∀ d, d < 2 ^ gSz g → 3 * mxD g d ≤ m) (hb : ∀ L, L < m → 2 ^ gSz g * (gSz g * gSz g) ^ (L + 1) < 4 ^ L * (2 ^ b * 2 ^ b)) (hB : (m + 1) * 2 ^ b ≤ 2 ^ 64) (h1 : 1 < 2 ^ b) : wyS (dnT g F) (gSz g) 289 s < 2 ^ 64 := by
  rw [← dnIn_wy]
  have a := wy_ways (T := dnIn g F) hs 289
  have z : ∀ L, m < L → wyN (dnIn g F) (gSz g) s L = 0 := fun L hL => by
    unfold wyN
    rw [show fb_sm (wyX (dnIn g F) (gSz g) s L) (2 ^ gSz g) = fb_sm (fun _ => 0) (2 ^ gSz g) from fb_sm_cong (fun t ht => by
      refine wy_len (e := eE g (zR F)) (fun s i _ h => dnIn_fall hg s i h) L t ?_
      have q := eE_df (g := g) ho (by omega) s t
      have r := hl (s ^^^ t) (Nat.xor_lt_two_pow hs ht)
      omega), fb_sm_const]
    exact Nat.mul_zero _
  have k : ∀ L, L < m + 1 → wyN (dnIn g F) (gSz g) s L ≤ 2 ^ b - 1 := fun L hL => by
    cases L with
    | zero =>
      have e : wyN (dnIn g F) (gSz g) s 0 = 1 := by
        unfold wyN
        rw [show fb_sm (wyX (dnIn g F) (gSz g) s 0) (2 ^ gSz g) = fb_sm (fun t => if t = s then (fun _ => 1) t else 0) (2 ^ gSz g) from fb_sm_cong (fun t _ => rfl), fb_sm_one, if_pos hs]
      omega
    | succ L =>
      have q := wy_sq (T := dnIn g F) h10 (dnIn_one hg) hs L
      have r := hb L (by omega)
      generalize wyN (dnIn g F) (gSz g) s (L + 1) = Y at *
      apply Nat.le_of_lt_succ
      apply Nat.lt_of_not_le
      intro y
      have y2 : 2 ^ b ≤ Y := by omega
      have y3 := Nat.mul_le_mul_left (4 ^ L) (Nat.mul_le_mul y2 y2)
      omega
  have e : fb_sm (wyN (dnIn g F) (gSz g) s) 289 = fb_sm (wyN (dnIn g F) (gSz g) s) (m + 1) + fb_sm (fun j => wyN (dnIn g F) (gSz g) s (m + 1 + j)) (288 - m) := by
    rw [← fb_sm_split]
    congr 1
    omega
  have e2 : fb_sm (fun j => wyN (dnIn g F) (gSz g) s (m + 1 + j)) (288 - m) = 0 := by
    rw [show fb_sm (fun j => wyN (dnIn g F) (gSz g) s (m + 1 + j)) (288 - m) = fb_sm (fun _ => 0) (288 - m) from fb_sm_cong (fun j _ => z _ (by omega)), fb_sm_const]
    exact Nat.mul_zero _
  have c := fb_sm_bound k
  have d : (m + 1) * (2 ^ b - 1) + (m + 1) = (m + 1) * 2 ^ b := by
    rw [← Nat.mul_succ]
    congr 1
    omega
  omega
set_option maxRecDepth 100000 in
theorem mx_small : ∀ g ∈ gAll, gSz g ≤ 7 → ∀ d, d < 2 ^ gSz g → 3 * mxD g d ≤ 30 := by decide +kernel
theorem mx_num : ∀ n, n < 8 → ∀ L, L < 30 → 2 ^ n * (n * n) ^ (L + 1) < 4 ^ L * (2 ^ 59 * 2 ^ 59) := by decide +kernel
/-- the gap, for strips of at most seven sites -/
theorem down_7 (hg : g ∈ gAll) (ho : RO g F) (h7 : gSz g ≤ 7) {s : Nat} (hs : s < gSt g) : DNV g F s ≠ 0 :=
  dn_ne hg ho (dn_bound hg ho (by omega) (m := 30) (b := 59) (gSt_pos hs).2 (by decide) (mx_small g hg h7) (mx_num _ (by omega)) (by decide) (by decide))
end DSMALL
