/-! the text, cut into tokens: what both sides must find -/
def isBl (x : Int32) : Bool := decide (x = 9) || decide (x = 10) || decide (x = 13) || decide (x = 32)
def isLt (x : Int32) : Bool := !(decide (x < 97) || decide (122 < x))
def isDg (x : Int32) : Bool := !(decide (x < 48) || decide (57 < x))
/-- the first place from p on that isn't of a kind; the text's end -/
def nxP (q : Int32 → Bool) (b : Nat → Int32) (m p : Nat) : Nat := p + fa_first (fun k => !q (b (p + k))) (m - p)
section NXT
variable {q : Int32 → Bool} {b : Nat → Int32} {m p : Nat}
theorem nxP_ge : p ≤ nxP q b m p := Nat.le_add_right _ _
theorem nxP_le (h : p ≤ m) : nxP q b m p ≤ m := by
  have := fa_first_le (fun k => !q (b (p + k))) (m - p)
  unfold nxP; omega
theorem nxP_in {k : Nat} (h1 : p ≤ k) (h2 : k < nxP q b m p) : q (b k) = true := by
  have := fa_first_no (fun k => !q (b (p + k))) (m - p) (k - p) (by unfold nxP at h2; omega)
  rw [show p + (k - p) = k by omega] at this
  simpa using this
theorem nxP_out (h : nxP q b m p < m) : q (b (nxP q b m p)) = false := by
  have := fa_first_yes (fun k => !q (b (p + k))) (m - p) (by unfold nxP at h; omega)
  unfold nxP
  simpa using this
theorem nxP_one {e : Nat} (h1 : p ≤ e) (h2 : e ≤ m) (h3 : ∀ k, p ≤ k → k < e → q (b k) = true) (h4 : e < m → q (b e) = false) : nxP q b m p = e := by
  rcases Nat.lt_trichotomy (nxP q b m p) e with z | z | z
  · have a := h3 _ nxP_ge z
    rw [nxP_out (q := q) (b := b) (m := m) (p := p) (by omega)] at a; cases a
  · exact z
  · have a := nxP_in (q := q) (b := b) (m := m) h1 z
    have l := nxP_le (q := q) (b := b) (show p ≤ m by omega)
    rw [h4 (by omega)] at a; cases a
theorem nxP_step (h : p < m) (hq : q (b p) = true) : nxP q b m (p + 1) = nxP q b m p := by
  symm
  refine nxP_one (by have := nxP_ge (q := q) (b := b) (m := m) (p := p + 1); omega) (nxP_le (by omega)) (fun k h1 h2 => ?_) nxP_out
  by_cases z : k = p
  · rw [z]; exact hq
  · exact nxP_in (show p + 1 ≤ k by omega) h2
end NXT
/-- the letters as digits from 1 to 26; a word as a number -/
def lt1 (x : Int32) : Nat := x.toInt.toNat - 96
def wdN (b : Nat → Int32) (s : Nat) : Nat → Nat
  | 0 => 0
  | n + 1 => 27 * wdN b s n + lt1 (b (s + n))
def wdC (w : Nat → Nat) : Nat → Nat
  | 0 => 0
  | n + 1 => 27 * wdC w n + w n
theorem isLt_b {x : Int32} (h : isLt x = true) : 97 ≤ x.toInt ∧ x.toInt ≤ 122 := by
  unfold isLt at h
  simp only [Bool.not_eq_true', Bool.or_eq_false_iff, decide_eq_false_iff_not] at h
  rw [fa_lt, fa_lt] at h
  have e1 : (97 : Int32).toInt = 97 := by decide
  have e2 : (122 : Int32).toInt = 122 := by decide
  omega
theorem isDg_b {x : Int32} (h : isDg x = true) : 48 ≤ x.toInt ∧ x.toInt ≤ 57 := by
  unfold isDg at h
  simp only [Bool.not_eq_true', Bool.or_eq_false_iff, decide_eq_false_iff_not] at h
  rw [fa_lt, fa_lt] at h
  have e1 : (48 : Int32).toInt = 48 := by decide
  have e2 : (57 : Int32).toInt = 57 := by decide
  omega
theorem wd_inj {b : Nat → Int32} {s : Nat} {w : Nat → Nat} : ∀ n k, (∀ i, i < n → 1 ≤ lt1 (b (s + i)) ∧ lt1 (b (s + i)) ≤ 26) → (∀ i, i < k → 1 ≤ w i ∧ w i ≤ 26) → (wdN b s n = wdC w k ↔ n = k ∧ ∀ i, i < n → lt1 (b (s + i)) = w i)
  | 0, 0, _, _ => ⟨fun _ => ⟨rfl, fun i hi => by omega⟩, fun _ => rfl⟩
  | 0, k + 1, _, hw => by
    have := hw k (by omega)
    constructor
    · intro h
      have h' : 0 = 27 * wdC w k + w k := h
      omega
    · intro h; omega
  | n + 1, 0, hb, _ => by
    have := hb n (by omega)
    constructor
    · intro h
      have h' : 27 * wdN b s n + lt1 (b (s + n)) = 0 := h
      omega
    · intro h; omega
  | n + 1, k + 1, hb, hw => by
    have ih := wd_inj (b := b) (s := s) (w := w) n k (fun i hi => hb i (by omega)) (fun i hi => hw i (by omega))
    have h1 := hb n (by omega)
    have h2 := hw k (by omega)
    show 27 * wdN b s n + lt1 (b (s + n)) = 27 * wdC w k + w k ↔ _
    constructor
    · intro h
      have e1 : wdN b s n = wdC w k := by omega
      have e2 : lt1 (b (s + n)) = w k := by omega
      obtain ⟨z1, z2⟩ := ih.mp e1
      refine ⟨by omega, fun i hi => ?_⟩
      by_cases z : i = n
      · rw [z, e2, z1]
      · exact z2 i (by omega)
    · rintro ⟨z1, z2⟩
      have z1' : n = k := by omega
      have e1 := ih.mpr ⟨z1', fun i hi => z2 i (by omega)⟩
      have e2 := z2 n (by omega)
      rw [e1, e2, z1']
theorem wdN_b {b : Nat → Int32} {s : Nat} : ∀ n, (∀ i, i < n → lt1 (b (s + i)) ≤ 26) → wdN b s n < 27 ^ n
  | 0, _ => by show 0 < 1; omega
  | n + 1, h => by
    have ih := wdN_b n (fun i hi => h i (by omega))
    have h1 := h n (by omega)
    show 27 * wdN b s n + lt1 (b (s + n)) < 27 ^ (n + 1)
    rw [Nat.pow_succ]
    omega
/-- the eleven words -/
def wdL : List (List Nat) := [[19, 20, 18, 9, 16], [1, 3, 18, 15, 19, 19], [1, 12, 15, 14, 7], [6, 9, 5, 12, 4], [18, 9, 14, 7], [20, 9, 5], [16, 21, 12, 12], [16, 9, 14], [21, 16], [4, 15, 23, 14], [19, 5, 5, 4]]
def wdW (j i : Nat) : Nat := (wdL.getD j []).getD i 0
theorem wd_tab : ∀ j, j < 11 → (wdL.getD j []).length = xsl.getD j 0 ∧ kyW.getD j 0 = wdC (wdW j) (xsl.getD j 0) ∧ xsl.getD j 0 ≤ 6 ∧ 1 ≤ xsl.getD j 0 ∧ (∀ i, i < xsl.getD j 0 → 1 ≤ wdW j i ∧ wdW j i ≤ 26 ∧ (xsb.getD j []).getD i 0 = nI (96 + wdW j i)) := by decide +kernel
def wdM (b : Nat → Int32) (s n j : Nat) : Bool := decide (n = xsl.getD j 0) && (List.range n).all (fun i => decide (lt1 (b (s + i)) = wdW j i))
theorem wdM_iff {b : Nat → Int32} {s n j : Nat} (hj : j < 11) (hb : ∀ i, i < n → isLt (b (s + i)) = true) : wdM b s n j = true ↔ wdN b s n = kyW.getD j 0 := by
  obtain ⟨t1, t2, t3, t4, t5⟩ := wd_tab j hj
  have hb' : ∀ i, i < n → 1 ≤ lt1 (b (s + i)) ∧ lt1 (b (s + i)) ≤ 26 := fun i hi => by
    have := isLt_b (hb i hi)
    unfold lt1; omega
  rw [t2, wd_inj n _ hb' (fun i hi => ⟨(t5 i hi).1, (t5 i hi).2.1⟩)]
  unfold wdM
  rw [Bool.and_eq_true, decide_eq_true_eq, List.all_eq_true]
  constructor
  · rintro ⟨h1, h2⟩
    exact ⟨h1, fun i hi => of_decide_eq_true (h2 i (List.mem_range.mpr hi))⟩
  · rintro ⟨h1, h2⟩
    exact ⟨h1, fun i hi => decide_eq_true (h2 i (List.mem_range.mp hi))⟩
theorem ky_one : ∀ i, i < 11 → ∀ j, j < 11 → kyW.getD i 0 = kyW.getD j 0 → i = j := by decide +kernel
/-- the kind of a word, in the class's numbers: the first that matches -/
def wkF (p : Nat → Bool) : Nat → Nat
  | 0 => 1
  | k + 1 => if p (10 - k) then 5 + (10 - k) else wkF p k
def wdK (b : Nat → Int32) (s n : Nat) : Nat := wkF (wdM b s n) 11
def nuV (b : Nat → Int32) (s : Nat) : Nat → Nat
  | 0 => 0
  | n + 1 => 10 * nuV b s n + ((b (s + n)).toInt.toNat - 48)
theorem nuV_b {b : Nat → Int32} {s : Nat} : ∀ n, (∀ i, i < n → isDg (b (s + i)) = true) → nuV b s n < 10 ^ n
  | 0, _ => by show 0 < 1; omega
  | n + 1, h => by
    have ih := nuV_b n (fun i hi => h i (by omega))
    have h1 := isDg_b (h n (by omega))
    show 10 * nuV b s n + ((b (s + n)).toInt.toNat - 48) < 10 ^ (n + 1)
    rw [Nat.pow_succ]
    omega
/-- the token at a place -/
def tS0 (b : Nat → Int32) (m p : Nat) : Nat := nxP isBl b m p
def tE0 (b : Nat → Int32) (m s : Nat) : Nat := if m ≤ s then m else if isLt (b s) then nxP isLt b m s else if isDg (b s) then nxP isDg b m s else s + 1
def tK0 (b : Nat → Int32) (m s : Nat) : Nat := if m ≤ s then 0 else if isLt (b s) then wdK b s (nxP isLt b m s - s) else if isDg (b s) then (if nxP isDg b m s - s ≤ 4 then 2 else 1) else if b s = 45 then 3 else if b s = 59 then 4 else 1
def tN0 (b : Nat → Int32) (m s : Nat) : Nat := nuV b s (nxP isDg b m s - s)
/-- the tokens, one behind another: where each is looked for -/
def tPo (b : Nat → Int32) (m : Nat) : Nat → Nat
  | 0 => 0
  | i + 1 => tE0 b m (tS0 b m (tPo b m i))
def tSt (b : Nat → Int32) (m i : Nat) : Nat := tS0 b m (tPo b m i)
def tKd (b : Nat → Int32) (m i : Nat) : Nat := tK0 b m (tSt b m i)
def tNu (b : Nat → Int32) (m i : Nat) : Nat := tN0 b m (tSt b m i)
section TOK
variable {b : Nat → Int32} {m : Nat}
theorem tE0_b {s : Nat} (h : s ≤ m) : s ≤ tE0 b m s ∧ tE0 b m s ≤ m ∧ (s < m → s < tE0 b m s) := by
  unfold tE0
  split
  · omega
  · next z =>
    split
    · next y =>
      have h1 := nxP_le (q := isLt) (b := b) h
      have h2 := nxP_ge (q := isLt) (b := b) (m := m) (p := s + 1)
      rw [nxP_step (by omega) y] at h2
      omega
    · split
      · next y =>
        have h1 := nxP_le (q := isDg) (b := b) h
        have h2 := nxP_ge (q := isDg) (b := b) (m := m) (p := s + 1)
        rw [nxP_step (by omega) y] at h2
        omega
      · omega
theorem tPo_b : ∀ i, tPo b m i ≤ m
  | 0 => Nat.zero_le _
  | i + 1 => (tE0_b (nxP_le (tPo_b i))).2.1
theorem tSt_b (i : Nat) : tPo b m i ≤ tSt b m i ∧ tSt b m i ≤ m := ⟨nxP_ge, nxP_le (tPo_b i)⟩
theorem tPo_s (i : Nat) : tPo b m (i + 1) = tE0 b m (tSt b m i) := rfl
theorem wkF_b (p : Nat → Bool) : ∀ k, k ≤ 11 → 1 ≤ wkF p k ∧ wkF p k ≤ 15
  | 0, _ => by show 1 ≤ 1 ∧ 1 ≤ 15; omega
  | k + 1, h => by
    have := wkF_b p k (by omega)
    rw [wkF]
    split <;> omega
theorem tKd_b (i : Nat) : tKd b m i ≤ 15 := by
  unfold tKd tK0 wdK
  have := wkF_b (wdM b (tSt b m i) (nxP isLt b m (tSt b m i) - tSt b m i)) 11 (by omega)
  split
  · omega
  · split
    · omega
    · split
      · split <;> omega
      · split
        · omega
        · split <;> omega
theorem tKd_0 (i : Nat) : tKd b m i = 0 ↔ tSt b m i = m := by
  have hb := (tSt_b (b := b) (m := m) i).2
  unfold tKd tK0 wdK
  have := wkF_b (wdM b (tSt b m i) (nxP isLt b m (tSt b m i) - tSt b m i)) 11 (by omega)
  split
  · next z => exact ⟨fun _ => by omega, fun _ => rfl⟩
  · next z =>
    constructor
    · intro h
      exfalso
      split at h
      · omega
      · split at h
        · split at h <;> omega
        · split at h
          · omega
          · split at h <;> omega
    · intro h; omega
/-- places grow -/
theorem tSt_lt {i : Nat} (h : tKd b m i ≠ 0) : tSt b m i < tSt b m (i + 1) := by
  have h1 : tSt b m i ≠ m := fun z => h ((tKd_0 i).mpr z)
  have h2 := tSt_b (b := b) (m := m) i
  have h3 := (tE0_b (b := b) h2.2).2.2 (by omega)
  have h4 := (tSt_b (b := b) (m := m) (i + 1)).1
  rw [tPo_s] at h4
  omega
theorem tSt_mono {i j : Nat} (hij : i < j) (h : ∀ k, i ≤ k → k < j → tKd b m k ≠ 0) : tSt b m i < tSt b m j := by
  induction j with
  | zero => omega
  | succ j ih =>
    have h1 := tSt_lt (b := b) (m := m) (h j (by omega) (by omega))
    by_cases z : i = j
    · rw [z]; exact h1
    · have := ih (by omega) (fun k a c => h k a (by omega))
      omega
theorem tNu_b {i : Nat} (h : tKd b m i = 2) : tNu b m i < 10000 := by
  have hb := tSt_b (b := b) (m := m) i
  unfold tKd tK0 wdK at h
  have hw := wkF_b (wdM b (tSt b m i) (nxP isLt b m (tSt b m i) - tSt b m i)) 11 (by omega)
  unfold tNu tN0
  split at h
  · cases h
  · next z =>
    split at h
    · exfalso
      have h2 : ∀ p k, k ≤ 11 → wkF p k ≠ 2 := by
        intro p k
        induction k with
        | zero => intro _ q; cases q
        | succ k ih =>
          intro hk q
          rw [wkF] at q
          split at q
          · omega
          · exact ih (by omega) q
      exact h2 _ 11 (by omega) h
    · split at h
      · next y =>
        split at h
        · next v =>
          have h1 := nuV_b (b := b) (s := tSt b m i) (nxP isDg b m (tSt b m i) - tSt b m i) (fun k hk => nxP_in (m := m) (p := tSt b m i) (by omega) (by omega))
          have h2 : 10 ^ (nxP isDg b m (tSt b m i) - tSt b m i) ≤ 10 ^ 4 := Nat.pow_le_pow_right (by decide) v
          omega
        · cases h
      · split at h
        · cases h
        · split at h <;> cases h
end TOK
