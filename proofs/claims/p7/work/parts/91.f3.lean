/-! what a text means, what is wrong with it -/
section MEAN
variable {b : Nat → Int32} {m T w l r : Nat}
def aLL (b : Nat → Int32) (m c : Nat) : Nat → Int := foldL b m 0 (fun k a => if tKd b m k = c then jvT b m (k + 1) else a)
def sDD (b : Nat → Int32) (m : Nat) : Nat → Nat := foldL b m 0 (fun k a => if tKd b m k = 15 then tNu b m (k + 1) else a)
def tpl (b : Nat → Int32) (m k : Nat) : Nat := if tKd b m (k + 2) = 7 then 16 + tNu b m (k + 1) else tNu b m (k + 1)
def tII (b : Nat → Int32) (m t : Nat) : Nat → Option Int := foldL b m none (fun k a => if tKd b m k = 10 ∧ tpl b m k = t then some (jvT b m (k + 3)) else a)
def pUU (b : Nat → Int32) (m i : Nat) : Nat → Option Int := foldL b m none (fun k a => if tKd b m k = 11 ∧ tNu b m (k + 1) = i then some (jvT b m (k + 2)) else a)
def pII (b : Nat → Int32) (m i : Nat) : Nat → Nat := foldL b m 0 (fun k a => if tKd b m k = 12 ∧ tNu b m (k + 1) = i then (if tKd b m (k + 2) = 13 then 1 else 2) else a)
def szF (w l : Nat) : Option (Nat × Nat) := if w < 1 ∨ 4 < w then some (3, 1) else if l < 1 ∨ 16 < l ∨ 16 < w * l then some (3, 2) else none
def badS (b : Nat → Int32) (m w l r k : Nat) : Bool := decide (w * l ≤ tNu b m (k + 1)) || (decide (tKd b m k = 10) && (gTo (w, l, r) (tpl b m k)).isNone)
def linF (b : Nat → Int32) (m w l r k : Nat) : Option (Nat × Nat) := if tKd b m k = 6 ∨ tKd b m k = 7 ∨ tKd b m k = 8 then (if 3 < tNu b m (jnT b m (k + 1)) then some (3, jnT b m (k + 1)) else none) else if tKd b m k = 10 then (if badS b m w l r k then some (4, k + 1) else if 3 < tNu b m (jnT b m (k + 3)) then some (3, jnT b m (k + 3)) else none) else if tKd b m k = 11 then (if badS b m w l r k then some (4, k + 1) else if 3 < tNu b m (jnT b m (k + 2)) then some (3, jnT b m (k + 2)) else none) else if tKd b m k = 12 then (if badS b m w l r k then some (4, k + 1) else none) else none
def fFF (b : Nat → Int32) (m w l r : Nat) : Nat → Option (Nat × Nat) := foldL b m (szF w l) (fun k a => match a with
  | some x => some x
  | none => linF b m w l r k)
/-- a wrong token of a line, as the model meets it -/
def clL (b : Nat → Int32) (m : Nat) (β : Nat → Bool) (k c j : Nat) : Prop := ((tKd b m k = 6 ∨ tKd b m k = 7 ∨ tKd b m k = 8) ∧ 3 < tNu b m (jnT b m (k + 1)) ∧ c = 3 ∧ j = jnT b m (k + 1)) ∨ ((tKd b m k = 10 ∨ tKd b m k = 11 ∨ tKd b m k = 12) ∧ β k = true ∧ c = 4 ∧ j = k + 1) ∨ (tKd b m k = 10 ∧ 3 < tNu b m (jnT b m (k + 3)) ∧ c = 3 ∧ j = jnT b m (k + 3)) ∨ (tKd b m k = 11 ∧ 3 < tNu b m (jnT b m (k + 2)) ∧ c = 3 ∧ j = jnT b m (k + 2))
theorem jn_b (t : Nat) : t ≤ jnT b m t ∧ jnT b m t < t + jlT b m t := by
  unfold jnT jlT
  split <;> omega
theorem fF_none : ∀ e, fFF b m w l r e = none → szF w l = none ∧ ∀ k, k < e → lsB b m k = true → linF b m w l r k = none
  | 0, h => ⟨h, fun k hk => by omega⟩
  | e + 1, h => by
    unfold fFF at h
    rw [foldL] at h
    by_cases hl : lsB b m e = true
    · rw [if_pos hl] at h
      cases hf : fFF b m w l r e with
      | some x =>
        unfold fFF at hf
        rw [hf] at h; cases h
      | none =>
        obtain ⟨h1, h2⟩ := fF_none e hf
        unfold fFF at hf
        rw [hf] at h
        refine ⟨h1, fun k hk hk2 => ?_⟩
        by_cases z : k = e
        · rw [z]; exact h
        · exact h2 k (by omega) hk2
    · rw [if_neg hl] at h
      obtain ⟨h1, h2⟩ := fF_none e h
      refine ⟨h1, fun k hk hk2 => ?_⟩
      by_cases z : k = e
      · rw [z] at hk2; exact absurd hk2 hl
      · exact h2 k (by omega) hk2
theorem fF_some {x : Nat × Nat} : ∀ e, fFF b m w l r e = some x → szF w l = some x ∨ (szF w l = none ∧ ∃ k, k < e ∧ lsB b m k = true ∧ linF b m w l r k = some x ∧ fFF b m w l r k = none)
  | 0, h => .inl h
  | e + 1, h => by
    have h' := h
    unfold fFF at h
    rw [foldL] at h
    by_cases hl : lsB b m e = true
    · rw [if_pos hl] at h
      cases hf : fFF b m w l r e with
      | some y =>
        have hf' := hf
        unfold fFF at hf
        rw [hf] at h
        have h : some y = some x := h
        rw [h] at hf'
        rcases fF_some e hf' with z | ⟨z, k, k1, k2, k3, k4⟩
        · exact .inl z
        · exact .inr ⟨z, k, by omega, k2, k3, k4⟩
      | none =>
        have h1 := fF_none e hf
        have hf' := hf
        unfold fFF at hf
        rw [hf] at h
        exact .inr ⟨h1.1, e, by omega, hl, h, hf'⟩
    · rw [if_neg hl] at h
      rcases fF_some e h with z | ⟨z, k, k1, k2, k3, k4⟩
      · exact .inl z
      · exact .inr ⟨z, k, by omega, k2, k3, k4⟩
theorem lsB_4 {k : Nat} (h : lsB b m k = true) : 4 ≤ k := by
  unfold lsB at h
  simp only [Bool.and_eq_true, decide_eq_true_eq] at h
  exact h.1
/-- the first wrong token of a line lies in it, and no other of its wrong ones lies before it -/
theorem lin_in (hT : OKT b m T) {k c j : Nat} (hk : k < T) (hl : lsB b m k = true) (h : linF b m w l r k = some (c, j)) : k < j ∧ j < lnE b m k ∧ (c = 3 ∨ c = 4) ∧ clL b m (badS b m w l r) k c j ∧ ∀ c' j', clL b m (badS b m w l r) k c' j' → j < j' ∨ (j = j' ∧ c' = c) := by
  have hws := (ls_ws hT (lsB_4 hl) (by omega)).mp hl
  obtain ⟨hline, -, -, -, -⟩ := line_at hT hws hk
  have j1 := jn_b (b := b) (m := m) (k + 1)
  have j2 := jn_b (b := b) (m := m) (k + 2)
  have j3 := jn_b (b := b) (m := m) (k + 3)
  unfold linF at h
  unfold lnE clL
  by_cases a1 : tKd b m k = 6 ∨ tKd b m k = 7 ∨ tKd b m k = 8
  · rw [if_pos a1] at h
    rw [if_neg (by omega), if_neg (by omega), if_neg (by omega), if_neg (by omega)]
    split at h
    · next q =>
      cases h
      refine ⟨by omega, by omega, .inl rfl, .inl ⟨a1, q, rfl, rfl⟩, fun c' j' hc => ?_⟩
      rcases hc with ⟨-, -, z1, z2⟩ | ⟨z, -⟩ | ⟨z, -⟩ | ⟨z, -⟩ <;> omega
    · cases h
  · rw [if_neg a1] at h
    by_cases a2 : tKd b m k = 10
    · rw [if_pos a2] at h
      rw [if_neg (by omega), if_pos a2]
      split at h
      · next q =>
        cases h
        refine ⟨by omega, by omega, .inr rfl, .inr (.inl ⟨.inl a2, q, rfl, rfl⟩), fun c' j' hc => ?_⟩
        rcases hc with ⟨z, -⟩ | ⟨-, -, z1, z2⟩ | ⟨-, -, z1, z2⟩ | ⟨z, -⟩ <;> omega
      · next q =>
        split at h
        · next q2 =>
          cases h
          refine ⟨by omega, by omega, .inl rfl, .inr (.inr (.inl ⟨a2, q2, rfl, rfl⟩)), fun c' j' hc => ?_⟩
          rcases hc with ⟨z, -⟩ | ⟨-, z, -⟩ | ⟨-, -, z1, z2⟩ | ⟨z, -⟩
          · omega
          · exact absurd z q
          · omega
          · omega
        · cases h
    · rw [if_neg a2] at h
      by_cases a3 : tKd b m k = 11
      · rw [if_pos a3] at h
        rw [if_neg (by omega), if_neg a2, if_pos a3]
        split at h
        · next q =>
          cases h
          refine ⟨by omega, by omega, .inr rfl, .inr (.inl ⟨.inr (.inl a3), q, rfl, rfl⟩), fun c' j' hc => ?_⟩
          rcases hc with ⟨z, -⟩ | ⟨-, -, z1, z2⟩ | ⟨z, -⟩ | ⟨-, -, z1, z2⟩ <;> omega
        · next q =>
          split at h
          · next q2 =>
            cases h
            refine ⟨by omega, by omega, .inl rfl, .inr (.inr (.inr ⟨a3, q2, rfl, rfl⟩)), fun c' j' hc => ?_⟩
            rcases hc with ⟨z, -⟩ | ⟨-, z, -⟩ | ⟨z, -⟩ | ⟨-, -, z1, z2⟩
            · omega
            · exact absurd z q
            · omega
            · omega
          · cases h
      · rw [if_neg a3] at h
        by_cases a4 : tKd b m k = 12
        · rw [if_pos a4] at h
          rw [if_neg (by omega), if_neg a2, if_neg a3, if_pos a4]
          split at h
          · next q =>
            cases h
            refine ⟨by omega, by omega, .inr rfl, .inr (.inl ⟨.inr (.inr a4), q, rfl, rfl⟩), fun c' j' hc => ?_⟩
            rcases hc with ⟨z, -⟩ | ⟨-, -, z1, z2⟩ | ⟨z, -⟩ | ⟨z, -⟩ <;> omega
          · cases h
        · rw [if_neg a4] at h; cases h
theorem lin_cl {k c j : Nat} (h : linF b m w l r k = none) : ¬ clL b m (badS b m w l r) k c j := by
  intro hc
  unfold linF at h
  rcases hc with ⟨a1, a2, -⟩ | ⟨a1, a2, -⟩ | ⟨a1, a2, -⟩ | ⟨a1, a2, -⟩
  · rw [if_pos a1, if_pos a2] at h; cases h
  · rw [if_neg (by omega)] at h
    rcases a1 with z | z | z
    · rw [if_pos z, if_pos a2] at h; cases h
    · rw [if_neg (by omega), if_pos z, if_pos a2] at h; cases h
    · rw [if_neg (by omega), if_neg (by omega), if_pos z, if_pos a2] at h; cases h
  · rw [if_neg (by omega), if_pos a1] at h
    split at h
    · cases h
    · cases h
  · rw [if_neg (by omega), if_neg (by omega), if_pos a1] at h
    split at h
    · cases h
    · cases h
theorem szF_in {c j : Nat} (h : szF w l = some (c, j)) : c = 3 ∧ (j = 1 ∨ j = 2) := by
  unfold szF at h
  split at h
  · cases h; omega
  · split at h
    · cases h; omega
    · cases h
theorem cl_low {β : Nat → Bool} {k c j : Nat} (h : clL b m β k c j) : k < j := by
  have j1 := jn_b (b := b) (m := m) (k + 1)
  have j2 := jn_b (b := b) (m := m) (k + 2)
  have j3 := jn_b (b := b) (m := m) (k + 3)
  rcases h with ⟨-, -, -, z⟩ | ⟨-, -, -, z⟩ | ⟨-, -, -, z⟩ | ⟨-, -, -, z⟩ <;> omega
/-- of all wrong tokens the class's is the first -/
theorem ff_first (hT : OKT b m T) {c i : Nat} (h : fFF b m w l r T = some (c, i)) {β : Nat → Bool} (hβ : szF w l = none → β = badS b m w l r) {k c' j' : Nat} (hk : k < T) (hl : lsB b m k = true) (hc : clL b m β k c' j') : i < j' ∨ (i = j' ∧ c' = c) := by
  have low := cl_low hc
  have k4 := lsB_4 hl
  rcases fF_some T h with z | ⟨z, k0, k1, k2, k3, k4'⟩
  · have := szF_in z
    omega
  · rw [hβ z] at hc
    have hin := lin_in hT k1 k2 k3
    rcases Nat.lt_trichotomy k k0 with y | y | y
    · have := (fF_none k0 k4').2 k y hl
      exact absurd hc (lin_cl this)
    · rw [y] at hc
      exact hin.2.2.2.2 c' j' hc
    · have hws := (ls_ws hT (lsB_4 k2) (by omega)).mp k2
      have : lnE b m k0 < k := by
        apply Classical.byContradiction
        intro q
        have := ls_no hT hws k1 y (by omega)
        rw [hl] at this; cases this
      omega
theorem ff_reach (hT : OKT b m T) {c i : Nat} (h : fFF b m w l r T = some (c, i)) (hz : szF w l = none) : ∃ k, k < T ∧ lsB b m k = true ∧ clL b m (badS b m w l r) k c i := by
  rcases fF_some T h with z | ⟨z, k0, k1, k2, k3, -⟩
  · rw [hz] at z; cases z
  · exact ⟨k0, k1, k2, (lin_in hT k1 k2 k3).2.2.2.1⟩
theorem ff_in (hT : OKT b m T) {c i : Nat} (h : fFF b m w l r T = some (c, i)) : (c = 3 ∨ c = 4) ∧ 0 < i ∧ i < T := by
  have h4 := (head_at hT).1
  rcases fF_some T h with z | ⟨z, k0, k1, k2, k3, -⟩
  · have := szF_in z
    omega
  · have hin := lin_in hT k1 k2 k3
    have hws := (ls_ws hT (lsB_4 k2) (by omega)).mp k2
    have := (line_at hT hws k1).2.2.2.1
    exact ⟨hin.2.2.1, by omega, by omega⟩
end MEAN
