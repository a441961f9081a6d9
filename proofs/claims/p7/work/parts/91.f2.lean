/-! the lines, what they tell -/
def lsB (b : Nat → Int32) (m k : Nat) : Bool := decide (4 ≤ k) && decide (tKd b m (k - 1) = 4)
def jnT (b : Nat → Int32) (m t : Nat) : Nat := if tKd b m t = 3 then t + 1 else t
def jvT (b : Nat → Int32) (m t : Nat) : Int := if tKd b m t = 3 then -(tNu b m (t + 1) : Int) else (tNu b m t : Int)
def jlT (b : Nat → Int32) (m t : Nat) : Nat := if tKd b m t = 3 then 2 else 1
def isJt (b : Nat → Int32) (m t : Nat) : Prop := (tKd b m t = 3 ∧ tKd b m (t + 1) = 2) ∨ tKd b m t = 2
theorem dl3 : ∀ k, k < 16 → dl 3 k = none ∨ (k = 4 ∧ dl 3 k = some 4) := by decide
theorem dl5 : ∀ k, k < 16 → dl 5 k = none ∨ (k = 3 ∧ dl 5 k = some 6) ∨ (k = 2 ∧ dl 5 k = some 3) := by decide
theorem dl6 : ∀ k, k < 16 → dl 6 k = none ∨ (k = 2 ∧ dl 6 k = some 3) := by decide
theorem dl7 : ∀ k, k < 16 → dl 7 k = none ∨ ((k = 6 ∨ k = 7) ∧ dl 7 k = some 3) := by decide
theorem dl8 : ∀ k, k < 16 → dl 8 k = none ∨ (k = 2 ∧ dl 8 k = some 9) := by decide
theorem dl9 : ∀ k, k < 16 → dl 9 k = none ∨ ((k = 6 ∨ k = 7) ∧ dl 9 k = some 5) := by decide
theorem dl10 : ∀ k, k < 16 → dl 10 k = none ∨ (k = 2 ∧ dl 10 k = some 5) := by decide
theorem dl11 : ∀ k, k < 16 → dl 11 k = none ∨ (k = 2 ∧ dl 11 k = some 12) := by decide
theorem dl12 : ∀ k, k < 16 → dl 12 k = none ∨ ((k = 13 ∨ k = 14) ∧ dl 12 k = some 3) := by decide
theorem dl13 : ∀ k, k < 16 → dl 13 k = none ∨ (k = 2 ∧ dl 13 k = some 3) := by decide
theorem dl4 : ∀ k, k < 16 → dl 4 k = none ∨ ((k = 6 ∨ k = 7 ∨ k = 8) ∧ dl 4 k = some 5) ∨ (k = 9 ∧ dl 4 k = some 7) ∨ (k = 10 ∧ dl 4 k = some 8) ∨ (k = 11 ∧ dl 4 k = some 10) ∨ (k = 12 ∧ dl 4 k = some 11) ∨ (k = 15 ∧ dl 4 k = some 13) := by decide
theorem dl0 : ∀ k, k < 16 → dl 0 k = none ∨ (k = 5 ∧ dl 0 k = some 1) := by decide
theorem dl1 : ∀ k, k < 16 → dl 1 k = none ∨ (k = 2 ∧ dl 1 k = some 2) := by decide
theorem dl2 : ∀ k, k < 16 → dl 2 k = none ∨ (k = 2 ∧ dl 2 k = some 3) := by decide
theorem dl_4 : ∀ v, v < 14 → ∀ k, k < 16 → (dl v k = some 4 → k = 4) ∧ (k = 4 → dl v k = none ∨ dl v k = some 4) := by decide
section LINES
variable {b : Nat → Int32} {m T : Nat}
/-- the text that the grammar lets pass -/
def OKT (b : Nat → Int32) (m T : Nat) : Prop := ws b m T = some 4 ∧ T ≤ 400 ∧ tKd b m T = 0
theorem OKT_of (h : cutR b m T 0 0) : OKT b m T := by
  obtain ⟨w, h1, h2⟩ := h
  rcases h2 with ⟨-, -, a, c, rfl⟩ | ⟨a, -⟩ | ⟨a, -⟩
  · exact ⟨h1, a, c⟩
  · cases a
  · cases a
theorem ws_go (hT : OKT b m T) {t w : Nat} (h : ws b m t = some w) (ht : t ≤ T) (hw : w ≠ 4) : t < T ∧ tKd b m t ≠ 0 ∧ tKd b m t < 16 ∧ ∃ u, dl w (tKd b m t) = some u ∧ ws b m (t + 1) = some u := by
  have hne : t ≠ T := fun z => by
    rw [z, hT.1] at h
    cases h
    exact hw rfl
  have hlt : t < T := by omega
  obtain ⟨v, v1, v2, u, v3, v4⟩ := ws_pre T 4 hT.1 t hlt
  rw [h] at v1
  cases v1
  exact ⟨hlt, v2, by have := tKd_b (b := b) (m := m) t; omega, u, v3, v4⟩
theorem end_at (hT : OKT b m T) {t : Nat} (h : ws b m t = some 3) (ht : t ≤ T) : tKd b m t = 4 ∧ ws b m (t + 1) = some 4 ∧ t + 1 ≤ T := by
  obtain ⟨h1, h2, h3, u, h4, h5⟩ := ws_go hT h ht (by omega)
  rcases dl3 _ h3 with z | ⟨z1, z2⟩
  · rw [z] at h4; cases h4
  · rw [z2] at h4; cases h4
    exact ⟨z1, h5, by omega⟩
theorem J_at (hT : OKT b m T) {t : Nat} (h : ws b m t = some 5) (ht : t ≤ T) : isJt b m t ∧ tKd b m (t + jlT b m t) = 4 ∧ ws b m (t + jlT b m t + 1) = some 4 ∧ t + jlT b m t + 1 ≤ T := by
  obtain ⟨h1, h2, h3, u, h4, h5⟩ := ws_go hT h ht (by omega)
  rcases dl5 _ h3 with z | ⟨z1, z2⟩ | ⟨z1, z2⟩
  · rw [z] at h4; cases h4
  · rw [z2] at h4; cases h4
    obtain ⟨k1, k2, k3, u', k4, k5⟩ := ws_go hT h5 (by omega) (by omega)
    rcases dl6 _ k3 with y | ⟨y1, y2⟩
    · rw [y] at k4; cases k4
    · rw [y2] at k4; cases k4
      have e := end_at hT k5 (by omega)
      unfold jlT
      rw [if_pos z1]
      exact ⟨.inl ⟨z1, y1⟩, e⟩
  · rw [z2] at h4; cases h4
    have e := end_at hT h5 (by omega)
    unfold jlT
    rw [if_neg (by omega)]
    exact ⟨.inr z1, e⟩
/-- the shapes of a line -/
def LN1 (b : Nat → Int32) (m t : Nat) : Prop := (tKd b m t = 6 ∨ tKd b m t = 7 ∨ tKd b m t = 8) ∧ isJt b m (t + 1)
def LN2 (b : Nat → Int32) (m t : Nat) : Prop := tKd b m t = 9 ∧ (tKd b m (t + 1) = 6 ∨ tKd b m (t + 1) = 7)
def LN3 (b : Nat → Int32) (m t : Nat) : Prop := tKd b m t = 10 ∧ tKd b m (t + 1) = 2 ∧ (tKd b m (t + 2) = 6 ∨ tKd b m (t + 2) = 7) ∧ isJt b m (t + 3)
def LN4 (b : Nat → Int32) (m t : Nat) : Prop := tKd b m t = 11 ∧ tKd b m (t + 1) = 2 ∧ isJt b m (t + 2)
def LN5 (b : Nat → Int32) (m t : Nat) : Prop := tKd b m t = 12 ∧ tKd b m (t + 1) = 2 ∧ (tKd b m (t + 2) = 13 ∨ tKd b m (t + 2) = 14)
def LN6 (b : Nat → Int32) (m t : Nat) : Prop := tKd b m t = 15 ∧ tKd b m (t + 1) = 2
def lnE (b : Nat → Int32) (m t : Nat) : Nat := if tKd b m t = 9 ∨ tKd b m t = 15 then t + 2 else if tKd b m t = 10 then t + 3 + jlT b m (t + 3) else if tKd b m t = 11 then t + 2 + jlT b m (t + 2) else if tKd b m t = 12 then t + 3 else t + 1 + jlT b m (t + 1)
theorem line_at (hT : OKT b m T) {t : Nat} (h : ws b m t = some 4) (ht : t < T) : (LN1 b m t ∨ LN2 b m t ∨ LN3 b m t ∨ LN4 b m t ∨ LN5 b m t ∨ LN6 b m t) ∧ tKd b m (lnE b m t) = 4 ∧ ws b m (lnE b m t + 1) = some 4 ∧ lnE b m t + 1 ≤ T ∧ t < lnE b m t := by
  obtain ⟨v, v1, v2, u, v3, v4⟩ := ws_pre T 4 hT.1 t ht
  rw [h] at v1
  cases v1
  have k16 : tKd b m t < 16 := by have := tKd_b (b := b) (m := m) t; omega
  have jl1 : ∀ t, 1 ≤ jlT b m t := fun t => by unfold jlT; split <;> omega
  rcases dl4 _ k16 with z | ⟨z1, z2⟩ | ⟨z1, z2⟩ | ⟨z1, z2⟩ | ⟨z1, z2⟩ | ⟨z1, z2⟩ | ⟨z1, z2⟩
  · rw [z] at v3; cases v3
  · rw [z2] at v3; cases v3
    obtain ⟨a1, a2, a3, a4⟩ := J_at hT v4 (by omega)
    have e : lnE b m t = t + 1 + jlT b m (t + 1) := by
      unfold lnE
      rw [if_neg (by omega), if_neg (by omega), if_neg (by omega), if_neg (by omega)]
    rw [e]
    have := jl1 (t + 1)
    exact ⟨.inl ⟨z1, a1⟩, a2, a3, a4, by omega⟩
  · rw [z2] at v3; cases v3
    obtain ⟨k1, k2, k3, u', k4, k5⟩ := ws_go hT v4 (by omega) (by omega)
    rcases dl7 _ k3 with y | ⟨y1, y2⟩
    · rw [y] at k4; cases k4
    · rw [y2] at k4; cases k4
      obtain ⟨a1, a2, a3⟩ := end_at hT k5 (by omega)
      have e : lnE b m t = t + 2 := by unfold lnE; rw [if_pos (by omega)]
      rw [e]
      exact ⟨.inr (.inl ⟨z1, y1⟩), a1, a2, a3, by omega⟩
  · rw [z2] at v3; cases v3
    obtain ⟨k1, k2, k3, u', k4, k5⟩ := ws_go hT v4 (by omega) (by omega)
    rcases dl8 _ k3 with y | ⟨y1, y2⟩
    · rw [y] at k4; cases k4
    · rw [y2] at k4; cases k4
      obtain ⟨q1, q2, q3, u', q4, q5⟩ := ws_go hT k5 (by omega) (by omega)
      rcases dl9 _ q3 with x | ⟨x1, x2⟩
      · rw [x] at q4; cases q4
      · rw [x2] at q4; cases q4
        obtain ⟨a1, a2, a3, a4⟩ := J_at hT q5 (by omega)
        have e : lnE b m t = t + 3 + jlT b m (t + 3) := by unfold lnE; rw [if_neg (by omega), if_pos z1]
        rw [e]
        have := jl1 (t + 3)
        exact ⟨.inr (.inr (.inl ⟨z1, y1, x1, a1⟩)), a2, a3, a4, by omega⟩
  · rw [z2] at v3; cases v3
    obtain ⟨k1, k2, k3, u', k4, k5⟩ := ws_go hT v4 (by omega) (by omega)
    rcases dl10 _ k3 with y | ⟨y1, y2⟩
    · rw [y] at k4; cases k4
    · rw [y2] at k4; cases k4
      obtain ⟨a1, a2, a3, a4⟩ := J_at hT k5 (by omega)
      have e : lnE b m t = t + 2 + jlT b m (t + 2) := by unfold lnE; rw [if_neg (by omega), if_neg (by omega), if_pos z1]
      rw [e]
      have := jl1 (t + 2)
      exact ⟨.inr (.inr (.inr (.inl ⟨z1, y1, a1⟩))), a2, a3, a4, by omega⟩
  · rw [z2] at v3; cases v3
    obtain ⟨k1, k2, k3, u', k4, k5⟩ := ws_go hT v4 (by omega) (by omega)
    rcases dl11 _ k3 with y | ⟨y1, y2⟩
    · rw [y] at k4; cases k4
    · rw [y2] at k4; cases k4
      obtain ⟨q1, q2, q3, u', q4, q5⟩ := ws_go hT k5 (by omega) (by omega)
      rcases dl12 _ q3 with x | ⟨x1, x2⟩
      · rw [x] at q4; cases q4
      · rw [x2] at q4; cases q4
        obtain ⟨a1, a2, a3⟩ := end_at hT q5 (by omega)
        have e : lnE b m t = t + 3 := by unfold lnE; rw [if_neg (by omega), if_neg (by omega), if_neg (by omega), if_pos z1]
        rw [e]
        exact ⟨.inr (.inr (.inr (.inr (.inl ⟨z1, y1, x1⟩)))), a1, a2, a3, by omega⟩
  · rw [z2] at v3; cases v3
    obtain ⟨k1, k2, k3, u', k4, k5⟩ := ws_go hT v4 (by omega) (by omega)
    rcases dl13 _ k3 with y | ⟨y1, y2⟩
    · rw [y] at k4; cases k4
    · rw [y2] at k4; cases k4
      obtain ⟨a1, a2, a3⟩ := end_at hT k5 (by omega)
      have e : lnE b m t = t + 2 := by unfold lnE; rw [if_pos (by omega)]
      rw [e]
      exact ⟨.inr (.inr (.inr (.inr (.inr ⟨z1, y1⟩)))), a1, a2, a3, by omega⟩
/-- the head of the text -/
theorem head_at (hT : OKT b m T) : 4 ≤ T ∧ tKd b m 0 = 5 ∧ tKd b m 1 = 2 ∧ tKd b m 2 = 2 ∧ tKd b m 3 = 4 ∧ ws b m 4 = some 4 := by
  obtain ⟨h1, h2, h3, u, h4, h5⟩ := ws_go hT (t := 0) (w := 0) rfl (by omega) (by omega)
  rcases dl0 _ h3 with z | ⟨z1, z2⟩
  · rw [z] at h4; cases h4
  · rw [z2] at h4; cases h4
    obtain ⟨k1, k2, k3, u', k4, k5⟩ := ws_go hT h5 (by omega) (by omega)
    rcases dl1 _ k3 with y | ⟨y1, y2⟩
    · rw [y] at k4; cases k4
    · rw [y2] at k4; cases k4
      obtain ⟨q1, q2, q3, u', q4, q5⟩ := ws_go hT k5 (by omega) (by omega)
      rcases dl2 _ q3 with x | ⟨x1, x2⟩
      · rw [x] at q4; cases q4
      · rw [x2] at q4; cases q4
        obtain ⟨a1, a2, a3⟩ := end_at hT q5 (by omega)
        exact ⟨by omega, z1, y1, x1, a1, a2⟩
theorem ls_ws (hT : OKT b m T) {k : Nat} (h4 : 4 ≤ k) (hk : k ≤ T) : lsB b m k = true ↔ ws b m k = some 4 := by
  obtain ⟨v, v1, v2, u, v3, v4⟩ := ws_pre T 4 hT.1 (k - 1) (by omega)
  have v14 := ws_b (k - 1) v v1
  have k16 : tKd b m (k - 1) < 16 := by have := tKd_b (b := b) (m := m) (k - 1); omega
  have d := dl_4 v v14 _ k16
  rw [show k - 1 + 1 = k by omega] at v4
  unfold lsB
  rw [decide_eq_true h4, Bool.true_and, decide_eq_true_eq, v4]
  constructor
  · intro z
    rcases d.2 z with y | y
    · rw [y] at v3; cases v3
    · rw [y] at v3; exact v3.symm
  · intro z
    cases z
    exact d.1 v3
/-- inside a line no line begins -/
theorem ls_no (hT : OKT b m T) {t : Nat} (h : ws b m t = some 4) (ht : t < T) {i : Nat} (h1 : t < i) (h2 : i ≤ lnE b m t) : lsB b m i = false := by
  have hnot : tKd b m (i - 1) ≠ 4 := by
    obtain ⟨hl, -⟩ := line_at hT h ht
    have jb : ∀ s, isJt b m s → (tKd b m s = 3 ∧ jlT b m s = 2 ∧ tKd b m (s + 1) = 2) ∨ (tKd b m s = 2 ∧ jlT b m s = 1) := fun s hs => by
      unfold jlT
      rcases hs with ⟨a1, a2⟩ | a1
      · left; rw [if_pos a1]; exact ⟨a1, rfl, a2⟩
      · right; rw [if_neg (by omega)]; exact ⟨a1, rfl⟩
    unfold lnE at h2
    rcases hl with ⟨a1, a2⟩ | ⟨a1, a2⟩ | ⟨a1, a2, a3, a4⟩ | ⟨a1, a2, a3⟩ | ⟨a1, a2, a3⟩ | ⟨a1, a2⟩
    · rw [if_neg (by omega), if_neg (by omega), if_neg (by omega), if_neg (by omega)] at h2
      rcases jb _ a2 with ⟨c1, c2, c3⟩ | ⟨c1, c2⟩
      · rw [c2] at h2
        rcases (show i - 1 = t ∨ i - 1 = t + 1 ∨ i - 1 = t + 1 + 1 by omega) with e | e | e <;> rw [e] <;> omega
      · rw [c2] at h2
        rcases (show i - 1 = t ∨ i - 1 = t + 1 by omega) with e | e <;> rw [e] <;> omega
    · rw [if_pos (by omega)] at h2
      rcases (show i - 1 = t ∨ i - 1 = t + 1 by omega) with e | e <;> rw [e] <;> omega
    · rw [if_neg (by omega), if_pos a1] at h2
      rcases jb _ a4 with ⟨c1, c2, c3⟩ | ⟨c1, c2⟩
      · rw [c2] at h2
        rcases (show i - 1 = t ∨ i - 1 = t + 1 ∨ i - 1 = t + 2 ∨ i - 1 = t + 3 ∨ i - 1 = t + 3 + 1 by omega) with e | e | e | e | e <;> rw [e] <;> omega
      · rw [c2] at h2
        rcases (show i - 1 = t ∨ i - 1 = t + 1 ∨ i - 1 = t + 2 ∨ i - 1 = t + 3 by omega) with e | e | e | e <;> rw [e] <;> omega
    · rw [if_neg (by omega), if_neg (by omega), if_pos a1] at h2
      rcases jb _ a3 with ⟨c1, c2, c3⟩ | ⟨c1, c2⟩
      · rw [c2] at h2
        rcases (show i - 1 = t ∨ i - 1 = t + 1 ∨ i - 1 = t + 2 ∨ i - 1 = t + 2 + 1 by omega) with e | e | e | e <;> rw [e] <;> omega
      · rw [c2] at h2
        rcases (show i - 1 = t ∨ i - 1 = t + 1 ∨ i - 1 = t + 2 by omega) with e | e | e <;> rw [e] <;> omega
    · rw [if_neg (by omega), if_neg (by omega), if_neg (by omega), if_pos a1] at h2
      rcases (show i - 1 = t ∨ i - 1 = t + 1 ∨ i - 1 = t + 2 by omega) with e | e | e <;> rw [e] <;> omega
    · rw [if_pos (by omega)] at h2
      rcases (show i - 1 = t ∨ i - 1 = t + 1 by omega) with e | e <;> rw [e] <;> omega
  unfold lsB
  rw [decide_eq_false hnot, Bool.and_false]
end LINES
/-- what was told so far, token by token -/
def foldL {α : Type} (b : Nat → Int32) (m : Nat) (a0 : α) (f : Nat → α → α) : Nat → α
  | 0 => a0
  | k + 1 => if lsB b m k then f k (foldL b m a0 f k) else foldL b m a0 f k
theorem foldL_4 {α : Type} {b : Nat → Int32} {m : Nat} (a0 : α) (f : Nat → α → α) : ∀ k, k ≤ 4 → foldL b m a0 f k = a0
  | 0, _ => rfl
  | k + 1, h => by
    rw [foldL]
    have : lsB b m k = false := by unfold lsB; rw [decide_eq_false (by omega), Bool.false_and]
    rw [this, if_neg (by decide)]
    exact foldL_4 a0 f k (by omega)
theorem foldL_no {α : Type} {b : Nat → Int32} {m : Nat} (a0 : α) (f : Nat → α → α) {t : Nat} : ∀ e, t ≤ e → (∀ i, t ≤ i → i < e → lsB b m i = false) → foldL b m a0 f e = foldL b m a0 f t
  | 0, h, _ => by rw [show t = 0 by omega]
  | e + 1, h, hn => by
    by_cases z : t = e + 1
    · rw [z]
    · rw [foldL, hn e (by omega) (by omega), if_neg (by decide)]
      exact foldL_no a0 f e (by omega) (fun i h1 h2 => hn i h1 (by omega))
/-- over a whole line -/
theorem foldL_line {α : Type} {b : Nat → Int32} {m T : Nat} (a0 : α) (f : Nat → α → α) (hT : OKT b m T) {t : Nat} (h4 : 4 ≤ t) (h : ws b m t = some 4) (ht : t < T) : foldL b m a0 f (lnE b m t + 1) = f t (foldL b m a0 f t) := by
  have hl := (line_at hT h ht).2.2.2.2
  rw [foldL_no a0 f (t := t + 1) (lnE b m t + 1) (by omega) (fun i h1 h2 => ls_no hT h ht (by omega) (by omega)), foldL, (ls_ws hT h4 (by omega)).mpr h, if_pos rfl]
