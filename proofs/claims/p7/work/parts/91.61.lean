/-! the strip: which ties there are, what a state's energy is -/
abbrev GD := Nat × Nat × Nat
def gSz (g : GD) : Nat := g.1 * g.2.1
def gAll : List GD := (0, 0, 0) :: (List.range 5).flatMap fun w => (List.range 17).flatMap fun l => if 1 ≤ w ∧ 1 ≤ l ∧ w * l ≤ 16 then (List.range 4).map fun r => (w, l, r) else []
theorem gAll_in {w l r : Nat} (h1 : 1 ≤ w) (h2 : w ≤ 4) (h3 : 1 ≤ l) (h4 : l ≤ 16) (h5 : w * l ≤ 16) (h6 : r < 4) : ((w, l, r) : GD) ∈ gAll := by
  unfold gAll
  apply List.mem_cons_of_mem
  rw [List.mem_flatMap]
  refine ⟨w, List.mem_range.mpr (by omega), ?_⟩
  rw [List.mem_flatMap]
  refine ⟨l, List.mem_range.mpr (by omega), ?_⟩
  rw [if_pos ⟨h1, h3, h5⟩, List.mem_map]
  exact ⟨r, List.mem_range.mpr h6, rfl⟩
theorem gAll_b : ∀ g ∈ gAll, g.1 ≤ 4 ∧ g.2.1 ≤ 16 ∧ gSz g ≤ 16 ∧ g.2.2 < 4 ∧ ((g.1 = 0 ∧ g.2.1 = 0 ∧ g.2.2 = 0) ∨ (1 ≤ g.1 ∧ 1 ≤ g.2.1)) := by decide +kernel
/-- where a tie begins, where it leads to -/
def gFr (t : Nat) : Nat := if t < 16 then t else t - 16
def gTo (g : GD) (t : Nat) : Option Nat := if gSz g ≤ gFr t then none else if t < 16 then (if gFr t % g.1 + 1 < g.1 then some (gFr t + 1) else if g.2.2 % 2 = 1 ∧ 2 < g.1 then some (g.1 * (gFr t / g.1)) else none) else (if gFr t / g.1 + 1 < g.2.1 then some (gFr t + g.1) else if g.2.2 / 2 = 1 ∧ 2 < g.2.1 then some (gFr t % g.1) else none)
def oI (o : Option Nat) : Int32 := match o with
  | none => -1
  | some e => nI e
theorem gTo_b : ∀ g ∈ gAll, ∀ t, t < 32 → ∀ e, gTo g t = some e → gFr t < gSz g ∧ e < gSz g ∧ gFr t ≠ e := by
  have h : ∀ g ∈ gAll, ∀ t, t < 32 → (gTo g t).all (fun e => decide (gFr t < gSz g ∧ e < gSz g ∧ gFr t ≠ e)) = true := by decide +kernel
  intro g hg t ht e he
  have := h g hg t ht
  rw [he] at this
  exact of_decide_eq_true this
theorem gFr_16 {t : Nat} (h : t < 32) : gFr t < 16 := by unfold gFr; split <;> omega
/-- the mates of a site, with the ties' places -/
def gMt (g : GD) (i : Nat) : List (Nat × Nat) := (List.range 32).flatMap fun t => match gTo g t with
  | none => []
  | some e => if gFr t = i then [(e, t)] else if e = i then [(gFr t, t)] else []
theorem gMt_b : ∀ g ∈ gAll, ∀ i, i < 16 → (gMt g i).length ≤ 4 ∧ ∀ q ∈ gMt g i, q.1 < gSz g ∧ q.2 < 32 ∧ q.1 ≠ i ∧ (gTo g q.2).isSome = true := by decide +kernel
/-- energies -/
def eH (F : Nat → Int) (s i : Nat) : Int := if s.testBit i then -F (32 + i) else F (32 + i)
def eT (g : GD) (F : Nat → Int) (s t : Nat) : Int := match gTo g t with
  | none => 0
  | some e => if s.testBit (gFr t) = s.testBit e then -F t else F t
def eE (g : GD) (F : Nat → Int) (s : Nat) : Int := fb_si (eT g F s) 32 + fb_si (eH F s) (gSz g)
/-- of the first k sites alone -/
def gIn (g : GD) (k t : Nat) : Bool := match gTo g t with
  | none => false
  | some e => decide (gFr t < k) && decide (e < k)
def eP (g : GD) (F : Nat → Int) (k s : Nat) : Int := fb_si (fun t => if gIn g k t then eT g F s t else 0) 32 + fb_si (eH F s) k
theorem eP_all {g : GD} (hg : g ∈ gAll) (F : Nat → Int) (s : Nat) : eP g F (gSz g) s = eE g F s := by
  unfold eP eE
  congr 1
  apply fb_si_cong
  intro t ht
  unfold gIn eT
  cases he : gTo g t with
  | none => rfl
  | some e =>
    have := gTo_b g hg t ht e he
    simp [this.1, this.2.1]
def zR (F : Nat → Int32) : Nat → Int := fun k => (F k).toInt
/-- a row of numbers that may stand -/
def RO (g : GD) (F : Nat → Int32) : Prop := (∀ k, k < 48 → -3 ≤ (F k).toInt ∧ (F k).toInt ≤ 3) ∧ (∀ i, i < 16 → (F (48 + i) = 0 ∨ F (48 + i) = 1 ∨ F (48 + i) = 2) ∧ (gSz g ≤ i → F (48 + i) = 0)) ∧ (∃ b, b < 2 ^ gSz g ∧ F 64 = nI b ∧ ∀ i, i < gSz g → F (48 + i) ≠ 0 → b.testBit i = decide (F (48 + i) = 1)) ∧ ∃ s, s < 10000 ∧ F 65 = nI s
theorem RO_congr {g : GD} (hg : g ∈ gAll) {F G : Nat → Int32} (h : ∀ k, k < 66 → G k = F k) (H : RO g F) : RO g G := by
  obtain ⟨h1, h2, ⟨b, h3, h4, h5⟩, s, h6, h7⟩ := H
  refine ⟨fun k hk => by rw [h k (by omega)]; exact h1 k hk, fun i hi => by rw [h _ (by omega)]; exact h2 i hi, ⟨b, h3, by rw [h 64 (by omega)]; exact h4, fun i hi hne => ?_⟩, s, h6, by rw [h 65 (by omega)]; exact h7⟩
  by_cases hi16 : i < 16
  · rw [h (48 + i) (by omega)] at hne ⊢
    exact h5 i hi hne
  · have := (gAll_b g hg).2.2.1
    omega
theorem eE_b {g : GD} (hg : g ∈ gAll) {F : Nat → Int32} (h : RO g F) (s : Nat) : -144 ≤ eE g (zR F) s ∧ eE g (zR F) s ≤ 144 := by
  have h1 : ∀ t, t < 32 → -3 ≤ eT g (zR F) s t ∧ eT g (zR F) s t ≤ 3 := by
    intro t ht
    have := h.1 t (by omega)
    unfold eT zR
    split
    · omega
    · split <;> omega
  have h2 : ∀ t, t < gSz g → -3 ≤ eH (zR F) s t ∧ eH (zR F) s t ≤ 3 := by
    intro t ht
    have h16 : gSz g ≤ 16 := (gAll_b g hg).2.2.1
    have := h.1 (32 + t) (by omega)
    unfold eH zR
    split <;> omega
  have a := fb_si_bound (c := 3) (by decide) h1
  have b := fb_si_bound (c := 3) (by decide) h2
  have h16 : gSz g ≤ 16 := (gAll_b g hg).2.2.1
  unfold eE
  have : (gSz g : Int) * 3 ≤ 48 := by omega
  omega
/-- lawful states -/
def lW (g : GD) (F : Nat → Int32) (s : Nat) : Bool := (List.range (gSz g)).all fun i => decide (F (48 + i) = 0) || (s.testBit i == decide (F (48 + i) = 1))
/-- a setup holds what a row tells -/
def SR (g : GD) (I : Nat → Nat → Int32) (a : Nat) (F : Nat → Int32) : Prop :=
  (∀ t, t < 32 → I (a + 1) t = if (gTo g t).isSome then F t else 0) ∧ (∀ i, i < 16 → I (a + 2) i = if i < gSz g then F (32 + i) else 0) ∧
  (∃ p u, I a 2 = nI p ∧ I a 3 = nI u ∧ (∀ i, p.testBit i = (decide (i < gSz g) && decide (F (48 + i) ≠ 0))) ∧ ∀ i, u.testBit i = (decide (i < gSz g) && decide (F (48 + i) = 1))) ∧ I a 4 = F 64 ∧ I a 5 = F 65
abbrev GH := Nat → GD × (Nat → Int32)
/-- a setup that may come back: it holds its row, its stamps tell its numbers -/
def LV (g : GD) (gT gP : GH) (st : Nat) (I : Nat → Nat → Int32) (a : Nat) (F : Nat → Int32) : Prop :=
  SR g I a F ∧ RO g F ∧ ∃ t p, t ≤ st ∧ p ≤ st ∧ I a 6 = nI t ∧ I a 7 = nI p ∧ (gT t).1 = g ∧ (∀ k, k < 48 → F k = (gT t).2 k) ∧ (gP p).1 = g ∧ ∀ k, k < 64 → F k = (gP p).2 k
