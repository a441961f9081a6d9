/-! sites come in one by one -/
def lwM (g : GD) (F : Nat → Int) (i : Nat) : List (Nat × Nat) := (gMt g i).filter (fun q => decide (q.1 < i) && decide (F q.2 ≠ 0))
def plS (g : GD) (F : Nat → Int) (i s : Nat) : Int := F (32 + i) + ((lwM g F i).map (fun q => if s.testBit q.1 then F q.2 else -F q.2)).sum
theorem eP_step {g : GD} (hg : g ∈ gAll) (F : Nat → Int) {i s s' : Nat} (hi : i < gSz g) (hb : ∀ j, j < i → s'.testBit j = s.testBit j) : eP g F (i + 1) s' = eP g F i s + (if s'.testBit i then -plS g F i s else plS g F i s) := by
  have h16 := (gAll_b g hg).2.2.1
  have h1 : fb_si (eH F s') (i + 1) = fb_si (eH F s) i + (if s'.testBit i then -F (32 + i) else F (32 + i)) := by
    rw [fb_si_succ]
    congr 1
    apply fb_si_cong
    intro k hk
    unfold eH
    rw [hb k hk]
  have h2 : fb_si (fun t => if gIn g (i + 1) t then eT g F s' t else 0) 32 = fb_si (fun t => if gIn g i t then eT g F s t else 0) 32 + (if s'.testBit i then (-1 : Int) else 1) * ((lwM g F i).map (fun q => if s.testBit q.1 then F q.2 else -F q.2)).sum := by
    unfold lwM gMt
    rw [List.filter_flatMap, lsum_flat, ← fb_si_mul, ← fb_si_add]
    apply fb_si_cong
    intro t ht
    unfold gIn eT
    cases he : gTo g t with
    | none => simp
    | some e =>
      have hne := (gTo_b g hg t ht e he).2.2
      dsimp only
      by_cases q1 : gFr t = i
      · have q2 : ¬ e = i := fun z => hne (q1.trans z.symm)
        rw [if_pos q1, q1]
        by_cases q3 : e < i
        · have q4 : e < i + 1 := by omega
          by_cases q5 : F t = 0
          · simp [q3, q4, q5]
          · simp [q3, q4, q5, hb e q3]
            cases s'.testBit i <;> cases s.testBit e <;> simp
        · have q4 : ¬ e < i + 1 := by omega
          simp [q3, q4]
      · rw [if_neg q1]
        by_cases q2 : e = i
        · rw [if_pos q2, q2]
          by_cases q3 : gFr t < i
          · have q4 : gFr t < i + 1 := by omega
            by_cases q5 : F t = 0
            · simp [q3, q4, q5]
            · simp [q3, q4, q5, hb _ q3]
              cases s'.testBit i <;> cases s.testBit (gFr t) <;> simp
          · have q4 : ¬ gFr t < i + 1 := by omega
            simp [q3, q4]
        · rw [if_neg q2]
          have e1 : (gFr t < i + 1) ↔ (gFr t < i) := by omega
          have e2 : (e < i + 1) ↔ (e < i) := by omega
          simp only [e1, e2]
          by_cases q3 : gFr t < i ∧ e < i
          · simp [q3, hb _ q3.1, hb _ q3.2]
          · by_cases q4 : gFr t < i
            · have : ¬ e < i := fun z => q3 ⟨q4, z⟩
              simp [q4, this]
            · simp [q4]
  unfold eP plS
  rw [h1, h2]
  cases s'.testBit i <;> simp <;> omega
theorem eP_lo {g : GD} (hg : g ∈ gAll) (F : Nat → Int) {i s : Nat} (hi : i < gSz g) (hs : s < 2 ^ i) : eP g F (i + 1) s = eP g F i s + plS g F i s := by
  rw [eP_step hg F hi (fun j _ => rfl), Nat.testBit_lt_two_pow hs]
  simp
theorem eP_hi {g : GD} (hg : g ∈ gAll) (F : Nat → Int) {i s : Nat} (hi : i < gSz g) (hs : s < 2 ^ i) : eP g F (i + 1) (2 ^ i + s) = eP g F i s - plS g F i s := by
  have e : (2 ^ i + s).testBit i = true := by
    rw [Nat.testBit_two_pow_add_eq, Nat.testBit_lt_two_pow hs]; rfl
  rw [eP_step hg F (s := s) hi (fun j hj => Nat.testBit_two_pow_add_gt hj s), e]
  simp
  omega
/-- what lies below the lowest mate doesn't matter -/
theorem plS_block {g : GD} {F : Nat → Int} {i b r lo : Nat} (hlo : ∀ q ∈ lwM g F i, lo ≤ q.1) (hr : r < 2 ^ lo) : plS g F i (b * 2 ^ lo + r) = plS g F i (b * 2 ^ lo) := by
  unfold plS
  congr 2
  apply List.map_congr_left
  intro q hq
  have h := hlo q hq
  have e : (b * 2 ^ lo + r).testBit q.1 = (b * 2 ^ lo).testBit q.1 := by
    rw [Nat.mul_comm b, Nat.testBit_two_pow_mul_add b hr, Nat.testBit_two_pow_mul]
    have h2 : ¬ q.1 < lo := by omega
    simp [h2, h]
  rw [e]
theorem eP_congr {g : GD} (hg : g ∈ gAll) {F G : Nat → Int} {k s : Nat} (hk : k ≤ gSz g) (h1 : ∀ t, t < 32 → (gTo g t).isSome = true → F t = G t) (h2 : ∀ i, i < gSz g → F (32 + i) = G (32 + i)) : eP g F k s = eP g G k s := by
  unfold eP
  congr 1
  · apply fb_si_cong
    intro t ht
    unfold eT
    cases he : gTo g t with
    | none => simp
    | some e => simp only [h1 t ht (by rw [he]; rfl)]
  · apply fb_si_cong
    intro i hi
    unfold eH
    rw [h2 i (by omega)]
