/-! filling the energies that lie aside -/
theorem IV.aside {n : Nat} {σ τ : XS} {g : GD} {gT gP : GH} {st : Nat} (H : IV n σ g gT gP st) {c b k : Nat} {g' : GD} {G : Nat → Int} {I1 : Nat → Nat → Int32} (hE : EnO σ 161 c (2 ^ b)) (u1 : ∀ a k, a ≠ 172 → I1 a k = xI σ a k) (hτ : FlR σ I1 161 g' G k b τ) : IV n τ g gT gP st := by
  obtain ⟨hτS, ⟨c', b', hE', f1, f2, f3, f4, f5, f6, f7, f8, f9⟩, f10, f11, f12, f13⟩ := hτ
  have hS := H.shp
  have h206 := hS.1
  have hEb' := hE'.b
  obtain ⟨a0, b0, h1, h2, h3, h4, h5, h6, h7, h8, h9, h10, h11⟩ := H.cel
  have hne : c' ≠ xR σ 157 4 := by
    rcases f5 with z | z
    · rw [z]; exact fun q => h7 q.symm
    · omega
  have fr : ∀ a j, a ≤ xn σ → a ≠ c' → (a < 161 ∨ 163 < a) → a ≠ 172 → xI τ a j = xI σ a j := fun a j q1 q2 q3 q4 => by rw [f9 a j q2 q1 (by omega), u1 a j q4]
  have r157 : xR τ 157 4 = xR σ 157 4 := f12 157 4 (by omega) (by omega)
  refine H.cache hτS (fun a j h => fr a j (by omega) (by omega) (by omega) (by omega)) ?_ ?_
  · obtain ⟨c1, c2, c3, c4⟩ := H.cch
    refine ⟨?_, ?_, ?_, ?_⟩
    · rw [fr 157 5 (by omega) (by omega) (by omega) (by omega)]
      rcases c1 with z | ⟨t, z1, z2, z3, z4⟩
      · exact .inl z
      · refine .inr ⟨t, z1, z2, ?_, fun s hs => ?_⟩
        · rw [r157]
          unfold xlen
          rw [f11 _ h8]
          exact z3
        · rw [r157, fr _ _ h8 hne.symm (by omega) (by omega)]
          exact z4 s hs
    · rw [fr 165 5 (by omega) (by omega) (by omega) (by omega)]
      rcases c2 with z | ⟨q, z1, z2, z3⟩
      · exact .inl z
      · exact .inr ⟨q, z1, z2, LVK_c (fun a j h => fr a j (by omega) (by omega) (by omega) (by omega)) z3⟩
    · rw [fr 170 3 (by omega) (by omega) (by omega) (by omega)]
      rcases c3 with z | ⟨q, z1, z2, z3⟩
      · exact .inl z
      · exact .inr ⟨q, z1, z2, BRK_c (fun j => fr 171 j (by omega) (by omega) (by omega) (by omega)) z3⟩
    · rw [fr 174 10 (by omega) (by omega) (by omega) (by omega)]
      rcases c4 with z | ⟨q, z1, z2, z3⟩
      · exact .inl z
      · refine .inr ⟨q, z1, z2, ?_⟩
        intro hs
        have := TRK_c (I' := xI τ) (fun a j h => fr a j (by omega) (by omega) (by omega) (by omega)) z3 hs
        rw [f12 174 5 (by omega) (by omega), f12 174 6 (by omega) (by omega)]
        exact this
  · have eb : b0 = b := by
      have q := hE.2.2.1
      rw [hE.2.1] at h4
      rw [h4] at q
      have q2 := congrArg Prod.snd q
      exact Nat.le_antisymm ((Nat.pow_le_pow_iff_right (by decide)).mp (Nat.le_of_eq q2)) ((Nat.pow_le_pow_iff_right (by decide)).mp (Nat.le_of_eq q2.symm))
    refine ⟨a0, b', h1, f2, ?_, ?_, ?_, ?_, ?_, ?_, ?_, ?_, ?_, fun k hk => (f13 190 k (by omega)).trans (h11.2 k hk)⟩
    · rw [r157, f11 _ h8]; exact h3
    · rw [hE'.2.1]; exact hE'.2.2.1
    · rw [r157]; exact h5
    · rw [hE'.2.1]; exact hE'.2.2.2.2
    · rw [hE'.2.1, r157]; exact fun q => hne q.symm
    · rw [r157]; omega
    · rw [hE'.2.1]; exact f4
    · omega
    · omega
theorem IV.brk {n : Nat} {σ : XS} {g : GD} {gT gP : GH} {st : Nat} (H : IV n σ g gT gP st) {Q : Nat → Nat → Int32} (u : ∀ a k, ¬ (170 ≤ a ∧ a ≤ 171) → Q a k = xI σ a k) (hb : Q 170 3 = -1 ∨ ∃ p, p ≤ st ∧ Q 170 3 = nI p ∧ BRK Q (gP p).1 (gP p).2) : IV n (xw σ Q) g gT gP st := by
  have hc := H.cells
  refine H.cache H.shp (fun a k h => u a k (by omega)) ?_ H.cel
  obtain ⟨c1, c2, c3, c4⟩ := H.cch
  refine ⟨?_, ?_, hb, ?_⟩
  · rw [xw_I, u 157 5 (by omega)]
    rcases c1 with z | ⟨q, z1, z2, z3⟩
    · exact .inl z
    · exact .inr ⟨q, z1, z2, ENK_c (R := xR σ) (fun k => u _ k (by omega)) z3⟩
  · rw [xw_I, u 165 5 (by omega)]
    rcases c2 with z | ⟨q, z1, z2, z3⟩
    · exact .inl z
    · exact .inr ⟨q, z1, z2, LVK_c (fun a k h => u _ k (by omega)) z3⟩
  · rw [xw_I, u 174 10 (by omega)]
    rcases c4 with z | ⟨q, z1, z2, z3⟩
    · exact .inl z
    · exact .inr ⟨q, z1, z2, TRK_c (fun a k h => u _ k (by omega)) z3⟩
/-! breaks -/
def sgn (z : Int) : Int := if 0 < z then 1 else if z < 0 then -1 else 0
theorem signum_ok {x : Int32} (h1 : -3 ≤ x.toInt) (h2 : x.toInt ≤ 3) : f_J6_signum_0f7a4 x = some (iI (sgn x.toInt)) := by
  have e := iI_of x
  rcases (show x.toInt = -3 ∨ x.toInt = -2 ∨ x.toInt = -1 ∨ x.toInt = 0 ∨ x.toInt = 1 ∨ x.toInt = 2 ∨ x.toInt = 3 by omega) with z | z | z | z | z | z | z <;> rw [z] at e ⊢ <;> rw [e] <;> decide
def SG (g : GD) (F : Nat → Int32) (t : Nat) : Int := if t < 32 then (if gTo g t = none then 0 else sgn (F t).toInt) else 0
theorem SG_b (g : GD) (F : Nat → Int32) (t : Nat) : -1 ≤ SG g F t ∧ SG g F t ≤ 1 := by
  unfold SG sgn
  split
  · split
    · omega
    · split
      · omega
      · split <;> omega
  · omega
def tld (g : GD) (F : Nat → Int32) (m : Nat) : Int := fb_si (fun t => if SG g F t < 0 then -SG g F t else SG g F t) m
theorem tld_b (g : GD) (F : Nat → Int32) (m : Nat) : -(m : Int) ≤ tld g F m ∧ tld g F m ≤ m := by
  have := fb_si_bound (f := fun t => if SG g F t < 0 then -SG g F t else SG g F t) (c := 1) (by decide) (n := m) (fun t _ => by
    have := SG_b g F t
    split <;> omega)
  unfold tld
  omega
theorem bk_sum {g : GD} (hg : g ∈ gAll) (F : Nat → Int32) (s : Nat) : tld g F 32 + eE g (SG g F) s = 2 * (bk g F s : Int) := by
  have h16 := (gAll_b g hg).2.2.1
  have hH : fb_si (eH (SG g F) s) (gSz g) = 0 := by
    rw [fb_si_z (k := 0) (Nat.zero_le _) (fun i _ hi => by
      unfold eH SG
      rw [if_neg (show ¬ (32 + i < 32) by omega)]
      split <;> rfl)]
    rfl
  unfold eE
  rw [hH, Int.add_zero]
  unfold tld bk
  rw [← fb_si_add]
  have key : ∀ m, m ≤ 32 → fb_si (fun t => (if SG g F t < 0 then -SG g F t else SG g F t) + eT g (SG g F) s t) m = 2 * (fb_ct (bkP g F s) m : Int) := by
    intro m
    induction m with
    | zero => intro _; rfl
    | succ m ih =>
      intro hm
      rw [fb_si_succ, ih (by omega), fb_ct_succ]
      have : (if SG g F m < 0 then -SG g F m else SG g F m) + eT g (SG g F) s m = if bkP g F s m then 2 else 0 := by
        unfold eT bkP SG
        rw [if_pos (show m < 32 by omega)]
        cases he : gTo g m with
        | none => simp
        | some e =>
          have hz : (F m = 0) ↔ ((F m).toInt = 0) := by rw [fa_eq]; rfl
          unfold sgn
          simp only [reduceCtorEq, if_false, ne_eq, hz]
          by_cases hb : s.testBit (gFr m) = s.testBit e
          · rcases Int.lt_trichotomy (F m).toInt 0 with h | h | h
            · have a1 : ¬ 0 < (F m).toInt := by omega
              have a2 : ¬ (F m).toInt = 0 := by omega
              simp [hb, h, a1, a2]
            · simp [hb, h]
            · have a1 : ¬ (F m).toInt < 0 := by omega
              have a2 : ¬ (F m).toInt = 0 := by omega
              simp [hb, h, a1, a2]
          · rcases Int.lt_trichotomy (F m).toInt 0 with h | h | h
            · have a1 : ¬ 0 < (F m).toInt := by omega
              have a2 : ¬ (F m).toInt = 0 := by omega
              simp [hb, h, a1, a2]
            · simp [hb, h]
            · have a1 : ¬ (F m).toInt < 0 := by omega
              have a2 : ¬ (F m).toInt = 0 := by omega
              simp [hb, h, a1, a2]
      rw [this]
      cases bkP g F s m <;> simp <;> omega
  exact key 32 (Nat.le_refl _)
