/-! the class begins anew -/
section ANEW
variable {σ : XS} {J : Nat → Nat → Int32} {g : GD} {st : Nat}
theorem anew_ok (hS : Shp σ) (hg : g ∈ gAll) (h5 : J 2 5 = nI g.1) (h6 : J 2 6 = nI g.2.1) (h7 : J 2 7 = nI g.2.2) (hst : J 1 15 = nI st) : ∃ J', f_X11_beginAnew (xw σ J) 1 = some (xw σ J') ∧ (J' 11 4 = nI g.1 ∧ J' 11 5 = nI g.2.1 ∧ J' 11 6 = nI g.2.2 ∧ J' 11 7 = nI (gSz g) ∧ GM J' g 32) ∧ (∀ t, t < 32 → J' 17 t = J 9 t) ∧ (∀ i, i < 16 → J' 18 i = J 10 i) ∧ J' 16 2 = J 8 2 ∧ J' 16 3 = J 8 3 ∧ J' 16 4 = J 8 3 ∧ J' 16 5 = J 8 5 ∧ J' 16 6 = nI (st + 1) ∧ J' 16 7 = nI (st + 1) ∧ J' 1 15 = nI (st + 1) ∧ J' 19 1 = 0 ∧ J' 19 2 = 0 ∧ (∀ i, i < 3 → J' (142 + 5 * i) 2 = 0) ∧ ∀ a q, ¬ (11 ≤ a ∧ a ≤ 19) → ¬ (a = 1 ∧ q = 15) → ¬ ((a = 142 ∨ a = 147 ∨ a = 152) ∧ q = 2) → J' a q = J a q := by
  obtain ⟨A, e1, a1, a2, a3, a4, a5, uA⟩ := lay_ok (σ := σ) (J := J) hS hg
  have cp := cp_ok (σ := σ) (I := A) hS suA_16 suA_8 (by decide) (by decide) (by decide) (by decide) (by decide)
  obtain ⟨B, hB⟩ : ∃ B, B = cpI A 16 8 := ⟨_, rfl⟩
  rw [← hB] at cp
  have uB : ∀ a q, (a < 16 ∨ 18 < a) → B a q = A a q := fun a q h => by rw [hB]; exact cpI_out h
  have B0 : ∀ k, 2 ≤ k → k ≤ 7 → B 16 k = J 8 k := fun k h1 h2 => by rw [hB, cpI_0 h1 h2, uA _ _ (by omega)]
  obtain ⟨C, hC⟩ : ∃ C, C = xup (xup (xup B 16 4 (B 16 3)) 19 1 0) 19 2 0 := ⟨_, rfl⟩
  have uC : ∀ a q, ¬ (a = 16 ∧ q = 4) → a ≠ 19 → C a q = B a q := fun a q h1 h2 => by rw [hC, xup_at, if_neg (by omega), xup_at, if_neg (by omega), xup_at, if_neg h1]
  obtain ⟨D, hD⟩ : ∃ D : Nat → Nat → Nat → Int32, D = fun n a q => if q = 2 ∧ ((a = 142 ∧ 0 < n) ∨ (a = 147 ∧ 1 < n) ∨ (a = 152 ∧ 2 < n)) then 0 else C a q := ⟨_, rfl⟩
  have uD : ∀ n a q, ¬ ((a = 142 ∨ a = 147 ∨ a = 152) ∧ q = 2) → D n a q = C a q := fun n a q h => by
    rw [hD]
    show (if q = 2 ∧ ((a = 142 ∧ 0 < n) ∨ (a = 147 ∧ 1 < n) ∨ (a = 152 ∧ 2 < n)) then 0 else C a q) = _
    rw [if_neg (by omega)]
  have D0 : D 0 = C := by
    rw [hD]
    funext a q
    show (if q = 2 ∧ ((a = 142 ∧ 0 < 0) ∨ (a = 147 ∧ 1 < 0) ∨ (a = 152 ∧ 2 < 0)) then 0 else C a q) = _
    rw [if_neg (by omega)]
  have Ds : ∀ i, i < 3 → xup (D i) (142 + 5 * i) 2 0 = D (i + 1) := fun i hi => by
    funext a q
    rw [xup_at, hD]
    show (if a = 142 + 5 * i ∧ q = 2 then (0 : Int32) else if q = 2 ∧ ((a = 142 ∧ 0 < i) ∨ (a = 147 ∧ 1 < i) ∨ (a = 152 ∧ 2 < i)) then 0 else C a q) = if q = 2 ∧ ((a = 142 ∧ 0 < i + 1) ∨ (a = 147 ∧ 1 < i + 1) ∨ (a = 152 ∧ 2 < i + 1)) then 0 else C a q
    by_cases z : a = 142 + 5 * i ∧ q = 2
    · rw [if_pos z, if_pos (by omega)]
    · rw [if_neg z]
      by_cases y : q = 2 ∧ ((a = 142 ∧ 0 < i) ∨ (a = 147 ∧ 1 < i) ∨ (a = 152 ∧ 2 < i))
      · rw [if_pos y, if_pos (by omega)]
      · rw [if_neg y, if_neg (by omega)]
  have C15 : ∀ n, D n 1 15 = nI st := fun n => by rw [uD _ _ _ (by omega), uC _ _ (by omega) (by omega), uB _ _ (by omega), uA _ _ (by omega)]; exact hst
  have stp := stampTies_ok (σ := σ) (I := D 3) hS (C15 3)
  obtain ⟨E, hE⟩ : ∃ E, E = xup (xup (xup (D 3) 1 15 (nI (st + 1))) 16 6 (nI (st + 1))) 16 7 (nI (st + 1)) := ⟨_, rfl⟩
  rw [← hE] at stp
  have uE : ∀ a q, ¬ (a = 1 ∧ q = 15) → ¬ (a = 16 ∧ (q = 6 ∨ q = 7)) → E a q = D 3 a q := fun a q h1 h2 => by rw [hE, xup_at, if_neg (by omega), xup_at, if_neg (by omega), xup_at, if_neg h1]
  have loop : xloop (f_X11_beginAnew_b65 1) ((0 : Int32), xw σ C) = some (xw σ E) := by
    refine xforE (fun i : Nat => (nI i, xw σ (D i))) 3 (by rw [D0]; rfl) (fun i hi => ?_) ?_
    · have q1 : (nI 3 ≤ nI i) = False := by rw [nn_le (by omega) (by omega)]; exact eq_false (by omega)
      have sa := slA (σ := σ) (I := D i) hS hi
      have sp := slP (σ := σ) (I := D i) (j := 2) (v := 0) hS hi
      rw [Ds i hi] at sp
      simp only [f_X11_beginAnew_b65]
      rw [xw_gR, kR1_5 hS, Option.bind_some, xw_al, kL141 hS, Option.bind_some, if_neg (by rw [q1]; exact id), Option.bind_some, sa, Option.bind_some, sp, Option.bind_some, nI_succ]
    · simp only [f_X11_beginAnew_b65]
      rw [xw_gR, kR1_5 hS, Option.bind_some, xw_al, kL141 hS, Option.bind_some, if_pos (by decide), xw_ck, kC1 hS, Option.bind_some, stp, Option.bind_some]
      rfl
  refine ⟨E, ?_, ⟨?_, ?_, ?_, ?_, ?_, ?_, ?_⟩, fun t ht => ?_, fun i hi => ?_, ?_, ?_, ?_, ?_, ?_, ?_, ?_, ?_, ?_, fun i hi => ?_, fun a q h1 h2 h3 => ?_⟩
  · unfold f_X11_beginAnew
    rw [xw_gR, kR1_2 hS, Option.bind_some, xw_gR, kR1_1 hS, Option.bind_some, kG2 hS, Option.bind_some, Option.bind_some, kG2 hS, Option.bind_some, Option.bind_some, kG2 hS, Option.bind_some, h5, h6, h7, xw_ck, kC11 hS, Option.bind_some, e1, Option.bind_some, xw_gR, kR1_3 hS, Option.bind_some, xw_gR, kR1_1 hS, Option.bind_some, xw_gR, kR2_1 hS, Option.bind_some, xw_ck, kC16 hS, Option.bind_some, cp, Option.bind_some, xw_gR, kR1_3 hS, Option.bind_some, Option.bind_some, kG16 hS, Option.bind_some, kP16 hS, Option.bind_some, xw_gR, kR1_4 hS, Option.bind_some, xw_ck, kC19 hS, Option.bind_some]
    unfold f_X5_forget
    rw [kP19 hS, Option.bind_some, kP19 hS, Option.bind_some, Option.bind_some, ← hC]
    exact loop
  all_goals first
    | (rw [uE _ _ (by omega) (by omega), uD _ _ _ (by omega), uC _ _ (by omega) (by omega), uB _ _ (by omega)]; assumption)
    | skip
  · intro t ht
    rw [uE _ _ (by omega) (by omega), uD _ _ _ (by omega), uC _ _ (by omega) (by omega), uB _ _ (by omega)]; exact a5.1 t ht
  · intro i hi
    rw [uE _ _ (by omega) (by omega), uD _ _ _ (by omega), uC _ _ (by omega) (by omega), uB _ _ (by omega)]; exact a5.2.1 i hi
  · intro i j hi hj
    rw [uE _ _ (by omega) (by omega), uD _ _ _ (by omega), uC _ _ (by omega) (by omega), uB _ _ (by omega), uE _ _ (by omega) (by omega), uD _ _ _ (by omega), uC _ _ (by omega) (by omega), uB _ _ (by omega)]; exact a5.2.2 i j hi hj
  · rw [uE _ _ (by omega) (by omega), uD _ _ _ (by omega), uC _ _ (by omega) (by omega), hB]
    have : cpI A 16 8 (16 + 1) t = A (8 + 1) t := cpI_1 ht
    rw [this]; exact uA _ _ (by omega)
  · rw [uE _ _ (by omega) (by omega), uD _ _ _ (by omega), uC _ _ (by omega) (by omega), hB]
    have : cpI A 16 8 (16 + 2) i = A (8 + 2) i := by
      unfold cpI
      rw [if_neg (by omega), if_pos ⟨rfl, hi⟩]
    rw [this]; exact uA _ _ (by omega)
  · rw [uE _ _ (by omega) (by omega), uD _ _ _ (by omega), uC _ _ (by omega) (by omega)]; exact B0 2 (by omega) (by omega)
  · rw [uE _ _ (by omega) (by omega), uD _ _ _ (by omega), uC _ _ (by omega) (by omega)]; exact B0 3 (by omega) (by omega)
  · rw [uE _ _ (by omega) (by omega), uD _ _ _ (by omega), hC, xup_at, if_neg (by omega), xup_at, if_neg (by omega), xup_at, if_pos ⟨rfl, rfl⟩]; exact B0 3 (by omega) (by omega)
  · rw [uE _ _ (by omega) (by omega), uD _ _ _ (by omega), uC _ _ (by omega) (by omega)]; exact B0 5 (by omega) (by omega)
  · rw [hE, xup_at, if_neg (by omega), xup_at, if_pos ⟨rfl, rfl⟩]
  · rw [hE, xup_at, if_pos ⟨rfl, rfl⟩]
  · rw [hE, xup_at, if_neg (by omega), xup_at, if_neg (by omega), xup_at, if_pos ⟨rfl, rfl⟩]
  · rw [uE _ _ (by omega) (by omega), uD _ _ _ (by omega), hC, xup_at, if_neg (by omega), xup_at, if_pos ⟨rfl, rfl⟩]
  · rw [uE _ _ (by omega) (by omega), uD _ _ _ (by omega), hC, xup_at, if_pos ⟨rfl, rfl⟩]
  · rw [uE _ _ (by omega) (by omega), hD]
    show (if 2 = 2 ∧ ((142 + 5 * i = 142 ∧ 0 < 3) ∨ (142 + 5 * i = 147 ∧ 1 < 3) ∨ (142 + 5 * i = 152 ∧ 2 < 3)) then (0 : Int32) else C (142 + 5 * i) 2) = 0
    rw [if_pos (by omega)]
  · rw [uE _ _ (by omega) (by omega), uD _ _ _ (by omega), uC _ _ (by omega) (by omega), uB _ _ (by omega)]; exact uA _ _ (by omega)
end ANEW
