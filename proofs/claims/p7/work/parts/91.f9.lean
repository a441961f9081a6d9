/-! what is told is right; what is untold is given -/
section UNT
variable {σ : XS} {J0 J : Nat → Nat → Int32} {b : Nat → Int32} {m T w l r : Nat}
theorem foldL_ind {α : Type} (P : α → Prop) {a0 : α} {f : Nat → α → α} (h0 : P a0) : ∀ e, (∀ k, k < e → lsB b m k = true → ∀ a, P a → P (f k a)) → P (foldL b m a0 f e)
  | 0, _ => h0
  | e + 1, h => by
    have ih := foldL_ind P h0 e (fun k hk => h k (by omega))
    rw [foldL]
    by_cases hl : lsB b m e = true
    · rw [if_pos hl]; exact h e (by omega) hl _ ih
    · rw [if_neg hl]; exact ih
theorem jv_b {t : Nat} (h : tNu b m (jnT b m t) ≤ 3) : -3 ≤ jvT b m t ∧ jvT b m t ≤ 3 := by
  unfold jnT at h
  unfold jvT
  split
  · next z => rw [if_pos z] at h; omega
  · next z => rw [if_neg z] at h; omega
theorem al_b (hF : fFF b m w l r T = none) {c : Nat} (hc : c = 6 ∨ c = 7 ∨ c = 8) : -3 ≤ aLL b m c T ∧ aLL b m c T ≤ 3 := by
  refine foldL_ind (fun a => -3 ≤ a ∧ a ≤ 3) (by omega) T (fun k hk hl a ha => ?_)
  have hn := (fF_none T hF).2 k hk hl
  show -3 ≤ (if tKd b m k = c then jvT b m (k + 1) else a) ∧ (if tKd b m k = c then jvT b m (k + 1) else a) ≤ 3
  by_cases z : tKd b m k = c
  · rw [if_pos z]
    unfold linF at hn
    rw [if_pos (by omega)] at hn
    split at hn
    · cases hn
    · next q => exact jv_b (by omega)
  · rw [if_neg z]; exact ha
theorem ti_b (hF : fFF b m w l r T = none) {t : Nat} : ∀ v, tII b m t T = some v → (-3 ≤ v ∧ v ≤ 3) ∧ (gTo (w, l, r) t).isSome = true := by
  refine foldL_ind (fun a => ∀ v, a = some v → (-3 ≤ v ∧ v ≤ 3) ∧ (gTo (w, l, r) t).isSome = true) (fun v h => by cases h) T (fun k hk hl a ha => ?_)
  have hn := (fF_none T hF).2 k hk hl
  intro v hv
  have hv : (if tKd b m k = 10 ∧ tpl b m k = t then some (jvT b m (k + 3)) else a) = some v := hv
  by_cases z : tKd b m k = 10 ∧ tpl b m k = t
  · rw [if_pos z] at hv
    cases hv
    unfold linF at hn
    rw [if_neg (by omega), if_pos z.1] at hn
    split at hn
    · cases hn
    · next q1 =>
      split at hn
      · cases hn
      · next q2 =>
        refine ⟨jv_b (by omega), ?_⟩
        unfold badS at q1
        rw [z.2] at q1
        cases hg : gTo (w, l, r) t with
        | some e => rfl
        | none =>
          rw [hg, decide_eq_true z.1] at q1
          simp at q1
  · rw [if_neg z] at hv; exact ha v hv
theorem pu_b (hF : fFF b m w l r T = none) {i : Nat} : ∀ v, pUU b m i T = some v → (-3 ≤ v ∧ v ≤ 3) ∧ i < w * l := by
  refine foldL_ind (fun a => ∀ v, a = some v → (-3 ≤ v ∧ v ≤ 3) ∧ i < w * l) (fun v h => by cases h) T (fun k hk hl a ha => ?_)
  have hn := (fF_none T hF).2 k hk hl
  intro v hv
  have hv : (if tKd b m k = 11 ∧ tNu b m (k + 1) = i then some (jvT b m (k + 2)) else a) = some v := hv
  by_cases z : tKd b m k = 11 ∧ tNu b m (k + 1) = i
  · rw [if_pos z] at hv
    cases hv
    unfold linF at hn
    rw [if_neg (by omega), if_neg (by omega), if_pos z.1] at hn
    split at hn
    · cases hn
    · next q1 =>
      split at hn
      · cases hn
      · next q2 =>
        refine ⟨jv_b (by omega), ?_⟩
        rw [badS_n (by omega), z.2, decide_eq_true_eq] at q1
        omega
  · rw [if_neg z] at hv; exact ha v hv
theorem pi_b (hF : fFF b m w l r T = none) {i : Nat} : pII b m i T ≤ 2 ∧ (pII b m i T ≠ 0 → i < w * l) := by
  refine foldL_ind (fun a => a ≤ 2 ∧ (a ≠ 0 → i < w * l)) ⟨by omega, fun h => absurd rfl h⟩ T (fun k hk hl a ha => ?_)
  have hn := (fF_none T hF).2 k hk hl
  show (if tKd b m k = 12 ∧ tNu b m (k + 1) = i then (if tKd b m (k + 2) = 13 then 1 else 2) else a) ≤ 2 ∧ ((if tKd b m k = 12 ∧ tNu b m (k + 1) = i then (if tKd b m (k + 2) = 13 then 1 else 2) else a) ≠ 0 → i < w * l)
  by_cases z : tKd b m k = 12 ∧ tNu b m (k + 1) = i
  · rw [if_pos z]
    unfold linF at hn
    rw [if_neg (by omega), if_neg (by omega), if_neg (by omega), if_pos z.1] at hn
    split at hn
    · cases hn
    · next q1 =>
      rw [badS_n (by omega), z.2, decide_eq_true_eq] at q1
      refine ⟨by split <;> omega, fun _ => by omega⟩
  · rw [if_neg z]; exact ha
theorem sd_b (hT : OKT b m T) : sDD b m T < 10000 := by
  refine foldL_ind (fun a => a < 10000) (by omega) T (fun k hk hl a ha => ?_)
  show (if tKd b m k = 15 then tNu b m (k + 1) else a) < 10000
  by_cases z : tKd b m k = 15
  · rw [if_pos z]
    have hws := (ls_ws hT (lsB_4 hl) (by omega)).mp hl
    rcases (line_at hT hws hk).1 with ⟨h, -⟩ | ⟨h, -⟩ | ⟨h, -⟩ | ⟨h, -⟩ | ⟨h, -⟩ | ⟨-, h⟩
    · omega
    · omega
    · omega
    · omega
    · omega
    · exact tNu_b h
  · rw [if_neg z]; exact ha
/-- the bonds and fields of a text that is right -/
def bdT (b : Nat → Int32) (m T w l r t : Nat) : Int32 := if (gTo (w, l, r) t).isSome then iI ((tII b m t T).getD (if t < 16 then aLL b m 6 T else aLL b m 7 T)) else 0
def fdT (b : Nat → Int32) (m T w l i : Nat) : Int32 := if i < w * l then iI ((pUU b m i T).getD (aLL b m 8 T)) else 0
theorem untold_f (hS : Shp σ) (h2 : J 2 2 ≠ 0) : f_X1_build_j77 (xw σ J) 2 = some (xw σ J) := by
  have g : f_X1_giveUntold (xw σ J) 2 = some (xw σ J) := by
    unfold f_X1_giveUntold
    refine xloop_end ?_
    have g2 : xloop (f_X1_giveUntold_b79 2) ((0 : Int32), xw σ J) = some (xw σ J) := by
      refine xloop_end ?_
      simp only [f_X1_giveUntold_b79]
      rw [kG2 hS, Option.bind_some, if_neg h2]
      rfl
    simp only [f_X1_giveUntold_b2]
    rw [kG2 hS, Option.bind_some, if_neg h2, g2]
    rfl
  unfold f_X1_build_j77
  rw [xw_ck, kC2 hS, Option.bind_some, g, Option.bind_some]
theorem untold_ok (hS : Shp σ) (hg : ((w, l, r) : GD) ∈ gAll) (hD : DR J0 J b m w l r T) (hF : fFF b m w l r T = none) : ∃ J', f_X1_build_j77 (xw σ J) 2 = some (xw σ J') ∧ (∀ t, t < 32 → J' 9 t = bdT b m T w l r t) ∧ (∀ i, i < 16 → J' 10 i = fdT b m T w l i) ∧ ∀ a q, a ≠ 9 → a ≠ 10 → J' a q = J a q := by
  have hwl : w * l ≤ 16 := (gAll_b _ hg).2.2.1
  obtain ⟨d1, d2, d3, d4, d5, d6, d7, d8, d9, d10, d11⟩ := id hD
  -- the fields
  have flds : ∀ J1 : Nat → Nat → Int32, (∀ a q, a ≠ 9 → J1 a q = J a q) → ∃ x, xloop (f_X1_giveUntold_b79 2) ((0 : Int32), xw σ J1) = some x ∧ ∃ J', x = xw σ J' ∧ (∀ i, i < 16 → J' 10 i = fdT b m T w l i) ∧ ∀ a q, a ≠ 10 → J' a q = J1 a q := by
    intro J1 u1
    refine xforI (fun i a => ∃ J' : Nat → Nat → Int32, a = (nI i, xw σ J') ∧ (∀ q, q < i → J' 10 q = fdT b m T w l q) ∧ (∀ q, i ≤ q → J' 10 q = J1 10 q) ∧ ∀ a q, a ≠ 10 → J' a q = J1 a q) (w * l) ⟨J1, rfl, fun q hq => absurd hq (Nat.not_lt_zero _), fun _ _ => rfl, fun _ _ _ => rfl⟩ ?_ ?_
    · rintro i a hi ⟨J', rfl, h1, h3, u⟩
      have g : ∀ q, J' 2 q = J 2 q := fun q => by rw [u 2 q (by omega), u1 2 q (by omega)]
      have q1 : (nI w * nI l ≤ nI i) = False := by rw [nn_mul, nn_le (by omega) (by omega)]; exact eq_false (by omega)
      have bb := bit_bt (x := J 2 12) (t := i) (by omega)
      have v := h3 i (Nat.le_refl _)
      rw [u1 10 i (by omega), (d8 i (by omega)).2] at v
      rw [(d8 i (by omega)).1] at bb
      cases hp : pUU b m i T with
      | some z =>
        rw [hp] at bb v
        have bb : f_X11_bitOf (J 2 12) (nI i) = some 1 := bb
        refine ⟨(nI (i + 1), xw σ J'), ?_, J', rfl, fun q hq => ?_, fun q hq => h3 q (by omega), u⟩
        · simp only [f_X1_giveUntold_b79]
          simp only [kG2 hS, Option.bind_some, g, d2, d5.1, d5.2.1, q1, if_true, if_false, bb, one0, eq_self, nI_succ]
        · by_cases y : q = i
          · rw [y, v]; unfold fdT; rw [if_pos hi, hp]; rfl
          · exact h1 q (by omega)
      | none =>
        rw [hp] at bb v
        have bb : f_X11_bitOf (J 2 12) (nI i) = some 0 := bb
        have sf := setField_ok (σ := σ) (I := J') (a := 8) (t := i) hS suA_8 (by omega) (iI (aLL b m 8 T))
        refine ⟨(nI (i + 1), xw σ (xup J' 10 i (iI (aLL b m 8 T)))), ?_, _, rfl, fun q hq => ?_, fun q hq => ?_, fun a q ha => by rw [xup_at, if_neg (by omega)]; exact u a q ha⟩
        · simp only [f_X1_giveUntold_b79]
          simp only [kG2 hS, Option.bind_some, g, d2, d5.1, d5.2.1, q1, if_true, if_false, bb, eq_self, xw_gR, kR2_1 hS, d6.2.2, xw_ck, kC8 hS, sf, nI_succ]
        · rw [xup_at]
          by_cases y : q = i
          · rw [if_pos ⟨rfl, y⟩, y]; unfold fdT; rw [if_pos hi, hp]; rfl
          · rw [if_neg (by omega)]; exact h1 q (by omega)
        · rw [xup_at, if_neg (by omega)]; exact h3 q (by omega)
    · rintro a ⟨J', rfl, h1, h3, u⟩
      have g : ∀ q, J' 2 q = J 2 q := fun q => by rw [u 2 q (by omega), u1 2 q (by omega)]
      have q1 : (nI w * nI l ≤ nI (w * l)) = True := by rw [nn_mul, nn_le (by omega) (by omega)]; exact eq_true (Nat.le_refl _)
      refine ⟨xw σ J', ?_, J', rfl, fun i hi => ?_, u⟩
      · simp only [f_X1_giveUntold_b79]
        simp only [kG2 hS, Option.bind_some, g, d2, d5.1, d5.2.1, q1, if_true, eq_self, Option.map_some]
      · by_cases y : i < w * l
        · exact h1 i y
        · rw [h3 i (by omega), u1 10 i (by omega), (d8 i hi).2]
          have : pUU b m i T = none := by
            cases hp : pUU b m i T with
            | none => rfl
            | some z => exact absurd (pu_b hF z hp).2 y
          rw [this]; unfold fdT; rw [if_neg y]; rfl
  -- the bonds
  have key : ∃ x, xloop (f_X1_giveUntold_b2 2) ((0 : Int32), xw σ J) = some x ∧ ∃ J', x = xw σ J' ∧ (∀ t, t < 32 → J' 9 t = bdT b m T w l r t) ∧ (∀ i, i < 16 → J' 10 i = fdT b m T w l i) ∧ ∀ a q, a ≠ 9 → a ≠ 10 → J' a q = J a q := by
    refine xforI (fun t a => ∃ J' : Nat → Nat → Int32, a = (nI t, xw σ J') ∧ (∀ q, q < t → J' 9 q = bdT b m T w l r q) ∧ (∀ q, t ≤ q → J' 9 q = J 9 q) ∧ ∀ a q, a ≠ 9 → J' a q = J a q) 32 ⟨J, rfl, fun q hq => absurd hq (Nat.not_lt_zero _), fun _ _ => rfl, fun _ _ _ => rfl⟩ ?_ ?_
    · rintro t a ht ⟨J', rfl, h1, h3, u⟩
      have g : ∀ q, J' 2 q = J 2 q := fun q => u 2 q (by omega)
      have q1 : ((32 : Int32) ≤ nI t) = False := by rw [show (32 : Int32) = nI 32 from rfl, nn_le (by omega) (by omega)]; exact eq_false (by omega)
      have q16 : ((16 : Int32) ≤ nI t) = (16 ≤ t) := by rw [show (16 : Int32) = nI 16 from rfl, nn_le (by omega) (by omega)]
      have bb := bit_bt (x := J 2 11) (t := t) (by omega)
      have v := h3 t (Nat.le_refl _)
      rw [(d7 t ht).2] at v
      rw [(d7 t ht).1] at bb
      have eo := endOf_ok (w, l, r) hg t ht
      have eo : f_X3_endOf (nI w) (nI l) (nI r) (nI t) = some (oI (gTo (w, l, r) t)) := eo
      cases hp : tII b m t T with
      | some z =>
        rw [hp] at bb v
        have bb : f_X11_bitOf (J 2 11) (nI t) = some 1 := bb
        refine ⟨(nI (t + 1), xw σ J'), ?_, J', rfl, fun q hq => ?_, fun q hq => h3 q (by omega), u⟩
        · simp only [f_X1_giveUntold_b2]
          simp only [kG2 hS, Option.bind_some, g, d2, q1, if_true, if_false, bb, one0, eq_self, nI_succ]
        · by_cases y : q = t
          · rw [y, v]; unfold bdT; rw [if_pos (ti_b hF z hp).2, hp]; rfl
          · exact h1 q (by omega)
      | none =>
        rw [hp] at bb v
        have bb : f_X11_bitOf (J 2 11) (nI t) = some 0 := bb
        cases hgt : gTo (w, l, r) t with
        | none =>
          rw [hgt] at eo
          refine ⟨(nI (t + 1), xw σ J'), ?_, J', rfl, fun q hq => ?_, fun q hq => h3 q (by omega), u⟩
          · have qm : (oI none = -1) = True := eq_true rfl
            simp only [f_X1_giveUntold_b2]
            simp only [kG2 hS, Option.bind_some, g, d2, q1, if_true, if_false, bb, eq_self, d5.1, d5.2.1, d5.2.2, eo, qm, nI_succ]
          · by_cases y : q = t
            · rw [y, v]; unfold bdT; rw [hgt]; rfl
            · exact h1 q (by omega)
        | some e =>
          have e16 := (gTo_b (w, l, r) hg t ht e hgt).2.1
          have e16' : e < 16 := Nat.lt_of_lt_of_le e16 hwl
          rw [hgt] at eo
          have qm : (oI (some e) = -1) = False := nn_m1 (by omega)
          obtain ⟨vl, hvl⟩ : ∃ vl, vl = iI (if t < 16 then aLL b m 6 T else aLL b m 7 T) := ⟨_, rfl⟩
          have sb := setBond_ok (σ := σ) (I := J') (a := 8) (t := t) hS suA_8 ht vl
          refine ⟨(nI (t + 1), xw σ (xup J' 9 t vl)), ?_, _, rfl, fun q hq => ?_, fun q hq => ?_, fun a q ha => by rw [xup_at, if_neg (by omega)]; exact u a q ha⟩
          · have j68 : f_X1_giveUntold_j68 (xw σ J') 2 (nI t) 8 (nI t) vl = some (.inl (nI (t + 1), xw σ (xup J' 9 t vl))) := by
              unfold f_X1_giveUntold_j68
              rw [xw_ck, kC8 hS, Option.bind_some, sb, Option.bind_some, nI_succ]
            simp only [f_X1_giveUntold_b2]
            simp only [kG2 hS, Option.bind_some, g, d2, q1, if_true, if_false, bb, eq_self, d5.1, d5.2.1, d5.2.2, eo, qm, xw_gR, kR2_1 hS, q16, d6.1, d6.2.1]
            by_cases h16 : 16 ≤ t
            · rw [if_neg (by omega)] at hvl
              rw [if_pos h16, ← hvl]; exact j68
            · rw [if_pos (by omega)] at hvl
              rw [if_neg h16, ← hvl]; exact j68
          · rw [xup_at]
            by_cases y : q = t
            · rw [if_pos ⟨rfl, y⟩, y, hvl]; unfold bdT; rw [hgt, hp]; rfl
            · rw [if_neg (by omega)]; exact h1 q (by omega)
          · rw [xup_at, if_neg (by omega)]; exact h3 q (by omega)
    · rintro a ⟨J', rfl, h1, h3, u⟩
      have g : ∀ q, J' 2 q = J 2 q := fun q => u 2 q (by omega)
      obtain ⟨x, e, J2, rfl, b1, b2⟩ := flds J' u
      refine ⟨xw σ J2, ?_, J2, rfl, fun t ht => by rw [b2 9 t (by omega)]; exact h1 t ht, b1, fun a q ha1 ha2 => by rw [b2 a q ha2]; exact u a q ha1⟩
      have q1 : ((32 : Int32) ≤ nI 32) = True := eq_true (by decide)
      simp only [f_X1_giveUntold_b2]
      simp only [kG2 hS, Option.bind_some, g, d2, q1, if_true, eq_self, e, Option.map_some]
  obtain ⟨x, e, J', rfl, rest⟩ := key
  refine ⟨J', ?_, rest⟩
  unfold f_X1_build_j77 f_X1_giveUntold
  rw [xw_ck, kC2 hS, Option.bind_some, e, Option.bind_some]
end UNT
