/-! a change by hand keeps the invariant -/
theorem kpI_out {I : Nat → Nat → Int32} {nx q a k : Nat} (h1 : a ≠ 19) (h2 : a < 21 + 3 * nx ∨ 23 + 3 * nx < a) : kpI I nx q a k = I a k := by
  unfold kpI cpI
  simp only [xup_at]
  rw [if_neg (by omega), if_neg (by omega), if_neg (by omega), if_neg (by omega), if_neg (by omega)]
theorem kpI_0 {I : Nat → Nat → Int32} {nx q k : Nat} (h1 : 2 ≤ k) (h2 : k ≤ 7) : kpI I nx q (21 + 3 * nx) k = I 16 k := by
  unfold kpI cpI
  simp only [xup_at]
  rw [if_neg (by omega), if_neg (by omega), if_neg (by omega), if_neg (by omega), if_pos ⟨trivial, h1, h2⟩]
theorem kpI_1 {I : Nat → Nat → Int32} {nx q k : Nat} (h1 : k < 32) : kpI I nx q (21 + 3 * nx + 1) k = I 17 k := by
  unfold kpI cpI
  simp only [xup_at]
  rw [if_neg (by omega), if_neg (by omega), if_pos ⟨trivial, h1⟩]
theorem kpI_2 {I : Nat → Nat → Int32} {nx q k : Nat} (h1 : k < 16) : kpI I nx q (21 + 3 * nx + 2) k = I 18 k := by
  unfold kpI cpI
  simp only [xup_at]
  rw [if_neg (by omega), if_neg (by omega), if_neg (by omega), if_pos ⟨trivial, h1⟩]
theorem kpI_n {I : Nat → Nat → Int32} {nx q : Nat} : kpI I nx q 19 1 = nI ((nx + 1) % 40) ∧ kpI I nx q 19 2 = nI (min (q + 1) 40) := by
  unfold kpI
  simp [xup_at]
theorem mkI_out {I : Nat → Nat → Int32} {ea q a k : Nat} (h1 : a ≠ 193) (h2 : a ≠ 183 ∨ (k ≠ 28 ∧ k ≠ 29)) : mkI I ea q a k = I a k := by
  unfold mkI
  simp only [xup_at]
  rw [if_neg (by omega), rcI_out (.inl h1)]
  split
  · simp only [xup_at]
    rw [if_neg (by omega), if_neg (by omega)]
  · rfl
theorem mkI_n {I : Nat → Nat → Int32} {ea q : Nat} (h : I 183 28 = nI ea) : mkI I ea q 183 28 = nI (if q = 40 then (ea + 1) % 40 else ea) ∧ mkI I ea q 183 29 = nI (min (q + 1) 40) := by
  unfold mkI
  constructor
  · rw [xup_at, if_neg (by omega), rcI_out (.inl (by decide))]
    by_cases h40 : q = 40
    · rw [if_pos h40, if_pos h40]; simp [xup_at]
    · rw [if_neg h40, if_neg h40]; exact h
  · rw [xup_at, if_pos ⟨rfl, rfl⟩]
theorem mkI_in {I : Nat → Nat → Int32} {ea q k : Nat} (h : k < 66) : mkI I ea q 193 (66 * ((ea + q) % 40) + k) = I 191 k := by
  unfold mkI
  simp only [xup_at]
  rw [if_neg (by omega), rcI_in h, Nat.zero_add]
  split
  · simp only [xup_at]
    rw [if_neg (by omega), if_neg (by omega)]
  · rfl
theorem mkI_ot {I : Nat → Nat → Int32} {ea q x k : Nat} (h : k < 66) (hx : x ≠ (ea + q) % 40) : mkI I ea q 193 (66 * x + k) = I 193 (66 * x + k) := by
  unfold mkI
  simp only [xup_at]
  rw [if_neg (by omega), rcI_out (by omega)]
  split
  · simp only [xup_at]
    rw [if_neg (by omega), if_neg (by omega)]
  · rfl
section HAND2
variable {g : GD} {gT gP gT' gP' : GH} {st st' : Nat} {I I' : Nat → Nat → Int32}
theorem PST_hand {nx q ea : Nat} (hg : g ∈ gAll) (hq : q ≤ 40) (hnx : nx < 40) (hea : ea < 40)
    (H8 : ∀ i, i < q → LV g gT gP st I (21 + 3 * ((nx + 40 - q + i) % 40)) (fun k => I 193 (66 * ((ea + i) % 40) + k))) (hnow : LV g gT gP st I 16 (I 191))
    (hs : st ≤ st') (hT : ∀ t, t ≤ st → gT' t = gT t) (hP : ∀ t, t ≤ st → gP' t = gP t)
    (u : ∀ a k, 21 ≤ a → a ≤ 140 → (a < 21 + 3 * nx ∨ 23 + 3 * nx < a) → I' a k = I a k)
    (k0 : ∀ k, 2 ≤ k → k ≤ 7 → I' (21 + 3 * nx) k = I 16 k) (k1 : ∀ k, k < 32 → I' (21 + 3 * nx + 1) k = I 17 k) (k2 : ∀ k, k < 16 → I' (21 + 3 * nx + 2) k = I 18 k)
    (e1 : I' 19 1 = nI ((nx + 1) % 40)) (e2 : I' 19 2 = nI (min (q + 1) 40)) (e3 : I' 183 28 = nI (if q = 40 then (ea + 1) % 40 else ea)) (e4 : I' 183 29 = nI (min (q + 1) 40))
    (r1 : ∀ k, k < 66 → I' 193 (66 * ((ea + q) % 40) + k) = I 191 k) (r2 : ∀ x k, k < 66 → x ≠ (ea + q) % 40 → I' 193 (66 * x + k) = I 193 (66 * x + k)) : PST g gT' gP' st' I' := by
  have old : ∀ i, i < q → (nx + 40 - q + i) % 40 ≠ nx → (ea + i) % 40 ≠ (ea + q) % 40 → LV g gT' gP' st' I' (21 + 3 * ((nx + 40 - q + i) % 40)) (fun k => I' 193 (66 * ((ea + i) % 40) + k)) := by
    intro i hi h1 h2
    exact LV_m hg (fun k _ _ => u _ _ (by omega) (by omega) (by omega)) (fun k _ => u _ _ (by omega) (by omega) (by omega)) (fun k _ => u _ _ (by omega) (by omega) (by omega)) (fun k hk => r2 _ _ hk h2) hs hT hP (H8 i hi)
  have new : LV g gT' gP' st' I' (21 + 3 * nx) (fun k => I' 193 (66 * ((ea + q) % 40) + k)) := LV_m hg k0 k1 k2 r1 hs hT hP hnow
  by_cases h40 : q = 40
  · subst h40
    refine ⟨40, (nx + 1) % 40, (ea + 1) % 40, by omega, by omega, by omega, e1, e2, by rw [e3, if_pos rfl], e4, fun i hi => ?_⟩
    by_cases h39 : i = 39
    · subst h39
      rw [show ((nx + 1) % 40 + 40 - 40 + 39) % 40 = nx by omega, show ((ea + 1) % 40 + 39) % 40 = (ea + 40) % 40 by omega]
      exact new
    · have := old (i + 1) (by omega) (by omega) (by omega)
      rw [show ((nx + 1) % 40 + 40 - 40 + i) % 40 = (nx + 40 - 40 + (i + 1)) % 40 by omega, show ((ea + 1) % 40 + i) % 40 = (ea + (i + 1)) % 40 by omega]
      exact this
  · have hm : min (q + 1) 40 = q + 1 := by omega
    rw [hm] at e2 e4
    rw [if_neg h40] at e3
    refine ⟨q + 1, (nx + 1) % 40, ea, by omega, by omega, by omega, e1, e2, e3, e4, fun i hi => ?_⟩
    by_cases hiq : i = q
    · subst hiq
      rw [show ((nx + 1) % 40 + 40 - (i + 1) + i) % 40 = nx by omega]
      exact new
    · have := old i (by omega) (by omega) (by omega)
      rw [show ((nx + 1) % 40 + 40 - (q + 1) + i) % 40 = (nx + 40 - q + i) % 40 by omega]
      exact this
theorem IV.cells {n : Nat} {σ : XS} (H : IV n σ g gT gP st) : xR σ 157 4 = 160 ∨ 206 < xR σ 157 4 := by
  obtain ⟨_, _, _, _, _, _, q, _⟩ := H.cel
  exact q
theorem IV.hand {n : Nat} {σ : XS} (H : IV n σ g gT gP st) {nx q ea : Nat} (hq : q ≤ 40) (hnx : nx < 40) (hea : ea < 40) (p3 : xI σ 183 28 = nI ea)
    (H8 : ∀ i, i < q → LV g gT gP st (xI σ) (21 + 3 * ((nx + 40 - q + i) % 40)) (fun k => xI σ 193 (66 * ((ea + i) % 40) + k)))
    {I2 I4 : Nat → Nat → Int32} (c2 : ∀ a k, ¬ ((16 ≤ a ∧ a ≤ 18) ∨ (a = 1 ∧ k = 15)) → I2 a k = kpI (xI σ) nx q a k) (c4 : ∀ a k, ¬ (a = 191 ∨ (a = 183 ∧ k = 32)) → I4 a k = mkI I2 ea q a k)
    (hs : st ≤ st') (hsn : st' ≤ n + 1) (hT : ∀ t, t ≤ st → gT' t = gT t) (hP : ∀ t, t ≤ st → gP' t = gP t) (hst : I4 1 15 = nI st') (hnow : LV g gT' gP' st' I4 16 (I4 191)) (hk : KNW I4 g) : IV (n + 1) (xw σ I4) g gT' gP' st' := by
  have hg := H.grd.1
  have hc := H.cells
  have u : ∀ a k, ¬ ((16 ≤ a ∧ a ≤ 19) ∨ (a = 1 ∧ k = 15) ∨ a = 191 ∨ a = 193 ∨ (a = 183 ∧ (k = 28 ∨ k = 29 ∨ k = 32)) ∨ (21 + 3 * nx ≤ a ∧ a ≤ 23 + 3 * nx)) → I4 a k = xI σ a k := by
    intro a k h
    rw [c4 a k (by omega), mkI_out (by omega) (by omega), c2 a k (by omega), kpI_out (by omega) (by omega)]
  have i2 : I2 183 28 = nI ea := by rw [c2 _ _ (by omega), kpI_out (by omega) (by omega)]; exact p3
  refine ⟨H.shp, hsn, hst, TAP_c (fun a k q => u a k (by unfold sTAP at q; omega)) H.tap, ?_, GRD_c (fun a k q => u a k (by unfold sGRD at q; omega)) H.grd, hnow, ?_, SLT_c hg (fun a k q => u a k (by unfold sSLT at q; omega)) hs hT hP H.slt, CCH_c (fun a k q => u a k (by unfold sCCH at q; rw [xw_R] at q; omega)) hs hT hP H.cch, hk, H.cel⟩
  · show I4 1 14 = I4 183 16
    rw [u _ _ (by omega), u _ _ (by omega)]; exact H.plc
  · refine PST_hand (I := xI σ) hg hq hnx hea H8 H.now hs hT hP (fun a k h1 h2 h3 => u a k (by omega)) ?_ ?_ ?_ ?_ ?_ ?_ ?_ ?_ ?_
    · intro k h1 h2
      show I4 (21 + 3 * nx) k = _
      rw [c4 _ _ (by omega), mkI_out (by omega) (by omega), c2 _ _ (by omega), kpI_0 h1 h2]
    · intro k h1
      show I4 (21 + 3 * nx + 1) k = _
      rw [c4 _ _ (by omega), mkI_out (by omega) (by omega), c2 _ _ (by omega), kpI_1 h1]
    · intro k h1
      show I4 (21 + 3 * nx + 2) k = _
      rw [c4 _ _ (by omega), mkI_out (by omega) (by omega), c2 _ _ (by omega), kpI_2 h1]
    · show I4 19 1 = _
      rw [c4 _ _ (by omega), mkI_out (by omega) (by omega), c2 _ _ (by omega), kpI_n.1]
    · show I4 19 2 = _
      rw [c4 _ _ (by omega), mkI_out (by omega) (by omega), c2 _ _ (by omega), kpI_n.2]
    · show I4 183 28 = _
      rw [c4 _ _ (by omega), (mkI_n i2).1]
    · show I4 183 29 = _
      rw [c4 _ _ (by omega), (mkI_n i2).2]
    · intro k h1
      show I4 193 _ = _
      rw [c4 _ _ (by omega), mkI_in h1, c2 _ _ (by omega), kpI_out (by omega) (by omega)]
    · intro x k h1 h2
      show I4 193 _ = _
      rw [c4 _ _ (by omega), mkI_ot h1 h2, c2 _ _ (by omega), kpI_out (by omega) (by omega)]
end HAND2
