/-! the class takes a line -/
theorem xsw6 {β : Type} {k : Nat} {as : List (Option β)} {d : Option β} (hk : k < 2147483648) : xsw (nI k) 6 as d = if k < 6 then d else as.getD (k - 6) d := by
  unfold xsw
  rw [nI_toInt hk]
  by_cases h : k < 6
  · rw [if_pos (by omega), if_pos h]
  · rw [if_neg (by omega), if_neg h, show ((k : Int) - 6).toNat = k - 6 by omega, List.getD_eq_getElem?_getD]
def DRb (J0 J : Nat → Nat → Int32) : Prop := ∀ a q, ¬ (a = 2 ∨ (8 ≤ a ∧ a ≤ 10)) → J a q = J0 a q
/-- the draft, all lines before c taken, none of them wrong -/
def DR (J0 J : Nat → Nat → Int32) (b : Nat → Int32) (m w l r c : Nat) : Prop := DRb J0 J ∧ J 2 2 = 0 ∧ J 2 3 = -1 ∧ J 2 4 = nI c ∧ (J 2 5 = nI w ∧ J 2 6 = nI l ∧ J 2 7 = nI r) ∧ (J 2 8 = iI (aLL b m 6 c) ∧ J 2 9 = iI (aLL b m 7 c) ∧ J 2 10 = iI (aLL b m 8 c)) ∧ (∀ t, t < 32 → bt (J 2 11) t = (tII b m t c).isSome ∧ J 9 t = iI ((tII b m t c).getD 0)) ∧ (∀ i, i < 16 → bt (J 2 12) i = (pUU b m i c).isSome ∧ J 10 i = iI ((pUU b m i c).getD 0)) ∧ (∃ p u, J 8 2 = nI p ∧ J 8 3 = nI u ∧ (∀ i, p.testBit i = (decide (i < 16) && decide (pII b m i c ≠ 0))) ∧ ∀ i, u.testBit i = (decide (i < 16) && decide (pII b m i c = 1))) ∧ J 8 4 = 0 ∧ J 8 5 = nI (sDD b m c)
/-- the draft with its fault -/
def DF (J0 J : Nat → Nat → Int32) (b : Nat → Int32) (m c j : Nat) : Prop := DRb J0 J ∧ J 2 2 = nI c ∧ J 2 3 = nI (tSt b m j)
section TELL
variable {σ : XS} {J0 J : Nat → Nat → Int32} {b : Nat → Int32} {m T w l r c : Nat}
theorem DR_next {J' : Nat → Nat → Int32} (hT : OKT b m T) (h4c : 4 ≤ c) (hws : ws b m c = some 4) (hc : c < T) (hD : DR J0 J b m w l r c) (hb : DRb J0 J') (h2 : J' 2 2 = 0) (h3 : J' 2 3 = -1) (h4 : J' 2 4 = nI (lnE b m c + 1)) (h5 : ∀ q, 5 ≤ q → q ≤ 7 → J' 2 q = J 2 q)
    (h8 : J' 2 8 = iI (if tKd b m c = 6 then jvT b m (c + 1) else aLL b m 6 c)) (h9 : J' 2 9 = iI (if tKd b m c = 7 then jvT b m (c + 1) else aLL b m 7 c)) (h10 : J' 2 10 = iI (if tKd b m c = 8 then jvT b m (c + 1) else aLL b m 8 c))
    (ht : ∀ t, t < 32 → bt (J' 2 11) t = (if tKd b m c = 10 ∧ tpl b m c = t then some (jvT b m (c + 3)) else tII b m t c).isSome ∧ J' 9 t = iI ((if tKd b m c = 10 ∧ tpl b m c = t then some (jvT b m (c + 3)) else tII b m t c).getD 0))
    (hu : ∀ i, i < 16 → bt (J' 2 12) i = (if tKd b m c = 11 ∧ tNu b m (c + 1) = i then some (jvT b m (c + 2)) else pUU b m i c).isSome ∧ J' 10 i = iI ((if tKd b m c = 11 ∧ tNu b m (c + 1) = i then some (jvT b m (c + 2)) else pUU b m i c).getD 0))
    (hp : ∃ p u, J' 8 2 = nI p ∧ J' 8 3 = nI u ∧ (∀ i, p.testBit i = (decide (i < 16) && decide ((if tKd b m c = 12 ∧ tNu b m (c + 1) = i then (if tKd b m (c + 2) = 13 then 1 else 2) else pII b m i c) ≠ 0))) ∧ ∀ i, u.testBit i = (decide (i < 16) && decide ((if tKd b m c = 12 ∧ tNu b m (c + 1) = i then (if tKd b m (c + 2) = 13 then 1 else 2) else pII b m i c) = 1)))
    (h84 : J' 8 4 = 0) (h85 : J' 8 5 = nI (if tKd b m c = 15 then tNu b m (c + 1) else sDD b m c)) : DR J0 J' b m w l r (lnE b m c + 1) := by
  obtain ⟨-, -, -, -, ⟨d5, d6, d7⟩, -⟩ := hD
  have eA : ∀ k, aLL b m k (lnE b m c + 1) = if tKd b m c = k then jvT b m (c + 1) else aLL b m k c := fun k => foldL_line _ _ hT h4c hws hc
  have eT : ∀ t, tII b m t (lnE b m c + 1) = if tKd b m c = 10 ∧ tpl b m c = t then some (jvT b m (c + 3)) else tII b m t c := fun t => foldL_line _ _ hT h4c hws hc
  have eU : ∀ i, pUU b m i (lnE b m c + 1) = if tKd b m c = 11 ∧ tNu b m (c + 1) = i then some (jvT b m (c + 2)) else pUU b m i c := fun i => foldL_line _ _ hT h4c hws hc
  have eP : ∀ i, pII b m i (lnE b m c + 1) = if tKd b m c = 12 ∧ tNu b m (c + 1) = i then (if tKd b m (c + 2) = 13 then 1 else 2) else pII b m i c := fun i => foldL_line _ _ hT h4c hws hc
  have eS : sDD b m (lnE b m c + 1) = if tKd b m c = 15 then tNu b m (c + 1) else sDD b m c := foldL_line _ _ hT h4c hws hc
  refine ⟨hb, h2, h3, h4, ⟨(h5 5 (by omega) (by omega)).trans d5, (h5 6 (by omega) (by omega)).trans d6, (h5 7 (by omega) (by omega)).trans d7⟩, ⟨by rw [eA]; exact h8, by rw [eA]; exact h9, by rw [eA]; exact h10⟩, fun t h => by rw [eT]; exact ht t h, fun i h => by rw [eU]; exact hu i h, ?_, h84, by rw [eS]; exact h85⟩
  obtain ⟨p, u, p1, p2, p3, p4⟩ := hp
  exact ⟨p, u, p1, p2, fun i => by rw [eP]; exact p3 i, fun i => by rw [eP]; exact p4 i⟩
theorem j133_ok (hS : Shp σ) {J1 : Nat → Nat → Int32} (hC : CT J1 b m T) {e : Nat} (he : e ≤ T) (h4 : J1 2 4 = nI e) : f_X1_takeTell_j133 (xw σ J1) 2 = some (xw σ (xup J1 2 4 (nI (e + 1)))) := by
  unfold f_X1_takeTell_j133
  rw [xw_ck, kC2 hS, Option.bind_some, tkKind hS hC he h4, Option.bind_some]
/-- no other line's things change -/
theorem DR_same {J' : Nat → Nat → Int32} (hT : OKT b m T) (h4c : 4 ≤ c) (hws : ws b m c = some 4) (hc : c < T) (hD : DR J0 J b m w l r c) (hk : tKd b m c = 6 ∨ tKd b m c = 7 ∨ tKd b m c = 8 ∨ tKd b m c = 9 ∨ tKd b m c = 15) (h4 : J' 2 4 = nI (lnE b m c + 1)) (hf : ∀ a q, ¬ (a = 2 ∧ (q = 4 ∨ q = 8 ∨ q = 9 ∨ q = 10)) → ¬ (a = 8 ∧ q = 5) → J' a q = J a q)
    (h8 : J' 2 8 = iI (if tKd b m c = 6 then jvT b m (c + 1) else aLL b m 6 c)) (h9 : J' 2 9 = iI (if tKd b m c = 7 then jvT b m (c + 1) else aLL b m 7 c)) (h10 : J' 2 10 = iI (if tKd b m c = 8 then jvT b m (c + 1) else aLL b m 8 c)) (h85 : J' 8 5 = nI (if tKd b m c = 15 then tNu b m (c + 1) else sDD b m c)) : DR J0 J' b m w l r (lnE b m c + 1) := by
  obtain ⟨d1, d2, d3, d4, d5, d6, d7, d8, d9, d10, d11⟩ := id hD
  refine DR_next hT h4c hws hc hD (fun a q h => by rw [hf a q (by omega) (by omega)]; exact d1 a q h) (by rw [hf _ _ (by omega) (by omega)]; exact d2) (by rw [hf _ _ (by omega) (by omega)]; exact d3) h4 (fun q h1 h2 => hf _ _ (by omega) (by omega)) h8 h9 h10 (fun t ht => ?_) (fun i hi => ?_) ?_ (by rw [hf _ _ (by omega) (by omega)]; exact d10) h85
  · rw [if_neg (by omega), hf _ _ (by omega) (by omega), hf 9 t (by omega) (by omega)]; exact d7 t ht
  · rw [if_neg (by omega), hf _ _ (by omega) (by omega), hf 10 i (by omega) (by omega)]; exact d8 i hi
  · obtain ⟨p, u, p1, p2, p3, p4⟩ := d9
    refine ⟨p, u, by rw [hf _ _ (by omega) (by omega)]; exact p1, by rw [hf _ _ (by omega) (by omega)]; exact p2, fun i => ?_, fun i => ?_⟩
    · rw [if_neg (by omega)]; exact p3 i
    · rw [if_neg (by omega)]; exact p4 i
theorem tell1 (hS : Shp σ) (hC : CT J0 b m T) (h4c : 4 ≤ c) (hws : ws b m c = some 4) (hc : c < T) (hD : DR J0 J b m w l r c) (hL : LN1 b m c) : ∃ J', f_X1_takeTell (xw σ J) 2 = some (xw σ J') ∧ (linF b m w l r c = none → DR J0 J' b m w l r (lnE b m c + 1)) ∧ ∀ x j, linF b m w l r c = some (x, j) → DF J0 J' b m x j := by
  obtain ⟨d1, d2, d3, d4, d5, d6, d7, d8, d9, d10, d11⟩ := id hD
  obtain ⟨hk, hJ⟩ := hL
  have hT := hC.1
  have hend := (line_at hT hws hc).2.2.2.1
  have hE : lnE b m c = c + 1 + jlT b m (c + 1) := by
    unfold lnE
    rw [if_neg (by omega), if_neg (by omega), if_neg (by omega), if_neg (by omega)]
  have T4 := hT.2.1
  have hCJ : CT J b m T := CT_c (fun a q h1 h2 h3 h4 => d1 a q (by omega)) hC
  obtain ⟨J1, hJ1⟩ : ∃ J1, J1 = xup J 2 4 (nI (c + 1)) := ⟨_, rfl⟩
  have hC1 : CT J1 b m T := CT_c (fun a q h1 _ _ _ => by rw [hJ1, xup_at, if_neg (by omega)]) hCJ
  have tk := tkKind (σ := σ) hS hCJ (show c ≤ T by omega) d4
  rw [← hJ1] at tk
  have tj := takeJ_ok (σ := σ) (J := J1) hS hC1 hJ (by omega) (by rw [hJ1, xup_at, if_pos ⟨rfl, rfl⟩])
  obtain ⟨J2, hJ2⟩ : ∃ J2, J2 = blI (xup J1 2 4 (nI (c + 1 + jlT b m (c + 1)))) (decide (3 < tNu b m (jnT b m (c + 1)))) 3 (nI (tSt b m (jnT b m (c + 1)))) := ⟨_, rfl⟩
  rw [← hJ2] at tj
  have u2 : ∀ a q, ¬ (a = 2 ∧ (q = 2 ∨ q = 3)) → ¬ (a = 2 ∧ q = 4) → J2 a q = J a q := fun a q h1 h2 => by rw [hJ2, blI_out h1, xup_at, if_neg h2, hJ1, xup_at, if_neg h2]
  have c2 : J2 2 4 = nI (lnE b m c) := by rw [hJ2, blI_out (by omega), xup_at, if_pos ⟨rfl, rfl⟩, hE]
  -- the field that takes the J
  obtain ⟨f, hf⟩ : ∃ f, f = tKd b m c + 2 := ⟨_, rfl⟩
  have hCf : CT (xup J2 2 f (iI (jvT b m (c + 1)))) b m T := CT_c (fun a q h1 h2 h3 h4 => by rw [xup_at, if_neg (by omega)]; exact u2 a q (by omega) (by omega)) hCJ
  have jo := j133_ok (σ := σ) (J1 := xup J2 2 f (iI (jvT b m (c + 1)))) hS hCf (show lnE b m c ≤ T by omega) (by rw [xup_at, if_neg (by omega)]; exact c2)
  refine ⟨xup (xup J2 2 f (iI (jvT b m (c + 1)))) 2 4 (nI (lnE b m c + 1)), ?_, fun hno => ?_, fun x j hx1 => ?_⟩
  rotate_left
  · -- nothing wrong
    show DR J0 (xup (xup J2 2 f (iI (jvT b m (c + 1)))) 2 4 (nI (lnE b m c + 1))) b m w l r (lnE b m c + 1)
    have hle : ¬ 3 < tNu b m (jnT b m (c + 1)) := fun z => by
      unfold linF at hno
      rw [if_pos hk, if_pos z] at hno; cases hno
    have e2 : J2 = xup J1 2 4 (nI (c + 1 + jlT b m (c + 1))) := by rw [hJ2, decide_eq_false hle, blI_f]
    have v2 : ∀ a q, ¬ (a = 2 ∧ q = 4) → J2 a q = J a q := fun a q h => by rw [e2, xup_at, if_neg h, hJ1, xup_at, if_neg h]
    have ff : ∀ q, 8 ≤ q → q ≤ 10 → xup (xup J2 2 f (iI (jvT b m (c + 1)))) 2 4 (nI (lnE b m c + 1)) 2 q = if q = f then iI (jvT b m (c + 1)) else J 2 q := fun q h1 h2 => by
      rw [xup_at, if_neg (by omega), xup_at]
      by_cases z : q = f
      · rw [if_pos ⟨rfl, z⟩, if_pos z]
      · rw [if_neg (by omega), if_neg z]; exact v2 _ _ (by omega)
    refine DR_same hT h4c hws hc hD (by omega) (by rw [xup_at, if_pos ⟨rfl, rfl⟩]) (fun a q h1 h2 => by rw [xup_at, if_neg (by omega), xup_at, if_neg (by omega)]; exact v2 a q (by omega)) ?_ ?_ ?_ ?_
    · rw [ff 8 (by omega) (by omega)]
      by_cases z : tKd b m c = 6
      · rw [if_pos (by omega), if_pos z]
      · rw [if_neg (by omega), if_neg z]; exact d6.1
    · rw [ff 9 (by omega) (by omega)]
      by_cases z : tKd b m c = 7
      · rw [if_pos (by omega), if_pos z]
      · rw [if_neg (by omega), if_neg z]; exact d6.2.1
    · rw [ff 10 (by omega) (by omega)]
      by_cases z : tKd b m c = 8
      · rw [if_pos (by omega), if_pos z]
      · rw [if_neg (by omega), if_neg z]; exact d6.2.2
    · rw [if_neg (by omega), xup_at, if_neg (by omega), xup_at, if_neg (by omega), v2 _ _ (by omega)]; exact d11
  · -- too large a J
    show DF J0 (xup (xup J2 2 f (iI (jvT b m (c + 1)))) 2 4 (nI (lnE b m c + 1))) b m x j
    unfold linF at hx1
    rw [if_pos hk] at hx1
    split at hx1
    · next q =>
      cases hx1
      have j0 : xup J1 2 4 (nI (c + 1 + jlT b m (c + 1))) 2 2 = 0 := by rw [xup_at, if_neg (by omega), hJ1, xup_at, if_neg (by omega)]; exact d2
      have e2 := blI_t (J := xup J1 2 4 (nI (c + 1 + jlT b m (c + 1)))) (x := 3) (y := nI (tSt b m (jnT b m (c + 1)))) j0
      rw [decide_eq_true q] at hJ2
      refine ⟨fun a p h => ?_, ?_, ?_⟩
      · rw [xup_at, if_neg (by omega), xup_at, if_neg (by omega), u2 a p (by omega) (by omega)]; exact d1 a p h
      · rw [xup_at, if_neg (by omega), xup_at, if_neg (by omega), hJ2, e2, xup_at, if_neg (by omega), xup_at, if_pos ⟨rfl, rfl⟩]; rfl
      · rw [xup_at, if_neg (by omega), xup_at, if_neg (by omega), hJ2, e2, xup_at, if_pos ⟨rfl, rfl⟩]
    · cases hx1
  · unfold f_X1_takeTell
    rw [xw_ck, kC2 hS, Option.bind_some, tk, Option.bind_some]
    dsimp only
    rw [xsw6 (by have := tKd_b (b := b) (m := m) c; omega), if_neg (by omega)]
    have body : ∀ q, q = f → ((xck (xw σ J1) 2 1).bind fun _ => (f_X1_takeJ (xw σ J1) 2).bind fun (v8, σ7) => (xpI σ7 2 1 q v8).bind fun σ10 => f_X1_takeTell_j133 σ10 2) = some (xw σ (xup (xup J2 2 f (iI (jvT b m (c + 1)))) 2 4 (nI (lnE b m c + 1)))) := by
      rintro q rfl
      rw [xw_ck, kC2 hS, Option.bind_some, tj, Option.bind_some]
      dsimp only
      rw [kP2 hS, Option.bind_some, jo]
    rcases hk with z | z | z
    · rw [z]; exact body 8 (by omega)
    · rw [z]; exact body 9 (by omega)
    · rw [z]; exact body 10 (by omega)
end TELL
