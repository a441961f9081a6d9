/-! pulls and ties -/
section TELL3
variable {σ : XS} {J0 J : Nat → Nat → Int32} {b : Nat → Int32} {m T w l r c : Nat}
theorem tell4 (hS : Shp σ) (hC : CT J0 b m T) (hwl : w * l ≤ 16) (h4c : 4 ≤ c) (hws : ws b m c = some 4) (hc : c < T) (hD : DR J0 J b m w l r c) (hL : LN4 b m c) : ∃ J', f_X1_takeTell (xw σ J) 2 = some (xw σ J') ∧ (linF b m w l r c = none → DR J0 J' b m w l r (lnE b m c + 1)) ∧ ∀ x j, linF b m w l r c = some (x, j) → DF J0 J' b m x j := by
  obtain ⟨d1, d2, d3, d4, d5, d6, d7, d8, d9, d10, d11⟩ := id hD
  obtain ⟨hk, hk1, hJ⟩ := hL
  have hT := hC.1
  have hend := (line_at hT hws hc).2.2.2.1
  have hE : lnE b m c = c + 2 + jlT b m (c + 2) := by unfold lnE; rw [if_neg (by omega), if_neg (by omega), if_pos hk]
  have T4 := hT.2.1
  have hCJ : CT J b m T := CT_c (fun a q h1 h2 h3 h4 => d1 a q (by omega)) hC
  have hlin : linF b m w l r c = if decide (w * l ≤ tNu b m (c + 1)) = true then some (4, c + 1) else if 3 < tNu b m (jnT b m (c + 2)) then some (3, jnT b m (c + 2)) else none := by
    unfold linF
    rw [if_neg (by omega), if_neg (by omega), if_pos hk, badS_n (by omega)]
  obtain ⟨J1, hJ1⟩ : ∃ J1, J1 = xup J 2 4 (nI (c + 1)) := ⟨_, rfl⟩
  have v1 : ∀ a q, ¬ (a = 2 ∧ q = 4) → J1 a q = J a q := fun a q h => by rw [hJ1, xup_at, if_neg h]
  have hC1 : CT J1 b m T := CT_c (fun a q h1 _ _ _ => v1 a q (by omega)) hCJ
  have tk := tkKind (σ := σ) hS hCJ (show c ≤ T by omega) d4
  rw [← hJ1] at tk
  have ts := takeSite_ok (σ := σ) (J := J1) hS hC1 (show c + 1 < T by omega) hk1 (by rw [hJ1, xup_at, if_pos ⟨rfl, rfl⟩]) (by rw [v1 _ _ (by omega)]; exact d5.1) (by rw [v1 _ _ (by omega)]; exact d5.2.1) (by omega)
  obtain ⟨J2, hJ2⟩ : ∃ J2, J2 = blI (xup J1 2 4 (nI (c + 1 + 1))) (decide (w * l ≤ tNu b m (c + 1))) 4 (nI (tSt b m (c + 1))) := ⟨_, rfl⟩
  rw [← hJ2] at ts
  have u2 : ∀ a q, ¬ (a = 2 ∧ (q = 2 ∨ q = 3)) → ¬ (a = 2 ∧ q = 4) → J2 a q = J a q := fun a q h1 h2 => by rw [hJ2, blI_out h1, xup_at, if_neg h2]; exact v1 a q h2
  have c2 : J2 2 4 = nI (c + 2) := by rw [hJ2, blI_out (by omega), xup_at, if_pos ⟨rfl, rfl⟩]
  have hC2 : CT J2 b m T := CT_c (fun a q h1 _ _ _ => u2 a q (by omega) (by omega)) hCJ
  have tj := takeJ_ok (σ := σ) (J := J2) hS hC2 hJ (by omega) c2
  obtain ⟨J3, hJ3⟩ : ∃ J3, J3 = blI (xup J2 2 4 (nI (c + 2 + jlT b m (c + 2)))) (decide (3 < tNu b m (jnT b m (c + 2)))) 3 (nI (tSt b m (jnT b m (c + 2)))) := ⟨_, rfl⟩
  rw [← hJ3] at tj
  have u3 : ∀ a q, ¬ (a = 2 ∧ (q = 2 ∨ q = 3)) → ¬ (a = 2 ∧ q = 4) → J3 a q = J a q := fun a q h1 h2 => by rw [hJ3, blI_out h1, xup_at, if_neg h2]; exact u2 a q h1 h2
  have c3 : J3 2 4 = nI (lnE b m c) := by rw [hJ3, blI_out (by omega), xup_at, if_pos ⟨rfl, rfl⟩, hE]
  have start : ∀ J5, (if J3 2 2 = 0 then ((f_X6_setField (xw σ J3) 8 (nI (tNu b m (c + 1))) (iI (jvT b m (c + 2)))).bind fun σ15 => (xgI σ15 2 1 12).bind fun v17 => (xpI σ15 2 1 12 (v17 ||| ((1 : Int32) <<< (nI (tNu b m (c + 1)) &&& 31)))).bind fun σ19 => some σ19) else some (xw σ J3)) = some (xw σ J5) → CT J5 b m T → J5 2 4 = nI (lnE b m c) → f_X1_takeTell (xw σ J) 2 = some (xw σ (xup J5 2 4 (nI (lnE b m c + 1)))) := by
    intro J5 h1 h2 h3
    have pul : f_X1_takePull (xw σ J1) 2 = some (xw σ J5) := by
      unfold f_X1_takePull
      rw [xw_ck, kC2 hS, Option.bind_some, ts, Option.bind_some]
      dsimp only
      rw [xw_ck, kC2 hS, Option.bind_some, tj, Option.bind_some]
      dsimp only
      rw [kG2 hS, Option.bind_some]
      by_cases z : J3 2 2 = 0
      · rw [if_pos z] at h1 ⊢
        rw [xw_gR, kR2_1 hS, Option.bind_some, xw_ck, kC8 hS, Option.bind_some]; exact h1
      · rw [if_neg z] at h1 ⊢; exact h1
    unfold f_X1_takeTell
    rw [xw_ck, kC2 hS, Option.bind_some, tk, Option.bind_some]
    dsimp only
    rw [xsw6 (by have := tKd_b (b := b) (m := m) c; omega), if_neg (by omega), hk]
    show ((xck (xw σ J1) 2 1).bind fun _ => (f_X1_takePull (xw σ J1) 2).bind fun σ7 => f_X1_takeTell_j133 σ7 2) = _
    rw [xw_ck, kC2 hS, Option.bind_some, pul, Option.bind_some]
    exact j133_ok hS h2 (by omega) h3
  -- a fault: all that is wanted
  have flt : ∀ x j : Nat, x ≠ 0 → x < 5 → J3 2 2 = nI x → J3 2 3 = nI (tSt b m j) → linF b m w l r c = some (x, j) → ∃ J', f_X1_takeTell (xw σ J) 2 = some (xw σ J') ∧ (linF b m w l r c = none → DR J0 J' b m w l r (lnE b m c + 1)) ∧ ∀ x j, linF b m w l r c = some (x, j) → DF J0 J' b m x j := by
    intro x j hx0 hx5 f2 f3 hl
    have nz : J3 2 2 ≠ 0 := by rw [f2]; exact nI_ne0 (by omega) (by omega)
    refine ⟨_, start J3 (by rw [if_neg nz]) (CT_c (fun a q h1 _ _ _ => u3 a q (by omega) (by omega)) hCJ) c3, fun hno => ?_, fun x' j' h' => ?_⟩
    · rw [hl] at hno; cases hno
    · rw [hl] at h'; cases h'
      refine ⟨fun a q h => ?_, ?_, ?_⟩
      · rw [xup_at, if_neg (by omega), u3 a q (by omega) (by omega)]; exact d1 a q h
      · rw [xup_at, if_neg (by omega)]; exact f2
      · rw [xup_at, if_neg (by omega)]; exact f3
  by_cases hbad : w * l ≤ tNu b m (c + 1)
  · have j0 : xup J1 2 4 (nI (c + 1 + 1)) 2 2 = 0 := by rw [xup_at, if_neg (by omega), v1 _ _ (by omega)]; exact d2
    have e2 : J2 2 2 = nI 4 ∧ J2 2 3 = nI (tSt b m (c + 1)) := by
      rw [hJ2, decide_eq_true hbad, blI_t j0, xup_at, if_neg (by omega), xup_at, if_pos ⟨rfl, rfl⟩, xup_at, if_pos ⟨rfl, rfl⟩]
      exact ⟨rfl, rfl⟩
    have j3 : xup J2 2 4 (nI (c + 2 + jlT b m (c + 2))) 2 2 ≠ 0 := by
      rw [xup_at, if_neg (by omega), e2.1]; decide
    rw [blI_n j3] at hJ3
    exact flt 4 (c + 1) (by omega) (by omega) (by rw [hJ3, xup_at, if_neg (by omega)]; exact e2.1) (by rw [hJ3, xup_at, if_neg (by omega)]; exact e2.2) (by rw [hlin, decide_eq_true hbad, if_pos rfl])
  · have e2 : J2 = xup J1 2 4 (nI (c + 1 + 1)) := by rw [hJ2, decide_eq_false hbad, blI_f]
    have j0 : xup J2 2 4 (nI (c + 2 + jlT b m (c + 2))) 2 2 = 0 := by rw [xup_at, if_neg (by omega), e2, xup_at, if_neg (by omega), v1 _ _ (by omega)]; exact d2
    by_cases h3 : 3 < tNu b m (jnT b m (c + 2))
    · rw [decide_eq_true h3, blI_t j0] at hJ3
      exact flt 3 (jnT b m (c + 2)) (by omega) (by omega) (by rw [hJ3, xup_at, if_neg (by omega), xup_at, if_pos ⟨rfl, rfl⟩]; rfl) (by rw [hJ3, xup_at, if_pos ⟨rfl, rfl⟩]) (by rw [hlin, decide_eq_false hbad, if_neg (by decide), if_pos h3])
    · rw [decide_eq_false h3, blI_f] at hJ3
      have v3 : ∀ a q, ¬ (a = 2 ∧ q = 4) → J3 a q = J a q := fun a q h => by rw [hJ3, xup_at, if_neg h, e2, xup_at, if_neg h]; exact v1 a q h
      obtain ⟨s, hs⟩ : ∃ s, s = tNu b m (c + 1) := ⟨_, rfl⟩
      have s16 : s < 16 := by omega
      have z2 : J3 2 2 = 0 := by rw [v3 _ _ (by omega)]; exact d2
      have sf := setField_ok (σ := σ) (I := J3) (a := 8) hS suA_8 s16 (iI (jvT b m (c + 2)))
      refine ⟨_, start (xup (xup J3 10 s (iI (jvT b m (c + 2)))) 2 12 (J 2 12 ||| ((1 : Int32) <<< (nI s &&& 31)))) ?_ (CT_c (fun a q h1 h2 h3 h4 => by rw [xup_at, if_neg (by omega), xup_at, if_neg (by omega)]; exact v3 a q (by omega)) hCJ) (by rw [xup_at, if_neg (by omega), xup_at, if_neg (by omega)]; exact c3), fun hno => ?_, fun x j hx1 => ?_⟩
      · rw [if_pos z2, ← hs, sf, Option.bind_some, kG2 hS, Option.bind_some, xup_at, if_neg (by omega), v3 2 12 (by omega), kP2 hS, Option.bind_some]
      · have fr : ∀ a q, ¬ (a = 2 ∧ (q = 4 ∨ q = 12)) → a ≠ 10 → xup (xup (xup J3 10 s (iI (jvT b m (c + 2)))) 2 12 (J 2 12 ||| ((1 : Int32) <<< (nI s &&& 31)))) 2 4 (nI (lnE b m c + 1)) a q = J a q := fun a q h1 h2 => by rw [xup_at, if_neg (by omega), xup_at, if_neg (by omega), xup_at, if_neg (by omega)]; exact v3 a q (by omega)
        refine DR_next hT h4c hws hc hD (fun a q h => by rw [fr a q (by omega) (by omega)]; exact d1 a q h) (by rw [fr _ _ (by omega) (by omega)]; exact d2) (by rw [fr _ _ (by omega) (by omega)]; exact d3) (by rw [xup_at, if_pos ⟨rfl, rfl⟩]) (fun q h1 h2 => fr _ _ (by omega) (by omega)) ?_ ?_ ?_ (fun t ht => ?_) (fun i hi => ?_) ?_ (by rw [fr _ _ (by omega) (by omega)]; exact d10) (by rw [if_neg (by omega), fr _ _ (by omega) (by omega)]; exact d11)
        · rw [if_neg (by omega), fr _ _ (by omega) (by omega)]; exact d6.1
        · rw [if_neg (by omega), fr _ _ (by omega) (by omega)]; exact d6.2.1
        · rw [if_neg (by omega), fr _ _ (by omega) (by omega)]; exact d6.2.2
        · rw [if_neg (by omega), fr _ _ (by omega) (by omega), fr 9 t (by omega) (by omega)]; exact d7 t ht
        · have e12 : xup (xup (xup J3 10 s (iI (jvT b m (c + 2)))) 2 12 (J 2 12 ||| ((1 : Int32) <<< (nI s &&& 31)))) 2 4 (nI (lnE b m c + 1)) 2 12 = J 2 12 ||| ((1 : Int32) <<< (nI s &&& 31)) := by rw [xup_at, if_neg (by omega), xup_at, if_pos ⟨rfl, rfl⟩]
          have e10 : xup (xup (xup J3 10 s (iI (jvT b m (c + 2)))) 2 12 (J 2 12 ||| ((1 : Int32) <<< (nI s &&& 31)))) 2 4 (nI (lnE b m c + 1)) 10 i = if i = s then iI (jvT b m (c + 2)) else J 10 i := by
            rw [xup_at, if_neg (by omega), xup_at, if_neg (by omega), xup_at]
            by_cases z : i = s
            · rw [if_pos ⟨rfl, z⟩, if_pos z]
            · rw [if_neg (by omega), if_neg z]; exact v3 _ _ (by omega)
          rw [e12, e10, bt_set (by omega) (by omega)]
          by_cases z : i = s
          · rw [if_pos ⟨hk, by rw [← hs]; exact z.symm⟩, if_pos z, decide_eq_true z, Bool.or_true]
            exact ⟨rfl, rfl⟩
          · rw [if_neg (fun y => z (by rw [hs]; exact y.2.symm)), if_neg z, decide_eq_false z, Bool.or_false]
            exact d8 i hi
        · obtain ⟨p, u, p1, p2, p3, p4⟩ := d9
          refine ⟨p, u, by rw [fr _ _ (by omega) (by omega)]; exact p1, by rw [fr _ _ (by omega) (by omega)]; exact p2, fun i => ?_, fun i => ?_⟩
          · rw [if_neg (by omega)]; exact p3 i
          · rw [if_neg (by omega)]; exact p4 i
      · rw [hlin, decide_eq_false hbad, if_neg (by decide), if_neg h3] at hx1; cases hx1
theorem tell3 (hS : Shp σ) (hC : CT J0 b m T) (hg : ((w, l, r) : GD) ∈ gAll) (h4c : 4 ≤ c) (hws : ws b m c = some 4) (hc : c < T) (hD : DR J0 J b m w l r c) (hL : LN3 b m c) : ∃ J', f_X1_takeTell (xw σ J) 2 = some (xw σ J') ∧ (linF b m w l r c = none → DR J0 J' b m w l r (lnE b m c + 1)) ∧ ∀ x j, linF b m w l r c = some (x, j) → DF J0 J' b m x j := by
  have hwl : w * l ≤ 16 := (gAll_b _ hg).2.2.1
  obtain ⟨d1, d2, d3, d4, d5, d6, d7, d8, d9, d10, d11⟩ := id hD
  obtain ⟨hk, hk1, hk2, hJ⟩ := hL
  have hT := hC.1
  have hend := (line_at hT hws hc).2.2.2.1
  have hE : lnE b m c = c + 3 + jlT b m (c + 3) := by unfold lnE; rw [if_neg (by omega), if_pos hk]
  have T4 := hT.2.1
  have hV := tNu_b hk1
  have hCJ : CT J b m T := CT_c (fun a q h1 h2 h3 h4 => d1 a q (by omega)) hC
  have hlin : linF b m w l r c = if badS b m w l r c = true then some (4, c + 1) else if 3 < tNu b m (jnT b m (c + 3)) then some (3, jnT b m (c + 3)) else none := by
    unfold linF
    rw [if_neg (by omega), if_pos hk]
  obtain ⟨J1, hJ1⟩ : ∃ J1, J1 = xup J 2 4 (nI (c + 1)) := ⟨_, rfl⟩
  have v1 : ∀ a q, ¬ (a = 2 ∧ q = 4) → J1 a q = J a q := fun a q h => by rw [hJ1, xup_at, if_neg h]
  have hC1 : CT J1 b m T := CT_c (fun a q h1 _ _ _ => v1 a q (by omega)) hCJ
  have tk := tkKind (σ := σ) hS hCJ (show c ≤ T by omega) d4
  rw [← hJ1] at tk
  have ts := takeSite_ok (σ := σ) (J := J1) hS hC1 (show c + 1 < T by omega) hk1 (by rw [hJ1, xup_at, if_pos ⟨rfl, rfl⟩]) (by rw [v1 _ _ (by omega)]; exact d5.1) (by rw [v1 _ _ (by omega)]; exact d5.2.1) (by omega)
  obtain ⟨J2, hJ2⟩ : ∃ J2, J2 = blI (xup J1 2 4 (nI (c + 1 + 1))) (decide (w * l ≤ tNu b m (c + 1))) 4 (nI (tSt b m (c + 1))) := ⟨_, rfl⟩
  rw [← hJ2] at ts
  have u2 : ∀ a q, ¬ (a = 2 ∧ (q = 2 ∨ q = 3)) → ¬ (a = 2 ∧ q = 4) → J2 a q = J a q := fun a q h1 h2 => by rw [hJ2, blI_out h1, xup_at, if_neg h2]; exact v1 a q h2
  have c2 : J2 2 4 = nI (c + 2) := by rw [hJ2, blI_out (by omega), xup_at, if_pos ⟨rfl, rfl⟩]
  have hC2 : CT J2 b m T := CT_c (fun a q h1 _ _ _ => u2 a q (by omega) (by omega)) hCJ
  have tk2 := tkKind (σ := σ) hS hC2 (show c + 2 ≤ T by omega) c2
  obtain ⟨J3, hJ3⟩ : ∃ J3, J3 = xup J2 2 4 (nI (c + 2 + 1)) := ⟨_, rfl⟩
  rw [← hJ3] at tk2
  have u3 : ∀ a q, ¬ (a = 2 ∧ (q = 2 ∨ q = 3)) → ¬ (a = 2 ∧ q = 4) → J3 a q = J a q := fun a q h1 h2 => by rw [hJ3, xup_at, if_neg h2]; exact u2 a q h1 h2
  have c3 : J3 2 4 = nI (c + 3) := by rw [hJ3, xup_at, if_pos ⟨rfl, rfl⟩]
  have hC3 : CT J3 b m T := CT_c (fun a q h1 _ _ _ => u3 a q (by omega) (by omega)) hCJ
  obtain ⟨tp, htp⟩ : ∃ tp, tp = tpl b m c := ⟨_, rfl⟩
  have q7 : (nI (tKd b m (c + 2)) = (7 : Int32)) = (tKd b m (c + 2) = 7) := nn_eq (b := 7) (by omega) (by decide)
  have start : ∀ J5, f_X1_takeTie_j22 (xw σ J3) 2 (nI tp) = some (xw σ J5) → CT J5 b m T → J5 2 4 = nI (lnE b m c) → f_X1_takeTell (xw σ J) 2 = some (xw σ (xup J5 2 4 (nI (lnE b m c + 1)))) := by
    intro J5 h1 h2 h3
    have tie : f_X1_takeTie (xw σ J1) 2 = some (xw σ J5) := by
      unfold f_X1_takeTie
      rw [xw_ck, kC2 hS, Option.bind_some, ts, Option.bind_some]
      dsimp only
      rw [xw_ck, kC2 hS, Option.bind_some, tk2, Option.bind_some]
      dsimp only
      simp only [q7]
      rw [htp] at h1
      unfold tpl at h1
      by_cases z : tKd b m (c + 2) = 7
      · rw [if_pos z] at h1 ⊢
        rw [show (16 : Int32) = nI 16 from rfl, nn_add]; exact h1
      · rw [if_neg z] at h1 ⊢; exact h1
    unfold f_X1_takeTell
    rw [xw_ck, kC2 hS, Option.bind_some, tk, Option.bind_some]
    dsimp only
    rw [xsw6 (by have := tKd_b (b := b) (m := m) c; omega), if_neg (by omega), hk]
    show ((xck (xw σ J1) 2 1).bind fun _ => (f_X1_takeTie (xw σ J1) 2).bind fun σ7 => f_X1_takeTell_j133 σ7 2) = _
    rw [xw_ck, kC2 hS, Option.bind_some, tie, Option.bind_some]
    exact j133_ok hS h2 (by omega) h3
  -- the J of a tie, on a draft that is at fault already
  have j68f : ∀ J4, CT J4 b m T → J4 2 4 = nI (c + 3) → J4 2 2 ≠ 0 → f_X1_takeTie_j68 (xw σ J4) 2 (nI tp) = some (xw σ (xup J4 2 4 (nI (c + 3 + jlT b m (c + 3))))) := by
    intro J4 h1 h2 h3
    have tj := takeJ_ok (σ := σ) (J := J4) hS h1 hJ (by omega) h2
    have h3' : xup J4 2 4 (nI (c + 3 + jlT b m (c + 3))) 2 2 ≠ 0 := by rw [xup_at, if_neg (by omega)]; exact h3
    rw [blI_n h3'] at tj
    unfold f_X1_takeTie_j68
    rw [xw_ck, kC2 hS, Option.bind_some, tj, Option.bind_some]
    dsimp only
    rw [kG2 hS, Option.bind_some, if_neg h3']
  have flt : ∀ (J5 : Nat → Nat → Int32) (x j : Nat), f_X1_takeTie_j22 (xw σ J3) 2 (nI tp) = some (xw σ J5) → (∀ a q, ¬ (a = 2 ∧ (q = 2 ∨ q = 3)) → ¬ (a = 2 ∧ q = 4) → J5 a q = J a q) → J5 2 4 = nI (lnE b m c) → J5 2 2 = nI x → J5 2 3 = nI (tSt b m j) → linF b m w l r c = some (x, j) → ∃ J', f_X1_takeTell (xw σ J) 2 = some (xw σ J') ∧ (linF b m w l r c = none → DR J0 J' b m w l r (lnE b m c + 1)) ∧ ∀ x j, linF b m w l r c = some (x, j) → DF J0 J' b m x j := by
    intro J5 x j h1 u5 c5 f2 f3 hl
    refine ⟨_, start J5 h1 (CT_c (fun a q h1 _ _ _ => u5 a q (by omega) (by omega)) hCJ) c5, fun hno => ?_, fun x' j' h' => ?_⟩
    · rw [hl] at hno; cases hno
    · rw [hl] at h'; cases h'
      refine ⟨fun a q h => ?_, ?_, ?_⟩
      · rw [xup_at, if_neg (by omega), u5 a q (by omega) (by omega)]; exact d1 a q h
      · rw [xup_at, if_neg (by omega)]; exact f2
      · rw [xup_at, if_neg (by omega)]; exact f3
  by_cases hbad : w * l ≤ tNu b m (c + 1)
  · have j0 : xup J1 2 4 (nI (c + 1 + 1)) 2 2 = 0 := by rw [xup_at, if_neg (by omega), v1 _ _ (by omega)]; exact d2
    have e2 : J2 2 2 = nI 4 ∧ J2 2 3 = nI (tSt b m (c + 1)) := by
      rw [hJ2, decide_eq_true hbad, blI_t j0, xup_at, if_neg (by omega), xup_at, if_pos ⟨rfl, rfl⟩, xup_at, if_pos ⟨rfl, rfl⟩]
      exact ⟨rfl, rfl⟩
    have f3 : J3 2 2 = nI 4 := by rw [hJ3, xup_at, if_neg (by omega)]; exact e2.1
    have nz : J3 2 2 ≠ 0 := by rw [f3]; decide
    have bd : badS b m w l r c = true := by unfold badS; rw [decide_eq_true hbad, Bool.true_or]
    refine flt (xup J3 2 4 (nI (c + 3 + jlT b m (c + 3)))) 4 (c + 1) ?_ (fun a q h1 h2 => by rw [xup_at, if_neg h2]; exact u3 a q h1 h2) (by rw [xup_at, if_pos ⟨rfl, rfl⟩, hE]) (by rw [xup_at, if_neg (by omega)]; exact f3) (by rw [xup_at, if_neg (by omega), hJ3, xup_at, if_neg (by omega)]; exact e2.2) (by rw [hlin, bd, if_pos rfl])
    unfold f_X1_takeTie_j22
    rw [kG2 hS, Option.bind_some, if_neg nz]
    exact j68f J3 hC3 c3 nz
  · have e2 : J2 = xup J1 2 4 (nI (c + 1 + 1)) := by rw [hJ2, decide_eq_false hbad, blI_f]
    have v3 : ∀ a q, ¬ (a = 2 ∧ q = 4) → J3 a q = J a q := fun a q h => by rw [hJ3, xup_at, if_neg h, e2, xup_at, if_neg h]; exact v1 a q h
    have z3 : J3 2 2 = 0 := by rw [v3 _ _ (by omega)]; exact d2
    have tp32 : tp < 32 := by rw [htp]; unfold tpl; split <;> omega
    have eo := endOf_ok (w, l, r) hg tp tp32
    have eo : f_X3_endOf (nI w) (nI l) (nI r) (nI tp) = some (oI (gTo (w, l, r) tp)) := eo
    have j22 : f_X1_takeTie_j22 (xw σ J3) 2 (nI tp) = if oI (gTo (w, l, r) tp) = (-1 : Int32) then f_X1_takeTie_j68 (xw σ (xup (xup J3 2 2 4) 2 3 (nI (tSt b m (c + 1))))) 2 (nI tp) else f_X1_takeTie_j68 (xw σ J3) 2 (nI tp) := by
      have e1 : nI (c + 3) - (2 : Int32) = nI (c + 1) := by rw [show (2 : Int32) = nI 2 from rfl, nn_sub (by omega)]; congr 1
      have pl := plAt_ok (σ := σ) hS hC3 (show c + 1 < T by omega)
      unfold f_X1_takeTie_j22
      rw [kG2 hS, Option.bind_some, if_pos z3, kG2 hS, Option.bind_some, kG2 hS, Option.bind_some, kG2 hS, Option.bind_some, v3 2 5 (by omega), v3 2 6 (by omega), v3 2 7 (by omega), d5.1, d5.2.1, d5.2.2, eo, Option.bind_some, xw_gR, kR2_0 hS, Option.bind_some, kG2 hS, Option.bind_some, c3, e1, xw_ck, kC3 hS, Option.bind_some, pl, Option.bind_some, xw_ck, kC2 hS, Option.bind_some, blame_0 hS z3, Option.bind_some]
    have bdS : badS b m w l r c = (gTo (w, l, r) tp).isNone := by
      unfold badS
      rw [decide_eq_false hbad, Bool.false_or, decide_eq_true hk, Bool.true_and, ← htp]
    cases hgt : gTo (w, l, r) tp with
    | none =>
      rw [hgt] at bdS j22
      rw [if_pos (show oI none = -1 from rfl)] at j22
      have bdS : badS b m w l r c = true := bdS
      have f4 : xup (xup J3 2 2 4) 2 3 (nI (tSt b m (c + 1))) 2 2 = nI 4 := by rw [xup_at, if_neg (by omega), xup_at, if_pos ⟨rfl, rfl⟩]; rfl
      have j := j68f (xup (xup J3 2 2 4) 2 3 (nI (tSt b m (c + 1)))) (CT_c (fun a q h1 _ _ _ => by rw [xup_at, if_neg (by omega), xup_at, if_neg (by omega)]; exact u3 a q (by omega) (by omega)) hCJ) (by rw [xup_at, if_neg (by omega), xup_at, if_neg (by omega)]; exact c3) (by rw [f4]; decide)
      exact flt _ 4 (c + 1) (j22.trans j) (fun a q h1 h2 => by rw [xup_at, if_neg h2, xup_at, if_neg (by omega), xup_at, if_neg (by omega)]; exact u3 a q h1 h2) (by rw [xup_at, if_pos ⟨rfl, rfl⟩, hE]) (by rw [xup_at, if_neg (by omega)]; exact f4) (by rw [xup_at, if_neg (by omega), xup_at, if_pos ⟨rfl, rfl⟩]) (by rw [hlin, bdS, if_pos rfl])
    | some e =>
      rw [hgt] at bdS j22
      have e16 := (gTo_b (w, l, r) hg tp tp32 e hgt).2.1
      have e16' : e < 16 := Nat.lt_of_lt_of_le e16 hwl
      rw [if_neg (show ¬ oI (some e) = -1 by have := nn_m1 (a := e) (by omega); show ¬ nI e = -1; rw [this]; exact id)] at j22
      have bd : badS b m w l r c = false := bdS
      have tj := takeJ_ok (σ := σ) (J := J3) hS hC3 hJ (by omega) c3
      have j0 : xup J3 2 4 (nI (c + 3 + jlT b m (c + 3))) 2 2 = 0 := by rw [xup_at, if_neg (by omega)]; exact z3
      by_cases h3 : 3 < tNu b m (jnT b m (c + 3))
      · rw [decide_eq_true h3, blI_t j0] at tj
        obtain ⟨J5, hJ5⟩ : ∃ J5, J5 = xup (xup (xup J3 2 4 (nI (c + 3 + jlT b m (c + 3)))) 2 2 3) 2 3 (nI (tSt b m (jnT b m (c + 3)))) := ⟨_, rfl⟩
        rw [← hJ5] at tj
        have f5 : J5 2 2 = nI 3 := by rw [hJ5, xup_at, if_neg (by omega), xup_at, if_pos ⟨rfl, rfl⟩]; rfl
        refine flt J5 3 (jnT b m (c + 3)) ?_ (fun a q h1 h2 => by rw [hJ5, xup_at, if_neg (by omega), xup_at, if_neg (by omega), xup_at, if_neg h2]; exact u3 a q h1 h2) (by rw [hJ5, xup_at, if_neg (by omega), xup_at, if_neg (by omega), xup_at, if_pos ⟨rfl, rfl⟩, hE]) f5 (by rw [hJ5, xup_at, if_pos ⟨rfl, rfl⟩]) (by rw [hlin, bd, if_neg (by decide), if_pos h3])
        rw [j22]
        unfold f_X1_takeTie_j68
        rw [xw_ck, kC2 hS, Option.bind_some, tj, Option.bind_some]
        dsimp only
        rw [kG2 hS, Option.bind_some, if_neg (by rw [f5]; decide)]
      · rw [decide_eq_false h3, blI_f] at tj
        obtain ⟨J4, hJ4⟩ : ∃ J4, J4 = xup J3 2 4 (nI (c + 3 + jlT b m (c + 3))) := ⟨_, rfl⟩
        rw [← hJ4] at tj j0
        have v4 : ∀ a q, ¬ (a = 2 ∧ q = 4) → J4 a q = J a q := fun a q h => by rw [hJ4, xup_at, if_neg h]; exact v3 a q h
        have sb := setBond_ok (σ := σ) (I := J4) (a := 8) hS suA_8 tp32 (iI (jvT b m (c + 3)))
        have j68 : f_X1_takeTie_j68 (xw σ J3) 2 (nI tp) = some (xw σ (xup (xup J4 9 tp (iI (jvT b m (c + 3)))) 2 11 (J 2 11 ||| ((1 : Int32) <<< (nI tp &&& 31))))) := by
          unfold f_X1_takeTie_j68
          rw [xw_ck, kC2 hS, Option.bind_some, tj, Option.bind_some]
          dsimp only
          rw [kG2 hS, Option.bind_some, if_pos j0, xw_gR, kR2_1 hS, Option.bind_some, xw_ck, kC8 hS, Option.bind_some, sb, Option.bind_some, kG2 hS, Option.bind_some, xup_at, if_neg (by omega), v4 2 11 (by omega), kP2 hS, Option.bind_some]
        refine ⟨_, start _ (j22.trans j68) (CT_c (fun a q h1 h2 h3 h4 => by rw [xup_at, if_neg (by omega), xup_at, if_neg (by omega)]; exact v4 a q (by omega)) hCJ) (by rw [xup_at, if_neg (by omega), xup_at, if_neg (by omega), hJ4, xup_at, if_pos ⟨rfl, rfl⟩, hE]), fun hno => ?_, fun x j hx1 => ?_⟩
        · have fr : ∀ a q, ¬ (a = 2 ∧ (q = 4 ∨ q = 11)) → a ≠ 9 → xup (xup (xup J4 9 tp (iI (jvT b m (c + 3)))) 2 11 (J 2 11 ||| ((1 : Int32) <<< (nI tp &&& 31)))) 2 4 (nI (lnE b m c + 1)) a q = J a q := fun a q h1 h2 => by rw [xup_at, if_neg (by omega), xup_at, if_neg (by omega), xup_at, if_neg (by omega)]; exact v4 a q (by omega)
          refine DR_next hT h4c hws hc hD (fun a q h => by rw [fr a q (by omega) (by omega)]; exact d1 a q h) (by rw [fr _ _ (by omega) (by omega)]; exact d2) (by rw [fr _ _ (by omega) (by omega)]; exact d3) (by rw [xup_at, if_pos ⟨rfl, rfl⟩]) (fun q h1 h2 => fr _ _ (by omega) (by omega)) ?_ ?_ ?_ (fun t ht => ?_) (fun i hi => ?_) ?_ (by rw [fr _ _ (by omega) (by omega)]; exact d10) (by rw [if_neg (by omega), fr _ _ (by omega) (by omega)]; exact d11)
          · rw [if_neg (by omega), fr _ _ (by omega) (by omega)]; exact d6.1
          · rw [if_neg (by omega), fr _ _ (by omega) (by omega)]; exact d6.2.1
          · rw [if_neg (by omega), fr _ _ (by omega) (by omega)]; exact d6.2.2
          · have e11 : xup (xup (xup J4 9 tp (iI (jvT b m (c + 3)))) 2 11 (J 2 11 ||| ((1 : Int32) <<< (nI tp &&& 31)))) 2 4 (nI (lnE b m c + 1)) 2 11 = J 2 11 ||| ((1 : Int32) <<< (nI tp &&& 31)) := by rw [xup_at, if_neg (by omega), xup_at, if_pos ⟨rfl, rfl⟩]
            have e9 : xup (xup (xup J4 9 tp (iI (jvT b m (c + 3)))) 2 11 (J 2 11 ||| ((1 : Int32) <<< (nI tp &&& 31)))) 2 4 (nI (lnE b m c + 1)) 9 t = if t = tp then iI (jvT b m (c + 3)) else J 9 t := by
              rw [xup_at, if_neg (by omega), xup_at, if_neg (by omega), xup_at]
              by_cases z : t = tp
              · rw [if_pos ⟨rfl, z⟩, if_pos z]
              · rw [if_neg (by omega), if_neg z]; exact v4 _ _ (by omega)
            rw [e11, e9, bt_set (by omega) (by omega)]
            by_cases z : t = tp
            · rw [if_pos ⟨hk, by rw [← htp]; exact z.symm⟩, if_pos z, decide_eq_true z, Bool.or_true]
              exact ⟨rfl, rfl⟩
            · rw [if_neg (fun y => z (by rw [htp]; exact y.2.symm)), if_neg z, decide_eq_false z, Bool.or_false]
              exact d7 t ht
          · rw [if_neg (by omega), fr _ _ (by omega) (by omega), fr 10 i (by omega) (by omega)]; exact d8 i hi
          · obtain ⟨p, u, p1, p2, p3, p4⟩ := d9
            refine ⟨p, u, by rw [fr _ _ (by omega) (by omega)]; exact p1, by rw [fr _ _ (by omega) (by omega)]; exact p2, fun i => ?_, fun i => ?_⟩
            · rw [if_neg (by omega)]; exact p3 i
            · rw [if_neg (by omega)]; exact p4 i
        · rw [hlin, bd, if_neg (by decide), if_neg h3] at hx1; cases hx1
/-- a line, whichever it is -/
theorem tell_ok (hS : Shp σ) (hC : CT J0 b m T) (hg : ((w, l, r) : GD) ∈ gAll) (h4c : 4 ≤ c) (hws : ws b m c = some 4) (hc : c < T) (hD : DR J0 J b m w l r c) : ∃ J', f_X1_takeTell (xw σ J) 2 = some (xw σ J') ∧ (linF b m w l r c = none → DR J0 J' b m w l r (lnE b m c + 1)) ∧ ∀ x j, linF b m w l r c = some (x, j) → DF J0 J' b m x j := by
  have hwl : w * l ≤ 16 := (gAll_b _ hg).2.2.1
  rcases (line_at hC.1 hws hc).1 with h | h | h | h | h | h
  · exact tell1 hS hC h4c hws hc hD h
  · obtain ⟨J', e, a1, a2⟩ := tell2 hS hC h4c hws hc hD h
    exact ⟨J', e, fun _ => a1, fun x j z => by rw [a2] at z; cases z⟩
  · exact tell3 hS hC hg h4c hws hc hD h
  · exact tell4 hS hC hwl h4c hws hc hD h
  · exact tell5 hS hC hwl h4c hws hc hD h
  · obtain ⟨J', e, a1, a2⟩ := tell6 hS hC h4c hws hc hD h
    exact ⟨J', e, fun _ => a1, fun x j z => by rw [a2] at z; cases z⟩
end TELL3
