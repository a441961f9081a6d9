/-! joined on the heap -/
section JOIN
variable {σ : XS} {I : Nat → Nat → Int32} {L : Nat → Nat → Int64} {m t : Nat → Nat}
theorem lgL_z {r j : Nat} : xup (lgL L r j (fun _ => 0)) r j (0 : Int64) = lgL L r (j + 1) (fun _ => 0) := by
  funext a k
  show (if a = r ∧ k = j then _ else lgL L r j (fun _ => 0) a k) = _
  unfold lgL
  by_cases h1 : a = r
  · subst h1
    by_cases h2 : k = j
    · subst h2; simp; rfl
    · have : (k < j + 1) ↔ (k < j) := by omega
      simp [h2, this]
  · simp [h1]
theorem lgL_00 {r : Nat} {f : Nat → Nat} : lgL L r 0 f = L := by
  funext a k
  unfold lgL
  rw [if_neg (by omega)]
theorem fillL_ok (K : σ.1 181 = (23, 577)) : f_J7_fill_d0a16 (xw (xl σ L) I) 181 (0 : Int64) = some (xw (xl σ (lgL L 181 577 (fun _ => 0))) I) := by
  unfold f_J7_fill_d0a16
  have hl : xal (xw (xl σ L) I) 181 = some (nI 577) := by
    rw [xal_ok (σ := xw (xl σ L) I) (by show 20 ≤ (σ.1 181).1 ∧ (σ.1 181).1 ≤ 25; rw [K]; decide)]
    show some (nI (σ.1 181).2) = _
    rw [K]
  rw [hl, Option.bind_some]
  refine xforE (fun j : Nat => (nI j, xw (xl σ (lgL L 181 j (fun _ => 0))) I)) 577 (by simp only [lgL_00]; rfl) (fun j hj => ?_) ?_
  · simp only [f_J7_fill_d0a16_b6]
    rw [if_neg (by rw [nn_le (by omega) (by omega)]; omega), xl_sL K hj (by decide), Option.bind_some, lgL_z, nI_succ]
  · simp only [f_J7_fill_d0a16_b6]
    rw [if_pos (by decide)]
    rfl
theorem mul_64 {a b c : Nat} (ha : a ≤ 65536) (hb : b ≤ 65536) (hc : c ≤ 4294967296000) : lN c + (nI a).toInt64 * (nI b).toInt64 = lN (c + a * b) := by
  have : a * b ≤ 4294967296 := by
    have := Nat.mul_le_mul ha hb
    omega
  rw [nI_i64 (by omega), nI_i64 (by omega), vL_mul (by omega) (by omega) (by omega), vL_add (by omega)]
theorem cvR_b (hm : ∀ a, m a ≤ 65536) (ht : ∀ a, t a ≤ 65536) {N A B e : Nat} (hA : A ≤ 900) : cvR m t N A B e ≤ 4294967296000 := by
  have h1 := cv_b hm ht N A e
  have h2 : m A * t (e - A) ≤ 4294967296 := by
    have := Nat.mul_le_mul (hm A) (ht (e - A))
    omega
  have h3 : A * 4294967296 ≤ 3865470566400 := by omega
  have h4 : cv m t N A e ≤ 3865470566400 := Nat.le_trans h1 h3
  unfold cvR
  generalize cv m t N A e = x at *
  generalize m A * t (e - A) = y at *
  by_cases h : A ≤ e ∧ e < A + B
  · rw [if_pos h]; omega
  · rw [if_neg h]; omega
theorem joinWays_l (hS : Shp σ) {W : Nat} (hW : σ.1 W = (20, 289)) (hm : ∀ a, m a ≤ 65536) (ht : ∀ a, t a ≤ 65536) (hv : ∀ k, k < 289 → I 166 k = nI (m k)) (hw : ∀ k, k < 289 → I W k = nI (t k)) :
    f_X11_joinWays_j13 (xw (xl σ L) I) 1 166 W = some (xw (xl σ (lgL L 181 577 (cv m t 289 289))) I) := by
  have K181 : σ.1 181 = (23, 577) := xw_K hS (by decide) (by decide) (by decide)
  have K166 : σ.1 166 = (20, 289) := xw_K hS (by decide) (by decide) (by decide)
  have r12 : ∀ L', xgR (xw (xl σ L') I) 1 11 12 = some 181 := fun L' => kR1_12 (σ := xl σ L') hS
  have lW : ∀ L', xal (xw (xl σ L') I) W = some (nI 289) := fun L' => by
    rw [xal_ok (σ := xw (xl σ L') I) (by show 20 ≤ (σ.1 W).1 ∧ (σ.1 W).1 ≤ 25; rw [hW]; decide)]
    show some (nI (σ.1 W).2) = _
    rw [hW]
  have l166 : ∀ L', xal (xw (xl σ L') I) 166 = some (nI 289) := fun L' => kL166 (σ := xl σ L') hS
  have l181 : ∀ L', xal (xw (xl σ L') I) 181 = some (nI 577) := fun L' => kL181 (σ := xl σ L') hS
  unfold f_X11_joinWays_j13
  rw [r12, Option.bind_some, fillL_ok K181, Option.bind_some]
  have e0 : lgL L 181 577 (fun _ => 0) = lgL L 181 577 (cv m t 289 0) := rfl
  rw [e0]
  refine xforE (fun A : Nat => (nI A, xw (xl σ (lgL L 181 577 (cv m t 289 A))) I)) 289 rfl (fun A hA => ?_) ?_
  · simp only [f_X11_joinWays_b25]
    rw [l166, Option.bind_some, if_neg (by rw [nn_le (by omega) (by omega)]; omega)]
    have a166 : ∀ L', xaI (xw (xl σ L') I) 20 166 (nI A) = some (nI (m A)) := fun L' => by
      rw [← hv A hA]; exact xw_aI (σ := xl σ L') K166 hA (by decide)
    by_cases hz : m A = 0
    · refine (xloop_end (b := (Sum.inl (nI (A + 1), xw (xl σ (lgL L 181 577 (cv m t 289 (A + 1)))) I))) ?_)
      simp only [f_X11_joinWays_b35]
      rw [a166, Option.bind_some, hz, if_pos (show nI 0 = 0 from rfl), ← nI_succ, lgL_cong (f' := cv m t 289 A) (fun k _ => cvR_z hz)]
      rfl
    · have hmA := hm A
      have e1 : lgL L 181 577 (cv m t 289 A) = lgL L 181 577 (cvR m t 289 A 0) := lgL_cong (fun k _ => cvR_0.symm)
      rw [e1]
      refine xforE (fun B : Nat => (nI B, xw (xl σ (lgL L 181 577 (cvR m t 289 A B))) I)) 289 rfl (fun B hB => ?_) ?_
      · simp only [f_X11_joinWays_b35]
        have aW : ∀ L', xaI (xw (xl σ L') I) 20 W (nI B) = some (nI (t B)) := fun L' => by
          rw [← hw B hB]; exact xw_aI (σ := xl σ L') hW hB (by decide)
        rw [a166, Option.bind_some, if_neg (nI_ne0 (by omega) (by omega)), lW, Option.bind_some, if_neg (by rw [nn_le (by omega) (by omega)]; omega), r12, Option.bind_some, l181, Option.bind_some, nn_add, if_neg (by rw [nn_le (by omega) (by omega)]; omega), Option.bind_some, xl_aL K181 (by omega) (by decide), Option.bind_some, Option.bind_some, aW, Option.bind_some, lgL_in (by omega), mul_64 hmA (ht B) (cvR_b hm ht (by omega)), xl_sL K181 (by omega) (by decide), Option.bind_some, lgL_s (by omega), ← nI_succ]
      · simp only [f_X11_joinWays_b35]
        rw [a166, Option.bind_some, if_neg (nI_ne0 (by omega) (by omega)), lW, Option.bind_some, if_pos (by rw [nn_le (by omega) (by omega)]; exact Nat.le_refl _), ← nI_succ]
        rfl
  · simp only [f_X11_joinWays_b25]
    rw [l166, Option.bind_some, if_pos (by decide)]
    rfl
/-- the model's two loops of products -/
theorem prod12 (hS : Shp σ) (hm : ∀ a, m a ≤ 65536) (ht : ∀ a, t a ≤ 65536) (hv : ∀ k, k < 301 → I 197 k = nI (m k)) (hw : ∀ k, k < 301 → I 200 k = nI (t k)) (x2 x3 : Int32) {z : Int64 × XS} (hz : xloop (f_X12_joined_b178 (xw (xl σ (lgL L 201 601 (cv m t 301 301))) I) 183 x2 x3) ((0 : Int32), (0 : Int32)) = some z) :
    xloop (f_X12_joined_b76 183 x2 x3) ((0 : Int32), xw (xl σ L) I) = some z := by
  have K201 : σ.1 201 = (23, 601) := xw_K hS (by decide) (by decide) (by decide)
  have K197 : σ.1 197 = (20, 301) := xw_K hS (by decide) (by decide) (by decide)
  have K200 : σ.1 200 = (20, 301) := xw_K hS (by decide) (by decide) (by decide)
  have r39 : ∀ L', xgR (xw (xl σ L') I) 183 12 39 = some 201 := fun L' => kR183_39 (σ := xl σ L') hS
  have r34 : ∀ L', xgR (xw (xl σ L') I) 183 12 34 = some 197 := fun L' => kR183_34 (σ := xl σ L') hS
  have r38 : ∀ L', xgR (xw (xl σ L') I) 183 12 38 = some 200 := fun L' => kR183_38 (σ := xl σ L') hS
  have prod : xloop (f_X12_joined_b101 183 x2 x3) ((0 : Int32), xw (xl σ (lgL L 201 601 (cv m t 301 0))) I) = some z := by
    refine xforE (fun A : Nat => (nI A, xw (xl σ (lgL L 201 601 (cv m t 301 A))) I)) 301 rfl (fun A hA => ?_) ?_
    · simp only [f_X12_joined_b101]
      rw [if_neg (by rw [show (301 : Int32) = nI 301 from rfl, nn_le (by omega) (by omega)]; omega)]
      have a197 : ∀ L', xaI (xw (xl σ L') I) 20 197 (nI A) = some (nI (m A)) := fun L' => by
        rw [← hv A hA]; exact xw_aI (σ := xl σ L') K197 hA (by decide)
      by_cases hz0 : m A = 0
      · refine (xloop_end (b := (Sum.inl (nI (A + 1), xw (xl σ (lgL L 201 601 (cv m t 301 (A + 1)))) I))) ?_)
        simp only [f_X12_joined_b112]
        rw [if_neg (by decide), r34, Option.bind_some, a197, Option.bind_some, hz0, if_pos (by decide), ← nI_succ, lgL_cong (f' := cv m t 301 A) (fun k _ => cvR_z hz0)]
        rfl
      · have hmA := hm A
        have e1 : lgL L 201 601 (cv m t 301 A) = lgL L 201 601 (cvR m t 301 A 0) := lgL_cong (fun k _ => cvR_0.symm)
        rw [e1]
        refine xforE (fun B : Nat => (nI B, xw (xl σ (lgL L 201 601 (cvR m t 301 A B))) I)) 301 rfl (fun B hB => ?_) ?_
        · simp only [f_X12_joined_b112]
          have a200 : ∀ L', xaI (xw (xl σ L') I) 20 200 (nI B) = some (nI (t B)) := fun L' => by
            rw [← hw B hB]; exact xw_aI (σ := xl σ L') K200 hB (by decide)
          rw [if_neg (by rw [show (301 : Int32) = nI 301 from rfl, nn_le (by omega) (by omega)]; omega), r34, Option.bind_some, a197, Option.bind_some, if_neg (nI_nle (by omega) (by omega)), r39, Option.bind_some, nn_add, xl_aL K201 (by omega) (by decide), Option.bind_some, Option.bind_some, a197, Option.bind_some, r38, Option.bind_some, a200, Option.bind_some, lgL_in (by omega), mul_64 hmA (ht B) (cvR_b hm ht (by omega)), xl_sL K201 (by omega) (by decide), Option.bind_some, lgL_s (by omega), ← nI_succ]
        · simp only [f_X12_joined_b112]
          rw [if_pos (by decide), ← nI_succ]
          rfl
    · simp only [f_X12_joined_b101]
      rw [if_pos (by decide), hz]
      rfl
  refine xforE (fun j : Nat => (nI j, xw (xl σ (lgL L 201 j (fun _ => 0))) I)) 601 (by simp only [lgL_00]; rfl) (fun j hj => ?_) ?_
  · simp only [f_X12_joined_b76]
    rw [if_neg (by rw [show (601 : Int32) = nI 601 from rfl, nn_le (by omega) (by omega)]; omega), r39, Option.bind_some, xl_sL K201 hj (by decide), Option.bind_some, lgL_z, nI_succ]
  · simp only [f_X12_joined_b76]
    rw [if_pos (by decide)]
    have e0 : lgL L 201 601 (fun _ => 0) = lgL L 201 601 (cv m t 301 0) := rfl
    rw [e0, prod]
    rfl
end JOIN
