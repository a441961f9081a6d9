/-! a site is added -/
def lsP (J : Nat → Nat → Int32) (E i : Nat) (F : Nat → Int) (L : List (Nat × Nat)) : Prop := J E 2 = nI L.length ∧ J E 3 = nI (low i L) ∧ ∀ k, k < L.length → J (E + 1) k = nI (L.getD k (0, 0)).1 ∧ J (E + 2) k = iI (F (L.getD k (0, 0)).2)
theorem slI_P {I : Nat → Nat → Int32} {E i : Nat} {F : Nat → Int} {L : List (Nat × Nat)} : lsP (slI I E i F L) E i F L := ⟨slI_2, slI_3, fun k hk => ⟨slI_a hk, slI_b hk⟩⟩
def adI (J : Nat → Nat → Int32) (c i : Nat) (P : Nat → Int) (M : Nat) : Nat → Nat → Int32 := fun d k => if d = c ∧ k < M then J c k + iI (P k) else if d = c ∧ 2 ^ i ≤ k ∧ k < 2 ^ i + M then J c (k - 2 ^ i) - iI (P (k - 2 ^ i)) else J d k
theorem adI_0 {J : Nat → Nat → Int32} {c i : Nat} {P : Nat → Int} : adI J c i P 0 = J := by
  funext d k
  unfold adI
  rw [if_neg (by omega), if_neg (by omega)]
theorem adI_out {J : Nat → Nat → Int32} {c i : Nat} {P : Nat → Int} {M d k : Nat} (h : d ≠ c) : adI J c i P M d k = J d k := by
  unfold adI
  rw [if_neg (fun z => h z.1), if_neg (fun z => h z.1)]
theorem adI_at {J : Nat → Nat → Int32} {c i : Nat} {P : Nat → Int} {M : Nat} (h : M < 2 ^ i) : adI J c i P M c M = J c M := by
  unfold adI
  rw [if_neg (by omega), if_neg (by omega)]
theorem adI_s {J : Nat → Nat → Int32} {c i : Nat} {P : Nat → Int} {M : Nat} (h : M < 2 ^ i) : xup (xup (adI J c i P M) c (2 ^ i + M) (J c M - iI (P M))) c M (J c M + iI (P M)) = adI J c i P (M + 1) := by
  funext d k
  simp only [xup_at, adI]
  by_cases h0 : d = c
  · subst h0
    simp only [true_and]
    by_cases h1 : k = M
    · subst h1
      rw [if_pos rfl, if_pos (by omega)]
    · rw [if_neg h1]
      by_cases h2 : k = 2 ^ i + M
      · subst h2
        rw [if_pos rfl, if_neg (by omega), if_pos (by omega), show 2 ^ i + M - 2 ^ i = M by omega]
      · rw [if_neg h2]
        by_cases h3 : k < M
        · rw [if_pos h3, if_pos (by omega)]
        · rw [if_neg h3, if_neg (show ¬ k < M + 1 by omega)]
          by_cases h4 : 2 ^ i ≤ k ∧ k < 2 ^ i + M
          · rw [if_pos h4, if_pos (by omega)]
          · rw [if_neg h4, if_neg (by omega)]
  · simp [h0]
section ADD
variable {σ : XS} {J : Nat → Nat → Int32} {E c m : Nat}
theorem pulled_ok (hS : Shp σ) (hE : EnO σ E c m) {i s : Nat} {F : Nat → Int} {L : List (Nat × Nat)} (hL : lsP J E i F L) (hl : L.length ≤ 4) (hb : ∀ q ∈ L, q.1 < 32) (hs : s < 2147483648) : f_X2_pulledByMates (xw σ J) E (nI s) = some (iI ((L.map (fun q => if s.testBit q.1 then F q.2 else -F q.2)).sum)) := by
  unfold f_X2_pulledByMates
  rw [← lsum_get _ (0, 0)]
  refine xforE (fun j : Nat => (iI (fb_si (fun j => (fun q : Nat × Nat => if s.testBit q.1 then F q.2 else -F q.2) (L.getD j (0, 0))) j), nI j)) L.length rfl (fun j hj => ?_) ?_
  · simp only [f_X2_pulledByMates_b4]
    have hq := hb (L.getD j (0, 0)) (by rw [List.getD_eq_getElem?_getD, List.getElem?_eq_getElem hj]; exact List.getElem_mem hj)
    have e4 : (nI L.length ≤ nI j) = False := by rw [nn_le (by omega) (by omega)]; exact eq_false (by omega)
    have e5 : ((4 : Int32) ≤ nI j) = False := by rw [show (4 : Int32) = nI 4 from rfl, nn_le (by omega) (by omega)]; exact eq_false (by omega)
    simp only [xw_gI (hE.T hS), Option.bind_some, hL.1, e4, e5, if_false, xw_gR, hE.R0 hS, hE.R1 hS, xw_aI (hE.K1 hS) (show j < 4 by omega) (show 4 < 2147483648 by decide), xw_aI (hE.K2 hS) (show j < 4 by omega) (show 4 < 2147483648 by decide), (hL.2.2 j hj).1, (hL.2.2 j hj).2, nn_bit hs hq, bI_1, iI_neg, iI_add, fb_si_succ, ← nI_succ]
    by_cases hbit : s.testBit (L.getD j (0, 0)).1 = true
    · rw [if_pos hbit, if_pos hbit]
    · rw [if_neg hbit, if_neg hbit]
  · simp only [f_X2_pulledByMates_b4]
    rw [xw_gI (hE.T hS), Option.bind_some, hL.1, if_pos (by rw [nn_le (by omega) (by omega)]; exact Nat.le_refl _)]
    rfl
theorem add_in (hS : Shp σ) (hE : EnO σ E c m) {i bk fi n : Nat} {x2 : Int32} (P : Nat → Int) (z : Int) (hi : i ≤ 15) (hm : 2 ^ (i + 1) ≤ m) (hf : fi + n ≤ 2 ^ i) (hz : ∀ r, r < n → P (fi + r) = z) :
    xloop (f_X2_addSite_b35 E x2 (nI (2 ^ i)) (nI n) (nI fi) (iI z)) (nI fi, xw σ (adI J c i P fi)) = some (.inl (nI (fi + n), xw σ (adI J c i P (fi + n)))) := by
  have hp : 2 ^ (i + 1) = 2 ^ i + 2 ^ i := by rw [Nat.pow_succ]; omega
  have hp2 : 2 ^ i ≤ 2 ^ 15 := Nat.pow_le_pow_right (by decide) hi
  have hp3 : (2 : Nat) ^ 15 = 32768 := by decide
  refine xforE (fun r : Nat => (nI (fi + r), xw σ (adI J c i P (fi + r)))) n rfl (fun r hr => ?_) ?_
  · simp only [f_X2_addSite_b35]
    have e1 : (nI (fi + n) ≤ nI (fi + r)) = False := by rw [nn_le (by omega) (by omega)]; exact eq_false (by omega)
    have e2 : (nI m ≤ nI (2 ^ i + (fi + r))) = False := by
      have := hE.2.2.2.1
      rw [nn_le (by omega) (by omega)]; exact eq_false (by omega)
    have e3 : adI J c i P (fi + r) c (fi + r) = J c (fi + r) := adI_at (by omega)
    have e4 : ¬ (fi + r = 2 ^ i + (fi + r)) := by have := Nat.two_pow_pos i; omega
    have h1 := xw_aI (σ := σ) (I := adI J c i P (fi + r)) hE.2.2.1 (show fi + r < m by omega) (by have := hE.2.2.2.1; omega)
    simp only [e1, if_false, xw_gR, hE.R4 hS, Option.bind_some, xw_al, hE.L, e2, h1, e3, nn_add, xw_sI hE.2.2.1 (show 2 ^ i + (fi + r) < m by omega) (show m < 2147483648 by have := hE.2.2.2.1; omega), xw_aI hE.2.2.1 (show fi + r < m by omega) (show m < 2147483648 by have := hE.2.2.2.1; omega), xup_at, e4, and_false, xw_sI hE.2.2.1 (show fi + r < m by omega) (show m < 2147483648 by have := hE.2.2.2.1; omega)]
    rw [← hz r hr, adI_s (by omega), ← nI_succ]
    rfl
  · simp only [f_X2_addSite_b35]
    rw [if_pos (by rw [nn_add, nn_le (by omega) (by omega)]; exact Nat.le_refl _), nn_add]
    rfl
theorem add_ok (hS : Shp σ) {g : GD} (hg : g ∈ gAll) (hE : EnO σ E c m) {i : Nat} {F : Nat → Int} (hi : i < gSz g) (hm : 2 ^ (i + 1) ≤ m) (hL : lsP J E i F (lwM g F i)) {v : Int32} (hv : v = iI (F (32 + i))) :
    f_X2_addSite (xw σ J) E (nI i) v = some (xw σ (adI J c i (plS g F i) (2 ^ i))) := by
  have h16 := (gAll_b g hg).2.2.1
  have hM := gMt_b g hg i (by omega)
  have hlo := low_le (lwM g F i) i
  have hl4 : (lwM g F i).length ≤ 4 := Nat.le_trans (List.length_filter_le _ _) hM.1
  have hlb : ∀ q ∈ lwM g F i, q.1 < 32 := fun q hq => by have := hM.2 q (List.mem_filter.mp hq).1; omega
  have hEb := hE.b
  obtain ⟨lo, hlo2⟩ : ∃ lo, lo = low i (lwM g F i) := ⟨_, rfl⟩
  rw [← hlo2] at hlo
  have hpp : 2 ^ i = 2 ^ (i - lo) * 2 ^ lo := by rw [← Nat.pow_add]; congr 1; omega
  have hp2 : 2 ^ i ≤ 2 ^ 15 := Nat.pow_le_pow_right (by decide) (by omega)
  have hp3 : (2 : Nat) ^ 15 = 32768 := by decide
  have hpl : 0 < 2 ^ lo := Nat.two_pow_pos lo
  unfold f_X2_addSite
  rw [xw_gI (hE.T hS), Option.bind_some, hL.2.1, ← hlo2, nn_one (by omega), nn_one (by omega)]
  refine xforE (fun b : Nat => (nI (b * 2 ^ lo), xw σ (adI J c i (plS g F i) (b * 2 ^ lo)))) (2 ^ (i - lo)) (by simp only [Nat.zero_mul, adI_0]; rfl) (fun b hb => ?_) ?_
  · have hb2 : (b + 1) * 2 ^ lo ≤ 2 ^ i := by rw [hpp]; exact Nat.mul_le_mul_right _ hb
    have hb3 : (b + 1) * 2 ^ lo = b * 2 ^ lo + 2 ^ lo := by rw [Nat.succ_mul]
    have hL2 : lsP (adI J c i (plS g F i) (b * 2 ^ lo)) E i F (lwM g F i) := by
      refine ⟨?_, ?_, fun k hk => ⟨?_, ?_⟩⟩
      · rw [adI_out (by omega)]; exact hL.1
      · rw [adI_out (by omega)]; exact hL.2.1
      · rw [adI_out (by omega)]; exact (hL.2.2 k hk).1
      · rw [adI_out (by omega)]; exact (hL.2.2 k hk).2
    simp only [f_X2_addSite_b15]
    rw [if_neg (by rw [nn_le (by omega) (by omega)]; omega), xw_ck, xck_ok (hE.T hS), Option.bind_some, pulled_ok hS hE hL2 hl4 hlb (by omega), Option.bind_some, hv, iI_add]
    rw [hb3]
    exact add_in (bk := 0) hS hE (plS g F i) (plS g F i (b * 2 ^ lo)) (by omega) hm (by omega) (fun r hr => plS_block (fun q hq => hlo.2 q hq) hr)
  · simp only [f_X2_addSite_b15]
    rw [← hpp, if_pos (by rw [nn_le (by omega) (by omega)]; exact Nat.le_refl _)]
    rfl
end ADD
