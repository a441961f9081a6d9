/-! rows of longs; products of counts -/
def xl (σ : XS) (L : Nat → Nat → Int64) : XS := (σ.1, σ.2.1, L, σ.2.2.2)
theorem xl_Shp {σ : XS} {L : Nat → Nat → Int64} (h : Shp σ) : Shp (xl σ L) := h
theorem xl_aL {σ : XS} {L : Nat → Nat → Int64} {I : Nat → Nat → Int32} {a n i : Nat} (h : σ.1 a = (23, n)) (hi : i < n) (hn : n < 2147483648) : xaL (xw (xl σ L) I) a (nI i) = some (L a i) := xaL_ok (σ := xw (xl σ L) I) (n := n) (congrArg Prod.fst h) (congrArg Prod.snd h) hi hn
theorem xl_sL {σ : XS} {L : Nat → Nat → Int64} {I : Nat → Nat → Int32} {a n i : Nat} {v : Int64} (h : σ.1 a = (23, n)) (hi : i < n) (hn : n < 2147483648) : xsL (xw (xl σ L) I) a (nI i) v = some (xw (xl σ (xup L a i v)) I) := xsL_ok (σ := xw (xl σ L) I) (n := n) (congrArg Prod.fst h) (congrArg Prod.snd h) hi hn
theorem IV.longs {n : Nat} {σ : XS} {g : GD} {gT gP : GH} {st : Nat} {L : Nat → Nat → Int64} (H : IV n σ g gT gP st) (h : ∀ k, L 190 k = xL σ 190 k) : IV n (xl σ L) g gT gP st := by
  obtain ⟨a, b, h1, h2, h3, h4, h5, h6, h7, h8, h9, h10, h11, h12⟩ := H.cel
  exact ⟨H.shp, H.stn, H.sts, H.tap, H.plc, H.grd, H.now, H.pst, H.slt, H.cch, H.knw, a, b, h1, h2, h3, h4, h5, h6, h7, h8, h9, h10, h11, fun k hk => (h k).trans (h12 k hk)⟩
/-- the sum over a < A of m a * t (e - a), t having N places -/
def cv (m t : Nat → Nat) (N A e : Nat) : Nat := fb_sm (fun a => if a ≤ e ∧ e < a + N then m a * t (e - a) else 0) A
theorem cv_b {m t : Nat → Nat} (hm : ∀ a, m a ≤ 65536) (ht : ∀ a, t a ≤ 65536) (N A e : Nat) : cv m t N A e ≤ A * 4294967296 := by
  unfold cv
  refine fb_sm_bound (fun a _ => ?_)
  split
  · exact Nat.mul_le_mul (hm a) (ht (e - a))
  · exact Nat.zero_le _
theorem cv_s {m t : Nat → Nat} {N A e : Nat} : cv m t N (A + 1) e = cv m t N A e + (if A ≤ e ∧ e < A + N then m A * t (e - A) else 0) := rfl
theorem cv_shift {m t m' t' : Nat → Nat} (hm : ∀ a, a < 289 → m' (6 + a) = m a) (hm0 : ∀ a, a < 6 ∨ 295 ≤ a → m' a = 0) (ht : ∀ a, a < 289 → t' (6 + a) = t a) (ht0 : ∀ a, a < 6 ∨ 295 ≤ a → t' a = 0) {e : Nat} : cv m' t' 301 301 (12 + e) = cv m t 289 289 e := by
  unfold cv
  rw [show (301 : Nat) = 6 + 295 from rfl, fb_sm_split, show (295 : Nat) = 289 + 6 from rfl, fb_sm_split]
  have z1 : fb_sm (fun a => if a ≤ 12 + e ∧ 12 + e < a + (6 + (289 + 6)) then m' a * t' (12 + e - a) else 0) 6 = 0 := by
    have := fb_sm_cong (f := fun a => if a ≤ 12 + e ∧ 12 + e < a + (6 + (289 + 6)) then m' a * t' (12 + e - a) else 0) (g := fun _ => 0) (n := 6) (fun a ha => by
      show (if _ then _ else _) = 0
      rw [hm0 a (by omega)]; split <;> simp)
    rw [this, fb_sm_const]
  have z2 : fb_sm (fun k => (fun k => (fun a => if a ≤ 12 + e ∧ 12 + e < a + (6 + (289 + 6)) then m' a * t' (12 + e - a) else 0) (6 + k)) (289 + k)) 6 = 0 := by
    have := fb_sm_cong (f := fun k => (fun k => (fun a => if a ≤ 12 + e ∧ 12 + e < a + (6 + (289 + 6)) then m' a * t' (12 + e - a) else 0) (6 + k)) (289 + k)) (g := fun _ => 0) (n := 6) (fun a ha => by
      show (if _ then m' (6 + (289 + a)) * _ else _) = 0
      rw [hm0 (6 + (289 + a)) (by omega)]; split <;> simp)
    rw [this, fb_sm_const]
  rw [z1, z2, Nat.zero_add, Nat.add_zero]
  refine fb_sm_cong (fun a ha => ?_)
  show (if 6 + a ≤ 12 + e ∧ 12 + e < 6 + a + (6 + (289 + 6)) then m' (6 + a) * t' (12 + e - (6 + a)) else 0) = _
  rw [hm a ha]
  by_cases h1 : a ≤ e ∧ e < a + 289
  · rw [if_pos h1, if_pos (by omega), show 12 + e - (6 + a) = 6 + (e - a) by omega, ht (e - a) (by omega)]
  · rw [if_neg h1]
    split
    · rw [ht0 _ (by omega), Nat.mul_zero]
    · rfl
theorem cv_out {m t m' t' : Nat → Nat} (hm0 : ∀ a, a < 6 ∨ 295 ≤ a → m' a = 0) (ht0 : ∀ a, a < 6 ∨ 295 ≤ a → t' a = 0) {e : Nat} (he : e < 12 ∨ 589 ≤ e) : cv m' t' 301 301 e = 0 := by
  unfold cv
  have := fb_sm_cong (f := fun a => if a ≤ e ∧ e < a + 301 then m' a * t' (e - a) else 0) (g := fun _ => 0) (n := 301) (fun a ha => by
    show (if _ then _ else _) = 0
    split
    · by_cases h : a < 6 ∨ 295 ≤ a
      · rw [hm0 a h, Nat.zero_mul]
      · rw [ht0 (e - a) (by omega), Nat.mul_zero]
    · rfl)
  rw [this, fb_sm_const]
/-- the row of longs as it grows: all a < A, and b < B of a = A -/
def cvR (m t : Nat → Nat) (N A B e : Nat) : Nat := cv m t N A e + (if A ≤ e ∧ e < A + B then m A * t (e - A) else 0)
def lgL (L : Nat → Nat → Int64) (r n : Nat) (f : Nat → Nat) : Nat → Nat → Int64 := fun a k => if a = r ∧ k < n then lN (f k) else L a k
theorem lgL_out {L : Nat → Nat → Int64} {r n : Nat} {f : Nat → Nat} {a k : Nat} (h : a ≠ r) : lgL L r n f a k = L a k := by unfold lgL; rw [if_neg (fun z => h z.1)]
theorem lgL_in {L : Nat → Nat → Int64} {r n : Nat} {f : Nat → Nat} {k : Nat} (h : k < n) : lgL L r n f r k = lN (f k) := by unfold lgL; rw [if_pos ⟨rfl, h⟩]
theorem lgL_cong {L : Nat → Nat → Int64} {r n : Nat} {f f' : Nat → Nat} (h : ∀ k, k < n → f k = f' k) : lgL L r n f = lgL L r n f' := by
  funext a k
  unfold lgL
  by_cases z : a = r ∧ k < n
  · rw [if_pos z, if_pos z, h k z.2]
  · rw [if_neg z, if_neg z]
theorem lgL_s {L : Nat → Nat → Int64} {r n A B : Nat} {m t : Nat → Nat} {N : Nat} (h : A + B < n) : xup (lgL L r n (cvR m t N A B)) r (A + B) (lN (cvR m t N A B (A + B) + m A * t B)) = lgL L r n (cvR m t N A (B + 1)) := by
  funext a k
  show (if a = r ∧ k = A + B then _ else lgL L r n (cvR m t N A B) a k) = _
  unfold lgL
  by_cases h1 : a = r
  · subst h1
    by_cases h2 : k = A + B
    · subst h2
      rw [if_pos ⟨rfl, rfl⟩, if_pos ⟨rfl, h⟩]
      unfold cvR
      rw [if_neg (by omega), if_pos (by omega), show A + B - A = B by omega]
      rfl
    · rw [if_neg (fun z => h2 z.2)]
      by_cases h3 : k < n
      · rw [if_pos ⟨rfl, h3⟩, if_pos ⟨rfl, h3⟩]
        unfold cvR
        congr 2
        have : (A ≤ k ∧ k < A + B) ↔ (A ≤ k ∧ k < A + (B + 1)) := by omega
        simp only [this]
      · rw [if_neg (fun z => h3 z.2), if_neg (fun z => h3 z.2)]
  · rw [if_neg (fun z => h1 z.1), if_neg (fun z => h1 z.1), if_neg (fun z => h1 z.1)]
theorem cvR_0 {m t : Nat → Nat} {N A e : Nat} : cvR m t N A 0 e = cv m t N A e := by unfold cvR; rw [if_neg (by omega), Nat.add_zero]
theorem cvR_N {m t : Nat → Nat} {N A e : Nat} : cvR m t N A N e = cv m t N (A + 1) e := rfl
theorem cvR_z {m t : Nat → Nat} {N A e : Nat} (h : m A = 0) : cv m t N (A + 1) e = cv m t N A e := by
  rw [cv_s, h, Nat.zero_mul]
  split <;> rfl
