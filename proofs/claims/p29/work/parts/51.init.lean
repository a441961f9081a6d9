theorem xurI_self {σ : XS} {a : Nat} : xurI σ a (xI σ a) = σ := by
  obtain ⟨s1, s2, s3⟩ := σ
  show (s1, (fun c j => if c = a then s2 a j else s2 c j), s3) = (s1, s2, s3)
  congr 2
  funext c j
  by_cases h : c = a
  · rw [if_pos h, h]
  · rw [if_neg h]
theorem xuI_ur {σ : XS} {a k : Nat} {f : Nat → Int32} {v : Int32} : xuI (xurI σ a f) a k v = xurI σ a (fun j => if j = k then v else f j) := by
  obtain ⟨s1, s2, s3⟩ := σ
  show (s1, xup (fun c j => if c = a then f j else s2 c j) a k v, s3) = (s1, (fun c j => if c = a then (if j = k then v else f j) else s2 c j), s3)
  congr 2
  funext c j
  unfold xup
  by_cases h : c = a
  · by_cases h2 : j = k <;> simp [h, h2]
  · simp [h]
theorem fill_ok {σ : XS} {a n : Nat} {v : Int32} (hT : xT σ a = 20) (hl : xlen σ a = n) (hn : n < 2 ^ 31) : f_J7_fill_53178 σ a v = some (xurI σ a (fun j => if j < n then v else xI σ a j)) := by
  unfold f_J7_fill_53178
  rw [xal_ok (by omega), hl, Option.bind_some]
  have e0 : ((0 : Int32), σ) = (fun k => (nI k, xurI σ a (fun j => if j < k then v else xI σ a j))) 0 := by
    show ((0 : Int32), σ) = (nI 0, xurI σ a (fun j => if j < 0 then v else xI σ a j))
    rw [show (fun j => if j < 0 then v else xI σ a j) = xI σ a from funext fun j => if_neg (Nat.not_lt_zero j), xurI_self]
    rfl
  rw [e0]
  refine xfor (s := fun k => (nI k, xurI σ a (fun j => if j < k then v else xI σ a j))) n (fun k hk => ?_) ?_
  · have h1 : ¬ nI n ≤ nI k := nI_ge hk hn
    have h2 := xsI_ok (σ := xurI σ a (fun j => if j < k then v else xI σ a j)) (a := a) (q := 20) (i := k) (n := n) (v := v) hT hl hk hn
    simp only [f_J7_fill_53178_b5, if_neg h1, h2, Option.bind_some]
    rw [show nI k + (1 : Int32) = nI (k + 1) from nI_add k 1, xuI_ur]
    congr 4
    funext j
    by_cases q : j = k
    · subst q
      rw [if_pos rfl, if_pos (Nat.lt_succ_self _)]
    · rw [if_neg q]
      by_cases q2 : j < k
      · rw [if_pos q2, if_pos (Nat.lt_succ_of_lt q2)]
      · rw [if_neg q2, if_neg (by omega)]
  · have h1 : nI n ≤ nI n := nI_le (Nat.le_refl _) hn
    simp only [f_J7_fill_53178_b5, if_pos h1, Option.map_some]
/-! the constructors -/
def bF (σ : XS) (r j q n : Nat) : XS := xuR (xnew σ q n n) r j (xn σ + 1)
theorem bF_T {σ : XS} {r j q n b : Nat} (h : b ≤ xn σ) : xT (bF σ r j q n) b = xT σ b := by
  unfold bF
  rw [hT_uR, hT_new, if_neg (by omega)]
theorem bF_n {σ : XS} {r j q n : Nat} : xn (bF σ r j q n) = xn σ + 1 := rfl
theorem arrF {σ : XS} {r c j q n : Nat} {β : Type} {k : XS → Option β} {f : Nat × XS → Option β} (hT : xT σ r = c) (hr : r ≤ xn σ) (hn : n ≤ 67108864) (hf : ∀ z τ, f (z, τ) = (xnz z).bind fun _ => (xpR τ r c j z).bind k) : (xnA σ q (nI n)).bind f = k (bF σ r j q n) := by
  rw [xnA_ok hn, Option.bind_some, hf, xnz_ok (by omega), Option.bind_some, xpR_ok (by rw [hT_new, if_neg (by omega)]; exact hT), Option.bind_some]
  rfl
def bSetup (σ : XS) (r : Nat) : XS := bF (bF σ r 0 20 32) r 1 20 16
theorem i6 {σ : XS} {r : Nat} (hT : xT σ r = 6) (hr : r ≤ xn σ) : f_X6_init σ r = some (bSetup σ r) := by
  refine (arrF (n := 32) (c := 6) (j := 0) (k := fun σ3 => (xnA σ3 20 (nI 16)).bind fun (z5, σ6) => f_X6_init_j17 σ6 r z5) hT hr (by decide) (fun z τ => rfl)).trans ?_
  exact arrF (n := 16) (c := 6) (j := 1) (k := some) (by rw [bF_T hr]; exact hT) (by rw [bF_n]; omega) (by decide) (fun z τ => rfl)

def bTape (σ : XS) (r : Nat) : XS := bF (bF (bF (bF σ r 0 21 2000) r 1 20 400) r 2 20 400) r 3 20 400
theorem i8 {σ : XS} {r : Nat} (hT : xT σ r = 8) (hr : r ≤ xn σ) : f_X8_init σ r = some (bTape σ r) := by
  refine (arrF (n := 2000) (c := 8) (j := 0) hT hr (by decide) (fun z τ => rfl)).trans ?_
  have hT0 : xT (bF σ r 0 21 2000) r = 8 := by rw [bF_T hr]; exact hT
  have hr0 : r ≤ xn (bF σ r 0 21 2000) := by rw [bF_n]; omega
  refine (arrF (n := 400) (c := 8) (j := 1) hT0 hr0 (by decide) (fun z τ => rfl)).trans ?_
  have hT1 : xT (bF (bF σ r 0 21 2000) r 1 20 400) r = 8 := by rw [bF_T hr0]; exact hT0
  have hr1 : r ≤ xn (bF (bF σ r 0 21 2000) r 1 20 400) := by rw [bF_n]; omega
  refine (arrF (n := 400) (c := 8) (j := 2) hT1 hr1 (by decide) (fun z τ => rfl)).trans ?_
  have hT2 : xT (bF (bF (bF σ r 0 21 2000) r 1 20 400) r 2 20 400) r = 8 := by rw [bF_T hr1]; exact hT1
  have hr2 : r ≤ xn (bF (bF (bF σ r 0 21 2000) r 1 20 400) r 2 20 400) := by rw [bF_n]; omega
  exact arrF (n := 400) (c := 8) (j := 3) (k := some) hT2 hr2 (by decide) (fun z τ => rfl)
def bLevels (σ : XS) (r : Nat) : XS := xuI (bF (bF (bF (bF σ r 0 20 289) r 1 20 289) r 2 20 4913) r 3 20 289) r 5 (-1)
theorem i4 {σ : XS} {r : Nat} (hT : xT σ r = 4) (hr : r ≤ xn σ) : f_X4_init σ r = some (bLevels σ r) := by
  refine (arrF (n := 289) (c := 4) (j := 0) hT hr (by decide) (fun z τ => rfl)).trans ?_
  have hT0 : xT (bF σ r 0 20 289) r = 4 := by rw [bF_T hr]; exact hT
  have hr0 : r ≤ xn (bF σ r 0 20 289) := by rw [bF_n]; omega
  refine (arrF (n := 289) (c := 4) (j := 1) hT0 hr0 (by decide) (fun z τ => rfl)).trans ?_
  have hT1 : xT (bF (bF σ r 0 20 289) r 1 20 289) r = 4 := by rw [bF_T hr0]; exact hT0
  have hr1 : r ≤ xn (bF (bF σ r 0 20 289) r 1 20 289) := by rw [bF_n]; omega
  refine (arrF (n := 4913) (c := 4) (j := 2) hT1 hr1 (by decide) (fun z τ => rfl)).trans ?_
  have hT2 : xT (bF (bF (bF σ r 0 20 289) r 1 20 289) r 2 20 4913) r = 4 := by rw [bF_T hr1]; exact hT1
  have hr2 : r ≤ xn (bF (bF (bF σ r 0 20 289) r 1 20 289) r 2 20 4913) := by rw [bF_n]; omega
  refine (arrF (n := 289) (c := 4) (j := 3) hT2 hr2 (by decide) (fun z τ => rfl)).trans ?_
  have hT3 : xT (bF (bF (bF (bF σ r 0 20 289) r 1 20 289) r 2 20 4913) r 3 20 289) r = 4 := by rw [bF_T hr2]; exact hT2
  have hr3 : r ≤ xn (bF (bF (bF (bF σ r 0 20 289) r 1 20 289) r 2 20 4913) r 3 20 289) := by rw [bF_n]; omega
  rw [xpI_ok hT3, Option.bind_some]
  rfl
def bBreaks (σ : XS) (r : Nat) : XS := xuI (bF (bF (bF σ r 0 20 33) r 1 20 32) r 2 20 16) r 3 (-1)
theorem i0 {σ : XS} {r : Nat} (hT : xT σ r = 0) (hr : r ≤ xn σ) : f_X0_init σ r = some (bBreaks σ r) := by
  refine (arrF (n := 33) (c := 0) (j := 0) hT hr (by decide) (fun z τ => rfl)).trans ?_
  have hT0 : xT (bF σ r 0 20 33) r = 0 := by rw [bF_T hr]; exact hT
  have hr0 : r ≤ xn (bF σ r 0 20 33) := by rw [bF_n]; omega
  refine (arrF (n := 32) (c := 0) (j := 1) hT0 hr0 (by decide) (fun z τ => rfl)).trans ?_
  have hT1 : xT (bF (bF σ r 0 20 33) r 1 20 32) r = 0 := by rw [bF_T hr0]; exact hT0
  have hr1 : r ≤ xn (bF (bF σ r 0 20 33) r 1 20 32) := by rw [bF_n]; omega
  refine (arrF (n := 16) (c := 0) (j := 2) hT1 hr1 (by decide) (fun z τ => rfl)).trans ?_
  have hT2 : xT (bF (bF (bF σ r 0 20 33) r 1 20 32) r 2 20 16) r = 0 := by rw [bF_T hr1]; exact hT1
  have hr2 : r ≤ xn (bF (bF (bF σ r 0 20 33) r 1 20 32) r 2 20 16) := by rw [bF_n]; omega
  rw [xpI_ok hT2, Option.bind_some]
  rfl
def bTerrain (σ : XS) (r : Nat) : XS := xuI (bF (bF (bF (bF (bF σ r 0 20 1024) r 1 20 289) r 2 20 1024) r 3 20 1024) r 4 23 1024) r 10 (-1)
theorem i9 {σ : XS} {r : Nat} (hT : xT σ r = 9) (hr : r ≤ xn σ) : f_X9_init σ r = some (bTerrain σ r) := by
  refine (arrF (n := 1024) (c := 9) (j := 0) hT hr (by decide) (fun z τ => rfl)).trans ?_
  have hT0 : xT (bF σ r 0 20 1024) r = 9 := by rw [bF_T hr]; exact hT
  have hr0 : r ≤ xn (bF σ r 0 20 1024) := by rw [bF_n]; omega
  refine (arrF (n := 289) (c := 9) (j := 1) hT0 hr0 (by decide) (fun z τ => rfl)).trans ?_
  have hT1 : xT (bF (bF σ r 0 20 1024) r 1 20 289) r = 9 := by rw [bF_T hr0]; exact hT0
  have hr1 : r ≤ xn (bF (bF σ r 0 20 1024) r 1 20 289) := by rw [bF_n]; omega
  refine (arrF (n := 1024) (c := 9) (j := 2) hT1 hr1 (by decide) (fun z τ => rfl)).trans ?_
  have hT2 : xT (bF (bF (bF σ r 0 20 1024) r 1 20 289) r 2 20 1024) r = 9 := by rw [bF_T hr1]; exact hT1
  have hr2 : r ≤ xn (bF (bF (bF σ r 0 20 1024) r 1 20 289) r 2 20 1024) := by rw [bF_n]; omega
  refine (arrF (n := 1024) (c := 9) (j := 3) hT2 hr2 (by decide) (fun z τ => rfl)).trans ?_
  have hT3 : xT (bF (bF (bF (bF σ r 0 20 1024) r 1 20 289) r 2 20 1024) r 3 20 1024) r = 9 := by rw [bF_T hr2]; exact hT2
  have hr3 : r ≤ xn (bF (bF (bF (bF σ r 0 20 1024) r 1 20 289) r 2 20 1024) r 3 20 1024) := by rw [bF_n]; omega
  refine (arrF (n := 1024) (c := 9) (j := 4) hT3 hr3 (by decide) (fun z τ => rfl)).trans ?_
  have hT4 : xT (bF (bF (bF (bF (bF σ r 0 20 1024) r 1 20 289) r 2 20 1024) r 3 20 1024) r 4 23 1024) r = 9 := by rw [bF_T hr3]; exact hT3
  have hr4 : r ≤ xn (bF (bF (bF (bF (bF σ r 0 20 1024) r 1 20 289) r 2 20 1024) r 3 20 1024) r 4 23 1024) := by rw [bF_n]; omega
  rw [xpI_ok hT4, Option.bind_some]
  rfl
def bEnergies (σ : XS) (r : Nat) : XS := xuI (bF (bF (bF σ r 0 20 4) r 1 20 4) r 4 20 1) r 5 (-1)
theorem i2 {σ : XS} {r : Nat} (hT : xT σ r = 2) (hr : r ≤ xn σ) : f_X2_init σ r = some (bEnergies σ r) := by
  refine (arrF (n := 4) (c := 2) (j := 0) hT hr (by decide) (fun z τ => rfl)).trans ?_
  have hT0 : xT (bF σ r 0 20 4) r = 2 := by rw [bF_T hr]; exact hT
  have hr0 : r ≤ xn (bF σ r 0 20 4) := by rw [bF_n]; omega
  refine (arrF (n := 4) (c := 2) (j := 1) hT0 hr0 (by decide) (fun z τ => rfl)).trans ?_
  have hT1 : xT (bF (bF σ r 0 20 4) r 1 20 4) r = 2 := by rw [bF_T hr0]; exact hT0
  have hr1 : r ≤ xn (bF (bF σ r 0 20 4) r 1 20 4) := by rw [bF_n]; omega
  refine (arrF (n := 1) (c := 2) (j := 4) hT1 hr1 (by decide) (fun z τ => rfl)).trans ?_
  have hT2 : xT (bF (bF (bF σ r 0 20 4) r 1 20 4) r 4 20 1) r = 2 := by rw [bF_T hr1]; exact hT1
  have hr2 : r ≤ xn (bF (bF (bF σ r 0 20 4) r 1 20 4) r 4 20 1) := by rw [bF_n]; omega
  rw [xpI_ok hT2, Option.bind_some]
  rfl
theorem bF_R {σ : XS} {r j q n b k : Nat} (h : b ≤ xn σ) (hb : b ≠ r) : xR (bF σ r j q n) b k = xR σ b k := by
  unfold bF
  rw [hR_uR, if_neg (fun h => hb h.1), hR_new, if_neg (by omega)]
theorem bF_l {σ : XS} {r j q n b : Nat} (h : b ≤ xn σ) : xlen (bF σ r j q n) b = xlen σ b := by
  unfold bF
  rw [hl_uR, hl_new, if_neg (by omega)]
theorem bF_new {σ : XS} {r j q n : Nat} : xT (bF σ r j q n) (xn σ + 1) = q ∧ xlen (bF σ r j q n) (xn σ + 1) = n ∧ xR (bF σ r j q n) r j = xn σ + 1 := by
  unfold bF
  refine ⟨by rw [hT_uR, hT_new, if_pos rfl], by rw [hl_uR, hl_new, if_pos rfl], by rw [hR_uR, if_pos ⟨rfl, rfl⟩]⟩
def bGrid4 (σ : XS) (r : Nat) : XS := bF (bF (bF (bF σ r 0 20 32) r 1 20 64) r 2 20 64) r 3 20 16
def bGrid (σ : XS) (r : Nat) : XS := xurI (bGrid4 σ r) (xn σ + 1) (fun j => if j < 32 then (-1) else xI (bGrid4 σ r) (xn σ + 1) j)
theorem i3 {σ : XS} {r : Nat} (hT : xT σ r = 3) (hr : r ≤ xn σ) (hr0 : r ≠ 0) : f_X3_init σ r = some (bGrid σ r) := by
  refine (arrF (n := 32) (c := 3) (j := 0) hT hr (by decide) (fun z τ => rfl)).trans ?_
  have hT0 : xT (bF σ r 0 20 32) r = 3 := by rw [bF_T hr]; exact hT
  have hr0 : r ≤ xn (bF σ r 0 20 32) := by rw [bF_n]; omega
  refine (arrF (n := 64) (c := 3) (j := 1) hT0 hr0 (by decide) (fun z τ => rfl)).trans ?_
  have hT1 : xT (bF (bF σ r 0 20 32) r 1 20 64) r = 3 := by rw [bF_T hr0]; exact hT0
  have hr1 : r ≤ xn (bF (bF σ r 0 20 32) r 1 20 64) := by rw [bF_n]; omega
  refine (arrF (n := 64) (c := 3) (j := 2) hT1 hr1 (by decide) (fun z τ => rfl)).trans ?_
  have hT2 : xT (bF (bF (bF σ r 0 20 32) r 1 20 64) r 2 20 64) r = 3 := by rw [bF_T hr1]; exact hT1
  have hr2 : r ≤ xn (bF (bF (bF σ r 0 20 32) r 1 20 64) r 2 20 64) := by rw [bF_n]; omega
  refine (arrF (n := 16) (c := 3) (j := 3) hT2 hr2 (by decide) (fun z τ => rfl)).trans ?_
  have e1 : xR (bGrid4 σ r) r 0 = xn σ + 1 := by
    simp only [bGrid4, bF, hR_uR, hR_new, hn_uR, hn_new]
    simp
    rw [if_neg (by omega), if_neg (by omega), if_neg (by omega)]
  have e2 : xT (bGrid4 σ r) r = 3 := by unfold bGrid4; rw [bF_T hr2]; exact hT2
  have e3 : xT (bGrid4 σ r) (xn σ + 1) = 20 := by
    unfold bGrid4
    rw [bF_T (by simp only [bF_n]; omega), bF_T (by simp only [bF_n]; omega), bF_T (by simp only [bF_n]; omega)]
    exact bF_new.1
  have e4 : xlen (bGrid4 σ r) (xn σ + 1) = 32 := by
    unfold bGrid4
    rw [bF_l (by simp only [bF_n]; omega), bF_l (by simp only [bF_n]; omega), bF_l (by simp only [bF_n]; omega)]
    exact bF_new.2.1
  show (xgR (bGrid4 σ r) r 3 0).bind (fun z5 => (f_J7_fill_53178 (bGrid4 σ r) z5 (-1)).bind fun σ7 => some σ7) = _
  rw [xgR_to e2 e1 (by omega), Option.bind_some, fill_ok e3 e4 (by decide), Option.bind_some]
  rfl
theorem xck_ok {σ : XS} {a c : Nat} (h : xT σ a = c) : xck σ a c = some () := by unfold xck; rw [if_pos h]
theorem bTape_n {σ : XS} {r : Nat} : xn (bTape σ r) = xn σ + 4 := rfl
theorem bTape_T {σ : XS} {r b : Nat} (h : b ≤ xn σ) : xT (bTape σ r) b = xT σ b := by
  unfold bTape
  rw [bF_T (by simp only [bF_n]; omega), bF_T (by simp only [bF_n]; omega), bF_T (by simp only [bF_n]; omega), bF_T h]
def bDraft1 (σ : XS) (r : Nat) : XS := xuR (bTape (xnew σ 8 0 10) (xn σ + 1)) r 0 (xn σ + 1)
theorem bDraft1_n {σ : XS} {r : Nat} : xn (bDraft1 σ r) = xn σ + 5 := rfl
theorem bDraft1_T {σ : XS} {r b : Nat} (h : b ≤ xn σ) : xT (bDraft1 σ r) b = xT σ b := by
  unfold bDraft1
  rw [hT_uR, bTape_T (by rw [hn_new]; omega), hT_new, if_neg (by omega)]
def bDraft (σ : XS) (r : Nat) : XS := xuR (bSetup (xnew (bDraft1 σ r) 6 0 8) (xn (bDraft1 σ r) + 1)) r 1 (xn (bDraft1 σ r) + 1)
theorem bSetup_n {σ : XS} {r : Nat} : xn (bSetup σ r) = xn σ + 2 := rfl
theorem bSetup_T {σ : XS} {r b : Nat} (h : b ≤ xn σ) : xT (bSetup σ r) b = xT σ b := by
  unfold bSetup
  rw [bF_T (by rw [bF_n]; omega), bF_T h]
theorem bSetup_l {σ : XS} {r b : Nat} (h : b ≤ xn σ) : xlen (bSetup σ r) b = xlen σ b := by
  unfold bSetup
  rw [bF_l (by rw [bF_n]; omega), bF_l h]
theorem bSetup_R {σ : XS} {r b k : Nat} (h : b ≤ xn σ) (hb : b ≠ r) : xR (bSetup σ r) b k = xR σ b k := by
  unfold bSetup
  rw [bF_R (by rw [bF_n]; omega) hb, bF_R h hb]
theorem nS_T {σ : XS} {b : Nat} (h : b ≤ xn σ) : xT (bSetup (xnew σ 6 0 8) (xn σ + 1)) b = xT σ b := by
  rw [bSetup_T (by rw [hn_new]; omega), hT_new, if_neg (by omega)]
theorem nS_Tn {σ : XS} : xT (bSetup (xnew σ 6 0 8) (xn σ + 1)) (xn σ + 1) = 6 := by
  rw [bSetup_T (by rw [hn_new]; omega), hT_new, if_pos rfl]
theorem nS_R {σ : XS} {b k : Nat} (h : b ≤ xn σ) : xR (bSetup (xnew σ 6 0 8) (xn σ + 1)) b k = xR σ b k := by
  rw [bSetup_R (by rw [hn_new]; omega) (by omega), hR_new, if_neg (by omega)]
theorem nS_l {σ : XS} {b : Nat} (h : b ≤ xn σ) : xlen (bSetup (xnew σ 6 0 8) (xn σ + 1)) b = xlen σ b := by
  rw [bSetup_l (by rw [hn_new]; omega), hl_new, if_neg (by omega)]
theorem nS_ok {σ : XS} : f_X6_init (xnew σ 6 0 8) (xn σ + 1) = some (bSetup (xnew σ 6 0 8) (xn σ + 1)) := i6 (by rw [hT_new, if_pos rfl]) (by rw [hn_new]; omega)
theorem nS_ck {σ : XS} : xck (xnew σ 6 0 8) (xn σ + 1) 6 = some () := xck_ok (by rw [hT_new, if_pos rfl])
theorem i1 {σ : XS} {r : Nat} (hT : xT σ r = 1) (hr : r ≤ xn σ) : f_X1_init σ r = some (bDraft σ r) := by
  unfold f_X1_init xnO
  rw [Option.bind_some]
  dsimp only
  unfold f_X1_init_j8
  rw [xck_ok (c := 8) (by rw [hT_new, if_pos rfl]), Option.bind_some, i8 (by rw [hT_new, if_pos rfl]) (by rw [hn_new]; omega), Option.bind_some]
  unfold f_X1_init_j12
  rw [xnz_ok (by omega), Option.bind_some, xpR_ok (by rw [bTape_T (by rw [hn_new]; omega), hT_new, if_neg (by omega)]; exact hT), Option.bind_some]
  show (xnO (bDraft1 σ r) 6 8).bind _ = _
  unfold xnO
  rw [Option.bind_some]
  dsimp only
  unfold f_X1_init_j19
  rw [nS_ck, Option.bind_some, nS_ok, Option.bind_some]
  unfold f_X1_init_j23
  rw [xnz_ok (by omega), Option.bind_some, xpR_ok (by rw [nS_T (by rw [bDraft1_n]; omega), bDraft1_T hr]; exact hT), Option.bind_some]
  rfl
def bSlot (σ : XS) (r : Nat) : XS := bF (xuR (bSetup (xnew σ 6 0 8) (xn σ + 1)) r 0 (xn σ + 1)) r 1 20 289
theorem i7 {σ : XS} {r : Nat} (hT : xT σ r = 7) (hr : r ≤ xn σ) : f_X7_init σ r = some (bSlot σ r) := by
  unfold f_X7_init xnO
  rw [Option.bind_some]
  dsimp only
  unfold f_X7_init_j8
  rw [nS_ck, Option.bind_some, nS_ok, Option.bind_some]
  unfold f_X7_init_j12
  rw [xnz_ok (by omega), Option.bind_some, xpR_ok (by rw [nS_T hr]; exact hT), Option.bind_some]
  exact arrF (n := 289) (c := 7) (j := 1) (k := some) (by rw [hT_uR, nS_T hr]; exact hT) (by rw [hn_uR, bSetup_n, hn_new]; omega) (by decide) (fun z τ => rfl)
def bPastK (σ : XS) (kp : Nat) : Nat → XS
  | 0 => σ
  | k + 1 => xuR (bSetup (xnew (bPastK σ kp k) 6 0 8) (xn (bPastK σ kp k) + 1)) kp k (xn (bPastK σ kp k) + 1)
def bPast (σ : XS) (r : Nat) : XS := bPastK (bF σ r 0 24 40) (xn σ + 1) 40
theorem bPastK_inv {σ : XS} {r kp : Nat} (h1 : xT σ r = 5 ∧ xR σ r 0 = kp ∧ xT σ kp = 24 ∧ xlen σ kp = 40 ∧ r ≤ xn σ ∧ kp ≤ xn σ ∧ r ≠ kp) : ∀ k, xT (bPastK σ kp k) r = 5 ∧ xR (bPastK σ kp k) r 0 = kp ∧ xT (bPastK σ kp k) kp = 24 ∧ xlen (bPastK σ kp k) kp = 40 ∧ r ≤ xn (bPastK σ kp k) ∧ kp ≤ xn (bPastK σ kp k)
  | 0 => ⟨h1.1, h1.2.1, h1.2.2.1, h1.2.2.2.1, h1.2.2.2.2.1, h1.2.2.2.2.2.1⟩
  | k + 1 => by
    obtain ⟨a1, a2, a3, a4, a5, a6⟩ := bPastK_inv h1 k
    unfold bPastK
    refine ⟨?_, ?_, ?_, ?_, ?_, ?_⟩
    · rw [hT_uR, nS_T a5]; exact a1
    · rw [hR_uR, if_neg (fun h => h1.2.2.2.2.2.2 h.1), nS_R a5]; exact a2
    · rw [hT_uR, nS_T a6]; exact a3
    · rw [hl_uR, nS_l a6]; exact a4
    · rw [hn_uR, bSetup_n, hn_new]; omega
    · rw [hn_uR, bSetup_n, hn_new]; omega
theorem i5 {σ : XS} {r : Nat} (hT : xT σ r = 5) (hr : r ≤ xn σ) (hr0 : r ≠ 0) : f_X5_init σ r = some (bPast σ r) := by
  refine (arrF (n := 40) (c := 5) (j := 0) hT hr (by decide) (fun z τ => rfl)).trans ?_
  have inv := bPastK_inv (σ := bF σ r 0 24 40) (r := r) (kp := xn σ + 1) ⟨by rw [bF_T hr]; exact hT, bF_new.2.2, bF_new.1, bF_new.2.1, by rw [bF_n]; omega, by rw [bF_n]; exact Nat.le_refl _, by omega⟩
  refine xfor (s := fun k => (nI k, bPastK (bF σ r 0 24 40) (xn σ + 1) k)) 40 (fun k hk => ?_) ?_
  · obtain ⟨a1, a2, a3, a4, a5, a6⟩ := inv k
    generalize hτ : bPastK (bF σ r 0 24 40) (xn σ + 1) k = τ at *
    have h1 : ¬ nI 40 ≤ nI k := nI_ge hk (by decide)
    have e1 : xgR τ r 5 0 = some (xn σ + 1) := xgR_to a1 a2 (by omega)
    have e2 : xal τ (xn σ + 1) = some (nI 40) := by rw [xal_ok (by omega), a4]
    simp only [f_X5_init_b15, e1, e2, Option.bind_some, if_neg h1, xnO]
    unfold f_X5_init_j32
    rw [nS_ck, Option.bind_some, nS_ok, Option.bind_some]
    unfold f_X5_init_j36
    rw [xsR_ok (by rw [nS_T a6]; exact a3) nS_Tn (by rw [nS_l a6]; exact a4) hk (by decide), Option.bind_some, show nI k + (1 : Int32) = nI (k + 1) from nI_add k 1]
    show _ = some (Sum.inl (nI (k + 1), xuR (bSetup (xnew (bPastK (bF σ r 0 24 40) (xn σ + 1) k) 6 0 8) (xn (bPastK (bF σ r 0 24 40) (xn σ + 1) k) + 1)) (xn σ + 1) k (xn (bPastK (bF σ r 0 24 40) (xn σ + 1) k) + 1)))
    rw [hτ]
  · obtain ⟨a1, a2, a3, a4, a5, a6⟩ := inv 40
    have e1 : xgR (bPastK (bF σ r 0 24 40) (xn σ + 1) 40) r 5 0 = some (xn σ + 1) := xgR_to a1 a2 (by omega)
    have e2 : xal (bPastK (bF σ r 0 24 40) (xn σ + 1) 40) (xn σ + 1) = some (nI 40) := by rw [xal_ok (by omega), a4]
    have h1 : nI 40 ≤ nI 40 := nI_le (Nat.le_refl _) (by decide)
    simp only [f_X5_init_b15, e1, e2, Option.bind_some, if_pos h1, Option.map_some]
    rfl
def hA0 : XS := xnew xs0 11 0 16
def hA1 : XS := xnew hA0 1 0 13
theorem st0 : f_X11_init hA0 1 = f_X11_init_j8 hA1 1 1 2 := by
  rfl
def hA2 : XS := bDraft hA1 2
theorem st1 : f_X11_init_j8 hA1 1 1 2 = f_X11_init_j12 hA2 1 1 2 := by
  unfold f_X11_init_j8
  rw [xck_ok (c := 1) (by decide +kernel), Option.bind_some, i1 (by decide +kernel) (by decide +kernel), Option.bind_some]
  rfl
def hA3 : XS := xuR hA2 1 1 2
def hA4 : XS := xuR hA3 1 0 3
def hA5 : XS := xnew hA4 3 0 8
theorem st2 : f_X11_init_j12 hA2 1 1 2 = f_X11_init_j30 hA5 1 1 11 := by
  unfold f_X11_init_j12
  rw [xnz_ok (by decide), Option.bind_some, xpR_ok (c := 11) (by decide +kernel), Option.bind_some, xgR_to (v := 2) (c := 11) (by decide +kernel) (by decide +kernel) (by decide), Option.bind_some, xgR_to (v := 3) (c := 1) (by decide +kernel) (by decide +kernel) (by decide), Option.bind_some, xnz_ok (by decide), Option.bind_some, xpR_ok (c := 11) (by decide +kernel), Option.bind_some]
  rfl
def hA6 : XS := bGrid hA5 11
theorem st3 : f_X11_init_j30 hA5 1 1 11 = f_X11_init_j34 hA6 1 1 11 := by
  unfold f_X11_init_j30
  rw [xck_ok (c := 3) (by decide +kernel), Option.bind_some, i3 (by decide +kernel) (by decide +kernel) (by decide), Option.bind_some]
  rfl
def hA7 : XS := xuR hA6 1 2 11
def hA8 : XS := xnew hA7 6 0 8
theorem st4 : f_X11_init_j34 hA6 1 1 11 = f_X11_init_j41 hA8 1 1 16 := by
  unfold f_X11_init_j34
  rw [xnz_ok (by decide), Option.bind_some, xpR_ok (c := 11) (by decide +kernel), Option.bind_some]
  rfl
def hA9 : XS := bSetup hA8 16
theorem st5 : f_X11_init_j41 hA8 1 1 16 = f_X11_init_j45 hA9 1 1 16 := by
  unfold f_X11_init_j41
  rw [xck_ok (c := 6) (by decide +kernel), Option.bind_some, i6 (by decide +kernel) (by decide +kernel), Option.bind_some]
  rfl
def hA10 : XS := xuR hA9 1 3 16
def hA11 : XS := xnew hA10 5 0 3
theorem st6 : f_X11_init_j45 hA9 1 1 16 = f_X11_init_j52 hA11 1 1 19 := by
  unfold f_X11_init_j45
  rw [xnz_ok (by decide), Option.bind_some, xpR_ok (c := 11) (by decide +kernel), Option.bind_some]
  rfl
def hA12 : XS := bPast hA11 19
theorem st7 : f_X11_init_j52 hA11 1 1 19 = f_X11_init_j56 hA12 1 1 19 := by
  unfold f_X11_init_j52
  rw [xck_ok (c := 5) (by decide +kernel), Option.bind_some, i5 (by decide +kernel) (by decide +kernel) (by decide), Option.bind_some]
  rfl
def hA13 : XS := xuR hA12 1 4 19
def hA14 : XS := xnew hA13 25 3 3
def hA15 : XS := xuR hA14 1 5 141
theorem st8 : f_X11_init_j56 hA12 1 1 19 = xloop (f_X11_init_b69 1) (nI 0, hA15) := by
  unfold f_X11_init_j56
  rw [xnz_ok (by decide), Option.bind_some, xpR_ok (c := 11) (by decide +kernel), Option.bind_some, show (3 : Int32) = nI 3 from rfl, xnA_ok (by decide), Option.bind_some]
  dsimp only
  have hx : xn (xuR hA12 1 4 19) + 1 = 141 := by decide +kernel
  rw [hx]
  unfold f_X11_init_j64
  rw [xnz_ok (by decide), Option.bind_some, xpR_ok (c := 11) (by decide +kernel), Option.bind_some]
  exact congrArg (fun z => xloop (f_X11_init_b69 1) (z, hA15)) (show (0 : Int32) = nI 0 from rfl)
def hSl : Nat → XS
  | 0 => hA15
  | k + 1 => xuR (bSlot (xnew (hSl k) 7 0 4) (xn (hSl k) + 1)) 141 k (xn (hSl k) + 1)
theorem hSl_f : ∀ k, k < 4 → xT (hSl k) 1 = 11 ∧ xR (hSl k) 1 5 = 141 ∧ xT (hSl k) 141 = 25 ∧ xlen (hSl k) 141 = 3 := by decide +kernel
theorem hSl_g : ∀ k, k < 3 → xT (xnew (hSl k) 7 0 4) (xn (hSl k) + 1) = 7 ∧ xn (hSl k) + 1 ≤ xn (xnew (hSl k) 7 0 4) ∧ xT (bSlot (xnew (hSl k) 7 0 4) (xn (hSl k) + 1)) 141 = 25 ∧ xT (bSlot (xnew (hSl k) 7 0 4) (xn (hSl k) + 1)) (xn (hSl k) + 1) = 7 ∧ xlen (bSlot (xnew (hSl k) 7 0 4) (xn (hSl k) + 1)) 141 = 3 := by decide +kernel
noncomputable def hB : XS := ((xnO (hSl 3) 2 6).bind fun p => f_X11_init_j101 p.2 1 1 p.1).getD xs0
theorem x_some {α : Type} {o : Option α} {d : α} (h : o.isSome = true) : o = some (o.getD d) := by
  cases o with
  | none => cases h
  | some a => rfl
set_option maxRecDepth 100000 in
theorem hB_ok : ((xnO (hSl 3) 2 6).bind fun p => f_X11_init_j101 p.2 1 1 p.1) = some hB := x_some (by decide +kernel)
theorem st_loop : xloop (f_X11_init_b69 1) (nI 0, hSl 0) = some hB := by
  refine xfor (s := fun k => (nI k, hSl k)) 3 (fun k hk => ?_) ?_
  · obtain ⟨a1, a2, a3, a4⟩ := hSl_f k (by omega)
    obtain ⟨b1, b2, b3, b4, b5⟩ := hSl_g k hk
    have e1 : xgR (hSl k) 1 11 5 = some 141 := xgR_to a1 a2 (by decide)
    have e2 : xal (hSl k) 141 = some (nI 3) := by rw [xal_ok (by omega), a4]
    have h1 : ¬ nI 3 ≤ nI k := nI_ge hk (by decide)
    simp only [f_X11_init_b69, e1, e2, Option.bind_some, if_neg h1, xnO]
    unfold f_X11_init_j86
    rw [xck_ok b1, Option.bind_some, i7 b1 b2, Option.bind_some]
    unfold f_X11_init_j90
    rw [xsR_ok b3 b4 b5 hk (by decide), Option.bind_some, show nI k + (1 : Int32) = nI (k + 1) from nI_add k 1]
    rfl
  · obtain ⟨a1, a2, a3, a4⟩ := hSl_f 3 (by omega)
    have e1 : xgR (hSl 3) 1 11 5 = some 141 := xgR_to a1 a2 (by decide)
    have e2 : xal (hSl 3) 141 = some (nI 3) := by rw [xal_ok (by omega), a4]
    have h1 : nI 3 ≤ nI 3 := nI_le (Nat.le_refl _) (by decide)
    have e3 := hB_ok
    simp only [f_X11_init_b69, e1, e2, Option.bind_some, if_pos h1]
    show Option.map Sum.inr ((xnO (hSl 3) 2 6).bind fun p => f_X11_init_j101 p.2 1 1 p.1) = _
    rw [e3]
    rfl
theorem init11 : f_X11_init hA0 1 = some hB := by
  rw [st0, st1, st2, st3, st4, st5, st6, st7, st8]
  exact st_loop
noncomputable def hI0 : XS := (f_X12_init (xnew hB 12 0 45) (xn hB + 1)).getD xs0
set_option maxRecDepth 100000 in
theorem init12 : f_X12_init (xnew hB 12 0 45) (xn hB + 1) = some hI0 := x_some (by decide +kernel)
