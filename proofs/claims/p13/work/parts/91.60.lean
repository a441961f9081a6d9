section
/-! ints as whole numbers; ints as natural numbers -/
def iI (z : Int) : Int32 := Int32.ofInt z
theorem iI_n (n : Nat) : nI n = iI (n : Int) := by
  apply Int32.toBitVec_inj.mp
  show BitVec.ofNat 32 n = BitVec.ofInt 32 (n : Int)
  rw [BitVec.ofInt_natCast]
theorem iI_add (a b : Int) : iI a + iI b = iI (a + b) := (Int32.ofInt_add a b).symm
theorem iI_sub (a b : Int) : iI a - iI b = iI (a - b) := (Int32.ofInt_sub a b).symm
theorem iI_mul (a b : Int) : iI a * iI b = iI (a * b) := (Int32.ofInt_mul a b).symm
theorem iI_neg (a : Int) : -iI a = iI (-a) := (Int32.ofInt_neg a).symm
theorem iI_lit (n : Nat) : (OfNat.ofNat n : Int32) = iI (n : Int) := iI_n n
theorem iI_of (x : Int32) : x = iI x.toInt := (Int32.ofInt_toInt x).symm
theorem iI_ti {z : Int} (h1 : -2147483648 ≤ z) (h2 : z < 2147483648) : (iI z).toInt = z := fb_ofI h1 h2
theorem iI_lt {a b : Int} (h1 : -2147483648 ≤ a) (h2 : a < 2147483648) (h3 : -2147483648 ≤ b) (h4 : b < 2147483648) : (iI a < iI b) = (a < b) := by
  rw [fa_lt, iI_ti h1 h2, iI_ti h3 h4]
theorem iI_le {a b : Int} (h1 : -2147483648 ≤ a) (h2 : a < 2147483648) (h3 : -2147483648 ≤ b) (h4 : b < 2147483648) : (iI a ≤ iI b) = (a ≤ b) := by
  rw [fa_le, iI_ti h1 h2, iI_ti h3 h4]
theorem iI_eq {a b : Int} (h1 : -2147483648 ≤ a) (h2 : a < 2147483648) (h3 : -2147483648 ≤ b) (h4 : b < 2147483648) : (iI a = iI b) = (a = b) := by
  rw [fa_eq, iI_ti h1 h2, iI_ti h3 h4]
theorem nn_lit (n : Nat) : (OfNat.ofNat n : Int32) = nI n := rfl
theorem nn_add (a b : Nat) : nI a + nI b = nI (a + b) := by rw [iI_n, iI_n, iI_n, iI_add]; rfl
theorem nn_mul (a b : Nat) : nI a * nI b = nI (a * b) := by rw [iI_n, iI_n, iI_n, iI_mul]; rfl
theorem nn_sub {a b : Nat} (h : b ≤ a) : nI a - nI b = nI (a - b) := by
  rw [iI_n, iI_n, iI_n, iI_sub, Int.ofNat_sub h]
theorem nn_lt {a b : Nat} (ha : a < 2147483648) (hb : b < 2147483648) : (nI a < nI b) = (a < b) := by
  rw [fa_lt, nI_toInt ha, nI_toInt hb]; exact propext Int.ofNat_lt
theorem nn_le {a b : Nat} (ha : a < 2147483648) (hb : b < 2147483648) : (nI a ≤ nI b) = (a ≤ b) := by
  rw [fa_le, nI_toInt ha, nI_toInt hb]; exact propext Int.ofNat_le
theorem nn_eq {a b : Nat} (ha : a < 2147483648) (hb : b < 2147483648) : (nI a = nI b) = (a = b) := by
  rw [fa_eq, nI_toInt ha, nI_toInt hb]; exact propext Int.ofNat_inj
/-- an int that isn't negative is a number -/
theorem nn_of {x : Int32} (h : ¬ x < 0) : ∃ n, n < 2147483648 ∧ x = nI n := by
  have hx : 0 ≤ x.toInt := by rw [fa_lt] at h; exact Int.not_lt.mp h
  have h2 := x.toInt_lt
  refine ⟨x.toInt.toNat, by omega, ?_⟩
  rw [iI_n, Int.toNat_of_nonneg hx]
  exact iI_of x
theorem nn_nneg {a : Nat} (ha : a < 2147483648) : (nI a < 0) = False := eq_false (nI_pos ha)
theorem nn_m1 {a : Nat} (ha : a < 2147483648) : (nI a = -1) = False := by
  apply eq_false
  intro h
  have := congrArg Int32.toInt h
  rw [nI_toInt ha] at this
  have e : (-1 : Int32).toInt = -1 := by decide
  rw [e] at this
  omega
theorem nn_m1' {a : Nat} (ha : a < 2147483648) : (-1 = nI a) = False := by
  apply eq_false
  intro h
  exact (Eq.mp (nn_m1 ha) h.symm)
theorem nn_mz : ((-1 : Int32) < 0) = True := eq_true (by decide)
theorem nn_div {a b : Nat} (ha : a < 2147483648) (hb : b < 2147483648) : nI a / nI b = nI (a / b) := by
  apply Int32.toInt_inj.mp
  rw [Int32.toInt_div, nI_toInt ha, nI_toInt hb, nI_toInt (Nat.lt_of_le_of_lt (Nat.div_le_self a b) ha), Int.tdiv_eq_ediv_of_nonneg (by omega)]
  have h1 : ((a : Int) / (b : Int)) = ((a / b : Nat) : Int) := by simp
  have h2 : a / b ≤ a := Nat.div_le_self a b
  rw [h1]
  clear h1
  generalize a / b = q at *
  exact Int.bmod_eq_of_le (by omega) (by omega)
theorem nn_rem {a b : Nat} (ha : a < 2147483648) (hb : b < 2147483648) : nI a - nI a / nI b * nI b = nI (a % b) := by
  rw [nn_div ha hb, nn_mul, nn_sub (Nat.div_mul_le_self a b)]
  congr 1
  have := Nat.div_add_mod a b
  rw [Nat.mul_comm] at this
  omega
theorem nn_shl {a k : Nat} (hk : k < 32) : nI a <<< (nI k &&& 31) = nI (a * 2 ^ k) := by
  apply Int32.toBitVec_inj.mp
  rw [Int32.toBitVec_shiftLeft]
  have e : ((nI k &&& 31).toBitVec.smod 32).toNat = k := s_l k hk
  show BitVec.ofNat 32 a <<< ((nI k &&& 31).toBitVec.smod 32) = _
  apply BitVec.eq_of_toNat_eq
  rw [BitVec.shiftLeft_eq', e, BitVec.toNat_shiftLeft]
  show ((a % 2 ^ 32) <<< k) % 2 ^ 32 = (a * 2 ^ k) % 2 ^ 32
  rw [Nat.shiftLeft_eq, Nat.mod_mul_mod]
theorem nn_one {k : Nat} (hk : k < 32) : (1 : Int32) <<< (nI k &&& 31) = nI (2 ^ k) := by
  have := nn_shl (a := 1) hk
  rw [Nat.one_mul] at this
  exact this
theorem nn_shr {a k : Nat} (ha : a < 2147483648) (hk : k < 32) : nI a >>> (nI k &&& 31) = nI (a / 2 ^ k) := by
  apply Int32.toInt_inj.mp
  have e : ((nI k &&& 31).toBitVec.smod 32).toNat = k := s_l k hk
  have h : (nI a >>> (nI k &&& 31)).toInt = (nI a).toInt >>> k := by
    show ((nI a).toBitVec.sshiftRight' ((nI k &&& 31).toBitVec.smod 32)).toInt = _
    rw [BitVec.sshiftRight', e, BitVec.toInt_sshiftRight]
    rfl
  have h2 : a / 2 ^ k ≤ a := Nat.div_le_self a _
  rw [h, nI_toInt ha, nI_toInt (by omega), Int.shiftRight_eq_div_pow]
  simp
theorem nn_bit {a k : Nat} (ha : a < 2147483648) (hk : k < 32) : nI a >>> (nI k &&& 31) &&& 1 = nI (if a.testBit k then 1 else 0) := by
  rw [nn_shr ha hk, show (1 : Int32) = nI (2 ^ 1 - 1) from rfl, fa_mask]
  congr 1
  rw [Nat.testBit_eq_decide_div_mod_eq]
  simp only [decide_eq_true_eq]
  split <;> omega
theorem nn_xor (a b : Nat) : nI a ^^^ nI b = nI (a ^^^ b) := fb_xorI a b
end
section
/-! the strip: which ties there are, what a state's energy is -/
abbrev GD := Nat × Nat × Nat
def gSz (g : GD) : Nat := g.1 * g.2.1
def gAll : List GD := (0, 0, 0) :: (List.range 5).flatMap fun w => (List.range 17).flatMap fun l => if 1 ≤ w ∧ 1 ≤ l ∧ w * l ≤ 16 then (List.range 4).map fun r => (w, l, r) else []
theorem gAll_in {w l r : Nat} (h1 : 1 ≤ w) (h2 : w ≤ 4) (h3 : 1 ≤ l) (h4 : l ≤ 16) (h5 : w * l ≤ 16) (h6 : r < 4) : ((w, l, r) : GD) ∈ gAll := by
  unfold gAll
  apply List.mem_cons_of_mem
  rw [List.mem_flatMap]
  refine ⟨w, List.mem_range.mpr (by omega), ?_⟩
  rw [List.mem_flatMap]
  refine ⟨l, List.mem_range.mpr (by omega), ?_⟩
  rw [if_pos ⟨h1, h3, h5⟩, List.mem_map]
  exact ⟨r, List.mem_range.mpr h6, rfl⟩
theorem gAll_b : ∀ g ∈ gAll, g.1 ≤ 4 ∧ g.2.1 ≤ 16 ∧ gSz g ≤ 16 ∧ g.2.2 < 4 ∧ ((g.1 = 0 ∧ g.2.1 = 0 ∧ g.2.2 = 0) ∨ (1 ≤ g.1 ∧ 1 ≤ g.2.1)) := by decide +kernel
/-- where a tie begins, where it leads to -/
def gFr (t : Nat) : Nat := if t < 16 then t else t - 16
def gTo (g : GD) (t : Nat) : Option Nat := if gSz g ≤ gFr t then none else if t < 16 then (if gFr t % g.1 + 1 < g.1 then some (gFr t + 1) else if g.2.2 % 2 = 1 ∧ 2 < g.1 then some (g.1 * (gFr t / g.1)) else none) else (if gFr t / g.1 + 1 < g.2.1 then some (gFr t + g.1) else if g.2.2 / 2 = 1 ∧ 2 < g.2.1 then some (gFr t % g.1) else none)
def oI (o : Option Nat) : Int32 := match o with
  | none => -1
  | some e => nI e
theorem gTo_b : ∀ g ∈ gAll, ∀ t, t < 32 → ∀ e, gTo g t = some e → gFr t < gSz g ∧ e < gSz g ∧ gFr t ≠ e := by
  have h : ∀ g ∈ gAll, ∀ t, t < 32 → (gTo g t).all (fun e => decide (gFr t < gSz g ∧ e < gSz g ∧ gFr t ≠ e)) = true := by decide +kernel
  intro g hg t ht e he
  have := h g hg t ht
  rw [he] at this
  exact of_decide_eq_true this
theorem gFr_16 {t : Nat} (h : t < 32) : gFr t < 16 := by unfold gFr; split <;> omega
/-- the mates of a site, with the ties' places -/
def gMt (g : GD) (i : Nat) : List (Nat × Nat) := (List.range 32).flatMap fun t => match gTo g t with
  | none => []
  | some e => if gFr t = i then [(e, t)] else if e = i then [(gFr t, t)] else []
theorem gMt_b : ∀ g ∈ gAll, ∀ i, i < 16 → (gMt g i).length ≤ 4 ∧ ∀ q ∈ gMt g i, q.1 < gSz g ∧ q.2 < 32 ∧ q.1 ≠ i ∧ (gTo g q.2).isSome = true := by decide +kernel
/-- energies -/
def eH (F : Nat → Int) (s i : Nat) : Int := if s.testBit i then -F (32 + i) else F (32 + i)
def eT (g : GD) (F : Nat → Int) (s t : Nat) : Int := match gTo g t with
  | none => 0
  | some e => if s.testBit (gFr t) = s.testBit e then -F t else F t
def eE (g : GD) (F : Nat → Int) (s : Nat) : Int := fb_si (eT g F s) 32 + fb_si (eH F s) (gSz g)
/-- of the first k sites alone -/
def gIn (g : GD) (k t : Nat) : Bool := match gTo g t with
  | none => false
  | some e => decide (gFr t < k) && decide (e < k)
def eP (g : GD) (F : Nat → Int) (k s : Nat) : Int := fb_si (fun t => if gIn g k t then eT g F s t else 0) 32 + fb_si (eH F s) k
theorem eP_all {g : GD} (hg : g ∈ gAll) (F : Nat → Int) (s : Nat) : eP g F (gSz g) s = eE g F s := by
  unfold eP eE
  congr 1
  apply fb_si_cong
  intro t ht
  unfold gIn eT
  cases he : gTo g t with
  | none => rfl
  | some e =>
    have := gTo_b g hg t ht e he
    simp [this.1, this.2.1]
def zR (F : Nat → Int32) : Nat → Int := fun k => (F k).toInt
/-- a row of numbers that may stand -/
def RO (g : GD) (F : Nat → Int32) : Prop := (∀ k, k < 48 → -3 ≤ (F k).toInt ∧ (F k).toInt ≤ 3) ∧ (∀ i, i < 16 → (F (48 + i) = 0 ∨ F (48 + i) = 1 ∨ F (48 + i) = 2) ∧ (gSz g ≤ i → F (48 + i) = 0)) ∧ (∃ b, b < 2 ^ gSz g ∧ F 64 = nI b ∧ ∀ i, i < gSz g → F (48 + i) ≠ 0 → b.testBit i = decide (F (48 + i) = 1)) ∧ ∃ s, s < 10000 ∧ F 65 = nI s
theorem RO_congr {g : GD} (hg : g ∈ gAll) {F G : Nat → Int32} (h : ∀ k, k < 66 → G k = F k) (H : RO g F) : RO g G := by
  obtain ⟨h1, h2, ⟨b, h3, h4, h5⟩, s, h6, h7⟩ := H
  refine ⟨fun k hk => by rw [h k (by omega)]; exact h1 k hk, fun i hi => by rw [h _ (by omega)]; exact h2 i hi, ⟨b, h3, by rw [h 64 (by omega)]; exact h4, fun i hi hne => ?_⟩, s, h6, by rw [h 65 (by omega)]; exact h7⟩
  by_cases hi16 : i < 16
  · rw [h (48 + i) (by omega)] at hne ⊢
    exact h5 i hi hne
  · have := (gAll_b g hg).2.2.1
    omega
theorem eE_b {g : GD} (hg : g ∈ gAll) {F : Nat → Int32} (h : RO g F) (s : Nat) : -144 ≤ eE g (zR F) s ∧ eE g (zR F) s ≤ 144 := by
  have h1 : ∀ t, t < 32 → -3 ≤ eT g (zR F) s t ∧ eT g (zR F) s t ≤ 3 := by
    intro t ht
    have := h.1 t (by omega)
    unfold eT zR
    split
    · omega
    · split <;> omega
  have h2 : ∀ t, t < gSz g → -3 ≤ eH (zR F) s t ∧ eH (zR F) s t ≤ 3 := by
    intro t ht
    have h16 : gSz g ≤ 16 := (gAll_b g hg).2.2.1
    have := h.1 (32 + t) (by omega)
    unfold eH zR
    split <;> omega
  have a := fb_si_bound (c := 3) (by decide) h1
  have b := fb_si_bound (c := 3) (by decide) h2
  have h16 : gSz g ≤ 16 := (gAll_b g hg).2.2.1
  unfold eE
  have : (gSz g : Int) * 3 ≤ 48 := by omega
  omega
/-- lawful states -/
def lW (g : GD) (F : Nat → Int32) (s : Nat) : Bool := (List.range (gSz g)).all fun i => decide (F (48 + i) = 0) || (s.testBit i == decide (F (48 + i) = 1))
/-- a setup holds what a row tells -/
def SR (g : GD) (I : Nat → Nat → Int32) (a : Nat) (F : Nat → Int32) : Prop :=
  (∀ t, t < 32 → I (a + 1) t = if (gTo g t).isSome then F t else 0) ∧ (∀ i, i < 16 → I (a + 2) i = if i < gSz g then F (32 + i) else 0) ∧
  (∃ p u, I a 2 = nI p ∧ I a 3 = nI u ∧ (∀ i, p.testBit i = (decide (i < gSz g) && decide (F (48 + i) ≠ 0))) ∧ ∀ i, u.testBit i = (decide (i < gSz g) && decide (F (48 + i) = 1))) ∧ I a 4 = F 64 ∧ I a 5 = F 65
abbrev GH := Nat → GD × (Nat → Int32)
/-- a setup that may come back: it holds its row, its stamps tell its numbers -/
def LV (g : GD) (gT gP : GH) (st : Nat) (I : Nat → Nat → Int32) (a : Nat) (F : Nat → Int32) : Prop :=
  SR g I a F ∧ RO g F ∧ ∃ t p, t ≤ st ∧ p ≤ st ∧ I a 6 = nI t ∧ I a 7 = nI p ∧ (gT t).1 = g ∧ (∀ k, k < 48 → F k = (gT t).2 k) ∧ (gP p).1 = g ∧ ∀ k, k < 64 → F k = (gP p).2 k
end
section
/-! what is worked out once and kept; the invariant of the run -/
def gSt (g : GD) : Nat := if gSz g = 0 then 0 else 2 ^ gSz g
/-- a lawful state of an energy; how many there are -/
def lE (g : GD) (F : Nat → Int32) (e : Int) (s : Nat) : Bool := lW g F s && decide (eE g (zR F) s = e)
def lC (g : GD) (F : Nat → Int32) (e : Int) : Nat := fb_ct (lE g F e) (gSt g)
def pC (s : Nat) : Nat := fb_ct (fun i => s.testBit i) 16
def lU (g : GD) (F : Nat → Int32) (e : Int) (u : Nat) : Nat := fb_ct (fun s => lE g F e s && decide (pC s = u)) (gSt g)
def lvP (g : GD) (F : Nat → Int32) (k : Nat) : Bool := decide (0 < lC g F ((k : Int) - 144))
def lvN (g : GD) (F : Nat → Int32) : Nat := fb_ct (lvP g F) 289
def bkP (g : GD) (F : Nat → Int32) (s t : Nat) : Bool := match gTo g t with
  | none => false
  | some e => decide (F t ≠ 0) && (decide (s.testBit (gFr t) = s.testBit e) == decide ((F t).toInt < 0))
def bk (g : GD) (F : Nat → Int32) (s : Nat) : Nat := fb_ct (bkP g F s) 32
def WAY (I : Nat → Nat → Int32) (a : Nat) (g : GD) (F : Nat → Int32) : Prop := ∀ k, k < 289 → I a k = nI (lC g F ((k : Int) - 144))
def ENK (I : Nat → Nat → Int32) (R : Nat → Nat → Nat) (len : Nat → Nat) (a : Nat) (g : GD) (F : Nat → Int32) : Prop := 2 ^ gSz g ≤ len (R a 4) ∧ ∀ s, s < 2 ^ gSz g → I (R a 4) s = iI (eE g (zR F) s)
def LVK (I : Nat → Nat → Int32) (g : GD) (F : Nat → Int32) : Prop := WAY I 166 g F ∧
  (∀ k s : Nat, k < 289 → s < gSt g → lE g F ((k : Int) - 144) s = true → (∀ s', s' < s → lE g F ((k : Int) - 144) s' = false) → I 167 k = nI s) ∧
  (∀ k u : Nat, k < 289 → u < 17 → I 168 (17 * k + u) = nI (lU g F ((k : Int) - 144) u)) ∧
  I 165 4 = nI (lvN g F) ∧ ∀ k, k < 289 → lvP g F k = true → I 169 (fb_ct (lvP g F) k) = iI ((k : Int) - 144)
def BRK (I : Nat → Nat → Int32) (g : GD) (F : Nat → Int32) : Prop := ∀ m, m < 33 → I 171 m = nI (fb_ct (fun s => lW g F s && decide (bk g F s = m)) (gSt g))
def TRK (I : Nat → Nat → Int32) (R : Nat → Nat → Nat) (g : GD) (F : Nat → Int32) : Prop := gSz g ≤ 10 → I 174 7 = nI (gSz g) ∧ R 174 5 = 157 ∧ R 174 6 = 16 ∧
  ∃ (M : Nat) (o : Nat → Nat), M ≤ 1024 ∧ I 174 8 = nI M ∧ (∀ i, i < M → I 175 i = nI (o i) ∧ o i < gSt g ∧ lW g F (o i) = true) ∧ (∀ i j, i < j → j < M → eE g (zR F) (o i) ≤ eE g (zR F) (o j) ∧ o i ≠ o j) ∧ ∀ s, s < gSt g → lW g F s = true → ∃ i, i < M ∧ o i = s
def KNK (I : Nat → Nat → Int32) (g : GD) (F : Nat → Int32) : Prop := (∀ s, s < gSt g → I 196 s = if lW g F s then iI (eE g (zR F) s) else nI 100000) ∧
  (∀ e, e < 301 → I 197 e = nI (lC g F ((e : Int) - 150))) ∧ I 183 35 = nI (lvN g F) ∧ ∀ k, k < 289 → lvP g F k = true → I 198 (fb_ct (lvP g F) k) = iI ((k : Int) - 144)
/-- the parts of the run -/
def TAP (I : Nat → Nat → Int32) : Prop := ∃ m, m ≤ 2000 ∧ I 3 4 = nI m ∧ I 183 2 = nI m ∧ ∀ k, k < m → I 184 k = I 4 k ∧ -128 ≤ (I 4 k).toInt ∧ (I 4 k).toInt < 128
def GRD (I : Nat → Nat → Int32) (g : GD) : Prop := g ∈ gAll ∧ I 11 4 = nI g.1 ∧ I 11 5 = nI g.2.1 ∧ I 11 6 = nI g.2.2 ∧ I 11 7 = nI (gSz g) ∧ (∀ t, t < 32 → I 12 t = oI (gTo g t)) ∧ (∀ i, i < 16 → I 15 i = nI (gMt g i).length) ∧
  (∀ i j, i < 16 → j < (gMt g i).length → I 13 (4 * i + j) = nI ((gMt g i).getD j (0, 0)).1 ∧ I 14 (4 * i + j) = nI ((gMt g i).getD j (0, 0)).2) ∧ I 183 17 = nI g.1 ∧ I 183 18 = nI g.2.1 ∧ I 183 19 = nI (g.2.2 % 2) ∧ I 183 20 = nI (g.2.2 / 2) ∧ ∀ i, i < 16 → I 173 i = 0
def PST (g : GD) (gT gP : GH) (st : Nat) (I : Nat → Nat → Int32) : Prop := ∃ q nx ea, q ≤ 40 ∧ nx < 40 ∧ ea < 40 ∧ I 19 1 = nI nx ∧ I 19 2 = nI q ∧ I 183 28 = nI ea ∧ I 183 29 = nI q ∧
  ∀ i, i < q → LV g gT gP st I (21 + 3 * ((nx + 40 - q + i) % 40)) (fun k => I 193 (66 * ((ea + i) % 40) + k))
def SLT (g : GD) (gT gP : GH) (st : Nat) (I : Nat → Nat → Int32) : Prop := ∀ i, i < 3 → ∃ f c, f < 2 ∧ c < 2 ∧ I (142 + 5 * i) 2 = nI f ∧ I 195 i = nI f ∧ I (142 + 5 * i) 3 = nI c ∧
  (f = 1 → LV g gT gP st I (143 + 5 * i) (fun k => I 194 (66 * i + k))) ∧ (f = 1 → c = 1 → WAY I (146 + 5 * i) g (fun k => I 194 (66 * i + k)))
def CCH (I : Nat → Nat → Int32) (R : Nat → Nat → Nat) (len : Nat → Nat) (gT gP : GH) (st : Nat) : Prop :=
  (I 157 5 = -1 ∨ ∃ t, t ≤ st ∧ I 157 5 = nI t ∧ ENK I R len 157 (gT t).1 (gT t).2) ∧
  (I 165 5 = -1 ∨ ∃ p, p ≤ st ∧ I 165 5 = nI p ∧ LVK I (gP p).1 (gP p).2) ∧
  (I 170 3 = -1 ∨ ∃ p, p ≤ st ∧ I 170 3 = nI p ∧ BRK I (gP p).1 (gP p).2) ∧
  (I 174 10 = -1 ∨ ∃ p, p ≤ st ∧ I 174 10 = nI p ∧ TRK I R (gP p).1 (gP p).2)
def KNW (I : Nat → Nat → Int32) (g : GD) : Prop := I 183 32 = 0 ∨ (I 183 32 = 1 ∧ KNK I g (I 191))
/-- the model's key words -/
def kyW : List Nat := [10504420, 16308991, 778957, 3369766, 361240, 14828, 330573, 11921, 583, 90302, 377761]
def KY (L : Nat → Nat → Int64) : Prop := ∀ k, k < 11 → L 190 k = lN (kyW.getD k 0)
def CEL (K : Nat → Nat × Nat) (R : Nat → Nat → Nat) (n z : Nat) (L : Nat → Nat → Int64) : Prop := ∃ a b, a ≤ 16 ∧ b ≤ 16 ∧ K (R 157 4) = (20, 2 ^ a) ∧ K (R 161 4) = (20, 2 ^ b) ∧ (R 157 4 = 160 ∨ 206 < R 157 4) ∧ (R 161 4 = 164 ∨ 206 < R 161 4) ∧ R 157 4 ≠ R 161 4 ∧ R 157 4 ≤ n ∧ R 161 4 ≤ n ∧ n ≤ 206 + a + b ∧ z ≤ 98100 + 65536 * (a + b) ∧ KY L
def IV (n : Nat) (σ : XS) (g : GD) (gT gP : GH) (st : Nat) : Prop := (Shp σ) ∧ (st ≤ n) ∧ (xI σ 1 15 = nI st) ∧ (TAP (xI σ)) ∧ (xI σ 1 14 = xI σ 183 16) ∧ (GRD (xI σ) g) ∧ (LV g gT gP st (xI σ) 16 (xI σ 191)) ∧ (PST g gT gP st (xI σ)) ∧ (SLT g gT gP st (xI σ)) ∧ (CCH (xI σ) (xR σ) (xlen σ) gT gP st) ∧ (KNW (xI σ) g) ∧ (CEL σ.1 (xR σ) (xn σ) (xz σ) (xL σ))
theorem IV.shp {n : Nat} {σ : XS} {g : GD} {gT gP : GH} {st : Nat} (H : IV n σ g gT gP st) : Shp σ := H.1
theorem IV.stn {n : Nat} {σ : XS} {g : GD} {gT gP : GH} {st : Nat} (H : IV n σ g gT gP st) : st ≤ n := H.2.1
theorem IV.sts {n : Nat} {σ : XS} {g : GD} {gT gP : GH} {st : Nat} (H : IV n σ g gT gP st) : xI σ 1 15 = nI st := H.2.2.1
theorem IV.tap {n : Nat} {σ : XS} {g : GD} {gT gP : GH} {st : Nat} (H : IV n σ g gT gP st) : TAP (xI σ) := H.2.2.2.1
theorem IV.plc {n : Nat} {σ : XS} {g : GD} {gT gP : GH} {st : Nat} (H : IV n σ g gT gP st) : xI σ 1 14 = xI σ 183 16 := H.2.2.2.2.1
theorem IV.grd {n : Nat} {σ : XS} {g : GD} {gT gP : GH} {st : Nat} (H : IV n σ g gT gP st) : GRD (xI σ) g := H.2.2.2.2.2.1
theorem IV.now {n : Nat} {σ : XS} {g : GD} {gT gP : GH} {st : Nat} (H : IV n σ g gT gP st) : LV g gT gP st (xI σ) 16 (xI σ 191) := H.2.2.2.2.2.2.1
theorem IV.pst {n : Nat} {σ : XS} {g : GD} {gT gP : GH} {st : Nat} (H : IV n σ g gT gP st) : PST g gT gP st (xI σ) := H.2.2.2.2.2.2.2.1
theorem IV.slt {n : Nat} {σ : XS} {g : GD} {gT gP : GH} {st : Nat} (H : IV n σ g gT gP st) : SLT g gT gP st (xI σ) := H.2.2.2.2.2.2.2.2.1
theorem IV.cch {n : Nat} {σ : XS} {g : GD} {gT gP : GH} {st : Nat} (H : IV n σ g gT gP st) : CCH (xI σ) (xR σ) (xlen σ) gT gP st := H.2.2.2.2.2.2.2.2.2.1
theorem IV.knw {n : Nat} {σ : XS} {g : GD} {gT gP : GH} {st : Nat} (H : IV n σ g gT gP st) : KNW (xI σ) g := H.2.2.2.2.2.2.2.2.2.2.1
theorem IV.cel {n : Nat} {σ : XS} {g : GD} {gT gP : GH} {st : Nat} (H : IV n σ g gT gP st) : CEL σ.1 (xR σ) (xn σ) (xz σ) (xL σ) := H.2.2.2.2.2.2.2.2.2.2.2
def INV (n : Nat) (σ : XS) : Prop := ∃ g gT gP st, IV n σ g gT gP st
end
section
/-! reading and writing ints of the known objects -/
def xw (σ : XS) (I : Nat → Nat → Int32) : XS := (σ.1, I, σ.2.2)
theorem xw_self (σ : XS) : xw σ (xI σ) = σ := rfl
theorem xw_w (σ : XS) (I J : Nat → Nat → Int32) : xw (xw σ I) J = xw σ J := rfl
def xur (I : Nat → Nat → Int32) (b : Nat) (f : Nat → Int32) : Nat → Nat → Int32 := fun c j => if c = b then f j else I c j
theorem xur_at (I : Nat → Nat → Int32) (b : Nat) (f : Nat → Int32) (c j : Nat) : xur I b f c j = if c = b then f j else I c j := rfl
theorem xup_at (I : Nat → Nat → Int32) (a j : Nat) (v : Int32) (b k : Nat) : xup I a j v b k = if b = a ∧ k = j then v else I b k := rfl
theorem xw_uI (σ : XS) (I : Nat → Nat → Int32) (a j : Nat) (v : Int32) : xuI (xw σ I) a j v = xw σ (xup I a j v) := rfl
theorem xw_ur (σ : XS) (I : Nat → Nat → Int32) (b : Nat) (f : Nat → Int32) : xurI (xw σ I) b f = xw σ (xur I b f) := rfl
theorem xw_I (σ : XS) (I : Nat → Nat → Int32) : xI (xw σ I) = I := rfl
theorem xw_T (σ : XS) (I : Nat → Nat → Int32) : xT (xw σ I) = xT σ := rfl
theorem xw_l (σ : XS) (I : Nat → Nat → Int32) : xlen (xw σ I) = xlen σ := rfl
theorem xw_R (σ : XS) (I : Nat → Nat → Int32) : xR (xw σ I) = xR σ := rfl
theorem xw_gR (σ : XS) (I : Nat → Nat → Int32) (a c j : Nat) : xgR (xw σ I) a c j = xgR σ a c j := rfl
theorem xw_gN (σ : XS) (I : Nat → Nat → Int32) (a c j : Nat) : xgN (xw σ I) a c j = xgN σ a c j := rfl
theorem xw_al (σ : XS) (I : Nat → Nat → Int32) (a : Nat) : xal (xw σ I) a = xal σ a := rfl
theorem xw_ck (σ : XS) (I : Nat → Nat → Int32) (a c : Nat) : xck (xw σ I) a c = xck σ a c := rfl
theorem xw_Shp {σ : XS} {I : Nat → Nat → Int32} (h : Shp σ) : Shp (xw σ I) := h
theorem xw_gI {σ : XS} {I : Nat → Nat → Int32} {a c j : Nat} (h : xT σ a = c) : xgI (xw σ I) a c j = some (I a j) := xgI_ok (σ := xw σ I) h
theorem xw_pI {σ : XS} {I : Nat → Nat → Int32} {a c j : Nat} {v : Int32} (h : xT σ a = c) : xpI (xw σ I) a c j v = some (xw σ (xup I a j v)) := xpI_ok (σ := xw σ I) h
theorem xw_aI {σ : XS} {I : Nat → Nat → Int32} {a q n i : Nat} (h : σ.1 a = (q, n)) (hi : i < n) (hn : n < 2147483648) : xaI (xw σ I) q a (nI i) = some (I a i) := xaI_ok (σ := xw σ I) (n := n) (congrArg Prod.fst h) (congrArg Prod.snd h) hi hn
theorem xw_sI {σ : XS} {I : Nat → Nat → Int32} {a q n i : Nat} {v : Int32} (h : σ.1 a = (q, n)) (hi : i < n) (hn : n < 2147483648) : xsI (xw σ I) q a (nI i) v = some (xw σ (xup I a i v)) := xsI_ok (σ := xw σ I) (n := n) (congrArg Prod.fst h) (congrArg Prod.snd h) hi hn
theorem xw_K {σ : XS} (h : Shp σ) {a : Nat} (h1 : a < 207) (h2 : a ≠ 160) (h3 : a ≠ 164) : σ.1 a = shK.getD a (99, 0) := h.2.1 a h1 h2 h3
theorem kC1 {σ : XS} (h : Shp σ) : xck σ 1 11 = some () := xck_ok (sT1 h)
theorem kG1 {σ : XS} (h : Shp σ) {I : Nat → Nat → Int32} {j : Nat} : xgI (xw σ I) 1 11 j = some (I 1 j) := xw_gI (sT1 h)
theorem kP1 {σ : XS} (h : Shp σ) {I : Nat → Nat → Int32} {j : Nat} {v : Int32} : xpI (xw σ I) 1 11 j v = some (xw σ (xup I 1 j v)) := xw_pI (sT1 h)
theorem kR1_0 {σ : XS} (h : Shp σ) : xgR σ 1 11 0 = some 3 := xgR_to (sT1 h) (sR1_0 h) (by decide)
theorem kR1_1 {σ : XS} (h : Shp σ) : xgR σ 1 11 1 = some 2 := xgR_to (sT1 h) (sR1_1 h) (by decide)
theorem kR1_2 {σ : XS} (h : Shp σ) : xgR σ 1 11 2 = some 11 := xgR_to (sT1 h) (sR1_2 h) (by decide)
theorem kR1_3 {σ : XS} (h : Shp σ) : xgR σ 1 11 3 = some 16 := xgR_to (sT1 h) (sR1_3 h) (by decide)
theorem kR1_4 {σ : XS} (h : Shp σ) : xgR σ 1 11 4 = some 19 := xgR_to (sT1 h) (sR1_4 h) (by decide)
theorem kR1_5 {σ : XS} (h : Shp σ) : xgR σ 1 11 5 = some 141 := xgR_to (sT1 h) (sR1_5 h) (by decide)
theorem kR1_6 {σ : XS} (h : Shp σ) : xgR σ 1 11 6 = some 157 := xgR_to (sT1 h) (sR1_6 h) (by decide)
theorem kR1_7 {σ : XS} (h : Shp σ) : xgR σ 1 11 7 = some 161 := xgR_to (sT1 h) (sR1_7 h) (by decide)
theorem kR1_8 {σ : XS} (h : Shp σ) : xgR σ 1 11 8 = some 165 := xgR_to (sT1 h) (sR1_8 h) (by decide)
theorem kR1_9 {σ : XS} (h : Shp σ) : xgR σ 1 11 9 = some 170 := xgR_to (sT1 h) (sR1_9 h) (by decide)
theorem kR1_10 {σ : XS} (h : Shp σ) : xgR σ 1 11 10 = some 174 := xgR_to (sT1 h) (sR1_10 h) (by decide)
theorem kR1_11 {σ : XS} (h : Shp σ) : xgR σ 1 11 11 = some 180 := xgR_to (sT1 h) (sR1_11 h) (by decide)
theorem kR1_12 {σ : XS} (h : Shp σ) : xgR σ 1 11 12 = some 181 := xgR_to (sT1 h) (sR1_12 h) (by decide)
theorem kR1_13 {σ : XS} (h : Shp σ) : xgR σ 1 11 13 = some 182 := xgR_to (sT1 h) (sR1_13 h) (by decide)
theorem kC2 {σ : XS} (h : Shp σ) : xck σ 2 1 = some () := xck_ok (sT2 h)
theorem kG2 {σ : XS} (h : Shp σ) {I : Nat → Nat → Int32} {j : Nat} : xgI (xw σ I) 2 1 j = some (I 2 j) := xw_gI (sT2 h)
theorem kP2 {σ : XS} (h : Shp σ) {I : Nat → Nat → Int32} {j : Nat} {v : Int32} : xpI (xw σ I) 2 1 j v = some (xw σ (xup I 2 j v)) := xw_pI (sT2 h)
theorem kR2_0 {σ : XS} (h : Shp σ) : xgR σ 2 1 0 = some 3 := xgR_to (sT2 h) (sR2_0 h) (by decide)
theorem kR2_1 {σ : XS} (h : Shp σ) : xgR σ 2 1 1 = some 8 := xgR_to (sT2 h) (sR2_1 h) (by decide)
theorem kC3 {σ : XS} (h : Shp σ) : xck σ 3 8 = some () := xck_ok (sT3 h)
theorem kG3 {σ : XS} (h : Shp σ) {I : Nat → Nat → Int32} {j : Nat} : xgI (xw σ I) 3 8 j = some (I 3 j) := xw_gI (sT3 h)
theorem kP3 {σ : XS} (h : Shp σ) {I : Nat → Nat → Int32} {j : Nat} {v : Int32} : xpI (xw σ I) 3 8 j v = some (xw σ (xup I 3 j v)) := xw_pI (sT3 h)
theorem kR3_0 {σ : XS} (h : Shp σ) : xgR σ 3 8 0 = some 4 := xgR_to (sT3 h) (sR3_0 h) (by decide)
theorem kR3_1 {σ : XS} (h : Shp σ) : xgR σ 3 8 1 = some 5 := xgR_to (sT3 h) (sR3_1 h) (by decide)
theorem kR3_2 {σ : XS} (h : Shp σ) : xgR σ 3 8 2 = some 6 := xgR_to (sT3 h) (sR3_2 h) (by decide)
theorem kR3_3 {σ : XS} (h : Shp σ) : xgR σ 3 8 3 = some 7 := xgR_to (sT3 h) (sR3_3 h) (by decide)
theorem kL4 {σ : XS} (h : Shp σ) : xal σ 4 = some (nI 2000) := by rw [xal_ok (by rw [sT4 h]; decide), sl4 h]
theorem kA4 {σ : XS} (h : Shp σ) {I : Nat → Nat → Int32} {i : Nat} (hi : i < 2000) : xaI (xw σ I) 21 4 (nI i) = some (I 4 i) := xw_aI (xw_K h (by decide) (by decide) (by decide)) hi (by decide)
theorem kS4 {σ : XS} (h : Shp σ) {I : Nat → Nat → Int32} {i : Nat} {v : Int32} (hi : i < 2000) : xsI (xw σ I) 21 4 (nI i) v = some (xw σ (xup I 4 i v)) := xw_sI (xw_K h (by decide) (by decide) (by decide)) hi (by decide)
theorem kL5 {σ : XS} (h : Shp σ) : xal σ 5 = some (nI 400) := by rw [xal_ok (by rw [sT5 h]; decide), sl5 h]
theorem kA5 {σ : XS} (h : Shp σ) {I : Nat → Nat → Int32} {i : Nat} (hi : i < 400) : xaI (xw σ I) 20 5 (nI i) = some (I 5 i) := xw_aI (xw_K h (by decide) (by decide) (by decide)) hi (by decide)
theorem kS5 {σ : XS} (h : Shp σ) {I : Nat → Nat → Int32} {i : Nat} {v : Int32} (hi : i < 400) : xsI (xw σ I) 20 5 (nI i) v = some (xw σ (xup I 5 i v)) := xw_sI (xw_K h (by decide) (by decide) (by decide)) hi (by decide)
theorem kL6 {σ : XS} (h : Shp σ) : xal σ 6 = some (nI 400) := by rw [xal_ok (by rw [sT6 h]; decide), sl6 h]
theorem kA6 {σ : XS} (h : Shp σ) {I : Nat → Nat → Int32} {i : Nat} (hi : i < 400) : xaI (xw σ I) 20 6 (nI i) = some (I 6 i) := xw_aI (xw_K h (by decide) (by decide) (by decide)) hi (by decide)
theorem kS6 {σ : XS} (h : Shp σ) {I : Nat → Nat → Int32} {i : Nat} {v : Int32} (hi : i < 400) : xsI (xw σ I) 20 6 (nI i) v = some (xw σ (xup I 6 i v)) := xw_sI (xw_K h (by decide) (by decide) (by decide)) hi (by decide)
theorem kL7 {σ : XS} (h : Shp σ) : xal σ 7 = some (nI 400) := by rw [xal_ok (by rw [sT7 h]; decide), sl7 h]
theorem kA7 {σ : XS} (h : Shp σ) {I : Nat → Nat → Int32} {i : Nat} (hi : i < 400) : xaI (xw σ I) 20 7 (nI i) = some (I 7 i) := xw_aI (xw_K h (by decide) (by decide) (by decide)) hi (by decide)
theorem kS7 {σ : XS} (h : Shp σ) {I : Nat → Nat → Int32} {i : Nat} {v : Int32} (hi : i < 400) : xsI (xw σ I) 20 7 (nI i) v = some (xw σ (xup I 7 i v)) := xw_sI (xw_K h (by decide) (by decide) (by decide)) hi (by decide)
theorem kC8 {σ : XS} (h : Shp σ) : xck σ 8 6 = some () := xck_ok (sT8 h)
theorem kG8 {σ : XS} (h : Shp σ) {I : Nat → Nat → Int32} {j : Nat} : xgI (xw σ I) 8 6 j = some (I 8 j) := xw_gI (sT8 h)
theorem kP8 {σ : XS} (h : Shp σ) {I : Nat → Nat → Int32} {j : Nat} {v : Int32} : xpI (xw σ I) 8 6 j v = some (xw σ (xup I 8 j v)) := xw_pI (sT8 h)
theorem kR8_0 {σ : XS} (h : Shp σ) : xgR σ 8 6 0 = some 9 := xgR_to (sT8 h) (sR8_0 h) (by decide)
theorem kR8_1 {σ : XS} (h : Shp σ) : xgR σ 8 6 1 = some 10 := xgR_to (sT8 h) (sR8_1 h) (by decide)
theorem kL9 {σ : XS} (h : Shp σ) : xal σ 9 = some (nI 32) := by rw [xal_ok (by rw [sT9 h]; decide), sl9 h]
theorem kA9 {σ : XS} (h : Shp σ) {I : Nat → Nat → Int32} {i : Nat} (hi : i < 32) : xaI (xw σ I) 20 9 (nI i) = some (I 9 i) := xw_aI (xw_K h (by decide) (by decide) (by decide)) hi (by decide)
theorem kS9 {σ : XS} (h : Shp σ) {I : Nat → Nat → Int32} {i : Nat} {v : Int32} (hi : i < 32) : xsI (xw σ I) 20 9 (nI i) v = some (xw σ (xup I 9 i v)) := xw_sI (xw_K h (by decide) (by decide) (by decide)) hi (by decide)
theorem kL10 {σ : XS} (h : Shp σ) : xal σ 10 = some (nI 16) := by rw [xal_ok (by rw [sT10 h]; decide), sl10 h]
theorem kA10 {σ : XS} (h : Shp σ) {I : Nat → Nat → Int32} {i : Nat} (hi : i < 16) : xaI (xw σ I) 20 10 (nI i) = some (I 10 i) := xw_aI (xw_K h (by decide) (by decide) (by decide)) hi (by decide)
theorem kS10 {σ : XS} (h : Shp σ) {I : Nat → Nat → Int32} {i : Nat} {v : Int32} (hi : i < 16) : xsI (xw σ I) 20 10 (nI i) v = some (xw σ (xup I 10 i v)) := xw_sI (xw_K h (by decide) (by decide) (by decide)) hi (by decide)
theorem kC11 {σ : XS} (h : Shp σ) : xck σ 11 3 = some () := xck_ok (sT11 h)
theorem kG11 {σ : XS} (h : Shp σ) {I : Nat → Nat → Int32} {j : Nat} : xgI (xw σ I) 11 3 j = some (I 11 j) := xw_gI (sT11 h)
theorem kP11 {σ : XS} (h : Shp σ) {I : Nat → Nat → Int32} {j : Nat} {v : Int32} : xpI (xw σ I) 11 3 j v = some (xw σ (xup I 11 j v)) := xw_pI (sT11 h)
theorem kR11_0 {σ : XS} (h : Shp σ) : xgR σ 11 3 0 = some 12 := xgR_to (sT11 h) (sR11_0 h) (by decide)
theorem kR11_1 {σ : XS} (h : Shp σ) : xgR σ 11 3 1 = some 13 := xgR_to (sT11 h) (sR11_1 h) (by decide)
theorem kR11_2 {σ : XS} (h : Shp σ) : xgR σ 11 3 2 = some 14 := xgR_to (sT11 h) (sR11_2 h) (by decide)
theorem kR11_3 {σ : XS} (h : Shp σ) : xgR σ 11 3 3 = some 15 := xgR_to (sT11 h) (sR11_3 h) (by decide)
theorem kL12 {σ : XS} (h : Shp σ) : xal σ 12 = some (nI 32) := by rw [xal_ok (by rw [sT12 h]; decide), sl12 h]
theorem kA12 {σ : XS} (h : Shp σ) {I : Nat → Nat → Int32} {i : Nat} (hi : i < 32) : xaI (xw σ I) 20 12 (nI i) = some (I 12 i) := xw_aI (xw_K h (by decide) (by decide) (by decide)) hi (by decide)
theorem kS12 {σ : XS} (h : Shp σ) {I : Nat → Nat → Int32} {i : Nat} {v : Int32} (hi : i < 32) : xsI (xw σ I) 20 12 (nI i) v = some (xw σ (xup I 12 i v)) := xw_sI (xw_K h (by decide) (by decide) (by decide)) hi (by decide)
theorem kL13 {σ : XS} (h : Shp σ) : xal σ 13 = some (nI 64) := by rw [xal_ok (by rw [sT13 h]; decide), sl13 h]
theorem kA13 {σ : XS} (h : Shp σ) {I : Nat → Nat → Int32} {i : Nat} (hi : i < 64) : xaI (xw σ I) 20 13 (nI i) = some (I 13 i) := xw_aI (xw_K h (by decide) (by decide) (by decide)) hi (by decide)
theorem kS13 {σ : XS} (h : Shp σ) {I : Nat → Nat → Int32} {i : Nat} {v : Int32} (hi : i < 64) : xsI (xw σ I) 20 13 (nI i) v = some (xw σ (xup I 13 i v)) := xw_sI (xw_K h (by decide) (by decide) (by decide)) hi (by decide)
theorem kL14 {σ : XS} (h : Shp σ) : xal σ 14 = some (nI 64) := by rw [xal_ok (by rw [sT14 h]; decide), sl14 h]
theorem kA14 {σ : XS} (h : Shp σ) {I : Nat → Nat → Int32} {i : Nat} (hi : i < 64) : xaI (xw σ I) 20 14 (nI i) = some (I 14 i) := xw_aI (xw_K h (by decide) (by decide) (by decide)) hi (by decide)
theorem kS14 {σ : XS} (h : Shp σ) {I : Nat → Nat → Int32} {i : Nat} {v : Int32} (hi : i < 64) : xsI (xw σ I) 20 14 (nI i) v = some (xw σ (xup I 14 i v)) := xw_sI (xw_K h (by decide) (by decide) (by decide)) hi (by decide)
theorem kL15 {σ : XS} (h : Shp σ) : xal σ 15 = some (nI 16) := by rw [xal_ok (by rw [sT15 h]; decide), sl15 h]
theorem kA15 {σ : XS} (h : Shp σ) {I : Nat → Nat → Int32} {i : Nat} (hi : i < 16) : xaI (xw σ I) 20 15 (nI i) = some (I 15 i) := xw_aI (xw_K h (by decide) (by decide) (by decide)) hi (by decide)
theorem kS15 {σ : XS} (h : Shp σ) {I : Nat → Nat → Int32} {i : Nat} {v : Int32} (hi : i < 16) : xsI (xw σ I) 20 15 (nI i) v = some (xw σ (xup I 15 i v)) := xw_sI (xw_K h (by decide) (by decide) (by decide)) hi (by decide)
theorem kC16 {σ : XS} (h : Shp σ) : xck σ 16 6 = some () := xck_ok (sT16 h)
theorem kG16 {σ : XS} (h : Shp σ) {I : Nat → Nat → Int32} {j : Nat} : xgI (xw σ I) 16 6 j = some (I 16 j) := xw_gI (sT16 h)
theorem kP16 {σ : XS} (h : Shp σ) {I : Nat → Nat → Int32} {j : Nat} {v : Int32} : xpI (xw σ I) 16 6 j v = some (xw σ (xup I 16 j v)) := xw_pI (sT16 h)
theorem kR16_0 {σ : XS} (h : Shp σ) : xgR σ 16 6 0 = some 17 := xgR_to (sT16 h) (sR16_0 h) (by decide)
theorem kR16_1 {σ : XS} (h : Shp σ) : xgR σ 16 6 1 = some 18 := xgR_to (sT16 h) (sR16_1 h) (by decide)
theorem kL17 {σ : XS} (h : Shp σ) : xal σ 17 = some (nI 32) := by rw [xal_ok (by rw [sT17 h]; decide), sl17 h]
theorem kA17 {σ : XS} (h : Shp σ) {I : Nat → Nat → Int32} {i : Nat} (hi : i < 32) : xaI (xw σ I) 20 17 (nI i) = some (I 17 i) := xw_aI (xw_K h (by decide) (by decide) (by decide)) hi (by decide)
theorem kS17 {σ : XS} (h : Shp σ) {I : Nat → Nat → Int32} {i : Nat} {v : Int32} (hi : i < 32) : xsI (xw σ I) 20 17 (nI i) v = some (xw σ (xup I 17 i v)) := xw_sI (xw_K h (by decide) (by decide) (by decide)) hi (by decide)
theorem kL18 {σ : XS} (h : Shp σ) : xal σ 18 = some (nI 16) := by rw [xal_ok (by rw [sT18 h]; decide), sl18 h]
theorem kA18 {σ : XS} (h : Shp σ) {I : Nat → Nat → Int32} {i : Nat} (hi : i < 16) : xaI (xw σ I) 20 18 (nI i) = some (I 18 i) := xw_aI (xw_K h (by decide) (by decide) (by decide)) hi (by decide)
theorem kS18 {σ : XS} (h : Shp σ) {I : Nat → Nat → Int32} {i : Nat} {v : Int32} (hi : i < 16) : xsI (xw σ I) 20 18 (nI i) v = some (xw σ (xup I 18 i v)) := xw_sI (xw_K h (by decide) (by decide) (by decide)) hi (by decide)
theorem kC19 {σ : XS} (h : Shp σ) : xck σ 19 5 = some () := xck_ok (sT19 h)
theorem kG19 {σ : XS} (h : Shp σ) {I : Nat → Nat → Int32} {j : Nat} : xgI (xw σ I) 19 5 j = some (I 19 j) := xw_gI (sT19 h)
theorem kP19 {σ : XS} (h : Shp σ) {I : Nat → Nat → Int32} {j : Nat} {v : Int32} : xpI (xw σ I) 19 5 j v = some (xw σ (xup I 19 j v)) := xw_pI (sT19 h)
theorem kR19_0 {σ : XS} (h : Shp σ) : xgR σ 19 5 0 = some 20 := xgR_to (sT19 h) (sR19_0 h) (by decide)
theorem kL20 {σ : XS} (h : Shp σ) : xal σ 20 = some (nI 40) := by rw [xal_ok (by rw [sT20 h]; decide), sl20 h]
theorem kL141 {σ : XS} (h : Shp σ) : xal σ 141 = some (nI 3) := by rw [xal_ok (by rw [sT141 h]; decide), sl141 h]
theorem kL146 {σ : XS} (h : Shp σ) : xal σ 146 = some (nI 289) := by rw [xal_ok (by rw [sT146 h]; decide), sl146 h]
theorem kA146 {σ : XS} (h : Shp σ) {I : Nat → Nat → Int32} {i : Nat} (hi : i < 289) : xaI (xw σ I) 20 146 (nI i) = some (I 146 i) := xw_aI (xw_K h (by decide) (by decide) (by decide)) hi (by decide)
theorem kS146 {σ : XS} (h : Shp σ) {I : Nat → Nat → Int32} {i : Nat} {v : Int32} (hi : i < 289) : xsI (xw σ I) 20 146 (nI i) v = some (xw σ (xup I 146 i v)) := xw_sI (xw_K h (by decide) (by decide) (by decide)) hi (by decide)
theorem kL151 {σ : XS} (h : Shp σ) : xal σ 151 = some (nI 289) := by rw [xal_ok (by rw [sT151 h]; decide), sl151 h]
theorem kA151 {σ : XS} (h : Shp σ) {I : Nat → Nat → Int32} {i : Nat} (hi : i < 289) : xaI (xw σ I) 20 151 (nI i) = some (I 151 i) := xw_aI (xw_K h (by decide) (by decide) (by decide)) hi (by decide)
theorem kS151 {σ : XS} (h : Shp σ) {I : Nat → Nat → Int32} {i : Nat} {v : Int32} (hi : i < 289) : xsI (xw σ I) 20 151 (nI i) v = some (xw σ (xup I 151 i v)) := xw_sI (xw_K h (by decide) (by decide) (by decide)) hi (by decide)
theorem kL156 {σ : XS} (h : Shp σ) : xal σ 156 = some (nI 289) := by rw [xal_ok (by rw [sT156 h]; decide), sl156 h]
theorem kA156 {σ : XS} (h : Shp σ) {I : Nat → Nat → Int32} {i : Nat} (hi : i < 289) : xaI (xw σ I) 20 156 (nI i) = some (I 156 i) := xw_aI (xw_K h (by decide) (by decide) (by decide)) hi (by decide)
theorem kS156 {σ : XS} (h : Shp σ) {I : Nat → Nat → Int32} {i : Nat} {v : Int32} (hi : i < 289) : xsI (xw σ I) 20 156 (nI i) v = some (xw σ (xup I 156 i v)) := xw_sI (xw_K h (by decide) (by decide) (by decide)) hi (by decide)
theorem kC157 {σ : XS} (h : Shp σ) : xck σ 157 2 = some () := xck_ok (sT157 h)
theorem kG157 {σ : XS} (h : Shp σ) {I : Nat → Nat → Int32} {j : Nat} : xgI (xw σ I) 157 2 j = some (I 157 j) := xw_gI (sT157 h)
theorem kP157 {σ : XS} (h : Shp σ) {I : Nat → Nat → Int32} {j : Nat} {v : Int32} : xpI (xw σ I) 157 2 j v = some (xw σ (xup I 157 j v)) := xw_pI (sT157 h)
theorem kR157_0 {σ : XS} (h : Shp σ) : xgR σ 157 2 0 = some 158 := xgR_to (sT157 h) (sR157_0 h) (by decide)
theorem kR157_1 {σ : XS} (h : Shp σ) : xgR σ 157 2 1 = some 159 := xgR_to (sT157 h) (sR157_1 h) (by decide)
theorem kL158 {σ : XS} (h : Shp σ) : xal σ 158 = some (nI 4) := by rw [xal_ok (by rw [sT158 h]; decide), sl158 h]
theorem kA158 {σ : XS} (h : Shp σ) {I : Nat → Nat → Int32} {i : Nat} (hi : i < 4) : xaI (xw σ I) 20 158 (nI i) = some (I 158 i) := xw_aI (xw_K h (by decide) (by decide) (by decide)) hi (by decide)
theorem kS158 {σ : XS} (h : Shp σ) {I : Nat → Nat → Int32} {i : Nat} {v : Int32} (hi : i < 4) : xsI (xw σ I) 20 158 (nI i) v = some (xw σ (xup I 158 i v)) := xw_sI (xw_K h (by decide) (by decide) (by decide)) hi (by decide)
theorem kL159 {σ : XS} (h : Shp σ) : xal σ 159 = some (nI 4) := by rw [xal_ok (by rw [sT159 h]; decide), sl159 h]
theorem kA159 {σ : XS} (h : Shp σ) {I : Nat → Nat → Int32} {i : Nat} (hi : i < 4) : xaI (xw σ I) 20 159 (nI i) = some (I 159 i) := xw_aI (xw_K h (by decide) (by decide) (by decide)) hi (by decide)
theorem kS159 {σ : XS} (h : Shp σ) {I : Nat → Nat → Int32} {i : Nat} {v : Int32} (hi : i < 4) : xsI (xw σ I) 20 159 (nI i) v = some (xw σ (xup I 159 i v)) := xw_sI (xw_K h (by decide) (by decide) (by decide)) hi (by decide)
theorem kC161 {σ : XS} (h : Shp σ) : xck σ 161 2 = some () := xck_ok (sT161 h)
theorem kG161 {σ : XS} (h : Shp σ) {I : Nat → Nat → Int32} {j : Nat} : xgI (xw σ I) 161 2 j = some (I 161 j) := xw_gI (sT161 h)
theorem kP161 {σ : XS} (h : Shp σ) {I : Nat → Nat → Int32} {j : Nat} {v : Int32} : xpI (xw σ I) 161 2 j v = some (xw σ (xup I 161 j v)) := xw_pI (sT161 h)
theorem kR161_0 {σ : XS} (h : Shp σ) : xgR σ 161 2 0 = some 162 := xgR_to (sT161 h) (sR161_0 h) (by decide)
theorem kR161_1 {σ : XS} (h : Shp σ) : xgR σ 161 2 1 = some 163 := xgR_to (sT161 h) (sR161_1 h) (by decide)
theorem kL162 {σ : XS} (h : Shp σ) : xal σ 162 = some (nI 4) := by rw [xal_ok (by rw [sT162 h]; decide), sl162 h]
theorem kA162 {σ : XS} (h : Shp σ) {I : Nat → Nat → Int32} {i : Nat} (hi : i < 4) : xaI (xw σ I) 20 162 (nI i) = some (I 162 i) := xw_aI (xw_K h (by decide) (by decide) (by decide)) hi (by decide)
theorem kS162 {σ : XS} (h : Shp σ) {I : Nat → Nat → Int32} {i : Nat} {v : Int32} (hi : i < 4) : xsI (xw σ I) 20 162 (nI i) v = some (xw σ (xup I 162 i v)) := xw_sI (xw_K h (by decide) (by decide) (by decide)) hi (by decide)
theorem kL163 {σ : XS} (h : Shp σ) : xal σ 163 = some (nI 4) := by rw [xal_ok (by rw [sT163 h]; decide), sl163 h]
theorem kA163 {σ : XS} (h : Shp σ) {I : Nat → Nat → Int32} {i : Nat} (hi : i < 4) : xaI (xw σ I) 20 163 (nI i) = some (I 163 i) := xw_aI (xw_K h (by decide) (by decide) (by decide)) hi (by decide)
theorem kS163 {σ : XS} (h : Shp σ) {I : Nat → Nat → Int32} {i : Nat} {v : Int32} (hi : i < 4) : xsI (xw σ I) 20 163 (nI i) v = some (xw σ (xup I 163 i v)) := xw_sI (xw_K h (by decide) (by decide) (by decide)) hi (by decide)
theorem kC165 {σ : XS} (h : Shp σ) : xck σ 165 4 = some () := xck_ok (sT165 h)
theorem kG165 {σ : XS} (h : Shp σ) {I : Nat → Nat → Int32} {j : Nat} : xgI (xw σ I) 165 4 j = some (I 165 j) := xw_gI (sT165 h)
theorem kP165 {σ : XS} (h : Shp σ) {I : Nat → Nat → Int32} {j : Nat} {v : Int32} : xpI (xw σ I) 165 4 j v = some (xw σ (xup I 165 j v)) := xw_pI (sT165 h)
theorem kR165_0 {σ : XS} (h : Shp σ) : xgR σ 165 4 0 = some 166 := xgR_to (sT165 h) (sR165_0 h) (by decide)
theorem kR165_1 {σ : XS} (h : Shp σ) : xgR σ 165 4 1 = some 167 := xgR_to (sT165 h) (sR165_1 h) (by decide)
theorem kR165_2 {σ : XS} (h : Shp σ) : xgR σ 165 4 2 = some 168 := xgR_to (sT165 h) (sR165_2 h) (by decide)
theorem kR165_3 {σ : XS} (h : Shp σ) : xgR σ 165 4 3 = some 169 := xgR_to (sT165 h) (sR165_3 h) (by decide)
theorem kL166 {σ : XS} (h : Shp σ) : xal σ 166 = some (nI 289) := by rw [xal_ok (by rw [sT166 h]; decide), sl166 h]
theorem kA166 {σ : XS} (h : Shp σ) {I : Nat → Nat → Int32} {i : Nat} (hi : i < 289) : xaI (xw σ I) 20 166 (nI i) = some (I 166 i) := xw_aI (xw_K h (by decide) (by decide) (by decide)) hi (by decide)
theorem kS166 {σ : XS} (h : Shp σ) {I : Nat → Nat → Int32} {i : Nat} {v : Int32} (hi : i < 289) : xsI (xw σ I) 20 166 (nI i) v = some (xw σ (xup I 166 i v)) := xw_sI (xw_K h (by decide) (by decide) (by decide)) hi (by decide)
theorem kL167 {σ : XS} (h : Shp σ) : xal σ 167 = some (nI 289) := by rw [xal_ok (by rw [sT167 h]; decide), sl167 h]
theorem kA167 {σ : XS} (h : Shp σ) {I : Nat → Nat → Int32} {i : Nat} (hi : i < 289) : xaI (xw σ I) 20 167 (nI i) = some (I 167 i) := xw_aI (xw_K h (by decide) (by decide) (by decide)) hi (by decide)
theorem kS167 {σ : XS} (h : Shp σ) {I : Nat → Nat → Int32} {i : Nat} {v : Int32} (hi : i < 289) : xsI (xw σ I) 20 167 (nI i) v = some (xw σ (xup I 167 i v)) := xw_sI (xw_K h (by decide) (by decide) (by decide)) hi (by decide)
theorem kL168 {σ : XS} (h : Shp σ) : xal σ 168 = some (nI 4913) := by rw [xal_ok (by rw [sT168 h]; decide), sl168 h]
theorem kA168 {σ : XS} (h : Shp σ) {I : Nat → Nat → Int32} {i : Nat} (hi : i < 4913) : xaI (xw σ I) 20 168 (nI i) = some (I 168 i) := xw_aI (xw_K h (by decide) (by decide) (by decide)) hi (by decide)
theorem kS168 {σ : XS} (h : Shp σ) {I : Nat → Nat → Int32} {i : Nat} {v : Int32} (hi : i < 4913) : xsI (xw σ I) 20 168 (nI i) v = some (xw σ (xup I 168 i v)) := xw_sI (xw_K h (by decide) (by decide) (by decide)) hi (by decide)
theorem kL169 {σ : XS} (h : Shp σ) : xal σ 169 = some (nI 289) := by rw [xal_ok (by rw [sT169 h]; decide), sl169 h]
theorem kA169 {σ : XS} (h : Shp σ) {I : Nat → Nat → Int32} {i : Nat} (hi : i < 289) : xaI (xw σ I) 20 169 (nI i) = some (I 169 i) := xw_aI (xw_K h (by decide) (by decide) (by decide)) hi (by decide)
theorem kS169 {σ : XS} (h : Shp σ) {I : Nat → Nat → Int32} {i : Nat} {v : Int32} (hi : i < 289) : xsI (xw σ I) 20 169 (nI i) v = some (xw σ (xup I 169 i v)) := xw_sI (xw_K h (by decide) (by decide) (by decide)) hi (by decide)
theorem kC170 {σ : XS} (h : Shp σ) : xck σ 170 0 = some () := xck_ok (sT170 h)
theorem kG170 {σ : XS} (h : Shp σ) {I : Nat → Nat → Int32} {j : Nat} : xgI (xw σ I) 170 0 j = some (I 170 j) := xw_gI (sT170 h)
theorem kP170 {σ : XS} (h : Shp σ) {I : Nat → Nat → Int32} {j : Nat} {v : Int32} : xpI (xw σ I) 170 0 j v = some (xw σ (xup I 170 j v)) := xw_pI (sT170 h)
theorem kR170_0 {σ : XS} (h : Shp σ) : xgR σ 170 0 0 = some 171 := xgR_to (sT170 h) (sR170_0 h) (by decide)
theorem kR170_1 {σ : XS} (h : Shp σ) : xgR σ 170 0 1 = some 172 := xgR_to (sT170 h) (sR170_1 h) (by decide)
theorem kR170_2 {σ : XS} (h : Shp σ) : xgR σ 170 0 2 = some 173 := xgR_to (sT170 h) (sR170_2 h) (by decide)
theorem kL171 {σ : XS} (h : Shp σ) : xal σ 171 = some (nI 33) := by rw [xal_ok (by rw [sT171 h]; decide), sl171 h]
theorem kA171 {σ : XS} (h : Shp σ) {I : Nat → Nat → Int32} {i : Nat} (hi : i < 33) : xaI (xw σ I) 20 171 (nI i) = some (I 171 i) := xw_aI (xw_K h (by decide) (by decide) (by decide)) hi (by decide)
theorem kS171 {σ : XS} (h : Shp σ) {I : Nat → Nat → Int32} {i : Nat} {v : Int32} (hi : i < 33) : xsI (xw σ I) 20 171 (nI i) v = some (xw σ (xup I 171 i v)) := xw_sI (xw_K h (by decide) (by decide) (by decide)) hi (by decide)
theorem kL172 {σ : XS} (h : Shp σ) : xal σ 172 = some (nI 32) := by rw [xal_ok (by rw [sT172 h]; decide), sl172 h]
theorem kA172 {σ : XS} (h : Shp σ) {I : Nat → Nat → Int32} {i : Nat} (hi : i < 32) : xaI (xw σ I) 20 172 (nI i) = some (I 172 i) := xw_aI (xw_K h (by decide) (by decide) (by decide)) hi (by decide)
theorem kS172 {σ : XS} (h : Shp σ) {I : Nat → Nat → Int32} {i : Nat} {v : Int32} (hi : i < 32) : xsI (xw σ I) 20 172 (nI i) v = some (xw σ (xup I 172 i v)) := xw_sI (xw_K h (by decide) (by decide) (by decide)) hi (by decide)
theorem kL173 {σ : XS} (h : Shp σ) : xal σ 173 = some (nI 16) := by rw [xal_ok (by rw [sT173 h]; decide), sl173 h]
theorem kA173 {σ : XS} (h : Shp σ) {I : Nat → Nat → Int32} {i : Nat} (hi : i < 16) : xaI (xw σ I) 20 173 (nI i) = some (I 173 i) := xw_aI (xw_K h (by decide) (by decide) (by decide)) hi (by decide)
theorem kS173 {σ : XS} (h : Shp σ) {I : Nat → Nat → Int32} {i : Nat} {v : Int32} (hi : i < 16) : xsI (xw σ I) 20 173 (nI i) v = some (xw σ (xup I 173 i v)) := xw_sI (xw_K h (by decide) (by decide) (by decide)) hi (by decide)
theorem kC174 {σ : XS} (h : Shp σ) : xck σ 174 9 = some () := xck_ok (sT174 h)
theorem kG174 {σ : XS} (h : Shp σ) {I : Nat → Nat → Int32} {j : Nat} : xgI (xw σ I) 174 9 j = some (I 174 j) := xw_gI (sT174 h)
theorem kP174 {σ : XS} (h : Shp σ) {I : Nat → Nat → Int32} {j : Nat} {v : Int32} : xpI (xw σ I) 174 9 j v = some (xw σ (xup I 174 j v)) := xw_pI (sT174 h)
theorem kR174_0 {σ : XS} (h : Shp σ) : xgR σ 174 9 0 = some 175 := xgR_to (sT174 h) (sR174_0 h) (by decide)
theorem kR174_1 {σ : XS} (h : Shp σ) : xgR σ 174 9 1 = some 176 := xgR_to (sT174 h) (sR174_1 h) (by decide)
theorem kR174_2 {σ : XS} (h : Shp σ) : xgR σ 174 9 2 = some 177 := xgR_to (sT174 h) (sR174_2 h) (by decide)
theorem kR174_3 {σ : XS} (h : Shp σ) : xgR σ 174 9 3 = some 178 := xgR_to (sT174 h) (sR174_3 h) (by decide)
theorem kR174_4 {σ : XS} (h : Shp σ) : xgR σ 174 9 4 = some 179 := xgR_to (sT174 h) (sR174_4 h) (by decide)
theorem kL175 {σ : XS} (h : Shp σ) : xal σ 175 = some (nI 1024) := by rw [xal_ok (by rw [sT175 h]; decide), sl175 h]
theorem kA175 {σ : XS} (h : Shp σ) {I : Nat → Nat → Int32} {i : Nat} (hi : i < 1024) : xaI (xw σ I) 20 175 (nI i) = some (I 175 i) := xw_aI (xw_K h (by decide) (by decide) (by decide)) hi (by decide)
theorem kS175 {σ : XS} (h : Shp σ) {I : Nat → Nat → Int32} {i : Nat} {v : Int32} (hi : i < 1024) : xsI (xw σ I) 20 175 (nI i) v = some (xw σ (xup I 175 i v)) := xw_sI (xw_K h (by decide) (by decide) (by decide)) hi (by decide)
theorem kL176 {σ : XS} (h : Shp σ) : xal σ 176 = some (nI 289) := by rw [xal_ok (by rw [sT176 h]; decide), sl176 h]
theorem kA176 {σ : XS} (h : Shp σ) {I : Nat → Nat → Int32} {i : Nat} (hi : i < 289) : xaI (xw σ I) 20 176 (nI i) = some (I 176 i) := xw_aI (xw_K h (by decide) (by decide) (by decide)) hi (by decide)
theorem kS176 {σ : XS} (h : Shp σ) {I : Nat → Nat → Int32} {i : Nat} {v : Int32} (hi : i < 289) : xsI (xw σ I) 20 176 (nI i) v = some (xw σ (xup I 176 i v)) := xw_sI (xw_K h (by decide) (by decide) (by decide)) hi (by decide)
theorem kL177 {σ : XS} (h : Shp σ) : xal σ 177 = some (nI 1024) := by rw [xal_ok (by rw [sT177 h]; decide), sl177 h]
theorem kA177 {σ : XS} (h : Shp σ) {I : Nat → Nat → Int32} {i : Nat} (hi : i < 1024) : xaI (xw σ I) 20 177 (nI i) = some (I 177 i) := xw_aI (xw_K h (by decide) (by decide) (by decide)) hi (by decide)
theorem kS177 {σ : XS} (h : Shp σ) {I : Nat → Nat → Int32} {i : Nat} {v : Int32} (hi : i < 1024) : xsI (xw σ I) 20 177 (nI i) v = some (xw σ (xup I 177 i v)) := xw_sI (xw_K h (by decide) (by decide) (by decide)) hi (by decide)
theorem kL178 {σ : XS} (h : Shp σ) : xal σ 178 = some (nI 1024) := by rw [xal_ok (by rw [sT178 h]; decide), sl178 h]
theorem kA178 {σ : XS} (h : Shp σ) {I : Nat → Nat → Int32} {i : Nat} (hi : i < 1024) : xaI (xw σ I) 20 178 (nI i) = some (I 178 i) := xw_aI (xw_K h (by decide) (by decide) (by decide)) hi (by decide)
theorem kS178 {σ : XS} (h : Shp σ) {I : Nat → Nat → Int32} {i : Nat} {v : Int32} (hi : i < 1024) : xsI (xw σ I) 20 178 (nI i) v = some (xw σ (xup I 178 i v)) := xw_sI (xw_K h (by decide) (by decide) (by decide)) hi (by decide)
theorem kL179 {σ : XS} (h : Shp σ) : xal σ 179 = some (nI 1024) := by rw [xal_ok (by rw [sT179 h]; decide), sl179 h]
theorem kC180 {σ : XS} (h : Shp σ) : xck σ 180 10 = some () := xck_ok (sT180 h)
theorem kG180 {σ : XS} (h : Shp σ) {I : Nat → Nat → Int32} {j : Nat} : xgI (xw σ I) 180 10 j = some (I 180 j) := xw_gI (sT180 h)
theorem kP180 {σ : XS} (h : Shp σ) {I : Nat → Nat → Int32} {j : Nat} {v : Int32} : xpI (xw σ I) 180 10 j v = some (xw σ (xup I 180 j v)) := xw_pI (sT180 h)
theorem kL181 {σ : XS} (h : Shp σ) : xal σ 181 = some (nI 577) := by rw [xal_ok (by rw [sT181 h]; decide), sl181 h]
theorem kL182 {σ : XS} (h : Shp σ) : xal σ 182 = some (nI 256) := by rw [xal_ok (by rw [sT182 h]; decide), sl182 h]
theorem kA182 {σ : XS} (h : Shp σ) {I : Nat → Nat → Int32} {i : Nat} (hi : i < 256) : xaI (xw σ I) 20 182 (nI i) = some (I 182 i) := xw_aI (xw_K h (by decide) (by decide) (by decide)) hi (by decide)
theorem kS182 {σ : XS} (h : Shp σ) {I : Nat → Nat → Int32} {i : Nat} {v : Int32} (hi : i < 256) : xsI (xw σ I) 20 182 (nI i) v = some (xw σ (xup I 182 i v)) := xw_sI (xw_K h (by decide) (by decide) (by decide)) hi (by decide)
theorem kC183 {σ : XS} (h : Shp σ) : xck σ 183 12 = some () := xck_ok (sT183 h)
theorem kG183 {σ : XS} (h : Shp σ) {I : Nat → Nat → Int32} {j : Nat} : xgI (xw σ I) 183 12 j = some (I 183 j) := xw_gI (sT183 h)
theorem kP183 {σ : XS} (h : Shp σ) {I : Nat → Nat → Int32} {j : Nat} {v : Int32} : xpI (xw σ I) 183 12 j v = some (xw σ (xup I 183 j v)) := xw_pI (sT183 h)
theorem kR183_1 {σ : XS} (h : Shp σ) : xgR σ 183 12 1 = some 184 := xgR_to (sT183 h) (sR183_1 h) (by decide)
theorem kR183_3 {σ : XS} (h : Shp σ) : xgR σ 183 12 3 = some 185 := xgR_to (sT183 h) (sR183_3 h) (by decide)
theorem kR183_5 {σ : XS} (h : Shp σ) : xgR σ 183 12 5 = some 186 := xgR_to (sT183 h) (sR183_5 h) (by decide)
theorem kR183_6 {σ : XS} (h : Shp σ) : xgR σ 183 12 6 = some 187 := xgR_to (sT183 h) (sR183_6 h) (by decide)
theorem kR183_7 {σ : XS} (h : Shp σ) : xgR σ 183 12 7 = some 188 := xgR_to (sT183 h) (sR183_7 h) (by decide)
theorem kR183_8 {σ : XS} (h : Shp σ) : xgR σ 183 12 8 = some 189 := xgR_to (sT183 h) (sR183_8 h) (by decide)
theorem kR183_9 {σ : XS} (h : Shp σ) : xgR σ 183 12 9 = some 190 := xgR_to (sT183 h) (sR183_9 h) (by decide)
theorem kR183_21 {σ : XS} (h : Shp σ) : xgR σ 183 12 21 = some 191 := xgR_to (sT183 h) (sR183_21 h) (by decide)
theorem kR183_26 {σ : XS} (h : Shp σ) : xgR σ 183 12 26 = some 192 := xgR_to (sT183 h) (sR183_26 h) (by decide)
theorem kR183_27 {σ : XS} (h : Shp σ) : xgR σ 183 12 27 = some 193 := xgR_to (sT183 h) (sR183_27 h) (by decide)
theorem kR183_30 {σ : XS} (h : Shp σ) : xgR σ 183 12 30 = some 194 := xgR_to (sT183 h) (sR183_30 h) (by decide)
theorem kR183_31 {σ : XS} (h : Shp σ) : xgR σ 183 12 31 = some 195 := xgR_to (sT183 h) (sR183_31 h) (by decide)
theorem kR183_33 {σ : XS} (h : Shp σ) : xgR σ 183 12 33 = some 196 := xgR_to (sT183 h) (sR183_33 h) (by decide)
theorem kR183_34 {σ : XS} (h : Shp σ) : xgR σ 183 12 34 = some 197 := xgR_to (sT183 h) (sR183_34 h) (by decide)
theorem kR183_36 {σ : XS} (h : Shp σ) : xgR σ 183 12 36 = some 198 := xgR_to (sT183 h) (sR183_36 h) (by decide)
theorem kR183_37 {σ : XS} (h : Shp σ) : xgR σ 183 12 37 = some 199 := xgR_to (sT183 h) (sR183_37 h) (by decide)
theorem kR183_38 {σ : XS} (h : Shp σ) : xgR σ 183 12 38 = some 200 := xgR_to (sT183 h) (sR183_38 h) (by decide)
theorem kR183_39 {σ : XS} (h : Shp σ) : xgR σ 183 12 39 = some 201 := xgR_to (sT183 h) (sR183_39 h) (by decide)
theorem kR183_40 {σ : XS} (h : Shp σ) : xgR σ 183 12 40 = some 202 := xgR_to (sT183 h) (sR183_40 h) (by decide)
theorem kR183_41 {σ : XS} (h : Shp σ) : xgR σ 183 12 41 = some 203 := xgR_to (sT183 h) (sR183_41 h) (by decide)
theorem kR183_42 {σ : XS} (h : Shp σ) : xgR σ 183 12 42 = some 204 := xgR_to (sT183 h) (sR183_42 h) (by decide)
theorem kR183_43 {σ : XS} (h : Shp σ) : xgR σ 183 12 43 = some 205 := xgR_to (sT183 h) (sR183_43 h) (by decide)
theorem kR183_44 {σ : XS} (h : Shp σ) : xgR σ 183 12 44 = some 206 := xgR_to (sT183 h) (sR183_44 h) (by decide)
theorem kL184 {σ : XS} (h : Shp σ) : xal σ 184 = some (nI 2000) := by rw [xal_ok (by rw [sT184 h]; decide), sl184 h]
theorem kA184 {σ : XS} (h : Shp σ) {I : Nat → Nat → Int32} {i : Nat} (hi : i < 2000) : xaI (xw σ I) 21 184 (nI i) = some (I 184 i) := xw_aI (xw_K h (by decide) (by decide) (by decide)) hi (by decide)
theorem kS184 {σ : XS} (h : Shp σ) {I : Nat → Nat → Int32} {i : Nat} {v : Int32} (hi : i < 2000) : xsI (xw σ I) 21 184 (nI i) v = some (xw σ (xup I 184 i v)) := xw_sI (xw_K h (by decide) (by decide) (by decide)) hi (by decide)
theorem kL185 {σ : XS} (h : Shp σ) : xal σ 185 = some (nI 2000) := by rw [xal_ok (by rw [sT185 h]; decide), sl185 h]
theorem kA185 {σ : XS} (h : Shp σ) {I : Nat → Nat → Int32} {i : Nat} (hi : i < 2000) : xaI (xw σ I) 21 185 (nI i) = some (I 185 i) := xw_aI (xw_K h (by decide) (by decide) (by decide)) hi (by decide)
theorem kS185 {σ : XS} (h : Shp σ) {I : Nat → Nat → Int32} {i : Nat} {v : Int32} (hi : i < 2000) : xsI (xw σ I) 21 185 (nI i) v = some (xw σ (xup I 185 i v)) := xw_sI (xw_K h (by decide) (by decide) (by decide)) hi (by decide)
theorem kL186 {σ : XS} (h : Shp σ) : xal σ 186 = some (nI 403) := by rw [xal_ok (by rw [sT186 h]; decide), sl186 h]
theorem kA186 {σ : XS} (h : Shp σ) {I : Nat → Nat → Int32} {i : Nat} (hi : i < 403) : xaI (xw σ I) 20 186 (nI i) = some (I 186 i) := xw_aI (xw_K h (by decide) (by decide) (by decide)) hi (by decide)
theorem kS186 {σ : XS} (h : Shp σ) {I : Nat → Nat → Int32} {i : Nat} {v : Int32} (hi : i < 403) : xsI (xw σ I) 20 186 (nI i) v = some (xw σ (xup I 186 i v)) := xw_sI (xw_K h (by decide) (by decide) (by decide)) hi (by decide)
theorem kL187 {σ : XS} (h : Shp σ) : xal σ 187 = some (nI 403) := by rw [xal_ok (by rw [sT187 h]; decide), sl187 h]
theorem kA187 {σ : XS} (h : Shp σ) {I : Nat → Nat → Int32} {i : Nat} (hi : i < 403) : xaI (xw σ I) 20 187 (nI i) = some (I 187 i) := xw_aI (xw_K h (by decide) (by decide) (by decide)) hi (by decide)
theorem kS187 {σ : XS} (h : Shp σ) {I : Nat → Nat → Int32} {i : Nat} {v : Int32} (hi : i < 403) : xsI (xw σ I) 20 187 (nI i) v = some (xw σ (xup I 187 i v)) := xw_sI (xw_K h (by decide) (by decide) (by decide)) hi (by decide)
theorem kL188 {σ : XS} (h : Shp σ) : xal σ 188 = some (nI 403) := by rw [xal_ok (by rw [sT188 h]; decide), sl188 h]
theorem kA188 {σ : XS} (h : Shp σ) {I : Nat → Nat → Int32} {i : Nat} (hi : i < 403) : xaI (xw σ I) 20 188 (nI i) = some (I 188 i) := xw_aI (xw_K h (by decide) (by decide) (by decide)) hi (by decide)
theorem kS188 {σ : XS} (h : Shp σ) {I : Nat → Nat → Int32} {i : Nat} {v : Int32} (hi : i < 403) : xsI (xw σ I) 20 188 (nI i) v = some (xw σ (xup I 188 i v)) := xw_sI (xw_K h (by decide) (by decide) (by decide)) hi (by decide)
theorem kL189 {σ : XS} (h : Shp σ) : xal σ 189 = some (nI 403) := by rw [xal_ok (by rw [sT189 h]; decide), sl189 h]
theorem kL190 {σ : XS} (h : Shp σ) : xal σ 190 = some (nI 11) := by rw [xal_ok (by rw [sT190 h]; decide), sl190 h]
theorem kL191 {σ : XS} (h : Shp σ) : xal σ 191 = some (nI 66) := by rw [xal_ok (by rw [sT191 h]; decide), sl191 h]
theorem kA191 {σ : XS} (h : Shp σ) {I : Nat → Nat → Int32} {i : Nat} (hi : i < 66) : xaI (xw σ I) 20 191 (nI i) = some (I 191 i) := xw_aI (xw_K h (by decide) (by decide) (by decide)) hi (by decide)
theorem kS191 {σ : XS} (h : Shp σ) {I : Nat → Nat → Int32} {i : Nat} {v : Int32} (hi : i < 66) : xsI (xw σ I) 20 191 (nI i) v = some (xw σ (xup I 191 i v)) := xw_sI (xw_K h (by decide) (by decide) (by decide)) hi (by decide)
theorem kL192 {σ : XS} (h : Shp σ) : xal σ 192 = some (nI 66) := by rw [xal_ok (by rw [sT192 h]; decide), sl192 h]
theorem kA192 {σ : XS} (h : Shp σ) {I : Nat → Nat → Int32} {i : Nat} (hi : i < 66) : xaI (xw σ I) 20 192 (nI i) = some (I 192 i) := xw_aI (xw_K h (by decide) (by decide) (by decide)) hi (by decide)
theorem kS192 {σ : XS} (h : Shp σ) {I : Nat → Nat → Int32} {i : Nat} {v : Int32} (hi : i < 66) : xsI (xw σ I) 20 192 (nI i) v = some (xw σ (xup I 192 i v)) := xw_sI (xw_K h (by decide) (by decide) (by decide)) hi (by decide)
theorem kL193 {σ : XS} (h : Shp σ) : xal σ 193 = some (nI 2640) := by rw [xal_ok (by rw [sT193 h]; decide), sl193 h]
theorem kA193 {σ : XS} (h : Shp σ) {I : Nat → Nat → Int32} {i : Nat} (hi : i < 2640) : xaI (xw σ I) 20 193 (nI i) = some (I 193 i) := xw_aI (xw_K h (by decide) (by decide) (by decide)) hi (by decide)
theorem kS193 {σ : XS} (h : Shp σ) {I : Nat → Nat → Int32} {i : Nat} {v : Int32} (hi : i < 2640) : xsI (xw σ I) 20 193 (nI i) v = some (xw σ (xup I 193 i v)) := xw_sI (xw_K h (by decide) (by decide) (by decide)) hi (by decide)
theorem kL194 {σ : XS} (h : Shp σ) : xal σ 194 = some (nI 198) := by rw [xal_ok (by rw [sT194 h]; decide), sl194 h]
theorem kA194 {σ : XS} (h : Shp σ) {I : Nat → Nat → Int32} {i : Nat} (hi : i < 198) : xaI (xw σ I) 20 194 (nI i) = some (I 194 i) := xw_aI (xw_K h (by decide) (by decide) (by decide)) hi (by decide)
theorem kS194 {σ : XS} (h : Shp σ) {I : Nat → Nat → Int32} {i : Nat} {v : Int32} (hi : i < 198) : xsI (xw σ I) 20 194 (nI i) v = some (xw σ (xup I 194 i v)) := xw_sI (xw_K h (by decide) (by decide) (by decide)) hi (by decide)
theorem kL195 {σ : XS} (h : Shp σ) : xal σ 195 = some (nI 3) := by rw [xal_ok (by rw [sT195 h]; decide), sl195 h]
theorem kA195 {σ : XS} (h : Shp σ) {I : Nat → Nat → Int32} {i : Nat} (hi : i < 3) : xaI (xw σ I) 22 195 (nI i) = some (I 195 i) := xw_aI (xw_K h (by decide) (by decide) (by decide)) hi (by decide)
theorem kS195 {σ : XS} (h : Shp σ) {I : Nat → Nat → Int32} {i : Nat} {v : Int32} (hi : i < 3) : xsI (xw σ I) 22 195 (nI i) v = some (xw σ (xup I 195 i v)) := xw_sI (xw_K h (by decide) (by decide) (by decide)) hi (by decide)
theorem kL196 {σ : XS} (h : Shp σ) : xal σ 196 = some (nI 65536) := by rw [xal_ok (by rw [sT196 h]; decide), sl196 h]
theorem kA196 {σ : XS} (h : Shp σ) {I : Nat → Nat → Int32} {i : Nat} (hi : i < 65536) : xaI (xw σ I) 20 196 (nI i) = some (I 196 i) := xw_aI (xw_K h (by decide) (by decide) (by decide)) hi (by decide)
theorem kS196 {σ : XS} (h : Shp σ) {I : Nat → Nat → Int32} {i : Nat} {v : Int32} (hi : i < 65536) : xsI (xw σ I) 20 196 (nI i) v = some (xw σ (xup I 196 i v)) := xw_sI (xw_K h (by decide) (by decide) (by decide)) hi (by decide)
theorem kL197 {σ : XS} (h : Shp σ) : xal σ 197 = some (nI 301) := by rw [xal_ok (by rw [sT197 h]; decide), sl197 h]
theorem kA197 {σ : XS} (h : Shp σ) {I : Nat → Nat → Int32} {i : Nat} (hi : i < 301) : xaI (xw σ I) 20 197 (nI i) = some (I 197 i) := xw_aI (xw_K h (by decide) (by decide) (by decide)) hi (by decide)
theorem kS197 {σ : XS} (h : Shp σ) {I : Nat → Nat → Int32} {i : Nat} {v : Int32} (hi : i < 301) : xsI (xw σ I) 20 197 (nI i) v = some (xw σ (xup I 197 i v)) := xw_sI (xw_K h (by decide) (by decide) (by decide)) hi (by decide)
theorem kL198 {σ : XS} (h : Shp σ) : xal σ 198 = some (nI 301) := by rw [xal_ok (by rw [sT198 h]; decide), sl198 h]
theorem kA198 {σ : XS} (h : Shp σ) {I : Nat → Nat → Int32} {i : Nat} (hi : i < 301) : xaI (xw σ I) 20 198 (nI i) = some (I 198 i) := xw_aI (xw_K h (by decide) (by decide) (by decide)) hi (by decide)
theorem kS198 {σ : XS} (h : Shp σ) {I : Nat → Nat → Int32} {i : Nat} {v : Int32} (hi : i < 301) : xsI (xw σ I) 20 198 (nI i) v = some (xw σ (xup I 198 i v)) := xw_sI (xw_K h (by decide) (by decide) (by decide)) hi (by decide)
theorem kL199 {σ : XS} (h : Shp σ) : xal σ 199 = some (nI 66) := by rw [xal_ok (by rw [sT199 h]; decide), sl199 h]
theorem kA199 {σ : XS} (h : Shp σ) {I : Nat → Nat → Int32} {i : Nat} (hi : i < 66) : xaI (xw σ I) 20 199 (nI i) = some (I 199 i) := xw_aI (xw_K h (by decide) (by decide) (by decide)) hi (by decide)
theorem kS199 {σ : XS} (h : Shp σ) {I : Nat → Nat → Int32} {i : Nat} {v : Int32} (hi : i < 66) : xsI (xw σ I) 20 199 (nI i) v = some (xw σ (xup I 199 i v)) := xw_sI (xw_K h (by decide) (by decide) (by decide)) hi (by decide)
theorem kL200 {σ : XS} (h : Shp σ) : xal σ 200 = some (nI 301) := by rw [xal_ok (by rw [sT200 h]; decide), sl200 h]
theorem kA200 {σ : XS} (h : Shp σ) {I : Nat → Nat → Int32} {i : Nat} (hi : i < 301) : xaI (xw σ I) 20 200 (nI i) = some (I 200 i) := xw_aI (xw_K h (by decide) (by decide) (by decide)) hi (by decide)
theorem kS200 {σ : XS} (h : Shp σ) {I : Nat → Nat → Int32} {i : Nat} {v : Int32} (hi : i < 301) : xsI (xw σ I) 20 200 (nI i) v = some (xw σ (xup I 200 i v)) := xw_sI (xw_K h (by decide) (by decide) (by decide)) hi (by decide)
theorem kL201 {σ : XS} (h : Shp σ) : xal σ 201 = some (nI 601) := by rw [xal_ok (by rw [sT201 h]; decide), sl201 h]
theorem kL202 {σ : XS} (h : Shp σ) : xal σ 202 = some (nI 1024) := by rw [xal_ok (by rw [sT202 h]; decide), sl202 h]
theorem kA202 {σ : XS} (h : Shp σ) {I : Nat → Nat → Int32} {i : Nat} (hi : i < 1024) : xaI (xw σ I) 20 202 (nI i) = some (I 202 i) := xw_aI (xw_K h (by decide) (by decide) (by decide)) hi (by decide)
theorem kS202 {σ : XS} (h : Shp σ) {I : Nat → Nat → Int32} {i : Nat} {v : Int32} (hi : i < 1024) : xsI (xw σ I) 20 202 (nI i) v = some (xw σ (xup I 202 i v)) := xw_sI (xw_K h (by decide) (by decide) (by decide)) hi (by decide)
theorem kL203 {σ : XS} (h : Shp σ) : xal σ 203 = some (nI 1024) := by rw [xal_ok (by rw [sT203 h]; decide), sl203 h]
theorem kA203 {σ : XS} (h : Shp σ) {I : Nat → Nat → Int32} {i : Nat} (hi : i < 1024) : xaI (xw σ I) 22 203 (nI i) = some (I 203 i) := xw_aI (xw_K h (by decide) (by decide) (by decide)) hi (by decide)
theorem kS203 {σ : XS} (h : Shp σ) {I : Nat → Nat → Int32} {i : Nat} {v : Int32} (hi : i < 1024) : xsI (xw σ I) 22 203 (nI i) v = some (xw σ (xup I 203 i v)) := xw_sI (xw_K h (by decide) (by decide) (by decide)) hi (by decide)
theorem kL204 {σ : XS} (h : Shp σ) : xal σ 204 = some (nI 1024) := by rw [xal_ok (by rw [sT204 h]; decide), sl204 h]
theorem kA204 {σ : XS} (h : Shp σ) {I : Nat → Nat → Int32} {i : Nat} (hi : i < 1024) : xaI (xw σ I) 20 204 (nI i) = some (I 204 i) := xw_aI (xw_K h (by decide) (by decide) (by decide)) hi (by decide)
theorem kS204 {σ : XS} (h : Shp σ) {I : Nat → Nat → Int32} {i : Nat} {v : Int32} (hi : i < 1024) : xsI (xw σ I) 20 204 (nI i) v = some (xw σ (xup I 204 i v)) := xw_sI (xw_K h (by decide) (by decide) (by decide)) hi (by decide)
theorem kL205 {σ : XS} (h : Shp σ) : xal σ 205 = some (nI 1024) := by rw [xal_ok (by rw [sT205 h]; decide), sl205 h]
theorem kL206 {σ : XS} (h : Shp σ) : xal σ 206 = some (nI 256) := by rw [xal_ok (by rw [sT206 h]; decide), sl206 h]
theorem kA206 {σ : XS} (h : Shp σ) {I : Nat → Nat → Int32} {i : Nat} (hi : i < 256) : xaI (xw σ I) 20 206 (nI i) = some (I 206 i) := xw_aI (xw_K h (by decide) (by decide) (by decide)) hi (by decide)
theorem kS206 {σ : XS} (h : Shp σ) {I : Nat → Nat → Int32} {i : Nat} {v : Int32} (hi : i < 256) : xsI (xw σ I) 20 206 (nI i) v = some (xw σ (xup I 206 i v)) := xw_sI (xw_K h (by decide) (by decide) (by decide)) hi (by decide)
end
section
/-! setups, wherever they lie -/
def suA : List Nat := 8 :: 16 :: ((List.range 40).map (fun i => 21 + 3 * i) ++ (List.range 3).map (fun i => 143 + 5 * i))
theorem suA_k {i : Nat} (h : i < 40) : 21 + 3 * i ∈ suA := List.mem_cons_of_mem _ (List.mem_cons_of_mem _ (List.mem_append_left _ (List.mem_map.mpr ⟨i, List.mem_range.mpr h, rfl⟩)))
theorem suA_s {i : Nat} (h : i < 3) : 143 + 5 * i ∈ suA := List.mem_cons_of_mem _ (List.mem_cons_of_mem _ (List.mem_append_right _ (List.mem_map.mpr ⟨i, List.mem_range.mpr h, rfl⟩)))
theorem suA_8 : 8 ∈ suA := List.mem_cons_self
theorem suA_16 : 16 ∈ suA := List.mem_cons_of_mem _ List.mem_cons_self
theorem suK : ∀ a ∈ suA, a + 2 < 160 ∧ shK.getD a (99, 0) = (6, 0) ∧ shK.getD (a + 1) (99, 0) = (20, 32) ∧ shK.getD (a + 2) (99, 0) = (20, 16) ∧ (shR.getD a []).getD 0 0 = a + 1 ∧ (shR.getD a []).getD 1 0 = a + 2 := by decide +kernel
section SETUP
variable {σ : XS} {I : Nat → Nat → Int32} {a b : Nat}
theorem suT (h : Shp σ) (ha : a ∈ suA) : xT σ a = 6 := by
  have := suK a ha
  unfold xT
  rw [xw_K h (by omega) (by omega) (by omega), this.2.1]
theorem suK1 (h : Shp σ) (ha : a ∈ suA) : σ.1 (a + 1) = (20, 32) := by
  have := suK a ha
  rw [xw_K h (by omega) (by omega) (by omega), this.2.2.1]
theorem suK2 (h : Shp σ) (ha : a ∈ suA) : σ.1 (a + 2) = (20, 16) := by
  have := suK a ha
  rw [xw_K h (by omega) (by omega) (by omega), this.2.2.2.1]
theorem suC (h : Shp σ) (ha : a ∈ suA) : xck σ a 6 = some () := xck_ok (suT h ha)
theorem suG (h : Shp σ) (ha : a ∈ suA) {j : Nat} : xgI (xw σ I) a 6 j = some (I a j) := xw_gI (suT h ha)
theorem suP (h : Shp σ) (ha : a ∈ suA) {j : Nat} {v : Int32} : xpI (xw σ I) a 6 j v = some (xw σ (xup I a j v)) := xw_pI (suT h ha)
theorem suR0 (h : Shp σ) (ha : a ∈ suA) : xgR σ a 6 0 = some (a + 1) := by
  have := suK a ha
  refine xgR_to (suT h ha) ?_ (by omega)
  rw [h.2.2 a (by omega) 0 (by omega), this.2.2.2.2.1]
theorem suR1 (h : Shp σ) (ha : a ∈ suA) : xgR σ a 6 1 = some (a + 2) := by
  have := suK a ha
  refine xgR_to (suT h ha) ?_ (by omega)
  rw [h.2.2 a (by omega) 1 (by omega), this.2.2.2.2.2]
theorem suL1 (h : Shp σ) (ha : a ∈ suA) : xal σ (a + 1) = some (nI 32) := by
  rw [xal_ok (by unfold xT; rw [suK1 h ha]; decide)]
  unfold xlen
  rw [suK1 h ha]
theorem suL2 (h : Shp σ) (ha : a ∈ suA) : xal σ (a + 2) = some (nI 16) := by
  rw [xal_ok (by unfold xT; rw [suK2 h ha]; decide)]
  unfold xlen
  rw [suK2 h ha]
theorem suA1 (h : Shp σ) (ha : a ∈ suA) {i : Nat} (hi : i < 32) : xaI (xw σ I) 20 (a + 1) (nI i) = some (I (a + 1) i) := xw_aI (suK1 h ha) hi (by decide)
theorem suA2 (h : Shp σ) (ha : a ∈ suA) {i : Nat} (hi : i < 16) : xaI (xw σ I) 20 (a + 2) (nI i) = some (I (a + 2) i) := xw_aI (suK2 h ha) hi (by decide)
theorem suS1 (h : Shp σ) (ha : a ∈ suA) {i : Nat} {v : Int32} (hi : i < 32) : xsI (xw σ I) 20 (a + 1) (nI i) v = some (xw σ (xup I (a + 1) i v)) := xw_sI (suK1 h ha) hi (by decide)
theorem suS2 (h : Shp σ) (ha : a ∈ suA) {i : Nat} {v : Int32} (hi : i < 16) : xsI (xw σ I) 20 (a + 2) (nI i) v = some (xw σ (xup I (a + 2) i v)) := xw_sI (suK2 h ha) hi (by decide)
/-- one setup copied into another -/
def cpI (I : Nat → Nat → Int32) (a b : Nat) : Nat → Nat → Int32 := fun c k => if c = a + 1 ∧ k < 32 then I (b + 1) k else if c = a + 2 ∧ k < 16 then I (b + 2) k else if c = a ∧ 2 ≤ k ∧ k ≤ 7 then I b k else I c k
theorem xw_cp {q m n k : Nat} (h1 : σ.1 a = (20, m)) (h2 : σ.1 b = (20, n)) (hm : k ≤ m) (hn : k ≤ n) (hk : k < 2147483648) : xcp (xw σ I) a (0 : Int32) b (0 : Int32) (nI k) = some (xw σ (xur I b (fun j => if j < k then I a j else I b j))) := by
  unfold xcp
  have e0 : ((0 : Int32)).toNatClampNeg = 0 := rfl
  have ek : (nI k).toNatClampNeg = k := nI_clamp hk
  rw [e0, ek, if_pos ⟨congrArg Prod.fst h1, congrArg Prod.fst h2, by decide, by decide, nI_pos hk, by rw [show xlen (xw σ I) a = m from congrArg Prod.snd h1]; omega, by rw [show xlen (xw σ I) b = n from congrArg Prod.snd h2]; omega⟩]
  congr 1
  show xw σ _ = _
  congr 1
  unfold xur
  funext c j
  by_cases hc : c = b
  · rw [if_pos hc, if_pos hc]
    unfold va_cpy
    by_cases hj : j < k
    · rw [if_pos ⟨Nat.zero_le _, by omega⟩]
      simp [xw_I, hj]
    · rw [if_neg (by omega)]
      simp [xw_I, hj]
  · rw [if_neg hc, if_neg hc]
    rfl
theorem cp_ok (h : Shp σ) (ha : a ∈ suA) (hb : b ∈ suA) (hab : a ≠ b) (h1 : b ≠ a + 1) (h2 : b ≠ a + 2) (h3 : a ≠ b + 1) (h4 : a ≠ b + 2) : f_X6_copyFrom (xw σ I) a b = some (xw σ (cpI I a b)) := by
  unfold f_X6_copyFrom
  simp only [xw_gR, suR0 h hb, suR0 h ha, suR1 h hb, suR1 h ha, Option.bind_some, xw_cp (q := 0) (suK1 h hb) (suK1 h ha) (Nat.le_refl 32) (Nat.le_refl 32) (by decide), show (32 : Int32) = nI 32 from rfl, show (16 : Int32) = nI 16 from rfl, xw_cp (q := 0) (suK2 h hb) (suK2 h ha) (Nat.le_refl 16) (Nat.le_refl 16) (by decide), suG h ha, suG h hb, suP h ha]
  congr 2
  funext c k
  have h5 : ¬ (b + 1 = a) := fun q => h3 q.symm
  have h6 : ¬ (b + 2 = a) := fun q => h4 q.symm
  have h7 : ¬ (b = a) := fun q => hab q.symm
  have h8 : ¬ (b + 2 = a + 1) := by omega
  simp only [xup_at, xur_at, cpI, h1, h2, h5, h6, h7, h8, if_false, false_and]
  by_cases c1 : c = a + 1
  · subst c1; simp
  by_cases c2 : c = a + 2
  · subst c2; simp
  by_cases c3 : c = a
  · subst c3; simp only [true_and, Nat.left_eq_add, if_false, reduceCtorEq, c1, c2, false_and]
    grind (splits := 20)
  · simp [c1, c2, c3]
end SETUP
end
section
/-! what each part of the invariant looks at -/
def sTAP (a k : Nat) : Prop := (a = 3 ∧ k = 4) ∨ a = 4 ∨ a = 184 ∨ (a = 183 ∧ k = 2)
def sGRD (a k : Nat) : Prop := (11 ≤ a ∧ a ≤ 15) ∨ (a = 183 ∧ 17 ≤ k ∧ k ≤ 20) ∨ a = 173
def sNOW (a k : Nat) : Prop := (16 ≤ a ∧ a ≤ 18) ∨ a = 191
def sPST (a k : Nat) : Prop := (19 ≤ a ∧ a ≤ 140) ∨ a = 193 ∨ (a = 183 ∧ 28 ≤ k ∧ k ≤ 29)
def sSLT (a k : Nat) : Prop := (142 ≤ a ∧ a ≤ 156) ∨ a = 194 ∨ a = 195
def sCCH (c a k : Nat) : Prop := (165 ≤ a ∧ a ≤ 175) ∨ (a = 157 ∧ k = 5) ∨ a = c
def sKNW (a k : Nat) : Prop := (a = 183 ∧ (k = 32 ∨ k = 35)) ∨ (a = 191 ∧ k < 64) ∨ (196 ≤ a ∧ a ≤ 198)
section FRAME
variable {g : GD} {gT gP gT' gP' : GH} {st st' : Nat} {I I' : Nat → Nat → Int32} {R : Nat → Nat → Nat} {len : Nat → Nat}
theorem TAP_c (h : ∀ a k, sTAP a k → I' a k = I a k) (H : TAP I) : TAP I' := by
  obtain ⟨m, h1, h2, h3, h4⟩ := H
  refine ⟨m, h1, by rw [h _ _ (by unfold sTAP; omega)]; exact h2, by rw [h _ _ (by unfold sTAP; omega)]; exact h3, fun k hk => ?_⟩
  rw [h 184 k (by unfold sTAP; omega), h 4 k (by unfold sTAP; omega)]
  exact h4 k hk
theorem GRD_c (h : ∀ a k, sGRD a k → I' a k = I a k) (H : GRD I g) : GRD I' g := by
  obtain ⟨h0, h1, h2, h3, h4, h5, h6, h7, h8, h9, h10, h11, h12⟩ := H
  have u : ∀ a k, ((11 ≤ a ∧ a ≤ 15) ∨ (a = 183 ∧ 17 ≤ k ∧ k ≤ 20) ∨ a = 173) → I' a k = I a k := h
  refine ⟨h0, ?_, ?_, ?_, ?_, fun t ht => ?_, fun i hi => ?_, fun i j hi hj => ?_, ?_, ?_, ?_, ?_, fun i hi => ?_⟩
  · rw [u _ _ (by omega)]; exact h1
  · rw [u _ _ (by omega)]; exact h2
  · rw [u _ _ (by omega)]; exact h3
  · rw [u _ _ (by omega)]; exact h4
  · rw [u _ _ (by omega)]; exact h5 t ht
  · rw [u _ _ (by omega)]; exact h6 i hi
  · rw [u _ _ (by omega), u _ _ (by omega)]; exact h7 i j hi hj
  · rw [u _ _ (by omega)]; exact h8
  · rw [u _ _ (by omega)]; exact h9
  · rw [u _ _ (by omega)]; exact h10
  · rw [u _ _ (by omega)]; exact h11
  · rw [u _ _ (by omega)]; exact h12 i hi
theorem SR_m (hg : g ∈ gAll) {a a' : Nat} {F F' : Nat → Int32} (h0 : ∀ k, 2 ≤ k → k ≤ 7 → I' a' k = I a k) (h1 : ∀ k, k < 32 → I' (a' + 1) k = I (a + 1) k) (h2 : ∀ k, k < 16 → I' (a' + 2) k = I (a + 2) k) (hF : ∀ k, k < 66 → F' k = F k) (H : SR g I a F) : SR g I' a' F' := by
  obtain ⟨e1, e2, ⟨p, u, e3, e4, e5, e6⟩, e7, e8⟩ := H
  have h16 := (gAll_b g hg).2.2.1
  refine ⟨fun t ht => by rw [h1 t ht, e1 t ht, hF t (by omega)], fun i hi => by rw [h2 i hi, e2 i hi, hF _ (by omega)], ⟨p, u, by rw [h0 2 (by omega) (by omega)]; exact e3, by rw [h0 3 (by omega) (by omega)]; exact e4, fun i => ?_, fun i => ?_⟩, by rw [h0 4 (by omega) (by omega), hF 64 (by omega)]; exact e7, by rw [h0 5 (by omega) (by omega), hF 65 (by omega)]; exact e8⟩
  · by_cases hi : i < gSz g
    · rw [e5, hF (48 + i) (by omega)]
    · rw [e5]; simp [hi]
  · by_cases hi : i < gSz g
    · rw [e6, hF (48 + i) (by omega)]
    · rw [e6]; simp [hi]
theorem LV_m (hg : g ∈ gAll) {a a' : Nat} {F F' : Nat → Int32} (h0 : ∀ k, 2 ≤ k → k ≤ 7 → I' a' k = I a k) (h1 : ∀ k, k < 32 → I' (a' + 1) k = I (a + 1) k) (h2 : ∀ k, k < 16 → I' (a' + 2) k = I (a + 2) k) (hF : ∀ k, k < 66 → F' k = F k)
    (hs : st ≤ st') (hT : ∀ t, t ≤ st → gT' t = gT t) (hP : ∀ t, t ≤ st → gP' t = gP t) (H : LV g gT gP st I a F) : LV g gT' gP' st' I' a' F' := by
  obtain ⟨e1, e2, t, p, e3, e4, e5, e6, e7, e8, e9, e10⟩ := H
  refine ⟨SR_m hg h0 h1 h2 hF e1, RO_congr hg hF e2, t, p, by omega, by omega, by rw [h0 6 (by omega) (by omega)]; exact e5, by rw [h0 7 (by omega) (by omega)]; exact e6, by rw [hT t e3]; exact e7, fun k hk => by rw [hT t e3, hF k (by omega)]; exact e8 k hk, by rw [hP p e4]; exact e9, fun k hk => by rw [hP p e4, hF k (by omega)]; exact e10 k hk⟩
theorem NOW_c (hg : g ∈ gAll) (h : ∀ a k, sNOW a k → I' a k = I a k) (H : LV g gT gP st I 16 (I 191)) : LV g gT gP st I' 16 (I' 191) :=
  have u : ∀ a k, ((16 ≤ a ∧ a ≤ 18) ∨ a = 191) → I' a k = I a k := h
  LV_m hg (fun k _ _ => u _ _ (by omega)) (fun k _ => u _ _ (by omega)) (fun k _ => u _ _ (by omega)) (fun k _ => u _ _ (by omega)) (Nat.le_refl _) (fun _ _ => rfl) (fun _ _ => rfl) H
theorem PST_c (hg : g ∈ gAll) (h : ∀ a k, sPST a k → I' a k = I a k) (hs : st ≤ st') (hT : ∀ t, t ≤ st → gT' t = gT t) (hP : ∀ t, t ≤ st → gP' t = gP t) (H : PST g gT gP st I) : PST g gT' gP' st' I' := by
  have u : ∀ a k, ((19 ≤ a ∧ a ≤ 140) ∨ a = 193 ∨ (a = 183 ∧ 28 ≤ k ∧ k ≤ 29)) → I' a k = I a k := h
  obtain ⟨q, nx, ea, h1, h2, h3, h4, h5, h6, h7, h8⟩ := H
  refine ⟨q, nx, ea, h1, h2, h3, by rw [u _ _ (by omega)]; exact h4, by rw [u _ _ (by omega)]; exact h5, by rw [u _ _ (by omega)]; exact h6, by rw [u _ _ (by omega)]; exact h7, fun i hi => ?_⟩
  exact LV_m hg (fun k _ _ => u _ _ (by omega)) (fun k _ => u _ _ (by omega)) (fun k _ => u _ _ (by omega)) (fun k _ => u _ _ (by omega)) hs hT hP (h8 i hi)
theorem ct_congr {F F' : Nat → Int32} (hg : g ∈ gAll) (h : ∀ k, k < 64 → F' k = F k) : lW g F' = lW g F ∧ eE g (zR F') = eE g (zR F) ∧ lE g F' = lE g F ∧ lC g F' = lC g F ∧ lU g F' = lU g F ∧ lvP g F' = lvP g F ∧ bk g F' = bk g F := by
  have h16 := (gAll_b g hg).2.2.1
  have a : lW g F' = lW g F := by
    funext s
    unfold lW
    rw [Bool.eq_iff_iff, List.all_eq_true, List.all_eq_true]
    constructor
    · intro H i hi
      have := List.mem_range.mp hi
      have q := H i hi
      rw [h (48 + i) (by omega)] at q
      exact q
    · intro H i hi
      have := List.mem_range.mp hi
      have q := H i hi
      rw [h (48 + i) (by omega)]
      exact q
  have b : eE g (zR F') = eE g (zR F) := by
    funext s
    unfold eE
    congr 1
    · apply fb_si_cong
      intro t ht
      unfold eT zR
      split
      · rfl
      · rw [h t (by omega)]
    · apply fb_si_cong
      intro t ht
      unfold eH zR
      rw [h (32 + t) (by omega)]
  have c : lE g F' = lE g F := by funext e s; unfold lE; rw [a, b]
  have d : lC g F' = lC g F := by funext e; unfold lC; rw [c]
  have f : lU g F' = lU g F := by funext e u; unfold lU; rw [c]
  refine ⟨a, b, c, d, f, ?_, ?_⟩
  · funext k; unfold lvP; rw [d]
  · funext s
    unfold bk
    apply fb_ct_cong
    intro t ht
    unfold bkP
    split
    · rfl
    · rw [h t (by omega)]
theorem WAY_c (hg : g ∈ gAll) {a : Nat} {F F' : Nat → Int32} (h : ∀ k, k < 289 → I' a k = I a k) (hF : ∀ k, k < 64 → F' k = F k) (H : WAY I a g F) : WAY I' a g F' := fun k hk => by
  rw [h k hk, (ct_congr hg hF).2.2.2.1]; exact H k hk
theorem SLT_c (hg : g ∈ gAll) (h : ∀ a k, sSLT a k → I' a k = I a k) (hs : st ≤ st') (hT : ∀ t, t ≤ st → gT' t = gT t) (hP : ∀ t, t ≤ st → gP' t = gP t) (H : SLT g gT gP st I) : SLT g gT' gP' st' I' := by
  have u : ∀ a k, ((142 ≤ a ∧ a ≤ 156) ∨ a = 194 ∨ a = 195) → I' a k = I a k := h
  intro i hi
  obtain ⟨f, c, h1, h2, h3, h4, h5, h6, h7⟩ := H i hi
  refine ⟨f, c, h1, h2, by rw [u _ _ (by omega)]; exact h3, by rw [u _ _ (by omega)]; exact h4, by rw [u _ _ (by omega)]; exact h5, fun hf => ?_, fun hf hc => ?_⟩
  · exact LV_m hg (fun k _ _ => u _ _ (by omega)) (fun k _ => u _ _ (by omega)) (fun k _ => u _ _ (by omega)) (fun k _ => u _ _ (by omega)) hs hT hP (h6 hf)
  · exact WAY_c hg (fun k _ => u _ _ (by omega)) (fun k _ => u _ _ (by omega)) (h7 hf hc)
theorem ENK_c {a : Nat} {F : Nat → Int32} (h : ∀ k, I' (R a 4) k = I (R a 4) k) (H : ENK I R len a g F) : ENK I' R len a g F := ⟨H.1, fun s hs => by rw [h]; exact H.2 s hs⟩
theorem LVK_c {F : Nat → Int32} (h : ∀ a k, (165 ≤ a ∧ a ≤ 169) → I' a k = I a k) (H : LVK I g F) : LVK I' g F := by
  obtain ⟨h1, h2, h3, h4, h5⟩ := H
  refine ⟨fun k hk => by rw [h _ _ (by omega)]; exact h1 k hk, fun k s hk hs q1 q2 => by rw [h _ _ (by omega)]; exact h2 k s hk hs q1 q2, fun k u hk hu => by rw [h _ _ (by omega)]; exact h3 k u hk hu, by rw [h _ _ (by omega)]; exact h4, fun k hk q => by rw [h _ _ (by omega)]; exact h5 k hk q⟩
theorem BRK_c {F : Nat → Int32} (h : ∀ k, I' 171 k = I 171 k) (H : BRK I g F) : BRK I' g F := fun m hm => by rw [h]; exact H m hm
theorem TRK_c {F : Nat → Int32} (h : ∀ a k, (174 ≤ a ∧ a ≤ 175) → I' a k = I a k) (H : TRK I R g F) : TRK I' R g F := by
  intro hn
  obtain ⟨h1, h2, h3, M, o, h4, h5, h6, h7⟩ := H hn
  exact ⟨by rw [h _ _ (by omega)]; exact h1, h2, h3, M, o, h4, by rw [h _ _ (by omega)]; exact h5, fun i hi => by rw [h _ _ (by omega)]; exact h6 i hi, h7⟩
theorem CCH_c (h : ∀ a k, sCCH (R 157 4) a k → I' a k = I a k) (hs : st ≤ st') (hT : ∀ t, t ≤ st → gT' t = gT t) (hP : ∀ t, t ≤ st → gP' t = gP t) (H : CCH I R len gT gP st) : CCH I' R len gT' gP' st' := by
  have u : ∀ a k, ((165 ≤ a ∧ a ≤ 175) ∨ (a = 157 ∧ k = 5) ∨ a = R 157 4) → I' a k = I a k := h
  obtain ⟨h1, h2, h3, h4⟩ := H
  refine ⟨?_, ?_, ?_, ?_⟩
  · rw [u 157 5 (by omega)]
    rcases h1 with q | ⟨t, q1, q2, q3⟩
    · exact .inl q
    · exact .inr ⟨t, by omega, q2, by rw [hT t q1]; exact ENK_c (fun k => u _ _ (by omega)) q3⟩
  · rw [u 165 5 (by omega)]
    rcases h2 with q | ⟨t, q1, q2, q3⟩
    · exact .inl q
    · exact .inr ⟨t, by omega, q2, by rw [hP t q1]; exact LVK_c (fun a k _ => u _ _ (by omega)) q3⟩
  · rw [u 170 3 (by omega)]
    rcases h3 with q | ⟨t, q1, q2, q3⟩
    · exact .inl q
    · exact .inr ⟨t, by omega, q2, by rw [hP t q1]; exact BRK_c (fun k => u _ _ (by omega)) q3⟩
  · rw [u 174 10 (by omega)]
    rcases h4 with q | ⟨t, q1, q2, q3⟩
    · exact .inl q
    · exact .inr ⟨t, by omega, q2, by rw [hP t q1]; exact TRK_c (fun a k _ => u _ _ (by omega)) q3⟩
theorem KNK_c (hg : g ∈ gAll) {F F' : Nat → Int32} (h : ∀ a k, ((a = 183 ∧ k = 35) ∨ (196 ≤ a ∧ a ≤ 198)) → I' a k = I a k) (hF : ∀ k, k < 64 → F' k = F k) (H : KNK I g F) : KNK I' g F' := by
  obtain ⟨c1, c2, c3, c4, c5, c6, c7⟩ := ct_congr hg hF
  obtain ⟨h1, h2, h3, h4⟩ := H
  have cN : lvN g F' = lvN g F := by unfold lvN; rw [c6]
  refine ⟨fun s hs => by rw [h _ _ (by omega), c1, c2]; exact h1 s hs, fun e he => by rw [h _ _ (by omega), c4]; exact h2 e he, by rw [h _ _ (by omega), cN]; exact h3, fun k hk q => ?_⟩
  rw [c6] at q ⊢
  rw [h _ _ (by omega)]
  exact h4 k hk q
theorem KNW_c (hg : g ∈ gAll) (h : ∀ a k, sKNW a k → I' a k = I a k) (H : KNW I g) : KNW I' g := by
  have u : ∀ a k, ((a = 183 ∧ (k = 32 ∨ k = 35)) ∨ (a = 191 ∧ k < 64) ∨ (196 ≤ a ∧ a ≤ 198)) → I' a k = I a k := h
  unfold KNW
  rw [u 183 32 (by omega)]
  rcases H with q | ⟨q1, q2⟩
  · exact .inl q
  · exact .inr ⟨q1, KNK_c hg (fun a k _ => u _ _ (by omega)) (fun k _ => u _ _ (by omega)) q2⟩
end FRAME
end
section
/-! the tape: feed, back, place -/
theorem xforE {α β : Type} {f : α → Option (α ⊕ β)} {a0 : α} (s : Nat → α) (N : Nat) {b : β} (h0 : a0 = s 0) (hs : ∀ k, k < N → f (s k) = some (.inl (s (k + 1)))) (he : f (s N) = some (.inr b)) : xloop f a0 = some b := by
  rw [h0]
  exact xfor s N hs he
def bW (x : Int32) (j : Nat) : Int32 := vp_nar .byte ((x >>> (iI (24 - 8 * (j : Int)) &&& 31)).toInt8.toInt32)
theorem bW_b (x : Int32) (j : Nat) : -128 ≤ (bW x j).toInt ∧ (bW x j).toInt < 128 := by
  unfold bW vp_nar
  exact fb_byte_rng _
def fdI (I : Nat → Nat → Int32) (a b f m : Nat) (w : Nat → Int32) (n : Nat) : Nat → Nat → Int32 := fun c k => if c = a ∧ m ≤ k ∧ k < m + n then w (k - m) else if c = b ∧ k = f then nI (m + n) else I c k
theorem fdI_0 {I : Nat → Nat → Int32} {a b f m : Nat} {w : Nat → Int32} (h : I b f = nI m) : fdI I a b f m w 0 = I := by
  funext c k
  unfold fdI
  rw [if_neg (by omega)]
  split
  · next q => rw [q.1, q.2, h, Nat.add_zero]
  · rfl
theorem fdI_s {I : Nat → Nat → Int32} {a b f m n : Nat} {w : Nat → Int32} (hab : a ≠ b) : xup (xup (fdI I a b f m w n) a (m + n) (w n)) b f (nI (m + n + 1)) = fdI I a b f m w (n + 1) := by
  funext c k
  simp only [xup_at, fdI]
  by_cases h1 : c = b
  · subst h1
    have h2 : ¬ c = a := fun q => hab q.symm
    by_cases h3 : k = f
    · simp [h2, h3, Nat.add_assoc]
    · simp [h2, h3]
  · by_cases h2 : c = a
    · subst h2
      by_cases h3 : k = m + n
      · subst h3; simp [h1]
      · by_cases h4 : m ≤ k ∧ k < m + n
        · have : m ≤ k ∧ k < m + (n + 1) := by omega
          simp [h1, h3, h4, this]
        · have : ¬ (m ≤ k ∧ k < m + (n + 1)) := by omega
          simp [h1, h3, h4, this]
    · simp [h1, h2]
section TAPE
variable {σ : XS} {I : Nat → Nat → Int32} {m : Nat}
theorem addWord_ok (hS : Shp σ) (hI : I 3 4 = nI m) (hm : m + 4 ≤ 2000) (x : Int32) : f_X8_addWord (xw σ I) 3 x = some (xw σ (fdI I 4 3 4 m (bW x) 4)) := by
  unfold f_X8_addWord
  refine xforE (fun j : Nat => (iI (24 - 8 * (j : Int)), xw σ (fdI I 4 3 4 m (bW x) j))) 4 (by simp only [fdI_0 hI]; rfl) (fun j hj => ?_) ?_
  · simp only [f_X8_addWord_b3]
    have e1 : ¬ iI (24 - 8 * (j : Int)) < 0 := by
      rw [show (0 : Int32) = iI 0 from rfl, iI_lt (by omega) (by omega) (by omega) (by omega)]; omega
    have e2 : fdI I 4 3 4 m (bW x) j 3 4 = nI (m + j) := by simp [fdI]
    rw [if_neg e1]
    simp (disch := first | assumption | omega) only [Option.bind_some, Option.map_some, xw_gR, xw_gN, xw_al, xw_ck, xw_uI, xw_ur, xup_at, xur_at, if_true, if_false, reduceIte, and_true, true_and, and_false, false_and, not_true_eq_false, not_false_eq_true, Nat.reduceEqDiff, eq_self, Nat.reduceAdd, Nat.reduceMul, kC1, kG1, kP1, kR1_0, kR1_1, kR1_2, kR1_3, kR1_4, kR1_5, kR1_6, kR1_7, kR1_8, kR1_9, kR1_10, kR1_11, kR1_12, kR1_13, kC2, kG2, kP2, kR2_0, kR2_1, kC3, kG3, kP3, kR3_0, kR3_1, kR3_2, kR3_3, kL4, kA4, kS4, kL5, kA5, kS5, kL6, kA6, kS6, kL7, kA7, kS7, kC8, kG8, kP8, kR8_0, kR8_1, kL9, kA9, kS9, kL10, kA10, kS10, kC11, kG11, kP11, kR11_0, kR11_1, kR11_2, kR11_3, kL12, kA12, kS12, kL13, kA13, kS13, kL14, kA14, kS14, kL15, kA15, kS15, kC16, kG16, kP16, kR16_0, kR16_1, kL17, kA17, kS17, kL18, kA18, kS18, kC19, kG19, kP19, kR19_0, kL20, kL141, kL146, kA146, kS146, kL151, kA151, kS151, kL156, kA156, kS156, kC157, kG157, kP157, kR157_0, kR157_1, kL158, kA158, kS158, kL159, kA159, kS159, kC161, kG161, kP161, kR161_0, kR161_1, kL162, kA162, kS162, kL163, kA163, kS163, kC165, kG165, kP165, kR165_0, kR165_1, kR165_2, kR165_3, kL166, kA166, kS166, kL167, kA167, kS167, kL168, kA168, kS168, kL169, kA169, kS169, kC170, kG170, kP170, kR170_0, kR170_1, kR170_2, kL171, kA171, kS171, kL172, kA172, kS172, kL173, kA173, kS173, kC174, kG174, kP174, kR174_0, kR174_1, kR174_2, kR174_3, kR174_4, kL175, kA175, kS175, kL176, kA176, kS176, kL177, kA177, kS177, kL178, kA178, kS178, kL179, kC180, kG180, kP180, kL181, kL182, kA182, kS182, kC183, kG183, kP183, kR183_1, kR183_3, kR183_5, kR183_6, kR183_7, kR183_8, kR183_9, kR183_21, kR183_26, kR183_27, kR183_30, kR183_31, kR183_33, kR183_34, kR183_36, kR183_37, kR183_38, kR183_39, kR183_40, kR183_41, kR183_42, kR183_43, kR183_44, kL184, kA184, kS184, kL185, kA185, kS185, kL186, kA186, kS186, kL187, kA187, kS187, kL188, kA188, kS188, kL189, kL190, kL191, kA191, kS191, kL192, kA192, kS192, kL193, kA193, kS193, kL194, kA194, kS194, kL195, kA195, kS195, kL196, kA196, kS196, kL197, kA197, kS197, kL198, kA198, kS198, kL199, kA199, kS199, kL200, kA200, kS200, kL201, kL202, kA202, kS202, kL203, kA203, kS203, kL204, kA204, kS204, kL205, kL206, kA206, kS206, e2]
    rw [if_neg (nI_pos (by omega)), if_neg (by rw [nn_le (by omega) (by omega)]; omega)]
    have e3 : iI (24 - 8 * (j : Int)) + (-8 : Int32) = iI (24 - 8 * ((j + 1 : Nat) : Int)) := by
      rw [show (-8 : Int32) = iI (-8) from rfl, iI_add]; congr 1; omega
    rw [e3, show (1 : Int32) = nI 1 from rfl, nn_add]
    show some (Sum.inl (_, xw σ (xup (xup (fdI I 4 3 4 m (bW x) j) 4 (m + j) (bW x j)) 3 4 (nI (m + j + 1))))) = _
    rw [fdI_s (by decide)]
  · simp only [f_X8_addWord_b3]
    rw [if_pos (by decide)]
    rfl
theorem lays_ok (hS : Shp σ) (hI : I 183 2 = nI m) (hm : m + 4 ≤ 2000) (x : Int32) : f_X12_lays (xw σ I) 183 x = some (xw σ (fdI I 184 183 2 m (bW x) 4)) := by
  unfold f_X12_lays
  refine xforE (fun j : Nat => (iI (24 - 8 * (j : Int)), xw σ (fdI I 184 183 2 m (bW x) j))) 4 (by simp only [fdI_0 hI]; rfl) (fun j hj => ?_) ?_
  · simp only [f_X12_lays_b3]
    have e1 : ¬ iI (24 - 8 * (j : Int)) < 0 := by
      rw [show (0 : Int32) = iI 0 from rfl, iI_lt (by omega) (by omega) (by omega) (by omega)]; omega
    have e2 : fdI I 184 183 2 m (bW x) j 183 2 = nI (m + j) := by simp [fdI]
    rw [if_neg e1]
    simp (disch := first | assumption | omega) only [Option.bind_some, Option.map_some, xw_gR, xw_gN, xw_al, xw_ck, xw_uI, xw_ur, xup_at, xur_at, if_true, if_false, reduceIte, and_true, true_and, and_false, false_and, not_true_eq_false, not_false_eq_true, Nat.reduceEqDiff, eq_self, Nat.reduceAdd, Nat.reduceMul, kC1, kG1, kP1, kR1_0, kR1_1, kR1_2, kR1_3, kR1_4, kR1_5, kR1_6, kR1_7, kR1_8, kR1_9, kR1_10, kR1_11, kR1_12, kR1_13, kC2, kG2, kP2, kR2_0, kR2_1, kC3, kG3, kP3, kR3_0, kR3_1, kR3_2, kR3_3, kL4, kA4, kS4, kL5, kA5, kS5, kL6, kA6, kS6, kL7, kA7, kS7, kC8, kG8, kP8, kR8_0, kR8_1, kL9, kA9, kS9, kL10, kA10, kS10, kC11, kG11, kP11, kR11_0, kR11_1, kR11_2, kR11_3, kL12, kA12, kS12, kL13, kA13, kS13, kL14, kA14, kS14, kL15, kA15, kS15, kC16, kG16, kP16, kR16_0, kR16_1, kL17, kA17, kS17, kL18, kA18, kS18, kC19, kG19, kP19, kR19_0, kL20, kL141, kL146, kA146, kS146, kL151, kA151, kS151, kL156, kA156, kS156, kC157, kG157, kP157, kR157_0, kR157_1, kL158, kA158, kS158, kL159, kA159, kS159, kC161, kG161, kP161, kR161_0, kR161_1, kL162, kA162, kS162, kL163, kA163, kS163, kC165, kG165, kP165, kR165_0, kR165_1, kR165_2, kR165_3, kL166, kA166, kS166, kL167, kA167, kS167, kL168, kA168, kS168, kL169, kA169, kS169, kC170, kG170, kP170, kR170_0, kR170_1, kR170_2, kL171, kA171, kS171, kL172, kA172, kS172, kL173, kA173, kS173, kC174, kG174, kP174, kR174_0, kR174_1, kR174_2, kR174_3, kR174_4, kL175, kA175, kS175, kL176, kA176, kS176, kL177, kA177, kS177, kL178, kA178, kS178, kL179, kC180, kG180, kP180, kL181, kL182, kA182, kS182, kC183, kG183, kP183, kR183_1, kR183_3, kR183_5, kR183_6, kR183_7, kR183_8, kR183_9, kR183_21, kR183_26, kR183_27, kR183_30, kR183_31, kR183_33, kR183_34, kR183_36, kR183_37, kR183_38, kR183_39, kR183_40, kR183_41, kR183_42, kR183_43, kR183_44, kL184, kA184, kS184, kL185, kA185, kS185, kL186, kA186, kS186, kL187, kA187, kS187, kL188, kA188, kS188, kL189, kL190, kL191, kA191, kS191, kL192, kA192, kS192, kL193, kA193, kS193, kL194, kA194, kS194, kL195, kA195, kS195, kL196, kA196, kS196, kL197, kA197, kS197, kL198, kA198, kS198, kL199, kA199, kS199, kL200, kA200, kS200, kL201, kL202, kA202, kS202, kL203, kA203, kS203, kL204, kA204, kS204, kL205, kL206, kA206, kS206, e2]
    have e3 : iI (24 - 8 * (j : Int)) + (-8 : Int32) = iI (24 - 8 * ((j + 1 : Nat) : Int)) := by
      rw [show (-8 : Int32) = iI (-8) from rfl, iI_add]; congr 1; omega
    rw [e3, show (1 : Int32) = nI 1 from rfl, nn_add]
    show some (Sum.inl (_, xw σ (xup (xup (fdI I 184 183 2 m (bW x) j) 184 (m + j) (bW x j)) 183 2 (nI (m + j + 1))))) = _
    rw [fdI_s (by decide)]
  · simp only [f_X12_lays_b3]
    rw [if_pos (by decide)]
    rfl
end TAPE

theorem fdI_j {I : Nat → Nat → Int32} {a b f m n k : Nat} {w v : Nat → Int32} (hab : a ≠ b) : fdI (fdI I a b f m w n) a b f (m + n) v k = fdI I a b f m (fun j => if j < n then w j else v (j - n)) (n + k) := by
  funext c j
  unfold fdI
  by_cases h1 : c = b
  · subst h1
    have h2 : ¬ c = a := fun q => hab q.symm
    simp [h2, Nat.add_assoc]
    by_cases h3 : j = f
    · simp [h3]
    · simp [h3]
  · by_cases h2 : c = a
    · subst h2
      simp only [true_and, h1, false_and, if_false]
      by_cases q1 : m ≤ j ∧ j < m + n
      · have q2 : ¬ (m + n ≤ j ∧ j < m + n + k) := by omega
        have q3 : m ≤ j ∧ j < m + (n + k) := by omega
        have q4 : j - m < n := by omega
        rw [if_neg q2, if_pos q1, if_pos q3, if_pos q4]
      · by_cases q2 : m + n ≤ j ∧ j < m + n + k
        · have q3 : m ≤ j ∧ j < m + (n + k) := by omega
          have q4 : ¬ j - m < n := by omega
          rw [if_pos q2, if_pos q3, if_neg q4]
          congr 1; omega
        · have q3 : ¬ (m ≤ j ∧ j < m + (n + k)) := by omega
          rw [if_neg q2, if_neg q1, if_neg q3]
    · simp [h1, h2]
theorem feed_in {I : Nat → Nat → Int32} {a b f m n : Nat} {w : Nat → Int32} (hab : a ≠ b) : fdI I a b f m w n b f = nI (m + n) := by
  unfold fdI
  rw [if_neg (fun q => hab q.1.symm), if_pos ⟨rfl, rfl⟩]
/-- the five words' bytes -/
def fW (a b c d e : Int32) : Nat → Int32 := fun j => if j < 16 then (if j < 12 then (if j < 8 then (if j < 4 then bW a j else bW b (j - 4)) else bW c (j - 8)) else bW d (j - 12)) else bW e (j - 16)
theorem feed11 {σ : XS} {I : Nat → Nat → Int32} {m : Nat} (hS : Shp σ) (hI : I 3 4 = nI m) (hm : m + 20 ≤ 2000) (a b c d e : Int32) : f_X11_feed (xw σ I) 1 a b c d e = some (nI (m + 20), xw σ (fdI I 4 3 4 m (fW a b c d e) 20)) := by
  unfold f_X11_feed
  simp (disch := first | assumption | omega) only [Option.bind_some, Option.map_some, xw_gR, xw_gN, xw_al, xw_ck, xw_uI, xw_ur, xup_at, xur_at, if_true, if_false, reduceIte, and_true, true_and, and_false, false_and, not_true_eq_false, not_false_eq_true, Nat.reduceEqDiff, eq_self, Nat.reduceAdd, Nat.reduceMul, kC1, kG1, kP1, kR1_0, kR1_1, kR1_2, kR1_3, kR1_4, kR1_5, kR1_6, kR1_7, kR1_8, kR1_9, kR1_10, kR1_11, kR1_12, kR1_13, kC2, kG2, kP2, kR2_0, kR2_1, kC3, kG3, kP3, kR3_0, kR3_1, kR3_2, kR3_3, kL4, kA4, kS4, kL5, kA5, kS5, kL6, kA6, kS6, kL7, kA7, kS7, kC8, kG8, kP8, kR8_0, kR8_1, kL9, kA9, kS9, kL10, kA10, kS10, kC11, kG11, kP11, kR11_0, kR11_1, kR11_2, kR11_3, kL12, kA12, kS12, kL13, kA13, kS13, kL14, kA14, kS14, kL15, kA15, kS15, kC16, kG16, kP16, kR16_0, kR16_1, kL17, kA17, kS17, kL18, kA18, kS18, kC19, kG19, kP19, kR19_0, kL20, kL141, kL146, kA146, kS146, kL151, kA151, kS151, kL156, kA156, kS156, kC157, kG157, kP157, kR157_0, kR157_1, kL158, kA158, kS158, kL159, kA159, kS159, kC161, kG161, kP161, kR161_0, kR161_1, kL162, kA162, kS162, kL163, kA163, kS163, kC165, kG165, kP165, kR165_0, kR165_1, kR165_2, kR165_3, kL166, kA166, kS166, kL167, kA167, kS167, kL168, kA168, kS168, kL169, kA169, kS169, kC170, kG170, kP170, kR170_0, kR170_1, kR170_2, kL171, kA171, kS171, kL172, kA172, kS172, kL173, kA173, kS173, kC174, kG174, kP174, kR174_0, kR174_1, kR174_2, kR174_3, kR174_4, kL175, kA175, kS175, kL176, kA176, kS176, kL177, kA177, kS177, kL178, kA178, kS178, kL179, kC180, kG180, kP180, kL181, kL182, kA182, kS182, kC183, kG183, kP183, kR183_1, kR183_3, kR183_5, kR183_6, kR183_7, kR183_8, kR183_9, kR183_21, kR183_26, kR183_27, kR183_30, kR183_31, kR183_33, kR183_34, kR183_36, kR183_37, kR183_38, kR183_39, kR183_40, kR183_41, kR183_42, kR183_43, kR183_44, kL184, kA184, kS184, kL185, kA185, kS185, kL186, kA186, kS186, kL187, kA187, kS187, kL188, kA188, kS188, kL189, kL190, kL191, kA191, kS191, kL192, kA192, kS192, kL193, kA193, kS193, kL194, kA194, kS194, kL195, kA195, kS195, kL196, kA196, kS196, kL197, kA197, kS197, kL198, kA198, kS198, kL199, kA199, kS199, kL200, kA200, kS200, kL201, kL202, kA202, kS202, kL203, kA203, kS203, kL204, kA204, kS204, kL205, kL206, kA206, kS206, hI]
  rw [if_pos (by rw [show (20 : Int32) = nI 20 from rfl, nn_add, show (2000 : Int32) = nI 2000 from rfl, nn_le (by omega) (by omega)]; exact hm)]
  rw [addWord_ok hS hI (by omega)]
  simp (disch := first | assumption | omega) only [Option.bind_some, Option.map_some, xw_gR, xw_gN, xw_al, xw_ck, xw_uI, xw_ur, xup_at, xur_at, if_true, if_false, reduceIte, and_true, true_and, and_false, false_and, not_true_eq_false, not_false_eq_true, Nat.reduceEqDiff, eq_self, Nat.reduceAdd, Nat.reduceMul, kC1, kG1, kP1, kR1_0, kR1_1, kR1_2, kR1_3, kR1_4, kR1_5, kR1_6, kR1_7, kR1_8, kR1_9, kR1_10, kR1_11, kR1_12, kR1_13, kC2, kG2, kP2, kR2_0, kR2_1, kC3, kG3, kP3, kR3_0, kR3_1, kR3_2, kR3_3, kL4, kA4, kS4, kL5, kA5, kS5, kL6, kA6, kS6, kL7, kA7, kS7, kC8, kG8, kP8, kR8_0, kR8_1, kL9, kA9, kS9, kL10, kA10, kS10, kC11, kG11, kP11, kR11_0, kR11_1, kR11_2, kR11_3, kL12, kA12, kS12, kL13, kA13, kS13, kL14, kA14, kS14, kL15, kA15, kS15, kC16, kG16, kP16, kR16_0, kR16_1, kL17, kA17, kS17, kL18, kA18, kS18, kC19, kG19, kP19, kR19_0, kL20, kL141, kL146, kA146, kS146, kL151, kA151, kS151, kL156, kA156, kS156, kC157, kG157, kP157, kR157_0, kR157_1, kL158, kA158, kS158, kL159, kA159, kS159, kC161, kG161, kP161, kR161_0, kR161_1, kL162, kA162, kS162, kL163, kA163, kS163, kC165, kG165, kP165, kR165_0, kR165_1, kR165_2, kR165_3, kL166, kA166, kS166, kL167, kA167, kS167, kL168, kA168, kS168, kL169, kA169, kS169, kC170, kG170, kP170, kR170_0, kR170_1, kR170_2, kL171, kA171, kS171, kL172, kA172, kS172, kL173, kA173, kS173, kC174, kG174, kP174, kR174_0, kR174_1, kR174_2, kR174_3, kR174_4, kL175, kA175, kS175, kL176, kA176, kS176, kL177, kA177, kS177, kL178, kA178, kS178, kL179, kC180, kG180, kP180, kL181, kL182, kA182, kS182, kC183, kG183, kP183, kR183_1, kR183_3, kR183_5, kR183_6, kR183_7, kR183_8, kR183_9, kR183_21, kR183_26, kR183_27, kR183_30, kR183_31, kR183_33, kR183_34, kR183_36, kR183_37, kR183_38, kR183_39, kR183_40, kR183_41, kR183_42, kR183_43, kR183_44, kL184, kA184, kS184, kL185, kA185, kS185, kL186, kA186, kS186, kL187, kA187, kS187, kL188, kA188, kS188, kL189, kL190, kL191, kA191, kS191, kL192, kA192, kS192, kL193, kA193, kS193, kL194, kA194, kS194, kL195, kA195, kS195, kL196, kA196, kS196, kL197, kA197, kS197, kL198, kA198, kS198, kL199, kA199, kS199, kL200, kA200, kS200, kL201, kL202, kA202, kS202, kL203, kA203, kS203, kL204, kA204, kS204, kL205, kL206, kA206, kS206]
  rw [addWord_ok (m := m + 4) hS (feed_in (by decide)) (by omega), fdI_j (by decide)]
  simp (disch := first | assumption | omega) only [Option.bind_some, Option.map_some, xw_gR, xw_gN, xw_al, xw_ck, xw_uI, xw_ur, xup_at, xur_at, if_true, if_false, reduceIte, and_true, true_and, and_false, false_and, not_true_eq_false, not_false_eq_true, Nat.reduceEqDiff, eq_self, Nat.reduceAdd, Nat.reduceMul, kC1, kG1, kP1, kR1_0, kR1_1, kR1_2, kR1_3, kR1_4, kR1_5, kR1_6, kR1_7, kR1_8, kR1_9, kR1_10, kR1_11, kR1_12, kR1_13, kC2, kG2, kP2, kR2_0, kR2_1, kC3, kG3, kP3, kR3_0, kR3_1, kR3_2, kR3_3, kL4, kA4, kS4, kL5, kA5, kS5, kL6, kA6, kS6, kL7, kA7, kS7, kC8, kG8, kP8, kR8_0, kR8_1, kL9, kA9, kS9, kL10, kA10, kS10, kC11, kG11, kP11, kR11_0, kR11_1, kR11_2, kR11_3, kL12, kA12, kS12, kL13, kA13, kS13, kL14, kA14, kS14, kL15, kA15, kS15, kC16, kG16, kP16, kR16_0, kR16_1, kL17, kA17, kS17, kL18, kA18, kS18, kC19, kG19, kP19, kR19_0, kL20, kL141, kL146, kA146, kS146, kL151, kA151, kS151, kL156, kA156, kS156, kC157, kG157, kP157, kR157_0, kR157_1, kL158, kA158, kS158, kL159, kA159, kS159, kC161, kG161, kP161, kR161_0, kR161_1, kL162, kA162, kS162, kL163, kA163, kS163, kC165, kG165, kP165, kR165_0, kR165_1, kR165_2, kR165_3, kL166, kA166, kS166, kL167, kA167, kS167, kL168, kA168, kS168, kL169, kA169, kS169, kC170, kG170, kP170, kR170_0, kR170_1, kR170_2, kL171, kA171, kS171, kL172, kA172, kS172, kL173, kA173, kS173, kC174, kG174, kP174, kR174_0, kR174_1, kR174_2, kR174_3, kR174_4, kL175, kA175, kS175, kL176, kA176, kS176, kL177, kA177, kS177, kL178, kA178, kS178, kL179, kC180, kG180, kP180, kL181, kL182, kA182, kS182, kC183, kG183, kP183, kR183_1, kR183_3, kR183_5, kR183_6, kR183_7, kR183_8, kR183_9, kR183_21, kR183_26, kR183_27, kR183_30, kR183_31, kR183_33, kR183_34, kR183_36, kR183_37, kR183_38, kR183_39, kR183_40, kR183_41, kR183_42, kR183_43, kR183_44, kL184, kA184, kS184, kL185, kA185, kS185, kL186, kA186, kS186, kL187, kA187, kS187, kL188, kA188, kS188, kL189, kL190, kL191, kA191, kS191, kL192, kA192, kS192, kL193, kA193, kS193, kL194, kA194, kS194, kL195, kA195, kS195, kL196, kA196, kS196, kL197, kA197, kS197, kL198, kA198, kS198, kL199, kA199, kS199, kL200, kA200, kS200, kL201, kL202, kA202, kS202, kL203, kA203, kS203, kL204, kA204, kS204, kL205, kL206, kA206, kS206]
  rw [addWord_ok (m := m + 8) hS (feed_in (by decide)) (by omega), fdI_j (n := 8) (by decide)]
  simp (disch := first | assumption | omega) only [Option.bind_some, Option.map_some, xw_gR, xw_gN, xw_al, xw_ck, xw_uI, xw_ur, xup_at, xur_at, if_true, if_false, reduceIte, and_true, true_and, and_false, false_and, not_true_eq_false, not_false_eq_true, Nat.reduceEqDiff, eq_self, Nat.reduceAdd, Nat.reduceMul, kC1, kG1, kP1, kR1_0, kR1_1, kR1_2, kR1_3, kR1_4, kR1_5, kR1_6, kR1_7, kR1_8, kR1_9, kR1_10, kR1_11, kR1_12, kR1_13, kC2, kG2, kP2, kR2_0, kR2_1, kC3, kG3, kP3, kR3_0, kR3_1, kR3_2, kR3_3, kL4, kA4, kS4, kL5, kA5, kS5, kL6, kA6, kS6, kL7, kA7, kS7, kC8, kG8, kP8, kR8_0, kR8_1, kL9, kA9, kS9, kL10, kA10, kS10, kC11, kG11, kP11, kR11_0, kR11_1, kR11_2, kR11_3, kL12, kA12, kS12, kL13, kA13, kS13, kL14, kA14, kS14, kL15, kA15, kS15, kC16, kG16, kP16, kR16_0, kR16_1, kL17, kA17, kS17, kL18, kA18, kS18, kC19, kG19, kP19, kR19_0, kL20, kL141, kL146, kA146, kS146, kL151, kA151, kS151, kL156, kA156, kS156, kC157, kG157, kP157, kR157_0, kR157_1, kL158, kA158, kS158, kL159, kA159, kS159, kC161, kG161, kP161, kR161_0, kR161_1, kL162, kA162, kS162, kL163, kA163, kS163, kC165, kG165, kP165, kR165_0, kR165_1, kR165_2, kR165_3, kL166, kA166, kS166, kL167, kA167, kS167, kL168, kA168, kS168, kL169, kA169, kS169, kC170, kG170, kP170, kR170_0, kR170_1, kR170_2, kL171, kA171, kS171, kL172, kA172, kS172, kL173, kA173, kS173, kC174, kG174, kP174, kR174_0, kR174_1, kR174_2, kR174_3, kR174_4, kL175, kA175, kS175, kL176, kA176, kS176, kL177, kA177, kS177, kL178, kA178, kS178, kL179, kC180, kG180, kP180, kL181, kL182, kA182, kS182, kC183, kG183, kP183, kR183_1, kR183_3, kR183_5, kR183_6, kR183_7, kR183_8, kR183_9, kR183_21, kR183_26, kR183_27, kR183_30, kR183_31, kR183_33, kR183_34, kR183_36, kR183_37, kR183_38, kR183_39, kR183_40, kR183_41, kR183_42, kR183_43, kR183_44, kL184, kA184, kS184, kL185, kA185, kS185, kL186, kA186, kS186, kL187, kA187, kS187, kL188, kA188, kS188, kL189, kL190, kL191, kA191, kS191, kL192, kA192, kS192, kL193, kA193, kS193, kL194, kA194, kS194, kL195, kA195, kS195, kL196, kA196, kS196, kL197, kA197, kS197, kL198, kA198, kS198, kL199, kA199, kS199, kL200, kA200, kS200, kL201, kL202, kA202, kS202, kL203, kA203, kS203, kL204, kA204, kS204, kL205, kL206, kA206, kS206]
  rw [addWord_ok (m := m + 12) hS (feed_in (by decide)) (by omega), fdI_j (n := 12) (by decide)]
  simp (disch := first | assumption | omega) only [Option.bind_some, Option.map_some, xw_gR, xw_gN, xw_al, xw_ck, xw_uI, xw_ur, xup_at, xur_at, if_true, if_false, reduceIte, and_true, true_and, and_false, false_and, not_true_eq_false, not_false_eq_true, Nat.reduceEqDiff, eq_self, Nat.reduceAdd, Nat.reduceMul, kC1, kG1, kP1, kR1_0, kR1_1, kR1_2, kR1_3, kR1_4, kR1_5, kR1_6, kR1_7, kR1_8, kR1_9, kR1_10, kR1_11, kR1_12, kR1_13, kC2, kG2, kP2, kR2_0, kR2_1, kC3, kG3, kP3, kR3_0, kR3_1, kR3_2, kR3_3, kL4, kA4, kS4, kL5, kA5, kS5, kL6, kA6, kS6, kL7, kA7, kS7, kC8, kG8, kP8, kR8_0, kR8_1, kL9, kA9, kS9, kL10, kA10, kS10, kC11, kG11, kP11, kR11_0, kR11_1, kR11_2, kR11_3, kL12, kA12, kS12, kL13, kA13, kS13, kL14, kA14, kS14, kL15, kA15, kS15, kC16, kG16, kP16, kR16_0, kR16_1, kL17, kA17, kS17, kL18, kA18, kS18, kC19, kG19, kP19, kR19_0, kL20, kL141, kL146, kA146, kS146, kL151, kA151, kS151, kL156, kA156, kS156, kC157, kG157, kP157, kR157_0, kR157_1, kL158, kA158, kS158, kL159, kA159, kS159, kC161, kG161, kP161, kR161_0, kR161_1, kL162, kA162, kS162, kL163, kA163, kS163, kC165, kG165, kP165, kR165_0, kR165_1, kR165_2, kR165_3, kL166, kA166, kS166, kL167, kA167, kS167, kL168, kA168, kS168, kL169, kA169, kS169, kC170, kG170, kP170, kR170_0, kR170_1, kR170_2, kL171, kA171, kS171, kL172, kA172, kS172, kL173, kA173, kS173, kC174, kG174, kP174, kR174_0, kR174_1, kR174_2, kR174_3, kR174_4, kL175, kA175, kS175, kL176, kA176, kS176, kL177, kA177, kS177, kL178, kA178, kS178, kL179, kC180, kG180, kP180, kL181, kL182, kA182, kS182, kC183, kG183, kP183, kR183_1, kR183_3, kR183_5, kR183_6, kR183_7, kR183_8, kR183_9, kR183_21, kR183_26, kR183_27, kR183_30, kR183_31, kR183_33, kR183_34, kR183_36, kR183_37, kR183_38, kR183_39, kR183_40, kR183_41, kR183_42, kR183_43, kR183_44, kL184, kA184, kS184, kL185, kA185, kS185, kL186, kA186, kS186, kL187, kA187, kS187, kL188, kA188, kS188, kL189, kL190, kL191, kA191, kS191, kL192, kA192, kS192, kL193, kA193, kS193, kL194, kA194, kS194, kL195, kA195, kS195, kL196, kA196, kS196, kL197, kA197, kS197, kL198, kA198, kS198, kL199, kA199, kS199, kL200, kA200, kS200, kL201, kL202, kA202, kS202, kL203, kA203, kS203, kL204, kA204, kS204, kL205, kL206, kA206, kS206]
  rw [addWord_ok (m := m + 16) hS (feed_in (by decide)) (by omega), fdI_j (n := 16) (by decide)]
  simp (disch := first | assumption | omega) only [Option.bind_some, Option.map_some, xw_gR, xw_gN, xw_al, xw_ck, xw_uI, xw_ur, xup_at, xur_at, if_true, if_false, reduceIte, and_true, true_and, and_false, false_and, not_true_eq_false, not_false_eq_true, Nat.reduceEqDiff, eq_self, Nat.reduceAdd, Nat.reduceMul, kC1, kG1, kP1, kR1_0, kR1_1, kR1_2, kR1_3, kR1_4, kR1_5, kR1_6, kR1_7, kR1_8, kR1_9, kR1_10, kR1_11, kR1_12, kR1_13, kC2, kG2, kP2, kR2_0, kR2_1, kC3, kG3, kP3, kR3_0, kR3_1, kR3_2, kR3_3, kL4, kA4, kS4, kL5, kA5, kS5, kL6, kA6, kS6, kL7, kA7, kS7, kC8, kG8, kP8, kR8_0, kR8_1, kL9, kA9, kS9, kL10, kA10, kS10, kC11, kG11, kP11, kR11_0, kR11_1, kR11_2, kR11_3, kL12, kA12, kS12, kL13, kA13, kS13, kL14, kA14, kS14, kL15, kA15, kS15, kC16, kG16, kP16, kR16_0, kR16_1, kL17, kA17, kS17, kL18, kA18, kS18, kC19, kG19, kP19, kR19_0, kL20, kL141, kL146, kA146, kS146, kL151, kA151, kS151, kL156, kA156, kS156, kC157, kG157, kP157, kR157_0, kR157_1, kL158, kA158, kS158, kL159, kA159, kS159, kC161, kG161, kP161, kR161_0, kR161_1, kL162, kA162, kS162, kL163, kA163, kS163, kC165, kG165, kP165, kR165_0, kR165_1, kR165_2, kR165_3, kL166, kA166, kS166, kL167, kA167, kS167, kL168, kA168, kS168, kL169, kA169, kS169, kC170, kG170, kP170, kR170_0, kR170_1, kR170_2, kL171, kA171, kS171, kL172, kA172, kS172, kL173, kA173, kS173, kC174, kG174, kP174, kR174_0, kR174_1, kR174_2, kR174_3, kR174_4, kL175, kA175, kS175, kL176, kA176, kS176, kL177, kA177, kS177, kL178, kA178, kS178, kL179, kC180, kG180, kP180, kL181, kL182, kA182, kS182, kC183, kG183, kP183, kR183_1, kR183_3, kR183_5, kR183_6, kR183_7, kR183_8, kR183_9, kR183_21, kR183_26, kR183_27, kR183_30, kR183_31, kR183_33, kR183_34, kR183_36, kR183_37, kR183_38, kR183_39, kR183_40, kR183_41, kR183_42, kR183_43, kR183_44, kL184, kA184, kS184, kL185, kA185, kS185, kL186, kA186, kS186, kL187, kA187, kS187, kL188, kA188, kS188, kL189, kL190, kL191, kA191, kS191, kL192, kA192, kS192, kL193, kA193, kS193, kL194, kA194, kS194, kL195, kA195, kS195, kL196, kA196, kS196, kL197, kA197, kS197, kL198, kA198, kS198, kL199, kA199, kS199, kL200, kA200, kS200, kL201, kL202, kA202, kS202, kL203, kA203, kS203, kL204, kA204, kS204, kL205, kL206, kA206, kS206]
  rw [feed_in (by decide)]
  rfl
theorem feed12 {σ : XS} {I : Nat → Nat → Int32} {m : Nat} (hS : Shp σ) (hI : I 183 2 = nI m) (hm : m + 20 ≤ 2000) (a b c d e : Int32) : f_X12_feed (xw σ I) 183 a b c d e = some (nI (m + 20), xw σ (fdI I 184 183 2 m (fW a b c d e) 20)) := by
  unfold f_X12_feed
  simp (disch := first | assumption | omega) only [Option.bind_some, Option.map_some, xw_gR, xw_gN, xw_al, xw_ck, xw_uI, xw_ur, xup_at, xur_at, if_true, if_false, reduceIte, and_true, true_and, and_false, false_and, not_true_eq_false, not_false_eq_true, Nat.reduceEqDiff, eq_self, Nat.reduceAdd, Nat.reduceMul, kC1, kG1, kP1, kR1_0, kR1_1, kR1_2, kR1_3, kR1_4, kR1_5, kR1_6, kR1_7, kR1_8, kR1_9, kR1_10, kR1_11, kR1_12, kR1_13, kC2, kG2, kP2, kR2_0, kR2_1, kC3, kG3, kP3, kR3_0, kR3_1, kR3_2, kR3_3, kL4, kA4, kS4, kL5, kA5, kS5, kL6, kA6, kS6, kL7, kA7, kS7, kC8, kG8, kP8, kR8_0, kR8_1, kL9, kA9, kS9, kL10, kA10, kS10, kC11, kG11, kP11, kR11_0, kR11_1, kR11_2, kR11_3, kL12, kA12, kS12, kL13, kA13, kS13, kL14, kA14, kS14, kL15, kA15, kS15, kC16, kG16, kP16, kR16_0, kR16_1, kL17, kA17, kS17, kL18, kA18, kS18, kC19, kG19, kP19, kR19_0, kL20, kL141, kL146, kA146, kS146, kL151, kA151, kS151, kL156, kA156, kS156, kC157, kG157, kP157, kR157_0, kR157_1, kL158, kA158, kS158, kL159, kA159, kS159, kC161, kG161, kP161, kR161_0, kR161_1, kL162, kA162, kS162, kL163, kA163, kS163, kC165, kG165, kP165, kR165_0, kR165_1, kR165_2, kR165_3, kL166, kA166, kS166, kL167, kA167, kS167, kL168, kA168, kS168, kL169, kA169, kS169, kC170, kG170, kP170, kR170_0, kR170_1, kR170_2, kL171, kA171, kS171, kL172, kA172, kS172, kL173, kA173, kS173, kC174, kG174, kP174, kR174_0, kR174_1, kR174_2, kR174_3, kR174_4, kL175, kA175, kS175, kL176, kA176, kS176, kL177, kA177, kS177, kL178, kA178, kS178, kL179, kC180, kG180, kP180, kL181, kL182, kA182, kS182, kC183, kG183, kP183, kR183_1, kR183_3, kR183_5, kR183_6, kR183_7, kR183_8, kR183_9, kR183_21, kR183_26, kR183_27, kR183_30, kR183_31, kR183_33, kR183_34, kR183_36, kR183_37, kR183_38, kR183_39, kR183_40, kR183_41, kR183_42, kR183_43, kR183_44, kL184, kA184, kS184, kL185, kA185, kS185, kL186, kA186, kS186, kL187, kA187, kS187, kL188, kA188, kS188, kL189, kL190, kL191, kA191, kS191, kL192, kA192, kS192, kL193, kA193, kS193, kL194, kA194, kS194, kL195, kA195, kS195, kL196, kA196, kS196, kL197, kA197, kS197, kL198, kA198, kS198, kL199, kA199, kS199, kL200, kA200, kS200, kL201, kL202, kA202, kS202, kL203, kA203, kS203, kL204, kA204, kS204, kL205, kL206, kA206, kS206, hI]
  rw [if_pos (by rw [show (20 : Int32) = nI 20 from rfl, nn_add, show (2000 : Int32) = nI 2000 from rfl, nn_le (by omega) (by omega)]; exact hm)]
  rw [lays_ok hS hI (by omega)]
  simp (disch := first | assumption | omega) only [Option.bind_some, Option.map_some, xw_gR, xw_gN, xw_al, xw_ck, xw_uI, xw_ur, xup_at, xur_at, if_true, if_false, reduceIte, and_true, true_and, and_false, false_and, not_true_eq_false, not_false_eq_true, Nat.reduceEqDiff, eq_self, Nat.reduceAdd, Nat.reduceMul, kC1, kG1, kP1, kR1_0, kR1_1, kR1_2, kR1_3, kR1_4, kR1_5, kR1_6, kR1_7, kR1_8, kR1_9, kR1_10, kR1_11, kR1_12, kR1_13, kC2, kG2, kP2, kR2_0, kR2_1, kC3, kG3, kP3, kR3_0, kR3_1, kR3_2, kR3_3, kL4, kA4, kS4, kL5, kA5, kS5, kL6, kA6, kS6, kL7, kA7, kS7, kC8, kG8, kP8, kR8_0, kR8_1, kL9, kA9, kS9, kL10, kA10, kS10, kC11, kG11, kP11, kR11_0, kR11_1, kR11_2, kR11_3, kL12, kA12, kS12, kL13, kA13, kS13, kL14, kA14, kS14, kL15, kA15, kS15, kC16, kG16, kP16, kR16_0, kR16_1, kL17, kA17, kS17, kL18, kA18, kS18, kC19, kG19, kP19, kR19_0, kL20, kL141, kL146, kA146, kS146, kL151, kA151, kS151, kL156, kA156, kS156, kC157, kG157, kP157, kR157_0, kR157_1, kL158, kA158, kS158, kL159, kA159, kS159, kC161, kG161, kP161, kR161_0, kR161_1, kL162, kA162, kS162, kL163, kA163, kS163, kC165, kG165, kP165, kR165_0, kR165_1, kR165_2, kR165_3, kL166, kA166, kS166, kL167, kA167, kS167, kL168, kA168, kS168, kL169, kA169, kS169, kC170, kG170, kP170, kR170_0, kR170_1, kR170_2, kL171, kA171, kS171, kL172, kA172, kS172, kL173, kA173, kS173, kC174, kG174, kP174, kR174_0, kR174_1, kR174_2, kR174_3, kR174_4, kL175, kA175, kS175, kL176, kA176, kS176, kL177, kA177, kS177, kL178, kA178, kS178, kL179, kC180, kG180, kP180, kL181, kL182, kA182, kS182, kC183, kG183, kP183, kR183_1, kR183_3, kR183_5, kR183_6, kR183_7, kR183_8, kR183_9, kR183_21, kR183_26, kR183_27, kR183_30, kR183_31, kR183_33, kR183_34, kR183_36, kR183_37, kR183_38, kR183_39, kR183_40, kR183_41, kR183_42, kR183_43, kR183_44, kL184, kA184, kS184, kL185, kA185, kS185, kL186, kA186, kS186, kL187, kA187, kS187, kL188, kA188, kS188, kL189, kL190, kL191, kA191, kS191, kL192, kA192, kS192, kL193, kA193, kS193, kL194, kA194, kS194, kL195, kA195, kS195, kL196, kA196, kS196, kL197, kA197, kS197, kL198, kA198, kS198, kL199, kA199, kS199, kL200, kA200, kS200, kL201, kL202, kA202, kS202, kL203, kA203, kS203, kL204, kA204, kS204, kL205, kL206, kA206, kS206]
  rw [lays_ok (m := m + 4) hS (feed_in (by decide)) (by omega), fdI_j (by decide)]
  simp (disch := first | assumption | omega) only [Option.bind_some, Option.map_some, xw_gR, xw_gN, xw_al, xw_ck, xw_uI, xw_ur, xup_at, xur_at, if_true, if_false, reduceIte, and_true, true_and, and_false, false_and, not_true_eq_false, not_false_eq_true, Nat.reduceEqDiff, eq_self, Nat.reduceAdd, Nat.reduceMul, kC1, kG1, kP1, kR1_0, kR1_1, kR1_2, kR1_3, kR1_4, kR1_5, kR1_6, kR1_7, kR1_8, kR1_9, kR1_10, kR1_11, kR1_12, kR1_13, kC2, kG2, kP2, kR2_0, kR2_1, kC3, kG3, kP3, kR3_0, kR3_1, kR3_2, kR3_3, kL4, kA4, kS4, kL5, kA5, kS5, kL6, kA6, kS6, kL7, kA7, kS7, kC8, kG8, kP8, kR8_0, kR8_1, kL9, kA9, kS9, kL10, kA10, kS10, kC11, kG11, kP11, kR11_0, kR11_1, kR11_2, kR11_3, kL12, kA12, kS12, kL13, kA13, kS13, kL14, kA14, kS14, kL15, kA15, kS15, kC16, kG16, kP16, kR16_0, kR16_1, kL17, kA17, kS17, kL18, kA18, kS18, kC19, kG19, kP19, kR19_0, kL20, kL141, kL146, kA146, kS146, kL151, kA151, kS151, kL156, kA156, kS156, kC157, kG157, kP157, kR157_0, kR157_1, kL158, kA158, kS158, kL159, kA159, kS159, kC161, kG161, kP161, kR161_0, kR161_1, kL162, kA162, kS162, kL163, kA163, kS163, kC165, kG165, kP165, kR165_0, kR165_1, kR165_2, kR165_3, kL166, kA166, kS166, kL167, kA167, kS167, kL168, kA168, kS168, kL169, kA169, kS169, kC170, kG170, kP170, kR170_0, kR170_1, kR170_2, kL171, kA171, kS171, kL172, kA172, kS172, kL173, kA173, kS173, kC174, kG174, kP174, kR174_0, kR174_1, kR174_2, kR174_3, kR174_4, kL175, kA175, kS175, kL176, kA176, kS176, kL177, kA177, kS177, kL178, kA178, kS178, kL179, kC180, kG180, kP180, kL181, kL182, kA182, kS182, kC183, kG183, kP183, kR183_1, kR183_3, kR183_5, kR183_6, kR183_7, kR183_8, kR183_9, kR183_21, kR183_26, kR183_27, kR183_30, kR183_31, kR183_33, kR183_34, kR183_36, kR183_37, kR183_38, kR183_39, kR183_40, kR183_41, kR183_42, kR183_43, kR183_44, kL184, kA184, kS184, kL185, kA185, kS185, kL186, kA186, kS186, kL187, kA187, kS187, kL188, kA188, kS188, kL189, kL190, kL191, kA191, kS191, kL192, kA192, kS192, kL193, kA193, kS193, kL194, kA194, kS194, kL195, kA195, kS195, kL196, kA196, kS196, kL197, kA197, kS197, kL198, kA198, kS198, kL199, kA199, kS199, kL200, kA200, kS200, kL201, kL202, kA202, kS202, kL203, kA203, kS203, kL204, kA204, kS204, kL205, kL206, kA206, kS206]
  rw [lays_ok (m := m + 8) hS (feed_in (by decide)) (by omega), fdI_j (n := 8) (by decide)]
  simp (disch := first | assumption | omega) only [Option.bind_some, Option.map_some, xw_gR, xw_gN, xw_al, xw_ck, xw_uI, xw_ur, xup_at, xur_at, if_true, if_false, reduceIte, and_true, true_and, and_false, false_and, not_true_eq_false, not_false_eq_true, Nat.reduceEqDiff, eq_self, Nat.reduceAdd, Nat.reduceMul, kC1, kG1, kP1, kR1_0, kR1_1, kR1_2, kR1_3, kR1_4, kR1_5, kR1_6, kR1_7, kR1_8, kR1_9, kR1_10, kR1_11, kR1_12, kR1_13, kC2, kG2, kP2, kR2_0, kR2_1, kC3, kG3, kP3, kR3_0, kR3_1, kR3_2, kR3_3, kL4, kA4, kS4, kL5, kA5, kS5, kL6, kA6, kS6, kL7, kA7, kS7, kC8, kG8, kP8, kR8_0, kR8_1, kL9, kA9, kS9, kL10, kA10, kS10, kC11, kG11, kP11, kR11_0, kR11_1, kR11_2, kR11_3, kL12, kA12, kS12, kL13, kA13, kS13, kL14, kA14, kS14, kL15, kA15, kS15, kC16, kG16, kP16, kR16_0, kR16_1, kL17, kA17, kS17, kL18, kA18, kS18, kC19, kG19, kP19, kR19_0, kL20, kL141, kL146, kA146, kS146, kL151, kA151, kS151, kL156, kA156, kS156, kC157, kG157, kP157, kR157_0, kR157_1, kL158, kA158, kS158, kL159, kA159, kS159, kC161, kG161, kP161, kR161_0, kR161_1, kL162, kA162, kS162, kL163, kA163, kS163, kC165, kG165, kP165, kR165_0, kR165_1, kR165_2, kR165_3, kL166, kA166, kS166, kL167, kA167, kS167, kL168, kA168, kS168, kL169, kA169, kS169, kC170, kG170, kP170, kR170_0, kR170_1, kR170_2, kL171, kA171, kS171, kL172, kA172, kS172, kL173, kA173, kS173, kC174, kG174, kP174, kR174_0, kR174_1, kR174_2, kR174_3, kR174_4, kL175, kA175, kS175, kL176, kA176, kS176, kL177, kA177, kS177, kL178, kA178, kS178, kL179, kC180, kG180, kP180, kL181, kL182, kA182, kS182, kC183, kG183, kP183, kR183_1, kR183_3, kR183_5, kR183_6, kR183_7, kR183_8, kR183_9, kR183_21, kR183_26, kR183_27, kR183_30, kR183_31, kR183_33, kR183_34, kR183_36, kR183_37, kR183_38, kR183_39, kR183_40, kR183_41, kR183_42, kR183_43, kR183_44, kL184, kA184, kS184, kL185, kA185, kS185, kL186, kA186, kS186, kL187, kA187, kS187, kL188, kA188, kS188, kL189, kL190, kL191, kA191, kS191, kL192, kA192, kS192, kL193, kA193, kS193, kL194, kA194, kS194, kL195, kA195, kS195, kL196, kA196, kS196, kL197, kA197, kS197, kL198, kA198, kS198, kL199, kA199, kS199, kL200, kA200, kS200, kL201, kL202, kA202, kS202, kL203, kA203, kS203, kL204, kA204, kS204, kL205, kL206, kA206, kS206]
  rw [lays_ok (m := m + 12) hS (feed_in (by decide)) (by omega), fdI_j (n := 12) (by decide)]
  simp (disch := first | assumption | omega) only [Option.bind_some, Option.map_some, xw_gR, xw_gN, xw_al, xw_ck, xw_uI, xw_ur, xup_at, xur_at, if_true, if_false, reduceIte, and_true, true_and, and_false, false_and, not_true_eq_false, not_false_eq_true, Nat.reduceEqDiff, eq_self, Nat.reduceAdd, Nat.reduceMul, kC1, kG1, kP1, kR1_0, kR1_1, kR1_2, kR1_3, kR1_4, kR1_5, kR1_6, kR1_7, kR1_8, kR1_9, kR1_10, kR1_11, kR1_12, kR1_13, kC2, kG2, kP2, kR2_0, kR2_1, kC3, kG3, kP3, kR3_0, kR3_1, kR3_2, kR3_3, kL4, kA4, kS4, kL5, kA5, kS5, kL6, kA6, kS6, kL7, kA7, kS7, kC8, kG8, kP8, kR8_0, kR8_1, kL9, kA9, kS9, kL10, kA10, kS10, kC11, kG11, kP11, kR11_0, kR11_1, kR11_2, kR11_3, kL12, kA12, kS12, kL13, kA13, kS13, kL14, kA14, kS14, kL15, kA15, kS15, kC16, kG16, kP16, kR16_0, kR16_1, kL17, kA17, kS17, kL18, kA18, kS18, kC19, kG19, kP19, kR19_0, kL20, kL141, kL146, kA146, kS146, kL151, kA151, kS151, kL156, kA156, kS156, kC157, kG157, kP157, kR157_0, kR157_1, kL158, kA158, kS158, kL159, kA159, kS159, kC161, kG161, kP161, kR161_0, kR161_1, kL162, kA162, kS162, kL163, kA163, kS163, kC165, kG165, kP165, kR165_0, kR165_1, kR165_2, kR165_3, kL166, kA166, kS166, kL167, kA167, kS167, kL168, kA168, kS168, kL169, kA169, kS169, kC170, kG170, kP170, kR170_0, kR170_1, kR170_2, kL171, kA171, kS171, kL172, kA172, kS172, kL173, kA173, kS173, kC174, kG174, kP174, kR174_0, kR174_1, kR174_2, kR174_3, kR174_4, kL175, kA175, kS175, kL176, kA176, kS176, kL177, kA177, kS177, kL178, kA178, kS178, kL179, kC180, kG180, kP180, kL181, kL182, kA182, kS182, kC183, kG183, kP183, kR183_1, kR183_3, kR183_5, kR183_6, kR183_7, kR183_8, kR183_9, kR183_21, kR183_26, kR183_27, kR183_30, kR183_31, kR183_33, kR183_34, kR183_36, kR183_37, kR183_38, kR183_39, kR183_40, kR183_41, kR183_42, kR183_43, kR183_44, kL184, kA184, kS184, kL185, kA185, kS185, kL186, kA186, kS186, kL187, kA187, kS187, kL188, kA188, kS188, kL189, kL190, kL191, kA191, kS191, kL192, kA192, kS192, kL193, kA193, kS193, kL194, kA194, kS194, kL195, kA195, kS195, kL196, kA196, kS196, kL197, kA197, kS197, kL198, kA198, kS198, kL199, kA199, kS199, kL200, kA200, kS200, kL201, kL202, kA202, kS202, kL203, kA203, kS203, kL204, kA204, kS204, kL205, kL206, kA206, kS206]
  rw [lays_ok (m := m + 16) hS (feed_in (by decide)) (by omega), fdI_j (n := 16) (by decide)]
  simp (disch := first | assumption | omega) only [Option.bind_some, Option.map_some, xw_gR, xw_gN, xw_al, xw_ck, xw_uI, xw_ur, xup_at, xur_at, if_true, if_false, reduceIte, and_true, true_and, and_false, false_and, not_true_eq_false, not_false_eq_true, Nat.reduceEqDiff, eq_self, Nat.reduceAdd, Nat.reduceMul, kC1, kG1, kP1, kR1_0, kR1_1, kR1_2, kR1_3, kR1_4, kR1_5, kR1_6, kR1_7, kR1_8, kR1_9, kR1_10, kR1_11, kR1_12, kR1_13, kC2, kG2, kP2, kR2_0, kR2_1, kC3, kG3, kP3, kR3_0, kR3_1, kR3_2, kR3_3, kL4, kA4, kS4, kL5, kA5, kS5, kL6, kA6, kS6, kL7, kA7, kS7, kC8, kG8, kP8, kR8_0, kR8_1, kL9, kA9, kS9, kL10, kA10, kS10, kC11, kG11, kP11, kR11_0, kR11_1, kR11_2, kR11_3, kL12, kA12, kS12, kL13, kA13, kS13, kL14, kA14, kS14, kL15, kA15, kS15, kC16, kG16, kP16, kR16_0, kR16_1, kL17, kA17, kS17, kL18, kA18, kS18, kC19, kG19, kP19, kR19_0, kL20, kL141, kL146, kA146, kS146, kL151, kA151, kS151, kL156, kA156, kS156, kC157, kG157, kP157, kR157_0, kR157_1, kL158, kA158, kS158, kL159, kA159, kS159, kC161, kG161, kP161, kR161_0, kR161_1, kL162, kA162, kS162, kL163, kA163, kS163, kC165, kG165, kP165, kR165_0, kR165_1, kR165_2, kR165_3, kL166, kA166, kS166, kL167, kA167, kS167, kL168, kA168, kS168, kL169, kA169, kS169, kC170, kG170, kP170, kR170_0, kR170_1, kR170_2, kL171, kA171, kS171, kL172, kA172, kS172, kL173, kA173, kS173, kC174, kG174, kP174, kR174_0, kR174_1, kR174_2, kR174_3, kR174_4, kL175, kA175, kS175, kL176, kA176, kS176, kL177, kA177, kS177, kL178, kA178, kS178, kL179, kC180, kG180, kP180, kL181, kL182, kA182, kS182, kC183, kG183, kP183, kR183_1, kR183_3, kR183_5, kR183_6, kR183_7, kR183_8, kR183_9, kR183_21, kR183_26, kR183_27, kR183_30, kR183_31, kR183_33, kR183_34, kR183_36, kR183_37, kR183_38, kR183_39, kR183_40, kR183_41, kR183_42, kR183_43, kR183_44, kL184, kA184, kS184, kL185, kA185, kS185, kL186, kA186, kS186, kL187, kA187, kS187, kL188, kA188, kS188, kL189, kL190, kL191, kA191, kS191, kL192, kA192, kS192, kL193, kA193, kS193, kL194, kA194, kS194, kL195, kA195, kS195, kL196, kA196, kS196, kL197, kA197, kS197, kL198, kA198, kS198, kL199, kA199, kS199, kL200, kA200, kS200, kL201, kL202, kA202, kS202, kL203, kA203, kS203, kL204, kA204, kS204, kL205, kL206, kA206, kS206]
  rw [feed_in (by decide)]
  rfl
theorem fW_b (a b c d e : Int32) (j : Nat) : -128 ≤ (fW a b c d e j).toInt ∧ (fW a b c d e j).toInt < 128 := by
  unfold fW
  split
  · split
    · split
      · split
        · exact bW_b _ _
        · exact bW_b _ _
      · exact bW_b _ _
    · exact bW_b _ _
  · exact bW_b _ _
/-- a change of the tape alone -/
theorem IV.tape {n : Nat} {σ : XS} {g : GD} {gT gP : GH} {st : Nat} (H : IV n σ g gT gP st) {I' : Nat → Nat → Int32} (h : ∀ a k, ¬ sTAP a k → I' a k = xI σ a k) (hT : TAP I') : IV (n + 1) (xw σ I') g gT gP st := by
  have hg := H.grd.1
  have hc : xR σ 157 4 = 160 ∨ 206 < xR σ 157 4 := by
    obtain ⟨_, _, _, _, _, _, q, _⟩ := H.cel
    exact q
  exact ⟨H.shp, Nat.le_succ_of_le H.stn, (h 1 15 (by unfold sTAP; omega)).trans H.sts, hT, by
      show I' 1 14 = I' 183 16
      rw [h _ _ (by unfold sTAP; omega), h _ _ (by unfold sTAP; omega)]; exact H.plc,
    GRD_c (fun a k q => h _ _ (by unfold sGRD at q; unfold sTAP; omega)) H.grd,
    NOW_c hg (fun a k q => h _ _ (by unfold sNOW at q; unfold sTAP; omega)) H.now,
    PST_c hg (fun a k q => h _ _ (by unfold sPST at q; unfold sTAP; omega)) (Nat.le_refl _) (fun _ _ => rfl) (fun _ _ => rfl) H.pst,
    SLT_c hg (fun a k q => h _ _ (by unfold sSLT at q; unfold sTAP; omega)) (Nat.le_refl _) (fun _ _ => rfl) (fun _ _ => rfl) H.slt,
    CCH_c (fun a k q => h _ _ (by unfold sCCH at q; rw [xw_R] at q; unfold sTAP; omega)) (Nat.le_refl _) (fun _ _ => rfl) (fun _ _ => rfl) H.cch,
    KNW_c hg (fun a k q => h _ _ (by unfold sKNW at q; unfold sTAP; omega)) H.knw, H.cel⟩
theorem IV.nop {n : Nat} {σ : XS} {g : GD} {gT gP : GH} {st : Nat} (H : IV n σ g gT gP st) : IV (n + 1) σ g gT gP st := ⟨H.shp, Nat.le_succ_of_le H.stn, H.sts, H.tap, H.plc, H.grd, H.now, H.pst, H.slt, H.cch, H.knw, H.cel⟩
theorem INV_nop : ∀ n σ, INV n σ → INV (n + 1) σ := fun n σ ⟨g, gT, gP, st, H⟩ => ⟨g, gT, gP, st, H.nop⟩
theorem op_place : Op_place INV := by
  intro n σ hn ⟨g, gT, gP, st, H⟩ _
  refine ⟨xI σ 1 14, ?_, ?_, g, gT, gP, st, H.nop⟩
  · unfold f_X11_place; rw [xgI_ok (sT1 H.shp)]; rfl
  · unfold f_X12_place; rw [xgI_ok (sT183 H.shp), ← H.plc]; rfl
theorem op_back : Op_back INV := by
  intro n σ hn ⟨g, gT, gP, st, H⟩ x
  obtain ⟨m, hm, h1, h2, h3⟩ := H.tap
  have hS := H.shp
  by_cases hx0 : x < 0
  · refine ⟨-1, σ, σ, ?_, ?_, g, gT, gP, st, H.nop⟩
    · unfold f_X11_back; rw [if_pos hx0]
    · unfold f_X12_back; rw [if_pos hx0]
  · obtain ⟨j, hj, rfl⟩ := nn_of hx0
    by_cases hjm : j ≤ m
    · refine ⟨nI (m - j), xw σ (xup (xI σ) 3 4 (nI (m - j))), xw σ (xup (xup (xI σ) 3 4 (nI (m - j))) 183 2 (nI (m - j))), ?_, ?_, g, gT, gP, st, H.tape ?_ ?_⟩
      · show f_X11_back (xw σ (xI σ)) 1 (nI j) = _
        unfold f_X11_back
        rw [if_neg hx0]
        simp (disch := first | assumption | omega) only [Option.bind_some, Option.map_some, xw_gR, xw_gN, xw_al, xw_ck, xw_uI, xw_ur, xup_at, xur_at, if_true, if_false, reduceIte, and_true, true_and, and_false, false_and, not_true_eq_false, not_false_eq_true, Nat.reduceEqDiff, eq_self, Nat.reduceAdd, Nat.reduceMul, kC1, kG1, kP1, kR1_0, kR1_1, kR1_2, kR1_3, kR1_4, kR1_5, kR1_6, kR1_7, kR1_8, kR1_9, kR1_10, kR1_11, kR1_12, kR1_13, kC2, kG2, kP2, kR2_0, kR2_1, kC3, kG3, kP3, kR3_0, kR3_1, kR3_2, kR3_3, kL4, kA4, kS4, kL5, kA5, kS5, kL6, kA6, kS6, kL7, kA7, kS7, kC8, kG8, kP8, kR8_0, kR8_1, kL9, kA9, kS9, kL10, kA10, kS10, kC11, kG11, kP11, kR11_0, kR11_1, kR11_2, kR11_3, kL12, kA12, kS12, kL13, kA13, kS13, kL14, kA14, kS14, kL15, kA15, kS15, kC16, kG16, kP16, kR16_0, kR16_1, kL17, kA17, kS17, kL18, kA18, kS18, kC19, kG19, kP19, kR19_0, kL20, kL141, kL146, kA146, kS146, kL151, kA151, kS151, kL156, kA156, kS156, kC157, kG157, kP157, kR157_0, kR157_1, kL158, kA158, kS158, kL159, kA159, kS159, kC161, kG161, kP161, kR161_0, kR161_1, kL162, kA162, kS162, kL163, kA163, kS163, kC165, kG165, kP165, kR165_0, kR165_1, kR165_2, kR165_3, kL166, kA166, kS166, kL167, kA167, kS167, kL168, kA168, kS168, kL169, kA169, kS169, kC170, kG170, kP170, kR170_0, kR170_1, kR170_2, kL171, kA171, kS171, kL172, kA172, kS172, kL173, kA173, kS173, kC174, kG174, kP174, kR174_0, kR174_1, kR174_2, kR174_3, kR174_4, kL175, kA175, kS175, kL176, kA176, kS176, kL177, kA177, kS177, kL178, kA178, kS178, kL179, kC180, kG180, kP180, kL181, kL182, kA182, kS182, kC183, kG183, kP183, kR183_1, kR183_3, kR183_5, kR183_6, kR183_7, kR183_8, kR183_9, kR183_21, kR183_26, kR183_27, kR183_30, kR183_31, kR183_33, kR183_34, kR183_36, kR183_37, kR183_38, kR183_39, kR183_40, kR183_41, kR183_42, kR183_43, kR183_44, kL184, kA184, kS184, kL185, kA185, kS185, kL186, kA186, kS186, kL187, kA187, kS187, kL188, kA188, kS188, kL189, kL190, kL191, kA191, kS191, kL192, kA192, kS192, kL193, kA193, kS193, kL194, kA194, kS194, kL195, kA195, kS195, kL196, kA196, kS196, kL197, kA197, kS197, kL198, kA198, kS198, kL199, kA199, kS199, kL200, kA200, kS200, kL201, kL202, kA202, kS202, kL203, kA203, kS203, kL204, kA204, kS204, kL205, kL206, kA206, kS206, xw_I, h1, nn_le, nn_sub, hjm]
      · unfold f_X12_back
        rw [if_neg hx0]
        simp (disch := first | assumption | omega) only [Option.bind_some, Option.map_some, xw_gR, xw_gN, xw_al, xw_ck, xw_uI, xw_ur, xup_at, xur_at, if_true, if_false, reduceIte, and_true, true_and, and_false, false_and, not_true_eq_false, not_false_eq_true, Nat.reduceEqDiff, eq_self, Nat.reduceAdd, Nat.reduceMul, kC1, kG1, kP1, kR1_0, kR1_1, kR1_2, kR1_3, kR1_4, kR1_5, kR1_6, kR1_7, kR1_8, kR1_9, kR1_10, kR1_11, kR1_12, kR1_13, kC2, kG2, kP2, kR2_0, kR2_1, kC3, kG3, kP3, kR3_0, kR3_1, kR3_2, kR3_3, kL4, kA4, kS4, kL5, kA5, kS5, kL6, kA6, kS6, kL7, kA7, kS7, kC8, kG8, kP8, kR8_0, kR8_1, kL9, kA9, kS9, kL10, kA10, kS10, kC11, kG11, kP11, kR11_0, kR11_1, kR11_2, kR11_3, kL12, kA12, kS12, kL13, kA13, kS13, kL14, kA14, kS14, kL15, kA15, kS15, kC16, kG16, kP16, kR16_0, kR16_1, kL17, kA17, kS17, kL18, kA18, kS18, kC19, kG19, kP19, kR19_0, kL20, kL141, kL146, kA146, kS146, kL151, kA151, kS151, kL156, kA156, kS156, kC157, kG157, kP157, kR157_0, kR157_1, kL158, kA158, kS158, kL159, kA159, kS159, kC161, kG161, kP161, kR161_0, kR161_1, kL162, kA162, kS162, kL163, kA163, kS163, kC165, kG165, kP165, kR165_0, kR165_1, kR165_2, kR165_3, kL166, kA166, kS166, kL167, kA167, kS167, kL168, kA168, kS168, kL169, kA169, kS169, kC170, kG170, kP170, kR170_0, kR170_1, kR170_2, kL171, kA171, kS171, kL172, kA172, kS172, kL173, kA173, kS173, kC174, kG174, kP174, kR174_0, kR174_1, kR174_2, kR174_3, kR174_4, kL175, kA175, kS175, kL176, kA176, kS176, kL177, kA177, kS177, kL178, kA178, kS178, kL179, kC180, kG180, kP180, kL181, kL182, kA182, kS182, kC183, kG183, kP183, kR183_1, kR183_3, kR183_5, kR183_6, kR183_7, kR183_8, kR183_9, kR183_21, kR183_26, kR183_27, kR183_30, kR183_31, kR183_33, kR183_34, kR183_36, kR183_37, kR183_38, kR183_39, kR183_40, kR183_41, kR183_42, kR183_43, kR183_44, kL184, kA184, kS184, kL185, kA185, kS185, kL186, kA186, kS186, kL187, kA187, kS187, kL188, kA188, kS188, kL189, kL190, kL191, kA191, kS191, kL192, kA192, kS192, kL193, kA193, kS193, kL194, kA194, kS194, kL195, kA195, kS195, kL196, kA196, kS196, kL197, kA197, kS197, kL198, kA198, kS198, kL199, kA199, kS199, kL200, kA200, kS200, kL201, kL202, kA202, kS202, kL203, kA203, kS203, kL204, kA204, kS204, kL205, kL206, kA206, kS206, xw_I, h2, nn_le, nn_sub, hjm]
      · intro a k q
        unfold sTAP at q
        simp only [xup_at]
        rw [if_neg (by omega), if_neg (by omega)]
      · refine ⟨m - j, by omega, ?_, ?_, fun k hk => ?_⟩
        · simp [xup_at]
        · simp [xup_at]
        · simp [xup_at]; exact h3 k (by omega)
    · refine ⟨-1, σ, σ, ?_, ?_, g, gT, gP, st, H.nop⟩
      · unfold f_X11_back
        rw [if_neg hx0, ← xw_self σ]
        simp (disch := first | assumption | omega) only [Option.bind_some, Option.map_some, xw_gR, xw_gN, xw_al, xw_ck, xw_uI, xw_ur, xup_at, xur_at, if_true, if_false, reduceIte, and_true, true_and, and_false, false_and, not_true_eq_false, not_false_eq_true, Nat.reduceEqDiff, eq_self, Nat.reduceAdd, Nat.reduceMul, kC1, kG1, kP1, kR1_0, kR1_1, kR1_2, kR1_3, kR1_4, kR1_5, kR1_6, kR1_7, kR1_8, kR1_9, kR1_10, kR1_11, kR1_12, kR1_13, kC2, kG2, kP2, kR2_0, kR2_1, kC3, kG3, kP3, kR3_0, kR3_1, kR3_2, kR3_3, kL4, kA4, kS4, kL5, kA5, kS5, kL6, kA6, kS6, kL7, kA7, kS7, kC8, kG8, kP8, kR8_0, kR8_1, kL9, kA9, kS9, kL10, kA10, kS10, kC11, kG11, kP11, kR11_0, kR11_1, kR11_2, kR11_3, kL12, kA12, kS12, kL13, kA13, kS13, kL14, kA14, kS14, kL15, kA15, kS15, kC16, kG16, kP16, kR16_0, kR16_1, kL17, kA17, kS17, kL18, kA18, kS18, kC19, kG19, kP19, kR19_0, kL20, kL141, kL146, kA146, kS146, kL151, kA151, kS151, kL156, kA156, kS156, kC157, kG157, kP157, kR157_0, kR157_1, kL158, kA158, kS158, kL159, kA159, kS159, kC161, kG161, kP161, kR161_0, kR161_1, kL162, kA162, kS162, kL163, kA163, kS163, kC165, kG165, kP165, kR165_0, kR165_1, kR165_2, kR165_3, kL166, kA166, kS166, kL167, kA167, kS167, kL168, kA168, kS168, kL169, kA169, kS169, kC170, kG170, kP170, kR170_0, kR170_1, kR170_2, kL171, kA171, kS171, kL172, kA172, kS172, kL173, kA173, kS173, kC174, kG174, kP174, kR174_0, kR174_1, kR174_2, kR174_3, kR174_4, kL175, kA175, kS175, kL176, kA176, kS176, kL177, kA177, kS177, kL178, kA178, kS178, kL179, kC180, kG180, kP180, kL181, kL182, kA182, kS182, kC183, kG183, kP183, kR183_1, kR183_3, kR183_5, kR183_6, kR183_7, kR183_8, kR183_9, kR183_21, kR183_26, kR183_27, kR183_30, kR183_31, kR183_33, kR183_34, kR183_36, kR183_37, kR183_38, kR183_39, kR183_40, kR183_41, kR183_42, kR183_43, kR183_44, kL184, kA184, kS184, kL185, kA185, kS185, kL186, kA186, kS186, kL187, kA187, kS187, kL188, kA188, kS188, kL189, kL190, kL191, kA191, kS191, kL192, kA192, kS192, kL193, kA193, kS193, kL194, kA194, kS194, kL195, kA195, kS195, kL196, kA196, kS196, kL197, kA197, kS197, kL198, kA198, kS198, kL199, kA199, kS199, kL200, kA200, kS200, kL201, kL202, kA202, kS202, kL203, kA203, kS203, kL204, kA204, kS204, kL205, kL206, kA206, kS206, xw_I, h1, nn_le, hjm]
      · unfold f_X12_back
        rw [if_neg hx0, ← xw_self σ]
        simp (disch := first | assumption | omega) only [Option.bind_some, Option.map_some, xw_gR, xw_gN, xw_al, xw_ck, xw_uI, xw_ur, xup_at, xur_at, if_true, if_false, reduceIte, and_true, true_and, and_false, false_and, not_true_eq_false, not_false_eq_true, Nat.reduceEqDiff, eq_self, Nat.reduceAdd, Nat.reduceMul, kC1, kG1, kP1, kR1_0, kR1_1, kR1_2, kR1_3, kR1_4, kR1_5, kR1_6, kR1_7, kR1_8, kR1_9, kR1_10, kR1_11, kR1_12, kR1_13, kC2, kG2, kP2, kR2_0, kR2_1, kC3, kG3, kP3, kR3_0, kR3_1, kR3_2, kR3_3, kL4, kA4, kS4, kL5, kA5, kS5, kL6, kA6, kS6, kL7, kA7, kS7, kC8, kG8, kP8, kR8_0, kR8_1, kL9, kA9, kS9, kL10, kA10, kS10, kC11, kG11, kP11, kR11_0, kR11_1, kR11_2, kR11_3, kL12, kA12, kS12, kL13, kA13, kS13, kL14, kA14, kS14, kL15, kA15, kS15, kC16, kG16, kP16, kR16_0, kR16_1, kL17, kA17, kS17, kL18, kA18, kS18, kC19, kG19, kP19, kR19_0, kL20, kL141, kL146, kA146, kS146, kL151, kA151, kS151, kL156, kA156, kS156, kC157, kG157, kP157, kR157_0, kR157_1, kL158, kA158, kS158, kL159, kA159, kS159, kC161, kG161, kP161, kR161_0, kR161_1, kL162, kA162, kS162, kL163, kA163, kS163, kC165, kG165, kP165, kR165_0, kR165_1, kR165_2, kR165_3, kL166, kA166, kS166, kL167, kA167, kS167, kL168, kA168, kS168, kL169, kA169, kS169, kC170, kG170, kP170, kR170_0, kR170_1, kR170_2, kL171, kA171, kS171, kL172, kA172, kS172, kL173, kA173, kS173, kC174, kG174, kP174, kR174_0, kR174_1, kR174_2, kR174_3, kR174_4, kL175, kA175, kS175, kL176, kA176, kS176, kL177, kA177, kS177, kL178, kA178, kS178, kL179, kC180, kG180, kP180, kL181, kL182, kA182, kS182, kC183, kG183, kP183, kR183_1, kR183_3, kR183_5, kR183_6, kR183_7, kR183_8, kR183_9, kR183_21, kR183_26, kR183_27, kR183_30, kR183_31, kR183_33, kR183_34, kR183_36, kR183_37, kR183_38, kR183_39, kR183_40, kR183_41, kR183_42, kR183_43, kR183_44, kL184, kA184, kS184, kL185, kA185, kS185, kL186, kA186, kS186, kL187, kA187, kS187, kL188, kA188, kS188, kL189, kL190, kL191, kA191, kS191, kL192, kA192, kS192, kL193, kA193, kS193, kL194, kA194, kS194, kL195, kA195, kS195, kL196, kA196, kS196, kL197, kA197, kS197, kL198, kA198, kS198, kL199, kA199, kS199, kL200, kA200, kS200, kL201, kL202, kA202, kS202, kL203, kA203, kS203, kL204, kA204, kS204, kL205, kL206, kA206, kS206, xw_I, h2, nn_le, hjm]
theorem op_feed : Op_feed INV := by
  intro n σ hn ⟨g, gT, gP, st, H⟩ a b c d e
  obtain ⟨m, hm, h1, h2, h3⟩ := H.tap
  have hS := H.shp
  by_cases hml : m + 20 ≤ 2000
  · refine ⟨nI (m + 20), xw σ (fdI (xI σ) 4 3 4 m (fW a b c d e) 20), xw σ (fdI (fdI (xI σ) 4 3 4 m (fW a b c d e) 20) 184 183 2 m (fW a b c d e) 20), ?_, ?_, g, gT, gP, st, H.tape ?_ ?_⟩
    · exact feed11 (I := xI σ) hS h1 hml a b c d e
    · exact feed12 hS (by simp [fdI]; exact h2) hml a b c d e
    · intro a k q
      unfold sTAP at q
      unfold fdI
      rw [if_neg (by omega), if_neg (by omega), if_neg (by omega), if_neg (by omega)]
    · refine ⟨m + 20, hml, ?_, ?_, fun k hk => ?_⟩
      · simp [fdI]
      · simp [fdI]
      · by_cases hkm : m ≤ k
        · have : m ≤ k ∧ k < m + 20 := ⟨hkm, hk⟩
          simp [fdI, this]; exact fW_b _ _ _ _ _ _
        · simp [fdI, hkm]; exact h3 k (by omega)
  · refine ⟨-1, σ, σ, ?_, ?_, g, gT, gP, st, H.nop⟩
    · unfold f_X11_feed
      rw [← xw_self σ]
      simp (disch := first | assumption | omega) only [Option.bind_some, Option.map_some, xw_gR, xw_gN, xw_al, xw_ck, xw_uI, xw_ur, xup_at, xur_at, if_true, if_false, reduceIte, and_true, true_and, and_false, false_and, not_true_eq_false, not_false_eq_true, Nat.reduceEqDiff, eq_self, Nat.reduceAdd, Nat.reduceMul, kC1, kG1, kP1, kR1_0, kR1_1, kR1_2, kR1_3, kR1_4, kR1_5, kR1_6, kR1_7, kR1_8, kR1_9, kR1_10, kR1_11, kR1_12, kR1_13, kC2, kG2, kP2, kR2_0, kR2_1, kC3, kG3, kP3, kR3_0, kR3_1, kR3_2, kR3_3, kL4, kA4, kS4, kL5, kA5, kS5, kL6, kA6, kS6, kL7, kA7, kS7, kC8, kG8, kP8, kR8_0, kR8_1, kL9, kA9, kS9, kL10, kA10, kS10, kC11, kG11, kP11, kR11_0, kR11_1, kR11_2, kR11_3, kL12, kA12, kS12, kL13, kA13, kS13, kL14, kA14, kS14, kL15, kA15, kS15, kC16, kG16, kP16, kR16_0, kR16_1, kL17, kA17, kS17, kL18, kA18, kS18, kC19, kG19, kP19, kR19_0, kL20, kL141, kL146, kA146, kS146, kL151, kA151, kS151, kL156, kA156, kS156, kC157, kG157, kP157, kR157_0, kR157_1, kL158, kA158, kS158, kL159, kA159, kS159, kC161, kG161, kP161, kR161_0, kR161_1, kL162, kA162, kS162, kL163, kA163, kS163, kC165, kG165, kP165, kR165_0, kR165_1, kR165_2, kR165_3, kL166, kA166, kS166, kL167, kA167, kS167, kL168, kA168, kS168, kL169, kA169, kS169, kC170, kG170, kP170, kR170_0, kR170_1, kR170_2, kL171, kA171, kS171, kL172, kA172, kS172, kL173, kA173, kS173, kC174, kG174, kP174, kR174_0, kR174_1, kR174_2, kR174_3, kR174_4, kL175, kA175, kS175, kL176, kA176, kS176, kL177, kA177, kS177, kL178, kA178, kS178, kL179, kC180, kG180, kP180, kL181, kL182, kA182, kS182, kC183, kG183, kP183, kR183_1, kR183_3, kR183_5, kR183_6, kR183_7, kR183_8, kR183_9, kR183_21, kR183_26, kR183_27, kR183_30, kR183_31, kR183_33, kR183_34, kR183_36, kR183_37, kR183_38, kR183_39, kR183_40, kR183_41, kR183_42, kR183_43, kR183_44, kL184, kA184, kS184, kL185, kA185, kS185, kL186, kA186, kS186, kL187, kA187, kS187, kL188, kA188, kS188, kL189, kL190, kL191, kA191, kS191, kL192, kA192, kS192, kL193, kA193, kS193, kL194, kA194, kS194, kL195, kA195, kS195, kL196, kA196, kS196, kL197, kA197, kS197, kL198, kA198, kS198, kL199, kA199, kS199, kL200, kA200, kS200, kL201, kL202, kA202, kS202, kL203, kA203, kS203, kL204, kA204, kS204, kL205, kL206, kA206, kS206, xw_I, h1]
      rw [if_neg (by rw [show (20 : Int32) = nI 20 from rfl, nn_add, show (2000 : Int32) = nI 2000 from rfl, nn_le (by omega) (by omega)]; exact hml)]
    · unfold f_X12_feed
      rw [← xw_self σ]
      simp (disch := first | assumption | omega) only [Option.bind_some, Option.map_some, xw_gR, xw_gN, xw_al, xw_ck, xw_uI, xw_ur, xup_at, xur_at, if_true, if_false, reduceIte, and_true, true_and, and_false, false_and, not_true_eq_false, not_false_eq_true, Nat.reduceEqDiff, eq_self, Nat.reduceAdd, Nat.reduceMul, kC1, kG1, kP1, kR1_0, kR1_1, kR1_2, kR1_3, kR1_4, kR1_5, kR1_6, kR1_7, kR1_8, kR1_9, kR1_10, kR1_11, kR1_12, kR1_13, kC2, kG2, kP2, kR2_0, kR2_1, kC3, kG3, kP3, kR3_0, kR3_1, kR3_2, kR3_3, kL4, kA4, kS4, kL5, kA5, kS5, kL6, kA6, kS6, kL7, kA7, kS7, kC8, kG8, kP8, kR8_0, kR8_1, kL9, kA9, kS9, kL10, kA10, kS10, kC11, kG11, kP11, kR11_0, kR11_1, kR11_2, kR11_3, kL12, kA12, kS12, kL13, kA13, kS13, kL14, kA14, kS14, kL15, kA15, kS15, kC16, kG16, kP16, kR16_0, kR16_1, kL17, kA17, kS17, kL18, kA18, kS18, kC19, kG19, kP19, kR19_0, kL20, kL141, kL146, kA146, kS146, kL151, kA151, kS151, kL156, kA156, kS156, kC157, kG157, kP157, kR157_0, kR157_1, kL158, kA158, kS158, kL159, kA159, kS159, kC161, kG161, kP161, kR161_0, kR161_1, kL162, kA162, kS162, kL163, kA163, kS163, kC165, kG165, kP165, kR165_0, kR165_1, kR165_2, kR165_3, kL166, kA166, kS166, kL167, kA167, kS167, kL168, kA168, kS168, kL169, kA169, kS169, kC170, kG170, kP170, kR170_0, kR170_1, kR170_2, kL171, kA171, kS171, kL172, kA172, kS172, kL173, kA173, kS173, kC174, kG174, kP174, kR174_0, kR174_1, kR174_2, kR174_3, kR174_4, kL175, kA175, kS175, kL176, kA176, kS176, kL177, kA177, kS177, kL178, kA178, kS178, kL179, kC180, kG180, kP180, kL181, kL182, kA182, kS182, kC183, kG183, kP183, kR183_1, kR183_3, kR183_5, kR183_6, kR183_7, kR183_8, kR183_9, kR183_21, kR183_26, kR183_27, kR183_30, kR183_31, kR183_33, kR183_34, kR183_36, kR183_37, kR183_38, kR183_39, kR183_40, kR183_41, kR183_42, kR183_43, kR183_44, kL184, kA184, kS184, kL185, kA185, kS185, kL186, kA186, kS186, kL187, kA187, kS187, kL188, kA188, kS188, kL189, kL190, kL191, kA191, kS191, kL192, kA192, kS192, kL193, kA193, kS193, kL194, kA194, kS194, kL195, kA195, kS195, kL196, kA196, kS196, kL197, kA197, kS197, kL198, kA198, kS198, kL199, kA199, kS199, kL200, kA200, kS200, kL201, kL202, kA202, kS202, kL203, kA203, kS203, kL204, kA204, kS204, kL205, kL206, kA206, kS206, xw_I, h2]
      rw [if_neg (by rw [show (20 : Int32) = nI 20 from rfl, nn_add, show (2000 : Int32) = nI 2000 from rfl, nn_le (by omega) (by omega)]; exact hml)]
end
section
/-! what is kept before a change by hand -/
def rcI (I : Nat → Nat → Int32) (d x s y n : Nat) : Nat → Nat → Int32 := fun c k => if c = d ∧ x ≤ k ∧ k < x + n then I s (y + (k - x)) else I c k
theorem rcI_0 {I : Nat → Nat → Int32} {d x s y : Nat} : rcI I d x s y 0 = I := by
  funext c k
  unfold rcI
  rw [if_neg (by omega)]
theorem rcI_s {I : Nat → Nat → Int32} {d x s y n : Nat} : xup (rcI I d x s y n) d (x + n) (I s (y + n)) = rcI I d x s y (n + 1) := by
  funext c k
  simp only [xup_at, rcI]
  by_cases h1 : c = d
  · subst h1
    by_cases h2 : k = x + n
    · subst h2; simp
    · by_cases h3 : x ≤ k ∧ k < x + n
      · have : x ≤ k ∧ k < x + (n + 1) := by omega
        simp [h2, h3, this]
      · have : ¬ (x ≤ k ∧ k < x + (n + 1)) := by omega
        simp [h2, h3, this]
  · simp [h1]
theorem rcI_src {I : Nat → Nat → Int32} {d x s y n k : Nat} (h : s ≠ d) : rcI I d x s y n s k = I s k := by
  unfold rcI
  rw [if_neg (fun q => h q.1)]
theorem rcI_in {I : Nat → Nat → Int32} {d x s y n k : Nat} (h : k < n) : rcI I d x s y n d (x + k) = I s (y + k) := by
  unfold rcI
  rw [if_pos ⟨rfl, by omega, by omega⟩]
  congr 1; omega
theorem rcI_out {I : Nat → Nat → Int32} {d x s y n c k : Nat} (h : c ≠ d ∨ k < x ∨ x + n ≤ k) : rcI I d x s y n c k = I c k := by
  unfold rcI
  rw [if_neg (by omega)]
theorem kept_R (x : Nat) (hx : x < 40) : (shR.getD 20 []).getD x 0 = 21 + 3 * x := by
  have : ∀ x, x < 40 → (shR.getD 20 []).getD x 0 = 21 + 3 * x := by decide +kernel
  exact this x hx
section HAND
variable {σ : XS} {I : Nat → Nat → Int32}
theorem kept_at (hS : Shp σ) {x : Nat} (hx : x < 40) : xaR (xw σ I) 24 20 (nI x) = some (21 + 3 * x) := by
  have e : xR σ 20 x = 21 + 3 * x := by
    have := hS.2.2 20 (by decide) x (by rw [kept_R x hx]; omega)
    rw [this, kept_R x hx]
  rw [xaR_ok (σ := xw σ I) (n := 40) (sT20 hS) (sl20 hS) hx (by decide) (by show xR σ 20 x ≠ 0; omega)]
  show some (xR σ 20 x) = _
  rw [e]
def kpI (I : Nat → Nat → Int32) (nx q : Nat) : Nat → Nat → Int32 := xup (xup (cpI I (21 + 3 * nx) 16) 19 1 (nI ((nx + 1) % 40))) 19 2 (nI (min (q + 1) 40))
theorem xmin_n {a b : Nat} (ha : a < 2147483648) (hb : b < 2147483648) : xmin (nI a) (nI b) = nI (min a b) := by
  unfold xmin
  simp only [nn_lt hb ha]
  split
  · congr 1; omega
  · congr 1; omega
theorem keep_ok (hS : Shp σ) {nx q : Nat} (hx : nx < 40) (hq : q ≤ 40) (h1 : I 19 1 = nI nx) (h2 : I 19 2 = nI q) : f_X5_keep (xw σ I) 19 16 = some (xw σ (kpI I nx q)) := by
  have c1 : cpI I (21 + 3 * nx) 16 19 1 = nI nx := by
    unfold cpI; rw [if_neg (by omega), if_neg (by omega), if_neg (by omega)]; exact h1
  have c2 : cpI I (21 + 3 * nx) 16 19 2 = nI q := by
    unfold cpI; rw [if_neg (by omega), if_neg (by omega), if_neg (by omega)]; exact h2
  unfold f_X5_keep
  simp (disch := first | assumption | omega) only [Option.bind_some, Option.map_some, xw_gR, xw_gN, xw_al, xw_ck, xw_uI, xw_ur, xup_at, xur_at, if_true, if_false, reduceIte, and_true, true_and, and_false, false_and, not_true_eq_false, not_false_eq_true, Nat.reduceEqDiff, eq_self, Nat.reduceAdd, Nat.reduceMul, kC1, kG1, kP1, kR1_0, kR1_1, kR1_2, kR1_3, kR1_4, kR1_5, kR1_6, kR1_7, kR1_8, kR1_9, kR1_10, kR1_11, kR1_12, kR1_13, kC2, kG2, kP2, kR2_0, kR2_1, kC3, kG3, kP3, kR3_0, kR3_1, kR3_2, kR3_3, kL4, kA4, kS4, kL5, kA5, kS5, kL6, kA6, kS6, kL7, kA7, kS7, kC8, kG8, kP8, kR8_0, kR8_1, kL9, kA9, kS9, kL10, kA10, kS10, kC11, kG11, kP11, kR11_0, kR11_1, kR11_2, kR11_3, kL12, kA12, kS12, kL13, kA13, kS13, kL14, kA14, kS14, kL15, kA15, kS15, kC16, kG16, kP16, kR16_0, kR16_1, kL17, kA17, kS17, kL18, kA18, kS18, kC19, kG19, kP19, kR19_0, kL20, kL141, kL146, kA146, kS146, kL151, kA151, kS151, kL156, kA156, kS156, kC157, kG157, kP157, kR157_0, kR157_1, kL158, kA158, kS158, kL159, kA159, kS159, kC161, kG161, kP161, kR161_0, kR161_1, kL162, kA162, kS162, kL163, kA163, kS163, kC165, kG165, kP165, kR165_0, kR165_1, kR165_2, kR165_3, kL166, kA166, kS166, kL167, kA167, kS167, kL168, kA168, kS168, kL169, kA169, kS169, kC170, kG170, kP170, kR170_0, kR170_1, kR170_2, kL171, kA171, kS171, kL172, kA172, kS172, kL173, kA173, kS173, kC174, kG174, kP174, kR174_0, kR174_1, kR174_2, kR174_3, kR174_4, kL175, kA175, kS175, kL176, kA176, kS176, kL177, kA177, kS177, kL178, kA178, kS178, kL179, kC180, kG180, kP180, kL181, kL182, kA182, kS182, kC183, kG183, kP183, kR183_1, kR183_3, kR183_5, kR183_6, kR183_7, kR183_8, kR183_9, kR183_21, kR183_26, kR183_27, kR183_30, kR183_31, kR183_33, kR183_34, kR183_36, kR183_37, kR183_38, kR183_39, kR183_40, kR183_41, kR183_42, kR183_43, kR183_44, kL184, kA184, kS184, kL185, kA185, kS185, kL186, kA186, kS186, kL187, kA187, kS187, kL188, kA188, kS188, kL189, kL190, kL191, kA191, kS191, kL192, kA192, kS192, kL193, kA193, kS193, kL194, kA194, kS194, kL195, kA195, kS195, kL196, kA196, kS196, kL197, kA197, kS197, kL198, kA198, kS198, kL199, kA199, kS199, kL200, kA200, kS200, kL201, kL202, kA202, kS202, kL203, kA203, kS203, kL204, kA204, kS204, kL205, kL206, kA206, kS206, h1, nn_nneg, nn_lt, hx]
  rw [kept_at hS hx]
  simp (disch := first | assumption | omega) only [Option.bind_some, Option.map_some, xw_gR, xw_gN, xw_al, xw_ck, xw_uI, xw_ur, xup_at, xur_at, if_true, if_false, reduceIte, and_true, true_and, and_false, false_and, not_true_eq_false, not_false_eq_true, Nat.reduceEqDiff, eq_self, Nat.reduceAdd, Nat.reduceMul, kC1, kG1, kP1, kR1_0, kR1_1, kR1_2, kR1_3, kR1_4, kR1_5, kR1_6, kR1_7, kR1_8, kR1_9, kR1_10, kR1_11, kR1_12, kR1_13, kC2, kG2, kP2, kR2_0, kR2_1, kC3, kG3, kP3, kR3_0, kR3_1, kR3_2, kR3_3, kL4, kA4, kS4, kL5, kA5, kS5, kL6, kA6, kS6, kL7, kA7, kS7, kC8, kG8, kP8, kR8_0, kR8_1, kL9, kA9, kS9, kL10, kA10, kS10, kC11, kG11, kP11, kR11_0, kR11_1, kR11_2, kR11_3, kL12, kA12, kS12, kL13, kA13, kS13, kL14, kA14, kS14, kL15, kA15, kS15, kC16, kG16, kP16, kR16_0, kR16_1, kL17, kA17, kS17, kL18, kA18, kS18, kC19, kG19, kP19, kR19_0, kL20, kL141, kL146, kA146, kS146, kL151, kA151, kS151, kL156, kA156, kS156, kC157, kG157, kP157, kR157_0, kR157_1, kL158, kA158, kS158, kL159, kA159, kS159, kC161, kG161, kP161, kR161_0, kR161_1, kL162, kA162, kS162, kL163, kA163, kS163, kC165, kG165, kP165, kR165_0, kR165_1, kR165_2, kR165_3, kL166, kA166, kS166, kL167, kA167, kS167, kL168, kA168, kS168, kL169, kA169, kS169, kC170, kG170, kP170, kR170_0, kR170_1, kR170_2, kL171, kA171, kS171, kL172, kA172, kS172, kL173, kA173, kS173, kC174, kG174, kP174, kR174_0, kR174_1, kR174_2, kR174_3, kR174_4, kL175, kA175, kS175, kL176, kA176, kS176, kL177, kA177, kS177, kL178, kA178, kS178, kL179, kC180, kG180, kP180, kL181, kL182, kA182, kS182, kC183, kG183, kP183, kR183_1, kR183_3, kR183_5, kR183_6, kR183_7, kR183_8, kR183_9, kR183_21, kR183_26, kR183_27, kR183_30, kR183_31, kR183_33, kR183_34, kR183_36, kR183_37, kR183_38, kR183_39, kR183_40, kR183_41, kR183_42, kR183_43, kR183_44, kL184, kA184, kS184, kL185, kA185, kS185, kL186, kA186, kS186, kL187, kA187, kS187, kL188, kA188, kS188, kL189, kL190, kL191, kA191, kS191, kL192, kA192, kS192, kL193, kA193, kS193, kL194, kA194, kS194, kL195, kA195, kS195, kL196, kA196, kS196, kL197, kA197, kS197, kL198, kA198, kS198, kL199, kA199, kS199, kL200, kA200, kS200, kL201, kL202, kA202, kS202, kL203, kA203, kS203, kL204, kA204, kS204, kL205, kL206, kA206, kS206, suC hS (suA_k hx), cp_ok hS (suA_k hx) suA_16 (by omega) (by omega) (by omega) (by omega) (by omega), c1]
  simp only [show (40 : Int32) = nI 40 from rfl, show (1 : Int32) = nI 1 from rfl, nn_add, nn_le (show 40 < 2147483648 by omega) (show nx + 1 < 2147483648 by omega)]
  unfold f_X5_keep_j55
  by_cases h39 : 40 ≤ nx + 1
  · rw [if_pos h39]
    simp (disch := first | assumption | omega) only [Option.bind_some, Option.map_some, xw_gR, xw_gN, xw_al, xw_ck, xw_uI, xw_ur, xup_at, xur_at, if_true, if_false, reduceIte, and_true, true_and, and_false, false_and, not_true_eq_false, not_false_eq_true, Nat.reduceEqDiff, eq_self, Nat.reduceAdd, Nat.reduceMul, kC1, kG1, kP1, kR1_0, kR1_1, kR1_2, kR1_3, kR1_4, kR1_5, kR1_6, kR1_7, kR1_8, kR1_9, kR1_10, kR1_11, kR1_12, kR1_13, kC2, kG2, kP2, kR2_0, kR2_1, kC3, kG3, kP3, kR3_0, kR3_1, kR3_2, kR3_3, kL4, kA4, kS4, kL5, kA5, kS5, kL6, kA6, kS6, kL7, kA7, kS7, kC8, kG8, kP8, kR8_0, kR8_1, kL9, kA9, kS9, kL10, kA10, kS10, kC11, kG11, kP11, kR11_0, kR11_1, kR11_2, kR11_3, kL12, kA12, kS12, kL13, kA13, kS13, kL14, kA14, kS14, kL15, kA15, kS15, kC16, kG16, kP16, kR16_0, kR16_1, kL17, kA17, kS17, kL18, kA18, kS18, kC19, kG19, kP19, kR19_0, kL20, kL141, kL146, kA146, kS146, kL151, kA151, kS151, kL156, kA156, kS156, kC157, kG157, kP157, kR157_0, kR157_1, kL158, kA158, kS158, kL159, kA159, kS159, kC161, kG161, kP161, kR161_0, kR161_1, kL162, kA162, kS162, kL163, kA163, kS163, kC165, kG165, kP165, kR165_0, kR165_1, kR165_2, kR165_3, kL166, kA166, kS166, kL167, kA167, kS167, kL168, kA168, kS168, kL169, kA169, kS169, kC170, kG170, kP170, kR170_0, kR170_1, kR170_2, kL171, kA171, kS171, kL172, kA172, kS172, kL173, kA173, kS173, kC174, kG174, kP174, kR174_0, kR174_1, kR174_2, kR174_3, kR174_4, kL175, kA175, kS175, kL176, kA176, kS176, kL177, kA177, kS177, kL178, kA178, kS178, kL179, kC180, kG180, kP180, kL181, kL182, kA182, kS182, kC183, kG183, kP183, kR183_1, kR183_3, kR183_5, kR183_6, kR183_7, kR183_8, kR183_9, kR183_21, kR183_26, kR183_27, kR183_30, kR183_31, kR183_33, kR183_34, kR183_36, kR183_37, kR183_38, kR183_39, kR183_40, kR183_41, kR183_42, kR183_43, kR183_44, kL184, kA184, kS184, kL185, kA185, kS185, kL186, kA186, kS186, kL187, kA187, kS187, kL188, kA188, kS188, kL189, kL190, kL191, kA191, kS191, kL192, kA192, kS192, kL193, kA193, kS193, kL194, kA194, kS194, kL195, kA195, kS195, kL196, kA196, kS196, kL197, kA197, kS197, kL198, kA198, kS198, kL199, kA199, kS199, kL200, kA200, kS200, kL201, kL202, kA202, kS202, kL203, kA203, kS203, kL204, kA204, kS204, kL205, kL206, kA206, kS206, c2, show (40 : Int32) = nI 40 from rfl, show (1 : Int32) = nI 1 from rfl, nn_add, xmin_n, Nat.reduceMod]
    have e : (nx + 1) % 40 = 0 := by omega
    unfold kpI
    rw [e]
    rfl
  · rw [if_neg h39]
    simp (disch := first | assumption | omega) only [Option.bind_some, Option.map_some, xw_gR, xw_gN, xw_al, xw_ck, xw_uI, xw_ur, xup_at, xur_at, if_true, if_false, reduceIte, and_true, true_and, and_false, false_and, not_true_eq_false, not_false_eq_true, Nat.reduceEqDiff, eq_self, Nat.reduceAdd, Nat.reduceMul, kC1, kG1, kP1, kR1_0, kR1_1, kR1_2, kR1_3, kR1_4, kR1_5, kR1_6, kR1_7, kR1_8, kR1_9, kR1_10, kR1_11, kR1_12, kR1_13, kC2, kG2, kP2, kR2_0, kR2_1, kC3, kG3, kP3, kR3_0, kR3_1, kR3_2, kR3_3, kL4, kA4, kS4, kL5, kA5, kS5, kL6, kA6, kS6, kL7, kA7, kS7, kC8, kG8, kP8, kR8_0, kR8_1, kL9, kA9, kS9, kL10, kA10, kS10, kC11, kG11, kP11, kR11_0, kR11_1, kR11_2, kR11_3, kL12, kA12, kS12, kL13, kA13, kS13, kL14, kA14, kS14, kL15, kA15, kS15, kC16, kG16, kP16, kR16_0, kR16_1, kL17, kA17, kS17, kL18, kA18, kS18, kC19, kG19, kP19, kR19_0, kL20, kL141, kL146, kA146, kS146, kL151, kA151, kS151, kL156, kA156, kS156, kC157, kG157, kP157, kR157_0, kR157_1, kL158, kA158, kS158, kL159, kA159, kS159, kC161, kG161, kP161, kR161_0, kR161_1, kL162, kA162, kS162, kL163, kA163, kS163, kC165, kG165, kP165, kR165_0, kR165_1, kR165_2, kR165_3, kL166, kA166, kS166, kL167, kA167, kS167, kL168, kA168, kS168, kL169, kA169, kS169, kC170, kG170, kP170, kR170_0, kR170_1, kR170_2, kL171, kA171, kS171, kL172, kA172, kS172, kL173, kA173, kS173, kC174, kG174, kP174, kR174_0, kR174_1, kR174_2, kR174_3, kR174_4, kL175, kA175, kS175, kL176, kA176, kS176, kL177, kA177, kS177, kL178, kA178, kS178, kL179, kC180, kG180, kP180, kL181, kL182, kA182, kS182, kC183, kG183, kP183, kR183_1, kR183_3, kR183_5, kR183_6, kR183_7, kR183_8, kR183_9, kR183_21, kR183_26, kR183_27, kR183_30, kR183_31, kR183_33, kR183_34, kR183_36, kR183_37, kR183_38, kR183_39, kR183_40, kR183_41, kR183_42, kR183_43, kR183_44, kL184, kA184, kS184, kL185, kA185, kS185, kL186, kA186, kS186, kL187, kA187, kS187, kL188, kA188, kS188, kL189, kL190, kL191, kA191, kS191, kL192, kA192, kS192, kL193, kA193, kS193, kL194, kA194, kS194, kL195, kA195, kS195, kL196, kA196, kS196, kL197, kA197, kS197, kL198, kA198, kS198, kL199, kA199, kS199, kL200, kA200, kS200, kL201, kL202, kA202, kS202, kL203, kA203, kS203, kL204, kA204, kS204, kL205, kL206, kA206, kS206, c2, show (40 : Int32) = nI 40 from rfl, show (1 : Int32) = nI 1 from rfl, nn_add, xmin_n]
    have e : (nx + 1) % 40 = nx + 1 := by omega
    unfold kpI
    rw [e]
def mkI (I : Nat → Nat → Int32) (ea q : Nat) : Nat → Nat → Int32 := xup (rcI (if q = 40 then xup (xup I 183 28 (nI ((ea + 1) % 40))) 183 29 (nI 39) else I) 193 (66 * ((ea + q) % 40)) 191 0 66) 183 29 (nI (min (q + 1) 40))
theorem marks_j {ea q : Nat} (hS : Shp σ) (hx : ea < 40) (hq : q < 40) (h1 : I 183 28 = nI ea) (h2 : I 183 29 = nI q) : f_X12_marks_j32 (xw σ I) 183 = some (xw σ (xup (rcI I 193 (66 * ((ea + q) % 40)) 191 0 66) 183 29 (nI (q + 1)))) := by
  unfold f_X12_marks_j32
  simp (disch := first | assumption | omega) only [Option.bind_some, Option.map_some, xw_gR, xw_gN, xw_al, xw_ck, xw_uI, xw_ur, xup_at, xur_at, if_true, if_false, reduceIte, and_true, true_and, and_false, false_and, not_true_eq_false, not_false_eq_true, Nat.reduceEqDiff, eq_self, Nat.reduceAdd, Nat.reduceMul, kC1, kG1, kP1, kR1_0, kR1_1, kR1_2, kR1_3, kR1_4, kR1_5, kR1_6, kR1_7, kR1_8, kR1_9, kR1_10, kR1_11, kR1_12, kR1_13, kC2, kG2, kP2, kR2_0, kR2_1, kC3, kG3, kP3, kR3_0, kR3_1, kR3_2, kR3_3, kL4, kA4, kS4, kL5, kA5, kS5, kL6, kA6, kS6, kL7, kA7, kS7, kC8, kG8, kP8, kR8_0, kR8_1, kL9, kA9, kS9, kL10, kA10, kS10, kC11, kG11, kP11, kR11_0, kR11_1, kR11_2, kR11_3, kL12, kA12, kS12, kL13, kA13, kS13, kL14, kA14, kS14, kL15, kA15, kS15, kC16, kG16, kP16, kR16_0, kR16_1, kL17, kA17, kS17, kL18, kA18, kS18, kC19, kG19, kP19, kR19_0, kL20, kL141, kL146, kA146, kS146, kL151, kA151, kS151, kL156, kA156, kS156, kC157, kG157, kP157, kR157_0, kR157_1, kL158, kA158, kS158, kL159, kA159, kS159, kC161, kG161, kP161, kR161_0, kR161_1, kL162, kA162, kS162, kL163, kA163, kS163, kC165, kG165, kP165, kR165_0, kR165_1, kR165_2, kR165_3, kL166, kA166, kS166, kL167, kA167, kS167, kL168, kA168, kS168, kL169, kA169, kS169, kC170, kG170, kP170, kR170_0, kR170_1, kR170_2, kL171, kA171, kS171, kL172, kA172, kS172, kL173, kA173, kS173, kC174, kG174, kP174, kR174_0, kR174_1, kR174_2, kR174_3, kR174_4, kL175, kA175, kS175, kL176, kA176, kS176, kL177, kA177, kS177, kL178, kA178, kS178, kL179, kC180, kG180, kP180, kL181, kL182, kA182, kS182, kC183, kG183, kP183, kR183_1, kR183_3, kR183_5, kR183_6, kR183_7, kR183_8, kR183_9, kR183_21, kR183_26, kR183_27, kR183_30, kR183_31, kR183_33, kR183_34, kR183_36, kR183_37, kR183_38, kR183_39, kR183_40, kR183_41, kR183_42, kR183_43, kR183_44, kL184, kA184, kS184, kL185, kA185, kS185, kL186, kA186, kS186, kL187, kA187, kS187, kL188, kA188, kS188, kL189, kL190, kL191, kA191, kS191, kL192, kA192, kS192, kL193, kA193, kS193, kL194, kA194, kS194, kL195, kA195, kS195, kL196, kA196, kS196, kL197, kA197, kS197, kL198, kA198, kS198, kL199, kA199, kS199, kL200, kA200, kS200, kL201, kL202, kA202, kS202, kL203, kA203, kS203, kL204, kA204, kS204, kL205, kL206, kA206, kS206, h1, h2, show (40 : Int32) = nI 40 from rfl, show (66 : Int32) = nI 66 from rfl, nn_add]
  rw [nn_rem (by omega) (by omega), nn_mul]
  refine xforE (fun j : Nat => (nI j, xw σ (rcI I 193 (66 * ((ea + q) % 40)) 191 0 j))) 66 (by simp only [rcI_0]; rfl) (fun j hj => ?_) ?_
  · simp only [f_X12_marks_b50]
    rw [if_neg (by rw [show (66 : Int32) = nI 66 from rfl, nn_le (by omega) (by omega)]; omega)]
    simp (disch := first | assumption | omega) only [Option.bind_some, Option.map_some, xw_gR, xw_gN, xw_al, xw_ck, xw_uI, xw_ur, xup_at, xur_at, if_true, if_false, reduceIte, and_true, true_and, and_false, false_and, not_true_eq_false, not_false_eq_true, Nat.reduceEqDiff, eq_self, Nat.reduceAdd, Nat.reduceMul, kC1, kG1, kP1, kR1_0, kR1_1, kR1_2, kR1_3, kR1_4, kR1_5, kR1_6, kR1_7, kR1_8, kR1_9, kR1_10, kR1_11, kR1_12, kR1_13, kC2, kG2, kP2, kR2_0, kR2_1, kC3, kG3, kP3, kR3_0, kR3_1, kR3_2, kR3_3, kL4, kA4, kS4, kL5, kA5, kS5, kL6, kA6, kS6, kL7, kA7, kS7, kC8, kG8, kP8, kR8_0, kR8_1, kL9, kA9, kS9, kL10, kA10, kS10, kC11, kG11, kP11, kR11_0, kR11_1, kR11_2, kR11_3, kL12, kA12, kS12, kL13, kA13, kS13, kL14, kA14, kS14, kL15, kA15, kS15, kC16, kG16, kP16, kR16_0, kR16_1, kL17, kA17, kS17, kL18, kA18, kS18, kC19, kG19, kP19, kR19_0, kL20, kL141, kL146, kA146, kS146, kL151, kA151, kS151, kL156, kA156, kS156, kC157, kG157, kP157, kR157_0, kR157_1, kL158, kA158, kS158, kL159, kA159, kS159, kC161, kG161, kP161, kR161_0, kR161_1, kL162, kA162, kS162, kL163, kA163, kS163, kC165, kG165, kP165, kR165_0, kR165_1, kR165_2, kR165_3, kL166, kA166, kS166, kL167, kA167, kS167, kL168, kA168, kS168, kL169, kA169, kS169, kC170, kG170, kP170, kR170_0, kR170_1, kR170_2, kL171, kA171, kS171, kL172, kA172, kS172, kL173, kA173, kS173, kC174, kG174, kP174, kR174_0, kR174_1, kR174_2, kR174_3, kR174_4, kL175, kA175, kS175, kL176, kA176, kS176, kL177, kA177, kS177, kL178, kA178, kS178, kL179, kC180, kG180, kP180, kL181, kL182, kA182, kS182, kC183, kG183, kP183, kR183_1, kR183_3, kR183_5, kR183_6, kR183_7, kR183_8, kR183_9, kR183_21, kR183_26, kR183_27, kR183_30, kR183_31, kR183_33, kR183_34, kR183_36, kR183_37, kR183_38, kR183_39, kR183_40, kR183_41, kR183_42, kR183_43, kR183_44, kL184, kA184, kS184, kL185, kA185, kS185, kL186, kA186, kS186, kL187, kA187, kS187, kL188, kA188, kS188, kL189, kL190, kL191, kA191, kS191, kL192, kA192, kS192, kL193, kA193, kS193, kL194, kA194, kS194, kL195, kA195, kS195, kL196, kA196, kS196, kL197, kA197, kS197, kL198, kA198, kS198, kL199, kA199, kS199, kL200, kA200, kS200, kL201, kL202, kA202, kS202, kL203, kA203, kS203, kL204, kA204, kS204, kL205, kL206, kA206, kS206, nn_add, rcI_src (show 191 ≠ 193 by decide)]
    have e := rcI_s (I := I) (d := 193) (x := 66 * ((ea + q) % 40)) (s := 191) (y := 0) (n := j)
    rw [Nat.zero_add] at e
    rw [e, show (1 : Int32) = nI 1 from rfl, nn_add]
  · simp only [f_X12_marks_b50]
    rw [if_pos (by decide)]
    simp (disch := first | assumption | omega) only [Option.bind_some, Option.map_some, xw_gR, xw_gN, xw_al, xw_ck, xw_uI, xw_ur, xup_at, xur_at, if_true, if_false, reduceIte, and_true, true_and, and_false, false_and, not_true_eq_false, not_false_eq_true, Nat.reduceEqDiff, eq_self, Nat.reduceAdd, Nat.reduceMul, kC1, kG1, kP1, kR1_0, kR1_1, kR1_2, kR1_3, kR1_4, kR1_5, kR1_6, kR1_7, kR1_8, kR1_9, kR1_10, kR1_11, kR1_12, kR1_13, kC2, kG2, kP2, kR2_0, kR2_1, kC3, kG3, kP3, kR3_0, kR3_1, kR3_2, kR3_3, kL4, kA4, kS4, kL5, kA5, kS5, kL6, kA6, kS6, kL7, kA7, kS7, kC8, kG8, kP8, kR8_0, kR8_1, kL9, kA9, kS9, kL10, kA10, kS10, kC11, kG11, kP11, kR11_0, kR11_1, kR11_2, kR11_3, kL12, kA12, kS12, kL13, kA13, kS13, kL14, kA14, kS14, kL15, kA15, kS15, kC16, kG16, kP16, kR16_0, kR16_1, kL17, kA17, kS17, kL18, kA18, kS18, kC19, kG19, kP19, kR19_0, kL20, kL141, kL146, kA146, kS146, kL151, kA151, kS151, kL156, kA156, kS156, kC157, kG157, kP157, kR157_0, kR157_1, kL158, kA158, kS158, kL159, kA159, kS159, kC161, kG161, kP161, kR161_0, kR161_1, kL162, kA162, kS162, kL163, kA163, kS163, kC165, kG165, kP165, kR165_0, kR165_1, kR165_2, kR165_3, kL166, kA166, kS166, kL167, kA167, kS167, kL168, kA168, kS168, kL169, kA169, kS169, kC170, kG170, kP170, kR170_0, kR170_1, kR170_2, kL171, kA171, kS171, kL172, kA172, kS172, kL173, kA173, kS173, kC174, kG174, kP174, kR174_0, kR174_1, kR174_2, kR174_3, kR174_4, kL175, kA175, kS175, kL176, kA176, kS176, kL177, kA177, kS177, kL178, kA178, kS178, kL179, kC180, kG180, kP180, kL181, kL182, kA182, kS182, kC183, kG183, kP183, kR183_1, kR183_3, kR183_5, kR183_6, kR183_7, kR183_8, kR183_9, kR183_21, kR183_26, kR183_27, kR183_30, kR183_31, kR183_33, kR183_34, kR183_36, kR183_37, kR183_38, kR183_39, kR183_40, kR183_41, kR183_42, kR183_43, kR183_44, kL184, kA184, kS184, kL185, kA185, kS185, kL186, kA186, kS186, kL187, kA187, kS187, kL188, kA188, kS188, kL189, kL190, kL191, kA191, kS191, kL192, kA192, kS192, kL193, kA193, kS193, kL194, kA194, kS194, kL195, kA195, kS195, kL196, kA196, kS196, kL197, kA197, kS197, kL198, kA198, kS198, kL199, kA199, kS199, kL200, kA200, kS200, kL201, kL202, kA202, kS202, kL203, kA203, kS203, kL204, kA204, kS204, kL205, kL206, kA206, kS206, rcI_out (I := I) (c := 183) (d := 193) (k := 29) (.inl (by decide)), h2, show (1 : Int32) = nI 1 from rfl, nn_add]
theorem marks_ok {ea q : Nat} (hS : Shp σ) (hx : ea < 40) (hq : q ≤ 40) (h1 : I 183 28 = nI ea) (h2 : I 183 29 = nI q) : f_X12_marks (xw σ I) 183 = some (xw σ (mkI I ea q)) := by
  unfold f_X12_marks
  simp (disch := first | assumption | omega) only [Option.bind_some, Option.map_some, xw_gR, xw_gN, xw_al, xw_ck, xw_uI, xw_ur, xup_at, xur_at, if_true, if_false, reduceIte, and_true, true_and, and_false, false_and, not_true_eq_false, not_false_eq_true, Nat.reduceEqDiff, eq_self, Nat.reduceAdd, Nat.reduceMul, kC1, kG1, kP1, kR1_0, kR1_1, kR1_2, kR1_3, kR1_4, kR1_5, kR1_6, kR1_7, kR1_8, kR1_9, kR1_10, kR1_11, kR1_12, kR1_13, kC2, kG2, kP2, kR2_0, kR2_1, kC3, kG3, kP3, kR3_0, kR3_1, kR3_2, kR3_3, kL4, kA4, kS4, kL5, kA5, kS5, kL6, kA6, kS6, kL7, kA7, kS7, kC8, kG8, kP8, kR8_0, kR8_1, kL9, kA9, kS9, kL10, kA10, kS10, kC11, kG11, kP11, kR11_0, kR11_1, kR11_2, kR11_3, kL12, kA12, kS12, kL13, kA13, kS13, kL14, kA14, kS14, kL15, kA15, kS15, kC16, kG16, kP16, kR16_0, kR16_1, kL17, kA17, kS17, kL18, kA18, kS18, kC19, kG19, kP19, kR19_0, kL20, kL141, kL146, kA146, kS146, kL151, kA151, kS151, kL156, kA156, kS156, kC157, kG157, kP157, kR157_0, kR157_1, kL158, kA158, kS158, kL159, kA159, kS159, kC161, kG161, kP161, kR161_0, kR161_1, kL162, kA162, kS162, kL163, kA163, kS163, kC165, kG165, kP165, kR165_0, kR165_1, kR165_2, kR165_3, kL166, kA166, kS166, kL167, kA167, kS167, kL168, kA168, kS168, kL169, kA169, kS169, kC170, kG170, kP170, kR170_0, kR170_1, kR170_2, kL171, kA171, kS171, kL172, kA172, kS172, kL173, kA173, kS173, kC174, kG174, kP174, kR174_0, kR174_1, kR174_2, kR174_3, kR174_4, kL175, kA175, kS175, kL176, kA176, kS176, kL177, kA177, kS177, kL178, kA178, kS178, kL179, kC180, kG180, kP180, kL181, kL182, kA182, kS182, kC183, kG183, kP183, kR183_1, kR183_3, kR183_5, kR183_6, kR183_7, kR183_8, kR183_9, kR183_21, kR183_26, kR183_27, kR183_30, kR183_31, kR183_33, kR183_34, kR183_36, kR183_37, kR183_38, kR183_39, kR183_40, kR183_41, kR183_42, kR183_43, kR183_44, kL184, kA184, kS184, kL185, kA185, kS185, kL186, kA186, kS186, kL187, kA187, kS187, kL188, kA188, kS188, kL189, kL190, kL191, kA191, kS191, kL192, kA192, kS192, kL193, kA193, kS193, kL194, kA194, kS194, kL195, kA195, kS195, kL196, kA196, kS196, kL197, kA197, kS197, kL198, kA198, kS198, kL199, kA199, kS199, kL200, kA200, kS200, kL201, kL202, kA202, kS202, kL203, kA203, kS203, kL204, kA204, kS204, kL205, kL206, kA206, kS206, h2, show (40 : Int32) = nI 40 from rfl, nn_eq]
  by_cases h40 : q = 40
  · subst h40
    simp (disch := first | assumption | omega) only [Option.bind_some, Option.map_some, xw_gR, xw_gN, xw_al, xw_ck, xw_uI, xw_ur, xup_at, xur_at, if_true, if_false, reduceIte, and_true, true_and, and_false, false_and, not_true_eq_false, not_false_eq_true, Nat.reduceEqDiff, eq_self, Nat.reduceAdd, Nat.reduceMul, kC1, kG1, kP1, kR1_0, kR1_1, kR1_2, kR1_3, kR1_4, kR1_5, kR1_6, kR1_7, kR1_8, kR1_9, kR1_10, kR1_11, kR1_12, kR1_13, kC2, kG2, kP2, kR2_0, kR2_1, kC3, kG3, kP3, kR3_0, kR3_1, kR3_2, kR3_3, kL4, kA4, kS4, kL5, kA5, kS5, kL6, kA6, kS6, kL7, kA7, kS7, kC8, kG8, kP8, kR8_0, kR8_1, kL9, kA9, kS9, kL10, kA10, kS10, kC11, kG11, kP11, kR11_0, kR11_1, kR11_2, kR11_3, kL12, kA12, kS12, kL13, kA13, kS13, kL14, kA14, kS14, kL15, kA15, kS15, kC16, kG16, kP16, kR16_0, kR16_1, kL17, kA17, kS17, kL18, kA18, kS18, kC19, kG19, kP19, kR19_0, kL20, kL141, kL146, kA146, kS146, kL151, kA151, kS151, kL156, kA156, kS156, kC157, kG157, kP157, kR157_0, kR157_1, kL158, kA158, kS158, kL159, kA159, kS159, kC161, kG161, kP161, kR161_0, kR161_1, kL162, kA162, kS162, kL163, kA163, kS163, kC165, kG165, kP165, kR165_0, kR165_1, kR165_2, kR165_3, kL166, kA166, kS166, kL167, kA167, kS167, kL168, kA168, kS168, kL169, kA169, kS169, kC170, kG170, kP170, kR170_0, kR170_1, kR170_2, kL171, kA171, kS171, kL172, kA172, kS172, kL173, kA173, kS173, kC174, kG174, kP174, kR174_0, kR174_1, kR174_2, kR174_3, kR174_4, kL175, kA175, kS175, kL176, kA176, kS176, kL177, kA177, kS177, kL178, kA178, kS178, kL179, kC180, kG180, kP180, kL181, kL182, kA182, kS182, kC183, kG183, kP183, kR183_1, kR183_3, kR183_5, kR183_6, kR183_7, kR183_8, kR183_9, kR183_21, kR183_26, kR183_27, kR183_30, kR183_31, kR183_33, kR183_34, kR183_36, kR183_37, kR183_38, kR183_39, kR183_40, kR183_41, kR183_42, kR183_43, kR183_44, kL184, kA184, kS184, kL185, kA185, kS185, kL186, kA186, kS186, kL187, kA187, kS187, kL188, kA188, kS188, kL189, kL190, kL191, kA191, kS191, kL192, kA192, kS192, kL193, kA193, kS193, kL194, kA194, kS194, kL195, kA195, kS195, kL196, kA196, kS196, kL197, kA197, kS197, kL198, kA198, kS198, kL199, kA199, kS199, kL200, kA200, kS200, kL201, kL202, kA202, kS202, kL203, kA203, kS203, kL204, kA204, kS204, kL205, kL206, kA206, kS206, h1, h2, show (1 : Int32) = nI 1 from rfl, nn_add, nn_rem, nn_sub, Nat.reduceSub]
    rw [marks_j (ea := (ea + 1) % 40) (q := 39) hS (by omega) (by omega) (by simp [xup_at]) (by simp [xup_at])]
    have e : ((ea + 1) % 40 + 39) % 40 = (ea + 40) % 40 := by omega
    unfold mkI
    rw [e, if_pos rfl]
    rfl
  · rw [if_neg h40, marks_j hS hx (by omega) h1 h2]
    unfold mkI
    rw [if_neg h40, show min (q + 1) 40 = q + 1 by omega]
end HAND
end
section
/-! a change by hand keeps the invariant -/
theorem kpI_out {I : Nat → Nat → Int32} {nx q a k : Nat} (h1 : a ≠ 19) (h2 : a < 21 + 3 * nx ∨ 23 + 3 * nx < a) : kpI I nx q a k = I a k := by
  unfold kpI cpI
  simp only [xup_at]
  rw [if_neg (by omega), if_neg (by omega), if_neg (by omega), if_neg (by omega), if_neg (by omega)]
theorem kpI_0 {I : Nat → Nat → Int32} {nx q k : Nat} (h1 : 2 ≤ k) (h2 : k ≤ 7) : kpI I nx q (21 + 3 * nx) k = I 16 k := by
  unfold kpI cpI
  simp only [xup_at]
  rw [if_neg (by omega), if_neg (by omega), if_neg (by omega), if_neg (by omega), if_pos ⟨trivial, h1, h2⟩]
theorem kpI_1 {I : Nat → Nat → Int32} {nx q k : Nat} (h1 : k < 32) : kpI I nx q (21 + 3 * nx + 1) k = I 17 k := by
  unfold kpI cpI
  simp only [xup_at]
  rw [if_neg (by omega), if_neg (by omega), if_pos ⟨trivial, h1⟩]
theorem kpI_2 {I : Nat → Nat → Int32} {nx q k : Nat} (h1 : k < 16) : kpI I nx q (21 + 3 * nx + 2) k = I 18 k := by
  unfold kpI cpI
  simp only [xup_at]
  rw [if_neg (by omega), if_neg (by omega), if_neg (by omega), if_pos ⟨trivial, h1⟩]
theorem kpI_n {I : Nat → Nat → Int32} {nx q : Nat} : kpI I nx q 19 1 = nI ((nx + 1) % 40) ∧ kpI I nx q 19 2 = nI (min (q + 1) 40) := by
  unfold kpI
  simp [xup_at]
theorem mkI_out {I : Nat → Nat → Int32} {ea q a k : Nat} (h1 : a ≠ 193) (h2 : a ≠ 183 ∨ (k ≠ 28 ∧ k ≠ 29)) : mkI I ea q a k = I a k := by
  unfold mkI
  simp only [xup_at]
  rw [if_neg (by omega), rcI_out (.inl h1)]
  split
  · simp only [xup_at]
    rw [if_neg (by omega), if_neg (by omega)]
  · rfl
theorem mkI_n {I : Nat → Nat → Int32} {ea q : Nat} (h : I 183 28 = nI ea) : mkI I ea q 183 28 = nI (if q = 40 then (ea + 1) % 40 else ea) ∧ mkI I ea q 183 29 = nI (min (q + 1) 40) := by
  unfold mkI
  constructor
  · rw [xup_at, if_neg (by omega), rcI_out (.inl (by decide))]
    by_cases h40 : q = 40
    · rw [if_pos h40, if_pos h40]; simp [xup_at]
    · rw [if_neg h40, if_neg h40]; exact h
  · rw [xup_at, if_pos ⟨rfl, rfl⟩]
theorem mkI_in {I : Nat → Nat → Int32} {ea q k : Nat} (h : k < 66) : mkI I ea q 193 (66 * ((ea + q) % 40) + k) = I 191 k := by
  unfold mkI
  simp only [xup_at]
  rw [if_neg (by omega), rcI_in h, Nat.zero_add]
  split
  · simp only [xup_at]
    rw [if_neg (by omega), if_neg (by omega)]
  · rfl
theorem mkI_ot {I : Nat → Nat → Int32} {ea q x k : Nat} (h : k < 66) (hx : x ≠ (ea + q) % 40) : mkI I ea q 193 (66 * x + k) = I 193 (66 * x + k) := by
  unfold mkI
  simp only [xup_at]
  rw [if_neg (by omega), rcI_out (by omega)]
  split
  · simp only [xup_at]
    rw [if_neg (by omega), if_neg (by omega)]
  · rfl
section HAND2
variable {g : GD} {gT gP gT' gP' : GH} {st st' : Nat} {I I' : Nat → Nat → Int32}
theorem PST_hand {nx q ea : Nat} (hg : g ∈ gAll) (hq : q ≤ 40) (hnx : nx < 40) (hea : ea < 40)
    (H8 : ∀ i, i < q → LV g gT gP st I (21 + 3 * ((nx + 40 - q + i) % 40)) (fun k => I 193 (66 * ((ea + i) % 40) + k))) (hnow : LV g gT gP st I 16 (I 191))
    (hs : st ≤ st') (hT : ∀ t, t ≤ st → gT' t = gT t) (hP : ∀ t, t ≤ st → gP' t = gP t)
    (u : ∀ a k, 21 ≤ a → a ≤ 140 → (a < 21 + 3 * nx ∨ 23 + 3 * nx < a) → I' a k = I a k)
    (k0 : ∀ k, 2 ≤ k → k ≤ 7 → I' (21 + 3 * nx) k = I 16 k) (k1 : ∀ k, k < 32 → I' (21 + 3 * nx + 1) k = I 17 k) (k2 : ∀ k, k < 16 → I' (21 + 3 * nx + 2) k = I 18 k)
    (e1 : I' 19 1 = nI ((nx + 1) % 40)) (e2 : I' 19 2 = nI (min (q + 1) 40)) (e3 : I' 183 28 = nI (if q = 40 then (ea + 1) % 40 else ea)) (e4 : I' 183 29 = nI (min (q + 1) 40))
    (r1 : ∀ k, k < 66 → I' 193 (66 * ((ea + q) % 40) + k) = I 191 k) (r2 : ∀ x k, k < 66 → x ≠ (ea + q) % 40 → I' 193 (66 * x + k) = I 193 (66 * x + k)) : PST g gT' gP' st' I' := by
  have old : ∀ i, i < q → (nx + 40 - q + i) % 40 ≠ nx → (ea + i) % 40 ≠ (ea + q) % 40 → LV g gT' gP' st' I' (21 + 3 * ((nx + 40 - q + i) % 40)) (fun k => I' 193 (66 * ((ea + i) % 40) + k)) := by
    intro i hi h1 h2
    exact LV_m hg (fun k _ _ => u _ _ (by omega) (by omega) (by omega)) (fun k _ => u _ _ (by omega) (by omega) (by omega)) (fun k _ => u _ _ (by omega) (by omega) (by omega)) (fun k hk => r2 _ _ hk h2) hs hT hP (H8 i hi)
  have new : LV g gT' gP' st' I' (21 + 3 * nx) (fun k => I' 193 (66 * ((ea + q) % 40) + k)) := LV_m hg k0 k1 k2 r1 hs hT hP hnow
  by_cases h40 : q = 40
  · subst h40
    refine ⟨40, (nx + 1) % 40, (ea + 1) % 40, by omega, by omega, by omega, e1, e2, by rw [e3, if_pos rfl], e4, fun i hi => ?_⟩
    by_cases h39 : i = 39
    · subst h39
      rw [show ((nx + 1) % 40 + 40 - 40 + 39) % 40 = nx by omega, show ((ea + 1) % 40 + 39) % 40 = (ea + 40) % 40 by omega]
      exact new
    · have := old (i + 1) (by omega) (by omega) (by omega)
      rw [show ((nx + 1) % 40 + 40 - 40 + i) % 40 = (nx + 40 - 40 + (i + 1)) % 40 by omega, show ((ea + 1) % 40 + i) % 40 = (ea + (i + 1)) % 40 by omega]
      exact this
  · have hm : min (q + 1) 40 = q + 1 := by omega
    rw [hm] at e2 e4
    rw [if_neg h40] at e3
    refine ⟨q + 1, (nx + 1) % 40, ea, by omega, by omega, by omega, e1, e2, e3, e4, fun i hi => ?_⟩
    by_cases hiq : i = q
    · subst hiq
      rw [show ((nx + 1) % 40 + 40 - (i + 1) + i) % 40 = nx by omega]
      exact new
    · have := old i (by omega) (by omega) (by omega)
      rw [show ((nx + 1) % 40 + 40 - (q + 1) + i) % 40 = (nx + 40 - q + i) % 40 by omega]
      exact this
theorem IV.cells {n : Nat} {σ : XS} (H : IV n σ g gT gP st) : xR σ 157 4 = 160 ∨ 206 < xR σ 157 4 := by
  obtain ⟨_, _, _, _, _, _, q, _⟩ := H.cel
  exact q
theorem IV.hand {n : Nat} {σ : XS} (H : IV n σ g gT gP st) {nx q ea : Nat} (hq : q ≤ 40) (hnx : nx < 40) (hea : ea < 40) (p3 : xI σ 183 28 = nI ea)
    (H8 : ∀ i, i < q → LV g gT gP st (xI σ) (21 + 3 * ((nx + 40 - q + i) % 40)) (fun k => xI σ 193 (66 * ((ea + i) % 40) + k)))
    {I2 I4 : Nat → Nat → Int32} (c2 : ∀ a k, ¬ ((16 ≤ a ∧ a ≤ 18) ∨ (a = 1 ∧ k = 15)) → I2 a k = kpI (xI σ) nx q a k) (c4 : ∀ a k, ¬ (a = 191 ∨ (a = 183 ∧ k = 32)) → I4 a k = mkI I2 ea q a k)
    (hs : st ≤ st') (hsn : st' ≤ n + 1) (hT : ∀ t, t ≤ st → gT' t = gT t) (hP : ∀ t, t ≤ st → gP' t = gP t) (hst : I4 1 15 = nI st') (hnow : LV g gT' gP' st' I4 16 (I4 191)) (hk : KNW I4 g) : IV (n + 1) (xw σ I4) g gT' gP' st' := by
  have hg := H.grd.1
  have hc := H.cells
  have u : ∀ a k, ¬ ((16 ≤ a ∧ a ≤ 19) ∨ (a = 1 ∧ k = 15) ∨ a = 191 ∨ a = 193 ∨ (a = 183 ∧ (k = 28 ∨ k = 29 ∨ k = 32)) ∨ (21 + 3 * nx ≤ a ∧ a ≤ 23 + 3 * nx)) → I4 a k = xI σ a k := by
    intro a k h
    rw [c4 a k (by omega), mkI_out (by omega) (by omega), c2 a k (by omega), kpI_out (by omega) (by omega)]
  have i2 : I2 183 28 = nI ea := by rw [c2 _ _ (by omega), kpI_out (by omega) (by omega)]; exact p3
  refine ⟨H.shp, hsn, hst, TAP_c (fun a k q => u a k (by unfold sTAP at q; omega)) H.tap, ?_, GRD_c (fun a k q => u a k (by unfold sGRD at q; omega)) H.grd, hnow, ?_, SLT_c hg (fun a k q => u a k (by unfold sSLT at q; omega)) hs hT hP H.slt, CCH_c (fun a k q => u a k (by unfold sCCH at q; rw [xw_R] at q; omega)) hs hT hP H.cch, hk, H.cel⟩
  · show I4 1 14 = I4 183 16
    rw [u _ _ (by omega), u _ _ (by omega)]; exact H.plc
  · refine PST_hand (I := xI σ) hg hq hnx hea H8 H.now hs hT hP (fun a k h1 h2 h3 => u a k (by omega)) ?_ ?_ ?_ ?_ ?_ ?_ ?_ ?_ ?_
    · intro k h1 h2
      show I4 (21 + 3 * nx) k = _
      rw [c4 _ _ (by omega), mkI_out (by omega) (by omega), c2 _ _ (by omega), kpI_0 h1 h2]
    · intro k h1
      show I4 (21 + 3 * nx + 1) k = _
      rw [c4 _ _ (by omega), mkI_out (by omega) (by omega), c2 _ _ (by omega), kpI_1 h1]
    · intro k h1
      show I4 (21 + 3 * nx + 2) k = _
      rw [c4 _ _ (by omega), mkI_out (by omega) (by omega), c2 _ _ (by omega), kpI_2 h1]
    · show I4 19 1 = _
      rw [c4 _ _ (by omega), mkI_out (by omega) (by omega), c2 _ _ (by omega), kpI_n.1]
    · show I4 19 2 = _
      rw [c4 _ _ (by omega), mkI_out (by omega) (by omega), c2 _ _ (by omega), kpI_n.2]
    · show I4 183 28 = _
      rw [c4 _ _ (by omega), (mkI_n i2).1]
    · show I4 183 29 = _
      rw [c4 _ _ (by omega), (mkI_n i2).2]
    · intro k h1
      show I4 193 _ = _
      rw [c4 _ _ (by omega), mkI_in h1, c2 _ _ (by omega), kpI_out (by omega) (by omega)]
    · intro x k h1 h2
      show I4 193 _ = _
      rw [c4 _ _ (by omega), mkI_ot h1 h2, c2 _ _ (by omega), kpI_out (by omega) (by omega)]
end HAND2
end
section
/-! sites and ties on both sides -/
def isS (g : GD) (x : Int32) : Bool := decide (0 ≤ x.toInt) && decide (x.toInt < (gSz g : Int))
theorem isS_t {g : GD} {x : Int32} (h : isS g x = true) : ∃ i, i < gSz g ∧ x = nI i := by
  unfold isS at h
  rw [Bool.and_eq_true, decide_eq_true_eq, decide_eq_true_eq] at h
  refine ⟨x.toInt.toNat, by omega, ?_⟩
  rw [iI_n, Int.toNat_of_nonneg h.1]
  exact iI_of x
theorem isS_n {g : GD} (hg : g ∈ gAll) {i : Nat} (h : i < gSz g) : isS g (nI i) = true := by
  have := (gAll_b g hg).2.2.1
  unfold isS
  rw [nI_toInt (by omega), Bool.and_eq_true, decide_eq_true_eq, decide_eq_true_eq]
  omega
theorem leads_ok : ∀ g ∈ gAll, ∀ b, b < 2 → ∀ i, i < 16 → i < gSz g → f_X12_leads (nI i) (nI b) (nI g.1) (nI g.2.1) (nI (if b = 0 then g.2.2 % 2 else g.2.2 / 2)) = some (oI (gTo g (i + 16 * b))) := by decide +kernel
theorem endOf_ok : ∀ g ∈ gAll, ∀ t, t < 32 → f_X3_endOf (nI g.1) (nI g.2.1) (nI g.2.2) (nI t) = some (oI (gTo g t)) := by decide +kernel
theorem oI_none {o : Option Nat} (h : ∀ e, o = some e → e < 2147483648) : (oI o = -1) = (o = none) := by
  cases o with
  | none => simp [oI]
  | some e =>
    have := h e rfl
    simp only [oI, nn_m1 this, reduceCtorEq]
theorem oI_neg {o : Option Nat} (h : ∀ e, o = some e → e < 2147483648) : (oI o < 0) = (o = none) := by
  cases o with
  | none => simp [oI]
  | some e =>
    have := h e rfl
    simp only [oI, nn_nneg this, reduceCtorEq]
theorem gTo_s {g : GD} (hg : g ∈ gAll) {t : Nat} (ht : t < 32) : ∀ e, gTo g t = some e → e < 2147483648 := fun e he => by
  have := gTo_b g hg t ht e he
  have := (gAll_b g hg).2.2.1
  omega
section SITES
variable {σ : XS} {I : Nat → Nat → Int32} {g : GD}
theorem hasSite_ok (hS : Shp σ) (hG : GRD I g) (x : Int32) : f_X3_hasSite (xw σ I) 11 x = some (if isS g x then 1 else 0) := by
  have h16 := (gAll_b g hG.1).2.2.1
  unfold f_X3_hasSite
  by_cases h0 : x < 0
  · rw [if_pos h0]
    have : isS g x = false := by
      unfold isS
      have : x.toInt < 0 := (fa_lt _ _).mp h0
      simp; omega
    rw [this]; rfl
  · rw [if_neg h0]
    obtain ⟨i, hi, rfl⟩ := nn_of h0
    simp (disch := first | assumption | omega) only [Option.bind_some, Option.map_some, xw_gR, xw_gN, xw_al, xw_ck, xw_uI, xw_ur, xup_at, xur_at, if_true, if_false, reduceIte, and_true, true_and, and_false, false_and, not_true_eq_false, not_false_eq_true, Nat.reduceEqDiff, eq_self, Nat.reduceAdd, Nat.reduceMul, kC1, kG1, kP1, kR1_0, kR1_1, kR1_2, kR1_3, kR1_4, kR1_5, kR1_6, kR1_7, kR1_8, kR1_9, kR1_10, kR1_11, kR1_12, kR1_13, kC2, kG2, kP2, kR2_0, kR2_1, kC3, kG3, kP3, kR3_0, kR3_1, kR3_2, kR3_3, kL4, kA4, kS4, kL5, kA5, kS5, kL6, kA6, kS6, kL7, kA7, kS7, kC8, kG8, kP8, kR8_0, kR8_1, kL9, kA9, kS9, kL10, kA10, kS10, kC11, kG11, kP11, kR11_0, kR11_1, kR11_2, kR11_3, kL12, kA12, kS12, kL13, kA13, kS13, kL14, kA14, kS14, kL15, kA15, kS15, kC16, kG16, kP16, kR16_0, kR16_1, kL17, kA17, kS17, kL18, kA18, kS18, kC19, kG19, kP19, kR19_0, kL20, kL141, kL146, kA146, kS146, kL151, kA151, kS151, kL156, kA156, kS156, kC157, kG157, kP157, kR157_0, kR157_1, kL158, kA158, kS158, kL159, kA159, kS159, kC161, kG161, kP161, kR161_0, kR161_1, kL162, kA162, kS162, kL163, kA163, kS163, kC165, kG165, kP165, kR165_0, kR165_1, kR165_2, kR165_3, kL166, kA166, kS166, kL167, kA167, kS167, kL168, kA168, kS168, kL169, kA169, kS169, kC170, kG170, kP170, kR170_0, kR170_1, kR170_2, kL171, kA171, kS171, kL172, kA172, kS172, kL173, kA173, kS173, kC174, kG174, kP174, kR174_0, kR174_1, kR174_2, kR174_3, kR174_4, kL175, kA175, kS175, kL176, kA176, kS176, kL177, kA177, kS177, kL178, kA178, kS178, kL179, kC180, kG180, kP180, kL181, kL182, kA182, kS182, kC183, kG183, kP183, kR183_1, kR183_3, kR183_5, kR183_6, kR183_7, kR183_8, kR183_9, kR183_21, kR183_26, kR183_27, kR183_30, kR183_31, kR183_33, kR183_34, kR183_36, kR183_37, kR183_38, kR183_39, kR183_40, kR183_41, kR183_42, kR183_43, kR183_44, kL184, kA184, kS184, kL185, kA185, kS185, kL186, kA186, kS186, kL187, kA187, kS187, kL188, kA188, kS188, kL189, kL190, kL191, kA191, kS191, kL192, kA192, kS192, kL193, kA193, kS193, kL194, kA194, kS194, kL195, kA195, kS195, kL196, kA196, kS196, kL197, kA197, kS197, kL198, kA198, kS198, kL199, kA199, kS199, kL200, kA200, kS200, kL201, kL202, kA202, kS202, kL203, kA203, kS203, kL204, kA204, kS204, kL205, kL206, kA206, kS206, hG.2.2.2.2.1]
    have e : (nI (gSz g) ≤ nI i) = (gSz g ≤ i) := nn_le (by omega) hi
    unfold isS
    rw [nI_toInt hi]
    simp only [e]
    by_cases hq : gSz g ≤ i
    · rw [if_pos hq]
      have : ¬ ((i : Int) < (gSz g : Int)) := by omega
      simp [this]
    · rw [if_neg hq]
      have : ((i : Int) < (gSz g : Int)) := by omega
      simp [this]
theorem sites_ok (hS : Shp σ) (hG : GRD I g) : f_X12_sites (xw σ I) 183 = some (nI (gSz g)) := by
  unfold f_X12_sites
  simp (disch := first | assumption | omega) only [Option.bind_some, Option.map_some, xw_gR, xw_gN, xw_al, xw_ck, xw_uI, xw_ur, xup_at, xur_at, if_true, if_false, reduceIte, and_true, true_and, and_false, false_and, not_true_eq_false, not_false_eq_true, Nat.reduceEqDiff, eq_self, Nat.reduceAdd, Nat.reduceMul, kC1, kG1, kP1, kR1_0, kR1_1, kR1_2, kR1_3, kR1_4, kR1_5, kR1_6, kR1_7, kR1_8, kR1_9, kR1_10, kR1_11, kR1_12, kR1_13, kC2, kG2, kP2, kR2_0, kR2_1, kC3, kG3, kP3, kR3_0, kR3_1, kR3_2, kR3_3, kL4, kA4, kS4, kL5, kA5, kS5, kL6, kA6, kS6, kL7, kA7, kS7, kC8, kG8, kP8, kR8_0, kR8_1, kL9, kA9, kS9, kL10, kA10, kS10, kC11, kG11, kP11, kR11_0, kR11_1, kR11_2, kR11_3, kL12, kA12, kS12, kL13, kA13, kS13, kL14, kA14, kS14, kL15, kA15, kS15, kC16, kG16, kP16, kR16_0, kR16_1, kL17, kA17, kS17, kL18, kA18, kS18, kC19, kG19, kP19, kR19_0, kL20, kL141, kL146, kA146, kS146, kL151, kA151, kS151, kL156, kA156, kS156, kC157, kG157, kP157, kR157_0, kR157_1, kL158, kA158, kS158, kL159, kA159, kS159, kC161, kG161, kP161, kR161_0, kR161_1, kL162, kA162, kS162, kL163, kA163, kS163, kC165, kG165, kP165, kR165_0, kR165_1, kR165_2, kR165_3, kL166, kA166, kS166, kL167, kA167, kS167, kL168, kA168, kS168, kL169, kA169, kS169, kC170, kG170, kP170, kR170_0, kR170_1, kR170_2, kL171, kA171, kS171, kL172, kA172, kS172, kL173, kA173, kS173, kC174, kG174, kP174, kR174_0, kR174_1, kR174_2, kR174_3, kR174_4, kL175, kA175, kS175, kL176, kA176, kS176, kL177, kA177, kS177, kL178, kA178, kS178, kL179, kC180, kG180, kP180, kL181, kL182, kA182, kS182, kC183, kG183, kP183, kR183_1, kR183_3, kR183_5, kR183_6, kR183_7, kR183_8, kR183_9, kR183_21, kR183_26, kR183_27, kR183_30, kR183_31, kR183_33, kR183_34, kR183_36, kR183_37, kR183_38, kR183_39, kR183_40, kR183_41, kR183_42, kR183_43, kR183_44, kL184, kA184, kS184, kL185, kA185, kS185, kL186, kA186, kS186, kL187, kA187, kS187, kL188, kA188, kS188, kL189, kL190, kL191, kA191, kS191, kL192, kA192, kS192, kL193, kA193, kS193, kL194, kA194, kS194, kL195, kA195, kS195, kL196, kA196, kS196, kL197, kA197, kS197, kL198, kA198, kS198, kL199, kA199, kS199, kL200, kA200, kS200, kL201, kL202, kA202, kS202, kL203, kA203, kS203, kL204, kA204, kS204, kL205, kL206, kA206, kS206, hG.2.2.2.2.2.2.2.2.1, hG.2.2.2.2.2.2.2.2.2.1, nn_mul]
  rfl
theorem isSite_ok (hS : Shp σ) (hG : GRD I g) (x : Int32) : f_X12_isSite (xw σ I) 183 x = some (if isS g x then 1 else 0) := by
  have h16 := (gAll_b g hG.1).2.2.1
  unfold f_X12_isSite
  simp (disch := first | assumption | omega) only [Option.bind_some, Option.map_some, xw_gR, xw_gN, xw_al, xw_ck, xw_uI, xw_ur, xup_at, xur_at, if_true, if_false, reduceIte, and_true, true_and, and_false, false_and, not_true_eq_false, not_false_eq_true, Nat.reduceEqDiff, eq_self, Nat.reduceAdd, Nat.reduceMul, kC1, kG1, kP1, kR1_0, kR1_1, kR1_2, kR1_3, kR1_4, kR1_5, kR1_6, kR1_7, kR1_8, kR1_9, kR1_10, kR1_11, kR1_12, kR1_13, kC2, kG2, kP2, kR2_0, kR2_1, kC3, kG3, kP3, kR3_0, kR3_1, kR3_2, kR3_3, kL4, kA4, kS4, kL5, kA5, kS5, kL6, kA6, kS6, kL7, kA7, kS7, kC8, kG8, kP8, kR8_0, kR8_1, kL9, kA9, kS9, kL10, kA10, kS10, kC11, kG11, kP11, kR11_0, kR11_1, kR11_2, kR11_3, kL12, kA12, kS12, kL13, kA13, kS13, kL14, kA14, kS14, kL15, kA15, kS15, kC16, kG16, kP16, kR16_0, kR16_1, kL17, kA17, kS17, kL18, kA18, kS18, kC19, kG19, kP19, kR19_0, kL20, kL141, kL146, kA146, kS146, kL151, kA151, kS151, kL156, kA156, kS156, kC157, kG157, kP157, kR157_0, kR157_1, kL158, kA158, kS158, kL159, kA159, kS159, kC161, kG161, kP161, kR161_0, kR161_1, kL162, kA162, kS162, kL163, kA163, kS163, kC165, kG165, kP165, kR165_0, kR165_1, kR165_2, kR165_3, kL166, kA166, kS166, kL167, kA167, kS167, kL168, kA168, kS168, kL169, kA169, kS169, kC170, kG170, kP170, kR170_0, kR170_1, kR170_2, kL171, kA171, kS171, kL172, kA172, kS172, kL173, kA173, kS173, kC174, kG174, kP174, kR174_0, kR174_1, kR174_2, kR174_3, kR174_4, kL175, kA175, kS175, kL176, kA176, kS176, kL177, kA177, kS177, kL178, kA178, kS178, kL179, kC180, kG180, kP180, kL181, kL182, kA182, kS182, kC183, kG183, kP183, kR183_1, kR183_3, kR183_5, kR183_6, kR183_7, kR183_8, kR183_9, kR183_21, kR183_26, kR183_27, kR183_30, kR183_31, kR183_33, kR183_34, kR183_36, kR183_37, kR183_38, kR183_39, kR183_40, kR183_41, kR183_42, kR183_43, kR183_44, kL184, kA184, kS184, kL185, kA185, kS185, kL186, kA186, kS186, kL187, kA187, kS187, kL188, kA188, kS188, kL189, kL190, kL191, kA191, kS191, kL192, kA192, kS192, kL193, kA193, kS193, kL194, kA194, kS194, kL195, kA195, kS195, kL196, kA196, kS196, kL197, kA197, kS197, kL198, kA198, kS198, kL199, kA199, kS199, kL200, kA200, kS200, kL201, kL202, kA202, kS202, kL203, kA203, kS203, kL204, kA204, kS204, kL205, kL206, kA206, kS206, sites_ok hS hG]
  unfold f_X12_in
  have e : nI (gSz g) - 1 = iI ((gSz g : Int) - 1) := by rw [iI_n, show (1 : Int32) = iI 1 from rfl, iI_sub]
  have hr := x.toInt_lt
  have hl := x.le_toInt
  have c1 : (x < 0) = (x.toInt < 0) := propext (fa_lt _ _)
  have c2 : (iI ((gSz g : Int) - 1) < x) = ((gSz g : Int) - 1 < x.toInt) := by
    rw [fa_lt, iI_ti (by omega) (by omega)]
  unfold isS
  simp only [e, c1, c2]
  by_cases h1 : x.toInt < 0
  · have : ¬ (0 ≤ x.toInt) := by omega
    simp [h1, this, xbz]
  · by_cases h2 : (gSz g : Int) - 1 < x.toInt
    · have a : ¬ (x.toInt < (gSz g : Int)) := by omega
      simp [h1, h2, a, xbz]
    · have a : (x.toInt < (gSz g : Int)) := by omega
      have b : 0 ≤ x.toInt := by omega
      simp [h1, h2, a, b, xbz]
theorem endAt_ok (hS : Shp σ) (hG : GRD I g) {t : Nat} (ht : t < 32) : f_X3_endAt (xw σ I) 11 (nI t) = some (oI (gTo g t)) := by
  unfold f_X3_endAt
  simp (disch := first | assumption | omega) only [Option.bind_some, Option.map_some, xw_gR, xw_gN, xw_al, xw_ck, xw_uI, xw_ur, xup_at, xur_at, if_true, if_false, reduceIte, and_true, true_and, and_false, false_and, not_true_eq_false, not_false_eq_true, Nat.reduceEqDiff, eq_self, Nat.reduceAdd, Nat.reduceMul, kC1, kG1, kP1, kR1_0, kR1_1, kR1_2, kR1_3, kR1_4, kR1_5, kR1_6, kR1_7, kR1_8, kR1_9, kR1_10, kR1_11, kR1_12, kR1_13, kC2, kG2, kP2, kR2_0, kR2_1, kC3, kG3, kP3, kR3_0, kR3_1, kR3_2, kR3_3, kL4, kA4, kS4, kL5, kA5, kS5, kL6, kA6, kS6, kL7, kA7, kS7, kC8, kG8, kP8, kR8_0, kR8_1, kL9, kA9, kS9, kL10, kA10, kS10, kC11, kG11, kP11, kR11_0, kR11_1, kR11_2, kR11_3, kL12, kA12, kS12, kL13, kA13, kS13, kL14, kA14, kS14, kL15, kA15, kS15, kC16, kG16, kP16, kR16_0, kR16_1, kL17, kA17, kS17, kL18, kA18, kS18, kC19, kG19, kP19, kR19_0, kL20, kL141, kL146, kA146, kS146, kL151, kA151, kS151, kL156, kA156, kS156, kC157, kG157, kP157, kR157_0, kR157_1, kL158, kA158, kS158, kL159, kA159, kS159, kC161, kG161, kP161, kR161_0, kR161_1, kL162, kA162, kS162, kL163, kA163, kS163, kC165, kG165, kP165, kR165_0, kR165_1, kR165_2, kR165_3, kL166, kA166, kS166, kL167, kA167, kS167, kL168, kA168, kS168, kL169, kA169, kS169, kC170, kG170, kP170, kR170_0, kR170_1, kR170_2, kL171, kA171, kS171, kL172, kA172, kS172, kL173, kA173, kS173, kC174, kG174, kP174, kR174_0, kR174_1, kR174_2, kR174_3, kR174_4, kL175, kA175, kS175, kL176, kA176, kS176, kL177, kA177, kS177, kL178, kA178, kS178, kL179, kC180, kG180, kP180, kL181, kL182, kA182, kS182, kC183, kG183, kP183, kR183_1, kR183_3, kR183_5, kR183_6, kR183_7, kR183_8, kR183_9, kR183_21, kR183_26, kR183_27, kR183_30, kR183_31, kR183_33, kR183_34, kR183_36, kR183_37, kR183_38, kR183_39, kR183_40, kR183_41, kR183_42, kR183_43, kR183_44, kL184, kA184, kS184, kL185, kA185, kS185, kL186, kA186, kS186, kL187, kA187, kS187, kL188, kA188, kS188, kL189, kL190, kL191, kA191, kS191, kL192, kA192, kS192, kL193, kA193, kS193, kL194, kA194, kS194, kL195, kA195, kS195, kL196, kA196, kS196, kL197, kA197, kS197, kL198, kA198, kS198, kL199, kA199, kS199, kL200, kA200, kS200, kL201, kL202, kA202, kS202, kL203, kA203, kS203, kL204, kA204, kS204, kL205, kL206, kA206, kS206, nn_nneg, nn_le, hG.2.2.2.2.2.1 t ht, show ¬ (32 ≤ t) by omega]
theorem tieTo_ok (hS : Shp σ) (hG : GRD I g) {i b : Nat} (hb : b < 2) (hi : i < gSz g) : f_X12_tieTo (xw σ I) 183 (nI i) (nI b) = some (oI (gTo g (i + 16 * b))) := by
  have h16 := (gAll_b g hG.1).2.2.1
  have := leads_ok g hG.1 b hb i (by omega) hi
  unfold f_X12_tieTo f_X12_tieTo_j25
  rcases (show b = 0 ∨ b = 1 by omega) with rfl | rfl
  · rw [if_pos rfl] at this
    simp (disch := first | assumption | omega) only [Option.bind_some, Option.map_some, xw_gR, xw_gN, xw_al, xw_ck, xw_uI, xw_ur, xup_at, xur_at, if_true, if_false, reduceIte, and_true, true_and, and_false, false_and, not_true_eq_false, not_false_eq_true, Nat.reduceEqDiff, eq_self, Nat.reduceAdd, Nat.reduceMul, kC1, kG1, kP1, kR1_0, kR1_1, kR1_2, kR1_3, kR1_4, kR1_5, kR1_6, kR1_7, kR1_8, kR1_9, kR1_10, kR1_11, kR1_12, kR1_13, kC2, kG2, kP2, kR2_0, kR2_1, kC3, kG3, kP3, kR3_0, kR3_1, kR3_2, kR3_3, kL4, kA4, kS4, kL5, kA5, kS5, kL6, kA6, kS6, kL7, kA7, kS7, kC8, kG8, kP8, kR8_0, kR8_1, kL9, kA9, kS9, kL10, kA10, kS10, kC11, kG11, kP11, kR11_0, kR11_1, kR11_2, kR11_3, kL12, kA12, kS12, kL13, kA13, kS13, kL14, kA14, kS14, kL15, kA15, kS15, kC16, kG16, kP16, kR16_0, kR16_1, kL17, kA17, kS17, kL18, kA18, kS18, kC19, kG19, kP19, kR19_0, kL20, kL141, kL146, kA146, kS146, kL151, kA151, kS151, kL156, kA156, kS156, kC157, kG157, kP157, kR157_0, kR157_1, kL158, kA158, kS158, kL159, kA159, kS159, kC161, kG161, kP161, kR161_0, kR161_1, kL162, kA162, kS162, kL163, kA163, kS163, kC165, kG165, kP165, kR165_0, kR165_1, kR165_2, kR165_3, kL166, kA166, kS166, kL167, kA167, kS167, kL168, kA168, kS168, kL169, kA169, kS169, kC170, kG170, kP170, kR170_0, kR170_1, kR170_2, kL171, kA171, kS171, kL172, kA172, kS172, kL173, kA173, kS173, kC174, kG174, kP174, kR174_0, kR174_1, kR174_2, kR174_3, kR174_4, kL175, kA175, kS175, kL176, kA176, kS176, kL177, kA177, kS177, kL178, kA178, kS178, kL179, kC180, kG180, kP180, kL181, kL182, kA182, kS182, kC183, kG183, kP183, kR183_1, kR183_3, kR183_5, kR183_6, kR183_7, kR183_8, kR183_9, kR183_21, kR183_26, kR183_27, kR183_30, kR183_31, kR183_33, kR183_34, kR183_36, kR183_37, kR183_38, kR183_39, kR183_40, kR183_41, kR183_42, kR183_43, kR183_44, kL184, kA184, kS184, kL185, kA185, kS185, kL186, kA186, kS186, kL187, kA187, kS187, kL188, kA188, kS188, kL189, kL190, kL191, kA191, kS191, kL192, kA192, kS192, kL193, kA193, kS193, kL194, kA194, kS194, kL195, kA195, kS195, kL196, kA196, kS196, kL197, kA197, kS197, kL198, kA198, kS198, kL199, kA199, kS199, kL200, kA200, kS200, kL201, kL202, kA202, kS202, kL203, kA203, kS203, kL204, kA204, kS204, kL205, kL206, kA206, kS206, hG.2.2.2.2.2.2.2.2.1, hG.2.2.2.2.2.2.2.2.2.1, hG.2.2.2.2.2.2.2.2.2.2.1, show (nI 0 = 0) = True from eq_true rfl, this]
  · rw [if_neg (by decide)] at this
    simp (disch := first | assumption | omega) only [Option.bind_some, Option.map_some, xw_gR, xw_gN, xw_al, xw_ck, xw_uI, xw_ur, xup_at, xur_at, if_true, if_false, reduceIte, and_true, true_and, and_false, false_and, not_true_eq_false, not_false_eq_true, Nat.reduceEqDiff, eq_self, Nat.reduceAdd, Nat.reduceMul, kC1, kG1, kP1, kR1_0, kR1_1, kR1_2, kR1_3, kR1_4, kR1_5, kR1_6, kR1_7, kR1_8, kR1_9, kR1_10, kR1_11, kR1_12, kR1_13, kC2, kG2, kP2, kR2_0, kR2_1, kC3, kG3, kP3, kR3_0, kR3_1, kR3_2, kR3_3, kL4, kA4, kS4, kL5, kA5, kS5, kL6, kA6, kS6, kL7, kA7, kS7, kC8, kG8, kP8, kR8_0, kR8_1, kL9, kA9, kS9, kL10, kA10, kS10, kC11, kG11, kP11, kR11_0, kR11_1, kR11_2, kR11_3, kL12, kA12, kS12, kL13, kA13, kS13, kL14, kA14, kS14, kL15, kA15, kS15, kC16, kG16, kP16, kR16_0, kR16_1, kL17, kA17, kS17, kL18, kA18, kS18, kC19, kG19, kP19, kR19_0, kL20, kL141, kL146, kA146, kS146, kL151, kA151, kS151, kL156, kA156, kS156, kC157, kG157, kP157, kR157_0, kR157_1, kL158, kA158, kS158, kL159, kA159, kS159, kC161, kG161, kP161, kR161_0, kR161_1, kL162, kA162, kS162, kL163, kA163, kS163, kC165, kG165, kP165, kR165_0, kR165_1, kR165_2, kR165_3, kL166, kA166, kS166, kL167, kA167, kS167, kL168, kA168, kS168, kL169, kA169, kS169, kC170, kG170, kP170, kR170_0, kR170_1, kR170_2, kL171, kA171, kS171, kL172, kA172, kS172, kL173, kA173, kS173, kC174, kG174, kP174, kR174_0, kR174_1, kR174_2, kR174_3, kR174_4, kL175, kA175, kS175, kL176, kA176, kS176, kL177, kA177, kS177, kL178, kA178, kS178, kL179, kC180, kG180, kP180, kL181, kL182, kA182, kS182, kC183, kG183, kP183, kR183_1, kR183_3, kR183_5, kR183_6, kR183_7, kR183_8, kR183_9, kR183_21, kR183_26, kR183_27, kR183_30, kR183_31, kR183_33, kR183_34, kR183_36, kR183_37, kR183_38, kR183_39, kR183_40, kR183_41, kR183_42, kR183_43, kR183_44, kL184, kA184, kS184, kL185, kA185, kS185, kL186, kA186, kS186, kL187, kA187, kS187, kL188, kA188, kS188, kL189, kL190, kL191, kA191, kS191, kL192, kA192, kS192, kL193, kA193, kS193, kL194, kA194, kS194, kL195, kA195, kS195, kL196, kA196, kS196, kL197, kA197, kS197, kL198, kA198, kS198, kL199, kA199, kS199, kL200, kA200, kS200, kL201, kL202, kA202, kS202, kL203, kA203, kS203, kL204, kA204, kS204, kL205, kL206, kA206, kS206, hG.2.2.2.2.2.2.2.2.1, hG.2.2.2.2.2.2.2.2.2.1, hG.2.2.2.2.2.2.2.2.2.2.2.1, show (nI 1 = 0) = False from eq_false (by decide), this]
theorem tiePlace_ok (hS : Shp σ) (hG : GRD I g) {i b : Nat} (hb : b < 2) (hi : i < gSz g) : f_X3_tiePlace (xw σ I) 11 (nI i) (nI b) = some (if gTo g (i + 16 * b) = none then -1 else nI (i + 16 * b)) := by
  have h16 := (gAll_b g hG.1).2.2.1
  unfold f_X3_tiePlace f_X3_tiePlace_j22
  simp (disch := first | assumption | omega) only [Option.bind_some, Option.map_some, xw_gR, xw_gN, xw_al, xw_ck, xw_uI, xw_ur, xup_at, xur_at, if_true, if_false, reduceIte, and_true, true_and, and_false, false_and, not_true_eq_false, not_false_eq_true, Nat.reduceEqDiff, eq_self, Nat.reduceAdd, Nat.reduceMul, kC1, kG1, kP1, kR1_0, kR1_1, kR1_2, kR1_3, kR1_4, kR1_5, kR1_6, kR1_7, kR1_8, kR1_9, kR1_10, kR1_11, kR1_12, kR1_13, kC2, kG2, kP2, kR2_0, kR2_1, kC3, kG3, kP3, kR3_0, kR3_1, kR3_2, kR3_3, kL4, kA4, kS4, kL5, kA5, kS5, kL6, kA6, kS6, kL7, kA7, kS7, kC8, kG8, kP8, kR8_0, kR8_1, kL9, kA9, kS9, kL10, kA10, kS10, kC11, kG11, kP11, kR11_0, kR11_1, kR11_2, kR11_3, kL12, kA12, kS12, kL13, kA13, kS13, kL14, kA14, kS14, kL15, kA15, kS15, kC16, kG16, kP16, kR16_0, kR16_1, kL17, kA17, kS17, kL18, kA18, kS18, kC19, kG19, kP19, kR19_0, kL20, kL141, kL146, kA146, kS146, kL151, kA151, kS151, kL156, kA156, kS156, kC157, kG157, kP157, kR157_0, kR157_1, kL158, kA158, kS158, kL159, kA159, kS159, kC161, kG161, kP161, kR161_0, kR161_1, kL162, kA162, kS162, kL163, kA163, kS163, kC165, kG165, kP165, kR165_0, kR165_1, kR165_2, kR165_3, kL166, kA166, kS166, kL167, kA167, kS167, kL168, kA168, kS168, kL169, kA169, kS169, kC170, kG170, kP170, kR170_0, kR170_1, kR170_2, kL171, kA171, kS171, kL172, kA172, kS172, kL173, kA173, kS173, kC174, kG174, kP174, kR174_0, kR174_1, kR174_2, kR174_3, kR174_4, kL175, kA175, kS175, kL176, kA176, kS176, kL177, kA177, kS177, kL178, kA178, kS178, kL179, kC180, kG180, kP180, kL181, kL182, kA182, kS182, kC183, kG183, kP183, kR183_1, kR183_3, kR183_5, kR183_6, kR183_7, kR183_8, kR183_9, kR183_21, kR183_26, kR183_27, kR183_30, kR183_31, kR183_33, kR183_34, kR183_36, kR183_37, kR183_38, kR183_39, kR183_40, kR183_41, kR183_42, kR183_43, kR183_44, kL184, kA184, kS184, kL185, kA185, kS185, kL186, kA186, kS186, kL187, kA187, kS187, kL188, kA188, kS188, kL189, kL190, kL191, kA191, kS191, kL192, kA192, kS192, kL193, kA193, kS193, kL194, kA194, kS194, kL195, kA195, kS195, kL196, kA196, kS196, kL197, kA197, kS197, kL198, kA198, kS198, kL199, kA199, kS199, kL200, kA200, kS200, kL201, kL202, kA202, kS202, kL203, kA203, kS203, kL204, kA204, kS204, kL205, kL206, kA206, kS206, hasSite_ok hS hG, isS_n hG.1 hi]
  rw [if_neg (by decide)]
  rcases (show b = 0 ∨ b = 1 by omega) with rfl | rfl
  · rw [if_pos (show nI 0 = 0 from rfl), endAt_ok hS hG (by omega)]
    simp (disch := first | assumption | omega) only [Option.bind_some, Option.map_some, xw_gR, xw_gN, xw_al, xw_ck, xw_uI, xw_ur, xup_at, xur_at, if_true, if_false, reduceIte, and_true, true_and, and_false, false_and, not_true_eq_false, not_false_eq_true, Nat.reduceEqDiff, eq_self, Nat.reduceAdd, Nat.reduceMul, kC1, kG1, kP1, kR1_0, kR1_1, kR1_2, kR1_3, kR1_4, kR1_5, kR1_6, kR1_7, kR1_8, kR1_9, kR1_10, kR1_11, kR1_12, kR1_13, kC2, kG2, kP2, kR2_0, kR2_1, kC3, kG3, kP3, kR3_0, kR3_1, kR3_2, kR3_3, kL4, kA4, kS4, kL5, kA5, kS5, kL6, kA6, kS6, kL7, kA7, kS7, kC8, kG8, kP8, kR8_0, kR8_1, kL9, kA9, kS9, kL10, kA10, kS10, kC11, kG11, kP11, kR11_0, kR11_1, kR11_2, kR11_3, kL12, kA12, kS12, kL13, kA13, kS13, kL14, kA14, kS14, kL15, kA15, kS15, kC16, kG16, kP16, kR16_0, kR16_1, kL17, kA17, kS17, kL18, kA18, kS18, kC19, kG19, kP19, kR19_0, kL20, kL141, kL146, kA146, kS146, kL151, kA151, kS151, kL156, kA156, kS156, kC157, kG157, kP157, kR157_0, kR157_1, kL158, kA158, kS158, kL159, kA159, kS159, kC161, kG161, kP161, kR161_0, kR161_1, kL162, kA162, kS162, kL163, kA163, kS163, kC165, kG165, kP165, kR165_0, kR165_1, kR165_2, kR165_3, kL166, kA166, kS166, kL167, kA167, kS167, kL168, kA168, kS168, kL169, kA169, kS169, kC170, kG170, kP170, kR170_0, kR170_1, kR170_2, kL171, kA171, kS171, kL172, kA172, kS172, kL173, kA173, kS173, kC174, kG174, kP174, kR174_0, kR174_1, kR174_2, kR174_3, kR174_4, kL175, kA175, kS175, kL176, kA176, kS176, kL177, kA177, kS177, kL178, kA178, kS178, kL179, kC180, kG180, kP180, kL181, kL182, kA182, kS182, kC183, kG183, kP183, kR183_1, kR183_3, kR183_5, kR183_6, kR183_7, kR183_8, kR183_9, kR183_21, kR183_26, kR183_27, kR183_30, kR183_31, kR183_33, kR183_34, kR183_36, kR183_37, kR183_38, kR183_39, kR183_40, kR183_41, kR183_42, kR183_43, kR183_44, kL184, kA184, kS184, kL185, kA185, kS185, kL186, kA186, kS186, kL187, kA187, kS187, kL188, kA188, kS188, kL189, kL190, kL191, kA191, kS191, kL192, kA192, kS192, kL193, kA193, kS193, kL194, kA194, kS194, kL195, kA195, kS195, kL196, kA196, kS196, kL197, kA197, kS197, kL198, kA198, kS198, kL199, kA199, kS199, kL200, kA200, kS200, kL201, kL202, kA202, kS202, kL203, kA203, kS203, kL204, kA204, kS204, kL205, kL206, kA206, kS206, oI_none (gTo_s hG.1 (show i < 32 by omega))]
    split <;> simp [*]
  · rw [if_neg (by decide), show (16 : Int32) = nI 16 from rfl, nn_add, Nat.add_comm 16 i, endAt_ok hS hG (by omega)]
    simp (disch := first | assumption | omega) only [Option.bind_some, Option.map_some, xw_gR, xw_gN, xw_al, xw_ck, xw_uI, xw_ur, xup_at, xur_at, if_true, if_false, reduceIte, and_true, true_and, and_false, false_and, not_true_eq_false, not_false_eq_true, Nat.reduceEqDiff, eq_self, Nat.reduceAdd, Nat.reduceMul, kC1, kG1, kP1, kR1_0, kR1_1, kR1_2, kR1_3, kR1_4, kR1_5, kR1_6, kR1_7, kR1_8, kR1_9, kR1_10, kR1_11, kR1_12, kR1_13, kC2, kG2, kP2, kR2_0, kR2_1, kC3, kG3, kP3, kR3_0, kR3_1, kR3_2, kR3_3, kL4, kA4, kS4, kL5, kA5, kS5, kL6, kA6, kS6, kL7, kA7, kS7, kC8, kG8, kP8, kR8_0, kR8_1, kL9, kA9, kS9, kL10, kA10, kS10, kC11, kG11, kP11, kR11_0, kR11_1, kR11_2, kR11_3, kL12, kA12, kS12, kL13, kA13, kS13, kL14, kA14, kS14, kL15, kA15, kS15, kC16, kG16, kP16, kR16_0, kR16_1, kL17, kA17, kS17, kL18, kA18, kS18, kC19, kG19, kP19, kR19_0, kL20, kL141, kL146, kA146, kS146, kL151, kA151, kS151, kL156, kA156, kS156, kC157, kG157, kP157, kR157_0, kR157_1, kL158, kA158, kS158, kL159, kA159, kS159, kC161, kG161, kP161, kR161_0, kR161_1, kL162, kA162, kS162, kL163, kA163, kS163, kC165, kG165, kP165, kR165_0, kR165_1, kR165_2, kR165_3, kL166, kA166, kS166, kL167, kA167, kS167, kL168, kA168, kS168, kL169, kA169, kS169, kC170, kG170, kP170, kR170_0, kR170_1, kR170_2, kL171, kA171, kS171, kL172, kA172, kS172, kL173, kA173, kS173, kC174, kG174, kP174, kR174_0, kR174_1, kR174_2, kR174_3, kR174_4, kL175, kA175, kS175, kL176, kA176, kS176, kL177, kA177, kS177, kL178, kA178, kS178, kL179, kC180, kG180, kP180, kL181, kL182, kA182, kS182, kC183, kG183, kP183, kR183_1, kR183_3, kR183_5, kR183_6, kR183_7, kR183_8, kR183_9, kR183_21, kR183_26, kR183_27, kR183_30, kR183_31, kR183_33, kR183_34, kR183_36, kR183_37, kR183_38, kR183_39, kR183_40, kR183_41, kR183_42, kR183_43, kR183_44, kL184, kA184, kS184, kL185, kA185, kS185, kL186, kA186, kS186, kL187, kA187, kS187, kL188, kA188, kS188, kL189, kL190, kL191, kA191, kS191, kL192, kA192, kS192, kL193, kA193, kS193, kL194, kA194, kS194, kL195, kA195, kS195, kL196, kA196, kS196, kL197, kA197, kS197, kL198, kA198, kS198, kL199, kA199, kS199, kL200, kA200, kS200, kL201, kL202, kA202, kS202, kL203, kA203, kS203, kL204, kA204, kS204, kL205, kL206, kA206, kS206, oI_none (gTo_s hG.1 (show i + 16 < 32 by omega))]
    split <;> simp [*]
theorem bondAt_ok (hS : Shp σ) {a t : Nat} (ha : a ∈ suA) (ht : t < 32) : f_X6_bondAt (xw σ I) a (nI t) = some (I (a + 1) t) := by
  unfold f_X6_bondAt
  simp (disch := first | assumption | omega) only [Option.bind_some, Option.map_some, xw_gR, xw_gN, xw_al, xw_ck, xw_uI, xw_ur, xup_at, xur_at, if_true, if_false, reduceIte, and_true, true_and, and_false, false_and, not_true_eq_false, not_false_eq_true, Nat.reduceEqDiff, eq_self, Nat.reduceAdd, Nat.reduceMul, nn_nneg, suR0 hS ha, suL1 hS ha, nn_le, suA1 hS ha ht, show ¬ (32 ≤ t) by omega]
theorem fieldAt_ok (hS : Shp σ) {a t : Nat} (ha : a ∈ suA) (ht : t < 16) : f_X6_fieldAt (xw σ I) a (nI t) = some (I (a + 2) t) := by
  unfold f_X6_fieldAt
  simp (disch := first | assumption | omega) only [Option.bind_some, Option.map_some, xw_gR, xw_gN, xw_al, xw_ck, xw_uI, xw_ur, xup_at, xur_at, if_true, if_false, reduceIte, and_true, true_and, and_false, false_and, not_true_eq_false, not_false_eq_true, Nat.reduceEqDiff, eq_self, Nat.reduceAdd, Nat.reduceMul, nn_nneg, suR1 hS ha, suL2 hS ha, nn_le, suA2 hS ha ht, show ¬ (16 ≤ t) by omega]
theorem setBond_ok (hS : Shp σ) {a t : Nat} (ha : a ∈ suA) (ht : t < 32) (v : Int32) : f_X6_setBond (xw σ I) a (nI t) v = some (xw σ (xup I (a + 1) t v)) := by
  unfold f_X6_setBond
  simp (disch := first | assumption | omega) only [Option.bind_some, Option.map_some, xw_gR, xw_gN, xw_al, xw_ck, xw_uI, xw_ur, xup_at, xur_at, if_true, if_false, reduceIte, and_true, true_and, and_false, false_and, not_true_eq_false, not_false_eq_true, Nat.reduceEqDiff, eq_self, Nat.reduceAdd, Nat.reduceMul, nn_nneg, suR0 hS ha, suL1 hS ha, nn_le, suS1 hS ha ht, show ¬ (32 ≤ t) by omega]
theorem setField_ok (hS : Shp σ) {a t : Nat} (ha : a ∈ suA) (ht : t < 16) (v : Int32) : f_X6_setField (xw σ I) a (nI t) v = some (xw σ (xup I (a + 2) t v)) := by
  unfold f_X6_setField
  simp (disch := first | assumption | omega) only [Option.bind_some, Option.map_some, xw_gR, xw_gN, xw_al, xw_ck, xw_uI, xw_ur, xup_at, xur_at, if_true, if_false, reduceIte, and_true, true_and, and_false, false_and, not_true_eq_false, not_false_eq_true, Nat.reduceEqDiff, eq_self, Nat.reduceAdd, Nat.reduceMul, nn_nneg, suR1 hS ha, suL2 hS ha, nn_le, suS2 hS ha ht, show ¬ (16 ≤ t) by omega]
theorem isPinned_ok (hS : Shp σ) {a t p : Nat} (ha : a ∈ suA) (hp : I a 2 = nI p) (hp2 : p < 65536) (ht : t < 32) : f_X6_isPinned (xw σ I) a (nI t) = some (nI (if p.testBit t then 1 else 0)) := by
  unfold f_X6_isPinned f_X11_bitOf
  simp (disch := first | assumption | omega) only [Option.bind_some, Option.map_some, xw_gR, xw_gN, xw_al, xw_ck, xw_uI, xw_ur, xup_at, xur_at, if_true, if_false, reduceIte, and_true, true_and, and_false, false_and, not_true_eq_false, not_false_eq_true, Nat.reduceEqDiff, eq_self, Nat.reduceAdd, Nat.reduceMul, suG hS ha, hp]
  rw [nn_bit (by omega) ht]
  cases p.testBit t <;> simp <;> decide
theorem stampTies_ok (hS : Shp σ) {st : Nat} (h : I 1 15 = nI st) : f_X11_stampTies (xw σ I) 1 = some (xw σ (xup (xup (xup I 1 15 (nI (st + 1))) 16 6 (nI (st + 1))) 16 7 (nI (st + 1)))) := by
  unfold f_X11_stampTies
  simp (disch := first | assumption | omega) only [Option.bind_some, Option.map_some, xw_gR, xw_gN, xw_al, xw_ck, xw_uI, xw_ur, xup_at, xur_at, if_true, if_false, reduceIte, and_true, true_and, and_false, false_and, not_true_eq_false, not_false_eq_true, Nat.reduceEqDiff, eq_self, Nat.reduceAdd, Nat.reduceMul, kC1, kG1, kP1, kR1_0, kR1_1, kR1_2, kR1_3, kR1_4, kR1_5, kR1_6, kR1_7, kR1_8, kR1_9, kR1_10, kR1_11, kR1_12, kR1_13, kC2, kG2, kP2, kR2_0, kR2_1, kC3, kG3, kP3, kR3_0, kR3_1, kR3_2, kR3_3, kL4, kA4, kS4, kL5, kA5, kS5, kL6, kA6, kS6, kL7, kA7, kS7, kC8, kG8, kP8, kR8_0, kR8_1, kL9, kA9, kS9, kL10, kA10, kS10, kC11, kG11, kP11, kR11_0, kR11_1, kR11_2, kR11_3, kL12, kA12, kS12, kL13, kA13, kS13, kL14, kA14, kS14, kL15, kA15, kS15, kC16, kG16, kP16, kR16_0, kR16_1, kL17, kA17, kS17, kL18, kA18, kS18, kC19, kG19, kP19, kR19_0, kL20, kL141, kL146, kA146, kS146, kL151, kA151, kS151, kL156, kA156, kS156, kC157, kG157, kP157, kR157_0, kR157_1, kL158, kA158, kS158, kL159, kA159, kS159, kC161, kG161, kP161, kR161_0, kR161_1, kL162, kA162, kS162, kL163, kA163, kS163, kC165, kG165, kP165, kR165_0, kR165_1, kR165_2, kR165_3, kL166, kA166, kS166, kL167, kA167, kS167, kL168, kA168, kS168, kL169, kA169, kS169, kC170, kG170, kP170, kR170_0, kR170_1, kR170_2, kL171, kA171, kS171, kL172, kA172, kS172, kL173, kA173, kS173, kC174, kG174, kP174, kR174_0, kR174_1, kR174_2, kR174_3, kR174_4, kL175, kA175, kS175, kL176, kA176, kS176, kL177, kA177, kS177, kL178, kA178, kS178, kL179, kC180, kG180, kP180, kL181, kL182, kA182, kS182, kC183, kG183, kP183, kR183_1, kR183_3, kR183_5, kR183_6, kR183_7, kR183_8, kR183_9, kR183_21, kR183_26, kR183_27, kR183_30, kR183_31, kR183_33, kR183_34, kR183_36, kR183_37, kR183_38, kR183_39, kR183_40, kR183_41, kR183_42, kR183_43, kR183_44, kL184, kA184, kS184, kL185, kA185, kS185, kL186, kA186, kS186, kL187, kA187, kS187, kL188, kA188, kS188, kL189, kL190, kL191, kA191, kS191, kL192, kA192, kS192, kL193, kA193, kS193, kL194, kA194, kS194, kL195, kA195, kS195, kL196, kA196, kS196, kL197, kA197, kS197, kL198, kA198, kS198, kL199, kA199, kS199, kL200, kA200, kS200, kL201, kL202, kA202, kS202, kL203, kA203, kS203, kL204, kA204, kS204, kL205, kL206, kA206, kS206, h, show (1 : Int32) = nI 1 from rfl, nn_add]
theorem stampPins_ok (hS : Shp σ) {st : Nat} (h : I 1 15 = nI st) : f_X11_stampPins (xw σ I) 1 = some (xw σ (xup (xup I 1 15 (nI (st + 1))) 16 7 (nI (st + 1)))) := by
  unfold f_X11_stampPins
  simp (disch := first | assumption | omega) only [Option.bind_some, Option.map_some, xw_gR, xw_gN, xw_al, xw_ck, xw_uI, xw_ur, xup_at, xur_at, if_true, if_false, reduceIte, and_true, true_and, and_false, false_and, not_true_eq_false, not_false_eq_true, Nat.reduceEqDiff, eq_self, Nat.reduceAdd, Nat.reduceMul, kC1, kG1, kP1, kR1_0, kR1_1, kR1_2, kR1_3, kR1_4, kR1_5, kR1_6, kR1_7, kR1_8, kR1_9, kR1_10, kR1_11, kR1_12, kR1_13, kC2, kG2, kP2, kR2_0, kR2_1, kC3, kG3, kP3, kR3_0, kR3_1, kR3_2, kR3_3, kL4, kA4, kS4, kL5, kA5, kS5, kL6, kA6, kS6, kL7, kA7, kS7, kC8, kG8, kP8, kR8_0, kR8_1, kL9, kA9, kS9, kL10, kA10, kS10, kC11, kG11, kP11, kR11_0, kR11_1, kR11_2, kR11_3, kL12, kA12, kS12, kL13, kA13, kS13, kL14, kA14, kS14, kL15, kA15, kS15, kC16, kG16, kP16, kR16_0, kR16_1, kL17, kA17, kS17, kL18, kA18, kS18, kC19, kG19, kP19, kR19_0, kL20, kL141, kL146, kA146, kS146, kL151, kA151, kS151, kL156, kA156, kS156, kC157, kG157, kP157, kR157_0, kR157_1, kL158, kA158, kS158, kL159, kA159, kS159, kC161, kG161, kP161, kR161_0, kR161_1, kL162, kA162, kS162, kL163, kA163, kS163, kC165, kG165, kP165, kR165_0, kR165_1, kR165_2, kR165_3, kL166, kA166, kS166, kL167, kA167, kS167, kL168, kA168, kS168, kL169, kA169, kS169, kC170, kG170, kP170, kR170_0, kR170_1, kR170_2, kL171, kA171, kS171, kL172, kA172, kS172, kL173, kA173, kS173, kC174, kG174, kP174, kR174_0, kR174_1, kR174_2, kR174_3, kR174_4, kL175, kA175, kS175, kL176, kA176, kS176, kL177, kA177, kS177, kL178, kA178, kS178, kL179, kC180, kG180, kP180, kL181, kL182, kA182, kS182, kC183, kG183, kP183, kR183_1, kR183_3, kR183_5, kR183_6, kR183_7, kR183_8, kR183_9, kR183_21, kR183_26, kR183_27, kR183_30, kR183_31, kR183_33, kR183_34, kR183_36, kR183_37, kR183_38, kR183_39, kR183_40, kR183_41, kR183_42, kR183_43, kR183_44, kL184, kA184, kS184, kL185, kA185, kS185, kL186, kA186, kS186, kL187, kA187, kS187, kL188, kA188, kS188, kL189, kL190, kL191, kA191, kS191, kL192, kA192, kS192, kL193, kA193, kS193, kL194, kA194, kS194, kL195, kA195, kS195, kL196, kA196, kS196, kL197, kA197, kS197, kL198, kA198, kS198, kL199, kA199, kS199, kL200, kA200, kS200, kL201, kL202, kA202, kS202, kL203, kA203, kS203, kL204, kA204, kS204, kL205, kL206, kA206, kS206, h, show (1 : Int32) = nI 1 from rfl, nn_add]
end SITES
end
section
/-! changes by hand: turn, tie, pull, pin -/
section NEWROW
variable {g : GD} {gT gP : GH} {st : Nat} {I I' : Nat → Nat → Int32}
def gUp (gT : GH) (t : Nat) (g : GD) (F : Nat → Int32) : GH := fun x => if x = t then (g, F) else gT x
theorem gUp_old {t x : Nat} {F : Nat → Int32} (h : x < t) : gUp gT t g F x = gT x := by unfold gUp; rw [if_neg (by omega)]
theorem gUp_new {t : Nat} {F : Nat → Int32} : gUp gT t g F t = (g, F) := by unfold gUp; rw [if_pos rfl]
/-- the state alone is another -/
theorem LV_state (hg : g ∈ gAll) {b : Nat} (H : LV g gT gP st I 16 (I 191)) (h0 : ∀ k, k ≠ 4 → I' 16 k = I 16 k) (h4 : I' 16 4 = nI b) (h1 : ∀ a k, 17 ≤ a → a ≤ 18 → I' a k = I a k) (hr : ∀ k, k ≠ 64 → I' 191 k = I 191 k) (hr4 : I' 191 64 = nI b) (hb : b < 2 ^ gSz g)
    (hl : ∀ i, i < gSz g → I 191 (48 + i) ≠ 0 → b.testBit i = decide (I 191 (48 + i) = 1)) : LV g gT gP st I' 16 (I' 191) := by
  have h16 := (gAll_b g hg).2.2.1
  obtain ⟨⟨e1, e2, ⟨p, u, e3, e4, e5, e6⟩, e7, e8⟩, ⟨o1, o2, ⟨b0, o3, o4, o5⟩, o6⟩, t, q, t1, t2, t3, t4, t5, t6, t7, t8⟩ := H
  refine ⟨⟨fun t ht => by rw [h1 _ _ (by omega) (by omega), hr _ (by omega)]; exact e1 t ht, fun i hi => by rw [h1 _ _ (by omega) (by omega), hr _ (by omega)]; exact e2 i hi, ⟨p, u, by rw [h0 _ (by omega)]; exact e3, by rw [h0 _ (by omega)]; exact e4, fun i => ?_, fun i => ?_⟩, by rw [h4, hr4], by rw [h0 _ (by omega), hr _ (by omega)]; exact e8⟩, ⟨fun k hk => by rw [hr _ (by omega)]; exact o1 k hk, fun i hi => by rw [hr _ (by omega)]; exact o2 i hi, ⟨b, hb, hr4, fun i hi => by rw [hr _ (by omega)]; exact hl i hi⟩, by rw [hr _ (by omega)]; exact o6⟩, t, q, t1, t2, by rw [h0 _ (by omega)]; exact t3, by rw [h0 _ (by omega)]; exact t4, t5, fun k hk => by rw [hr _ (by omega)]; exact t6 k hk, t7, fun k hk => by rw [hr _ (by omega)]; exact t8 k hk⟩
  · by_cases hi : i < gSz g
    · rw [e5, hr _ (by omega)]
    · rw [e5]; simp [hi]
  · by_cases hi : i < gSz g
    · rw [e6, hr _ (by omega)]
    · rw [e6]; simp [hi]
/-- one J is another -/
theorem LV_tie (hg : g ∈ gAll) {x : Nat} {v : Int32} (hx : x < 48) (hv : -3 ≤ v.toInt ∧ v.toInt ≤ 3) (H : LV g gT gP st I 16 (I 191)) (h0 : ∀ k, k < 6 → I' 16 k = I 16 k) (h6 : I' 16 6 = nI (st + 1)) (h7 : I' 16 7 = nI (st + 1))
    (hJ : ∀ t, t < 32 → I' 17 t = if t = x ∧ (gTo g t).isSome then v else I 17 t) (hF : ∀ i, i < 16 → I' 18 i = if 32 + i = x ∧ i < gSz g then v else I 18 i)
    (hr : ∀ k, I' 191 k = if k = x then v else I 191 k) : LV g (gUp gT (st + 1) g (I' 191)) (gUp gP (st + 1) g (I' 191)) (st + 1) I' 16 (I' 191) := by
  have h16 := (gAll_b g hg).2.2.1
  obtain ⟨⟨e1, e2, ⟨p, u, e3, e4, e5, e6⟩, e7, e8⟩, ⟨o1, o2, ⟨b0, o3, o4, o5⟩, o6⟩, -⟩ := H
  have hr2 : ∀ k, k ≠ x → I' 191 k = I 191 k := fun k hk => by rw [hr, if_neg hk]
  refine ⟨⟨fun t ht => ?_, fun i hi => ?_, ⟨p, u, by rw [h0 _ (by omega)]; exact e3, by rw [h0 _ (by omega)]; exact e4, fun i => ?_, fun i => ?_⟩, by rw [h0 _ (by omega), hr2 _ (by omega)]; exact e7, by rw [h0 _ (by omega), hr2 _ (by omega)]; exact e8⟩, ⟨fun k hk => ?_, fun i hi => by rw [hr2 _ (by omega)]; exact o2 i hi, ⟨b0, o3, by rw [hr2 _ (by omega)]; exact o4, fun i hi => by rw [hr2 _ (by omega)]; exact o5 i hi⟩, by rw [hr2 _ (by omega)]; exact o6⟩, st + 1, st + 1, Nat.le_refl _, Nat.le_refl _, h6, h7, by rw [gUp_new], fun k _ => by rw [gUp_new], by rw [gUp_new], fun k _ => by rw [gUp_new]⟩
  · rw [hJ t ht, hr t, e1 t ht]
    by_cases h1 : t = x
    · subst h1
      by_cases h2 : (gTo g t).isSome <;> simp [h2]
    · simp [h1]
  · rw [hF i hi, hr (32 + i), e2 i hi]
    by_cases h1 : 32 + i = x
    · subst h1
      by_cases h2 : i < gSz g <;> simp [h2]
    · simp [h1]
  · by_cases hi : i < gSz g
    · rw [e5, hr2 _ (by omega)]
    · rw [e5]; simp [hi]
  · by_cases hi : i < gSz g
    · rw [e6, hr2 _ (by omega)]
    · rw [e6]; simp [hi]
  · rw [hr]
    split
    · exact hv
    · exact o1 k hk
end NEWROW
theorem op_turn : Op_turn INV := by
  intro n σ hn ⟨g, gT, gP, st, H⟩ x
  have hS := H.shp
  have hG := H.grd
  have h16 := (gAll_b g hG.1).2.2.1
  by_cases hs : isS g x = true
  · obtain ⟨i, hi, rfl⟩ := isS_t hs
    obtain ⟨q, nx, ea, hq, hnx, hea, p1, p2, p3, p4, p8⟩ := H.pst
    have hN := H.now
    obtain ⟨⟨-, -, ⟨p, u, e3, e4, e5, e6⟩, e7, -⟩, ⟨-, o2, ⟨b, o3, o4, o5⟩, -⟩, -⟩ := hN
    have hp : p < 65536 := Nat.lt_pow_two_of_testBit (n := 16) p (fun j hj => by rw [e5]; simp; omega)
    have hb : b < 65536 := Nat.lt_of_lt_of_le o3 (Nat.pow_le_pow_right (by decide) h16)
    by_cases hpin : xI σ 191 (48 + i) = 0
    · have hpb : p.testBit i = false := by rw [e5]; simp [hpin]
      refine ⟨1, xw σ (xup (kpI (xI σ) nx q) 16 4 (nI (b ^^^ 2 ^ i))), xw σ (xup (mkI (xup (kpI (xI σ) nx q) 16 4 (nI (b ^^^ 2 ^ i))) ea q) 191 64 (nI (b ^^^ 2 ^ i))), ?_, ?_, g, gT, gP, st, ?_⟩
      · show f_X11_turn (xw σ (xI σ)) 1 (nI i) = _
        unfold f_X11_turn
        simp (disch := first | assumption | omega) only [Option.bind_some, Option.map_some, xw_gR, xw_gN, xw_al, xw_ck, xw_uI, xw_ur, xup_at, xur_at, if_true, if_false, reduceIte, and_true, true_and, and_false, false_and, not_true_eq_false, not_false_eq_true, Nat.reduceEqDiff, eq_self, Nat.reduceAdd, Nat.reduceMul, kC1, kG1, kP1, kR1_0, kR1_1, kR1_2, kR1_3, kR1_4, kR1_5, kR1_6, kR1_7, kR1_8, kR1_9, kR1_10, kR1_11, kR1_12, kR1_13, kC2, kG2, kP2, kR2_0, kR2_1, kC3, kG3, kP3, kR3_0, kR3_1, kR3_2, kR3_3, kL4, kA4, kS4, kL5, kA5, kS5, kL6, kA6, kS6, kL7, kA7, kS7, kC8, kG8, kP8, kR8_0, kR8_1, kL9, kA9, kS9, kL10, kA10, kS10, kC11, kG11, kP11, kR11_0, kR11_1, kR11_2, kR11_3, kL12, kA12, kS12, kL13, kA13, kS13, kL14, kA14, kS14, kL15, kA15, kS15, kC16, kG16, kP16, kR16_0, kR16_1, kL17, kA17, kS17, kL18, kA18, kS18, kC19, kG19, kP19, kR19_0, kL20, kL141, kL146, kA146, kS146, kL151, kA151, kS151, kL156, kA156, kS156, kC157, kG157, kP157, kR157_0, kR157_1, kL158, kA158, kS158, kL159, kA159, kS159, kC161, kG161, kP161, kR161_0, kR161_1, kL162, kA162, kS162, kL163, kA163, kS163, kC165, kG165, kP165, kR165_0, kR165_1, kR165_2, kR165_3, kL166, kA166, kS166, kL167, kA167, kS167, kL168, kA168, kS168, kL169, kA169, kS169, kC170, kG170, kP170, kR170_0, kR170_1, kR170_2, kL171, kA171, kS171, kL172, kA172, kS172, kL173, kA173, kS173, kC174, kG174, kP174, kR174_0, kR174_1, kR174_2, kR174_3, kR174_4, kL175, kA175, kS175, kL176, kA176, kS176, kL177, kA177, kS177, kL178, kA178, kS178, kL179, kC180, kG180, kP180, kL181, kL182, kA182, kS182, kC183, kG183, kP183, kR183_1, kR183_3, kR183_5, kR183_6, kR183_7, kR183_8, kR183_9, kR183_21, kR183_26, kR183_27, kR183_30, kR183_31, kR183_33, kR183_34, kR183_36, kR183_37, kR183_38, kR183_39, kR183_40, kR183_41, kR183_42, kR183_43, kR183_44, kL184, kA184, kS184, kL185, kA185, kS185, kL186, kA186, kS186, kL187, kA187, kS187, kL188, kA188, kS188, kL189, kL190, kL191, kA191, kS191, kL192, kA192, kS192, kL193, kA193, kS193, kL194, kA194, kS194, kL195, kA195, kS195, kL196, kA196, kS196, kL197, kA197, kS197, kL198, kA198, kS198, kL199, kA199, kS199, kL200, kA200, kS200, kL201, kL202, kA202, kS202, kL203, kA203, kS203, kL204, kA204, kS204, kL205, kL206, kA206, kS206, hasSite_ok hS hG, hs, isPinned_ok hS suA_16 e3 hp (show i < 32 by omega), hpb, keep_ok hS hnx hq p1 p2, show ((1 : Int32) = 0) = False from eq_false (by decide), show (nI 0 = 0) = True from eq_true rfl, kpI_out, e7, o4, nn_one, nn_xor, Bool.false_eq_true]
      · unfold f_X12_turn
        have hG2 : GRD (xup (kpI (xI σ) nx q) 16 4 (nI (b ^^^ 2 ^ i))) g := GRD_c (fun a k z => by unfold sGRD at z; rw [xup_at, if_neg (by omega), kpI_out (by omega) (by omega)]) hG
        have m1 : f_X12_marks (xw σ (xup (kpI (xI σ) nx q) 16 4 (nI (b ^^^ 2 ^ i)))) 183 = _ := marks_ok hS hea hq (by rw [xup_at, if_neg (by omega), kpI_out (by omega) (by omega)]; exact p3) (by rw [xup_at, if_neg (by omega), kpI_out (by omega) (by omega)]; exact p4)
        simp (disch := first | assumption | omega) only [Option.bind_some, Option.map_some, xw_gR, xw_gN, xw_al, xw_ck, xw_uI, xw_ur, xup_at, xur_at, if_true, if_false, reduceIte, and_true, true_and, and_false, false_and, not_true_eq_false, not_false_eq_true, Nat.reduceEqDiff, eq_self, Nat.reduceAdd, Nat.reduceMul, kC1, kG1, kP1, kR1_0, kR1_1, kR1_2, kR1_3, kR1_4, kR1_5, kR1_6, kR1_7, kR1_8, kR1_9, kR1_10, kR1_11, kR1_12, kR1_13, kC2, kG2, kP2, kR2_0, kR2_1, kC3, kG3, kP3, kR3_0, kR3_1, kR3_2, kR3_3, kL4, kA4, kS4, kL5, kA5, kS5, kL6, kA6, kS6, kL7, kA7, kS7, kC8, kG8, kP8, kR8_0, kR8_1, kL9, kA9, kS9, kL10, kA10, kS10, kC11, kG11, kP11, kR11_0, kR11_1, kR11_2, kR11_3, kL12, kA12, kS12, kL13, kA13, kS13, kL14, kA14, kS14, kL15, kA15, kS15, kC16, kG16, kP16, kR16_0, kR16_1, kL17, kA17, kS17, kL18, kA18, kS18, kC19, kG19, kP19, kR19_0, kL20, kL141, kL146, kA146, kS146, kL151, kA151, kS151, kL156, kA156, kS156, kC157, kG157, kP157, kR157_0, kR157_1, kL158, kA158, kS158, kL159, kA159, kS159, kC161, kG161, kP161, kR161_0, kR161_1, kL162, kA162, kS162, kL163, kA163, kS163, kC165, kG165, kP165, kR165_0, kR165_1, kR165_2, kR165_3, kL166, kA166, kS166, kL167, kA167, kS167, kL168, kA168, kS168, kL169, kA169, kS169, kC170, kG170, kP170, kR170_0, kR170_1, kR170_2, kL171, kA171, kS171, kL172, kA172, kS172, kL173, kA173, kS173, kC174, kG174, kP174, kR174_0, kR174_1, kR174_2, kR174_3, kR174_4, kL175, kA175, kS175, kL176, kA176, kS176, kL177, kA177, kS177, kL178, kA178, kS178, kL179, kC180, kG180, kP180, kL181, kL182, kA182, kS182, kC183, kG183, kP183, kR183_1, kR183_3, kR183_5, kR183_6, kR183_7, kR183_8, kR183_9, kR183_21, kR183_26, kR183_27, kR183_30, kR183_31, kR183_33, kR183_34, kR183_36, kR183_37, kR183_38, kR183_39, kR183_40, kR183_41, kR183_42, kR183_43, kR183_44, kL184, kA184, kS184, kL185, kA185, kS185, kL186, kA186, kS186, kL187, kA187, kS187, kL188, kA188, kS188, kL189, kL190, kL191, kA191, kS191, kL192, kA192, kS192, kL193, kA193, kS193, kL194, kA194, kS194, kL195, kA195, kS195, kL196, kA196, kS196, kL197, kA197, kS197, kL198, kA198, kS198, kL199, kA199, kS199, kL200, kA200, kS200, kL201, kL202, kA202, kS202, kL203, kA203, kS203, kL204, kA204, kS204, kL205, kL206, kA206, kS206, isSite_ok hS hG2, hs, show ((1 : Int32) = 0) = False from eq_false (by decide), show (48 : Int32) = nI 48 from rfl, show (64 : Int32) = nI 64 from rfl, nn_add, kpI_out, hpin, show ((0 : Int32) ≤ 0) = True from eq_true (by decide), m1, mkI_out, o4, nn_one, nn_xor]
      · refine H.hand hq hnx hea p3 p8 (I2 := xup (kpI (xI σ) nx q) 16 4 (nI (b ^^^ 2 ^ i))) ?_ ?_ (Nat.le_refl _) (Nat.le_succ_of_le H.stn) (fun _ _ => rfl) (fun _ _ => rfl) ?_ ?_ ?_
        · intro a k h; rw [xup_at, if_neg (by omega)]
        · intro a k h; rw [xup_at, if_neg (by omega)]
        · rw [xup_at, if_neg (by omega), mkI_out (by omega) (by omega), xup_at, if_neg (by omega), kpI_out (by omega) (by omega)]; exact H.sts
        · refine LV_state (I := xI σ) hG.1 (b := b ^^^ 2 ^ i) H.now ?_ ?_ ?_ ?_ ?_ ?_ ?_
          · intro k hk; rw [xup_at, if_neg (by omega), mkI_out (by omega) (by omega), xup_at, if_neg (by omega), kpI_out (by omega) (by omega)]
          · rw [xup_at, if_neg (by omega), mkI_out (by omega) (by omega), xup_at, if_pos ⟨rfl, rfl⟩]
          · intro a k h1 h2; rw [xup_at, if_neg (by omega), mkI_out (by omega) (by omega), xup_at, if_neg (by omega), kpI_out (by omega) (by omega)]
          · intro k hk; rw [xup_at, if_neg (by omega), mkI_out (by omega) (by omega), xup_at, if_neg (by omega), kpI_out (by omega) (by omega)]
          · rw [xup_at, if_pos ⟨rfl, rfl⟩]
          · exact Nat.xor_lt_two_pow o3 (Nat.pow_lt_pow_right (by decide) hi)
          · intro j hj hne
            rw [fb_bit_flip, ← o5 j hj hne]
            have : j ≠ i := fun z => hne (z ▸ hpin)
            simp [this]
        · refine KNW_c hG.1 (fun a k z => ?_) H.knw
          unfold sKNW at z
          rw [xup_at, if_neg (by omega), mkI_out (by omega) (by omega), xup_at, if_neg (by omega), kpI_out (by omega) (by omega)]
    · have hpb : p.testBit i = true := by rw [e5]; simp [hpin, hi]
      refine ⟨0, σ, σ, ?_, ?_, g, gT, gP, st, H.nop⟩
      · show f_X11_turn (xw σ (xI σ)) 1 (nI i) = _
        unfold f_X11_turn
        simp (disch := first | assumption | omega) only [Option.bind_some, Option.map_some, xw_gR, xw_gN, xw_al, xw_ck, xw_uI, xw_ur, xup_at, xur_at, if_true, if_false, reduceIte, and_true, true_and, and_false, false_and, not_true_eq_false, not_false_eq_true, Nat.reduceEqDiff, eq_self, Nat.reduceAdd, Nat.reduceMul, kC1, kG1, kP1, kR1_0, kR1_1, kR1_2, kR1_3, kR1_4, kR1_5, kR1_6, kR1_7, kR1_8, kR1_9, kR1_10, kR1_11, kR1_12, kR1_13, kC2, kG2, kP2, kR2_0, kR2_1, kC3, kG3, kP3, kR3_0, kR3_1, kR3_2, kR3_3, kL4, kA4, kS4, kL5, kA5, kS5, kL6, kA6, kS6, kL7, kA7, kS7, kC8, kG8, kP8, kR8_0, kR8_1, kL9, kA9, kS9, kL10, kA10, kS10, kC11, kG11, kP11, kR11_0, kR11_1, kR11_2, kR11_3, kL12, kA12, kS12, kL13, kA13, kS13, kL14, kA14, kS14, kL15, kA15, kS15, kC16, kG16, kP16, kR16_0, kR16_1, kL17, kA17, kS17, kL18, kA18, kS18, kC19, kG19, kP19, kR19_0, kL20, kL141, kL146, kA146, kS146, kL151, kA151, kS151, kL156, kA156, kS156, kC157, kG157, kP157, kR157_0, kR157_1, kL158, kA158, kS158, kL159, kA159, kS159, kC161, kG161, kP161, kR161_0, kR161_1, kL162, kA162, kS162, kL163, kA163, kS163, kC165, kG165, kP165, kR165_0, kR165_1, kR165_2, kR165_3, kL166, kA166, kS166, kL167, kA167, kS167, kL168, kA168, kS168, kL169, kA169, kS169, kC170, kG170, kP170, kR170_0, kR170_1, kR170_2, kL171, kA171, kS171, kL172, kA172, kS172, kL173, kA173, kS173, kC174, kG174, kP174, kR174_0, kR174_1, kR174_2, kR174_3, kR174_4, kL175, kA175, kS175, kL176, kA176, kS176, kL177, kA177, kS177, kL178, kA178, kS178, kL179, kC180, kG180, kP180, kL181, kL182, kA182, kS182, kC183, kG183, kP183, kR183_1, kR183_3, kR183_5, kR183_6, kR183_7, kR183_8, kR183_9, kR183_21, kR183_26, kR183_27, kR183_30, kR183_31, kR183_33, kR183_34, kR183_36, kR183_37, kR183_38, kR183_39, kR183_40, kR183_41, kR183_42, kR183_43, kR183_44, kL184, kA184, kS184, kL185, kA185, kS185, kL186, kA186, kS186, kL187, kA187, kS187, kL188, kA188, kS188, kL189, kL190, kL191, kA191, kS191, kL192, kA192, kS192, kL193, kA193, kS193, kL194, kA194, kS194, kL195, kA195, kS195, kL196, kA196, kS196, kL197, kA197, kS197, kL198, kA198, kS198, kL199, kA199, kS199, kL200, kA200, kS200, kL201, kL202, kA202, kS202, kL203, kA203, kS203, kL204, kA204, kS204, kL205, kL206, kA206, kS206, hasSite_ok hS hG, hs, isPinned_ok hS suA_16 e3 hp (show i < 32 by omega), hpb, show ((1 : Int32) = 0) = False from eq_false (by decide), show (nI 1 = 0) = False from eq_false (by decide)]
        rfl
      · show f_X12_turn (xw σ (xI σ)) 183 (nI i) = _
        unfold f_X12_turn
        have : ¬ (xI σ 191 (48 + i) ≤ 0) := by
          rcases (o2 i (by omega)).1 with z | z | z
          · exact absurd z hpin
          · rw [z]; decide
          · rw [z]; decide
        simp (disch := first | assumption | omega) only [Option.bind_some, Option.map_some, xw_gR, xw_gN, xw_al, xw_ck, xw_uI, xw_ur, xup_at, xur_at, if_true, if_false, reduceIte, and_true, true_and, and_false, false_and, not_true_eq_false, not_false_eq_true, Nat.reduceEqDiff, eq_self, Nat.reduceAdd, Nat.reduceMul, kC1, kG1, kP1, kR1_0, kR1_1, kR1_2, kR1_3, kR1_4, kR1_5, kR1_6, kR1_7, kR1_8, kR1_9, kR1_10, kR1_11, kR1_12, kR1_13, kC2, kG2, kP2, kR2_0, kR2_1, kC3, kG3, kP3, kR3_0, kR3_1, kR3_2, kR3_3, kL4, kA4, kS4, kL5, kA5, kS5, kL6, kA6, kS6, kL7, kA7, kS7, kC8, kG8, kP8, kR8_0, kR8_1, kL9, kA9, kS9, kL10, kA10, kS10, kC11, kG11, kP11, kR11_0, kR11_1, kR11_2, kR11_3, kL12, kA12, kS12, kL13, kA13, kS13, kL14, kA14, kS14, kL15, kA15, kS15, kC16, kG16, kP16, kR16_0, kR16_1, kL17, kA17, kS17, kL18, kA18, kS18, kC19, kG19, kP19, kR19_0, kL20, kL141, kL146, kA146, kS146, kL151, kA151, kS151, kL156, kA156, kS156, kC157, kG157, kP157, kR157_0, kR157_1, kL158, kA158, kS158, kL159, kA159, kS159, kC161, kG161, kP161, kR161_0, kR161_1, kL162, kA162, kS162, kL163, kA163, kS163, kC165, kG165, kP165, kR165_0, kR165_1, kR165_2, kR165_3, kL166, kA166, kS166, kL167, kA167, kS167, kL168, kA168, kS168, kL169, kA169, kS169, kC170, kG170, kP170, kR170_0, kR170_1, kR170_2, kL171, kA171, kS171, kL172, kA172, kS172, kL173, kA173, kS173, kC174, kG174, kP174, kR174_0, kR174_1, kR174_2, kR174_3, kR174_4, kL175, kA175, kS175, kL176, kA176, kS176, kL177, kA177, kS177, kL178, kA178, kS178, kL179, kC180, kG180, kP180, kL181, kL182, kA182, kS182, kC183, kG183, kP183, kR183_1, kR183_3, kR183_5, kR183_6, kR183_7, kR183_8, kR183_9, kR183_21, kR183_26, kR183_27, kR183_30, kR183_31, kR183_33, kR183_34, kR183_36, kR183_37, kR183_38, kR183_39, kR183_40, kR183_41, kR183_42, kR183_43, kR183_44, kL184, kA184, kS184, kL185, kA185, kS185, kL186, kA186, kS186, kL187, kA187, kS187, kL188, kA188, kS188, kL189, kL190, kL191, kA191, kS191, kL192, kA192, kS192, kL193, kA193, kS193, kL194, kA194, kS194, kL195, kA195, kS195, kL196, kA196, kS196, kL197, kA197, kS197, kL198, kA198, kS198, kL199, kA199, kS199, kL200, kA200, kS200, kL201, kL202, kA202, kS202, kL203, kA203, kS203, kL204, kA204, kS204, kL205, kL206, kA206, kS206, isSite_ok hS hG, hs, show ((1 : Int32) = 0) = False from eq_false (by decide), show (48 : Int32) = nI 48 from rfl, nn_add, this]
        rfl
  · refine ⟨0, σ, σ, ?_, ?_, g, gT, gP, st, H.nop⟩
    · show f_X11_turn (xw σ (xI σ)) 1 x = _
      unfold f_X11_turn
      simp (disch := first | assumption | omega) only [Option.bind_some, Option.map_some, xw_gR, xw_gN, xw_al, xw_ck, xw_uI, xw_ur, xup_at, xur_at, if_true, if_false, reduceIte, and_true, true_and, and_false, false_and, not_true_eq_false, not_false_eq_true, Nat.reduceEqDiff, eq_self, Nat.reduceAdd, Nat.reduceMul, kC1, kG1, kP1, kR1_0, kR1_1, kR1_2, kR1_3, kR1_4, kR1_5, kR1_6, kR1_7, kR1_8, kR1_9, kR1_10, kR1_11, kR1_12, kR1_13, kC2, kG2, kP2, kR2_0, kR2_1, kC3, kG3, kP3, kR3_0, kR3_1, kR3_2, kR3_3, kL4, kA4, kS4, kL5, kA5, kS5, kL6, kA6, kS6, kL7, kA7, kS7, kC8, kG8, kP8, kR8_0, kR8_1, kL9, kA9, kS9, kL10, kA10, kS10, kC11, kG11, kP11, kR11_0, kR11_1, kR11_2, kR11_3, kL12, kA12, kS12, kL13, kA13, kS13, kL14, kA14, kS14, kL15, kA15, kS15, kC16, kG16, kP16, kR16_0, kR16_1, kL17, kA17, kS17, kL18, kA18, kS18, kC19, kG19, kP19, kR19_0, kL20, kL141, kL146, kA146, kS146, kL151, kA151, kS151, kL156, kA156, kS156, kC157, kG157, kP157, kR157_0, kR157_1, kL158, kA158, kS158, kL159, kA159, kS159, kC161, kG161, kP161, kR161_0, kR161_1, kL162, kA162, kS162, kL163, kA163, kS163, kC165, kG165, kP165, kR165_0, kR165_1, kR165_2, kR165_3, kL166, kA166, kS166, kL167, kA167, kS167, kL168, kA168, kS168, kL169, kA169, kS169, kC170, kG170, kP170, kR170_0, kR170_1, kR170_2, kL171, kA171, kS171, kL172, kA172, kS172, kL173, kA173, kS173, kC174, kG174, kP174, kR174_0, kR174_1, kR174_2, kR174_3, kR174_4, kL175, kA175, kS175, kL176, kA176, kS176, kL177, kA177, kS177, kL178, kA178, kS178, kL179, kC180, kG180, kP180, kL181, kL182, kA182, kS182, kC183, kG183, kP183, kR183_1, kR183_3, kR183_5, kR183_6, kR183_7, kR183_8, kR183_9, kR183_21, kR183_26, kR183_27, kR183_30, kR183_31, kR183_33, kR183_34, kR183_36, kR183_37, kR183_38, kR183_39, kR183_40, kR183_41, kR183_42, kR183_43, kR183_44, kL184, kA184, kS184, kL185, kA185, kS185, kL186, kA186, kS186, kL187, kA187, kS187, kL188, kA188, kS188, kL189, kL190, kL191, kA191, kS191, kL192, kA192, kS192, kL193, kA193, kS193, kL194, kA194, kS194, kL195, kA195, kS195, kL196, kA196, kS196, kL197, kA197, kS197, kL198, kA198, kS198, kL199, kA199, kS199, kL200, kA200, kS200, kL201, kL202, kA202, kS202, kL203, kA203, kS203, kL204, kA204, kS204, kL205, kL206, kA206, kS206, hasSite_ok hS hG, hs]
      rfl
    · show f_X12_turn (xw σ (xI σ)) 183 x = _
      unfold f_X12_turn
      simp (disch := first | assumption | omega) only [Option.bind_some, Option.map_some, xw_gR, xw_gN, xw_al, xw_ck, xw_uI, xw_ur, xup_at, xur_at, if_true, if_false, reduceIte, and_true, true_and, and_false, false_and, not_true_eq_false, not_false_eq_true, Nat.reduceEqDiff, eq_self, Nat.reduceAdd, Nat.reduceMul, kC1, kG1, kP1, kR1_0, kR1_1, kR1_2, kR1_3, kR1_4, kR1_5, kR1_6, kR1_7, kR1_8, kR1_9, kR1_10, kR1_11, kR1_12, kR1_13, kC2, kG2, kP2, kR2_0, kR2_1, kC3, kG3, kP3, kR3_0, kR3_1, kR3_2, kR3_3, kL4, kA4, kS4, kL5, kA5, kS5, kL6, kA6, kS6, kL7, kA7, kS7, kC8, kG8, kP8, kR8_0, kR8_1, kL9, kA9, kS9, kL10, kA10, kS10, kC11, kG11, kP11, kR11_0, kR11_1, kR11_2, kR11_3, kL12, kA12, kS12, kL13, kA13, kS13, kL14, kA14, kS14, kL15, kA15, kS15, kC16, kG16, kP16, kR16_0, kR16_1, kL17, kA17, kS17, kL18, kA18, kS18, kC19, kG19, kP19, kR19_0, kL20, kL141, kL146, kA146, kS146, kL151, kA151, kS151, kL156, kA156, kS156, kC157, kG157, kP157, kR157_0, kR157_1, kL158, kA158, kS158, kL159, kA159, kS159, kC161, kG161, kP161, kR161_0, kR161_1, kL162, kA162, kS162, kL163, kA163, kS163, kC165, kG165, kP165, kR165_0, kR165_1, kR165_2, kR165_3, kL166, kA166, kS166, kL167, kA167, kS167, kL168, kA168, kS168, kL169, kA169, kS169, kC170, kG170, kP170, kR170_0, kR170_1, kR170_2, kL171, kA171, kS171, kL172, kA172, kS172, kL173, kA173, kS173, kC174, kG174, kP174, kR174_0, kR174_1, kR174_2, kR174_3, kR174_4, kL175, kA175, kS175, kL176, kA176, kS176, kL177, kA177, kS177, kL178, kA178, kS178, kL179, kC180, kG180, kP180, kL181, kL182, kA182, kS182, kC183, kG183, kP183, kR183_1, kR183_3, kR183_5, kR183_6, kR183_7, kR183_8, kR183_9, kR183_21, kR183_26, kR183_27, kR183_30, kR183_31, kR183_33, kR183_34, kR183_36, kR183_37, kR183_38, kR183_39, kR183_40, kR183_41, kR183_42, kR183_43, kR183_44, kL184, kA184, kS184, kL185, kA185, kS185, kL186, kA186, kS186, kL187, kA187, kS187, kL188, kA188, kS188, kL189, kL190, kL191, kA191, kS191, kL192, kA192, kS192, kL193, kA193, kS193, kL194, kA194, kS194, kL195, kA195, kS195, kL196, kA196, kS196, kL197, kA197, kS197, kL198, kA198, kS198, kL199, kA199, kS199, kL200, kA200, kS200, kL201, kL202, kA202, kS202, kL203, kA203, kS203, kL204, kA204, kS204, kL205, kL206, kA206, kS206, isSite_ok hS hG, hs]
      rfl
end
section
/-! tie and pull -/
def jB (x : Int32) : Bool := decide (-3 ≤ x.toInt) && decide (x.toInt ≤ 3)
theorem jB_b {x : Int32} (h : jB x = true) : -3 ≤ x.toInt ∧ x.toInt ≤ 3 := by
  unfold jB at h
  rw [Bool.and_eq_true, decide_eq_true_eq, decide_eq_true_eq] at h
  exact h
theorem in_J (x : Int32) : f_X12_in x (-3) 3 = some (if jB x then 1 else 0) := by
  unfold f_X12_in jB
  have c1 : (x < -3) = (x.toInt < -3) := propext (fa_lt _ _)
  have c2 : ((3 : Int32) < x) = (3 < x.toInt) := propext (fa_lt _ _)
  simp only [c1, c2]
  by_cases h1 : x.toInt < -3
  · have : ¬ (-3 ≤ x.toInt) := by omega
    simp [h1, this]
  · by_cases h2 : 3 < x.toInt
    · have : ¬ (x.toInt ≤ 3) := by omega
      simp [h1, h2, this]
    · have a : -3 ≤ x.toInt := by omega
      have b : x.toInt ≤ 3 := by omega
      simp [h1, h2, a, b]
theorem isJ_ok (x : Int32) : f_X11_isJ x = some (if jB x then 1 else 0) := (show f_X11_isJ x = f_X12_in x (-3) 3 from rfl).trans (in_J x)
theorem INV_i {n : Nat} {σ : XS} {g : GD} {gT gP : GH} {st : Nat} (H : IV n σ g gT gP st) : INV n σ := ⟨g, gT, gP, st, H⟩
theorem one0 : ((1 : Int32) = 0) = False := eq_false (by decide)
theorem op_tie : Op_tie INV := by
  intro n σ hn ⟨g, gT, gP, st, H⟩ x bb v hbb
  obtain ⟨b, hb, rfl⟩ : ∃ b, b < 2 ∧ bb = nI b := by
    rcases hbb with h | h
    · exact ⟨0, by decide, h⟩
    · exact ⟨1, by decide, h⟩
  have hS := H.shp
  have hG := H.grd
  have h16 := (gAll_b g hG.1).2.2.1
  by_cases hs : isS g x = true
  · obtain ⟨i, hi, rfl⟩ := isS_t hs
    obtain ⟨t, ht, hti⟩ : ∃ t, t < 32 ∧ t = i + 16 * b := ⟨i + 16 * b, by omega, rfl⟩
    obtain ⟨q, nx, ea, hq, hnx, hea, p1, p2, p3, p4, p8⟩ := H.pst
    obtain ⟨⟨e1, -⟩, -⟩ := H.now
    have jo : ∀ J : Nat → Nat → Int32, f_X12_jOf (xw σ J) 191 (nI i) (nI b) = some (J 191 t) := by
      intro J
      unfold f_X12_jOf
      rcases (show b = 0 ∨ b = 1 by omega) with rfl | rfl
      · simp (disch := first | assumption | omega) only [Option.bind_some, Option.map_some, xw_gR, xw_gN, xw_al, xw_ck, xw_uI, xw_ur, xup_at, xur_at, if_true, if_false, reduceIte, and_true, true_and, and_false, false_and, not_true_eq_false, not_false_eq_true, Nat.reduceEqDiff, eq_self, Nat.reduceAdd, Nat.reduceMul, kC1, kG1, kP1, kR1_0, kR1_1, kR1_2, kR1_3, kR1_4, kR1_5, kR1_6, kR1_7, kR1_8, kR1_9, kR1_10, kR1_11, kR1_12, kR1_13, kC2, kG2, kP2, kR2_0, kR2_1, kC3, kG3, kP3, kR3_0, kR3_1, kR3_2, kR3_3, kL4, kA4, kS4, kL5, kA5, kS5, kL6, kA6, kS6, kL7, kA7, kS7, kC8, kG8, kP8, kR8_0, kR8_1, kL9, kA9, kS9, kL10, kA10, kS10, kC11, kG11, kP11, kR11_0, kR11_1, kR11_2, kR11_3, kL12, kA12, kS12, kL13, kA13, kS13, kL14, kA14, kS14, kL15, kA15, kS15, kC16, kG16, kP16, kR16_0, kR16_1, kL17, kA17, kS17, kL18, kA18, kS18, kC19, kG19, kP19, kR19_0, kL20, kL141, kL146, kA146, kS146, kL151, kA151, kS151, kL156, kA156, kS156, kC157, kG157, kP157, kR157_0, kR157_1, kL158, kA158, kS158, kL159, kA159, kS159, kC161, kG161, kP161, kR161_0, kR161_1, kL162, kA162, kS162, kL163, kA163, kS163, kC165, kG165, kP165, kR165_0, kR165_1, kR165_2, kR165_3, kL166, kA166, kS166, kL167, kA167, kS167, kL168, kA168, kS168, kL169, kA169, kS169, kC170, kG170, kP170, kR170_0, kR170_1, kR170_2, kL171, kA171, kS171, kL172, kA172, kS172, kL173, kA173, kS173, kC174, kG174, kP174, kR174_0, kR174_1, kR174_2, kR174_3, kR174_4, kL175, kA175, kS175, kL176, kA176, kS176, kL177, kA177, kS177, kL178, kA178, kS178, kL179, kC180, kG180, kP180, kL181, kL182, kA182, kS182, kC183, kG183, kP183, kR183_1, kR183_3, kR183_5, kR183_6, kR183_7, kR183_8, kR183_9, kR183_21, kR183_26, kR183_27, kR183_30, kR183_31, kR183_33, kR183_34, kR183_36, kR183_37, kR183_38, kR183_39, kR183_40, kR183_41, kR183_42, kR183_43, kR183_44, kL184, kA184, kS184, kL185, kA185, kS185, kL186, kA186, kS186, kL187, kA187, kS187, kL188, kA188, kS188, kL189, kL190, kL191, kA191, kS191, kL192, kA192, kS192, kL193, kA193, kS193, kL194, kA194, kS194, kL195, kA195, kS195, kL196, kA196, kS196, kL197, kA197, kS197, kL198, kA198, kS198, kL199, kA199, kS199, kL200, kA200, kS200, kL201, kL202, kA202, kS202, kL203, kA203, kS203, kL204, kA204, kS204, kL205, kL206, kA206, kS206, show (nI 0 = 0) = True from eq_true rfl, show (0 : Int32) = nI 0 from rfl, nn_add, show 0 + i = t by omega]
      · simp (disch := first | assumption | omega) only [Option.bind_some, Option.map_some, xw_gR, xw_gN, xw_al, xw_ck, xw_uI, xw_ur, xup_at, xur_at, if_true, if_false, reduceIte, and_true, true_and, and_false, false_and, not_true_eq_false, not_false_eq_true, Nat.reduceEqDiff, eq_self, Nat.reduceAdd, Nat.reduceMul, kC1, kG1, kP1, kR1_0, kR1_1, kR1_2, kR1_3, kR1_4, kR1_5, kR1_6, kR1_7, kR1_8, kR1_9, kR1_10, kR1_11, kR1_12, kR1_13, kC2, kG2, kP2, kR2_0, kR2_1, kC3, kG3, kP3, kR3_0, kR3_1, kR3_2, kR3_3, kL4, kA4, kS4, kL5, kA5, kS5, kL6, kA6, kS6, kL7, kA7, kS7, kC8, kG8, kP8, kR8_0, kR8_1, kL9, kA9, kS9, kL10, kA10, kS10, kC11, kG11, kP11, kR11_0, kR11_1, kR11_2, kR11_3, kL12, kA12, kS12, kL13, kA13, kS13, kL14, kA14, kS14, kL15, kA15, kS15, kC16, kG16, kP16, kR16_0, kR16_1, kL17, kA17, kS17, kL18, kA18, kS18, kC19, kG19, kP19, kR19_0, kL20, kL141, kL146, kA146, kS146, kL151, kA151, kS151, kL156, kA156, kS156, kC157, kG157, kP157, kR157_0, kR157_1, kL158, kA158, kS158, kL159, kA159, kS159, kC161, kG161, kP161, kR161_0, kR161_1, kL162, kA162, kS162, kL163, kA163, kS163, kC165, kG165, kP165, kR165_0, kR165_1, kR165_2, kR165_3, kL166, kA166, kS166, kL167, kA167, kS167, kL168, kA168, kS168, kL169, kA169, kS169, kC170, kG170, kP170, kR170_0, kR170_1, kR170_2, kL171, kA171, kS171, kL172, kA172, kS172, kL173, kA173, kS173, kC174, kG174, kP174, kR174_0, kR174_1, kR174_2, kR174_3, kR174_4, kL175, kA175, kS175, kL176, kA176, kS176, kL177, kA177, kS177, kL178, kA178, kS178, kL179, kC180, kG180, kP180, kL181, kL182, kA182, kS182, kC183, kG183, kP183, kR183_1, kR183_3, kR183_5, kR183_6, kR183_7, kR183_8, kR183_9, kR183_21, kR183_26, kR183_27, kR183_30, kR183_31, kR183_33, kR183_34, kR183_36, kR183_37, kR183_38, kR183_39, kR183_40, kR183_41, kR183_42, kR183_43, kR183_44, kL184, kA184, kS184, kL185, kA185, kS185, kL186, kA186, kS186, kL187, kA187, kS187, kL188, kA188, kS188, kL189, kL190, kL191, kA191, kS191, kL192, kA192, kS192, kL193, kA193, kS193, kL194, kA194, kS194, kL195, kA195, kS195, kL196, kA196, kS196, kL197, kA197, kS197, kL198, kA198, kS198, kL199, kA199, kS199, kL200, kA200, kS200, kL201, kL202, kA202, kS202, kL203, kA203, kS203, kL204, kA204, kS204, kL205, kL206, kA206, kS206, show (nI 1 = 0) = False from eq_false (by decide), show (16 : Int32) = nI 16 from rfl, nn_add, show 16 + i = t by omega]
    by_cases hno : gTo g t = none
    · refine ⟨0, σ, σ, ?_, ?_, g, gT, gP, st, H.nop⟩
      · show f_X11_tie (xw σ (xI σ)) 1 (nI i) (nI b) v = _
        unfold f_X11_tie
        simp (disch := first | assumption | omega) only [Option.bind_some, Option.map_some, xw_gR, xw_gN, xw_al, xw_ck, xw_uI, xw_ur, xup_at, xur_at, if_true, if_false, reduceIte, and_true, true_and, and_false, false_and, not_true_eq_false, not_false_eq_true, Nat.reduceEqDiff, eq_self, Nat.reduceAdd, Nat.reduceMul, kC1, kG1, kP1, kR1_0, kR1_1, kR1_2, kR1_3, kR1_4, kR1_5, kR1_6, kR1_7, kR1_8, kR1_9, kR1_10, kR1_11, kR1_12, kR1_13, kC2, kG2, kP2, kR2_0, kR2_1, kC3, kG3, kP3, kR3_0, kR3_1, kR3_2, kR3_3, kL4, kA4, kS4, kL5, kA5, kS5, kL6, kA6, kS6, kL7, kA7, kS7, kC8, kG8, kP8, kR8_0, kR8_1, kL9, kA9, kS9, kL10, kA10, kS10, kC11, kG11, kP11, kR11_0, kR11_1, kR11_2, kR11_3, kL12, kA12, kS12, kL13, kA13, kS13, kL14, kA14, kS14, kL15, kA15, kS15, kC16, kG16, kP16, kR16_0, kR16_1, kL17, kA17, kS17, kL18, kA18, kS18, kC19, kG19, kP19, kR19_0, kL20, kL141, kL146, kA146, kS146, kL151, kA151, kS151, kL156, kA156, kS156, kC157, kG157, kP157, kR157_0, kR157_1, kL158, kA158, kS158, kL159, kA159, kS159, kC161, kG161, kP161, kR161_0, kR161_1, kL162, kA162, kS162, kL163, kA163, kS163, kC165, kG165, kP165, kR165_0, kR165_1, kR165_2, kR165_3, kL166, kA166, kS166, kL167, kA167, kS167, kL168, kA168, kS168, kL169, kA169, kS169, kC170, kG170, kP170, kR170_0, kR170_1, kR170_2, kL171, kA171, kS171, kL172, kA172, kS172, kL173, kA173, kS173, kC174, kG174, kP174, kR174_0, kR174_1, kR174_2, kR174_3, kR174_4, kL175, kA175, kS175, kL176, kA176, kS176, kL177, kA177, kS177, kL178, kA178, kS178, kL179, kC180, kG180, kP180, kL181, kL182, kA182, kS182, kC183, kG183, kP183, kR183_1, kR183_3, kR183_5, kR183_6, kR183_7, kR183_8, kR183_9, kR183_21, kR183_26, kR183_27, kR183_30, kR183_31, kR183_33, kR183_34, kR183_36, kR183_37, kR183_38, kR183_39, kR183_40, kR183_41, kR183_42, kR183_43, kR183_44, kL184, kA184, kS184, kL185, kA185, kS185, kL186, kA186, kS186, kL187, kA187, kS187, kL188, kA188, kS188, kL189, kL190, kL191, kA191, kS191, kL192, kA192, kS192, kL193, kA193, kS193, kL194, kA194, kS194, kL195, kA195, kS195, kL196, kA196, kS196, kL197, kA197, kS197, kL198, kA198, kS198, kL199, kA199, kS199, kL200, kA200, kS200, kL201, kL202, kA202, kS202, kL203, kA203, kS203, kL204, kA204, kS204, kL205, kL206, kA206, kS206, tiePlace_ok hS hG hb hi, ← hti, hno]
        rfl
      · show f_X12_tie (xw σ (xI σ)) 183 (nI i) (nI b) v = _
        unfold f_X12_tie
        simp (disch := first | assumption | omega) only [Option.bind_some, Option.map_some, xw_gR, xw_gN, xw_al, xw_ck, xw_uI, xw_ur, xup_at, xur_at, if_true, if_false, reduceIte, and_true, true_and, and_false, false_and, not_true_eq_false, not_false_eq_true, Nat.reduceEqDiff, eq_self, Nat.reduceAdd, Nat.reduceMul, kC1, kG1, kP1, kR1_0, kR1_1, kR1_2, kR1_3, kR1_4, kR1_5, kR1_6, kR1_7, kR1_8, kR1_9, kR1_10, kR1_11, kR1_12, kR1_13, kC2, kG2, kP2, kR2_0, kR2_1, kC3, kG3, kP3, kR3_0, kR3_1, kR3_2, kR3_3, kL4, kA4, kS4, kL5, kA5, kS5, kL6, kA6, kS6, kL7, kA7, kS7, kC8, kG8, kP8, kR8_0, kR8_1, kL9, kA9, kS9, kL10, kA10, kS10, kC11, kG11, kP11, kR11_0, kR11_1, kR11_2, kR11_3, kL12, kA12, kS12, kL13, kA13, kS13, kL14, kA14, kS14, kL15, kA15, kS15, kC16, kG16, kP16, kR16_0, kR16_1, kL17, kA17, kS17, kL18, kA18, kS18, kC19, kG19, kP19, kR19_0, kL20, kL141, kL146, kA146, kS146, kL151, kA151, kS151, kL156, kA156, kS156, kC157, kG157, kP157, kR157_0, kR157_1, kL158, kA158, kS158, kL159, kA159, kS159, kC161, kG161, kP161, kR161_0, kR161_1, kL162, kA162, kS162, kL163, kA163, kS163, kC165, kG165, kP165, kR165_0, kR165_1, kR165_2, kR165_3, kL166, kA166, kS166, kL167, kA167, kS167, kL168, kA168, kS168, kL169, kA169, kS169, kC170, kG170, kP170, kR170_0, kR170_1, kR170_2, kL171, kA171, kS171, kL172, kA172, kS172, kL173, kA173, kS173, kC174, kG174, kP174, kR174_0, kR174_1, kR174_2, kR174_3, kR174_4, kL175, kA175, kS175, kL176, kA176, kS176, kL177, kA177, kS177, kL178, kA178, kS178, kL179, kC180, kG180, kP180, kL181, kL182, kA182, kS182, kC183, kG183, kP183, kR183_1, kR183_3, kR183_5, kR183_6, kR183_7, kR183_8, kR183_9, kR183_21, kR183_26, kR183_27, kR183_30, kR183_31, kR183_33, kR183_34, kR183_36, kR183_37, kR183_38, kR183_39, kR183_40, kR183_41, kR183_42, kR183_43, kR183_44, kL184, kA184, kS184, kL185, kA185, kS185, kL186, kA186, kS186, kL187, kA187, kS187, kL188, kA188, kS188, kL189, kL190, kL191, kA191, kS191, kL192, kA192, kS192, kL193, kA193, kS193, kL194, kA194, kS194, kL195, kA195, kS195, kL196, kA196, kS196, kL197, kA197, kS197, kL198, kA198, kS198, kL199, kA199, kS199, kL200, kA200, kS200, kL201, kL202, kA202, kS202, kL203, kA203, kS203, kL204, kA204, kS204, kL205, kL206, kA206, kS206, isSite_ok hS hG, hs, one0, in_J, tieTo_ok hS hG hb hi, ← hti, hno]
        cases jB v <;> simp [xw_self, oI]
    · obtain ⟨en, hen⟩ := Option.ne_none_iff_exists'.mp hno
      have hens := gTo_s hG.1 ht en hen
      by_cases hj : jB v = true
      · have e1t : xI σ 17 t = xI σ 191 t := by have := e1 t ht; rw [hen] at this; exact this
        by_cases hv : xI σ 191 t = v
        · refine ⟨0, σ, σ, ?_, ?_, g, gT, gP, st, H.nop⟩
          · show f_X11_tie (xw σ (xI σ)) 1 (nI i) (nI b) v = _
            unfold f_X11_tie
            simp (disch := first | assumption | omega) only [Option.bind_some, Option.map_some, xw_gR, xw_gN, xw_al, xw_ck, xw_uI, xw_ur, xup_at, xur_at, if_true, if_false, reduceIte, and_true, true_and, and_false, false_and, not_true_eq_false, not_false_eq_true, Nat.reduceEqDiff, eq_self, Nat.reduceAdd, Nat.reduceMul, kC1, kG1, kP1, kR1_0, kR1_1, kR1_2, kR1_3, kR1_4, kR1_5, kR1_6, kR1_7, kR1_8, kR1_9, kR1_10, kR1_11, kR1_12, kR1_13, kC2, kG2, kP2, kR2_0, kR2_1, kC3, kG3, kP3, kR3_0, kR3_1, kR3_2, kR3_3, kL4, kA4, kS4, kL5, kA5, kS5, kL6, kA6, kS6, kL7, kA7, kS7, kC8, kG8, kP8, kR8_0, kR8_1, kL9, kA9, kS9, kL10, kA10, kS10, kC11, kG11, kP11, kR11_0, kR11_1, kR11_2, kR11_3, kL12, kA12, kS12, kL13, kA13, kS13, kL14, kA14, kS14, kL15, kA15, kS15, kC16, kG16, kP16, kR16_0, kR16_1, kL17, kA17, kS17, kL18, kA18, kS18, kC19, kG19, kP19, kR19_0, kL20, kL141, kL146, kA146, kS146, kL151, kA151, kS151, kL156, kA156, kS156, kC157, kG157, kP157, kR157_0, kR157_1, kL158, kA158, kS158, kL159, kA159, kS159, kC161, kG161, kP161, kR161_0, kR161_1, kL162, kA162, kS162, kL163, kA163, kS163, kC165, kG165, kP165, kR165_0, kR165_1, kR165_2, kR165_3, kL166, kA166, kS166, kL167, kA167, kS167, kL168, kA168, kS168, kL169, kA169, kS169, kC170, kG170, kP170, kR170_0, kR170_1, kR170_2, kL171, kA171, kS171, kL172, kA172, kS172, kL173, kA173, kS173, kC174, kG174, kP174, kR174_0, kR174_1, kR174_2, kR174_3, kR174_4, kL175, kA175, kS175, kL176, kA176, kS176, kL177, kA177, kS177, kL178, kA178, kS178, kL179, kC180, kG180, kP180, kL181, kL182, kA182, kS182, kC183, kG183, kP183, kR183_1, kR183_3, kR183_5, kR183_6, kR183_7, kR183_8, kR183_9, kR183_21, kR183_26, kR183_27, kR183_30, kR183_31, kR183_33, kR183_34, kR183_36, kR183_37, kR183_38, kR183_39, kR183_40, kR183_41, kR183_42, kR183_43, kR183_44, kL184, kA184, kS184, kL185, kA185, kS185, kL186, kA186, kS186, kL187, kA187, kS187, kL188, kA188, kS188, kL189, kL190, kL191, kA191, kS191, kL192, kA192, kS192, kL193, kA193, kS193, kL194, kA194, kS194, kL195, kA195, kS195, kL196, kA196, kS196, kL197, kA197, kS197, kL198, kA198, kS198, kL199, kA199, kS199, kL200, kA200, kS200, kL201, kL202, kA202, kS202, kL203, kA203, kS203, kL204, kA204, kS204, kL205, kL206, kA206, kS206, tiePlace_ok hS hG hb hi, ← hti, hno, nn_m1, isJ_ok, hj, one0, bondAt_ok hS suA_16 ht, e1t, hv]
            rfl
          · show f_X12_tie (xw σ (xI σ)) 183 (nI i) (nI b) v = _
            unfold f_X12_tie
            simp (disch := first | assumption | omega) only [Option.bind_some, Option.map_some, xw_gR, xw_gN, xw_al, xw_ck, xw_uI, xw_ur, xup_at, xur_at, if_true, if_false, reduceIte, and_true, true_and, and_false, false_and, not_true_eq_false, not_false_eq_true, Nat.reduceEqDiff, eq_self, Nat.reduceAdd, Nat.reduceMul, kC1, kG1, kP1, kR1_0, kR1_1, kR1_2, kR1_3, kR1_4, kR1_5, kR1_6, kR1_7, kR1_8, kR1_9, kR1_10, kR1_11, kR1_12, kR1_13, kC2, kG2, kP2, kR2_0, kR2_1, kC3, kG3, kP3, kR3_0, kR3_1, kR3_2, kR3_3, kL4, kA4, kS4, kL5, kA5, kS5, kL6, kA6, kS6, kL7, kA7, kS7, kC8, kG8, kP8, kR8_0, kR8_1, kL9, kA9, kS9, kL10, kA10, kS10, kC11, kG11, kP11, kR11_0, kR11_1, kR11_2, kR11_3, kL12, kA12, kS12, kL13, kA13, kS13, kL14, kA14, kS14, kL15, kA15, kS15, kC16, kG16, kP16, kR16_0, kR16_1, kL17, kA17, kS17, kL18, kA18, kS18, kC19, kG19, kP19, kR19_0, kL20, kL141, kL146, kA146, kS146, kL151, kA151, kS151, kL156, kA156, kS156, kC157, kG157, kP157, kR157_0, kR157_1, kL158, kA158, kS158, kL159, kA159, kS159, kC161, kG161, kP161, kR161_0, kR161_1, kL162, kA162, kS162, kL163, kA163, kS163, kC165, kG165, kP165, kR165_0, kR165_1, kR165_2, kR165_3, kL166, kA166, kS166, kL167, kA167, kS167, kL168, kA168, kS168, kL169, kA169, kS169, kC170, kG170, kP170, kR170_0, kR170_1, kR170_2, kL171, kA171, kS171, kL172, kA172, kS172, kL173, kA173, kS173, kC174, kG174, kP174, kR174_0, kR174_1, kR174_2, kR174_3, kR174_4, kL175, kA175, kS175, kL176, kA176, kS176, kL177, kA177, kS177, kL178, kA178, kS178, kL179, kC180, kG180, kP180, kL181, kL182, kA182, kS182, kC183, kG183, kP183, kR183_1, kR183_3, kR183_5, kR183_6, kR183_7, kR183_8, kR183_9, kR183_21, kR183_26, kR183_27, kR183_30, kR183_31, kR183_33, kR183_34, kR183_36, kR183_37, kR183_38, kR183_39, kR183_40, kR183_41, kR183_42, kR183_43, kR183_44, kL184, kA184, kS184, kL185, kA185, kS185, kL186, kA186, kS186, kL187, kA187, kS187, kL188, kA188, kS188, kL189, kL190, kL191, kA191, kS191, kL192, kA192, kS192, kL193, kA193, kS193, kL194, kA194, kS194, kL195, kA195, kS195, kL196, kA196, kS196, kL197, kA197, kS197, kL198, kA198, kS198, kL199, kA199, kS199, kL200, kA200, kS200, kL201, kL202, kA202, kS202, kL203, kA203, kS203, kL204, kA204, kS204, kL205, kL206, kA206, kS206, isSite_ok hS hG, hs, one0, in_J, hj, tieTo_ok hS hG hb hi, ← hti, hen, oI, nn_nneg, jo, hv]
            rfl
        · refine ⟨1, xw σ (xup (xup (xup (xup (kpI (xI σ) nx q) 17 t v) 1 15 (nI (st + 1))) 16 6 (nI (st + 1))) 16 7 (nI (st + 1))), xw σ (xup (xup (mkI (xup (xup (xup (xup (kpI (xI σ) nx q) 17 t v) 1 15 (nI (st + 1))) 16 6 (nI (st + 1))) 16 7 (nI (st + 1))) ea q) 191 t v) 183 32 0), ?_, ?_, ?_⟩
          · show f_X11_tie (xw σ (xI σ)) 1 (nI i) (nI b) v = _
            unfold f_X11_tie
            have stp : f_X11_stampTies (xw σ (xup (kpI (xI σ) nx q) 17 t v)) 1 = _ := stampTies_ok (st := st) hS (by rw [xup_at, if_neg (by omega), kpI_out (by omega) (by omega)]; exact H.sts)
            simp (disch := first | assumption | omega) only [Option.bind_some, Option.map_some, xw_gR, xw_gN, xw_al, xw_ck, xw_uI, xw_ur, xup_at, xur_at, if_true, if_false, reduceIte, and_true, true_and, and_false, false_and, not_true_eq_false, not_false_eq_true, Nat.reduceEqDiff, eq_self, Nat.reduceAdd, Nat.reduceMul, kC1, kG1, kP1, kR1_0, kR1_1, kR1_2, kR1_3, kR1_4, kR1_5, kR1_6, kR1_7, kR1_8, kR1_9, kR1_10, kR1_11, kR1_12, kR1_13, kC2, kG2, kP2, kR2_0, kR2_1, kC3, kG3, kP3, kR3_0, kR3_1, kR3_2, kR3_3, kL4, kA4, kS4, kL5, kA5, kS5, kL6, kA6, kS6, kL7, kA7, kS7, kC8, kG8, kP8, kR8_0, kR8_1, kL9, kA9, kS9, kL10, kA10, kS10, kC11, kG11, kP11, kR11_0, kR11_1, kR11_2, kR11_3, kL12, kA12, kS12, kL13, kA13, kS13, kL14, kA14, kS14, kL15, kA15, kS15, kC16, kG16, kP16, kR16_0, kR16_1, kL17, kA17, kS17, kL18, kA18, kS18, kC19, kG19, kP19, kR19_0, kL20, kL141, kL146, kA146, kS146, kL151, kA151, kS151, kL156, kA156, kS156, kC157, kG157, kP157, kR157_0, kR157_1, kL158, kA158, kS158, kL159, kA159, kS159, kC161, kG161, kP161, kR161_0, kR161_1, kL162, kA162, kS162, kL163, kA163, kS163, kC165, kG165, kP165, kR165_0, kR165_1, kR165_2, kR165_3, kL166, kA166, kS166, kL167, kA167, kS167, kL168, kA168, kS168, kL169, kA169, kS169, kC170, kG170, kP170, kR170_0, kR170_1, kR170_2, kL171, kA171, kS171, kL172, kA172, kS172, kL173, kA173, kS173, kC174, kG174, kP174, kR174_0, kR174_1, kR174_2, kR174_3, kR174_4, kL175, kA175, kS175, kL176, kA176, kS176, kL177, kA177, kS177, kL178, kA178, kS178, kL179, kC180, kG180, kP180, kL181, kL182, kA182, kS182, kC183, kG183, kP183, kR183_1, kR183_3, kR183_5, kR183_6, kR183_7, kR183_8, kR183_9, kR183_21, kR183_26, kR183_27, kR183_30, kR183_31, kR183_33, kR183_34, kR183_36, kR183_37, kR183_38, kR183_39, kR183_40, kR183_41, kR183_42, kR183_43, kR183_44, kL184, kA184, kS184, kL185, kA185, kS185, kL186, kA186, kS186, kL187, kA187, kS187, kL188, kA188, kS188, kL189, kL190, kL191, kA191, kS191, kL192, kA192, kS192, kL193, kA193, kS193, kL194, kA194, kS194, kL195, kA195, kS195, kL196, kA196, kS196, kL197, kA197, kS197, kL198, kA198, kS198, kL199, kA199, kS199, kL200, kA200, kS200, kL201, kL202, kA202, kS202, kL203, kA203, kS203, kL204, kA204, kS204, kL205, kL206, kA206, kS206, tiePlace_ok hS hG hb hi, ← hti, hno, nn_m1, isJ_ok, hj, one0, bondAt_ok hS suA_16 ht, e1t, hv, keep_ok hS hnx hq p1 p2, setBond_ok hS suA_16 ht, stp]
          · unfold f_X12_tie
            have hG2 : GRD (xup (xup (xup (xup (kpI (xI σ) nx q) 17 t v) 1 15 (nI (st + 1))) 16 6 (nI (st + 1))) 16 7 (nI (st + 1))) g := GRD_c (fun a k z => by unfold sGRD at z; rw [xup_at, if_neg (by omega), xup_at, if_neg (by omega), xup_at, if_neg (by omega), xup_at, if_neg (by omega), kpI_out (by omega) (by omega)]) hG
            have m1 : f_X12_marks (xw σ (xup (xup (xup (xup (kpI (xI σ) nx q) 17 t v) 1 15 (nI (st + 1))) 16 6 (nI (st + 1))) 16 7 (nI (st + 1)))) 183 = _ := marks_ok (ea := ea) (q := q) hS hea hq (by rw [xup_at, if_neg (by omega), xup_at, if_neg (by omega), xup_at, if_neg (by omega), xup_at, if_neg (by omega), kpI_out (by omega) (by omega)]; exact p3) (by rw [xup_at, if_neg (by omega), xup_at, if_neg (by omega), xup_at, if_neg (by omega), xup_at, if_neg (by omega), kpI_out (by omega) (by omega)]; exact p4)
            unfold f_X12_tie_j60
            simp (disch := first | assumption | omega) only [Option.bind_some, Option.map_some, xw_gR, xw_gN, xw_al, xw_ck, xw_uI, xw_ur, xup_at, xur_at, if_true, if_false, reduceIte, and_true, true_and, and_false, false_and, not_true_eq_false, not_false_eq_true, Nat.reduceEqDiff, eq_self, Nat.reduceAdd, Nat.reduceMul, kC1, kG1, kP1, kR1_0, kR1_1, kR1_2, kR1_3, kR1_4, kR1_5, kR1_6, kR1_7, kR1_8, kR1_9, kR1_10, kR1_11, kR1_12, kR1_13, kC2, kG2, kP2, kR2_0, kR2_1, kC3, kG3, kP3, kR3_0, kR3_1, kR3_2, kR3_3, kL4, kA4, kS4, kL5, kA5, kS5, kL6, kA6, kS6, kL7, kA7, kS7, kC8, kG8, kP8, kR8_0, kR8_1, kL9, kA9, kS9, kL10, kA10, kS10, kC11, kG11, kP11, kR11_0, kR11_1, kR11_2, kR11_3, kL12, kA12, kS12, kL13, kA13, kS13, kL14, kA14, kS14, kL15, kA15, kS15, kC16, kG16, kP16, kR16_0, kR16_1, kL17, kA17, kS17, kL18, kA18, kS18, kC19, kG19, kP19, kR19_0, kL20, kL141, kL146, kA146, kS146, kL151, kA151, kS151, kL156, kA156, kS156, kC157, kG157, kP157, kR157_0, kR157_1, kL158, kA158, kS158, kL159, kA159, kS159, kC161, kG161, kP161, kR161_0, kR161_1, kL162, kA162, kS162, kL163, kA163, kS163, kC165, kG165, kP165, kR165_0, kR165_1, kR165_2, kR165_3, kL166, kA166, kS166, kL167, kA167, kS167, kL168, kA168, kS168, kL169, kA169, kS169, kC170, kG170, kP170, kR170_0, kR170_1, kR170_2, kL171, kA171, kS171, kL172, kA172, kS172, kL173, kA173, kS173, kC174, kG174, kP174, kR174_0, kR174_1, kR174_2, kR174_3, kR174_4, kL175, kA175, kS175, kL176, kA176, kS176, kL177, kA177, kS177, kL178, kA178, kS178, kL179, kC180, kG180, kP180, kL181, kL182, kA182, kS182, kC183, kG183, kP183, kR183_1, kR183_3, kR183_5, kR183_6, kR183_7, kR183_8, kR183_9, kR183_21, kR183_26, kR183_27, kR183_30, kR183_31, kR183_33, kR183_34, kR183_36, kR183_37, kR183_38, kR183_39, kR183_40, kR183_41, kR183_42, kR183_43, kR183_44, kL184, kA184, kS184, kL185, kA185, kS185, kL186, kA186, kS186, kL187, kA187, kS187, kL188, kA188, kS188, kL189, kL190, kL191, kA191, kS191, kL192, kA192, kS192, kL193, kA193, kS193, kL194, kA194, kS194, kL195, kA195, kS195, kL196, kA196, kS196, kL197, kA197, kS197, kL198, kA198, kS198, kL199, kA199, kS199, kL200, kA200, kS200, kL201, kL202, kA202, kS202, kL203, kA203, kS203, kL204, kA204, kS204, kL205, kL206, kA206, kS206, isSite_ok hS hG2, hs, one0, in_J, hj, tieTo_ok hS hG2 hb hi, ← hti, hen, oI, nn_nneg, jo, kpI_out, hv, m1]
            rcases (show b = 0 ∨ b = 1 by omega) with rfl | rfl
            · simp (disch := first | assumption | omega) only [Option.bind_some, Option.map_some, xw_gR, xw_gN, xw_al, xw_ck, xw_uI, xw_ur, xup_at, xur_at, if_true, if_false, reduceIte, and_true, true_and, and_false, false_and, not_true_eq_false, not_false_eq_true, Nat.reduceEqDiff, eq_self, Nat.reduceAdd, Nat.reduceMul, kC1, kG1, kP1, kR1_0, kR1_1, kR1_2, kR1_3, kR1_4, kR1_5, kR1_6, kR1_7, kR1_8, kR1_9, kR1_10, kR1_11, kR1_12, kR1_13, kC2, kG2, kP2, kR2_0, kR2_1, kC3, kG3, kP3, kR3_0, kR3_1, kR3_2, kR3_3, kL4, kA4, kS4, kL5, kA5, kS5, kL6, kA6, kS6, kL7, kA7, kS7, kC8, kG8, kP8, kR8_0, kR8_1, kL9, kA9, kS9, kL10, kA10, kS10, kC11, kG11, kP11, kR11_0, kR11_1, kR11_2, kR11_3, kL12, kA12, kS12, kL13, kA13, kS13, kL14, kA14, kS14, kL15, kA15, kS15, kC16, kG16, kP16, kR16_0, kR16_1, kL17, kA17, kS17, kL18, kA18, kS18, kC19, kG19, kP19, kR19_0, kL20, kL141, kL146, kA146, kS146, kL151, kA151, kS151, kL156, kA156, kS156, kC157, kG157, kP157, kR157_0, kR157_1, kL158, kA158, kS158, kL159, kA159, kS159, kC161, kG161, kP161, kR161_0, kR161_1, kL162, kA162, kS162, kL163, kA163, kS163, kC165, kG165, kP165, kR165_0, kR165_1, kR165_2, kR165_3, kL166, kA166, kS166, kL167, kA167, kS167, kL168, kA168, kS168, kL169, kA169, kS169, kC170, kG170, kP170, kR170_0, kR170_1, kR170_2, kL171, kA171, kS171, kL172, kA172, kS172, kL173, kA173, kS173, kC174, kG174, kP174, kR174_0, kR174_1, kR174_2, kR174_3, kR174_4, kL175, kA175, kS175, kL176, kA176, kS176, kL177, kA177, kS177, kL178, kA178, kS178, kL179, kC180, kG180, kP180, kL181, kL182, kA182, kS182, kC183, kG183, kP183, kR183_1, kR183_3, kR183_5, kR183_6, kR183_7, kR183_8, kR183_9, kR183_21, kR183_26, kR183_27, kR183_30, kR183_31, kR183_33, kR183_34, kR183_36, kR183_37, kR183_38, kR183_39, kR183_40, kR183_41, kR183_42, kR183_43, kR183_44, kL184, kA184, kS184, kL185, kA185, kS185, kL186, kA186, kS186, kL187, kA187, kS187, kL188, kA188, kS188, kL189, kL190, kL191, kA191, kS191, kL192, kA192, kS192, kL193, kA193, kS193, kL194, kA194, kS194, kL195, kA195, kS195, kL196, kA196, kS196, kL197, kA197, kS197, kL198, kA198, kS198, kL199, kA199, kS199, kL200, kA200, kS200, kL201, kL202, kA202, kS202, kL203, kA203, kS203, kL204, kA204, kS204, kL205, kL206, kA206, kS206, show (nI 0 = 0) = True from eq_true rfl, show (0 : Int32) = nI 0 from rfl, nn_add, show 0 + i = t by omega]
            · simp (disch := first | assumption | omega) only [Option.bind_some, Option.map_some, xw_gR, xw_gN, xw_al, xw_ck, xw_uI, xw_ur, xup_at, xur_at, if_true, if_false, reduceIte, and_true, true_and, and_false, false_and, not_true_eq_false, not_false_eq_true, Nat.reduceEqDiff, eq_self, Nat.reduceAdd, Nat.reduceMul, kC1, kG1, kP1, kR1_0, kR1_1, kR1_2, kR1_3, kR1_4, kR1_5, kR1_6, kR1_7, kR1_8, kR1_9, kR1_10, kR1_11, kR1_12, kR1_13, kC2, kG2, kP2, kR2_0, kR2_1, kC3, kG3, kP3, kR3_0, kR3_1, kR3_2, kR3_3, kL4, kA4, kS4, kL5, kA5, kS5, kL6, kA6, kS6, kL7, kA7, kS7, kC8, kG8, kP8, kR8_0, kR8_1, kL9, kA9, kS9, kL10, kA10, kS10, kC11, kG11, kP11, kR11_0, kR11_1, kR11_2, kR11_3, kL12, kA12, kS12, kL13, kA13, kS13, kL14, kA14, kS14, kL15, kA15, kS15, kC16, kG16, kP16, kR16_0, kR16_1, kL17, kA17, kS17, kL18, kA18, kS18, kC19, kG19, kP19, kR19_0, kL20, kL141, kL146, kA146, kS146, kL151, kA151, kS151, kL156, kA156, kS156, kC157, kG157, kP157, kR157_0, kR157_1, kL158, kA158, kS158, kL159, kA159, kS159, kC161, kG161, kP161, kR161_0, kR161_1, kL162, kA162, kS162, kL163, kA163, kS163, kC165, kG165, kP165, kR165_0, kR165_1, kR165_2, kR165_3, kL166, kA166, kS166, kL167, kA167, kS167, kL168, kA168, kS168, kL169, kA169, kS169, kC170, kG170, kP170, kR170_0, kR170_1, kR170_2, kL171, kA171, kS171, kL172, kA172, kS172, kL173, kA173, kS173, kC174, kG174, kP174, kR174_0, kR174_1, kR174_2, kR174_3, kR174_4, kL175, kA175, kS175, kL176, kA176, kS176, kL177, kA177, kS177, kL178, kA178, kS178, kL179, kC180, kG180, kP180, kL181, kL182, kA182, kS182, kC183, kG183, kP183, kR183_1, kR183_3, kR183_5, kR183_6, kR183_7, kR183_8, kR183_9, kR183_21, kR183_26, kR183_27, kR183_30, kR183_31, kR183_33, kR183_34, kR183_36, kR183_37, kR183_38, kR183_39, kR183_40, kR183_41, kR183_42, kR183_43, kR183_44, kL184, kA184, kS184, kL185, kA185, kS185, kL186, kA186, kS186, kL187, kA187, kS187, kL188, kA188, kS188, kL189, kL190, kL191, kA191, kS191, kL192, kA192, kS192, kL193, kA193, kS193, kL194, kA194, kS194, kL195, kA195, kS195, kL196, kA196, kS196, kL197, kA197, kS197, kL198, kA198, kS198, kL199, kA199, kS199, kL200, kA200, kS200, kL201, kL202, kA202, kS202, kL203, kA203, kS203, kL204, kA204, kS204, kL205, kL206, kA206, kS206, show (nI 1 = 0) = False from eq_false (by decide), show (16 : Int32) = nI 16 from rfl, nn_add, show 16 + i = t by omega]
          · refine INV_i (H.hand hq hnx hea p3 p8 (I2 := xup (xup (xup (xup (kpI (xI σ) nx q) 17 t v) 1 15 (nI (st + 1))) 16 6 (nI (st + 1))) 16 7 (nI (st + 1))) ?_ ?_ (Nat.le_succ _) (Nat.succ_le_succ H.stn) (fun t ht => gUp_old (by omega)) (fun t ht => gUp_old (by omega)) ?_ (LV_tie (I := xI σ) hG.1 (x := t) (v := v) (by omega) (jB_b hj) H.now ?_ ?_ ?_ ?_ ?_ ?_) (.inl ?_))
            · intro a k h; rw [xup_at, if_neg (by omega), xup_at, if_neg (by omega), xup_at, if_neg (by omega), xup_at, if_neg (by omega)]
            · intro a k h; rw [xup_at, if_neg (by omega), xup_at, if_neg (by omega)]
            · rw [xup_at, if_neg (by omega), xup_at, if_neg (by omega), mkI_out (by omega) (by omega), xup_at, if_neg (by omega), xup_at, if_neg (by omega), xup_at, if_pos ⟨rfl, rfl⟩]
            · intro k hk; rw [xup_at, if_neg (by omega), xup_at, if_neg (by omega), mkI_out (by omega) (by omega), xup_at, if_neg (by omega), xup_at, if_neg (by omega), xup_at, if_neg (by omega), xup_at, if_neg (by omega), kpI_out (by omega) (by omega)]
            · rw [xup_at, if_neg (by omega), xup_at, if_neg (by omega), mkI_out (by omega) (by omega), xup_at, if_neg (by omega), xup_at, if_pos ⟨rfl, rfl⟩]
            · rw [xup_at, if_neg (by omega), xup_at, if_neg (by omega), mkI_out (by omega) (by omega), xup_at, if_pos ⟨rfl, rfl⟩]
            · intro k hk
              rw [xup_at, if_neg (by omega), xup_at, if_neg (by omega), mkI_out (by omega) (by omega), xup_at, if_neg (by omega), xup_at, if_neg (by omega), xup_at, if_neg (by omega), xup_at]
              by_cases hkt : k = t
              · subst hkt; simp [hen]
              · rw [if_neg (by omega), if_neg (by omega), kpI_out (by omega) (by omega)]
            · intro k hk
              rw [if_neg (by omega), xup_at, if_neg (by omega), xup_at, if_neg (by omega), mkI_out (by omega) (by omega), xup_at, if_neg (by omega), xup_at, if_neg (by omega), xup_at, if_neg (by omega), xup_at, if_neg (by omega), kpI_out (by omega) (by omega)]
            · intro k
              rw [xup_at, if_neg (by omega), xup_at]
              by_cases hkt : k = t
              · rw [if_pos ⟨rfl, hkt⟩, if_pos hkt]
              · rw [if_neg (by omega), if_neg hkt, mkI_out (by omega) (by omega), xup_at, if_neg (by omega), xup_at, if_neg (by omega), xup_at, if_neg (by omega), xup_at, if_neg (by omega), kpI_out (by omega) (by omega)]
            · rw [xup_at, if_pos ⟨rfl, rfl⟩]
      · refine ⟨0, σ, σ, ?_, ?_, g, gT, gP, st, H.nop⟩
        · show f_X11_tie (xw σ (xI σ)) 1 (nI i) (nI b) v = _
          unfold f_X11_tie
          simp (disch := first | assumption | omega) only [Option.bind_some, Option.map_some, xw_gR, xw_gN, xw_al, xw_ck, xw_uI, xw_ur, xup_at, xur_at, if_true, if_false, reduceIte, and_true, true_and, and_false, false_and, not_true_eq_false, not_false_eq_true, Nat.reduceEqDiff, eq_self, Nat.reduceAdd, Nat.reduceMul, kC1, kG1, kP1, kR1_0, kR1_1, kR1_2, kR1_3, kR1_4, kR1_5, kR1_6, kR1_7, kR1_8, kR1_9, kR1_10, kR1_11, kR1_12, kR1_13, kC2, kG2, kP2, kR2_0, kR2_1, kC3, kG3, kP3, kR3_0, kR3_1, kR3_2, kR3_3, kL4, kA4, kS4, kL5, kA5, kS5, kL6, kA6, kS6, kL7, kA7, kS7, kC8, kG8, kP8, kR8_0, kR8_1, kL9, kA9, kS9, kL10, kA10, kS10, kC11, kG11, kP11, kR11_0, kR11_1, kR11_2, kR11_3, kL12, kA12, kS12, kL13, kA13, kS13, kL14, kA14, kS14, kL15, kA15, kS15, kC16, kG16, kP16, kR16_0, kR16_1, kL17, kA17, kS17, kL18, kA18, kS18, kC19, kG19, kP19, kR19_0, kL20, kL141, kL146, kA146, kS146, kL151, kA151, kS151, kL156, kA156, kS156, kC157, kG157, kP157, kR157_0, kR157_1, kL158, kA158, kS158, kL159, kA159, kS159, kC161, kG161, kP161, kR161_0, kR161_1, kL162, kA162, kS162, kL163, kA163, kS163, kC165, kG165, kP165, kR165_0, kR165_1, kR165_2, kR165_3, kL166, kA166, kS166, kL167, kA167, kS167, kL168, kA168, kS168, kL169, kA169, kS169, kC170, kG170, kP170, kR170_0, kR170_1, kR170_2, kL171, kA171, kS171, kL172, kA172, kS172, kL173, kA173, kS173, kC174, kG174, kP174, kR174_0, kR174_1, kR174_2, kR174_3, kR174_4, kL175, kA175, kS175, kL176, kA176, kS176, kL177, kA177, kS177, kL178, kA178, kS178, kL179, kC180, kG180, kP180, kL181, kL182, kA182, kS182, kC183, kG183, kP183, kR183_1, kR183_3, kR183_5, kR183_6, kR183_7, kR183_8, kR183_9, kR183_21, kR183_26, kR183_27, kR183_30, kR183_31, kR183_33, kR183_34, kR183_36, kR183_37, kR183_38, kR183_39, kR183_40, kR183_41, kR183_42, kR183_43, kR183_44, kL184, kA184, kS184, kL185, kA185, kS185, kL186, kA186, kS186, kL187, kA187, kS187, kL188, kA188, kS188, kL189, kL190, kL191, kA191, kS191, kL192, kA192, kS192, kL193, kA193, kS193, kL194, kA194, kS194, kL195, kA195, kS195, kL196, kA196, kS196, kL197, kA197, kS197, kL198, kA198, kS198, kL199, kA199, kS199, kL200, kA200, kS200, kL201, kL202, kA202, kS202, kL203, kA203, kS203, kL204, kA204, kS204, kL205, kL206, kA206, kS206, tiePlace_ok hS hG hb hi, ← hti, hno, nn_m1, isJ_ok, hj]
          rfl
        · show f_X12_tie (xw σ (xI σ)) 183 (nI i) (nI b) v = _
          unfold f_X12_tie
          simp (disch := first | assumption | omega) only [Option.bind_some, Option.map_some, xw_gR, xw_gN, xw_al, xw_ck, xw_uI, xw_ur, xup_at, xur_at, if_true, if_false, reduceIte, and_true, true_and, and_false, false_and, not_true_eq_false, not_false_eq_true, Nat.reduceEqDiff, eq_self, Nat.reduceAdd, Nat.reduceMul, kC1, kG1, kP1, kR1_0, kR1_1, kR1_2, kR1_3, kR1_4, kR1_5, kR1_6, kR1_7, kR1_8, kR1_9, kR1_10, kR1_11, kR1_12, kR1_13, kC2, kG2, kP2, kR2_0, kR2_1, kC3, kG3, kP3, kR3_0, kR3_1, kR3_2, kR3_3, kL4, kA4, kS4, kL5, kA5, kS5, kL6, kA6, kS6, kL7, kA7, kS7, kC8, kG8, kP8, kR8_0, kR8_1, kL9, kA9, kS9, kL10, kA10, kS10, kC11, kG11, kP11, kR11_0, kR11_1, kR11_2, kR11_3, kL12, kA12, kS12, kL13, kA13, kS13, kL14, kA14, kS14, kL15, kA15, kS15, kC16, kG16, kP16, kR16_0, kR16_1, kL17, kA17, kS17, kL18, kA18, kS18, kC19, kG19, kP19, kR19_0, kL20, kL141, kL146, kA146, kS146, kL151, kA151, kS151, kL156, kA156, kS156, kC157, kG157, kP157, kR157_0, kR157_1, kL158, kA158, kS158, kL159, kA159, kS159, kC161, kG161, kP161, kR161_0, kR161_1, kL162, kA162, kS162, kL163, kA163, kS163, kC165, kG165, kP165, kR165_0, kR165_1, kR165_2, kR165_3, kL166, kA166, kS166, kL167, kA167, kS167, kL168, kA168, kS168, kL169, kA169, kS169, kC170, kG170, kP170, kR170_0, kR170_1, kR170_2, kL171, kA171, kS171, kL172, kA172, kS172, kL173, kA173, kS173, kC174, kG174, kP174, kR174_0, kR174_1, kR174_2, kR174_3, kR174_4, kL175, kA175, kS175, kL176, kA176, kS176, kL177, kA177, kS177, kL178, kA178, kS178, kL179, kC180, kG180, kP180, kL181, kL182, kA182, kS182, kC183, kG183, kP183, kR183_1, kR183_3, kR183_5, kR183_6, kR183_7, kR183_8, kR183_9, kR183_21, kR183_26, kR183_27, kR183_30, kR183_31, kR183_33, kR183_34, kR183_36, kR183_37, kR183_38, kR183_39, kR183_40, kR183_41, kR183_42, kR183_43, kR183_44, kL184, kA184, kS184, kL185, kA185, kS185, kL186, kA186, kS186, kL187, kA187, kS187, kL188, kA188, kS188, kL189, kL190, kL191, kA191, kS191, kL192, kA192, kS192, kL193, kA193, kS193, kL194, kA194, kS194, kL195, kA195, kS195, kL196, kA196, kS196, kL197, kA197, kS197, kL198, kA198, kS198, kL199, kA199, kS199, kL200, kA200, kS200, kL201, kL202, kA202, kS202, kL203, kA203, kS203, kL204, kA204, kS204, kL205, kL206, kA206, kS206, isSite_ok hS hG, hs, one0, in_J, hj]
          rfl
  · refine ⟨0, σ, σ, ?_, ?_, g, gT, gP, st, H.nop⟩
    · show f_X11_tie (xw σ (xI σ)) 1 x (nI b) v = _
      unfold f_X11_tie f_X3_tiePlace
      simp (disch := first | assumption | omega) only [Option.bind_some, Option.map_some, xw_gR, xw_gN, xw_al, xw_ck, xw_uI, xw_ur, xup_at, xur_at, if_true, if_false, reduceIte, and_true, true_and, and_false, false_and, not_true_eq_false, not_false_eq_true, Nat.reduceEqDiff, eq_self, Nat.reduceAdd, Nat.reduceMul, kC1, kG1, kP1, kR1_0, kR1_1, kR1_2, kR1_3, kR1_4, kR1_5, kR1_6, kR1_7, kR1_8, kR1_9, kR1_10, kR1_11, kR1_12, kR1_13, kC2, kG2, kP2, kR2_0, kR2_1, kC3, kG3, kP3, kR3_0, kR3_1, kR3_2, kR3_3, kL4, kA4, kS4, kL5, kA5, kS5, kL6, kA6, kS6, kL7, kA7, kS7, kC8, kG8, kP8, kR8_0, kR8_1, kL9, kA9, kS9, kL10, kA10, kS10, kC11, kG11, kP11, kR11_0, kR11_1, kR11_2, kR11_3, kL12, kA12, kS12, kL13, kA13, kS13, kL14, kA14, kS14, kL15, kA15, kS15, kC16, kG16, kP16, kR16_0, kR16_1, kL17, kA17, kS17, kL18, kA18, kS18, kC19, kG19, kP19, kR19_0, kL20, kL141, kL146, kA146, kS146, kL151, kA151, kS151, kL156, kA156, kS156, kC157, kG157, kP157, kR157_0, kR157_1, kL158, kA158, kS158, kL159, kA159, kS159, kC161, kG161, kP161, kR161_0, kR161_1, kL162, kA162, kS162, kL163, kA163, kS163, kC165, kG165, kP165, kR165_0, kR165_1, kR165_2, kR165_3, kL166, kA166, kS166, kL167, kA167, kS167, kL168, kA168, kS168, kL169, kA169, kS169, kC170, kG170, kP170, kR170_0, kR170_1, kR170_2, kL171, kA171, kS171, kL172, kA172, kS172, kL173, kA173, kS173, kC174, kG174, kP174, kR174_0, kR174_1, kR174_2, kR174_3, kR174_4, kL175, kA175, kS175, kL176, kA176, kS176, kL177, kA177, kS177, kL178, kA178, kS178, kL179, kC180, kG180, kP180, kL181, kL182, kA182, kS182, kC183, kG183, kP183, kR183_1, kR183_3, kR183_5, kR183_6, kR183_7, kR183_8, kR183_9, kR183_21, kR183_26, kR183_27, kR183_30, kR183_31, kR183_33, kR183_34, kR183_36, kR183_37, kR183_38, kR183_39, kR183_40, kR183_41, kR183_42, kR183_43, kR183_44, kL184, kA184, kS184, kL185, kA185, kS185, kL186, kA186, kS186, kL187, kA187, kS187, kL188, kA188, kS188, kL189, kL190, kL191, kA191, kS191, kL192, kA192, kS192, kL193, kA193, kS193, kL194, kA194, kS194, kL195, kA195, kS195, kL196, kA196, kS196, kL197, kA197, kS197, kL198, kA198, kS198, kL199, kA199, kS199, kL200, kA200, kS200, kL201, kL202, kA202, kS202, kL203, kA203, kS203, kL204, kA204, kS204, kL205, kL206, kA206, kS206, hasSite_ok hS hG, hs]
      rfl
    · show f_X12_tie (xw σ (xI σ)) 183 x (nI b) v = _
      unfold f_X12_tie
      simp (disch := first | assumption | omega) only [Option.bind_some, Option.map_some, xw_gR, xw_gN, xw_al, xw_ck, xw_uI, xw_ur, xup_at, xur_at, if_true, if_false, reduceIte, and_true, true_and, and_false, false_and, not_true_eq_false, not_false_eq_true, Nat.reduceEqDiff, eq_self, Nat.reduceAdd, Nat.reduceMul, kC1, kG1, kP1, kR1_0, kR1_1, kR1_2, kR1_3, kR1_4, kR1_5, kR1_6, kR1_7, kR1_8, kR1_9, kR1_10, kR1_11, kR1_12, kR1_13, kC2, kG2, kP2, kR2_0, kR2_1, kC3, kG3, kP3, kR3_0, kR3_1, kR3_2, kR3_3, kL4, kA4, kS4, kL5, kA5, kS5, kL6, kA6, kS6, kL7, kA7, kS7, kC8, kG8, kP8, kR8_0, kR8_1, kL9, kA9, kS9, kL10, kA10, kS10, kC11, kG11, kP11, kR11_0, kR11_1, kR11_2, kR11_3, kL12, kA12, kS12, kL13, kA13, kS13, kL14, kA14, kS14, kL15, kA15, kS15, kC16, kG16, kP16, kR16_0, kR16_1, kL17, kA17, kS17, kL18, kA18, kS18, kC19, kG19, kP19, kR19_0, kL20, kL141, kL146, kA146, kS146, kL151, kA151, kS151, kL156, kA156, kS156, kC157, kG157, kP157, kR157_0, kR157_1, kL158, kA158, kS158, kL159, kA159, kS159, kC161, kG161, kP161, kR161_0, kR161_1, kL162, kA162, kS162, kL163, kA163, kS163, kC165, kG165, kP165, kR165_0, kR165_1, kR165_2, kR165_3, kL166, kA166, kS166, kL167, kA167, kS167, kL168, kA168, kS168, kL169, kA169, kS169, kC170, kG170, kP170, kR170_0, kR170_1, kR170_2, kL171, kA171, kS171, kL172, kA172, kS172, kL173, kA173, kS173, kC174, kG174, kP174, kR174_0, kR174_1, kR174_2, kR174_3, kR174_4, kL175, kA175, kS175, kL176, kA176, kS176, kL177, kA177, kS177, kL178, kA178, kS178, kL179, kC180, kG180, kP180, kL181, kL182, kA182, kS182, kC183, kG183, kP183, kR183_1, kR183_3, kR183_5, kR183_6, kR183_7, kR183_8, kR183_9, kR183_21, kR183_26, kR183_27, kR183_30, kR183_31, kR183_33, kR183_34, kR183_36, kR183_37, kR183_38, kR183_39, kR183_40, kR183_41, kR183_42, kR183_43, kR183_44, kL184, kA184, kS184, kL185, kA185, kS185, kL186, kA186, kS186, kL187, kA187, kS187, kL188, kA188, kS188, kL189, kL190, kL191, kA191, kS191, kL192, kA192, kS192, kL193, kA193, kS193, kL194, kA194, kS194, kL195, kA195, kS195, kL196, kA196, kS196, kL197, kA197, kS197, kL198, kA198, kS198, kL199, kA199, kS199, kL200, kA200, kS200, kL201, kL202, kA202, kS202, kL203, kA203, kS203, kL204, kA204, kS204, kL205, kL206, kA206, kS206, isSite_ok hS hG, hs]
      rfl

theorem op_pull : Op_pull INV := by
  intro n σ hn ⟨g, gT, gP, st, H⟩ x v
  have hS := H.shp
  have hG := H.grd
  have h16 := (gAll_b g hG.1).2.2.1
  by_cases hs : isS g x = true
  · obtain ⟨i, hi, rfl⟩ := isS_t hs
    have hi16 : i < 16 := by omega
    obtain ⟨q, nx, ea, hq, hnx, hea, p1, p2, p3, p4, p8⟩ := H.pst
    obtain ⟨⟨-, e1, -⟩, -⟩ := H.now
    by_cases hj : jB v = true
    · have e1t : xI σ 18 i = xI σ 191 (32 + i) := by have := e1 i hi16; rw [if_pos hi] at this; exact this
      by_cases hv : xI σ 191 (32 + i) = v
      · refine ⟨0, σ, σ, ?_, ?_, g, gT, gP, st, H.nop⟩
        · show f_X11_pull (xw σ (xI σ)) 1 (nI i) v = _
          unfold f_X11_pull
          simp (disch := first | assumption | omega) only [Option.bind_some, Option.map_some, xw_gR, xw_gN, xw_al, xw_ck, xw_uI, xw_ur, xup_at, xur_at, if_true, if_false, reduceIte, and_true, true_and, and_false, false_and, not_true_eq_false, not_false_eq_true, Nat.reduceEqDiff, eq_self, Nat.reduceAdd, Nat.reduceMul, kC1, kG1, kP1, kR1_0, kR1_1, kR1_2, kR1_3, kR1_4, kR1_5, kR1_6, kR1_7, kR1_8, kR1_9, kR1_10, kR1_11, kR1_12, kR1_13, kC2, kG2, kP2, kR2_0, kR2_1, kC3, kG3, kP3, kR3_0, kR3_1, kR3_2, kR3_3, kL4, kA4, kS4, kL5, kA5, kS5, kL6, kA6, kS6, kL7, kA7, kS7, kC8, kG8, kP8, kR8_0, kR8_1, kL9, kA9, kS9, kL10, kA10, kS10, kC11, kG11, kP11, kR11_0, kR11_1, kR11_2, kR11_3, kL12, kA12, kS12, kL13, kA13, kS13, kL14, kA14, kS14, kL15, kA15, kS15, kC16, kG16, kP16, kR16_0, kR16_1, kL17, kA17, kS17, kL18, kA18, kS18, kC19, kG19, kP19, kR19_0, kL20, kL141, kL146, kA146, kS146, kL151, kA151, kS151, kL156, kA156, kS156, kC157, kG157, kP157, kR157_0, kR157_1, kL158, kA158, kS158, kL159, kA159, kS159, kC161, kG161, kP161, kR161_0, kR161_1, kL162, kA162, kS162, kL163, kA163, kS163, kC165, kG165, kP165, kR165_0, kR165_1, kR165_2, kR165_3, kL166, kA166, kS166, kL167, kA167, kS167, kL168, kA168, kS168, kL169, kA169, kS169, kC170, kG170, kP170, kR170_0, kR170_1, kR170_2, kL171, kA171, kS171, kL172, kA172, kS172, kL173, kA173, kS173, kC174, kG174, kP174, kR174_0, kR174_1, kR174_2, kR174_3, kR174_4, kL175, kA175, kS175, kL176, kA176, kS176, kL177, kA177, kS177, kL178, kA178, kS178, kL179, kC180, kG180, kP180, kL181, kL182, kA182, kS182, kC183, kG183, kP183, kR183_1, kR183_3, kR183_5, kR183_6, kR183_7, kR183_8, kR183_9, kR183_21, kR183_26, kR183_27, kR183_30, kR183_31, kR183_33, kR183_34, kR183_36, kR183_37, kR183_38, kR183_39, kR183_40, kR183_41, kR183_42, kR183_43, kR183_44, kL184, kA184, kS184, kL185, kA185, kS185, kL186, kA186, kS186, kL187, kA187, kS187, kL188, kA188, kS188, kL189, kL190, kL191, kA191, kS191, kL192, kA192, kS192, kL193, kA193, kS193, kL194, kA194, kS194, kL195, kA195, kS195, kL196, kA196, kS196, kL197, kA197, kS197, kL198, kA198, kS198, kL199, kA199, kS199, kL200, kA200, kS200, kL201, kL202, kA202, kS202, kL203, kA203, kS203, kL204, kA204, kS204, kL205, kL206, kA206, kS206, hasSite_ok hS hG, hs, one0, isJ_ok, hj, fieldAt_ok hS suA_16 hi16, e1t, hv]
          rfl
        · show f_X12_pull (xw σ (xI σ)) 183 (nI i) v = _
          unfold f_X12_pull
          simp (disch := first | assumption | omega) only [Option.bind_some, Option.map_some, xw_gR, xw_gN, xw_al, xw_ck, xw_uI, xw_ur, xup_at, xur_at, if_true, if_false, reduceIte, and_true, true_and, and_false, false_and, not_true_eq_false, not_false_eq_true, Nat.reduceEqDiff, eq_self, Nat.reduceAdd, Nat.reduceMul, kC1, kG1, kP1, kR1_0, kR1_1, kR1_2, kR1_3, kR1_4, kR1_5, kR1_6, kR1_7, kR1_8, kR1_9, kR1_10, kR1_11, kR1_12, kR1_13, kC2, kG2, kP2, kR2_0, kR2_1, kC3, kG3, kP3, kR3_0, kR3_1, kR3_2, kR3_3, kL4, kA4, kS4, kL5, kA5, kS5, kL6, kA6, kS6, kL7, kA7, kS7, kC8, kG8, kP8, kR8_0, kR8_1, kL9, kA9, kS9, kL10, kA10, kS10, kC11, kG11, kP11, kR11_0, kR11_1, kR11_2, kR11_3, kL12, kA12, kS12, kL13, kA13, kS13, kL14, kA14, kS14, kL15, kA15, kS15, kC16, kG16, kP16, kR16_0, kR16_1, kL17, kA17, kS17, kL18, kA18, kS18, kC19, kG19, kP19, kR19_0, kL20, kL141, kL146, kA146, kS146, kL151, kA151, kS151, kL156, kA156, kS156, kC157, kG157, kP157, kR157_0, kR157_1, kL158, kA158, kS158, kL159, kA159, kS159, kC161, kG161, kP161, kR161_0, kR161_1, kL162, kA162, kS162, kL163, kA163, kS163, kC165, kG165, kP165, kR165_0, kR165_1, kR165_2, kR165_3, kL166, kA166, kS166, kL167, kA167, kS167, kL168, kA168, kS168, kL169, kA169, kS169, kC170, kG170, kP170, kR170_0, kR170_1, kR170_2, kL171, kA171, kS171, kL172, kA172, kS172, kL173, kA173, kS173, kC174, kG174, kP174, kR174_0, kR174_1, kR174_2, kR174_3, kR174_4, kL175, kA175, kS175, kL176, kA176, kS176, kL177, kA177, kS177, kL178, kA178, kS178, kL179, kC180, kG180, kP180, kL181, kL182, kA182, kS182, kC183, kG183, kP183, kR183_1, kR183_3, kR183_5, kR183_6, kR183_7, kR183_8, kR183_9, kR183_21, kR183_26, kR183_27, kR183_30, kR183_31, kR183_33, kR183_34, kR183_36, kR183_37, kR183_38, kR183_39, kR183_40, kR183_41, kR183_42, kR183_43, kR183_44, kL184, kA184, kS184, kL185, kA185, kS185, kL186, kA186, kS186, kL187, kA187, kS187, kL188, kA188, kS188, kL189, kL190, kL191, kA191, kS191, kL192, kA192, kS192, kL193, kA193, kS193, kL194, kA194, kS194, kL195, kA195, kS195, kL196, kA196, kS196, kL197, kA197, kS197, kL198, kA198, kS198, kL199, kA199, kS199, kL200, kA200, kS200, kL201, kL202, kA202, kS202, kL203, kA203, kS203, kL204, kA204, kS204, kL205, kL206, kA206, kS206, isSite_ok hS hG, hs, one0, in_J, hj, show (32 : Int32) = nI 32 from rfl, nn_add, hv]
          rfl
      · refine ⟨1, xw σ (xup (xup (xup (xup (kpI (xI σ) nx q) 18 i v) 1 15 (nI (st + 1))) 16 6 (nI (st + 1))) 16 7 (nI (st + 1))), xw σ (xup (xup (mkI (xup (xup (xup (xup (kpI (xI σ) nx q) 18 i v) 1 15 (nI (st + 1))) 16 6 (nI (st + 1))) 16 7 (nI (st + 1))) ea q) 191 (32 + i) v) 183 32 0), ?_, ?_, ?_⟩
        · show f_X11_pull (xw σ (xI σ)) 1 (nI i) v = _
          unfold f_X11_pull
          have stp : f_X11_stampTies (xw σ (xup (kpI (xI σ) nx q) 18 i v)) 1 = _ := stampTies_ok (st := st) hS (by rw [xup_at, if_neg (by omega), kpI_out (by omega) (by omega)]; exact H.sts)
          simp (disch := first | assumption | omega) only [Option.bind_some, Option.map_some, xw_gR, xw_gN, xw_al, xw_ck, xw_uI, xw_ur, xup_at, xur_at, if_true, if_false, reduceIte, and_true, true_and, and_false, false_and, not_true_eq_false, not_false_eq_true, Nat.reduceEqDiff, eq_self, Nat.reduceAdd, Nat.reduceMul, kC1, kG1, kP1, kR1_0, kR1_1, kR1_2, kR1_3, kR1_4, kR1_5, kR1_6, kR1_7, kR1_8, kR1_9, kR1_10, kR1_11, kR1_12, kR1_13, kC2, kG2, kP2, kR2_0, kR2_1, kC3, kG3, kP3, kR3_0, kR3_1, kR3_2, kR3_3, kL4, kA4, kS4, kL5, kA5, kS5, kL6, kA6, kS6, kL7, kA7, kS7, kC8, kG8, kP8, kR8_0, kR8_1, kL9, kA9, kS9, kL10, kA10, kS10, kC11, kG11, kP11, kR11_0, kR11_1, kR11_2, kR11_3, kL12, kA12, kS12, kL13, kA13, kS13, kL14, kA14, kS14, kL15, kA15, kS15, kC16, kG16, kP16, kR16_0, kR16_1, kL17, kA17, kS17, kL18, kA18, kS18, kC19, kG19, kP19, kR19_0, kL20, kL141, kL146, kA146, kS146, kL151, kA151, kS151, kL156, kA156, kS156, kC157, kG157, kP157, kR157_0, kR157_1, kL158, kA158, kS158, kL159, kA159, kS159, kC161, kG161, kP161, kR161_0, kR161_1, kL162, kA162, kS162, kL163, kA163, kS163, kC165, kG165, kP165, kR165_0, kR165_1, kR165_2, kR165_3, kL166, kA166, kS166, kL167, kA167, kS167, kL168, kA168, kS168, kL169, kA169, kS169, kC170, kG170, kP170, kR170_0, kR170_1, kR170_2, kL171, kA171, kS171, kL172, kA172, kS172, kL173, kA173, kS173, kC174, kG174, kP174, kR174_0, kR174_1, kR174_2, kR174_3, kR174_4, kL175, kA175, kS175, kL176, kA176, kS176, kL177, kA177, kS177, kL178, kA178, kS178, kL179, kC180, kG180, kP180, kL181, kL182, kA182, kS182, kC183, kG183, kP183, kR183_1, kR183_3, kR183_5, kR183_6, kR183_7, kR183_8, kR183_9, kR183_21, kR183_26, kR183_27, kR183_30, kR183_31, kR183_33, kR183_34, kR183_36, kR183_37, kR183_38, kR183_39, kR183_40, kR183_41, kR183_42, kR183_43, kR183_44, kL184, kA184, kS184, kL185, kA185, kS185, kL186, kA186, kS186, kL187, kA187, kS187, kL188, kA188, kS188, kL189, kL190, kL191, kA191, kS191, kL192, kA192, kS192, kL193, kA193, kS193, kL194, kA194, kS194, kL195, kA195, kS195, kL196, kA196, kS196, kL197, kA197, kS197, kL198, kA198, kS198, kL199, kA199, kS199, kL200, kA200, kS200, kL201, kL202, kA202, kS202, kL203, kA203, kS203, kL204, kA204, kS204, kL205, kL206, kA206, kS206, hasSite_ok hS hG, hs, isJ_ok, hj, one0, fieldAt_ok hS suA_16 hi16, e1t, hv, keep_ok hS hnx hq p1 p2, setField_ok hS suA_16 hi16, stp]
        · unfold f_X12_pull
          have hG2 : GRD (xup (xup (xup (xup (kpI (xI σ) nx q) 18 i v) 1 15 (nI (st + 1))) 16 6 (nI (st + 1))) 16 7 (nI (st + 1))) g := GRD_c (fun a k z => by unfold sGRD at z; rw [xup_at, if_neg (by omega), xup_at, if_neg (by omega), xup_at, if_neg (by omega), xup_at, if_neg (by omega), kpI_out (by omega) (by omega)]) hG
          have m1 : f_X12_marks (xw σ (xup (xup (xup (xup (kpI (xI σ) nx q) 18 i v) 1 15 (nI (st + 1))) 16 6 (nI (st + 1))) 16 7 (nI (st + 1)))) 183 = _ := marks_ok (ea := ea) (q := q) hS hea hq (by rw [xup_at, if_neg (by omega), xup_at, if_neg (by omega), xup_at, if_neg (by omega), xup_at, if_neg (by omega), kpI_out (by omega) (by omega)]; exact p3) (by rw [xup_at, if_neg (by omega), xup_at, if_neg (by omega), xup_at, if_neg (by omega), xup_at, if_neg (by omega), kpI_out (by omega) (by omega)]; exact p4)
          simp (disch := first | assumption | omega) only [Option.bind_some, Option.map_some, xw_gR, xw_gN, xw_al, xw_ck, xw_uI, xw_ur, xup_at, xur_at, if_true, if_false, reduceIte, and_true, true_and, and_false, false_and, not_true_eq_false, not_false_eq_true, Nat.reduceEqDiff, eq_self, Nat.reduceAdd, Nat.reduceMul, kC1, kG1, kP1, kR1_0, kR1_1, kR1_2, kR1_3, kR1_4, kR1_5, kR1_6, kR1_7, kR1_8, kR1_9, kR1_10, kR1_11, kR1_12, kR1_13, kC2, kG2, kP2, kR2_0, kR2_1, kC3, kG3, kP3, kR3_0, kR3_1, kR3_2, kR3_3, kL4, kA4, kS4, kL5, kA5, kS5, kL6, kA6, kS6, kL7, kA7, kS7, kC8, kG8, kP8, kR8_0, kR8_1, kL9, kA9, kS9, kL10, kA10, kS10, kC11, kG11, kP11, kR11_0, kR11_1, kR11_2, kR11_3, kL12, kA12, kS12, kL13, kA13, kS13, kL14, kA14, kS14, kL15, kA15, kS15, kC16, kG16, kP16, kR16_0, kR16_1, kL17, kA17, kS17, kL18, kA18, kS18, kC19, kG19, kP19, kR19_0, kL20, kL141, kL146, kA146, kS146, kL151, kA151, kS151, kL156, kA156, kS156, kC157, kG157, kP157, kR157_0, kR157_1, kL158, kA158, kS158, kL159, kA159, kS159, kC161, kG161, kP161, kR161_0, kR161_1, kL162, kA162, kS162, kL163, kA163, kS163, kC165, kG165, kP165, kR165_0, kR165_1, kR165_2, kR165_3, kL166, kA166, kS166, kL167, kA167, kS167, kL168, kA168, kS168, kL169, kA169, kS169, kC170, kG170, kP170, kR170_0, kR170_1, kR170_2, kL171, kA171, kS171, kL172, kA172, kS172, kL173, kA173, kS173, kC174, kG174, kP174, kR174_0, kR174_1, kR174_2, kR174_3, kR174_4, kL175, kA175, kS175, kL176, kA176, kS176, kL177, kA177, kS177, kL178, kA178, kS178, kL179, kC180, kG180, kP180, kL181, kL182, kA182, kS182, kC183, kG183, kP183, kR183_1, kR183_3, kR183_5, kR183_6, kR183_7, kR183_8, kR183_9, kR183_21, kR183_26, kR183_27, kR183_30, kR183_31, kR183_33, kR183_34, kR183_36, kR183_37, kR183_38, kR183_39, kR183_40, kR183_41, kR183_42, kR183_43, kR183_44, kL184, kA184, kS184, kL185, kA185, kS185, kL186, kA186, kS186, kL187, kA187, kS187, kL188, kA188, kS188, kL189, kL190, kL191, kA191, kS191, kL192, kA192, kS192, kL193, kA193, kS193, kL194, kA194, kS194, kL195, kA195, kS195, kL196, kA196, kS196, kL197, kA197, kS197, kL198, kA198, kS198, kL199, kA199, kS199, kL200, kA200, kS200, kL201, kL202, kA202, kS202, kL203, kA203, kS203, kL204, kA204, kS204, kL205, kL206, kA206, kS206, isSite_ok hS hG2, hs, one0, in_J, hj, show (32 : Int32) = nI 32 from rfl, nn_add, kpI_out, hv, m1]
        · refine INV_i (H.hand hq hnx hea p3 p8 (I2 := xup (xup (xup (xup (kpI (xI σ) nx q) 18 i v) 1 15 (nI (st + 1))) 16 6 (nI (st + 1))) 16 7 (nI (st + 1))) ?_ ?_ (Nat.le_succ _) (Nat.succ_le_succ H.stn) (fun t ht => gUp_old (by omega)) (fun t ht => gUp_old (by omega)) ?_ (LV_tie (I := xI σ) hG.1 (x := 32 + i) (v := v) (by omega) (jB_b hj) H.now ?_ ?_ ?_ ?_ ?_ ?_) (.inl ?_))
          · intro a k h; rw [xup_at, if_neg (by omega), xup_at, if_neg (by omega), xup_at, if_neg (by omega), xup_at, if_neg (by omega)]
          · intro a k h; rw [xup_at, if_neg (by omega), xup_at, if_neg (by omega)]
          · rw [xup_at, if_neg (by omega), xup_at, if_neg (by omega), mkI_out (by omega) (by omega), xup_at, if_neg (by omega), xup_at, if_neg (by omega), xup_at, if_pos ⟨rfl, rfl⟩]
          · intro k hk; rw [xup_at, if_neg (by omega), xup_at, if_neg (by omega), mkI_out (by omega) (by omega), xup_at, if_neg (by omega), xup_at, if_neg (by omega), xup_at, if_neg (by omega), xup_at, if_neg (by omega), kpI_out (by omega) (by omega)]
          · rw [xup_at, if_neg (by omega), xup_at, if_neg (by omega), mkI_out (by omega) (by omega), xup_at, if_neg (by omega), xup_at, if_pos ⟨rfl, rfl⟩]
          · rw [xup_at, if_neg (by omega), xup_at, if_neg (by omega), mkI_out (by omega) (by omega), xup_at, if_pos ⟨rfl, rfl⟩]
          · intro k hk
            rw [if_neg (by omega), xup_at, if_neg (by omega), xup_at, if_neg (by omega), mkI_out (by omega) (by omega), xup_at, if_neg (by omega), xup_at, if_neg (by omega), xup_at, if_neg (by omega), xup_at, if_neg (by omega), kpI_out (by omega) (by omega)]
          · intro k hk
            rw [xup_at, if_neg (by omega), xup_at, if_neg (by omega), mkI_out (by omega) (by omega), xup_at, if_neg (by omega), xup_at, if_neg (by omega), xup_at, if_neg (by omega), xup_at]
            by_cases hkt : k = i
            · subst hkt; simp [hi]
            · rw [if_neg (by omega), if_neg (by omega), kpI_out (by omega) (by omega)]
          · intro k
            rw [xup_at, if_neg (by omega), xup_at]
            by_cases hkt : k = 32 + i
            · rw [if_pos ⟨rfl, hkt⟩, if_pos hkt]
            · rw [if_neg (by omega), if_neg hkt, mkI_out (by omega) (by omega), xup_at, if_neg (by omega), xup_at, if_neg (by omega), xup_at, if_neg (by omega), xup_at, if_neg (by omega), kpI_out (by omega) (by omega)]
          · rw [xup_at, if_pos ⟨rfl, rfl⟩]
    · refine ⟨0, σ, σ, ?_, ?_, g, gT, gP, st, H.nop⟩
      · show f_X11_pull (xw σ (xI σ)) 1 (nI i) v = _
        unfold f_X11_pull
        simp (disch := first | assumption | omega) only [Option.bind_some, Option.map_some, xw_gR, xw_gN, xw_al, xw_ck, xw_uI, xw_ur, xup_at, xur_at, if_true, if_false, reduceIte, and_true, true_and, and_false, false_and, not_true_eq_false, not_false_eq_true, Nat.reduceEqDiff, eq_self, Nat.reduceAdd, Nat.reduceMul, kC1, kG1, kP1, kR1_0, kR1_1, kR1_2, kR1_3, kR1_4, kR1_5, kR1_6, kR1_7, kR1_8, kR1_9, kR1_10, kR1_11, kR1_12, kR1_13, kC2, kG2, kP2, kR2_0, kR2_1, kC3, kG3, kP3, kR3_0, kR3_1, kR3_2, kR3_3, kL4, kA4, kS4, kL5, kA5, kS5, kL6, kA6, kS6, kL7, kA7, kS7, kC8, kG8, kP8, kR8_0, kR8_1, kL9, kA9, kS9, kL10, kA10, kS10, kC11, kG11, kP11, kR11_0, kR11_1, kR11_2, kR11_3, kL12, kA12, kS12, kL13, kA13, kS13, kL14, kA14, kS14, kL15, kA15, kS15, kC16, kG16, kP16, kR16_0, kR16_1, kL17, kA17, kS17, kL18, kA18, kS18, kC19, kG19, kP19, kR19_0, kL20, kL141, kL146, kA146, kS146, kL151, kA151, kS151, kL156, kA156, kS156, kC157, kG157, kP157, kR157_0, kR157_1, kL158, kA158, kS158, kL159, kA159, kS159, kC161, kG161, kP161, kR161_0, kR161_1, kL162, kA162, kS162, kL163, kA163, kS163, kC165, kG165, kP165, kR165_0, kR165_1, kR165_2, kR165_3, kL166, kA166, kS166, kL167, kA167, kS167, kL168, kA168, kS168, kL169, kA169, kS169, kC170, kG170, kP170, kR170_0, kR170_1, kR170_2, kL171, kA171, kS171, kL172, kA172, kS172, kL173, kA173, kS173, kC174, kG174, kP174, kR174_0, kR174_1, kR174_2, kR174_3, kR174_4, kL175, kA175, kS175, kL176, kA176, kS176, kL177, kA177, kS177, kL178, kA178, kS178, kL179, kC180, kG180, kP180, kL181, kL182, kA182, kS182, kC183, kG183, kP183, kR183_1, kR183_3, kR183_5, kR183_6, kR183_7, kR183_8, kR183_9, kR183_21, kR183_26, kR183_27, kR183_30, kR183_31, kR183_33, kR183_34, kR183_36, kR183_37, kR183_38, kR183_39, kR183_40, kR183_41, kR183_42, kR183_43, kR183_44, kL184, kA184, kS184, kL185, kA185, kS185, kL186, kA186, kS186, kL187, kA187, kS187, kL188, kA188, kS188, kL189, kL190, kL191, kA191, kS191, kL192, kA192, kS192, kL193, kA193, kS193, kL194, kA194, kS194, kL195, kA195, kS195, kL196, kA196, kS196, kL197, kA197, kS197, kL198, kA198, kS198, kL199, kA199, kS199, kL200, kA200, kS200, kL201, kL202, kA202, kS202, kL203, kA203, kS203, kL204, kA204, kS204, kL205, kL206, kA206, kS206, hasSite_ok hS hG, hs, one0, isJ_ok, hj]
        rfl
      · show f_X12_pull (xw σ (xI σ)) 183 (nI i) v = _
        unfold f_X12_pull
        simp (disch := first | assumption | omega) only [Option.bind_some, Option.map_some, xw_gR, xw_gN, xw_al, xw_ck, xw_uI, xw_ur, xup_at, xur_at, if_true, if_false, reduceIte, and_true, true_and, and_false, false_and, not_true_eq_false, not_false_eq_true, Nat.reduceEqDiff, eq_self, Nat.reduceAdd, Nat.reduceMul, kC1, kG1, kP1, kR1_0, kR1_1, kR1_2, kR1_3, kR1_4, kR1_5, kR1_6, kR1_7, kR1_8, kR1_9, kR1_10, kR1_11, kR1_12, kR1_13, kC2, kG2, kP2, kR2_0, kR2_1, kC3, kG3, kP3, kR3_0, kR3_1, kR3_2, kR3_3, kL4, kA4, kS4, kL5, kA5, kS5, kL6, kA6, kS6, kL7, kA7, kS7, kC8, kG8, kP8, kR8_0, kR8_1, kL9, kA9, kS9, kL10, kA10, kS10, kC11, kG11, kP11, kR11_0, kR11_1, kR11_2, kR11_3, kL12, kA12, kS12, kL13, kA13, kS13, kL14, kA14, kS14, kL15, kA15, kS15, kC16, kG16, kP16, kR16_0, kR16_1, kL17, kA17, kS17, kL18, kA18, kS18, kC19, kG19, kP19, kR19_0, kL20, kL141, kL146, kA146, kS146, kL151, kA151, kS151, kL156, kA156, kS156, kC157, kG157, kP157, kR157_0, kR157_1, kL158, kA158, kS158, kL159, kA159, kS159, kC161, kG161, kP161, kR161_0, kR161_1, kL162, kA162, kS162, kL163, kA163, kS163, kC165, kG165, kP165, kR165_0, kR165_1, kR165_2, kR165_3, kL166, kA166, kS166, kL167, kA167, kS167, kL168, kA168, kS168, kL169, kA169, kS169, kC170, kG170, kP170, kR170_0, kR170_1, kR170_2, kL171, kA171, kS171, kL172, kA172, kS172, kL173, kA173, kS173, kC174, kG174, kP174, kR174_0, kR174_1, kR174_2, kR174_3, kR174_4, kL175, kA175, kS175, kL176, kA176, kS176, kL177, kA177, kS177, kL178, kA178, kS178, kL179, kC180, kG180, kP180, kL181, kL182, kA182, kS182, kC183, kG183, kP183, kR183_1, kR183_3, kR183_5, kR183_6, kR183_7, kR183_8, kR183_9, kR183_21, kR183_26, kR183_27, kR183_30, kR183_31, kR183_33, kR183_34, kR183_36, kR183_37, kR183_38, kR183_39, kR183_40, kR183_41, kR183_42, kR183_43, kR183_44, kL184, kA184, kS184, kL185, kA185, kS185, kL186, kA186, kS186, kL187, kA187, kS187, kL188, kA188, kS188, kL189, kL190, kL191, kA191, kS191, kL192, kA192, kS192, kL193, kA193, kS193, kL194, kA194, kS194, kL195, kA195, kS195, kL196, kA196, kS196, kL197, kA197, kS197, kL198, kA198, kS198, kL199, kA199, kS199, kL200, kA200, kS200, kL201, kL202, kA202, kS202, kL203, kA203, kS203, kL204, kA204, kS204, kL205, kL206, kA206, kS206, isSite_ok hS hG, hs, one0, in_J, hj]
        rfl
  · refine ⟨0, σ, σ, ?_, ?_, g, gT, gP, st, H.nop⟩
    · show f_X11_pull (xw σ (xI σ)) 1 x v = _
      unfold f_X11_pull
      simp (disch := first | assumption | omega) only [Option.bind_some, Option.map_some, xw_gR, xw_gN, xw_al, xw_ck, xw_uI, xw_ur, xup_at, xur_at, if_true, if_false, reduceIte, and_true, true_and, and_false, false_and, not_true_eq_false, not_false_eq_true, Nat.reduceEqDiff, eq_self, Nat.reduceAdd, Nat.reduceMul, kC1, kG1, kP1, kR1_0, kR1_1, kR1_2, kR1_3, kR1_4, kR1_5, kR1_6, kR1_7, kR1_8, kR1_9, kR1_10, kR1_11, kR1_12, kR1_13, kC2, kG2, kP2, kR2_0, kR2_1, kC3, kG3, kP3, kR3_0, kR3_1, kR3_2, kR3_3, kL4, kA4, kS4, kL5, kA5, kS5, kL6, kA6, kS6, kL7, kA7, kS7, kC8, kG8, kP8, kR8_0, kR8_1, kL9, kA9, kS9, kL10, kA10, kS10, kC11, kG11, kP11, kR11_0, kR11_1, kR11_2, kR11_3, kL12, kA12, kS12, kL13, kA13, kS13, kL14, kA14, kS14, kL15, kA15, kS15, kC16, kG16, kP16, kR16_0, kR16_1, kL17, kA17, kS17, kL18, kA18, kS18, kC19, kG19, kP19, kR19_0, kL20, kL141, kL146, kA146, kS146, kL151, kA151, kS151, kL156, kA156, kS156, kC157, kG157, kP157, kR157_0, kR157_1, kL158, kA158, kS158, kL159, kA159, kS159, kC161, kG161, kP161, kR161_0, kR161_1, kL162, kA162, kS162, kL163, kA163, kS163, kC165, kG165, kP165, kR165_0, kR165_1, kR165_2, kR165_3, kL166, kA166, kS166, kL167, kA167, kS167, kL168, kA168, kS168, kL169, kA169, kS169, kC170, kG170, kP170, kR170_0, kR170_1, kR170_2, kL171, kA171, kS171, kL172, kA172, kS172, kL173, kA173, kS173, kC174, kG174, kP174, kR174_0, kR174_1, kR174_2, kR174_3, kR174_4, kL175, kA175, kS175, kL176, kA176, kS176, kL177, kA177, kS177, kL178, kA178, kS178, kL179, kC180, kG180, kP180, kL181, kL182, kA182, kS182, kC183, kG183, kP183, kR183_1, kR183_3, kR183_5, kR183_6, kR183_7, kR183_8, kR183_9, kR183_21, kR183_26, kR183_27, kR183_30, kR183_31, kR183_33, kR183_34, kR183_36, kR183_37, kR183_38, kR183_39, kR183_40, kR183_41, kR183_42, kR183_43, kR183_44, kL184, kA184, kS184, kL185, kA185, kS185, kL186, kA186, kS186, kL187, kA187, kS187, kL188, kA188, kS188, kL189, kL190, kL191, kA191, kS191, kL192, kA192, kS192, kL193, kA193, kS193, kL194, kA194, kS194, kL195, kA195, kS195, kL196, kA196, kS196, kL197, kA197, kS197, kL198, kA198, kS198, kL199, kA199, kS199, kL200, kA200, kS200, kL201, kL202, kA202, kS202, kL203, kA203, kS203, kL204, kA204, kS204, kL205, kL206, kA206, kS206, hasSite_ok hS hG, hs]
      rfl
    · show f_X12_pull (xw σ (xI σ)) 183 x v = _
      unfold f_X12_pull
      simp (disch := first | assumption | omega) only [Option.bind_some, Option.map_some, xw_gR, xw_gN, xw_al, xw_ck, xw_uI, xw_ur, xup_at, xur_at, if_true, if_false, reduceIte, and_true, true_and, and_false, false_and, not_true_eq_false, not_false_eq_true, Nat.reduceEqDiff, eq_self, Nat.reduceAdd, Nat.reduceMul, kC1, kG1, kP1, kR1_0, kR1_1, kR1_2, kR1_3, kR1_4, kR1_5, kR1_6, kR1_7, kR1_8, kR1_9, kR1_10, kR1_11, kR1_12, kR1_13, kC2, kG2, kP2, kR2_0, kR2_1, kC3, kG3, kP3, kR3_0, kR3_1, kR3_2, kR3_3, kL4, kA4, kS4, kL5, kA5, kS5, kL6, kA6, kS6, kL7, kA7, kS7, kC8, kG8, kP8, kR8_0, kR8_1, kL9, kA9, kS9, kL10, kA10, kS10, kC11, kG11, kP11, kR11_0, kR11_1, kR11_2, kR11_3, kL12, kA12, kS12, kL13, kA13, kS13, kL14, kA14, kS14, kL15, kA15, kS15, kC16, kG16, kP16, kR16_0, kR16_1, kL17, kA17, kS17, kL18, kA18, kS18, kC19, kG19, kP19, kR19_0, kL20, kL141, kL146, kA146, kS146, kL151, kA151, kS151, kL156, kA156, kS156, kC157, kG157, kP157, kR157_0, kR157_1, kL158, kA158, kS158, kL159, kA159, kS159, kC161, kG161, kP161, kR161_0, kR161_1, kL162, kA162, kS162, kL163, kA163, kS163, kC165, kG165, kP165, kR165_0, kR165_1, kR165_2, kR165_3, kL166, kA166, kS166, kL167, kA167, kS167, kL168, kA168, kS168, kL169, kA169, kS169, kC170, kG170, kP170, kR170_0, kR170_1, kR170_2, kL171, kA171, kS171, kL172, kA172, kS172, kL173, kA173, kS173, kC174, kG174, kP174, kR174_0, kR174_1, kR174_2, kR174_3, kR174_4, kL175, kA175, kS175, kL176, kA176, kS176, kL177, kA177, kS177, kL178, kA178, kS178, kL179, kC180, kG180, kP180, kL181, kL182, kA182, kS182, kC183, kG183, kP183, kR183_1, kR183_3, kR183_5, kR183_6, kR183_7, kR183_8, kR183_9, kR183_21, kR183_26, kR183_27, kR183_30, kR183_31, kR183_33, kR183_34, kR183_36, kR183_37, kR183_38, kR183_39, kR183_40, kR183_41, kR183_42, kR183_43, kR183_44, kL184, kA184, kS184, kL185, kA185, kS185, kL186, kA186, kS186, kL187, kA187, kS187, kL188, kA188, kS188, kL189, kL190, kL191, kA191, kS191, kL192, kA192, kS192, kL193, kA193, kS193, kL194, kA194, kS194, kL195, kA195, kS195, kL196, kA196, kS196, kL197, kA197, kS197, kL198, kA198, kS198, kL199, kA199, kS199, kL200, kA200, kS200, kL201, kL202, kA202, kS202, kL203, kA203, kS203, kL204, kA204, kS204, kL205, kL206, kA206, kS206, isSite_ok hS hG, hs]
      rfl
end
section
/-! pin -/
theorem nn_andn (a b : Nat) : nI a &&& (nI b ^^^ (-1)) = nI (a &&& (b ^^^ 4294967295)) := by
  rw [show (-1 : Int32) = nI 4294967295 by decide, nn_xor, fa_and]
theorem andn_bit (a b j : Nat) (hj : j < 32) : (a &&& (b ^^^ 4294967295)).testBit j = (a.testBit j && !b.testBit j) := by
  rw [Nat.testBit_and, Nat.testBit_xor, show (4294967295 : Nat) = 2 ^ 32 - 1 from rfl, Nat.testBit_two_pow_sub_one]
  simp [hj]
section PIN
variable {g : GD} {gT gP : GH} {st : Nat} {I I' : Nat → Nat → Int32}
theorem LV_pin (hg : g ∈ gAll) {i p' u' b' : Nat} {v : Int32} (hi : i < gSz g) (hv : v = 0 ∨ v = 1 ∨ v = 2) (H : LV g gT gP st I 16 (I 191))
    (h2 : I' 16 2 = nI p') (h3 : I' 16 3 = nI u') (h4 : I' 16 4 = nI b') (h5 : I' 16 5 = I 16 5) (h6 : I' 16 6 = I 16 6) (h7 : I' 16 7 = nI (st + 1))
    (h1 : ∀ a k, 17 ≤ a → a ≤ 18 → I' a k = I a k) (hr : ∀ k, k ≠ 64 → I' 191 k = if k = 48 + i then v else I 191 k) (hr4 : I' 191 64 = nI b')
    (hp : ∀ j, p'.testBit j = (decide (j < gSz g) && decide (I' 191 (48 + j) ≠ 0))) (hu : ∀ j, u'.testBit j = (decide (j < gSz g) && decide (I' 191 (48 + j) = 1))) (hb : b' < 2 ^ gSz g)
    (hl : ∀ j, j < gSz g → I' 191 (48 + j) ≠ 0 → b'.testBit j = decide (I' 191 (48 + j) = 1)) : LV g gT (gUp gP (st + 1) g (I' 191)) (st + 1) I' 16 (I' 191) := by
  have h16 := (gAll_b g hg).2.2.1
  obtain ⟨⟨e1, e2, -, e7, e8⟩, ⟨o1, o2, -, o6⟩, t, q, t1, t2, t3, t4, t5, t6, t7, t8⟩ := H
  have hr2 : ∀ k, k ≠ 64 → k ≠ 48 + i → I' 191 k = I 191 k := fun k hk hk2 => by rw [hr k hk, if_neg hk2]
  refine ⟨⟨fun t ht => by rw [h1 _ _ (by omega) (by omega), hr2 _ (by omega) (by omega)]; exact e1 t ht, fun i hi => by rw [h1 _ _ (by omega) (by omega), hr2 _ (by omega) (by omega)]; exact e2 i hi, ⟨p', u', h2, h3, hp, hu⟩, by rw [h4, hr4], by rw [h5, hr2 _ (by omega) (by omega)]; exact e8⟩, ⟨fun k hk => by rw [hr2 _ (by omega) (by omega)]; exact o1 k hk, fun j hj => ?_, ⟨b', hb, hr4, hl⟩, by rw [hr2 _ (by omega) (by omega)]; exact o6⟩, t, st + 1, by omega, Nat.le_refl _, by rw [h6]; exact t3, h7, t5, fun k hk => by rw [hr2 _ (by omega) (by omega)]; exact t6 k hk, by rw [gUp_new], fun k _ => by rw [gUp_new]⟩
  rw [hr _ (by omega)]
  by_cases hj2 : j = i
  · subst hj2
    rw [if_pos rfl]
    exact ⟨hv, fun z => by omega⟩
  · rw [if_neg (by omega)]
    exact o2 j hj
end PIN
theorem pinAt_ok {σ : XS} {I : Nat → Nat → Int32} (hS : Shp σ) {a t p u : Nat} (ha : a ∈ suA) (hp : I a 2 = nI p) (hp2 : p < 65536) (hu : I a 3 = nI u) (hu2 : u < 65536) (ht : t < 32) : f_X6_pinAt (xw σ I) a (nI t) = some (if p.testBit t then (if u.testBit t then 1 else 2) else 0) := by
  unfold f_X6_pinAt
  simp (disch := first | assumption | omega) only [Option.bind_some, Option.map_some, xw_gR, xw_gN, xw_al, xw_ck, xw_uI, xw_ur, xup_at, xur_at, if_true, if_false, reduceIte, and_true, true_and, and_false, false_and, not_true_eq_false, not_false_eq_true, Nat.reduceEqDiff, eq_self, Nat.reduceAdd, Nat.reduceMul, suC hS ha, isPinned_ok hS ha hp hp2 ht, suG hS ha, hu]
  unfold f_X11_bitOf
  rw [Option.bind_some, nn_bit (by omega) ht]
  cases p.testBit t <;> cases u.testBit t <;> decide
def pN (p i : Nat) (v : Int32) : Nat := if v = 0 then p &&& (2 ^ i ^^^ 4294967295) else p ||| 2 ^ i
def uN2 (u i : Nat) (v : Int32) : Nat := if v = 1 then u ||| 2 ^ i else u &&& (2 ^ i ^^^ 4294967295)
theorem setPin_ok {σ : XS} {I : Nat → Nat → Int32} (hS : Shp σ) {i p u : Nat} (hp : I 16 2 = nI p) (hu : I 16 3 = nI u) (hi : i < 32) (v : Int32) : f_X6_setPin (xw σ I) 16 (nI i) v = some (xw σ (xup (xup I 16 2 (nI (pN p i v))) 16 3 (nI (uN2 u i v)))) := by
  unfold f_X6_setPin f_X6_setPin_j26 pN uN2
  by_cases h0 : v = 0
  · subst h0
    simp (disch := first | assumption | omega) only [Option.bind_some, Option.map_some, xw_gR, xw_gN, xw_al, xw_ck, xw_uI, xw_ur, xup_at, xur_at, if_true, if_false, reduceIte, and_true, true_and, and_false, false_and, not_true_eq_false, not_false_eq_true, Nat.reduceEqDiff, eq_self, Nat.reduceAdd, Nat.reduceMul, kC1, kG1, kP1, kR1_0, kR1_1, kR1_2, kR1_3, kR1_4, kR1_5, kR1_6, kR1_7, kR1_8, kR1_9, kR1_10, kR1_11, kR1_12, kR1_13, kC2, kG2, kP2, kR2_0, kR2_1, kC3, kG3, kP3, kR3_0, kR3_1, kR3_2, kR3_3, kL4, kA4, kS4, kL5, kA5, kS5, kL6, kA6, kS6, kL7, kA7, kS7, kC8, kG8, kP8, kR8_0, kR8_1, kL9, kA9, kS9, kL10, kA10, kS10, kC11, kG11, kP11, kR11_0, kR11_1, kR11_2, kR11_3, kL12, kA12, kS12, kL13, kA13, kS13, kL14, kA14, kS14, kL15, kA15, kS15, kC16, kG16, kP16, kR16_0, kR16_1, kL17, kA17, kS17, kL18, kA18, kS18, kC19, kG19, kP19, kR19_0, kL20, kL141, kL146, kA146, kS146, kL151, kA151, kS151, kL156, kA156, kS156, kC157, kG157, kP157, kR157_0, kR157_1, kL158, kA158, kS158, kL159, kA159, kS159, kC161, kG161, kP161, kR161_0, kR161_1, kL162, kA162, kS162, kL163, kA163, kS163, kC165, kG165, kP165, kR165_0, kR165_1, kR165_2, kR165_3, kL166, kA166, kS166, kL167, kA167, kS167, kL168, kA168, kS168, kL169, kA169, kS169, kC170, kG170, kP170, kR170_0, kR170_1, kR170_2, kL171, kA171, kS171, kL172, kA172, kS172, kL173, kA173, kS173, kC174, kG174, kP174, kR174_0, kR174_1, kR174_2, kR174_3, kR174_4, kL175, kA175, kS175, kL176, kA176, kS176, kL177, kA177, kS177, kL178, kA178, kS178, kL179, kC180, kG180, kP180, kL181, kL182, kA182, kS182, kC183, kG183, kP183, kR183_1, kR183_3, kR183_5, kR183_6, kR183_7, kR183_8, kR183_9, kR183_21, kR183_26, kR183_27, kR183_30, kR183_31, kR183_33, kR183_34, kR183_36, kR183_37, kR183_38, kR183_39, kR183_40, kR183_41, kR183_42, kR183_43, kR183_44, kL184, kA184, kS184, kL185, kA185, kS185, kL186, kA186, kS186, kL187, kA187, kS187, kL188, kA188, kS188, kL189, kL190, kL191, kA191, kS191, kL192, kA192, kS192, kL193, kA193, kS193, kL194, kA194, kS194, kL195, kA195, kS195, kL196, kA196, kS196, kL197, kA197, kS197, kL198, kA198, kS198, kL199, kA199, kS199, kL200, kA200, kS200, kL201, kL202, kA202, kS202, kL203, kA203, kS203, kL204, kA204, kS204, kL205, kL206, kA206, kS206, hp, hu, nn_one, nn_andn, show ((0 : Int32) = 1) = False from eq_false (by decide)]
  · by_cases h1 : v = 1
    · subst h1
      simp (disch := first | assumption | omega) only [Option.bind_some, Option.map_some, xw_gR, xw_gN, xw_al, xw_ck, xw_uI, xw_ur, xup_at, xur_at, if_true, if_false, reduceIte, and_true, true_and, and_false, false_and, not_true_eq_false, not_false_eq_true, Nat.reduceEqDiff, eq_self, Nat.reduceAdd, Nat.reduceMul, kC1, kG1, kP1, kR1_0, kR1_1, kR1_2, kR1_3, kR1_4, kR1_5, kR1_6, kR1_7, kR1_8, kR1_9, kR1_10, kR1_11, kR1_12, kR1_13, kC2, kG2, kP2, kR2_0, kR2_1, kC3, kG3, kP3, kR3_0, kR3_1, kR3_2, kR3_3, kL4, kA4, kS4, kL5, kA5, kS5, kL6, kA6, kS6, kL7, kA7, kS7, kC8, kG8, kP8, kR8_0, kR8_1, kL9, kA9, kS9, kL10, kA10, kS10, kC11, kG11, kP11, kR11_0, kR11_1, kR11_2, kR11_3, kL12, kA12, kS12, kL13, kA13, kS13, kL14, kA14, kS14, kL15, kA15, kS15, kC16, kG16, kP16, kR16_0, kR16_1, kL17, kA17, kS17, kL18, kA18, kS18, kC19, kG19, kP19, kR19_0, kL20, kL141, kL146, kA146, kS146, kL151, kA151, kS151, kL156, kA156, kS156, kC157, kG157, kP157, kR157_0, kR157_1, kL158, kA158, kS158, kL159, kA159, kS159, kC161, kG161, kP161, kR161_0, kR161_1, kL162, kA162, kS162, kL163, kA163, kS163, kC165, kG165, kP165, kR165_0, kR165_1, kR165_2, kR165_3, kL166, kA166, kS166, kL167, kA167, kS167, kL168, kA168, kS168, kL169, kA169, kS169, kC170, kG170, kP170, kR170_0, kR170_1, kR170_2, kL171, kA171, kS171, kL172, kA172, kS172, kL173, kA173, kS173, kC174, kG174, kP174, kR174_0, kR174_1, kR174_2, kR174_3, kR174_4, kL175, kA175, kS175, kL176, kA176, kS176, kL177, kA177, kS177, kL178, kA178, kS178, kL179, kC180, kG180, kP180, kL181, kL182, kA182, kS182, kC183, kG183, kP183, kR183_1, kR183_3, kR183_5, kR183_6, kR183_7, kR183_8, kR183_9, kR183_21, kR183_26, kR183_27, kR183_30, kR183_31, kR183_33, kR183_34, kR183_36, kR183_37, kR183_38, kR183_39, kR183_40, kR183_41, kR183_42, kR183_43, kR183_44, kL184, kA184, kS184, kL185, kA185, kS185, kL186, kA186, kS186, kL187, kA187, kS187, kL188, kA188, kS188, kL189, kL190, kL191, kA191, kS191, kL192, kA192, kS192, kL193, kA193, kS193, kL194, kA194, kS194, kL195, kA195, kS195, kL196, kA196, kS196, kL197, kA197, kS197, kL198, kA198, kS198, kL199, kA199, kS199, kL200, kA200, kS200, kL201, kL202, kA202, kS202, kL203, kA203, kS203, kL204, kA204, kS204, kL205, kL206, kA206, kS206, hp, hu, nn_one, fa_or, one0]
    · simp (disch := first | assumption | omega) only [Option.bind_some, Option.map_some, xw_gR, xw_gN, xw_al, xw_ck, xw_uI, xw_ur, xup_at, xur_at, if_true, if_false, reduceIte, and_true, true_and, and_false, false_and, not_true_eq_false, not_false_eq_true, Nat.reduceEqDiff, eq_self, Nat.reduceAdd, Nat.reduceMul, kC1, kG1, kP1, kR1_0, kR1_1, kR1_2, kR1_3, kR1_4, kR1_5, kR1_6, kR1_7, kR1_8, kR1_9, kR1_10, kR1_11, kR1_12, kR1_13, kC2, kG2, kP2, kR2_0, kR2_1, kC3, kG3, kP3, kR3_0, kR3_1, kR3_2, kR3_3, kL4, kA4, kS4, kL5, kA5, kS5, kL6, kA6, kS6, kL7, kA7, kS7, kC8, kG8, kP8, kR8_0, kR8_1, kL9, kA9, kS9, kL10, kA10, kS10, kC11, kG11, kP11, kR11_0, kR11_1, kR11_2, kR11_3, kL12, kA12, kS12, kL13, kA13, kS13, kL14, kA14, kS14, kL15, kA15, kS15, kC16, kG16, kP16, kR16_0, kR16_1, kL17, kA17, kS17, kL18, kA18, kS18, kC19, kG19, kP19, kR19_0, kL20, kL141, kL146, kA146, kS146, kL151, kA151, kS151, kL156, kA156, kS156, kC157, kG157, kP157, kR157_0, kR157_1, kL158, kA158, kS158, kL159, kA159, kS159, kC161, kG161, kP161, kR161_0, kR161_1, kL162, kA162, kS162, kL163, kA163, kS163, kC165, kG165, kP165, kR165_0, kR165_1, kR165_2, kR165_3, kL166, kA166, kS166, kL167, kA167, kS167, kL168, kA168, kS168, kL169, kA169, kS169, kC170, kG170, kP170, kR170_0, kR170_1, kR170_2, kL171, kA171, kS171, kL172, kA172, kS172, kL173, kA173, kS173, kC174, kG174, kP174, kR174_0, kR174_1, kR174_2, kR174_3, kR174_4, kL175, kA175, kS175, kL176, kA176, kS176, kL177, kA177, kS177, kL178, kA178, kS178, kL179, kC180, kG180, kP180, kL181, kL182, kA182, kS182, kC183, kG183, kP183, kR183_1, kR183_3, kR183_5, kR183_6, kR183_7, kR183_8, kR183_9, kR183_21, kR183_26, kR183_27, kR183_30, kR183_31, kR183_33, kR183_34, kR183_36, kR183_37, kR183_38, kR183_39, kR183_40, kR183_41, kR183_42, kR183_43, kR183_44, kL184, kA184, kS184, kL185, kA185, kS185, kL186, kA186, kS186, kL187, kA187, kS187, kL188, kA188, kS188, kL189, kL190, kL191, kA191, kS191, kL192, kA192, kS192, kL193, kA193, kS193, kL194, kA194, kS194, kL195, kA195, kS195, kL196, kA196, kS196, kL197, kA197, kS197, kL198, kA198, kS198, kL199, kA199, kS199, kL200, kA200, kS200, kL201, kL202, kA202, kS202, kL203, kA203, kS203, kL204, kA204, kS204, kL205, kL206, kA206, kS206, hp, hu, nn_one, nn_andn, fa_or, h0, h1]
theorem in_02 (x : Int32) : f_X12_in x 0 2 = some (if x < 0 ∨ 2 < x then 0 else 1) := by
  unfold f_X12_in
  by_cases h1 : x < 0
  · simp [h1]
  · by_cases h2 : (2 : Int32) < x
    · simp [h1, h2]
    · simp [h1, h2]
theorem v012 {v : Int32} (h1 : ¬ v < 0) (h2 : ¬ (2 : Int32) < v) : v = 0 ∨ v = 1 ∨ v = 2 := by
  obtain ⟨j, hj, rfl⟩ := nn_of h1
  rw [show (2 : Int32) = nI 2 from rfl, nn_lt (by decide) hj] at h2
  rcases (show j = 0 ∨ j = 1 ∨ j = 2 by omega) with rfl | rfl | rfl
  · exact .inl rfl
  · exact .inr (.inl rfl)
  · exact .inr (.inr rfl)

theorem op_pin : Op_pin INV := by
  intro n σ hn ⟨g, gT, gP, st, H⟩ x v
  have hS := H.shp
  have hG := H.grd
  have h16 := (gAll_b g hG.1).2.2.1
  by_cases hs : isS g x = true
  · obtain ⟨i, hi, rfl⟩ := isS_t hs
    have hi16 : i < 16 := by omega
    obtain ⟨q, nx, ea, hq, hnx, hea, p1, p2, p3, p4, p8⟩ := H.pst
    obtain ⟨⟨-, -, ⟨p, u, e3, e4, e5, e6⟩, e7, -⟩, ⟨-, o2, ⟨b, o3, o4, o5⟩, -⟩, -⟩ := H.now
    have hp : p < 65536 := Nat.lt_pow_two_of_testBit (n := 16) p (fun j hj => by rw [e5]; simp; omega)
    have hu : u < 65536 := Nat.lt_pow_two_of_testBit (n := 16) u (fun j hj => by rw [e6]; simp; omega)
    have hb : b < 65536 := Nat.lt_of_lt_of_le o3 (Nat.pow_le_pow_right (by decide) h16)
    have pa : (if p.testBit i then (if u.testBit i then (1 : Int32) else 2) else 0) = xI σ 191 (48 + i) := by
      rw [e5, e6]
      rcases (o2 i hi16).1 with z | z | z <;> rw [z] <;> simp [hi]
    by_cases hv0 : v < 0
    · refine ⟨0, σ, σ, ?_, ?_, g, gT, gP, st, H.nop⟩
      · show f_X11_pin (xw σ (xI σ)) 1 (nI i) v = _
        unfold f_X11_pin
        simp (disch := first | assumption | omega) only [Option.bind_some, Option.map_some, xw_gR, xw_gN, xw_al, xw_ck, xw_uI, xw_ur, xup_at, xur_at, if_true, if_false, reduceIte, and_true, true_and, and_false, false_and, not_true_eq_false, not_false_eq_true, Nat.reduceEqDiff, eq_self, Nat.reduceAdd, Nat.reduceMul, kC1, kG1, kP1, kR1_0, kR1_1, kR1_2, kR1_3, kR1_4, kR1_5, kR1_6, kR1_7, kR1_8, kR1_9, kR1_10, kR1_11, kR1_12, kR1_13, kC2, kG2, kP2, kR2_0, kR2_1, kC3, kG3, kP3, kR3_0, kR3_1, kR3_2, kR3_3, kL4, kA4, kS4, kL5, kA5, kS5, kL6, kA6, kS6, kL7, kA7, kS7, kC8, kG8, kP8, kR8_0, kR8_1, kL9, kA9, kS9, kL10, kA10, kS10, kC11, kG11, kP11, kR11_0, kR11_1, kR11_2, kR11_3, kL12, kA12, kS12, kL13, kA13, kS13, kL14, kA14, kS14, kL15, kA15, kS15, kC16, kG16, kP16, kR16_0, kR16_1, kL17, kA17, kS17, kL18, kA18, kS18, kC19, kG19, kP19, kR19_0, kL20, kL141, kL146, kA146, kS146, kL151, kA151, kS151, kL156, kA156, kS156, kC157, kG157, kP157, kR157_0, kR157_1, kL158, kA158, kS158, kL159, kA159, kS159, kC161, kG161, kP161, kR161_0, kR161_1, kL162, kA162, kS162, kL163, kA163, kS163, kC165, kG165, kP165, kR165_0, kR165_1, kR165_2, kR165_3, kL166, kA166, kS166, kL167, kA167, kS167, kL168, kA168, kS168, kL169, kA169, kS169, kC170, kG170, kP170, kR170_0, kR170_1, kR170_2, kL171, kA171, kS171, kL172, kA172, kS172, kL173, kA173, kS173, kC174, kG174, kP174, kR174_0, kR174_1, kR174_2, kR174_3, kR174_4, kL175, kA175, kS175, kL176, kA176, kS176, kL177, kA177, kS177, kL178, kA178, kS178, kL179, kC180, kG180, kP180, kL181, kL182, kA182, kS182, kC183, kG183, kP183, kR183_1, kR183_3, kR183_5, kR183_6, kR183_7, kR183_8, kR183_9, kR183_21, kR183_26, kR183_27, kR183_30, kR183_31, kR183_33, kR183_34, kR183_36, kR183_37, kR183_38, kR183_39, kR183_40, kR183_41, kR183_42, kR183_43, kR183_44, kL184, kA184, kS184, kL185, kA185, kS185, kL186, kA186, kS186, kL187, kA187, kS187, kL188, kA188, kS188, kL189, kL190, kL191, kA191, kS191, kL192, kA192, kS192, kL193, kA193, kS193, kL194, kA194, kS194, kL195, kA195, kS195, kL196, kA196, kS196, kL197, kA197, kS197, kL198, kA198, kS198, kL199, kA199, kS199, kL200, kA200, kS200, kL201, kL202, kA202, kS202, kL203, kA203, kS203, kL204, kA204, kS204, kL205, kL206, kA206, kS206, hasSite_ok hS hG, hs, one0, hv0]
        rfl
      · show f_X12_pin (xw σ (xI σ)) 183 (nI i) v = _
        unfold f_X12_pin
        simp (disch := first | assumption | omega) only [Option.bind_some, Option.map_some, xw_gR, xw_gN, xw_al, xw_ck, xw_uI, xw_ur, xup_at, xur_at, if_true, if_false, reduceIte, and_true, true_and, and_false, false_and, not_true_eq_false, not_false_eq_true, Nat.reduceEqDiff, eq_self, Nat.reduceAdd, Nat.reduceMul, kC1, kG1, kP1, kR1_0, kR1_1, kR1_2, kR1_3, kR1_4, kR1_5, kR1_6, kR1_7, kR1_8, kR1_9, kR1_10, kR1_11, kR1_12, kR1_13, kC2, kG2, kP2, kR2_0, kR2_1, kC3, kG3, kP3, kR3_0, kR3_1, kR3_2, kR3_3, kL4, kA4, kS4, kL5, kA5, kS5, kL6, kA6, kS6, kL7, kA7, kS7, kC8, kG8, kP8, kR8_0, kR8_1, kL9, kA9, kS9, kL10, kA10, kS10, kC11, kG11, kP11, kR11_0, kR11_1, kR11_2, kR11_3, kL12, kA12, kS12, kL13, kA13, kS13, kL14, kA14, kS14, kL15, kA15, kS15, kC16, kG16, kP16, kR16_0, kR16_1, kL17, kA17, kS17, kL18, kA18, kS18, kC19, kG19, kP19, kR19_0, kL20, kL141, kL146, kA146, kS146, kL151, kA151, kS151, kL156, kA156, kS156, kC157, kG157, kP157, kR157_0, kR157_1, kL158, kA158, kS158, kL159, kA159, kS159, kC161, kG161, kP161, kR161_0, kR161_1, kL162, kA162, kS162, kL163, kA163, kS163, kC165, kG165, kP165, kR165_0, kR165_1, kR165_2, kR165_3, kL166, kA166, kS166, kL167, kA167, kS167, kL168, kA168, kS168, kL169, kA169, kS169, kC170, kG170, kP170, kR170_0, kR170_1, kR170_2, kL171, kA171, kS171, kL172, kA172, kS172, kL173, kA173, kS173, kC174, kG174, kP174, kR174_0, kR174_1, kR174_2, kR174_3, kR174_4, kL175, kA175, kS175, kL176, kA176, kS176, kL177, kA177, kS177, kL178, kA178, kS178, kL179, kC180, kG180, kP180, kL181, kL182, kA182, kS182, kC183, kG183, kP183, kR183_1, kR183_3, kR183_5, kR183_6, kR183_7, kR183_8, kR183_9, kR183_21, kR183_26, kR183_27, kR183_30, kR183_31, kR183_33, kR183_34, kR183_36, kR183_37, kR183_38, kR183_39, kR183_40, kR183_41, kR183_42, kR183_43, kR183_44, kL184, kA184, kS184, kL185, kA185, kS185, kL186, kA186, kS186, kL187, kA187, kS187, kL188, kA188, kS188, kL189, kL190, kL191, kA191, kS191, kL192, kA192, kS192, kL193, kA193, kS193, kL194, kA194, kS194, kL195, kA195, kS195, kL196, kA196, kS196, kL197, kA197, kS197, kL198, kA198, kS198, kL199, kA199, kS199, kL200, kA200, kS200, kL201, kL202, kA202, kS202, kL203, kA203, kS203, kL204, kA204, kS204, kL205, kL206, kA206, kS206, isSite_ok hS hG, hs, one0, in_02, hv0, true_or]
        rfl
    · by_cases hv2 : (2 : Int32) < v
      · refine ⟨0, σ, σ, ?_, ?_, g, gT, gP, st, H.nop⟩
        · show f_X11_pin (xw σ (xI σ)) 1 (nI i) v = _
          unfold f_X11_pin
          simp (disch := first | assumption | omega) only [Option.bind_some, Option.map_some, xw_gR, xw_gN, xw_al, xw_ck, xw_uI, xw_ur, xup_at, xur_at, if_true, if_false, reduceIte, and_true, true_and, and_false, false_and, not_true_eq_false, not_false_eq_true, Nat.reduceEqDiff, eq_self, Nat.reduceAdd, Nat.reduceMul, kC1, kG1, kP1, kR1_0, kR1_1, kR1_2, kR1_3, kR1_4, kR1_5, kR1_6, kR1_7, kR1_8, kR1_9, kR1_10, kR1_11, kR1_12, kR1_13, kC2, kG2, kP2, kR2_0, kR2_1, kC3, kG3, kP3, kR3_0, kR3_1, kR3_2, kR3_3, kL4, kA4, kS4, kL5, kA5, kS5, kL6, kA6, kS6, kL7, kA7, kS7, kC8, kG8, kP8, kR8_0, kR8_1, kL9, kA9, kS9, kL10, kA10, kS10, kC11, kG11, kP11, kR11_0, kR11_1, kR11_2, kR11_3, kL12, kA12, kS12, kL13, kA13, kS13, kL14, kA14, kS14, kL15, kA15, kS15, kC16, kG16, kP16, kR16_0, kR16_1, kL17, kA17, kS17, kL18, kA18, kS18, kC19, kG19, kP19, kR19_0, kL20, kL141, kL146, kA146, kS146, kL151, kA151, kS151, kL156, kA156, kS156, kC157, kG157, kP157, kR157_0, kR157_1, kL158, kA158, kS158, kL159, kA159, kS159, kC161, kG161, kP161, kR161_0, kR161_1, kL162, kA162, kS162, kL163, kA163, kS163, kC165, kG165, kP165, kR165_0, kR165_1, kR165_2, kR165_3, kL166, kA166, kS166, kL167, kA167, kS167, kL168, kA168, kS168, kL169, kA169, kS169, kC170, kG170, kP170, kR170_0, kR170_1, kR170_2, kL171, kA171, kS171, kL172, kA172, kS172, kL173, kA173, kS173, kC174, kG174, kP174, kR174_0, kR174_1, kR174_2, kR174_3, kR174_4, kL175, kA175, kS175, kL176, kA176, kS176, kL177, kA177, kS177, kL178, kA178, kS178, kL179, kC180, kG180, kP180, kL181, kL182, kA182, kS182, kC183, kG183, kP183, kR183_1, kR183_3, kR183_5, kR183_6, kR183_7, kR183_8, kR183_9, kR183_21, kR183_26, kR183_27, kR183_30, kR183_31, kR183_33, kR183_34, kR183_36, kR183_37, kR183_38, kR183_39, kR183_40, kR183_41, kR183_42, kR183_43, kR183_44, kL184, kA184, kS184, kL185, kA185, kS185, kL186, kA186, kS186, kL187, kA187, kS187, kL188, kA188, kS188, kL189, kL190, kL191, kA191, kS191, kL192, kA192, kS192, kL193, kA193, kS193, kL194, kA194, kS194, kL195, kA195, kS195, kL196, kA196, kS196, kL197, kA197, kS197, kL198, kA198, kS198, kL199, kA199, kS199, kL200, kA200, kS200, kL201, kL202, kA202, kS202, kL203, kA203, kS203, kL204, kA204, kS204, kL205, kL206, kA206, kS206, hasSite_ok hS hG, hs, one0, hv0, hv2]
          rfl
        · show f_X12_pin (xw σ (xI σ)) 183 (nI i) v = _
          unfold f_X12_pin
          simp (disch := first | assumption | omega) only [Option.bind_some, Option.map_some, xw_gR, xw_gN, xw_al, xw_ck, xw_uI, xw_ur, xup_at, xur_at, if_true, if_false, reduceIte, and_true, true_and, and_false, false_and, not_true_eq_false, not_false_eq_true, Nat.reduceEqDiff, eq_self, Nat.reduceAdd, Nat.reduceMul, kC1, kG1, kP1, kR1_0, kR1_1, kR1_2, kR1_3, kR1_4, kR1_5, kR1_6, kR1_7, kR1_8, kR1_9, kR1_10, kR1_11, kR1_12, kR1_13, kC2, kG2, kP2, kR2_0, kR2_1, kC3, kG3, kP3, kR3_0, kR3_1, kR3_2, kR3_3, kL4, kA4, kS4, kL5, kA5, kS5, kL6, kA6, kS6, kL7, kA7, kS7, kC8, kG8, kP8, kR8_0, kR8_1, kL9, kA9, kS9, kL10, kA10, kS10, kC11, kG11, kP11, kR11_0, kR11_1, kR11_2, kR11_3, kL12, kA12, kS12, kL13, kA13, kS13, kL14, kA14, kS14, kL15, kA15, kS15, kC16, kG16, kP16, kR16_0, kR16_1, kL17, kA17, kS17, kL18, kA18, kS18, kC19, kG19, kP19, kR19_0, kL20, kL141, kL146, kA146, kS146, kL151, kA151, kS151, kL156, kA156, kS156, kC157, kG157, kP157, kR157_0, kR157_1, kL158, kA158, kS158, kL159, kA159, kS159, kC161, kG161, kP161, kR161_0, kR161_1, kL162, kA162, kS162, kL163, kA163, kS163, kC165, kG165, kP165, kR165_0, kR165_1, kR165_2, kR165_3, kL166, kA166, kS166, kL167, kA167, kS167, kL168, kA168, kS168, kL169, kA169, kS169, kC170, kG170, kP170, kR170_0, kR170_1, kR170_2, kL171, kA171, kS171, kL172, kA172, kS172, kL173, kA173, kS173, kC174, kG174, kP174, kR174_0, kR174_1, kR174_2, kR174_3, kR174_4, kL175, kA175, kS175, kL176, kA176, kS176, kL177, kA177, kS177, kL178, kA178, kS178, kL179, kC180, kG180, kP180, kL181, kL182, kA182, kS182, kC183, kG183, kP183, kR183_1, kR183_3, kR183_5, kR183_6, kR183_7, kR183_8, kR183_9, kR183_21, kR183_26, kR183_27, kR183_30, kR183_31, kR183_33, kR183_34, kR183_36, kR183_37, kR183_38, kR183_39, kR183_40, kR183_41, kR183_42, kR183_43, kR183_44, kL184, kA184, kS184, kL185, kA185, kS185, kL186, kA186, kS186, kL187, kA187, kS187, kL188, kA188, kS188, kL189, kL190, kL191, kA191, kS191, kL192, kA192, kS192, kL193, kA193, kS193, kL194, kA194, kS194, kL195, kA195, kS195, kL196, kA196, kS196, kL197, kA197, kS197, kL198, kA198, kS198, kL199, kA199, kS199, kL200, kA200, kS200, kL201, kL202, kA202, kS202, kL203, kA203, kS203, kL204, kA204, kS204, kL205, kL206, kA206, kS206, isSite_ok hS hG, hs, one0, in_02, hv2, or_true]
          rfl
      · have hv := v012 hv0 hv2
        by_cases hsame : xI σ 191 (48 + i) = v
        · refine ⟨0, σ, σ, ?_, ?_, g, gT, gP, st, H.nop⟩
          · show f_X11_pin (xw σ (xI σ)) 1 (nI i) v = _
            unfold f_X11_pin
            simp (disch := first | assumption | omega) only [Option.bind_some, Option.map_some, xw_gR, xw_gN, xw_al, xw_ck, xw_uI, xw_ur, xup_at, xur_at, if_true, if_false, reduceIte, and_true, true_and, and_false, false_and, not_true_eq_false, not_false_eq_true, Nat.reduceEqDiff, eq_self, Nat.reduceAdd, Nat.reduceMul, kC1, kG1, kP1, kR1_0, kR1_1, kR1_2, kR1_3, kR1_4, kR1_5, kR1_6, kR1_7, kR1_8, kR1_9, kR1_10, kR1_11, kR1_12, kR1_13, kC2, kG2, kP2, kR2_0, kR2_1, kC3, kG3, kP3, kR3_0, kR3_1, kR3_2, kR3_3, kL4, kA4, kS4, kL5, kA5, kS5, kL6, kA6, kS6, kL7, kA7, kS7, kC8, kG8, kP8, kR8_0, kR8_1, kL9, kA9, kS9, kL10, kA10, kS10, kC11, kG11, kP11, kR11_0, kR11_1, kR11_2, kR11_3, kL12, kA12, kS12, kL13, kA13, kS13, kL14, kA14, kS14, kL15, kA15, kS15, kC16, kG16, kP16, kR16_0, kR16_1, kL17, kA17, kS17, kL18, kA18, kS18, kC19, kG19, kP19, kR19_0, kL20, kL141, kL146, kA146, kS146, kL151, kA151, kS151, kL156, kA156, kS156, kC157, kG157, kP157, kR157_0, kR157_1, kL158, kA158, kS158, kL159, kA159, kS159, kC161, kG161, kP161, kR161_0, kR161_1, kL162, kA162, kS162, kL163, kA163, kS163, kC165, kG165, kP165, kR165_0, kR165_1, kR165_2, kR165_3, kL166, kA166, kS166, kL167, kA167, kS167, kL168, kA168, kS168, kL169, kA169, kS169, kC170, kG170, kP170, kR170_0, kR170_1, kR170_2, kL171, kA171, kS171, kL172, kA172, kS172, kL173, kA173, kS173, kC174, kG174, kP174, kR174_0, kR174_1, kR174_2, kR174_3, kR174_4, kL175, kA175, kS175, kL176, kA176, kS176, kL177, kA177, kS177, kL178, kA178, kS178, kL179, kC180, kG180, kP180, kL181, kL182, kA182, kS182, kC183, kG183, kP183, kR183_1, kR183_3, kR183_5, kR183_6, kR183_7, kR183_8, kR183_9, kR183_21, kR183_26, kR183_27, kR183_30, kR183_31, kR183_33, kR183_34, kR183_36, kR183_37, kR183_38, kR183_39, kR183_40, kR183_41, kR183_42, kR183_43, kR183_44, kL184, kA184, kS184, kL185, kA185, kS185, kL186, kA186, kS186, kL187, kA187, kS187, kL188, kA188, kS188, kL189, kL190, kL191, kA191, kS191, kL192, kA192, kS192, kL193, kA193, kS193, kL194, kA194, kS194, kL195, kA195, kS195, kL196, kA196, kS196, kL197, kA197, kS197, kL198, kA198, kS198, kL199, kA199, kS199, kL200, kA200, kS200, kL201, kL202, kA202, kS202, kL203, kA203, kS203, kL204, kA204, kS204, kL205, kL206, kA206, kS206, hasSite_ok hS hG, hs, one0, hv0, hv2, pinAt_ok hS suA_16 e3 hp e4 hu (show i < 32 by omega), pa, hsame]
            rfl
          · show f_X12_pin (xw σ (xI σ)) 183 (nI i) v = _
            unfold f_X12_pin
            simp (disch := first | assumption | omega) only [Option.bind_some, Option.map_some, xw_gR, xw_gN, xw_al, xw_ck, xw_uI, xw_ur, xup_at, xur_at, if_true, if_false, reduceIte, and_true, true_and, and_false, false_and, not_true_eq_false, not_false_eq_true, Nat.reduceEqDiff, eq_self, Nat.reduceAdd, Nat.reduceMul, kC1, kG1, kP1, kR1_0, kR1_1, kR1_2, kR1_3, kR1_4, kR1_5, kR1_6, kR1_7, kR1_8, kR1_9, kR1_10, kR1_11, kR1_12, kR1_13, kC2, kG2, kP2, kR2_0, kR2_1, kC3, kG3, kP3, kR3_0, kR3_1, kR3_2, kR3_3, kL4, kA4, kS4, kL5, kA5, kS5, kL6, kA6, kS6, kL7, kA7, kS7, kC8, kG8, kP8, kR8_0, kR8_1, kL9, kA9, kS9, kL10, kA10, kS10, kC11, kG11, kP11, kR11_0, kR11_1, kR11_2, kR11_3, kL12, kA12, kS12, kL13, kA13, kS13, kL14, kA14, kS14, kL15, kA15, kS15, kC16, kG16, kP16, kR16_0, kR16_1, kL17, kA17, kS17, kL18, kA18, kS18, kC19, kG19, kP19, kR19_0, kL20, kL141, kL146, kA146, kS146, kL151, kA151, kS151, kL156, kA156, kS156, kC157, kG157, kP157, kR157_0, kR157_1, kL158, kA158, kS158, kL159, kA159, kS159, kC161, kG161, kP161, kR161_0, kR161_1, kL162, kA162, kS162, kL163, kA163, kS163, kC165, kG165, kP165, kR165_0, kR165_1, kR165_2, kR165_3, kL166, kA166, kS166, kL167, kA167, kS167, kL168, kA168, kS168, kL169, kA169, kS169, kC170, kG170, kP170, kR170_0, kR170_1, kR170_2, kL171, kA171, kS171, kL172, kA172, kS172, kL173, kA173, kS173, kC174, kG174, kP174, kR174_0, kR174_1, kR174_2, kR174_3, kR174_4, kL175, kA175, kS175, kL176, kA176, kS176, kL177, kA177, kS177, kL178, kA178, kS178, kL179, kC180, kG180, kP180, kL181, kL182, kA182, kS182, kC183, kG183, kP183, kR183_1, kR183_3, kR183_5, kR183_6, kR183_7, kR183_8, kR183_9, kR183_21, kR183_26, kR183_27, kR183_30, kR183_31, kR183_33, kR183_34, kR183_36, kR183_37, kR183_38, kR183_39, kR183_40, kR183_41, kR183_42, kR183_43, kR183_44, kL184, kA184, kS184, kL185, kA185, kS185, kL186, kA186, kS186, kL187, kA187, kS187, kL188, kA188, kS188, kL189, kL190, kL191, kA191, kS191, kL192, kA192, kS192, kL193, kA193, kS193, kL194, kA194, kS194, kL195, kA195, kS195, kL196, kA196, kS196, kL197, kA197, kS197, kL198, kA198, kS198, kL199, kA199, kS199, kL200, kA200, kS200, kL201, kL202, kA202, kS202, kL203, kA203, kS203, kL204, kA204, kS204, kL205, kL206, kA206, kS206, isSite_ok hS hG, hs, one0, in_02, hv0, hv2, or_false, show (48 : Int32) = nI 48 from rfl, nn_add, hsame]
            rfl
        · obtain ⟨b', hb'⟩ : ∃ b', b' = (b &&& (pN p i v ^^^ 4294967295)) ||| uN2 u i v := ⟨_, rfl⟩
          have pNb : ∀ j, j < 32 → (pN p i v).testBit j = if j = i then decide (v ≠ 0) else p.testBit j := by
            intro j hj
            unfold pN
            by_cases h0 : v = 0
            · rw [if_pos h0, andn_bit _ _ _ hj, Nat.testBit_two_pow]
              by_cases hji : j = i
              · simp [hji, h0]
              · simp [hji, Ne.symm hji]
            · rw [if_neg h0, fb_bit_set]
              by_cases hji : j = i
              · simp [hji, h0]
              · simp [hji]
          have uNb : ∀ j, j < 32 → (uN2 u i v).testBit j = if j = i then decide (v = 1) else u.testBit j := by
            intro j hj
            unfold uN2
            by_cases h0 : v = 1
            · rw [if_pos h0, fb_bit_set]
              by_cases hji : j = i
              · simp [hji, h0]
              · simp [hji]
            · rw [if_neg h0, andn_bit _ _ _ hj, Nat.testBit_two_pow]
              by_cases hji : j = i
              · simp [hji, h0]
              · simp [hji, Ne.symm hji]
          have pNh : ∀ j, 16 ≤ j → (pN p i v).testBit j = false := by
            intro j hj
            have h1 : p.testBit j = false := by rw [e5]; simp; omega
            unfold pN
            split
            · rw [Nat.testBit_and, h1]; rfl
            · rw [fb_bit_set, h1]; simp; omega
          have uNh : ∀ j, 16 ≤ j → (uN2 u i v).testBit j = false := by
            intro j hj
            have h1 : u.testBit j = false := by rw [e6]; simp; omega
            unfold uN2
            split
            · rw [fb_bit_set, h1]; simp; omega
            · rw [Nat.testBit_and, h1]; rfl
          have bb : ∀ j, j < 32 → b'.testBit j = if j = i then (if v = 0 then b.testBit j else decide (v = 1)) else b.testBit j := by
            intro j hj
            rw [hb', Nat.testBit_or, andn_bit _ _ _ hj, pNb j hj, uNb j hj]
            by_cases hji : j = i
            · simp only [hji, if_true]
              rcases hv with z | z | z <;> simp [z]
            · simp only [if_neg hji]
              by_cases hjn : j < gSz g
              · by_cases hz : xI σ 191 (48 + j) = 0
                · rw [e5, e6, hz]; simp
                · rw [o5 j hjn hz, e5, e6]; simp [hjn, hz]
              · rw [e5, e6]; simp [hjn]
          have bh : ∀ j, gSz g ≤ j → b'.testBit j = false := by
            intro j hj
            rw [hb', Nat.testBit_or, Nat.testBit_and, Nat.testBit_lt_two_pow (Nat.lt_of_lt_of_le o3 (Nat.pow_le_pow_right (by decide) hj))]
            by_cases hj3 : j < 16
            · rw [uNb j (by omega), if_neg (by omega), e6]; simp; omega
            · rw [uNh j (by omega)]; rfl
          have hbb : b' < 2 ^ gSz g := Nat.lt_pow_two_of_testBit b' bh
          have hbI : (nI b &&& (nI (pN p i v) ^^^ (-1))) ||| nI (uN2 u i v) = nI b' := by rw [nn_andn, fa_or, hb']
          have ext : ∀ c : Nat, c < 4294967296 → (∀ j, j < 32 → c.testBit j = b'.testBit j) → nI c = nI b' := by
            intro c hc h
            congr 1
            apply Nat.eq_of_testBit_eq
            intro j
            by_cases hj : j < 32
            · exact h j hj
            · rw [bh j (by omega), Nat.testBit_lt_two_pow (Nat.lt_of_lt_of_le hc (show 2 ^ 32 ≤ 2 ^ j from Nat.pow_le_pow_right (by decide) (by omega)))]
          refine ⟨1, xw σ (xup (xup (xup (xup (xup (kpI (xI σ) nx q) 16 2 (nI (pN p i v))) 16 3 (nI (uN2 u i v))) 16 4 (nI b')) 1 15 (nI (st + 1))) 16 7 (nI (st + 1))), xw σ (xup (xup (xup (mkI (xup (xup (xup (xup (xup (kpI (xI σ) nx q) 16 2 (nI (pN p i v))) 16 3 (nI (uN2 u i v))) 16 4 (nI b')) 1 15 (nI (st + 1))) 16 7 (nI (st + 1))) ea q) 191 (48 + i) v) 191 64 (nI b')) 183 32 0), ?_, ?_, ?_⟩
          · show f_X11_pin (xw σ (xI σ)) 1 (nI i) v = _
            unfold f_X11_pin
            have stp : f_X11_stampPins (xw σ (xup (xup (xup (kpI (xI σ) nx q) 16 2 (nI (pN p i v))) 16 3 (nI (uN2 u i v))) 16 4 (nI b'))) 1 = _ := stampPins_ok (st := st) hS (by rw [xup_at, if_neg (by omega), xup_at, if_neg (by omega), xup_at, if_neg (by omega), kpI_out (by omega) (by omega)]; exact H.sts)
            have sp : f_X6_setPin (xw σ (kpI (xI σ) nx q)) 16 (nI i) v = _ := setPin_ok (i := i) (p := p) (u := u) hS (by rw [kpI_out (by omega) (by omega)]; exact e3) (by rw [kpI_out (by omega) (by omega)]; exact e4) (by omega) v
            simp (disch := first | assumption | omega) only [Option.bind_some, Option.map_some, xw_gR, xw_gN, xw_al, xw_ck, xw_uI, xw_ur, xup_at, xur_at, if_true, if_false, reduceIte, and_true, true_and, and_false, false_and, not_true_eq_false, not_false_eq_true, Nat.reduceEqDiff, eq_self, Nat.reduceAdd, Nat.reduceMul, kC1, kG1, kP1, kR1_0, kR1_1, kR1_2, kR1_3, kR1_4, kR1_5, kR1_6, kR1_7, kR1_8, kR1_9, kR1_10, kR1_11, kR1_12, kR1_13, kC2, kG2, kP2, kR2_0, kR2_1, kC3, kG3, kP3, kR3_0, kR3_1, kR3_2, kR3_3, kL4, kA4, kS4, kL5, kA5, kS5, kL6, kA6, kS6, kL7, kA7, kS7, kC8, kG8, kP8, kR8_0, kR8_1, kL9, kA9, kS9, kL10, kA10, kS10, kC11, kG11, kP11, kR11_0, kR11_1, kR11_2, kR11_3, kL12, kA12, kS12, kL13, kA13, kS13, kL14, kA14, kS14, kL15, kA15, kS15, kC16, kG16, kP16, kR16_0, kR16_1, kL17, kA17, kS17, kL18, kA18, kS18, kC19, kG19, kP19, kR19_0, kL20, kL141, kL146, kA146, kS146, kL151, kA151, kS151, kL156, kA156, kS156, kC157, kG157, kP157, kR157_0, kR157_1, kL158, kA158, kS158, kL159, kA159, kS159, kC161, kG161, kP161, kR161_0, kR161_1, kL162, kA162, kS162, kL163, kA163, kS163, kC165, kG165, kP165, kR165_0, kR165_1, kR165_2, kR165_3, kL166, kA166, kS166, kL167, kA167, kS167, kL168, kA168, kS168, kL169, kA169, kS169, kC170, kG170, kP170, kR170_0, kR170_1, kR170_2, kL171, kA171, kS171, kL172, kA172, kS172, kL173, kA173, kS173, kC174, kG174, kP174, kR174_0, kR174_1, kR174_2, kR174_3, kR174_4, kL175, kA175, kS175, kL176, kA176, kS176, kL177, kA177, kS177, kL178, kA178, kS178, kL179, kC180, kG180, kP180, kL181, kL182, kA182, kS182, kC183, kG183, kP183, kR183_1, kR183_3, kR183_5, kR183_6, kR183_7, kR183_8, kR183_9, kR183_21, kR183_26, kR183_27, kR183_30, kR183_31, kR183_33, kR183_34, kR183_36, kR183_37, kR183_38, kR183_39, kR183_40, kR183_41, kR183_42, kR183_43, kR183_44, kL184, kA184, kS184, kL185, kA185, kS185, kL186, kA186, kS186, kL187, kA187, kS187, kL188, kA188, kS188, kL189, kL190, kL191, kA191, kS191, kL192, kA192, kS192, kL193, kA193, kS193, kL194, kA194, kS194, kL195, kA195, kS195, kL196, kA196, kS196, kL197, kA197, kS197, kL198, kA198, kS198, kL199, kA199, kS199, kL200, kA200, kS200, kL201, kL202, kA202, kS202, kL203, kA203, kS203, kL204, kA204, kS204, kL205, kL206, kA206, kS206, hasSite_ok hS hG, hs, one0, hv0, hv2, pinAt_ok hS suA_16 e3 hp e4 hu (show i < 32 by omega), pa, hsame, keep_ok hS hnx hq p1 p2, sp, kpI_out, e7, o4, hbI, stp]
          · unfold f_X12_pin f_X12_pin_j64
            have hG2 : GRD (xup (xup (xup (xup (xup (kpI (xI σ) nx q) 16 2 (nI (pN p i v))) 16 3 (nI (uN2 u i v))) 16 4 (nI b')) 1 15 (nI (st + 1))) 16 7 (nI (st + 1))) g := GRD_c (fun a k z => by unfold sGRD at z; rw [xup_at, if_neg (by omega), xup_at, if_neg (by omega), xup_at, if_neg (by omega), xup_at, if_neg (by omega), xup_at, if_neg (by omega), kpI_out (by omega) (by omega)]) hG
            have m1 : f_X12_marks (xw σ (xup (xup (xup (xup (xup (kpI (xI σ) nx q) 16 2 (nI (pN p i v))) 16 3 (nI (uN2 u i v))) 16 4 (nI b')) 1 15 (nI (st + 1))) 16 7 (nI (st + 1)))) 183 = _ := marks_ok (ea := ea) (q := q) hS hea hq (by rw [xup_at, if_neg (by omega), xup_at, if_neg (by omega), xup_at, if_neg (by omega), xup_at, if_neg (by omega), xup_at, if_neg (by omega), kpI_out (by omega) (by omega)]; exact p3) (by rw [xup_at, if_neg (by omega), xup_at, if_neg (by omega), xup_at, if_neg (by omega), xup_at, if_neg (by omega), xup_at, if_neg (by omega), kpI_out (by omega) (by omega)]; exact p4)
            rcases hv with z | z | z
            · have hbe : nI b = nI b' := ext b (by omega) (fun j hj => by rw [bb j hj, z]; simp)
              simp (disch := first | assumption | omega) only [Option.bind_some, Option.map_some, xw_gR, xw_gN, xw_al, xw_ck, xw_uI, xw_ur, xup_at, xur_at, if_true, if_false, reduceIte, and_true, true_and, and_false, false_and, not_true_eq_false, not_false_eq_true, Nat.reduceEqDiff, eq_self, Nat.reduceAdd, Nat.reduceMul, kC1, kG1, kP1, kR1_0, kR1_1, kR1_2, kR1_3, kR1_4, kR1_5, kR1_6, kR1_7, kR1_8, kR1_9, kR1_10, kR1_11, kR1_12, kR1_13, kC2, kG2, kP2, kR2_0, kR2_1, kC3, kG3, kP3, kR3_0, kR3_1, kR3_2, kR3_3, kL4, kA4, kS4, kL5, kA5, kS5, kL6, kA6, kS6, kL7, kA7, kS7, kC8, kG8, kP8, kR8_0, kR8_1, kL9, kA9, kS9, kL10, kA10, kS10, kC11, kG11, kP11, kR11_0, kR11_1, kR11_2, kR11_3, kL12, kA12, kS12, kL13, kA13, kS13, kL14, kA14, kS14, kL15, kA15, kS15, kC16, kG16, kP16, kR16_0, kR16_1, kL17, kA17, kS17, kL18, kA18, kS18, kC19, kG19, kP19, kR19_0, kL20, kL141, kL146, kA146, kS146, kL151, kA151, kS151, kL156, kA156, kS156, kC157, kG157, kP157, kR157_0, kR157_1, kL158, kA158, kS158, kL159, kA159, kS159, kC161, kG161, kP161, kR161_0, kR161_1, kL162, kA162, kS162, kL163, kA163, kS163, kC165, kG165, kP165, kR165_0, kR165_1, kR165_2, kR165_3, kL166, kA166, kS166, kL167, kA167, kS167, kL168, kA168, kS168, kL169, kA169, kS169, kC170, kG170, kP170, kR170_0, kR170_1, kR170_2, kL171, kA171, kS171, kL172, kA172, kS172, kL173, kA173, kS173, kC174, kG174, kP174, kR174_0, kR174_1, kR174_2, kR174_3, kR174_4, kL175, kA175, kS175, kL176, kA176, kS176, kL177, kA177, kS177, kL178, kA178, kS178, kL179, kC180, kG180, kP180, kL181, kL182, kA182, kS182, kC183, kG183, kP183, kR183_1, kR183_3, kR183_5, kR183_6, kR183_7, kR183_8, kR183_9, kR183_21, kR183_26, kR183_27, kR183_30, kR183_31, kR183_33, kR183_34, kR183_36, kR183_37, kR183_38, kR183_39, kR183_40, kR183_41, kR183_42, kR183_43, kR183_44, kL184, kA184, kS184, kL185, kA185, kS185, kL186, kA186, kS186, kL187, kA187, kS187, kL188, kA188, kS188, kL189, kL190, kL191, kA191, kS191, kL192, kA192, kS192, kL193, kA193, kS193, kL194, kA194, kS194, kL195, kA195, kS195, kL196, kA196, kS196, kL197, kA197, kS197, kL198, kA198, kS198, kL199, kA199, kS199, kL200, kA200, kS200, kL201, kL202, kA202, kS202, kL203, kA203, kS203, kL204, kA204, kS204, kL205, kL206, kA206, kS206, isSite_ok hS hG2, hs, one0, in_02, hv0, hv2, or_false, show (48 : Int32) = nI 48 from rfl, nn_add, kpI_out, hsame, m1, show (v = 1) = False from eq_false (by rw [z]; decide), show (v = 2) = False from eq_false (by rw [z]; decide)]
              congr 3
              funext c k
              simp only [xup_at]
              by_cases hc : c = 191 ∧ k = 64
              · rw [hc.1, hc.2]
                simp [mkI_out, xup_at]
                rw [if_neg (by omega), kpI_out (by omega) (by omega), o4, hbe]
              · simp [hc]
            · have hbe : nI (b ||| 2 ^ i) = nI b' := ext _ (Nat.or_lt_two_pow (n := 32) (by omega) (Nat.pow_lt_pow_right (by decide) (by omega))) (fun j hj => by
                rw [bb j hj, z, fb_bit_set]
                by_cases hji : j = i
                · simp [hji]
                · simp [hji])
              simp (disch := first | assumption | omega) only [Option.bind_some, Option.map_some, xw_gR, xw_gN, xw_al, xw_ck, xw_uI, xw_ur, xup_at, xur_at, if_true, if_false, reduceIte, and_true, true_and, and_false, false_and, not_true_eq_false, not_false_eq_true, Nat.reduceEqDiff, eq_self, Nat.reduceAdd, Nat.reduceMul, kC1, kG1, kP1, kR1_0, kR1_1, kR1_2, kR1_3, kR1_4, kR1_5, kR1_6, kR1_7, kR1_8, kR1_9, kR1_10, kR1_11, kR1_12, kR1_13, kC2, kG2, kP2, kR2_0, kR2_1, kC3, kG3, kP3, kR3_0, kR3_1, kR3_2, kR3_3, kL4, kA4, kS4, kL5, kA5, kS5, kL6, kA6, kS6, kL7, kA7, kS7, kC8, kG8, kP8, kR8_0, kR8_1, kL9, kA9, kS9, kL10, kA10, kS10, kC11, kG11, kP11, kR11_0, kR11_1, kR11_2, kR11_3, kL12, kA12, kS12, kL13, kA13, kS13, kL14, kA14, kS14, kL15, kA15, kS15, kC16, kG16, kP16, kR16_0, kR16_1, kL17, kA17, kS17, kL18, kA18, kS18, kC19, kG19, kP19, kR19_0, kL20, kL141, kL146, kA146, kS146, kL151, kA151, kS151, kL156, kA156, kS156, kC157, kG157, kP157, kR157_0, kR157_1, kL158, kA158, kS158, kL159, kA159, kS159, kC161, kG161, kP161, kR161_0, kR161_1, kL162, kA162, kS162, kL163, kA163, kS163, kC165, kG165, kP165, kR165_0, kR165_1, kR165_2, kR165_3, kL166, kA166, kS166, kL167, kA167, kS167, kL168, kA168, kS168, kL169, kA169, kS169, kC170, kG170, kP170, kR170_0, kR170_1, kR170_2, kL171, kA171, kS171, kL172, kA172, kS172, kL173, kA173, kS173, kC174, kG174, kP174, kR174_0, kR174_1, kR174_2, kR174_3, kR174_4, kL175, kA175, kS175, kL176, kA176, kS176, kL177, kA177, kS177, kL178, kA178, kS178, kL179, kC180, kG180, kP180, kL181, kL182, kA182, kS182, kC183, kG183, kP183, kR183_1, kR183_3, kR183_5, kR183_6, kR183_7, kR183_8, kR183_9, kR183_21, kR183_26, kR183_27, kR183_30, kR183_31, kR183_33, kR183_34, kR183_36, kR183_37, kR183_38, kR183_39, kR183_40, kR183_41, kR183_42, kR183_43, kR183_44, kL184, kA184, kS184, kL185, kA185, kS185, kL186, kA186, kS186, kL187, kA187, kS187, kL188, kA188, kS188, kL189, kL190, kL191, kA191, kS191, kL192, kA192, kS192, kL193, kA193, kS193, kL194, kA194, kS194, kL195, kA195, kS195, kL196, kA196, kS196, kL197, kA197, kS197, kL198, kA198, kS198, kL199, kA199, kS199, kL200, kA200, kS200, kL201, kL202, kA202, kS202, kL203, kA203, kS203, kL204, kA204, kS204, kL205, kL206, kA206, kS206, isSite_ok hS hG2, hs, one0, in_02, hv0, hv2, or_false, show (48 : Int32) = nI 48 from rfl, show (64 : Int32) = nI 64 from rfl, nn_add, kpI_out, hsame, m1, show (v = 1) = True from eq_true z, show (v = 2) = False from eq_false (by rw [z]; decide), mkI_out, show ¬ (64 = 48 + i) by omega, o4, nn_one, fa_or, hbe]
            · have hbe : nI (b &&& (2 ^ i ^^^ 4294967295)) = nI b' := ext _ (Nat.lt_of_le_of_lt Nat.and_le_left (by omega)) (fun j hj => by
                rw [bb j hj, z, andn_bit _ _ _ hj, Nat.testBit_two_pow]
                by_cases hji : j = i
                · simp [hji]
                · simp [hji, Ne.symm hji])
              simp (disch := first | assumption | omega) only [Option.bind_some, Option.map_some, xw_gR, xw_gN, xw_al, xw_ck, xw_uI, xw_ur, xup_at, xur_at, if_true, if_false, reduceIte, and_true, true_and, and_false, false_and, not_true_eq_false, not_false_eq_true, Nat.reduceEqDiff, eq_self, Nat.reduceAdd, Nat.reduceMul, kC1, kG1, kP1, kR1_0, kR1_1, kR1_2, kR1_3, kR1_4, kR1_5, kR1_6, kR1_7, kR1_8, kR1_9, kR1_10, kR1_11, kR1_12, kR1_13, kC2, kG2, kP2, kR2_0, kR2_1, kC3, kG3, kP3, kR3_0, kR3_1, kR3_2, kR3_3, kL4, kA4, kS4, kL5, kA5, kS5, kL6, kA6, kS6, kL7, kA7, kS7, kC8, kG8, kP8, kR8_0, kR8_1, kL9, kA9, kS9, kL10, kA10, kS10, kC11, kG11, kP11, kR11_0, kR11_1, kR11_2, kR11_3, kL12, kA12, kS12, kL13, kA13, kS13, kL14, kA14, kS14, kL15, kA15, kS15, kC16, kG16, kP16, kR16_0, kR16_1, kL17, kA17, kS17, kL18, kA18, kS18, kC19, kG19, kP19, kR19_0, kL20, kL141, kL146, kA146, kS146, kL151, kA151, kS151, kL156, kA156, kS156, kC157, kG157, kP157, kR157_0, kR157_1, kL158, kA158, kS158, kL159, kA159, kS159, kC161, kG161, kP161, kR161_0, kR161_1, kL162, kA162, kS162, kL163, kA163, kS163, kC165, kG165, kP165, kR165_0, kR165_1, kR165_2, kR165_3, kL166, kA166, kS166, kL167, kA167, kS167, kL168, kA168, kS168, kL169, kA169, kS169, kC170, kG170, kP170, kR170_0, kR170_1, kR170_2, kL171, kA171, kS171, kL172, kA172, kS172, kL173, kA173, kS173, kC174, kG174, kP174, kR174_0, kR174_1, kR174_2, kR174_3, kR174_4, kL175, kA175, kS175, kL176, kA176, kS176, kL177, kA177, kS177, kL178, kA178, kS178, kL179, kC180, kG180, kP180, kL181, kL182, kA182, kS182, kC183, kG183, kP183, kR183_1, kR183_3, kR183_5, kR183_6, kR183_7, kR183_8, kR183_9, kR183_21, kR183_26, kR183_27, kR183_30, kR183_31, kR183_33, kR183_34, kR183_36, kR183_37, kR183_38, kR183_39, kR183_40, kR183_41, kR183_42, kR183_43, kR183_44, kL184, kA184, kS184, kL185, kA185, kS185, kL186, kA186, kS186, kL187, kA187, kS187, kL188, kA188, kS188, kL189, kL190, kL191, kA191, kS191, kL192, kA192, kS192, kL193, kA193, kS193, kL194, kA194, kS194, kL195, kA195, kS195, kL196, kA196, kS196, kL197, kA197, kS197, kL198, kA198, kS198, kL199, kA199, kS199, kL200, kA200, kS200, kL201, kL202, kA202, kS202, kL203, kA203, kS203, kL204, kA204, kS204, kL205, kL206, kA206, kS206, isSite_ok hS hG2, hs, one0, in_02, hv0, hv2, or_false, show (48 : Int32) = nI 48 from rfl, show (64 : Int32) = nI 64 from rfl, nn_add, kpI_out, hsame, m1, show (v = 1) = False from eq_false (by rw [z]; decide), show (v = 2) = True from eq_true z, mkI_out, show ¬ (64 = 48 + i) by omega, o4, nn_one, nn_andn, hbe]
          · have r191 : ∀ k, k ≠ 64 → (xup (xup (xup (mkI (xup (xup (xup (xup (xup (kpI (xI σ) nx q) 16 2 (nI (pN p i v))) 16 3 (nI (uN2 u i v))) 16 4 (nI b')) 1 15 (nI (st + 1))) 16 7 (nI (st + 1))) ea q) 191 (48 + i) v) 191 64 (nI b')) 183 32 0) 191 k = if k = 48 + i then v else xI σ 191 k := by
              intro k hk
              rw [xup_at, if_neg (by omega), xup_at, if_neg (by omega), xup_at]
              by_cases hk2 : k = 48 + i
              · rw [if_pos ⟨rfl, hk2⟩, if_pos hk2]
              · rw [if_neg (by omega), if_neg hk2, mkI_out (by omega) (by omega), xup_at, if_neg (by omega), xup_at, if_neg (by omega), xup_at, if_neg (by omega), xup_at, if_neg (by omega), xup_at, if_neg (by omega), kpI_out (by omega) (by omega)]
            refine INV_i (H.hand hq hnx hea p3 p8 (I2 := xup (xup (xup (xup (xup (kpI (xI σ) nx q) 16 2 (nI (pN p i v))) 16 3 (nI (uN2 u i v))) 16 4 (nI b')) 1 15 (nI (st + 1))) 16 7 (nI (st + 1))) ?_ ?_ (Nat.le_succ _) (Nat.succ_le_succ H.stn) (fun _ _ => rfl) (fun t ht => gUp_old (by omega)) ?_ (LV_pin (I := xI σ) hG.1 (i := i) (v := v) hi hv H.now (p' := pN p i v) (u' := uN2 u i v) (b' := b') ?_ ?_ ?_ ?_ ?_ ?_ ?_ r191 ?_ ?_ ?_ hbb ?_) (.inl ?_))
            · intro a k h; rw [xup_at, if_neg (by omega), xup_at, if_neg (by omega), xup_at, if_neg (by omega), xup_at, if_neg (by omega), xup_at, if_neg (by omega)]
            · intro a k h; rw [xup_at, if_neg (by omega), xup_at, if_neg (by omega), xup_at, if_neg (by omega)]
            · rw [xup_at, if_neg (by omega), xup_at, if_neg (by omega), xup_at, if_neg (by omega), mkI_out (by omega) (by omega), xup_at, if_neg (by omega), xup_at, if_pos ⟨rfl, rfl⟩]
            · rw [xup_at, if_neg (by omega), xup_at, if_neg (by omega), xup_at, if_neg (by omega), mkI_out (by omega) (by omega), xup_at, if_neg (by omega), xup_at, if_neg (by omega), xup_at, if_neg (by omega), xup_at, if_neg (by omega), xup_at, if_pos ⟨rfl, rfl⟩]
            · rw [xup_at, if_neg (by omega), xup_at, if_neg (by omega), xup_at, if_neg (by omega), mkI_out (by omega) (by omega), xup_at, if_neg (by omega), xup_at, if_neg (by omega), xup_at, if_neg (by omega), xup_at, if_pos ⟨rfl, rfl⟩]
            · rw [xup_at, if_neg (by omega), xup_at, if_neg (by omega), xup_at, if_neg (by omega), mkI_out (by omega) (by omega), xup_at, if_neg (by omega), xup_at, if_neg (by omega), xup_at, if_pos ⟨rfl, rfl⟩]
            · rw [xup_at, if_neg (by omega), xup_at, if_neg (by omega), xup_at, if_neg (by omega), mkI_out (by omega) (by omega), xup_at, if_neg (by omega), xup_at, if_neg (by omega), xup_at, if_neg (by omega), xup_at, if_neg (by omega), xup_at, if_neg (by omega), kpI_out (by omega) (by omega)]
            · rw [xup_at, if_neg (by omega), xup_at, if_neg (by omega), xup_at, if_neg (by omega), mkI_out (by omega) (by omega), xup_at, if_neg (by omega), xup_at, if_neg (by omega), xup_at, if_neg (by omega), xup_at, if_neg (by omega), xup_at, if_neg (by omega), kpI_out (by omega) (by omega)]
            · rw [xup_at, if_neg (by omega), xup_at, if_neg (by omega), xup_at, if_neg (by omega), mkI_out (by omega) (by omega), xup_at, if_pos ⟨rfl, rfl⟩]
            · intro a k h1 h2
              rw [xup_at, if_neg (by omega), xup_at, if_neg (by omega), xup_at, if_neg (by omega), mkI_out (by omega) (by omega), xup_at, if_neg (by omega), xup_at, if_neg (by omega), xup_at, if_neg (by omega), xup_at, if_neg (by omega), xup_at, if_neg (by omega), kpI_out (by omega) (by omega)]
            · rw [xup_at, if_neg (by omega), xup_at, if_pos ⟨rfl, rfl⟩]
            · intro j
              by_cases hj : j < 16
              · rw [pNb j (by omega), r191 _ (by omega)]
                by_cases hji : j = i
                · subst hji; simp [hi]
                · rw [if_neg hji, if_neg (by omega), e5]
              · rw [pNh j (by omega)]; simp; omega
            · intro j
              by_cases hj : j < 16
              · rw [uNb j (by omega), r191 _ (by omega)]
                by_cases hji : j = i
                · subst hji; simp [hi]
                · rw [if_neg hji, if_neg (by omega), e6]
              · rw [uNh j (by omega)]; simp; omega
            · intro j hj
              rw [r191 _ (by omega), bb j (by omega)]
              by_cases hji : j = i
              · rw [if_pos (by omega), if_pos hji]
                intro hne
                rw [if_neg hne]
              · rw [if_neg (by omega), if_neg hji]
                intro hne
                exact o5 j hj hne
            · rw [xup_at, if_pos ⟨rfl, rfl⟩]
  · refine ⟨0, σ, σ, ?_, ?_, g, gT, gP, st, H.nop⟩
    · show f_X11_pin (xw σ (xI σ)) 1 x v = _
      unfold f_X11_pin
      simp (disch := first | assumption | omega) only [Option.bind_some, Option.map_some, xw_gR, xw_gN, xw_al, xw_ck, xw_uI, xw_ur, xup_at, xur_at, if_true, if_false, reduceIte, and_true, true_and, and_false, false_and, not_true_eq_false, not_false_eq_true, Nat.reduceEqDiff, eq_self, Nat.reduceAdd, Nat.reduceMul, kC1, kG1, kP1, kR1_0, kR1_1, kR1_2, kR1_3, kR1_4, kR1_5, kR1_6, kR1_7, kR1_8, kR1_9, kR1_10, kR1_11, kR1_12, kR1_13, kC2, kG2, kP2, kR2_0, kR2_1, kC3, kG3, kP3, kR3_0, kR3_1, kR3_2, kR3_3, kL4, kA4, kS4, kL5, kA5, kS5, kL6, kA6, kS6, kL7, kA7, kS7, kC8, kG8, kP8, kR8_0, kR8_1, kL9, kA9, kS9, kL10, kA10, kS10, kC11, kG11, kP11, kR11_0, kR11_1, kR11_2, kR11_3, kL12, kA12, kS12, kL13, kA13, kS13, kL14, kA14, kS14, kL15, kA15, kS15, kC16, kG16, kP16, kR16_0, kR16_1, kL17, kA17, kS17, kL18, kA18, kS18, kC19, kG19, kP19, kR19_0, kL20, kL141, kL146, kA146, kS146, kL151, kA151, kS151, kL156, kA156, kS156, kC157, kG157, kP157, kR157_0, kR157_1, kL158, kA158, kS158, kL159, kA159, kS159, kC161, kG161, kP161, kR161_0, kR161_1, kL162, kA162, kS162, kL163, kA163, kS163, kC165, kG165, kP165, kR165_0, kR165_1, kR165_2, kR165_3, kL166, kA166, kS166, kL167, kA167, kS167, kL168, kA168, kS168, kL169, kA169, kS169, kC170, kG170, kP170, kR170_0, kR170_1, kR170_2, kL171, kA171, kS171, kL172, kA172, kS172, kL173, kA173, kS173, kC174, kG174, kP174, kR174_0, kR174_1, kR174_2, kR174_3, kR174_4, kL175, kA175, kS175, kL176, kA176, kS176, kL177, kA177, kS177, kL178, kA178, kS178, kL179, kC180, kG180, kP180, kL181, kL182, kA182, kS182, kC183, kG183, kP183, kR183_1, kR183_3, kR183_5, kR183_6, kR183_7, kR183_8, kR183_9, kR183_21, kR183_26, kR183_27, kR183_30, kR183_31, kR183_33, kR183_34, kR183_36, kR183_37, kR183_38, kR183_39, kR183_40, kR183_41, kR183_42, kR183_43, kR183_44, kL184, kA184, kS184, kL185, kA185, kS185, kL186, kA186, kS186, kL187, kA187, kS187, kL188, kA188, kS188, kL189, kL190, kL191, kA191, kS191, kL192, kA192, kS192, kL193, kA193, kS193, kL194, kA194, kS194, kL195, kA195, kS195, kL196, kA196, kS196, kL197, kA197, kS197, kL198, kA198, kS198, kL199, kA199, kS199, kL200, kA200, kS200, kL201, kL202, kA202, kS202, kL203, kA203, kS203, kL204, kA204, kS204, kL205, kL206, kA206, kS206, hasSite_ok hS hG, hs]
      rfl
    · show f_X12_pin (xw σ (xI σ)) 183 x v = _
      unfold f_X12_pin
      simp (disch := first | assumption | omega) only [Option.bind_some, Option.map_some, xw_gR, xw_gN, xw_al, xw_ck, xw_uI, xw_ur, xup_at, xur_at, if_true, if_false, reduceIte, and_true, true_and, and_false, false_and, not_true_eq_false, not_false_eq_true, Nat.reduceEqDiff, eq_self, Nat.reduceAdd, Nat.reduceMul, kC1, kG1, kP1, kR1_0, kR1_1, kR1_2, kR1_3, kR1_4, kR1_5, kR1_6, kR1_7, kR1_8, kR1_9, kR1_10, kR1_11, kR1_12, kR1_13, kC2, kG2, kP2, kR2_0, kR2_1, kC3, kG3, kP3, kR3_0, kR3_1, kR3_2, kR3_3, kL4, kA4, kS4, kL5, kA5, kS5, kL6, kA6, kS6, kL7, kA7, kS7, kC8, kG8, kP8, kR8_0, kR8_1, kL9, kA9, kS9, kL10, kA10, kS10, kC11, kG11, kP11, kR11_0, kR11_1, kR11_2, kR11_3, kL12, kA12, kS12, kL13, kA13, kS13, kL14, kA14, kS14, kL15, kA15, kS15, kC16, kG16, kP16, kR16_0, kR16_1, kL17, kA17, kS17, kL18, kA18, kS18, kC19, kG19, kP19, kR19_0, kL20, kL141, kL146, kA146, kS146, kL151, kA151, kS151, kL156, kA156, kS156, kC157, kG157, kP157, kR157_0, kR157_1, kL158, kA158, kS158, kL159, kA159, kS159, kC161, kG161, kP161, kR161_0, kR161_1, kL162, kA162, kS162, kL163, kA163, kS163, kC165, kG165, kP165, kR165_0, kR165_1, kR165_2, kR165_3, kL166, kA166, kS166, kL167, kA167, kS167, kL168, kA168, kS168, kL169, kA169, kS169, kC170, kG170, kP170, kR170_0, kR170_1, kR170_2, kL171, kA171, kS171, kL172, kA172, kS172, kL173, kA173, kS173, kC174, kG174, kP174, kR174_0, kR174_1, kR174_2, kR174_3, kR174_4, kL175, kA175, kS175, kL176, kA176, kS176, kL177, kA177, kS177, kL178, kA178, kS178, kL179, kC180, kG180, kP180, kL181, kL182, kA182, kS182, kC183, kG183, kP183, kR183_1, kR183_3, kR183_5, kR183_6, kR183_7, kR183_8, kR183_9, kR183_21, kR183_26, kR183_27, kR183_30, kR183_31, kR183_33, kR183_34, kR183_36, kR183_37, kR183_38, kR183_39, kR183_40, kR183_41, kR183_42, kR183_43, kR183_44, kL184, kA184, kS184, kL185, kA185, kS185, kL186, kA186, kS186, kL187, kA187, kS187, kL188, kA188, kS188, kL189, kL190, kL191, kA191, kS191, kL192, kA192, kS192, kL193, kA193, kS193, kL194, kA194, kS194, kL195, kA195, kS195, kL196, kA196, kS196, kL197, kA197, kS197, kL198, kA198, kS198, kL199, kA199, kS199, kL200, kA200, kS200, kL201, kL202, kA202, kS202, kL203, kA203, kS203, kL204, kA204, kS204, kL205, kL206, kA206, kS206, isSite_ok hS hG, hs]
      rfl
end
section
/-! undo, hold, restore -/
theorem slK : ∀ i, i < 3 → shK.getD (142 + 5 * i) (99, 0) = (7, 0) ∧ shK.getD (146 + 5 * i) (99, 0) = (20, 289) ∧ (shR.getD 141 []).getD i 0 = 142 + 5 * i ∧ (shR.getD (142 + 5 * i) []).getD 0 0 = 143 + 5 * i ∧ (shR.getD (142 + 5 * i) []).getD 1 0 = 146 + 5 * i := by decide +kernel
section SLOT
variable {σ : XS} {I : Nat → Nat → Int32} {i : Nat}
theorem slT (h : Shp σ) (hi : i < 3) : xT σ (142 + 5 * i) = 7 := by
  unfold xT
  rw [xw_K h (by omega) (by omega) (by omega), (slK i hi).1]
theorem slG (h : Shp σ) (hi : i < 3) {j : Nat} : xgI (xw σ I) (142 + 5 * i) 7 j = some (I (142 + 5 * i) j) := xw_gI (slT h hi)
theorem slP (h : Shp σ) (hi : i < 3) {j : Nat} {v : Int32} : xpI (xw σ I) (142 + 5 * i) 7 j v = some (xw σ (xup I (142 + 5 * i) j v)) := xw_pI (slT h hi)
theorem slR0 (h : Shp σ) (hi : i < 3) : xgR σ (142 + 5 * i) 7 0 = some (143 + 5 * i) := by
  refine xgR_to (slT h hi) ?_ (by omega)
  rw [h.2.2 _ (by omega) 0 (by rw [(slK i hi).2.2.2.1]; omega), (slK i hi).2.2.2.1]
theorem slR1 (h : Shp σ) (hi : i < 3) : xgR σ (142 + 5 * i) 7 1 = some (146 + 5 * i) := by
  refine xgR_to (slT h hi) ?_ (by omega)
  rw [h.2.2 _ (by omega) 1 (by rw [(slK i hi).2.2.2.2]; omega), (slK i hi).2.2.2.2]
theorem slA (h : Shp σ) (hi : i < 3) : xaR (xw σ I) 25 141 (nI i) = some (142 + 5 * i) := by
  have e : xR σ 141 i = 142 + 5 * i := by
    rw [h.2.2 141 (by decide) i (by rw [(slK i hi).2.2.1]; omega), (slK i hi).2.2.1]
  rw [xaR_ok (σ := xw σ I) (n := 3) (sT141 h) (sl141 h) hi (by decide) (by show xR σ 141 i ≠ 0; omega)]
  show some (xR σ 141 i) = _
  rw [e]
theorem slotAt_ok (h : Shp σ) (hi : i < 3) : f_X11_slotAt (xw σ I) 1 (nI i) = some (142 + 5 * i) := by
  have hS := h
  unfold f_X11_slotAt
  simp (disch := first | assumption | omega) only [Option.bind_some, Option.map_some, xw_gR, xw_gN, xw_al, xw_ck, xw_uI, xw_ur, xup_at, xur_at, if_true, if_false, reduceIte, and_true, true_and, and_false, false_and, not_true_eq_false, not_false_eq_true, Nat.reduceEqDiff, eq_self, Nat.reduceAdd, Nat.reduceMul, kC1, kG1, kP1, kR1_0, kR1_1, kR1_2, kR1_3, kR1_4, kR1_5, kR1_6, kR1_7, kR1_8, kR1_9, kR1_10, kR1_11, kR1_12, kR1_13, kC2, kG2, kP2, kR2_0, kR2_1, kC3, kG3, kP3, kR3_0, kR3_1, kR3_2, kR3_3, kL4, kA4, kS4, kL5, kA5, kS5, kL6, kA6, kS6, kL7, kA7, kS7, kC8, kG8, kP8, kR8_0, kR8_1, kL9, kA9, kS9, kL10, kA10, kS10, kC11, kG11, kP11, kR11_0, kR11_1, kR11_2, kR11_3, kL12, kA12, kS12, kL13, kA13, kS13, kL14, kA14, kS14, kL15, kA15, kS15, kC16, kG16, kP16, kR16_0, kR16_1, kL17, kA17, kS17, kL18, kA18, kS18, kC19, kG19, kP19, kR19_0, kL20, kL141, kL146, kA146, kS146, kL151, kA151, kS151, kL156, kA156, kS156, kC157, kG157, kP157, kR157_0, kR157_1, kL158, kA158, kS158, kL159, kA159, kS159, kC161, kG161, kP161, kR161_0, kR161_1, kL162, kA162, kS162, kL163, kA163, kS163, kC165, kG165, kP165, kR165_0, kR165_1, kR165_2, kR165_3, kL166, kA166, kS166, kL167, kA167, kS167, kL168, kA168, kS168, kL169, kA169, kS169, kC170, kG170, kP170, kR170_0, kR170_1, kR170_2, kL171, kA171, kS171, kL172, kA172, kS172, kL173, kA173, kS173, kC174, kG174, kP174, kR174_0, kR174_1, kR174_2, kR174_3, kR174_4, kL175, kA175, kS175, kL176, kA176, kS176, kL177, kA177, kS177, kL178, kA178, kS178, kL179, kC180, kG180, kP180, kL181, kL182, kA182, kS182, kC183, kG183, kP183, kR183_1, kR183_3, kR183_5, kR183_6, kR183_7, kR183_8, kR183_9, kR183_21, kR183_26, kR183_27, kR183_30, kR183_31, kR183_33, kR183_34, kR183_36, kR183_37, kR183_38, kR183_39, kR183_40, kR183_41, kR183_42, kR183_43, kR183_44, kL184, kA184, kS184, kL185, kA185, kS185, kL186, kA186, kS186, kL187, kA187, kS187, kL188, kA188, kS188, kL189, kL190, kL191, kA191, kS191, kL192, kA192, kS192, kL193, kA193, kS193, kL194, kA194, kS194, kL195, kA195, kS195, kL196, kA196, kS196, kL197, kA197, kS197, kL198, kA198, kS198, kL199, kA199, kS199, kL200, kA200, kS200, kL201, kL202, kA202, kS202, kL203, kA203, kS203, kL204, kA204, kS204, kL205, kL206, kA206, kS206, nn_nneg, nn_le, show ¬ (3 ≤ i) by omega, slA h hi]
  rw [xnz_ok (by omega)]
  rfl
theorem slotAt_no (h : Shp σ) {x : Int32} (hx : x < 0 ∨ 2 < x) : f_X11_slotAt (xw σ I) 1 x = some 0 := by
  have hS := h
  unfold f_X11_slotAt
  by_cases h0 : x < 0
  · rw [if_pos h0]
  · obtain ⟨j, hj, rfl⟩ := nn_of h0
    have h2 : 2 < j := by
      rcases hx with z | z
      · exact absurd z h0
      · rw [show (2 : Int32) = nI 2 from rfl, nn_lt (by decide) hj] at z; exact z
    rw [if_neg h0]
    simp (disch := first | assumption | omega) only [Option.bind_some, Option.map_some, xw_gR, xw_gN, xw_al, xw_ck, xw_uI, xw_ur, xup_at, xur_at, if_true, if_false, reduceIte, and_true, true_and, and_false, false_and, not_true_eq_false, not_false_eq_true, Nat.reduceEqDiff, eq_self, Nat.reduceAdd, Nat.reduceMul, kC1, kG1, kP1, kR1_0, kR1_1, kR1_2, kR1_3, kR1_4, kR1_5, kR1_6, kR1_7, kR1_8, kR1_9, kR1_10, kR1_11, kR1_12, kR1_13, kC2, kG2, kP2, kR2_0, kR2_1, kC3, kG3, kP3, kR3_0, kR3_1, kR3_2, kR3_3, kL4, kA4, kS4, kL5, kA5, kS5, kL6, kA6, kS6, kL7, kA7, kS7, kC8, kG8, kP8, kR8_0, kR8_1, kL9, kA9, kS9, kL10, kA10, kS10, kC11, kG11, kP11, kR11_0, kR11_1, kR11_2, kR11_3, kL12, kA12, kS12, kL13, kA13, kS13, kL14, kA14, kS14, kL15, kA15, kS15, kC16, kG16, kP16, kR16_0, kR16_1, kL17, kA17, kS17, kL18, kA18, kS18, kC19, kG19, kP19, kR19_0, kL20, kL141, kL146, kA146, kS146, kL151, kA151, kS151, kL156, kA156, kS156, kC157, kG157, kP157, kR157_0, kR157_1, kL158, kA158, kS158, kL159, kA159, kS159, kC161, kG161, kP161, kR161_0, kR161_1, kL162, kA162, kS162, kL163, kA163, kS163, kC165, kG165, kP165, kR165_0, kR165_1, kR165_2, kR165_3, kL166, kA166, kS166, kL167, kA167, kS167, kL168, kA168, kS168, kL169, kA169, kS169, kC170, kG170, kP170, kR170_0, kR170_1, kR170_2, kL171, kA171, kS171, kL172, kA172, kS172, kL173, kA173, kS173, kC174, kG174, kP174, kR174_0, kR174_1, kR174_2, kR174_3, kR174_4, kL175, kA175, kS175, kL176, kA176, kS176, kL177, kA177, kS177, kL178, kA178, kS178, kL179, kC180, kG180, kP180, kL181, kL182, kA182, kS182, kC183, kG183, kP183, kR183_1, kR183_3, kR183_5, kR183_6, kR183_7, kR183_8, kR183_9, kR183_21, kR183_26, kR183_27, kR183_30, kR183_31, kR183_33, kR183_34, kR183_36, kR183_37, kR183_38, kR183_39, kR183_40, kR183_41, kR183_42, kR183_43, kR183_44, kL184, kA184, kS184, kL185, kA185, kS185, kL186, kA186, kS186, kL187, kA187, kS187, kL188, kA188, kS188, kL189, kL190, kL191, kA191, kS191, kL192, kA192, kS192, kL193, kA193, kS193, kL194, kA194, kS194, kL195, kA195, kS195, kL196, kA196, kS196, kL197, kA197, kS197, kL198, kA198, kS198, kL199, kA199, kS199, kL200, kA200, kS200, kL201, kL202, kA202, kS202, kL203, kA203, kS203, kL204, kA204, kS204, kL205, kL206, kA206, kS206, nn_le, show 3 ≤ j by omega]
end SLOT
theorem slot_c (x : Int32) : (x < 0 ∨ 2 < x) ∨ ∃ i, i < 3 ∧ x = nI i ∧ ¬ (x < 0 ∨ 2 < x) := by
  by_cases h : x < 0 ∨ 2 < x
  · exact .inl h
  · right
    have h1 : ¬ x < 0 := fun z => h (.inl z)
    have h2 : ¬ 2 < x := fun z => h (.inr z)
    rcases v012 h1 h2 with z | z | z
    · exact ⟨0, by decide, z, h⟩
    · exact ⟨1, by decide, z, h⟩
    · exact ⟨2, by decide, z, h⟩
/-- another setup is now the one that counts -/
theorem IV.turnTo {n : Nat} {σ : XS} {g : GD} {gT gP : GH} {st : Nat} (H : IV n σ g gT gP st) {I' : Nat → Nat → Int32}
    (u : ∀ a k, ¬ ((16 ≤ a ∧ a ≤ 19) ∨ a = 191 ∨ (a = 183 ∧ (k = 29 ∨ k = 32))) → I' a k = xI σ a k) (hnow : LV g gT gP st I' 16 (I' 191)) (hpst : PST g gT gP st I') (hk : I' 183 32 = 0) : IV (n + 1) (xw σ I') g gT gP st := by
  have hg := H.grd.1
  have hc := H.cells
  refine ⟨H.shp, Nat.le_succ_of_le H.stn, (u 1 15 (by omega)).trans H.sts, TAP_c (fun a k q => u a k (by unfold sTAP at q; omega)) H.tap, ?_, GRD_c (fun a k q => u a k (by unfold sGRD at q; omega)) H.grd, hnow, hpst, SLT_c hg (fun a k q => u a k (by unfold sSLT at q; omega)) (Nat.le_refl _) (fun _ _ => rfl) (fun _ _ => rfl) H.slt, CCH_c (fun a k q => u a k (by unfold sCCH at q; rw [xw_R] at q; omega)) (Nat.le_refl _) (fun _ _ => rfl) (fun _ _ => rfl) H.cch, .inl hk, H.cel⟩
  show I' 1 14 = I' 183 16
  rw [u _ _ (by omega), u _ _ (by omega)]; exact H.plc
theorem undo_l {σ : XS} {I : Nat → Nat → Int32} (hS : Shp σ) {y : Nat} (hy : y + 66 ≤ 2640) : xloop (f_X12_undo_b37 183 (nI y)) ((0 : Int32), xw σ I) = some (1, xw σ (xup (rcI I 191 0 193 y 66) 183 32 0)) := by
  refine xforE (fun j : Nat => (nI j, xw σ (rcI I 191 0 193 y j))) 66 (by simp only [rcI_0]; rfl) (fun j hj => ?_) ?_
  · simp only [f_X12_undo_b37]
    rw [if_neg (by rw [show (66 : Int32) = nI 66 from rfl, nn_le (by omega) (by omega)]; omega)]
    simp (disch := first | assumption | omega) only [Option.bind_some, Option.map_some, xw_gR, xw_gN, xw_al, xw_ck, xw_uI, xw_ur, xup_at, xur_at, if_true, if_false, reduceIte, and_true, true_and, and_false, false_and, not_true_eq_false, not_false_eq_true, Nat.reduceEqDiff, eq_self, Nat.reduceAdd, Nat.reduceMul, kC1, kG1, kP1, kR1_0, kR1_1, kR1_2, kR1_3, kR1_4, kR1_5, kR1_6, kR1_7, kR1_8, kR1_9, kR1_10, kR1_11, kR1_12, kR1_13, kC2, kG2, kP2, kR2_0, kR2_1, kC3, kG3, kP3, kR3_0, kR3_1, kR3_2, kR3_3, kL4, kA4, kS4, kL5, kA5, kS5, kL6, kA6, kS6, kL7, kA7, kS7, kC8, kG8, kP8, kR8_0, kR8_1, kL9, kA9, kS9, kL10, kA10, kS10, kC11, kG11, kP11, kR11_0, kR11_1, kR11_2, kR11_3, kL12, kA12, kS12, kL13, kA13, kS13, kL14, kA14, kS14, kL15, kA15, kS15, kC16, kG16, kP16, kR16_0, kR16_1, kL17, kA17, kS17, kL18, kA18, kS18, kC19, kG19, kP19, kR19_0, kL20, kL141, kL146, kA146, kS146, kL151, kA151, kS151, kL156, kA156, kS156, kC157, kG157, kP157, kR157_0, kR157_1, kL158, kA158, kS158, kL159, kA159, kS159, kC161, kG161, kP161, kR161_0, kR161_1, kL162, kA162, kS162, kL163, kA163, kS163, kC165, kG165, kP165, kR165_0, kR165_1, kR165_2, kR165_3, kL166, kA166, kS166, kL167, kA167, kS167, kL168, kA168, kS168, kL169, kA169, kS169, kC170, kG170, kP170, kR170_0, kR170_1, kR170_2, kL171, kA171, kS171, kL172, kA172, kS172, kL173, kA173, kS173, kC174, kG174, kP174, kR174_0, kR174_1, kR174_2, kR174_3, kR174_4, kL175, kA175, kS175, kL176, kA176, kS176, kL177, kA177, kS177, kL178, kA178, kS178, kL179, kC180, kG180, kP180, kL181, kL182, kA182, kS182, kC183, kG183, kP183, kR183_1, kR183_3, kR183_5, kR183_6, kR183_7, kR183_8, kR183_9, kR183_21, kR183_26, kR183_27, kR183_30, kR183_31, kR183_33, kR183_34, kR183_36, kR183_37, kR183_38, kR183_39, kR183_40, kR183_41, kR183_42, kR183_43, kR183_44, kL184, kA184, kS184, kL185, kA185, kS185, kL186, kA186, kS186, kL187, kA187, kS187, kL188, kA188, kS188, kL189, kL190, kL191, kA191, kS191, kL192, kA192, kS192, kL193, kA193, kS193, kL194, kA194, kS194, kL195, kA195, kS195, kL196, kA196, kS196, kL197, kA197, kS197, kL198, kA198, kS198, kL199, kA199, kS199, kL200, kA200, kS200, kL201, kL202, kA202, kS202, kL203, kA203, kS203, kL204, kA204, kS204, kL205, kL206, kA206, kS206, nn_add, rcI_src (show 193 ≠ 191 by decide)]
    have e := rcI_s (I := I) (d := 191) (x := 0) (s := 193) (y := y) (n := j)
    rw [Nat.zero_add] at e
    rw [e, show (1 : Int32) = nI 1 from rfl, nn_add]
  · simp only [f_X12_undo_b37]
    rw [if_pos (by decide)]
    simp (disch := first | assumption | omega) only [Option.bind_some, Option.map_some, xw_gR, xw_gN, xw_al, xw_ck, xw_uI, xw_ur, xup_at, xur_at, if_true, if_false, reduceIte, and_true, true_and, and_false, false_and, not_true_eq_false, not_false_eq_true, Nat.reduceEqDiff, eq_self, Nat.reduceAdd, Nat.reduceMul, kC1, kG1, kP1, kR1_0, kR1_1, kR1_2, kR1_3, kR1_4, kR1_5, kR1_6, kR1_7, kR1_8, kR1_9, kR1_10, kR1_11, kR1_12, kR1_13, kC2, kG2, kP2, kR2_0, kR2_1, kC3, kG3, kP3, kR3_0, kR3_1, kR3_2, kR3_3, kL4, kA4, kS4, kL5, kA5, kS5, kL6, kA6, kS6, kL7, kA7, kS7, kC8, kG8, kP8, kR8_0, kR8_1, kL9, kA9, kS9, kL10, kA10, kS10, kC11, kG11, kP11, kR11_0, kR11_1, kR11_2, kR11_3, kL12, kA12, kS12, kL13, kA13, kS13, kL14, kA14, kS14, kL15, kA15, kS15, kC16, kG16, kP16, kR16_0, kR16_1, kL17, kA17, kS17, kL18, kA18, kS18, kC19, kG19, kP19, kR19_0, kL20, kL141, kL146, kA146, kS146, kL151, kA151, kS151, kL156, kA156, kS156, kC157, kG157, kP157, kR157_0, kR157_1, kL158, kA158, kS158, kL159, kA159, kS159, kC161, kG161, kP161, kR161_0, kR161_1, kL162, kA162, kS162, kL163, kA163, kS163, kC165, kG165, kP165, kR165_0, kR165_1, kR165_2, kR165_3, kL166, kA166, kS166, kL167, kA167, kS167, kL168, kA168, kS168, kL169, kA169, kS169, kC170, kG170, kP170, kR170_0, kR170_1, kR170_2, kL171, kA171, kS171, kL172, kA172, kS172, kL173, kA173, kS173, kC174, kG174, kP174, kR174_0, kR174_1, kR174_2, kR174_3, kR174_4, kL175, kA175, kS175, kL176, kA176, kS176, kL177, kA177, kS177, kL178, kA178, kS178, kL179, kC180, kG180, kP180, kL181, kL182, kA182, kS182, kC183, kG183, kP183, kR183_1, kR183_3, kR183_5, kR183_6, kR183_7, kR183_8, kR183_9, kR183_21, kR183_26, kR183_27, kR183_30, kR183_31, kR183_33, kR183_34, kR183_36, kR183_37, kR183_38, kR183_39, kR183_40, kR183_41, kR183_42, kR183_43, kR183_44, kL184, kA184, kS184, kL185, kA185, kS185, kL186, kA186, kS186, kL187, kA187, kS187, kL188, kA188, kS188, kL189, kL190, kL191, kA191, kS191, kL192, kA192, kS192, kL193, kA193, kS193, kL194, kA194, kS194, kL195, kA195, kS195, kL196, kA196, kS196, kL197, kA197, kS197, kL198, kA198, kS198, kL199, kA199, kS199, kL200, kA200, kS200, kL201, kL202, kA202, kS202, kL203, kA203, kS203, kL204, kA204, kS204, kL205, kL206, kA206, kS206]
theorem op_undo : Op_undo INV := by
  intro n σ hn ⟨g, gT, gP, st, H⟩ _
  have hS := H.shp
  have hG := H.grd
  obtain ⟨q, nx, ea, hq, hnx, hea, p1, p2, p3, p4, p8⟩ := H.pst
  have gb : ∀ (L : Nat), L = (nx + 39) % 40 → f_X5_giveBack (xw σ (xI σ)) 19 16 = f_X5_giveBack_j18 (xw σ (xI σ)) 19 16 (nI L) := by
    intro L hL
    unfold f_X5_giveBack
    simp (disch := first | assumption | omega) only [Option.bind_some, Option.map_some, xw_gR, xw_gN, xw_al, xw_ck, xw_uI, xw_ur, xup_at, xur_at, if_true, if_false, reduceIte, and_true, true_and, and_false, false_and, not_true_eq_false, not_false_eq_true, Nat.reduceEqDiff, eq_self, Nat.reduceAdd, Nat.reduceMul, kC1, kG1, kP1, kR1_0, kR1_1, kR1_2, kR1_3, kR1_4, kR1_5, kR1_6, kR1_7, kR1_8, kR1_9, kR1_10, kR1_11, kR1_12, kR1_13, kC2, kG2, kP2, kR2_0, kR2_1, kC3, kG3, kP3, kR3_0, kR3_1, kR3_2, kR3_3, kL4, kA4, kS4, kL5, kA5, kS5, kL6, kA6, kS6, kL7, kA7, kS7, kC8, kG8, kP8, kR8_0, kR8_1, kL9, kA9, kS9, kL10, kA10, kS10, kC11, kG11, kP11, kR11_0, kR11_1, kR11_2, kR11_3, kL12, kA12, kS12, kL13, kA13, kS13, kL14, kA14, kS14, kL15, kA15, kS15, kC16, kG16, kP16, kR16_0, kR16_1, kL17, kA17, kS17, kL18, kA18, kS18, kC19, kG19, kP19, kR19_0, kL20, kL141, kL146, kA146, kS146, kL151, kA151, kS151, kL156, kA156, kS156, kC157, kG157, kP157, kR157_0, kR157_1, kL158, kA158, kS158, kL159, kA159, kS159, kC161, kG161, kP161, kR161_0, kR161_1, kL162, kA162, kS162, kL163, kA163, kS163, kC165, kG165, kP165, kR165_0, kR165_1, kR165_2, kR165_3, kL166, kA166, kS166, kL167, kA167, kS167, kL168, kA168, kS168, kL169, kA169, kS169, kC170, kG170, kP170, kR170_0, kR170_1, kR170_2, kL171, kA171, kS171, kL172, kA172, kS172, kL173, kA173, kS173, kC174, kG174, kP174, kR174_0, kR174_1, kR174_2, kR174_3, kR174_4, kL175, kA175, kS175, kL176, kA176, kS176, kL177, kA177, kS177, kL178, kA178, kS178, kL179, kC180, kG180, kP180, kL181, kL182, kA182, kS182, kC183, kG183, kP183, kR183_1, kR183_3, kR183_5, kR183_6, kR183_7, kR183_8, kR183_9, kR183_21, kR183_26, kR183_27, kR183_30, kR183_31, kR183_33, kR183_34, kR183_36, kR183_37, kR183_38, kR183_39, kR183_40, kR183_41, kR183_42, kR183_43, kR183_44, kL184, kA184, kS184, kL185, kA185, kS185, kL186, kA186, kS186, kL187, kA187, kS187, kL188, kA188, kS188, kL189, kL190, kL191, kA191, kS191, kL192, kA192, kS192, kL193, kA193, kS193, kL194, kA194, kS194, kL195, kA195, kS195, kL196, kA196, kS196, kL197, kA197, kS197, kL198, kA198, kS198, kL199, kA199, kS199, kL200, kA200, kS200, kL201, kL202, kA202, kS202, kL203, kA203, kS203, kL204, kA204, kS204, kL205, kL206, kA206, kS206, p1]
    have e : (nI nx ≤ 0) = (nx ≤ 0) := nn_le (b := 0) (by omega) (by decide)
    simp only [e]
    by_cases h0 : nx ≤ 0
    · rw [if_pos h0, show L = 39 by omega]; rfl
    · rw [if_neg h0, show (1 : Int32) = nI 1 from rfl, nn_sub (by omega), show nx - 1 = L by omega]
  by_cases h0 : q = 0
  · refine ⟨0, σ, σ, ?_, ?_, g, gT, gP, st, H.nop⟩
    · show f_X11_undo (xw σ (xI σ)) 1 = _
      unfold f_X11_undo
      simp (disch := first | assumption | omega) only [Option.bind_some, Option.map_some, xw_gR, xw_gN, xw_al, xw_ck, xw_uI, xw_ur, xup_at, xur_at, if_true, if_false, reduceIte, and_true, true_and, and_false, false_and, not_true_eq_false, not_false_eq_true, Nat.reduceEqDiff, eq_self, Nat.reduceAdd, Nat.reduceMul, kC1, kG1, kP1, kR1_0, kR1_1, kR1_2, kR1_3, kR1_4, kR1_5, kR1_6, kR1_7, kR1_8, kR1_9, kR1_10, kR1_11, kR1_12, kR1_13, kC2, kG2, kP2, kR2_0, kR2_1, kC3, kG3, kP3, kR3_0, kR3_1, kR3_2, kR3_3, kL4, kA4, kS4, kL5, kA5, kS5, kL6, kA6, kS6, kL7, kA7, kS7, kC8, kG8, kP8, kR8_0, kR8_1, kL9, kA9, kS9, kL10, kA10, kS10, kC11, kG11, kP11, kR11_0, kR11_1, kR11_2, kR11_3, kL12, kA12, kS12, kL13, kA13, kS13, kL14, kA14, kS14, kL15, kA15, kS15, kC16, kG16, kP16, kR16_0, kR16_1, kL17, kA17, kS17, kL18, kA18, kS18, kC19, kG19, kP19, kR19_0, kL20, kL141, kL146, kA146, kS146, kL151, kA151, kS151, kL156, kA156, kS156, kC157, kG157, kP157, kR157_0, kR157_1, kL158, kA158, kS158, kL159, kA159, kS159, kC161, kG161, kP161, kR161_0, kR161_1, kL162, kA162, kS162, kL163, kA163, kS163, kC165, kG165, kP165, kR165_0, kR165_1, kR165_2, kR165_3, kL166, kA166, kS166, kL167, kA167, kS167, kL168, kA168, kS168, kL169, kA169, kS169, kC170, kG170, kP170, kR170_0, kR170_1, kR170_2, kL171, kA171, kS171, kL172, kA172, kS172, kL173, kA173, kS173, kC174, kG174, kP174, kR174_0, kR174_1, kR174_2, kR174_3, kR174_4, kL175, kA175, kS175, kL176, kA176, kS176, kL177, kA177, kS177, kL178, kA178, kS178, kL179, kC180, kG180, kP180, kL181, kL182, kA182, kS182, kC183, kG183, kP183, kR183_1, kR183_3, kR183_5, kR183_6, kR183_7, kR183_8, kR183_9, kR183_21, kR183_26, kR183_27, kR183_30, kR183_31, kR183_33, kR183_34, kR183_36, kR183_37, kR183_38, kR183_39, kR183_40, kR183_41, kR183_42, kR183_43, kR183_44, kL184, kA184, kS184, kL185, kA185, kS185, kL186, kA186, kS186, kL187, kA187, kS187, kL188, kA188, kS188, kL189, kL190, kL191, kA191, kS191, kL192, kA192, kS192, kL193, kA193, kS193, kL194, kA194, kS194, kL195, kA195, kS195, kL196, kA196, kS196, kL197, kA197, kS197, kL198, kA198, kS198, kL199, kA199, kS199, kL200, kA200, kS200, kL201, kL202, kA202, kS202, kL203, kA203, kS203, kL204, kA204, kS204, kL205, kL206, kA206, kS206, gb _ rfl]
      unfold f_X5_giveBack_j18
      simp (disch := first | assumption | omega) only [Option.bind_some, Option.map_some, xw_gR, xw_gN, xw_al, xw_ck, xw_uI, xw_ur, xup_at, xur_at, if_true, if_false, reduceIte, and_true, true_and, and_false, false_and, not_true_eq_false, not_false_eq_true, Nat.reduceEqDiff, eq_self, Nat.reduceAdd, Nat.reduceMul, kC1, kG1, kP1, kR1_0, kR1_1, kR1_2, kR1_3, kR1_4, kR1_5, kR1_6, kR1_7, kR1_8, kR1_9, kR1_10, kR1_11, kR1_12, kR1_13, kC2, kG2, kP2, kR2_0, kR2_1, kC3, kG3, kP3, kR3_0, kR3_1, kR3_2, kR3_3, kL4, kA4, kS4, kL5, kA5, kS5, kL6, kA6, kS6, kL7, kA7, kS7, kC8, kG8, kP8, kR8_0, kR8_1, kL9, kA9, kS9, kL10, kA10, kS10, kC11, kG11, kP11, kR11_0, kR11_1, kR11_2, kR11_3, kL12, kA12, kS12, kL13, kA13, kS13, kL14, kA14, kS14, kL15, kA15, kS15, kC16, kG16, kP16, kR16_0, kR16_1, kL17, kA17, kS17, kL18, kA18, kS18, kC19, kG19, kP19, kR19_0, kL20, kL141, kL146, kA146, kS146, kL151, kA151, kS151, kL156, kA156, kS156, kC157, kG157, kP157, kR157_0, kR157_1, kL158, kA158, kS158, kL159, kA159, kS159, kC161, kG161, kP161, kR161_0, kR161_1, kL162, kA162, kS162, kL163, kA163, kS163, kC165, kG165, kP165, kR165_0, kR165_1, kR165_2, kR165_3, kL166, kA166, kS166, kL167, kA167, kS167, kL168, kA168, kS168, kL169, kA169, kS169, kC170, kG170, kP170, kR170_0, kR170_1, kR170_2, kL171, kA171, kS171, kL172, kA172, kS172, kL173, kA173, kS173, kC174, kG174, kP174, kR174_0, kR174_1, kR174_2, kR174_3, kR174_4, kL175, kA175, kS175, kL176, kA176, kS176, kL177, kA177, kS177, kL178, kA178, kS178, kL179, kC180, kG180, kP180, kL181, kL182, kA182, kS182, kC183, kG183, kP183, kR183_1, kR183_3, kR183_5, kR183_6, kR183_7, kR183_8, kR183_9, kR183_21, kR183_26, kR183_27, kR183_30, kR183_31, kR183_33, kR183_34, kR183_36, kR183_37, kR183_38, kR183_39, kR183_40, kR183_41, kR183_42, kR183_43, kR183_44, kL184, kA184, kS184, kL185, kA185, kS185, kL186, kA186, kS186, kL187, kA187, kS187, kL188, kA188, kS188, kL189, kL190, kL191, kA191, kS191, kL192, kA192, kS192, kL193, kA193, kS193, kL194, kA194, kS194, kL195, kA195, kS195, kL196, kA196, kS196, kL197, kA197, kS197, kL198, kA198, kS198, kL199, kA199, kS199, kL200, kA200, kS200, kL201, kL202, kA202, kS202, kL203, kA203, kS203, kL204, kA204, kS204, kL205, kL206, kA206, kS206, p2, h0, show (nI 0 = 0) = True from eq_true rfl]
      rfl
    · show f_X12_undo (xw σ (xI σ)) 183 = _
      unfold f_X12_undo
      simp (disch := first | assumption | omega) only [Option.bind_some, Option.map_some, xw_gR, xw_gN, xw_al, xw_ck, xw_uI, xw_ur, xup_at, xur_at, if_true, if_false, reduceIte, and_true, true_and, and_false, false_and, not_true_eq_false, not_false_eq_true, Nat.reduceEqDiff, eq_self, Nat.reduceAdd, Nat.reduceMul, kC1, kG1, kP1, kR1_0, kR1_1, kR1_2, kR1_3, kR1_4, kR1_5, kR1_6, kR1_7, kR1_8, kR1_9, kR1_10, kR1_11, kR1_12, kR1_13, kC2, kG2, kP2, kR2_0, kR2_1, kC3, kG3, kP3, kR3_0, kR3_1, kR3_2, kR3_3, kL4, kA4, kS4, kL5, kA5, kS5, kL6, kA6, kS6, kL7, kA7, kS7, kC8, kG8, kP8, kR8_0, kR8_1, kL9, kA9, kS9, kL10, kA10, kS10, kC11, kG11, kP11, kR11_0, kR11_1, kR11_2, kR11_3, kL12, kA12, kS12, kL13, kA13, kS13, kL14, kA14, kS14, kL15, kA15, kS15, kC16, kG16, kP16, kR16_0, kR16_1, kL17, kA17, kS17, kL18, kA18, kS18, kC19, kG19, kP19, kR19_0, kL20, kL141, kL146, kA146, kS146, kL151, kA151, kS151, kL156, kA156, kS156, kC157, kG157, kP157, kR157_0, kR157_1, kL158, kA158, kS158, kL159, kA159, kS159, kC161, kG161, kP161, kR161_0, kR161_1, kL162, kA162, kS162, kL163, kA163, kS163, kC165, kG165, kP165, kR165_0, kR165_1, kR165_2, kR165_3, kL166, kA166, kS166, kL167, kA167, kS167, kL168, kA168, kS168, kL169, kA169, kS169, kC170, kG170, kP170, kR170_0, kR170_1, kR170_2, kL171, kA171, kS171, kL172, kA172, kS172, kL173, kA173, kS173, kC174, kG174, kP174, kR174_0, kR174_1, kR174_2, kR174_3, kR174_4, kL175, kA175, kS175, kL176, kA176, kS176, kL177, kA177, kS177, kL178, kA178, kS178, kL179, kC180, kG180, kP180, kL181, kL182, kA182, kS182, kC183, kG183, kP183, kR183_1, kR183_3, kR183_5, kR183_6, kR183_7, kR183_8, kR183_9, kR183_21, kR183_26, kR183_27, kR183_30, kR183_31, kR183_33, kR183_34, kR183_36, kR183_37, kR183_38, kR183_39, kR183_40, kR183_41, kR183_42, kR183_43, kR183_44, kL184, kA184, kS184, kL185, kA185, kS185, kL186, kA186, kS186, kL187, kA187, kS187, kL188, kA188, kS188, kL189, kL190, kL191, kA191, kS191, kL192, kA192, kS192, kL193, kA193, kS193, kL194, kA194, kS194, kL195, kA195, kS195, kL196, kA196, kS196, kL197, kA197, kS197, kL198, kA198, kS198, kL199, kA199, kS199, kL200, kA200, kS200, kL201, kL202, kA202, kS202, kL203, kA203, kS203, kL204, kA204, kS204, kL205, kL206, kA206, kS206, p4, h0, show (nI 0 = 0) = True from eq_true rfl]
      rfl
  · obtain ⟨L, hL, hL40⟩ : ∃ L, L = (nx + 39) % 40 ∧ L < 40 := ⟨_, rfl, by omega⟩
    obtain ⟨E, hE, hE40⟩ : ∃ E, E = (ea + (q - 1)) % 40 ∧ E < 40 := ⟨_, rfl, by omega⟩
    have hq0 : (nI q = 0) = False := eq_false (nI_ne0 (by omega) (by omega))
    have c2 : cpI (xI σ) 16 (21 + 3 * L) 19 2 = nI q := by
      unfold cpI; rw [if_neg (by omega), if_neg (by omega), if_neg (by omega)]; exact p2
    have cpo : ∀ a k, (a < 16 ∨ 18 < a) → cpI (xI σ) 16 (21 + 3 * L) a k = xI σ a k := by
      intro a k h
      unfold cpI; rw [if_neg (by omega), if_neg (by omega), if_neg (by omega)]
    refine ⟨1, xw σ (xup (xup (cpI (xI σ) 16 (21 + 3 * L)) 19 1 (nI L)) 19 2 (nI (q - 1))), xw σ (xup (rcI (xup (xup (xup (cpI (xI σ) 16 (21 + 3 * L)) 19 1 (nI L)) 19 2 (nI (q - 1))) 183 29 (nI (q - 1))) 191 0 193 (66 * E) 66) 183 32 0), ?_, ?_, g, gT, gP, st, ?_⟩
    · show f_X11_undo (xw σ (xI σ)) 1 = _
      unfold f_X11_undo
      simp (disch := first | assumption | omega) only [Option.bind_some, Option.map_some, xw_gR, xw_gN, xw_al, xw_ck, xw_uI, xw_ur, xup_at, xur_at, if_true, if_false, reduceIte, and_true, true_and, and_false, false_and, not_true_eq_false, not_false_eq_true, Nat.reduceEqDiff, eq_self, Nat.reduceAdd, Nat.reduceMul, kC1, kG1, kP1, kR1_0, kR1_1, kR1_2, kR1_3, kR1_4, kR1_5, kR1_6, kR1_7, kR1_8, kR1_9, kR1_10, kR1_11, kR1_12, kR1_13, kC2, kG2, kP2, kR2_0, kR2_1, kC3, kG3, kP3, kR3_0, kR3_1, kR3_2, kR3_3, kL4, kA4, kS4, kL5, kA5, kS5, kL6, kA6, kS6, kL7, kA7, kS7, kC8, kG8, kP8, kR8_0, kR8_1, kL9, kA9, kS9, kL10, kA10, kS10, kC11, kG11, kP11, kR11_0, kR11_1, kR11_2, kR11_3, kL12, kA12, kS12, kL13, kA13, kS13, kL14, kA14, kS14, kL15, kA15, kS15, kC16, kG16, kP16, kR16_0, kR16_1, kL17, kA17, kS17, kL18, kA18, kS18, kC19, kG19, kP19, kR19_0, kL20, kL141, kL146, kA146, kS146, kL151, kA151, kS151, kL156, kA156, kS156, kC157, kG157, kP157, kR157_0, kR157_1, kL158, kA158, kS158, kL159, kA159, kS159, kC161, kG161, kP161, kR161_0, kR161_1, kL162, kA162, kS162, kL163, kA163, kS163, kC165, kG165, kP165, kR165_0, kR165_1, kR165_2, kR165_3, kL166, kA166, kS166, kL167, kA167, kS167, kL168, kA168, kS168, kL169, kA169, kS169, kC170, kG170, kP170, kR170_0, kR170_1, kR170_2, kL171, kA171, kS171, kL172, kA172, kS172, kL173, kA173, kS173, kC174, kG174, kP174, kR174_0, kR174_1, kR174_2, kR174_3, kR174_4, kL175, kA175, kS175, kL176, kA176, kS176, kL177, kA177, kS177, kL178, kA178, kS178, kL179, kC180, kG180, kP180, kL181, kL182, kA182, kS182, kC183, kG183, kP183, kR183_1, kR183_3, kR183_5, kR183_6, kR183_7, kR183_8, kR183_9, kR183_21, kR183_26, kR183_27, kR183_30, kR183_31, kR183_33, kR183_34, kR183_36, kR183_37, kR183_38, kR183_39, kR183_40, kR183_41, kR183_42, kR183_43, kR183_44, kL184, kA184, kS184, kL185, kA185, kS185, kL186, kA186, kS186, kL187, kA187, kS187, kL188, kA188, kS188, kL189, kL190, kL191, kA191, kS191, kL192, kA192, kS192, kL193, kA193, kS193, kL194, kA194, kS194, kL195, kA195, kS195, kL196, kA196, kS196, kL197, kA197, kS197, kL198, kA198, kS198, kL199, kA199, kS199, kL200, kA200, kS200, kL201, kL202, kA202, kS202, kL203, kA203, kS203, kL204, kA204, kS204, kL205, kL206, kA206, kS206, gb L hL]
      unfold f_X5_giveBack_j18
      simp (disch := first | assumption | omega) only [Option.bind_some, Option.map_some, xw_gR, xw_gN, xw_al, xw_ck, xw_uI, xw_ur, xup_at, xur_at, if_true, if_false, reduceIte, and_true, true_and, and_false, false_and, not_true_eq_false, not_false_eq_true, Nat.reduceEqDiff, eq_self, Nat.reduceAdd, Nat.reduceMul, kC1, kG1, kP1, kR1_0, kR1_1, kR1_2, kR1_3, kR1_4, kR1_5, kR1_6, kR1_7, kR1_8, kR1_9, kR1_10, kR1_11, kR1_12, kR1_13, kC2, kG2, kP2, kR2_0, kR2_1, kC3, kG3, kP3, kR3_0, kR3_1, kR3_2, kR3_3, kL4, kA4, kS4, kL5, kA5, kS5, kL6, kA6, kS6, kL7, kA7, kS7, kC8, kG8, kP8, kR8_0, kR8_1, kL9, kA9, kS9, kL10, kA10, kS10, kC11, kG11, kP11, kR11_0, kR11_1, kR11_2, kR11_3, kL12, kA12, kS12, kL13, kA13, kS13, kL14, kA14, kS14, kL15, kA15, kS15, kC16, kG16, kP16, kR16_0, kR16_1, kL17, kA17, kS17, kL18, kA18, kS18, kC19, kG19, kP19, kR19_0, kL20, kL141, kL146, kA146, kS146, kL151, kA151, kS151, kL156, kA156, kS156, kC157, kG157, kP157, kR157_0, kR157_1, kL158, kA158, kS158, kL159, kA159, kS159, kC161, kG161, kP161, kR161_0, kR161_1, kL162, kA162, kS162, kL163, kA163, kS163, kC165, kG165, kP165, kR165_0, kR165_1, kR165_2, kR165_3, kL166, kA166, kS166, kL167, kA167, kS167, kL168, kA168, kS168, kL169, kA169, kS169, kC170, kG170, kP170, kR170_0, kR170_1, kR170_2, kL171, kA171, kS171, kL172, kA172, kS172, kL173, kA173, kS173, kC174, kG174, kP174, kR174_0, kR174_1, kR174_2, kR174_3, kR174_4, kL175, kA175, kS175, kL176, kA176, kS176, kL177, kA177, kS177, kL178, kA178, kS178, kL179, kC180, kG180, kP180, kL181, kL182, kA182, kS182, kC183, kG183, kP183, kR183_1, kR183_3, kR183_5, kR183_6, kR183_7, kR183_8, kR183_9, kR183_21, kR183_26, kR183_27, kR183_30, kR183_31, kR183_33, kR183_34, kR183_36, kR183_37, kR183_38, kR183_39, kR183_40, kR183_41, kR183_42, kR183_43, kR183_44, kL184, kA184, kS184, kL185, kA185, kS185, kL186, kA186, kS186, kL187, kA187, kS187, kL188, kA188, kS188, kL189, kL190, kL191, kA191, kS191, kL192, kA192, kS192, kL193, kA193, kS193, kL194, kA194, kS194, kL195, kA195, kS195, kL196, kA196, kS196, kL197, kA197, kS197, kL198, kA198, kS198, kL199, kA199, kS199, kL200, kA200, kS200, kL201, kL202, kA202, kS202, kL203, kA203, kS203, kL204, kA204, kS204, kL205, kL206, kA206, kS206, p2, hq0, nn_lt, hL40, kept_at hS hL40, cp_ok hS suA_16 (suA_k hL40) (show 16 ≠ 21 + 3 * L by omega) (show 21 + 3 * L ≠ 16 + 1 by omega) (show 21 + 3 * L ≠ 16 + 2 by omega) (show 16 ≠ 21 + 3 * L + 1 by omega) (show 16 ≠ 21 + 3 * L + 2 by omega), c2, show (1 : Int32) = nI 1 from rfl, nn_sub]
      unfold xbz
      simp (disch := first | assumption | omega) only [Option.bind_some, Option.map_some, xw_gR, xw_gN, xw_al, xw_ck, xw_uI, xw_ur, xup_at, xur_at, if_true, if_false, reduceIte, and_true, true_and, and_false, false_and, not_true_eq_false, not_false_eq_true, Nat.reduceEqDiff, eq_self, Nat.reduceAdd, Nat.reduceMul, kC1, kG1, kP1, kR1_0, kR1_1, kR1_2, kR1_3, kR1_4, kR1_5, kR1_6, kR1_7, kR1_8, kR1_9, kR1_10, kR1_11, kR1_12, kR1_13, kC2, kG2, kP2, kR2_0, kR2_1, kC3, kG3, kP3, kR3_0, kR3_1, kR3_2, kR3_3, kL4, kA4, kS4, kL5, kA5, kS5, kL6, kA6, kS6, kL7, kA7, kS7, kC8, kG8, kP8, kR8_0, kR8_1, kL9, kA9, kS9, kL10, kA10, kS10, kC11, kG11, kP11, kR11_0, kR11_1, kR11_2, kR11_3, kL12, kA12, kS12, kL13, kA13, kS13, kL14, kA14, kS14, kL15, kA15, kS15, kC16, kG16, kP16, kR16_0, kR16_1, kL17, kA17, kS17, kL18, kA18, kS18, kC19, kG19, kP19, kR19_0, kL20, kL141, kL146, kA146, kS146, kL151, kA151, kS151, kL156, kA156, kS156, kC157, kG157, kP157, kR157_0, kR157_1, kL158, kA158, kS158, kL159, kA159, kS159, kC161, kG161, kP161, kR161_0, kR161_1, kL162, kA162, kS162, kL163, kA163, kS163, kC165, kG165, kP165, kR165_0, kR165_1, kR165_2, kR165_3, kL166, kA166, kS166, kL167, kA167, kS167, kL168, kA168, kS168, kL169, kA169, kS169, kC170, kG170, kP170, kR170_0, kR170_1, kR170_2, kL171, kA171, kS171, kL172, kA172, kS172, kL173, kA173, kS173, kC174, kG174, kP174, kR174_0, kR174_1, kR174_2, kR174_3, kR174_4, kL175, kA175, kS175, kL176, kA176, kS176, kL177, kA177, kS177, kL178, kA178, kS178, kL179, kC180, kG180, kP180, kL181, kL182, kA182, kS182, kC183, kG183, kP183, kR183_1, kR183_3, kR183_5, kR183_6, kR183_7, kR183_8, kR183_9, kR183_21, kR183_26, kR183_27, kR183_30, kR183_31, kR183_33, kR183_34, kR183_36, kR183_37, kR183_38, kR183_39, kR183_40, kR183_41, kR183_42, kR183_43, kR183_44, kL184, kA184, kS184, kL185, kA185, kS185, kL186, kA186, kS186, kL187, kA187, kS187, kL188, kA188, kS188, kL189, kL190, kL191, kA191, kS191, kL192, kA192, kS192, kL193, kA193, kS193, kL194, kA194, kS194, kL195, kA195, kS195, kL196, kA196, kS196, kL197, kA197, kS197, kL198, kA198, kS198, kL199, kA199, kS199, kL200, kA200, kS200, kL201, kL202, kA202, kS202, kL203, kA203, kS203, kL204, kA204, kS204, kL205, kL206, kA206, kS206, show (nI 1 = 1) = True from eq_true rfl, or_true]
    · unfold f_X12_undo
      simp (disch := first | assumption | omega) only [Option.bind_some, Option.map_some, xw_gR, xw_gN, xw_al, xw_ck, xw_uI, xw_ur, xup_at, xur_at, if_true, if_false, reduceIte, and_true, true_and, and_false, false_and, not_true_eq_false, not_false_eq_true, Nat.reduceEqDiff, eq_self, Nat.reduceAdd, Nat.reduceMul, kC1, kG1, kP1, kR1_0, kR1_1, kR1_2, kR1_3, kR1_4, kR1_5, kR1_6, kR1_7, kR1_8, kR1_9, kR1_10, kR1_11, kR1_12, kR1_13, kC2, kG2, kP2, kR2_0, kR2_1, kC3, kG3, kP3, kR3_0, kR3_1, kR3_2, kR3_3, kL4, kA4, kS4, kL5, kA5, kS5, kL6, kA6, kS6, kL7, kA7, kS7, kC8, kG8, kP8, kR8_0, kR8_1, kL9, kA9, kS9, kL10, kA10, kS10, kC11, kG11, kP11, kR11_0, kR11_1, kR11_2, kR11_3, kL12, kA12, kS12, kL13, kA13, kS13, kL14, kA14, kS14, kL15, kA15, kS15, kC16, kG16, kP16, kR16_0, kR16_1, kL17, kA17, kS17, kL18, kA18, kS18, kC19, kG19, kP19, kR19_0, kL20, kL141, kL146, kA146, kS146, kL151, kA151, kS151, kL156, kA156, kS156, kC157, kG157, kP157, kR157_0, kR157_1, kL158, kA158, kS158, kL159, kA159, kS159, kC161, kG161, kP161, kR161_0, kR161_1, kL162, kA162, kS162, kL163, kA163, kS163, kC165, kG165, kP165, kR165_0, kR165_1, kR165_2, kR165_3, kL166, kA166, kS166, kL167, kA167, kS167, kL168, kA168, kS168, kL169, kA169, kS169, kC170, kG170, kP170, kR170_0, kR170_1, kR170_2, kL171, kA171, kS171, kL172, kA172, kS172, kL173, kA173, kS173, kC174, kG174, kP174, kR174_0, kR174_1, kR174_2, kR174_3, kR174_4, kL175, kA175, kS175, kL176, kA176, kS176, kL177, kA177, kS177, kL178, kA178, kS178, kL179, kC180, kG180, kP180, kL181, kL182, kA182, kS182, kC183, kG183, kP183, kR183_1, kR183_3, kR183_5, kR183_6, kR183_7, kR183_8, kR183_9, kR183_21, kR183_26, kR183_27, kR183_30, kR183_31, kR183_33, kR183_34, kR183_36, kR183_37, kR183_38, kR183_39, kR183_40, kR183_41, kR183_42, kR183_43, kR183_44, kL184, kA184, kS184, kL185, kA185, kS185, kL186, kA186, kS186, kL187, kA187, kS187, kL188, kA188, kS188, kL189, kL190, kL191, kA191, kS191, kL192, kA192, kS192, kL193, kA193, kS193, kL194, kA194, kS194, kL195, kA195, kS195, kL196, kA196, kS196, kL197, kA197, kS197, kL198, kA198, kS198, kL199, kA199, kS199, kL200, kA200, kS200, kL201, kL202, kA202, kS202, kL203, kA203, kS203, kL204, kA204, kS204, kL205, kL206, kA206, kS206, cpo, p4, p3, hq0, show (1 : Int32) = nI 1 from rfl, nn_sub, nn_add, show (40 : Int32) = nI 40 from rfl, show (66 : Int32) = nI 66 from rfl, nn_rem, nn_mul, ← hE]
      exact undo_l hS (by omega)
    · have hn1 : LV g gT gP st (xup (rcI (xup (xup (xup (cpI (xI σ) 16 (21 + 3 * L)) 19 1 (nI L)) 19 2 (nI (q - 1))) 183 29 (nI (q - 1))) 191 0 193 (66 * E) 66) 183 32 0) 16 ((xup (rcI (xup (xup (xup (cpI (xI σ) 16 (21 + 3 * L)) 19 1 (nI L)) 19 2 (nI (q - 1))) 183 29 (nI (q - 1))) 191 0 193 (66 * E) 66) 183 32 0) 191) := by
        have z := p8 (q - 1) (by omega)
        rw [show (nx + 40 - q + (q - 1)) % 40 = L by omega, ← hE] at z
        refine LV_m (I := xI σ) hG.1 (fun k h1 h2 => ?_) (fun k h1 => ?_) (fun k h1 => ?_) (fun k h1 => ?_) (Nat.le_refl _) (fun _ _ => rfl) (fun _ _ => rfl) z
        · rw [xup_at, if_neg (by omega), rcI_out (by omega), xup_at, if_neg (by omega), xup_at, if_neg (by omega), xup_at, if_neg (by omega)]
          unfold cpI
          rw [if_neg (by omega), if_neg (by omega), if_pos ⟨rfl, h1, h2⟩]
        · rw [xup_at, if_neg (by omega), rcI_out (by omega), xup_at, if_neg (by omega), xup_at, if_neg (by omega), xup_at, if_neg (by omega)]
          unfold cpI
          rw [if_pos ⟨rfl, h1⟩]
        · rw [xup_at, if_neg (by omega), rcI_out (by omega), xup_at, if_neg (by omega), xup_at, if_neg (by omega), xup_at, if_neg (by omega)]
          unfold cpI
          rw [if_neg (by omega), if_pos ⟨rfl, h1⟩]
        · rw [xup_at, if_neg (by omega)]
          have := rcI_in (I := xup (xup (xup (cpI (xI σ) 16 (21 + 3 * L)) 19 1 (nI L)) 19 2 (nI (q - 1))) 183 29 (nI (q - 1))) (d := 191) (x := 0) (s := 193) (y := 66 * E) h1
          rw [Nat.zero_add] at this
          rw [this, xup_at, if_neg (by omega), xup_at, if_neg (by omega), xup_at, if_neg (by omega), cpo _ _ (by omega)]
      refine H.turnTo ?_ hn1 ?_ (by rw [xup_at, if_pos ⟨rfl, rfl⟩])
      · intro a k h
        rw [xup_at, if_neg (by omega), rcI_out (by omega), xup_at, if_neg (by omega), xup_at, if_neg (by omega), xup_at, if_neg (by omega), cpo _ _ (by omega)]
      · refine ⟨q - 1, L, ea, by omega, hL40, hea, ?_, ?_, ?_, ?_, fun i hi => ?_⟩
        · rw [xup_at, if_neg (by omega), rcI_out (by omega), xup_at, if_neg (by omega), xup_at, if_neg (by omega), xup_at, if_pos ⟨rfl, rfl⟩]
        · rw [xup_at, if_neg (by omega), rcI_out (by omega), xup_at, if_neg (by omega), xup_at, if_pos ⟨rfl, rfl⟩]
        · rw [xup_at, if_neg (by omega), rcI_out (by omega), xup_at, if_neg (by omega), xup_at, if_neg (by omega), xup_at, if_neg (by omega), cpo _ _ (by omega)]
          exact p3
        · rw [xup_at, if_neg (by omega), rcI_out (by omega), xup_at, if_pos ⟨rfl, rfl⟩]
        · have z := p8 i (by omega)
          rw [show (L + 40 - (q - 1) + i) % 40 = (nx + 40 - q + i) % 40 by omega]
          refine LV_m (I := xI σ) hG.1 (fun k h1 h2 => ?_) (fun k h1 => ?_) (fun k h1 => ?_) (fun k h1 => ?_) (Nat.le_refl _) (fun _ _ => rfl) (fun _ _ => rfl) z
          all_goals rw [xup_at, if_neg (by omega), rcI_out (by omega), xup_at, if_neg (by omega), xup_at, if_neg (by omega), xup_at, if_neg (by omega), cpo _ _ (by omega)]
end
section
/-! hold, restore -/
theorem hold_l {σ : XS} {I : Nat → Nat → Int32} (hS : Shp σ) {i : Nat} (hi : i < 3) : xloop (f_X12_hold_b13 183 (nI i)) ((0 : Int32), xw σ I) = some (1, xw σ (xup (rcI I 194 (66 * i) 191 0 66) 195 i 1)) := by
  refine xforE (fun j : Nat => (nI j, xw σ (rcI I 194 (66 * i) 191 0 j))) 66 (by simp only [rcI_0]; rfl) (fun j hj => ?_) ?_
  · simp only [f_X12_hold_b13]
    rw [if_neg (by rw [show (66 : Int32) = nI 66 from rfl, nn_le (by omega) (by omega)]; omega)]
    simp (disch := first | assumption | omega) only [Option.bind_some, Option.map_some, xw_gR, xw_gN, xw_al, xw_ck, xw_uI, xw_ur, xup_at, xur_at, if_true, if_false, reduceIte, and_true, true_and, and_false, false_and, not_true_eq_false, not_false_eq_true, Nat.reduceEqDiff, eq_self, Nat.reduceAdd, Nat.reduceMul, kC1, kG1, kP1, kR1_0, kR1_1, kR1_2, kR1_3, kR1_4, kR1_5, kR1_6, kR1_7, kR1_8, kR1_9, kR1_10, kR1_11, kR1_12, kR1_13, kC2, kG2, kP2, kR2_0, kR2_1, kC3, kG3, kP3, kR3_0, kR3_1, kR3_2, kR3_3, kL4, kA4, kS4, kL5, kA5, kS5, kL6, kA6, kS6, kL7, kA7, kS7, kC8, kG8, kP8, kR8_0, kR8_1, kL9, kA9, kS9, kL10, kA10, kS10, kC11, kG11, kP11, kR11_0, kR11_1, kR11_2, kR11_3, kL12, kA12, kS12, kL13, kA13, kS13, kL14, kA14, kS14, kL15, kA15, kS15, kC16, kG16, kP16, kR16_0, kR16_1, kL17, kA17, kS17, kL18, kA18, kS18, kC19, kG19, kP19, kR19_0, kL20, kL141, kL146, kA146, kS146, kL151, kA151, kS151, kL156, kA156, kS156, kC157, kG157, kP157, kR157_0, kR157_1, kL158, kA158, kS158, kL159, kA159, kS159, kC161, kG161, kP161, kR161_0, kR161_1, kL162, kA162, kS162, kL163, kA163, kS163, kC165, kG165, kP165, kR165_0, kR165_1, kR165_2, kR165_3, kL166, kA166, kS166, kL167, kA167, kS167, kL168, kA168, kS168, kL169, kA169, kS169, kC170, kG170, kP170, kR170_0, kR170_1, kR170_2, kL171, kA171, kS171, kL172, kA172, kS172, kL173, kA173, kS173, kC174, kG174, kP174, kR174_0, kR174_1, kR174_2, kR174_3, kR174_4, kL175, kA175, kS175, kL176, kA176, kS176, kL177, kA177, kS177, kL178, kA178, kS178, kL179, kC180, kG180, kP180, kL181, kL182, kA182, kS182, kC183, kG183, kP183, kR183_1, kR183_3, kR183_5, kR183_6, kR183_7, kR183_8, kR183_9, kR183_21, kR183_26, kR183_27, kR183_30, kR183_31, kR183_33, kR183_34, kR183_36, kR183_37, kR183_38, kR183_39, kR183_40, kR183_41, kR183_42, kR183_43, kR183_44, kL184, kA184, kS184, kL185, kA185, kS185, kL186, kA186, kS186, kL187, kA187, kS187, kL188, kA188, kS188, kL189, kL190, kL191, kA191, kS191, kL192, kA192, kS192, kL193, kA193, kS193, kL194, kA194, kS194, kL195, kA195, kS195, kL196, kA196, kS196, kL197, kA197, kS197, kL198, kA198, kS198, kL199, kA199, kS199, kL200, kA200, kS200, kL201, kL202, kA202, kS202, kL203, kA203, kS203, kL204, kA204, kS204, kL205, kL206, kA206, kS206, nn_add, nn_mul, show (66 : Int32) = nI 66 from rfl, rcI_src (show 191 ≠ 194 by decide)]
    have e := rcI_s (I := I) (d := 194) (x := 66 * i) (s := 191) (y := 0) (n := j)
    rw [Nat.zero_add] at e
    rw [e, show (1 : Int32) = nI 1 from rfl, nn_add]
  · simp only [f_X12_hold_b13]
    rw [if_pos (by decide)]
    simp (disch := first | assumption | omega) only [Option.bind_some, Option.map_some, xw_gR, xw_gN, xw_al, xw_ck, xw_uI, xw_ur, xup_at, xur_at, if_true, if_false, reduceIte, and_true, true_and, and_false, false_and, not_true_eq_false, not_false_eq_true, Nat.reduceEqDiff, eq_self, Nat.reduceAdd, Nat.reduceMul, kC1, kG1, kP1, kR1_0, kR1_1, kR1_2, kR1_3, kR1_4, kR1_5, kR1_6, kR1_7, kR1_8, kR1_9, kR1_10, kR1_11, kR1_12, kR1_13, kC2, kG2, kP2, kR2_0, kR2_1, kC3, kG3, kP3, kR3_0, kR3_1, kR3_2, kR3_3, kL4, kA4, kS4, kL5, kA5, kS5, kL6, kA6, kS6, kL7, kA7, kS7, kC8, kG8, kP8, kR8_0, kR8_1, kL9, kA9, kS9, kL10, kA10, kS10, kC11, kG11, kP11, kR11_0, kR11_1, kR11_2, kR11_3, kL12, kA12, kS12, kL13, kA13, kS13, kL14, kA14, kS14, kL15, kA15, kS15, kC16, kG16, kP16, kR16_0, kR16_1, kL17, kA17, kS17, kL18, kA18, kS18, kC19, kG19, kP19, kR19_0, kL20, kL141, kL146, kA146, kS146, kL151, kA151, kS151, kL156, kA156, kS156, kC157, kG157, kP157, kR157_0, kR157_1, kL158, kA158, kS158, kL159, kA159, kS159, kC161, kG161, kP161, kR161_0, kR161_1, kL162, kA162, kS162, kL163, kA163, kS163, kC165, kG165, kP165, kR165_0, kR165_1, kR165_2, kR165_3, kL166, kA166, kS166, kL167, kA167, kS167, kL168, kA168, kS168, kL169, kA169, kS169, kC170, kG170, kP170, kR170_0, kR170_1, kR170_2, kL171, kA171, kS171, kL172, kA172, kS172, kL173, kA173, kS173, kC174, kG174, kP174, kR174_0, kR174_1, kR174_2, kR174_3, kR174_4, kL175, kA175, kS175, kL176, kA176, kS176, kL177, kA177, kS177, kL178, kA178, kS178, kL179, kC180, kG180, kP180, kL181, kL182, kA182, kS182, kC183, kG183, kP183, kR183_1, kR183_3, kR183_5, kR183_6, kR183_7, kR183_8, kR183_9, kR183_21, kR183_26, kR183_27, kR183_30, kR183_31, kR183_33, kR183_34, kR183_36, kR183_37, kR183_38, kR183_39, kR183_40, kR183_41, kR183_42, kR183_43, kR183_44, kL184, kA184, kS184, kL185, kA185, kS185, kL186, kA186, kS186, kL187, kA187, kS187, kL188, kA188, kS188, kL189, kL190, kL191, kA191, kS191, kL192, kA192, kS192, kL193, kA193, kS193, kL194, kA194, kS194, kL195, kA195, kS195, kL196, kA196, kS196, kL197, kA197, kS197, kL198, kA198, kS198, kL199, kA199, kS199, kL200, kA200, kS200, kL201, kL202, kA202, kS202, kL203, kA203, kS203, kL204, kA204, kS204, kL205, kL206, kA206, kS206]
theorem restore_l {σ : XS} {I : Nat → Nat → Int32} (hS : Shp σ) {i : Nat} (hi : i < 3) : xloop (f_X12_restore_b22 183 (nI i)) ((0 : Int32), xw σ I) = some (1, xw σ (xup (xup (rcI I 191 0 194 (66 * i) 66) 183 29 0) 183 32 0)) := by
  refine xforE (fun j : Nat => (nI j, xw σ (rcI I 191 0 194 (66 * i) j))) 66 (by simp only [rcI_0]; rfl) (fun j hj => ?_) ?_
  · simp only [f_X12_restore_b22]
    rw [if_neg (by rw [show (66 : Int32) = nI 66 from rfl, nn_le (by omega) (by omega)]; omega)]
    simp (disch := first | assumption | omega) only [Option.bind_some, Option.map_some, xw_gR, xw_gN, xw_al, xw_ck, xw_uI, xw_ur, xup_at, xur_at, if_true, if_false, reduceIte, and_true, true_and, and_false, false_and, not_true_eq_false, not_false_eq_true, Nat.reduceEqDiff, eq_self, Nat.reduceAdd, Nat.reduceMul, kC1, kG1, kP1, kR1_0, kR1_1, kR1_2, kR1_3, kR1_4, kR1_5, kR1_6, kR1_7, kR1_8, kR1_9, kR1_10, kR1_11, kR1_12, kR1_13, kC2, kG2, kP2, kR2_0, kR2_1, kC3, kG3, kP3, kR3_0, kR3_1, kR3_2, kR3_3, kL4, kA4, kS4, kL5, kA5, kS5, kL6, kA6, kS6, kL7, kA7, kS7, kC8, kG8, kP8, kR8_0, kR8_1, kL9, kA9, kS9, kL10, kA10, kS10, kC11, kG11, kP11, kR11_0, kR11_1, kR11_2, kR11_3, kL12, kA12, kS12, kL13, kA13, kS13, kL14, kA14, kS14, kL15, kA15, kS15, kC16, kG16, kP16, kR16_0, kR16_1, kL17, kA17, kS17, kL18, kA18, kS18, kC19, kG19, kP19, kR19_0, kL20, kL141, kL146, kA146, kS146, kL151, kA151, kS151, kL156, kA156, kS156, kC157, kG157, kP157, kR157_0, kR157_1, kL158, kA158, kS158, kL159, kA159, kS159, kC161, kG161, kP161, kR161_0, kR161_1, kL162, kA162, kS162, kL163, kA163, kS163, kC165, kG165, kP165, kR165_0, kR165_1, kR165_2, kR165_3, kL166, kA166, kS166, kL167, kA167, kS167, kL168, kA168, kS168, kL169, kA169, kS169, kC170, kG170, kP170, kR170_0, kR170_1, kR170_2, kL171, kA171, kS171, kL172, kA172, kS172, kL173, kA173, kS173, kC174, kG174, kP174, kR174_0, kR174_1, kR174_2, kR174_3, kR174_4, kL175, kA175, kS175, kL176, kA176, kS176, kL177, kA177, kS177, kL178, kA178, kS178, kL179, kC180, kG180, kP180, kL181, kL182, kA182, kS182, kC183, kG183, kP183, kR183_1, kR183_3, kR183_5, kR183_6, kR183_7, kR183_8, kR183_9, kR183_21, kR183_26, kR183_27, kR183_30, kR183_31, kR183_33, kR183_34, kR183_36, kR183_37, kR183_38, kR183_39, kR183_40, kR183_41, kR183_42, kR183_43, kR183_44, kL184, kA184, kS184, kL185, kA185, kS185, kL186, kA186, kS186, kL187, kA187, kS187, kL188, kA188, kS188, kL189, kL190, kL191, kA191, kS191, kL192, kA192, kS192, kL193, kA193, kS193, kL194, kA194, kS194, kL195, kA195, kS195, kL196, kA196, kS196, kL197, kA197, kS197, kL198, kA198, kS198, kL199, kA199, kS199, kL200, kA200, kS200, kL201, kL202, kA202, kS202, kL203, kA203, kS203, kL204, kA204, kS204, kL205, kL206, kA206, kS206, nn_add, nn_mul, show (66 : Int32) = nI 66 from rfl, rcI_src (show 194 ≠ 191 by decide)]
    have e := rcI_s (I := I) (d := 191) (x := 0) (s := 194) (y := 66 * i) (n := j)
    rw [Nat.zero_add] at e
    rw [e, show (1 : Int32) = nI 1 from rfl, nn_add]
  · simp only [f_X12_restore_b22]
    rw [if_pos (by decide)]
    simp (disch := first | assumption | omega) only [Option.bind_some, Option.map_some, xw_gR, xw_gN, xw_al, xw_ck, xw_uI, xw_ur, xup_at, xur_at, if_true, if_false, reduceIte, and_true, true_and, and_false, false_and, not_true_eq_false, not_false_eq_true, Nat.reduceEqDiff, eq_self, Nat.reduceAdd, Nat.reduceMul, kC1, kG1, kP1, kR1_0, kR1_1, kR1_2, kR1_3, kR1_4, kR1_5, kR1_6, kR1_7, kR1_8, kR1_9, kR1_10, kR1_11, kR1_12, kR1_13, kC2, kG2, kP2, kR2_0, kR2_1, kC3, kG3, kP3, kR3_0, kR3_1, kR3_2, kR3_3, kL4, kA4, kS4, kL5, kA5, kS5, kL6, kA6, kS6, kL7, kA7, kS7, kC8, kG8, kP8, kR8_0, kR8_1, kL9, kA9, kS9, kL10, kA10, kS10, kC11, kG11, kP11, kR11_0, kR11_1, kR11_2, kR11_3, kL12, kA12, kS12, kL13, kA13, kS13, kL14, kA14, kS14, kL15, kA15, kS15, kC16, kG16, kP16, kR16_0, kR16_1, kL17, kA17, kS17, kL18, kA18, kS18, kC19, kG19, kP19, kR19_0, kL20, kL141, kL146, kA146, kS146, kL151, kA151, kS151, kL156, kA156, kS156, kC157, kG157, kP157, kR157_0, kR157_1, kL158, kA158, kS158, kL159, kA159, kS159, kC161, kG161, kP161, kR161_0, kR161_1, kL162, kA162, kS162, kL163, kA163, kS163, kC165, kG165, kP165, kR165_0, kR165_1, kR165_2, kR165_3, kL166, kA166, kS166, kL167, kA167, kS167, kL168, kA168, kS168, kL169, kA169, kS169, kC170, kG170, kP170, kR170_0, kR170_1, kR170_2, kL171, kA171, kS171, kL172, kA172, kS172, kL173, kA173, kS173, kC174, kG174, kP174, kR174_0, kR174_1, kR174_2, kR174_3, kR174_4, kL175, kA175, kS175, kL176, kA176, kS176, kL177, kA177, kS177, kL178, kA178, kS178, kL179, kC180, kG180, kP180, kL181, kL182, kA182, kS182, kC183, kG183, kP183, kR183_1, kR183_3, kR183_5, kR183_6, kR183_7, kR183_8, kR183_9, kR183_21, kR183_26, kR183_27, kR183_30, kR183_31, kR183_33, kR183_34, kR183_36, kR183_37, kR183_38, kR183_39, kR183_40, kR183_41, kR183_42, kR183_43, kR183_44, kL184, kA184, kS184, kL185, kA185, kS185, kL186, kA186, kS186, kL187, kA187, kS187, kL188, kA188, kS188, kL189, kL190, kL191, kA191, kS191, kL192, kA192, kS192, kL193, kA193, kS193, kL194, kA194, kS194, kL195, kA195, kS195, kL196, kA196, kS196, kL197, kA197, kS197, kL198, kA198, kS198, kL199, kA199, kS199, kL200, kA200, kS200, kL201, kL202, kA202, kS202, kL203, kA203, kS203, kL204, kA204, kS204, kL205, kL206, kA206, kS206]
theorem cpI_out {I : Nat → Nat → Int32} {a b c k : Nat} (h : c < a ∨ a + 2 < c) : cpI I a b c k = I c k := by
  unfold cpI
  rw [if_neg (by omega), if_neg (by omega), if_neg (by omega)]
theorem cpI_0 {I : Nat → Nat → Int32} {a b k : Nat} (h1 : 2 ≤ k) (h2 : k ≤ 7) : cpI I a b a k = I b k := by
  unfold cpI
  rw [if_neg (by omega), if_neg (by omega), if_pos ⟨rfl, h1, h2⟩]
theorem cpI_1 {I : Nat → Nat → Int32} {a b k : Nat} (h1 : k < 32) : cpI I a b (a + 1) k = I (b + 1) k := by
  unfold cpI
  rw [if_pos ⟨rfl, h1⟩]
theorem cpI_2 {I : Nat → Nat → Int32} {a b k : Nat} (h1 : k < 16) : cpI I a b (a + 2) k = I (b + 2) k := by
  unfold cpI
  rw [if_neg (by omega), if_pos ⟨rfl, h1⟩]
theorem op_hold : Op_hold INV := by
  intro n σ hn ⟨g, gT, gP, st, H⟩ x
  have hS := H.shp
  have hG := H.grd
  have hc := H.cells
  rcases slot_c x with hno | ⟨i, hi, rfl, hyes⟩
  · refine ⟨0, σ, σ, ?_, ?_, g, gT, gP, st, H.nop⟩
    · show f_X11_hold (xw σ (xI σ)) 1 x = _
      unfold f_X11_hold
      simp (disch := first | assumption | omega) only [Option.bind_some, Option.map_some, xw_gR, xw_gN, xw_al, xw_ck, xw_uI, xw_ur, xup_at, xur_at, if_true, if_false, reduceIte, and_true, true_and, and_false, false_and, not_true_eq_false, not_false_eq_true, Nat.reduceEqDiff, eq_self, Nat.reduceAdd, Nat.reduceMul, kC1, kG1, kP1, kR1_0, kR1_1, kR1_2, kR1_3, kR1_4, kR1_5, kR1_6, kR1_7, kR1_8, kR1_9, kR1_10, kR1_11, kR1_12, kR1_13, kC2, kG2, kP2, kR2_0, kR2_1, kC3, kG3, kP3, kR3_0, kR3_1, kR3_2, kR3_3, kL4, kA4, kS4, kL5, kA5, kS5, kL6, kA6, kS6, kL7, kA7, kS7, kC8, kG8, kP8, kR8_0, kR8_1, kL9, kA9, kS9, kL10, kA10, kS10, kC11, kG11, kP11, kR11_0, kR11_1, kR11_2, kR11_3, kL12, kA12, kS12, kL13, kA13, kS13, kL14, kA14, kS14, kL15, kA15, kS15, kC16, kG16, kP16, kR16_0, kR16_1, kL17, kA17, kS17, kL18, kA18, kS18, kC19, kG19, kP19, kR19_0, kL20, kL141, kL146, kA146, kS146, kL151, kA151, kS151, kL156, kA156, kS156, kC157, kG157, kP157, kR157_0, kR157_1, kL158, kA158, kS158, kL159, kA159, kS159, kC161, kG161, kP161, kR161_0, kR161_1, kL162, kA162, kS162, kL163, kA163, kS163, kC165, kG165, kP165, kR165_0, kR165_1, kR165_2, kR165_3, kL166, kA166, kS166, kL167, kA167, kS167, kL168, kA168, kS168, kL169, kA169, kS169, kC170, kG170, kP170, kR170_0, kR170_1, kR170_2, kL171, kA171, kS171, kL172, kA172, kS172, kL173, kA173, kS173, kC174, kG174, kP174, kR174_0, kR174_1, kR174_2, kR174_3, kR174_4, kL175, kA175, kS175, kL176, kA176, kS176, kL177, kA177, kS177, kL178, kA178, kS178, kL179, kC180, kG180, kP180, kL181, kL182, kA182, kS182, kC183, kG183, kP183, kR183_1, kR183_3, kR183_5, kR183_6, kR183_7, kR183_8, kR183_9, kR183_21, kR183_26, kR183_27, kR183_30, kR183_31, kR183_33, kR183_34, kR183_36, kR183_37, kR183_38, kR183_39, kR183_40, kR183_41, kR183_42, kR183_43, kR183_44, kL184, kA184, kS184, kL185, kA185, kS185, kL186, kA186, kS186, kL187, kA187, kS187, kL188, kA188, kS188, kL189, kL190, kL191, kA191, kS191, kL192, kA192, kS192, kL193, kA193, kS193, kL194, kA194, kS194, kL195, kA195, kS195, kL196, kA196, kS196, kL197, kA197, kS197, kL198, kA198, kS198, kL199, kA199, kS199, kL200, kA200, kS200, kL201, kL202, kA202, kS202, kL203, kA203, kS203, kL204, kA204, kS204, kL205, kL206, kA206, kS206, slotAt_no hS hno]
      rfl
    · show f_X12_hold (xw σ (xI σ)) 183 x = _
      unfold f_X12_hold
      simp (disch := first | assumption | omega) only [Option.bind_some, Option.map_some, xw_gR, xw_gN, xw_al, xw_ck, xw_uI, xw_ur, xup_at, xur_at, if_true, if_false, reduceIte, and_true, true_and, and_false, false_and, not_true_eq_false, not_false_eq_true, Nat.reduceEqDiff, eq_self, Nat.reduceAdd, Nat.reduceMul, kC1, kG1, kP1, kR1_0, kR1_1, kR1_2, kR1_3, kR1_4, kR1_5, kR1_6, kR1_7, kR1_8, kR1_9, kR1_10, kR1_11, kR1_12, kR1_13, kC2, kG2, kP2, kR2_0, kR2_1, kC3, kG3, kP3, kR3_0, kR3_1, kR3_2, kR3_3, kL4, kA4, kS4, kL5, kA5, kS5, kL6, kA6, kS6, kL7, kA7, kS7, kC8, kG8, kP8, kR8_0, kR8_1, kL9, kA9, kS9, kL10, kA10, kS10, kC11, kG11, kP11, kR11_0, kR11_1, kR11_2, kR11_3, kL12, kA12, kS12, kL13, kA13, kS13, kL14, kA14, kS14, kL15, kA15, kS15, kC16, kG16, kP16, kR16_0, kR16_1, kL17, kA17, kS17, kL18, kA18, kS18, kC19, kG19, kP19, kR19_0, kL20, kL141, kL146, kA146, kS146, kL151, kA151, kS151, kL156, kA156, kS156, kC157, kG157, kP157, kR157_0, kR157_1, kL158, kA158, kS158, kL159, kA159, kS159, kC161, kG161, kP161, kR161_0, kR161_1, kL162, kA162, kS162, kL163, kA163, kS163, kC165, kG165, kP165, kR165_0, kR165_1, kR165_2, kR165_3, kL166, kA166, kS166, kL167, kA167, kS167, kL168, kA168, kS168, kL169, kA169, kS169, kC170, kG170, kP170, kR170_0, kR170_1, kR170_2, kL171, kA171, kS171, kL172, kA172, kS172, kL173, kA173, kS173, kC174, kG174, kP174, kR174_0, kR174_1, kR174_2, kR174_3, kR174_4, kL175, kA175, kS175, kL176, kA176, kS176, kL177, kA177, kS177, kL178, kA178, kS178, kL179, kC180, kG180, kP180, kL181, kL182, kA182, kS182, kC183, kG183, kP183, kR183_1, kR183_3, kR183_5, kR183_6, kR183_7, kR183_8, kR183_9, kR183_21, kR183_26, kR183_27, kR183_30, kR183_31, kR183_33, kR183_34, kR183_36, kR183_37, kR183_38, kR183_39, kR183_40, kR183_41, kR183_42, kR183_43, kR183_44, kL184, kA184, kS184, kL185, kA185, kS185, kL186, kA186, kS186, kL187, kA187, kS187, kL188, kA188, kS188, kL189, kL190, kL191, kA191, kS191, kL192, kA192, kS192, kL193, kA193, kS193, kL194, kA194, kS194, kL195, kA195, kS195, kL196, kA196, kS196, kL197, kA197, kS197, kL198, kA198, kS198, kL199, kA199, kS199, kL200, kA200, kS200, kL201, kL202, kA202, kS202, kL203, kA203, kS203, kL204, kA204, kS204, kL205, kL206, kA206, kS206, in_02, hno]
      rfl
  · have hz : (142 + 5 * i = 0) = False := eq_false (by omega)
    obtain ⟨J, hJ⟩ : ∃ J, J = xup (xup (cpI (xI σ) (143 + 5 * i) 16) (142 + 5 * i) 2 1) (142 + 5 * i) 3 0 := ⟨_, rfl⟩
    have uJ : ∀ a k, (a < 142 + 5 * i ∨ 145 + 5 * i < a) → J a k = xI σ a k := by
      intro a k h
      rw [hJ, xup_at, if_neg (by omega), xup_at, if_neg (by omega), cpI_out (by omega)]
    have u : ∀ a k, ¬ (sSLT a k) → xup (rcI J 194 (66 * i) 191 0 66) 195 i 1 a k = xI σ a k := by
      intro a k h
      unfold sSLT at h
      rw [xup_at, if_neg (by omega), rcI_out (by omega), uJ _ _ (by omega)]
    refine ⟨1, xw σ J, xw σ (xup (rcI J 194 (66 * i) 191 0 66) 195 i 1), ?_, ?_, g, gT, gP, st, ?_⟩
    · show f_X11_hold (xw σ (xI σ)) 1 (nI i) = _
      unfold f_X11_hold
      simp (disch := first | assumption | omega) only [Option.bind_some, Option.map_some, xw_gR, xw_gN, xw_al, xw_ck, xw_uI, xw_ur, xup_at, xur_at, if_true, if_false, reduceIte, and_true, true_and, and_false, false_and, not_true_eq_false, not_false_eq_true, Nat.reduceEqDiff, eq_self, Nat.reduceAdd, Nat.reduceMul, kC1, kG1, kP1, kR1_0, kR1_1, kR1_2, kR1_3, kR1_4, kR1_5, kR1_6, kR1_7, kR1_8, kR1_9, kR1_10, kR1_11, kR1_12, kR1_13, kC2, kG2, kP2, kR2_0, kR2_1, kC3, kG3, kP3, kR3_0, kR3_1, kR3_2, kR3_3, kL4, kA4, kS4, kL5, kA5, kS5, kL6, kA6, kS6, kL7, kA7, kS7, kC8, kG8, kP8, kR8_0, kR8_1, kL9, kA9, kS9, kL10, kA10, kS10, kC11, kG11, kP11, kR11_0, kR11_1, kR11_2, kR11_3, kL12, kA12, kS12, kL13, kA13, kS13, kL14, kA14, kS14, kL15, kA15, kS15, kC16, kG16, kP16, kR16_0, kR16_1, kL17, kA17, kS17, kL18, kA18, kS18, kC19, kG19, kP19, kR19_0, kL20, kL141, kL146, kA146, kS146, kL151, kA151, kS151, kL156, kA156, kS156, kC157, kG157, kP157, kR157_0, kR157_1, kL158, kA158, kS158, kL159, kA159, kS159, kC161, kG161, kP161, kR161_0, kR161_1, kL162, kA162, kS162, kL163, kA163, kS163, kC165, kG165, kP165, kR165_0, kR165_1, kR165_2, kR165_3, kL166, kA166, kS166, kL167, kA167, kS167, kL168, kA168, kS168, kL169, kA169, kS169, kC170, kG170, kP170, kR170_0, kR170_1, kR170_2, kL171, kA171, kS171, kL172, kA172, kS172, kL173, kA173, kS173, kC174, kG174, kP174, kR174_0, kR174_1, kR174_2, kR174_3, kR174_4, kL175, kA175, kS175, kL176, kA176, kS176, kL177, kA177, kS177, kL178, kA178, kS178, kL179, kC180, kG180, kP180, kL181, kL182, kA182, kS182, kC183, kG183, kP183, kR183_1, kR183_3, kR183_5, kR183_6, kR183_7, kR183_8, kR183_9, kR183_21, kR183_26, kR183_27, kR183_30, kR183_31, kR183_33, kR183_34, kR183_36, kR183_37, kR183_38, kR183_39, kR183_40, kR183_41, kR183_42, kR183_43, kR183_44, kL184, kA184, kS184, kL185, kA185, kS185, kL186, kA186, kS186, kL187, kA187, kS187, kL188, kA188, kS188, kL189, kL190, kL191, kA191, kS191, kL192, kA192, kS192, kL193, kA193, kS193, kL194, kA194, kS194, kL195, kA195, kS195, kL196, kA196, kS196, kL197, kA197, kS197, kL198, kA198, kS198, kL199, kA199, kS199, kL200, kA200, kS200, kL201, kL202, kA202, kS202, kL203, kA203, kS203, kL204, kA204, kS204, kL205, kL206, kA206, kS206, slotAt_ok hS hi, hz, slR0 hS hi, suC hS (suA_s hi), cp_ok hS (suA_s hi) suA_16 (show 143 + 5 * i ≠ 16 by omega) (show 16 ≠ 143 + 5 * i + 1 by omega) (show 16 ≠ 143 + 5 * i + 2 by omega) (show 143 + 5 * i ≠ 16 + 1 by omega) (show 143 + 5 * i ≠ 16 + 2 by omega), slP hS hi, ← hJ]
    · unfold f_X12_hold
      simp (disch := first | assumption | omega) only [Option.bind_some, Option.map_some, xw_gR, xw_gN, xw_al, xw_ck, xw_uI, xw_ur, xup_at, xur_at, if_true, if_false, reduceIte, and_true, true_and, and_false, false_and, not_true_eq_false, not_false_eq_true, Nat.reduceEqDiff, eq_self, Nat.reduceAdd, Nat.reduceMul, kC1, kG1, kP1, kR1_0, kR1_1, kR1_2, kR1_3, kR1_4, kR1_5, kR1_6, kR1_7, kR1_8, kR1_9, kR1_10, kR1_11, kR1_12, kR1_13, kC2, kG2, kP2, kR2_0, kR2_1, kC3, kG3, kP3, kR3_0, kR3_1, kR3_2, kR3_3, kL4, kA4, kS4, kL5, kA5, kS5, kL6, kA6, kS6, kL7, kA7, kS7, kC8, kG8, kP8, kR8_0, kR8_1, kL9, kA9, kS9, kL10, kA10, kS10, kC11, kG11, kP11, kR11_0, kR11_1, kR11_2, kR11_3, kL12, kA12, kS12, kL13, kA13, kS13, kL14, kA14, kS14, kL15, kA15, kS15, kC16, kG16, kP16, kR16_0, kR16_1, kL17, kA17, kS17, kL18, kA18, kS18, kC19, kG19, kP19, kR19_0, kL20, kL141, kL146, kA146, kS146, kL151, kA151, kS151, kL156, kA156, kS156, kC157, kG157, kP157, kR157_0, kR157_1, kL158, kA158, kS158, kL159, kA159, kS159, kC161, kG161, kP161, kR161_0, kR161_1, kL162, kA162, kS162, kL163, kA163, kS163, kC165, kG165, kP165, kR165_0, kR165_1, kR165_2, kR165_3, kL166, kA166, kS166, kL167, kA167, kS167, kL168, kA168, kS168, kL169, kA169, kS169, kC170, kG170, kP170, kR170_0, kR170_1, kR170_2, kL171, kA171, kS171, kL172, kA172, kS172, kL173, kA173, kS173, kC174, kG174, kP174, kR174_0, kR174_1, kR174_2, kR174_3, kR174_4, kL175, kA175, kS175, kL176, kA176, kS176, kL177, kA177, kS177, kL178, kA178, kS178, kL179, kC180, kG180, kP180, kL181, kL182, kA182, kS182, kC183, kG183, kP183, kR183_1, kR183_3, kR183_5, kR183_6, kR183_7, kR183_8, kR183_9, kR183_21, kR183_26, kR183_27, kR183_30, kR183_31, kR183_33, kR183_34, kR183_36, kR183_37, kR183_38, kR183_39, kR183_40, kR183_41, kR183_42, kR183_43, kR183_44, kL184, kA184, kS184, kL185, kA185, kS185, kL186, kA186, kS186, kL187, kA187, kS187, kL188, kA188, kS188, kL189, kL190, kL191, kA191, kS191, kL192, kA192, kS192, kL193, kA193, kS193, kL194, kA194, kS194, kL195, kA195, kS195, kL196, kA196, kS196, kL197, kA197, kS197, kL198, kA198, kS198, kL199, kA199, kS199, kL200, kA200, kS200, kL201, kL202, kA202, kS202, kL203, kA203, kS203, kL204, kA204, kS204, kL205, kL206, kA206, kS206, in_02, hyes, one0]
      exact hold_l hS hi
    · refine ⟨H.shp, Nat.le_succ_of_le H.stn, (u 1 15 (by unfold sSLT; omega)).trans H.sts, TAP_c (fun a k q => u a k (by unfold sTAP at q; unfold sSLT; omega)) H.tap, ?_, GRD_c (fun a k q => u a k (by unfold sGRD at q; unfold sSLT; omega)) H.grd, NOW_c hG.1 (fun a k q => u a k (by unfold sNOW at q; unfold sSLT; omega)) H.now, PST_c hG.1 (fun a k q => u a k (by unfold sPST at q; unfold sSLT; omega)) (Nat.le_refl _) (fun _ _ => rfl) (fun _ _ => rfl) H.pst, ?_, CCH_c (fun a k q => u a k (by unfold sCCH at q; rw [xw_R] at q; unfold sSLT; omega)) (Nat.le_refl _) (fun _ _ => rfl) (fun _ _ => rfl) H.cch, KNW_c hG.1 (fun a k q => u a k (by unfold sKNW at q; unfold sSLT; omega)) H.knw, H.cel⟩
      · show xup (rcI J 194 (66 * i) 191 0 66) 195 i 1 1 14 = xup (rcI J 194 (66 * i) 191 0 66) 195 i 1 183 16
        rw [u _ _ (by unfold sSLT; omega), u _ _ (by unfold sSLT; omega)]; exact H.plc
      · intro j hj
        rw [xw_I]
        by_cases hji : j = i
        · subst hji
          refine ⟨1, 0, by decide, by decide, ?_, ?_, ?_, fun _ => ?_, fun _ h => absurd h (by decide)⟩
          · rw [xup_at, if_neg (by omega), rcI_out (by omega), hJ, xup_at, if_neg (by omega), xup_at, if_pos ⟨rfl, rfl⟩]; rfl
          · rw [xup_at, if_pos ⟨rfl, rfl⟩]; rfl
          · rw [xup_at, if_neg (by omega), rcI_out (by omega), hJ, xup_at, if_pos ⟨rfl, rfl⟩]; rfl
          · refine LV_m (I := xI σ) hG.1 (fun k h1 h2 => ?_) (fun k h1 => ?_) (fun k h1 => ?_) (fun k h1 => ?_) (Nat.le_refl _) (fun _ _ => rfl) (fun _ _ => rfl) H.now
            · rw [xup_at, if_neg (by omega), rcI_out (by omega), hJ, xup_at, if_neg (by omega), xup_at, if_neg (by omega), cpI_0 h1 h2]
            · rw [xup_at, if_neg (by omega), rcI_out (by omega), hJ, xup_at, if_neg (by omega), xup_at, if_neg (by omega), cpI_1 h1]
            · rw [xup_at, if_neg (by omega), rcI_out (by omega), hJ, xup_at, if_neg (by omega), xup_at, if_neg (by omega), cpI_2 h1]
            · rw [xup_at, if_neg (by omega), rcI_in h1, Nat.zero_add, uJ _ _ (by omega)]
        · obtain ⟨f, c, h1, h2, h3, h4, h5, h6, h7⟩ := H.slt j hj
          have v : ∀ a k, (a = 195 ∧ k = j ∨ (142 + 5 * j ≤ a ∧ a ≤ 146 + 5 * j) ∨ (a = 194 ∧ 66 * j ≤ k ∧ k < 66 * j + 66)) → xup (rcI J 194 (66 * i) 191 0 66) 195 i 1 a k = xI σ a k := by
            intro a k h
            rw [xup_at, if_neg (by omega), rcI_out (by omega), uJ _ _ (by omega)]
          refine ⟨f, c, h1, h2, by rw [v _ _ (by omega)]; exact h3, by rw [v _ _ (by omega)]; exact h4, by rw [v _ _ (by omega)]; exact h5, fun hf => ?_, fun hf hc => ?_⟩
          · exact LV_m (I := xI σ) hG.1 (fun k _ _ => v _ _ (by omega)) (fun k _ => v _ _ (by omega)) (fun k _ => v _ _ (by omega)) (fun k _ => v _ _ (by omega)) (Nat.le_refl _) (fun _ _ => rfl) (fun _ _ => rfl) (h6 hf)
          · exact WAY_c (I := xI σ) hG.1 (fun k _ => v _ _ (by omega)) (fun k _ => v _ _ (by omega)) (h7 hf hc)
theorem op_restore : Op_restore INV := by
  intro n σ hn ⟨g, gT, gP, st, H⟩ x
  have hS := H.shp
  have hG := H.grd
  rcases slot_c x with hno | ⟨i, hi, rfl, hyes⟩
  · refine ⟨0, σ, σ, ?_, ?_, g, gT, gP, st, H.nop⟩
    · show f_X11_restore (xw σ (xI σ)) 1 x = _
      unfold f_X11_restore
      simp (disch := first | assumption | omega) only [Option.bind_some, Option.map_some, xw_gR, xw_gN, xw_al, xw_ck, xw_uI, xw_ur, xup_at, xur_at, if_true, if_false, reduceIte, and_true, true_and, and_false, false_and, not_true_eq_false, not_false_eq_true, Nat.reduceEqDiff, eq_self, Nat.reduceAdd, Nat.reduceMul, kC1, kG1, kP1, kR1_0, kR1_1, kR1_2, kR1_3, kR1_4, kR1_5, kR1_6, kR1_7, kR1_8, kR1_9, kR1_10, kR1_11, kR1_12, kR1_13, kC2, kG2, kP2, kR2_0, kR2_1, kC3, kG3, kP3, kR3_0, kR3_1, kR3_2, kR3_3, kL4, kA4, kS4, kL5, kA5, kS5, kL6, kA6, kS6, kL7, kA7, kS7, kC8, kG8, kP8, kR8_0, kR8_1, kL9, kA9, kS9, kL10, kA10, kS10, kC11, kG11, kP11, kR11_0, kR11_1, kR11_2, kR11_3, kL12, kA12, kS12, kL13, kA13, kS13, kL14, kA14, kS14, kL15, kA15, kS15, kC16, kG16, kP16, kR16_0, kR16_1, kL17, kA17, kS17, kL18, kA18, kS18, kC19, kG19, kP19, kR19_0, kL20, kL141, kL146, kA146, kS146, kL151, kA151, kS151, kL156, kA156, kS156, kC157, kG157, kP157, kR157_0, kR157_1, kL158, kA158, kS158, kL159, kA159, kS159, kC161, kG161, kP161, kR161_0, kR161_1, kL162, kA162, kS162, kL163, kA163, kS163, kC165, kG165, kP165, kR165_0, kR165_1, kR165_2, kR165_3, kL166, kA166, kS166, kL167, kA167, kS167, kL168, kA168, kS168, kL169, kA169, kS169, kC170, kG170, kP170, kR170_0, kR170_1, kR170_2, kL171, kA171, kS171, kL172, kA172, kS172, kL173, kA173, kS173, kC174, kG174, kP174, kR174_0, kR174_1, kR174_2, kR174_3, kR174_4, kL175, kA175, kS175, kL176, kA176, kS176, kL177, kA177, kS177, kL178, kA178, kS178, kL179, kC180, kG180, kP180, kL181, kL182, kA182, kS182, kC183, kG183, kP183, kR183_1, kR183_3, kR183_5, kR183_6, kR183_7, kR183_8, kR183_9, kR183_21, kR183_26, kR183_27, kR183_30, kR183_31, kR183_33, kR183_34, kR183_36, kR183_37, kR183_38, kR183_39, kR183_40, kR183_41, kR183_42, kR183_43, kR183_44, kL184, kA184, kS184, kL185, kA185, kS185, kL186, kA186, kS186, kL187, kA187, kS187, kL188, kA188, kS188, kL189, kL190, kL191, kA191, kS191, kL192, kA192, kS192, kL193, kA193, kS193, kL194, kA194, kS194, kL195, kA195, kS195, kL196, kA196, kS196, kL197, kA197, kS197, kL198, kA198, kS198, kL199, kA199, kS199, kL200, kA200, kS200, kL201, kL202, kA202, kS202, kL203, kA203, kS203, kL204, kA204, kS204, kL205, kL206, kA206, kS206, slotAt_no hS hno]
      rfl
    · show f_X12_restore (xw σ (xI σ)) 183 x = _
      unfold f_X12_restore
      simp (disch := first | assumption | omega) only [Option.bind_some, Option.map_some, xw_gR, xw_gN, xw_al, xw_ck, xw_uI, xw_ur, xup_at, xur_at, if_true, if_false, reduceIte, and_true, true_and, and_false, false_and, not_true_eq_false, not_false_eq_true, Nat.reduceEqDiff, eq_self, Nat.reduceAdd, Nat.reduceMul, kC1, kG1, kP1, kR1_0, kR1_1, kR1_2, kR1_3, kR1_4, kR1_5, kR1_6, kR1_7, kR1_8, kR1_9, kR1_10, kR1_11, kR1_12, kR1_13, kC2, kG2, kP2, kR2_0, kR2_1, kC3, kG3, kP3, kR3_0, kR3_1, kR3_2, kR3_3, kL4, kA4, kS4, kL5, kA5, kS5, kL6, kA6, kS6, kL7, kA7, kS7, kC8, kG8, kP8, kR8_0, kR8_1, kL9, kA9, kS9, kL10, kA10, kS10, kC11, kG11, kP11, kR11_0, kR11_1, kR11_2, kR11_3, kL12, kA12, kS12, kL13, kA13, kS13, kL14, kA14, kS14, kL15, kA15, kS15, kC16, kG16, kP16, kR16_0, kR16_1, kL17, kA17, kS17, kL18, kA18, kS18, kC19, kG19, kP19, kR19_0, kL20, kL141, kL146, kA146, kS146, kL151, kA151, kS151, kL156, kA156, kS156, kC157, kG157, kP157, kR157_0, kR157_1, kL158, kA158, kS158, kL159, kA159, kS159, kC161, kG161, kP161, kR161_0, kR161_1, kL162, kA162, kS162, kL163, kA163, kS163, kC165, kG165, kP165, kR165_0, kR165_1, kR165_2, kR165_3, kL166, kA166, kS166, kL167, kA167, kS167, kL168, kA168, kS168, kL169, kA169, kS169, kC170, kG170, kP170, kR170_0, kR170_1, kR170_2, kL171, kA171, kS171, kL172, kA172, kS172, kL173, kA173, kS173, kC174, kG174, kP174, kR174_0, kR174_1, kR174_2, kR174_3, kR174_4, kL175, kA175, kS175, kL176, kA176, kS176, kL177, kA177, kS177, kL178, kA178, kS178, kL179, kC180, kG180, kP180, kL181, kL182, kA182, kS182, kC183, kG183, kP183, kR183_1, kR183_3, kR183_5, kR183_6, kR183_7, kR183_8, kR183_9, kR183_21, kR183_26, kR183_27, kR183_30, kR183_31, kR183_33, kR183_34, kR183_36, kR183_37, kR183_38, kR183_39, kR183_40, kR183_41, kR183_42, kR183_43, kR183_44, kL184, kA184, kS184, kL185, kA185, kS185, kL186, kA186, kS186, kL187, kA187, kS187, kL188, kA188, kS188, kL189, kL190, kL191, kA191, kS191, kL192, kA192, kS192, kL193, kA193, kS193, kL194, kA194, kS194, kL195, kA195, kS195, kL196, kA196, kS196, kL197, kA197, kS197, kL198, kA198, kS198, kL199, kA199, kS199, kL200, kA200, kS200, kL201, kL202, kA202, kS202, kL203, kA203, kS203, kL204, kA204, kS204, kL205, kL206, kA206, kS206, in_02, hno]
      rfl
  · have hz : (142 + 5 * i = 0) = False := eq_false (by omega)
    obtain ⟨f, c, h1, h2, h3, h4, h5, h6, h7⟩ := H.slt i hi
    rcases (show f = 0 ∨ f = 1 by omega) with rfl | rfl
    · refine ⟨0, σ, σ, ?_, ?_, g, gT, gP, st, H.nop⟩
      · show f_X11_restore (xw σ (xI σ)) 1 (nI i) = _
        unfold f_X11_restore
        simp (disch := first | assumption | omega) only [Option.bind_some, Option.map_some, xw_gR, xw_gN, xw_al, xw_ck, xw_uI, xw_ur, xup_at, xur_at, if_true, if_false, reduceIte, and_true, true_and, and_false, false_and, not_true_eq_false, not_false_eq_true, Nat.reduceEqDiff, eq_self, Nat.reduceAdd, Nat.reduceMul, kC1, kG1, kP1, kR1_0, kR1_1, kR1_2, kR1_3, kR1_4, kR1_5, kR1_6, kR1_7, kR1_8, kR1_9, kR1_10, kR1_11, kR1_12, kR1_13, kC2, kG2, kP2, kR2_0, kR2_1, kC3, kG3, kP3, kR3_0, kR3_1, kR3_2, kR3_3, kL4, kA4, kS4, kL5, kA5, kS5, kL6, kA6, kS6, kL7, kA7, kS7, kC8, kG8, kP8, kR8_0, kR8_1, kL9, kA9, kS9, kL10, kA10, kS10, kC11, kG11, kP11, kR11_0, kR11_1, kR11_2, kR11_3, kL12, kA12, kS12, kL13, kA13, kS13, kL14, kA14, kS14, kL15, kA15, kS15, kC16, kG16, kP16, kR16_0, kR16_1, kL17, kA17, kS17, kL18, kA18, kS18, kC19, kG19, kP19, kR19_0, kL20, kL141, kL146, kA146, kS146, kL151, kA151, kS151, kL156, kA156, kS156, kC157, kG157, kP157, kR157_0, kR157_1, kL158, kA158, kS158, kL159, kA159, kS159, kC161, kG161, kP161, kR161_0, kR161_1, kL162, kA162, kS162, kL163, kA163, kS163, kC165, kG165, kP165, kR165_0, kR165_1, kR165_2, kR165_3, kL166, kA166, kS166, kL167, kA167, kS167, kL168, kA168, kS168, kL169, kA169, kS169, kC170, kG170, kP170, kR170_0, kR170_1, kR170_2, kL171, kA171, kS171, kL172, kA172, kS172, kL173, kA173, kS173, kC174, kG174, kP174, kR174_0, kR174_1, kR174_2, kR174_3, kR174_4, kL175, kA175, kS175, kL176, kA176, kS176, kL177, kA177, kS177, kL178, kA178, kS178, kL179, kC180, kG180, kP180, kL181, kL182, kA182, kS182, kC183, kG183, kP183, kR183_1, kR183_3, kR183_5, kR183_6, kR183_7, kR183_8, kR183_9, kR183_21, kR183_26, kR183_27, kR183_30, kR183_31, kR183_33, kR183_34, kR183_36, kR183_37, kR183_38, kR183_39, kR183_40, kR183_41, kR183_42, kR183_43, kR183_44, kL184, kA184, kS184, kL185, kA185, kS185, kL186, kA186, kS186, kL187, kA187, kS187, kL188, kA188, kS188, kL189, kL190, kL191, kA191, kS191, kL192, kA192, kS192, kL193, kA193, kS193, kL194, kA194, kS194, kL195, kA195, kS195, kL196, kA196, kS196, kL197, kA197, kS197, kL198, kA198, kS198, kL199, kA199, kS199, kL200, kA200, kS200, kL201, kL202, kA202, kS202, kL203, kA203, kS203, kL204, kA204, kS204, kL205, kL206, kA206, kS206, slotAt_ok hS hi, hz, slG hS hi, h3, show (nI 0 = 0) = True from eq_true rfl]
        rfl
      · show f_X12_restore (xw σ (xI σ)) 183 (nI i) = _
        unfold f_X12_restore
        simp (disch := first | assumption | omega) only [Option.bind_some, Option.map_some, xw_gR, xw_gN, xw_al, xw_ck, xw_uI, xw_ur, xup_at, xur_at, if_true, if_false, reduceIte, and_true, true_and, and_false, false_and, not_true_eq_false, not_false_eq_true, Nat.reduceEqDiff, eq_self, Nat.reduceAdd, Nat.reduceMul, kC1, kG1, kP1, kR1_0, kR1_1, kR1_2, kR1_3, kR1_4, kR1_5, kR1_6, kR1_7, kR1_8, kR1_9, kR1_10, kR1_11, kR1_12, kR1_13, kC2, kG2, kP2, kR2_0, kR2_1, kC3, kG3, kP3, kR3_0, kR3_1, kR3_2, kR3_3, kL4, kA4, kS4, kL5, kA5, kS5, kL6, kA6, kS6, kL7, kA7, kS7, kC8, kG8, kP8, kR8_0, kR8_1, kL9, kA9, kS9, kL10, kA10, kS10, kC11, kG11, kP11, kR11_0, kR11_1, kR11_2, kR11_3, kL12, kA12, kS12, kL13, kA13, kS13, kL14, kA14, kS14, kL15, kA15, kS15, kC16, kG16, kP16, kR16_0, kR16_1, kL17, kA17, kS17, kL18, kA18, kS18, kC19, kG19, kP19, kR19_0, kL20, kL141, kL146, kA146, kS146, kL151, kA151, kS151, kL156, kA156, kS156, kC157, kG157, kP157, kR157_0, kR157_1, kL158, kA158, kS158, kL159, kA159, kS159, kC161, kG161, kP161, kR161_0, kR161_1, kL162, kA162, kS162, kL163, kA163, kS163, kC165, kG165, kP165, kR165_0, kR165_1, kR165_2, kR165_3, kL166, kA166, kS166, kL167, kA167, kS167, kL168, kA168, kS168, kL169, kA169, kS169, kC170, kG170, kP170, kR170_0, kR170_1, kR170_2, kL171, kA171, kS171, kL172, kA172, kS172, kL173, kA173, kS173, kC174, kG174, kP174, kR174_0, kR174_1, kR174_2, kR174_3, kR174_4, kL175, kA175, kS175, kL176, kA176, kS176, kL177, kA177, kS177, kL178, kA178, kS178, kL179, kC180, kG180, kP180, kL181, kL182, kA182, kS182, kC183, kG183, kP183, kR183_1, kR183_3, kR183_5, kR183_6, kR183_7, kR183_8, kR183_9, kR183_21, kR183_26, kR183_27, kR183_30, kR183_31, kR183_33, kR183_34, kR183_36, kR183_37, kR183_38, kR183_39, kR183_40, kR183_41, kR183_42, kR183_43, kR183_44, kL184, kA184, kS184, kL185, kA185, kS185, kL186, kA186, kS186, kL187, kA187, kS187, kL188, kA188, kS188, kL189, kL190, kL191, kA191, kS191, kL192, kA192, kS192, kL193, kA193, kS193, kL194, kA194, kS194, kL195, kA195, kS195, kL196, kA196, kS196, kL197, kA197, kS197, kL198, kA198, kS198, kL199, kA199, kS199, kL200, kA200, kS200, kL201, kL202, kA202, kS202, kL203, kA203, kS203, kL204, kA204, kS204, kL205, kL206, kA206, kS206, in_02, hyes, one0, h4, show (nI 0 = 0) = True from eq_true rfl]
        rfl
    · obtain ⟨J, hJ⟩ : ∃ J, J = xup (xup (cpI (xI σ) 16 (143 + 5 * i)) 19 1 0) 19 2 0 := ⟨_, rfl⟩
      have uJ : ∀ a k, (a < 16 ∨ 19 < a) → J a k = xI σ a k := by
        intro a k h
        rw [hJ, xup_at, if_neg (by omega), xup_at, if_neg (by omega), cpI_out (by omega)]
      refine ⟨1, xw σ J, xw σ (xup (xup (rcI J 191 0 194 (66 * i) 66) 183 29 0) 183 32 0), ?_, ?_, g, gT, gP, st, ?_⟩
      · show f_X11_restore (xw σ (xI σ)) 1 (nI i) = _
        unfold f_X11_restore f_X5_forget
        simp (disch := first | assumption | omega) only [Option.bind_some, Option.map_some, xw_gR, xw_gN, xw_al, xw_ck, xw_uI, xw_ur, xup_at, xur_at, if_true, if_false, reduceIte, and_true, true_and, and_false, false_and, not_true_eq_false, not_false_eq_true, Nat.reduceEqDiff, eq_self, Nat.reduceAdd, Nat.reduceMul, kC1, kG1, kP1, kR1_0, kR1_1, kR1_2, kR1_3, kR1_4, kR1_5, kR1_6, kR1_7, kR1_8, kR1_9, kR1_10, kR1_11, kR1_12, kR1_13, kC2, kG2, kP2, kR2_0, kR2_1, kC3, kG3, kP3, kR3_0, kR3_1, kR3_2, kR3_3, kL4, kA4, kS4, kL5, kA5, kS5, kL6, kA6, kS6, kL7, kA7, kS7, kC8, kG8, kP8, kR8_0, kR8_1, kL9, kA9, kS9, kL10, kA10, kS10, kC11, kG11, kP11, kR11_0, kR11_1, kR11_2, kR11_3, kL12, kA12, kS12, kL13, kA13, kS13, kL14, kA14, kS14, kL15, kA15, kS15, kC16, kG16, kP16, kR16_0, kR16_1, kL17, kA17, kS17, kL18, kA18, kS18, kC19, kG19, kP19, kR19_0, kL20, kL141, kL146, kA146, kS146, kL151, kA151, kS151, kL156, kA156, kS156, kC157, kG157, kP157, kR157_0, kR157_1, kL158, kA158, kS158, kL159, kA159, kS159, kC161, kG161, kP161, kR161_0, kR161_1, kL162, kA162, kS162, kL163, kA163, kS163, kC165, kG165, kP165, kR165_0, kR165_1, kR165_2, kR165_3, kL166, kA166, kS166, kL167, kA167, kS167, kL168, kA168, kS168, kL169, kA169, kS169, kC170, kG170, kP170, kR170_0, kR170_1, kR170_2, kL171, kA171, kS171, kL172, kA172, kS172, kL173, kA173, kS173, kC174, kG174, kP174, kR174_0, kR174_1, kR174_2, kR174_3, kR174_4, kL175, kA175, kS175, kL176, kA176, kS176, kL177, kA177, kS177, kL178, kA178, kS178, kL179, kC180, kG180, kP180, kL181, kL182, kA182, kS182, kC183, kG183, kP183, kR183_1, kR183_3, kR183_5, kR183_6, kR183_7, kR183_8, kR183_9, kR183_21, kR183_26, kR183_27, kR183_30, kR183_31, kR183_33, kR183_34, kR183_36, kR183_37, kR183_38, kR183_39, kR183_40, kR183_41, kR183_42, kR183_43, kR183_44, kL184, kA184, kS184, kL185, kA185, kS185, kL186, kA186, kS186, kL187, kA187, kS187, kL188, kA188, kS188, kL189, kL190, kL191, kA191, kS191, kL192, kA192, kS192, kL193, kA193, kS193, kL194, kA194, kS194, kL195, kA195, kS195, kL196, kA196, kS196, kL197, kA197, kS197, kL198, kA198, kS198, kL199, kA199, kS199, kL200, kA200, kS200, kL201, kL202, kA202, kS202, kL203, kA203, kS203, kL204, kA204, kS204, kL205, kL206, kA206, kS206, slotAt_ok hS hi, hz, slG hS hi, h3, show (nI 1 = 0) = False from eq_false (by decide), slR0 hS hi, cp_ok hS suA_16 (suA_s hi) (show 16 ≠ 143 + 5 * i by omega) (show 143 + 5 * i ≠ 16 + 1 by omega) (show 143 + 5 * i ≠ 16 + 2 by omega) (show 16 ≠ 143 + 5 * i + 1 by omega) (show 16 ≠ 143 + 5 * i + 2 by omega), ← hJ]
      · unfold f_X12_restore
        simp (disch := first | assumption | omega) only [Option.bind_some, Option.map_some, xw_gR, xw_gN, xw_al, xw_ck, xw_uI, xw_ur, xup_at, xur_at, if_true, if_false, reduceIte, and_true, true_and, and_false, false_and, not_true_eq_false, not_false_eq_true, Nat.reduceEqDiff, eq_self, Nat.reduceAdd, Nat.reduceMul, kC1, kG1, kP1, kR1_0, kR1_1, kR1_2, kR1_3, kR1_4, kR1_5, kR1_6, kR1_7, kR1_8, kR1_9, kR1_10, kR1_11, kR1_12, kR1_13, kC2, kG2, kP2, kR2_0, kR2_1, kC3, kG3, kP3, kR3_0, kR3_1, kR3_2, kR3_3, kL4, kA4, kS4, kL5, kA5, kS5, kL6, kA6, kS6, kL7, kA7, kS7, kC8, kG8, kP8, kR8_0, kR8_1, kL9, kA9, kS9, kL10, kA10, kS10, kC11, kG11, kP11, kR11_0, kR11_1, kR11_2, kR11_3, kL12, kA12, kS12, kL13, kA13, kS13, kL14, kA14, kS14, kL15, kA15, kS15, kC16, kG16, kP16, kR16_0, kR16_1, kL17, kA17, kS17, kL18, kA18, kS18, kC19, kG19, kP19, kR19_0, kL20, kL141, kL146, kA146, kS146, kL151, kA151, kS151, kL156, kA156, kS156, kC157, kG157, kP157, kR157_0, kR157_1, kL158, kA158, kS158, kL159, kA159, kS159, kC161, kG161, kP161, kR161_0, kR161_1, kL162, kA162, kS162, kL163, kA163, kS163, kC165, kG165, kP165, kR165_0, kR165_1, kR165_2, kR165_3, kL166, kA166, kS166, kL167, kA167, kS167, kL168, kA168, kS168, kL169, kA169, kS169, kC170, kG170, kP170, kR170_0, kR170_1, kR170_2, kL171, kA171, kS171, kL172, kA172, kS172, kL173, kA173, kS173, kC174, kG174, kP174, kR174_0, kR174_1, kR174_2, kR174_3, kR174_4, kL175, kA175, kS175, kL176, kA176, kS176, kL177, kA177, kS177, kL178, kA178, kS178, kL179, kC180, kG180, kP180, kL181, kL182, kA182, kS182, kC183, kG183, kP183, kR183_1, kR183_3, kR183_5, kR183_6, kR183_7, kR183_8, kR183_9, kR183_21, kR183_26, kR183_27, kR183_30, kR183_31, kR183_33, kR183_34, kR183_36, kR183_37, kR183_38, kR183_39, kR183_40, kR183_41, kR183_42, kR183_43, kR183_44, kL184, kA184, kS184, kL185, kA185, kS185, kL186, kA186, kS186, kL187, kA187, kS187, kL188, kA188, kS188, kL189, kL190, kL191, kA191, kS191, kL192, kA192, kS192, kL193, kA193, kS193, kL194, kA194, kS194, kL195, kA195, kS195, kL196, kA196, kS196, kL197, kA197, kS197, kL198, kA198, kS198, kL199, kA199, kS199, kL200, kA200, kS200, kL201, kL202, kA202, kS202, kL203, kA203, kS203, kL204, kA204, kS204, kL205, kL206, kA206, kS206, in_02, hyes, one0, uJ, h4, show (nI 1 = 0) = False from eq_false (by decide)]
        exact restore_l hS hi
      · refine H.turnTo (fun a k h => ?_) ?_ ?_ (by rw [xup_at, if_pos ⟨rfl, rfl⟩])
        · rw [xup_at, if_neg (by omega), xup_at, if_neg (by omega), rcI_out (by omega), uJ _ _ (by omega)]
        · refine LV_m (I := xI σ) hG.1 (fun k h1 h2 => ?_) (fun k h1 => ?_) (fun k h1 => ?_) (fun k h1 => ?_) (Nat.le_refl _) (fun _ _ => rfl) (fun _ _ => rfl) (h6 rfl)
          · rw [xup_at, if_neg (by omega), xup_at, if_neg (by omega), rcI_out (by omega), hJ, xup_at, if_neg (by omega), xup_at, if_neg (by omega), cpI_0 h1 h2]
          · rw [xup_at, if_neg (by omega), xup_at, if_neg (by omega), rcI_out (by omega), hJ, xup_at, if_neg (by omega), xup_at, if_neg (by omega), cpI_1 h1]
          · rw [xup_at, if_neg (by omega), xup_at, if_neg (by omega), rcI_out (by omega), hJ, xup_at, if_neg (by omega), xup_at, if_neg (by omega), cpI_2 h1]
          · have := rcI_in (I := J) (d := 191) (x := 0) (s := 194) (y := 66 * i) h1
            rw [Nat.zero_add] at this
            rw [xup_at, if_neg (by omega), xup_at, if_neg (by omega), this, uJ _ _ (by omega)]
        · obtain ⟨q, nx, ea, hq, hnx, hea, p1, p2, p3, p4, p8⟩ := H.pst
          refine ⟨0, 0, ea, by omega, by omega, hea, ?_, ?_, ?_, ?_, fun i hi => by omega⟩
          · rw [xup_at, if_neg (by omega), xup_at, if_neg (by omega), rcI_out (by omega), hJ, xup_at, if_neg (by omega), xup_at, if_pos ⟨rfl, rfl⟩]; rfl
          · rw [xup_at, if_neg (by omega), xup_at, if_neg (by omega), rcI_out (by omega), hJ, xup_at, if_pos ⟨rfl, rfl⟩]; rfl
          · rw [xup_at, if_neg (by omega), xup_at, if_neg (by omega), rcI_out (by omega), uJ _ _ (by omega)]; exact p3
          · rw [xup_at, if_neg (by omega), xup_at, if_pos ⟨rfl, rfl⟩]; rfl
end
section
/-! longs as natural numbers -/
theorem vL_ti {a : Nat} (h : a < 9223372036854775808) : (lN a).toInt = (a : Int) := pf_lI h
theorem vL_of {x : Int64} {a : Nat} (h : x.toInt = (a : Int)) (ha : a < 9223372036854775808) : x = lN a := Int64.toInt_inj.mp (by rw [h, vL_ti ha])
theorem vL_add {a b : Nat} (h : a + b < 9223372036854775808) : lN a + lN b = lN (a + b) := by
  refine vL_of ?_ h
  rw [fb_addL (by rw [vL_ti (by omega), vL_ti (by omega)]; omega) (by rw [vL_ti (by omega), vL_ti (by omega)]; omega), vL_ti (by omega), vL_ti (by omega)]
  rfl
theorem vL_mul {a b : Nat} (ha : a < 9223372036854775808) (hb : b < 9223372036854775808) (h : a * b < 9223372036854775808) : lN a * lN b = lN (a * b) := by
  refine vL_of ?_ h
  have e : (a : Int) * (b : Int) = ((a * b : Nat) : Int) := by simp
  have h2 : ((a * b : Nat) : Int) < 9223372036854775808 := by omega
  have h3 : (0 : Int) ≤ ((a * b : Nat) : Int) := Int.natCast_nonneg _
  rw [fb_mulL (by rw [vL_ti ha, vL_ti hb, e]; omega) (by rw [vL_ti ha, vL_ti hb, e]; omega), vL_ti ha, vL_ti hb, e]
theorem vL_div {a b : Nat} (ha : a < 9223372036854775808) (hb : b < 9223372036854775808) : lN a / lN b = lN (a / b) := by
  have h2 : a / b ≤ a := Nat.div_le_self a b
  refine vL_of ?_ (by omega)
  rw [Int64.toInt_div, vL_ti ha, vL_ti hb, Int.tdiv_eq_ediv_of_nonneg (by omega)]
  have h1 : ((a : Int) / (b : Int)) = ((a / b : Nat) : Int) := by simp
  rw [h1]
  clear h1
  generalize a / b = q at *
  exact Int.bmod_eq_of_le (by omega) (by omega)
theorem vL_sub {a b : Nat} (h : b ≤ a) (ha : a < 9223372036854775808) : lN a - lN b = lN (a - b) := by
  refine vL_of ?_ (by omega)
  rw [fb_subL (by rw [vL_ti (by omega), vL_ti (by omega)]; omega) (by rw [vL_ti (by omega), vL_ti (by omega)]; omega), vL_ti (by omega), vL_ti (by omega)]
  omega
theorem vL_rem {a b : Nat} (ha : a < 9223372036854775808) (hb : b < 9223372036854775808) : lN a - lN a / lN b * lN b = lN (a % b) := by
  have h1 : a / b * b ≤ a := Nat.div_mul_le_self a b
  have h2 : a / b ≤ a := Nat.div_le_self a b
  rw [vL_div ha hb, vL_mul (by omega) hb (by omega), vL_sub h1 ha]
  congr 1
  have := Nat.div_add_mod a b
  rw [Nat.mul_comm] at this
  omega
theorem vL_i32 {a : Nat} (h : a < 2147483648) : (lN a).toInt32 = nI a := by
  apply Int32.toInt_inj.mp
  rw [Int64.toInt_toInt32, vL_ti (by omega), nI_toInt h]
  exact Int.bmod_eq_of_le (by omega) (by omega)
theorem nI_i64 {a : Nat} (h : a < 2147483648) : (nI a).toInt64 = lN a := by
  refine vL_of ?_ (by omega)
  rw [Int32.toInt_toInt64, nI_toInt h]
theorem vL_eq {a b : Nat} (ha : a < 9223372036854775808) (hb : b < 9223372036854775808) : (lN a = lN b) = (a = b) := by
  rw [fa_eq64, vL_ti ha, vL_ti hb]; exact propext Int.ofNat_inj
theorem lg_cmp0 {x y : Int64} : (lg_cmp x y = 0) = (x = y) := by
  unfold lg_cmp
  by_cases h1 : x > y
  · rw [if_pos h1]
    have : x ≠ y := fun z => by subst z; exact absurd h1 (by rw [gt_iff_lt, fa_lt64]; omega)
    simp [this]
  · rw [if_neg h1]
    by_cases h2 : x = y
    · simp [h2]
    · rw [if_neg h2]; simp [h2]
/-! glass -/
def nxt (a : Nat) : Nat := (a * 1103515245 + 12345) % 2147483648
theorem nxt_b (a : Nat) : nxt a < 2147483648 := Nat.mod_lt _ (by decide)
theorem nextLot_ok {a : Nat} (h : a < 2147483648) : f_X11_nextLot (lN a) = some (lN (nxt a)) := by
  unfold f_X11_nextLot
  rw [show (1103515245 : Int64) = lN 1103515245 from rfl, show (12345 : Int64) = lN 12345 from rfl, show (2147483648 : Int64) = lN 2147483648 from rfl, vL_mul (by omega) (by omega) (by omega), vL_add (by omega), vL_rem (by omega) (by omega)]
  rfl
theorem nextOf_ok {a : Nat} (h : a < 2147483648) : f_X12_nextOf (lN a) = some (lN (nxt a)) := nextLot_ok h
theorem lotOf_ok {a b : Nat} (h : a < 2147483648) (hb : 0 < b) (hb2 : b < 2147483648) : f_X11_lotOf (lN a) (nI b) = some (nI (a / 65536 % b)) := by
  unfold f_X11_lotOf
  rw [if_neg (nI_nle hb (by omega)), nI_i64 hb2]
  unfold xdZ
  rw [if_neg (by rw [show (0 : Int64) = lN 0 from rfl, vL_eq (by omega) (by omega)]; omega), Option.bind_some, show (65536 : Int64) = lN 65536 from rfl, vL_div (by omega) (by omega), vL_rem (by omega) (by omega), vL_i32 (Nat.lt_trans (Nat.mod_lt _ hb) hb2)]
def gLx (g : GD) (x : Nat) : Nat → Nat
  | 0 => x
  | t + 1 => if gTo g t = none then gLx g x t else nxt (gLx g x t)
def gLv (g : GD) (x : Nat) (t : Nat) : Int32 := if gLx g x (t + 1) / 65536 % 2 = 1 then 1 else -1
def glI (g : GD) (x : Nat) (I : Nat → Nat → Int32) (d t : Nat) : Nat → Nat → Int32 := fun c k => if c = d ∧ k < t ∧ gTo g k ≠ none then gLv g x k else I c k
theorem glI_0 {g : GD} {x : Nat} {I : Nat → Nat → Int32} {d : Nat} : glI g x I d 0 = I := by
  funext c k
  unfold glI
  rw [if_neg (by omega)]
theorem glI_no {g : GD} {x : Nat} {I : Nat → Nat → Int32} {d t : Nat} (h : gTo g t = none) : glI g x I d (t + 1) = glI g x I d t := by
  funext c k
  unfold glI
  by_cases hk : k = t
  · subst hk
    rw [if_neg (fun z => z.2.2 h), if_neg (fun z => z.2.2 h)]
  · have : (k < t + 1) ↔ (k < t) := by omega
    simp only [this]
theorem glI_s {g : GD} {x : Nat} {I : Nat → Nat → Int32} {d t : Nat} (h : gTo g t ≠ none) : xup (glI g x I d t) d t (gLv g x t) = glI g x I d (t + 1) := by
  funext c k
  simp only [xup_at, glI]
  by_cases hk : c = d ∧ k = t
  · rw [if_pos hk, if_pos ⟨hk.1, by omega, by rw [hk.2]; exact h⟩, hk.2]
  · rw [if_neg hk]
    by_cases hc : c = d ∧ k < t ∧ gTo g k ≠ none
    · rw [if_pos hc, if_pos ⟨hc.1, by omega, hc.2.2⟩]
    · rw [if_neg hc, if_neg (fun z => hc ⟨z.1, by have := z.2.1; have : ¬ k = t := fun q => hk ⟨z.1, q⟩; omega, z.2.2⟩)]
theorem gap : ∀ g ∈ gAll, ∀ t, t < 32 → gSz g ≤ gFr t → gTo g t = none := by
  intro g hg t ht h
  unfold gTo
  rw [if_pos h]
theorem gap_x {g : GD} (hg : g ∈ gAll) {x : Nat} {I : Nat → Nat → Int32} {d a : Nat} (ha : ∀ t, a ≤ t → t < a + 16 - gSz g → gTo g t = none) : ∀ m, m ≤ 16 - gSz g → gLx g x (a + m) = gLx g x a ∧ glI g x I d (a + m) = glI g x I d a := by
  intro m
  induction m with
  | zero => intro _; exact ⟨rfl, rfl⟩
  | succ m ih =>
    intro hm
    have h16 := (gAll_b g hg).2.2.1
    have h := ih (by omega)
    have hno := ha (a + m) (by omega) (by omega)
    refine ⟨?_, ?_⟩
    · show gLx g x (a + m + 1) = _
      rw [gLx, if_pos hno]; exact h.1
    · show glI g x I d (a + m + 1) = _
      rw [glI_no hno]; exact h.2

theorem gLx_b (g : GD) {x : Nat} (hx : x < 2147483648) : ∀ t, gLx g x t < 2147483648
  | 0 => hx
  | t + 1 => by
    rw [gLx]
    split
    · exact gLx_b g hx t
    · exact nxt_b _
theorem glI_out {g : GD} {x : Nat} {I : Nat → Nat → Int32} {d t c k : Nat} (h : c ≠ d) : glI g x I d t c k = I c k := by
  unfold glI
  rw [if_neg (fun z => h z.1)]
section GLASS
variable {σ : XS} {I : Nat → Nat → Int32} {g : GD}
theorem glass11_l (hS : Shp σ) (hG : GRD I g) {x st : Nat} (hx : x < 2147483648) (hst : I 1 15 = nI st) : xloop (f_X11_glass_b40 1) (lN x, (0 : Int32), xw σ I) = some (1, xw σ (xup (xup (xup (glI g x I 17 32) 1 15 (nI (st + 1))) 16 6 (nI (st + 1))) 16 7 (nI (st + 1)))) := by
  refine xforE (fun t : Nat => (lN (gLx g x t), nI t, xw σ (glI g x I 17 t))) 32 (by simp only [glI_0]; rfl) (fun t ht => ?_) ?_
  · simp only [f_X11_glass_b40]
    rw [if_neg (by rw [show (32 : Int32) = nI 32 from rfl, nn_le (by omega) (by omega)]; omega)]
    have hG2 : GRD (glI g x I 17 t) g := GRD_c (fun a k z => glI_out (by unfold sGRD at z; omega)) hG
    simp (disch := first | assumption | omega) only [Option.bind_some, Option.map_some, xw_gR, xw_gN, xw_al, xw_ck, xw_uI, xw_ur, xup_at, xur_at, if_true, if_false, reduceIte, and_true, true_and, and_false, false_and, not_true_eq_false, not_false_eq_true, Nat.reduceEqDiff, eq_self, Nat.reduceAdd, Nat.reduceMul, kC1, kG1, kP1, kR1_0, kR1_1, kR1_2, kR1_3, kR1_4, kR1_5, kR1_6, kR1_7, kR1_8, kR1_9, kR1_10, kR1_11, kR1_12, kR1_13, kC2, kG2, kP2, kR2_0, kR2_1, kC3, kG3, kP3, kR3_0, kR3_1, kR3_2, kR3_3, kL4, kA4, kS4, kL5, kA5, kS5, kL6, kA6, kS6, kL7, kA7, kS7, kC8, kG8, kP8, kR8_0, kR8_1, kL9, kA9, kS9, kL10, kA10, kS10, kC11, kG11, kP11, kR11_0, kR11_1, kR11_2, kR11_3, kL12, kA12, kS12, kL13, kA13, kS13, kL14, kA14, kS14, kL15, kA15, kS15, kC16, kG16, kP16, kR16_0, kR16_1, kL17, kA17, kS17, kL18, kA18, kS18, kC19, kG19, kP19, kR19_0, kL20, kL141, kL146, kA146, kS146, kL151, kA151, kS151, kL156, kA156, kS156, kC157, kG157, kP157, kR157_0, kR157_1, kL158, kA158, kS158, kL159, kA159, kS159, kC161, kG161, kP161, kR161_0, kR161_1, kL162, kA162, kS162, kL163, kA163, kS163, kC165, kG165, kP165, kR165_0, kR165_1, kR165_2, kR165_3, kL166, kA166, kS166, kL167, kA167, kS167, kL168, kA168, kS168, kL169, kA169, kS169, kC170, kG170, kP170, kR170_0, kR170_1, kR170_2, kL171, kA171, kS171, kL172, kA172, kS172, kL173, kA173, kS173, kC174, kG174, kP174, kR174_0, kR174_1, kR174_2, kR174_3, kR174_4, kL175, kA175, kS175, kL176, kA176, kS176, kL177, kA177, kS177, kL178, kA178, kS178, kL179, kC180, kG180, kP180, kL181, kL182, kA182, kS182, kC183, kG183, kP183, kR183_1, kR183_3, kR183_5, kR183_6, kR183_7, kR183_8, kR183_9, kR183_21, kR183_26, kR183_27, kR183_30, kR183_31, kR183_33, kR183_34, kR183_36, kR183_37, kR183_38, kR183_39, kR183_40, kR183_41, kR183_42, kR183_43, kR183_44, kL184, kA184, kS184, kL185, kA185, kS185, kL186, kA186, kS186, kL187, kA187, kS187, kL188, kA188, kS188, kL189, kL190, kL191, kA191, kS191, kL192, kA192, kS192, kL193, kA193, kS193, kL194, kA194, kS194, kL195, kA195, kS195, kL196, kA196, kS196, kL197, kA197, kS197, kL198, kA198, kS198, kL199, kA199, kS199, kL200, kA200, kS200, kL201, kL202, kA202, kS202, kL203, kA203, kS203, kL204, kA204, kS204, kL205, kL206, kA206, kS206, endAt_ok hS hG2 ht, oI_none (gTo_s hG.1 ht)]
    by_cases hno : gTo g t = none
    · rw [if_pos hno, show (1 : Int32) = nI 1 from rfl, nn_add, glI_no hno]
      show some (Sum.inl (lN (gLx g x t), _)) = some (Sum.inl (lN (gLx g x (t + 1)), _))
      rw [gLx, if_pos hno]
    · rw [if_neg hno, nextLot_ok (gLx_b g hx t), Option.bind_some]
      have e : nxt (gLx g x t) = gLx g x (t + 1) := by rw [gLx, if_neg hno]
      have hb := gLx_b g hx (t + 1)
      rw [e, show (2 : Int32) = nI 2 from rfl, lotOf_ok hb (by decide) (by decide), Option.bind_some]
      unfold f_X11_glass_j85
      simp (disch := first | assumption | omega) only [Option.bind_some, Option.map_some, xw_gR, xw_gN, xw_al, xw_ck, xw_uI, xw_ur, xup_at, xur_at, if_true, if_false, reduceIte, and_true, true_and, and_false, false_and, not_true_eq_false, not_false_eq_true, Nat.reduceEqDiff, eq_self, Nat.reduceAdd, Nat.reduceMul, kC1, kG1, kP1, kR1_0, kR1_1, kR1_2, kR1_3, kR1_4, kR1_5, kR1_6, kR1_7, kR1_8, kR1_9, kR1_10, kR1_11, kR1_12, kR1_13, kC2, kG2, kP2, kR2_0, kR2_1, kC3, kG3, kP3, kR3_0, kR3_1, kR3_2, kR3_3, kL4, kA4, kS4, kL5, kA5, kS5, kL6, kA6, kS6, kL7, kA7, kS7, kC8, kG8, kP8, kR8_0, kR8_1, kL9, kA9, kS9, kL10, kA10, kS10, kC11, kG11, kP11, kR11_0, kR11_1, kR11_2, kR11_3, kL12, kA12, kS12, kL13, kA13, kS13, kL14, kA14, kS14, kL15, kA15, kS15, kC16, kG16, kP16, kR16_0, kR16_1, kL17, kA17, kS17, kL18, kA18, kS18, kC19, kG19, kP19, kR19_0, kL20, kL141, kL146, kA146, kS146, kL151, kA151, kS151, kL156, kA156, kS156, kC157, kG157, kP157, kR157_0, kR157_1, kL158, kA158, kS158, kL159, kA159, kS159, kC161, kG161, kP161, kR161_0, kR161_1, kL162, kA162, kS162, kL163, kA163, kS163, kC165, kG165, kP165, kR165_0, kR165_1, kR165_2, kR165_3, kL166, kA166, kS166, kL167, kA167, kS167, kL168, kA168, kS168, kL169, kA169, kS169, kC170, kG170, kP170, kR170_0, kR170_1, kR170_2, kL171, kA171, kS171, kL172, kA172, kS172, kL173, kA173, kS173, kC174, kG174, kP174, kR174_0, kR174_1, kR174_2, kR174_3, kR174_4, kL175, kA175, kS175, kL176, kA176, kS176, kL177, kA177, kS177, kL178, kA178, kS178, kL179, kC180, kG180, kP180, kL181, kL182, kA182, kS182, kC183, kG183, kP183, kR183_1, kR183_3, kR183_5, kR183_6, kR183_7, kR183_8, kR183_9, kR183_21, kR183_26, kR183_27, kR183_30, kR183_31, kR183_33, kR183_34, kR183_36, kR183_37, kR183_38, kR183_39, kR183_40, kR183_41, kR183_42, kR183_43, kR183_44, kL184, kA184, kS184, kL185, kA185, kS185, kL186, kA186, kS186, kL187, kA187, kS187, kL188, kA188, kS188, kL189, kL190, kL191, kA191, kS191, kL192, kA192, kS192, kL193, kA193, kS193, kL194, kA194, kS194, kL195, kA195, kS195, kL196, kA196, kS196, kL197, kA197, kS197, kL198, kA198, kS198, kL199, kA199, kS199, kL200, kA200, kS200, kL201, kL202, kA202, kS202, kL203, kA203, kS203, kL204, kA204, kS204, kL205, kL206, kA206, kS206, setBond_ok hS suA_16 ht, show (1 : Int32) = nI 1 from rfl, nn_add, nn_eq]
      have hs := glI_s (x := x) (I := I) (d := 17) hno
      unfold gLv at hs
      by_cases h1 : gLx g x (t + 1) / 65536 % 2 = 1
      · rw [if_pos h1] at hs ⊢
        rw [← hs]; rfl
      · rw [if_neg h1] at hs ⊢
        rw [← hs]; rfl
  · simp only [f_X11_glass_b40]
    rw [if_pos (by decide)]
    simp (disch := first | assumption | omega) only [Option.bind_some, Option.map_some, xw_gR, xw_gN, xw_al, xw_ck, xw_uI, xw_ur, xup_at, xur_at, if_true, if_false, reduceIte, and_true, true_and, and_false, false_and, not_true_eq_false, not_false_eq_true, Nat.reduceEqDiff, eq_self, Nat.reduceAdd, Nat.reduceMul, kC1, kG1, kP1, kR1_0, kR1_1, kR1_2, kR1_3, kR1_4, kR1_5, kR1_6, kR1_7, kR1_8, kR1_9, kR1_10, kR1_11, kR1_12, kR1_13, kC2, kG2, kP2, kR2_0, kR2_1, kC3, kG3, kP3, kR3_0, kR3_1, kR3_2, kR3_3, kL4, kA4, kS4, kL5, kA5, kS5, kL6, kA6, kS6, kL7, kA7, kS7, kC8, kG8, kP8, kR8_0, kR8_1, kL9, kA9, kS9, kL10, kA10, kS10, kC11, kG11, kP11, kR11_0, kR11_1, kR11_2, kR11_3, kL12, kA12, kS12, kL13, kA13, kS13, kL14, kA14, kS14, kL15, kA15, kS15, kC16, kG16, kP16, kR16_0, kR16_1, kL17, kA17, kS17, kL18, kA18, kS18, kC19, kG19, kP19, kR19_0, kL20, kL141, kL146, kA146, kS146, kL151, kA151, kS151, kL156, kA156, kS156, kC157, kG157, kP157, kR157_0, kR157_1, kL158, kA158, kS158, kL159, kA159, kS159, kC161, kG161, kP161, kR161_0, kR161_1, kL162, kA162, kS162, kL163, kA163, kS163, kC165, kG165, kP165, kR165_0, kR165_1, kR165_2, kR165_3, kL166, kA166, kS166, kL167, kA167, kS167, kL168, kA168, kS168, kL169, kA169, kS169, kC170, kG170, kP170, kR170_0, kR170_1, kR170_2, kL171, kA171, kS171, kL172, kA172, kS172, kL173, kA173, kS173, kC174, kG174, kP174, kR174_0, kR174_1, kR174_2, kR174_3, kR174_4, kL175, kA175, kS175, kL176, kA176, kS176, kL177, kA177, kS177, kL178, kA178, kS178, kL179, kC180, kG180, kP180, kL181, kL182, kA182, kS182, kC183, kG183, kP183, kR183_1, kR183_3, kR183_5, kR183_6, kR183_7, kR183_8, kR183_9, kR183_21, kR183_26, kR183_27, kR183_30, kR183_31, kR183_33, kR183_34, kR183_36, kR183_37, kR183_38, kR183_39, kR183_40, kR183_41, kR183_42, kR183_43, kR183_44, kL184, kA184, kS184, kL185, kA185, kS185, kL186, kA186, kS186, kL187, kA187, kS187, kL188, kA188, kS188, kL189, kL190, kL191, kA191, kS191, kL192, kA192, kS192, kL193, kA193, kS193, kL194, kA194, kS194, kL195, kA195, kS195, kL196, kA196, kS196, kL197, kA197, kS197, kL198, kA198, kS198, kL199, kA199, kS199, kL200, kA200, kS200, kL201, kL202, kA202, kS202, kL203, kA203, kS203, kL204, kA204, kS204, kL205, kL206, kA206, kS206, stampTies_ok (I := glI g x I 17 32) (st := st) hS (by rw [glI_out (by decide)]; exact hst)]
/-- where the k-th tie of the model stands -/
def gTk (g : GD) (k : Nat) : Nat := if k < gSz g then k else k - gSz g + 16
theorem gTk_x (hg : g ∈ gAll) (h0 : 0 < gSz g) {x : Nat} {d k : Nat} (hk : k < 2 * gSz g) : gLx g x (gTk g k + 1) = gLx g x (gTk g (k + 1)) ∧ glI g x I d (gTk g k + 1) = glI g x I d (gTk g (k + 1)) := by
  have h16 := (gAll_b g hg).2.2.1
  unfold gTk
  by_cases h1 : k < gSz g
  · rw [if_pos h1]
    by_cases h2 : k + 1 < gSz g
    · rw [if_pos h2]; exact ⟨rfl, rfl⟩
    · rw [if_neg h2]
      have e : k + 1 - gSz g + 16 = (k + 1) + (16 - gSz g) := by omega
      have := gap_x hg (x := x) (I := I) (d := d) (a := k + 1) (fun t h3 h4 => gap g hg t (by omega) (by unfold gFr; rw [if_pos (by omega)]; omega)) (16 - gSz g) (Nat.le_refl _)
      rw [e]
      exact ⟨this.1.symm, this.2.symm⟩
  · rw [if_neg h1, if_neg (by omega), show k + 1 - gSz g + 16 = k - gSz g + 16 + 1 by omega]
    exact ⟨rfl, rfl⟩
theorem gTk_e (hg : g ∈ gAll) (h0 : 0 < gSz g) {x : Nat} {d : Nat} : gLx g x (gTk g (2 * gSz g)) = gLx g x 32 ∧ glI g x I d (gTk g (2 * gSz g)) = glI g x I d 32 := by
  have h16 := (gAll_b g hg).2.2.1
  unfold gTk
  rw [if_neg (by omega)]
  have := gap_x hg (x := x) (I := I) (d := d) (a := 2 * gSz g - gSz g + 16) (fun t h3 h4 => gap g hg t (by omega) (by unfold gFr; rw [if_neg (by omega)]; omega)) (16 - gSz g) (Nat.le_refl _)
  rw [show 2 * gSz g - gSz g + 16 + (16 - gSz g) = 32 by omega] at this
  exact ⟨this.1.symm, this.2.symm⟩
theorem glass12_l (hS : Shp σ) (hG : GRD I g) (h0 : 0 < gSz g) {x : Nat} (hx : x < 2147483648) : xloop (f_X12_glass_b30 183) (lN x, (0 : Int32), xw σ I) = some (1, xw σ (xup (glI g x I 191 32) 183 32 0)) := by
  have h16 := (gAll_b g hG.1).2.2.1
  have z0 : gTk g 0 = 0 := by unfold gTk; rw [if_pos h0]
  refine xforE (fun k : Nat => (lN (gLx g x (gTk g k)), nI k, xw σ (glI g x I 191 (gTk g k)))) (2 * gSz g) (by simp only [z0, glI_0]; rfl) (fun k hk => ?_) ?_
  · simp only [f_X12_glass_b30]
    have hG2 : GRD (glI g x I 191 (gTk g k)) g := GRD_c (fun a k z => glI_out (by unfold sGRD at z; omega)) hG
    simp (disch := first | assumption | omega) only [Option.bind_some, Option.map_some, xw_gR, xw_gN, xw_al, xw_ck, xw_uI, xw_ur, xup_at, xur_at, if_true, if_false, reduceIte, and_true, true_and, and_false, false_and, not_true_eq_false, not_false_eq_true, Nat.reduceEqDiff, eq_self, Nat.reduceAdd, Nat.reduceMul, kC1, kG1, kP1, kR1_0, kR1_1, kR1_2, kR1_3, kR1_4, kR1_5, kR1_6, kR1_7, kR1_8, kR1_9, kR1_10, kR1_11, kR1_12, kR1_13, kC2, kG2, kP2, kR2_0, kR2_1, kC3, kG3, kP3, kR3_0, kR3_1, kR3_2, kR3_3, kL4, kA4, kS4, kL5, kA5, kS5, kL6, kA6, kS6, kL7, kA7, kS7, kC8, kG8, kP8, kR8_0, kR8_1, kL9, kA9, kS9, kL10, kA10, kS10, kC11, kG11, kP11, kR11_0, kR11_1, kR11_2, kR11_3, kL12, kA12, kS12, kL13, kA13, kS13, kL14, kA14, kS14, kL15, kA15, kS15, kC16, kG16, kP16, kR16_0, kR16_1, kL17, kA17, kS17, kL18, kA18, kS18, kC19, kG19, kP19, kR19_0, kL20, kL141, kL146, kA146, kS146, kL151, kA151, kS151, kL156, kA156, kS156, kC157, kG157, kP157, kR157_0, kR157_1, kL158, kA158, kS158, kL159, kA159, kS159, kC161, kG161, kP161, kR161_0, kR161_1, kL162, kA162, kS162, kL163, kA163, kS163, kC165, kG165, kP165, kR165_0, kR165_1, kR165_2, kR165_3, kL166, kA166, kS166, kL167, kA167, kS167, kL168, kA168, kS168, kL169, kA169, kS169, kC170, kG170, kP170, kR170_0, kR170_1, kR170_2, kL171, kA171, kS171, kL172, kA172, kS172, kL173, kA173, kS173, kC174, kG174, kP174, kR174_0, kR174_1, kR174_2, kR174_3, kR174_4, kL175, kA175, kS175, kL176, kA176, kS176, kL177, kA177, kS177, kL178, kA178, kS178, kL179, kC180, kG180, kP180, kL181, kL182, kA182, kS182, kC183, kG183, kP183, kR183_1, kR183_3, kR183_5, kR183_6, kR183_7, kR183_8, kR183_9, kR183_21, kR183_26, kR183_27, kR183_30, kR183_31, kR183_33, kR183_34, kR183_36, kR183_37, kR183_38, kR183_39, kR183_40, kR183_41, kR183_42, kR183_43, kR183_44, kL184, kA184, kS184, kL185, kA185, kS185, kL186, kA186, kS186, kL187, kA187, kS187, kL188, kA188, kS188, kL189, kL190, kL191, kA191, kS191, kL192, kA192, kS192, kL193, kA193, kS193, kL194, kA194, kS194, kL195, kA195, kS195, kL196, kA196, kS196, kL197, kA197, kS197, kL198, kA198, kS198, kL199, kA199, kS199, kL200, kA200, kS200, kL201, kL202, kA202, kS202, kL203, kA203, kS203, kL204, kA204, kS204, kL205, kL206, kA206, kS206, sites_ok hS hG2, show (2 : Int32) = nI 2 from rfl, nn_mul, nn_le, nn_lt, show ¬ (2 * gSz g ≤ k) by omega]
    obtain ⟨b, i, hb, hi, ht, hbk⟩ : ∃ b i, b < 2 ∧ i < gSz g ∧ gTk g k = i + 16 * b ∧ (b = 0 ∧ k < gSz g ∧ i = k ∨ b = 1 ∧ ¬ k < gSz g ∧ i = k - gSz g) := by
      unfold gTk
      by_cases h1 : k < gSz g
      · exact ⟨0, k, by decide, h1, by rw [if_pos h1]; omega, .inl ⟨rfl, h1, rfl⟩⟩
      · exact ⟨1, k - gSz g, by decide, by omega, by rw [if_neg h1], .inr ⟨rfl, h1, rfl⟩⟩
    have hxk := gTk_x (I := I) hG.1 h0 (x := x) (d := 191) hk
    have hmain : f_X12_glass_j74 (xw σ (glI g x I 191 (gTk g k))) 183 (lN (gLx g x (gTk g k))) (nI k) (nI b) (nI i) = some (Sum.inl (lN (gLx g x (gTk g (k + 1))), nI (k + 1), xw σ (glI g x I 191 (gTk g (k + 1))))) := by
      rw [← hxk.1, ← hxk.2]
      unfold f_X12_glass_j74
      rw [ht] at hG2 ⊢
      have ht32 : i + 16 * b < 32 := by omega
      simp (disch := first | assumption | omega) only [Option.bind_some, Option.map_some, xw_gR, xw_gN, xw_al, xw_ck, xw_uI, xw_ur, xup_at, xur_at, if_true, if_false, reduceIte, and_true, true_and, and_false, false_and, not_true_eq_false, not_false_eq_true, Nat.reduceEqDiff, eq_self, Nat.reduceAdd, Nat.reduceMul, kC1, kG1, kP1, kR1_0, kR1_1, kR1_2, kR1_3, kR1_4, kR1_5, kR1_6, kR1_7, kR1_8, kR1_9, kR1_10, kR1_11, kR1_12, kR1_13, kC2, kG2, kP2, kR2_0, kR2_1, kC3, kG3, kP3, kR3_0, kR3_1, kR3_2, kR3_3, kL4, kA4, kS4, kL5, kA5, kS5, kL6, kA6, kS6, kL7, kA7, kS7, kC8, kG8, kP8, kR8_0, kR8_1, kL9, kA9, kS9, kL10, kA10, kS10, kC11, kG11, kP11, kR11_0, kR11_1, kR11_2, kR11_3, kL12, kA12, kS12, kL13, kA13, kS13, kL14, kA14, kS14, kL15, kA15, kS15, kC16, kG16, kP16, kR16_0, kR16_1, kL17, kA17, kS17, kL18, kA18, kS18, kC19, kG19, kP19, kR19_0, kL20, kL141, kL146, kA146, kS146, kL151, kA151, kS151, kL156, kA156, kS156, kC157, kG157, kP157, kR157_0, kR157_1, kL158, kA158, kS158, kL159, kA159, kS159, kC161, kG161, kP161, kR161_0, kR161_1, kL162, kA162, kS162, kL163, kA163, kS163, kC165, kG165, kP165, kR165_0, kR165_1, kR165_2, kR165_3, kL166, kA166, kS166, kL167, kA167, kS167, kL168, kA168, kS168, kL169, kA169, kS169, kC170, kG170, kP170, kR170_0, kR170_1, kR170_2, kL171, kA171, kS171, kL172, kA172, kS172, kL173, kA173, kS173, kC174, kG174, kP174, kR174_0, kR174_1, kR174_2, kR174_3, kR174_4, kL175, kA175, kS175, kL176, kA176, kS176, kL177, kA177, kS177, kL178, kA178, kS178, kL179, kC180, kG180, kP180, kL181, kL182, kA182, kS182, kC183, kG183, kP183, kR183_1, kR183_3, kR183_5, kR183_6, kR183_7, kR183_8, kR183_9, kR183_21, kR183_26, kR183_27, kR183_30, kR183_31, kR183_33, kR183_34, kR183_36, kR183_37, kR183_38, kR183_39, kR183_40, kR183_41, kR183_42, kR183_43, kR183_44, kL184, kA184, kS184, kL185, kA185, kS185, kL186, kA186, kS186, kL187, kA187, kS187, kL188, kA188, kS188, kL189, kL190, kL191, kA191, kS191, kL192, kA192, kS192, kL193, kA193, kS193, kL194, kA194, kS194, kL195, kA195, kS195, kL196, kA196, kS196, kL197, kA197, kS197, kL198, kA198, kS198, kL199, kA199, kS199, kL200, kA200, kS200, kL201, kL202, kA202, kS202, kL203, kA203, kS203, kL204, kA204, kS204, kL205, kL206, kA206, kS206, tieTo_ok hS hG2 hb hi]
      by_cases hno : gTo g (i + 16 * b) = none
      · rw [hno]
        have : ¬ (0 ≤ oI none) := by decide
        rw [if_neg this, show (1 : Int32) = nI 1 from rfl, nn_add, glI_no hno, gLx, if_pos hno]
      · obtain ⟨en, hen⟩ := Option.ne_none_iff_exists'.mp hno
        have hens := gTo_s hG.1 ht32 en hen
        have : (0 : Int32) ≤ oI (gTo g (i + 16 * b)) := by
          rw [hen]
          show nI 0 ≤ nI en
          rw [nn_le (by decide) hens]; omega
        rw [if_pos this, nextOf_ok (gLx_b g hx _), Option.bind_some]
        have e : nxt (gLx g x (i + 16 * b)) = gLx g x (i + 16 * b + 1) := by rw [gLx, if_neg hno]
        have hb2 := gLx_b g hx (i + 16 * b + 1)
        have hs := glI_s (x := x) (I := I) (d := 191) hno
        unfold gLv at hs
        rw [e]
        have cmp : (lg_cmp (lN (gLx g x (i + 16 * b + 1)) / (65536 : Int64) - lN (gLx g x (i + 16 * b + 1)) / (65536 : Int64) / (2 : Int64) * (2 : Int64)) (1 : Int64) = 0) = (gLx g x (i + 16 * b + 1) / 65536 % 2 = 1) := by
          rw [lg_cmp0, show (65536 : Int64) = lN 65536 from rfl, vL_div (by omega) (by omega), show (2 : Int64) = lN 2 from rfl, vL_rem (by omega) (by omega), show (1 : Int64) = lN 1 from rfl, vL_eq (by omega) (by omega)]
        unfold f_X12_glass_j110
        simp only [cmp]
        rcases hbk with ⟨rfl, -⟩ | ⟨rfl, -⟩
        · simp (disch := first | assumption | omega) only [Option.bind_some, Option.map_some, xw_gR, xw_gN, xw_al, xw_ck, xw_uI, xw_ur, xup_at, xur_at, if_true, if_false, reduceIte, and_true, true_and, and_false, false_and, not_true_eq_false, not_false_eq_true, Nat.reduceEqDiff, eq_self, Nat.reduceAdd, Nat.reduceMul, kC1, kG1, kP1, kR1_0, kR1_1, kR1_2, kR1_3, kR1_4, kR1_5, kR1_6, kR1_7, kR1_8, kR1_9, kR1_10, kR1_11, kR1_12, kR1_13, kC2, kG2, kP2, kR2_0, kR2_1, kC3, kG3, kP3, kR3_0, kR3_1, kR3_2, kR3_3, kL4, kA4, kS4, kL5, kA5, kS5, kL6, kA6, kS6, kL7, kA7, kS7, kC8, kG8, kP8, kR8_0, kR8_1, kL9, kA9, kS9, kL10, kA10, kS10, kC11, kG11, kP11, kR11_0, kR11_1, kR11_2, kR11_3, kL12, kA12, kS12, kL13, kA13, kS13, kL14, kA14, kS14, kL15, kA15, kS15, kC16, kG16, kP16, kR16_0, kR16_1, kL17, kA17, kS17, kL18, kA18, kS18, kC19, kG19, kP19, kR19_0, kL20, kL141, kL146, kA146, kS146, kL151, kA151, kS151, kL156, kA156, kS156, kC157, kG157, kP157, kR157_0, kR157_1, kL158, kA158, kS158, kL159, kA159, kS159, kC161, kG161, kP161, kR161_0, kR161_1, kL162, kA162, kS162, kL163, kA163, kS163, kC165, kG165, kP165, kR165_0, kR165_1, kR165_2, kR165_3, kL166, kA166, kS166, kL167, kA167, kS167, kL168, kA168, kS168, kL169, kA169, kS169, kC170, kG170, kP170, kR170_0, kR170_1, kR170_2, kL171, kA171, kS171, kL172, kA172, kS172, kL173, kA173, kS173, kC174, kG174, kP174, kR174_0, kR174_1, kR174_2, kR174_3, kR174_4, kL175, kA175, kS175, kL176, kA176, kS176, kL177, kA177, kS177, kL178, kA178, kS178, kL179, kC180, kG180, kP180, kL181, kL182, kA182, kS182, kC183, kG183, kP183, kR183_1, kR183_3, kR183_5, kR183_6, kR183_7, kR183_8, kR183_9, kR183_21, kR183_26, kR183_27, kR183_30, kR183_31, kR183_33, kR183_34, kR183_36, kR183_37, kR183_38, kR183_39, kR183_40, kR183_41, kR183_42, kR183_43, kR183_44, kL184, kA184, kS184, kL185, kA185, kS185, kL186, kA186, kS186, kL187, kA187, kS187, kL188, kA188, kS188, kL189, kL190, kL191, kA191, kS191, kL192, kA192, kS192, kL193, kA193, kS193, kL194, kA194, kS194, kL195, kA195, kS195, kL196, kA196, kS196, kL197, kA197, kS197, kL198, kA198, kS198, kL199, kA199, kS199, kL200, kA200, kS200, kL201, kL202, kA202, kS202, kL203, kA203, kS203, kL204, kA204, kS204, kL205, kL206, kA206, kS206, show (nI 0 = 0) = True from eq_true rfl, show (0 : Int32) = nI 0 from rfl, show (1 : Int32) = nI 1 from rfl, nn_add, Nat.zero_add, Nat.add_zero]
          by_cases h1 : gLx g x (i + 1) / 65536 % 2 = 1
          · rw [if_pos h1]
            rw [show i + 16 * 0 + 1 = i + 1 by omega, if_pos h1] at hs
            rw [← hs]; rfl
          · rw [if_neg h1]
            rw [show i + 16 * 0 + 1 = i + 1 by omega, if_neg h1] at hs
            rw [← hs]; rfl
        · simp (disch := first | assumption | omega) only [Option.bind_some, Option.map_some, xw_gR, xw_gN, xw_al, xw_ck, xw_uI, xw_ur, xup_at, xur_at, if_true, if_false, reduceIte, and_true, true_and, and_false, false_and, not_true_eq_false, not_false_eq_true, Nat.reduceEqDiff, eq_self, Nat.reduceAdd, Nat.reduceMul, kC1, kG1, kP1, kR1_0, kR1_1, kR1_2, kR1_3, kR1_4, kR1_5, kR1_6, kR1_7, kR1_8, kR1_9, kR1_10, kR1_11, kR1_12, kR1_13, kC2, kG2, kP2, kR2_0, kR2_1, kC3, kG3, kP3, kR3_0, kR3_1, kR3_2, kR3_3, kL4, kA4, kS4, kL5, kA5, kS5, kL6, kA6, kS6, kL7, kA7, kS7, kC8, kG8, kP8, kR8_0, kR8_1, kL9, kA9, kS9, kL10, kA10, kS10, kC11, kG11, kP11, kR11_0, kR11_1, kR11_2, kR11_3, kL12, kA12, kS12, kL13, kA13, kS13, kL14, kA14, kS14, kL15, kA15, kS15, kC16, kG16, kP16, kR16_0, kR16_1, kL17, kA17, kS17, kL18, kA18, kS18, kC19, kG19, kP19, kR19_0, kL20, kL141, kL146, kA146, kS146, kL151, kA151, kS151, kL156, kA156, kS156, kC157, kG157, kP157, kR157_0, kR157_1, kL158, kA158, kS158, kL159, kA159, kS159, kC161, kG161, kP161, kR161_0, kR161_1, kL162, kA162, kS162, kL163, kA163, kS163, kC165, kG165, kP165, kR165_0, kR165_1, kR165_2, kR165_3, kL166, kA166, kS166, kL167, kA167, kS167, kL168, kA168, kS168, kL169, kA169, kS169, kC170, kG170, kP170, kR170_0, kR170_1, kR170_2, kL171, kA171, kS171, kL172, kA172, kS172, kL173, kA173, kS173, kC174, kG174, kP174, kR174_0, kR174_1, kR174_2, kR174_3, kR174_4, kL175, kA175, kS175, kL176, kA176, kS176, kL177, kA177, kS177, kL178, kA178, kS178, kL179, kC180, kG180, kP180, kL181, kL182, kA182, kS182, kC183, kG183, kP183, kR183_1, kR183_3, kR183_5, kR183_6, kR183_7, kR183_8, kR183_9, kR183_21, kR183_26, kR183_27, kR183_30, kR183_31, kR183_33, kR183_34, kR183_36, kR183_37, kR183_38, kR183_39, kR183_40, kR183_41, kR183_42, kR183_43, kR183_44, kL184, kA184, kS184, kL185, kA185, kS185, kL186, kA186, kS186, kL187, kA187, kS187, kL188, kA188, kS188, kL189, kL190, kL191, kA191, kS191, kL192, kA192, kS192, kL193, kA193, kS193, kL194, kA194, kS194, kL195, kA195, kS195, kL196, kA196, kS196, kL197, kA197, kS197, kL198, kA198, kS198, kL199, kA199, kS199, kL200, kA200, kS200, kL201, kL202, kA202, kS202, kL203, kA203, kS203, kL204, kA204, kS204, kL205, kL206, kA206, kS206, show (nI 1 = 0) = False from eq_false (by decide), show (16 : Int32) = nI 16 from rfl, show (1 : Int32) = nI 1 from rfl, nn_add]
          rw [Nat.add_comm 16 i]
          by_cases h1 : gLx g x (i + 16 + 1) / 65536 % 2 = 1
          · rw [if_pos h1]
            rw [show i + 16 * 1 + 1 = i + 16 + 1 by omega, if_pos h1] at hs
            rw [← hs]; rfl
          · rw [if_neg h1]
            rw [show i + 16 * 1 + 1 = i + 16 + 1 by omega, if_neg h1] at hs
            rw [← hs]; rfl
    unfold f_X12_glass_j55
    rcases hbk with ⟨rfl, h1, rfl⟩ | ⟨rfl, h1, rfl⟩
    · rw [if_pos h1, if_pos rfl]
      exact hmain
    · rw [if_neg h1, if_neg (by decide)]
      simp (disch := first | assumption | omega) only [Option.bind_some, Option.map_some, xw_gR, xw_gN, xw_al, xw_ck, xw_uI, xw_ur, xup_at, xur_at, if_true, if_false, reduceIte, and_true, true_and, and_false, false_and, not_true_eq_false, not_false_eq_true, Nat.reduceEqDiff, eq_self, Nat.reduceAdd, Nat.reduceMul, kC1, kG1, kP1, kR1_0, kR1_1, kR1_2, kR1_3, kR1_4, kR1_5, kR1_6, kR1_7, kR1_8, kR1_9, kR1_10, kR1_11, kR1_12, kR1_13, kC2, kG2, kP2, kR2_0, kR2_1, kC3, kG3, kP3, kR3_0, kR3_1, kR3_2, kR3_3, kL4, kA4, kS4, kL5, kA5, kS5, kL6, kA6, kS6, kL7, kA7, kS7, kC8, kG8, kP8, kR8_0, kR8_1, kL9, kA9, kS9, kL10, kA10, kS10, kC11, kG11, kP11, kR11_0, kR11_1, kR11_2, kR11_3, kL12, kA12, kS12, kL13, kA13, kS13, kL14, kA14, kS14, kL15, kA15, kS15, kC16, kG16, kP16, kR16_0, kR16_1, kL17, kA17, kS17, kL18, kA18, kS18, kC19, kG19, kP19, kR19_0, kL20, kL141, kL146, kA146, kS146, kL151, kA151, kS151, kL156, kA156, kS156, kC157, kG157, kP157, kR157_0, kR157_1, kL158, kA158, kS158, kL159, kA159, kS159, kC161, kG161, kP161, kR161_0, kR161_1, kL162, kA162, kS162, kL163, kA163, kS163, kC165, kG165, kP165, kR165_0, kR165_1, kR165_2, kR165_3, kL166, kA166, kS166, kL167, kA167, kS167, kL168, kA168, kS168, kL169, kA169, kS169, kC170, kG170, kP170, kR170_0, kR170_1, kR170_2, kL171, kA171, kS171, kL172, kA172, kS172, kL173, kA173, kS173, kC174, kG174, kP174, kR174_0, kR174_1, kR174_2, kR174_3, kR174_4, kL175, kA175, kS175, kL176, kA176, kS176, kL177, kA177, kS177, kL178, kA178, kS178, kL179, kC180, kG180, kP180, kL181, kL182, kA182, kS182, kC183, kG183, kP183, kR183_1, kR183_3, kR183_5, kR183_6, kR183_7, kR183_8, kR183_9, kR183_21, kR183_26, kR183_27, kR183_30, kR183_31, kR183_33, kR183_34, kR183_36, kR183_37, kR183_38, kR183_39, kR183_40, kR183_41, kR183_42, kR183_43, kR183_44, kL184, kA184, kS184, kL185, kA185, kS185, kL186, kA186, kS186, kL187, kA187, kS187, kL188, kA188, kS188, kL189, kL190, kL191, kA191, kS191, kL192, kA192, kS192, kL193, kA193, kS193, kL194, kA194, kS194, kL195, kA195, kS195, kL196, kA196, kS196, kL197, kA197, kS197, kL198, kA198, kS198, kL199, kA199, kS199, kL200, kA200, kS200, kL201, kL202, kA202, kS202, kL203, kA203, kS203, kL204, kA204, kS204, kL205, kL206, kA206, kS206, sites_ok hS hG2, nn_sub]
      exact hmain
  · simp only [f_X12_glass_b30]
    have he := gTk_e (I := I) hG.1 h0 (x := x) (d := 191)
    have hG2 : GRD (glI g x I 191 32) g := GRD_c (fun a k z => glI_out (by unfold sGRD at z; omega)) hG
    rw [he.2]
    simp (disch := first | assumption | omega) only [Option.bind_some, Option.map_some, xw_gR, xw_gN, xw_al, xw_ck, xw_uI, xw_ur, xup_at, xur_at, if_true, if_false, reduceIte, and_true, true_and, and_false, false_and, not_true_eq_false, not_false_eq_true, Nat.reduceEqDiff, eq_self, Nat.reduceAdd, Nat.reduceMul, kC1, kG1, kP1, kR1_0, kR1_1, kR1_2, kR1_3, kR1_4, kR1_5, kR1_6, kR1_7, kR1_8, kR1_9, kR1_10, kR1_11, kR1_12, kR1_13, kC2, kG2, kP2, kR2_0, kR2_1, kC3, kG3, kP3, kR3_0, kR3_1, kR3_2, kR3_3, kL4, kA4, kS4, kL5, kA5, kS5, kL6, kA6, kS6, kL7, kA7, kS7, kC8, kG8, kP8, kR8_0, kR8_1, kL9, kA9, kS9, kL10, kA10, kS10, kC11, kG11, kP11, kR11_0, kR11_1, kR11_2, kR11_3, kL12, kA12, kS12, kL13, kA13, kS13, kL14, kA14, kS14, kL15, kA15, kS15, kC16, kG16, kP16, kR16_0, kR16_1, kL17, kA17, kS17, kL18, kA18, kS18, kC19, kG19, kP19, kR19_0, kL20, kL141, kL146, kA146, kS146, kL151, kA151, kS151, kL156, kA156, kS156, kC157, kG157, kP157, kR157_0, kR157_1, kL158, kA158, kS158, kL159, kA159, kS159, kC161, kG161, kP161, kR161_0, kR161_1, kL162, kA162, kS162, kL163, kA163, kS163, kC165, kG165, kP165, kR165_0, kR165_1, kR165_2, kR165_3, kL166, kA166, kS166, kL167, kA167, kS167, kL168, kA168, kS168, kL169, kA169, kS169, kC170, kG170, kP170, kR170_0, kR170_1, kR170_2, kL171, kA171, kS171, kL172, kA172, kS172, kL173, kA173, kS173, kC174, kG174, kP174, kR174_0, kR174_1, kR174_2, kR174_3, kR174_4, kL175, kA175, kS175, kL176, kA176, kS176, kL177, kA177, kS177, kL178, kA178, kS178, kL179, kC180, kG180, kP180, kL181, kL182, kA182, kS182, kC183, kG183, kP183, kR183_1, kR183_3, kR183_5, kR183_6, kR183_7, kR183_8, kR183_9, kR183_21, kR183_26, kR183_27, kR183_30, kR183_31, kR183_33, kR183_34, kR183_36, kR183_37, kR183_38, kR183_39, kR183_40, kR183_41, kR183_42, kR183_43, kR183_44, kL184, kA184, kS184, kL185, kA185, kS185, kL186, kA186, kS186, kL187, kA187, kS187, kL188, kA188, kS188, kL189, kL190, kL191, kA191, kS191, kL192, kA192, kS192, kL193, kA193, kS193, kL194, kA194, kS194, kL195, kA195, kS195, kL196, kA196, kS196, kL197, kA197, kS197, kL198, kA198, kS198, kL199, kA199, kS199, kL200, kA200, kS200, kL201, kL202, kA202, kS202, kL203, kA203, kS203, kL204, kA204, kS204, kL205, kL206, kA206, kS206, sites_ok hS hG2, show (2 : Int32) = nI 2 from rfl, nn_mul, nn_le, Nat.le_refl]
end GLASS
end
section
theorem LV_glass {g : GD} {gT gP : GH} {st : Nat} {I I' : Nat → Nat → Int32} (hg : g ∈ gAll) (H : LV g gT gP st I 16 (I 191)) (h0 : ∀ k, k < 6 → I' 16 k = I 16 k) (h6 : I' 16 6 = nI (st + 1)) (h7 : I' 16 7 = nI (st + 1))
    (hJ : ∀ t, t < 32 → I' 17 t = if (gTo g t).isSome then I' 191 t else I 17 t) (hF : ∀ i, i < 16 → I' 18 i = I 18 i) (hb : ∀ t, t < 32 → -3 ≤ (I' 191 t).toInt ∧ (I' 191 t).toInt ≤ 3)
    (hr : ∀ k, 32 ≤ k → I' 191 k = I 191 k) : LV g (gUp gT (st + 1) g (I' 191)) (gUp gP (st + 1) g (I' 191)) (st + 1) I' 16 (I' 191) := by
  have h16 := (gAll_b g hg).2.2.1
  obtain ⟨⟨e1, e2, ⟨p, u, e3, e4, e5, e6⟩, e7, e8⟩, ⟨o1, o2, ⟨b0, o3, o4, o5⟩, o6⟩, -⟩ := H
  refine ⟨⟨fun t ht => ?_, fun i hi => by rw [hF i hi, hr _ (by omega)]; exact e2 i hi, ⟨p, u, by rw [h0 _ (by omega)]; exact e3, by rw [h0 _ (by omega)]; exact e4, fun i => ?_, fun i => ?_⟩, by rw [h0 _ (by omega), hr _ (by omega)]; exact e7, by rw [h0 _ (by omega), hr _ (by omega)]; exact e8⟩, ⟨fun k hk => ?_, fun i hi => by rw [hr _ (by omega)]; exact o2 i hi, ⟨b0, o3, by rw [hr _ (by omega)]; exact o4, fun i hi => by rw [hr _ (by omega)]; exact o5 i hi⟩, by rw [hr _ (by omega)]; exact o6⟩, st + 1, st + 1, Nat.le_refl _, Nat.le_refl _, h6, h7, by rw [gUp_new], fun k _ => by rw [gUp_new], by rw [gUp_new], fun k _ => by rw [gUp_new]⟩
  · rw [hJ t ht]
    by_cases h2 : (gTo g t).isSome
    · simp [h2]
    · have := e1 t ht
      rw [if_neg h2] at this
      simp only [h2, if_false, Bool.false_eq_true]
      exact this
  · rw [e5, hr _ (by omega)]
  · rw [e6, hr _ (by omega)]
  · by_cases h32 : k < 32
    · exact hb k h32
    · rw [hr _ (by omega)]; exact o1 k hk
theorem in_9999 (x : Int32) : f_X12_in x 0 9999 = some (if x < 0 ∨ 9999 < x then 0 else 1) := by
  unfold f_X12_in
  by_cases h1 : x < 0
  · simp [h1]
  · by_cases h2 : (9999 : Int32) < x
    · simp [h1, h2]
    · simp [h1, h2]
theorem gLv_b (g : GD) (x t : Nat) : -3 ≤ (gLv g x t).toInt ∧ (gLv g x t).toInt ≤ 3 := by
  unfold gLv
  split
  · decide
  · decide
theorem op_glass : Op_glass INV := by
  intro n σ hn ⟨g, gT, gP, st, H⟩ x
  have hS := H.shp
  have hG := H.grd
  have h16 := (gAll_b g hG.1).2.2.1
  by_cases hx0 : x < 0
  · refine ⟨0, σ, σ, ?_, ?_, g, gT, gP, st, H.nop⟩
    · unfold f_X11_glass; rw [if_pos hx0]
    · unfold f_X12_glass; rw [in_9999, if_pos (.inl hx0)]; rfl
  by_cases hx9 : (9999 : Int32) < x
  · refine ⟨0, σ, σ, ?_, ?_, g, gT, gP, st, H.nop⟩
    · unfold f_X11_glass; rw [if_neg hx0, if_pos hx9]
    · unfold f_X12_glass; rw [in_9999, if_pos (.inr hx9)]; rfl
  have hin : ¬ (x < 0 ∨ 9999 < x) := fun z => z.elim hx0 hx9
  obtain ⟨s, hs, rfl⟩ := nn_of hx0
  by_cases h0 : gSz g = 0
  · refine ⟨0, σ, σ, ?_, ?_, g, gT, gP, st, H.nop⟩
    · show f_X11_glass (xw σ (xI σ)) 1 (nI s) = _
      unfold f_X11_glass
      simp (disch := first | assumption | omega) only [Option.bind_some, Option.map_some, xw_gR, xw_gN, xw_al, xw_ck, xw_uI, xw_ur, xup_at, xur_at, if_true, if_false, reduceIte, and_true, true_and, and_false, false_and, not_true_eq_false, not_false_eq_true, Nat.reduceEqDiff, eq_self, Nat.reduceAdd, Nat.reduceMul, kC1, kG1, kP1, kR1_0, kR1_1, kR1_2, kR1_3, kR1_4, kR1_5, kR1_6, kR1_7, kR1_8, kR1_9, kR1_10, kR1_11, kR1_12, kR1_13, kC2, kG2, kP2, kR2_0, kR2_1, kC3, kG3, kP3, kR3_0, kR3_1, kR3_2, kR3_3, kL4, kA4, kS4, kL5, kA5, kS5, kL6, kA6, kS6, kL7, kA7, kS7, kC8, kG8, kP8, kR8_0, kR8_1, kL9, kA9, kS9, kL10, kA10, kS10, kC11, kG11, kP11, kR11_0, kR11_1, kR11_2, kR11_3, kL12, kA12, kS12, kL13, kA13, kS13, kL14, kA14, kS14, kL15, kA15, kS15, kC16, kG16, kP16, kR16_0, kR16_1, kL17, kA17, kS17, kL18, kA18, kS18, kC19, kG19, kP19, kR19_0, kL20, kL141, kL146, kA146, kS146, kL151, kA151, kS151, kL156, kA156, kS156, kC157, kG157, kP157, kR157_0, kR157_1, kL158, kA158, kS158, kL159, kA159, kS159, kC161, kG161, kP161, kR161_0, kR161_1, kL162, kA162, kS162, kL163, kA163, kS163, kC165, kG165, kP165, kR165_0, kR165_1, kR165_2, kR165_3, kL166, kA166, kS166, kL167, kA167, kS167, kL168, kA168, kS168, kL169, kA169, kS169, kC170, kG170, kP170, kR170_0, kR170_1, kR170_2, kL171, kA171, kS171, kL172, kA172, kS172, kL173, kA173, kS173, kC174, kG174, kP174, kR174_0, kR174_1, kR174_2, kR174_3, kR174_4, kL175, kA175, kS175, kL176, kA176, kS176, kL177, kA177, kS177, kL178, kA178, kS178, kL179, kC180, kG180, kP180, kL181, kL182, kA182, kS182, kC183, kG183, kP183, kR183_1, kR183_3, kR183_5, kR183_6, kR183_7, kR183_8, kR183_9, kR183_21, kR183_26, kR183_27, kR183_30, kR183_31, kR183_33, kR183_34, kR183_36, kR183_37, kR183_38, kR183_39, kR183_40, kR183_41, kR183_42, kR183_43, kR183_44, kL184, kA184, kS184, kL185, kA185, kS185, kL186, kA186, kS186, kL187, kA187, kS187, kL188, kA188, kS188, kL189, kL190, kL191, kA191, kS191, kL192, kA192, kS192, kL193, kA193, kS193, kL194, kA194, kS194, kL195, kA195, kS195, kL196, kA196, kS196, kL197, kA197, kS197, kL198, kA198, kS198, kL199, kA199, kS199, kL200, kA200, kS200, kL201, kL202, kA202, kS202, kL203, kA203, kS203, kL204, kA204, kS204, kL205, kL206, kA206, kS206, hx0, hx9, hG.2.2.2.2.1, h0, show (nI 0 = 0) = True from eq_true rfl]
      rfl
    · show f_X12_glass (xw σ (xI σ)) 183 (nI s) = _
      unfold f_X12_glass
      simp (disch := first | assumption | omega) only [Option.bind_some, Option.map_some, xw_gR, xw_gN, xw_al, xw_ck, xw_uI, xw_ur, xup_at, xur_at, if_true, if_false, reduceIte, and_true, true_and, and_false, false_and, not_true_eq_false, not_false_eq_true, Nat.reduceEqDiff, eq_self, Nat.reduceAdd, Nat.reduceMul, kC1, kG1, kP1, kR1_0, kR1_1, kR1_2, kR1_3, kR1_4, kR1_5, kR1_6, kR1_7, kR1_8, kR1_9, kR1_10, kR1_11, kR1_12, kR1_13, kC2, kG2, kP2, kR2_0, kR2_1, kC3, kG3, kP3, kR3_0, kR3_1, kR3_2, kR3_3, kL4, kA4, kS4, kL5, kA5, kS5, kL6, kA6, kS6, kL7, kA7, kS7, kC8, kG8, kP8, kR8_0, kR8_1, kL9, kA9, kS9, kL10, kA10, kS10, kC11, kG11, kP11, kR11_0, kR11_1, kR11_2, kR11_3, kL12, kA12, kS12, kL13, kA13, kS13, kL14, kA14, kS14, kL15, kA15, kS15, kC16, kG16, kP16, kR16_0, kR16_1, kL17, kA17, kS17, kL18, kA18, kS18, kC19, kG19, kP19, kR19_0, kL20, kL141, kL146, kA146, kS146, kL151, kA151, kS151, kL156, kA156, kS156, kC157, kG157, kP157, kR157_0, kR157_1, kL158, kA158, kS158, kL159, kA159, kS159, kC161, kG161, kP161, kR161_0, kR161_1, kL162, kA162, kS162, kL163, kA163, kS163, kC165, kG165, kP165, kR165_0, kR165_1, kR165_2, kR165_3, kL166, kA166, kS166, kL167, kA167, kS167, kL168, kA168, kS168, kL169, kA169, kS169, kC170, kG170, kP170, kR170_0, kR170_1, kR170_2, kL171, kA171, kS171, kL172, kA172, kS172, kL173, kA173, kS173, kC174, kG174, kP174, kR174_0, kR174_1, kR174_2, kR174_3, kR174_4, kL175, kA175, kS175, kL176, kA176, kS176, kL177, kA177, kS177, kL178, kA178, kS178, kL179, kC180, kG180, kP180, kL181, kL182, kA182, kS182, kC183, kG183, kP183, kR183_1, kR183_3, kR183_5, kR183_6, kR183_7, kR183_8, kR183_9, kR183_21, kR183_26, kR183_27, kR183_30, kR183_31, kR183_33, kR183_34, kR183_36, kR183_37, kR183_38, kR183_39, kR183_40, kR183_41, kR183_42, kR183_43, kR183_44, kL184, kA184, kS184, kL185, kA185, kS185, kL186, kA186, kS186, kL187, kA187, kS187, kL188, kA188, kS188, kL189, kL190, kL191, kA191, kS191, kL192, kA192, kS192, kL193, kA193, kS193, kL194, kA194, kS194, kL195, kA195, kS195, kL196, kA196, kS196, kL197, kA197, kS197, kL198, kA198, kS198, kL199, kA199, kS199, kL200, kA200, kS200, kL201, kL202, kA202, kS202, kL203, kA203, kS203, kL204, kA204, kS204, kL205, kL206, kA206, kS206, in_9999, hin, one0, sites_ok hS hG, h0, show (nI 0 = 0) = True from eq_true rfl]
      rfl
  have hn0 : (nI (gSz g) = 0) = False := eq_false (nI_ne0 (by omega) (by omega))
  obtain ⟨q, nx, ea, hq, hnx, hea, p1, p2, p3, p4, p8⟩ := H.pst
  have hG1 : GRD (kpI (xI σ) nx q) g := GRD_c (fun a k z => kpI_out (by unfold sGRD at z; omega) (by unfold sGRD at z; omega)) hG
  obtain ⟨J, hJ⟩ : ∃ J, J = xup (xup (xup (glI g s (kpI (xI σ) nx q) 17 32) 1 15 (nI (st + 1))) 16 6 (nI (st + 1))) 16 7 (nI (st + 1)) := ⟨_, rfl⟩
  have uJ : ∀ a k, ¬ ((16 ≤ a ∧ a ≤ 18) ∨ (a = 1 ∧ k = 15)) → J a k = kpI (xI σ) nx q a k := by
    intro a k h
    rw [hJ, xup_at, if_neg (by omega), xup_at, if_neg (by omega), xup_at, if_neg (by omega), glI_out (by omega)]
  have mo : ∀ a k, ¬ (a = 193 ∨ (a = 183 ∧ (k = 28 ∨ k = 29 ∨ k = 32)) ∨ a = 191) → xup (glI g s (mkI J ea q) 191 32) 183 32 0 a k = J a k := by
    intro a k h
    rw [xup_at, if_neg (by omega), glI_out (by omega), mkI_out (by omega) (by omega)]
  have hG2 : GRD J g := GRD_c (fun a k z => uJ a k (by unfold sGRD at z; omega)) hG1
  have hG3 : GRD (mkI J ea q) g := GRD_c (fun a k z => mkI_out (by unfold sGRD at z; omega) (by unfold sGRD at z; omega)) hG2
  refine ⟨1, xw σ J, xw σ (xup (glI g s (mkI J ea q) 191 32) 183 32 0), ?_, ?_, ?_⟩
  · show f_X11_glass (xw σ (xI σ)) 1 (nI s) = _
    unfold f_X11_glass
    simp (disch := first | assumption | omega) only [Option.bind_some, Option.map_some, xw_gR, xw_gN, xw_al, xw_ck, xw_uI, xw_ur, xup_at, xur_at, if_true, if_false, reduceIte, and_true, true_and, and_false, false_and, not_true_eq_false, not_false_eq_true, Nat.reduceEqDiff, eq_self, Nat.reduceAdd, Nat.reduceMul, kC1, kG1, kP1, kR1_0, kR1_1, kR1_2, kR1_3, kR1_4, kR1_5, kR1_6, kR1_7, kR1_8, kR1_9, kR1_10, kR1_11, kR1_12, kR1_13, kC2, kG2, kP2, kR2_0, kR2_1, kC3, kG3, kP3, kR3_0, kR3_1, kR3_2, kR3_3, kL4, kA4, kS4, kL5, kA5, kS5, kL6, kA6, kS6, kL7, kA7, kS7, kC8, kG8, kP8, kR8_0, kR8_1, kL9, kA9, kS9, kL10, kA10, kS10, kC11, kG11, kP11, kR11_0, kR11_1, kR11_2, kR11_3, kL12, kA12, kS12, kL13, kA13, kS13, kL14, kA14, kS14, kL15, kA15, kS15, kC16, kG16, kP16, kR16_0, kR16_1, kL17, kA17, kS17, kL18, kA18, kS18, kC19, kG19, kP19, kR19_0, kL20, kL141, kL146, kA146, kS146, kL151, kA151, kS151, kL156, kA156, kS156, kC157, kG157, kP157, kR157_0, kR157_1, kL158, kA158, kS158, kL159, kA159, kS159, kC161, kG161, kP161, kR161_0, kR161_1, kL162, kA162, kS162, kL163, kA163, kS163, kC165, kG165, kP165, kR165_0, kR165_1, kR165_2, kR165_3, kL166, kA166, kS166, kL167, kA167, kS167, kL168, kA168, kS168, kL169, kA169, kS169, kC170, kG170, kP170, kR170_0, kR170_1, kR170_2, kL171, kA171, kS171, kL172, kA172, kS172, kL173, kA173, kS173, kC174, kG174, kP174, kR174_0, kR174_1, kR174_2, kR174_3, kR174_4, kL175, kA175, kS175, kL176, kA176, kS176, kL177, kA177, kS177, kL178, kA178, kS178, kL179, kC180, kG180, kP180, kL181, kL182, kA182, kS182, kC183, kG183, kP183, kR183_1, kR183_3, kR183_5, kR183_6, kR183_7, kR183_8, kR183_9, kR183_21, kR183_26, kR183_27, kR183_30, kR183_31, kR183_33, kR183_34, kR183_36, kR183_37, kR183_38, kR183_39, kR183_40, kR183_41, kR183_42, kR183_43, kR183_44, kL184, kA184, kS184, kL185, kA185, kS185, kL186, kA186, kS186, kL187, kA187, kS187, kL188, kA188, kS188, kL189, kL190, kL191, kA191, kS191, kL192, kA192, kS192, kL193, kA193, kS193, kL194, kA194, kS194, kL195, kA195, kS195, kL196, kA196, kS196, kL197, kA197, kS197, kL198, kA198, kS198, kL199, kA199, kS199, kL200, kA200, kS200, kL201, kL202, kA202, kS202, kL203, kA203, kS203, kL204, kA204, kS204, kL205, kL206, kA206, kS206, hx0, hx9, hG.2.2.2.2.1, hn0, keep_ok hS hnx hq p1 p2, nI_i64]
    rw [glass11_l (st := st) hS hG1 hs (by rw [kpI_out (by omega) (by omega)]; exact H.sts), hJ]
  · unfold f_X12_glass
    have m1 : f_X12_marks (xw σ J) 183 = _ := marks_ok (ea := ea) (q := q) hS hea hq (by rw [uJ _ _ (by omega), kpI_out (by omega) (by omega)]; exact p3) (by rw [uJ _ _ (by omega), kpI_out (by omega) (by omega)]; exact p4)
    simp (disch := first | assumption | omega) only [Option.bind_some, Option.map_some, xw_gR, xw_gN, xw_al, xw_ck, xw_uI, xw_ur, xup_at, xur_at, if_true, if_false, reduceIte, and_true, true_and, and_false, false_and, not_true_eq_false, not_false_eq_true, Nat.reduceEqDiff, eq_self, Nat.reduceAdd, Nat.reduceMul, kC1, kG1, kP1, kR1_0, kR1_1, kR1_2, kR1_3, kR1_4, kR1_5, kR1_6, kR1_7, kR1_8, kR1_9, kR1_10, kR1_11, kR1_12, kR1_13, kC2, kG2, kP2, kR2_0, kR2_1, kC3, kG3, kP3, kR3_0, kR3_1, kR3_2, kR3_3, kL4, kA4, kS4, kL5, kA5, kS5, kL6, kA6, kS6, kL7, kA7, kS7, kC8, kG8, kP8, kR8_0, kR8_1, kL9, kA9, kS9, kL10, kA10, kS10, kC11, kG11, kP11, kR11_0, kR11_1, kR11_2, kR11_3, kL12, kA12, kS12, kL13, kA13, kS13, kL14, kA14, kS14, kL15, kA15, kS15, kC16, kG16, kP16, kR16_0, kR16_1, kL17, kA17, kS17, kL18, kA18, kS18, kC19, kG19, kP19, kR19_0, kL20, kL141, kL146, kA146, kS146, kL151, kA151, kS151, kL156, kA156, kS156, kC157, kG157, kP157, kR157_0, kR157_1, kL158, kA158, kS158, kL159, kA159, kS159, kC161, kG161, kP161, kR161_0, kR161_1, kL162, kA162, kS162, kL163, kA163, kS163, kC165, kG165, kP165, kR165_0, kR165_1, kR165_2, kR165_3, kL166, kA166, kS166, kL167, kA167, kS167, kL168, kA168, kS168, kL169, kA169, kS169, kC170, kG170, kP170, kR170_0, kR170_1, kR170_2, kL171, kA171, kS171, kL172, kA172, kS172, kL173, kA173, kS173, kC174, kG174, kP174, kR174_0, kR174_1, kR174_2, kR174_3, kR174_4, kL175, kA175, kS175, kL176, kA176, kS176, kL177, kA177, kS177, kL178, kA178, kS178, kL179, kC180, kG180, kP180, kL181, kL182, kA182, kS182, kC183, kG183, kP183, kR183_1, kR183_3, kR183_5, kR183_6, kR183_7, kR183_8, kR183_9, kR183_21, kR183_26, kR183_27, kR183_30, kR183_31, kR183_33, kR183_34, kR183_36, kR183_37, kR183_38, kR183_39, kR183_40, kR183_41, kR183_42, kR183_43, kR183_44, kL184, kA184, kS184, kL185, kA185, kS185, kL186, kA186, kS186, kL187, kA187, kS187, kL188, kA188, kS188, kL189, kL190, kL191, kA191, kS191, kL192, kA192, kS192, kL193, kA193, kS193, kL194, kA194, kS194, kL195, kA195, kS195, kL196, kA196, kS196, kL197, kA197, kS197, kL198, kA198, kS198, kL199, kA199, kS199, kL200, kA200, kS200, kL201, kL202, kA202, kS202, kL203, kA203, kS203, kL204, kA204, kS204, kL205, kL206, kA206, kS206, in_9999, hin, one0, sites_ok hS hG2, hn0, m1, nI_i64]
    exact glass12_l hS hG3 (by omega) hs
  · have r191 : ∀ k, xup (glI g s (mkI J ea q) 191 32) 183 32 0 191 k = if k < 32 ∧ gTo g k ≠ none then gLv g s k else xI σ 191 k := by
      intro k
      rw [xup_at, if_neg (by omega)]
      unfold glI
      simp only [true_and]
      split
      · rfl
      · rw [mkI_out (by omega) (by omega), uJ _ _ (by omega), kpI_out (by omega) (by omega)]
    refine INV_i (H.hand hq hnx hea p3 p8 (I2 := J) uJ ?_ (Nat.le_succ _) (Nat.succ_le_succ H.stn) (fun t ht => gUp_old (by omega)) (fun t ht => gUp_old (by omega)) ?_ (LV_glass (I := xI σ) hG.1 H.now ?_ ?_ ?_ ?_ ?_ ?_ ?_) (.inl ?_))
    · intro a k h; rw [xup_at, if_neg (by omega), glI_out (by omega)]
    · rw [mo _ _ (by omega), hJ, xup_at, if_neg (by omega), xup_at, if_neg (by omega), xup_at, if_pos ⟨rfl, rfl⟩]
    · intro k hk
      rw [mo _ _ (by omega), hJ, xup_at, if_neg (by omega), xup_at, if_neg (by omega), xup_at, if_neg (by omega), glI_out (by omega), kpI_out (by omega) (by omega)]
    · rw [mo _ _ (by omega), hJ, xup_at, if_neg (by omega), xup_at, if_pos ⟨rfl, rfl⟩]
    · rw [mo _ _ (by omega), hJ, xup_at, if_pos ⟨rfl, rfl⟩]
    · intro t ht
      rw [mo _ _ (by omega), r191, hJ, xup_at, if_neg (by omega), xup_at, if_neg (by omega), xup_at, if_neg (by omega)]
      unfold glI
      cases he : gTo g t with
      | none =>
        simp
        exact kpI_out (by omega) (by omega)
      | some e => simp [ht]
    · intro k hk
      rw [mo _ _ (by omega), hJ, xup_at, if_neg (by omega), xup_at, if_neg (by omega), xup_at, if_neg (by omega), glI_out (by omega), kpI_out (by omega) (by omega)]
    · intro t ht
      rw [r191]
      split
      · exact gLv_b _ _ _
      · exact H.now.2.1.1 t (by omega)
    · intro k hk
      rw [r191, if_neg (by omega)]
    · rw [xup_at, if_pos ⟨rfl, rfl⟩]
end
section
/-! the model's energy of a state -/
theorem bI_eq (a b : Bool) : (nI (if a then 1 else 0) = nI (if b then 1 else 0)) = (a = b) := by cases a <;> cases b <;> decide
theorem bI_1 (a : Bool) : (nI (if a then 1 else 0) = 1) = (a = true) := by cases a <;> decide
theorem bI_0 (a : Bool) : (nI (if a then 1 else 0) = 0) = (a = false) := by cases a <;> decide
theorem gRow1 : ∀ g ∈ gAll, ∀ r, r < 17 → r ≤ g.2.1 → ∀ i, i < 16 → i < g.1 * r → (gTo g i).all (fun e => decide (e < g.1 * r)) = true := by decide +kernel
theorem gRow2 : ∀ g ∈ gAll, ∀ r, r < 17 → r ≤ g.2.1 → ∀ i, i < 16 → i < g.1 * r → (gTo g (i + 16)).all (fun e => decide ((if e ≤ i then r = g.2.1 else e < g.1 * r) ↔ e < g.1 * r)) = true := by decide +kernel
theorem gRow3 : ∀ g ∈ gAll, ∀ r, r < 17 → r ≤ g.2.1 → g.1 * r ≤ gSz g := by decide +kernel
theorem fb_si_z {f : Nat → Int} {k n : Nat} (hk : k ≤ n) (h : ∀ i, k ≤ i → i < n → f i = 0) : fb_si f n = fb_si f k := by
  have := fb_si_split f k (n - k)
  rw [show k + (n - k) = n by omega] at this
  rw [this]
  have z : fb_si (fun i => f (k + i)) (n - k) = fb_si (fun _ => 0) (n - k) := fb_si_cong (fun i hi => h (k + i) (by omega) (by omega))
  have z2 : ∀ m, fb_si (fun _ => 0) m = 0 := by
    intro m
    induction m with
    | zero => rfl
    | succ m ih => rw [fb_si_succ, ih]; rfl
  rw [z, z2]; omega
/-- a site's part of the energy of the first k sites -/
def eS (g : GD) (F : Nat → Int) (k s i : Nat) : Int := eH F s i + (if gIn g k i then eT g F s i else 0) + (if gIn g k (i + 16) then eT g F s (i + 16) else 0)
theorem eS_sum {g : GD} {F : Nat → Int} {k s : Nat} (hk : k ≤ 16) : fb_si (eS g F k s) k = eP g F k s := by
  have hin : ∀ t, t < 32 → k ≤ gFr t → gIn g k t = false := by
    intro t ht h
    unfold gIn
    split
    · rfl
    · have : ¬ gFr t < k := by omega
      simp [this]
  have h1 : fb_si (fun t => if gIn g k t then eT g F s t else 0) 32 = fb_si (fun i => if gIn g k i then eT g F s i else 0) k + fb_si (fun i => if gIn g k (i + 16) then eT g F s (i + 16) else 0) k := by
    rw [show (32 : Nat) = 16 + 16 from rfl, fb_si_split]
    congr 1
    · refine fb_si_z hk (fun i h1 h2 => ?_)
      rw [hin i (by omega) (by unfold gFr; rw [if_pos h2]; exact h1)]
      rfl
    · have e : fb_si (fun i => if gIn g k (16 + i) then eT g F s (16 + i) else 0) 16 = fb_si (fun i => if gIn g k (i + 16) then eT g F s (i + 16) else 0) 16 := fb_si_cong (fun i _ => by rw [Nat.add_comm])
      rw [e]
      refine fb_si_z hk (fun i h1 h2 => ?_)
      rw [hin (i + 16) (by omega) (by unfold gFr; rw [if_neg (by omega)]; omega)]
      rfl
  unfold eP
  rw [h1]
  have e : eS g F k s = fun i => (fun i => (fun i => eH F s i) i + (fun i => if gIn g k i then eT g F s i else 0) i) i + (fun i => if gIn g k (i + 16) then eT g F s (i + 16) else 0) i := rfl
  rw [e, fb_si_add, fb_si_add]
  have e2 : fb_si (fun i => eH F s i) k = fb_si (eH F s) k := rfl
  omega
section MENERGY
variable {σ : XS} {I : Nat → Nat → Int32} {g : GD} {a : Nat}
theorem en143 (hS : Shp σ) (hG : GRD I g) (ha : σ.1 a = (20, 66)) {s r i e : Nat} (z : Int) (hs : s < 2147483648) (hi : i < gSz g) (he : gTo g (i + 16) = some e) :
    f_X12_energy_j143 (xw σ I) 183 a (nI s) (nI r) (iI z) (nI i) (nI (if s.testBit i then 1 else 0)) (nI e) = some (.inl (iI (z + eT g (zR (I a)) s (i + 16)), nI (i + 1))) := by
  have h16 := (gAll_b g hG.1).2.2.1
  have heb := gTo_b g hG.1 (i + 16) (by omega) e he
  unfold f_X12_energy_j143
  have hf : gFr (i + 16) = i := by unfold gFr; rw [if_neg (by omega)]; omega
  have hv : I a (i + 16) = iI (zR (I a) (i + 16)) := iI_of _
  rw [nn_bit hs (by omega), show (16 : Int32) = nI 16 from rfl, nn_add, xw_aI ha (by omega) (by decide), Option.bind_some, Option.bind_some, show (1 : Int32) = nI 1 from rfl, nn_add, Nat.add_comm 16 i, hv, iI_neg, iI_add, iI_add]
  unfold eT
  rw [he, hf]
  simp only [bI_eq]
  by_cases h : s.testBit e = s.testBit i
  · rw [if_pos h, if_pos h.symm]
  · rw [if_neg h, if_neg (fun q => h q.symm)]
theorem en100 (hS : Shp σ) (hG : GRD I g) (ha : σ.1 a = (20, 66)) {s r i : Nat} (z : Int) (hs : s < 2147483648) (hr : r ≤ g.2.1) (hi : i < g.1 * r) :
    f_X12_energy_j100 (xw σ I) 183 a (nI s) (nI r) (iI z) (nI i) (nI (if s.testBit i then 1 else 0)) = some (.inl (iI (z + if gIn g (g.1 * r) (i + 16) then eT g (zR (I a)) s (i + 16) else 0), nI (i + 1))) := by
  have hb := gAll_b g hG.1
  have hk := gRow3 g hG.1 r (by omega) hr
  have hi2 : i < gSz g := by omega
  unfold f_X12_energy_j100
  have ht := tieTo_ok (b := 1) hS hG (by decide) hi2
  rw [show nI 1 = (1 : Int32) from rfl, Nat.mul_one] at ht
  simp (disch := first | assumption | omega) only [Option.bind_some, Option.map_some, xw_gR, xw_gN, xw_al, xw_ck, xw_uI, xw_ur, xup_at, xur_at, if_true, if_false, reduceIte, and_true, true_and, and_false, false_and, not_true_eq_false, not_false_eq_true, Nat.reduceEqDiff, eq_self, Nat.reduceAdd, Nat.reduceMul, kC1, kG1, kP1, kR1_0, kR1_1, kR1_2, kR1_3, kR1_4, kR1_5, kR1_6, kR1_7, kR1_8, kR1_9, kR1_10, kR1_11, kR1_12, kR1_13, kC2, kG2, kP2, kR2_0, kR2_1, kC3, kG3, kP3, kR3_0, kR3_1, kR3_2, kR3_3, kL4, kA4, kS4, kL5, kA5, kS5, kL6, kA6, kS6, kL7, kA7, kS7, kC8, kG8, kP8, kR8_0, kR8_1, kL9, kA9, kS9, kL10, kA10, kS10, kC11, kG11, kP11, kR11_0, kR11_1, kR11_2, kR11_3, kL12, kA12, kS12, kL13, kA13, kS13, kL14, kA14, kS14, kL15, kA15, kS15, kC16, kG16, kP16, kR16_0, kR16_1, kL17, kA17, kS17, kL18, kA18, kS18, kC19, kG19, kP19, kR19_0, kL20, kL141, kL146, kA146, kS146, kL151, kA151, kS151, kL156, kA156, kS156, kC157, kG157, kP157, kR157_0, kR157_1, kL158, kA158, kS158, kL159, kA159, kS159, kC161, kG161, kP161, kR161_0, kR161_1, kL162, kA162, kS162, kL163, kA163, kS163, kC165, kG165, kP165, kR165_0, kR165_1, kR165_2, kR165_3, kL166, kA166, kS166, kL167, kA167, kS167, kL168, kA168, kS168, kL169, kA169, kS169, kC170, kG170, kP170, kR170_0, kR170_1, kR170_2, kL171, kA171, kS171, kL172, kA172, kS172, kL173, kA173, kS173, kC174, kG174, kP174, kR174_0, kR174_1, kR174_2, kR174_3, kR174_4, kL175, kA175, kS175, kL176, kA176, kS176, kL177, kA177, kS177, kL178, kA178, kS178, kL179, kC180, kG180, kP180, kL181, kL182, kA182, kS182, kC183, kG183, kP183, kR183_1, kR183_3, kR183_5, kR183_6, kR183_7, kR183_8, kR183_9, kR183_21, kR183_26, kR183_27, kR183_30, kR183_31, kR183_33, kR183_34, kR183_36, kR183_37, kR183_38, kR183_39, kR183_40, kR183_41, kR183_42, kR183_43, kR183_44, kL184, kA184, kS184, kL185, kA185, kS185, kL186, kA186, kS186, kL187, kA187, kS187, kL188, kA188, kS188, kL189, kL190, kL191, kA191, kS191, kL192, kA192, kS192, kL193, kA193, kS193, kL194, kA194, kS194, kL195, kA195, kS195, kL196, kA196, kS196, kL197, kA197, kS197, kL198, kA198, kS198, kL199, kA199, kS199, kL200, kA200, kS200, kL201, kL202, kA202, kS202, kL203, kA203, kS203, kL204, kA204, kS204, kL205, kL206, kA206, kS206, ht]
  cases he : gTo g (i + 16) with
  | none =>
    have e1 : oI none < 0 := by decide
    have e2 : gIn g (g.1 * r) (i + 16) = false := by unfold gIn; rw [he]
    rw [if_pos e1, e2, show (1 : Int32) = nI 1 from rfl, nn_add]
    simp
  | some e =>
    have heb := gTo_b g hG.1 (i + 16) (by omega) e he
    have hf : gFr (i + 16) = i := by unfold gFr; rw [if_neg (by omega)]; omega
    have q := gRow2 g hG.1 r (by omega) hr i (by omega) hi
    rw [he] at q
    have q := of_decide_eq_true q
    have e2 : gIn g (g.1 * r) (i + 16) = decide (e < g.1 * r) := by
      unfold gIn
      rw [he, hf]
      simp [hi]
    have e3 : ¬ oI (some e) < 0 := nI_pos (by omega)
    rw [if_neg e3, e2]
    simp (disch := first | assumption | omega) only [Option.bind_some, Option.map_some, xw_gR, xw_gN, xw_al, xw_ck, xw_uI, xw_ur, xup_at, xur_at, if_true, if_false, reduceIte, and_true, true_and, and_false, false_and, not_true_eq_false, not_false_eq_true, Nat.reduceEqDiff, eq_self, Nat.reduceAdd, Nat.reduceMul, kC1, kG1, kP1, kR1_0, kR1_1, kR1_2, kR1_3, kR1_4, kR1_5, kR1_6, kR1_7, kR1_8, kR1_9, kR1_10, kR1_11, kR1_12, kR1_13, kC2, kG2, kP2, kR2_0, kR2_1, kC3, kG3, kP3, kR3_0, kR3_1, kR3_2, kR3_3, kL4, kA4, kS4, kL5, kA5, kS5, kL6, kA6, kS6, kL7, kA7, kS7, kC8, kG8, kP8, kR8_0, kR8_1, kL9, kA9, kS9, kL10, kA10, kS10, kC11, kG11, kP11, kR11_0, kR11_1, kR11_2, kR11_3, kL12, kA12, kS12, kL13, kA13, kS13, kL14, kA14, kS14, kL15, kA15, kS15, kC16, kG16, kP16, kR16_0, kR16_1, kL17, kA17, kS17, kL18, kA18, kS18, kC19, kG19, kP19, kR19_0, kL20, kL141, kL146, kA146, kS146, kL151, kA151, kS151, kL156, kA156, kS156, kC157, kG157, kP157, kR157_0, kR157_1, kL158, kA158, kS158, kL159, kA159, kS159, kC161, kG161, kP161, kR161_0, kR161_1, kL162, kA162, kS162, kL163, kA163, kS163, kC165, kG165, kP165, kR165_0, kR165_1, kR165_2, kR165_3, kL166, kA166, kS166, kL167, kA167, kS167, kL168, kA168, kS168, kL169, kA169, kS169, kC170, kG170, kP170, kR170_0, kR170_1, kR170_2, kL171, kA171, kS171, kL172, kA172, kS172, kL173, kA173, kS173, kC174, kG174, kP174, kR174_0, kR174_1, kR174_2, kR174_3, kR174_4, kL175, kA175, kS175, kL176, kA176, kS176, kL177, kA177, kS177, kL178, kA178, kS178, kL179, kC180, kG180, kP180, kL181, kL182, kA182, kS182, kC183, kG183, kP183, kR183_1, kR183_3, kR183_5, kR183_6, kR183_7, kR183_8, kR183_9, kR183_21, kR183_26, kR183_27, kR183_30, kR183_31, kR183_33, kR183_34, kR183_36, kR183_37, kR183_38, kR183_39, kR183_40, kR183_41, kR183_42, kR183_43, kR183_44, kL184, kA184, kS184, kL185, kA185, kS185, kL186, kA186, kS186, kL187, kA187, kS187, kL188, kA188, kS188, kL189, kL190, kL191, kA191, kS191, kL192, kA192, kS192, kL193, kA193, kS193, kL194, kA194, kS194, kL195, kA195, kS195, kL196, kA196, kS196, kL197, kA197, kS197, kL198, kA198, kS198, kL199, kA199, kS199, kL200, kA200, kS200, kL201, kL202, kA202, kS202, kL203, kA203, kS203, kL204, kA204, kS204, kL205, kL206, kA206, kS206, oI, nn_le, hG.2.2.2.2.2.2.2.2.1, hG.2.2.2.2.2.2.2.2.2.1, nn_mul, nn_eq]
    by_cases h1 : e ≤ i
    · rw [if_pos h1] at q ⊢
      by_cases h2 : r = g.2.1
      · have h3 := q.mp h2
        rw [if_pos h2, en143 hS hG ha z hs hi2 he]
        simp [h3]
      · have h3 : ¬ e < g.1 * r := fun w => h2 (q.mpr w)
        rw [if_neg h2, show (1 : Int32) = nI 1 from rfl, nn_add]
        simp [h3]
    · rw [if_neg h1]
      by_cases h2 : g.1 * r ≤ e
      · have h3 : ¬ e < g.1 * r := by omega
        rw [if_pos h2, show (1 : Int32) = nI 1 from rfl, nn_add]
        simp [h3]
      · have h3 : e < g.1 * r := by omega
        rw [if_neg h2, en143 hS hG ha z hs hi2 he]
        simp [h3]
theorem en51 (hS : Shp σ) (hG : GRD I g) (ha : σ.1 a = (20, 66)) {s r i : Nat} (z y : Int) (hs : s < 2147483648) (hr : r ≤ g.2.1) (hi : i < g.1 * r) :
    f_X12_energy_j51 (xw σ I) 183 a (nI s) (nI r) (nI i) (nI (if s.testBit i then 1 else 0)) (iI z) (iI y) = some (.inl (iI (z + y + (if gIn g (g.1 * r) i then eT g (zR (I a)) s i else 0) + if gIn g (g.1 * r) (i + 16) then eT g (zR (I a)) s (i + 16) else 0), nI (i + 1))) := by
  have hb := gAll_b g hG.1
  have hk := gRow3 g hG.1 r (by omega) hr
  have hi2 : i < gSz g := by omega
  unfold f_X12_energy_j51
  have ht := tieTo_ok (b := 0) hS hG (by decide) hi2
  rw [show nI 0 = (0 : Int32) from rfl, Nat.mul_zero, Nat.add_zero] at ht
  simp (disch := first | assumption | omega) only [Option.bind_some, Option.map_some, xw_gR, xw_gN, xw_al, xw_ck, xw_uI, xw_ur, xup_at, xur_at, if_true, if_false, reduceIte, and_true, true_and, and_false, false_and, not_true_eq_false, not_false_eq_true, Nat.reduceEqDiff, eq_self, Nat.reduceAdd, Nat.reduceMul, kC1, kG1, kP1, kR1_0, kR1_1, kR1_2, kR1_3, kR1_4, kR1_5, kR1_6, kR1_7, kR1_8, kR1_9, kR1_10, kR1_11, kR1_12, kR1_13, kC2, kG2, kP2, kR2_0, kR2_1, kC3, kG3, kP3, kR3_0, kR3_1, kR3_2, kR3_3, kL4, kA4, kS4, kL5, kA5, kS5, kL6, kA6, kS6, kL7, kA7, kS7, kC8, kG8, kP8, kR8_0, kR8_1, kL9, kA9, kS9, kL10, kA10, kS10, kC11, kG11, kP11, kR11_0, kR11_1, kR11_2, kR11_3, kL12, kA12, kS12, kL13, kA13, kS13, kL14, kA14, kS14, kL15, kA15, kS15, kC16, kG16, kP16, kR16_0, kR16_1, kL17, kA17, kS17, kL18, kA18, kS18, kC19, kG19, kP19, kR19_0, kL20, kL141, kL146, kA146, kS146, kL151, kA151, kS151, kL156, kA156, kS156, kC157, kG157, kP157, kR157_0, kR157_1, kL158, kA158, kS158, kL159, kA159, kS159, kC161, kG161, kP161, kR161_0, kR161_1, kL162, kA162, kS162, kL163, kA163, kS163, kC165, kG165, kP165, kR165_0, kR165_1, kR165_2, kR165_3, kL166, kA166, kS166, kL167, kA167, kS167, kL168, kA168, kS168, kL169, kA169, kS169, kC170, kG170, kP170, kR170_0, kR170_1, kR170_2, kL171, kA171, kS171, kL172, kA172, kS172, kL173, kA173, kS173, kC174, kG174, kP174, kR174_0, kR174_1, kR174_2, kR174_3, kR174_4, kL175, kA175, kS175, kL176, kA176, kS176, kL177, kA177, kS177, kL178, kA178, kS178, kL179, kC180, kG180, kP180, kL181, kL182, kA182, kS182, kC183, kG183, kP183, kR183_1, kR183_3, kR183_5, kR183_6, kR183_7, kR183_8, kR183_9, kR183_21, kR183_26, kR183_27, kR183_30, kR183_31, kR183_33, kR183_34, kR183_36, kR183_37, kR183_38, kR183_39, kR183_40, kR183_41, kR183_42, kR183_43, kR183_44, kL184, kA184, kS184, kL185, kA185, kS185, kL186, kA186, kS186, kL187, kA187, kS187, kL188, kA188, kS188, kL189, kL190, kL191, kA191, kS191, kL192, kA192, kS192, kL193, kA193, kS193, kL194, kA194, kS194, kL195, kA195, kS195, kL196, kA196, kS196, kL197, kA197, kS197, kL198, kA198, kS198, kL199, kA199, kS199, kL200, kA200, kS200, kL201, kL202, kA202, kS202, kL203, kA203, kS203, kL204, kA204, kS204, kL205, kL206, kA206, kS206, ht]
  cases he : gTo g i with
  | none =>
    have e1 : oI none < 0 := by decide
    have e2 : gIn g (g.1 * r) i = false := by unfold gIn; rw [he]
    rw [if_pos e1, e2, iI_add, en100 hS hG ha _ hs hr hi]
    simp
  | some e =>
    have heb := gTo_b g hG.1 i (by omega) e he
    have hf : gFr i = i := by unfold gFr; rw [if_pos (by omega)]
    have q := gRow1 g hG.1 r (by omega) hr i (by omega) hi
    rw [he] at q
    have q : e < g.1 * r := of_decide_eq_true q
    have e2 : gIn g (g.1 * r) i = true := by
      unfold gIn
      rw [he, hf]
      simp [hi, q]
    have e3 : ¬ oI (some e) < 0 := nI_pos (by omega)
    have hv : I a i = iI (zR (I a) i) := iI_of _
    have e4 : eT g (zR (I a)) s i = if s.testBit e = s.testBit i then -zR (I a) i else zR (I a) i := by
      unfold eT
      rw [he, hf]
      dsimp only
      by_cases h : s.testBit e = s.testBit i
      · rw [if_pos h, if_pos h.symm]
      · rw [if_neg h, if_neg (fun q => h q.symm)]
    rw [if_neg e3, e2, e4]
    show (if nI s >>> (nI e &&& 31) &&& 1 = _ then _ else _) = _
    rw [nn_bit hs (by omega), show (0 : Int32) + nI i = nI i by rw [show (0 : Int32) = nI 0 from rfl, nn_add, Nat.zero_add], xw_aI ha (by omega) (by decide), Option.bind_some, Option.bind_some, hv, iI_neg, iI_add, iI_add, iI_add, en100 hS hG ha _ hs hr hi, en100 hS hG ha _ hs hr hi]
    simp only [bI_eq, if_true]
    by_cases h : s.testBit e = s.testBit i
    · rw [if_pos h, if_pos h]
    · rw [if_neg h, if_neg h]
theorem energy12_ok (hS : Shp σ) (hG : GRD I g) (ha : σ.1 a = (20, 66)) {s r : Nat} (hs : s < 2147483648) (hr : r ≤ g.2.1) : f_X12_energy (xw σ I) 183 a (nI s) (nI r) = some (iI (eP g (zR (I a)) (g.1 * r) s)) := by
  have hb := gAll_b g hG.1
  have hk := gRow3 g hG.1 r (by omega) hr
  unfold f_X12_energy
  rw [← eS_sum (by omega)]
  refine xforE (fun i : Nat => (iI (fb_si (eS g (zR (I a)) (g.1 * r) s) i), nI i)) (g.1 * r) rfl (fun i hi => ?_) ?_
  · simp only [f_X12_energy_b6]
    simp (disch := first | assumption | omega) only [Option.bind_some, Option.map_some, xw_gR, xw_gN, xw_al, xw_ck, xw_uI, xw_ur, xup_at, xur_at, if_true, if_false, reduceIte, and_true, true_and, and_false, false_and, not_true_eq_false, not_false_eq_true, Nat.reduceEqDiff, eq_self, Nat.reduceAdd, Nat.reduceMul, kC1, kG1, kP1, kR1_0, kR1_1, kR1_2, kR1_3, kR1_4, kR1_5, kR1_6, kR1_7, kR1_8, kR1_9, kR1_10, kR1_11, kR1_12, kR1_13, kC2, kG2, kP2, kR2_0, kR2_1, kC3, kG3, kP3, kR3_0, kR3_1, kR3_2, kR3_3, kL4, kA4, kS4, kL5, kA5, kS5, kL6, kA6, kS6, kL7, kA7, kS7, kC8, kG8, kP8, kR8_0, kR8_1, kL9, kA9, kS9, kL10, kA10, kS10, kC11, kG11, kP11, kR11_0, kR11_1, kR11_2, kR11_3, kL12, kA12, kS12, kL13, kA13, kS13, kL14, kA14, kS14, kL15, kA15, kS15, kC16, kG16, kP16, kR16_0, kR16_1, kL17, kA17, kS17, kL18, kA18, kS18, kC19, kG19, kP19, kR19_0, kL20, kL141, kL146, kA146, kS146, kL151, kA151, kS151, kL156, kA156, kS156, kC157, kG157, kP157, kR157_0, kR157_1, kL158, kA158, kS158, kL159, kA159, kS159, kC161, kG161, kP161, kR161_0, kR161_1, kL162, kA162, kS162, kL163, kA163, kS163, kC165, kG165, kP165, kR165_0, kR165_1, kR165_2, kR165_3, kL166, kA166, kS166, kL167, kA167, kS167, kL168, kA168, kS168, kL169, kA169, kS169, kC170, kG170, kP170, kR170_0, kR170_1, kR170_2, kL171, kA171, kS171, kL172, kA172, kS172, kL173, kA173, kS173, kC174, kG174, kP174, kR174_0, kR174_1, kR174_2, kR174_3, kR174_4, kL175, kA175, kS175, kL176, kA176, kS176, kL177, kA177, kS177, kL178, kA178, kS178, kL179, kC180, kG180, kP180, kL181, kL182, kA182, kS182, kC183, kG183, kP183, kR183_1, kR183_3, kR183_5, kR183_6, kR183_7, kR183_8, kR183_9, kR183_21, kR183_26, kR183_27, kR183_30, kR183_31, kR183_33, kR183_34, kR183_36, kR183_37, kR183_38, kR183_39, kR183_40, kR183_41, kR183_42, kR183_43, kR183_44, kL184, kA184, kS184, kL185, kA185, kS185, kL186, kA186, kS186, kL187, kA187, kS187, kL188, kA188, kS188, kL189, kL190, kL191, kA191, kS191, kL192, kA192, kS192, kL193, kA193, kS193, kL194, kA194, kS194, kL195, kA195, kS195, kL196, kA196, kS196, kL197, kA197, kS197, kL198, kA198, kS198, kL199, kA199, kS199, kL200, kA200, kS200, kL201, kL202, kA202, kS202, kL203, kA203, kS203, kL204, kA204, kS204, kL205, kL206, kA206, kS206, hG.2.2.2.2.2.2.2.2.1, nn_mul, nn_le, show ¬ (g.1 * r ≤ i) by omega]
    have hv : I a (32 + i) = iI (zR (I a) (32 + i)) := iI_of _
    rw [nn_bit hs (by omega), show (32 : Int32) = nI 32 from rfl, nn_add, xw_aI ha (by omega) (by decide), Option.bind_some, Option.bind_some, hv, iI_neg, en51 hS hG ha _ _ hs hr hi, en51 hS hG ha _ _ hs hr hi, fb_si_succ]
    simp only [bI_1]
    unfold eS eH
    by_cases h : s.testBit i = true
    · rw [if_pos h, if_pos h]
      congr 4; omega
    · rw [if_neg h, if_neg h]
      congr 4; omega
  · simp only [f_X12_energy_b6]
    simp (disch := first | assumption | omega) only [Option.bind_some, Option.map_some, xw_gR, xw_gN, xw_al, xw_ck, xw_uI, xw_ur, xup_at, xur_at, if_true, if_false, reduceIte, and_true, true_and, and_false, false_and, not_true_eq_false, not_false_eq_true, Nat.reduceEqDiff, eq_self, Nat.reduceAdd, Nat.reduceMul, kC1, kG1, kP1, kR1_0, kR1_1, kR1_2, kR1_3, kR1_4, kR1_5, kR1_6, kR1_7, kR1_8, kR1_9, kR1_10, kR1_11, kR1_12, kR1_13, kC2, kG2, kP2, kR2_0, kR2_1, kC3, kG3, kP3, kR3_0, kR3_1, kR3_2, kR3_3, kL4, kA4, kS4, kL5, kA5, kS5, kL6, kA6, kS6, kL7, kA7, kS7, kC8, kG8, kP8, kR8_0, kR8_1, kL9, kA9, kS9, kL10, kA10, kS10, kC11, kG11, kP11, kR11_0, kR11_1, kR11_2, kR11_3, kL12, kA12, kS12, kL13, kA13, kS13, kL14, kA14, kS14, kL15, kA15, kS15, kC16, kG16, kP16, kR16_0, kR16_1, kL17, kA17, kS17, kL18, kA18, kS18, kC19, kG19, kP19, kR19_0, kL20, kL141, kL146, kA146, kS146, kL151, kA151, kS151, kL156, kA156, kS156, kC157, kG157, kP157, kR157_0, kR157_1, kL158, kA158, kS158, kL159, kA159, kS159, kC161, kG161, kP161, kR161_0, kR161_1, kL162, kA162, kS162, kL163, kA163, kS163, kC165, kG165, kP165, kR165_0, kR165_1, kR165_2, kR165_3, kL166, kA166, kS166, kL167, kA167, kS167, kL168, kA168, kS168, kL169, kA169, kS169, kC170, kG170, kP170, kR170_0, kR170_1, kR170_2, kL171, kA171, kS171, kL172, kA172, kS172, kL173, kA173, kS173, kC174, kG174, kP174, kR174_0, kR174_1, kR174_2, kR174_3, kR174_4, kL175, kA175, kS175, kL176, kA176, kS176, kL177, kA177, kS177, kL178, kA178, kS178, kL179, kC180, kG180, kP180, kL181, kL182, kA182, kS182, kC183, kG183, kP183, kR183_1, kR183_3, kR183_5, kR183_6, kR183_7, kR183_8, kR183_9, kR183_21, kR183_26, kR183_27, kR183_30, kR183_31, kR183_33, kR183_34, kR183_36, kR183_37, kR183_38, kR183_39, kR183_40, kR183_41, kR183_42, kR183_43, kR183_44, kL184, kA184, kS184, kL185, kA185, kS185, kL186, kA186, kS186, kL187, kA187, kS187, kL188, kA188, kS188, kL189, kL190, kL191, kA191, kS191, kL192, kA192, kS192, kL193, kA193, kS193, kL194, kA194, kS194, kL195, kA195, kS195, kL196, kA196, kS196, kL197, kA197, kS197, kL198, kA198, kS198, kL199, kA199, kS199, kL200, kA200, kS200, kL201, kL202, kA202, kS202, kL203, kA203, kS203, kL204, kA204, kS204, kL205, kL206, kA206, kS206, hG.2.2.2.2.2.2.2.2.1, nn_mul, nn_le, Nat.le_refl]
end MENERGY
end
section
/-! the class's energy of a state, and what a turn costs -/
theorem lsum_get {α : Type} (f : α → Int) (d : α) : ∀ l : List α, fb_si (fun j => f (l.getD j d)) l.length = (l.map f).sum := by
  intro l
  induction l with
  | nil => rfl
  | cons x l ih =>
    rw [List.length_cons, Nat.add_comm, fb_si_split]
    have e : fb_si (fun k => f ((x :: l).getD (1 + k) d)) l.length = fb_si (fun j => f (l.getD j d)) l.length := fb_si_cong (fun k _ => by rw [Nat.add_comm 1 k]; rfl)
    rw [e, ih]
    simp [fb_si]
theorem lsum_flat {α : Type} (f : α → Int) (h : Nat → List α) : ∀ n, (((List.range n).flatMap h).map f).sum = fb_si (fun t => ((h t).map f).sum) n := by
  intro n
  induction n with
  | zero => rfl
  | succ n ih =>
    rw [List.range_succ, List.flatMap_append, List.map_append, List.sum_append, ih, fb_si_succ]
    simp
/-- how a site is pulled, what its turn costs -/
def ePl (g : GD) (F : Nat → Int) (s i : Nat) : Int := F (32 + i) + ((gMt g i).map (fun q => if s.testBit q.1 then F q.2 else -F q.2)).sum
def eC (g : GD) (F : Nat → Int) (s i : Nat) : Int := if s.testBit i then 2 * ePl g F s i else -2 * ePl g F s i
theorem eE_flip {g : GD} (hg : g ∈ gAll) (F : Nat → Int) {s i : Nat} (hi : i < gSz g) : eE g F (s ^^^ 2 ^ i) = eE g F s + eC g F s i := by
  have hb : ∀ j, (s ^^^ 2 ^ i).testBit j = (s.testBit j ^^ decide (j = i)) := fun j => fb_bit_flip s i j
  have h1 : fb_si (eH F (s ^^^ 2 ^ i)) (gSz g) = fb_si (eH F s) (gSz g) + (if s.testBit i then 2 * F (32 + i) else -2 * F (32 + i)) := by
    have e : fb_si (eH F (s ^^^ 2 ^ i)) (gSz g) = fb_si (fun k => if k = i then eH F (s ^^^ 2 ^ i) i else eH F s k) (gSz g) := fb_si_cong (fun k _ => by
      by_cases hk : k = i
      · rw [if_pos hk, hk]
      · rw [if_neg hk]
        unfold eH
        rw [hb k]
        simp [hk])
    rw [e, fb_si_upd _ _ hi]
    unfold eH
    rw [hb i]
    cases s.testBit i <;> simp <;> omega
  have h2 : fb_si (eT g F (s ^^^ 2 ^ i)) 32 = fb_si (eT g F s) 32 + (if s.testBit i then 2 * ((gMt g i).map (fun q => if s.testBit q.1 then F q.2 else -F q.2)).sum else -2 * ((gMt g i).map (fun q => if s.testBit q.1 then F q.2 else -F q.2)).sum) := by
    unfold gMt
    rw [lsum_flat]
    have e : fb_si (eT g F (s ^^^ 2 ^ i)) 32 = fb_si (fun t => eT g F s t + (if s.testBit i then (2 : Int) else -2) * (((match gTo g t with | none => [] | some e => if gFr t = i then [(e, t)] else if e = i then [(gFr t, t)] else []) : List (Nat × Nat)).map (fun q => if s.testBit q.1 then F q.2 else -F q.2)).sum) 32 := fb_si_cong (fun t ht => by
      unfold eT
      cases he : gTo g t with
      | none => simp
      | some e =>
        have hne := (gTo_b g hg t ht e he).2.2
        dsimp only
        rw [hb, hb]
        by_cases q1 : gFr t = i
        · have q2 : ¬ e = i := fun z => hne (q1.trans z.symm)
          rw [if_pos q1, q1]
          simp only [List.map_cons, List.map_nil, List.sum_cons, List.sum_nil]
          cases s.testBit i <;> cases s.testBit e <;> simp [q2] <;> omega
        · rw [if_neg q1]
          by_cases q2 : e = i
          · rw [if_pos q2, q2]
            simp only [List.map_cons, List.map_nil, List.sum_cons, List.sum_nil]
            cases s.testBit i <;> cases s.testBit (gFr t) <;> simp [q1] <;> omega
          · rw [if_neg q2]
            simp [q1, q2])
    rw [e, fb_si_add, fb_si_mul]
    cases s.testBit i
    · simp; rfl
    · simp; rfl
  unfold eE eC ePl
  rw [h1, h2]
  cases s.testBit i <;> simp <;> omega
section CENERGY
variable {σ : XS} {I : Nat → Nat → Int32} {g : GD} {a : Nat} {F : Nat → Int32}
theorem bitOf_ok {s i : Nat} (hs : s < 2147483648) (hi : i < 32) : f_X11_bitOf (nI s) (nI i) = some (nI (if s.testBit i then 1 else 0)) := by
  unfold f_X11_bitOf
  rw [nn_bit hs hi]
theorem startOf_ok {t : Nat} (ht : t < 32) : f_X3_startOf (nI t) = some (nI (gFr t)) := by
  unfold f_X3_startOf gFr
  have e : ((16 : Int32) ≤ nI t) = (16 ≤ t) := nn_le (a := 16) (by decide) (by omega)
  simp only [e]
  by_cases h : 16 ≤ t
  · rw [if_pos h, if_neg (by omega), show (16 : Int32) = nI 16 from rfl, nn_sub h]
  · rw [if_neg h, if_pos (by omega)]
theorem isAlike_ok (hS : Shp σ) (hG : GRD I g) {s t e : Nat} (hs : s < 2147483648) (ht : t < 32) (he : gTo g t = some e) : f_X3_isAlike (xw σ I) 11 (nI s) (nI t) = some (nI (if s.testBit (gFr t) = s.testBit e then 1 else 0)) := by
  have h16 := (gAll_b g hG.1).2.2.1
  have heb := gTo_b g hG.1 t ht e he
  unfold f_X3_isAlike
  rw [startOf_ok ht, Option.bind_some, bitOf_ok hs (by omega), Option.bind_some]
  simp (disch := first | assumption | omega) only [Option.bind_some, Option.map_some, xw_gR, xw_gN, xw_al, xw_ck, xw_uI, xw_ur, xup_at, xur_at, if_true, if_false, reduceIte, and_true, true_and, and_false, false_and, not_true_eq_false, not_false_eq_true, Nat.reduceEqDiff, eq_self, Nat.reduceAdd, Nat.reduceMul, kC1, kG1, kP1, kR1_0, kR1_1, kR1_2, kR1_3, kR1_4, kR1_5, kR1_6, kR1_7, kR1_8, kR1_9, kR1_10, kR1_11, kR1_12, kR1_13, kC2, kG2, kP2, kR2_0, kR2_1, kC3, kG3, kP3, kR3_0, kR3_1, kR3_2, kR3_3, kL4, kA4, kS4, kL5, kA5, kS5, kL6, kA6, kS6, kL7, kA7, kS7, kC8, kG8, kP8, kR8_0, kR8_1, kL9, kA9, kS9, kL10, kA10, kS10, kC11, kG11, kP11, kR11_0, kR11_1, kR11_2, kR11_3, kL12, kA12, kS12, kL13, kA13, kS13, kL14, kA14, kS14, kL15, kA15, kS15, kC16, kG16, kP16, kR16_0, kR16_1, kL17, kA17, kS17, kL18, kA18, kS18, kC19, kG19, kP19, kR19_0, kL20, kL141, kL146, kA146, kS146, kL151, kA151, kS151, kL156, kA156, kS156, kC157, kG157, kP157, kR157_0, kR157_1, kL158, kA158, kS158, kL159, kA159, kS159, kC161, kG161, kP161, kR161_0, kR161_1, kL162, kA162, kS162, kL163, kA163, kS163, kC165, kG165, kP165, kR165_0, kR165_1, kR165_2, kR165_3, kL166, kA166, kS166, kL167, kA167, kS167, kL168, kA168, kS168, kL169, kA169, kS169, kC170, kG170, kP170, kR170_0, kR170_1, kR170_2, kL171, kA171, kS171, kL172, kA172, kS172, kL173, kA173, kS173, kC174, kG174, kP174, kR174_0, kR174_1, kR174_2, kR174_3, kR174_4, kL175, kA175, kS175, kL176, kA176, kS176, kL177, kA177, kS177, kL178, kA178, kS178, kL179, kC180, kG180, kP180, kL181, kL182, kA182, kS182, kC183, kG183, kP183, kR183_1, kR183_3, kR183_5, kR183_6, kR183_7, kR183_8, kR183_9, kR183_21, kR183_26, kR183_27, kR183_30, kR183_31, kR183_33, kR183_34, kR183_36, kR183_37, kR183_38, kR183_39, kR183_40, kR183_41, kR183_42, kR183_43, kR183_44, kL184, kA184, kS184, kL185, kA185, kS185, kL186, kA186, kS186, kL187, kA187, kS187, kL188, kA188, kS188, kL189, kL190, kL191, kA191, kS191, kL192, kA192, kS192, kL193, kA193, kS193, kL194, kA194, kS194, kL195, kA195, kS195, kL196, kA196, kS196, kL197, kA197, kS197, kL198, kA198, kS198, kL199, kA199, kS199, kL200, kA200, kS200, kL201, kL202, kA202, kS202, kL203, kA203, kS203, kL204, kA204, kS204, kL205, kL206, kA206, kS206, endAt_ok hS hG ht, he]
  show (f_X11_bitOf (nI s) (nI e)).bind _ = _
  rw [bitOf_ok hs (by omega), Option.bind_some]
  simp only [bI_eq]
  split <;> rfl
theorem bond_SR (hS : Shp σ) (ha : a ∈ suA) (h : SR g I a F) {t : Nat} (ht : t < 32) (he : (gTo g t).isSome = true) : f_X6_bondAt (xw σ I) a (nI t) = some (F t) := by
  rw [bondAt_ok hS ha ht, h.1 t ht, if_pos he]
theorem field_SR (hS : Shp σ) (ha : a ∈ suA) (h : SR g I a F) {t : Nat} (ht : t < 16) (he : t < gSz g) : f_X6_fieldAt (xw σ I) a (nI t) = some (F (32 + t)) := by
  rw [fieldAt_ok hS ha ht, h.2.1 t ht, if_pos he]
theorem cost_j (σ : XS) {s i : Nat} (hs : s < 2147483648) (hi : i < 32) (z : Int) : f_X3_costOfTurn_j99 σ (nI s) (nI i) (iI z) = some (iI (if s.testBit i then 2 * z else -2 * z)) := by
  unfold f_X3_costOfTurn_j99
  rw [bitOf_ok hs hi, Option.bind_some, show (-2 : Int32) = iI (-2) from rfl, show (2 : Int32) = iI 2 from rfl, iI_mul, iI_mul]
  simp only [bI_1]
  split <;> rfl
theorem cost_ok (hS : Shp σ) (hG : GRD I g) (ha : a ∈ suA) (h : SR g I a F) {s i : Nat} (hs : s < 2147483648) (hi : i < gSz g) : f_X3_costOfTurn (xw σ I) 11 a (nI s) (nI i) = some (iI (eC g (zR F) s i)) := by
  have h16 := (gAll_b g hG.1).2.2.1
  have hm := gMt_b g hG.1 i (by omega)
  unfold f_X3_costOfTurn
  simp (disch := first | assumption | omega) only [Option.bind_some, Option.map_some, xw_gR, xw_gN, xw_al, xw_ck, xw_uI, xw_ur, xup_at, xur_at, if_true, if_false, reduceIte, and_true, true_and, and_false, false_and, not_true_eq_false, not_false_eq_true, Nat.reduceEqDiff, eq_self, Nat.reduceAdd, Nat.reduceMul, kC1, kG1, kP1, kR1_0, kR1_1, kR1_2, kR1_3, kR1_4, kR1_5, kR1_6, kR1_7, kR1_8, kR1_9, kR1_10, kR1_11, kR1_12, kR1_13, kC2, kG2, kP2, kR2_0, kR2_1, kC3, kG3, kP3, kR3_0, kR3_1, kR3_2, kR3_3, kL4, kA4, kS4, kL5, kA5, kS5, kL6, kA6, kS6, kL7, kA7, kS7, kC8, kG8, kP8, kR8_0, kR8_1, kL9, kA9, kS9, kL10, kA10, kS10, kC11, kG11, kP11, kR11_0, kR11_1, kR11_2, kR11_3, kL12, kA12, kS12, kL13, kA13, kS13, kL14, kA14, kS14, kL15, kA15, kS15, kC16, kG16, kP16, kR16_0, kR16_1, kL17, kA17, kS17, kL18, kA18, kS18, kC19, kG19, kP19, kR19_0, kL20, kL141, kL146, kA146, kS146, kL151, kA151, kS151, kL156, kA156, kS156, kC157, kG157, kP157, kR157_0, kR157_1, kL158, kA158, kS158, kL159, kA159, kS159, kC161, kG161, kP161, kR161_0, kR161_1, kL162, kA162, kS162, kL163, kA163, kS163, kC165, kG165, kP165, kR165_0, kR165_1, kR165_2, kR165_3, kL166, kA166, kS166, kL167, kA167, kS167, kL168, kA168, kS168, kL169, kA169, kS169, kC170, kG170, kP170, kR170_0, kR170_1, kR170_2, kL171, kA171, kS171, kL172, kA172, kS172, kL173, kA173, kS173, kC174, kG174, kP174, kR174_0, kR174_1, kR174_2, kR174_3, kR174_4, kL175, kA175, kS175, kL176, kA176, kS176, kL177, kA177, kS177, kL178, kA178, kS178, kL179, kC180, kG180, kP180, kL181, kL182, kA182, kS182, kC183, kG183, kP183, kR183_1, kR183_3, kR183_5, kR183_6, kR183_7, kR183_8, kR183_9, kR183_21, kR183_26, kR183_27, kR183_30, kR183_31, kR183_33, kR183_34, kR183_36, kR183_37, kR183_38, kR183_39, kR183_40, kR183_41, kR183_42, kR183_43, kR183_44, kL184, kA184, kS184, kL185, kA185, kS185, kL186, kA186, kS186, kL187, kA187, kS187, kL188, kA188, kS188, kL189, kL190, kL191, kA191, kS191, kL192, kA192, kS192, kL193, kA193, kS193, kL194, kA194, kS194, kL195, kA195, kS195, kL196, kA196, kS196, kL197, kA197, kS197, kL198, kA198, kS198, kL199, kA199, kS199, kL200, kA200, kS200, kL201, kL202, kA202, kS202, kL203, kA203, kS203, kL204, kA204, kS204, kL205, kL206, kA206, kS206, nn_nneg, show (16 : Int32) = nI 16 from rfl, nn_lt, show i < 16 by omega, suC hS ha, field_SR hS ha h (show i < 16 by omega) hi, show (4 : Int32) = nI 4 from rfl, nn_mul]
  unfold eC ePl
  rw [← lsum_get _ (0, 0)]
  refine xforE (fun j : Nat => (iI (zR F (32 + i) + fb_si (fun j => (fun q : Nat × Nat => if s.testBit q.1 then zR F q.2 else -zR F q.2) ((gMt g i).getD j (0, 0))) j), nI (4 * i + j))) (gMt g i).length ?_ (fun j hj => ?_) ?_
  · show (F (32 + i), nI (4 * i)) = _
    rw [show F (32 + i) = iI (zR F (32 + i)) from iI_of _]
    simp [fb_si]
  · simp only [f_X3_costOfTurn_b28]
    have hq := hm.2 ((gMt g i).getD j (0, 0)) (by rw [List.getD_eq_getElem?_getD, List.getElem?_eq_getElem hj]; exact List.getElem_mem hj)
    have hc := hG.2.2.2.2.2.2.1 i (by omega)
    have hm2 := hG.2.2.2.2.2.2.2.1 i j (by omega) hj
    have hl := hm.1
    simp (disch := first | assumption | omega) only [Option.bind_some, Option.map_some, xw_gR, xw_gN, xw_al, xw_ck, xw_uI, xw_ur, xup_at, xur_at, if_true, if_false, reduceIte, and_true, true_and, and_false, false_and, not_true_eq_false, not_false_eq_true, Nat.reduceEqDiff, eq_self, Nat.reduceAdd, Nat.reduceMul, kC1, kG1, kP1, kR1_0, kR1_1, kR1_2, kR1_3, kR1_4, kR1_5, kR1_6, kR1_7, kR1_8, kR1_9, kR1_10, kR1_11, kR1_12, kR1_13, kC2, kG2, kP2, kR2_0, kR2_1, kC3, kG3, kP3, kR3_0, kR3_1, kR3_2, kR3_3, kL4, kA4, kS4, kL5, kA5, kS5, kL6, kA6, kS6, kL7, kA7, kS7, kC8, kG8, kP8, kR8_0, kR8_1, kL9, kA9, kS9, kL10, kA10, kS10, kC11, kG11, kP11, kR11_0, kR11_1, kR11_2, kR11_3, kL12, kA12, kS12, kL13, kA13, kS13, kL14, kA14, kS14, kL15, kA15, kS15, kC16, kG16, kP16, kR16_0, kR16_1, kL17, kA17, kS17, kL18, kA18, kS18, kC19, kG19, kP19, kR19_0, kL20, kL141, kL146, kA146, kS146, kL151, kA151, kS151, kL156, kA156, kS156, kC157, kG157, kP157, kR157_0, kR157_1, kL158, kA158, kS158, kL159, kA159, kS159, kC161, kG161, kP161, kR161_0, kR161_1, kL162, kA162, kS162, kL163, kA163, kS163, kC165, kG165, kP165, kR165_0, kR165_1, kR165_2, kR165_3, kL166, kA166, kS166, kL167, kA167, kS167, kL168, kA168, kS168, kL169, kA169, kS169, kC170, kG170, kP170, kR170_0, kR170_1, kR170_2, kL171, kA171, kS171, kL172, kA172, kS172, kL173, kA173, kS173, kC174, kG174, kP174, kR174_0, kR174_1, kR174_2, kR174_3, kR174_4, kL175, kA175, kS175, kL176, kA176, kS176, kL177, kA177, kS177, kL178, kA178, kS178, kL179, kC180, kG180, kP180, kL181, kL182, kA182, kS182, kC183, kG183, kP183, kR183_1, kR183_3, kR183_5, kR183_6, kR183_7, kR183_8, kR183_9, kR183_21, kR183_26, kR183_27, kR183_30, kR183_31, kR183_33, kR183_34, kR183_36, kR183_37, kR183_38, kR183_39, kR183_40, kR183_41, kR183_42, kR183_43, kR183_44, kL184, kA184, kS184, kL185, kA185, kS185, kL186, kA186, kS186, kL187, kA187, kS187, kL188, kA188, kS188, kL189, kL190, kL191, kA191, kS191, kL192, kA192, kS192, kL193, kA193, kS193, kL194, kA194, kS194, kL195, kA195, kS195, kL196, kA196, kS196, kL197, kA197, kS197, kL198, kA198, kS198, kL199, kA199, kS199, kL200, kA200, kS200, kL201, kL202, kA202, kS202, kL203, kA203, kS203, kL204, kA204, kS204, kL205, kL206, kA206, kS206, hc, nn_add, nn_le, show ¬ (4 * i + (gMt g i).length ≤ 4 * i + j) by omega, show ¬ (64 ≤ 4 * i + j) by omega, hm2.1, hm2.2, suC hS ha, bond_SR hS ha h hq.2.1 hq.2.2.2]
    rw [bitOf_ok hs (by omega), Option.bind_some, show F ((gMt g i).getD j (0, 0)).2 = iI (zR F ((gMt g i).getD j (0, 0)).2) from iI_of _, iI_neg, iI_add, iI_add, show (1 : Int32) = nI 1 from rfl, nn_add, fb_si_succ]
    by_cases hb : s.testBit ((gMt g i).getD j (0, 0)).1 = true
    · rw [if_pos (by rw [if_pos hb]), if_pos hb, ← Int.add_assoc, Nat.add_assoc]
    · rw [if_neg (by rw [if_neg hb]; decide), if_neg hb, ← Int.add_assoc, Nat.add_assoc]
  · simp only [f_X3_costOfTurn_b28]
    have hc := hG.2.2.2.2.2.2.1 i (by omega)
    have hl := hm.1
    simp (disch := first | assumption | omega) only [Option.bind_some, Option.map_some, xw_gR, xw_gN, xw_al, xw_ck, xw_uI, xw_ur, xup_at, xur_at, if_true, if_false, reduceIte, and_true, true_and, and_false, false_and, not_true_eq_false, not_false_eq_true, Nat.reduceEqDiff, eq_self, Nat.reduceAdd, Nat.reduceMul, kC1, kG1, kP1, kR1_0, kR1_1, kR1_2, kR1_3, kR1_4, kR1_5, kR1_6, kR1_7, kR1_8, kR1_9, kR1_10, kR1_11, kR1_12, kR1_13, kC2, kG2, kP2, kR2_0, kR2_1, kC3, kG3, kP3, kR3_0, kR3_1, kR3_2, kR3_3, kL4, kA4, kS4, kL5, kA5, kS5, kL6, kA6, kS6, kL7, kA7, kS7, kC8, kG8, kP8, kR8_0, kR8_1, kL9, kA9, kS9, kL10, kA10, kS10, kC11, kG11, kP11, kR11_0, kR11_1, kR11_2, kR11_3, kL12, kA12, kS12, kL13, kA13, kS13, kL14, kA14, kS14, kL15, kA15, kS15, kC16, kG16, kP16, kR16_0, kR16_1, kL17, kA17, kS17, kL18, kA18, kS18, kC19, kG19, kP19, kR19_0, kL20, kL141, kL146, kA146, kS146, kL151, kA151, kS151, kL156, kA156, kS156, kC157, kG157, kP157, kR157_0, kR157_1, kL158, kA158, kS158, kL159, kA159, kS159, kC161, kG161, kP161, kR161_0, kR161_1, kL162, kA162, kS162, kL163, kA163, kS163, kC165, kG165, kP165, kR165_0, kR165_1, kR165_2, kR165_3, kL166, kA166, kS166, kL167, kA167, kS167, kL168, kA168, kS168, kL169, kA169, kS169, kC170, kG170, kP170, kR170_0, kR170_1, kR170_2, kL171, kA171, kS171, kL172, kA172, kS172, kL173, kA173, kS173, kC174, kG174, kP174, kR174_0, kR174_1, kR174_2, kR174_3, kR174_4, kL175, kA175, kS175, kL176, kA176, kS176, kL177, kA177, kS177, kL178, kA178, kS178, kL179, kC180, kG180, kP180, kL181, kL182, kA182, kS182, kC183, kG183, kP183, kR183_1, kR183_3, kR183_5, kR183_6, kR183_7, kR183_8, kR183_9, kR183_21, kR183_26, kR183_27, kR183_30, kR183_31, kR183_33, kR183_34, kR183_36, kR183_37, kR183_38, kR183_39, kR183_40, kR183_41, kR183_42, kR183_43, kR183_44, kL184, kA184, kS184, kL185, kA185, kS185, kL186, kA186, kS186, kL187, kA187, kS187, kL188, kA188, kS188, kL189, kL190, kL191, kA191, kS191, kL192, kA192, kS192, kL193, kA193, kS193, kL194, kA194, kS194, kL195, kA195, kS195, kL196, kA196, kS196, kL197, kA197, kS197, kL198, kA198, kS198, kL199, kA199, kS199, kL200, kA200, kS200, kL201, kL202, kA202, kS202, kL203, kA203, kS203, kL204, kA204, kS204, kL205, kL206, kA206, kS206, hc, nn_add, nn_le, Nat.le_refl, cost_j _ hs (show i < 32 by omega)]
/-- the energy of a state by the ties and the fields -/
theorem energy11_f (hS : Shp σ) (hG : GRD I g) (ha : a ∈ suA) (h : SR g I a F) {s : Nat} (hs : s < 2147483648) (z : Int) : xloop (f_X3_energyOf_b60 (xw σ I) 11 a (nI s)) (iI z, (0 : Int32)) = some (iI (z + fb_si (eH (zR F) s) (gSz g))) := by
  have h16 := (gAll_b g hG.1).2.2.1
  refine xforE (fun i : Nat => (iI (z + fb_si (eH (zR F) s) i), nI i)) (gSz g) (by simp [fb_si]; rfl) (fun i hi => ?_) ?_
  · simp only [f_X3_energyOf_b60]
    simp (disch := first | assumption | omega) only [Option.bind_some, Option.map_some, xw_gR, xw_gN, xw_al, xw_ck, xw_uI, xw_ur, xup_at, xur_at, if_true, if_false, reduceIte, and_true, true_and, and_false, false_and, not_true_eq_false, not_false_eq_true, Nat.reduceEqDiff, eq_self, Nat.reduceAdd, Nat.reduceMul, kC1, kG1, kP1, kR1_0, kR1_1, kR1_2, kR1_3, kR1_4, kR1_5, kR1_6, kR1_7, kR1_8, kR1_9, kR1_10, kR1_11, kR1_12, kR1_13, kC2, kG2, kP2, kR2_0, kR2_1, kC3, kG3, kP3, kR3_0, kR3_1, kR3_2, kR3_3, kL4, kA4, kS4, kL5, kA5, kS5, kL6, kA6, kS6, kL7, kA7, kS7, kC8, kG8, kP8, kR8_0, kR8_1, kL9, kA9, kS9, kL10, kA10, kS10, kC11, kG11, kP11, kR11_0, kR11_1, kR11_2, kR11_3, kL12, kA12, kS12, kL13, kA13, kS13, kL14, kA14, kS14, kL15, kA15, kS15, kC16, kG16, kP16, kR16_0, kR16_1, kL17, kA17, kS17, kL18, kA18, kS18, kC19, kG19, kP19, kR19_0, kL20, kL141, kL146, kA146, kS146, kL151, kA151, kS151, kL156, kA156, kS156, kC157, kG157, kP157, kR157_0, kR157_1, kL158, kA158, kS158, kL159, kA159, kS159, kC161, kG161, kP161, kR161_0, kR161_1, kL162, kA162, kS162, kL163, kA163, kS163, kC165, kG165, kP165, kR165_0, kR165_1, kR165_2, kR165_3, kL166, kA166, kS166, kL167, kA167, kS167, kL168, kA168, kS168, kL169, kA169, kS169, kC170, kG170, kP170, kR170_0, kR170_1, kR170_2, kL171, kA171, kS171, kL172, kA172, kS172, kL173, kA173, kS173, kC174, kG174, kP174, kR174_0, kR174_1, kR174_2, kR174_3, kR174_4, kL175, kA175, kS175, kL176, kA176, kS176, kL177, kA177, kS177, kL178, kA178, kS178, kL179, kC180, kG180, kP180, kL181, kL182, kA182, kS182, kC183, kG183, kP183, kR183_1, kR183_3, kR183_5, kR183_6, kR183_7, kR183_8, kR183_9, kR183_21, kR183_26, kR183_27, kR183_30, kR183_31, kR183_33, kR183_34, kR183_36, kR183_37, kR183_38, kR183_39, kR183_40, kR183_41, kR183_42, kR183_43, kR183_44, kL184, kA184, kS184, kL185, kA185, kS185, kL186, kA186, kS186, kL187, kA187, kS187, kL188, kA188, kS188, kL189, kL190, kL191, kA191, kS191, kL192, kA192, kS192, kL193, kA193, kS193, kL194, kA194, kS194, kL195, kA195, kS195, kL196, kA196, kS196, kL197, kA197, kS197, kL198, kA198, kS198, kL199, kA199, kS199, kL200, kA200, kS200, kL201, kL202, kA202, kS202, kL203, kA203, kS203, kL204, kA204, kS204, kL205, kL206, kA206, kS206, hG.2.2.2.2.1, nn_le, show ¬ (gSz g ≤ i) by omega, suC hS ha, field_SR hS ha h (show i < 16 by omega) hi]
    rw [bitOf_ok hs (by omega), Option.bind_some, show F (32 + i) = iI (zR F (32 + i)) from iI_of _, iI_neg, iI_add, iI_add, fb_si_succ, ← Int.add_assoc, nI_succ]
    simp only [bI_1]
    unfold eH
    by_cases hb : s.testBit i = true
    · rw [if_pos hb, if_pos hb]
    · rw [if_neg hb, if_neg hb]
  · simp only [f_X3_energyOf_b60]
    simp (disch := first | assumption | omega) only [Option.bind_some, Option.map_some, xw_gR, xw_gN, xw_al, xw_ck, xw_uI, xw_ur, xup_at, xur_at, if_true, if_false, reduceIte, and_true, true_and, and_false, false_and, not_true_eq_false, not_false_eq_true, Nat.reduceEqDiff, eq_self, Nat.reduceAdd, Nat.reduceMul, kC1, kG1, kP1, kR1_0, kR1_1, kR1_2, kR1_3, kR1_4, kR1_5, kR1_6, kR1_7, kR1_8, kR1_9, kR1_10, kR1_11, kR1_12, kR1_13, kC2, kG2, kP2, kR2_0, kR2_1, kC3, kG3, kP3, kR3_0, kR3_1, kR3_2, kR3_3, kL4, kA4, kS4, kL5, kA5, kS5, kL6, kA6, kS6, kL7, kA7, kS7, kC8, kG8, kP8, kR8_0, kR8_1, kL9, kA9, kS9, kL10, kA10, kS10, kC11, kG11, kP11, kR11_0, kR11_1, kR11_2, kR11_3, kL12, kA12, kS12, kL13, kA13, kS13, kL14, kA14, kS14, kL15, kA15, kS15, kC16, kG16, kP16, kR16_0, kR16_1, kL17, kA17, kS17, kL18, kA18, kS18, kC19, kG19, kP19, kR19_0, kL20, kL141, kL146, kA146, kS146, kL151, kA151, kS151, kL156, kA156, kS156, kC157, kG157, kP157, kR157_0, kR157_1, kL158, kA158, kS158, kL159, kA159, kS159, kC161, kG161, kP161, kR161_0, kR161_1, kL162, kA162, kS162, kL163, kA163, kS163, kC165, kG165, kP165, kR165_0, kR165_1, kR165_2, kR165_3, kL166, kA166, kS166, kL167, kA167, kS167, kL168, kA168, kS168, kL169, kA169, kS169, kC170, kG170, kP170, kR170_0, kR170_1, kR170_2, kL171, kA171, kS171, kL172, kA172, kS172, kL173, kA173, kS173, kC174, kG174, kP174, kR174_0, kR174_1, kR174_2, kR174_3, kR174_4, kL175, kA175, kS175, kL176, kA176, kS176, kL177, kA177, kS177, kL178, kA178, kS178, kL179, kC180, kG180, kP180, kL181, kL182, kA182, kS182, kC183, kG183, kP183, kR183_1, kR183_3, kR183_5, kR183_6, kR183_7, kR183_8, kR183_9, kR183_21, kR183_26, kR183_27, kR183_30, kR183_31, kR183_33, kR183_34, kR183_36, kR183_37, kR183_38, kR183_39, kR183_40, kR183_41, kR183_42, kR183_43, kR183_44, kL184, kA184, kS184, kL185, kA185, kS185, kL186, kA186, kS186, kL187, kA187, kS187, kL188, kA188, kS188, kL189, kL190, kL191, kA191, kS191, kL192, kA192, kS192, kL193, kA193, kS193, kL194, kA194, kS194, kL195, kA195, kS195, kL196, kA196, kS196, kL197, kA197, kS197, kL198, kA198, kS198, kL199, kA199, kS199, kL200, kA200, kS200, kL201, kL202, kA202, kS202, kL203, kA203, kS203, kL204, kA204, kS204, kL205, kL206, kA206, kS206, hG.2.2.2.2.1, nn_le, Nat.le_refl]
theorem energy11_ok (hS : Shp σ) (hG : GRD I g) (ha : a ∈ suA) (h : SR g I a F) {s : Nat} (hs : s < 2147483648) : f_X3_energyOf (xw σ I) 11 a (nI s) = some (iI (eE g (zR F) s)) := by
  unfold f_X3_energyOf eE
  refine xforE (fun t : Nat => (iI (fb_si (eT g (zR F) s) t), nI t)) 32 rfl (fun t ht => ?_) ?_
  · simp only [f_X3_energyOf_b5]
    rw [if_neg (by rw [show (32 : Int32) = nI 32 from rfl, nn_le (by omega) (by omega)]; omega), fb_si_succ]
    simp (disch := first | assumption | omega) only [Option.bind_some, Option.map_some, xw_gR, xw_gN, xw_al, xw_ck, xw_uI, xw_ur, xup_at, xur_at, if_true, if_false, reduceIte, and_true, true_and, and_false, false_and, not_true_eq_false, not_false_eq_true, Nat.reduceEqDiff, eq_self, Nat.reduceAdd, Nat.reduceMul, kC1, kG1, kP1, kR1_0, kR1_1, kR1_2, kR1_3, kR1_4, kR1_5, kR1_6, kR1_7, kR1_8, kR1_9, kR1_10, kR1_11, kR1_12, kR1_13, kC2, kG2, kP2, kR2_0, kR2_1, kC3, kG3, kP3, kR3_0, kR3_1, kR3_2, kR3_3, kL4, kA4, kS4, kL5, kA5, kS5, kL6, kA6, kS6, kL7, kA7, kS7, kC8, kG8, kP8, kR8_0, kR8_1, kL9, kA9, kS9, kL10, kA10, kS10, kC11, kG11, kP11, kR11_0, kR11_1, kR11_2, kR11_3, kL12, kA12, kS12, kL13, kA13, kS13, kL14, kA14, kS14, kL15, kA15, kS15, kC16, kG16, kP16, kR16_0, kR16_1, kL17, kA17, kS17, kL18, kA18, kS18, kC19, kG19, kP19, kR19_0, kL20, kL141, kL146, kA146, kS146, kL151, kA151, kS151, kL156, kA156, kS156, kC157, kG157, kP157, kR157_0, kR157_1, kL158, kA158, kS158, kL159, kA159, kS159, kC161, kG161, kP161, kR161_0, kR161_1, kL162, kA162, kS162, kL163, kA163, kS163, kC165, kG165, kP165, kR165_0, kR165_1, kR165_2, kR165_3, kL166, kA166, kS166, kL167, kA167, kS167, kL168, kA168, kS168, kL169, kA169, kS169, kC170, kG170, kP170, kR170_0, kR170_1, kR170_2, kL171, kA171, kS171, kL172, kA172, kS172, kL173, kA173, kS173, kC174, kG174, kP174, kR174_0, kR174_1, kR174_2, kR174_3, kR174_4, kL175, kA175, kS175, kL176, kA176, kS176, kL177, kA177, kS177, kL178, kA178, kS178, kL179, kC180, kG180, kP180, kL181, kL182, kA182, kS182, kC183, kG183, kP183, kR183_1, kR183_3, kR183_5, kR183_6, kR183_7, kR183_8, kR183_9, kR183_21, kR183_26, kR183_27, kR183_30, kR183_31, kR183_33, kR183_34, kR183_36, kR183_37, kR183_38, kR183_39, kR183_40, kR183_41, kR183_42, kR183_43, kR183_44, kL184, kA184, kS184, kL185, kA185, kS185, kL186, kA186, kS186, kL187, kA187, kS187, kL188, kA188, kS188, kL189, kL190, kL191, kA191, kS191, kL192, kA192, kS192, kL193, kA193, kS193, kL194, kA194, kS194, kL195, kA195, kS195, kL196, kA196, kS196, kL197, kA197, kS197, kL198, kA198, kS198, kL199, kA199, kS199, kL200, kA200, kS200, kL201, kL202, kA202, kS202, kL203, kA203, kS203, kL204, kA204, kS204, kL205, kL206, kA206, kS206, endAt_ok hS hG ht, oI_none (gTo_s hG.1 ht)]
    cases he : gTo g t with
    | none =>
      have e : eT g (zR F) s t = 0 := by unfold eT; rw [he]
      rw [if_pos rfl, e, Int.add_zero, nI_succ]
    | some e =>
      have e2 : eT g (zR F) s t = if s.testBit (gFr t) = s.testBit e then -zR F t else zR F t := by unfold eT; rw [he]
      rw [if_neg (by simp), isAlike_ok hS hG hs ht he]
      simp (disch := first | assumption | omega) only [Option.bind_some, Option.map_some, xw_gR, xw_gN, xw_al, xw_ck, xw_uI, xw_ur, xup_at, xur_at, if_true, if_false, reduceIte, and_true, true_and, and_false, false_and, not_true_eq_false, not_false_eq_true, Nat.reduceEqDiff, eq_self, Nat.reduceAdd, Nat.reduceMul, kC1, kG1, kP1, kR1_0, kR1_1, kR1_2, kR1_3, kR1_4, kR1_5, kR1_6, kR1_7, kR1_8, kR1_9, kR1_10, kR1_11, kR1_12, kR1_13, kC2, kG2, kP2, kR2_0, kR2_1, kC3, kG3, kP3, kR3_0, kR3_1, kR3_2, kR3_3, kL4, kA4, kS4, kL5, kA5, kS5, kL6, kA6, kS6, kL7, kA7, kS7, kC8, kG8, kP8, kR8_0, kR8_1, kL9, kA9, kS9, kL10, kA10, kS10, kC11, kG11, kP11, kR11_0, kR11_1, kR11_2, kR11_3, kL12, kA12, kS12, kL13, kA13, kS13, kL14, kA14, kS14, kL15, kA15, kS15, kC16, kG16, kP16, kR16_0, kR16_1, kL17, kA17, kS17, kL18, kA18, kS18, kC19, kG19, kP19, kR19_0, kL20, kL141, kL146, kA146, kS146, kL151, kA151, kS151, kL156, kA156, kS156, kC157, kG157, kP157, kR157_0, kR157_1, kL158, kA158, kS158, kL159, kA159, kS159, kC161, kG161, kP161, kR161_0, kR161_1, kL162, kA162, kS162, kL163, kA163, kS163, kC165, kG165, kP165, kR165_0, kR165_1, kR165_2, kR165_3, kL166, kA166, kS166, kL167, kA167, kS167, kL168, kA168, kS168, kL169, kA169, kS169, kC170, kG170, kP170, kR170_0, kR170_1, kR170_2, kL171, kA171, kS171, kL172, kA172, kS172, kL173, kA173, kS173, kC174, kG174, kP174, kR174_0, kR174_1, kR174_2, kR174_3, kR174_4, kL175, kA175, kS175, kL176, kA176, kS176, kL177, kA177, kS177, kL178, kA178, kS178, kL179, kC180, kG180, kP180, kL181, kL182, kA182, kS182, kC183, kG183, kP183, kR183_1, kR183_3, kR183_5, kR183_6, kR183_7, kR183_8, kR183_9, kR183_21, kR183_26, kR183_27, kR183_30, kR183_31, kR183_33, kR183_34, kR183_36, kR183_37, kR183_38, kR183_39, kR183_40, kR183_41, kR183_42, kR183_43, kR183_44, kL184, kA184, kS184, kL185, kA185, kS185, kL186, kA186, kS186, kL187, kA187, kS187, kL188, kA188, kS188, kL189, kL190, kL191, kA191, kS191, kL192, kA192, kS192, kL193, kA193, kS193, kL194, kA194, kS194, kL195, kA195, kS195, kL196, kA196, kS196, kL197, kA197, kS197, kL198, kA198, kS198, kL199, kA199, kS199, kL200, kA200, kS200, kL201, kL202, kA202, kS202, kL203, kA203, kS203, kL204, kA204, kS204, kL205, kL206, kA206, kS206, suC hS ha, bond_SR hS ha h ht (show (gTo g t).isSome = true by rw [he]; rfl)]
      rw [show F t = iI (zR F t) from iI_of _, iI_neg, iI_add, iI_add, e2, nI_succ]
      by_cases hb : s.testBit (gFr t) = s.testBit e
      · rw [if_pos hb, if_pos hb, if_neg (by decide)]
      · rw [if_neg hb, if_neg hb, if_pos (show nI 0 = 0 from rfl)]
  · simp only [f_X3_energyOf_b5]
    rw [if_pos (by decide), energy11_f hS hG ha h hs]
    rfl
end CENERGY
end
section
/-! site and square -/
theorem gSq : ∀ g ∈ gAll, ∀ i, i < 16 → (gTo g i).all (fun e => (gTo g (i + 16)).all (fun f => (gTo g (e + 16)).isSome && (gTo g f).isSome)) = true := by decide +kernel
theorem gw0 : ∀ g ∈ gAll, 0 < gSz g → 0 < g.1 := by decide +kernel
section SITE
variable {σ : XS} {I : Nat → Nat → Int32} {g : GD} {a : Nat} {F : Nat → Int32}
def sqv (g : GD) (F : Nat → Int32) (i : Nat) : Int32 := match gTo g i, gTo g (i + 16) with
  | some e, some f => if 0 ≤ (((F i * F (i + 16)) * F (e + 16)) * F f) then 0 else 1
  | _, _ => -2
theorem square11_ok (hS : Shp σ) (hG : GRD I g) (ha : a ∈ suA) (h : SR g I a F) {i : Nat} (hi : i < gSz g) : f_X3_squareOf (xw σ I) 11 a (nI i) = some (sqv g F i) := by
  have h16 := (gAll_b g hG.1).2.2.1
  have q := gSq g hG.1 i (by omega)
  unfold f_X3_squareOf sqv
  simp (disch := first | assumption | omega) only [Option.bind_some, Option.map_some, xw_gR, xw_gN, xw_al, xw_ck, xw_uI, xw_ur, xup_at, xur_at, if_true, if_false, reduceIte, and_true, true_and, and_false, false_and, not_true_eq_false, not_false_eq_true, Nat.reduceEqDiff, eq_self, Nat.reduceAdd, Nat.reduceMul, kC1, kG1, kP1, kR1_0, kR1_1, kR1_2, kR1_3, kR1_4, kR1_5, kR1_6, kR1_7, kR1_8, kR1_9, kR1_10, kR1_11, kR1_12, kR1_13, kC2, kG2, kP2, kR2_0, kR2_1, kC3, kG3, kP3, kR3_0, kR3_1, kR3_2, kR3_3, kL4, kA4, kS4, kL5, kA5, kS5, kL6, kA6, kS6, kL7, kA7, kS7, kC8, kG8, kP8, kR8_0, kR8_1, kL9, kA9, kS9, kL10, kA10, kS10, kC11, kG11, kP11, kR11_0, kR11_1, kR11_2, kR11_3, kL12, kA12, kS12, kL13, kA13, kS13, kL14, kA14, kS14, kL15, kA15, kS15, kC16, kG16, kP16, kR16_0, kR16_1, kL17, kA17, kS17, kL18, kA18, kS18, kC19, kG19, kP19, kR19_0, kL20, kL141, kL146, kA146, kS146, kL151, kA151, kS151, kL156, kA156, kS156, kC157, kG157, kP157, kR157_0, kR157_1, kL158, kA158, kS158, kL159, kA159, kS159, kC161, kG161, kP161, kR161_0, kR161_1, kL162, kA162, kS162, kL163, kA163, kS163, kC165, kG165, kP165, kR165_0, kR165_1, kR165_2, kR165_3, kL166, kA166, kS166, kL167, kA167, kS167, kL168, kA168, kS168, kL169, kA169, kS169, kC170, kG170, kP170, kR170_0, kR170_1, kR170_2, kL171, kA171, kS171, kL172, kA172, kS172, kL173, kA173, kS173, kC174, kG174, kP174, kR174_0, kR174_1, kR174_2, kR174_3, kR174_4, kL175, kA175, kS175, kL176, kA176, kS176, kL177, kA177, kS177, kL178, kA178, kS178, kL179, kC180, kG180, kP180, kL181, kL182, kA182, kS182, kC183, kG183, kP183, kR183_1, kR183_3, kR183_5, kR183_6, kR183_7, kR183_8, kR183_9, kR183_21, kR183_26, kR183_27, kR183_30, kR183_31, kR183_33, kR183_34, kR183_36, kR183_37, kR183_38, kR183_39, kR183_40, kR183_41, kR183_42, kR183_43, kR183_44, kL184, kA184, kS184, kL185, kA185, kS185, kL186, kA186, kS186, kL187, kA187, kS187, kL188, kA188, kS188, kL189, kL190, kL191, kA191, kS191, kL192, kA192, kS192, kL193, kA193, kS193, kL194, kA194, kS194, kL195, kA195, kS195, kL196, kA196, kS196, kL197, kA197, kS197, kL198, kA198, kS198, kL199, kA199, kS199, kL200, kA200, kS200, kL201, kL202, kA202, kS202, kL203, kA203, kS203, kL204, kA204, kS204, kL205, kL206, kA206, kS206, endAt_ok hS hG (show i < 32 by omega), show (16 : Int32) = nI 16 from rfl, nn_add, Nat.add_comm 16 i, endAt_ok hS hG (show i + 16 < 32 by omega), oI_none (gTo_s hG.1 (show i < 32 by omega)), oI_none (gTo_s hG.1 (show i + 16 < 32 by omega))]
  cases he : gTo g i with
  | none => simp
  | some e =>
    cases hf : gTo g (i + 16) with
    | none => simp
    | some f =>
      rw [he, hf] at q
      have eb := gTo_b g hG.1 i (by omega) e he
      have fb := gTo_b g hG.1 (i + 16) (by omega) f hf
      simp only [Option.all_some, Bool.and_eq_true] at q
      rw [if_neg (by simp), if_neg (by simp)]
      simp only [suC hS ha, Option.bind_some, bond_SR hS ha h (show i < 32 by omega) (show (gTo g i).isSome = true by rw [he]; rfl), bond_SR hS ha h (show i + 16 < 32 by omega) (show (gTo g (i + 16)).isSome = true by rw [hf]; rfl), oI, nn_add, Nat.add_comm 16 e, bond_SR hS ha h (show e + 16 < 32 by omega) q.1, bond_SR hS ha h (show f < 32 by omega) q.2]
      split <;> rfl
theorem odd12_ok (hS : Shp σ) (hG : GRD I g) {i : Nat} (hi : i < gSz g) : f_X12_oddOf (xw σ I) 183 (nI i) = some (sqv g (I 191) i) := by
  have h16 := (gAll_b g hG.1).2.2.1
  have t0 := tieTo_ok (b := 0) hS hG (by decide) hi
  have t1 := tieTo_ok (b := 1) hS hG (by decide) hi
  rw [show nI 0 = (0 : Int32) from rfl, Nat.mul_zero, Nat.add_zero] at t0
  rw [show nI 1 = (1 : Int32) from rfl, Nat.mul_one] at t1
  unfold f_X12_oddOf sqv
  simp (disch := first | assumption | omega) only [Option.bind_some, Option.map_some, xw_gR, xw_gN, xw_al, xw_ck, xw_uI, xw_ur, xup_at, xur_at, if_true, if_false, reduceIte, and_true, true_and, and_false, false_and, not_true_eq_false, not_false_eq_true, Nat.reduceEqDiff, eq_self, Nat.reduceAdd, Nat.reduceMul, kC1, kG1, kP1, kR1_0, kR1_1, kR1_2, kR1_3, kR1_4, kR1_5, kR1_6, kR1_7, kR1_8, kR1_9, kR1_10, kR1_11, kR1_12, kR1_13, kC2, kG2, kP2, kR2_0, kR2_1, kC3, kG3, kP3, kR3_0, kR3_1, kR3_2, kR3_3, kL4, kA4, kS4, kL5, kA5, kS5, kL6, kA6, kS6, kL7, kA7, kS7, kC8, kG8, kP8, kR8_0, kR8_1, kL9, kA9, kS9, kL10, kA10, kS10, kC11, kG11, kP11, kR11_0, kR11_1, kR11_2, kR11_3, kL12, kA12, kS12, kL13, kA13, kS13, kL14, kA14, kS14, kL15, kA15, kS15, kC16, kG16, kP16, kR16_0, kR16_1, kL17, kA17, kS17, kL18, kA18, kS18, kC19, kG19, kP19, kR19_0, kL20, kL141, kL146, kA146, kS146, kL151, kA151, kS151, kL156, kA156, kS156, kC157, kG157, kP157, kR157_0, kR157_1, kL158, kA158, kS158, kL159, kA159, kS159, kC161, kG161, kP161, kR161_0, kR161_1, kL162, kA162, kS162, kL163, kA163, kS163, kC165, kG165, kP165, kR165_0, kR165_1, kR165_2, kR165_3, kL166, kA166, kS166, kL167, kA167, kS167, kL168, kA168, kS168, kL169, kA169, kS169, kC170, kG170, kP170, kR170_0, kR170_1, kR170_2, kL171, kA171, kS171, kL172, kA172, kS172, kL173, kA173, kS173, kC174, kG174, kP174, kR174_0, kR174_1, kR174_2, kR174_3, kR174_4, kL175, kA175, kS175, kL176, kA176, kS176, kL177, kA177, kS177, kL178, kA178, kS178, kL179, kC180, kG180, kP180, kL181, kL182, kA182, kS182, kC183, kG183, kP183, kR183_1, kR183_3, kR183_5, kR183_6, kR183_7, kR183_8, kR183_9, kR183_21, kR183_26, kR183_27, kR183_30, kR183_31, kR183_33, kR183_34, kR183_36, kR183_37, kR183_38, kR183_39, kR183_40, kR183_41, kR183_42, kR183_43, kR183_44, kL184, kA184, kS184, kL185, kA185, kS185, kL186, kA186, kS186, kL187, kA187, kS187, kL188, kA188, kS188, kL189, kL190, kL191, kA191, kS191, kL192, kA192, kS192, kL193, kA193, kS193, kL194, kA194, kS194, kL195, kA195, kS195, kL196, kA196, kS196, kL197, kA197, kS197, kL198, kA198, kS198, kL199, kA199, kS199, kL200, kA200, kS200, kL201, kL202, kA202, kS202, kL203, kA203, kS203, kL204, kA204, kS204, kL205, kL206, kA206, kS206, t0, t1]
  cases he : gTo g i with
  | none =>
    rw [if_pos (show oI none < 0 by decide)]
  | some e =>
    have eb := gTo_b g hG.1 i (by omega) e he
    rw [if_neg (show ¬ oI (some e) < 0 from nI_pos (by omega))]
    cases hf : gTo g (i + 16) with
    | none =>
      rw [if_neg (show ¬ 0 ≤ oI none by decide)]
    | some f =>
      have fb := gTo_b g hG.1 (i + 16) (by omega) f hf
      rw [if_pos (show (0 : Int32) ≤ oI (some f) by show nI 0 ≤ nI f; rw [nn_le (by decide) (by omega)]; omega)]
      simp (disch := first | assumption | omega) only [Option.bind_some, Option.map_some, xw_gR, xw_gN, xw_al, xw_ck, xw_uI, xw_ur, xup_at, xur_at, if_true, if_false, reduceIte, and_true, true_and, and_false, false_and, not_true_eq_false, not_false_eq_true, Nat.reduceEqDiff, eq_self, Nat.reduceAdd, Nat.reduceMul, kC1, kG1, kP1, kR1_0, kR1_1, kR1_2, kR1_3, kR1_4, kR1_5, kR1_6, kR1_7, kR1_8, kR1_9, kR1_10, kR1_11, kR1_12, kR1_13, kC2, kG2, kP2, kR2_0, kR2_1, kC3, kG3, kP3, kR3_0, kR3_1, kR3_2, kR3_3, kL4, kA4, kS4, kL5, kA5, kS5, kL6, kA6, kS6, kL7, kA7, kS7, kC8, kG8, kP8, kR8_0, kR8_1, kL9, kA9, kS9, kL10, kA10, kS10, kC11, kG11, kP11, kR11_0, kR11_1, kR11_2, kR11_3, kL12, kA12, kS12, kL13, kA13, kS13, kL14, kA14, kS14, kL15, kA15, kS15, kC16, kG16, kP16, kR16_0, kR16_1, kL17, kA17, kS17, kL18, kA18, kS18, kC19, kG19, kP19, kR19_0, kL20, kL141, kL146, kA146, kS146, kL151, kA151, kS151, kL156, kA156, kS156, kC157, kG157, kP157, kR157_0, kR157_1, kL158, kA158, kS158, kL159, kA159, kS159, kC161, kG161, kP161, kR161_0, kR161_1, kL162, kA162, kS162, kL163, kA163, kS163, kC165, kG165, kP165, kR165_0, kR165_1, kR165_2, kR165_3, kL166, kA166, kS166, kL167, kA167, kS167, kL168, kA168, kS168, kL169, kA169, kS169, kC170, kG170, kP170, kR170_0, kR170_1, kR170_2, kL171, kA171, kS171, kL172, kA172, kS172, kL173, kA173, kS173, kC174, kG174, kP174, kR174_0, kR174_1, kR174_2, kR174_3, kR174_4, kL175, kA175, kS175, kL176, kA176, kS176, kL177, kA177, kS177, kL178, kA178, kS178, kL179, kC180, kG180, kP180, kL181, kL182, kA182, kS182, kC183, kG183, kP183, kR183_1, kR183_3, kR183_5, kR183_6, kR183_7, kR183_8, kR183_9, kR183_21, kR183_26, kR183_27, kR183_30, kR183_31, kR183_33, kR183_34, kR183_36, kR183_37, kR183_38, kR183_39, kR183_40, kR183_41, kR183_42, kR183_43, kR183_44, kL184, kA184, kS184, kL185, kA185, kS185, kL186, kA186, kS186, kL187, kA187, kS187, kL188, kA188, kS188, kL189, kL190, kL191, kA191, kS191, kL192, kA192, kS192, kL193, kA193, kS193, kL194, kA194, kS194, kL195, kA195, kS195, kL196, kA196, kS196, kL197, kA197, kS197, kL198, kA198, kS198, kL199, kA199, kS199, kL200, kA200, kS200, kL201, kL202, kA202, kS202, kL203, kA203, kS203, kL204, kA204, kS204, kL205, kL206, kA206, kS206, oI, show (16 : Int32) = nI 16 from rfl, show (0 : Int32) + nI i = nI i by rw [show (0 : Int32) = nI 0 from rfl, nn_add, Nat.zero_add], show (0 : Int32) + nI f = nI f by rw [show (0 : Int32) = nI 0 from rfl, nn_add, Nat.zero_add], nn_add, Nat.add_comm 16 i, Nat.add_comm 16 e]
      split <;> rfl
end SITE
theorem op_square : Op_square INV := by
  intro n σ hn ⟨g, gT, gP, st, H⟩ x
  have hS := H.shp
  have hG := H.grd
  by_cases hs : isS g x = true
  · obtain ⟨i, hi, rfl⟩ := isS_t hs
    refine ⟨sqv g (xI σ 191) i, ?_, ?_, g, gT, gP, st, H.nop⟩
    · show f_X11_square (xw σ (xI σ)) 1 (nI i) = _
      unfold f_X11_square
      simp (disch := first | assumption | omega) only [Option.bind_some, Option.map_some, xw_gR, xw_gN, xw_al, xw_ck, xw_uI, xw_ur, xup_at, xur_at, if_true, if_false, reduceIte, and_true, true_and, and_false, false_and, not_true_eq_false, not_false_eq_true, Nat.reduceEqDiff, eq_self, Nat.reduceAdd, Nat.reduceMul, kC1, kG1, kP1, kR1_0, kR1_1, kR1_2, kR1_3, kR1_4, kR1_5, kR1_6, kR1_7, kR1_8, kR1_9, kR1_10, kR1_11, kR1_12, kR1_13, kC2, kG2, kP2, kR2_0, kR2_1, kC3, kG3, kP3, kR3_0, kR3_1, kR3_2, kR3_3, kL4, kA4, kS4, kL5, kA5, kS5, kL6, kA6, kS6, kL7, kA7, kS7, kC8, kG8, kP8, kR8_0, kR8_1, kL9, kA9, kS9, kL10, kA10, kS10, kC11, kG11, kP11, kR11_0, kR11_1, kR11_2, kR11_3, kL12, kA12, kS12, kL13, kA13, kS13, kL14, kA14, kS14, kL15, kA15, kS15, kC16, kG16, kP16, kR16_0, kR16_1, kL17, kA17, kS17, kL18, kA18, kS18, kC19, kG19, kP19, kR19_0, kL20, kL141, kL146, kA146, kS146, kL151, kA151, kS151, kL156, kA156, kS156, kC157, kG157, kP157, kR157_0, kR157_1, kL158, kA158, kS158, kL159, kA159, kS159, kC161, kG161, kP161, kR161_0, kR161_1, kL162, kA162, kS162, kL163, kA163, kS163, kC165, kG165, kP165, kR165_0, kR165_1, kR165_2, kR165_3, kL166, kA166, kS166, kL167, kA167, kS167, kL168, kA168, kS168, kL169, kA169, kS169, kC170, kG170, kP170, kR170_0, kR170_1, kR170_2, kL171, kA171, kS171, kL172, kA172, kS172, kL173, kA173, kS173, kC174, kG174, kP174, kR174_0, kR174_1, kR174_2, kR174_3, kR174_4, kL175, kA175, kS175, kL176, kA176, kS176, kL177, kA177, kS177, kL178, kA178, kS178, kL179, kC180, kG180, kP180, kL181, kL182, kA182, kS182, kC183, kG183, kP183, kR183_1, kR183_3, kR183_5, kR183_6, kR183_7, kR183_8, kR183_9, kR183_21, kR183_26, kR183_27, kR183_30, kR183_31, kR183_33, kR183_34, kR183_36, kR183_37, kR183_38, kR183_39, kR183_40, kR183_41, kR183_42, kR183_43, kR183_44, kL184, kA184, kS184, kL185, kA185, kS185, kL186, kA186, kS186, kL187, kA187, kS187, kL188, kA188, kS188, kL189, kL190, kL191, kA191, kS191, kL192, kA192, kS192, kL193, kA193, kS193, kL194, kA194, kS194, kL195, kA195, kS195, kL196, kA196, kS196, kL197, kA197, kS197, kL198, kA198, kS198, kL199, kA199, kS199, kL200, kA200, kS200, kL201, kL202, kA202, kS202, kL203, kA203, kS203, kL204, kA204, kS204, kL205, kL206, kA206, kS206, hasSite_ok hS hG, hs, one0, square11_ok hS hG suA_16 H.now.1 hi]
    · show f_X12_square (xw σ (xI σ)) 183 (nI i) = _
      unfold f_X12_square
      simp (disch := first | assumption | omega) only [Option.bind_some, Option.map_some, xw_gR, xw_gN, xw_al, xw_ck, xw_uI, xw_ur, xup_at, xur_at, if_true, if_false, reduceIte, and_true, true_and, and_false, false_and, not_true_eq_false, not_false_eq_true, Nat.reduceEqDiff, eq_self, Nat.reduceAdd, Nat.reduceMul, kC1, kG1, kP1, kR1_0, kR1_1, kR1_2, kR1_3, kR1_4, kR1_5, kR1_6, kR1_7, kR1_8, kR1_9, kR1_10, kR1_11, kR1_12, kR1_13, kC2, kG2, kP2, kR2_0, kR2_1, kC3, kG3, kP3, kR3_0, kR3_1, kR3_2, kR3_3, kL4, kA4, kS4, kL5, kA5, kS5, kL6, kA6, kS6, kL7, kA7, kS7, kC8, kG8, kP8, kR8_0, kR8_1, kL9, kA9, kS9, kL10, kA10, kS10, kC11, kG11, kP11, kR11_0, kR11_1, kR11_2, kR11_3, kL12, kA12, kS12, kL13, kA13, kS13, kL14, kA14, kS14, kL15, kA15, kS15, kC16, kG16, kP16, kR16_0, kR16_1, kL17, kA17, kS17, kL18, kA18, kS18, kC19, kG19, kP19, kR19_0, kL20, kL141, kL146, kA146, kS146, kL151, kA151, kS151, kL156, kA156, kS156, kC157, kG157, kP157, kR157_0, kR157_1, kL158, kA158, kS158, kL159, kA159, kS159, kC161, kG161, kP161, kR161_0, kR161_1, kL162, kA162, kS162, kL163, kA163, kS163, kC165, kG165, kP165, kR165_0, kR165_1, kR165_2, kR165_3, kL166, kA166, kS166, kL167, kA167, kS167, kL168, kA168, kS168, kL169, kA169, kS169, kC170, kG170, kP170, kR170_0, kR170_1, kR170_2, kL171, kA171, kS171, kL172, kA172, kS172, kL173, kA173, kS173, kC174, kG174, kP174, kR174_0, kR174_1, kR174_2, kR174_3, kR174_4, kL175, kA175, kS175, kL176, kA176, kS176, kL177, kA177, kS177, kL178, kA178, kS178, kL179, kC180, kG180, kP180, kL181, kL182, kA182, kS182, kC183, kG183, kP183, kR183_1, kR183_3, kR183_5, kR183_6, kR183_7, kR183_8, kR183_9, kR183_21, kR183_26, kR183_27, kR183_30, kR183_31, kR183_33, kR183_34, kR183_36, kR183_37, kR183_38, kR183_39, kR183_40, kR183_41, kR183_42, kR183_43, kR183_44, kL184, kA184, kS184, kL185, kA185, kS185, kL186, kA186, kS186, kL187, kA187, kS187, kL188, kA188, kS188, kL189, kL190, kL191, kA191, kS191, kL192, kA192, kS192, kL193, kA193, kS193, kL194, kA194, kS194, kL195, kA195, kS195, kL196, kA196, kS196, kL197, kA197, kS197, kL198, kA198, kS198, kL199, kA199, kS199, kL200, kA200, kS200, kL201, kL202, kA202, kS202, kL203, kA203, kS203, kL204, kA204, kS204, kL205, kL206, kA206, kS206, isSite_ok hS hG, hs, one0, odd12_ok hS hG hi]
  · refine ⟨-1, ?_, ?_, g, gT, gP, st, H.nop⟩
    · show f_X11_square (xw σ (xI σ)) 1 x = _
      unfold f_X11_square
      simp (disch := first | assumption | omega) only [Option.bind_some, Option.map_some, xw_gR, xw_gN, xw_al, xw_ck, xw_uI, xw_ur, xup_at, xur_at, if_true, if_false, reduceIte, and_true, true_and, and_false, false_and, not_true_eq_false, not_false_eq_true, Nat.reduceEqDiff, eq_self, Nat.reduceAdd, Nat.reduceMul, kC1, kG1, kP1, kR1_0, kR1_1, kR1_2, kR1_3, kR1_4, kR1_5, kR1_6, kR1_7, kR1_8, kR1_9, kR1_10, kR1_11, kR1_12, kR1_13, kC2, kG2, kP2, kR2_0, kR2_1, kC3, kG3, kP3, kR3_0, kR3_1, kR3_2, kR3_3, kL4, kA4, kS4, kL5, kA5, kS5, kL6, kA6, kS6, kL7, kA7, kS7, kC8, kG8, kP8, kR8_0, kR8_1, kL9, kA9, kS9, kL10, kA10, kS10, kC11, kG11, kP11, kR11_0, kR11_1, kR11_2, kR11_3, kL12, kA12, kS12, kL13, kA13, kS13, kL14, kA14, kS14, kL15, kA15, kS15, kC16, kG16, kP16, kR16_0, kR16_1, kL17, kA17, kS17, kL18, kA18, kS18, kC19, kG19, kP19, kR19_0, kL20, kL141, kL146, kA146, kS146, kL151, kA151, kS151, kL156, kA156, kS156, kC157, kG157, kP157, kR157_0, kR157_1, kL158, kA158, kS158, kL159, kA159, kS159, kC161, kG161, kP161, kR161_0, kR161_1, kL162, kA162, kS162, kL163, kA163, kS163, kC165, kG165, kP165, kR165_0, kR165_1, kR165_2, kR165_3, kL166, kA166, kS166, kL167, kA167, kS167, kL168, kA168, kS168, kL169, kA169, kS169, kC170, kG170, kP170, kR170_0, kR170_1, kR170_2, kL171, kA171, kS171, kL172, kA172, kS172, kL173, kA173, kS173, kC174, kG174, kP174, kR174_0, kR174_1, kR174_2, kR174_3, kR174_4, kL175, kA175, kS175, kL176, kA176, kS176, kL177, kA177, kS177, kL178, kA178, kS178, kL179, kC180, kG180, kP180, kL181, kL182, kA182, kS182, kC183, kG183, kP183, kR183_1, kR183_3, kR183_5, kR183_6, kR183_7, kR183_8, kR183_9, kR183_21, kR183_26, kR183_27, kR183_30, kR183_31, kR183_33, kR183_34, kR183_36, kR183_37, kR183_38, kR183_39, kR183_40, kR183_41, kR183_42, kR183_43, kR183_44, kL184, kA184, kS184, kL185, kA185, kS185, kL186, kA186, kS186, kL187, kA187, kS187, kL188, kA188, kS188, kL189, kL190, kL191, kA191, kS191, kL192, kA192, kS192, kL193, kA193, kS193, kL194, kA194, kS194, kL195, kA195, kS195, kL196, kA196, kS196, kL197, kA197, kS197, kL198, kA198, kS198, kL199, kA199, kS199, kL200, kA200, kS200, kL201, kL202, kA202, kS202, kL203, kA203, kS203, kL204, kA204, kS204, kL205, kL206, kA206, kS206, hasSite_ok hS hG, hs]
      rfl
    · show f_X12_square (xw σ (xI σ)) 183 x = _
      unfold f_X12_square
      simp (disch := first | assumption | omega) only [Option.bind_some, Option.map_some, xw_gR, xw_gN, xw_al, xw_ck, xw_uI, xw_ur, xup_at, xur_at, if_true, if_false, reduceIte, and_true, true_and, and_false, false_and, not_true_eq_false, not_false_eq_true, Nat.reduceEqDiff, eq_self, Nat.reduceAdd, Nat.reduceMul, kC1, kG1, kP1, kR1_0, kR1_1, kR1_2, kR1_3, kR1_4, kR1_5, kR1_6, kR1_7, kR1_8, kR1_9, kR1_10, kR1_11, kR1_12, kR1_13, kC2, kG2, kP2, kR2_0, kR2_1, kC3, kG3, kP3, kR3_0, kR3_1, kR3_2, kR3_3, kL4, kA4, kS4, kL5, kA5, kS5, kL6, kA6, kS6, kL7, kA7, kS7, kC8, kG8, kP8, kR8_0, kR8_1, kL9, kA9, kS9, kL10, kA10, kS10, kC11, kG11, kP11, kR11_0, kR11_1, kR11_2, kR11_3, kL12, kA12, kS12, kL13, kA13, kS13, kL14, kA14, kS14, kL15, kA15, kS15, kC16, kG16, kP16, kR16_0, kR16_1, kL17, kA17, kS17, kL18, kA18, kS18, kC19, kG19, kP19, kR19_0, kL20, kL141, kL146, kA146, kS146, kL151, kA151, kS151, kL156, kA156, kS156, kC157, kG157, kP157, kR157_0, kR157_1, kL158, kA158, kS158, kL159, kA159, kS159, kC161, kG161, kP161, kR161_0, kR161_1, kL162, kA162, kS162, kL163, kA163, kS163, kC165, kG165, kP165, kR165_0, kR165_1, kR165_2, kR165_3, kL166, kA166, kS166, kL167, kA167, kS167, kL168, kA168, kS168, kL169, kA169, kS169, kC170, kG170, kP170, kR170_0, kR170_1, kR170_2, kL171, kA171, kS171, kL172, kA172, kS172, kL173, kA173, kS173, kC174, kG174, kP174, kR174_0, kR174_1, kR174_2, kR174_3, kR174_4, kL175, kA175, kS175, kL176, kA176, kS176, kL177, kA177, kS177, kL178, kA178, kS178, kL179, kC180, kG180, kP180, kL181, kL182, kA182, kS182, kC183, kG183, kP183, kR183_1, kR183_3, kR183_5, kR183_6, kR183_7, kR183_8, kR183_9, kR183_21, kR183_26, kR183_27, kR183_30, kR183_31, kR183_33, kR183_34, kR183_36, kR183_37, kR183_38, kR183_39, kR183_40, kR183_41, kR183_42, kR183_43, kR183_44, kL184, kA184, kS184, kL185, kA185, kS185, kL186, kA186, kS186, kL187, kA187, kS187, kL188, kA188, kS188, kL189, kL190, kL191, kA191, kS191, kL192, kA192, kS192, kL193, kA193, kS193, kL194, kA194, kS194, kL195, kA195, kS195, kL196, kA196, kS196, kL197, kA197, kS197, kL198, kA198, kS198, kL199, kA199, kS199, kL200, kA200, kS200, kL201, kL202, kA202, kS202, kL203, kA203, kS203, kL204, kA204, kS204, kL205, kL206, kA206, kS206, isSite_ok hS hG, hs]
      rfl
theorem costOf_ok {σ : XS} {I : Nat → Nat → Int32} {g : GD} (hS : Shp σ) (hG : GRD I g) {s i : Nat} (hs : s < 65536) (hi : i < gSz g) : f_X12_costOf (xw σ I) 183 (nI s) (nI i) = some (iI (eC g (zR (I 191)) s i)) := by
  have h16 := (gAll_b g hG.1).2.2.1
  have hx2 : s ^^^ 2 ^ i < 65536 := Nat.xor_lt_two_pow (n := 16) hs (Nat.pow_lt_pow_right (by decide) (by omega))
  have K : σ.1 191 = (20, 66) := xw_K hS (by decide) (by decide) (by decide)
  unfold f_X12_costOf
  simp (disch := first | assumption | omega) only [Option.bind_some, Option.map_some, xw_gR, xw_gN, xw_al, xw_ck, xw_uI, xw_ur, xup_at, xur_at, if_true, if_false, reduceIte, and_true, true_and, and_false, false_and, not_true_eq_false, not_false_eq_true, Nat.reduceEqDiff, eq_self, Nat.reduceAdd, Nat.reduceMul, kC1, kG1, kP1, kR1_0, kR1_1, kR1_2, kR1_3, kR1_4, kR1_5, kR1_6, kR1_7, kR1_8, kR1_9, kR1_10, kR1_11, kR1_12, kR1_13, kC2, kG2, kP2, kR2_0, kR2_1, kC3, kG3, kP3, kR3_0, kR3_1, kR3_2, kR3_3, kL4, kA4, kS4, kL5, kA5, kS5, kL6, kA6, kS6, kL7, kA7, kS7, kC8, kG8, kP8, kR8_0, kR8_1, kL9, kA9, kS9, kL10, kA10, kS10, kC11, kG11, kP11, kR11_0, kR11_1, kR11_2, kR11_3, kL12, kA12, kS12, kL13, kA13, kS13, kL14, kA14, kS14, kL15, kA15, kS15, kC16, kG16, kP16, kR16_0, kR16_1, kL17, kA17, kS17, kL18, kA18, kS18, kC19, kG19, kP19, kR19_0, kL20, kL141, kL146, kA146, kS146, kL151, kA151, kS151, kL156, kA156, kS156, kC157, kG157, kP157, kR157_0, kR157_1, kL158, kA158, kS158, kL159, kA159, kS159, kC161, kG161, kP161, kR161_0, kR161_1, kL162, kA162, kS162, kL163, kA163, kS163, kC165, kG165, kP165, kR165_0, kR165_1, kR165_2, kR165_3, kL166, kA166, kS166, kL167, kA167, kS167, kL168, kA168, kS168, kL169, kA169, kS169, kC170, kG170, kP170, kR170_0, kR170_1, kR170_2, kL171, kA171, kS171, kL172, kA172, kS172, kL173, kA173, kS173, kC174, kG174, kP174, kR174_0, kR174_1, kR174_2, kR174_3, kR174_4, kL175, kA175, kS175, kL176, kA176, kS176, kL177, kA177, kS177, kL178, kA178, kS178, kL179, kC180, kG180, kP180, kL181, kL182, kA182, kS182, kC183, kG183, kP183, kR183_1, kR183_3, kR183_5, kR183_6, kR183_7, kR183_8, kR183_9, kR183_21, kR183_26, kR183_27, kR183_30, kR183_31, kR183_33, kR183_34, kR183_36, kR183_37, kR183_38, kR183_39, kR183_40, kR183_41, kR183_42, kR183_43, kR183_44, kL184, kA184, kS184, kL185, kA185, kS185, kL186, kA186, kS186, kL187, kA187, kS187, kL188, kA188, kS188, kL189, kL190, kL191, kA191, kS191, kL192, kA192, kS192, kL193, kA193, kS193, kL194, kA194, kS194, kL195, kA195, kS195, kL196, kA196, kS196, kL197, kA197, kS197, kL198, kA198, kS198, kL199, kA199, kS199, kL200, kA200, kS200, kL201, kL202, kA202, kS202, kL203, kA203, kS203, kL204, kA204, kS204, kL205, kL206, kA206, kS206, hG.2.2.2.2.2.2.2.2.2.1, nn_one, nn_xor, energy12_ok hS hG K (show s ^^^ 2 ^ i < 2147483648 by omega) (Nat.le_refl _), energy12_ok hS hG K (show s < 2147483648 by omega) (Nat.le_refl _)]
  rw [iI_sub]
  congr 2
  have e := eP_all hG.1 (zR (I 191))
  unfold gSz at e
  rw [e, e, eE_flip hG.1 _ hi]
  omega
theorem xsw_n {β : Type} {k : Nat} {as : List (Option β)} {d : Option β} (hk : k < 2147483648) : xsw (nI k) 0 as d = as.getD k d := by
  unfold xsw
  rw [nI_toInt hk, if_neg (by omega), show ((k : Int) - 0).toNat = k by omega, List.getD_eq_getElem?_getD]
theorem sw_c (v : Int32) (n : Nat) : (∃ k, k < n ∧ k < 2147483648 ∧ v = nI k) ∨ (∀ (β : Type) (as : List (Option β)) (d : Option β), as.length ≤ n → xsw v 0 as d = d) := by
  by_cases h0 : v < 0
  · right
    have h1 : v.toInt < 0 := (fa_lt _ _).mp h0
    intro β as d hl
    unfold xsw
    rw [if_pos h1]
  · obtain ⟨k, hk, rfl⟩ := nn_of h0
    by_cases hkn : k < n
    · exact .inl ⟨k, hkn, hk, rfl⟩
    · right
      intro β as d hl
      · rw [xsw_n hk, List.getD_eq_getElem?_getD, List.getElem?_eq_none (by omega)]
        rfl
theorem nn_rem2 {a b : Nat} (ha : a < 2147483648) (hb : b < 2147483648) : nI a - nI (a / b) * nI b = nI (a % b) := by
  rw [← nn_rem ha hb, nn_div ha hb]
theorem op_site : Op_site INV := by
  intro n σ hn ⟨g, gT, gP, st, H⟩ x v
  have hS := H.shp
  have hG := H.grd
  have h16 := (gAll_b g hG.1).2.2.1
  by_cases hs : isS g x = true
  · obtain ⟨i, hi, rfl⟩ := isS_t hs
    have hN := H.now
    obtain ⟨⟨e1, e2, ⟨p, u, e3, e4, e5, e6⟩, e7, -⟩, ⟨-, o2, ⟨b, o3, o4, o5⟩, -⟩, -⟩ := hN
    have hp : p < 65536 := Nat.lt_pow_two_of_testBit (n := 16) p (fun j hj => by rw [e5]; simp; omega)
    have hu : u < 65536 := Nat.lt_pow_two_of_testBit (n := 16) u (fun j hj => by rw [e6]; simp; omega)
    have hb : b < 65536 := Nat.lt_of_lt_of_le o3 (Nat.pow_le_pow_right (by decide) h16)
    have pa : (if p.testBit i then (if u.testBit i then (1 : Int32) else 2) else 0) = xI σ 191 (48 + i) := by
      rw [e5, e6]
      rcases (o2 i (by omega)).1 with z | z | z <;> rw [z] <;> simp [hi]
    have hw := gw0 g hG.1 (by omega)
    have hw4 := (gAll_b g hG.1).1
    have w1 : (nI g.1 ≤ 0) = False := eq_false (nI_nle hw (by omega))
    have w2 : xdz (nI g.1) = some () := by unfold xdz; rw [if_neg (nI_ne0 hw (by omega))]
    have t0 := tieTo_ok (b := 0) hS hG (by decide) hi
    have t1 := tieTo_ok (b := 1) hS hG (by decide) hi
    rw [show nI 0 = (0 : Int32) from rfl, Nat.mul_zero, Nat.add_zero] at t0
    rw [show nI 1 = (1 : Int32) from rfl, Nat.mul_one] at t1
    have p0 := tiePlace_ok (b := 0) hS hG (by decide) hi
    have p1 := tiePlace_ok (b := 1) hS hG (by decide) hi
    rw [show nI 0 = (0 : Int32) from rfl, Nat.mul_zero, Nat.add_zero] at p0
    rw [show nI 1 = (1 : Int32) from rfl, Nat.mul_one] at p1
    have A : f_X11_site (xw σ (xI σ)) 1 (nI i) v = xsw v 0 [some (nI (i / g.1)), some (nI (i % g.1)), some (xI σ 191 (32 + i)), some (xI σ 191 (48 + i)), some (if gTo g i = none then 100 else xI σ 191 i), some (if gTo g (i + 16) = none then 100 else xI σ 191 (i + 16)), some (nI (if b.testBit i then 1 else 0)), some (iI (eC g (zR (xI σ 191)) b i))] (some (-100000)) := by
      unfold f_X11_site f_X3_rowOf f_X3_columnOf f_X11_bondOrNoTie
      simp (disch := first | assumption | omega) only [Option.bind_some, Option.map_some, xw_gR, xw_gN, xw_al, xw_ck, xw_uI, xw_ur, xup_at, xur_at, if_true, if_false, reduceIte, and_true, true_and, and_false, false_and, not_true_eq_false, not_false_eq_true, Nat.reduceEqDiff, eq_self, Nat.reduceAdd, Nat.reduceMul, kC1, kG1, kP1, kR1_0, kR1_1, kR1_2, kR1_3, kR1_4, kR1_5, kR1_6, kR1_7, kR1_8, kR1_9, kR1_10, kR1_11, kR1_12, kR1_13, kC2, kG2, kP2, kR2_0, kR2_1, kC3, kG3, kP3, kR3_0, kR3_1, kR3_2, kR3_3, kL4, kA4, kS4, kL5, kA5, kS5, kL6, kA6, kS6, kL7, kA7, kS7, kC8, kG8, kP8, kR8_0, kR8_1, kL9, kA9, kS9, kL10, kA10, kS10, kC11, kG11, kP11, kR11_0, kR11_1, kR11_2, kR11_3, kL12, kA12, kS12, kL13, kA13, kS13, kL14, kA14, kS14, kL15, kA15, kS15, kC16, kG16, kP16, kR16_0, kR16_1, kL17, kA17, kS17, kL18, kA18, kS18, kC19, kG19, kP19, kR19_0, kL20, kL141, kL146, kA146, kS146, kL151, kA151, kS151, kL156, kA156, kS156, kC157, kG157, kP157, kR157_0, kR157_1, kL158, kA158, kS158, kL159, kA159, kS159, kC161, kG161, kP161, kR161_0, kR161_1, kL162, kA162, kS162, kL163, kA163, kS163, kC165, kG165, kP165, kR165_0, kR165_1, kR165_2, kR165_3, kL166, kA166, kS166, kL167, kA167, kS167, kL168, kA168, kS168, kL169, kA169, kS169, kC170, kG170, kP170, kR170_0, kR170_1, kR170_2, kL171, kA171, kS171, kL172, kA172, kS172, kL173, kA173, kS173, kC174, kG174, kP174, kR174_0, kR174_1, kR174_2, kR174_3, kR174_4, kL175, kA175, kS175, kL176, kA176, kS176, kL177, kA177, kS177, kL178, kA178, kS178, kL179, kC180, kG180, kP180, kL181, kL182, kA182, kS182, kC183, kG183, kP183, kR183_1, kR183_3, kR183_5, kR183_6, kR183_7, kR183_8, kR183_9, kR183_21, kR183_26, kR183_27, kR183_30, kR183_31, kR183_33, kR183_34, kR183_36, kR183_37, kR183_38, kR183_39, kR183_40, kR183_41, kR183_42, kR183_43, kR183_44, kL184, kA184, kS184, kL185, kA185, kS185, kL186, kA186, kS186, kL187, kA187, kS187, kL188, kA188, kS188, kL189, kL190, kL191, kA191, kS191, kL192, kA192, kS192, kL193, kA193, kS193, kL194, kA194, kS194, kL195, kA195, kS195, kL196, kA196, kS196, kL197, kA197, kS197, kL198, kA198, kS198, kL199, kA199, kS199, kL200, kA200, kS200, kL201, kL202, kA202, kS202, kL203, kA203, kS203, kL204, kA204, kS204, kL205, kL206, kA206, kS206, hasSite_ok hS hG, hs, one0, hG.2.1, w1, w2, nn_div, nn_rem2, field_SR hS suA_16 H.now.1 (show i < 16 by omega) hi, pinAt_ok hS suA_16 e3 hp e4 hu (show i < 32 by omega), pa, p0, p1, e7, o4, bitOf_ok (show b < 2147483648 by omega) (show i < 32 by omega), cost_ok hS hG suA_16 H.now.1 (show b < 2147483648 by omega) hi]
      have q0 : ∀ t, t < 32 → (if (if gTo g t = none then (-1 : Int32) else nI t) = -1 then some (100 : Int32) else (f_X6_bondAt (xw σ (xI σ)) 16 (if gTo g t = none then (-1 : Int32) else nI t)).bind fun v5 => some v5) = some (if gTo g t = none then 100 else xI σ 191 t) := by
        intro t ht
        cases he : gTo g t with
        | none => simp
        | some e =>
          simp only [reduceCtorEq, if_false, nn_m1 (show t < 2147483648 by omega)]
          rw [bond_SR hS suA_16 H.now.1 ht (by rw [he]; rfl)]
          rfl
      rw [q0 i (by omega), q0 (i + 16) (by omega), Option.bind_some, Option.bind_some]
    have B : f_X12_site (xw σ (xI σ)) 183 (nI i) v = xsw v 0 [some (nI (i / g.1)), some (nI (i % g.1)), some (xI σ 191 (32 + i)), some (xI σ 191 (48 + i)), some (if gTo g i = none then 100 else xI σ 191 i), some (if gTo g (i + 16) = none then 100 else xI σ 191 (i + 16)), some (nI (if b.testBit i then 1 else 0)), some (iI (eC g (zR (xI σ 191)) b i))] (some (-100000)) := by
      unfold f_X12_site
      simp (disch := first | assumption | omega) only [Option.bind_some, Option.map_some, xw_gR, xw_gN, xw_al, xw_ck, xw_uI, xw_ur, xup_at, xur_at, if_true, if_false, reduceIte, and_true, true_and, and_false, false_and, not_true_eq_false, not_false_eq_true, Nat.reduceEqDiff, eq_self, Nat.reduceAdd, Nat.reduceMul, kC1, kG1, kP1, kR1_0, kR1_1, kR1_2, kR1_3, kR1_4, kR1_5, kR1_6, kR1_7, kR1_8, kR1_9, kR1_10, kR1_11, kR1_12, kR1_13, kC2, kG2, kP2, kR2_0, kR2_1, kC3, kG3, kP3, kR3_0, kR3_1, kR3_2, kR3_3, kL4, kA4, kS4, kL5, kA5, kS5, kL6, kA6, kS6, kL7, kA7, kS7, kC8, kG8, kP8, kR8_0, kR8_1, kL9, kA9, kS9, kL10, kA10, kS10, kC11, kG11, kP11, kR11_0, kR11_1, kR11_2, kR11_3, kL12, kA12, kS12, kL13, kA13, kS13, kL14, kA14, kS14, kL15, kA15, kS15, kC16, kG16, kP16, kR16_0, kR16_1, kL17, kA17, kS17, kL18, kA18, kS18, kC19, kG19, kP19, kR19_0, kL20, kL141, kL146, kA146, kS146, kL151, kA151, kS151, kL156, kA156, kS156, kC157, kG157, kP157, kR157_0, kR157_1, kL158, kA158, kS158, kL159, kA159, kS159, kC161, kG161, kP161, kR161_0, kR161_1, kL162, kA162, kS162, kL163, kA163, kS163, kC165, kG165, kP165, kR165_0, kR165_1, kR165_2, kR165_3, kL166, kA166, kS166, kL167, kA167, kS167, kL168, kA168, kS168, kL169, kA169, kS169, kC170, kG170, kP170, kR170_0, kR170_1, kR170_2, kL171, kA171, kS171, kL172, kA172, kS172, kL173, kA173, kS173, kC174, kG174, kP174, kR174_0, kR174_1, kR174_2, kR174_3, kR174_4, kL175, kA175, kS175, kL176, kA176, kS176, kL177, kA177, kS177, kL178, kA178, kS178, kL179, kC180, kG180, kP180, kL181, kL182, kA182, kS182, kC183, kG183, kP183, kR183_1, kR183_3, kR183_5, kR183_6, kR183_7, kR183_8, kR183_9, kR183_21, kR183_26, kR183_27, kR183_30, kR183_31, kR183_33, kR183_34, kR183_36, kR183_37, kR183_38, kR183_39, kR183_40, kR183_41, kR183_42, kR183_43, kR183_44, kL184, kA184, kS184, kL185, kA185, kS185, kL186, kA186, kS186, kL187, kA187, kS187, kL188, kA188, kS188, kL189, kL190, kL191, kA191, kS191, kL192, kA192, kS192, kL193, kA193, kS193, kL194, kA194, kS194, kL195, kA195, kS195, kL196, kA196, kS196, kL197, kA197, kS197, kL198, kA198, kS198, kL199, kA199, kS199, kL200, kA200, kS200, kL201, kL202, kA202, kS202, kL203, kA203, kS203, kL204, kA204, kS204, kL205, kL206, kA206, kS206, isSite_ok hS hG, hs, one0, hG.2.2.2.2.2.2.2.2.1, w2, nn_div, nn_rem2, show (32 : Int32) = nI 32 from rfl, show (48 : Int32) = nI 48 from rfl, show (64 : Int32) = nI 64 from rfl, show (16 : Int32) = nI 16 from rfl, nn_add, t0, t1, o4, costOf_ok hS hG hb hi, nn_bit, Nat.add_comm 16 i, show (0 : Int32) + nI i = nI i by rw [show (0 : Int32) = nI 0 from rfl, nn_add, Nat.zero_add]]
      have q0 : ∀ t, t < 32 → (if 0 ≤ oI (gTo g t) then some (xI σ 191 t) else some (100 : Int32)) = some (if gTo g t = none then 100 else xI σ 191 t) := by
        intro t ht
        cases he : gTo g t with
        | none => rfl
        | some e =>
          have eb := gTo_s hG.1 ht e he
          rw [if_pos (show (0 : Int32) ≤ oI (some e) by show nI 0 ≤ nI e; rw [nn_le (by decide) (by omega)]; omega)]
          simp
      rw [q0 i (by omega), q0 (i + 16) (by omega)]
    rcases sw_c v 8 with ⟨k, hk, hk2, rfl⟩ | hd
    · obtain ⟨r, hr⟩ : ∃ r, xsw (nI k) 0 [some (nI (i / g.1)), some (nI (i % g.1)), some (xI σ 191 (32 + i)), some (xI σ 191 (48 + i)), some (if gTo g i = none then 100 else xI σ 191 i), some (if gTo g (i + 16) = none then 100 else xI σ 191 (i + 16)), some (nI (if b.testBit i then 1 else 0)), some (iI (eC g (zR (xI σ 191)) b i))] (some (-100000)) = some r := by
        rw [xsw_n hk2]
        rcases (show k = 0 ∨ k = 1 ∨ k = 2 ∨ k = 3 ∨ k = 4 ∨ k = 5 ∨ k = 6 ∨ k = 7 by omega) with rfl | rfl | rfl | rfl | rfl | rfl | rfl | rfl <;> exact ⟨_, rfl⟩
      exact ⟨r, A.trans hr, B.trans hr, g, gT, gP, st, H.nop⟩
    · exact ⟨-100000, A.trans (hd _ _ _ (Nat.le_refl 8)), B.trans (hd _ _ _ (Nat.le_refl 8)), g, gT, gP, st, H.nop⟩
  · refine ⟨-100000, ?_, ?_, g, gT, gP, st, H.nop⟩
    · show f_X11_site (xw σ (xI σ)) 1 x v = _
      unfold f_X11_site
      simp (disch := first | assumption | omega) only [Option.bind_some, Option.map_some, xw_gR, xw_gN, xw_al, xw_ck, xw_uI, xw_ur, xup_at, xur_at, if_true, if_false, reduceIte, and_true, true_and, and_false, false_and, not_true_eq_false, not_false_eq_true, Nat.reduceEqDiff, eq_self, Nat.reduceAdd, Nat.reduceMul, kC1, kG1, kP1, kR1_0, kR1_1, kR1_2, kR1_3, kR1_4, kR1_5, kR1_6, kR1_7, kR1_8, kR1_9, kR1_10, kR1_11, kR1_12, kR1_13, kC2, kG2, kP2, kR2_0, kR2_1, kC3, kG3, kP3, kR3_0, kR3_1, kR3_2, kR3_3, kL4, kA4, kS4, kL5, kA5, kS5, kL6, kA6, kS6, kL7, kA7, kS7, kC8, kG8, kP8, kR8_0, kR8_1, kL9, kA9, kS9, kL10, kA10, kS10, kC11, kG11, kP11, kR11_0, kR11_1, kR11_2, kR11_3, kL12, kA12, kS12, kL13, kA13, kS13, kL14, kA14, kS14, kL15, kA15, kS15, kC16, kG16, kP16, kR16_0, kR16_1, kL17, kA17, kS17, kL18, kA18, kS18, kC19, kG19, kP19, kR19_0, kL20, kL141, kL146, kA146, kS146, kL151, kA151, kS151, kL156, kA156, kS156, kC157, kG157, kP157, kR157_0, kR157_1, kL158, kA158, kS158, kL159, kA159, kS159, kC161, kG161, kP161, kR161_0, kR161_1, kL162, kA162, kS162, kL163, kA163, kS163, kC165, kG165, kP165, kR165_0, kR165_1, kR165_2, kR165_3, kL166, kA166, kS166, kL167, kA167, kS167, kL168, kA168, kS168, kL169, kA169, kS169, kC170, kG170, kP170, kR170_0, kR170_1, kR170_2, kL171, kA171, kS171, kL172, kA172, kS172, kL173, kA173, kS173, kC174, kG174, kP174, kR174_0, kR174_1, kR174_2, kR174_3, kR174_4, kL175, kA175, kS175, kL176, kA176, kS176, kL177, kA177, kS177, kL178, kA178, kS178, kL179, kC180, kG180, kP180, kL181, kL182, kA182, kS182, kC183, kG183, kP183, kR183_1, kR183_3, kR183_5, kR183_6, kR183_7, kR183_8, kR183_9, kR183_21, kR183_26, kR183_27, kR183_30, kR183_31, kR183_33, kR183_34, kR183_36, kR183_37, kR183_38, kR183_39, kR183_40, kR183_41, kR183_42, kR183_43, kR183_44, kL184, kA184, kS184, kL185, kA185, kS185, kL186, kA186, kS186, kL187, kA187, kS187, kL188, kA188, kS188, kL189, kL190, kL191, kA191, kS191, kL192, kA192, kS192, kL193, kA193, kS193, kL194, kA194, kS194, kL195, kA195, kS195, kL196, kA196, kS196, kL197, kA197, kS197, kL198, kA198, kS198, kL199, kA199, kS199, kL200, kA200, kS200, kL201, kL202, kA202, kS202, kL203, kA203, kS203, kL204, kA204, kS204, kL205, kL206, kA206, kS206, hasSite_ok hS hG, hs]
      rfl
    · show f_X12_site (xw σ (xI σ)) 183 x v = _
      unfold f_X12_site
      simp (disch := first | assumption | omega) only [Option.bind_some, Option.map_some, xw_gR, xw_gN, xw_al, xw_ck, xw_uI, xw_ur, xup_at, xur_at, if_true, if_false, reduceIte, and_true, true_and, and_false, false_and, not_true_eq_false, not_false_eq_true, Nat.reduceEqDiff, eq_self, Nat.reduceAdd, Nat.reduceMul, kC1, kG1, kP1, kR1_0, kR1_1, kR1_2, kR1_3, kR1_4, kR1_5, kR1_6, kR1_7, kR1_8, kR1_9, kR1_10, kR1_11, kR1_12, kR1_13, kC2, kG2, kP2, kR2_0, kR2_1, kC3, kG3, kP3, kR3_0, kR3_1, kR3_2, kR3_3, kL4, kA4, kS4, kL5, kA5, kS5, kL6, kA6, kS6, kL7, kA7, kS7, kC8, kG8, kP8, kR8_0, kR8_1, kL9, kA9, kS9, kL10, kA10, kS10, kC11, kG11, kP11, kR11_0, kR11_1, kR11_2, kR11_3, kL12, kA12, kS12, kL13, kA13, kS13, kL14, kA14, kS14, kL15, kA15, kS15, kC16, kG16, kP16, kR16_0, kR16_1, kL17, kA17, kS17, kL18, kA18, kS18, kC19, kG19, kP19, kR19_0, kL20, kL141, kL146, kA146, kS146, kL151, kA151, kS151, kL156, kA156, kS156, kC157, kG157, kP157, kR157_0, kR157_1, kL158, kA158, kS158, kL159, kA159, kS159, kC161, kG161, kP161, kR161_0, kR161_1, kL162, kA162, kS162, kL163, kA163, kS163, kC165, kG165, kP165, kR165_0, kR165_1, kR165_2, kR165_3, kL166, kA166, kS166, kL167, kA167, kS167, kL168, kA168, kS168, kL169, kA169, kS169, kC170, kG170, kP170, kR170_0, kR170_1, kR170_2, kL171, kA171, kS171, kL172, kA172, kS172, kL173, kA173, kS173, kC174, kG174, kP174, kR174_0, kR174_1, kR174_2, kR174_3, kR174_4, kL175, kA175, kS175, kL176, kA176, kS176, kL177, kA177, kS177, kL178, kA178, kS178, kL179, kC180, kG180, kP180, kL181, kL182, kA182, kS182, kC183, kG183, kP183, kR183_1, kR183_3, kR183_5, kR183_6, kR183_7, kR183_8, kR183_9, kR183_21, kR183_26, kR183_27, kR183_30, kR183_31, kR183_33, kR183_34, kR183_36, kR183_37, kR183_38, kR183_39, kR183_40, kR183_41, kR183_42, kR183_43, kR183_44, kL184, kA184, kS184, kL185, kA185, kS185, kL186, kA186, kS186, kL187, kA187, kS187, kL188, kA188, kS188, kL189, kL190, kL191, kA191, kS191, kL192, kA192, kS192, kL193, kA193, kS193, kL194, kA194, kS194, kL195, kA195, kS195, kL196, kA196, kS196, kL197, kA197, kS197, kL198, kA198, kS198, kL199, kA199, kS199, kL200, kA200, kS200, kL201, kL202, kA202, kS202, kL203, kA203, kS203, kL204, kA204, kS204, kL205, kL206, kA206, kS206, isSite_ok hS hG, hs]
      rfl
end
section
/-! sites come in one by one -/
def lwM (g : GD) (F : Nat → Int) (i : Nat) : List (Nat × Nat) := (gMt g i).filter (fun q => decide (q.1 < i) && decide (F q.2 ≠ 0))
def plS (g : GD) (F : Nat → Int) (i s : Nat) : Int := F (32 + i) + ((lwM g F i).map (fun q => if s.testBit q.1 then F q.2 else -F q.2)).sum
theorem eP_step {g : GD} (hg : g ∈ gAll) (F : Nat → Int) {i s s' : Nat} (hi : i < gSz g) (hb : ∀ j, j < i → s'.testBit j = s.testBit j) : eP g F (i + 1) s' = eP g F i s + (if s'.testBit i then -plS g F i s else plS g F i s) := by
  have h16 := (gAll_b g hg).2.2.1
  have h1 : fb_si (eH F s') (i + 1) = fb_si (eH F s) i + (if s'.testBit i then -F (32 + i) else F (32 + i)) := by
    rw [fb_si_succ]
    congr 1
    apply fb_si_cong
    intro k hk
    unfold eH
    rw [hb k hk]
  have h2 : fb_si (fun t => if gIn g (i + 1) t then eT g F s' t else 0) 32 = fb_si (fun t => if gIn g i t then eT g F s t else 0) 32 + (if s'.testBit i then (-1 : Int) else 1) * ((lwM g F i).map (fun q => if s.testBit q.1 then F q.2 else -F q.2)).sum := by
    unfold lwM gMt
    rw [List.filter_flatMap, lsum_flat, ← fb_si_mul, ← fb_si_add]
    apply fb_si_cong
    intro t ht
    unfold gIn eT
    cases he : gTo g t with
    | none => simp
    | some e =>
      have hne := (gTo_b g hg t ht e he).2.2
      dsimp only
      by_cases q1 : gFr t = i
      · have q2 : ¬ e = i := fun z => hne (q1.trans z.symm)
        rw [if_pos q1, q1]
        by_cases q3 : e < i
        · have q4 : e < i + 1 := by omega
          by_cases q5 : F t = 0
          · simp [q3, q4, q5]
          · simp [q3, q4, q5, hb e q3]
            cases s'.testBit i <;> cases s.testBit e <;> simp
        · have q4 : ¬ e < i + 1 := by omega
          simp [q3, q4]
      · rw [if_neg q1]
        by_cases q2 : e = i
        · rw [if_pos q2, q2]
          by_cases q3 : gFr t < i
          · have q4 : gFr t < i + 1 := by omega
            by_cases q5 : F t = 0
            · simp [q3, q4, q5]
            · simp [q3, q4, q5, hb _ q3]
              cases s'.testBit i <;> cases s.testBit (gFr t) <;> simp
          · have q4 : ¬ gFr t < i + 1 := by omega
            simp [q3, q4]
        · rw [if_neg q2]
          have e1 : (gFr t < i + 1) ↔ (gFr t < i) := by omega
          have e2 : (e < i + 1) ↔ (e < i) := by omega
          simp only [e1, e2]
          by_cases q3 : gFr t < i ∧ e < i
          · simp [q3, hb _ q3.1, hb _ q3.2]
          · by_cases q4 : gFr t < i
            · have : ¬ e < i := fun z => q3 ⟨q4, z⟩
              simp [q4, this]
            · simp [q4]
  unfold eP plS
  rw [h1, h2]
  cases s'.testBit i <;> simp <;> omega
theorem eP_lo {g : GD} (hg : g ∈ gAll) (F : Nat → Int) {i s : Nat} (hi : i < gSz g) (hs : s < 2 ^ i) : eP g F (i + 1) s = eP g F i s + plS g F i s := by
  rw [eP_step hg F hi (fun j _ => rfl), Nat.testBit_lt_two_pow hs]
  simp
theorem eP_hi {g : GD} (hg : g ∈ gAll) (F : Nat → Int) {i s : Nat} (hi : i < gSz g) (hs : s < 2 ^ i) : eP g F (i + 1) (2 ^ i + s) = eP g F i s - plS g F i s := by
  have e : (2 ^ i + s).testBit i = true := by
    rw [Nat.testBit_two_pow_add_eq, Nat.testBit_lt_two_pow hs]; rfl
  rw [eP_step hg F (s := s) hi (fun j hj => Nat.testBit_two_pow_add_gt hj s), e]
  simp
  omega
/-- what lies below the lowest mate doesn't matter -/
theorem plS_block {g : GD} {F : Nat → Int} {i b r lo : Nat} (hlo : ∀ q ∈ lwM g F i, lo ≤ q.1) (hr : r < 2 ^ lo) : plS g F i (b * 2 ^ lo + r) = plS g F i (b * 2 ^ lo) := by
  unfold plS
  congr 2
  apply List.map_congr_left
  intro q hq
  have h := hlo q hq
  have e : (b * 2 ^ lo + r).testBit q.1 = (b * 2 ^ lo).testBit q.1 := by
    rw [Nat.mul_comm b, Nat.testBit_two_pow_mul_add b hr, Nat.testBit_two_pow_mul]
    have h2 : ¬ q.1 < lo := by omega
    simp [h2, h]
  rw [e]
theorem eP_congr {g : GD} (hg : g ∈ gAll) {F G : Nat → Int} {k s : Nat} (hk : k ≤ gSz g) (h1 : ∀ t, t < 32 → (gTo g t).isSome = true → F t = G t) (h2 : ∀ i, i < gSz g → F (32 + i) = G (32 + i)) : eP g F k s = eP g G k s := by
  unfold eP
  congr 1
  · apply fb_si_cong
    intro t ht
    unfold eT
    cases he : gTo g t with
    | none => simp
    | some e => simp only [h1 t ht (by rw [he]; rfl)]
  · apply fb_si_cong
    intro i hi
    unfold eH
    rw [h2 i (by omega)]
end
section
/-! the class's energies on the heap: the mates below a site -/
def low (i : Nat) (L : List (Nat × Nat)) : Nat := L.foldl (fun a q => min a q.1) i
theorem low_s (i : Nat) (L : List (Nat × Nat)) (q : Nat × Nat) : low i (L ++ [q]) = min (low i L) q.1 := by
  unfold low
  rw [List.foldl_append]
  rfl
theorem low_le : ∀ (L : List (Nat × Nat)) (i : Nat), low i L ≤ i ∧ ∀ q ∈ L, low i L ≤ q.1 := by
  intro L
  induction L with
  | nil => intro i; exact ⟨Nat.le_refl _, fun q hq => by cases hq⟩
  | cons x L ih =>
    intro i
    have h := ih (min i x.1)
    have e : low i (x :: L) = low (min i x.1) L := rfl
    rw [e]
    refine ⟨by omega, fun q hq => ?_⟩
    rcases List.mem_cons.mp hq with z | z
    · rw [z]; omega
    · exact h.2 q z
def slI (I : Nat → Nat → Int32) (E i : Nat) (F : Nat → Int) (L : List (Nat × Nat)) : Nat → Nat → Int32 := fun c k => if c = E ∧ k = 2 then nI L.length else if c = E ∧ k = 3 then nI (low i L) else if c = E + 1 ∧ k < L.length then nI (L.getD k (0, 0)).1 else if c = E + 2 ∧ k < L.length then iI (F (L.getD k (0, 0)).2) else I c k
theorem slI_out {I : Nat → Nat → Int32} {E i : Nat} {F : Nat → Int} {L : List (Nat × Nat)} {c k : Nat} (h : c < E ∨ E + 2 < c) : slI I E i F L c k = I c k := by
  unfold slI
  rw [if_neg (by omega), if_neg (by omega), if_neg (by omega), if_neg (by omega)]
theorem slI_ot {I : Nat → Nat → Int32} {E i : Nat} {F : Nat → Int} {L : List (Nat × Nat)} {k : Nat} (h : k ≠ 2) (h2 : k ≠ 3) : slI I E i F L E k = I E k := by
  unfold slI
  rw [if_neg (by omega), if_neg (by omega), if_neg (by omega), if_neg (by omega)]
theorem slI_2 {I : Nat → Nat → Int32} {E i : Nat} {F : Nat → Int} {L : List (Nat × Nat)} : slI I E i F L E 2 = nI L.length := by
  unfold slI; rw [if_pos ⟨rfl, rfl⟩]
theorem slI_3 {I : Nat → Nat → Int32} {E i : Nat} {F : Nat → Int} {L : List (Nat × Nat)} : slI I E i F L E 3 = nI (low i L) := by
  unfold slI; rw [if_neg (by omega), if_pos ⟨rfl, rfl⟩]
theorem slI_a {I : Nat → Nat → Int32} {E i : Nat} {F : Nat → Int} {L : List (Nat × Nat)} {k : Nat} (h : k < L.length) : slI I E i F L (E + 1) k = nI (L.getD k (0, 0)).1 := by
  unfold slI; rw [if_neg (by omega), if_neg (by omega), if_pos ⟨rfl, h⟩]
theorem slI_b {I : Nat → Nat → Int32} {E i : Nat} {F : Nat → Int} {L : List (Nat × Nat)} {k : Nat} (h : k < L.length) : slI I E i F L (E + 2) k = iI (F (L.getD k (0, 0)).2) := by
  unfold slI; rw [if_neg (by omega), if_neg (by omega), if_neg (by omega), if_pos ⟨rfl, h⟩]
theorem getD_app {α : Type} (L : List α) (q d : α) (k : Nat) : (L ++ [q]).getD k d = if k < L.length then L.getD k d else if k = L.length then q else d := by
  rw [List.getD_eq_getElem?_getD, List.getD_eq_getElem?_getD]
  by_cases h : k < L.length
  · rw [if_pos h, List.getElem?_append_left h]
  · rw [if_neg h, List.getElem?_append_right (by omega)]
    by_cases h2 : k = L.length
    · rw [if_pos h2, h2, Nat.sub_self]; rfl
    · rw [if_neg h2, List.getElem?_eq_none (by simp; omega)]; rfl
theorem slI_s {I : Nat → Nat → Int32} {E i : Nat} {F : Nat → Int} {L : List (Nat × Nat)} {q : Nat × Nat} : xup (xup (xup (xup (slI I E i F L) (E + 1) L.length (nI q.1)) (E + 2) L.length (iI (F q.2))) E 2 (nI (L.length + 1))) E 3 (nI (min (low i L) q.1)) = slI I E i F (L ++ [q]) := by
  funext c k
  simp only [xup_at, slI, low_s, List.length_append, List.length_singleton, getD_app]
  by_cases h0 : c = E
  · subst h0
    by_cases h2 : k = 2
    · simp [h2]
    · by_cases h3 : k = 3
      · simp [h3]
      · simp [h2, h3]
  · by_cases h1 : c = E + 1
    · subst h1
      by_cases h2 : k = L.length
      · simp [h2]
      · by_cases h3 : k < L.length
        · have : k < L.length + 1 := by omega
          simp [h2, h3, this]
        · have : ¬ k < L.length + 1 := by omega
          simp [h2, h3, this]
    · by_cases h4 : c = E + 2
      · subst h4
        by_cases h2 : k = L.length
        · simp [h2]
        · by_cases h3 : k < L.length
          · have : k < L.length + 1 := by omega
            simp [h2, h3, this]
          · have : ¬ k < L.length + 1 := by omega
            simp [h2, h3, this]
      · simp [h0, h1, h4]
/-- an object of energies, and where its row lies -/
def EnO (σ : XS) (E c m : Nat) : Prop := (E = 157 ∨ E = 161) ∧ xR σ E 4 = c ∧ σ.1 c = (20, m) ∧ m ≤ 65536 ∧ (c = E + 3 ∨ 206 < c)
section ENO
variable {σ : XS} {I : Nat → Nat → Int32} {E c m : Nat}
theorem EnO.T (h : EnO σ E c m) (hS : Shp σ) : xT σ E = 2 := by
  rcases h.1 with rfl | rfl
  · exact sT157 hS
  · exact sT161 hS
theorem EnO.R0 (h : EnO σ E c m) (hS : Shp σ) : xgR σ E 2 0 = some (E + 1) := by
  rcases h.1 with rfl | rfl
  · exact kR157_0 hS
  · exact kR161_0 hS
theorem EnO.R1 (h : EnO σ E c m) (hS : Shp σ) : xgR σ E 2 1 = some (E + 2) := by
  rcases h.1 with rfl | rfl
  · exact kR157_1 hS
  · exact kR161_1 hS
theorem EnO.R4 (h : EnO σ E c m) (hS : Shp σ) : xgR σ E 2 4 = some c := by
  refine xgR_to (h.T hS) h.2.1 ?_
  rcases h.1 with q | q <;> rcases h.2.2.2.2 with z | z <;> omega
theorem EnO.K1 (h : EnO σ E c m) (hS : Shp σ) : σ.1 (E + 1) = (20, 4) := by
  rcases h.1 with rfl | rfl
  · exact xw_K hS (by decide) (by decide) (by decide)
  · exact xw_K hS (by decide) (by decide) (by decide)
theorem EnO.K2 (h : EnO σ E c m) (hS : Shp σ) : σ.1 (E + 2) = (20, 4) := by
  rcases h.1 with rfl | rfl
  · exact xw_K hS (by decide) (by decide) (by decide)
  · exact xw_K hS (by decide) (by decide) (by decide)
theorem EnO.L (h : EnO σ E c m) : xal σ c = some (nI m) := by
  rw [xal_ok (by unfold xT; rw [h.2.2.1]; exact ⟨Nat.le_refl 20, (by decide : 20 ≤ 25)⟩)]
  unfold xlen
  rw [h.2.2.1]
theorem EnO.b (h : EnO σ E c m) : E = 157 ∧ (c = 160 ∨ 206 < c) ∨ E = 161 ∧ (c = 164 ∨ 206 < c) := by
  rcases h.1 with q | q <;> rcases h.2.2.2.2 with z | z <;> omega
theorem see_ok (hS : Shp σ) {g : GD} (hG : GRD I g) (hE : EnO σ E c m) {B i : Nat} {F : Nat → Int} (hB : σ.1 B = (20, 32)) (hBo : B < E ∨ E + 2 < B) (hi : i < gSz g)
    (hF : ∀ t, t < 32 → (gTo g t).isSome = true → I B t = iI (F t) ∧ -3 ≤ F t ∧ F t ≤ 3) : f_X2_seeLowerMates (xw σ I) E 11 B (nI i) = some (xw σ (slI I E i F (lwM g F i))) := by
  have h16 := (gAll_b g hG.1).2.2.1
  have hm := gMt_b g hG.1 i (by omega)
  have hEb := hE.b
  have hC := hG.2.2.2.2.2.2.1 i (by omega)
  unfold f_X2_seeLowerMates
  rw [xw_pI (hE.T hS), Option.bind_some, xw_pI (hE.T hS), Option.bind_some]
  refine xforE (fun j : Nat => (nI j, xw σ (slI I E i F (((gMt g i).take j).filter (fun q => decide (q.1 < i) && decide (F q.2 ≠ 0)))))) (gMt g i).length ?_ (fun j hj => ?_) ?_
  · congr 2
    funext c k
    simp only [xup_at, slI, List.take_zero, List.filter_nil, List.length_nil, low, List.foldl_nil]
    by_cases h0 : c = E ∧ k = 3
    · simp [h0]
    · by_cases h1 : c = E ∧ k = 2
      · simp [h1]; rfl
      · simp [h0, h1]
  · obtain ⟨L, hL⟩ : ∃ L, L = ((gMt g i).take j).filter (fun q => decide (q.1 < i) && decide (F q.2 ≠ 0)) := ⟨_, rfl⟩
    obtain ⟨q, hq⟩ : ∃ q, q = (gMt g i).getD j (0, 0) := ⟨_, rfl⟩
    have hqe : (gMt g i)[j] = q := by rw [hq, List.getD_eq_getElem?_getD, List.getElem?_eq_getElem hj]; rfl
    have hqm : q ∈ gMt g i := by rw [← hqe]; exact List.getElem_mem hj
    have hqb := hm.2 q hqm
    have hLl : L.length ≤ j := by
      rw [hL]
      refine Nat.le_trans (List.length_filter_le _ _) ?_
      rw [List.length_take]
      omega
    have hnx : ((gMt g i).take (j + 1)).filter (fun q => decide (q.1 < i) && decide (F q.2 ≠ 0)) = if q.1 < i ∧ F q.2 ≠ 0 then L ++ [q] else L := by
      rw [List.take_succ_eq_append_getElem hj, List.filter_append, ← hL, hqe]
      by_cases hp : q.1 < i ∧ F q.2 ≠ 0
      · rw [if_pos hp]
        simp [List.filter_cons, hp.1, hp.2]
      · rw [if_neg hp]
        have : (decide (q.1 < i) && decide (F q.2 ≠ 0)) = false := by
          rw [Bool.and_eq_false_iff, decide_eq_false_iff_not, decide_eq_false_iff_not]
          by_cases z : q.1 < i
          · exact .inr (fun w => hp ⟨z, w⟩)
          · exact .inl z
        simp only [List.filter_cons, this, List.filter_nil]
        simp
    simp only [f_X2_seeLowerMates_b13, hnx, ← hL]
    have hm2 := hG.2.2.2.2.2.2.2.1 i j (by omega) hj
    rw [← hq] at hm2
    have hFq := hF q.2 hqb.2.1 hqb.2.2.2
    have hBl : xal σ B = some (nI 32) := by
      rw [xal_ok (by unfold xT; rw [hB]; decide)]
      unfold xlen
      rw [hB]
    have z0 : (iI (F q.2) = 0) = (F q.2 = 0) := iI_eq (b := 0) (by omega) (by omega) (by omega) (by omega)
    rw [if_neg (by rw [show (4 : Int32) = nI 4 from rfl, nn_le (by omega) (by omega)]; omega)]
    simp (disch := first | assumption | omega) only [Option.bind_some, Option.map_some, xw_gR, xw_gN, xw_al, xw_ck, xw_uI, xw_ur, xup_at, xur_at, if_true, if_false, reduceIte, and_true, true_and, and_false, false_and, not_true_eq_false, not_false_eq_true, Nat.reduceEqDiff, eq_self, Nat.reduceAdd, Nat.reduceMul, kC1, kG1, kP1, kR1_0, kR1_1, kR1_2, kR1_3, kR1_4, kR1_5, kR1_6, kR1_7, kR1_8, kR1_9, kR1_10, kR1_11, kR1_12, kR1_13, kC2, kG2, kP2, kR2_0, kR2_1, kC3, kG3, kP3, kR3_0, kR3_1, kR3_2, kR3_3, kL4, kA4, kS4, kL5, kA5, kS5, kL6, kA6, kS6, kL7, kA7, kS7, kC8, kG8, kP8, kR8_0, kR8_1, kL9, kA9, kS9, kL10, kA10, kS10, kC11, kG11, kP11, kR11_0, kR11_1, kR11_2, kR11_3, kL12, kA12, kS12, kL13, kA13, kS13, kL14, kA14, kS14, kL15, kA15, kS15, kC16, kG16, kP16, kR16_0, kR16_1, kL17, kA17, kS17, kL18, kA18, kS18, kC19, kG19, kP19, kR19_0, kL20, kL141, kL146, kA146, kS146, kL151, kA151, kS151, kL156, kA156, kS156, kC157, kG157, kP157, kR157_0, kR157_1, kL158, kA158, kS158, kL159, kA159, kS159, kC161, kG161, kP161, kR161_0, kR161_1, kL162, kA162, kS162, kL163, kA163, kS163, kC165, kG165, kP165, kR165_0, kR165_1, kR165_2, kR165_3, kL166, kA166, kS166, kL167, kA167, kS167, kL168, kA168, kS168, kL169, kA169, kS169, kC170, kG170, kP170, kR170_0, kR170_1, kR170_2, kL171, kA171, kS171, kL172, kA172, kS172, kL173, kA173, kS173, kC174, kG174, kP174, kR174_0, kR174_1, kR174_2, kR174_3, kR174_4, kL175, kA175, kS175, kL176, kA176, kS176, kL177, kA177, kS177, kL178, kA178, kS178, kL179, kC180, kG180, kP180, kL181, kL182, kA182, kS182, kC183, kG183, kP183, kR183_1, kR183_3, kR183_5, kR183_6, kR183_7, kR183_8, kR183_9, kR183_21, kR183_26, kR183_27, kR183_30, kR183_31, kR183_33, kR183_34, kR183_36, kR183_37, kR183_38, kR183_39, kR183_40, kR183_41, kR183_42, kR183_43, kR183_44, kL184, kA184, kS184, kL185, kA185, kS185, kL186, kA186, kS186, kL187, kA187, kS187, kL188, kA188, kS188, kL189, kL190, kL191, kA191, kS191, kL192, kA192, kS192, kL193, kA193, kS193, kL194, kA194, kS194, kL195, kA195, kS195, kL196, kA196, kS196, kL197, kA197, kS197, kL198, kA198, kS198, kL199, kA199, kS199, kL200, kA200, kS200, kL201, kL202, kA202, kS202, kL203, kA203, kS203, kL204, kA204, kS204, kL205, kL206, kA206, kS206, slI_out, hC, nn_le, show ¬ ((gMt g i).length ≤ j) by omega, show (4 : Int32) = nI 4 from rfl, nn_mul, nn_add, hm2.1, hm2.2]
    by_cases h1 : i ≤ q.1
    · rw [if_pos h1, if_neg (by omega), nI_succ]
    · rw [if_neg h1, if_neg (nI_pos (by omega)), hBl]
      simp (disch := first | assumption | omega) only [Option.bind_some, Option.map_some, xw_gR, xw_gN, xw_al, xw_ck, xw_uI, xw_ur, xup_at, xur_at, if_true, if_false, reduceIte, and_true, true_and, and_false, false_and, not_true_eq_false, not_false_eq_true, Nat.reduceEqDiff, eq_self, Nat.reduceAdd, Nat.reduceMul, kC1, kG1, kP1, kR1_0, kR1_1, kR1_2, kR1_3, kR1_4, kR1_5, kR1_6, kR1_7, kR1_8, kR1_9, kR1_10, kR1_11, kR1_12, kR1_13, kC2, kG2, kP2, kR2_0, kR2_1, kC3, kG3, kP3, kR3_0, kR3_1, kR3_2, kR3_3, kL4, kA4, kS4, kL5, kA5, kS5, kL6, kA6, kS6, kL7, kA7, kS7, kC8, kG8, kP8, kR8_0, kR8_1, kL9, kA9, kS9, kL10, kA10, kS10, kC11, kG11, kP11, kR11_0, kR11_1, kR11_2, kR11_3, kL12, kA12, kS12, kL13, kA13, kS13, kL14, kA14, kS14, kL15, kA15, kS15, kC16, kG16, kP16, kR16_0, kR16_1, kL17, kA17, kS17, kL18, kA18, kS18, kC19, kG19, kP19, kR19_0, kL20, kL141, kL146, kA146, kS146, kL151, kA151, kS151, kL156, kA156, kS156, kC157, kG157, kP157, kR157_0, kR157_1, kL158, kA158, kS158, kL159, kA159, kS159, kC161, kG161, kP161, kR161_0, kR161_1, kL162, kA162, kS162, kL163, kA163, kS163, kC165, kG165, kP165, kR165_0, kR165_1, kR165_2, kR165_3, kL166, kA166, kS166, kL167, kA167, kS167, kL168, kA168, kS168, kL169, kA169, kS169, kC170, kG170, kP170, kR170_0, kR170_1, kR170_2, kL171, kA171, kS171, kL172, kA172, kS172, kL173, kA173, kS173, kC174, kG174, kP174, kR174_0, kR174_1, kR174_2, kR174_3, kR174_4, kL175, kA175, kS175, kL176, kA176, kS176, kL177, kA177, kS177, kL178, kA178, kS178, kL179, kC180, kG180, kP180, kL181, kL182, kA182, kS182, kC183, kG183, kP183, kR183_1, kR183_3, kR183_5, kR183_6, kR183_7, kR183_8, kR183_9, kR183_21, kR183_26, kR183_27, kR183_30, kR183_31, kR183_33, kR183_34, kR183_36, kR183_37, kR183_38, kR183_39, kR183_40, kR183_41, kR183_42, kR183_43, kR183_44, kL184, kA184, kS184, kL185, kA185, kS185, kL186, kA186, kS186, kL187, kA187, kS187, kL188, kA188, kS188, kL189, kL190, kL191, kA191, kS191, kL192, kA192, kS192, kL193, kA193, kS193, kL194, kA194, kS194, kL195, kA195, kS195, kL196, kA196, kS196, kL197, kA197, kS197, kL198, kA198, kS198, kL199, kA199, kS199, kL200, kA200, kS200, kL201, kL202, kA202, kS202, kL203, kA203, kS203, kL204, kA204, kS204, kL205, kL206, kA206, kS206, nn_le, show ¬ (32 ≤ q.2) by omega, xw_aI hB hqb.2.1 (by decide), slI_out hBo, hFq.1, z0]
      by_cases h2 : F q.2 = 0
      · rw [if_pos h2, if_neg (fun z => z.2 h2), nI_succ]
      · rw [if_neg h2, if_pos ⟨by omega, h2⟩]
        have e1 : L.length < 4 := by omega
        simp (disch := first | assumption | omega) only [Option.bind_some, Option.map_some, xw_gR, xw_gN, xw_al, xw_ck, xw_uI, xw_ur, xup_at, xur_at, if_true, if_false, reduceIte, and_true, true_and, and_false, false_and, not_true_eq_false, not_false_eq_true, Nat.reduceEqDiff, eq_self, Nat.reduceAdd, Nat.reduceMul, kC1, kG1, kP1, kR1_0, kR1_1, kR1_2, kR1_3, kR1_4, kR1_5, kR1_6, kR1_7, kR1_8, kR1_9, kR1_10, kR1_11, kR1_12, kR1_13, kC2, kG2, kP2, kR2_0, kR2_1, kC3, kG3, kP3, kR3_0, kR3_1, kR3_2, kR3_3, kL4, kA4, kS4, kL5, kA5, kS5, kL6, kA6, kS6, kL7, kA7, kS7, kC8, kG8, kP8, kR8_0, kR8_1, kL9, kA9, kS9, kL10, kA10, kS10, kC11, kG11, kP11, kR11_0, kR11_1, kR11_2, kR11_3, kL12, kA12, kS12, kL13, kA13, kS13, kL14, kA14, kS14, kL15, kA15, kS15, kC16, kG16, kP16, kR16_0, kR16_1, kL17, kA17, kS17, kL18, kA18, kS18, kC19, kG19, kP19, kR19_0, kL20, kL141, kL146, kA146, kS146, kL151, kA151, kS151, kL156, kA156, kS156, kC157, kG157, kP157, kR157_0, kR157_1, kL158, kA158, kS158, kL159, kA159, kS159, kC161, kG161, kP161, kR161_0, kR161_1, kL162, kA162, kS162, kL163, kA163, kS163, kC165, kG165, kP165, kR165_0, kR165_1, kR165_2, kR165_3, kL166, kA166, kS166, kL167, kA167, kS167, kL168, kA168, kS168, kL169, kA169, kS169, kC170, kG170, kP170, kR170_0, kR170_1, kR170_2, kL171, kA171, kS171, kL172, kA172, kS172, kL173, kA173, kS173, kC174, kG174, kP174, kR174_0, kR174_1, kR174_2, kR174_3, kR174_4, kL175, kA175, kS175, kL176, kA176, kS176, kL177, kA177, kS177, kL178, kA178, kS178, kL179, kC180, kG180, kP180, kL181, kL182, kA182, kS182, kC183, kG183, kP183, kR183_1, kR183_3, kR183_5, kR183_6, kR183_7, kR183_8, kR183_9, kR183_21, kR183_26, kR183_27, kR183_30, kR183_31, kR183_33, kR183_34, kR183_36, kR183_37, kR183_38, kR183_39, kR183_40, kR183_41, kR183_42, kR183_43, kR183_44, kL184, kA184, kS184, kL185, kA185, kS185, kL186, kA186, kS186, kL187, kA187, kS187, kL188, kA188, kS188, kL189, kL190, kL191, kA191, kS191, kL192, kA192, kS192, kL193, kA193, kS193, kL194, kA194, kS194, kL195, kA195, kS195, kL196, kA196, kS196, kL197, kA197, kS197, kL198, kA198, kS198, kL199, kA199, kS199, kL200, kA200, kS200, kL201, kL202, kA202, kS202, kL203, kA203, kS203, kL204, kA204, kS204, kL205, kL206, kA206, kS206, hE.R0 hS, hE.R1 hS, xw_gI (hE.T hS), slI_2, xw_sI (hE.K1 hS) e1 (by decide), xw_sI (hE.K2 hS) e1 (by decide), xw_pI (hE.T hS), show ¬ (E = E + 1) by omega, show ¬ (E = E + 2) by omega, show ¬ (B = E + 1) by omega, xw_aI hB hqb.2.1 (by decide), slI_out hBo, hFq.1, slI_3, show (1 : Int32) = nI 1 from rfl, nn_add, show ¬ (3 = 2) by omega]
        have hlo : low i L ≤ i := (low_le L i).1
        rw [xmin_n (by omega) (by omega), slI_s]
  · simp only [f_X2_seeLowerMates_b13]
    have ha : ((gMt g i).take (gMt g i).length).filter (fun q => decide (q.1 < i) && decide (F q.2 ≠ 0)) = lwM g F i := by rw [List.take_length]; rfl
    rw [ha]
    by_cases h4 : (4 : Int32) ≤ nI (gMt g i).length
    · rw [if_pos h4]; rfl
    · rw [if_neg h4]
      have := hm.1
      simp (disch := first | assumption | omega) only [Option.bind_some, Option.map_some, xw_gR, xw_gN, xw_al, xw_ck, xw_uI, xw_ur, xup_at, xur_at, if_true, if_false, reduceIte, and_true, true_and, and_false, false_and, not_true_eq_false, not_false_eq_true, Nat.reduceEqDiff, eq_self, Nat.reduceAdd, Nat.reduceMul, kC1, kG1, kP1, kR1_0, kR1_1, kR1_2, kR1_3, kR1_4, kR1_5, kR1_6, kR1_7, kR1_8, kR1_9, kR1_10, kR1_11, kR1_12, kR1_13, kC2, kG2, kP2, kR2_0, kR2_1, kC3, kG3, kP3, kR3_0, kR3_1, kR3_2, kR3_3, kL4, kA4, kS4, kL5, kA5, kS5, kL6, kA6, kS6, kL7, kA7, kS7, kC8, kG8, kP8, kR8_0, kR8_1, kL9, kA9, kS9, kL10, kA10, kS10, kC11, kG11, kP11, kR11_0, kR11_1, kR11_2, kR11_3, kL12, kA12, kS12, kL13, kA13, kS13, kL14, kA14, kS14, kL15, kA15, kS15, kC16, kG16, kP16, kR16_0, kR16_1, kL17, kA17, kS17, kL18, kA18, kS18, kC19, kG19, kP19, kR19_0, kL20, kL141, kL146, kA146, kS146, kL151, kA151, kS151, kL156, kA156, kS156, kC157, kG157, kP157, kR157_0, kR157_1, kL158, kA158, kS158, kL159, kA159, kS159, kC161, kG161, kP161, kR161_0, kR161_1, kL162, kA162, kS162, kL163, kA163, kS163, kC165, kG165, kP165, kR165_0, kR165_1, kR165_2, kR165_3, kL166, kA166, kS166, kL167, kA167, kS167, kL168, kA168, kS168, kL169, kA169, kS169, kC170, kG170, kP170, kR170_0, kR170_1, kR170_2, kL171, kA171, kS171, kL172, kA172, kS172, kL173, kA173, kS173, kC174, kG174, kP174, kR174_0, kR174_1, kR174_2, kR174_3, kR174_4, kL175, kA175, kS175, kL176, kA176, kS176, kL177, kA177, kS177, kL178, kA178, kS178, kL179, kC180, kG180, kP180, kL181, kL182, kA182, kS182, kC183, kG183, kP183, kR183_1, kR183_3, kR183_5, kR183_6, kR183_7, kR183_8, kR183_9, kR183_21, kR183_26, kR183_27, kR183_30, kR183_31, kR183_33, kR183_34, kR183_36, kR183_37, kR183_38, kR183_39, kR183_40, kR183_41, kR183_42, kR183_43, kR183_44, kL184, kA184, kS184, kL185, kA185, kS185, kL186, kA186, kS186, kL187, kA187, kS187, kL188, kA188, kS188, kL189, kL190, kL191, kA191, kS191, kL192, kA192, kS192, kL193, kA193, kS193, kL194, kA194, kS194, kL195, kA195, kS195, kL196, kA196, kS196, kL197, kA197, kS197, kL198, kA198, kS198, kL199, kA199, kS199, kL200, kA200, kS200, kL201, kL202, kA202, kS202, kL203, kA203, kS203, kL204, kA204, kS204, kL205, kL206, kA206, kS206, slI_out, hC, nn_le, Nat.le_refl]
end ENO
end
section
/-! a site is added -/
def lsP (J : Nat → Nat → Int32) (E i : Nat) (F : Nat → Int) (L : List (Nat × Nat)) : Prop := J E 2 = nI L.length ∧ J E 3 = nI (low i L) ∧ ∀ k, k < L.length → J (E + 1) k = nI (L.getD k (0, 0)).1 ∧ J (E + 2) k = iI (F (L.getD k (0, 0)).2)
theorem slI_P {I : Nat → Nat → Int32} {E i : Nat} {F : Nat → Int} {L : List (Nat × Nat)} : lsP (slI I E i F L) E i F L := ⟨slI_2, slI_3, fun k hk => ⟨slI_a hk, slI_b hk⟩⟩
def adI (J : Nat → Nat → Int32) (c i : Nat) (P : Nat → Int) (M : Nat) : Nat → Nat → Int32 := fun d k => if d = c ∧ k < M then J c k + iI (P k) else if d = c ∧ 2 ^ i ≤ k ∧ k < 2 ^ i + M then J c (k - 2 ^ i) - iI (P (k - 2 ^ i)) else J d k
theorem adI_0 {J : Nat → Nat → Int32} {c i : Nat} {P : Nat → Int} : adI J c i P 0 = J := by
  funext d k
  unfold adI
  rw [if_neg (by omega), if_neg (by omega)]
theorem adI_out {J : Nat → Nat → Int32} {c i : Nat} {P : Nat → Int} {M d k : Nat} (h : d ≠ c) : adI J c i P M d k = J d k := by
  unfold adI
  rw [if_neg (fun z => h z.1), if_neg (fun z => h z.1)]
theorem adI_at {J : Nat → Nat → Int32} {c i : Nat} {P : Nat → Int} {M : Nat} (h : M < 2 ^ i) : adI J c i P M c M = J c M := by
  unfold adI
  rw [if_neg (by omega), if_neg (by omega)]
theorem adI_s {J : Nat → Nat → Int32} {c i : Nat} {P : Nat → Int} {M : Nat} (h : M < 2 ^ i) : xup (xup (adI J c i P M) c (2 ^ i + M) (J c M - iI (P M))) c M (J c M + iI (P M)) = adI J c i P (M + 1) := by
  funext d k
  simp only [xup_at, adI]
  by_cases h0 : d = c
  · subst h0
    simp only [true_and]
    by_cases h1 : k = M
    · subst h1
      rw [if_pos rfl, if_pos (by omega)]
    · rw [if_neg h1]
      by_cases h2 : k = 2 ^ i + M
      · subst h2
        rw [if_pos rfl, if_neg (by omega), if_pos (by omega), show 2 ^ i + M - 2 ^ i = M by omega]
      · rw [if_neg h2]
        by_cases h3 : k < M
        · rw [if_pos h3, if_pos (by omega)]
        · rw [if_neg h3, if_neg (show ¬ k < M + 1 by omega)]
          by_cases h4 : 2 ^ i ≤ k ∧ k < 2 ^ i + M
          · rw [if_pos h4, if_pos (by omega)]
          · rw [if_neg h4, if_neg (by omega)]
  · simp [h0]
section ADD
variable {σ : XS} {J : Nat → Nat → Int32} {E c m : Nat}
theorem pulled_ok (hS : Shp σ) (hE : EnO σ E c m) {i s : Nat} {F : Nat → Int} {L : List (Nat × Nat)} (hL : lsP J E i F L) (hl : L.length ≤ 4) (hb : ∀ q ∈ L, q.1 < 32) (hs : s < 2147483648) : f_X2_pulledByMates (xw σ J) E (nI s) = some (iI ((L.map (fun q => if s.testBit q.1 then F q.2 else -F q.2)).sum)) := by
  unfold f_X2_pulledByMates
  rw [← lsum_get _ (0, 0)]
  refine xforE (fun j : Nat => (iI (fb_si (fun j => (fun q : Nat × Nat => if s.testBit q.1 then F q.2 else -F q.2) (L.getD j (0, 0))) j), nI j)) L.length rfl (fun j hj => ?_) ?_
  · simp only [f_X2_pulledByMates_b4]
    have hq := hb (L.getD j (0, 0)) (by rw [List.getD_eq_getElem?_getD, List.getElem?_eq_getElem hj]; exact List.getElem_mem hj)
    have e4 : (nI L.length ≤ nI j) = False := by rw [nn_le (by omega) (by omega)]; exact eq_false (by omega)
    have e5 : ((4 : Int32) ≤ nI j) = False := by rw [show (4 : Int32) = nI 4 from rfl, nn_le (by omega) (by omega)]; exact eq_false (by omega)
    simp only [xw_gI (hE.T hS), Option.bind_some, hL.1, e4, e5, if_false, xw_gR, hE.R0 hS, hE.R1 hS, xw_aI (hE.K1 hS) (show j < 4 by omega) (show 4 < 2147483648 by decide), xw_aI (hE.K2 hS) (show j < 4 by omega) (show 4 < 2147483648 by decide), (hL.2.2 j hj).1, (hL.2.2 j hj).2, nn_bit hs hq, bI_1, iI_neg, iI_add, fb_si_succ, ← nI_succ]
    by_cases hbit : s.testBit (L.getD j (0, 0)).1 = true
    · rw [if_pos hbit, if_pos hbit]
    · rw [if_neg hbit, if_neg hbit]
  · simp only [f_X2_pulledByMates_b4]
    rw [xw_gI (hE.T hS), Option.bind_some, hL.1, if_pos (by rw [nn_le (by omega) (by omega)]; exact Nat.le_refl _)]
    rfl
theorem add_in (hS : Shp σ) (hE : EnO σ E c m) {i bk fi n : Nat} {x2 : Int32} (P : Nat → Int) (z : Int) (hi : i ≤ 15) (hm : 2 ^ (i + 1) ≤ m) (hf : fi + n ≤ 2 ^ i) (hz : ∀ r, r < n → P (fi + r) = z) :
    xloop (f_X2_addSite_b35 E x2 (nI (2 ^ i)) (nI n) (nI fi) (iI z)) (nI fi, xw σ (adI J c i P fi)) = some (.inl (nI (fi + n), xw σ (adI J c i P (fi + n)))) := by
  have hp : 2 ^ (i + 1) = 2 ^ i + 2 ^ i := by rw [Nat.pow_succ]; omega
  have hp2 : 2 ^ i ≤ 2 ^ 15 := Nat.pow_le_pow_right (by decide) hi
  have hp3 : (2 : Nat) ^ 15 = 32768 := by decide
  refine xforE (fun r : Nat => (nI (fi + r), xw σ (adI J c i P (fi + r)))) n rfl (fun r hr => ?_) ?_
  · simp only [f_X2_addSite_b35]
    have e1 : (nI (fi + n) ≤ nI (fi + r)) = False := by rw [nn_le (by omega) (by omega)]; exact eq_false (by omega)
    have e2 : (nI m ≤ nI (2 ^ i + (fi + r))) = False := by
      have := hE.2.2.2.1
      rw [nn_le (by omega) (by omega)]; exact eq_false (by omega)
    have e3 : adI J c i P (fi + r) c (fi + r) = J c (fi + r) := adI_at (by omega)
    have e4 : ¬ (fi + r = 2 ^ i + (fi + r)) := by have := Nat.two_pow_pos i; omega
    have h1 := xw_aI (σ := σ) (I := adI J c i P (fi + r)) hE.2.2.1 (show fi + r < m by omega) (by have := hE.2.2.2.1; omega)
    simp only [e1, if_false, xw_gR, hE.R4 hS, Option.bind_some, xw_al, hE.L, e2, h1, e3, nn_add, xw_sI hE.2.2.1 (show 2 ^ i + (fi + r) < m by omega) (show m < 2147483648 by have := hE.2.2.2.1; omega), xw_aI hE.2.2.1 (show fi + r < m by omega) (show m < 2147483648 by have := hE.2.2.2.1; omega), xup_at, e4, and_false, xw_sI hE.2.2.1 (show fi + r < m by omega) (show m < 2147483648 by have := hE.2.2.2.1; omega)]
    rw [← hz r hr, adI_s (by omega), ← nI_succ]
    rfl
  · simp only [f_X2_addSite_b35]
    rw [if_pos (by rw [nn_add, nn_le (by omega) (by omega)]; exact Nat.le_refl _), nn_add]
    rfl
theorem add_ok (hS : Shp σ) {g : GD} (hg : g ∈ gAll) (hE : EnO σ E c m) {i : Nat} {F : Nat → Int} (hi : i < gSz g) (hm : 2 ^ (i + 1) ≤ m) (hL : lsP J E i F (lwM g F i)) {v : Int32} (hv : v = iI (F (32 + i))) :
    f_X2_addSite (xw σ J) E (nI i) v = some (xw σ (adI J c i (plS g F i) (2 ^ i))) := by
  have h16 := (gAll_b g hg).2.2.1
  have hM := gMt_b g hg i (by omega)
  have hlo := low_le (lwM g F i) i
  have hl4 : (lwM g F i).length ≤ 4 := Nat.le_trans (List.length_filter_le _ _) hM.1
  have hlb : ∀ q ∈ lwM g F i, q.1 < 32 := fun q hq => by have := hM.2 q (List.mem_filter.mp hq).1; omega
  have hEb := hE.b
  obtain ⟨lo, hlo2⟩ : ∃ lo, lo = low i (lwM g F i) := ⟨_, rfl⟩
  rw [← hlo2] at hlo
  have hpp : 2 ^ i = 2 ^ (i - lo) * 2 ^ lo := by rw [← Nat.pow_add]; congr 1; omega
  have hp2 : 2 ^ i ≤ 2 ^ 15 := Nat.pow_le_pow_right (by decide) (by omega)
  have hp3 : (2 : Nat) ^ 15 = 32768 := by decide
  have hpl : 0 < 2 ^ lo := Nat.two_pow_pos lo
  unfold f_X2_addSite
  rw [xw_gI (hE.T hS), Option.bind_some, hL.2.1, ← hlo2, nn_one (by omega), nn_one (by omega)]
  refine xforE (fun b : Nat => (nI (b * 2 ^ lo), xw σ (adI J c i (plS g F i) (b * 2 ^ lo)))) (2 ^ (i - lo)) (by simp only [Nat.zero_mul, adI_0]; rfl) (fun b hb => ?_) ?_
  · have hb2 : (b + 1) * 2 ^ lo ≤ 2 ^ i := by rw [hpp]; exact Nat.mul_le_mul_right _ hb
    have hb3 : (b + 1) * 2 ^ lo = b * 2 ^ lo + 2 ^ lo := by rw [Nat.succ_mul]
    have hL2 : lsP (adI J c i (plS g F i) (b * 2 ^ lo)) E i F (lwM g F i) := by
      refine ⟨?_, ?_, fun k hk => ⟨?_, ?_⟩⟩
      · rw [adI_out (by omega)]; exact hL.1
      · rw [adI_out (by omega)]; exact hL.2.1
      · rw [adI_out (by omega)]; exact (hL.2.2 k hk).1
      · rw [adI_out (by omega)]; exact (hL.2.2 k hk).2
    simp only [f_X2_addSite_b15]
    rw [if_neg (by rw [nn_le (by omega) (by omega)]; omega), xw_ck, xck_ok (hE.T hS), Option.bind_some, pulled_ok hS hE hL2 hl4 hlb (by omega), Option.bind_some, hv, iI_add]
    rw [hb3]
    exact add_in (bk := 0) hS hE (plS g F i) (plS g F i (b * 2 ^ lo)) (by omega) hm (by omega) (fun r hr => plS_block (fun q hq => hlo.2 q hq) hr)
  · simp only [f_X2_addSite_b15]
    rw [← hpp, if_pos (by rw [nn_le (by omega) (by omega)]; exact Nat.le_refl _)]
    rfl
end ADD
end
section
/-! the energies of all states of the first sites -/
theorem EnO.mem {σ : XS} {E c m : Nat} (h : EnO σ E c m) (I : Nat → Nat → Int32) : EnO (xw σ I) E c m := h
section FILL
variable {σ : XS} {I : Nat → Nat → Int32} {E c m : Nat} {g : GD}
/-- the row of the first i sites' states, and nothing else changed but the marks of E -/
def flP (I J : Nat → Nat → Int32) (E c : Nat) (g : GD) (F : Nat → Int) (i : Nat) : Prop := (∀ s, s < 2 ^ i → J c s = iI (eP g F i s)) ∧ ∀ a k, a ≠ c → (a < E ∨ E + 2 < a ∨ (a = E ∧ k ≠ 2 ∧ k ≠ 3)) → J a k = I a k
theorem fill_l (hS : Shp σ) (hG : GRD I g) (hE : EnO σ E c m) {B H k : Nat} {F : Nat → Int} (hB : σ.1 B = (20, 32)) (hH : σ.1 H = (20, 16)) (hBo : B < E ∨ E + 2 < B) (hHo : H < E ∨ E + 2 < H) (hBc : B ≠ c) (hHc : H ≠ c) (hk : k ≤ gSz g) (hm : 2 ^ k ≤ m)
    (hF : ∀ t, t < 32 → (gTo g t).isSome = true → I B t = iI (F t) ∧ -3 ≤ F t ∧ F t ≤ 3) (hF2 : ∀ i, i < gSz g → I H i = iI (F (32 + i))) :
    ∃ J, f_X2_fill_j35 (xw σ I) E 11 B H (nI k) = some (xw σ J) ∧ flP I J E c g F k := by
  have h16 := (gAll_b g hG.1).2.2.1
  have hEb := hE.b
  have hm0 : 0 < m := Nat.lt_of_lt_of_le (Nat.two_pow_pos k) hm
  have hm1 := hE.2.2.2.1
  unfold f_X2_fill_j35
  rw [xw_gR, hE.R4 hS, Option.bind_some, show (0 : Int32) = nI 0 from rfl, xw_sI hE.2.2.1 hm0 (by omega), Option.bind_some]
  have key : ∃ τ, xloop (f_X2_fill_b45 E 11 B H (nI k)) (nI 0, xw σ (xup I c 0 (nI 0))) = some τ ∧ ∃ J, τ = xw σ J ∧ flP I J E c g F k := by
    refine xforI (fun i x => ∃ J, x = (nI i, xw σ J) ∧ flP I J E c g F i) k ⟨_, rfl, ?_, ?_⟩ ?_ ?_
    · intro s hs
      have : s = 0 := by simpa using hs
      subst this
      rw [xup_at, if_pos ⟨rfl, rfl⟩]
      have e : eP g F 0 0 = 0 := by
        unfold eP
        rw [fb_si_z (k := 0) (by omega) (fun t _ _ => by
          have : gIn g 0 t = false := by
            unfold gIn
            split
            · rfl
            · simp
          rw [this]; rfl)]
        rfl
      rw [e]; rfl
    · intro a k h1 h2
      rw [xup_at, if_neg (by omega)]
    · rintro i x hi ⟨J, rfl, hJ1, hJ2⟩
      have hiz : i < gSz g := by omega
      have hG2 : GRD J g := GRD_c (fun a k z => hJ2 a k (by unfold sGRD at z; omega) (by unfold sGRD at z; omega)) hG
      have hFJ : ∀ t, t < 32 → (gTo g t).isSome = true → J B t = iI (F t) ∧ -3 ≤ F t ∧ F t ≤ 3 := fun t ht h => by rw [hJ2 B t hBc (by omega)]; exact hF t ht h
      have hHl : xal σ H = some (nI 16) := by
        rw [xal_ok (by unfold xT; rw [hH]; decide)]
        unfold xlen
        rw [hH]
      have hpw : 2 ^ (i + 1) ≤ m := Nat.le_trans (Nat.pow_le_pow_right (by decide) (by omega)) hm
      refine ⟨(nI (i + 1), xw σ (adI (slI J E i F (lwM g F i)) c i (plS g F i) (2 ^ i))), ?_, _, rfl, ?_, ?_⟩
      · simp only [f_X2_fill_b45]
        rw [if_neg (by rw [nn_le (by omega) (by omega)]; omega), xw_al, hHl, Option.bind_some, if_neg (by rw [nn_le (by omega) (by omega)]; omega), xw_ck, xck_ok (hE.T hS), Option.bind_some, see_ok hS hG2 hE hB hBo hiz hFJ, Option.bind_some, xw_aI hH (by omega) (by decide), Option.bind_some, xw_ck, xck_ok (hE.T hS), Option.bind_some, add_ok hS hG.1 hE hiz hpw slI_P (by rw [slI_out hHo, hJ2 H i hHc (by omega)]; exact hF2 i hiz), Option.bind_some, nI_succ]
      · intro s hs
        have hp : 2 ^ (i + 1) = 2 ^ i + 2 ^ i := by rw [Nat.pow_succ]; omega
        unfold adI
        by_cases h1 : s < 2 ^ i
        · rw [if_pos ⟨rfl, h1⟩, slI_out (by omega), hJ1 s h1, iI_add, eP_lo hG.1 F hiz h1]
        · rw [if_neg (by omega), if_pos ⟨rfl, by omega, by omega⟩, slI_out (by omega), hJ1 _ (by omega), iI_sub, ← eP_hi hG.1 F hiz (by omega), show 2 ^ i + (s - 2 ^ i) = s by omega]
      · intro a k h1 h2
        rw [adI_out h1]
        rcases h2 with h2 | h2 | h2
        · rw [slI_out (by omega)]; exact hJ2 a k h1 (by omega)
        · rw [slI_out (by omega)]; exact hJ2 a k h1 (by omega)
        · rw [h2.1, slI_ot h2.2.1 h2.2.2]; exact hJ2 E k (by omega) (by omega)
    · rintro x ⟨J, rfl, hJ⟩
      refine ⟨xw σ J, ?_, J, rfl, hJ⟩
      simp only [f_X2_fill_b45]
      rw [if_pos (by rw [nn_le (by omega) (by omega)]; exact Nat.le_refl _)]
      rfl
  obtain ⟨τ, h1, J, rfl, h2⟩ := key
  exact ⟨J, h1, h2⟩
end FILL
/-- what filling leaves -/
def FlR (σ : XS) (I : Nat → Nat → Int32) (E : Nat) (g : GD) (F : Nat → Int) (k : Nat) (a : Nat) (τ : XS) : Prop := Shp τ ∧ (∃ c a', EnO τ E c (2 ^ a') ∧ a ≤ a' ∧ a' ≤ 16 ∧ k ≤ a' ∧ c ≤ xn τ ∧ (c = xR σ E 4 ∨ c = xn σ + 1) ∧ xn τ ≤ xn σ + (a' - a) ∧ xz τ ≤ xz σ + 65536 * (a' - a) ∧ (∀ s, s < 2 ^ k → xI τ c s = iI (eP g F k s)) ∧
  ∀ b j, b ≠ c → b ≤ xn σ → (b < E ∨ E + 2 < b ∨ (b = E ∧ j ≠ 2 ∧ j ≠ 3)) → xI τ b j = I b j) ∧ xn σ ≤ xn τ ∧ (∀ b, b ≤ xn σ → τ.1 b = σ.1 b) ∧ (∀ b j, b ≤ xn σ → ¬ (b = E ∧ j = 4) → xR τ b j = xR σ b j) ∧ ∀ b j, b ≤ xn σ → xL τ b j = xL σ b j
theorem fill11_ok {σ : XS} {I : Nat → Nat → Int32} {E c a : Nat} {g : GD} (hS : Shp σ) (hG : GRD I g) (hE : EnO σ E c (2 ^ a)) (ha : a ≤ 16) (hcn : c ≤ xn σ) {B H k : Nat} {F : Nat → Int} (hB : σ.1 B = (20, 32)) (hH : σ.1 H = (20, 16)) (hBo : B < E ∨ E + 2 < B) (hHo : H < E ∨ E + 2 < H) (hBc : B ≠ c) (hHc : H ≠ c) (hB2 : B < 207) (hH2 : H < 207) (hk : k ≤ gSz g)
    (hF : ∀ t, t < 32 → (gTo g t).isSome = true → I B t = iI (F t) ∧ -3 ≤ F t ∧ F t ≤ 3) (hF2 : ∀ i, i < gSz g → I H i = iI (F (32 + i))) :
    ∃ τ, f_X2_fill (xw σ I) E 11 B H (nI k) = some τ ∧ FlR σ I E g F k a τ := by
  have h16 := (gAll_b g hG.1).2.2.1
  have hEb := hE.b
  have hp : 2 ^ k ≤ 2 ^ 16 := Nat.pow_le_pow_right (by decide) (by omega)
  have hpa : 2 ^ a ≤ 2 ^ 16 := Nat.pow_le_pow_right (by decide) ha
  have h65 : (2 : Nat) ^ 16 = 65536 := by decide
  unfold f_X2_fill
  rw [if_neg (nI_pos (by omega)), if_pos (by rw [show (16 : Int32) = nI 16 from rfl, nn_le (by omega) (by omega)]; omega), xw_gR, hE.R4 hS, Option.bind_some, xw_al, hE.L, Option.bind_some, nn_one (by omega)]
  by_cases hle : 2 ^ k ≤ 2 ^ a
  · rw [if_pos (by rw [nn_le (by omega) (by omega)]; exact hle)]
    obtain ⟨J, e1, e2, e3⟩ := fill_l hS hG hE hB hH hBo hHo hBc hHc hk hle hF hF2
    refine ⟨xw σ J, e1, hS, ⟨c, a, hE, Nat.le_refl _, ha, (Nat.pow_le_pow_iff_right (by decide)).mp hle, hcn, .inl hE.2.1.symm, by show xn σ ≤ _; omega, by show xz σ ≤ _; omega, e2, fun b j h1 _ h2 => e3 b j h1 h2⟩, Nat.le_refl _, fun _ _ => rfl, fun _ _ _ _ => rfl, fun _ _ _ => rfl⟩
  · rw [if_neg (by rw [nn_le (by omega) (by omega)]; exact hle)]
    have hak : a < k := by
      rcases Nat.lt_or_ge a k with h | h
      · exact h
      · exact absurd (Nat.pow_le_pow_right (by decide) h) hle
    rw [xnA_ok (σ := xw σ I) (by omega), Option.bind_some]
    dsimp only
    unfold f_X2_fill_j32
    rw [xnz_ok (by omega), Option.bind_some]
    have hn206 : 206 ≤ xn σ := hS.1
    have hEn : E ≠ xn σ + 1 := by omega
    have hT1 : xT (xnew (xw σ I) 20 (2 ^ k) (2 ^ k)) E = 2 := by
      rw [hT_new, if_neg (show ¬ E = xn (xw σ I) + 1 from hEn)]
      exact hE.T hS
    rw [xpR_ok hT1, Option.bind_some]
    obtain ⟨σ2, hσ2⟩ : ∃ σ2, σ2 = xuR (xnew (xw σ I) 20 (2 ^ k) (2 ^ k)) E 4 (xn σ + 1) := ⟨_, rfl⟩
    have k2 : ∀ b, b ≤ xn σ → σ2.1 b = σ.1 b := fun b hb => by
      rw [hσ2]
      show (if b = xn σ + 1 then ((20, 2 ^ k) : Nat × Nat) else σ.1 b) = σ.1 b
      rw [if_neg (by omega)]
    have kn : σ2.1 (xn σ + 1) = (20, 2 ^ k) := by
      rw [hσ2]
      show (if xn σ + 1 = xn σ + 1 then ((20, 2 ^ k) : Nat × Nat) else σ.1 _) = _
      rw [if_pos rfl]
    have i2 : ∀ b j, b ≤ xn σ → xI σ2 b j = I b j := fun b j hb => by
      rw [hσ2, hI_uR, hI_new]
      rw [if_neg (show ¬ b = xn (xw σ I) + 1 by show ¬ b = xn σ + 1; omega)]
      rfl
    have r2 : ∀ b j, b ≤ xn σ → ¬ (b = E ∧ j = 4) → xR σ2 b j = xR σ b j := fun b j hb h => by
      rw [hσ2, hR_uR, if_neg h, hR_new, if_neg (show ¬ b = xn (xw σ I) + 1 by show ¬ b = xn σ + 1; omega)]
      rfl
    have rE : xR σ2 E 4 = xn σ + 1 := by rw [hσ2, hR_uR, if_pos ⟨rfl, rfl⟩]
    have l2 : ∀ b j, b ≤ xn σ → xL σ2 b j = xL σ b j := fun b j hb => by
      rw [hσ2, hL_uR, hL_new, if_neg (show ¬ b = xn (xw σ I) + 1 by show ¬ b = xn σ + 1; omega)]
      rfl
    have n2 : xn σ2 = xn σ + 1 := by rw [hσ2]; rfl
    have z2 : xz σ2 = xz σ + 2 ^ k := by rw [hσ2]; rfl
    have hS2 : Shp σ2 := by
      refine ⟨by omega, fun b hb h1 h2 => (k2 b (by omega)).trans (hS.2.1 b hb h1 h2), fun b hb j hj => ?_⟩
      rw [r2 b j (by omega) (by
        rintro ⟨z1, z2⟩
        subst z2
        rcases hE.1 with q | q
        · rw [z1, q] at hj; exact hj (by decide +kernel)
        · rw [z1, q] at hj; exact hj (by decide +kernel))]
      exact hS.2.2 b hb j hj
    have hG2 : GRD (xI σ2) g := GRD_c (fun b j z => i2 b j (by unfold sGRD at z; omega)) hG
    have hE2 : EnO σ2 E (xn σ + 1) (2 ^ k) := ⟨hE.1, rE, kn, by omega, .inr (by omega)⟩
    obtain ⟨J, e1, e2, e3⟩ := fill_l (I := xI σ2) hS2 hG2 hE2 ((k2 B (by omega)).trans hB) ((k2 H (by omega)).trans hH) hBo hHo (by omega) (by omega) hk (Nat.le_refl _) (fun t ht h => by rw [i2 B t (by omega)]; exact hF t ht h) (fun i hi => by rw [i2 H i (by omega)]; exact hF2 i hi)
    refine ⟨xw σ2 J, ?_, hS2, ⟨xn σ + 1, k, hE2, by omega, by omega, Nat.le_refl _, by show _ ≤ xn σ2; omega, .inr rfl, by show xn σ2 ≤ _; omega, by show xz σ2 ≤ _; omega, e2, fun b j h1 h2 h3 => (e3 b j h1 h3).trans (i2 b j h2)⟩, by show _ ≤ xn σ2; omega, k2, r2, l2⟩
    have e0 : xn (xw σ I) + 1 = xn σ + 1 := rfl
    rw [e0, ← hσ2]
    exact e1
end
