section
/-! ints as whole numbers; ints as natural numbers -/
def iI (z : Int) : Int32 := Int32.ofInt z
theorem iI_n (n : Nat) : nI n = iI (n : Int) := by
  apply Int32.toBitVec_inj.mp
  show BitVec.ofNat 32 n = BitVec.ofInt 32 (n : Int)
  rw [BitVec.ofInt_natCast]
theorem iI_add (a b : Int) : iI a + iI b = iI (a + b) := (Int32.ofInt_add a b).symm
theorem iI_sub (a b : Int) : iI a - iI b = iI (a - b) := (Int32.ofInt_sub a b).symm
theorem iI_mul (a b : Int) : iI a * iI b = iI (a * b) := (Int32.ofInt_mul a b).symm
theorem iI_neg (a : Int) : -iI a = iI (-a) := (Int32.ofInt_neg a).symm
theorem iI_lit (n : Nat) : (OfNat.ofNat n : Int32) = iI (n : Int) := iI_n n
theorem iI_of (x : Int32) : x = iI x.toInt := (Int32.ofInt_toInt x).symm
theorem iI_ti {z : Int} (h1 : -2147483648 ≤ z) (h2 : z < 2147483648) : (iI z).toInt = z := fb_ofI h1 h2
theorem iI_lt {a b : Int} (h1 : -2147483648 ≤ a) (h2 : a < 2147483648) (h3 : -2147483648 ≤ b) (h4 : b < 2147483648) : (iI a < iI b) = (a < b) := by
  rw [fa_lt, iI_ti h1 h2, iI_ti h3 h4]
theorem iI_le {a b : Int} (h1 : -2147483648 ≤ a) (h2 : a < 2147483648) (h3 : -2147483648 ≤ b) (h4 : b < 2147483648) : (iI a ≤ iI b) = (a ≤ b) := by
  rw [fa_le, iI_ti h1 h2, iI_ti h3 h4]
theorem iI_eq {a b : Int} (h1 : -2147483648 ≤ a) (h2 : a < 2147483648) (h3 : -2147483648 ≤ b) (h4 : b < 2147483648) : (iI a = iI b) = (a = b) := by
  rw [fa_eq, iI_ti h1 h2, iI_ti h3 h4]
theorem nn_lit (n : Nat) : (OfNat.ofNat n : Int32) = nI n := rfl
theorem nn_add (a b : Nat) : nI a + nI b = nI (a + b) := by rw [iI_n, iI_n, iI_n, iI_add]; rfl
theorem nn_mul (a b : Nat) : nI a * nI b = nI (a * b) := by rw [iI_n, iI_n, iI_n, iI_mul]; rfl
theorem nn_sub {a b : Nat} (h : b ≤ a) : nI a - nI b = nI (a - b) := by
  rw [iI_n, iI_n, iI_n, iI_sub, Int.ofNat_sub h]
theorem nn_lt {a b : Nat} (ha : a < 2147483648) (hb : b < 2147483648) : (nI a < nI b) = (a < b) := by
  rw [fa_lt, nI_toInt ha, nI_toInt hb]; exact propext Int.ofNat_lt
theorem nn_le {a b : Nat} (ha : a < 2147483648) (hb : b < 2147483648) : (nI a ≤ nI b) = (a ≤ b) := by
  rw [fa_le, nI_toInt ha, nI_toInt hb]; exact propext Int.ofNat_le
theorem nn_eq {a b : Nat} (ha : a < 2147483648) (hb : b < 2147483648) : (nI a = nI b) = (a = b) := by
  rw [fa_eq, nI_toInt ha, nI_toInt hb]; exact propext Int.ofNat_inj
/-- an int that isn't negative is a number -/
theorem nn_of {x : Int32} (h : ¬ x < 0) : ∃ n, n < 2147483648 ∧ x = nI n := by
  have hx : 0 ≤ x.toInt := by rw [fa_lt] at h; exact Int.not_lt.mp h
  have h2 := x.toInt_lt
  refine ⟨x.toInt.toNat, by omega, ?_⟩
  rw [iI_n, Int.toNat_of_nonneg hx]
  exact iI_of x
theorem nn_nneg {a : Nat} (ha : a < 2147483648) : (nI a < 0) = False := eq_false (nI_pos ha)
theorem nn_m1 {a : Nat} (ha : a < 2147483648) : (nI a = -1) = False := by
  apply eq_false
  intro h
  have := congrArg Int32.toInt h
  rw [nI_toInt ha] at this
  have e : (-1 : Int32).toInt = -1 := by decide
  rw [e] at this
  omega
theorem nn_m1' {a : Nat} (ha : a < 2147483648) : (-1 = nI a) = False := by
  apply eq_false
  intro h
  exact (Eq.mp (nn_m1 ha) h.symm)
theorem nn_mz : ((-1 : Int32) < 0) = True := eq_true (by decide)
theorem nn_div {a b : Nat} (ha : a < 2147483648) (hb : b < 2147483648) : nI a / nI b = nI (a / b) := by
  apply Int32.toInt_inj.mp
  rw [Int32.toInt_div, nI_toInt ha, nI_toInt hb, nI_toInt (Nat.lt_of_le_of_lt (Nat.div_le_self a b) ha), Int.tdiv_eq_ediv_of_nonneg (by omega)]
  have h1 : ((a : Int) / (b : Int)) = ((a / b : Nat) : Int) := by simp
  have h2 : a / b ≤ a := Nat.div_le_self a b
  rw [h1]
  clear h1
  generalize a / b = q at *
  exact Int.bmod_eq_of_le (by omega) (by omega)
theorem nn_rem {a b : Nat} (ha : a < 2147483648) (hb : b < 2147483648) : nI a - nI a / nI b * nI b = nI (a % b) := by
  rw [nn_div ha hb, nn_mul, nn_sub (Nat.div_mul_le_self a b)]
  congr 1
  have := Nat.div_add_mod a b
  rw [Nat.mul_comm] at this
  omega
theorem nn_shl {a k : Nat} (hk : k < 32) : nI a <<< (nI k &&& 31) = nI (a * 2 ^ k) := by
  apply Int32.toBitVec_inj.mp
  rw [Int32.toBitVec_shiftLeft]
  have e : ((nI k &&& 31).toBitVec.smod 32).toNat = k := s_l k hk
  show BitVec.ofNat 32 a <<< ((nI k &&& 31).toBitVec.smod 32) = _
  apply BitVec.eq_of_toNat_eq
  rw [BitVec.shiftLeft_eq', e, BitVec.toNat_shiftLeft]
  show ((a % 2 ^ 32) <<< k) % 2 ^ 32 = (a * 2 ^ k) % 2 ^ 32
  rw [Nat.shiftLeft_eq, Nat.mod_mul_mod]
theorem nn_one {k : Nat} (hk : k < 32) : (1 : Int32) <<< (nI k &&& 31) = nI (2 ^ k) := by
  have := nn_shl (a := 1) hk
  rw [Nat.one_mul] at this
  exact this
theorem nn_shr {a k : Nat} (ha : a < 2147483648) (hk : k < 32) : nI a >>> (nI k &&& 31) = nI (a / 2 ^ k) := by
  apply Int32.toInt_inj.mp
  have e : ((nI k &&& 31).toBitVec.smod 32).toNat = k := s_l k hk
  have h : (nI a >>> (nI k &&& 31)).toInt = (nI a).toInt >>> k := by
    show ((nI a).toBitVec.sshiftRight' ((nI k &&& 31).toBitVec.smod 32)).toInt = _
    rw [BitVec.sshiftRight', e, BitVec.toInt_sshiftRight]
    rfl
  have h2 : a / 2 ^ k ≤ a := Nat.div_le_self a _
  rw [h, nI_toInt ha, nI_toInt (by omega), Int.shiftRight_eq_div_pow]
  simp
theorem nn_bit {a k : Nat} (ha : a < 2147483648) (hk : k < 32) : nI a >>> (nI k &&& 31) &&& 1 = nI (if a.testBit k then 1 else 0) := by
  rw [nn_shr ha hk, show (1 : Int32) = nI (2 ^ 1 - 1) from rfl, fa_mask]
  congr 1
  rw [Nat.testBit_eq_decide_div_mod_eq]
  simp only [decide_eq_true_eq]
  split <;> omega
theorem nn_xor (a b : Nat) : nI a ^^^ nI b = nI (a ^^^ b) := fb_xorI a b
end
section
/-! the strip: which ties there are, what a state's energy is -/
abbrev GD := Nat × Nat × Nat
def gSz (g : GD) : Nat := g.1 * g.2.1
def gAll : List GD := (0, 0, 0) :: (List.range 5).flatMap fun w => (List.range 17).flatMap fun l => if 1 ≤ w ∧ 1 ≤ l ∧ w * l ≤ 16 then (List.range 4).map fun r => (w, l, r) else []
theorem gAll_in {w l r : Nat} (h1 : 1 ≤ w) (h2 : w ≤ 4) (h3 : 1 ≤ l) (h4 : l ≤ 16) (h5 : w * l ≤ 16) (h6 : r < 4) : ((w, l, r) : GD) ∈ gAll := by
  unfold gAll
  apply List.mem_cons_of_mem
  rw [List.mem_flatMap]
  refine ⟨w, List.mem_range.mpr (by omega), ?_⟩
  rw [List.mem_flatMap]
  refine ⟨l, List.mem_range.mpr (by omega), ?_⟩
  rw [if_pos ⟨h1, h3, h5⟩, List.mem_map]
  exact ⟨r, List.mem_range.mpr h6, rfl⟩
theorem gAll_b : ∀ g ∈ gAll, g.1 ≤ 4 ∧ g.2.1 ≤ 16 ∧ gSz g ≤ 16 ∧ g.2.2 < 4 ∧ ((g.1 = 0 ∧ g.2.1 = 0 ∧ g.2.2 = 0) ∨ (1 ≤ g.1 ∧ 1 ≤ g.2.1)) := by decide +kernel
/-- where a tie begins, where it leads to -/
def gFr (t : Nat) : Nat := if t < 16 then t else t - 16
def gTo (g : GD) (t : Nat) : Option Nat := if gSz g ≤ gFr t then none else if t < 16 then (if gFr t % g.1 + 1 < g.1 then some (gFr t + 1) else if g.2.2 % 2 = 1 ∧ 2 < g.1 then some (g.1 * (gFr t / g.1)) else none) else (if gFr t / g.1 + 1 < g.2.1 then some (gFr t + g.1) else if g.2.2 / 2 = 1 ∧ 2 < g.2.1 then some (gFr t % g.1) else none)
def oI (o : Option Nat) : Int32 := match o with
  | none => -1
  | some e => nI e
theorem gTo_b : ∀ g ∈ gAll, ∀ t, t < 32 → ∀ e, gTo g t = some e → gFr t < gSz g ∧ e < gSz g ∧ gFr t ≠ e := by
  have h : ∀ g ∈ gAll, ∀ t, t < 32 → (gTo g t).all (fun e => decide (gFr t < gSz g ∧ e < gSz g ∧ gFr t ≠ e)) = true := by decide +kernel
  intro g hg t ht e he
  have := h g hg t ht
  rw [he] at this
  exact of_decide_eq_true this
theorem gFr_16 {t : Nat} (h : t < 32) : gFr t < 16 := by unfold gFr; split <;> omega
/-- the mates of a site, with the ties' places -/
def gMt (g : GD) (i : Nat) : List (Nat × Nat) := (List.range 32).flatMap fun t => match gTo g t with
  | none => []
  | some e => if gFr t = i then [(e, t)] else if e = i then [(gFr t, t)] else []
theorem gMt_b : ∀ g ∈ gAll, ∀ i, i < 16 → (gMt g i).length ≤ 4 ∧ ∀ q ∈ gMt g i, q.1 < gSz g ∧ q.2 < 32 ∧ q.1 ≠ i ∧ (gTo g q.2).isSome = true := by decide +kernel
/-- energies -/
def eH (F : Nat → Int) (s i : Nat) : Int := if s.testBit i then -F (32 + i) else F (32 + i)
def eT (g : GD) (F : Nat → Int) (s t : Nat) : Int := match gTo g t with
  | none => 0
  | some e => if s.testBit (gFr t) = s.testBit e then -F t else F t
def eE (g : GD) (F : Nat → Int) (s : Nat) : Int := fb_si (eT g F s) 32 + fb_si (eH F s) (gSz g)
/-- of the first k sites alone -/
def gIn (g : GD) (k t : Nat) : Bool := match gTo g t with
  | none => false
  | some e => decide (gFr t < k) && decide (e < k)
def eP (g : GD) (F : Nat → Int) (k s : Nat) : Int := fb_si (fun t => if gIn g k t then eT g F s t else 0) 32 + fb_si (eH F s) k
theorem eP_all {g : GD} (hg : g ∈ gAll) (F : Nat → Int) (s : Nat) : eP g F (gSz g) s = eE g F s := by
  unfold eP eE
  congr 1
  apply fb_si_cong
  intro t ht
  unfold gIn eT
  cases he : gTo g t with
  | none => rfl
  | some e =>
    have := gTo_b g hg t ht e he
    simp [this.1, this.2.1]
def zR (F : Nat → Int32) : Nat → Int := fun k => (F k).toInt
/-- a row of numbers that may stand -/
def RO (g : GD) (F : Nat → Int32) : Prop := (∀ k, k < 48 → -3 ≤ (F k).toInt ∧ (F k).toInt ≤ 3) ∧ (∀ i, i < 16 → (F (48 + i) = 0 ∨ F (48 + i) = 1 ∨ F (48 + i) = 2) ∧ (gSz g ≤ i → F (48 + i) = 0)) ∧ (∃ b, b < 2 ^ gSz g ∧ F 64 = nI b ∧ ∀ i, i < gSz g → F (48 + i) ≠ 0 → b.testBit i = decide (F (48 + i) = 1)) ∧ ∃ s, s < 10000 ∧ F 65 = nI s
theorem RO_congr {g : GD} (hg : g ∈ gAll) {F G : Nat → Int32} (h : ∀ k, k < 66 → G k = F k) (H : RO g F) : RO g G := by
  obtain ⟨h1, h2, ⟨b, h3, h4, h5⟩, s, h6, h7⟩ := H
  refine ⟨fun k hk => by rw [h k (by omega)]; exact h1 k hk, fun i hi => by rw [h _ (by omega)]; exact h2 i hi, ⟨b, h3, by rw [h 64 (by omega)]; exact h4, fun i hi hne => ?_⟩, s, h6, by rw [h 65 (by omega)]; exact h7⟩
  by_cases hi16 : i < 16
  · rw [h (48 + i) (by omega)] at hne ⊢
    exact h5 i hi hne
  · have := (gAll_b g hg).2.2.1
    omega
theorem eE_b {g : GD} (hg : g ∈ gAll) {F : Nat → Int32} (h : RO g F) (s : Nat) : -144 ≤ eE g (zR F) s ∧ eE g (zR F) s ≤ 144 := by
  have h1 : ∀ t, t < 32 → -3 ≤ eT g (zR F) s t ∧ eT g (zR F) s t ≤ 3 := by
    intro t ht
    have := h.1 t (by omega)
    unfold eT zR
    split
    · omega
    · split <;> omega
  have h2 : ∀ t, t < gSz g → -3 ≤ eH (zR F) s t ∧ eH (zR F) s t ≤ 3 := by
    intro t ht
    have h16 : gSz g ≤ 16 := (gAll_b g hg).2.2.1
    have := h.1 (32 + t) (by omega)
    unfold eH zR
    split <;> omega
  have a := fb_si_bound (c := 3) (by decide) h1
  have b := fb_si_bound (c := 3) (by decide) h2
  have h16 : gSz g ≤ 16 := (gAll_b g hg).2.2.1
  unfold eE
  have : (gSz g : Int) * 3 ≤ 48 := by omega
  omega
/-- lawful states -/
def lW (g : GD) (F : Nat → Int32) (s : Nat) : Bool := (List.range (gSz g)).all fun i => decide (F (48 + i) = 0) || (s.testBit i == decide (F (48 + i) = 1))
/-- a setup holds what a row tells -/
def SR (g : GD) (I : Nat → Nat → Int32) (a : Nat) (F : Nat → Int32) : Prop :=
  (∀ t, t < 32 → I (a + 1) t = if (gTo g t).isSome then F t else 0) ∧ (∀ i, i < 16 → I (a + 2) i = if i < gSz g then F (32 + i) else 0) ∧
  (∃ p u, I a 2 = nI p ∧ I a 3 = nI u ∧ (∀ i, p.testBit i = (decide (i < gSz g) && decide (F (48 + i) ≠ 0))) ∧ ∀ i, u.testBit i = (decide (i < gSz g) && decide (F (48 + i) = 1))) ∧ I a 4 = F 64 ∧ I a 5 = F 65
abbrev GH := Nat → GD × (Nat → Int32)
/-- a setup that may come back: it holds its row, its stamps tell its numbers -/
def LV (g : GD) (gT gP : GH) (st : Nat) (I : Nat → Nat → Int32) (a : Nat) (F : Nat → Int32) : Prop :=
  SR g I a F ∧ RO g F ∧ ∃ t p, t ≤ st ∧ p ≤ st ∧ I a 6 = nI t ∧ I a 7 = nI p ∧ (gT t).1 = g ∧ (∀ k, k < 48 → F k = (gT t).2 k) ∧ (gP p).1 = g ∧ ∀ k, k < 64 → F k = (gP p).2 k
end
section
/-! what is worked out once and kept; the invariant of the run -/
def gSt (g : GD) : Nat := if gSz g = 0 then 0 else 2 ^ gSz g
/-- a lawful state of an energy; how many there are -/
def lE (g : GD) (F : Nat → Int32) (e : Int) (s : Nat) : Bool := lW g F s && decide (eE g (zR F) s = e)
def lC (g : GD) (F : Nat → Int32) (e : Int) : Nat := fb_ct (lE g F e) (gSt g)
def pC (s : Nat) : Nat := fb_ct (fun i => s.testBit i) 16
def lU (g : GD) (F : Nat → Int32) (e : Int) (u : Nat) : Nat := fb_ct (fun s => lE g F e s && decide (pC s = u)) (gSt g)
def lvP (g : GD) (F : Nat → Int32) (k : Nat) : Bool := decide (0 < lC g F ((k : Int) - 144))
def lvN (g : GD) (F : Nat → Int32) : Nat := fb_ct (lvP g F) 289
def bkP (g : GD) (F : Nat → Int32) (s t : Nat) : Bool := match gTo g t with
  | none => false
  | some e => decide (F t ≠ 0) && (decide (s.testBit (gFr t) = s.testBit e) == decide ((F t).toInt < 0))
def bk (g : GD) (F : Nat → Int32) (s : Nat) : Nat := fb_ct (bkP g F s) 32
def WAY (I : Nat → Nat → Int32) (a : Nat) (g : GD) (F : Nat → Int32) : Prop := ∀ k, k < 289 → I a k = nI (lC g F ((k : Int) - 144))
def ENK (I : Nat → Nat → Int32) (R : Nat → Nat → Nat) (len : Nat → Nat) (a : Nat) (g : GD) (F : Nat → Int32) : Prop := 2 ^ gSz g ≤ len (R a 4) ∧ ∀ s, s < 2 ^ gSz g → I (R a 4) s = iI (eE g (zR F) s)
def LVK (I : Nat → Nat → Int32) (g : GD) (F : Nat → Int32) : Prop := WAY I 166 g F ∧
  (∀ k s : Nat, k < 289 → s < gSt g → lE g F ((k : Int) - 144) s = true → (∀ s', s' < s → lE g F ((k : Int) - 144) s' = false) → I 167 k = nI s) ∧
  (∀ k u : Nat, k < 289 → u < 17 → I 168 (17 * k + u) = nI (lU g F ((k : Int) - 144) u)) ∧
  I 165 4 = nI (lvN g F) ∧ ∀ k, k < 289 → lvP g F k = true → I 169 (fb_ct (lvP g F) k) = iI ((k : Int) - 144)
def BRK (I : Nat → Nat → Int32) (g : GD) (F : Nat → Int32) : Prop := ∀ m, m < 33 → I 171 m = nI (fb_ct (fun s => lW g F s && decide (bk g F s = m)) (gSt g))
def TRK (I : Nat → Nat → Int32) (R : Nat → Nat → Nat) (g : GD) (F : Nat → Int32) : Prop := gSz g ≤ 10 → I 174 7 = nI (gSz g) ∧ R 174 5 = 157 ∧ R 174 6 = 16 ∧
  ∃ (M : Nat) (o : Nat → Nat), M ≤ 1024 ∧ I 174 8 = nI M ∧ (∀ i, i < M → I 175 i = nI (o i) ∧ o i < gSt g ∧ lW g F (o i) = true) ∧ (∀ i j, i < j → j < M → eE g (zR F) (o i) ≤ eE g (zR F) (o j) ∧ o i ≠ o j) ∧ ∀ s, s < gSt g → lW g F s = true → ∃ i, i < M ∧ o i = s
def KNK (I : Nat → Nat → Int32) (g : GD) (F : Nat → Int32) : Prop := (∀ s, s < gSt g → I 196 s = if lW g F s then iI (eE g (zR F) s) else nI 100000) ∧
  (∀ e, e < 301 → I 197 e = nI (lC g F ((e : Int) - 150))) ∧ I 183 35 = nI (lvN g F) ∧ ∀ k, k < 289 → lvP g F k = true → I 198 (fb_ct (lvP g F) k) = iI ((k : Int) - 144)
/-- the parts of the run -/
def TAP (I : Nat → Nat → Int32) : Prop := ∃ m, m ≤ 2000 ∧ I 3 4 = nI m ∧ I 183 2 = nI m ∧ ∀ k, k < m → I 184 k = I 4 k ∧ -128 ≤ (I 4 k).toInt ∧ (I 4 k).toInt < 128
def GRD (I : Nat → Nat → Int32) (g : GD) : Prop := g ∈ gAll ∧ I 11 4 = nI g.1 ∧ I 11 5 = nI g.2.1 ∧ I 11 6 = nI g.2.2 ∧ I 11 7 = nI (gSz g) ∧ (∀ t, t < 32 → I 12 t = oI (gTo g t)) ∧ (∀ i, i < 16 → I 15 i = nI (gMt g i).length) ∧
  (∀ i j, i < 16 → j < (gMt g i).length → I 13 (4 * i + j) = nI ((gMt g i).getD j (0, 0)).1 ∧ I 14 (4 * i + j) = nI ((gMt g i).getD j (0, 0)).2) ∧ I 183 17 = nI g.1 ∧ I 183 18 = nI g.2.1 ∧ I 183 19 = nI (g.2.2 % 2) ∧ I 183 20 = nI (g.2.2 / 2) ∧ ∀ i, i < 16 → I 173 i = 0
def PST (g : GD) (gT gP : GH) (st : Nat) (I : Nat → Nat → Int32) : Prop := ∃ q nx ea, q ≤ 40 ∧ nx < 40 ∧ ea < 40 ∧ I 19 1 = nI nx ∧ I 19 2 = nI q ∧ I 183 28 = nI ea ∧ I 183 29 = nI q ∧
  ∀ i, i < q → LV g gT gP st I (21 + 3 * ((nx + 40 - q + i) % 40)) (fun k => I 193 (66 * ((ea + i) % 40) + k))
def SLT (g : GD) (gT gP : GH) (st : Nat) (I : Nat → Nat → Int32) : Prop := ∀ i, i < 3 → ∃ f c, f < 2 ∧ c < 2 ∧ I (142 + 5 * i) 2 = nI f ∧ I 195 i = nI f ∧ I (142 + 5 * i) 3 = nI c ∧
  (f = 1 → LV g gT gP st I (143 + 5 * i) (fun k => I 194 (66 * i + k))) ∧ (f = 1 → c = 1 → WAY I (146 + 5 * i) g (fun k => I 194 (66 * i + k)))
def CCH (I : Nat → Nat → Int32) (R : Nat → Nat → Nat) (len : Nat → Nat) (gT gP : GH) (st : Nat) : Prop :=
  (I 157 5 = -1 ∨ ∃ t, t ≤ st ∧ I 157 5 = nI t ∧ ENK I R len 157 (gT t).1 (gT t).2) ∧
  (I 165 5 = -1 ∨ ∃ p, p ≤ st ∧ I 165 5 = nI p ∧ LVK I (gP p).1 (gP p).2) ∧
  (I 170 3 = -1 ∨ ∃ p, p ≤ st ∧ I 170 3 = nI p ∧ BRK I (gP p).1 (gP p).2) ∧
  (I 174 10 = -1 ∨ ∃ p, p ≤ st ∧ I 174 10 = nI p ∧ TRK I R (gP p).1 (gP p).2)
def KNW (I : Nat → Nat → Int32) (g : GD) : Prop := I 183 32 = 0 ∨ (I 183 32 = 1 ∧ KNK I g (I 191))
/-- the model's key words -/
def kyW : List Nat := [10504420, 16308991, 778957, 3369766, 361240, 14828, 330573, 11921, 583, 90302, 377761]
def KY (L : Nat → Nat → Int64) : Prop := ∀ k, k < 11 → L 190 k = lN (kyW.getD k 0)
def CEL (K : Nat → Nat × Nat) (R : Nat → Nat → Nat) (n z : Nat) (L : Nat → Nat → Int64) : Prop := ∃ a b, a ≤ 16 ∧ b ≤ 16 ∧ K (R 157 4) = (20, 2 ^ a) ∧ K (R 161 4) = (20, 2 ^ b) ∧ (R 157 4 = 160 ∨ 206 < R 157 4) ∧ (R 161 4 = 164 ∨ 206 < R 161 4) ∧ R 157 4 ≠ R 161 4 ∧ R 157 4 ≤ n ∧ R 161 4 ≤ n ∧ n ≤ 206 + a + b ∧ z ≤ 98100 + 65536 * (a + b) ∧ KY L
def IV (n : Nat) (σ : XS) (g : GD) (gT gP : GH) (st : Nat) : Prop := (Shp σ) ∧ (st ≤ n) ∧ (xI σ 1 15 = nI st) ∧ (TAP (xI σ)) ∧ (xI σ 1 14 = xI σ 183 16) ∧ (GRD (xI σ) g) ∧ (LV g gT gP st (xI σ) 16 (xI σ 191)) ∧ (PST g gT gP st (xI σ)) ∧ (SLT g gT gP st (xI σ)) ∧ (CCH (xI σ) (xR σ) (xlen σ) gT gP st) ∧ (KNW (xI σ) g) ∧ (CEL σ.1 (xR σ) (xn σ) (xz σ) (xL σ))
theorem IV.shp {n : Nat} {σ : XS} {g : GD} {gT gP : GH} {st : Nat} (H : IV n σ g gT gP st) : Shp σ := H.1
theorem IV.stn {n : Nat} {σ : XS} {g : GD} {gT gP : GH} {st : Nat} (H : IV n σ g gT gP st) : st ≤ n := H.2.1
theorem IV.sts {n : Nat} {σ : XS} {g : GD} {gT gP : GH} {st : Nat} (H : IV n σ g gT gP st) : xI σ 1 15 = nI st := H.2.2.1
theorem IV.tap {n : Nat} {σ : XS} {g : GD} {gT gP : GH} {st : Nat} (H : IV n σ g gT gP st) : TAP (xI σ) := H.2.2.2.1
theorem IV.plc {n : Nat} {σ : XS} {g : GD} {gT gP : GH} {st : Nat} (H : IV n σ g gT gP st) : xI σ 1 14 = xI σ 183 16 := H.2.2.2.2.1
theorem IV.grd {n : Nat} {σ : XS} {g : GD} {gT gP : GH} {st : Nat} (H : IV n σ g gT gP st) : GRD (xI σ) g := H.2.2.2.2.2.1
theorem IV.now {n : Nat} {σ : XS} {g : GD} {gT gP : GH} {st : Nat} (H : IV n σ g gT gP st) : LV g gT gP st (xI σ) 16 (xI σ 191) := H.2.2.2.2.2.2.1
theorem IV.pst {n : Nat} {σ : XS} {g : GD} {gT gP : GH} {st : Nat} (H : IV n σ g gT gP st) : PST g gT gP st (xI σ) := H.2.2.2.2.2.2.2.1
theorem IV.slt {n : Nat} {σ : XS} {g : GD} {gT gP : GH} {st : Nat} (H : IV n σ g gT gP st) : SLT g gT gP st (xI σ) := H.2.2.2.2.2.2.2.2.1
theorem IV.cch {n : Nat} {σ : XS} {g : GD} {gT gP : GH} {st : Nat} (H : IV n σ g gT gP st) : CCH (xI σ) (xR σ) (xlen σ) gT gP st := H.2.2.2.2.2.2.2.2.2.1
theorem IV.knw {n : Nat} {σ : XS} {g : GD} {gT gP : GH} {st : Nat} (H : IV n σ g gT gP st) : KNW (xI σ) g := H.2.2.2.2.2.2.2.2.2.2.1
theorem IV.cel {n : Nat} {σ : XS} {g : GD} {gT gP : GH} {st : Nat} (H : IV n σ g gT gP st) : CEL σ.1 (xR σ) (xn σ) (xz σ) (xL σ) := H.2.2.2.2.2.2.2.2.2.2.2
def INV (n : Nat) (σ : XS) : Prop := ∃ g gT gP st, IV n σ g gT gP st
end
section
/-! reading and writing ints of the known objects -/
def xw (σ : XS) (I : Nat → Nat → Int32) : XS := (σ.1, I, σ.2.2)
theorem xw_self (σ : XS) : xw σ (xI σ) = σ := rfl
theorem xw_w (σ : XS) (I J : Nat → Nat → Int32) : xw (xw σ I) J = xw σ J := rfl
def xur (I : Nat → Nat → Int32) (b : Nat) (f : Nat → Int32) : Nat → Nat → Int32 := fun c j => if c = b then f j else I c j
theorem xur_at (I : Nat → Nat → Int32) (b : Nat) (f : Nat → Int32) (c j : Nat) : xur I b f c j = if c = b then f j else I c j := rfl
theorem xup_at (I : Nat → Nat → Int32) (a j : Nat) (v : Int32) (b k : Nat) : xup I a j v b k = if b = a ∧ k = j then v else I b k := rfl
theorem xw_uI (σ : XS) (I : Nat → Nat → Int32) (a j : Nat) (v : Int32) : xuI (xw σ I) a j v = xw σ (xup I a j v) := rfl
theorem xw_ur (σ : XS) (I : Nat → Nat → Int32) (b : Nat) (f : Nat → Int32) : xurI (xw σ I) b f = xw σ (xur I b f) := rfl
theorem xw_I (σ : XS) (I : Nat → Nat → Int32) : xI (xw σ I) = I := rfl
theorem xw_T (σ : XS) (I : Nat → Nat → Int32) : xT (xw σ I) = xT σ := rfl
theorem xw_l (σ : XS) (I : Nat → Nat → Int32) : xlen (xw σ I) = xlen σ := rfl
theorem xw_R (σ : XS) (I : Nat → Nat → Int32) : xR (xw σ I) = xR σ := rfl
theorem xw_gR (σ : XS) (I : Nat → Nat → Int32) (a c j : Nat) : xgR (xw σ I) a c j = xgR σ a c j := rfl
theorem xw_gN (σ : XS) (I : Nat → Nat → Int32) (a c j : Nat) : xgN (xw σ I) a c j = xgN σ a c j := rfl
theorem xw_al (σ : XS) (I : Nat → Nat → Int32) (a : Nat) : xal (xw σ I) a = xal σ a := rfl
theorem xw_ck (σ : XS) (I : Nat → Nat → Int32) (a c : Nat) : xck (xw σ I) a c = xck σ a c := rfl
theorem xw_Shp {σ : XS} {I : Nat → Nat → Int32} (h : Shp σ) : Shp (xw σ I) := h
theorem xw_gI {σ : XS} {I : Nat → Nat → Int32} {a c j : Nat} (h : xT σ a = c) : xgI (xw σ I) a c j = some (I a j) := xgI_ok (σ := xw σ I) h
theorem xw_pI {σ : XS} {I : Nat → Nat → Int32} {a c j : Nat} {v : Int32} (h : xT σ a = c) : xpI (xw σ I) a c j v = some (xw σ (xup I a j v)) := xpI_ok (σ := xw σ I) h
theorem xw_aI {σ : XS} {I : Nat → Nat → Int32} {a q n i : Nat} (h : σ.1 a = (q, n)) (hi : i < n) (hn : n < 2147483648) : xaI (xw σ I) q a (nI i) = some (I a i) := xaI_ok (σ := xw σ I) (n := n) (congrArg Prod.fst h) (congrArg Prod.snd h) hi hn
theorem xw_sI {σ : XS} {I : Nat → Nat → Int32} {a q n i : Nat} {v : Int32} (h : σ.1 a = (q, n)) (hi : i < n) (hn : n < 2147483648) : xsI (xw σ I) q a (nI i) v = some (xw σ (xup I a i v)) := xsI_ok (σ := xw σ I) (n := n) (congrArg Prod.fst h) (congrArg Prod.snd h) hi hn
theorem xw_K {σ : XS} (h : Shp σ) {a : Nat} (h1 : a < 207) (h2 : a ≠ 160) (h3 : a ≠ 164) : σ.1 a = shK.getD a (99, 0) := h.2.1 a h1 h2 h3
theorem kC1 {σ : XS} (h : Shp σ) : xck σ 1 11 = some () := xck_ok (sT1 h)
theorem kG1 {σ : XS} (h : Shp σ) {I : Nat → Nat → Int32} {j : Nat} : xgI (xw σ I) 1 11 j = some (I 1 j) := xw_gI (sT1 h)
theorem kP1 {σ : XS} (h : Shp σ) {I : Nat → Nat → Int32} {j : Nat} {v : Int32} : xpI (xw σ I) 1 11 j v = some (xw σ (xup I 1 j v)) := xw_pI (sT1 h)
theorem kR1_0 {σ : XS} (h : Shp σ) : xgR σ 1 11 0 = some 3 := xgR_to (sT1 h) (sR1_0 h) (by decide)
theorem kR1_1 {σ : XS} (h : Shp σ) : xgR σ 1 11 1 = some 2 := xgR_to (sT1 h) (sR1_1 h) (by decide)
theorem kR1_2 {σ : XS} (h : Shp σ) : xgR σ 1 11 2 = some 11 := xgR_to (sT1 h) (sR1_2 h) (by decide)
theorem kR1_3 {σ : XS} (h : Shp σ) : xgR σ 1 11 3 = some 16 := xgR_to (sT1 h) (sR1_3 h) (by decide)
theorem kR1_4 {σ : XS} (h : Shp σ) : xgR σ 1 11 4 = some 19 := xgR_to (sT1 h) (sR1_4 h) (by decide)
theorem kR1_5 {σ : XS} (h : Shp σ) : xgR σ 1 11 5 = some 141 := xgR_to (sT1 h) (sR1_5 h) (by decide)
theorem kR1_6 {σ : XS} (h : Shp σ) : xgR σ 1 11 6 = some 157 := xgR_to (sT1 h) (sR1_6 h) (by decide)
theorem kR1_7 {σ : XS} (h : Shp σ) : xgR σ 1 11 7 = some 161 := xgR_to (sT1 h) (sR1_7 h) (by decide)
theorem kR1_8 {σ : XS} (h : Shp σ) : xgR σ 1 11 8 = some 165 := xgR_to (sT1 h) (sR1_8 h) (by decide)
theorem kR1_9 {σ : XS} (h : Shp σ) : xgR σ 1 11 9 = some 170 := xgR_to (sT1 h) (sR1_9 h) (by decide)
theorem kR1_10 {σ : XS} (h : Shp σ) : xgR σ 1 11 10 = some 174 := xgR_to (sT1 h) (sR1_10 h) (by decide)
theorem kR1_11 {σ : XS} (h : Shp σ) : xgR σ 1 11 11 = some 180 := xgR_to (sT1 h) (sR1_11 h) (by decide)
theorem kR1_12 {σ : XS} (h : Shp σ) : xgR σ 1 11 12 = some 181 := xgR_to (sT1 h) (sR1_12 h) (by decide)
theorem kR1_13 {σ : XS} (h : Shp σ) : xgR σ 1 11 13 = some 182 := xgR_to (sT1 h) (sR1_13 h) (by decide)
theorem kC2 {σ : XS} (h : Shp σ) : xck σ 2 1 = some () := xck_ok (sT2 h)
theorem kG2 {σ : XS} (h : Shp σ) {I : Nat → Nat → Int32} {j : Nat} : xgI (xw σ I) 2 1 j = some (I 2 j) := xw_gI (sT2 h)
theorem kP2 {σ : XS} (h : Shp σ) {I : Nat → Nat → Int32} {j : Nat} {v : Int32} : xpI (xw σ I) 2 1 j v = some (xw σ (xup I 2 j v)) := xw_pI (sT2 h)
theorem kR2_0 {σ : XS} (h : Shp σ) : xgR σ 2 1 0 = some 3 := xgR_to (sT2 h) (sR2_0 h) (by decide)
theorem kR2_1 {σ : XS} (h : Shp σ) : xgR σ 2 1 1 = some 8 := xgR_to (sT2 h) (sR2_1 h) (by decide)
theorem kC3 {σ : XS} (h : Shp σ) : xck σ 3 8 = some () := xck_ok (sT3 h)
theorem kG3 {σ : XS} (h : Shp σ) {I : Nat → Nat → Int32} {j : Nat} : xgI (xw σ I) 3 8 j = some (I 3 j) := xw_gI (sT3 h)
theorem kP3 {σ : XS} (h : Shp σ) {I : Nat → Nat → Int32} {j : Nat} {v : Int32} : xpI (xw σ I) 3 8 j v = some (xw σ (xup I 3 j v)) := xw_pI (sT3 h)
theorem kR3_0 {σ : XS} (h : Shp σ) : xgR σ 3 8 0 = some 4 := xgR_to (sT3 h) (sR3_0 h) (by decide)
theorem kR3_1 {σ : XS} (h : Shp σ) : xgR σ 3 8 1 = some 5 := xgR_to (sT3 h) (sR3_1 h) (by decide)
theorem kR3_2 {σ : XS} (h : Shp σ) : xgR σ 3 8 2 = some 6 := xgR_to (sT3 h) (sR3_2 h) (by decide)
theorem kR3_3 {σ : XS} (h : Shp σ) : xgR σ 3 8 3 = some 7 := xgR_to (sT3 h) (sR3_3 h) (by decide)
theorem kL4 {σ : XS} (h : Shp σ) : xal σ 4 = some (nI 2000) := by rw [xal_ok (by rw [sT4 h]; decide), sl4 h]
theorem kA4 {σ : XS} (h : Shp σ) {I : Nat → Nat → Int32} {i : Nat} (hi : i < 2000) : xaI (xw σ I) 21 4 (nI i) = some (I 4 i) := xw_aI (xw_K h (by decide) (by decide) (by decide)) hi (by decide)
theorem kS4 {σ : XS} (h : Shp σ) {I : Nat → Nat → Int32} {i : Nat} {v : Int32} (hi : i < 2000) : xsI (xw σ I) 21 4 (nI i) v = some (xw σ (xup I 4 i v)) := xw_sI (xw_K h (by decide) (by decide) (by decide)) hi (by decide)
theorem kL5 {σ : XS} (h : Shp σ) : xal σ 5 = some (nI 400) := by rw [xal_ok (by rw [sT5 h]; decide), sl5 h]
theorem kA5 {σ : XS} (h : Shp σ) {I : Nat → Nat → Int32} {i : Nat} (hi : i < 400) : xaI (xw σ I) 20 5 (nI i) = some (I 5 i) := xw_aI (xw_K h (by decide) (by decide) (by decide)) hi (by decide)
theorem kS5 {σ : XS} (h : Shp σ) {I : Nat → Nat → Int32} {i : Nat} {v : Int32} (hi : i < 400) : xsI (xw σ I) 20 5 (nI i) v = some (xw σ (xup I 5 i v)) := xw_sI (xw_K h (by decide) (by decide) (by decide)) hi (by decide)
theorem kL6 {σ : XS} (h : Shp σ) : xal σ 6 = some (nI 400) := by rw [xal_ok (by rw [sT6 h]; decide), sl6 h]
theorem kA6 {σ : XS} (h : Shp σ) {I : Nat → Nat → Int32} {i : Nat} (hi : i < 400) : xaI (xw σ I) 20 6 (nI i) = some (I 6 i) := xw_aI (xw_K h (by decide) (by decide) (by decide)) hi (by decide)
theorem kS6 {σ : XS} (h : Shp σ) {I : Nat → Nat → Int32} {i : Nat} {v : Int32} (hi : i < 400) : xsI (xw σ I) 20 6 (nI i) v = some (xw σ (xup I 6 i v)) := xw_sI (xw_K h (by decide) (by decide) (by decide)) hi (by decide)
theorem kL7 {σ : XS} (h : Shp σ) : xal σ 7 = some (nI 400) := by rw [xal_ok (by rw [sT7 h]; decide), sl7 h]
theorem kA7 {σ : XS} (h : Shp σ) {I : Nat → Nat → Int32} {i : Nat} (hi : i < 400) : xaI (xw σ I) 20 7 (nI i) = some (I 7 i) := xw_aI (xw_K h (by decide) (by decide) (by decide)) hi (by decide)
theorem kS7 {σ : XS} (h : Shp σ) {I : Nat → Nat → Int32} {i : Nat} {v : Int32} (hi : i < 400) : xsI (xw σ I) 20 7 (nI i) v = some (xw σ (xup I 7 i v)) := xw_sI (xw_K h (by decide) (by decide) (by decide)) hi (by decide)
theorem kC8 {σ : XS} (h : Shp σ) : xck σ 8 6 = some () := xck_ok (sT8 h)
theorem kG8 {σ : XS} (h : Shp σ) {I : Nat → Nat → Int32} {j : Nat} : xgI (xw σ I) 8 6 j = some (I 8 j) := xw_gI (sT8 h)
theorem kP8 {σ : XS} (h : Shp σ) {I : Nat → Nat → Int32} {j : Nat} {v : Int32} : xpI (xw σ I) 8 6 j v = some (xw σ (xup I 8 j v)) := xw_pI (sT8 h)
theorem kR8_0 {σ : XS} (h : Shp σ) : xgR σ 8 6 0 = some 9 := xgR_to (sT8 h) (sR8_0 h) (by decide)
theorem kR8_1 {σ : XS} (h : Shp σ) : xgR σ 8 6 1 = some 10 := xgR_to (sT8 h) (sR8_1 h) (by decide)
theorem kL9 {σ : XS} (h : Shp σ) : xal σ 9 = some (nI 32) := by rw [xal_ok (by rw [sT9 h]; decide), sl9 h]
theorem kA9 {σ : XS} (h : Shp σ) {I : Nat → Nat → Int32} {i : Nat} (hi : i < 32) : xaI (xw σ I) 20 9 (nI i) = some (I 9 i) := xw_aI (xw_K h (by decide) (by decide) (by decide)) hi (by decide)
theorem kS9 {σ : XS} (h : Shp σ) {I : Nat → Nat → Int32} {i : Nat} {v : Int32} (hi : i < 32) : xsI (xw σ I) 20 9 (nI i) v = some (xw σ (xup I 9 i v)) := xw_sI (xw_K h (by decide) (by decide) (by decide)) hi (by decide)
theorem kL10 {σ : XS} (h : Shp σ) : xal σ 10 = some (nI 16) := by rw [xal_ok (by rw [sT10 h]; decide), sl10 h]
theorem kA10 {σ : XS} (h : Shp σ) {I : Nat → Nat → Int32} {i : Nat} (hi : i < 16) : xaI (xw σ I) 20 10 (nI i) = some (I 10 i) := xw_aI (xw_K h (by decide) (by decide) (by decide)) hi (by decide)
theorem kS10 {σ : XS} (h : Shp σ) {I : Nat → Nat → Int32} {i : Nat} {v : Int32} (hi : i < 16) : xsI (xw σ I) 20 10 (nI i) v = some (xw σ (xup I 10 i v)) := xw_sI (xw_K h (by decide) (by decide) (by decide)) hi (by decide)
theorem kC11 {σ : XS} (h : Shp σ) : xck σ 11 3 = some () := xck_ok (sT11 h)
theorem kG11 {σ : XS} (h : Shp σ) {I : Nat → Nat → Int32} {j : Nat} : xgI (xw σ I) 11 3 j = some (I 11 j) := xw_gI (sT11 h)
theorem kP11 {σ : XS} (h : Shp σ) {I : Nat → Nat → Int32} {j : Nat} {v : Int32} : xpI (xw σ I) 11 3 j v = some (xw σ (xup I 11 j v)) := xw_pI (sT11 h)
theorem kR11_0 {σ : XS} (h : Shp σ) : xgR σ 11 3 0 = some 12 := xgR_to (sT11 h) (sR11_0 h) (by decide)
theorem kR11_1 {σ : XS} (h : Shp σ) : xgR σ 11 3 1 = some 13 := xgR_to (sT11 h) (sR11_1 h) (by decide)
theorem kR11_2 {σ : XS} (h : Shp σ) : xgR σ 11 3 2 = some 14 := xgR_to (sT11 h) (sR11_2 h) (by decide)
theorem kR11_3 {σ : XS} (h : Shp σ) : xgR σ 11 3 3 = some 15 := xgR_to (sT11 h) (sR11_3 h) (by decide)
theorem kL12 {σ : XS} (h : Shp σ) : xal σ 12 = some (nI 32) := by rw [xal_ok (by rw [sT12 h]; decide), sl12 h]
theorem kA12 {σ : XS} (h : Shp σ) {I : Nat → Nat → Int32} {i : Nat} (hi : i < 32) : xaI (xw σ I) 20 12 (nI i) = some (I 12 i) := xw_aI (xw_K h (by decide) (by decide) (by decide)) hi (by decide)
theorem kS12 {σ : XS} (h : Shp σ) {I : Nat → Nat → Int32} {i : Nat} {v : Int32} (hi : i < 32) : xsI (xw σ I) 20 12 (nI i) v = some (xw σ (xup I 12 i v)) := xw_sI (xw_K h (by decide) (by decide) (by decide)) hi (by decide)
theorem kL13 {σ : XS} (h : Shp σ) : xal σ 13 = some (nI 64) := by rw [xal_ok (by rw [sT13 h]; decide), sl13 h]
theorem kA13 {σ : XS} (h : Shp σ) {I : Nat → Nat → Int32} {i : Nat} (hi : i < 64) : xaI (xw σ I) 20 13 (nI i) = some (I 13 i) := xw_aI (xw_K h (by decide) (by decide) (by decide)) hi (by decide)
theorem kS13 {σ : XS} (h : Shp σ) {I : Nat → Nat → Int32} {i : Nat} {v : Int32} (hi : i < 64) : xsI (xw σ I) 20 13 (nI i) v = some (xw σ (xup I 13 i v)) := xw_sI (xw_K h (by decide) (by decide) (by decide)) hi (by decide)
theorem kL14 {σ : XS} (h : Shp σ) : xal σ 14 = some (nI 64) := by rw [xal_ok (by rw [sT14 h]; decide), sl14 h]
theorem kA14 {σ : XS} (h : Shp σ) {I : Nat → Nat → Int32} {i : Nat} (hi : i < 64) : xaI (xw σ I) 20 14 (nI i) = some (I 14 i) := xw_aI (xw_K h (by decide) (by decide) (by decide)) hi (by decide)
theorem kS14 {σ : XS} (h : Shp σ) {I : Nat → Nat → Int32} {i : Nat} {v : Int32} (hi : i < 64) : xsI (xw σ I) 20 14 (nI i) v = some (xw σ (xup I 14 i v)) := xw_sI (xw_K h (by decide) (by decide) (by decide)) hi (by decide)
theorem kL15 {σ : XS} (h : Shp σ) : xal σ 15 = some (nI 16) := by rw [xal_ok (by rw [sT15 h]; decide), sl15 h]
theorem kA15 {σ : XS} (h : Shp σ) {I : Nat → Nat → Int32} {i : Nat} (hi : i < 16) : xaI (xw σ I) 20 15 (nI i) = some (I 15 i) := xw_aI (xw_K h (by decide) (by decide) (by decide)) hi (by decide)
theorem kS15 {σ : XS} (h : Shp σ) {I : Nat → Nat → Int32} {i : Nat} {v : Int32} (hi : i < 16) : xsI (xw σ I) 20 15 (nI i) v = some (xw σ (xup I 15 i v)) := xw_sI (xw_K h (by decide) (by decide) (by decide)) hi (by decide)
theorem kC16 {σ : XS} (h : Shp σ) : xck σ 16 6 = some () := xck_ok (sT16 h)
theorem kG16 {σ : XS} (h : Shp σ) {I : Nat → Nat → Int32} {j : Nat} : xgI (xw σ I) 16 6 j = some (I 16 j) := xw_gI (sT16 h)
theorem kP16 {σ : XS} (h : Shp σ) {I : Nat → Nat → Int32} {j : Nat} {v : Int32} : xpI (xw σ I) 16 6 j v = some (xw σ (xup I 16 j v)) := xw_pI (sT16 h)
theorem kR16_0 {σ : XS} (h : Shp σ) : xgR σ 16 6 0 = some 17 := xgR_to (sT16 h) (sR16_0 h) (by decide)
theorem kR16_1 {σ : XS} (h : Shp σ) : xgR σ 16 6 1 = some 18 := xgR_to (sT16 h) (sR16_1 h) (by decide)
theorem kL17 {σ : XS} (h : Shp σ) : xal σ 17 = some (nI 32) := by rw [xal_ok (by rw [sT17 h]; decide), sl17 h]
theorem kA17 {σ : XS} (h : Shp σ) {I : Nat → Nat → Int32} {i : Nat} (hi : i < 32) : xaI (xw σ I) 20 17 (nI i) = some (I 17 i) := xw_aI (xw_K h (by decide) (by decide) (by decide)) hi (by decide)
theorem kS17 {σ : XS} (h : Shp σ) {I : Nat → Nat → Int32} {i : Nat} {v : Int32} (hi : i < 32) : xsI (xw σ I) 20 17 (nI i) v = some (xw σ (xup I 17 i v)) := xw_sI (xw_K h (by decide) (by decide) (by decide)) hi (by decide)
theorem kL18 {σ : XS} (h : Shp σ) : xal σ 18 = some (nI 16) := by rw [xal_ok (by rw [sT18 h]; decide), sl18 h]
theorem kA18 {σ : XS} (h : Shp σ) {I : Nat → Nat → Int32} {i : Nat} (hi : i < 16) : xaI (xw σ I) 20 18 (nI i) = some (I 18 i) := xw_aI (xw_K h (by decide) (by decide) (by decide)) hi (by decide)
theorem kS18 {σ : XS} (h : Shp σ) {I : Nat → Nat → Int32} {i : Nat} {v : Int32} (hi : i < 16) : xsI (xw σ I) 20 18 (nI i) v = some (xw σ (xup I 18 i v)) := xw_sI (xw_K h (by decide) (by decide) (by decide)) hi (by decide)
theorem kC19 {σ : XS} (h : Shp σ) : xck σ 19 5 = some () := xck_ok (sT19 h)
theorem kG19 {σ : XS} (h : Shp σ) {I : Nat → Nat → Int32} {j : Nat} : xgI (xw σ I) 19 5 j = some (I 19 j) := xw_gI (sT19 h)
theorem kP19 {σ : XS} (h : Shp σ) {I : Nat → Nat → Int32} {j : Nat} {v : Int32} : xpI (xw σ I) 19 5 j v = some (xw σ (xup I 19 j v)) := xw_pI (sT19 h)
theorem kR19_0 {σ : XS} (h : Shp σ) : xgR σ 19 5 0 = some 20 := xgR_to (sT19 h) (sR19_0 h) (by decide)
theorem kL20 {σ : XS} (h : Shp σ) : xal σ 20 = some (nI 40) := by rw [xal_ok (by rw [sT20 h]; decide), sl20 h]
theorem kL141 {σ : XS} (h : Shp σ) : xal σ 141 = some (nI 3) := by rw [xal_ok (by rw [sT141 h]; decide), sl141 h]
theorem kL146 {σ : XS} (h : Shp σ) : xal σ 146 = some (nI 289) := by rw [xal_ok (by rw [sT146 h]; decide), sl146 h]
theorem kA146 {σ : XS} (h : Shp σ) {I : Nat → Nat → Int32} {i : Nat} (hi : i < 289) : xaI (xw σ I) 20 146 (nI i) = some (I 146 i) := xw_aI (xw_K h (by decide) (by decide) (by decide)) hi (by decide)
theorem kS146 {σ : XS} (h : Shp σ) {I : Nat → Nat → Int32} {i : Nat} {v : Int32} (hi : i < 289) : xsI (xw σ I) 20 146 (nI i) v = some (xw σ (xup I 146 i v)) := xw_sI (xw_K h (by decide) (by decide) (by decide)) hi (by decide)
theorem kL151 {σ : XS} (h : Shp σ) : xal σ 151 = some (nI 289) := by rw [xal_ok (by rw [sT151 h]; decide), sl151 h]
theorem kA151 {σ : XS} (h : Shp σ) {I : Nat → Nat → Int32} {i : Nat} (hi : i < 289) : xaI (xw σ I) 20 151 (nI i) = some (I 151 i) := xw_aI (xw_K h (by decide) (by decide) (by decide)) hi (by decide)
theorem kS151 {σ : XS} (h : Shp σ) {I : Nat → Nat → Int32} {i : Nat} {v : Int32} (hi : i < 289) : xsI (xw σ I) 20 151 (nI i) v = some (xw σ (xup I 151 i v)) := xw_sI (xw_K h (by decide) (by decide) (by decide)) hi (by decide)
theorem kL156 {σ : XS} (h : Shp σ) : xal σ 156 = some (nI 289) := by rw [xal_ok (by rw [sT156 h]; decide), sl156 h]
theorem kA156 {σ : XS} (h : Shp σ) {I : Nat → Nat → Int32} {i : Nat} (hi : i < 289) : xaI (xw σ I) 20 156 (nI i) = some (I 156 i) := xw_aI (xw_K h (by decide) (by decide) (by decide)) hi (by decide)
theorem kS156 {σ : XS} (h : Shp σ) {I : Nat → Nat → Int32} {i : Nat} {v : Int32} (hi : i < 289) : xsI (xw σ I) 20 156 (nI i) v = some (xw σ (xup I 156 i v)) := xw_sI (xw_K h (by decide) (by decide) (by decide)) hi (by decide)
theorem kC157 {σ : XS} (h : Shp σ) : xck σ 157 2 = some () := xck_ok (sT157 h)
theorem kG157 {σ : XS} (h : Shp σ) {I : Nat → Nat → Int32} {j : Nat} : xgI (xw σ I) 157 2 j = some (I 157 j) := xw_gI (sT157 h)
theorem kP157 {σ : XS} (h : Shp σ) {I : Nat → Nat → Int32} {j : Nat} {v : Int32} : xpI (xw σ I) 157 2 j v = some (xw σ (xup I 157 j v)) := xw_pI (sT157 h)
theorem kR157_0 {σ : XS} (h : Shp σ) : xgR σ 157 2 0 = some 158 := xgR_to (sT157 h) (sR157_0 h) (by decide)
theorem kR157_1 {σ : XS} (h : Shp σ) : xgR σ 157 2 1 = some 159 := xgR_to (sT157 h) (sR157_1 h) (by decide)
theorem kL158 {σ : XS} (h : Shp σ) : xal σ 158 = some (nI 4) := by rw [xal_ok (by rw [sT158 h]; decide), sl158 h]
theorem kA158 {σ : XS} (h : Shp σ) {I : Nat → Nat → Int32} {i : Nat} (hi : i < 4) : xaI (xw σ I) 20 158 (nI i) = some (I 158 i) := xw_aI (xw_K h (by decide) (by decide) (by decide)) hi (by decide)
theorem kS158 {σ : XS} (h : Shp σ) {I : Nat → Nat → Int32} {i : Nat} {v : Int32} (hi : i < 4) : xsI (xw σ I) 20 158 (nI i) v = some (xw σ (xup I 158 i v)) := xw_sI (xw_K h (by decide) (by decide) (by decide)) hi (by decide)
theorem kL159 {σ : XS} (h : Shp σ) : xal σ 159 = some (nI 4) := by rw [xal_ok (by rw [sT159 h]; decide), sl159 h]
theorem kA159 {σ : XS} (h : Shp σ) {I : Nat → Nat → Int32} {i : Nat} (hi : i < 4) : xaI (xw σ I) 20 159 (nI i) = some (I 159 i) := xw_aI (xw_K h (by decide) (by decide) (by decide)) hi (by decide)
theorem kS159 {σ : XS} (h : Shp σ) {I : Nat → Nat → Int32} {i : Nat} {v : Int32} (hi : i < 4) : xsI (xw σ I) 20 159 (nI i) v = some (xw σ (xup I 159 i v)) := xw_sI (xw_K h (by decide) (by decide) (by decide)) hi (by decide)
theorem kC161 {σ : XS} (h : Shp σ) : xck σ 161 2 = some () := xck_ok (sT161 h)
theorem kG161 {σ : XS} (h : Shp σ) {I : Nat → Nat → Int32} {j : Nat} : xgI (xw σ I) 161 2 j = some (I 161 j) := xw_gI (sT161 h)
theorem kP161 {σ : XS} (h : Shp σ) {I : Nat → Nat → Int32} {j : Nat} {v : Int32} : xpI (xw σ I) 161 2 j v = some (xw σ (xup I 161 j v)) := xw_pI (sT161 h)
theorem kR161_0 {σ : XS} (h : Shp σ) : xgR σ 161 2 0 = some 162 := xgR_to (sT161 h) (sR161_0 h) (by decide)
theorem kR161_1 {σ : XS} (h : Shp σ) : xgR σ 161 2 1 = some 163 := xgR_to (sT161 h) (sR161_1 h) (by decide)
theorem kL162 {σ : XS} (h : Shp σ) : xal σ 162 = some (nI 4) := by rw [xal_ok (by rw [sT162 h]; decide), sl162 h]
theorem kA162 {σ : XS} (h : Shp σ) {I : Nat → Nat → Int32} {i : Nat} (hi : i < 4) : xaI (xw σ I) 20 162 (nI i) = some (I 162 i) := xw_aI (xw_K h (by decide) (by decide) (by decide)) hi (by decide)
theorem kS162 {σ : XS} (h : Shp σ) {I : Nat → Nat → Int32} {i : Nat} {v : Int32} (hi : i < 4) : xsI (xw σ I) 20 162 (nI i) v = some (xw σ (xup I 162 i v)) := xw_sI (xw_K h (by decide) (by decide) (by decide)) hi (by decide)
theorem kL163 {σ : XS} (h : Shp σ) : xal σ 163 = some (nI 4) := by rw [xal_ok (by rw [sT163 h]; decide), sl163 h]
theorem kA163 {σ : XS} (h : Shp σ) {I : Nat → Nat → Int32} {i : Nat} (hi : i < 4) : xaI (xw σ I) 20 163 (nI i) = some (I 163 i) := xw_aI (xw_K h (by decide) (by decide) (by decide)) hi (by decide)
theorem kS163 {σ : XS} (h : Shp σ) {I : Nat → Nat → Int32} {i : Nat} {v : Int32} (hi : i < 4) : xsI (xw σ I) 20 163 (nI i) v = some (xw σ (xup I 163 i v)) := xw_sI (xw_K h (by decide) (by decide) (by decide)) hi (by decide)
theorem kC165 {σ : XS} (h : Shp σ) : xck σ 165 4 = some () := xck_ok (sT165 h)
theorem kG165 {σ : XS} (h : Shp σ) {I : Nat → Nat → Int32} {j : Nat} : xgI (xw σ I) 165 4 j = some (I 165 j) := xw_gI (sT165 h)
theorem kP165 {σ : XS} (h : Shp σ) {I : Nat → Nat → Int32} {j : Nat} {v : Int32} : xpI (xw σ I) 165 4 j v = some (xw σ (xup I 165 j v)) := xw_pI (sT165 h)
theorem kR165_0 {σ : XS} (h : Shp σ) : xgR σ 165 4 0 = some 166 := xgR_to (sT165 h) (sR165_0 h) (by decide)
theorem kR165_1 {σ : XS} (h : Shp σ) : xgR σ 165 4 1 = some 167 := xgR_to (sT165 h) (sR165_1 h) (by decide)
theorem kR165_2 {σ : XS} (h : Shp σ) : xgR σ 165 4 2 = some 168 := xgR_to (sT165 h) (sR165_2 h) (by decide)
theorem kR165_3 {σ : XS} (h : Shp σ) : xgR σ 165 4 3 = some 169 := xgR_to (sT165 h) (sR165_3 h) (by decide)
theorem kL166 {σ : XS} (h : Shp σ) : xal σ 166 = some (nI 289) := by rw [xal_ok (by rw [sT166 h]; decide), sl166 h]
theorem kA166 {σ : XS} (h : Shp σ) {I : Nat → Nat → Int32} {i : Nat} (hi : i < 289) : xaI (xw σ I) 20 166 (nI i) = some (I 166 i) := xw_aI (xw_K h (by decide) (by decide) (by decide)) hi (by decide)
theorem kS166 {σ : XS} (h : Shp σ) {I : Nat → Nat → Int32} {i : Nat} {v : Int32} (hi : i < 289) : xsI (xw σ I) 20 166 (nI i) v = some (xw σ (xup I 166 i v)) := xw_sI (xw_K h (by decide) (by decide) (by decide)) hi (by decide)
theorem kL167 {σ : XS} (h : Shp σ) : xal σ 167 = some (nI 289) := by rw [xal_ok (by rw [sT167 h]; decide), sl167 h]
theorem kA167 {σ : XS} (h : Shp σ) {I : Nat → Nat → Int32} {i : Nat} (hi : i < 289) : xaI (xw σ I) 20 167 (nI i) = some (I 167 i) := xw_aI (xw_K h (by decide) (by decide) (by decide)) hi (by decide)
theorem kS167 {σ : XS} (h : Shp σ) {I : Nat → Nat → Int32} {i : Nat} {v : Int32} (hi : i < 289) : xsI (xw σ I) 20 167 (nI i) v = some (xw σ (xup I 167 i v)) := xw_sI (xw_K h (by decide) (by decide) (by decide)) hi (by decide)
theorem kL168 {σ : XS} (h : Shp σ) : xal σ 168 = some (nI 4913) := by rw [xal_ok (by rw [sT168 h]; decide), sl168 h]
theorem kA168 {σ : XS} (h : Shp σ) {I : Nat → Nat → Int32} {i : Nat} (hi : i < 4913) : xaI (xw σ I) 20 168 (nI i) = some (I 168 i) := xw_aI (xw_K h (by decide) (by decide) (by decide)) hi (by decide)
theorem kS168 {σ : XS} (h : Shp σ) {I : Nat → Nat → Int32} {i : Nat} {v : Int32} (hi : i < 4913) : xsI (xw σ I) 20 168 (nI i) v = some (xw σ (xup I 168 i v)) := xw_sI (xw_K h (by decide) (by decide) (by decide)) hi (by decide)
theorem kL169 {σ : XS} (h : Shp σ) : xal σ 169 = some (nI 289) := by rw [xal_ok (by rw [sT169 h]; decide), sl169 h]
theorem kA169 {σ : XS} (h : Shp σ) {I : Nat → Nat → Int32} {i : Nat} (hi : i < 289) : xaI (xw σ I) 20 169 (nI i) = some (I 169 i) := xw_aI (xw_K h (by decide) (by decide) (by decide)) hi (by decide)
theorem kS169 {σ : XS} (h : Shp σ) {I : Nat → Nat → Int32} {i : Nat} {v : Int32} (hi : i < 289) : xsI (xw σ I) 20 169 (nI i) v = some (xw σ (xup I 169 i v)) := xw_sI (xw_K h (by decide) (by decide) (by decide)) hi (by decide)
theorem kC170 {σ : XS} (h : Shp σ) : xck σ 170 0 = some () := xck_ok (sT170 h)
theorem kG170 {σ : XS} (h : Shp σ) {I : Nat → Nat → Int32} {j : Nat} : xgI (xw σ I) 170 0 j = some (I 170 j) := xw_gI (sT170 h)
theorem kP170 {σ : XS} (h : Shp σ) {I : Nat → Nat → Int32} {j : Nat} {v : Int32} : xpI (xw σ I) 170 0 j v = some (xw σ (xup I 170 j v)) := xw_pI (sT170 h)
theorem kR170_0 {σ : XS} (h : Shp σ) : xgR σ 170 0 0 = some 171 := xgR_to (sT170 h) (sR170_0 h) (by decide)
theorem kR170_1 {σ : XS} (h : Shp σ) : xgR σ 170 0 1 = some 172 := xgR_to (sT170 h) (sR170_1 h) (by decide)
theorem kR170_2 {σ : XS} (h : Shp σ) : xgR σ 170 0 2 = some 173 := xgR_to (sT170 h) (sR170_2 h) (by decide)
theorem kL171 {σ : XS} (h : Shp σ) : xal σ 171 = some (nI 33) := by rw [xal_ok (by rw [sT171 h]; decide), sl171 h]
theorem kA171 {σ : XS} (h : Shp σ) {I : Nat → Nat → Int32} {i : Nat} (hi : i < 33) : xaI (xw σ I) 20 171 (nI i) = some (I 171 i) := xw_aI (xw_K h (by decide) (by decide) (by decide)) hi (by decide)
theorem kS171 {σ : XS} (h : Shp σ) {I : Nat → Nat → Int32} {i : Nat} {v : Int32} (hi : i < 33) : xsI (xw σ I) 20 171 (nI i) v = some (xw σ (xup I 171 i v)) := xw_sI (xw_K h (by decide) (by decide) (by decide)) hi (by decide)
theorem kL172 {σ : XS} (h : Shp σ) : xal σ 172 = some (nI 32) := by rw [xal_ok (by rw [sT172 h]; decide), sl172 h]
theorem kA172 {σ : XS} (h : Shp σ) {I : Nat → Nat → Int32} {i : Nat} (hi : i < 32) : xaI (xw σ I) 20 172 (nI i) = some (I 172 i) := xw_aI (xw_K h (by decide) (by decide) (by decide)) hi (by decide)
theorem kS172 {σ : XS} (h : Shp σ) {I : Nat → Nat → Int32} {i : Nat} {v : Int32} (hi : i < 32) : xsI (xw σ I) 20 172 (nI i) v = some (xw σ (xup I 172 i v)) := xw_sI (xw_K h (by decide) (by decide) (by decide)) hi (by decide)
theorem kL173 {σ : XS} (h : Shp σ) : xal σ 173 = some (nI 16) := by rw [xal_ok (by rw [sT173 h]; decide), sl173 h]
theorem kA173 {σ : XS} (h : Shp σ) {I : Nat → Nat → Int32} {i : Nat} (hi : i < 16) : xaI (xw σ I) 20 173 (nI i) = some (I 173 i) := xw_aI (xw_K h (by decide) (by decide) (by decide)) hi (by decide)
theorem kS173 {σ : XS} (h : Shp σ) {I : Nat → Nat → Int32} {i : Nat} {v : Int32} (hi : i < 16) : xsI (xw σ I) 20 173 (nI i) v = some (xw σ (xup I 173 i v)) := xw_sI (xw_K h (by decide) (by decide) (by decide)) hi (by decide)
theorem kC174 {σ : XS} (h : Shp σ) : xck σ 174 9 = some () := xck_ok (sT174 h)
theorem kG174 {σ : XS} (h : Shp σ) {I : Nat → Nat → Int32} {j : Nat} : xgI (xw σ I) 174 9 j = some (I 174 j) := xw_gI (sT174 h)
theorem kP174 {σ : XS} (h : Shp σ) {I : Nat → Nat → Int32} {j : Nat} {v : Int32} : xpI (xw σ I) 174 9 j v = some (xw σ (xup I 174 j v)) := xw_pI (sT174 h)
theorem kR174_0 {σ : XS} (h : Shp σ) : xgR σ 174 9 0 = some 175 := xgR_to (sT174 h) (sR174_0 h) (by decide)
theorem kR174_1 {σ : XS} (h : Shp σ) : xgR σ 174 9 1 = some 176 := xgR_to (sT174 h) (sR174_1 h) (by decide)
theorem kR174_2 {σ : XS} (h : Shp σ) : xgR σ 174 9 2 = some 177 := xgR_to (sT174 h) (sR174_2 h) (by decide)
theorem kR174_3 {σ : XS} (h : Shp σ) : xgR σ 174 9 3 = some 178 := xgR_to (sT174 h) (sR174_3 h) (by decide)
theorem kR174_4 {σ : XS} (h : Shp σ) : xgR σ 174 9 4 = some 179 := xgR_to (sT174 h) (sR174_4 h) (by decide)
theorem kL175 {σ : XS} (h : Shp σ) : xal σ 175 = some (nI 1024) := by rw [xal_ok (by rw [sT175 h]; decide), sl175 h]
theorem kA175 {σ : XS} (h : Shp σ) {I : Nat → Nat → Int32} {i : Nat} (hi : i < 1024) : xaI (xw σ I) 20 175 (nI i) = some (I 175 i) := xw_aI (xw_K h (by decide) (by decide) (by decide)) hi (by decide)
theorem kS175 {σ : XS} (h : Shp σ) {I : Nat → Nat → Int32} {i : Nat} {v : Int32} (hi : i < 1024) : xsI (xw σ I) 20 175 (nI i) v = some (xw σ (xup I 175 i v)) := xw_sI (xw_K h (by decide) (by decide) (by decide)) hi (by decide)
theorem kL176 {σ : XS} (h : Shp σ) : xal σ 176 = some (nI 289) := by rw [xal_ok (by rw [sT176 h]; decide), sl176 h]
theorem kA176 {σ : XS} (h : Shp σ) {I : Nat → Nat → Int32} {i : Nat} (hi : i < 289) : xaI (xw σ I) 20 176 (nI i) = some (I 176 i) := xw_aI (xw_K h (by decide) (by decide) (by decide)) hi (by decide)
theorem kS176 {σ : XS} (h : Shp σ) {I : Nat → Nat → Int32} {i : Nat} {v : Int32} (hi : i < 289) : xsI (xw σ I) 20 176 (nI i) v = some (xw σ (xup I 176 i v)) := xw_sI (xw_K h (by decide) (by decide) (by decide)) hi (by decide)
theorem kL177 {σ : XS} (h : Shp σ) : xal σ 177 = some (nI 1024) := by rw [xal_ok (by rw [sT177 h]; decide), sl177 h]
theorem kA177 {σ : XS} (h : Shp σ) {I : Nat → Nat → Int32} {i : Nat} (hi : i < 1024) : xaI (xw σ I) 20 177 (nI i) = some (I 177 i) := xw_aI (xw_K h (by decide) (by decide) (by decide)) hi (by decide)
theorem kS177 {σ : XS} (h : Shp σ) {I : Nat → Nat → Int32} {i : Nat} {v : Int32} (hi : i < 1024) : xsI (xw σ I) 20 177 (nI i) v = some (xw σ (xup I 177 i v)) := xw_sI (xw_K h (by decide) (by decide) (by decide)) hi (by decide)
theorem kL178 {σ : XS} (h : Shp σ) : xal σ 178 = some (nI 1024) := by rw [xal_ok (by rw [sT178 h]; decide), sl178 h]
theorem kA178 {σ : XS} (h : Shp σ) {I : Nat → Nat → Int32} {i : Nat} (hi : i < 1024) : xaI (xw σ I) 20 178 (nI i) = some (I 178 i) := xw_aI (xw_K h (by decide) (by decide) (by decide)) hi (by decide)
theorem kS178 {σ : XS} (h : Shp σ) {I : Nat → Nat → Int32} {i : Nat} {v : Int32} (hi : i < 1024) : xsI (xw σ I) 20 178 (nI i) v = some (xw σ (xup I 178 i v)) := xw_sI (xw_K h (by decide) (by decide) (by decide)) hi (by decide)
theorem kL179 {σ : XS} (h : Shp σ) : xal σ 179 = some (nI 1024) := by rw [xal_ok (by rw [sT179 h]; decide), sl179 h]
theorem kC180 {σ : XS} (h : Shp σ) : xck σ 180 10 = some () := xck_ok (sT180 h)
theorem kG180 {σ : XS} (h : Shp σ) {I : Nat → Nat → Int32} {j : Nat} : xgI (xw σ I) 180 10 j = some (I 180 j) := xw_gI (sT180 h)
theorem kP180 {σ : XS} (h : Shp σ) {I : Nat → Nat → Int32} {j : Nat} {v : Int32} : xpI (xw σ I) 180 10 j v = some (xw σ (xup I 180 j v)) := xw_pI (sT180 h)
theorem kL181 {σ : XS} (h : Shp σ) : xal σ 181 = some (nI 577) := by rw [xal_ok (by rw [sT181 h]; decide), sl181 h]
theorem kL182 {σ : XS} (h : Shp σ) : xal σ 182 = some (nI 256) := by rw [xal_ok (by rw [sT182 h]; decide), sl182 h]
theorem kA182 {σ : XS} (h : Shp σ) {I : Nat → Nat → Int32} {i : Nat} (hi : i < 256) : xaI (xw σ I) 20 182 (nI i) = some (I 182 i) := xw_aI (xw_K h (by decide) (by decide) (by decide)) hi (by decide)
theorem kS182 {σ : XS} (h : Shp σ) {I : Nat → Nat → Int32} {i : Nat} {v : Int32} (hi : i < 256) : xsI (xw σ I) 20 182 (nI i) v = some (xw σ (xup I 182 i v)) := xw_sI (xw_K h (by decide) (by decide) (by decide)) hi (by decide)
theorem kC183 {σ : XS} (h : Shp σ) : xck σ 183 12 = some () := xck_ok (sT183 h)
theorem kG183 {σ : XS} (h : Shp σ) {I : Nat → Nat → Int32} {j : Nat} : xgI (xw σ I) 183 12 j = some (I 183 j) := xw_gI (sT183 h)
theorem kP183 {σ : XS} (h : Shp σ) {I : Nat → Nat → Int32} {j : Nat} {v : Int32} : xpI (xw σ I) 183 12 j v = some (xw σ (xup I 183 j v)) := xw_pI (sT183 h)
theorem kR183_1 {σ : XS} (h : Shp σ) : xgR σ 183 12 1 = some 184 := xgR_to (sT183 h) (sR183_1 h) (by decide)
theorem kR183_3 {σ : XS} (h : Shp σ) : xgR σ 183 12 3 = some 185 := xgR_to (sT183 h) (sR183_3 h) (by decide)
theorem kR183_5 {σ : XS} (h : Shp σ) : xgR σ 183 12 5 = some 186 := xgR_to (sT183 h) (sR183_5 h) (by decide)
theorem kR183_6 {σ : XS} (h : Shp σ) : xgR σ 183 12 6 = some 187 := xgR_to (sT183 h) (sR183_6 h) (by decide)
theorem kR183_7 {σ : XS} (h : Shp σ) : xgR σ 183 12 7 = some 188 := xgR_to (sT183 h) (sR183_7 h) (by decide)
theorem kR183_8 {σ : XS} (h : Shp σ) : xgR σ 183 12 8 = some 189 := xgR_to (sT183 h) (sR183_8 h) (by decide)
theorem kR183_9 {σ : XS} (h : Shp σ) : xgR σ 183 12 9 = some 190 := xgR_to (sT183 h) (sR183_9 h) (by decide)
theorem kR183_21 {σ : XS} (h : Shp σ) : xgR σ 183 12 21 = some 191 := xgR_to (sT183 h) (sR183_21 h) (by decide)
theorem kR183_26 {σ : XS} (h : Shp σ) : xgR σ 183 12 26 = some 192 := xgR_to (sT183 h) (sR183_26 h) (by decide)
theorem kR183_27 {σ : XS} (h : Shp σ) : xgR σ 183 12 27 = some 193 := xgR_to (sT183 h) (sR183_27 h) (by decide)
theorem kR183_30 {σ : XS} (h : Shp σ) : xgR σ 183 12 30 = some 194 := xgR_to (sT183 h) (sR183_30 h) (by decide)
theorem kR183_31 {σ : XS} (h : Shp σ) : xgR σ 183 12 31 = some 195 := xgR_to (sT183 h) (sR183_31 h) (by decide)
theorem kR183_33 {σ : XS} (h : Shp σ) : xgR σ 183 12 33 = some 196 := xgR_to (sT183 h) (sR183_33 h) (by decide)
theorem kR183_34 {σ : XS} (h : Shp σ) : xgR σ 183 12 34 = some 197 := xgR_to (sT183 h) (sR183_34 h) (by decide)
theorem kR183_36 {σ : XS} (h : Shp σ) : xgR σ 183 12 36 = some 198 := xgR_to (sT183 h) (sR183_36 h) (by decide)
theorem kR183_37 {σ : XS} (h : Shp σ) : xgR σ 183 12 37 = some 199 := xgR_to (sT183 h) (sR183_37 h) (by decide)
theorem kR183_38 {σ : XS} (h : Shp σ) : xgR σ 183 12 38 = some 200 := xgR_to (sT183 h) (sR183_38 h) (by decide)
theorem kR183_39 {σ : XS} (h : Shp σ) : xgR σ 183 12 39 = some 201 := xgR_to (sT183 h) (sR183_39 h) (by decide)
theorem kR183_40 {σ : XS} (h : Shp σ) : xgR σ 183 12 40 = some 202 := xgR_to (sT183 h) (sR183_40 h) (by decide)
theorem kR183_41 {σ : XS} (h : Shp σ) : xgR σ 183 12 41 = some 203 := xgR_to (sT183 h) (sR183_41 h) (by decide)
theorem kR183_42 {σ : XS} (h : Shp σ) : xgR σ 183 12 42 = some 204 := xgR_to (sT183 h) (sR183_42 h) (by decide)
theorem kR183_43 {σ : XS} (h : Shp σ) : xgR σ 183 12 43 = some 205 := xgR_to (sT183 h) (sR183_43 h) (by decide)
theorem kR183_44 {σ : XS} (h : Shp σ) : xgR σ 183 12 44 = some 206 := xgR_to (sT183 h) (sR183_44 h) (by decide)
theorem kL184 {σ : XS} (h : Shp σ) : xal σ 184 = some (nI 2000) := by rw [xal_ok (by rw [sT184 h]; decide), sl184 h]
theorem kA184 {σ : XS} (h : Shp σ) {I : Nat → Nat → Int32} {i : Nat} (hi : i < 2000) : xaI (xw σ I) 21 184 (nI i) = some (I 184 i) := xw_aI (xw_K h (by decide) (by decide) (by decide)) hi (by decide)
theorem kS184 {σ : XS} (h : Shp σ) {I : Nat → Nat → Int32} {i : Nat} {v : Int32} (hi : i < 2000) : xsI (xw σ I) 21 184 (nI i) v = some (xw σ (xup I 184 i v)) := xw_sI (xw_K h (by decide) (by decide) (by decide)) hi (by decide)
theorem kL185 {σ : XS} (h : Shp σ) : xal σ 185 = some (nI 2000) := by rw [xal_ok (by rw [sT185 h]; decide), sl185 h]
theorem kA185 {σ : XS} (h : Shp σ) {I : Nat → Nat → Int32} {i : Nat} (hi : i < 2000) : xaI (xw σ I) 21 185 (nI i) = some (I 185 i) := xw_aI (xw_K h (by decide) (by decide) (by decide)) hi (by decide)
theorem kS185 {σ : XS} (h : Shp σ) {I : Nat → Nat → Int32} {i : Nat} {v : Int32} (hi : i < 2000) : xsI (xw σ I) 21 185 (nI i) v = some (xw σ (xup I 185 i v)) := xw_sI (xw_K h (by decide) (by decide) (by decide)) hi (by decide)
theorem kL186 {σ : XS} (h : Shp σ) : xal σ 186 = some (nI 403) := by rw [xal_ok (by rw [sT186 h]; decide), sl186 h]
theorem kA186 {σ : XS} (h : Shp σ) {I : Nat → Nat → Int32} {i : Nat} (hi : i < 403) : xaI (xw σ I) 20 186 (nI i) = some (I 186 i) := xw_aI (xw_K h (by decide) (by decide) (by decide)) hi (by decide)
theorem kS186 {σ : XS} (h : Shp σ) {I : Nat → Nat → Int32} {i : Nat} {v : Int32} (hi : i < 403) : xsI (xw σ I) 20 186 (nI i) v = some (xw σ (xup I 186 i v)) := xw_sI (xw_K h (by decide) (by decide) (by decide)) hi (by decide)
theorem kL187 {σ : XS} (h : Shp σ) : xal σ 187 = some (nI 403) := by rw [xal_ok (by rw [sT187 h]; decide), sl187 h]
theorem kA187 {σ : XS} (h : Shp σ) {I : Nat → Nat → Int32} {i : Nat} (hi : i < 403) : xaI (xw σ I) 20 187 (nI i) = some (I 187 i) := xw_aI (xw_K h (by decide) (by decide) (by decide)) hi (by decide)
theorem kS187 {σ : XS} (h : Shp σ) {I : Nat → Nat → Int32} {i : Nat} {v : Int32} (hi : i < 403) : xsI (xw σ I) 20 187 (nI i) v = some (xw σ (xup I 187 i v)) := xw_sI (xw_K h (by decide) (by decide) (by decide)) hi (by decide)
theorem kL188 {σ : XS} (h : Shp σ) : xal σ 188 = some (nI 403) := by rw [xal_ok (by rw [sT188 h]; decide), sl188 h]
theorem kA188 {σ : XS} (h : Shp σ) {I : Nat → Nat → Int32} {i : Nat} (hi : i < 403) : xaI (xw σ I) 20 188 (nI i) = some (I 188 i) := xw_aI (xw_K h (by decide) (by decide) (by decide)) hi (by decide)
theorem kS188 {σ : XS} (h : Shp σ) {I : Nat → Nat → Int32} {i : Nat} {v : Int32} (hi : i < 403) : xsI (xw σ I) 20 188 (nI i) v = some (xw σ (xup I 188 i v)) := xw_sI (xw_K h (by decide) (by decide) (by decide)) hi (by decide)
theorem kL189 {σ : XS} (h : Shp σ) : xal σ 189 = some (nI 403) := by rw [xal_ok (by rw [sT189 h]; decide), sl189 h]
theorem kL190 {σ : XS} (h : Shp σ) : xal σ 190 = some (nI 11) := by rw [xal_ok (by rw [sT190 h]; decide), sl190 h]
theorem kL191 {σ : XS} (h : Shp σ) : xal σ 191 = some (nI 66) := by rw [xal_ok (by rw [sT191 h]; decide), sl191 h]
theorem kA191 {σ : XS} (h : Shp σ) {I : Nat → Nat → Int32} {i : Nat} (hi : i < 66) : xaI (xw σ I) 20 191 (nI i) = some (I 191 i) := xw_aI (xw_K h (by decide) (by decide) (by decide)) hi (by decide)
theorem kS191 {σ : XS} (h : Shp σ) {I : Nat → Nat → Int32} {i : Nat} {v : Int32} (hi : i < 66) : xsI (xw σ I) 20 191 (nI i) v = some (xw σ (xup I 191 i v)) := xw_sI (xw_K h (by decide) (by decide) (by decide)) hi (by decide)
theorem kL192 {σ : XS} (h : Shp σ) : xal σ 192 = some (nI 66) := by rw [xal_ok (by rw [sT192 h]; decide), sl192 h]
theorem kA192 {σ : XS} (h : Shp σ) {I : Nat → Nat → Int32} {i : Nat} (hi : i < 66) : xaI (xw σ I) 20 192 (nI i) = some (I 192 i) := xw_aI (xw_K h (by decide) (by decide) (by decide)) hi (by decide)
theorem kS192 {σ : XS} (h : Shp σ) {I : Nat → Nat → Int32} {i : Nat} {v : Int32} (hi : i < 66) : xsI (xw σ I) 20 192 (nI i) v = some (xw σ (xup I 192 i v)) := xw_sI (xw_K h (by decide) (by decide) (by decide)) hi (by decide)
theorem kL193 {σ : XS} (h : Shp σ) : xal σ 193 = some (nI 2640) := by rw [xal_ok (by rw [sT193 h]; decide), sl193 h]
theorem kA193 {σ : XS} (h : Shp σ) {I : Nat → Nat → Int32} {i : Nat} (hi : i < 2640) : xaI (xw σ I) 20 193 (nI i) = some (I 193 i) := xw_aI (xw_K h (by decide) (by decide) (by decide)) hi (by decide)
theorem kS193 {σ : XS} (h : Shp σ) {I : Nat → Nat → Int32} {i : Nat} {v : Int32} (hi : i < 2640) : xsI (xw σ I) 20 193 (nI i) v = some (xw σ (xup I 193 i v)) := xw_sI (xw_K h (by decide) (by decide) (by decide)) hi (by decide)
theorem kL194 {σ : XS} (h : Shp σ) : xal σ 194 = some (nI 198) := by rw [xal_ok (by rw [sT194 h]; decide), sl194 h]
theorem kA194 {σ : XS} (h : Shp σ) {I : Nat → Nat → Int32} {i : Nat} (hi : i < 198) : xaI (xw σ I) 20 194 (nI i) = some (I 194 i) := xw_aI (xw_K h (by decide) (by decide) (by decide)) hi (by decide)
theorem kS194 {σ : XS} (h : Shp σ) {I : Nat → Nat → Int32} {i : Nat} {v : Int32} (hi : i < 198) : xsI (xw σ I) 20 194 (nI i) v = some (xw σ (xup I 194 i v)) := xw_sI (xw_K h (by decide) (by decide) (by decide)) hi (by decide)
theorem kL195 {σ : XS} (h : Shp σ) : xal σ 195 = some (nI 3) := by rw [xal_ok (by rw [sT195 h]; decide), sl195 h]
theorem kA195 {σ : XS} (h : Shp σ) {I : Nat → Nat → Int32} {i : Nat} (hi : i < 3) : xaI (xw σ I) 22 195 (nI i) = some (I 195 i) := xw_aI (xw_K h (by decide) (by decide) (by decide)) hi (by decide)
theorem kS195 {σ : XS} (h : Shp σ) {I : Nat → Nat → Int32} {i : Nat} {v : Int32} (hi : i < 3) : xsI (xw σ I) 22 195 (nI i) v = some (xw σ (xup I 195 i v)) := xw_sI (xw_K h (by decide) (by decide) (by decide)) hi (by decide)
theorem kL196 {σ : XS} (h : Shp σ) : xal σ 196 = some (nI 65536) := by rw [xal_ok (by rw [sT196 h]; decide), sl196 h]
theorem kA196 {σ : XS} (h : Shp σ) {I : Nat → Nat → Int32} {i : Nat} (hi : i < 65536) : xaI (xw σ I) 20 196 (nI i) = some (I 196 i) := xw_aI (xw_K h (by decide) (by decide) (by decide)) hi (by decide)
theorem kS196 {σ : XS} (h : Shp σ) {I : Nat → Nat → Int32} {i : Nat} {v : Int32} (hi : i < 65536) : xsI (xw σ I) 20 196 (nI i) v = some (xw σ (xup I 196 i v)) := xw_sI (xw_K h (by decide) (by decide) (by decide)) hi (by decide)
theorem kL197 {σ : XS} (h : Shp σ) : xal σ 197 = some (nI 301) := by rw [xal_ok (by rw [sT197 h]; decide), sl197 h]
theorem kA197 {σ : XS} (h : Shp σ) {I : Nat → Nat → Int32} {i : Nat} (hi : i < 301) : xaI (xw σ I) 20 197 (nI i) = some (I 197 i) := xw_aI (xw_K h (by decide) (by decide) (by decide)) hi (by decide)
theorem kS197 {σ : XS} (h : Shp σ) {I : Nat → Nat → Int32} {i : Nat} {v : Int32} (hi : i < 301) : xsI (xw σ I) 20 197 (nI i) v = some (xw σ (xup I 197 i v)) := xw_sI (xw_K h (by decide) (by decide) (by decide)) hi (by decide)
theorem kL198 {σ : XS} (h : Shp σ) : xal σ 198 = some (nI 301) := by rw [xal_ok (by rw [sT198 h]; decide), sl198 h]
theorem kA198 {σ : XS} (h : Shp σ) {I : Nat → Nat → Int32} {i : Nat} (hi : i < 301) : xaI (xw σ I) 20 198 (nI i) = some (I 198 i) := xw_aI (xw_K h (by decide) (by decide) (by decide)) hi (by decide)
theorem kS198 {σ : XS} (h : Shp σ) {I : Nat → Nat → Int32} {i : Nat} {v : Int32} (hi : i < 301) : xsI (xw σ I) 20 198 (nI i) v = some (xw σ (xup I 198 i v)) := xw_sI (xw_K h (by decide) (by decide) (by decide)) hi (by decide)
theorem kL199 {σ : XS} (h : Shp σ) : xal σ 199 = some (nI 66) := by rw [xal_ok (by rw [sT199 h]; decide), sl199 h]
theorem kA199 {σ : XS} (h : Shp σ) {I : Nat → Nat → Int32} {i : Nat} (hi : i < 66) : xaI (xw σ I) 20 199 (nI i) = some (I 199 i) := xw_aI (xw_K h (by decide) (by decide) (by decide)) hi (by decide)
theorem kS199 {σ : XS} (h : Shp σ) {I : Nat → Nat → Int32} {i : Nat} {v : Int32} (hi : i < 66) : xsI (xw σ I) 20 199 (nI i) v = some (xw σ (xup I 199 i v)) := xw_sI (xw_K h (by decide) (by decide) (by decide)) hi (by decide)
theorem kL200 {σ : XS} (h : Shp σ) : xal σ 200 = some (nI 301) := by rw [xal_ok (by rw [sT200 h]; decide), sl200 h]
theorem kA200 {σ : XS} (h : Shp σ) {I : Nat → Nat → Int32} {i : Nat} (hi : i < 301) : xaI (xw σ I) 20 200 (nI i) = some (I 200 i) := xw_aI (xw_K h (by decide) (by decide) (by decide)) hi (by decide)
theorem kS200 {σ : XS} (h : Shp σ) {I : Nat → Nat → Int32} {i : Nat} {v : Int32} (hi : i < 301) : xsI (xw σ I) 20 200 (nI i) v = some (xw σ (xup I 200 i v)) := xw_sI (xw_K h (by decide) (by decide) (by decide)) hi (by decide)
theorem kL201 {σ : XS} (h : Shp σ) : xal σ 201 = some (nI 601) := by rw [xal_ok (by rw [sT201 h]; decide), sl201 h]
theorem kL202 {σ : XS} (h : Shp σ) : xal σ 202 = some (nI 1024) := by rw [xal_ok (by rw [sT202 h]; decide), sl202 h]
theorem kA202 {σ : XS} (h : Shp σ) {I : Nat → Nat → Int32} {i : Nat} (hi : i < 1024) : xaI (xw σ I) 20 202 (nI i) = some (I 202 i) := xw_aI (xw_K h (by decide) (by decide) (by decide)) hi (by decide)
theorem kS202 {σ : XS} (h : Shp σ) {I : Nat → Nat → Int32} {i : Nat} {v : Int32} (hi : i < 1024) : xsI (xw σ I) 20 202 (nI i) v = some (xw σ (xup I 202 i v)) := xw_sI (xw_K h (by decide) (by decide) (by decide)) hi (by decide)
theorem kL203 {σ : XS} (h : Shp σ) : xal σ 203 = some (nI 1024) := by rw [xal_ok (by rw [sT203 h]; decide), sl203 h]
theorem kA203 {σ : XS} (h : Shp σ) {I : Nat → Nat → Int32} {i : Nat} (hi : i < 1024) : xaI (xw σ I) 22 203 (nI i) = some (I 203 i) := xw_aI (xw_K h (by decide) (by decide) (by decide)) hi (by decide)
theorem kS203 {σ : XS} (h : Shp σ) {I : Nat → Nat → Int32} {i : Nat} {v : Int32} (hi : i < 1024) : xsI (xw σ I) 22 203 (nI i) v = some (xw σ (xup I 203 i v)) := xw_sI (xw_K h (by decide) (by decide) (by decide)) hi (by decide)
theorem kL204 {σ : XS} (h : Shp σ) : xal σ 204 = some (nI 1024) := by rw [xal_ok (by rw [sT204 h]; decide), sl204 h]
theorem kA204 {σ : XS} (h : Shp σ) {I : Nat → Nat → Int32} {i : Nat} (hi : i < 1024) : xaI (xw σ I) 20 204 (nI i) = some (I 204 i) := xw_aI (xw_K h (by decide) (by decide) (by decide)) hi (by decide)
theorem kS204 {σ : XS} (h : Shp σ) {I : Nat → Nat → Int32} {i : Nat} {v : Int32} (hi : i < 1024) : xsI (xw σ I) 20 204 (nI i) v = some (xw σ (xup I 204 i v)) := xw_sI (xw_K h (by decide) (by decide) (by decide)) hi (by decide)
theorem kL205 {σ : XS} (h : Shp σ) : xal σ 205 = some (nI 1024) := by rw [xal_ok (by rw [sT205 h]; decide), sl205 h]
theorem kL206 {σ : XS} (h : Shp σ) : xal σ 206 = some (nI 256) := by rw [xal_ok (by rw [sT206 h]; decide), sl206 h]
theorem kA206 {σ : XS} (h : Shp σ) {I : Nat → Nat → Int32} {i : Nat} (hi : i < 256) : xaI (xw σ I) 20 206 (nI i) = some (I 206 i) := xw_aI (xw_K h (by decide) (by decide) (by decide)) hi (by decide)
theorem kS206 {σ : XS} (h : Shp σ) {I : Nat → Nat → Int32} {i : Nat} {v : Int32} (hi : i < 256) : xsI (xw σ I) 20 206 (nI i) v = some (xw σ (xup I 206 i v)) := xw_sI (xw_K h (by decide) (by decide) (by decide)) hi (by decide)
end
section
/-! setups, wherever they lie -/
def suA : List Nat := 8 :: 16 :: ((List.range 40).map (fun i => 21 + 3 * i) ++ (List.range 3).map (fun i => 143 + 5 * i))
theorem suA_k {i : Nat} (h : i < 40) : 21 + 3 * i ∈ suA := List.mem_cons_of_mem _ (List.mem_cons_of_mem _ (List.mem_append_left _ (List.mem_map.mpr ⟨i, List.mem_range.mpr h, rfl⟩)))
theorem suA_s {i : Nat} (h : i < 3) : 143 + 5 * i ∈ suA := List.mem_cons_of_mem _ (List.mem_cons_of_mem _ (List.mem_append_right _ (List.mem_map.mpr ⟨i, List.mem_range.mpr h, rfl⟩)))
theorem suA_8 : 8 ∈ suA := List.mem_cons_self
theorem suA_16 : 16 ∈ suA := List.mem_cons_of_mem _ List.mem_cons_self
theorem suK : ∀ a ∈ suA, a + 2 < 160 ∧ shK.getD a (99, 0) = (6, 0) ∧ shK.getD (a + 1) (99, 0) = (20, 32) ∧ shK.getD (a + 2) (99, 0) = (20, 16) ∧ (shR.getD a []).getD 0 0 = a + 1 ∧ (shR.getD a []).getD 1 0 = a + 2 := by decide +kernel
section SETUP
variable {σ : XS} {I : Nat → Nat → Int32} {a b : Nat}
theorem suT (h : Shp σ) (ha : a ∈ suA) : xT σ a = 6 := by
  have := suK a ha
  unfold xT
  rw [xw_K h (by omega) (by omega) (by omega), this.2.1]
theorem suK1 (h : Shp σ) (ha : a ∈ suA) : σ.1 (a + 1) = (20, 32) := by
  have := suK a ha
  rw [xw_K h (by omega) (by omega) (by omega), this.2.2.1]
theorem suK2 (h : Shp σ) (ha : a ∈ suA) : σ.1 (a + 2) = (20, 16) := by
  have := suK a ha
  rw [xw_K h (by omega) (by omega) (by omega), this.2.2.2.1]
theorem suC (h : Shp σ) (ha : a ∈ suA) : xck σ a 6 = some () := xck_ok (suT h ha)
theorem suG (h : Shp σ) (ha : a ∈ suA) {j : Nat} : xgI (xw σ I) a 6 j = some (I a j) := xw_gI (suT h ha)
theorem suP (h : Shp σ) (ha : a ∈ suA) {j : Nat} {v : Int32} : xpI (xw σ I) a 6 j v = some (xw σ (xup I a j v)) := xw_pI (suT h ha)
theorem suR0 (h : Shp σ) (ha : a ∈ suA) : xgR σ a 6 0 = some (a + 1) := by
  have := suK a ha
  refine xgR_to (suT h ha) ?_ (by omega)
  rw [h.2.2 a (by omega) 0 (by omega), this.2.2.2.2.1]
theorem suR1 (h : Shp σ) (ha : a ∈ suA) : xgR σ a 6 1 = some (a + 2) := by
  have := suK a ha
  refine xgR_to (suT h ha) ?_ (by omega)
  rw [h.2.2 a (by omega) 1 (by omega), this.2.2.2.2.2]
theorem suL1 (h : Shp σ) (ha : a ∈ suA) : xal σ (a + 1) = some (nI 32) := by
  rw [xal_ok (by unfold xT; rw [suK1 h ha]; decide)]
  unfold xlen
  rw [suK1 h ha]
theorem suL2 (h : Shp σ) (ha : a ∈ suA) : xal σ (a + 2) = some (nI 16) := by
  rw [xal_ok (by unfold xT; rw [suK2 h ha]; decide)]
  unfold xlen
  rw [suK2 h ha]
theorem suA1 (h : Shp σ) (ha : a ∈ suA) {i : Nat} (hi : i < 32) : xaI (xw σ I) 20 (a + 1) (nI i) = some (I (a + 1) i) := xw_aI (suK1 h ha) hi (by decide)
theorem suA2 (h : Shp σ) (ha : a ∈ suA) {i : Nat} (hi : i < 16) : xaI (xw σ I) 20 (a + 2) (nI i) = some (I (a + 2) i) := xw_aI (suK2 h ha) hi (by decide)
theorem suS1 (h : Shp σ) (ha : a ∈ suA) {i : Nat} {v : Int32} (hi : i < 32) : xsI (xw σ I) 20 (a + 1) (nI i) v = some (xw σ (xup I (a + 1) i v)) := xw_sI (suK1 h ha) hi (by decide)
theorem suS2 (h : Shp σ) (ha : a ∈ suA) {i : Nat} {v : Int32} (hi : i < 16) : xsI (xw σ I) 20 (a + 2) (nI i) v = some (xw σ (xup I (a + 2) i v)) := xw_sI (suK2 h ha) hi (by decide)
/-- one setup copied into another -/
def cpI (I : Nat → Nat → Int32) (a b : Nat) : Nat → Nat → Int32 := fun c k => if c = a + 1 ∧ k < 32 then I (b + 1) k else if c = a + 2 ∧ k < 16 then I (b + 2) k else if c = a ∧ 2 ≤ k ∧ k ≤ 7 then I b k else I c k
theorem xw_cp {q m n k : Nat} (h1 : σ.1 a = (20, m)) (h2 : σ.1 b = (20, n)) (hm : k ≤ m) (hn : k ≤ n) (hk : k < 2147483648) : xcp (xw σ I) a (0 : Int32) b (0 : Int32) (nI k) = some (xw σ (xur I b (fun j => if j < k then I a j else I b j))) := by
  unfold xcp
  have e0 : ((0 : Int32)).toNatClampNeg = 0 := rfl
  have ek : (nI k).toNatClampNeg = k := nI_clamp hk
  rw [e0, ek, if_pos ⟨congrArg Prod.fst h1, congrArg Prod.fst h2, by decide, by decide, nI_pos hk, by rw [show xlen (xw σ I) a = m from congrArg Prod.snd h1]; omega, by rw [show xlen (xw σ I) b = n from congrArg Prod.snd h2]; omega⟩]
  congr 1
  show xw σ _ = _
  congr 1
  unfold xur
  funext c j
  by_cases hc : c = b
  · rw [if_pos hc, if_pos hc]
    unfold va_cpy
    by_cases hj : j < k
    · rw [if_pos ⟨Nat.zero_le _, by omega⟩]
      simp [xw_I, hj]
    · rw [if_neg (by omega)]
      simp [xw_I, hj]
  · rw [if_neg hc, if_neg hc]
    rfl
theorem cp_ok (h : Shp σ) (ha : a ∈ suA) (hb : b ∈ suA) (hab : a ≠ b) (h1 : b ≠ a + 1) (h2 : b ≠ a + 2) (h3 : a ≠ b + 1) (h4 : a ≠ b + 2) : f_X6_copyFrom (xw σ I) a b = some (xw σ (cpI I a b)) := by
  unfold f_X6_copyFrom
  simp only [xw_gR, suR0 h hb, suR0 h ha, suR1 h hb, suR1 h ha, Option.bind_some, xw_cp (q := 0) (suK1 h hb) (suK1 h ha) (Nat.le_refl 32) (Nat.le_refl 32) (by decide), show (32 : Int32) = nI 32 from rfl, show (16 : Int32) = nI 16 from rfl, xw_cp (q := 0) (suK2 h hb) (suK2 h ha) (Nat.le_refl 16) (Nat.le_refl 16) (by decide), suG h ha, suG h hb, suP h ha]
  congr 2
  funext c k
  have h5 : ¬ (b + 1 = a) := fun q => h3 q.symm
  have h6 : ¬ (b + 2 = a) := fun q => h4 q.symm
  have h7 : ¬ (b = a) := fun q => hab q.symm
  have h8 : ¬ (b + 2 = a + 1) := by omega
  simp only [xup_at, xur_at, cpI, h1, h2, h5, h6, h7, h8, if_false, false_and]
  by_cases c1 : c = a + 1
  · subst c1; simp
  by_cases c2 : c = a + 2
  · subst c2; simp
  by_cases c3 : c = a
  · subst c3; simp only [true_and, Nat.left_eq_add, if_false, reduceCtorEq, c1, c2, false_and]
    grind (splits := 20)
  · simp [c1, c2, c3]
end SETUP
end
section
/-! what each part of the invariant looks at -/
def sTAP (a k : Nat) : Prop := (a = 3 ∧ k = 4) ∨ a = 4 ∨ a = 184 ∨ (a = 183 ∧ k = 2)
def sGRD (a k : Nat) : Prop := (11 ≤ a ∧ a ≤ 15) ∨ (a = 183 ∧ 17 ≤ k ∧ k ≤ 20) ∨ a = 173
def sNOW (a k : Nat) : Prop := (16 ≤ a ∧ a ≤ 18) ∨ a = 191
def sPST (a k : Nat) : Prop := (19 ≤ a ∧ a ≤ 140) ∨ a = 193 ∨ (a = 183 ∧ 28 ≤ k ∧ k ≤ 29)
def sSLT (a k : Nat) : Prop := (142 ≤ a ∧ a ≤ 156) ∨ a = 194 ∨ a = 195
def sCCH (c a k : Nat) : Prop := (165 ≤ a ∧ a ≤ 175) ∨ (a = 157 ∧ k = 5) ∨ a = c
def sKNW (a k : Nat) : Prop := (a = 183 ∧ (k = 32 ∨ k = 35)) ∨ (a = 191 ∧ k < 64) ∨ (196 ≤ a ∧ a ≤ 198)
section FRAME
variable {g : GD} {gT gP gT' gP' : GH} {st st' : Nat} {I I' : Nat → Nat → Int32} {R : Nat → Nat → Nat} {len : Nat → Nat}
theorem TAP_c (h : ∀ a k, sTAP a k → I' a k = I a k) (H : TAP I) : TAP I' := by
  obtain ⟨m, h1, h2, h3, h4⟩ := H
  refine ⟨m, h1, by rw [h _ _ (by unfold sTAP; omega)]; exact h2, by rw [h _ _ (by unfold sTAP; omega)]; exact h3, fun k hk => ?_⟩
  rw [h 184 k (by unfold sTAP; omega), h 4 k (by unfold sTAP; omega)]
  exact h4 k hk
theorem GRD_c (h : ∀ a k, sGRD a k → I' a k = I a k) (H : GRD I g) : GRD I' g := by
  obtain ⟨h0, h1, h2, h3, h4, h5, h6, h7, h8, h9, h10, h11, h12⟩ := H
  have u : ∀ a k, ((11 ≤ a ∧ a ≤ 15) ∨ (a = 183 ∧ 17 ≤ k ∧ k ≤ 20) ∨ a = 173) → I' a k = I a k := h
  refine ⟨h0, ?_, ?_, ?_, ?_, fun t ht => ?_, fun i hi => ?_, fun i j hi hj => ?_, ?_, ?_, ?_, ?_, fun i hi => ?_⟩
  · rw [u _ _ (by omega)]; exact h1
  · rw [u _ _ (by omega)]; exact h2
  · rw [u _ _ (by omega)]; exact h3
  · rw [u _ _ (by omega)]; exact h4
  · rw [u _ _ (by omega)]; exact h5 t ht
  · rw [u _ _ (by omega)]; exact h6 i hi
  · rw [u _ _ (by omega), u _ _ (by omega)]; exact h7 i j hi hj
  · rw [u _ _ (by omega)]; exact h8
  · rw [u _ _ (by omega)]; exact h9
  · rw [u _ _ (by omega)]; exact h10
  · rw [u _ _ (by omega)]; exact h11
  · rw [u _ _ (by omega)]; exact h12 i hi
theorem SR_m (hg : g ∈ gAll) {a a' : Nat} {F F' : Nat → Int32} (h0 : ∀ k, 2 ≤ k → k ≤ 7 → I' a' k = I a k) (h1 : ∀ k, k < 32 → I' (a' + 1) k = I (a + 1) k) (h2 : ∀ k, k < 16 → I' (a' + 2) k = I (a + 2) k) (hF : ∀ k, k < 66 → F' k = F k) (H : SR g I a F) : SR g I' a' F' := by
  obtain ⟨e1, e2, ⟨p, u, e3, e4, e5, e6⟩, e7, e8⟩ := H
  have h16 := (gAll_b g hg).2.2.1
  refine ⟨fun t ht => by rw [h1 t ht, e1 t ht, hF t (by omega)], fun i hi => by rw [h2 i hi, e2 i hi, hF _ (by omega)], ⟨p, u, by rw [h0 2 (by omega) (by omega)]; exact e3, by rw [h0 3 (by omega) (by omega)]; exact e4, fun i => ?_, fun i => ?_⟩, by rw [h0 4 (by omega) (by omega), hF 64 (by omega)]; exact e7, by rw [h0 5 (by omega) (by omega), hF 65 (by omega)]; exact e8⟩
  · by_cases hi : i < gSz g
    · rw [e5, hF (48 + i) (by omega)]
    · rw [e5]; simp [hi]
  · by_cases hi : i < gSz g
    · rw [e6, hF (48 + i) (by omega)]
    · rw [e6]; simp [hi]
theorem LV_m (hg : g ∈ gAll) {a a' : Nat} {F F' : Nat → Int32} (h0 : ∀ k, 2 ≤ k → k ≤ 7 → I' a' k = I a k) (h1 : ∀ k, k < 32 → I' (a' + 1) k = I (a + 1) k) (h2 : ∀ k, k < 16 → I' (a' + 2) k = I (a + 2) k) (hF : ∀ k, k < 66 → F' k = F k)
    (hs : st ≤ st') (hT : ∀ t, t ≤ st → gT' t = gT t) (hP : ∀ t, t ≤ st → gP' t = gP t) (H : LV g gT gP st I a F) : LV g gT' gP' st' I' a' F' := by
  obtain ⟨e1, e2, t, p, e3, e4, e5, e6, e7, e8, e9, e10⟩ := H
  refine ⟨SR_m hg h0 h1 h2 hF e1, RO_congr hg hF e2, t, p, by omega, by omega, by rw [h0 6 (by omega) (by omega)]; exact e5, by rw [h0 7 (by omega) (by omega)]; exact e6, by rw [hT t e3]; exact e7, fun k hk => by rw [hT t e3, hF k (by omega)]; exact e8 k hk, by rw [hP p e4]; exact e9, fun k hk => by rw [hP p e4, hF k (by omega)]; exact e10 k hk⟩
theorem NOW_c (hg : g ∈ gAll) (h : ∀ a k, sNOW a k → I' a k = I a k) (H : LV g gT gP st I 16 (I 191)) : LV g gT gP st I' 16 (I' 191) :=
  have u : ∀ a k, ((16 ≤ a ∧ a ≤ 18) ∨ a = 191) → I' a k = I a k := h
  LV_m hg (fun k _ _ => u _ _ (by omega)) (fun k _ => u _ _ (by omega)) (fun k _ => u _ _ (by omega)) (fun k _ => u _ _ (by omega)) (Nat.le_refl _) (fun _ _ => rfl) (fun _ _ => rfl) H
theorem PST_c (hg : g ∈ gAll) (h : ∀ a k, sPST a k → I' a k = I a k) (hs : st ≤ st') (hT : ∀ t, t ≤ st → gT' t = gT t) (hP : ∀ t, t ≤ st → gP' t = gP t) (H : PST g gT gP st I) : PST g gT' gP' st' I' := by
  have u : ∀ a k, ((19 ≤ a ∧ a ≤ 140) ∨ a = 193 ∨ (a = 183 ∧ 28 ≤ k ∧ k ≤ 29)) → I' a k = I a k := h
  obtain ⟨q, nx, ea, h1, h2, h3, h4, h5, h6, h7, h8⟩ := H
  refine ⟨q, nx, ea, h1, h2, h3, by rw [u _ _ (by omega)]; exact h4, by rw [u _ _ (by omega)]; exact h5, by rw [u _ _ (by omega)]; exact h6, by rw [u _ _ (by omega)]; exact h7, fun i hi => ?_⟩
  exact LV_m hg (fun k _ _ => u _ _ (by omega)) (fun k _ => u _ _ (by omega)) (fun k _ => u _ _ (by omega)) (fun k _ => u _ _ (by omega)) hs hT hP (h8 i hi)
theorem ct_congr {F F' : Nat → Int32} (hg : g ∈ gAll) (h : ∀ k, k < 64 → F' k = F k) : lW g F' = lW g F ∧ eE g (zR F') = eE g (zR F) ∧ lE g F' = lE g F ∧ lC g F' = lC g F ∧ lU g F' = lU g F ∧ lvP g F' = lvP g F ∧ bk g F' = bk g F := by
  have h16 := (gAll_b g hg).2.2.1
  have a : lW g F' = lW g F := by
    funext s
    unfold lW
    rw [Bool.eq_iff_iff, List.all_eq_true, List.all_eq_true]
    constructor
    · intro H i hi
      have := List.mem_range.mp hi
      have q := H i hi
      rw [h (48 + i) (by omega)] at q
      exact q
    · intro H i hi
      have := List.mem_range.mp hi
      have q := H i hi
      rw [h (48 + i) (by omega)]
      exact q
  have b : eE g (zR F') = eE g (zR F) := by
    funext s
    unfold eE
    congr 1
    · apply fb_si_cong
      intro t ht
      unfold eT zR
      split
      · rfl
      · rw [h t (by omega)]
    · apply fb_si_cong
      intro t ht
      unfold eH zR
      rw [h (32 + t) (by omega)]
  have c : lE g F' = lE g F := by funext e s; unfold lE; rw [a, b]
  have d : lC g F' = lC g F := by funext e; unfold lC; rw [c]
  have f : lU g F' = lU g F := by funext e u; unfold lU; rw [c]
  refine ⟨a, b, c, d, f, ?_, ?_⟩
  · funext k; unfold lvP; rw [d]
  · funext s
    unfold bk
    apply fb_ct_cong
    intro t ht
    unfold bkP
    split
    · rfl
    · rw [h t (by omega)]
theorem WAY_c (hg : g ∈ gAll) {a : Nat} {F F' : Nat → Int32} (h : ∀ k, k < 289 → I' a k = I a k) (hF : ∀ k, k < 64 → F' k = F k) (H : WAY I a g F) : WAY I' a g F' := fun k hk => by
  rw [h k hk, (ct_congr hg hF).2.2.2.1]; exact H k hk
theorem SLT_c (hg : g ∈ gAll) (h : ∀ a k, sSLT a k → I' a k = I a k) (hs : st ≤ st') (hT : ∀ t, t ≤ st → gT' t = gT t) (hP : ∀ t, t ≤ st → gP' t = gP t) (H : SLT g gT gP st I) : SLT g gT' gP' st' I' := by
  have u : ∀ a k, ((142 ≤ a ∧ a ≤ 156) ∨ a = 194 ∨ a = 195) → I' a k = I a k := h
  intro i hi
  obtain ⟨f, c, h1, h2, h3, h4, h5, h6, h7⟩ := H i hi
  refine ⟨f, c, h1, h2, by rw [u _ _ (by omega)]; exact h3, by rw [u _ _ (by omega)]; exact h4, by rw [u _ _ (by omega)]; exact h5, fun hf => ?_, fun hf hc => ?_⟩
  · exact LV_m hg (fun k _ _ => u _ _ (by omega)) (fun k _ => u _ _ (by omega)) (fun k _ => u _ _ (by omega)) (fun k _ => u _ _ (by omega)) hs hT hP (h6 hf)
  · exact WAY_c hg (fun k _ => u _ _ (by omega)) (fun k _ => u _ _ (by omega)) (h7 hf hc)
theorem ENK_c {a : Nat} {F : Nat → Int32} (h : ∀ k, I' (R a 4) k = I (R a 4) k) (H : ENK I R len a g F) : ENK I' R len a g F := ⟨H.1, fun s hs => by rw [h]; exact H.2 s hs⟩
theorem LVK_c {F : Nat → Int32} (h : ∀ a k, (165 ≤ a ∧ a ≤ 169) → I' a k = I a k) (H : LVK I g F) : LVK I' g F := by
  obtain ⟨h1, h2, h3, h4, h5⟩ := H
  refine ⟨fun k hk => by rw [h _ _ (by omega)]; exact h1 k hk, fun k s hk hs q1 q2 => by rw [h _ _ (by omega)]; exact h2 k s hk hs q1 q2, fun k u hk hu => by rw [h _ _ (by omega)]; exact h3 k u hk hu, by rw [h _ _ (by omega)]; exact h4, fun k hk q => by rw [h _ _ (by omega)]; exact h5 k hk q⟩
theorem BRK_c {F : Nat → Int32} (h : ∀ k, I' 171 k = I 171 k) (H : BRK I g F) : BRK I' g F := fun m hm => by rw [h]; exact H m hm
theorem TRK_c {F : Nat → Int32} (h : ∀ a k, (174 ≤ a ∧ a ≤ 175) → I' a k = I a k) (H : TRK I R g F) : TRK I' R g F := by
  intro hn
  obtain ⟨h1, h2, h3, M, o, h4, h5, h6, h7⟩ := H hn
  exact ⟨by rw [h _ _ (by omega)]; exact h1, h2, h3, M, o, h4, by rw [h _ _ (by omega)]; exact h5, fun i hi => by rw [h _ _ (by omega)]; exact h6 i hi, h7⟩
theorem CCH_c (h : ∀ a k, sCCH (R 157 4) a k → I' a k = I a k) (hs : st ≤ st') (hT : ∀ t, t ≤ st → gT' t = gT t) (hP : ∀ t, t ≤ st → gP' t = gP t) (H : CCH I R len gT gP st) : CCH I' R len gT' gP' st' := by
  have u : ∀ a k, ((165 ≤ a ∧ a ≤ 175) ∨ (a = 157 ∧ k = 5) ∨ a = R 157 4) → I' a k = I a k := h
  obtain ⟨h1, h2, h3, h4⟩ := H
  refine ⟨?_, ?_, ?_, ?_⟩
  · rw [u 157 5 (by omega)]
    rcases h1 with q | ⟨t, q1, q2, q3⟩
    · exact .inl q
    · exact .inr ⟨t, by omega, q2, by rw [hT t q1]; exact ENK_c (fun k => u _ _ (by omega)) q3⟩
  · rw [u 165 5 (by omega)]
    rcases h2 with q | ⟨t, q1, q2, q3⟩
    · exact .inl q
    · exact .inr ⟨t, by omega, q2, by rw [hP t q1]; exact LVK_c (fun a k _ => u _ _ (by omega)) q3⟩
  · rw [u 170 3 (by omega)]
    rcases h3 with q | ⟨t, q1, q2, q3⟩
    · exact .inl q
    · exact .inr ⟨t, by omega, q2, by rw [hP t q1]; exact BRK_c (fun k => u _ _ (by omega)) q3⟩
  · rw [u 174 10 (by omega)]
    rcases h4 with q | ⟨t, q1, q2, q3⟩
    · exact .inl q
    · exact .inr ⟨t, by omega, q2, by rw [hP t q1]; exact TRK_c (fun a k _ => u _ _ (by omega)) q3⟩
theorem KNK_c (hg : g ∈ gAll) {F F' : Nat → Int32} (h : ∀ a k, ((a = 183 ∧ k = 35) ∨ (196 ≤ a ∧ a ≤ 198)) → I' a k = I a k) (hF : ∀ k, k < 64 → F' k = F k) (H : KNK I g F) : KNK I' g F' := by
  obtain ⟨c1, c2, c3, c4, c5, c6, c7⟩ := ct_congr hg hF
  obtain ⟨h1, h2, h3, h4⟩ := H
  have cN : lvN g F' = lvN g F := by unfold lvN; rw [c6]
  refine ⟨fun s hs => by rw [h _ _ (by omega), c1, c2]; exact h1 s hs, fun e he => by rw [h _ _ (by omega), c4]; exact h2 e he, by rw [h _ _ (by omega), cN]; exact h3, fun k hk q => ?_⟩
  rw [c6] at q ⊢
  rw [h _ _ (by omega)]
  exact h4 k hk q
theorem KNW_c (hg : g ∈ gAll) (h : ∀ a k, sKNW a k → I' a k = I a k) (H : KNW I g) : KNW I' g := by
  have u : ∀ a k, ((a = 183 ∧ (k = 32 ∨ k = 35)) ∨ (a = 191 ∧ k < 64) ∨ (196 ≤ a ∧ a ≤ 198)) → I' a k = I a k := h
  unfold KNW
  rw [u 183 32 (by omega)]
  rcases H with q | ⟨q1, q2⟩
  · exact .inl q
  · exact .inr ⟨q1, KNK_c hg (fun a k _ => u _ _ (by omega)) (fun k _ => u _ _ (by omega)) q2⟩
end FRAME
end
section
/-! the tape: feed, back, place -/
theorem xforE {α β : Type} {f : α → Option (α ⊕ β)} {a0 : α} (s : Nat → α) (N : Nat) {b : β} (h0 : a0 = s 0) (hs : ∀ k, k < N → f (s k) = some (.inl (s (k + 1)))) (he : f (s N) = some (.inr b)) : xloop f a0 = some b := by
  rw [h0]
  exact xfor s N hs he
def bW (x : Int32) (j : Nat) : Int32 := vp_nar .byte ((x >>> (iI (24 - 8 * (j : Int)) &&& 31)).toInt8.toInt32)
theorem bW_b (x : Int32) (j : Nat) : -128 ≤ (bW x j).toInt ∧ (bW x j).toInt < 128 := by
  unfold bW vp_nar
  exact fb_byte_rng _
def fdI (I : Nat → Nat → Int32) (a b f m : Nat) (w : Nat → Int32) (n : Nat) : Nat → Nat → Int32 := fun c k => if c = a ∧ m ≤ k ∧ k < m + n then w (k - m) else if c = b ∧ k = f then nI (m + n) else I c k
theorem fdI_0 {I : Nat → Nat → Int32} {a b f m : Nat} {w : Nat → Int32} (h : I b f = nI m) : fdI I a b f m w 0 = I := by
  funext c k
  unfold fdI
  rw [if_neg (by omega)]
  split
  · next q => rw [q.1, q.2, h, Nat.add_zero]
  · rfl
theorem fdI_s {I : Nat → Nat → Int32} {a b f m n : Nat} {w : Nat → Int32} (hab : a ≠ b) : xup (xup (fdI I a b f m w n) a (m + n) (w n)) b f (nI (m + n + 1)) = fdI I a b f m w (n + 1) := by
  funext c k
  simp only [xup_at, fdI]
  by_cases h1 : c = b
  · subst h1
    have h2 : ¬ c = a := fun q => hab q.symm
    by_cases h3 : k = f
    · simp [h2, h3, Nat.add_assoc]
    · simp [h2, h3]
  · by_cases h2 : c = a
    · subst h2
      by_cases h3 : k = m + n
      · subst h3; simp [h1]
      · by_cases h4 : m ≤ k ∧ k < m + n
        · have : m ≤ k ∧ k < m + (n + 1) := by omega
          simp [h1, h3, h4, this]
        · have : ¬ (m ≤ k ∧ k < m + (n + 1)) := by omega
          simp [h1, h3, h4, this]
    · simp [h1, h2]
section TAPE
variable {σ : XS} {I : Nat → Nat → Int32} {m : Nat}
theorem addWord_ok (hS : Shp σ) (hI : I 3 4 = nI m) (hm : m + 4 ≤ 2000) (x : Int32) : f_X8_addWord (xw σ I) 3 x = some (xw σ (fdI I 4 3 4 m (bW x) 4)) := by
  unfold f_X8_addWord
  refine xforE (fun j : Nat => (iI (24 - 8 * (j : Int)), xw σ (fdI I 4 3 4 m (bW x) j))) 4 (by simp only [fdI_0 hI]; rfl) (fun j hj => ?_) ?_
  · simp only [f_X8_addWord_b3]
    have e1 : ¬ iI (24 - 8 * (j : Int)) < 0 := by
      rw [show (0 : Int32) = iI 0 from rfl, iI_lt (by omega) (by omega) (by omega) (by omega)]; omega
    have e2 : fdI I 4 3 4 m (bW x) j 3 4 = nI (m + j) := by simp [fdI]
    rw [if_neg e1]
    simp (disch := first | assumption | omega) only [Option.bind_some, Option.map_some, xw_gR, xw_gN, xw_al, xw_ck, xw_uI, xw_ur, xup_at, xur_at, if_true, if_false, reduceIte, and_true, true_and, and_false, false_and, not_true_eq_false, not_false_eq_true, Nat.reduceEqDiff, eq_self, Nat.reduceAdd, Nat.reduceMul, kC1, kG1, kP1, kR1_0, kR1_1, kR1_2, kR1_3, kR1_4, kR1_5, kR1_6, kR1_7, kR1_8, kR1_9, kR1_10, kR1_11, kR1_12, kR1_13, kC2, kG2, kP2, kR2_0, kR2_1, kC3, kG3, kP3, kR3_0, kR3_1, kR3_2, kR3_3, kL4, kA4, kS4, kL5, kA5, kS5, kL6, kA6, kS6, kL7, kA7, kS7, kC8, kG8, kP8, kR8_0, kR8_1, kL9, kA9, kS9, kL10, kA10, kS10, kC11, kG11, kP11, kR11_0, kR11_1, kR11_2, kR11_3, kL12, kA12, kS12, kL13, kA13, kS13, kL14, kA14, kS14, kL15, kA15, kS15, kC16, kG16, kP16, kR16_0, kR16_1, kL17, kA17, kS17, kL18, kA18, kS18, kC19, kG19, kP19, kR19_0, kL20, kL141, kL146, kA146, kS146, kL151, kA151, kS151, kL156, kA156, kS156, kC157, kG157, kP157, kR157_0, kR157_1, kL158, kA158, kS158, kL159, kA159, kS159, kC161, kG161, kP161, kR161_0, kR161_1, kL162, kA162, kS162, kL163, kA163, kS163, kC165, kG165, kP165, kR165_0, kR165_1, kR165_2, kR165_3, kL166, kA166, kS166, kL167, kA167, kS167, kL168, kA168, kS168, kL169, kA169, kS169, kC170, kG170, kP170, kR170_0, kR170_1, kR170_2, kL171, kA171, kS171, kL172, kA172, kS172, kL173, kA173, kS173, kC174, kG174, kP174, kR174_0, kR174_1, kR174_2, kR174_3, kR174_4, kL175, kA175, kS175, kL176, kA176, kS176, kL177, kA177, kS177, kL178, kA178, kS178, kL179, kC180, kG180, kP180, kL181, kL182, kA182, kS182, kC183, kG183, kP183, kR183_1, kR183_3, kR183_5, kR183_6, kR183_7, kR183_8, kR183_9, kR183_21, kR183_26, kR183_27, kR183_30, kR183_31, kR183_33, kR183_34, kR183_36, kR183_37, kR183_38, kR183_39, kR183_40, kR183_41, kR183_42, kR183_43, kR183_44, kL184, kA184, kS184, kL185, kA185, kS185, kL186, kA186, kS186, kL187, kA187, kS187, kL188, kA188, kS188, kL189, kL190, kL191, kA191, kS191, kL192, kA192, kS192, kL193, kA193, kS193, kL194, kA194, kS194, kL195, kA195, kS195, kL196, kA196, kS196, kL197, kA197, kS197, kL198, kA198, kS198, kL199, kA199, kS199, kL200, kA200, kS200, kL201, kL202, kA202, kS202, kL203, kA203, kS203, kL204, kA204, kS204, kL205, kL206, kA206, kS206, e2]
    rw [if_neg (nI_pos (by omega)), if_neg (by rw [nn_le (by omega) (by omega)]; omega)]
    have e3 : iI (24 - 8 * (j : Int)) + (-8 : Int32) = iI (24 - 8 * ((j + 1 : Nat) : Int)) := by
      rw [show (-8 : Int32) = iI (-8) from rfl, iI_add]; congr 1; omega
    rw [e3, show (1 : Int32) = nI 1 from rfl, nn_add]
    show some (Sum.inl (_, xw σ (xup (xup (fdI I 4 3 4 m (bW x) j) 4 (m + j) (bW x j)) 3 4 (nI (m + j + 1))))) = _
    rw [fdI_s (by decide)]
  · simp only [f_X8_addWord_b3]
    rw [if_pos (by decide)]
    rfl
theorem lays_ok (hS : Shp σ) (hI : I 183 2 = nI m) (hm : m + 4 ≤ 2000) (x : Int32) : f_X12_lays (xw σ I) 183 x = some (xw σ (fdI I 184 183 2 m (bW x) 4)) := by
  unfold f_X12_lays
  refine xforE (fun j : Nat => (iI (24 - 8 * (j : Int)), xw σ (fdI I 184 183 2 m (bW x) j))) 4 (by simp only [fdI_0 hI]; rfl) (fun j hj => ?_) ?_
  · simp only [f_X12_lays_b3]
    have e1 : ¬ iI (24 - 8 * (j : Int)) < 0 := by
      rw [show (0 : Int32) = iI 0 from rfl, iI_lt (by omega) (by omega) (by omega) (by omega)]; omega
    have e2 : fdI I 184 183 2 m (bW x) j 183 2 = nI (m + j) := by simp [fdI]
    rw [if_neg e1]
    simp (disch := first | assumption | omega) only [Option.bind_some, Option.map_some, xw_gR, xw_gN, xw_al, xw_ck, xw_uI, xw_ur, xup_at, xur_at, if_true, if_false, reduceIte, and_true, true_and, and_false, false_and, not_true_eq_false, not_false_eq_true, Nat.reduceEqDiff, eq_self, Nat.reduceAdd, Nat.reduceMul, kC1, kG1, kP1, kR1_0, kR1_1, kR1_2, kR1_3, kR1_4, kR1_5, kR1_6, kR1_7, kR1_8, kR1_9, kR1_10, kR1_11, kR1_12, kR1_13, kC2, kG2, kP2, kR2_0, kR2_1, kC3, kG3, kP3, kR3_0, kR3_1, kR3_2, kR3_3, kL4, kA4, kS4, kL5, kA5, kS5, kL6, kA6, kS6, kL7, kA7, kS7, kC8, kG8, kP8, kR8_0, kR8_1, kL9, kA9, kS9, kL10, kA10, kS10, kC11, kG11, kP11, kR11_0, kR11_1, kR11_2, kR11_3, kL12, kA12, kS12, kL13, kA13, kS13, kL14, kA14, kS14, kL15, kA15, kS15, kC16, kG16, kP16, kR16_0, kR16_1, kL17, kA17, kS17, kL18, kA18, kS18, kC19, kG19, kP19, kR19_0, kL20, kL141, kL146, kA146, kS146, kL151, kA151, kS151, kL156, kA156, kS156, kC157, kG157, kP157, kR157_0, kR157_1, kL158, kA158, kS158, kL159, kA159, kS159, kC161, kG161, kP161, kR161_0, kR161_1, kL162, kA162, kS162, kL163, kA163, kS163, kC165, kG165, kP165, kR165_0, kR165_1, kR165_2, kR165_3, kL166, kA166, kS166, kL167, kA167, kS167, kL168, kA168, kS168, kL169, kA169, kS169, kC170, kG170, kP170, kR170_0, kR170_1, kR170_2, kL171, kA171, kS171, kL172, kA172, kS172, kL173, kA173, kS173, kC174, kG174, kP174, kR174_0, kR174_1, kR174_2, kR174_3, kR174_4, kL175, kA175, kS175, kL176, kA176, kS176, kL177, kA177, kS177, kL178, kA178, kS178, kL179, kC180, kG180, kP180, kL181, kL182, kA182, kS182, kC183, kG183, kP183, kR183_1, kR183_3, kR183_5, kR183_6, kR183_7, kR183_8, kR183_9, kR183_21, kR183_26, kR183_27, kR183_30, kR183_31, kR183_33, kR183_34, kR183_36, kR183_37, kR183_38, kR183_39, kR183_40, kR183_41, kR183_42, kR183_43, kR183_44, kL184, kA184, kS184, kL185, kA185, kS185, kL186, kA186, kS186, kL187, kA187, kS187, kL188, kA188, kS188, kL189, kL190, kL191, kA191, kS191, kL192, kA192, kS192, kL193, kA193, kS193, kL194, kA194, kS194, kL195, kA195, kS195, kL196, kA196, kS196, kL197, kA197, kS197, kL198, kA198, kS198, kL199, kA199, kS199, kL200, kA200, kS200, kL201, kL202, kA202, kS202, kL203, kA203, kS203, kL204, kA204, kS204, kL205, kL206, kA206, kS206, e2]
    have e3 : iI (24 - 8 * (j : Int)) + (-8 : Int32) = iI (24 - 8 * ((j + 1 : Nat) : Int)) := by
      rw [show (-8 : Int32) = iI (-8) from rfl, iI_add]; congr 1; omega
    rw [e3, show (1 : Int32) = nI 1 from rfl, nn_add]
    show some (Sum.inl (_, xw σ (xup (xup (fdI I 184 183 2 m (bW x) j) 184 (m + j) (bW x j)) 183 2 (nI (m + j + 1))))) = _
    rw [fdI_s (by decide)]
  · simp only [f_X12_lays_b3]
    rw [if_pos (by decide)]
    rfl
end TAPE

theorem fdI_j {I : Nat → Nat → Int32} {a b f m n k : Nat} {w v : Nat → Int32} (hab : a ≠ b) : fdI (fdI I a b f m w n) a b f (m + n) v k = fdI I a b f m (fun j => if j < n then w j else v (j - n)) (n + k) := by
  funext c j
  unfold fdI
  by_cases h1 : c = b
  · subst h1
    have h2 : ¬ c = a := fun q => hab q.symm
    simp [h2, Nat.add_assoc]
    by_cases h3 : j = f
    · simp [h3]
    · simp [h3]
  · by_cases h2 : c = a
    · subst h2
      simp only [true_and, h1, false_and, if_false]
      by_cases q1 : m ≤ j ∧ j < m + n
      · have q2 : ¬ (m + n ≤ j ∧ j < m + n + k) := by omega
        have q3 : m ≤ j ∧ j < m + (n + k) := by omega
        have q4 : j - m < n := by omega
        rw [if_neg q2, if_pos q1, if_pos q3, if_pos q4]
      · by_cases q2 : m + n ≤ j ∧ j < m + n + k
        · have q3 : m ≤ j ∧ j < m + (n + k) := by omega
          have q4 : ¬ j - m < n := by omega
          rw [if_pos q2, if_pos q3, if_neg q4]
          congr 1; omega
        · have q3 : ¬ (m ≤ j ∧ j < m + (n + k)) := by omega
          rw [if_neg q2, if_neg q1, if_neg q3]
    · simp [h1, h2]
theorem feed_in {I : Nat → Nat → Int32} {a b f m n : Nat} {w : Nat → Int32} (hab : a ≠ b) : fdI I a b f m w n b f = nI (m + n) := by
  unfold fdI
  rw [if_neg (fun q => hab q.1.symm), if_pos ⟨rfl, rfl⟩]
/-- the five words' bytes -/
def fW (a b c d e : Int32) : Nat → Int32 := fun j => if j < 16 then (if j < 12 then (if j < 8 then (if j < 4 then bW a j else bW b (j - 4)) else bW c (j - 8)) else bW d (j - 12)) else bW e (j - 16)
theorem feed11 {σ : XS} {I : Nat → Nat → Int32} {m : Nat} (hS : Shp σ) (hI : I 3 4 = nI m) (hm : m + 20 ≤ 2000) (a b c d e : Int32) : f_X11_feed (xw σ I) 1 a b c d e = some (nI (m + 20), xw σ (fdI I 4 3 4 m (fW a b c d e) 20)) := by
  unfold f_X11_feed
  simp (disch := first | assumption | omega) only [Option.bind_some, Option.map_some, xw_gR, xw_gN, xw_al, xw_ck, xw_uI, xw_ur, xup_at, xur_at, if_true, if_false, reduceIte, and_true, true_and, and_false, false_and, not_true_eq_false, not_false_eq_true, Nat.reduceEqDiff, eq_self, Nat.reduceAdd, Nat.reduceMul, kC1, kG1, kP1, kR1_0, kR1_1, kR1_2, kR1_3, kR1_4, kR1_5, kR1_6, kR1_7, kR1_8, kR1_9, kR1_10, kR1_11, kR1_12, kR1_13, kC2, kG2, kP2, kR2_0, kR2_1, kC3, kG3, kP3, kR3_0, kR3_1, kR3_2, kR3_3, kL4, kA4, kS4, kL5, kA5, kS5, kL6, kA6, kS6, kL7, kA7, kS7, kC8, kG8, kP8, kR8_0, kR8_1, kL9, kA9, kS9, kL10, kA10, kS10, kC11, kG11, kP11, kR11_0, kR11_1, kR11_2, kR11_3, kL12, kA12, kS12, kL13, kA13, kS13, kL14, kA14, kS14, kL15, kA15, kS15, kC16, kG16, kP16, kR16_0, kR16_1, kL17, kA17, kS17, kL18, kA18, kS18, kC19, kG19, kP19, kR19_0, kL20, kL141, kL146, kA146, kS146, kL151, kA151, kS151, kL156, kA156, kS156, kC157, kG157, kP157, kR157_0, kR157_1, kL158, kA158, kS158, kL159, kA159, kS159, kC161, kG161, kP161, kR161_0, kR161_1, kL162, kA162, kS162, kL163, kA163, kS163, kC165, kG165, kP165, kR165_0, kR165_1, kR165_2, kR165_3, kL166, kA166, kS166, kL167, kA167, kS167, kL168, kA168, kS168, kL169, kA169, kS169, kC170, kG170, kP170, kR170_0, kR170_1, kR170_2, kL171, kA171, kS171, kL172, kA172, kS172, kL173, kA173, kS173, kC174, kG174, kP174, kR174_0, kR174_1, kR174_2, kR174_3, kR174_4, kL175, kA175, kS175, kL176, kA176, kS176, kL177, kA177, kS177, kL178, kA178, kS178, kL179, kC180, kG180, kP180, kL181, kL182, kA182, kS182, kC183, kG183, kP183, kR183_1, kR183_3, kR183_5, kR183_6, kR183_7, kR183_8, kR183_9, kR183_21, kR183_26, kR183_27, kR183_30, kR183_31, kR183_33, kR183_34, kR183_36, kR183_37, kR183_38, kR183_39, kR183_40, kR183_41, kR183_42, kR183_43, kR183_44, kL184, kA184, kS184, kL185, kA185, kS185, kL186, kA186, kS186, kL187, kA187, kS187, kL188, kA188, kS188, kL189, kL190, kL191, kA191, kS191, kL192, kA192, kS192, kL193, kA193, kS193, kL194, kA194, kS194, kL195, kA195, kS195, kL196, kA196, kS196, kL197, kA197, kS197, kL198, kA198, kS198, kL199, kA199, kS199, kL200, kA200, kS200, kL201, kL202, kA202, kS202, kL203, kA203, kS203, kL204, kA204, kS204, kL205, kL206, kA206, kS206, hI]
  rw [if_pos (by rw [show (20 : Int32) = nI 20 from rfl, nn_add, show (2000 : Int32) = nI 2000 from rfl, nn_le (by omega) (by omega)]; exact hm)]
  rw [addWord_ok hS hI (by omega)]
  simp (disch := first | assumption | omega) only [Option.bind_some, Option.map_some, xw_gR, xw_gN, xw_al, xw_ck, xw_uI, xw_ur, xup_at, xur_at, if_true, if_false, reduceIte, and_true, true_and, and_false, false_and, not_true_eq_false, not_false_eq_true, Nat.reduceEqDiff, eq_self, Nat.reduceAdd, Nat.reduceMul, kC1, kG1, kP1, kR1_0, kR1_1, kR1_2, kR1_3, kR1_4, kR1_5, kR1_6, kR1_7, kR1_8, kR1_9, kR1_10, kR1_11, kR1_12, kR1_13, kC2, kG2, kP2, kR2_0, kR2_1, kC3, kG3, kP3, kR3_0, kR3_1, kR3_2, kR3_3, kL4, kA4, kS4, kL5, kA5, kS5, kL6, kA6, kS6, kL7, kA7, kS7, kC8, kG8, kP8, kR8_0, kR8_1, kL9, kA9, kS9, kL10, kA10, kS10, kC11, kG11, kP11, kR11_0, kR11_1, kR11_2, kR11_3, kL12, kA12, kS12, kL13, kA13, kS13, kL14, kA14, kS14, kL15, kA15, kS15, kC16, kG16, kP16, kR16_0, kR16_1, kL17, kA17, kS17, kL18, kA18, kS18, kC19, kG19, kP19, kR19_0, kL20, kL141, kL146, kA146, kS146, kL151, kA151, kS151, kL156, kA156, kS156, kC157, kG157, kP157, kR157_0, kR157_1, kL158, kA158, kS158, kL159, kA159, kS159, kC161, kG161, kP161, kR161_0, kR161_1, kL162, kA162, kS162, kL163, kA163, kS163, kC165, kG165, kP165, kR165_0, kR165_1, kR165_2, kR165_3, kL166, kA166, kS166, kL167, kA167, kS167, kL168, kA168, kS168, kL169, kA169, kS169, kC170, kG170, kP170, kR170_0, kR170_1, kR170_2, kL171, kA171, kS171, kL172, kA172, kS172, kL173, kA173, kS173, kC174, kG174, kP174, kR174_0, kR174_1, kR174_2, kR174_3, kR174_4, kL175, kA175, kS175, kL176, kA176, kS176, kL177, kA177, kS177, kL178, kA178, kS178, kL179, kC180, kG180, kP180, kL181, kL182, kA182, kS182, kC183, kG183, kP183, kR183_1, kR183_3, kR183_5, kR183_6, kR183_7, kR183_8, kR183_9, kR183_21, kR183_26, kR183_27, kR183_30, kR183_31, kR183_33, kR183_34, kR183_36, kR183_37, kR183_38, kR183_39, kR183_40, kR183_41, kR183_42, kR183_43, kR183_44, kL184, kA184, kS184, kL185, kA185, kS185, kL186, kA186, kS186, kL187, kA187, kS187, kL188, kA188, kS188, kL189, kL190, kL191, kA191, kS191, kL192, kA192, kS192, kL193, kA193, kS193, kL194, kA194, kS194, kL195, kA195, kS195, kL196, kA196, kS196, kL197, kA197, kS197, kL198, kA198, kS198, kL199, kA199, kS199, kL200, kA200, kS200, kL201, kL202, kA202, kS202, kL203, kA203, kS203, kL204, kA204, kS204, kL205, kL206, kA206, kS206]
  rw [addWord_ok (m := m + 4) hS (feed_in (by decide)) (by omega), fdI_j (by decide)]
  simp (disch := first | assumption | omega) only [Option.bind_some, Option.map_some, xw_gR, xw_gN, xw_al, xw_ck, xw_uI, xw_ur, xup_at, xur_at, if_true, if_false, reduceIte, and_true, true_and, and_false, false_and, not_true_eq_false, not_false_eq_true, Nat.reduceEqDiff, eq_self, Nat.reduceAdd, Nat.reduceMul, kC1, kG1, kP1, kR1_0, kR1_1, kR1_2, kR1_3, kR1_4, kR1_5, kR1_6, kR1_7, kR1_8, kR1_9, kR1_10, kR1_11, kR1_12, kR1_13, kC2, kG2, kP2, kR2_0, kR2_1, kC3, kG3, kP3, kR3_0, kR3_1, kR3_2, kR3_3, kL4, kA4, kS4, kL5, kA5, kS5, kL6, kA6, kS6, kL7, kA7, kS7, kC8, kG8, kP8, kR8_0, kR8_1, kL9, kA9, kS9, kL10, kA10, kS10, kC11, kG11, kP11, kR11_0, kR11_1, kR11_2, kR11_3, kL12, kA12, kS12, kL13, kA13, kS13, kL14, kA14, kS14, kL15, kA15, kS15, kC16, kG16, kP16, kR16_0, kR16_1, kL17, kA17, kS17, kL18, kA18, kS18, kC19, kG19, kP19, kR19_0, kL20, kL141, kL146, kA146, kS146, kL151, kA151, kS151, kL156, kA156, kS156, kC157, kG157, kP157, kR157_0, kR157_1, kL158, kA158, kS158, kL159, kA159, kS159, kC161, kG161, kP161, kR161_0, kR161_1, kL162, kA162, kS162, kL163, kA163, kS163, kC165, kG165, kP165, kR165_0, kR165_1, kR165_2, kR165_3, kL166, kA166, kS166, kL167, kA167, kS167, kL168, kA168, kS168, kL169, kA169, kS169, kC170, kG170, kP170, kR170_0, kR170_1, kR170_2, kL171, kA171, kS171, kL172, kA172, kS172, kL173, kA173, kS173, kC174, kG174, kP174, kR174_0, kR174_1, kR174_2, kR174_3, kR174_4, kL175, kA175, kS175, kL176, kA176, kS176, kL177, kA177, kS177, kL178, kA178, kS178, kL179, kC180, kG180, kP180, kL181, kL182, kA182, kS182, kC183, kG183, kP183, kR183_1, kR183_3, kR183_5, kR183_6, kR183_7, kR183_8, kR183_9, kR183_21, kR183_26, kR183_27, kR183_30, kR183_31, kR183_33, kR183_34, kR183_36, kR183_37, kR183_38, kR183_39, kR183_40, kR183_41, kR183_42, kR183_43, kR183_44, kL184, kA184, kS184, kL185, kA185, kS185, kL186, kA186, kS186, kL187, kA187, kS187, kL188, kA188, kS188, kL189, kL190, kL191, kA191, kS191, kL192, kA192, kS192, kL193, kA193, kS193, kL194, kA194, kS194, kL195, kA195, kS195, kL196, kA196, kS196, kL197, kA197, kS197, kL198, kA198, kS198, kL199, kA199, kS199, kL200, kA200, kS200, kL201, kL202, kA202, kS202, kL203, kA203, kS203, kL204, kA204, kS204, kL205, kL206, kA206, kS206]
  rw [addWord_ok (m := m + 8) hS (feed_in (by decide)) (by omega), fdI_j (n := 8) (by decide)]
  simp (disch := first | assumption | omega) only [Option.bind_some, Option.map_some, xw_gR, xw_gN, xw_al, xw_ck, xw_uI, xw_ur, xup_at, xur_at, if_true, if_false, reduceIte, and_true, true_and, and_false, false_and, not_true_eq_false, not_false_eq_true, Nat.reduceEqDiff, eq_self, Nat.reduceAdd, Nat.reduceMul, kC1, kG1, kP1, kR1_0, kR1_1, kR1_2, kR1_3, kR1_4, kR1_5, kR1_6, kR1_7, kR1_8, kR1_9, kR1_10, kR1_11, kR1_12, kR1_13, kC2, kG2, kP2, kR2_0, kR2_1, kC3, kG3, kP3, kR3_0, kR3_1, kR3_2, kR3_3, kL4, kA4, kS4, kL5, kA5, kS5, kL6, kA6, kS6, kL7, kA7, kS7, kC8, kG8, kP8, kR8_0, kR8_1, kL9, kA9, kS9, kL10, kA10, kS10, kC11, kG11, kP11, kR11_0, kR11_1, kR11_2, kR11_3, kL12, kA12, kS12, kL13, kA13, kS13, kL14, kA14, kS14, kL15, kA15, kS15, kC16, kG16, kP16, kR16_0, kR16_1, kL17, kA17, kS17, kL18, kA18, kS18, kC19, kG19, kP19, kR19_0, kL20, kL141, kL146, kA146, kS146, kL151, kA151, kS151, kL156, kA156, kS156, kC157, kG157, kP157, kR157_0, kR157_1, kL158, kA158, kS158, kL159, kA159, kS159, kC161, kG161, kP161, kR161_0, kR161_1, kL162, kA162, kS162, kL163, kA163, kS163, kC165, kG165, kP165, kR165_0, kR165_1, kR165_2, kR165_3, kL166, kA166, kS166, kL167, kA167, kS167, kL168, kA168, kS168, kL169, kA169, kS169, kC170, kG170, kP170, kR170_0, kR170_1, kR170_2, kL171, kA171, kS171, kL172, kA172, kS172, kL173, kA173, kS173, kC174, kG174, kP174, kR174_0, kR174_1, kR174_2, kR174_3, kR174_4, kL175, kA175, kS175, kL176, kA176, kS176, kL177, kA177, kS177, kL178, kA178, kS178, kL179, kC180, kG180, kP180, kL181, kL182, kA182, kS182, kC183, kG183, kP183, kR183_1, kR183_3, kR183_5, kR183_6, kR183_7, kR183_8, kR183_9, kR183_21, kR183_26, kR183_27, kR183_30, kR183_31, kR183_33, kR183_34, kR183_36, kR183_37, kR183_38, kR183_39, kR183_40, kR183_41, kR183_42, kR183_43, kR183_44, kL184, kA184, kS184, kL185, kA185, kS185, kL186, kA186, kS186, kL187, kA187, kS187, kL188, kA188, kS188, kL189, kL190, kL191, kA191, kS191, kL192, kA192, kS192, kL193, kA193, kS193, kL194, kA194, kS194, kL195, kA195, kS195, kL196, kA196, kS196, kL197, kA197, kS197, kL198, kA198, kS198, kL199, kA199, kS199, kL200, kA200, kS200, kL201, kL202, kA202, kS202, kL203, kA203, kS203, kL204, kA204, kS204, kL205, kL206, kA206, kS206]
  rw [addWord_ok (m := m + 12) hS (feed_in (by decide)) (by omega), fdI_j (n := 12) (by decide)]
  simp (disch := first | assumption | omega) only [Option.bind_some, Option.map_some, xw_gR, xw_gN, xw_al, xw_ck, xw_uI, xw_ur, xup_at, xur_at, if_true, if_false, reduceIte, and_true, true_and, and_false, false_and, not_true_eq_false, not_false_eq_true, Nat.reduceEqDiff, eq_self, Nat.reduceAdd, Nat.reduceMul, kC1, kG1, kP1, kR1_0, kR1_1, kR1_2, kR1_3, kR1_4, kR1_5, kR1_6, kR1_7, kR1_8, kR1_9, kR1_10, kR1_11, kR1_12, kR1_13, kC2, kG2, kP2, kR2_0, kR2_1, kC3, kG3, kP3, kR3_0, kR3_1, kR3_2, kR3_3, kL4, kA4, kS4, kL5, kA5, kS5, kL6, kA6, kS6, kL7, kA7, kS7, kC8, kG8, kP8, kR8_0, kR8_1, kL9, kA9, kS9, kL10, kA10, kS10, kC11, kG11, kP11, kR11_0, kR11_1, kR11_2, kR11_3, kL12, kA12, kS12, kL13, kA13, kS13, kL14, kA14, kS14, kL15, kA15, kS15, kC16, kG16, kP16, kR16_0, kR16_1, kL17, kA17, kS17, kL18, kA18, kS18, kC19, kG19, kP19, kR19_0, kL20, kL141, kL146, kA146, kS146, kL151, kA151, kS151, kL156, kA156, kS156, kC157, kG157, kP157, kR157_0, kR157_1, kL158, kA158, kS158, kL159, kA159, kS159, kC161, kG161, kP161, kR161_0, kR161_1, kL162, kA162, kS162, kL163, kA163, kS163, kC165, kG165, kP165, kR165_0, kR165_1, kR165_2, kR165_3, kL166, kA166, kS166, kL167, kA167, kS167, kL168, kA168, kS168, kL169, kA169, kS169, kC170, kG170, kP170, kR170_0, kR170_1, kR170_2, kL171, kA171, kS171, kL172, kA172, kS172, kL173, kA173, kS173, kC174, kG174, kP174, kR174_0, kR174_1, kR174_2, kR174_3, kR174_4, kL175, kA175, kS175, kL176, kA176, kS176, kL177, kA177, kS177, kL178, kA178, kS178, kL179, kC180, kG180, kP180, kL181, kL182, kA182, kS182, kC183, kG183, kP183, kR183_1, kR183_3, kR183_5, kR183_6, kR183_7, kR183_8, kR183_9, kR183_21, kR183_26, kR183_27, kR183_30, kR183_31, kR183_33, kR183_34, kR183_36, kR183_37, kR183_38, kR183_39, kR183_40, kR183_41, kR183_42, kR183_43, kR183_44, kL184, kA184, kS184, kL185, kA185, kS185, kL186, kA186, kS186, kL187, kA187, kS187, kL188, kA188, kS188, kL189, kL190, kL191, kA191, kS191, kL192, kA192, kS192, kL193, kA193, kS193, kL194, kA194, kS194, kL195, kA195, kS195, kL196, kA196, kS196, kL197, kA197, kS197, kL198, kA198, kS198, kL199, kA199, kS199, kL200, kA200, kS200, kL201, kL202, kA202, kS202, kL203, kA203, kS203, kL204, kA204, kS204, kL205, kL206, kA206, kS206]
  rw [addWord_ok (m := m + 16) hS (feed_in (by decide)) (by omega), fdI_j (n := 16) (by decide)]
  simp (disch := first | assumption | omega) only [Option.bind_some, Option.map_some, xw_gR, xw_gN, xw_al, xw_ck, xw_uI, xw_ur, xup_at, xur_at, if_true, if_false, reduceIte, and_true, true_and, and_false, false_and, not_true_eq_false, not_false_eq_true, Nat.reduceEqDiff, eq_self, Nat.reduceAdd, Nat.reduceMul, kC1, kG1, kP1, kR1_0, kR1_1, kR1_2, kR1_3, kR1_4, kR1_5, kR1_6, kR1_7, kR1_8, kR1_9, kR1_10, kR1_11, kR1_12, kR1_13, kC2, kG2, kP2, kR2_0, kR2_1, kC3, kG3, kP3, kR3_0, kR3_1, kR3_2, kR3_3, kL4, kA4, kS4, kL5, kA5, kS5, kL6, kA6, kS6, kL7, kA7, kS7, kC8, kG8, kP8, kR8_0, kR8_1, kL9, kA9, kS9, kL10, kA10, kS10, kC11, kG11, kP11, kR11_0, kR11_1, kR11_2, kR11_3, kL12, kA12, kS12, kL13, kA13, kS13, kL14, kA14, kS14, kL15, kA15, kS15, kC16, kG16, kP16, kR16_0, kR16_1, kL17, kA17, kS17, kL18, kA18, kS18, kC19, kG19, kP19, kR19_0, kL20, kL141, kL146, kA146, kS146, kL151, kA151, kS151, kL156, kA156, kS156, kC157, kG157, kP157, kR157_0, kR157_1, kL158, kA158, kS158, kL159, kA159, kS159, kC161, kG161, kP161, kR161_0, kR161_1, kL162, kA162, kS162, kL163, kA163, kS163, kC165, kG165, kP165, kR165_0, kR165_1, kR165_2, kR165_3, kL166, kA166, kS166, kL167, kA167, kS167, kL168, kA168, kS168, kL169, kA169, kS169, kC170, kG170, kP170, kR170_0, kR170_1, kR170_2, kL171, kA171, kS171, kL172, kA172, kS172, kL173, kA173, kS173, kC174, kG174, kP174, kR174_0, kR174_1, kR174_2, kR174_3, kR174_4, kL175, kA175, kS175, kL176, kA176, kS176, kL177, kA177, kS177, kL178, kA178, kS178, kL179, kC180, kG180, kP180, kL181, kL182, kA182, kS182, kC183, kG183, kP183, kR183_1, kR183_3, kR183_5, kR183_6, kR183_7, kR183_8, kR183_9, kR183_21, kR183_26, kR183_27, kR183_30, kR183_31, kR183_33, kR183_34, kR183_36, kR183_37, kR183_38, kR183_39, kR183_40, kR183_41, kR183_42, kR183_43, kR183_44, kL184, kA184, kS184, kL185, kA185, kS185, kL186, kA186, kS186, kL187, kA187, kS187, kL188, kA188, kS188, kL189, kL190, kL191, kA191, kS191, kL192, kA192, kS192, kL193, kA193, kS193, kL194, kA194, kS194, kL195, kA195, kS195, kL196, kA196, kS196, kL197, kA197, kS197, kL198, kA198, kS198, kL199, kA199, kS199, kL200, kA200, kS200, kL201, kL202, kA202, kS202, kL203, kA203, kS203, kL204, kA204, kS204, kL205, kL206, kA206, kS206]
  rw [feed_in (by decide)]
  rfl
theorem feed12 {σ : XS} {I : Nat → Nat → Int32} {m : Nat} (hS : Shp σ) (hI : I 183 2 = nI m) (hm : m + 20 ≤ 2000) (a b c d e : Int32) : f_X12_feed (xw σ I) 183 a b c d e = some (nI (m + 20), xw σ (fdI I 184 183 2 m (fW a b c d e) 20)) := by
  unfold f_X12_feed
  simp (disch := first | assumption | omega) only [Option.bind_some, Option.map_some, xw_gR, xw_gN, xw_al, xw_ck, xw_uI, xw_ur, xup_at, xur_at, if_true, if_false, reduceIte, and_true, true_and, and_false, false_and, not_true_eq_false, not_false_eq_true, Nat.reduceEqDiff, eq_self, Nat.reduceAdd, Nat.reduceMul, kC1, kG1, kP1, kR1_0, kR1_1, kR1_2, kR1_3, kR1_4, kR1_5, kR1_6, kR1_7, kR1_8, kR1_9, kR1_10, kR1_11, kR1_12, kR1_13, kC2, kG2, kP2, kR2_0, kR2_1, kC3, kG3, kP3, kR3_0, kR3_1, kR3_2, kR3_3, kL4, kA4, kS4, kL5, kA5, kS5, kL6, kA6, kS6, kL7, kA7, kS7, kC8, kG8, kP8, kR8_0, kR8_1, kL9, kA9, kS9, kL10, kA10, kS10, kC11, kG11, kP11, kR11_0, kR11_1, kR11_2, kR11_3, kL12, kA12, kS12, kL13, kA13, kS13, kL14, kA14, kS14, kL15, kA15, kS15, kC16, kG16, kP16, kR16_0, kR16_1, kL17, kA17, kS17, kL18, kA18, kS18, kC19, kG19, kP19, kR19_0, kL20, kL141, kL146, kA146, kS146, kL151, kA151, kS151, kL156, kA156, kS156, kC157, kG157, kP157, kR157_0, kR157_1, kL158, kA158, kS158, kL159, kA159, kS159, kC161, kG161, kP161, kR161_0, kR161_1, kL162, kA162, kS162, kL163, kA163, kS163, kC165, kG165, kP165, kR165_0, kR165_1, kR165_2, kR165_3, kL166, kA166, kS166, kL167, kA167, kS167, kL168, kA168, kS168, kL169, kA169, kS169, kC170, kG170, kP170, kR170_0, kR170_1, kR170_2, kL171, kA171, kS171, kL172, kA172, kS172, kL173, kA173, kS173, kC174, kG174, kP174, kR174_0, kR174_1, kR174_2, kR174_3, kR174_4, kL175, kA175, kS175, kL176, kA176, kS176, kL177, kA177, kS177, kL178, kA178, kS178, kL179, kC180, kG180, kP180, kL181, kL182, kA182, kS182, kC183, kG183, kP183, kR183_1, kR183_3, kR183_5, kR183_6, kR183_7, kR183_8, kR183_9, kR183_21, kR183_26, kR183_27, kR183_30, kR183_31, kR183_33, kR183_34, kR183_36, kR183_37, kR183_38, kR183_39, kR183_40, kR183_41, kR183_42, kR183_43, kR183_44, kL184, kA184, kS184, kL185, kA185, kS185, kL186, kA186, kS186, kL187, kA187, kS187, kL188, kA188, kS188, kL189, kL190, kL191, kA191, kS191, kL192, kA192, kS192, kL193, kA193, kS193, kL194, kA194, kS194, kL195, kA195, kS195, kL196, kA196, kS196, kL197, kA197, kS197, kL198, kA198, kS198, kL199, kA199, kS199, kL200, kA200, kS200, kL201, kL202, kA202, kS202, kL203, kA203, kS203, kL204, kA204, kS204, kL205, kL206, kA206, kS206, hI]
  rw [if_pos (by rw [show (20 : Int32) = nI 20 from rfl, nn_add, show (2000 : Int32) = nI 2000 from rfl, nn_le (by omega) (by omega)]; exact hm)]
  rw [lays_ok hS hI (by omega)]
  simp (disch := first | assumption | omega) only [Option.bind_some, Option.map_some, xw_gR, xw_gN, xw_al, xw_ck, xw_uI, xw_ur, xup_at, xur_at, if_true, if_false, reduceIte, and_true, true_and, and_false, false_and, not_true_eq_false, not_false_eq_true, Nat.reduceEqDiff, eq_self, Nat.reduceAdd, Nat.reduceMul, kC1, kG1, kP1, kR1_0, kR1_1, kR1_2, kR1_3, kR1_4, kR1_5, kR1_6, kR1_7, kR1_8, kR1_9, kR1_10, kR1_11, kR1_12, kR1_13, kC2, kG2, kP2, kR2_0, kR2_1, kC3, kG3, kP3, kR3_0, kR3_1, kR3_2, kR3_3, kL4, kA4, kS4, kL5, kA5, kS5, kL6, kA6, kS6, kL7, kA7, kS7, kC8, kG8, kP8, kR8_0, kR8_1, kL9, kA9, kS9, kL10, kA10, kS10, kC11, kG11, kP11, kR11_0, kR11_1, kR11_2, kR11_3, kL12, kA12, kS12, kL13, kA13, kS13, kL14, kA14, kS14, kL15, kA15, kS15, kC16, kG16, kP16, kR16_0, kR16_1, kL17, kA17, kS17, kL18, kA18, kS18, kC19, kG19, kP19, kR19_0, kL20, kL141, kL146, kA146, kS146, kL151, kA151, kS151, kL156, kA156, kS156, kC157, kG157, kP157, kR157_0, kR157_1, kL158, kA158, kS158, kL159, kA159, kS159, kC161, kG161, kP161, kR161_0, kR161_1, kL162, kA162, kS162, kL163, kA163, kS163, kC165, kG165, kP165, kR165_0, kR165_1, kR165_2, kR165_3, kL166, kA166, kS166, kL167, kA167, kS167, kL168, kA168, kS168, kL169, kA169, kS169, kC170, kG170, kP170, kR170_0, kR170_1, kR170_2, kL171, kA171, kS171, kL172, kA172, kS172, kL173, kA173, kS173, kC174, kG174, kP174, kR174_0, kR174_1, kR174_2, kR174_3, kR174_4, kL175, kA175, kS175, kL176, kA176, kS176, kL177, kA177, kS177, kL178, kA178, kS178, kL179, kC180, kG180, kP180, kL181, kL182, kA182, kS182, kC183, kG183, kP183, kR183_1, kR183_3, kR183_5, kR183_6, kR183_7, kR183_8, kR183_9, kR183_21, kR183_26, kR183_27, kR183_30, kR183_31, kR183_33, kR183_34, kR183_36, kR183_37, kR183_38, kR183_39, kR183_40, kR183_41, kR183_42, kR183_43, kR183_44, kL184, kA184, kS184, kL185, kA185, kS185, kL186, kA186, kS186, kL187, kA187, kS187, kL188, kA188, kS188, kL189, kL190, kL191, kA191, kS191, kL192, kA192, kS192, kL193, kA193, kS193, kL194, kA194, kS194, kL195, kA195, kS195, kL196, kA196, kS196, kL197, kA197, kS197, kL198, kA198, kS198, kL199, kA199, kS199, kL200, kA200, kS200, kL201, kL202, kA202, kS202, kL203, kA203, kS203, kL204, kA204, kS204, kL205, kL206, kA206, kS206]
  rw [lays_ok (m := m + 4) hS (feed_in (by decide)) (by omega), fdI_j (by decide)]
  simp (disch := first | assumption | omega) only [Option.bind_some, Option.map_some, xw_gR, xw_gN, xw_al, xw_ck, xw_uI, xw_ur, xup_at, xur_at, if_true, if_false, reduceIte, and_true, true_and, and_false, false_and, not_true_eq_false, not_false_eq_true, Nat.reduceEqDiff, eq_self, Nat.reduceAdd, Nat.reduceMul, kC1, kG1, kP1, kR1_0, kR1_1, kR1_2, kR1_3, kR1_4, kR1_5, kR1_6, kR1_7, kR1_8, kR1_9, kR1_10, kR1_11, kR1_12, kR1_13, kC2, kG2, kP2, kR2_0, kR2_1, kC3, kG3, kP3, kR3_0, kR3_1, kR3_2, kR3_3, kL4, kA4, kS4, kL5, kA5, kS5, kL6, kA6, kS6, kL7, kA7, kS7, kC8, kG8, kP8, kR8_0, kR8_1, kL9, kA9, kS9, kL10, kA10, kS10, kC11, kG11, kP11, kR11_0, kR11_1, kR11_2, kR11_3, kL12, kA12, kS12, kL13, kA13, kS13, kL14, kA14, kS14, kL15, kA15, kS15, kC16, kG16, kP16, kR16_0, kR16_1, kL17, kA17, kS17, kL18, kA18, kS18, kC19, kG19, kP19, kR19_0, kL20, kL141, kL146, kA146, kS146, kL151, kA151, kS151, kL156, kA156, kS156, kC157, kG157, kP157, kR157_0, kR157_1, kL158, kA158, kS158, kL159, kA159, kS159, kC161, kG161, kP161, kR161_0, kR161_1, kL162, kA162, kS162, kL163, kA163, kS163, kC165, kG165, kP165, kR165_0, kR165_1, kR165_2, kR165_3, kL166, kA166, kS166, kL167, kA167, kS167, kL168, kA168, kS168, kL169, kA169, kS169, kC170, kG170, kP170, kR170_0, kR170_1, kR170_2, kL171, kA171, kS171, kL172, kA172, kS172, kL173, kA173, kS173, kC174, kG174, kP174, kR174_0, kR174_1, kR174_2, kR174_3, kR174_4, kL175, kA175, kS175, kL176, kA176, kS176, kL177, kA177, kS177, kL178, kA178, kS178, kL179, kC180, kG180, kP180, kL181, kL182, kA182, kS182, kC183, kG183, kP183, kR183_1, kR183_3, kR183_5, kR183_6, kR183_7, kR183_8, kR183_9, kR183_21, kR183_26, kR183_27, kR183_30, kR183_31, kR183_33, kR183_34, kR183_36, kR183_37, kR183_38, kR183_39, kR183_40, kR183_41, kR183_42, kR183_43, kR183_44, kL184, kA184, kS184, kL185, kA185, kS185, kL186, kA186, kS186, kL187, kA187, kS187, kL188, kA188, kS188, kL189, kL190, kL191, kA191, kS191, kL192, kA192, kS192, kL193, kA193, kS193, kL194, kA194, kS194, kL195, kA195, kS195, kL196, kA196, kS196, kL197, kA197, kS197, kL198, kA198, kS198, kL199, kA199, kS199, kL200, kA200, kS200, kL201, kL202, kA202, kS202, kL203, kA203, kS203, kL204, kA204, kS204, kL205, kL206, kA206, kS206]
  rw [lays_ok (m := m + 8) hS (feed_in (by decide)) (by omega), fdI_j (n := 8) (by decide)]
  simp (disch := first | assumption | omega) only [Option.bind_some, Option.map_some, xw_gR, xw_gN, xw_al, xw_ck, xw_uI, xw_ur, xup_at, xur_at, if_true, if_false, reduceIte, and_true, true_and, and_false, false_and, not_true_eq_false, not_false_eq_true, Nat.reduceEqDiff, eq_self, Nat.reduceAdd, Nat.reduceMul, kC1, kG1, kP1, kR1_0, kR1_1, kR1_2, kR1_3, kR1_4, kR1_5, kR1_6, kR1_7, kR1_8, kR1_9, kR1_10, kR1_11, kR1_12, kR1_13, kC2, kG2, kP2, kR2_0, kR2_1, kC3, kG3, kP3, kR3_0, kR3_1, kR3_2, kR3_3, kL4, kA4, kS4, kL5, kA5, kS5, kL6, kA6, kS6, kL7, kA7, kS7, kC8, kG8, kP8, kR8_0, kR8_1, kL9, kA9, kS9, kL10, kA10, kS10, kC11, kG11, kP11, kR11_0, kR11_1, kR11_2, kR11_3, kL12, kA12, kS12, kL13, kA13, kS13, kL14, kA14, kS14, kL15, kA15, kS15, kC16, kG16, kP16, kR16_0, kR16_1, kL17, kA17, kS17, kL18, kA18, kS18, kC19, kG19, kP19, kR19_0, kL20, kL141, kL146, kA146, kS146, kL151, kA151, kS151, kL156, kA156, kS156, kC157, kG157, kP157, kR157_0, kR157_1, kL158, kA158, kS158, kL159, kA159, kS159, kC161, kG161, kP161, kR161_0, kR161_1, kL162, kA162, kS162, kL163, kA163, kS163, kC165, kG165, kP165, kR165_0, kR165_1, kR165_2, kR165_3, kL166, kA166, kS166, kL167, kA167, kS167, kL168, kA168, kS168, kL169, kA169, kS169, kC170, kG170, kP170, kR170_0, kR170_1, kR170_2, kL171, kA171, kS171, kL172, kA172, kS172, kL173, kA173, kS173, kC174, kG174, kP174, kR174_0, kR174_1, kR174_2, kR174_3, kR174_4, kL175, kA175, kS175, kL176, kA176, kS176, kL177, kA177, kS177, kL178, kA178, kS178, kL179, kC180, kG180, kP180, kL181, kL182, kA182, kS182, kC183, kG183, kP183, kR183_1, kR183_3, kR183_5, kR183_6, kR183_7, kR183_8, kR183_9, kR183_21, kR183_26, kR183_27, kR183_30, kR183_31, kR183_33, kR183_34, kR183_36, kR183_37, kR183_38, kR183_39, kR183_40, kR183_41, kR183_42, kR183_43, kR183_44, kL184, kA184, kS184, kL185, kA185, kS185, kL186, kA186, kS186, kL187, kA187, kS187, kL188, kA188, kS188, kL189, kL190, kL191, kA191, kS191, kL192, kA192, kS192, kL193, kA193, kS193, kL194, kA194, kS194, kL195, kA195, kS195, kL196, kA196, kS196, kL197, kA197, kS197, kL198, kA198, kS198, kL199, kA199, kS199, kL200, kA200, kS200, kL201, kL202, kA202, kS202, kL203, kA203, kS203, kL204, kA204, kS204, kL205, kL206, kA206, kS206]
  rw [lays_ok (m := m + 12) hS (feed_in (by decide)) (by omega), fdI_j (n := 12) (by decide)]
  simp (disch := first | assumption | omega) only [Option.bind_some, Option.map_some, xw_gR, xw_gN, xw_al, xw_ck, xw_uI, xw_ur, xup_at, xur_at, if_true, if_false, reduceIte, and_true, true_and, and_false, false_and, not_true_eq_false, not_false_eq_true, Nat.reduceEqDiff, eq_self, Nat.reduceAdd, Nat.reduceMul, kC1, kG1, kP1, kR1_0, kR1_1, kR1_2, kR1_3, kR1_4, kR1_5, kR1_6, kR1_7, kR1_8, kR1_9, kR1_10, kR1_11, kR1_12, kR1_13, kC2, kG2, kP2, kR2_0, kR2_1, kC3, kG3, kP3, kR3_0, kR3_1, kR3_2, kR3_3, kL4, kA4, kS4, kL5, kA5, kS5, kL6, kA6, kS6, kL7, kA7, kS7, kC8, kG8, kP8, kR8_0, kR8_1, kL9, kA9, kS9, kL10, kA10, kS10, kC11, kG11, kP11, kR11_0, kR11_1, kR11_2, kR11_3, kL12, kA12, kS12, kL13, kA13, kS13, kL14, kA14, kS14, kL15, kA15, kS15, kC16, kG16, kP16, kR16_0, kR16_1, kL17, kA17, kS17, kL18, kA18, kS18, kC19, kG19, kP19, kR19_0, kL20, kL141, kL146, kA146, kS146, kL151, kA151, kS151, kL156, kA156, kS156, kC157, kG157, kP157, kR157_0, kR157_1, kL158, kA158, kS158, kL159, kA159, kS159, kC161, kG161, kP161, kR161_0, kR161_1, kL162, kA162, kS162, kL163, kA163, kS163, kC165, kG165, kP165, kR165_0, kR165_1, kR165_2, kR165_3, kL166, kA166, kS166, kL167, kA167, kS167, kL168, kA168, kS168, kL169, kA169, kS169, kC170, kG170, kP170, kR170_0, kR170_1, kR170_2, kL171, kA171, kS171, kL172, kA172, kS172, kL173, kA173, kS173, kC174, kG174, kP174, kR174_0, kR174_1, kR174_2, kR174_3, kR174_4, kL175, kA175, kS175, kL176, kA176, kS176, kL177, kA177, kS177, kL178, kA178, kS178, kL179, kC180, kG180, kP180, kL181, kL182, kA182, kS182, kC183, kG183, kP183, kR183_1, kR183_3, kR183_5, kR183_6, kR183_7, kR183_8, kR183_9, kR183_21, kR183_26, kR183_27, kR183_30, kR183_31, kR183_33, kR183_34, kR183_36, kR183_37, kR183_38, kR183_39, kR183_40, kR183_41, kR183_42, kR183_43, kR183_44, kL184, kA184, kS184, kL185, kA185, kS185, kL186, kA186, kS186, kL187, kA187, kS187, kL188, kA188, kS188, kL189, kL190, kL191, kA191, kS191, kL192, kA192, kS192, kL193, kA193, kS193, kL194, kA194, kS194, kL195, kA195, kS195, kL196, kA196, kS196, kL197, kA197, kS197, kL198, kA198, kS198, kL199, kA199, kS199, kL200, kA200, kS200, kL201, kL202, kA202, kS202, kL203, kA203, kS203, kL204, kA204, kS204, kL205, kL206, kA206, kS206]
  rw [lays_ok (m := m + 16) hS (feed_in (by decide)) (by omega), fdI_j (n := 16) (by decide)]
  simp (disch := first | assumption | omega) only [Option.bind_some, Option.map_some, xw_gR, xw_gN, xw_al, xw_ck, xw_uI, xw_ur, xup_at, xur_at, if_true, if_false, reduceIte, and_true, true_and, and_false, false_and, not_true_eq_false, not_false_eq_true, Nat.reduceEqDiff, eq_self, Nat.reduceAdd, Nat.reduceMul, kC1, kG1, kP1, kR1_0, kR1_1, kR1_2, kR1_3, kR1_4, kR1_5, kR1_6, kR1_7, kR1_8, kR1_9, kR1_10, kR1_11, kR1_12, kR1_13, kC2, kG2, kP2, kR2_0, kR2_1, kC3, kG3, kP3, kR3_0, kR3_1, kR3_2, kR3_3, kL4, kA4, kS4, kL5, kA5, kS5, kL6, kA6, kS6, kL7, kA7, kS7, kC8, kG8, kP8, kR8_0, kR8_1, kL9, kA9, kS9, kL10, kA10, kS10, kC11, kG11, kP11, kR11_0, kR11_1, kR11_2, kR11_3, kL12, kA12, kS12, kL13, kA13, kS13, kL14, kA14, kS14, kL15, kA15, kS15, kC16, kG16, kP16, kR16_0, kR16_1, kL17, kA17, kS17, kL18, kA18, kS18, kC19, kG19, kP19, kR19_0, kL20, kL141, kL146, kA146, kS146, kL151, kA151, kS151, kL156, kA156, kS156, kC157, kG157, kP157, kR157_0, kR157_1, kL158, kA158, kS158, kL159, kA159, kS159, kC161, kG161, kP161, kR161_0, kR161_1, kL162, kA162, kS162, kL163, kA163, kS163, kC165, kG165, kP165, kR165_0, kR165_1, kR165_2, kR165_3, kL166, kA166, kS166, kL167, kA167, kS167, kL168, kA168, kS168, kL169, kA169, kS169, kC170, kG170, kP170, kR170_0, kR170_1, kR170_2, kL171, kA171, kS171, kL172, kA172, kS172, kL173, kA173, kS173, kC174, kG174, kP174, kR174_0, kR174_1, kR174_2, kR174_3, kR174_4, kL175, kA175, kS175, kL176, kA176, kS176, kL177, kA177, kS177, kL178, kA178, kS178, kL179, kC180, kG180, kP180, kL181, kL182, kA182, kS182, kC183, kG183, kP183, kR183_1, kR183_3, kR183_5, kR183_6, kR183_7, kR183_8, kR183_9, kR183_21, kR183_26, kR183_27, kR183_30, kR183_31, kR183_33, kR183_34, kR183_36, kR183_37, kR183_38, kR183_39, kR183_40, kR183_41, kR183_42, kR183_43, kR183_44, kL184, kA184, kS184, kL185, kA185, kS185, kL186, kA186, kS186, kL187, kA187, kS187, kL188, kA188, kS188, kL189, kL190, kL191, kA191, kS191, kL192, kA192, kS192, kL193, kA193, kS193, kL194, kA194, kS194, kL195, kA195, kS195, kL196, kA196, kS196, kL197, kA197, kS197, kL198, kA198, kS198, kL199, kA199, kS199, kL200, kA200, kS200, kL201, kL202, kA202, kS202, kL203, kA203, kS203, kL204, kA204, kS204, kL205, kL206, kA206, kS206]
  rw [feed_in (by decide)]
  rfl
theorem fW_b (a b c d e : Int32) (j : Nat) : -128 ≤ (fW a b c d e j).toInt ∧ (fW a b c d e j).toInt < 128 := by
  unfold fW
  split
  · split
    · split
      · split
        · exact bW_b _ _
        · exact bW_b _ _
      · exact bW_b _ _
    · exact bW_b _ _
  · exact bW_b _ _
/-- a change of the tape alone -/
theorem IV.tape {n : Nat} {σ : XS} {g : GD} {gT gP : GH} {st : Nat} (H : IV n σ g gT gP st) {I' : Nat → Nat → Int32} (h : ∀ a k, ¬ sTAP a k → I' a k = xI σ a k) (hT : TAP I') : IV (n + 1) (xw σ I') g gT gP st := by
  have hg := H.grd.1
  have hc : xR σ 157 4 = 160 ∨ 206 < xR σ 157 4 := by
    obtain ⟨_, _, _, _, _, _, q, _⟩ := H.cel
    exact q
  exact ⟨H.shp, Nat.le_succ_of_le H.stn, (h 1 15 (by unfold sTAP; omega)).trans H.sts, hT, by
      show I' 1 14 = I' 183 16
      rw [h _ _ (by unfold sTAP; omega), h _ _ (by unfold sTAP; omega)]; exact H.plc,
    GRD_c (fun a k q => h _ _ (by unfold sGRD at q; unfold sTAP; omega)) H.grd,
    NOW_c hg (fun a k q => h _ _ (by unfold sNOW at q; unfold sTAP; omega)) H.now,
    PST_c hg (fun a k q => h _ _ (by unfold sPST at q; unfold sTAP; omega)) (Nat.le_refl _) (fun _ _ => rfl) (fun _ _ => rfl) H.pst,
    SLT_c hg (fun a k q => h _ _ (by unfold sSLT at q; unfold sTAP; omega)) (Nat.le_refl _) (fun _ _ => rfl) (fun _ _ => rfl) H.slt,
    CCH_c (fun a k q => h _ _ (by unfold sCCH at q; rw [xw_R] at q; unfold sTAP; omega)) (Nat.le_refl _) (fun _ _ => rfl) (fun _ _ => rfl) H.cch,
    KNW_c hg (fun a k q => h _ _ (by unfold sKNW at q; unfold sTAP; omega)) H.knw, H.cel⟩
theorem IV.nop {n : Nat} {σ : XS} {g : GD} {gT gP : GH} {st : Nat} (H : IV n σ g gT gP st) : IV (n + 1) σ g gT gP st := ⟨H.shp, Nat.le_succ_of_le H.stn, H.sts, H.tap, H.plc, H.grd, H.now, H.pst, H.slt, H.cch, H.knw, H.cel⟩
theorem INV_nop : ∀ n σ, INV n σ → INV (n + 1) σ := fun n σ ⟨g, gT, gP, st, H⟩ => ⟨g, gT, gP, st, H.nop⟩
theorem op_place : Op_place INV := by
  intro n σ hn ⟨g, gT, gP, st, H⟩ _
  refine ⟨xI σ 1 14, ?_, ?_, g, gT, gP, st, H.nop⟩
  · unfold f_X11_place; rw [xgI_ok (sT1 H.shp)]; rfl
  · unfold f_X12_place; rw [xgI_ok (sT183 H.shp), ← H.plc]; rfl
theorem op_back : Op_back INV := by
  intro n σ hn ⟨g, gT, gP, st, H⟩ x
  obtain ⟨m, hm, h1, h2, h3⟩ := H.tap
  have hS := H.shp
  by_cases hx0 : x < 0
  · refine ⟨-1, σ, σ, ?_, ?_, g, gT, gP, st, H.nop⟩
    · unfold f_X11_back; rw [if_pos hx0]
    · unfold f_X12_back; rw [if_pos hx0]
  · obtain ⟨j, hj, rfl⟩ := nn_of hx0
    by_cases hjm : j ≤ m
    · refine ⟨nI (m - j), xw σ (xup (xI σ) 3 4 (nI (m - j))), xw σ (xup (xup (xI σ) 3 4 (nI (m - j))) 183 2 (nI (m - j))), ?_, ?_, g, gT, gP, st, H.tape ?_ ?_⟩
      · show f_X11_back (xw σ (xI σ)) 1 (nI j) = _
        unfold f_X11_back
        rw [if_neg hx0]
        simp (disch := first | assumption | omega) only [Option.bind_some, Option.map_some, xw_gR, xw_gN, xw_al, xw_ck, xw_uI, xw_ur, xup_at, xur_at, if_true, if_false, reduceIte, and_true, true_and, and_false, false_and, not_true_eq_false, not_false_eq_true, Nat.reduceEqDiff, eq_self, Nat.reduceAdd, Nat.reduceMul, kC1, kG1, kP1, kR1_0, kR1_1, kR1_2, kR1_3, kR1_4, kR1_5, kR1_6, kR1_7, kR1_8, kR1_9, kR1_10, kR1_11, kR1_12, kR1_13, kC2, kG2, kP2, kR2_0, kR2_1, kC3, kG3, kP3, kR3_0, kR3_1, kR3_2, kR3_3, kL4, kA4, kS4, kL5, kA5, kS5, kL6, kA6, kS6, kL7, kA7, kS7, kC8, kG8, kP8, kR8_0, kR8_1, kL9, kA9, kS9, kL10, kA10, kS10, kC11, kG11, kP11, kR11_0, kR11_1, kR11_2, kR11_3, kL12, kA12, kS12, kL13, kA13, kS13, kL14, kA14, kS14, kL15, kA15, kS15, kC16, kG16, kP16, kR16_0, kR16_1, kL17, kA17, kS17, kL18, kA18, kS18, kC19, kG19, kP19, kR19_0, kL20, kL141, kL146, kA146, kS146, kL151, kA151, kS151, kL156, kA156, kS156, kC157, kG157, kP157, kR157_0, kR157_1, kL158, kA158, kS158, kL159, kA159, kS159, kC161, kG161, kP161, kR161_0, kR161_1, kL162, kA162, kS162, kL163, kA163, kS163, kC165, kG165, kP165, kR165_0, kR165_1, kR165_2, kR165_3, kL166, kA166, kS166, kL167, kA167, kS167, kL168, kA168, kS168, kL169, kA169, kS169, kC170, kG170, kP170, kR170_0, kR170_1, kR170_2, kL171, kA171, kS171, kL172, kA172, kS172, kL173, kA173, kS173, kC174, kG174, kP174, kR174_0, kR174_1, kR174_2, kR174_3, kR174_4, kL175, kA175, kS175, kL176, kA176, kS176, kL177, kA177, kS177, kL178, kA178, kS178, kL179, kC180, kG180, kP180, kL181, kL182, kA182, kS182, kC183, kG183, kP183, kR183_1, kR183_3, kR183_5, kR183_6, kR183_7, kR183_8, kR183_9, kR183_21, kR183_26, kR183_27, kR183_30, kR183_31, kR183_33, kR183_34, kR183_36, kR183_37, kR183_38, kR183_39, kR183_40, kR183_41, kR183_42, kR183_43, kR183_44, kL184, kA184, kS184, kL185, kA185, kS185, kL186, kA186, kS186, kL187, kA187, kS187, kL188, kA188, kS188, kL189, kL190, kL191, kA191, kS191, kL192, kA192, kS192, kL193, kA193, kS193, kL194, kA194, kS194, kL195, kA195, kS195, kL196, kA196, kS196, kL197, kA197, kS197, kL198, kA198, kS198, kL199, kA199, kS199, kL200, kA200, kS200, kL201, kL202, kA202, kS202, kL203, kA203, kS203, kL204, kA204, kS204, kL205, kL206, kA206, kS206, xw_I, h1, nn_le, nn_sub, hjm]
      · unfold f_X12_back
        rw [if_neg hx0]
        simp (disch := first | assumption | omega) only [Option.bind_some, Option.map_some, xw_gR, xw_gN, xw_al, xw_ck, xw_uI, xw_ur, xup_at, xur_at, if_true, if_false, reduceIte, and_true, true_and, and_false, false_and, not_true_eq_false, not_false_eq_true, Nat.reduceEqDiff, eq_self, Nat.reduceAdd, Nat.reduceMul, kC1, kG1, kP1, kR1_0, kR1_1, kR1_2, kR1_3, kR1_4, kR1_5, kR1_6, kR1_7, kR1_8, kR1_9, kR1_10, kR1_11, kR1_12, kR1_13, kC2, kG2, kP2, kR2_0, kR2_1, kC3, kG3, kP3, kR3_0, kR3_1, kR3_2, kR3_3, kL4, kA4, kS4, kL5, kA5, kS5, kL6, kA6, kS6, kL7, kA7, kS7, kC8, kG8, kP8, kR8_0, kR8_1, kL9, kA9, kS9, kL10, kA10, kS10, kC11, kG11, kP11, kR11_0, kR11_1, kR11_2, kR11_3, kL12, kA12, kS12, kL13, kA13, kS13, kL14, kA14, kS14, kL15, kA15, kS15, kC16, kG16, kP16, kR16_0, kR16_1, kL17, kA17, kS17, kL18, kA18, kS18, kC19, kG19, kP19, kR19_0, kL20, kL141, kL146, kA146, kS146, kL151, kA151, kS151, kL156, kA156, kS156, kC157, kG157, kP157, kR157_0, kR157_1, kL158, kA158, kS158, kL159, kA159, kS159, kC161, kG161, kP161, kR161_0, kR161_1, kL162, kA162, kS162, kL163, kA163, kS163, kC165, kG165, kP165, kR165_0, kR165_1, kR165_2, kR165_3, kL166, kA166, kS166, kL167, kA167, kS167, kL168, kA168, kS168, kL169, kA169, kS169, kC170, kG170, kP170, kR170_0, kR170_1, kR170_2, kL171, kA171, kS171, kL172, kA172, kS172, kL173, kA173, kS173, kC174, kG174, kP174, kR174_0, kR174_1, kR174_2, kR174_3, kR174_4, kL175, kA175, kS175, kL176, kA176, kS176, kL177, kA177, kS177, kL178, kA178, kS178, kL179, kC180, kG180, kP180, kL181, kL182, kA182, kS182, kC183, kG183, kP183, kR183_1, kR183_3, kR183_5, kR183_6, kR183_7, kR183_8, kR183_9, kR183_21, kR183_26, kR183_27, kR183_30, kR183_31, kR183_33, kR183_34, kR183_36, kR183_37, kR183_38, kR183_39, kR183_40, kR183_41, kR183_42, kR183_43, kR183_44, kL184, kA184, kS184, kL185, kA185, kS185, kL186, kA186, kS186, kL187, kA187, kS187, kL188, kA188, kS188, kL189, kL190, kL191, kA191, kS191, kL192, kA192, kS192, kL193, kA193, kS193, kL194, kA194, kS194, kL195, kA195, kS195, kL196, kA196, kS196, kL197, kA197, kS197, kL198, kA198, kS198, kL199, kA199, kS199, kL200, kA200, kS200, kL201, kL202, kA202, kS202, kL203, kA203, kS203, kL204, kA204, kS204, kL205, kL206, kA206, kS206, xw_I, h2, nn_le, nn_sub, hjm]
      · intro a k q
        unfold sTAP at q
        simp only [xup_at]
        rw [if_neg (by omega), if_neg (by omega)]
      · refine ⟨m - j, by omega, ?_, ?_, fun k hk => ?_⟩
        · simp [xup_at]
        · simp [xup_at]
        · simp [xup_at]; exact h3 k (by omega)
    · refine ⟨-1, σ, σ, ?_, ?_, g, gT, gP, st, H.nop⟩
      · unfold f_X11_back
        rw [if_neg hx0, ← xw_self σ]
        simp (disch := first | assumption | omega) only [Option.bind_some, Option.map_some, xw_gR, xw_gN, xw_al, xw_ck, xw_uI, xw_ur, xup_at, xur_at, if_true, if_false, reduceIte, and_true, true_and, and_false, false_and, not_true_eq_false, not_false_eq_true, Nat.reduceEqDiff, eq_self, Nat.reduceAdd, Nat.reduceMul, kC1, kG1, kP1, kR1_0, kR1_1, kR1_2, kR1_3, kR1_4, kR1_5, kR1_6, kR1_7, kR1_8, kR1_9, kR1_10, kR1_11, kR1_12, kR1_13, kC2, kG2, kP2, kR2_0, kR2_1, kC3, kG3, kP3, kR3_0, kR3_1, kR3_2, kR3_3, kL4, kA4, kS4, kL5, kA5, kS5, kL6, kA6, kS6, kL7, kA7, kS7, kC8, kG8, kP8, kR8_0, kR8_1, kL9, kA9, kS9, kL10, kA10, kS10, kC11, kG11, kP11, kR11_0, kR11_1, kR11_2, kR11_3, kL12, kA12, kS12, kL13, kA13, kS13, kL14, kA14, kS14, kL15, kA15, kS15, kC16, kG16, kP16, kR16_0, kR16_1, kL17, kA17, kS17, kL18, kA18, kS18, kC19, kG19, kP19, kR19_0, kL20, kL141, kL146, kA146, kS146, kL151, kA151, kS151, kL156, kA156, kS156, kC157, kG157, kP157, kR157_0, kR157_1, kL158, kA158, kS158, kL159, kA159, kS159, kC161, kG161, kP161, kR161_0, kR161_1, kL162, kA162, kS162, kL163, kA163, kS163, kC165, kG165, kP165, kR165_0, kR165_1, kR165_2, kR165_3, kL166, kA166, kS166, kL167, kA167, kS167, kL168, kA168, kS168, kL169, kA169, kS169, kC170, kG170, kP170, kR170_0, kR170_1, kR170_2, kL171, kA171, kS171, kL172, kA172, kS172, kL173, kA173, kS173, kC174, kG174, kP174, kR174_0, kR174_1, kR174_2, kR174_3, kR174_4, kL175, kA175, kS175, kL176, kA176, kS176, kL177, kA177, kS177, kL178, kA178, kS178, kL179, kC180, kG180, kP180, kL181, kL182, kA182, kS182, kC183, kG183, kP183, kR183_1, kR183_3, kR183_5, kR183_6, kR183_7, kR183_8, kR183_9, kR183_21, kR183_26, kR183_27, kR183_30, kR183_31, kR183_33, kR183_34, kR183_36, kR183_37, kR183_38, kR183_39, kR183_40, kR183_41, kR183_42, kR183_43, kR183_44, kL184, kA184, kS184, kL185, kA185, kS185, kL186, kA186, kS186, kL187, kA187, kS187, kL188, kA188, kS188, kL189, kL190, kL191, kA191, kS191, kL192, kA192, kS192, kL193, kA193, kS193, kL194, kA194, kS194, kL195, kA195, kS195, kL196, kA196, kS196, kL197, kA197, kS197, kL198, kA198, kS198, kL199, kA199, kS199, kL200, kA200, kS200, kL201, kL202, kA202, kS202, kL203, kA203, kS203, kL204, kA204, kS204, kL205, kL206, kA206, kS206, xw_I, h1, nn_le, hjm]
      · unfold f_X12_back
        rw [if_neg hx0, ← xw_self σ]
        simp (disch := first | assumption | omega) only [Option.bind_some, Option.map_some, xw_gR, xw_gN, xw_al, xw_ck, xw_uI, xw_ur, xup_at, xur_at, if_true, if_false, reduceIte, and_true, true_and, and_false, false_and, not_true_eq_false, not_false_eq_true, Nat.reduceEqDiff, eq_self, Nat.reduceAdd, Nat.reduceMul, kC1, kG1, kP1, kR1_0, kR1_1, kR1_2, kR1_3, kR1_4, kR1_5, kR1_6, kR1_7, kR1_8, kR1_9, kR1_10, kR1_11, kR1_12, kR1_13, kC2, kG2, kP2, kR2_0, kR2_1, kC3, kG3, kP3, kR3_0, kR3_1, kR3_2, kR3_3, kL4, kA4, kS4, kL5, kA5, kS5, kL6, kA6, kS6, kL7, kA7, kS7, kC8, kG8, kP8, kR8_0, kR8_1, kL9, kA9, kS9, kL10, kA10, kS10, kC11, kG11, kP11, kR11_0, kR11_1, kR11_2, kR11_3, kL12, kA12, kS12, kL13, kA13, kS13, kL14, kA14, kS14, kL15, kA15, kS15, kC16, kG16, kP16, kR16_0, kR16_1, kL17, kA17, kS17, kL18, kA18, kS18, kC19, kG19, kP19, kR19_0, kL20, kL141, kL146, kA146, kS146, kL151, kA151, kS151, kL156, kA156, kS156, kC157, kG157, kP157, kR157_0, kR157_1, kL158, kA158, kS158, kL159, kA159, kS159, kC161, kG161, kP161, kR161_0, kR161_1, kL162, kA162, kS162, kL163, kA163, kS163, kC165, kG165, kP165, kR165_0, kR165_1, kR165_2, kR165_3, kL166, kA166, kS166, kL167, kA167, kS167, kL168, kA168, kS168, kL169, kA169, kS169, kC170, kG170, kP170, kR170_0, kR170_1, kR170_2, kL171, kA171, kS171, kL172, kA172, kS172, kL173, kA173, kS173, kC174, kG174, kP174, kR174_0, kR174_1, kR174_2, kR174_3, kR174_4, kL175, kA175, kS175, kL176, kA176, kS176, kL177, kA177, kS177, kL178, kA178, kS178, kL179, kC180, kG180, kP180, kL181, kL182, kA182, kS182, kC183, kG183, kP183, kR183_1, kR183_3, kR183_5, kR183_6, kR183_7, kR183_8, kR183_9, kR183_21, kR183_26, kR183_27, kR183_30, kR183_31, kR183_33, kR183_34, kR183_36, kR183_37, kR183_38, kR183_39, kR183_40, kR183_41, kR183_42, kR183_43, kR183_44, kL184, kA184, kS184, kL185, kA185, kS185, kL186, kA186, kS186, kL187, kA187, kS187, kL188, kA188, kS188, kL189, kL190, kL191, kA191, kS191, kL192, kA192, kS192, kL193, kA193, kS193, kL194, kA194, kS194, kL195, kA195, kS195, kL196, kA196, kS196, kL197, kA197, kS197, kL198, kA198, kS198, kL199, kA199, kS199, kL200, kA200, kS200, kL201, kL202, kA202, kS202, kL203, kA203, kS203, kL204, kA204, kS204, kL205, kL206, kA206, kS206, xw_I, h2, nn_le, hjm]
theorem op_feed : Op_feed INV := by
  intro n σ hn ⟨g, gT, gP, st, H⟩ a b c d e
  obtain ⟨m, hm, h1, h2, h3⟩ := H.tap
  have hS := H.shp
  by_cases hml : m + 20 ≤ 2000
  · refine ⟨nI (m + 20), xw σ (fdI (xI σ) 4 3 4 m (fW a b c d e) 20), xw σ (fdI (fdI (xI σ) 4 3 4 m (fW a b c d e) 20) 184 183 2 m (fW a b c d e) 20), ?_, ?_, g, gT, gP, st, H.tape ?_ ?_⟩
    · exact feed11 (I := xI σ) hS h1 hml a b c d e
    · exact feed12 hS (by simp [fdI]; exact h2) hml a b c d e
    · intro a k q
      unfold sTAP at q
      unfold fdI
      rw [if_neg (by omega), if_neg (by omega), if_neg (by omega), if_neg (by omega)]
    · refine ⟨m + 20, hml, ?_, ?_, fun k hk => ?_⟩
      · simp [fdI]
      · simp [fdI]
      · by_cases hkm : m ≤ k
        · have : m ≤ k ∧ k < m + 20 := ⟨hkm, hk⟩
          simp [fdI, this]; exact fW_b _ _ _ _ _ _
        · simp [fdI, hkm]; exact h3 k (by omega)
  · refine ⟨-1, σ, σ, ?_, ?_, g, gT, gP, st, H.nop⟩
    · unfold f_X11_feed
      rw [← xw_self σ]
      simp (disch := first | assumption | omega) only [Option.bind_some, Option.map_some, xw_gR, xw_gN, xw_al, xw_ck, xw_uI, xw_ur, xup_at, xur_at, if_true, if_false, reduceIte, and_true, true_and, and_false, false_and, not_true_eq_false, not_false_eq_true, Nat.reduceEqDiff, eq_self, Nat.reduceAdd, Nat.reduceMul, kC1, kG1, kP1, kR1_0, kR1_1, kR1_2, kR1_3, kR1_4, kR1_5, kR1_6, kR1_7, kR1_8, kR1_9, kR1_10, kR1_11, kR1_12, kR1_13, kC2, kG2, kP2, kR2_0, kR2_1, kC3, kG3, kP3, kR3_0, kR3_1, kR3_2, kR3_3, kL4, kA4, kS4, kL5, kA5, kS5, kL6, kA6, kS6, kL7, kA7, kS7, kC8, kG8, kP8, kR8_0, kR8_1, kL9, kA9, kS9, kL10, kA10, kS10, kC11, kG11, kP11, kR11_0, kR11_1, kR11_2, kR11_3, kL12, kA12, kS12, kL13, kA13, kS13, kL14, kA14, kS14, kL15, kA15, kS15, kC16, kG16, kP16, kR16_0, kR16_1, kL17, kA17, kS17, kL18, kA18, kS18, kC19, kG19, kP19, kR19_0, kL20, kL141, kL146, kA146, kS146, kL151, kA151, kS151, kL156, kA156, kS156, kC157, kG157, kP157, kR157_0, kR157_1, kL158, kA158, kS158, kL159, kA159, kS159, kC161, kG161, kP161, kR161_0, kR161_1, kL162, kA162, kS162, kL163, kA163, kS163, kC165, kG165, kP165, kR165_0, kR165_1, kR165_2, kR165_3, kL166, kA166, kS166, kL167, kA167, kS167, kL168, kA168, kS168, kL169, kA169, kS169, kC170, kG170, kP170, kR170_0, kR170_1, kR170_2, kL171, kA171, kS171, kL172, kA172, kS172, kL173, kA173, kS173, kC174, kG174, kP174, kR174_0, kR174_1, kR174_2, kR174_3, kR174_4, kL175, kA175, kS175, kL176, kA176, kS176, kL177, kA177, kS177, kL178, kA178, kS178, kL179, kC180, kG180, kP180, kL181, kL182, kA182, kS182, kC183, kG183, kP183, kR183_1, kR183_3, kR183_5, kR183_6, kR183_7, kR183_8, kR183_9, kR183_21, kR183_26, kR183_27, kR183_30, kR183_31, kR183_33, kR183_34, kR183_36, kR183_37, kR183_38, kR183_39, kR183_40, kR183_41, kR183_42, kR183_43, kR183_44, kL184, kA184, kS184, kL185, kA185, kS185, kL186, kA186, kS186, kL187, kA187, kS187, kL188, kA188, kS188, kL189, kL190, kL191, kA191, kS191, kL192, kA192, kS192, kL193, kA193, kS193, kL194, kA194, kS194, kL195, kA195, kS195, kL196, kA196, kS196, kL197, kA197, kS197, kL198, kA198, kS198, kL199, kA199, kS199, kL200, kA200, kS200, kL201, kL202, kA202, kS202, kL203, kA203, kS203, kL204, kA204, kS204, kL205, kL206, kA206, kS206, xw_I, h1]
      rw [if_neg (by rw [show (20 : Int32) = nI 20 from rfl, nn_add, show (2000 : Int32) = nI 2000 from rfl, nn_le (by omega) (by omega)]; exact hml)]
    · unfold f_X12_feed
      rw [← xw_self σ]
      simp (disch := first | assumption | omega) only [Option.bind_some, Option.map_some, xw_gR, xw_gN, xw_al, xw_ck, xw_uI, xw_ur, xup_at, xur_at, if_true, if_false, reduceIte, and_true, true_and, and_false, false_and, not_true_eq_false, not_false_eq_true, Nat.reduceEqDiff, eq_self, Nat.reduceAdd, Nat.reduceMul, kC1, kG1, kP1, kR1_0, kR1_1, kR1_2, kR1_3, kR1_4, kR1_5, kR1_6, kR1_7, kR1_8, kR1_9, kR1_10, kR1_11, kR1_12, kR1_13, kC2, kG2, kP2, kR2_0, kR2_1, kC3, kG3, kP3, kR3_0, kR3_1, kR3_2, kR3_3, kL4, kA4, kS4, kL5, kA5, kS5, kL6, kA6, kS6, kL7, kA7, kS7, kC8, kG8, kP8, kR8_0, kR8_1, kL9, kA9, kS9, kL10, kA10, kS10, kC11, kG11, kP11, kR11_0, kR11_1, kR11_2, kR11_3, kL12, kA12, kS12, kL13, kA13, kS13, kL14, kA14, kS14, kL15, kA15, kS15, kC16, kG16, kP16, kR16_0, kR16_1, kL17, kA17, kS17, kL18, kA18, kS18, kC19, kG19, kP19, kR19_0, kL20, kL141, kL146, kA146, kS146, kL151, kA151, kS151, kL156, kA156, kS156, kC157, kG157, kP157, kR157_0, kR157_1, kL158, kA158, kS158, kL159, kA159, kS159, kC161, kG161, kP161, kR161_0, kR161_1, kL162, kA162, kS162, kL163, kA163, kS163, kC165, kG165, kP165, kR165_0, kR165_1, kR165_2, kR165_3, kL166, kA166, kS166, kL167, kA167, kS167, kL168, kA168, kS168, kL169, kA169, kS169, kC170, kG170, kP170, kR170_0, kR170_1, kR170_2, kL171, kA171, kS171, kL172, kA172, kS172, kL173, kA173, kS173, kC174, kG174, kP174, kR174_0, kR174_1, kR174_2, kR174_3, kR174_4, kL175, kA175, kS175, kL176, kA176, kS176, kL177, kA177, kS177, kL178, kA178, kS178, kL179, kC180, kG180, kP180, kL181, kL182, kA182, kS182, kC183, kG183, kP183, kR183_1, kR183_3, kR183_5, kR183_6, kR183_7, kR183_8, kR183_9, kR183_21, kR183_26, kR183_27, kR183_30, kR183_31, kR183_33, kR183_34, kR183_36, kR183_37, kR183_38, kR183_39, kR183_40, kR183_41, kR183_42, kR183_43, kR183_44, kL184, kA184, kS184, kL185, kA185, kS185, kL186, kA186, kS186, kL187, kA187, kS187, kL188, kA188, kS188, kL189, kL190, kL191, kA191, kS191, kL192, kA192, kS192, kL193, kA193, kS193, kL194, kA194, kS194, kL195, kA195, kS195, kL196, kA196, kS196, kL197, kA197, kS197, kL198, kA198, kS198, kL199, kA199, kS199, kL200, kA200, kS200, kL201, kL202, kA202, kS202, kL203, kA203, kS203, kL204, kA204, kS204, kL205, kL206, kA206, kS206, xw_I, h2]
      rw [if_neg (by rw [show (20 : Int32) = nI 20 from rfl, nn_add, show (2000 : Int32) = nI 2000 from rfl, nn_le (by omega) (by omega)]; exact hml)]
end
section
/-! what is kept before a change by hand -/
def rcI (I : Nat → Nat → Int32) (d x s y n : Nat) : Nat → Nat → Int32 := fun c k => if c = d ∧ x ≤ k ∧ k < x + n then I s (y + (k - x)) else I c k
theorem rcI_0 {I : Nat → Nat → Int32} {d x s y : Nat} : rcI I d x s y 0 = I := by
  funext c k
  unfold rcI
  rw [if_neg (by omega)]
theorem rcI_s {I : Nat → Nat → Int32} {d x s y n : Nat} : xup (rcI I d x s y n) d (x + n) (I s (y + n)) = rcI I d x s y (n + 1) := by
  funext c k
  simp only [xup_at, rcI]
  by_cases h1 : c = d
  · subst h1
    by_cases h2 : k = x + n
    · subst h2; simp
    · by_cases h3 : x ≤ k ∧ k < x + n
      · have : x ≤ k ∧ k < x + (n + 1) := by omega
        simp [h2, h3, this]
      · have : ¬ (x ≤ k ∧ k < x + (n + 1)) := by omega
        simp [h2, h3, this]
  · simp [h1]
theorem rcI_src {I : Nat → Nat → Int32} {d x s y n k : Nat} (h : s ≠ d) : rcI I d x s y n s k = I s k := by
  unfold rcI
  rw [if_neg (fun q => h q.1)]
theorem rcI_in {I : Nat → Nat → Int32} {d x s y n k : Nat} (h : k < n) : rcI I d x s y n d (x + k) = I s (y + k) := by
  unfold rcI
  rw [if_pos ⟨rfl, by omega, by omega⟩]
  congr 1; omega
theorem rcI_out {I : Nat → Nat → Int32} {d x s y n c k : Nat} (h : c ≠ d ∨ k < x ∨ x + n ≤ k) : rcI I d x s y n c k = I c k := by
  unfold rcI
  rw [if_neg (by omega)]
theorem kept_R (x : Nat) (hx : x < 40) : (shR.getD 20 []).getD x 0 = 21 + 3 * x := by
  have : ∀ x, x < 40 → (shR.getD 20 []).getD x 0 = 21 + 3 * x := by decide +kernel
  exact this x hx
section HAND
variable {σ : XS} {I : Nat → Nat → Int32}
theorem kept_at (hS : Shp σ) {x : Nat} (hx : x < 40) : xaR (xw σ I) 24 20 (nI x) = some (21 + 3 * x) := by
  have e : xR σ 20 x = 21 + 3 * x := by
    have := hS.2.2 20 (by decide) x (by rw [kept_R x hx]; omega)
    rw [this, kept_R x hx]
  rw [xaR_ok (σ := xw σ I) (n := 40) (sT20 hS) (sl20 hS) hx (by decide) (by show xR σ 20 x ≠ 0; omega)]
  show some (xR σ 20 x) = _
  rw [e]
def kpI (I : Nat → Nat → Int32) (nx q : Nat) : Nat → Nat → Int32 := xup (xup (cpI I (21 + 3 * nx) 16) 19 1 (nI ((nx + 1) % 40))) 19 2 (nI (min (q + 1) 40))
theorem xmin_n {a b : Nat} (ha : a < 2147483648) (hb : b < 2147483648) : xmin (nI a) (nI b) = nI (min a b) := by
  unfold xmin
  simp only [nn_lt hb ha]
  split
  · congr 1; omega
  · congr 1; omega
theorem keep_ok (hS : Shp σ) {nx q : Nat} (hx : nx < 40) (hq : q ≤ 40) (h1 : I 19 1 = nI nx) (h2 : I 19 2 = nI q) : f_X5_keep (xw σ I) 19 16 = some (xw σ (kpI I nx q)) := by
  have c1 : cpI I (21 + 3 * nx) 16 19 1 = nI nx := by
    unfold cpI; rw [if_neg (by omega), if_neg (by omega), if_neg (by omega)]; exact h1
  have c2 : cpI I (21 + 3 * nx) 16 19 2 = nI q := by
    unfold cpI; rw [if_neg (by omega), if_neg (by omega), if_neg (by omega)]; exact h2
  unfold f_X5_keep
  simp (disch := first | assumption | omega) only [Option.bind_some, Option.map_some, xw_gR, xw_gN, xw_al, xw_ck, xw_uI, xw_ur, xup_at, xur_at, if_true, if_false, reduceIte, and_true, true_and, and_false, false_and, not_true_eq_false, not_false_eq_true, Nat.reduceEqDiff, eq_self, Nat.reduceAdd, Nat.reduceMul, kC1, kG1, kP1, kR1_0, kR1_1, kR1_2, kR1_3, kR1_4, kR1_5, kR1_6, kR1_7, kR1_8, kR1_9, kR1_10, kR1_11, kR1_12, kR1_13, kC2, kG2, kP2, kR2_0, kR2_1, kC3, kG3, kP3, kR3_0, kR3_1, kR3_2, kR3_3, kL4, kA4, kS4, kL5, kA5, kS5, kL6, kA6, kS6, kL7, kA7, kS7, kC8, kG8, kP8, kR8_0, kR8_1, kL9, kA9, kS9, kL10, kA10, kS10, kC11, kG11, kP11, kR11_0, kR11_1, kR11_2, kR11_3, kL12, kA12, kS12, kL13, kA13, kS13, kL14, kA14, kS14, kL15, kA15, kS15, kC16, kG16, kP16, kR16_0, kR16_1, kL17, kA17, kS17, kL18, kA18, kS18, kC19, kG19, kP19, kR19_0, kL20, kL141, kL146, kA146, kS146, kL151, kA151, kS151, kL156, kA156, kS156, kC157, kG157, kP157, kR157_0, kR157_1, kL158, kA158, kS158, kL159, kA159, kS159, kC161, kG161, kP161, kR161_0, kR161_1, kL162, kA162, kS162, kL163, kA163, kS163, kC165, kG165, kP165, kR165_0, kR165_1, kR165_2, kR165_3, kL166, kA166, kS166, kL167, kA167, kS167, kL168, kA168, kS168, kL169, kA169, kS169, kC170, kG170, kP170, kR170_0, kR170_1, kR170_2, kL171, kA171, kS171, kL172, kA172, kS172, kL173, kA173, kS173, kC174, kG174, kP174, kR174_0, kR174_1, kR174_2, kR174_3, kR174_4, kL175, kA175, kS175, kL176, kA176, kS176, kL177, kA177, kS177, kL178, kA178, kS178, kL179, kC180, kG180, kP180, kL181, kL182, kA182, kS182, kC183, kG183, kP183, kR183_1, kR183_3, kR183_5, kR183_6, kR183_7, kR183_8, kR183_9, kR183_21, kR183_26, kR183_27, kR183_30, kR183_31, kR183_33, kR183_34, kR183_36, kR183_37, kR183_38, kR183_39, kR183_40, kR183_41, kR183_42, kR183_43, kR183_44, kL184, kA184, kS184, kL185, kA185, kS185, kL186, kA186, kS186, kL187, kA187, kS187, kL188, kA188, kS188, kL189, kL190, kL191, kA191, kS191, kL192, kA192, kS192, kL193, kA193, kS193, kL194, kA194, kS194, kL195, kA195, kS195, kL196, kA196, kS196, kL197, kA197, kS197, kL198, kA198, kS198, kL199, kA199, kS199, kL200, kA200, kS200, kL201, kL202, kA202, kS202, kL203, kA203, kS203, kL204, kA204, kS204, kL205, kL206, kA206, kS206, h1, nn_nneg, nn_lt, hx]
  rw [kept_at hS hx]
  simp (disch := first | assumption | omega) only [Option.bind_some, Option.map_some, xw_gR, xw_gN, xw_al, xw_ck, xw_uI, xw_ur, xup_at, xur_at, if_true, if_false, reduceIte, and_true, true_and, and_false, false_and, not_true_eq_false, not_false_eq_true, Nat.reduceEqDiff, eq_self, Nat.reduceAdd, Nat.reduceMul, kC1, kG1, kP1, kR1_0, kR1_1, kR1_2, kR1_3, kR1_4, kR1_5, kR1_6, kR1_7, kR1_8, kR1_9, kR1_10, kR1_11, kR1_12, kR1_13, kC2, kG2, kP2, kR2_0, kR2_1, kC3, kG3, kP3, kR3_0, kR3_1, kR3_2, kR3_3, kL4, kA4, kS4, kL5, kA5, kS5, kL6, kA6, kS6, kL7, kA7, kS7, kC8, kG8, kP8, kR8_0, kR8_1, kL9, kA9, kS9, kL10, kA10, kS10, kC11, kG11, kP11, kR11_0, kR11_1, kR11_2, kR11_3, kL12, kA12, kS12, kL13, kA13, kS13, kL14, kA14, kS14, kL15, kA15, kS15, kC16, kG16, kP16, kR16_0, kR16_1, kL17, kA17, kS17, kL18, kA18, kS18, kC19, kG19, kP19, kR19_0, kL20, kL141, kL146, kA146, kS146, kL151, kA151, kS151, kL156, kA156, kS156, kC157, kG157, kP157, kR157_0, kR157_1, kL158, kA158, kS158, kL159, kA159, kS159, kC161, kG161, kP161, kR161_0, kR161_1, kL162, kA162, kS162, kL163, kA163, kS163, kC165, kG165, kP165, kR165_0, kR165_1, kR165_2, kR165_3, kL166, kA166, kS166, kL167, kA167, kS167, kL168, kA168, kS168, kL169, kA169, kS169, kC170, kG170, kP170, kR170_0, kR170_1, kR170_2, kL171, kA171, kS171, kL172, kA172, kS172, kL173, kA173, kS173, kC174, kG174, kP174, kR174_0, kR174_1, kR174_2, kR174_3, kR174_4, kL175, kA175, kS175, kL176, kA176, kS176, kL177, kA177, kS177, kL178, kA178, kS178, kL179, kC180, kG180, kP180, kL181, kL182, kA182, kS182, kC183, kG183, kP183, kR183_1, kR183_3, kR183_5, kR183_6, kR183_7, kR183_8, kR183_9, kR183_21, kR183_26, kR183_27, kR183_30, kR183_31, kR183_33, kR183_34, kR183_36, kR183_37, kR183_38, kR183_39, kR183_40, kR183_41, kR183_42, kR183_43, kR183_44, kL184, kA184, kS184, kL185, kA185, kS185, kL186, kA186, kS186, kL187, kA187, kS187, kL188, kA188, kS188, kL189, kL190, kL191, kA191, kS191, kL192, kA192, kS192, kL193, kA193, kS193, kL194, kA194, kS194, kL195, kA195, kS195, kL196, kA196, kS196, kL197, kA197, kS197, kL198, kA198, kS198, kL199, kA199, kS199, kL200, kA200, kS200, kL201, kL202, kA202, kS202, kL203, kA203, kS203, kL204, kA204, kS204, kL205, kL206, kA206, kS206, suC hS (suA_k hx), cp_ok hS (suA_k hx) suA_16 (by omega) (by omega) (by omega) (by omega) (by omega), c1]
  simp only [show (40 : Int32) = nI 40 from rfl, show (1 : Int32) = nI 1 from rfl, nn_add, nn_le (show 40 < 2147483648 by omega) (show nx + 1 < 2147483648 by omega)]
  unfold f_X5_keep_j55
  by_cases h39 : 40 ≤ nx + 1
  · rw [if_pos h39]
    simp (disch := first | assumption | omega) only [Option.bind_some, Option.map_some, xw_gR, xw_gN, xw_al, xw_ck, xw_uI, xw_ur, xup_at, xur_at, if_true, if_false, reduceIte, and_true, true_and, and_false, false_and, not_true_eq_false, not_false_eq_true, Nat.reduceEqDiff, eq_self, Nat.reduceAdd, Nat.reduceMul, kC1, kG1, kP1, kR1_0, kR1_1, kR1_2, kR1_3, kR1_4, kR1_5, kR1_6, kR1_7, kR1_8, kR1_9, kR1_10, kR1_11, kR1_12, kR1_13, kC2, kG2, kP2, kR2_0, kR2_1, kC3, kG3, kP3, kR3_0, kR3_1, kR3_2, kR3_3, kL4, kA4, kS4, kL5, kA5, kS5, kL6, kA6, kS6, kL7, kA7, kS7, kC8, kG8, kP8, kR8_0, kR8_1, kL9, kA9, kS9, kL10, kA10, kS10, kC11, kG11, kP11, kR11_0, kR11_1, kR11_2, kR11_3, kL12, kA12, kS12, kL13, kA13, kS13, kL14, kA14, kS14, kL15, kA15, kS15, kC16, kG16, kP16, kR16_0, kR16_1, kL17, kA17, kS17, kL18, kA18, kS18, kC19, kG19, kP19, kR19_0, kL20, kL141, kL146, kA146, kS146, kL151, kA151, kS151, kL156, kA156, kS156, kC157, kG157, kP157, kR157_0, kR157_1, kL158, kA158, kS158, kL159, kA159, kS159, kC161, kG161, kP161, kR161_0, kR161_1, kL162, kA162, kS162, kL163, kA163, kS163, kC165, kG165, kP165, kR165_0, kR165_1, kR165_2, kR165_3, kL166, kA166, kS166, kL167, kA167, kS167, kL168, kA168, kS168, kL169, kA169, kS169, kC170, kG170, kP170, kR170_0, kR170_1, kR170_2, kL171, kA171, kS171, kL172, kA172, kS172, kL173, kA173, kS173, kC174, kG174, kP174, kR174_0, kR174_1, kR174_2, kR174_3, kR174_4, kL175, kA175, kS175, kL176, kA176, kS176, kL177, kA177, kS177, kL178, kA178, kS178, kL179, kC180, kG180, kP180, kL181, kL182, kA182, kS182, kC183, kG183, kP183, kR183_1, kR183_3, kR183_5, kR183_6, kR183_7, kR183_8, kR183_9, kR183_21, kR183_26, kR183_27, kR183_30, kR183_31, kR183_33, kR183_34, kR183_36, kR183_37, kR183_38, kR183_39, kR183_40, kR183_41, kR183_42, kR183_43, kR183_44, kL184, kA184, kS184, kL185, kA185, kS185, kL186, kA186, kS186, kL187, kA187, kS187, kL188, kA188, kS188, kL189, kL190, kL191, kA191, kS191, kL192, kA192, kS192, kL193, kA193, kS193, kL194, kA194, kS194, kL195, kA195, kS195, kL196, kA196, kS196, kL197, kA197, kS197, kL198, kA198, kS198, kL199, kA199, kS199, kL200, kA200, kS200, kL201, kL202, kA202, kS202, kL203, kA203, kS203, kL204, kA204, kS204, kL205, kL206, kA206, kS206, c2, show (40 : Int32) = nI 40 from rfl, show (1 : Int32) = nI 1 from rfl, nn_add, xmin_n, Nat.reduceMod]
    have e : (nx + 1) % 40 = 0 := by omega
    unfold kpI
    rw [e]
    rfl
  · rw [if_neg h39]
    simp (disch := first | assumption | omega) only [Option.bind_some, Option.map_some, xw_gR, xw_gN, xw_al, xw_ck, xw_uI, xw_ur, xup_at, xur_at, if_true, if_false, reduceIte, and_true, true_and, and_false, false_and, not_true_eq_false, not_false_eq_true, Nat.reduceEqDiff, eq_self, Nat.reduceAdd, Nat.reduceMul, kC1, kG1, kP1, kR1_0, kR1_1, kR1_2, kR1_3, kR1_4, kR1_5, kR1_6, kR1_7, kR1_8, kR1_9, kR1_10, kR1_11, kR1_12, kR1_13, kC2, kG2, kP2, kR2_0, kR2_1, kC3, kG3, kP3, kR3_0, kR3_1, kR3_2, kR3_3, kL4, kA4, kS4, kL5, kA5, kS5, kL6, kA6, kS6, kL7, kA7, kS7, kC8, kG8, kP8, kR8_0, kR8_1, kL9, kA9, kS9, kL10, kA10, kS10, kC11, kG11, kP11, kR11_0, kR11_1, kR11_2, kR11_3, kL12, kA12, kS12, kL13, kA13, kS13, kL14, kA14, kS14, kL15, kA15, kS15, kC16, kG16, kP16, kR16_0, kR16_1, kL17, kA17, kS17, kL18, kA18, kS18, kC19, kG19, kP19, kR19_0, kL20, kL141, kL146, kA146, kS146, kL151, kA151, kS151, kL156, kA156, kS156, kC157, kG157, kP157, kR157_0, kR157_1, kL158, kA158, kS158, kL159, kA159, kS159, kC161, kG161, kP161, kR161_0, kR161_1, kL162, kA162, kS162, kL163, kA163, kS163, kC165, kG165, kP165, kR165_0, kR165_1, kR165_2, kR165_3, kL166, kA166, kS166, kL167, kA167, kS167, kL168, kA168, kS168, kL169, kA169, kS169, kC170, kG170, kP170, kR170_0, kR170_1, kR170_2, kL171, kA171, kS171, kL172, kA172, kS172, kL173, kA173, kS173, kC174, kG174, kP174, kR174_0, kR174_1, kR174_2, kR174_3, kR174_4, kL175, kA175, kS175, kL176, kA176, kS176, kL177, kA177, kS177, kL178, kA178, kS178, kL179, kC180, kG180, kP180, kL181, kL182, kA182, kS182, kC183, kG183, kP183, kR183_1, kR183_3, kR183_5, kR183_6, kR183_7, kR183_8, kR183_9, kR183_21, kR183_26, kR183_27, kR183_30, kR183_31, kR183_33, kR183_34, kR183_36, kR183_37, kR183_38, kR183_39, kR183_40, kR183_41, kR183_42, kR183_43, kR183_44, kL184, kA184, kS184, kL185, kA185, kS185, kL186, kA186, kS186, kL187, kA187, kS187, kL188, kA188, kS188, kL189, kL190, kL191, kA191, kS191, kL192, kA192, kS192, kL193, kA193, kS193, kL194, kA194, kS194, kL195, kA195, kS195, kL196, kA196, kS196, kL197, kA197, kS197, kL198, kA198, kS198, kL199, kA199, kS199, kL200, kA200, kS200, kL201, kL202, kA202, kS202, kL203, kA203, kS203, kL204, kA204, kS204, kL205, kL206, kA206, kS206, c2, show (40 : Int32) = nI 40 from rfl, show (1 : Int32) = nI 1 from rfl, nn_add, xmin_n]
    have e : (nx + 1) % 40 = nx + 1 := by omega
    unfold kpI
    rw [e]
def mkI (I : Nat → Nat → Int32) (ea q : Nat) : Nat → Nat → Int32 := xup (rcI (if q = 40 then xup (xup I 183 28 (nI ((ea + 1) % 40))) 183 29 (nI 39) else I) 193 (66 * ((ea + q) % 40)) 191 0 66) 183 29 (nI (min (q + 1) 40))
theorem marks_j {ea q : Nat} (hS : Shp σ) (hx : ea < 40) (hq : q < 40) (h1 : I 183 28 = nI ea) (h2 : I 183 29 = nI q) : f_X12_marks_j32 (xw σ I) 183 = some (xw σ (xup (rcI I 193 (66 * ((ea + q) % 40)) 191 0 66) 183 29 (nI (q + 1)))) := by
  unfold f_X12_marks_j32
  simp (disch := first | assumption | omega) only [Option.bind_some, Option.map_some, xw_gR, xw_gN, xw_al, xw_ck, xw_uI, xw_ur, xup_at, xur_at, if_true, if_false, reduceIte, and_true, true_and, and_false, false_and, not_true_eq_false, not_false_eq_true, Nat.reduceEqDiff, eq_self, Nat.reduceAdd, Nat.reduceMul, kC1, kG1, kP1, kR1_0, kR1_1, kR1_2, kR1_3, kR1_4, kR1_5, kR1_6, kR1_7, kR1_8, kR1_9, kR1_10, kR1_11, kR1_12, kR1_13, kC2, kG2, kP2, kR2_0, kR2_1, kC3, kG3, kP3, kR3_0, kR3_1, kR3_2, kR3_3, kL4, kA4, kS4, kL5, kA5, kS5, kL6, kA6, kS6, kL7, kA7, kS7, kC8, kG8, kP8, kR8_0, kR8_1, kL9, kA9, kS9, kL10, kA10, kS10, kC11, kG11, kP11, kR11_0, kR11_1, kR11_2, kR11_3, kL12, kA12, kS12, kL13, kA13, kS13, kL14, kA14, kS14, kL15, kA15, kS15, kC16, kG16, kP16, kR16_0, kR16_1, kL17, kA17, kS17, kL18, kA18, kS18, kC19, kG19, kP19, kR19_0, kL20, kL141, kL146, kA146, kS146, kL151, kA151, kS151, kL156, kA156, kS156, kC157, kG157, kP157, kR157_0, kR157_1, kL158, kA158, kS158, kL159, kA159, kS159, kC161, kG161, kP161, kR161_0, kR161_1, kL162, kA162, kS162, kL163, kA163, kS163, kC165, kG165, kP165, kR165_0, kR165_1, kR165_2, kR165_3, kL166, kA166, kS166, kL167, kA167, kS167, kL168, kA168, kS168, kL169, kA169, kS169, kC170, kG170, kP170, kR170_0, kR170_1, kR170_2, kL171, kA171, kS171, kL172, kA172, kS172, kL173, kA173, kS173, kC174, kG174, kP174, kR174_0, kR174_1, kR174_2, kR174_3, kR174_4, kL175, kA175, kS175, kL176, kA176, kS176, kL177, kA177, kS177, kL178, kA178, kS178, kL179, kC180, kG180, kP180, kL181, kL182, kA182, kS182, kC183, kG183, kP183, kR183_1, kR183_3, kR183_5, kR183_6, kR183_7, kR183_8, kR183_9, kR183_21, kR183_26, kR183_27, kR183_30, kR183_31, kR183_33, kR183_34, kR183_36, kR183_37, kR183_38, kR183_39, kR183_40, kR183_41, kR183_42, kR183_43, kR183_44, kL184, kA184, kS184, kL185, kA185, kS185, kL186, kA186, kS186, kL187, kA187, kS187, kL188, kA188, kS188, kL189, kL190, kL191, kA191, kS191, kL192, kA192, kS192, kL193, kA193, kS193, kL194, kA194, kS194, kL195, kA195, kS195, kL196, kA196, kS196, kL197, kA197, kS197, kL198, kA198, kS198, kL199, kA199, kS199, kL200, kA200, kS200, kL201, kL202, kA202, kS202, kL203, kA203, kS203, kL204, kA204, kS204, kL205, kL206, kA206, kS206, h1, h2, show (40 : Int32) = nI 40 from rfl, show (66 : Int32) = nI 66 from rfl, nn_add]
  rw [nn_rem (by omega) (by omega), nn_mul]
  refine xforE (fun j : Nat => (nI j, xw σ (rcI I 193 (66 * ((ea + q) % 40)) 191 0 j))) 66 (by simp only [rcI_0]; rfl) (fun j hj => ?_) ?_
  · simp only [f_X12_marks_b50]
    rw [if_neg (by rw [show (66 : Int32) = nI 66 from rfl, nn_le (by omega) (by omega)]; omega)]
    simp (disch := first | assumption | omega) only [Option.bind_some, Option.map_some, xw_gR, xw_gN, xw_al, xw_ck, xw_uI, xw_ur, xup_at, xur_at, if_true, if_false, reduceIte, and_true, true_and, and_false, false_and, not_true_eq_false, not_false_eq_true, Nat.reduceEqDiff, eq_self, Nat.reduceAdd, Nat.reduceMul, kC1, kG1, kP1, kR1_0, kR1_1, kR1_2, kR1_3, kR1_4, kR1_5, kR1_6, kR1_7, kR1_8, kR1_9, kR1_10, kR1_11, kR1_12, kR1_13, kC2, kG2, kP2, kR2_0, kR2_1, kC3, kG3, kP3, kR3_0, kR3_1, kR3_2, kR3_3, kL4, kA4, kS4, kL5, kA5, kS5, kL6, kA6, kS6, kL7, kA7, kS7, kC8, kG8, kP8, kR8_0, kR8_1, kL9, kA9, kS9, kL10, kA10, kS10, kC11, kG11, kP11, kR11_0, kR11_1, kR11_2, kR11_3, kL12, kA12, kS12, kL13, kA13, kS13, kL14, kA14, kS14, kL15, kA15, kS15, kC16, kG16, kP16, kR16_0, kR16_1, kL17, kA17, kS17, kL18, kA18, kS18, kC19, kG19, kP19, kR19_0, kL20, kL141, kL146, kA146, kS146, kL151, kA151, kS151, kL156, kA156, kS156, kC157, kG157, kP157, kR157_0, kR157_1, kL158, kA158, kS158, kL159, kA159, kS159, kC161, kG161, kP161, kR161_0, kR161_1, kL162, kA162, kS162, kL163, kA163, kS163, kC165, kG165, kP165, kR165_0, kR165_1, kR165_2, kR165_3, kL166, kA166, kS166, kL167, kA167, kS167, kL168, kA168, kS168, kL169, kA169, kS169, kC170, kG170, kP170, kR170_0, kR170_1, kR170_2, kL171, kA171, kS171, kL172, kA172, kS172, kL173, kA173, kS173, kC174, kG174, kP174, kR174_0, kR174_1, kR174_2, kR174_3, kR174_4, kL175, kA175, kS175, kL176, kA176, kS176, kL177, kA177, kS177, kL178, kA178, kS178, kL179, kC180, kG180, kP180, kL181, kL182, kA182, kS182, kC183, kG183, kP183, kR183_1, kR183_3, kR183_5, kR183_6, kR183_7, kR183_8, kR183_9, kR183_21, kR183_26, kR183_27, kR183_30, kR183_31, kR183_33, kR183_34, kR183_36, kR183_37, kR183_38, kR183_39, kR183_40, kR183_41, kR183_42, kR183_43, kR183_44, kL184, kA184, kS184, kL185, kA185, kS185, kL186, kA186, kS186, kL187, kA187, kS187, kL188, kA188, kS188, kL189, kL190, kL191, kA191, kS191, kL192, kA192, kS192, kL193, kA193, kS193, kL194, kA194, kS194, kL195, kA195, kS195, kL196, kA196, kS196, kL197, kA197, kS197, kL198, kA198, kS198, kL199, kA199, kS199, kL200, kA200, kS200, kL201, kL202, kA202, kS202, kL203, kA203, kS203, kL204, kA204, kS204, kL205, kL206, kA206, kS206, nn_add, rcI_src (show 191 ≠ 193 by decide)]
    have e := rcI_s (I := I) (d := 193) (x := 66 * ((ea + q) % 40)) (s := 191) (y := 0) (n := j)
    rw [Nat.zero_add] at e
    rw [e, show (1 : Int32) = nI 1 from rfl, nn_add]
  · simp only [f_X12_marks_b50]
    rw [if_pos (by decide)]
    simp (disch := first | assumption | omega) only [Option.bind_some, Option.map_some, xw_gR, xw_gN, xw_al, xw_ck, xw_uI, xw_ur, xup_at, xur_at, if_true, if_false, reduceIte, and_true, true_and, and_false, false_and, not_true_eq_false, not_false_eq_true, Nat.reduceEqDiff, eq_self, Nat.reduceAdd, Nat.reduceMul, kC1, kG1, kP1, kR1_0, kR1_1, kR1_2, kR1_3, kR1_4, kR1_5, kR1_6, kR1_7, kR1_8, kR1_9, kR1_10, kR1_11, kR1_12, kR1_13, kC2, kG2, kP2, kR2_0, kR2_1, kC3, kG3, kP3, kR3_0, kR3_1, kR3_2, kR3_3, kL4, kA4, kS4, kL5, kA5, kS5, kL6, kA6, kS6, kL7, kA7, kS7, kC8, kG8, kP8, kR8_0, kR8_1, kL9, kA9, kS9, kL10, kA10, kS10, kC11, kG11, kP11, kR11_0, kR11_1, kR11_2, kR11_3, kL12, kA12, kS12, kL13, kA13, kS13, kL14, kA14, kS14, kL15, kA15, kS15, kC16, kG16, kP16, kR16_0, kR16_1, kL17, kA17, kS17, kL18, kA18, kS18, kC19, kG19, kP19, kR19_0, kL20, kL141, kL146, kA146, kS146, kL151, kA151, kS151, kL156, kA156, kS156, kC157, kG157, kP157, kR157_0, kR157_1, kL158, kA158, kS158, kL159, kA159, kS159, kC161, kG161, kP161, kR161_0, kR161_1, kL162, kA162, kS162, kL163, kA163, kS163, kC165, kG165, kP165, kR165_0, kR165_1, kR165_2, kR165_3, kL166, kA166, kS166, kL167, kA167, kS167, kL168, kA168, kS168, kL169, kA169, kS169, kC170, kG170, kP170, kR170_0, kR170_1, kR170_2, kL171, kA171, kS171, kL172, kA172, kS172, kL173, kA173, kS173, kC174, kG174, kP174, kR174_0, kR174_1, kR174_2, kR174_3, kR174_4, kL175, kA175, kS175, kL176, kA176, kS176, kL177, kA177, kS177, kL178, kA178, kS178, kL179, kC180, kG180, kP180, kL181, kL182, kA182, kS182, kC183, kG183, kP183, kR183_1, kR183_3, kR183_5, kR183_6, kR183_7, kR183_8, kR183_9, kR183_21, kR183_26, kR183_27, kR183_30, kR183_31, kR183_33, kR183_34, kR183_36, kR183_37, kR183_38, kR183_39, kR183_40, kR183_41, kR183_42, kR183_43, kR183_44, kL184, kA184, kS184, kL185, kA185, kS185, kL186, kA186, kS186, kL187, kA187, kS187, kL188, kA188, kS188, kL189, kL190, kL191, kA191, kS191, kL192, kA192, kS192, kL193, kA193, kS193, kL194, kA194, kS194, kL195, kA195, kS195, kL196, kA196, kS196, kL197, kA197, kS197, kL198, kA198, kS198, kL199, kA199, kS199, kL200, kA200, kS200, kL201, kL202, kA202, kS202, kL203, kA203, kS203, kL204, kA204, kS204, kL205, kL206, kA206, kS206, rcI_out (I := I) (c := 183) (d := 193) (k := 29) (.inl (by decide)), h2, show (1 : Int32) = nI 1 from rfl, nn_add]
theorem marks_ok {ea q : Nat} (hS : Shp σ) (hx : ea < 40) (hq : q ≤ 40) (h1 : I 183 28 = nI ea) (h2 : I 183 29 = nI q) : f_X12_marks (xw σ I) 183 = some (xw σ (mkI I ea q)) := by
  unfold f_X12_marks
  simp (disch := first | assumption | omega) only [Option.bind_some, Option.map_some, xw_gR, xw_gN, xw_al, xw_ck, xw_uI, xw_ur, xup_at, xur_at, if_true, if_false, reduceIte, and_true, true_and, and_false, false_and, not_true_eq_false, not_false_eq_true, Nat.reduceEqDiff, eq_self, Nat.reduceAdd, Nat.reduceMul, kC1, kG1, kP1, kR1_0, kR1_1, kR1_2, kR1_3, kR1_4, kR1_5, kR1_6, kR1_7, kR1_8, kR1_9, kR1_10, kR1_11, kR1_12, kR1_13, kC2, kG2, kP2, kR2_0, kR2_1, kC3, kG3, kP3, kR3_0, kR3_1, kR3_2, kR3_3, kL4, kA4, kS4, kL5, kA5, kS5, kL6, kA6, kS6, kL7, kA7, kS7, kC8, kG8, kP8, kR8_0, kR8_1, kL9, kA9, kS9, kL10, kA10, kS10, kC11, kG11, kP11, kR11_0, kR11_1, kR11_2, kR11_3, kL12, kA12, kS12, kL13, kA13, kS13, kL14, kA14, kS14, kL15, kA15, kS15, kC16, kG16, kP16, kR16_0, kR16_1, kL17, kA17, kS17, kL18, kA18, kS18, kC19, kG19, kP19, kR19_0, kL20, kL141, kL146, kA146, kS146, kL151, kA151, kS151, kL156, kA156, kS156, kC157, kG157, kP157, kR157_0, kR157_1, kL158, kA158, kS158, kL159, kA159, kS159, kC161, kG161, kP161, kR161_0, kR161_1, kL162, kA162, kS162, kL163, kA163, kS163, kC165, kG165, kP165, kR165_0, kR165_1, kR165_2, kR165_3, kL166, kA166, kS166, kL167, kA167, kS167, kL168, kA168, kS168, kL169, kA169, kS169, kC170, kG170, kP170, kR170_0, kR170_1, kR170_2, kL171, kA171, kS171, kL172, kA172, kS172, kL173, kA173, kS173, kC174, kG174, kP174, kR174_0, kR174_1, kR174_2, kR174_3, kR174_4, kL175, kA175, kS175, kL176, kA176, kS176, kL177, kA177, kS177, kL178, kA178, kS178, kL179, kC180, kG180, kP180, kL181, kL182, kA182, kS182, kC183, kG183, kP183, kR183_1, kR183_3, kR183_5, kR183_6, kR183_7, kR183_8, kR183_9, kR183_21, kR183_26, kR183_27, kR183_30, kR183_31, kR183_33, kR183_34, kR183_36, kR183_37, kR183_38, kR183_39, kR183_40, kR183_41, kR183_42, kR183_43, kR183_44, kL184, kA184, kS184, kL185, kA185, kS185, kL186, kA186, kS186, kL187, kA187, kS187, kL188, kA188, kS188, kL189, kL190, kL191, kA191, kS191, kL192, kA192, kS192, kL193, kA193, kS193, kL194, kA194, kS194, kL195, kA195, kS195, kL196, kA196, kS196, kL197, kA197, kS197, kL198, kA198, kS198, kL199, kA199, kS199, kL200, kA200, kS200, kL201, kL202, kA202, kS202, kL203, kA203, kS203, kL204, kA204, kS204, kL205, kL206, kA206, kS206, h2, show (40 : Int32) = nI 40 from rfl, nn_eq]
  by_cases h40 : q = 40
  · subst h40
    simp (disch := first | assumption | omega) only [Option.bind_some, Option.map_some, xw_gR, xw_gN, xw_al, xw_ck, xw_uI, xw_ur, xup_at, xur_at, if_true, if_false, reduceIte, and_true, true_and, and_false, false_and, not_true_eq_false, not_false_eq_true, Nat.reduceEqDiff, eq_self, Nat.reduceAdd, Nat.reduceMul, kC1, kG1, kP1, kR1_0, kR1_1, kR1_2, kR1_3, kR1_4, kR1_5, kR1_6, kR1_7, kR1_8, kR1_9, kR1_10, kR1_11, kR1_12, kR1_13, kC2, kG2, kP2, kR2_0, kR2_1, kC3, kG3, kP3, kR3_0, kR3_1, kR3_2, kR3_3, kL4, kA4, kS4, kL5, kA5, kS5, kL6, kA6, kS6, kL7, kA7, kS7, kC8, kG8, kP8, kR8_0, kR8_1, kL9, kA9, kS9, kL10, kA10, kS10, kC11, kG11, kP11, kR11_0, kR11_1, kR11_2, kR11_3, kL12, kA12, kS12, kL13, kA13, kS13, kL14, kA14, kS14, kL15, kA15, kS15, kC16, kG16, kP16, kR16_0, kR16_1, kL17, kA17, kS17, kL18, kA18, kS18, kC19, kG19, kP19, kR19_0, kL20, kL141, kL146, kA146, kS146, kL151, kA151, kS151, kL156, kA156, kS156, kC157, kG157, kP157, kR157_0, kR157_1, kL158, kA158, kS158, kL159, kA159, kS159, kC161, kG161, kP161, kR161_0, kR161_1, kL162, kA162, kS162, kL163, kA163, kS163, kC165, kG165, kP165, kR165_0, kR165_1, kR165_2, kR165_3, kL166, kA166, kS166, kL167, kA167, kS167, kL168, kA168, kS168, kL169, kA169, kS169, kC170, kG170, kP170, kR170_0, kR170_1, kR170_2, kL171, kA171, kS171, kL172, kA172, kS172, kL173, kA173, kS173, kC174, kG174, kP174, kR174_0, kR174_1, kR174_2, kR174_3, kR174_4, kL175, kA175, kS175, kL176, kA176, kS176, kL177, kA177, kS177, kL178, kA178, kS178, kL179, kC180, kG180, kP180, kL181, kL182, kA182, kS182, kC183, kG183, kP183, kR183_1, kR183_3, kR183_5, kR183_6, kR183_7, kR183_8, kR183_9, kR183_21, kR183_26, kR183_27, kR183_30, kR183_31, kR183_33, kR183_34, kR183_36, kR183_37, kR183_38, kR183_39, kR183_40, kR183_41, kR183_42, kR183_43, kR183_44, kL184, kA184, kS184, kL185, kA185, kS185, kL186, kA186, kS186, kL187, kA187, kS187, kL188, kA188, kS188, kL189, kL190, kL191, kA191, kS191, kL192, kA192, kS192, kL193, kA193, kS193, kL194, kA194, kS194, kL195, kA195, kS195, kL196, kA196, kS196, kL197, kA197, kS197, kL198, kA198, kS198, kL199, kA199, kS199, kL200, kA200, kS200, kL201, kL202, kA202, kS202, kL203, kA203, kS203, kL204, kA204, kS204, kL205, kL206, kA206, kS206, h1, h2, show (1 : Int32) = nI 1 from rfl, nn_add, nn_rem, nn_sub, Nat.reduceSub]
    rw [marks_j (ea := (ea + 1) % 40) (q := 39) hS (by omega) (by omega) (by simp [xup_at]) (by simp [xup_at])]
    have e : ((ea + 1) % 40 + 39) % 40 = (ea + 40) % 40 := by omega
    unfold mkI
    rw [e, if_pos rfl]
    rfl
  · rw [if_neg h40, marks_j hS hx (by omega) h1 h2]
    unfold mkI
    rw [if_neg h40, show min (q + 1) 40 = q + 1 by omega]
end HAND
end
