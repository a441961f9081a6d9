/-! what is worked out once and kept; the invariant of the run -/
def gSt (g : GD) : Nat := if gSz g = 0 then 0 else 2 ^ gSz g
/-- a lawful state of an energy; how many there are -/
def lE (g : GD) (F : Nat → Int32) (e : Int) (s : Nat) : Bool := lW g F s && decide (eE g (zR F) s = e)
def lC (g : GD) (F : Nat → Int32) (e : Int) : Nat := fb_ct (lE g F e) (gSt g)
def pC (s : Nat) : Nat := fb_ct (fun i => s.testBit i) 16
def lU (g : GD) (F : Nat → Int32) (e : Int) (u : Nat) : Nat := fb_ct (fun s => lE g F e s && decide (pC s = u)) (gSt g)
def lvP (g : GD) (F : Nat → Int32) (k : Nat) : Bool := decide (0 < lC g F ((k : Int) - 144))
def lvN (g : GD) (F : Nat → Int32) : Nat := fb_ct (lvP g F) 289
def bkP (g : GD) (F : Nat → Int32) (s t : Nat) : Bool := match gTo g t with
  | none => false
  | some e => decide (F t ≠ 0) && (decide (s.testBit (gFr t) = s.testBit e) == decide ((F t).toInt < 0))
def bk (g : GD) (F : Nat → Int32) (s : Nat) : Nat := fb_ct (bkP g F s) 32
def WAY (I : Nat → Nat → Int32) (a : Nat) (g : GD) (F : Nat → Int32) : Prop := ∀ k, k < 289 → I a k = nI (lC g F ((k : Int) - 144))
def ENK (I : Nat → Nat → Int32) (R : Nat → Nat → Nat) (len : Nat → Nat) (a : Nat) (g : GD) (F : Nat → Int32) : Prop := 2 ^ gSz g ≤ len (R a 4) ∧ ∀ s, s < 2 ^ gSz g → I (R a 4) s = iI (eE g (zR F) s)
def LVK (I : Nat → Nat → Int32) (g : GD) (F : Nat → Int32) : Prop := WAY I 166 g F ∧
  (∀ k s : Nat, k < 289 → s < gSt g → lE g F ((k : Int) - 144) s = true → (∀ s', s' < s → lE g F ((k : Int) - 144) s' = false) → I 167 k = nI s) ∧
  (∀ k u : Nat, k < 289 → u < 17 → I 168 (17 * k + u) = nI (lU g F ((k : Int) - 144) u)) ∧
  I 165 4 = nI (lvN g F) ∧ ∀ k, k < 289 → lvP g F k = true → I 169 (fb_ct (lvP g F) k) = iI ((k : Int) - 144)
def BRK (I : Nat → Nat → Int32) (g : GD) (F : Nat → Int32) : Prop := ∀ m, m < 33 → I 171 m = nI (fb_ct (fun s => lW g F s && decide (bk g F s = m)) (gSt g))
def TRK (I : Nat → Nat → Int32) (R : Nat → Nat → Nat) (g : GD) (F : Nat → Int32) : Prop := gSz g ≤ 10 → I 174 7 = nI (gSz g) ∧ R 174 5 = 157 ∧ R 174 6 = 16 ∧
  ∃ (M : Nat) (o : Nat → Nat), M ≤ 1024 ∧ I 174 8 = nI M ∧ (∀ i, i < M → I 175 i = nI (o i) ∧ o i < gSt g ∧ lW g F (o i) = true) ∧ (∀ i j, i < j → j < M → eE g (zR F) (o i) ≤ eE g (zR F) (o j) ∧ o i ≠ o j) ∧ ∀ s, s < gSt g → lW g F s = true → ∃ i, i < M ∧ o i = s
def KNK (I : Nat → Nat → Int32) (g : GD) (F : Nat → Int32) : Prop := (∀ s, s < gSt g → I 196 s = if lW g F s then iI (eE g (zR F) s) else nI 100000) ∧
  (∀ e, e < 301 → I 197 e = nI (lC g F ((e : Int) - 150))) ∧ I 183 35 = nI (lvN g F) ∧ ∀ k, k < 289 → lvP g F k = true → I 198 (fb_ct (lvP g F) k) = iI ((k : Int) - 144)
/-- the parts of the run -/
def TAP (I : Nat → Nat → Int32) : Prop := ∃ m, m ≤ 2000 ∧ I 3 4 = nI m ∧ I 183 2 = nI m ∧ ∀ k, k < m → I 184 k = I 4 k ∧ -128 ≤ (I 4 k).toInt ∧ (I 4 k).toInt < 128
def GRD (I : Nat → Nat → Int32) (g : GD) : Prop := g ∈ gAll ∧ I 11 4 = nI g.1 ∧ I 11 5 = nI g.2.1 ∧ I 11 6 = nI g.2.2 ∧ I 11 7 = nI (gSz g) ∧ (∀ t, t < 32 → I 12 t = oI (gTo g t)) ∧ (∀ i, i < 16 → I 15 i = nI (gMt g i).length) ∧
  (∀ i j, i < 16 → j < (gMt g i).length → I 13 (4 * i + j) = nI ((gMt g i).getD j (0, 0)).1 ∧ I 14 (4 * i + j) = nI ((gMt g i).getD j (0, 0)).2) ∧ I 183 17 = nI g.1 ∧ I 183 18 = nI g.2.1 ∧ I 183 19 = nI (g.2.2 % 2) ∧ I 183 20 = nI (g.2.2 / 2) ∧ ∀ i, i < 16 → I 173 i = 0
def PST (g : GD) (gT gP : GH) (st : Nat) (I : Nat → Nat → Int32) : Prop := ∃ q nx ea, q ≤ 40 ∧ nx < 40 ∧ ea < 40 ∧ I 19 1 = nI nx ∧ I 19 2 = nI q ∧ I 183 28 = nI ea ∧ I 183 29 = nI q ∧
  ∀ i, i < q → LV g gT gP st I (21 + 3 * ((nx + 40 - q + i) % 40)) (fun k => I 193 (66 * ((ea + i) % 40) + k))
def SLT (g : GD) (gT gP : GH) (st : Nat) (I : Nat → Nat → Int32) : Prop := ∀ i, i < 3 → ∃ f c, f < 2 ∧ c < 2 ∧ I (142 + 5 * i) 2 = nI f ∧ I 195 i = nI f ∧ I (142 + 5 * i) 3 = nI c ∧
  (f = 1 → LV g gT gP st I (143 + 5 * i) (fun k => I 194 (66 * i + k))) ∧ (f = 1 → c = 1 → WAY I (146 + 5 * i) g (fun k => I 194 (66 * i + k)))
def CCH (I : Nat → Nat → Int32) (R : Nat → Nat → Nat) (len : Nat → Nat) (gT gP : GH) (st : Nat) : Prop :=
  (I 157 5 = -1 ∨ ∃ t, t ≤ st ∧ I 157 5 = nI t ∧ ENK I R len 157 (gT t).1 (gT t).2) ∧
  (I 165 5 = -1 ∨ ∃ p, p ≤ st ∧ I 165 5 = nI p ∧ LVK I (gP p).1 (gP p).2) ∧
  (I 170 3 = -1 ∨ ∃ p, p ≤ st ∧ I 170 3 = nI p ∧ BRK I (gP p).1 (gP p).2) ∧
  (I 174 10 = -1 ∨ ∃ p, p ≤ st ∧ I 174 10 = nI p ∧ TRK I R (gP p).1 (gP p).2)
def KNW (I : Nat → Nat → Int32) (g : GD) : Prop := I 183 32 = 0 ∨ (I 183 32 = 1 ∧ KNK I g (I 191))
/-- the model's key words -/
def kyW : List Nat := [10504420, 16308991, 778957, 3369766, 361240, 14828, 330573, 11921, 583, 90302, 377761]
def KY (L : Nat → Nat → Int64) : Prop := ∀ k, k < 11 → L 190 k = lN (kyW.getD k 0)
def CEL (K : Nat → Nat × Nat) (R : Nat → Nat → Nat) (n z : Nat) (L : Nat → Nat → Int64) : Prop := ∃ a b, a ≤ 16 ∧ b ≤ 16 ∧ K (R 157 4) = (20, 2 ^ a) ∧ K (R 161 4) = (20, 2 ^ b) ∧ (R 157 4 = 160 ∨ 206 < R 157 4) ∧ (R 161 4 = 164 ∨ 206 < R 161 4) ∧ R 157 4 ≠ R 161 4 ∧ R 157 4 ≤ n ∧ R 161 4 ≤ n ∧ n ≤ 206 + a + b ∧ z ≤ 98100 + 65536 * (a + b) ∧ KY L
def IV (n : Nat) (σ : XS) (g : GD) (gT gP : GH) (st : Nat) : Prop := (Shp σ) ∧ (st ≤ n) ∧ (xI σ 1 15 = nI st) ∧ (TAP (xI σ)) ∧ (xI σ 1 14 = xI σ 183 16) ∧ (GRD (xI σ) g) ∧ (LV g gT gP st (xI σ) 16 (xI σ 191)) ∧ (PST g gT gP st (xI σ)) ∧ (SLT g gT gP st (xI σ)) ∧ (CCH (xI σ) (xR σ) (xlen σ) gT gP st) ∧ (KNW (xI σ) g) ∧ (CEL σ.1 (xR σ) (xn σ) (xz σ) (xL σ))
theorem IV.shp {n : Nat} {σ : XS} {g : GD} {gT gP : GH} {st : Nat} (H : IV n σ g gT gP st) : Shp σ := H.1
theorem IV.stn {n : Nat} {σ : XS} {g : GD} {gT gP : GH} {st : Nat} (H : IV n σ g gT gP st) : st ≤ n := H.2.1
theorem IV.sts {n : Nat} {σ : XS} {g : GD} {gT gP : GH} {st : Nat} (H : IV n σ g gT gP st) : xI σ 1 15 = nI st := H.2.2.1
theorem IV.tap {n : Nat} {σ : XS} {g : GD} {gT gP : GH} {st : Nat} (H : IV n σ g gT gP st) : TAP (xI σ) := H.2.2.2.1
theorem IV.plc {n : Nat} {σ : XS} {g : GD} {gT gP : GH} {st : Nat} (H : IV n σ g gT gP st) : xI σ 1 14 = xI σ 183 16 := H.2.2.2.2.1
theorem IV.grd {n : Nat} {σ : XS} {g : GD} {gT gP : GH} {st : Nat} (H : IV n σ g gT gP st) : GRD (xI σ) g := H.2.2.2.2.2.1
theorem IV.now {n : Nat} {σ : XS} {g : GD} {gT gP : GH} {st : Nat} (H : IV n σ g gT gP st) : LV g gT gP st (xI σ) 16 (xI σ 191) := H.2.2.2.2.2.2.1
theorem IV.pst {n : Nat} {σ : XS} {g : GD} {gT gP : GH} {st : Nat} (H : IV n σ g gT gP st) : PST g gT gP st (xI σ) := H.2.2.2.2.2.2.2.1
theorem IV.slt {n : Nat} {σ : XS} {g : GD} {gT gP : GH} {st : Nat} (H : IV n σ g gT gP st) : SLT g gT gP st (xI σ) := H.2.2.2.2.2.2.2.2.1
theorem IV.cch {n : Nat} {σ : XS} {g : GD} {gT gP : GH} {st : Nat} (H : IV n σ g gT gP st) : CCH (xI σ) (xR σ) (xlen σ) gT gP st := H.2.2.2.2.2.2.2.2.2.1
theorem IV.knw {n : Nat} {σ : XS} {g : GD} {gT gP : GH} {st : Nat} (H : IV n σ g gT gP st) : KNW (xI σ) g := H.2.2.2.2.2.2.2.2.2.2.1
theorem IV.cel {n : Nat} {σ : XS} {g : GD} {gT gP : GH} {st : Nat} (H : IV n σ g gT gP st) : CEL σ.1 (xR σ) (xn σ) (xz σ) (xL σ) := H.2.2.2.2.2.2.2.2.2.2.2
def INV (n : Nat) (σ : XS) : Prop := ∃ g gT gP st, IV n σ g gT gP st
