/-! ints as whole numbers; ints as natural numbers -/
def iI (z : Int) : Int32 := Int32.ofInt z
theorem iI_n (n : Nat) : nI n = iI (n : Int) := by
  apply Int32.toBitVec_inj.mp
  show BitVec.ofNat 32 n = BitVec.ofInt 32 (n : Int)
  rw [BitVec.ofInt_natCast]
theorem iI_add (a b : Int) : iI a + iI b = iI (a + b) := (Int32.ofInt_add a b).symm
theorem iI_sub (a b : Int) : iI a - iI b = iI (a - b) := (Int32.ofInt_sub a b).symm
theorem iI_mul (a b : Int) : iI a * iI b = iI (a * b) := (Int32.ofInt_mul a b).symm
theorem iI_neg (a : Int) : -iI a = iI (-a) := (Int32.ofInt_neg a).symm
theorem iI_lit (n : Nat) : (OfNat.ofNat n : Int32) = iI (n : Int) := iI_n n
theorem iI_of (x : Int32) : x = iI x.toInt := (Int32.ofInt_toInt x).symm
theorem iI_ti {z : Int} (h1 : -2147483648 ≤ z) (h2 : z < 2147483648) : (iI z).toInt = z := fb_ofI h1 h2
theorem iI_lt {a b : Int} (h1 : -2147483648 ≤ a) (h2 : a < 2147483648) (h3 : -2147483648 ≤ b) (h4 : b < 2147483648) : (iI a < iI b) = (a < b) := by
  rw [fa_lt, iI_ti h1 h2, iI_ti h3 h4]
theorem iI_le {a b : Int} (h1 : -2147483648 ≤ a) (h2 : a < 2147483648) (h3 : -2147483648 ≤ b) (h4 : b < 2147483648) : (iI a ≤ iI b) = (a ≤ b) := by
  rw [fa_le, iI_ti h1 h2, iI_ti h3 h4]
theorem iI_eq {a b : Int} (h1 : -2147483648 ≤ a) (h2 : a < 2147483648) (h3 : -2147483648 ≤ b) (h4 : b < 2147483648) : (iI a = iI b) = (a = b) := by
  rw [fa_eq, iI_ti h1 h2, iI_ti h3 h4]
theorem nn_lit (n : Nat) : (OfNat.ofNat n : Int32) = nI n := rfl
theorem nn_add (a b : Nat) : nI a + nI b = nI (a + b) := by rw [iI_n, iI_n, iI_n, iI_add]; rfl
theorem nn_mul (a b : Nat) : nI a * nI b = nI (a * b) := by rw [iI_n, iI_n, iI_n, iI_mul]; rfl
theorem nn_sub {a b : Nat} (h : b ≤ a) : nI a - nI b = nI (a - b) := by
  rw [iI_n, iI_n, iI_n, iI_sub, Int.ofNat_sub h]
theorem nn_lt {a b : Nat} (ha : a < 2147483648) (hb : b < 2147483648) : (nI a < nI b) = (a < b) := by
  rw [fa_lt, nI_toInt ha, nI_toInt hb]; exact propext Int.ofNat_lt
theorem nn_le {a b : Nat} (ha : a < 2147483648) (hb : b < 2147483648) : (nI a ≤ nI b) = (a ≤ b) := by
  rw [fa_le, nI_toInt ha, nI_toInt hb]; exact propext Int.ofNat_le
theorem nn_eq {a b : Nat} (ha : a < 2147483648) (hb : b < 2147483648) : (nI a = nI b) = (a = b) := by
  rw [fa_eq, nI_toInt ha, nI_toInt hb]; exact propext Int.ofNat_inj
/-- an int that isn't negative is a number -/
theorem nn_of {x : Int32} (h : ¬ x < 0) : ∃ n, n < 2147483648 ∧ x = nI n := by
  have hx : 0 ≤ x.toInt := by rw [fa_lt] at h; exact Int.not_lt.mp h
  have h2 := x.toInt_lt
  refine ⟨x.toInt.toNat, by omega, ?_⟩
  rw [iI_n, Int.toNat_of_nonneg hx]
  exact iI_of x
theorem nn_nneg {a : Nat} (ha : a < 2147483648) : (nI a < 0) = False := eq_false (nI_pos ha)
theorem nn_m1 {a : Nat} (ha : a < 2147483648) : (nI a = -1) = False := by
  apply eq_false
  intro h
  have := congrArg Int32.toInt h
  rw [nI_toInt ha] at this
  have e : (-1 : Int32).toInt = -1 := by decide
  rw [e] at this
  omega
theorem nn_m1' {a : Nat} (ha : a < 2147483648) : (-1 = nI a) = False := by
  apply eq_false
  intro h
  exact (Eq.mp (nn_m1 ha) h.symm)
theorem nn_mz : ((-1 : Int32) < 0) = True := eq_true (by decide)
theorem nn_div {a b : Nat} (ha : a < 2147483648) (hb : b < 2147483648) : nI a / nI b = nI (a / b) := by
  apply Int32.toInt_inj.mp
  rw [Int32.toInt_div, nI_toInt ha, nI_toInt hb, nI_toInt (Nat.lt_of_le_of_lt (Nat.div_le_self a b) ha), Int.tdiv_eq_ediv_of_nonneg (by omega)]
  have h1 : ((a : Int) / (b : Int)) = ((a / b : Nat) : Int) := by simp
  have h2 : a / b ≤ a := Nat.div_le_self a b
  rw [h1]
  clear h1
  generalize a / b = q at *
  exact Int.bmod_eq_of_le (by omega) (by omega)
theorem nn_rem {a b : Nat} (ha : a < 2147483648) (hb : b < 2147483648) : nI a - nI a / nI b * nI b = nI (a % b) := by
  rw [nn_div ha hb, nn_mul, nn_sub (Nat.div_mul_le_self a b)]
  congr 1
  have := Nat.div_add_mod a b
  rw [Nat.mul_comm] at this
  omega
theorem nn_shl {a k : Nat} (hk : k < 32) : nI a <<< (nI k &&& 31) = nI (a * 2 ^ k) := by
  apply Int32.toBitVec_inj.mp
  rw [Int32.toBitVec_shiftLeft]
  have e : ((nI k &&& 31).toBitVec.smod 32).toNat = k := s_l k hk
  show BitVec.ofNat 32 a <<< ((nI k &&& 31).toBitVec.smod 32) = _
  apply BitVec.eq_of_toNat_eq
  rw [BitVec.shiftLeft_eq', e, BitVec.toNat_shiftLeft]
  show ((a % 2 ^ 32) <<< k) % 2 ^ 32 = (a * 2 ^ k) % 2 ^ 32
  rw [Nat.shiftLeft_eq, Nat.mod_mul_mod]
theorem nn_one {k : Nat} (hk : k < 32) : (1 : Int32) <<< (nI k &&& 31) = nI (2 ^ k) := by
  have := nn_shl (a := 1) hk
  rw [Nat.one_mul] at this
  exact this
theorem nn_shr {a k : Nat} (ha : a < 2147483648) (hk : k < 32) : nI a >>> (nI k &&& 31) = nI (a / 2 ^ k) := by
  apply Int32.toInt_inj.mp
  have e : ((nI k &&& 31).toBitVec.smod 32).toNat = k := s_l k hk
  have h : (nI a >>> (nI k &&& 31)).toInt = (nI a).toInt >>> k := by
    show ((nI a).toBitVec.sshiftRight' ((nI k &&& 31).toBitVec.smod 32)).toInt = _
    rw [BitVec.sshiftRight', e, BitVec.toInt_sshiftRight]
    rfl
  have h2 : a / 2 ^ k ≤ a := Nat.div_le_self a _
  rw [h, nI_toInt ha, nI_toInt (by omega), Int.shiftRight_eq_div_pow]
  simp
theorem nn_bit {a k : Nat} (ha : a < 2147483648) (hk : k < 32) : nI a >>> (nI k &&& 31) &&& 1 = nI (if a.testBit k then 1 else 0) := by
  rw [nn_shr ha hk, show (1 : Int32) = nI (2 ^ 1 - 1) from rfl, fa_mask]
  congr 1
  rw [Nat.testBit_eq_decide_div_mod_eq]
  simp only [decide_eq_true_eq]
  split <;> omega
theorem nn_xor (a b : Nat) : nI a ^^^ nI b = nI (a ^^^ b) := fb_xorI a b
