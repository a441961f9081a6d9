/-! setups, wherever they lie -/
def suA : List Nat := 8 :: 16 :: ((List.range 40).map (fun i => 21 + 3 * i) ++ (List.range 3).map (fun i => 143 + 5 * i))
theorem suA_k {i : Nat} (h : i < 40) : 21 + 3 * i ∈ suA := List.mem_cons_of_mem _ (List.mem_cons_of_mem _ (List.mem_append_left _ (List.mem_map.mpr ⟨i, List.mem_range.mpr h, rfl⟩)))
theorem suA_s {i : Nat} (h : i < 3) : 143 + 5 * i ∈ suA := List.mem_cons_of_mem _ (List.mem_cons_of_mem _ (List.mem_append_right _ (List.mem_map.mpr ⟨i, List.mem_range.mpr h, rfl⟩)))
theorem suA_8 : 8 ∈ suA := List.mem_cons_self
theorem suA_16 : 16 ∈ suA := List.mem_cons_of_mem _ List.mem_cons_self
theorem suK : ∀ a ∈ suA, a + 2 < 160 ∧ shK.getD a (99, 0) = (6, 0) ∧ shK.getD (a + 1) (99, 0) = (20, 32) ∧ shK.getD (a + 2) (99, 0) = (20, 16) ∧ (shR.getD a []).getD 0 0 = a + 1 ∧ (shR.getD a []).getD 1 0 = a + 2 := by decide +kernel
section SETUP
variable {σ : XS} {I : Nat → Nat → Int32} {a b : Nat}
theorem suT (h : Shp σ) (ha : a ∈ suA) : xT σ a = 6 := by
  have := suK a ha
  unfold xT
  rw [xw_K h (by omega) (by omega) (by omega), this.2.1]
theorem suK1 (h : Shp σ) (ha : a ∈ suA) : σ.1 (a + 1) = (20, 32) := by
  have := suK a ha
  rw [xw_K h (by omega) (by omega) (by omega), this.2.2.1]
theorem suK2 (h : Shp σ) (ha : a ∈ suA) : σ.1 (a + 2) = (20, 16) := by
  have := suK a ha
  rw [xw_K h (by omega) (by omega) (by omega), this.2.2.2.1]
theorem suC (h : Shp σ) (ha : a ∈ suA) : xck σ a 6 = some () := xck_ok (suT h ha)
theorem suG (h : Shp σ) (ha : a ∈ suA) {j : Nat} : xgI (xw σ I) a 6 j = some (I a j) := xw_gI (suT h ha)
theorem suP (h : Shp σ) (ha : a ∈ suA) {j : Nat} {v : Int32} : xpI (xw σ I) a 6 j v = some (xw σ (xup I a j v)) := xw_pI (suT h ha)
theorem suR0 (h : Shp σ) (ha : a ∈ suA) : xgR σ a 6 0 = some (a + 1) := by
  have := suK a ha
  refine xgR_to (suT h ha) ?_ (by omega)
  rw [h.2.2 a (by omega) 0 (by omega), this.2.2.2.2.1]
theorem suR1 (h : Shp σ) (ha : a ∈ suA) : xgR σ a 6 1 = some (a + 2) := by
  have := suK a ha
  refine xgR_to (suT h ha) ?_ (by omega)
  rw [h.2.2 a (by omega) 1 (by omega), this.2.2.2.2.2]
theorem suL1 (h : Shp σ) (ha : a ∈ suA) : xal σ (a + 1) = some (nI 32) := by
  rw [xal_ok (by unfold xT; rw [suK1 h ha]; decide)]
  unfold xlen
  rw [suK1 h ha]
theorem suL2 (h : Shp σ) (ha : a ∈ suA) : xal σ (a + 2) = some (nI 16) := by
  rw [xal_ok (by unfold xT; rw [suK2 h ha]; decide)]
  unfold xlen
  rw [suK2 h ha]
theorem suA1 (h : Shp σ) (ha : a ∈ suA) {i : Nat} (hi : i < 32) : xaI (xw σ I) 20 (a + 1) (nI i) = some (I (a + 1) i) := xw_aI (suK1 h ha) hi (by decide)
theorem suA2 (h : Shp σ) (ha : a ∈ suA) {i : Nat} (hi : i < 16) : xaI (xw σ I) 20 (a + 2) (nI i) = some (I (a + 2) i) := xw_aI (suK2 h ha) hi (by decide)
theorem suS1 (h : Shp σ) (ha : a ∈ suA) {i : Nat} {v : Int32} (hi : i < 32) : xsI (xw σ I) 20 (a + 1) (nI i) v = some (xw σ (xup I (a + 1) i v)) := xw_sI (suK1 h ha) hi (by decide)
theorem suS2 (h : Shp σ) (ha : a ∈ suA) {i : Nat} {v : Int32} (hi : i < 16) : xsI (xw σ I) 20 (a + 2) (nI i) v = some (xw σ (xup I (a + 2) i v)) := xw_sI (suK2 h ha) hi (by decide)
/-- one setup copied into another -/
def cpI (I : Nat → Nat → Int32) (a b : Nat) : Nat → Nat → Int32 := fun c k => if c = a + 1 ∧ k < 32 then I (b + 1) k else if c = a + 2 ∧ k < 16 then I (b + 2) k else if c = a ∧ 2 ≤ k ∧ k ≤ 7 then I b k else I c k
theorem xw_cp {q m n k : Nat} (h1 : σ.1 a = (20, m)) (h2 : σ.1 b = (20, n)) (hm : k ≤ m) (hn : k ≤ n) (hk : k < 2147483648) : xcp (xw σ I) a (0 : Int32) b (0 : Int32) (nI k) = some (xw σ (xur I b (fun j => if j < k then I a j else I b j))) := by
  unfold xcp
  have e0 : ((0 : Int32)).toNatClampNeg = 0 := rfl
  have ek : (nI k).toNatClampNeg = k := nI_clamp hk
  rw [e0, ek, if_pos ⟨congrArg Prod.fst h1, congrArg Prod.fst h2, by decide, by decide, nI_pos hk, by rw [show xlen (xw σ I) a = m from congrArg Prod.snd h1]; omega, by rw [show xlen (xw σ I) b = n from congrArg Prod.snd h2]; omega⟩]
  congr 1
  show xw σ _ = _
  congr 1
  unfold xur
  funext c j
  by_cases hc : c = b
  · rw [if_pos hc, if_pos hc]
    unfold va_cpy
    by_cases hj : j < k
    · rw [if_pos ⟨Nat.zero_le _, by omega⟩]
      simp [xw_I, hj]
    · rw [if_neg (by omega)]
      simp [xw_I, hj]
  · rw [if_neg hc, if_neg hc]
    rfl
theorem cp_ok (h : Shp σ) (ha : a ∈ suA) (hb : b ∈ suA) (hab : a ≠ b) (h1 : b ≠ a + 1) (h2 : b ≠ a + 2) (h3 : a ≠ b + 1) (h4 : a ≠ b + 2) : f_X6_copyFrom (xw σ I) a b = some (xw σ (cpI I a b)) := by
  unfold f_X6_copyFrom
  simp only [xw_gR, suR0 h hb, suR0 h ha, suR1 h hb, suR1 h ha, Option.bind_some, xw_cp (q := 0) (suK1 h hb) (suK1 h ha) (Nat.le_refl 32) (Nat.le_refl 32) (by decide), show (32 : Int32) = nI 32 from rfl, show (16 : Int32) = nI 16 from rfl, xw_cp (q := 0) (suK2 h hb) (suK2 h ha) (Nat.le_refl 16) (Nat.le_refl 16) (by decide), suG h ha, suG h hb, suP h ha]
  congr 2
  funext c k
  have h5 : ¬ (b + 1 = a) := fun q => h3 q.symm
  have h6 : ¬ (b + 2 = a) := fun q => h4 q.symm
  have h7 : ¬ (b = a) := fun q => hab q.symm
  have h8 : ¬ (b + 2 = a + 1) := by omega
  simp only [xup_at, xur_at, cpI, h1, h2, h5, h6, h7, h8, if_false, false_and]
  by_cases c1 : c = a + 1
  · subst c1; simp
  by_cases c2 : c = a + 2
  · subst c2; simp
  by_cases c3 : c = a
  · subst c3; simp only [true_and, Nat.left_eq_add, if_false, reduceCtorEq, c1, c2, false_and]
    grind (splits := 20)
  · simp [c1, c2, c3]
end SETUP
