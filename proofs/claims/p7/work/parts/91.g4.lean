/-! the model's meaning: single sites -/
theorem leads_tot {s a w l z : Int32} (hw : w ≠ 0) : ∃ y, f_X12_leads s a w l z = some y := by
  have x : xdz w = some () := by unfold xdz; rw [if_neg hw]
  unfold f_X12_leads
  rw [x, Option.bind_some, Option.bind_some]
  split
  · split
    · split
      · exact ⟨_, rfl⟩
      · split
        · exact ⟨_, rfl⟩
        · exact ⟨_, rfl⟩
    · exact ⟨_, rfl⟩
  · split
    · split
      · exact ⟨_, rfl⟩
      · split
        · exact ⟨_, rfl⟩
        · exact ⟨_, rfl⟩
    · exact ⟨_, rfl⟩
noncomputable def ldB (w l rA rL s a : Nat) : Bool := match f_X12_leads (nI s) (nI a) (nI w) (nI l) (nI (if a = 0 then rA else rL)) with
  | some y => !decide (0 ≤ y)
  | none => false
def alT (b : Nat → Int32) (m k : Nat) : Nat := if tKd b m (k + 2) = 7 then 1 else 0
noncomputable def btB (b : Nat → Int32) (m w l rA rL k : Nat) : Bool := decide (w * l ≤ tNu b m (k + 1)) || (decide (tKd b m k = 10) && ldB w l rA rL (tNu b m (k + 1)) (alT b m k))
section ONE
variable {τ : XS} {J0 J : Nat → Nat → Int32} {b : Nat → Int32} {m T w l rA rL : Nat} {W : Nat → Nat → Prop}
theorem btB_ok {r : Nat} (hg : ((w, l, r) : GD) ∈ gAll) (h1 : rA = r % 2) (h2 : rL = r / 2) (k : Nat) : btB b m w l rA rL k = badS b m w l r k := by
  have hwl : w * l ≤ 16 := (gAll_b _ hg).2.2.1
  unfold btB badS
  by_cases hb : w * l ≤ tNu b m (k + 1)
  · rw [decide_eq_true hb, Bool.true_or, Bool.true_or]
  · rw [decide_eq_false hb, Bool.false_or, Bool.false_or]
    by_cases hk : tKd b m k = 10
    · rw [decide_eq_true hk, Bool.true_and, Bool.true_and]
      have a2 : alT b m k < 2 := by unfold alT; split <;> omega
      have lo := leads_ok (w, l, r) hg (alT b m k) a2 (tNu b m (k + 1)) (by omega) (show tNu b m (k + 1) < w * l by omega)
      have lo : f_X12_leads (nI (tNu b m (k + 1))) (nI (alT b m k)) (nI w) (nI l) (nI (if alT b m k = 0 then rA else rL)) = some (oI (gTo (w, l, r) (tNu b m (k + 1) + 16 * alT b m k))) := by rw [h1, h2]; exact lo
      have et : tNu b m (k + 1) + 16 * alT b m k = tpl b m k := by
        unfold alT tpl
        split <;> omega
      unfold ldB
      rw [lo, et]
      have t32 : tpl b m k < 32 := by unfold tpl; split <;> omega
      show (!decide (0 ≤ oI (gTo (w, l, r) (tpl b m k)))) = _
      cases hgt : gTo (w, l, r) (tpl b m k) with
      | none => rfl
      | some e =>
        have e16 := (gTo_b (w, l, r) hg _ t32 e hgt).2.1
        have e16' : e < 16 := Nat.lt_of_lt_of_le e16 hwl
        have q : ((0 : Int32) ≤ nI e) = (0 ≤ e) := nn_le (a := 0) (by decide) (by omega)
        show (!decide ((0 : Int32) ≤ nI e)) = false
        rw [decide_eq_true (by rw [q]; omega)]
        rfl
    · rw [decide_eq_false hk, Bool.false_and, Bool.false_and]
/-- the J that a line's end may spoil -/
def jfL (b : Nat → Int32) (m k c j : Nat) : Prop := (tKd b m k = 10 ∧ 3 < tNu b m (jnT b m (k + 3)) ∧ c = 3 ∧ j = jnT b m (k + 3)) ∨ (tKd b m k = 11 ∧ 3 < tNu b m (jnT b m (k + 2)) ∧ c = 3 ∧ j = jnT b m (k + 2))
def posT (b : Nat → Int32) (m k : Nat) : Nat := if tKd b m k = 10 then tpl b m k else if tKd b m k = 11 then 32 + tNu b m (k + 1) else 48 + tNu b m (k + 1)
def valT (b : Nat → Int32) (m k : Nat) : Int32 := if tKd b m k = 10 then iI (jvT b m (k + 3)) else if tKd b m k = 11 then iI (jvT b m (k + 2)) else if tKd b m (k + 2) = 13 then 1 else 2
theorem one145 (hS : Shp τ) (hB : MB J0 b m T) (hF : MF J0 J) (hW : MW J b m W) {k : Nat} (hkT : k < T) (hL : LN3 b m k ∨ LN4 b m k ∨ LN5 b m k) (hend : lnE b m k + 1 ≤ T) {is : Nat} (his : is < 2) (hs : is = 1 → tNu b m (k + 1) < 16) :
    ∃ J', f_X12_meansOne_j145 (xw τ J) 183 (nI k) (nI (kmN (tKd b m k))) (nI (tNu b m (k + 1))) (nI is) (nI (alT b m k)) = some (xw τ J') ∧ MW J' b m (fun c j => W c j ∨ jfL b m k c j) ∧ (∀ a q, a ≠ 192 → ¬ (a = 183 ∧ (q = 14 ∨ q = 15)) → J' a q = J a q) ∧ ∀ q, J' 192 q = if is = 1 ∧ q = posT b m k then valT b m k else J 192 q := by
  have hT := hB.1.2.1
  have hV : ∀ x, tKd b m (k + 1) = 2 → x = tNu b m (k + 1) → x < 10000 := fun x h e => by rw [e]; exact tNu_b h
  have q27 : (nI (kmN (tKd b m k)) = (27 : Int32)) = (tKd b m k = 12) := by
    have := KMr_eq (k := tKd b m k) (k' := 12) (x := nI (kmN (tKd b m k))) (.inr ⟨by rcases hL with h | h | h <;> have := h.1 <;> omega, rfl⟩) (tKd_b k) (by omega) (by omega)
    exact this
  have q25 : (nI (kmN (tKd b m k)) = (25 : Int32)) = (tKd b m k = 10) := by
    have := KMr_eq (k := tKd b m k) (k' := 10) (x := nI (kmN (tKd b m k))) (.inr ⟨by rcases hL with h | h | h <;> have := h.1 <;> omega, rfl⟩) (tKd_b k) (by omega) (by omega)
    exact this
  have q26 : (nI (kmN (tKd b m k)) = (26 : Int32)) = (tKd b m k = 11) := by
    have := KMr_eq (k := tKd b m k) (k' := 11) (x := nI (kmN (tKd b m k))) (.inr ⟨by rcases hL with h | h | h <;> have := h.1 <;> omega, rfl⟩) (tKd_b k) (by omega) (by omega)
    exact this
  have qis : (nI is = (0 : Int32)) = (is = 0) := nn_eq (b := 0) (by omega) (by decide)
  have qal : (nI (alT b m k) = (0 : Int32)) = (alT b m k = 0) := nn_eq (b := 0) (by unfold alT; split <;> omega) (by decide)
  -- the J and what it is laid to
  have j200 : ∀ t, isJt b m t → t + jlT b m t ≤ T → (tKd b m k = 10 ∨ tKd b m k = 11) → (∀ c j, jfL b m k c j ↔ (3 < tNu b m (jnT b m t) ∧ c = 3 ∧ j = jnT b m t)) → valT b m k = iI (jvT b m t) → ∃ J', f_X12_meansOne_j200 (xw τ J) 183 (nI (kmN (tKd b m k))) (nI (tNu b m (k + 1))) (nI is) (nI (alT b m k)) 183 (nI t) = some (xw τ J') ∧ MW J' b m (fun c j => W c j ∨ jfL b m k c j) ∧ (∀ a q, a ≠ 192 → ¬ (a = 183 ∧ (q = 14 ∨ q = 15)) → J' a q = J a q) ∧ ∀ q, J' 192 q = if is = 1 ∧ q = posT b m k then valT b m k else J 192 q := by
    intro t hJ ht hk hjf hv
    obtain ⟨J2, e2, w2, u2⟩ := jAt_ok (τ := τ) hS hB hF hW hJ ht
    have w2' : MW J2 b m (fun c j => W c j ∨ jfL b m k c j) := MW_c rfl rfl (fun c j => ⟨fun z => z.elim .inl (fun y => .inr ((hjf c j).mp y)), fun z => z.elim .inl (fun y => .inr ((hjf c j).mpr y))⟩) w2
    unfold f_X12_meansOne_j200
    rw [xw_ck, kC183 hS, Option.bind_some, e2, Option.bind_some]
    dsimp only
    simp only [qis]
    rcases (show is = 0 ∨ is = 1 by omega) with z | z
    · rw [if_pos z]
      exact ⟨J2, rfl, w2', fun a q h1 h2 => u2 a q h2, fun q => by rw [if_neg (by omega)]; exact u2 _ _ (by omega)⟩
    · rw [if_neg (by omega), xw_gR, kR183_26 hS, Option.bind_some]
      have s16 := hs z
      have fin : ∀ p, p = posT b m k → p < 66 → ∃ J', ((xsI (xw τ J2) 20 192 (nI p) (iI (jvT b m t))).bind fun σ8 => some σ8) = some (xw τ J') ∧ MW J' b m (fun c j => W c j ∨ jfL b m k c j) ∧ (∀ a q, a ≠ 192 → ¬ (a = 183 ∧ (q = 14 ∨ q = 15)) → J' a q = J a q) ∧ ∀ q, J' 192 q = if is = 1 ∧ q = posT b m k then valT b m k else J 192 q := by
        intro p hp p66
        refine ⟨xup J2 192 p (iI (jvT b m t)), by rw [kS192 hS p66, Option.bind_some], MW_c (by rw [xup_at, if_neg (by omega)]) (by rw [xup_at, if_neg (by omega)]) (fun _ _ => Iff.rfl) w2', fun a q h1 h2 => by rw [xup_at, if_neg (by omega)]; exact u2 a q h2, fun q => ?_⟩
        rw [xup_at]
        by_cases y : q = p
        · rw [if_pos ⟨rfl, y⟩, if_pos ⟨z, by rw [← hp]; exact y⟩, hv]
        · rw [if_neg (by omega), if_neg (fun x => y (by rw [hp]; exact x.2))]; exact u2 _ _ (by omega)
      simp only [q26, qal]
      rcases hk with y | y
      · rw [if_neg (by omega)]
        by_cases a0 : alT b m k = 0
        · have n7 : ¬ tKd b m (k + 2) = 7 := fun x => by unfold alT at a0; rw [if_pos x] at a0; omega
          rw [if_pos a0, show (0 : Int32) = nI 0 from rfl, nn_add, Nat.zero_add]
          exact fin _ (by unfold posT tpl; rw [if_pos y, if_neg n7]) (by omega)
        · have y7 : tKd b m (k + 2) = 7 := by
            apply Classical.byContradiction
            intro x
            unfold alT at a0
            rw [if_neg x] at a0
            exact a0 rfl
          rw [if_neg a0, show (16 : Int32) = nI 16 from rfl, nn_add]
          exact fin _ (by unfold posT tpl; rw [if_pos y, if_pos y7]) (by omega)
      · rw [if_pos y, show (32 : Int32) = nI 32 from rfl, nn_add]
        exact fin _ (by unfold posT; rw [if_neg (by omega), if_pos y]) (by omega)
  unfold f_X12_meansOne_j145
  simp only [q27, q25]
  rcases hL with ⟨k0, k1, k2, k3⟩ | ⟨k0, k1, k3⟩ | ⟨k0, k1, k2⟩
  · rw [if_neg (by omega), if_pos k0, show (3 : Int32) = nI 3 from rfl, nn_add]
    refine j200 (k + 3) k3 ?_ (.inl k0) (fun c j => ?_) ?_
    · unfold lnE at hend; rw [if_neg (by omega), if_pos k0] at hend; omega
    · unfold jfL
      constructor
      · rintro (z | z)
        · exact z.2
        · omega
      · intro z; exact .inl ⟨k0, z⟩
    · unfold valT; rw [if_pos k0]
  · rw [if_neg (by omega), if_neg (by omega), show (2 : Int32) = nI 2 from rfl, nn_add]
    refine j200 (k + 2) k3 ?_ (.inr k0) (fun c j => ?_) ?_
    · unfold lnE at hend; rw [if_neg (by omega), if_neg (by omega), if_pos k0] at hend; omega
    · unfold jfL
      constructor
      · rintro (z | z)
        · omega
        · exact z.2
      · intro z; exact .inr ⟨k0, z⟩
    · unfold valT; rw [if_neg (by omega), if_pos k0]
  · have hE : lnE b m k = k + 3 := by unfold lnE; rw [if_neg (by omega), if_neg (by omega), if_neg (by omega), if_pos k0]
    have wj : MW J b m (fun c j => W c j ∨ jfL b m k c j) := MW_c rfl rfl (fun c j => ⟨fun z => z.elim id (fun y => by unfold jfL at y; omega), .inl⟩) hW
    rw [if_pos k0]
    simp only [qis]
    rcases (show is = 0 ∨ is = 1 by omega) with z | z
    · rw [if_pos z]
      exact ⟨J, rfl, wj, fun _ _ _ _ => rfl, fun q => by rw [if_neg (by omega)]⟩
    · have s16 := hs z
      have q28 : (J 186 (k + 2) = (28 : Int32)) = (tKd b m (k + 2) = 13) := mKe (k' := 13) hB hF (by omega) (by omega) (by omega)
      have k403 : k + 2 < 403 := by omega
      rw [if_neg (by omega), xw_gR, kR183_26 hS, Option.bind_some, xw_gR, kR183_5 hS, Option.bind_some, show (2 : Int32) = nI 2 from rfl, nn_add, kA186 hS k403, Option.bind_some, show (48 : Int32) = nI 48 from rfl, nn_add]
      simp only [q28]
      obtain ⟨p, hp⟩ : ∃ p, p = 48 + tNu b m (k + 1) := ⟨_, rfl⟩
      have p66 : p < 66 := by omega
      have fin : ∀ v : Int32, v = valT b m k → ∃ J', ((xsI (xw τ J) 20 192 (nI (48 + tNu b m (k + 1))) v).bind fun σ8 => some σ8) = some (xw τ J') ∧ MW J' b m (fun c j => W c j ∨ jfL b m k c j) ∧ (∀ a q, a ≠ 192 → ¬ (a = 183 ∧ (q = 14 ∨ q = 15)) → J' a q = J a q) ∧ ∀ q, J' 192 q = if is = 1 ∧ q = posT b m k then valT b m k else J 192 q := by
        intro v hv
        have ep : posT b m k = p := by unfold posT; rw [if_neg (by omega), if_neg (by omega), hp]
        rw [← hp, ep]
        refine ⟨xup J 192 p v, by rw [kS192 hS p66, Option.bind_some], MW_c (by rw [xup_at, if_neg (by omega)]) (by rw [xup_at, if_neg (by omega)]) (fun _ _ => Iff.rfl) wj, fun a q h1 h2 => by rw [xup_at, if_neg (by omega)], fun q => ?_⟩
        rw [xup_at]
        by_cases y : q = p
        · rw [if_pos ⟨rfl, y⟩, if_pos ⟨z, y⟩, hv]
        · rw [if_neg (by omega), if_neg (fun x => y x.2)]
      by_cases y : tKd b m (k + 2) = 13
      · rw [if_pos y]
        exact fin 1 (by unfold valT; rw [if_neg (by omega), if_neg (by omega), if_pos y])
      · rw [if_neg y]
        exact fin (nI 2) (by unfold valT; rw [if_neg (by omega), if_neg (by omega), if_neg y]; rfl)
theorem meansOne_ok (hS : Shp τ) (hB : MB J0 b m T) (hF : MF J0 J) (hW : MW J b m W) {k : Nat} (hk4 : 4 ≤ k) (hkT : k ≤ T) (hl : lsB b m k = true) (h22 : J 183 22 = nI w) (h23 : J 183 23 = nI l) (h24 : J 183 24 = nI rA) (h25 : J 183 25 = nI rL) (hw : w < 10000) (hll : l < 10000) (hsz : J 183 14 = 0 → w * l ≤ 16) :
    ∃ J', f_X12_meansOne (xw τ J) 183 (nI k) = some (xw τ J') ∧ MF J0 J' ∧ MW J' b m (fun c j => W c j ∨ (¬ (tKd b m k = 6 ∨ tKd b m k = 7 ∨ tKd b m k = 8) ∧ clL b m (btB b m w l rA rL) k c j)) ∧ (∀ q, 22 ≤ q → q ≤ 25 → J' 183 q = J 183 q) ∧ (J 183 14 = 0 → ∀ q, J' 192 q = if (tKd b m k = 10 ∨ tKd b m k = 11 ∨ tKd b m k = 12) ∧ btB b m w l rA rL k = false ∧ q = posT b m k then valT b m k else J 192 q) := by
  have hT := hB.1
  have T400 := hT.2.1
  have k403 : k < 403 := by omega
  have q25 : (J 186 k = (25 : Int32)) = (tKd b m k = 10) := mKe (k' := 10) hB hF hkT (by omega) (by omega)
  have q26 : (J 186 k = (26 : Int32)) = (tKd b m k = 11) := mKe (k' := 11) hB hF hkT (by omega) (by omega)
  have q27 : (J 186 k = (27 : Int32)) = (tKd b m k = 12) := mKe (k' := 12) hB hF hkT (by omega) (by omega)
  have hws := (ls_ws hT hk4 hkT).mp hl
  unfold f_X12_meansOne
  rw [xw_gR, kR183_5 hS, Option.bind_some, kA186 hS k403, Option.bind_some]
  simp only [q25, q26, q27]
  by_cases hk : tKd b m k = 10 ∨ tKd b m k = 11 ∨ tKd b m k = 12
  · have hlt : k < T := by
      rcases Nat.lt_or_ge k T with z | z
      · exact z
      · have : k = T := by omega
        rw [this, hT.2.2] at hk; omega
    obtain ⟨hline, -, -, hend, -⟩ := line_at hT hws hlt
    have hL : LN3 b m k ∨ LN4 b m k ∨ LN5 b m k := by
      rcases hline with h | h | h | h | h | h
      · have := h.1; omega
      · have := h.1; omega
      · exact .inl h
      · exact .inr (.inl h)
      · exact .inr (.inr h)
      · have := h.1; omega
    have k1 : tKd b m (k + 1) = 2 := by
      rcases hL with h | h | h
      · exact h.2.1
      · exact h.2.1
      · exact h.2.1
    have hE2 : k + 2 ≤ T := by
      have : k + 2 ≤ lnE b m k := by
        have j3 : 1 ≤ jlT b m (k + 3) := by unfold jlT; split <;> omega
        have j2 : 1 ≤ jlT b m (k + 2) := by unfold jlT; split <;> omega
        unfold lnE
        rcases hk with z | z | z
        · rw [if_neg (by omega), if_pos z]; omega
        · rw [if_neg (by omega), if_neg (by omega), if_pos z]; omega
        · rw [if_neg (by omega), if_neg (by omega), if_neg (by omega), if_pos z]; omega
      omega
    obtain ⟨s, hs⟩ : ∃ s, s = tNu b m (k + 1) := ⟨_, rfl⟩
    have s4 : s < 10000 := by rw [hs]; exact tNu_b k1
    have vs := (mK hB hF (show k + 1 ≤ T by omega)).2.2 k1
    rw [← hs] at vs
    have ekm : J 186 k = nI (kmN (tKd b m k)) := by
      rcases (mK hB hF hkT).1 with ⟨z, -⟩ | ⟨-, z⟩
      · omega
      · exact z
    have hwl : w * l < 100000000 := by
      by_cases z : w = 0
      · rw [z, Nat.zero_mul]; omega
      · have := Nat.mul_lt_mul'' hw hll
        omega
    have qw : (nI w * nI l ≤ nI s) = (w * l ≤ s) := by rw [nn_mul, nn_le (by omega) (by omega)]
    have q22 : (J 186 (k + 2) = (22 : Int32)) = (tKd b m (k + 2) = 7) := mKe (k' := 7) hB hF hE2 (by omega) (by omega)
    have step : (if tKd b m k = 10 then f_X12_meansOne_j26 (xw τ J) 183 (nI k) (J 186 k) else if tKd b m k = 11 then f_X12_meansOne_j26 (xw τ J) 183 (nI k) (J 186 k) else if tKd b m k = 12 then f_X12_meansOne_j26 (xw τ J) 183 (nI k) (J 186 k) else some (xw τ J)) = f_X12_meansOne_j26 (xw τ J) 183 (nI k) (nI (kmN (tKd b m k))) := by
      rw [ekm]
      by_cases z1 : tKd b m k = 10
      · rw [if_pos z1]
      · rw [if_neg z1]
        by_cases z2 : tKd b m k = 11
        · rw [if_pos z2]
        · rw [if_neg z2, if_pos (by omega)]
    rw [step]
    -- is it to be laid
    obtain ⟨is0, his0⟩ : ∃ is0 : Nat, is0 = if w * l ≤ s then 0 else if J 183 14 = 0 then 1 else 0 := ⟨_, rfl⟩
    have is2 : is0 < 2 := by rw [his0]; split; omega; split <;> omega
    have e80 : f_X12_meansOne_j26 (xw τ J) 183 (nI k) (nI (kmN (tKd b m k))) = f_X12_meansOne_j80 (xw τ J) 183 (nI k) (nI (kmN (tKd b m k))) (nI s) (nI is0) (nI (alT b m k)) := by
      have j60 : ∀ t0, f_X12_meansOne_j60 (xw τ J) 183 (nI k) (nI (kmN (tKd b m k))) (nI s) t0 = f_X12_meansOne_j80 (xw τ J) 183 (nI k) (nI (kmN (tKd b m k))) (nI s) t0 (nI (alT b m k)) := fun t0 => by
        unfold f_X12_meansOne_j60
        rw [xw_gR, kR183_5 hS, Option.bind_some, show (2 : Int32) = nI 2 from rfl, nn_add, kA186 hS (by omega), Option.bind_some]
        simp only [q22]
        unfold alT
        by_cases z : tKd b m (k + 2) = 7
        · rw [if_pos z, if_pos z]; rfl
        · rw [if_neg z, if_neg z]; rfl
      unfold f_X12_meansOne_j26
      rw [xw_gR, kR183_7 hS, Option.bind_some, ← nI_succ, kA188 hS (by omega), Option.bind_some, vs]
      simp only [kG183 hS, Option.bind_some, h22, h23, qw, j60]
      rw [his0]
      by_cases z1 : w * l ≤ s
      · rw [if_pos z1, if_pos z1]; rfl
      · rw [if_neg z1, if_neg z1]
        by_cases z2 : J 183 14 = 0
        · rw [if_pos z2, if_pos z2]; rfl
        · rw [if_neg z2, if_neg z2]; rfl
    rw [e80]
    have qk : (nI (kmN (tKd b m k)) = (25 : Int32)) = (tKd b m k = 10) := by rw [← ekm]; exact q25
    -- all wrong tokens of this line
    have eqW : ∀ c j, (¬ (tKd b m k = 6 ∨ tKd b m k = 7 ∨ tKd b m k = 8) ∧ clL b m (btB b m w l rA rL) k c j) ↔ ((btB b m w l rA rL k = true ∧ c = 4 ∧ j = k + 1) ∨ jfL b m k c j) := fun c j => by
      unfold clL jfL
      constructor
      · rintro ⟨-, ⟨z, -⟩ | ⟨-, z⟩ | z | z⟩
        · omega
        · exact .inl z
        · exact .inr (.inl z)
        · exact .inr (.inr z)
      · rintro (z | z | z)
        · exact ⟨by omega, .inr (.inl ⟨hk, z⟩)⟩
        · exact ⟨by omega, .inr (.inr (.inl z))⟩
        · exact ⟨by omega, .inr (.inr (.inr z))⟩
    -- a site that is wrong
    have j134 : btB b m w l rA rL k = true → ∃ J', f_X12_meansOne_j134 (xw τ J) 183 (nI k) (nI (kmN (tKd b m k))) (nI s) (nI (alT b m k)) = some (xw τ J') ∧ MF J0 J' ∧ MW J' b m (fun c j => W c j ∨ (¬ (tKd b m k = 6 ∨ tKd b m k = 7 ∨ tKd b m k = 8) ∧ clL b m (btB b m w l rA rL) k c j)) ∧ (∀ q, 22 ≤ q → q ≤ 25 → J' 183 q = J 183 q) ∧ (J 183 14 = 0 → ∀ q, J' 192 q = if (tKd b m k = 10 ∨ tKd b m k = 11 ∨ tKd b m k = 12) ∧ btB b m w l rA rL k = false ∧ q = posT b m k then valT b m k else J 192 q) := by
      intro hbt
      obtain ⟨J1, e1, w1, u1⟩ := wrong_ok (τ := τ) hS hB hF hW (c := 4) (j := k + 1) (by omega) (by omega) (by omega)
      have e1 : f_X12_wrong (xw τ J) 183 (4 : Int32) (nI (k + 1)) = some (xw τ J1) := e1
      have hF1 : MF J0 J1 := fun a q h1 h2 => by rw [u1 a q (by omega)]; exact hF a q h1 h2
      obtain ⟨J2, e2, w2, u2, v2⟩ := one145 (τ := τ) (is := 0) hS hB hF1 w1 hlt hL hend (by omega) (fun z => by omega)
      rw [← hs] at e2
      refine ⟨J2, ?_, fun a q h1 h2 => by rw [u2 a q h1 (by omega)]; exact hF1 a q h1 h2, MW_c rfl rfl (fun c j => ?_) w2, fun q h1 h2 => by rw [u2 _ _ (by omega) (by omega)]; exact u1 _ _ (by omega), fun _ q => ?_⟩
      · unfold f_X12_meansOne_j134
        rw [xw_ck, kC183 hS, Option.bind_some, ← nI_succ, e1, Option.bind_some]
        exact e2
      · rw [eqW]
        constructor
        · rintro (z | ⟨-, z⟩ | z)
          · exact .inl (.inl z)
          · exact .inl (.inr z)
          · exact .inr z
        · rintro ((z | z) | z)
          · exact .inl z
          · exact .inr (.inl ⟨hbt, z⟩)
          · exact .inr (.inr z)
      · rw [v2 q, if_neg (by omega), if_neg (fun z => by rw [hbt] at z; cases z.2.1)]
        exact u1 _ _ (by omega)
    -- a site that is right
    have j145 : btB b m w l rA rL k = false → ¬ w * l ≤ s → ∃ J', f_X12_meansOne_j145 (xw τ J) 183 (nI k) (nI (kmN (tKd b m k))) (nI s) (nI is0) (nI (alT b m k)) = some (xw τ J') ∧ MF J0 J' ∧ MW J' b m (fun c j => W c j ∨ (¬ (tKd b m k = 6 ∨ tKd b m k = 7 ∨ tKd b m k = 8) ∧ clL b m (btB b m w l rA rL) k c j)) ∧ (∀ q, 22 ≤ q → q ≤ 25 → J' 183 q = J 183 q) ∧ (J 183 14 = 0 → ∀ q, J' 192 q = if (tKd b m k = 10 ∨ tKd b m k = 11 ∨ tKd b m k = 12) ∧ btB b m w l rA rL k = false ∧ q = posT b m k then valT b m k else J 192 q) := by
      intro hbt hsw
      obtain ⟨J2, e2, w2, u2, v2⟩ := one145 (τ := τ) (is := is0) hS hB hF hW hlt hL hend is2 (fun z => by
        have z14 : J 183 14 = 0 := by
          apply Classical.byContradiction
          intro y
          rw [his0, if_neg hsw, if_neg y] at z
          cases z
        have := hsz z14
        omega)
      rw [← hs] at e2
      refine ⟨J2, e2, fun a q h1 h2 => by rw [u2 a q h1 (by omega)]; exact hF a q h1 h2, MW_c rfl rfl (fun c j => ?_) w2, fun q h1 h2 => u2 _ _ (by omega) (by omega), fun z14 q => ?_⟩
      · rw [eqW]
        constructor
        · rintro (z | ⟨z, -⟩ | z)
          · exact .inl z
          · rw [hbt] at z; cases z
          · exact .inr z
        · rintro (z | z)
          · exact .inl z
          · exact .inr (.inr z)
      · have e1 : is0 = 1 := by rw [his0, if_neg hsw, if_pos z14]
        rw [v2 q]
        by_cases y : q = posT b m k
        · rw [if_pos ⟨e1, y⟩, if_pos ⟨hk, hbt, y⟩]
        · rw [if_neg (fun x => y x.2), if_neg (fun x => y x.2.2)]
    unfold f_X12_meansOne_j80
    simp only [kG183 hS, Option.bind_some, h22, h23, h24, h25, qw, qk]
    by_cases hsw : w * l ≤ s
    · rw [if_pos hsw]
      exact j134 (by unfold btB; rw [← hs, decide_eq_true hsw, Bool.true_or])
    · rw [if_neg hsw]
      by_cases k10 : tKd b m k = 10
      · rw [if_pos k10]
        have hw0 : w ≠ 0 := fun z => by rw [z, Nat.zero_mul] at hsw; omega
        have qa : (nI (alT b m k) = (0 : Int32)) = (alT b m k = 0) := nn_eq (b := 0) (by unfold alT; split <;> omega) (by decide)
        obtain ⟨y, hy⟩ := leads_tot (s := nI s) (a := nI (alT b m k)) (w := nI w) (l := nI l) (z := nI (if alT b m k = 0 then rA else rL)) (nI_ne0 (by omega) (by omega))
        have hbt : btB b m w l rA rL k = !decide ((0 : Int32) ≤ y) := by
          unfold btB ldB
          rw [← hs, decide_eq_false hsw, Bool.false_or, decide_eq_true k10, Bool.true_and, hy]
        have j128 : ∀ z, z = nI (if alT b m k = 0 then rA else rL) → ∃ J', f_X12_meansOne_j128 (xw τ J) 183 (nI k) (nI (kmN (tKd b m k))) (nI s) (nI is0) (nI (alT b m k)) (nI s) (nI (alT b m k)) (nI w) (nI l) z = some (xw τ J') ∧ MF J0 J' ∧ MW J' b m (fun c j => W c j ∨ (¬ (tKd b m k = 6 ∨ tKd b m k = 7 ∨ tKd b m k = 8) ∧ clL b m (btB b m w l rA rL) k c j)) ∧ (∀ q, 22 ≤ q → q ≤ 25 → J' 183 q = J 183 q) ∧ (J 183 14 = 0 → ∀ q, J' 192 q = if (tKd b m k = 10 ∨ tKd b m k = 11 ∨ tKd b m k = 12) ∧ btB b m w l rA rL k = false ∧ q = posT b m k then valT b m k else J 192 q) := by
          rintro z rfl
          unfold f_X12_meansOne_j128
          rw [hy, Option.bind_some]
          by_cases y0 : (0 : Int32) ≤ y
          · rw [if_pos y0]
            exact j145 (by rw [hbt, decide_eq_true y0]; rfl) hsw
          · rw [if_neg y0]
            exact j134 (by rw [hbt, decide_eq_false y0]; rfl)
        simp only [qa]
        by_cases a0 : alT b m k = 0
        · rw [if_pos a0]
          exact j128 (nI rA) (by rw [if_pos a0])
        · rw [if_neg a0]
          exact j128 (nI rL) (by rw [if_neg a0])
      · rw [if_neg k10]
        exact j145 (by unfold btB; rw [← hs, decide_eq_false hsw, Bool.false_or, decide_eq_false k10, Bool.false_and]) hsw
  · rw [if_neg (by omega), if_neg (by omega), if_neg (by omega)]
    refine ⟨J, rfl, hF, MW_c rfl rfl (fun c j => ⟨fun z => z.elim id (fun y => ?_), .inl⟩) hW, fun _ _ _ => rfl, fun _ q => by rw [if_neg (fun z => hk z.1)]⟩
    exfalso
    obtain ⟨y1, y2⟩ := y
    unfold clL at y2
    omega
end ONE
