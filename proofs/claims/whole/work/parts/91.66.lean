/-! the tape: feed, back, place -/
theorem xforE {α β : Type} {f : α → Option (α ⊕ β)} {a0 : α} (s : Nat → α) (N : Nat) {b : β} (h0 : a0 = s 0) (hs : ∀ k, k < N → f (s k) = some (.inl (s (k + 1)))) (he : f (s N) = some (.inr b)) : xloop f a0 = some b := by
  rw [h0]
  exact xfor s N hs he
def bW (x : Int32) (j : Nat) : Int32 := vp_nar .byte ((x >>> (iI (24 - 8 * (j : Int)) &&& 31)).toInt8.toInt32)
theorem bW_b (x : Int32) (j : Nat) : -128 ≤ (bW x j).toInt ∧ (bW x j).toInt < 128 := by
  unfold bW vp_nar
  exact fb_byte_rng _
def fdI (I : Nat → Nat → Int32) (a b f m : Nat) (w : Nat → Int32) (n : Nat) : Nat → Nat → Int32 := fun c k => if c = a ∧ m ≤ k ∧ k < m + n then w (k - m) else if c = b ∧ k = f then nI (m + n) else I c k
theorem fdI_0 {I : Nat → Nat → Int32} {a b f m : Nat} {w : Nat → Int32} (h : I b f = nI m) : fdI I a b f m w 0 = I := by
  funext c k
  unfold fdI
  rw [if_neg (by omega)]
  split
  · next q => rw [q.1, q.2, h, Nat.add_zero]
  · rfl
theorem fdI_s {I : Nat → Nat → Int32} {a b f m n : Nat} {w : Nat → Int32} (hab : a ≠ b) : xup (xup (fdI I a b f m w n) a (m + n) (w n)) b f (nI (m + n + 1)) = fdI I a b f m w (n + 1) := by
  funext c k
  simp only [xup_at, fdI]
  by_cases h1 : c = b
  · subst h1
    have h2 : ¬ c = a := fun q => hab q.symm
    by_cases h3 : k = f
    · simp [h2, h3, Nat.add_assoc]
    · simp [h2, h3]
  · by_cases h2 : c = a
    · subst h2
      by_cases h3 : k = m + n
      · subst h3; simp [h1]
      · by_cases h4 : m ≤ k ∧ k < m + n
        · have : m ≤ k ∧ k < m + (n + 1) := by omega
          simp [h1, h3, h4, this]
        · have : ¬ (m ≤ k ∧ k < m + (n + 1)) := by omega
          simp [h1, h3, h4, this]
    · simp [h1, h2]
section TAPE
variable {σ : XS} {I : Nat → Nat → Int32} {m : Nat}
theorem addWord_ok (hS : Shp σ) (hI : I 2 4 = nI m) (hm : m + 4 ≤ 2000) (x : Int32) : f_X8_addWord (xw σ I) 2 x = some (xw σ (fdI I 3 2 4 m (bW x) 4)) := by
  unfold f_X8_addWord
  refine xforE (fun j : Nat => (iI (24 - 8 * (j : Int)), xw σ (fdI I 3 2 4 m (bW x) j))) 4 (by simp only [fdI_0 hI]; rfl) (fun j hj => ?_) ?_
  · simp only [f_X8_addWord_b3]
    have e1 : ¬ iI (24 - 8 * (j : Int)) < 0 := by
      rw [show (0 : Int32) = iI 0 from rfl, iI_lt (by omega) (by omega) (by omega) (by omega)]; omega
    have e2 : fdI I 3 2 4 m (bW x) j 2 4 = nI (m + j) := by simp [fdI]
    rw [if_neg e1]
    hx [e2]
    rw [if_neg (nI_pos (by omega)), if_neg (by rw [nn_le (by omega) (by omega)]; omega)]
    have e3 : iI (24 - 8 * (j : Int)) + (-8 : Int32) = iI (24 - 8 * ((j + 1 : Nat) : Int)) := by
      rw [show (-8 : Int32) = iI (-8) from rfl, iI_add]; congr 1; omega
    rw [e3, show (1 : Int32) = nI 1 from rfl, nn_add]
    show some (Sum.inl (_, xw σ (xup (xup (fdI I 3 2 4 m (bW x) j) 3 (m + j) (bW x j)) 2 4 (nI (m + j + 1))))) = _
    rw [fdI_s (by decide)]
  · simp only [f_X8_addWord_b3]
    rw [if_pos (by decide)]
    rfl
theorem lays_ok (hS : Shp σ) (hI : I 183 2 = nI m) (hm : m + 4 ≤ 2000) (x : Int32) : f_X12_lays (xw σ I) 183 x = some (xw σ (fdI I 184 183 2 m (bW x) 4)) := by
  unfold f_X12_lays
  refine xforE (fun j : Nat => (iI (24 - 8 * (j : Int)), xw σ (fdI I 184 183 2 m (bW x) j))) 4 (by simp only [fdI_0 hI]; rfl) (fun j hj => ?_) ?_
  · simp only [f_X12_lays_b3]
    have e1 : ¬ iI (24 - 8 * (j : Int)) < 0 := by
      rw [show (0 : Int32) = iI 0 from rfl, iI_lt (by omega) (by omega) (by omega) (by omega)]; omega
    have e2 : fdI I 184 183 2 m (bW x) j 183 2 = nI (m + j) := by simp [fdI]
    rw [if_neg e1]
    hx [e2]
    have e3 : iI (24 - 8 * (j : Int)) + (-8 : Int32) = iI (24 - 8 * ((j + 1 : Nat) : Int)) := by
      rw [show (-8 : Int32) = iI (-8) from rfl, iI_add]; congr 1; omega
    rw [e3, show (1 : Int32) = nI 1 from rfl, nn_add]
    show some (Sum.inl (_, xw σ (xup (xup (fdI I 184 183 2 m (bW x) j) 184 (m + j) (bW x j)) 183 2 (nI (m + j + 1))))) = _
    rw [fdI_s (by decide)]
  · simp only [f_X12_lays_b3]
    rw [if_pos (by decide)]
    rfl
end TAPE

theorem fdI_j {I : Nat → Nat → Int32} {a b f m n k : Nat} {w v : Nat → Int32} (hab : a ≠ b) : fdI (fdI I a b f m w n) a b f (m + n) v k = fdI I a b f m (fun j => if j < n then w j else v (j - n)) (n + k) := by
  funext c j
  unfold fdI
  by_cases h1 : c = b
  · subst h1
    have h2 : ¬ c = a := fun q => hab q.symm
    simp [h2, Nat.add_assoc]
    by_cases h3 : j = f
    · simp [h3]
    · simp [h3]
  · by_cases h2 : c = a
    · subst h2
      simp only [true_and, h1, false_and, if_false]
      by_cases q1 : m ≤ j ∧ j < m + n
      · have q2 : ¬ (m + n ≤ j ∧ j < m + n + k) := by omega
        have q3 : m ≤ j ∧ j < m + (n + k) := by omega
        have q4 : j - m < n := by omega
        rw [if_neg q2, if_pos q1, if_pos q3, if_pos q4]
      · by_cases q2 : m + n ≤ j ∧ j < m + n + k
        · have q3 : m ≤ j ∧ j < m + (n + k) := by omega
          have q4 : ¬ j - m < n := by omega
          rw [if_pos q2, if_pos q3, if_neg q4]
          congr 1; omega
        · have q3 : ¬ (m ≤ j ∧ j < m + (n + k)) := by omega
          rw [if_neg q2, if_neg q1, if_neg q3]
    · simp [h1, h2]
theorem feed_in {I : Nat → Nat → Int32} {a b f m n : Nat} {w : Nat → Int32} (hab : a ≠ b) : fdI I a b f m w n b f = nI (m + n) := by
  unfold fdI
  rw [if_neg (fun q => hab q.1.symm), if_pos ⟨rfl, rfl⟩]
/-- the five words' bytes -/
def fW (a b c d e : Int32) : Nat → Int32 := fun j => if j < 16 then (if j < 12 then (if j < 8 then (if j < 4 then bW a j else bW b (j - 4)) else bW c (j - 8)) else bW d (j - 12)) else bW e (j - 16)
theorem feed11 {σ : XS} {I : Nat → Nat → Int32} {m : Nat} (hS : Shp σ) (hI : I 2 4 = nI m) (hm : m + 20 ≤ 2000) (a b c d e : Int32) : f_X11_feed (xw σ I) 1 a b c d e = some (nI (m + 20), xw σ (fdI I 3 2 4 m (fW a b c d e) 20)) := by
  unfold f_X11_feed
  hx [hI]
  rw [if_pos (by rw [show (20 : Int32) = nI 20 from rfl, nn_add, show (2000 : Int32) = nI 2000 from rfl, nn_le (by omega) (by omega)]; exact hm)]
  rw [addWord_ok hS hI (by omega)]
  hx []
  rw [addWord_ok (m := m + 4) hS (feed_in (by decide)) (by omega), fdI_j (by decide)]
  hx []
  rw [addWord_ok (m := m + 8) hS (feed_in (by decide)) (by omega), fdI_j (n := 8) (by decide)]
  hx []
  rw [addWord_ok (m := m + 12) hS (feed_in (by decide)) (by omega), fdI_j (n := 12) (by decide)]
  hx []
  rw [addWord_ok (m := m + 16) hS (feed_in (by decide)) (by omega), fdI_j (n := 16) (by decide)]
  hx []
  rw [feed_in (by decide)]
  rfl
theorem feed12 {σ : XS} {I : Nat → Nat → Int32} {m : Nat} (hS : Shp σ) (hI : I 183 2 = nI m) (hm : m + 20 ≤ 2000) (a b c d e : Int32) : f_X12_feed (xw σ I) 183 a b c d e = some (nI (m + 20), xw σ (fdI I 184 183 2 m (fW a b c d e) 20)) := by
  unfold f_X12_feed
  hx [hI]
  rw [if_pos (by rw [show (20 : Int32) = nI 20 from rfl, nn_add, show (2000 : Int32) = nI 2000 from rfl, nn_le (by omega) (by omega)]; exact hm)]
  rw [lays_ok hS hI (by omega)]
  hx []
  rw [lays_ok (m := m + 4) hS (feed_in (by decide)) (by omega), fdI_j (by decide)]
  hx []
  rw [lays_ok (m := m + 8) hS (feed_in (by decide)) (by omega), fdI_j (n := 8) (by decide)]
  hx []
  rw [lays_ok (m := m + 12) hS (feed_in (by decide)) (by omega), fdI_j (n := 12) (by decide)]
  hx []
  rw [lays_ok (m := m + 16) hS (feed_in (by decide)) (by omega), fdI_j (n := 16) (by decide)]
  hx []
  rw [feed_in (by decide)]
  rfl
theorem fW_b (a b c d e : Int32) (j : Nat) : -128 ≤ (fW a b c d e j).toInt ∧ (fW a b c d e j).toInt < 128 := by
  unfold fW
  split
  · split
    · split
      · split
        · exact bW_b _ _
        · exact bW_b _ _
      · exact bW_b _ _
    · exact bW_b _ _
  · exact bW_b _ _
/-- a change of the tape alone -/
theorem IV.tape {n : Nat} {σ : XS} {g : GD} {gT gP : GH} {st : Nat} (H : IV n σ g gT gP st) {I' : Nat → Nat → Int32} (h : ∀ a k, ¬ sTAP a k → I' a k = xI σ a k) (hT : TAP I') : IV (n + 1) (xw σ I') g gT gP st := by
  have hg := H.grd.1
  have hc : xR σ 157 2 = 160 ∨ 206 < xR σ 157 2 := by
    obtain ⟨_, _, _, _, _, _, q, _⟩ := H.cel
    exact q
  exact ⟨H.shp, Nat.le_succ_of_le H.stn, (h 1 15 (by unfold sTAP; omega)).trans H.sts, hT, by
      show I' 1 14 = I' 183 16
      rw [h _ _ (by unfold sTAP; omega), h _ _ (by unfold sTAP; omega)]; exact H.plc,
    GRD_c (fun a k q => h _ _ (by unfold sGRD at q; unfold sTAP; omega)) H.grd,
    NOW_c hg (fun a k q => h _ _ (by unfold sNOW at q; unfold sTAP; omega)) H.now,
    PST_c hg (fun a k q => h _ _ (by unfold sPST at q; unfold sTAP; omega)) (Nat.le_refl _) (fun _ _ => rfl) (fun _ _ => rfl) H.pst,
    SLT_c hg (fun a k q => h _ _ (by unfold sSLT at q; unfold sTAP; omega)) (Nat.le_refl _) (fun _ _ => rfl) (fun _ _ => rfl) H.slt,
    CCH_c (fun a k q => h _ _ (by unfold sCCH at q; rw [xw_R] at q; unfold sTAP; omega)) (Nat.le_refl _) (fun _ _ => rfl) (fun _ _ => rfl) H.cch,
    KNW_c hg (fun a k q => h _ _ (by unfold sKNW at q; unfold sTAP; omega)) H.knw, H.cel⟩
theorem IV.nop {n : Nat} {σ : XS} {g : GD} {gT gP : GH} {st : Nat} (H : IV n σ g gT gP st) : IV (n + 1) σ g gT gP st := ⟨H.shp, Nat.le_succ_of_le H.stn, H.sts, H.tap, H.plc, H.grd, H.now, H.pst, H.slt, H.cch, H.knw, H.cel⟩
theorem INV_nop : ∀ n σ, INV n σ → INV (n + 1) σ := fun n σ ⟨g, gT, gP, st, H⟩ => ⟨g, gT, gP, st, H.nop⟩
theorem op_place : Op_place INV := by
  intro n σ hn ⟨g, gT, gP, st, H⟩ _
  refine ⟨xI σ 1 14, ?_, ?_, g, gT, gP, st, H.nop⟩
  · unfold f_X11_place; rw [xgI_ok (sT1 H.shp)]; rfl
  · unfold f_X12_place; rw [xgI_ok (sT183 H.shp), ← H.plc]; rfl
theorem op_back : Op_back INV := by
  intro n σ hn ⟨g, gT, gP, st, H⟩ x
  obtain ⟨m, hm, h1, h2, h3⟩ := H.tap
  have hS := H.shp
  by_cases hx0 : x < 0
  · refine ⟨-1, σ, σ, ?_, ?_, g, gT, gP, st, H.nop⟩
    · unfold f_X11_back; rw [if_pos hx0]
    · unfold f_X12_back; rw [if_pos hx0]
  · obtain ⟨j, hj, rfl⟩ := nn_of hx0
    by_cases hjm : j ≤ m
    · refine ⟨nI (m - j), xw σ (xup (xI σ) 2 4 (nI (m - j))), xw σ (xup (xup (xI σ) 2 4 (nI (m - j))) 183 2 (nI (m - j))), ?_, ?_, g, gT, gP, st, H.tape ?_ ?_⟩
      · show f_X11_back (xw σ (xI σ)) 1 (nI j) = _
        unfold f_X11_back
        rw [if_neg hx0]
        hx [xw_I, h1, nn_le, nn_sub, hjm]
      · unfold f_X12_back
        rw [if_neg hx0]
        hx [xw_I, h2, nn_le, nn_sub, hjm]
      · intro a k q
        unfold sTAP at q
        simp only [xup_at]
        rw [if_neg (by omega), if_neg (by omega)]
      · refine ⟨m - j, by omega, ?_, ?_, fun k hk => ?_⟩
        · simp [xup_at]
        · simp [xup_at]
        · simp [xup_at]; exact h3 k (by omega)
    · refine ⟨-1, σ, σ, ?_, ?_, g, gT, gP, st, H.nop⟩
      · unfold f_X11_back
        rw [if_neg hx0, ← xw_self σ]
        hx [xw_I, h1, nn_le, hjm]
      · unfold f_X12_back
        rw [if_neg hx0, ← xw_self σ]
        hx [xw_I, h2, nn_le, hjm]
theorem op_feed : Op_feed INV := by
  intro n σ hn ⟨g, gT, gP, st, H⟩ a b c d e
  obtain ⟨m, hm, h1, h2, h3⟩ := H.tap
  have hS := H.shp
  by_cases hml : m + 20 ≤ 2000
  · refine ⟨nI (m + 20), xw σ (fdI (xI σ) 3 2 4 m (fW a b c d e) 20), xw σ (fdI (fdI (xI σ) 3 2 4 m (fW a b c d e) 20) 184 183 2 m (fW a b c d e) 20), ?_, ?_, g, gT, gP, st, H.tape ?_ ?_⟩
    · exact feed11 (I := xI σ) hS h1 hml a b c d e
    · exact feed12 hS (by simp [fdI]; exact h2) hml a b c d e
    · intro a k q
      unfold sTAP at q
      unfold fdI
      rw [if_neg (by omega), if_neg (by omega), if_neg (by omega), if_neg (by omega)]
    · refine ⟨m + 20, hml, ?_, ?_, fun k hk => ?_⟩
      · simp [fdI]
      · simp [fdI]
      · by_cases hkm : m ≤ k
        · have : m ≤ k ∧ k < m + 20 := ⟨hkm, hk⟩
          simp [fdI, this]; exact fW_b _ _ _ _ _ _
        · simp [fdI, hkm]; exact h3 k (by omega)
  · refine ⟨-1, σ, σ, ?_, ?_, g, gT, gP, st, H.nop⟩
    · unfold f_X11_feed
      rw [← xw_self σ]
      hx [xw_I, h1]
      rw [if_neg (by rw [show (20 : Int32) = nI 20 from rfl, nn_add, show (2000 : Int32) = nI 2000 from rfl, nn_le (by omega) (by omega)]; exact hml)]
    · unfold f_X12_feed
      rw [← xw_self σ]
      hx [xw_I, h2]
      rw [if_neg (by rw [show (20 : Int32) = nI 20 from rfl, nn_add, show (2000 : Int32) = nI 2000 from rfl, nn_le (by omega) (by omega)]; exact hml)]
