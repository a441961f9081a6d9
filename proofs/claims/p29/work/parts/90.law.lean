def Op_feed (INV : Nat → XS → Prop) : Prop := ∀ n σ, n < 512 → INV n σ → ∀ a b c d e : Int32, ∃ (r : Int32) (σ1 : XS) (σ2 : XS), f_X11_feed σ 1 a b c d e = some (r, σ1) ∧ f_X12_feed σ1 183 a b c d e = some (r, σ2) ∧ INV (n + 1) σ2
def Op_back (INV : Nat → XS → Prop) : Prop := ∀ n σ, n < 512 → INV n σ → ∀ a : Int32, ∃ (r : Int32) (σ1 : XS) (σ2 : XS), f_X11_back σ 1 a = some (r, σ1) ∧ f_X12_back σ1 183 a = some (r, σ2) ∧ INV (n + 1) σ2
def Op_read (INV : Nat → XS → Prop) : Prop := ∀ n σ, n < 512 → INV n σ → ∀ _ : Unit, ∃ (r : Int32) (σ1 : XS) (σ2 : XS), f_X11_read σ 1 = some (r, σ1) ∧ f_X12_read σ1 183 = some (r, σ2) ∧ INV (n + 1) σ2
def Op_place (INV : Nat → XS → Prop) : Prop := ∀ n σ, n < 512 → INV n σ → ∀ _ : Unit, ∃ (r : Int32), f_X11_place σ 1 = some r ∧ f_X12_place σ 183 = some r ∧ INV (n + 1) σ
def Op_tie (INV : Nat → XS → Prop) : Prop := ∀ n σ, n < 512 → INV n σ → ∀ a b c : Int32, (b = 0 ∨ b = 1) → ∃ (r : Int32) (σ1 : XS) (σ2 : XS), f_X11_tie σ 1 a b c = some (r, σ1) ∧ f_X12_tie σ1 183 a b c = some (r, σ2) ∧ INV (n + 1) σ2
def Op_pull (INV : Nat → XS → Prop) : Prop := ∀ n σ, n < 512 → INV n σ → ∀ a b : Int32, ∃ (r : Int32) (σ1 : XS) (σ2 : XS), f_X11_pull σ 1 a b = some (r, σ1) ∧ f_X12_pull σ1 183 a b = some (r, σ2) ∧ INV (n + 1) σ2
def Op_pin (INV : Nat → XS → Prop) : Prop := ∀ n σ, n < 512 → INV n σ → ∀ a b : Int32, ∃ (r : Int32) (σ1 : XS) (σ2 : XS), f_X11_pin σ 1 a b = some (r, σ1) ∧ f_X12_pin σ1 183 a b = some (r, σ2) ∧ INV (n + 1) σ2
def Op_glass (INV : Nat → XS → Prop) : Prop := ∀ n σ, n < 512 → INV n σ → ∀ a : Int32, ∃ (r : Int32) (σ1 : XS) (σ2 : XS), f_X11_glass σ 1 a = some (r, σ1) ∧ f_X12_glass σ1 183 a = some (r, σ2) ∧ INV (n + 1) σ2
def Op_turn (INV : Nat → XS → Prop) : Prop := ∀ n σ, n < 512 → INV n σ → ∀ a : Int32, ∃ (r : Int32) (σ1 : XS) (σ2 : XS), f_X11_turn σ 1 a = some (r, σ1) ∧ f_X12_turn σ1 183 a = some (r, σ2) ∧ INV (n + 1) σ2
def Op_fall (INV : Nat → XS → Prop) : Prop := ∀ n σ, n < 512 → INV n σ → ∀ _ : Unit, ∃ (r : Int32) (σ1 : XS) (σ2 : XS), f_X11_fall σ 1 = some (r, σ1) ∧ f_X12_fall σ1 183 = some (r, σ2) ∧ INV (n + 1) σ2
def Op_undo (INV : Nat → XS → Prop) : Prop := ∀ n σ, n < 512 → INV n σ → ∀ _ : Unit, ∃ (r : Int32) (σ1 : XS) (σ2 : XS), f_X11_undo σ 1 = some (r, σ1) ∧ f_X12_undo σ1 183 = some (r, σ2) ∧ INV (n + 1) σ2
def Op_site (INV : Nat → XS → Prop) : Prop := ∀ n σ, n < 512 → INV n σ → ∀ a b : Int32, ∃ (r : Int32), f_X11_site σ 1 a b = some r ∧ f_X12_site σ 183 a b = some r ∧ INV (n + 1) σ
def Op_level (INV : Nat → XS → Prop) : Prop := ∀ n σ, n < 512 → INV n σ → ∀ a b : Int32, ∃ (r : Int32) (σ1 : XS) (σ2 : XS), f_X11_level σ 1 a b = some (r, σ1) ∧ f_X12_level σ1 183 a b = some (r, σ2) ∧ INV (n + 1) σ2
def Op_both (INV : Nat → XS → Prop) : Prop := ∀ n σ, n < 512 → INV n σ → ∀ a b : Int32, ∃ (r : Int32) (σ1 : XS) (σ2 : XS), f_X11_both σ 1 a b = some (r, σ1) ∧ f_X12_both σ1 183 a b = some (r, σ2) ∧ INV (n + 1) σ2
def Op_broken (INV : Nat → XS → Prop) : Prop := ∀ n σ, n < 512 → INV n σ → ∀ a : Int32, ∃ (r : Int32) (σ1 : XS) (σ2 : XS), f_X11_broken σ 1 a = some (r, σ1) ∧ f_X12_broken σ1 183 a = some (r, σ2) ∧ INV (n + 1) σ2
def Op_ground (INV : Nat → XS → Prop) : Prop := ∀ n σ, n < 512 → INV n σ → ∀ a : Int32, ∃ (r : Int32) (σ1 : XS) (σ2 : XS), f_X11_ground σ 1 a = some (r, σ1) ∧ f_X12_ground σ1 183 a = some (r, σ2) ∧ INV (n + 1) σ2
def Op_pair (INV : Nat → XS → Prop) : Prop := ∀ n σ, n < 512 → INV n σ → ∀ a b c d : Int32, ∃ (r : Int32) (σ1 : XS) (σ2 : XS), f_X11_pair σ 1 a b c d = some (r, σ1) ∧ f_X12_pair σ1 183 a b c d = some (r, σ2) ∧ INV (n + 1) σ2
def Op_mean (INV : Nat → XS → Prop) : Prop := ∀ n σ, n < 512 → INV n σ → ∀ a b : Int32, ∃ (r : Int32) (σ1 : XS) (σ2 : XS), f_X11_mean σ 1 a b = some (r, σ1) ∧ f_X12_mean σ1 183 a b = some (r, σ2) ∧ INV (n + 1) σ2
def Op_value (INV : Nat → XS → Prop) : Prop := ∀ n σ, n < 512 → INV n σ → ∀ a : Int32, ∃ (r : Int32) (σ1 : XS) (σ2 : XS), f_X11_value σ 1 a = some (r, σ1) ∧ f_X12_value σ1 183 a = some (r, σ2) ∧ INV (n + 1) σ2
def Op_joined (INV : Nat → XS → Prop) : Prop := ∀ n σ, n < 512 → INV n σ → ∀ a b c : Int32, ∃ (r : Int64) (σ1 : XS) (σ2 : XS), f_X11_joined σ 1 a b c = some (r, σ1) ∧ f_X12_joined σ1 183 a b c = some (r, σ2) ∧ INV (n + 1) σ2
def Op_state (INV : Nat → XS → Prop) : Prop := ∀ n σ, n < 512 → INV n σ → ∀ a b : Int32, ∃ (r : Int32) (σ1 : XS) (σ2 : XS), f_X11_state σ 1 a b = some (r, σ1) ∧ f_X12_state σ1 183 a b = some (r, σ2) ∧ INV (n + 1) σ2
def Op_stuck (INV : Nat → XS → Prop) : Prop := ∀ n σ, n < 512 → INV n σ → ∀ a : Int32, (a = 0 ∨ a = 1) → ∃ (r : Int32) (σ1 : XS) (σ2 : XS), f_X11_stuck σ 1 a = some (r, σ1) ∧ f_X12_stuck σ1 183 a = some (r, σ2) ∧ INV (n + 1) σ2
def Op_rows (INV : Nat → XS → Prop) : Prop := ∀ n σ, n < 512 → INV n σ → ∀ a b c : Int32, ∃ (r : Int32) (σ1 : XS), f_X11_rows σ 1 a b c = some (r, σ1) ∧ f_X12_rows σ1 183 a b c = some r ∧ INV (n + 1) σ1
def Op_square (INV : Nat → XS → Prop) : Prop := ∀ n σ, n < 512 → INV n σ → ∀ a : Int32, ∃ (r : Int32), f_X11_square σ 1 a = some r ∧ f_X12_square σ 183 a = some r ∧ INV (n + 1) σ
def Op_overlap (INV : Nat → XS → Prop) : Prop := ∀ n σ, n < 512 → INV n σ → ∀ a : Int32, ∃ (r : Int32) (σ1 : XS) (σ2 : XS), f_X11_overlap σ 1 a = some (r, σ1) ∧ f_X12_overlap σ1 183 a = some (r, σ2) ∧ INV (n + 1) σ2
def Op_basin (INV : Nat → XS → Prop) : Prop := ∀ n σ, n < 512 → INV n σ → ∀ a : Int32, ∃ (r : Int32) (σ1 : XS) (σ2 : XS), f_X11_basin σ 1 a = some (r, σ1) ∧ f_X12_basin σ1 183 a = some (r, σ2) ∧ INV (n + 1) σ2
def Op_stiff (INV : Nat → XS → Prop) : Prop := ∀ n σ, n < 512 → INV n σ → ∀ a b : Int32, ∃ (r : Int32) (σ1 : XS) (σ2 : XS), f_X11_stiff σ 1 a b = some (r, σ1) ∧ f_X12_stiff σ1 183 a b = some (r, σ2) ∧ INV (n + 1) σ2
def Op_hill (INV : Nat → XS → Prop) : Prop := ∀ n σ, n < 512 → INV n σ → ∀ a : Int32, ∃ (r : Int32) (σ1 : XS) (σ2 : XS), f_X11_hill σ 1 a = some (r, σ1) ∧ f_X12_hill σ1 183 a = some (r, σ2) ∧ INV (n + 1) σ2
def Op_pass (INV : Nat → XS → Prop) : Prop := ∀ n σ, n < 512 → INV n σ → ∀ a b : Int32, ∃ (r : Int32) (σ1 : XS) (σ2 : XS), f_X11_pass σ 1 a b = some (r, σ1) ∧ f_X12_pass σ1 183 a b = some (r, σ2) ∧ INV (n + 1) σ2
def Op_lakes (INV : Nat → XS → Prop) : Prop := ∀ n σ, n < 512 → INV n σ → ∀ a : Int32, ∃ (r : Int32) (σ1 : XS) (σ2 : XS), f_X11_lakes σ 1 a = some (r, σ1) ∧ f_X12_lakes σ1 183 a = some (r, σ2) ∧ INV (n + 1) σ2
def Op_downW (INV : Nat → XS → Prop) : Prop := ∀ n σ, n < 512 → INV n σ → ∀ a : Int32, ∃ (r1 r2 : Int64) (σ1 : XS) (σ2 : XS), f_X11_down σ 1 a = some (r1, σ1) ∧ f_X12_down σ1 183 a = some (r2, σ2) ∧ INV (n + 1) σ2
def Op_nearest (INV : Nat → XS → Prop) : Prop := ∀ n σ, n < 512 → INV n σ → ∀ a b : Int32, ∃ (r : Int32) (σ1 : XS) (σ2 : XS), f_X11_nearest σ 1 a b = some (r, σ1) ∧ f_X12_nearest σ1 183 a b = some (r, σ2) ∧ INV (n + 1) σ2
def Op_cluster (INV : Nat → XS → Prop) : Prop := ∀ n σ, n < 512 → INV n σ → ∀ a : Int32, ∃ (r : Int32), f_X11_cluster σ 1 a = some r ∧ f_X12_cluster σ 183 a = some r ∧ INV (n + 1) σ
def Op_wander (INV : Nat → XS → Prop) : Prop := ∀ n σ, n < 512 → INV n σ → ∀ a b c : Int32, ∃ (r : Int32) (σ1 : XS) (σ2 : XS), f_X11_wander σ 1 a b c = some (r, σ1) ∧ f_X12_wander σ1 183 a b c = some (r, σ2) ∧ INV (n + 1) σ2
def Op_hold (INV : Nat → XS → Prop) : Prop := ∀ n σ, n < 512 → INV n σ → ∀ a : Int32, ∃ (r : Int32) (σ1 : XS) (σ2 : XS), f_X11_hold σ 1 a = some (r, σ1) ∧ f_X12_hold σ1 183 a = some (r, σ2) ∧ INV (n + 1) σ2
def Op_restore (INV : Nat → XS → Prop) : Prop := ∀ n σ, n < 512 → INV n σ → ∀ a : Int32, ∃ (r : Int32) (σ1 : XS) (σ2 : XS), f_X11_restore σ 1 a = some (r, σ1) ∧ f_X12_restore σ1 183 a = some (r, σ2) ∧ INV (n + 1) σ2
def Op_count (INV : Nat → XS → Prop) : Prop := ∀ n σ, n < 512 → INV n σ → ∀ a : Int32, ∃ (r : Int32) (σ1 : XS), f_X11_count σ 1 a = some (r, σ1) ∧ f_X12_count σ1 183 a = some r ∧ INV (n + 1) σ1
theorem lg_cmp_refl (x : Int64) : lg_cmp x x = 0 := by
  unfold lg_cmp
  simp
theorem xsq_ok {L i : Nat} {xs : Nat → Int32} (h : i < L) (hL : L < 2 ^ 31) : xsq L xs (nI i) = some (xs i) := by
  unfold xsq
  have h1 : (nI i).toNatClampNeg = i := nI_clamp (by omega)
  rw [h1, if_neg]
  intro q
  rcases q with q | q
  · exact nI_pos (by omega) q
  · omega
theorem xsw_at {β : Type} {v : Int32} {as : List (Option β)} {d : Option β} {k : Nat} {a : Option β} (hv : v.toInt = (k : Int)) (ha : as[k]? = some a) : xsw v 0 as d = a := by
  unfold xsw
  rw [if_neg (by omega), show (v.toInt - 0).toNat = k by omega, ha]
  rfl
theorem xsw_big {β : Type} {v : Int32} {as : List (Option β)} {d : Option β} {k : Nat} (hv : v.toInt = (k : Int)) (ha : as.length ≤ k) : xsw v 0 as d = d := by
  unfold xsw
  rw [if_neg (by omega), show (v.toInt - 0).toNat = k by omega, List.getElem?_eq_none ha]
  rfl
theorem xand63 (v : Int32) : ∃ k : Nat, k < 64 ∧ (v &&& (63 : Int32)).toInt = (k : Int) := by
  obtain ⟨n, hn, rfl⟩ : ∃ n, n < 2 ^ 32 ∧ v = nI n := ⟨v.toBitVec.toNat, v.toBitVec.isLt, Int32.toBitVec_inj.mp (by show _ = BitVec.ofNat 32 _; simp)⟩
  refine ⟨n % 64, Nat.mod_lt _ (by decide), ?_⟩
  have e : nI n &&& (63 : Int32) = nI (n % 64) := by
    apply Int32.toBitVec_inj.mp
    rw [Int32.toBitVec_and]
    apply BitVec.eq_of_toNat_eq
    show (BitVec.ofNat 32 n &&& BitVec.ofNat 32 63).toNat = (BitVec.ofNat 32 (n % 64)).toNat
    rw [BitVec.toNat_and, BitVec.toNat_ofNat, BitVec.toNat_ofNat, BitVec.toNat_ofNat]
    rw [Nat.mod_eq_of_lt hn, show 63 % 2 ^ 32 = 2 ^ 6 - 1 from rfl, Nat.and_two_pow_sub_one_eq_mod]
    have : n % 2 ^ 6 < 2 ^ 32 := Nat.lt_of_lt_of_le (Nat.mod_lt _ (by decide)) (by decide)
    rw [Nat.mod_eq_of_lt this]
  rw [e, nI_toInt (Nat.lt_of_lt_of_le (Nat.mod_lt _ (by decide)) (by decide))]
/-- one turn of the law -/
theorem law_step {INV : Nat → XS → Prop} (hb : ∀ n σ, INV n σ → xT σ 1 = 11 ∧ xT σ 183 = 12) (hn : ∀ n σ, INV n σ → 183 ≤ xn σ) (hnop : ∀ n σ, INV n σ → INV (n + 1) σ)
    (h_feed : Op_feed INV)
    (h_back : Op_back INV)
    (h_read : Op_read INV)
    (h_place : Op_place INV)
    (h_tie : Op_tie INV)
    (h_pull : Op_pull INV)
    (h_pin : Op_pin INV)
    (h_glass : Op_glass INV)
    (h_turn : Op_turn INV)
    (h_fall : Op_fall INV)
    (h_undo : Op_undo INV)
    (h_site : Op_site INV)
    (h_level : Op_level INV)
    (h_both : Op_both INV)
    (h_broken : Op_broken INV)
    (h_ground : Op_ground INV)
    (h_pair : Op_pair INV)
    (h_mean : Op_mean INV)
    (h_value : Op_value INV)
    (h_joined : Op_joined INV)
    (h_state : Op_state INV)
    (h_stuck : Op_stuck INV)
    (h_rows : Op_rows INV)
    (h_square : Op_square INV)
    (h_overlap : Op_overlap INV)
    (h_basin : Op_basin INV)
    (h_stiff : Op_stiff INV)
    (h_hill : Op_hill INV)
    (h_pass : Op_pass INV)
    (h_lakes : Op_lakes INV)
    (h_down : Op_downW INV)
    (h_nearest : Op_nearest INV)
    (h_cluster : Op_cluster INV)
    (h_wander : Op_wander INV)
    (h_hold : Op_hold INV)
    (h_restore : Op_restore INV)
    (h_count : Op_count INV)
    {L i n : Nat} {xs : Nat → Int32} {σ : XS} (hL : L ≤ 3072) (hi : i + 6 ≤ L) (hn5 : n < 512) (hI : INV n σ) : ∃ τ, f_L_law_b18 L xs 1 183 (nI i, σ) = some (.inl (nI (i + 6), τ)) ∧ INV (n + 1) τ := by
  have hLs : L < 2 ^ 31 := by omega
  have hc : ¬ (Int32.ofNat L) - (6 : Int32) < nI i := by
    have e : (Int32.ofNat L) - (6 : Int32) = nI (L - 6) := by
      have : nI (L - 6) + nI 6 = nI L := by rw [nI_add]; congr 1; omega
      rw [show (Int32.ofNat L) = nI L from rfl, ← this]
      show nI (L - 6) + nI 6 - nI 6 = _
      rw [Int32.add_sub_cancel]
    rw [e]
    exact nI_nlt (by omega) (by omega)
  have s1 : nI i + (1 : Int32) = nI (i + 1) := nI_add i 1
  have s2 : nI i + (2 : Int32) = nI (i + 2) := nI_add i 2
  have s3 : nI i + (3 : Int32) = nI (i + 3) := nI_add i 3
  have s4 : nI i + (4 : Int32) = nI (i + 4) := nI_add i 4
  have s5 : nI i + (5 : Int32) = nI (i + 5) := nI_add i 5
  have s6 : nI i + (6 : Int32) = nI (i + 6) := nI_add i 6
  have q0 : xsq L xs (nI i) = some (xs i) := xsq_ok (by omega) hLs
  have q1 : xsq L xs (nI (i + 1)) = some (xs (i + 1)) := xsq_ok (by omega) hLs
  have q2 : xsq L xs (nI (i + 2)) = some (xs (i + 2)) := xsq_ok (by omega) hLs
  have q3 : xsq L xs (nI (i + 3)) = some (xs (i + 3)) := xsq_ok (by omega) hLs
  have q4 : xsq L xs (nI (i + 4)) = some (xs (i + 4)) := xsq_ok (by omega) hLs
  have q5 : xsq L xs (nI (i + 5)) = some (xs (i + 5)) := xsq_ok (by omega) hLs
  obtain ⟨k, hk, hv⟩ := xand63 (xs i)
  have hT := hb n σ hI
  have c1 := xck_ok hT.1
  simp only [f_L_law_b18, if_neg hc, q0, Option.bind_some]
  by_cases hk2 : 37 ≤ k
  · rw [xsw_big hv (by show 37 ≤ k; exact hk2)]
    exact ⟨σ, by rw [s6], hnop n σ hI⟩
  rcases (by omega : k = 0 ∨ k = 1 ∨ k = 2 ∨ k = 3 ∨ k = 4 ∨ k = 5 ∨ k = 6 ∨ k = 7 ∨ k = 8 ∨ k = 9 ∨ k = 10 ∨ k = 11 ∨ k = 12 ∨ k = 13 ∨ k = 14 ∨ k = 15 ∨ k = 16 ∨ k = 17 ∨ k = 18 ∨ k = 19 ∨ k = 20 ∨ k = 21 ∨ k = 22 ∨ k = 23 ∨ k = 24 ∨ k = 25 ∨ k = 26 ∨ k = 27 ∨ k = 28 ∨ k = 29 ∨ k = 30 ∨ k = 31 ∨ k = 32 ∨ k = 33 ∨ k = 34 ∨ k = 35 ∨ k = 36) with rfl | rfl | rfl | rfl | rfl | rfl | rfl | rfl | rfl | rfl | rfl | rfl | rfl | rfl | rfl | rfl | rfl | rfl | rfl | rfl | rfl | rfl | rfl | rfl | rfl | rfl | rfl | rfl | rfl | rfl | rfl | rfl | rfl | rfl | rfl | rfl | rfl
  · -- feed
    rw [xsw_at hv rfl]
    obtain ⟨r, σ1, σ2, e1, e2, hI2⟩ := h_feed n σ hn5 hI (xs (i + 1)) (xs (i + 2)) (xs (i + 3)) (xs (i + 4)) (xs (i + 5))
    have c2 : xck σ1 183 12 = some () := by
      have m1 := m_X11_feed e1
      have t1 : xT σ1 183 = xT σ 183 := by unfold xT; rw [m1.1]
      exact xck_ok (t1.trans hT.2)
    refine ⟨σ2, ?_, hI2⟩
    simp [f_L_law_j355, f_L_law_j327, f_L_law_j552, f_L_law_j585, f_L_law_j613, f_L_law_j636, f_L_law_j674, f_L_law_j717, f_L_law_j745, f_L_law_j778, f_L_law_j816, f_L_law_j867, f_L_law_j852, f_L_law_j849, f_L_law_j893, f_L_law_j949, f_L_law_j972, f_L_law_j1000, f_L_law_j1028, f_L_law_j1056, f_L_law_j1084, f_L_law_j1107, f_L_law_j1135, f_L_law_j1275, f_L_law_j15, f_L_law_j11, f_L_law_j7, f_L_law_j3, s1, s2, s3, s4, s5, s6, q1, q2, q3, q4, q5, c1, c2, e1, e2]
  · -- back
    rw [xsw_at hv rfl]
    obtain ⟨r, σ1, σ2, e1, e2, hI2⟩ := h_back n σ hn5 hI (xs (i + 1))
    have c2 : xck σ1 183 12 = some () := by
      have m1 := m_X11_back e1
      have t1 : xT σ1 183 = xT σ 183 := by unfold xT; rw [m1.1]
      exact xck_ok (t1.trans hT.2)
    refine ⟨σ2, ?_, hI2⟩
    simp [f_L_law_j355, f_L_law_j327, f_L_law_j552, f_L_law_j585, f_L_law_j613, f_L_law_j636, f_L_law_j674, f_L_law_j717, f_L_law_j745, f_L_law_j778, f_L_law_j816, f_L_law_j867, f_L_law_j852, f_L_law_j849, f_L_law_j893, f_L_law_j949, f_L_law_j972, f_L_law_j1000, f_L_law_j1028, f_L_law_j1056, f_L_law_j1084, f_L_law_j1107, f_L_law_j1135, f_L_law_j1275, f_L_law_j15, f_L_law_j11, f_L_law_j7, f_L_law_j3, s1, s2, s3, s4, s5, s6, q1, q2, q3, q4, q5, c1, c2, e1, e2]
  · -- read
    rw [xsw_at hv rfl]
    obtain ⟨r, σ1, σ2, e1, e2, hI2⟩ := h_read n σ hn5 hI ()
    have c2 : xck σ1 183 12 = some () := by
      have m1 := m_X11_read e1
      have t1 : xT σ1 183 = xT σ 183 := by unfold xT; rw [m1.1]
      exact xck_ok (t1.trans hT.2)
    refine ⟨σ2, ?_, hI2⟩
    simp [f_L_law_j355, f_L_law_j327, f_L_law_j552, f_L_law_j585, f_L_law_j613, f_L_law_j636, f_L_law_j674, f_L_law_j717, f_L_law_j745, f_L_law_j778, f_L_law_j816, f_L_law_j867, f_L_law_j852, f_L_law_j849, f_L_law_j893, f_L_law_j949, f_L_law_j972, f_L_law_j1000, f_L_law_j1028, f_L_law_j1056, f_L_law_j1084, f_L_law_j1107, f_L_law_j1135, f_L_law_j1275, f_L_law_j15, f_L_law_j11, f_L_law_j7, f_L_law_j3, s1, s2, s3, s4, s5, s6, q1, q2, q3, q4, q5, c1, c2, e1, e2]
  · -- place
    rw [xsw_at hv rfl]
    obtain ⟨r, e1, e2, hI2⟩ := h_place n σ hn5 hI ()
    have c2 := xck_ok hT.2
    refine ⟨σ, ?_, hI2⟩
    simp [f_L_law_j355, f_L_law_j327, f_L_law_j552, f_L_law_j585, f_L_law_j613, f_L_law_j636, f_L_law_j674, f_L_law_j717, f_L_law_j745, f_L_law_j778, f_L_law_j816, f_L_law_j867, f_L_law_j852, f_L_law_j849, f_L_law_j893, f_L_law_j949, f_L_law_j972, f_L_law_j1000, f_L_law_j1028, f_L_law_j1056, f_L_law_j1084, f_L_law_j1107, f_L_law_j1135, f_L_law_j1275, f_L_law_j15, f_L_law_j11, f_L_law_j7, f_L_law_j3, s1, s2, s3, s4, s5, s6, q1, q2, q3, q4, q5, c1, c2, e1, e2]
  · -- tie
    rw [xsw_at hv rfl]
    by_cases hz : xs (i + 2) = 0
    · have hz := hz
      obtain ⟨r, σ1, σ2, e1, e2, hI2⟩ := h_tie n σ hn5 hI (xs (i + 1)) (0 : Int32) (xs (i + 3)) (Or.inl rfl)
      have c2 : xck σ1 183 12 = some () := by
        have m1 := m_X11_tie e1
        have t1 : xT σ1 183 = xT σ 183 := by unfold xT; rw [m1.1]
        exact xck_ok (t1.trans hT.2)
      refine ⟨σ2, ?_, hI2⟩
      simp [f_L_law_j355, f_L_law_j327, f_L_law_j552, f_L_law_j585, f_L_law_j613, f_L_law_j636, f_L_law_j674, f_L_law_j717, f_L_law_j745, f_L_law_j778, f_L_law_j816, f_L_law_j867, f_L_law_j852, f_L_law_j849, f_L_law_j893, f_L_law_j949, f_L_law_j972, f_L_law_j1000, f_L_law_j1028, f_L_law_j1056, f_L_law_j1084, f_L_law_j1107, f_L_law_j1135, f_L_law_j1275, f_L_law_j15, f_L_law_j11, f_L_law_j7, f_L_law_j3, s1, s2, s3, s4, s5, s6, q1, q2, q3, q4, q5, c1, c2, e1, e2, hz]
    · have hz := hz
      obtain ⟨r, σ1, σ2, e1, e2, hI2⟩ := h_tie n σ hn5 hI (xs (i + 1)) (1 : Int32) (xs (i + 3)) (Or.inr rfl)
      have c2 : xck σ1 183 12 = some () := by
        have m1 := m_X11_tie e1
        have t1 : xT σ1 183 = xT σ 183 := by unfold xT; rw [m1.1]
        exact xck_ok (t1.trans hT.2)
      refine ⟨σ2, ?_, hI2⟩
      simp [f_L_law_j355, f_L_law_j327, f_L_law_j552, f_L_law_j585, f_L_law_j613, f_L_law_j636, f_L_law_j674, f_L_law_j717, f_L_law_j745, f_L_law_j778, f_L_law_j816, f_L_law_j867, f_L_law_j852, f_L_law_j849, f_L_law_j893, f_L_law_j949, f_L_law_j972, f_L_law_j1000, f_L_law_j1028, f_L_law_j1056, f_L_law_j1084, f_L_law_j1107, f_L_law_j1135, f_L_law_j1275, f_L_law_j15, f_L_law_j11, f_L_law_j7, f_L_law_j3, s1, s2, s3, s4, s5, s6, q1, q2, q3, q4, q5, c1, c2, e1, e2, hz]
  · -- pull
    rw [xsw_at hv rfl]
    obtain ⟨r, σ1, σ2, e1, e2, hI2⟩ := h_pull n σ hn5 hI (xs (i + 1)) (xs (i + 2))
    have c2 : xck σ1 183 12 = some () := by
      have m1 := m_X11_pull e1
      have t1 : xT σ1 183 = xT σ 183 := by unfold xT; rw [m1.1]
      exact xck_ok (t1.trans hT.2)
    refine ⟨σ2, ?_, hI2⟩
    simp [f_L_law_j355, f_L_law_j327, f_L_law_j552, f_L_law_j585, f_L_law_j613, f_L_law_j636, f_L_law_j674, f_L_law_j717, f_L_law_j745, f_L_law_j778, f_L_law_j816, f_L_law_j867, f_L_law_j852, f_L_law_j849, f_L_law_j893, f_L_law_j949, f_L_law_j972, f_L_law_j1000, f_L_law_j1028, f_L_law_j1056, f_L_law_j1084, f_L_law_j1107, f_L_law_j1135, f_L_law_j1275, f_L_law_j15, f_L_law_j11, f_L_law_j7, f_L_law_j3, s1, s2, s3, s4, s5, s6, q1, q2, q3, q4, q5, c1, c2, e1, e2]
  · -- pin
    rw [xsw_at hv rfl]
    obtain ⟨r, σ1, σ2, e1, e2, hI2⟩ := h_pin n σ hn5 hI (xs (i + 1)) (xs (i + 2))
    have c2 : xck σ1 183 12 = some () := by
      have m1 := m_X11_pin e1
      have t1 : xT σ1 183 = xT σ 183 := by unfold xT; rw [m1.1]
      exact xck_ok (t1.trans hT.2)
    refine ⟨σ2, ?_, hI2⟩
    simp [f_L_law_j355, f_L_law_j327, f_L_law_j552, f_L_law_j585, f_L_law_j613, f_L_law_j636, f_L_law_j674, f_L_law_j717, f_L_law_j745, f_L_law_j778, f_L_law_j816, f_L_law_j867, f_L_law_j852, f_L_law_j849, f_L_law_j893, f_L_law_j949, f_L_law_j972, f_L_law_j1000, f_L_law_j1028, f_L_law_j1056, f_L_law_j1084, f_L_law_j1107, f_L_law_j1135, f_L_law_j1275, f_L_law_j15, f_L_law_j11, f_L_law_j7, f_L_law_j3, s1, s2, s3, s4, s5, s6, q1, q2, q3, q4, q5, c1, c2, e1, e2]
  · -- glass
    rw [xsw_at hv rfl]
    obtain ⟨r, σ1, σ2, e1, e2, hI2⟩ := h_glass n σ hn5 hI (xs (i + 1))
    have c2 : xck σ1 183 12 = some () := by
      have m1 := m_X11_glass e1
      have t1 : xT σ1 183 = xT σ 183 := by unfold xT; rw [m1.1]
      exact xck_ok (t1.trans hT.2)
    refine ⟨σ2, ?_, hI2⟩
    simp [f_L_law_j355, f_L_law_j327, f_L_law_j552, f_L_law_j585, f_L_law_j613, f_L_law_j636, f_L_law_j674, f_L_law_j717, f_L_law_j745, f_L_law_j778, f_L_law_j816, f_L_law_j867, f_L_law_j852, f_L_law_j849, f_L_law_j893, f_L_law_j949, f_L_law_j972, f_L_law_j1000, f_L_law_j1028, f_L_law_j1056, f_L_law_j1084, f_L_law_j1107, f_L_law_j1135, f_L_law_j1275, f_L_law_j15, f_L_law_j11, f_L_law_j7, f_L_law_j3, s1, s2, s3, s4, s5, s6, q1, q2, q3, q4, q5, c1, c2, e1, e2]
  · -- turn
    rw [xsw_at hv rfl]
    obtain ⟨r, σ1, σ2, e1, e2, hI2⟩ := h_turn n σ hn5 hI (xs (i + 1))
    have c2 : xck σ1 183 12 = some () := by
      have m1 := m_X11_turn e1
      have t1 : xT σ1 183 = xT σ 183 := by unfold xT; rw [m1.1]
      exact xck_ok (t1.trans hT.2)
    refine ⟨σ2, ?_, hI2⟩
    simp [f_L_law_j355, f_L_law_j327, f_L_law_j552, f_L_law_j585, f_L_law_j613, f_L_law_j636, f_L_law_j674, f_L_law_j717, f_L_law_j745, f_L_law_j778, f_L_law_j816, f_L_law_j867, f_L_law_j852, f_L_law_j849, f_L_law_j893, f_L_law_j949, f_L_law_j972, f_L_law_j1000, f_L_law_j1028, f_L_law_j1056, f_L_law_j1084, f_L_law_j1107, f_L_law_j1135, f_L_law_j1275, f_L_law_j15, f_L_law_j11, f_L_law_j7, f_L_law_j3, s1, s2, s3, s4, s5, s6, q1, q2, q3, q4, q5, c1, c2, e1, e2]
  · -- fall
    rw [xsw_at hv rfl]
    obtain ⟨r, σ1, σ2, e1, e2, hI2⟩ := h_fall n σ hn5 hI ()
    have c2 : xck σ1 183 12 = some () := by
      have m1 := m_X11_fall e1
      have t1 : xT σ1 183 = xT σ 183 := by unfold xT; rw [m1.1]
      exact xck_ok (t1.trans hT.2)
    refine ⟨σ2, ?_, hI2⟩
    simp [f_L_law_j355, f_L_law_j327, f_L_law_j552, f_L_law_j585, f_L_law_j613, f_L_law_j636, f_L_law_j674, f_L_law_j717, f_L_law_j745, f_L_law_j778, f_L_law_j816, f_L_law_j867, f_L_law_j852, f_L_law_j849, f_L_law_j893, f_L_law_j949, f_L_law_j972, f_L_law_j1000, f_L_law_j1028, f_L_law_j1056, f_L_law_j1084, f_L_law_j1107, f_L_law_j1135, f_L_law_j1275, f_L_law_j15, f_L_law_j11, f_L_law_j7, f_L_law_j3, s1, s2, s3, s4, s5, s6, q1, q2, q3, q4, q5, c1, c2, e1, e2]
  · -- undo
    rw [xsw_at hv rfl]
    obtain ⟨r, σ1, σ2, e1, e2, hI2⟩ := h_undo n σ hn5 hI ()
    have c2 : xck σ1 183 12 = some () := by
      have m1 := m_X11_undo e1
      have t1 : xT σ1 183 = xT σ 183 := by unfold xT; rw [m1.1]
      exact xck_ok (t1.trans hT.2)
    refine ⟨σ2, ?_, hI2⟩
    simp [f_L_law_j355, f_L_law_j327, f_L_law_j552, f_L_law_j585, f_L_law_j613, f_L_law_j636, f_L_law_j674, f_L_law_j717, f_L_law_j745, f_L_law_j778, f_L_law_j816, f_L_law_j867, f_L_law_j852, f_L_law_j849, f_L_law_j893, f_L_law_j949, f_L_law_j972, f_L_law_j1000, f_L_law_j1028, f_L_law_j1056, f_L_law_j1084, f_L_law_j1107, f_L_law_j1135, f_L_law_j1275, f_L_law_j15, f_L_law_j11, f_L_law_j7, f_L_law_j3, s1, s2, s3, s4, s5, s6, q1, q2, q3, q4, q5, c1, c2, e1, e2]
  · -- site
    rw [xsw_at hv rfl]
    obtain ⟨r, e1, e2, hI2⟩ := h_site n σ hn5 hI (xs (i + 1)) (xs (i + 2))
    have c2 := xck_ok hT.2
    refine ⟨σ, ?_, hI2⟩
    simp [f_L_law_j355, f_L_law_j327, f_L_law_j552, f_L_law_j585, f_L_law_j613, f_L_law_j636, f_L_law_j674, f_L_law_j717, f_L_law_j745, f_L_law_j778, f_L_law_j816, f_L_law_j867, f_L_law_j852, f_L_law_j849, f_L_law_j893, f_L_law_j949, f_L_law_j972, f_L_law_j1000, f_L_law_j1028, f_L_law_j1056, f_L_law_j1084, f_L_law_j1107, f_L_law_j1135, f_L_law_j1275, f_L_law_j15, f_L_law_j11, f_L_law_j7, f_L_law_j3, s1, s2, s3, s4, s5, s6, q1, q2, q3, q4, q5, c1, c2, e1, e2]
  · -- level
    rw [xsw_at hv rfl]
    obtain ⟨r, σ1, σ2, e1, e2, hI2⟩ := h_level n σ hn5 hI (xs (i + 1)) (xs (i + 2))
    have c2 : xck σ1 183 12 = some () := by
      have m1 := m_X11_level e1
      have t1 : xT σ1 183 = xT σ 183 := by unfold xT; rw [m1.2 183 (hn n σ hI)]
      exact xck_ok (t1.trans hT.2)
    refine ⟨σ2, ?_, hI2⟩
    simp [f_L_law_j355, f_L_law_j327, f_L_law_j552, f_L_law_j585, f_L_law_j613, f_L_law_j636, f_L_law_j674, f_L_law_j717, f_L_law_j745, f_L_law_j778, f_L_law_j816, f_L_law_j867, f_L_law_j852, f_L_law_j849, f_L_law_j893, f_L_law_j949, f_L_law_j972, f_L_law_j1000, f_L_law_j1028, f_L_law_j1056, f_L_law_j1084, f_L_law_j1107, f_L_law_j1135, f_L_law_j1275, f_L_law_j15, f_L_law_j11, f_L_law_j7, f_L_law_j3, s1, s2, s3, s4, s5, s6, q1, q2, q3, q4, q5, c1, c2, e1, e2]
  · -- both
    rw [xsw_at hv rfl]
    obtain ⟨r, σ1, σ2, e1, e2, hI2⟩ := h_both n σ hn5 hI (xs (i + 1)) (xs (i + 2))
    have c2 : xck σ1 183 12 = some () := by
      have m1 := m_X11_both e1
      have t1 : xT σ1 183 = xT σ 183 := by unfold xT; rw [m1.2 183 (hn n σ hI)]
      exact xck_ok (t1.trans hT.2)
    refine ⟨σ2, ?_, hI2⟩
    simp [f_L_law_j355, f_L_law_j327, f_L_law_j552, f_L_law_j585, f_L_law_j613, f_L_law_j636, f_L_law_j674, f_L_law_j717, f_L_law_j745, f_L_law_j778, f_L_law_j816, f_L_law_j867, f_L_law_j852, f_L_law_j849, f_L_law_j893, f_L_law_j949, f_L_law_j972, f_L_law_j1000, f_L_law_j1028, f_L_law_j1056, f_L_law_j1084, f_L_law_j1107, f_L_law_j1135, f_L_law_j1275, f_L_law_j15, f_L_law_j11, f_L_law_j7, f_L_law_j3, s1, s2, s3, s4, s5, s6, q1, q2, q3, q4, q5, c1, c2, e1, e2]
  · -- broken
    rw [xsw_at hv rfl]
    obtain ⟨r, σ1, σ2, e1, e2, hI2⟩ := h_broken n σ hn5 hI (xs (i + 1))
    have c2 : xck σ1 183 12 = some () := by
      have m1 := m_X11_broken e1
      have t1 : xT σ1 183 = xT σ 183 := by unfold xT; rw [m1.2 183 (hn n σ hI)]
      exact xck_ok (t1.trans hT.2)
    refine ⟨σ2, ?_, hI2⟩
    simp [f_L_law_j355, f_L_law_j327, f_L_law_j552, f_L_law_j585, f_L_law_j613, f_L_law_j636, f_L_law_j674, f_L_law_j717, f_L_law_j745, f_L_law_j778, f_L_law_j816, f_L_law_j867, f_L_law_j852, f_L_law_j849, f_L_law_j893, f_L_law_j949, f_L_law_j972, f_L_law_j1000, f_L_law_j1028, f_L_law_j1056, f_L_law_j1084, f_L_law_j1107, f_L_law_j1135, f_L_law_j1275, f_L_law_j15, f_L_law_j11, f_L_law_j7, f_L_law_j3, s1, s2, s3, s4, s5, s6, q1, q2, q3, q4, q5, c1, c2, e1, e2]
  · -- ground
    rw [xsw_at hv rfl]
    obtain ⟨r, σ1, σ2, e1, e2, hI2⟩ := h_ground n σ hn5 hI (xs (i + 1))
    have c2 : xck σ1 183 12 = some () := by
      have m1 := m_X11_ground e1
      have t1 : xT σ1 183 = xT σ 183 := by unfold xT; rw [m1.2 183 (hn n σ hI)]
      exact xck_ok (t1.trans hT.2)
    refine ⟨σ2, ?_, hI2⟩
    simp [f_L_law_j355, f_L_law_j327, f_L_law_j552, f_L_law_j585, f_L_law_j613, f_L_law_j636, f_L_law_j674, f_L_law_j717, f_L_law_j745, f_L_law_j778, f_L_law_j816, f_L_law_j867, f_L_law_j852, f_L_law_j849, f_L_law_j893, f_L_law_j949, f_L_law_j972, f_L_law_j1000, f_L_law_j1028, f_L_law_j1056, f_L_law_j1084, f_L_law_j1107, f_L_law_j1135, f_L_law_j1275, f_L_law_j15, f_L_law_j11, f_L_law_j7, f_L_law_j3, s1, s2, s3, s4, s5, s6, q1, q2, q3, q4, q5, c1, c2, e1, e2]
  · -- pair
    rw [xsw_at hv rfl]
    obtain ⟨r, σ1, σ2, e1, e2, hI2⟩ := h_pair n σ hn5 hI (xs (i + 1)) (xs (i + 2)) (xs (i + 3)) (xs (i + 4))
    have c2 : xck σ1 183 12 = some () := by
      have m1 := m_X11_pair e1
      have t1 : xT σ1 183 = xT σ 183 := by unfold xT; rw [m1.2 183 (hn n σ hI)]
      exact xck_ok (t1.trans hT.2)
    refine ⟨σ2, ?_, hI2⟩
    simp [f_L_law_j355, f_L_law_j327, f_L_law_j552, f_L_law_j585, f_L_law_j613, f_L_law_j636, f_L_law_j674, f_L_law_j717, f_L_law_j745, f_L_law_j778, f_L_law_j816, f_L_law_j867, f_L_law_j852, f_L_law_j849, f_L_law_j893, f_L_law_j949, f_L_law_j972, f_L_law_j1000, f_L_law_j1028, f_L_law_j1056, f_L_law_j1084, f_L_law_j1107, f_L_law_j1135, f_L_law_j1275, f_L_law_j15, f_L_law_j11, f_L_law_j7, f_L_law_j3, s1, s2, s3, s4, s5, s6, q1, q2, q3, q4, q5, c1, c2, e1, e2]
  · -- mean
    rw [xsw_at hv rfl]
    obtain ⟨r, σ1, σ2, e1, e2, hI2⟩ := h_mean n σ hn5 hI (xs (i + 1)) (xs (i + 2))
    have c2 : xck σ1 183 12 = some () := by
      have m1 := m_X11_mean e1
      have t1 : xT σ1 183 = xT σ 183 := by unfold xT; rw [m1.2 183 (hn n σ hI)]
      exact xck_ok (t1.trans hT.2)
    refine ⟨σ2, ?_, hI2⟩
    simp [f_L_law_j355, f_L_law_j327, f_L_law_j552, f_L_law_j585, f_L_law_j613, f_L_law_j636, f_L_law_j674, f_L_law_j717, f_L_law_j745, f_L_law_j778, f_L_law_j816, f_L_law_j867, f_L_law_j852, f_L_law_j849, f_L_law_j893, f_L_law_j949, f_L_law_j972, f_L_law_j1000, f_L_law_j1028, f_L_law_j1056, f_L_law_j1084, f_L_law_j1107, f_L_law_j1135, f_L_law_j1275, f_L_law_j15, f_L_law_j11, f_L_law_j7, f_L_law_j3, s1, s2, s3, s4, s5, s6, q1, q2, q3, q4, q5, c1, c2, e1, e2]
  · -- value
    rw [xsw_at hv rfl]
    obtain ⟨r, σ1, σ2, e1, e2, hI2⟩ := h_value n σ hn5 hI (xs (i + 1))
    have c2 : xck σ1 183 12 = some () := by
      have m1 := m_X11_value e1
      have t1 : xT σ1 183 = xT σ 183 := by unfold xT; rw [m1.2 183 (hn n σ hI)]
      exact xck_ok (t1.trans hT.2)
    refine ⟨σ2, ?_, hI2⟩
    simp [f_L_law_j355, f_L_law_j327, f_L_law_j552, f_L_law_j585, f_L_law_j613, f_L_law_j636, f_L_law_j674, f_L_law_j717, f_L_law_j745, f_L_law_j778, f_L_law_j816, f_L_law_j867, f_L_law_j852, f_L_law_j849, f_L_law_j893, f_L_law_j949, f_L_law_j972, f_L_law_j1000, f_L_law_j1028, f_L_law_j1056, f_L_law_j1084, f_L_law_j1107, f_L_law_j1135, f_L_law_j1275, f_L_law_j15, f_L_law_j11, f_L_law_j7, f_L_law_j3, s1, s2, s3, s4, s5, s6, q1, q2, q3, q4, q5, c1, c2, e1, e2]
  · -- joined
    rw [xsw_at hv rfl]
    obtain ⟨r, σ1, σ2, e1, e2, hI2⟩ := h_joined n σ hn5 hI (xs (i + 1)) (xs (i + 2)) (xs (i + 3))
    have c2 : xck σ1 183 12 = some () := by
      have m1 := m_X11_joined e1
      have t1 : xT σ1 183 = xT σ 183 := by unfold xT; rw [m1.2 183 (hn n σ hI)]
      exact xck_ok (t1.trans hT.2)
    refine ⟨σ2, ?_, hI2⟩
    simp [f_L_law_j355, f_L_law_j327, f_L_law_j552, f_L_law_j585, f_L_law_j613, f_L_law_j636, f_L_law_j674, f_L_law_j717, f_L_law_j745, f_L_law_j778, f_L_law_j816, f_L_law_j867, f_L_law_j852, f_L_law_j849, f_L_law_j893, f_L_law_j949, f_L_law_j972, f_L_law_j1000, f_L_law_j1028, f_L_law_j1056, f_L_law_j1084, f_L_law_j1107, f_L_law_j1135, f_L_law_j1275, f_L_law_j15, f_L_law_j11, f_L_law_j7, f_L_law_j3, s1, s2, s3, s4, s5, s6, q1, q2, q3, q4, q5, c1, c2, e1, e2, lg_cmp_refl]
  · -- state
    rw [xsw_at hv rfl]
    obtain ⟨r, σ1, σ2, e1, e2, hI2⟩ := h_state n σ hn5 hI (xs (i + 1)) (xs (i + 2))
    have c2 : xck σ1 183 12 = some () := by
      have m1 := m_X11_state e1
      have t1 : xT σ1 183 = xT σ 183 := by unfold xT; rw [m1.2 183 (hn n σ hI)]
      exact xck_ok (t1.trans hT.2)
    refine ⟨σ2, ?_, hI2⟩
    simp [f_L_law_j355, f_L_law_j327, f_L_law_j552, f_L_law_j585, f_L_law_j613, f_L_law_j636, f_L_law_j674, f_L_law_j717, f_L_law_j745, f_L_law_j778, f_L_law_j816, f_L_law_j867, f_L_law_j852, f_L_law_j849, f_L_law_j893, f_L_law_j949, f_L_law_j972, f_L_law_j1000, f_L_law_j1028, f_L_law_j1056, f_L_law_j1084, f_L_law_j1107, f_L_law_j1135, f_L_law_j1275, f_L_law_j15, f_L_law_j11, f_L_law_j7, f_L_law_j3, s1, s2, s3, s4, s5, s6, q1, q2, q3, q4, q5, c1, c2, e1, e2]
  · -- stuck
    rw [xsw_at hv rfl]
    by_cases hz : xs (i + 1) = 0
    · have hz := hz
      obtain ⟨r, σ1, σ2, e1, e2, hI2⟩ := h_stuck n σ hn5 hI (0 : Int32) (Or.inl rfl)
      have c2 : xck σ1 183 12 = some () := by
        have m1 := m_X11_stuck e1
        have t1 : xT σ1 183 = xT σ 183 := by unfold xT; rw [m1.2 183 (hn n σ hI)]
        exact xck_ok (t1.trans hT.2)
      refine ⟨σ2, ?_, hI2⟩
      simp [f_L_law_j355, f_L_law_j327, f_L_law_j552, f_L_law_j585, f_L_law_j613, f_L_law_j636, f_L_law_j674, f_L_law_j717, f_L_law_j745, f_L_law_j778, f_L_law_j816, f_L_law_j867, f_L_law_j852, f_L_law_j849, f_L_law_j893, f_L_law_j949, f_L_law_j972, f_L_law_j1000, f_L_law_j1028, f_L_law_j1056, f_L_law_j1084, f_L_law_j1107, f_L_law_j1135, f_L_law_j1275, f_L_law_j15, f_L_law_j11, f_L_law_j7, f_L_law_j3, s1, s2, s3, s4, s5, s6, q1, q2, q3, q4, q5, c1, c2, e1, e2, hz]
    · have hz := hz
      obtain ⟨r, σ1, σ2, e1, e2, hI2⟩ := h_stuck n σ hn5 hI (1 : Int32) (Or.inr rfl)
      have c2 : xck σ1 183 12 = some () := by
        have m1 := m_X11_stuck e1
        have t1 : xT σ1 183 = xT σ 183 := by unfold xT; rw [m1.2 183 (hn n σ hI)]
        exact xck_ok (t1.trans hT.2)
      refine ⟨σ2, ?_, hI2⟩
      simp [f_L_law_j355, f_L_law_j327, f_L_law_j552, f_L_law_j585, f_L_law_j613, f_L_law_j636, f_L_law_j674, f_L_law_j717, f_L_law_j745, f_L_law_j778, f_L_law_j816, f_L_law_j867, f_L_law_j852, f_L_law_j849, f_L_law_j893, f_L_law_j949, f_L_law_j972, f_L_law_j1000, f_L_law_j1028, f_L_law_j1056, f_L_law_j1084, f_L_law_j1107, f_L_law_j1135, f_L_law_j1275, f_L_law_j15, f_L_law_j11, f_L_law_j7, f_L_law_j3, s1, s2, s3, s4, s5, s6, q1, q2, q3, q4, q5, c1, c2, e1, e2, hz]
  · -- rows
    rw [xsw_at hv rfl]
    obtain ⟨r, σ1, e1, e2, hI2⟩ := h_rows n σ hn5 hI (xs (i + 1)) (xs (i + 2)) (xs (i + 3))
    have c2 : xck σ1 183 12 = some () := by
      have m1 := m_X11_rows e1
      have t1 : xT σ1 183 = xT σ 183 := by unfold xT; rw [m1.2 183 (hn n σ hI)]
      exact xck_ok (t1.trans hT.2)
    refine ⟨σ1, ?_, hI2⟩
    simp [f_L_law_j355, f_L_law_j327, f_L_law_j552, f_L_law_j585, f_L_law_j613, f_L_law_j636, f_L_law_j674, f_L_law_j717, f_L_law_j745, f_L_law_j778, f_L_law_j816, f_L_law_j867, f_L_law_j852, f_L_law_j849, f_L_law_j893, f_L_law_j949, f_L_law_j972, f_L_law_j1000, f_L_law_j1028, f_L_law_j1056, f_L_law_j1084, f_L_law_j1107, f_L_law_j1135, f_L_law_j1275, f_L_law_j15, f_L_law_j11, f_L_law_j7, f_L_law_j3, s1, s2, s3, s4, s5, s6, q1, q2, q3, q4, q5, c1, c2, e1, e2]
  · -- square
    rw [xsw_at hv rfl]
    obtain ⟨r, e1, e2, hI2⟩ := h_square n σ hn5 hI (xs (i + 1))
    have c2 := xck_ok hT.2
    refine ⟨σ, ?_, hI2⟩
    simp [f_L_law_j355, f_L_law_j327, f_L_law_j552, f_L_law_j585, f_L_law_j613, f_L_law_j636, f_L_law_j674, f_L_law_j717, f_L_law_j745, f_L_law_j778, f_L_law_j816, f_L_law_j867, f_L_law_j852, f_L_law_j849, f_L_law_j893, f_L_law_j949, f_L_law_j972, f_L_law_j1000, f_L_law_j1028, f_L_law_j1056, f_L_law_j1084, f_L_law_j1107, f_L_law_j1135, f_L_law_j1275, f_L_law_j15, f_L_law_j11, f_L_law_j7, f_L_law_j3, s1, s2, s3, s4, s5, s6, q1, q2, q3, q4, q5, c1, c2, e1, e2]
  · -- overlap
    rw [xsw_at hv rfl]
    obtain ⟨r, σ1, σ2, e1, e2, hI2⟩ := h_overlap n σ hn5 hI (xs (i + 1))
    have c2 : xck σ1 183 12 = some () := by
      have m1 := m_X11_overlap e1
      have t1 : xT σ1 183 = xT σ 183 := by unfold xT; rw [m1.2 183 (hn n σ hI)]
      exact xck_ok (t1.trans hT.2)
    refine ⟨σ2, ?_, hI2⟩
    simp [f_L_law_j355, f_L_law_j327, f_L_law_j552, f_L_law_j585, f_L_law_j613, f_L_law_j636, f_L_law_j674, f_L_law_j717, f_L_law_j745, f_L_law_j778, f_L_law_j816, f_L_law_j867, f_L_law_j852, f_L_law_j849, f_L_law_j893, f_L_law_j949, f_L_law_j972, f_L_law_j1000, f_L_law_j1028, f_L_law_j1056, f_L_law_j1084, f_L_law_j1107, f_L_law_j1135, f_L_law_j1275, f_L_law_j15, f_L_law_j11, f_L_law_j7, f_L_law_j3, s1, s2, s3, s4, s5, s6, q1, q2, q3, q4, q5, c1, c2, e1, e2]
  · -- basin
    rw [xsw_at hv rfl]
    obtain ⟨r, σ1, σ2, e1, e2, hI2⟩ := h_basin n σ hn5 hI (xs (i + 1))
    have c2 : xck σ1 183 12 = some () := by
      have m1 := m_X11_basin e1
      have t1 : xT σ1 183 = xT σ 183 := by unfold xT; rw [m1.2 183 (hn n σ hI)]
      exact xck_ok (t1.trans hT.2)
    refine ⟨σ2, ?_, hI2⟩
    simp [f_L_law_j355, f_L_law_j327, f_L_law_j552, f_L_law_j585, f_L_law_j613, f_L_law_j636, f_L_law_j674, f_L_law_j717, f_L_law_j745, f_L_law_j778, f_L_law_j816, f_L_law_j867, f_L_law_j852, f_L_law_j849, f_L_law_j893, f_L_law_j949, f_L_law_j972, f_L_law_j1000, f_L_law_j1028, f_L_law_j1056, f_L_law_j1084, f_L_law_j1107, f_L_law_j1135, f_L_law_j1275, f_L_law_j15, f_L_law_j11, f_L_law_j7, f_L_law_j3, s1, s2, s3, s4, s5, s6, q1, q2, q3, q4, q5, c1, c2, e1, e2]
  · -- stiff
    rw [xsw_at hv rfl]
    obtain ⟨r, σ1, σ2, e1, e2, hI2⟩ := h_stiff n σ hn5 hI (xs (i + 1)) (xs (i + 2))
    have c2 : xck σ1 183 12 = some () := by
      have m1 := m_X11_stiff e1
      have t1 : xT σ1 183 = xT σ 183 := by unfold xT; rw [m1.2 183 (hn n σ hI)]
      exact xck_ok (t1.trans hT.2)
    refine ⟨σ2, ?_, hI2⟩
    simp [f_L_law_j355, f_L_law_j327, f_L_law_j552, f_L_law_j585, f_L_law_j613, f_L_law_j636, f_L_law_j674, f_L_law_j717, f_L_law_j745, f_L_law_j778, f_L_law_j816, f_L_law_j867, f_L_law_j852, f_L_law_j849, f_L_law_j893, f_L_law_j949, f_L_law_j972, f_L_law_j1000, f_L_law_j1028, f_L_law_j1056, f_L_law_j1084, f_L_law_j1107, f_L_law_j1135, f_L_law_j1275, f_L_law_j15, f_L_law_j11, f_L_law_j7, f_L_law_j3, s1, s2, s3, s4, s5, s6, q1, q2, q3, q4, q5, c1, c2, e1, e2]
  · -- hill
    rw [xsw_at hv rfl]
    obtain ⟨r, σ1, σ2, e1, e2, hI2⟩ := h_hill n σ hn5 hI (xs (i + 1))
    have c2 : xck σ1 183 12 = some () := by
      have m1 := m_X11_hill e1
      have t1 : xT σ1 183 = xT σ 183 := by unfold xT; rw [m1.2 183 (hn n σ hI)]
      exact xck_ok (t1.trans hT.2)
    refine ⟨σ2, ?_, hI2⟩
    simp [f_L_law_j355, f_L_law_j327, f_L_law_j552, f_L_law_j585, f_L_law_j613, f_L_law_j636, f_L_law_j674, f_L_law_j717, f_L_law_j745, f_L_law_j778, f_L_law_j816, f_L_law_j867, f_L_law_j852, f_L_law_j849, f_L_law_j893, f_L_law_j949, f_L_law_j972, f_L_law_j1000, f_L_law_j1028, f_L_law_j1056, f_L_law_j1084, f_L_law_j1107, f_L_law_j1135, f_L_law_j1275, f_L_law_j15, f_L_law_j11, f_L_law_j7, f_L_law_j3, s1, s2, s3, s4, s5, s6, q1, q2, q3, q4, q5, c1, c2, e1, e2]
  · -- pass
    rw [xsw_at hv rfl]
    obtain ⟨r, σ1, σ2, e1, e2, hI2⟩ := h_pass n σ hn5 hI (xs (i + 1)) (xs (i + 2))
    have c2 : xck σ1 183 12 = some () := by
      have m1 := m_X11_pass e1
      have t1 : xT σ1 183 = xT σ 183 := by unfold xT; rw [m1.2 183 (hn n σ hI)]
      exact xck_ok (t1.trans hT.2)
    refine ⟨σ2, ?_, hI2⟩
    simp [f_L_law_j355, f_L_law_j327, f_L_law_j552, f_L_law_j585, f_L_law_j613, f_L_law_j636, f_L_law_j674, f_L_law_j717, f_L_law_j745, f_L_law_j778, f_L_law_j816, f_L_law_j867, f_L_law_j852, f_L_law_j849, f_L_law_j893, f_L_law_j949, f_L_law_j972, f_L_law_j1000, f_L_law_j1028, f_L_law_j1056, f_L_law_j1084, f_L_law_j1107, f_L_law_j1135, f_L_law_j1275, f_L_law_j15, f_L_law_j11, f_L_law_j7, f_L_law_j3, s1, s2, s3, s4, s5, s6, q1, q2, q3, q4, q5, c1, c2, e1, e2]
  · -- lakes
    rw [xsw_at hv rfl]
    obtain ⟨r, σ1, σ2, e1, e2, hI2⟩ := h_lakes n σ hn5 hI (xs (i + 1))
    have c2 : xck σ1 183 12 = some () := by
      have m1 := m_X11_lakes e1
      have t1 : xT σ1 183 = xT σ 183 := by unfold xT; rw [m1.2 183 (hn n σ hI)]
      exact xck_ok (t1.trans hT.2)
    refine ⟨σ2, ?_, hI2⟩
    simp [f_L_law_j355, f_L_law_j327, f_L_law_j552, f_L_law_j585, f_L_law_j613, f_L_law_j636, f_L_law_j674, f_L_law_j717, f_L_law_j745, f_L_law_j778, f_L_law_j816, f_L_law_j867, f_L_law_j852, f_L_law_j849, f_L_law_j893, f_L_law_j949, f_L_law_j972, f_L_law_j1000, f_L_law_j1028, f_L_law_j1056, f_L_law_j1084, f_L_law_j1107, f_L_law_j1135, f_L_law_j1275, f_L_law_j15, f_L_law_j11, f_L_law_j7, f_L_law_j3, s1, s2, s3, s4, s5, s6, q1, q2, q3, q4, q5, c1, c2, e1, e2]
  · -- down
    rw [xsw_at hv rfl]
    obtain ⟨r1, r2, σ1, σ2, e1, e2, hI2⟩ := h_down n σ hn5 hI (xs (i + 1))
    have c2 : xck σ1 183 12 = some () := by
      have m1 := m_X11_down e1
      have t1 : xT σ1 183 = xT σ 183 := by unfold xT; rw [m1.2 183 (hn n σ hI)]
      exact xck_ok (t1.trans hT.2)
    refine ⟨σ2, ?_, hI2⟩
    simp [f_L_law_j355, f_L_law_j327, f_L_law_j552, f_L_law_j585, f_L_law_j613, f_L_law_j636, f_L_law_j674, f_L_law_j717, f_L_law_j745, f_L_law_j778, f_L_law_j816, f_L_law_j867, f_L_law_j852, f_L_law_j849, f_L_law_j893, f_L_law_j949, f_L_law_j972, f_L_law_j1000, f_L_law_j1028, f_L_law_j1056, f_L_law_j1084, f_L_law_j1107, f_L_law_j1135, f_L_law_j1275, f_L_law_j15, f_L_law_j11, f_L_law_j7, f_L_law_j3, s1, s2, s3, s4, s5, s6, q1, q2, q3, q4, q5, c1, c2, e1, e2, lg_cmp_refl]
  · -- nearest
    rw [xsw_at hv rfl]
    obtain ⟨r, σ1, σ2, e1, e2, hI2⟩ := h_nearest n σ hn5 hI (xs (i + 1)) (xs (i + 2))
    have c2 : xck σ1 183 12 = some () := by
      have m1 := m_X11_nearest e1
      have t1 : xT σ1 183 = xT σ 183 := by unfold xT; rw [m1.2 183 (hn n σ hI)]
      exact xck_ok (t1.trans hT.2)
    refine ⟨σ2, ?_, hI2⟩
    simp [f_L_law_j355, f_L_law_j327, f_L_law_j552, f_L_law_j585, f_L_law_j613, f_L_law_j636, f_L_law_j674, f_L_law_j717, f_L_law_j745, f_L_law_j778, f_L_law_j816, f_L_law_j867, f_L_law_j852, f_L_law_j849, f_L_law_j893, f_L_law_j949, f_L_law_j972, f_L_law_j1000, f_L_law_j1028, f_L_law_j1056, f_L_law_j1084, f_L_law_j1107, f_L_law_j1135, f_L_law_j1275, f_L_law_j15, f_L_law_j11, f_L_law_j7, f_L_law_j3, s1, s2, s3, s4, s5, s6, q1, q2, q3, q4, q5, c1, c2, e1, e2]
  · -- cluster
    rw [xsw_at hv rfl]
    obtain ⟨r, e1, e2, hI2⟩ := h_cluster n σ hn5 hI (xs (i + 1))
    have c2 := xck_ok hT.2
    refine ⟨σ, ?_, hI2⟩
    simp [f_L_law_j355, f_L_law_j327, f_L_law_j552, f_L_law_j585, f_L_law_j613, f_L_law_j636, f_L_law_j674, f_L_law_j717, f_L_law_j745, f_L_law_j778, f_L_law_j816, f_L_law_j867, f_L_law_j852, f_L_law_j849, f_L_law_j893, f_L_law_j949, f_L_law_j972, f_L_law_j1000, f_L_law_j1028, f_L_law_j1056, f_L_law_j1084, f_L_law_j1107, f_L_law_j1135, f_L_law_j1275, f_L_law_j15, f_L_law_j11, f_L_law_j7, f_L_law_j3, s1, s2, s3, s4, s5, s6, q1, q2, q3, q4, q5, c1, c2, e1, e2]
  · -- wander
    rw [xsw_at hv rfl]
    obtain ⟨r, σ1, σ2, e1, e2, hI2⟩ := h_wander n σ hn5 hI (xs (i + 1)) (xs (i + 2)) (xs (i + 3))
    have c2 : xck σ1 183 12 = some () := by
      have m1 := m_X11_wander e1
      have t1 : xT σ1 183 = xT σ 183 := by unfold xT; rw [m1.1]
      exact xck_ok (t1.trans hT.2)
    refine ⟨σ2, ?_, hI2⟩
    simp [f_L_law_j355, f_L_law_j327, f_L_law_j552, f_L_law_j585, f_L_law_j613, f_L_law_j636, f_L_law_j674, f_L_law_j717, f_L_law_j745, f_L_law_j778, f_L_law_j816, f_L_law_j867, f_L_law_j852, f_L_law_j849, f_L_law_j893, f_L_law_j949, f_L_law_j972, f_L_law_j1000, f_L_law_j1028, f_L_law_j1056, f_L_law_j1084, f_L_law_j1107, f_L_law_j1135, f_L_law_j1275, f_L_law_j15, f_L_law_j11, f_L_law_j7, f_L_law_j3, s1, s2, s3, s4, s5, s6, q1, q2, q3, q4, q5, c1, c2, e1, e2]
  · -- hold
    rw [xsw_at hv rfl]
    obtain ⟨r, σ1, σ2, e1, e2, hI2⟩ := h_hold n σ hn5 hI (xs (i + 1))
    have c2 : xck σ1 183 12 = some () := by
      have m1 := m_X11_hold e1
      have t1 : xT σ1 183 = xT σ 183 := by unfold xT; rw [m1.1]
      exact xck_ok (t1.trans hT.2)
    refine ⟨σ2, ?_, hI2⟩
    simp [f_L_law_j355, f_L_law_j327, f_L_law_j552, f_L_law_j585, f_L_law_j613, f_L_law_j636, f_L_law_j674, f_L_law_j717, f_L_law_j745, f_L_law_j778, f_L_law_j816, f_L_law_j867, f_L_law_j852, f_L_law_j849, f_L_law_j893, f_L_law_j949, f_L_law_j972, f_L_law_j1000, f_L_law_j1028, f_L_law_j1056, f_L_law_j1084, f_L_law_j1107, f_L_law_j1135, f_L_law_j1275, f_L_law_j15, f_L_law_j11, f_L_law_j7, f_L_law_j3, s1, s2, s3, s4, s5, s6, q1, q2, q3, q4, q5, c1, c2, e1, e2]
  · -- restore
    rw [xsw_at hv rfl]
    obtain ⟨r, σ1, σ2, e1, e2, hI2⟩ := h_restore n σ hn5 hI (xs (i + 1))
    have c2 : xck σ1 183 12 = some () := by
      have m1 := m_X11_restore e1
      have t1 : xT σ1 183 = xT σ 183 := by unfold xT; rw [m1.1]
      exact xck_ok (t1.trans hT.2)
    refine ⟨σ2, ?_, hI2⟩
    simp [f_L_law_j355, f_L_law_j327, f_L_law_j552, f_L_law_j585, f_L_law_j613, f_L_law_j636, f_L_law_j674, f_L_law_j717, f_L_law_j745, f_L_law_j778, f_L_law_j816, f_L_law_j867, f_L_law_j852, f_L_law_j849, f_L_law_j893, f_L_law_j949, f_L_law_j972, f_L_law_j1000, f_L_law_j1028, f_L_law_j1056, f_L_law_j1084, f_L_law_j1107, f_L_law_j1135, f_L_law_j1275, f_L_law_j15, f_L_law_j11, f_L_law_j7, f_L_law_j3, s1, s2, s3, s4, s5, s6, q1, q2, q3, q4, q5, c1, c2, e1, e2]
  · -- count
    rw [xsw_at hv rfl]
    obtain ⟨r, σ1, e1, e2, hI2⟩ := h_count n σ hn5 hI (xs (i + 1))
    have c2 : xck σ1 183 12 = some () := by
      have m1 := m_X11_count e1
      have t1 : xT σ1 183 = xT σ 183 := by unfold xT; rw [m1.2 183 (hn n σ hI)]
      exact xck_ok (t1.trans hT.2)
    refine ⟨σ1, ?_, hI2⟩
    simp [f_L_law_j355, f_L_law_j327, f_L_law_j552, f_L_law_j585, f_L_law_j613, f_L_law_j636, f_L_law_j674, f_L_law_j717, f_L_law_j745, f_L_law_j778, f_L_law_j816, f_L_law_j867, f_L_law_j852, f_L_law_j849, f_L_law_j893, f_L_law_j949, f_L_law_j972, f_L_law_j1000, f_L_law_j1028, f_L_law_j1056, f_L_law_j1084, f_L_law_j1107, f_L_law_j1135, f_L_law_j1275, f_L_law_j15, f_L_law_j11, f_L_law_j7, f_L_law_j3, s1, s2, s3, s4, s5, s6, q1, q2, q3, q4, q5, c1, c2, e1, e2]
theorem law_last {INV : XS → Prop} {L i : Nat} {xs : Nat → Int32} {σ : XS} (hL : L ≤ 3072) (hi : L < i + 6) (hi2 : i ≤ L) (hI : INV σ) : ∃ τ, xloop (f_L_law_b18 L xs 1 183) (nI i, σ) = some (1, τ) ∧ INV τ := by
  have hc : (Int32.ofNat L) - (6 : Int32) < nI i := by
    rw [Int32.lt_iff_toInt_lt, nI_toInt (by omega)]
    have e1 : (Int32.ofNat L).toInt = (L : Int) := nI_toInt (n := L) (by omega)
    have e2 : (6 : Int32).toInt = 6 := rfl
    have e3 : ((Int32.ofNat L) - (6 : Int32)).toInt = (L : Int) - 6 := by
      rw [Int32.toInt_sub, e1, e2]
      exact Int.bmod_eq_of_le (by omega) (by omega)
    rw [e3]
    omega
  refine ⟨σ, xloop_end ?_, hI⟩
  simp only [f_L_law_b18, if_pos hc, Option.map_some]
theorem law_of {INV : Nat → XS → Prop} (hb : ∀ n σ, INV n σ → xT σ 1 = 11 ∧ xT σ 183 = 12) (hn : ∀ n σ, INV n σ → 183 ≤ xn σ) (hnop : ∀ n σ, INV n σ → INV (n + 1) σ) (hr : ∀ n σ, INV n σ → xn σ ≤ 600000 ∧ xz σ ≤ 7302250) (h0 : ∃ σ, INV 0 σ ∧ ∀ L xs, f_L_law L xs xs0 = xloop (f_L_law_b18 L xs 1 183) (0, σ))
    (h_feed : Op_feed INV)
    (h_back : Op_back INV)
    (h_read : Op_read INV)
    (h_place : Op_place INV)
    (h_tie : Op_tie INV)
    (h_pull : Op_pull INV)
    (h_pin : Op_pin INV)
    (h_glass : Op_glass INV)
    (h_turn : Op_turn INV)
    (h_fall : Op_fall INV)
    (h_undo : Op_undo INV)
    (h_site : Op_site INV)
    (h_level : Op_level INV)
    (h_both : Op_both INV)
    (h_broken : Op_broken INV)
    (h_ground : Op_ground INV)
    (h_pair : Op_pair INV)
    (h_mean : Op_mean INV)
    (h_value : Op_value INV)
    (h_joined : Op_joined INV)
    (h_state : Op_state INV)
    (h_stuck : Op_stuck INV)
    (h_rows : Op_rows INV)
    (h_square : Op_square INV)
    (h_overlap : Op_overlap INV)
    (h_basin : Op_basin INV)
    (h_stiff : Op_stiff INV)
    (h_hill : Op_hill INV)
    (h_pass : Op_pass INV)
    (h_lakes : Op_lakes INV)
    (h_down : Op_downW INV)
    (h_nearest : Op_nearest INV)
    (h_cluster : Op_cluster INV)
    (h_wander : Op_wander INV)
    (h_hold : Op_hold INV)
    (h_restore : Op_restore INV)
    (h_count : Op_count INV) : XLaw := by
  intro L xs hL
  obtain ⟨σ, hI, h0⟩ := h0
  rw [h0]
  have key : ∀ (m n : Nat) (σ : XS), L < 6 * n + m → 6 * n ≤ L → INV n σ → ∃ (k : Nat) (τ : XS), xloop (f_L_law_b18 L xs 1 183) (nI (6 * n), σ) = some (1, τ) ∧ INV k τ := by
    intro m
    induction m with
    | zero => intro n σ h hi2 hI; omega
    | succ m ih =>
      intro n σ h hi2 hI
      by_cases hi : 6 * n + 6 ≤ L
      · obtain ⟨τ, e, hI2⟩ := law_step hb hn hnop h_feed h_back h_read h_place h_tie h_pull h_pin h_glass h_turn h_fall h_undo h_site h_level h_both h_broken h_ground h_pair h_mean h_value h_joined h_state h_stuck h_rows h_square h_overlap h_basin h_stiff h_hill h_pass h_lakes h_down h_nearest h_cluster h_wander h_hold h_restore h_count hL hi (by omega) hI (xs := xs)
        rw [xloop_step e, show 6 * n + 6 = 6 * (n + 1) by omega]
        exact ih (n + 1) τ (by omega) (by omega) hI2
      · obtain ⟨τ, e, hI2⟩ := law_last (INV := INV n) (xs := xs) hL (by omega) hi2 hI
        exact ⟨n, τ, e, hI2⟩
  obtain ⟨k, τ, e, hI2⟩ := key (L + 1) 0 σ (by omega) (by omega) hI
  exact ⟨τ, e, (hr k τ hI2).1, (hr k τ hI2).2⟩
