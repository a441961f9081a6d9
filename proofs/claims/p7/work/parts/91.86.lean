theorem pcT_pC (s : Nat) : pcT s = pC s := by
  unfold pC pcT
  simp only [fb_ct, Nat.testBit_eq_decide_div_mod_eq]
  have h : ∀ x : Nat, x % 2 = if decide (x % 2 = 1) = true then 1 else 0 := by
    intro x
    by_cases q : x % 2 = 1
    · simp [q]
    · simp [q]; omega
  rw [h s, h (s / 2), h (s / 4), h (s / 8), h (s / 16), h (s / 32), h (s / 64), h (s / 128), h (s / 256), h (s / 512), h (s / 1024), h (s / 2048), h (s / 4096), h (s / 8192), h (s / 16384), h (s / 32768)]
  simp
theorem bitCount_ok {s : Nat} (hs : s < 65536) : f_J6_bitCount_0f7a4 (nI s) = some (nI (pC s)) := by
  have h := bCall_ok 8192 0 bC_all s (by omega) (by omega)
  simp only [bCt, Bool.and_eq_true] at h
  obtain ⟨⟨⟨⟨h1, h2⟩, h3⟩, h4⟩, h5⟩ := h
  have h1 : (s >>> 1) &&& 1431655765 ≤ s := Nat.le_of_ble_eq_true h1
  have h2 : bC1 s < 65536 := by
    have q : bC1 s ≤ 65535 := by simpa [Nat.blt] using h2
    omega
  have h3 : bC2 s < 65536 := by
    have q : bC2 s ≤ 65535 := by simpa [Nat.blt] using h3
    omega
  have h4 : bC3 s < 65536 := by
    have q : bC3 s ≤ 65535 := by simpa [Nat.blt] using h4
    omega
  have h5 : bC4 s &&& 63 = pcT s := Nat.eq_of_beq_eq_true h5
  have h0 : bC0 s < 65536 := by unfold bC0; omega
  unfold f_J6_bitCount_0f7a4
  have u1 : ((nI s).toUInt32 >>> ((1 : Int32).toUInt32 &&& Int32.toUInt32 31)).toInt32 = nI (s >>> 1) := nx_ush (j := 1) hs (by decide)
  have a0 : nI s - (nI (s >>> 1) &&& (1431655765 : Int32)) = nI (bC0 s) := by
    rw [show (1431655765 : Int32) = nI 1431655765 from rfl, nx_and, nn_sub h1]; rfl
  have u2 : ((nI (bC0 s)).toUInt32 >>> ((2 : Int32).toUInt32 &&& Int32.toUInt32 31)).toInt32 = nI (bC0 s >>> 2) := nx_ush (j := 2) h0 (by decide)
  have a1 : (nI (bC0 s) &&& (858993459 : Int32)) + (nI (bC0 s >>> 2) &&& (858993459 : Int32)) = nI (bC1 s) := by
    rw [show (858993459 : Int32) = nI 858993459 from rfl, nx_and, nx_and, nn_add]; rfl
  have u3 : ((nI (bC1 s)).toUInt32 >>> ((4 : Int32).toUInt32 &&& Int32.toUInt32 31)).toInt32 = nI (bC1 s >>> 4) := nx_ush (j := 4) h2 (by decide)
  have a2 : (nI (bC1 s) + nI (bC1 s >>> 4)) &&& (252645135 : Int32) = nI (bC2 s) := by
    rw [show (252645135 : Int32) = nI 252645135 from rfl, nn_add, nx_and]; rfl
  have u4 : ((nI (bC2 s)).toUInt32 >>> ((8 : Int32).toUInt32 &&& Int32.toUInt32 31)).toInt32 = nI (bC2 s >>> 8) := nx_ush (j := 8) h3 (by decide)
  have a3 : nI (bC2 s) + nI (bC2 s >>> 8) = nI (bC3 s) := by rw [nn_add]; rfl
  have u5 : ((nI (bC3 s)).toUInt32 >>> ((16 : Int32).toUInt32 &&& Int32.toUInt32 31)).toInt32 = nI (bC3 s >>> 16) := nx_ush (j := 16) h4 (by decide)
  have a4 : nI (bC3 s) + nI (bC3 s >>> 16) = nI (bC4 s) := by rw [nn_add]; rfl
  simp only [u1, a0, u2, a1, u3, a2, u4, a3, u5, a4]
  rw [show (63 : Int32) = nI 63 from rfl, nx_and, h5, pcT_pC]
theorem pC_16 (s : Nat) : pC s ≤ 16 := fb_ct_le _ _
