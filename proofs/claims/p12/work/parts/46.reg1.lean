theorem n_X11_pin {A : Nat → Prop} {σ : XS} {r0 : Nat} {x1 : Int32} {x2 : Int32} {x : Int32 × XS} (hA : Reg A σ) (hr0 : A r0) (hf : f_X11_pin σ r0 x1 x2 = some x) : Sm A σ x.2 ∧ Reg A x.2 := by
  have hm := Sm.rf (A := A) (σ := σ)
  obtain ⟨z2, e1, hf⟩ := xbd hf
  obtain ⟨_, e3, hf⟩ := xbd hf
  obtain ⟨v5, e4, hf⟩ := xbd hf
  by_cases q : v5 = 0
  · have hf := xip q hf
    have hf := xsj hf
    subst hf
    exact ⟨hm, hA⟩
  · have hf := xin q hf
    by_cases q : x2 < 0
    · have hf := xip q hf
      have hf := xsj hf
      subst hf
      exact ⟨hm, hA⟩
    · have hf := xin q hf
      by_cases q : (2 : Int32) < x2
      · have hf := xip q hf
        have hf := xsj hf
        subst hf
        exact ⟨hm, hA⟩
      · have hf := xin q hf
        obtain ⟨z7, e6, hf⟩ := xbd hf
        obtain ⟨_, e8, hf⟩ := xbd hf
        obtain ⟨v10, e9, hf⟩ := xbd hf
        by_cases q : v10 = x2
        · have hf := xip q hf
          have hf := xsj hf
          subst hf
          exact ⟨hm, hA⟩
        · have hf := xin q hf
          obtain ⟨z12, e11, hf⟩ := xbd hf
          have hz12 := xgR_reg rfl hA hr0 e11
          obtain ⟨z14, e13, hf⟩ := xbd hf
          obtain ⟨_, e15, hf⟩ := xbd hf
          obtain ⟨σ17, e16, hf⟩ := xbd hf
          obtain ⟨hm9, hA⟩ := n_X5_keep hA hz12 e16
          have hm := hm.tr hm9
          obtain ⟨z19, e18, hf⟩ := xbd hf
          have hz19 := xgR_reg rfl hA hr0 e18
          obtain ⟨_, e20, hf⟩ := xbd hf
          obtain ⟨σ22, e21, hf⟩ := xbd hf
          obtain ⟨hm9, hA⟩ := n_X6_setPin hA hz19 e21
          have hm := hm.tr hm9
          obtain ⟨z24, e23, hf⟩ := xbd hf
          have hz24 := xgR_reg rfl hA hr0 e23
          obtain ⟨z26, e25, hf⟩ := xbd hf
          obtain ⟨v28, e27, hf⟩ := xbd hf
          obtain ⟨z30, e29, hf⟩ := xbd hf
          obtain ⟨v32, e31, hf⟩ := xbd hf
          obtain ⟨z34, e33, hf⟩ := xbd hf
          obtain ⟨v36, e35, hf⟩ := xbd hf
          obtain ⟨σ38, e37, hf⟩ := xbd hf
          obtain ⟨hm9, hA⟩ := xpI_reg hA hz24 e37
          have hm := hm.tr hm9
          obtain ⟨_, e39, hf⟩ := xbd hf
          obtain ⟨σ41, e40, hf⟩ := xbd hf
          obtain ⟨hm9, hA⟩ := n_X11_stampPins hA hr0 e40
          have hm := hm.tr hm9
          have hf := xsj hf
          subst hf
          exact ⟨hm, hA⟩
theorem n_X6_setField {A : Nat → Prop} {σ : XS} {r0 : Nat} {x1 : Int32} {x2 : Int32} {x : XS} (hA : Reg A σ) (hr0 : A r0) (hf : f_X6_setField σ r0 x1 x2 = some x) : Sm A σ x ∧ Reg A x := by
  have hm := Sm.rf (A := A) (σ := σ)
  by_cases q : x1 < 0
  · have hf := xip q hf
    have hf := xsj hf
    subst hf
    exact ⟨hm, hA⟩
  · have hf := xin q hf
    obtain ⟨z2, e1, hf⟩ := xbd hf
    obtain ⟨v4, e3, hf⟩ := xbd hf
    by_cases q : v4 ≤ x1
    · have hf := xip q hf
      have hf := xsj hf
      subst hf
      exact ⟨hm, hA⟩
    · have hf := xin q hf
      obtain ⟨z6, e5, hf⟩ := xbd hf
      have hz6 := xgR_reg rfl hA hr0 e5
      obtain ⟨σ8, e7, hf⟩ := xbd hf
      obtain ⟨hm9, hA⟩ := xsI_reg hA hz6 e7
      have hm := hm.tr hm9
      have hf := xsj hf
      subst hf
      exact ⟨hm, hA⟩
theorem n_X11_pull {A : Nat → Prop} {σ : XS} {r0 : Nat} {x1 : Int32} {x2 : Int32} {x : Int32 × XS} (hA : Reg A σ) (hr0 : A r0) (hf : f_X11_pull σ r0 x1 x2 = some x) : Sm A σ x.2 ∧ Reg A x.2 := by
  have hm := Sm.rf (A := A) (σ := σ)
  obtain ⟨z2, e1, hf⟩ := xbd hf
  obtain ⟨_, e3, hf⟩ := xbd hf
  obtain ⟨v5, e4, hf⟩ := xbd hf
  by_cases q : v5 = 0
  · have hf := xip q hf
    have hf := xsj hf
    subst hf
    exact ⟨hm, hA⟩
  · have hf := xin q hf
    obtain ⟨v7, e6, hf⟩ := xbd hf
    by_cases q : v7 = 0
    · have hf := xip q hf
      have hf := xsj hf
      subst hf
      exact ⟨hm, hA⟩
    · have hf := xin q hf
      obtain ⟨z9, e8, hf⟩ := xbd hf
      obtain ⟨_, e10, hf⟩ := xbd hf
      obtain ⟨v12, e11, hf⟩ := xbd hf
      by_cases q : v12 = x2
      · have hf := xip q hf
        have hf := xsj hf
        subst hf
        exact ⟨hm, hA⟩
      · have hf := xin q hf
        obtain ⟨z14, e13, hf⟩ := xbd hf
        have hz14 := xgR_reg rfl hA hr0 e13
        obtain ⟨z16, e15, hf⟩ := xbd hf
        obtain ⟨_, e17, hf⟩ := xbd hf
        obtain ⟨σ19, e18, hf⟩ := xbd hf
        obtain ⟨hm9, hA⟩ := n_X5_keep hA hz14 e18
        have hm := hm.tr hm9
        obtain ⟨z21, e20, hf⟩ := xbd hf
        have hz21 := xgR_reg rfl hA hr0 e20
        obtain ⟨_, e22, hf⟩ := xbd hf
        obtain ⟨σ24, e23, hf⟩ := xbd hf
        obtain ⟨hm9, hA⟩ := n_X6_setField hA hz21 e23
        have hm := hm.tr hm9
        obtain ⟨_, e25, hf⟩ := xbd hf
        obtain ⟨σ27, e26, hf⟩ := xbd hf
        obtain ⟨hm9, hA⟩ := n_X11_stampTies hA hr0 e26
        have hm := hm.tr hm9
        have hf := xsj hf
        subst hf
        exact ⟨hm, hA⟩
theorem n_X6_clear {A : Nat → Prop} {σ : XS} {r0 : Nat} {x : XS} (hA : Reg A σ) (hr0 : A r0) (hf : f_X6_clear σ r0 = some x) : Sm A σ x ∧ Reg A x := by
  have hm := Sm.rf (A := A) (σ := σ)
  obtain ⟨z2, e1, hf⟩ := xbd hf
  have hz2 := xgR_reg rfl hA hr0 e1
  obtain ⟨σ4, e3, hf⟩ := xbd hf
  obtain ⟨hm9, hA⟩ := n_J7_fill_53178 hA hz2 e3
  have hm := hm.tr hm9
  obtain ⟨z6, e5, hf⟩ := xbd hf
  have hz6 := xgR_reg rfl hA hr0 e5
  obtain ⟨σ8, e7, hf⟩ := xbd hf
  obtain ⟨hm9, hA⟩ := n_J7_fill_53178 hA hz6 e7
  have hm := hm.tr hm9
  obtain ⟨σ10, e9, hf⟩ := xbd hf
  obtain ⟨hm9, hA⟩ := xpI_reg hA hr0 e9
  have hm := hm.tr hm9
  obtain ⟨σ12, e11, hf⟩ := xbd hf
  obtain ⟨hm9, hA⟩ := xpI_reg hA hr0 e11
  have hm := hm.tr hm9
  obtain ⟨σ14, e13, hf⟩ := xbd hf
  obtain ⟨hm9, hA⟩ := xpI_reg hA hr0 e13
  have hm := hm.tr hm9
  obtain ⟨σ16, e15, hf⟩ := xbd hf
  obtain ⟨hm9, hA⟩ := xpI_reg hA hr0 e15
  have hm := hm.tr hm9
  have hf := xsj hf
  subst hf
  exact ⟨hm, hA⟩
theorem n_X1_begin {A : Nat → Prop} {σ : XS} {r0 : Nat} {x : XS} (hA : Reg A σ) (hr0 : A r0) (hf : f_X1_begin σ r0 = some x) : Sm A σ x ∧ Reg A x := by
  have hm := Sm.rf (A := A) (σ := σ)
  obtain ⟨z2, e1, hf⟩ := xbd hf
  have hz2 := xgR_reg rfl hA hr0 e1
  obtain ⟨_, e3, hf⟩ := xbd hf
  obtain ⟨σ5, e4, hf⟩ := xbd hf
  obtain ⟨hm9, hA⟩ := n_X6_clear hA hz2 e4
  have hm := hm.tr hm9
  obtain ⟨σ7, e6, hf⟩ := xbd hf
  obtain ⟨hm9, hA⟩ := xpI_reg hA hr0 e6
  have hm := hm.tr hm9
  obtain ⟨σ9, e8, hf⟩ := xbd hf
  obtain ⟨hm9, hA⟩ := xpI_reg hA hr0 e8
  have hm := hm.tr hm9
  obtain ⟨σ11, e10, hf⟩ := xbd hf
  obtain ⟨hm9, hA⟩ := xpI_reg hA hr0 e10
  have hm := hm.tr hm9
  obtain ⟨σ13, e12, hf⟩ := xbd hf
  obtain ⟨hm9, hA⟩ := xpI_reg hA hr0 e12
  have hm := hm.tr hm9
  obtain ⟨σ15, e14, hf⟩ := xbd hf
  obtain ⟨hm9, hA⟩ := xpI_reg hA hr0 e14
  have hm := hm.tr hm9
  obtain ⟨σ17, e16, hf⟩ := xbd hf
  obtain ⟨hm9, hA⟩ := xpI_reg hA hr0 e16
  have hm := hm.tr hm9
  obtain ⟨σ19, e18, hf⟩ := xbd hf
  obtain ⟨hm9, hA⟩ := xpI_reg hA hr0 e18
  have hm := hm.tr hm9
  obtain ⟨σ21, e20, hf⟩ := xbd hf
  obtain ⟨hm9, hA⟩ := xpI_reg hA hr0 e20
  have hm := hm.tr hm9
  obtain ⟨σ23, e22, hf⟩ := xbd hf
  obtain ⟨hm9, hA⟩ := xpI_reg hA hr0 e22
  have hm := hm.tr hm9
  have hf := xsj hf
  subst hf
  exact ⟨hm, hA⟩
theorem n_X8_skipLetters_l0 {A : Nat → Prop} {r0 : Nat} {a : XS} {x : XS} (hA : Reg A a) (hr0 : A r0) (hf : xloop (f_X8_skipLetters_b0 r0) a = some x) : Sm A a x ∧ Reg A x := by
  revert hA
  refine xloop_ind (P := fun a => Reg A a → Sm A a x ∧ Reg A x) (fun a y hf hc he => ?_) hf
  obtain ⟨σ, rfl⟩ : ∃ z, z = a := ⟨_, rfl⟩
  intro hA
  have hA0 : Reg A σ := hA
  have hy : (∀ a' : XS, y = .inl a' → Sm A σ a' ∧ Reg A a') ∧ (∀ b1 : XS, y = .inr b1 → Sm A σ b1 ∧ Reg A b1) := by
    have hm := Sm.rf (A := A) (σ := σ)
    obtain ⟨v2, e1, hf⟩ := xbd hf
    obtain ⟨v4, e3, hf⟩ := xbd hf
    by_cases q : v4 ≤ v2
    · have hf := xip q hf
      obtain ⟨b0, hg, e9⟩ := xmj hf
      subst e9
      have hf := hg
      refine ⟨fun a' e => xnc2 e, fun b e => ?_⟩
      have h9 := Sum.inr.inj e
      subst h9
      have hf := xsj hf
      subst hf
      exact ⟨hm, hA⟩
    · have hf := xin q hf
      obtain ⟨v6, e5, hf⟩ := xbd hf
      obtain ⟨_, e7, hf⟩ := xbd hf
      obtain ⟨v9, e8, hf⟩ := xbd hf
      obtain ⟨v11, e10, hf⟩ := xbd hf
      by_cases q : v11 = 0
      · have hf := xip q hf
        obtain ⟨b0, hg, e9⟩ := xmj hf
        subst e9
        have hf := hg
        refine ⟨fun a' e => xnc2 e, fun b e => ?_⟩
        have h9 := Sum.inr.inj e
        subst h9
        have hf := xsj hf
        subst hf
        exact ⟨hm, hA⟩
      · have hf := xin q hf
        obtain ⟨v13, e12, hf⟩ := xbd hf
        obtain ⟨σ15, e14, hf⟩ := xbd hf
        obtain ⟨hm9, hA⟩ := xpI_reg hA hr0 e14
        have hm := hm.tr hm9
        have hf := xsj hf
        subst hf
        exact ⟨fun a' e => (by have h9 := Sum.inl.inj e; subst h9; exact ⟨hm, hA⟩), fun b e => xnc1 e⟩
  cases y with
  | inl a' =>
    obtain ⟨hm, hA1⟩ := hy.1 a' rfl
    have h1 := hc a' rfl hA1
    exact ⟨hm.tr (h1).1, (h1).2⟩
  | inr b =>
    have h1 := he b rfl
    subst h1
    exact hy.2 _ rfl
theorem n_X8_skipLetters {A : Nat → Prop} {σ : XS} {r0 : Nat} {x : XS} (hA : Reg A σ) (hr0 : A r0) (hf : f_X8_skipLetters σ r0 = some x) : Sm A σ x ∧ Reg A x := by
  have hm := Sm.rf (A := A) (σ := σ)
  exact ⟨hm.tr (n_X8_skipLetters_l0 (a := σ) hA hr0 hf).1, (n_X8_skipLetters_l0 (a := σ) hA hr0 hf).2⟩
theorem n_X8_findInt_l70 {A : Nat → Prop} {r0 : Nat} {a : Int32 × XS} {x : XS} (hA : Reg A a.2) (hr0 : A r0) (hf : xloop (f_X8_findInt_b70 r0) a = some x) : Sm A a.2 x ∧ Reg A x := by
  revert hA
  refine xloop_ind (P := fun a => Reg A a.2 → Sm A a.2 x ∧ Reg A x) (fun a y hf hc he => ?_) hf
  obtain ⟨x1, σ⟩ := a
  intro hA
  have hA0 : Reg A σ := hA
  have hy : (∀ a' : Int32 × XS, y = .inl a' → Sm A σ a'.2 ∧ Reg A a'.2) ∧ (∀ b1 : XS, y = .inr b1 → Sm A σ b1 ∧ Reg A b1) := by
    have hm := Sm.rf (A := A) (σ := σ)
    obtain ⟨v2, e1, hf⟩ := xbd hf
    by_cases q : v2 = (2 : Int32)
    · have hf := xip q hf
      obtain ⟨v4, e3, hf⟩ := xbd hf
      by_cases q : v4 ≤ x1
      · have hf := xip q hf
        obtain ⟨b0, hg, e9⟩ := xmj hf
        subst e9
        have hf := hg
        refine ⟨fun a' e => xnc2 e, fun b e => ?_⟩
        have h9 := Sum.inr.inj e
        subst h9
        have hf := xsj hf
        subst hf
        exact ⟨hm, hA⟩
      · have hf := xin q hf
        obtain ⟨v6, e5, hf⟩ := xbd hf
        obtain ⟨_, e7, hf⟩ := xbd hf
        obtain ⟨v9, e8, hf⟩ := xbd hf
        obtain ⟨σ11, e10, hf⟩ := xbd hf
        obtain ⟨hm9, hA⟩ := xpI_reg hA hr0 e10
        have hm := hm.tr hm9
        have hf := xsj hf
        subst hf
        exact ⟨fun a' e => (by have h9 := Sum.inl.inj e; subst h9; exact ⟨hm, hA⟩), fun b e => xnc1 e⟩
    · have hf := xin q hf
      obtain ⟨b0, hg, e9⟩ := xmj hf
      subst e9
      have hf := hg
      refine ⟨fun a' e => xnc2 e, fun b e => ?_⟩
      have h9 := Sum.inr.inj e
      subst h9
      have hf := xsj hf
      subst hf
      exact ⟨hm, hA⟩
  cases y with
  | inl a' =>
    obtain ⟨hm, hA1⟩ := hy.1 a' rfl
    have h1 := hc a' rfl hA1
    exact ⟨hm.tr (h1).1, (h1).2⟩
  | inr b =>
    have h1 := he b rfl
    subst h1
    exact hy.2 _ rfl
theorem n_X8_findInt_j57 {A : Nat → Prop} {σ : XS} {r0 : Nat} {t0 : Nat} {t1 : Int32} {x : XS} (hA : Reg A σ) (hr0 : A r0) (ht0 : A t0) (hf : f_X8_findInt_j57 σ r0 t0 t1 = some x) : Sm A σ x ∧ Reg A x := by
  have hm := Sm.rf (A := A) (σ := σ)
  obtain ⟨σ2, e1, hf⟩ := xbd hf
  obtain ⟨hm9, hA⟩ := xpI_reg hA ht0 e1
  have hm := hm.tr hm9
  obtain ⟨σ4, e3, hf⟩ := xbd hf
  obtain ⟨hm9, hA⟩ := xpI_reg hA hr0 e3
  have hm := hm.tr hm9
  obtain ⟨v6, e5, hf⟩ := xbd hf
  exact ⟨hm.tr (n_X8_findInt_l70 (a := (v6, σ4)) hA hr0 hf).1, (n_X8_findInt_l70 (a := (v6, σ4)) hA hr0 hf).2⟩
theorem n_X8_findInt_j38 {A : Nat → Prop} {σ : XS} {r0 : Nat} {x : XS} (hA : Reg A σ) (hr0 : A r0) (hf : f_X8_findInt_j38 σ r0 = some x) : Sm A σ x ∧ Reg A x := by
  have hm := Sm.rf (A := A) (σ := σ)
  obtain ⟨v2, e1, hf⟩ := xbd hf
  obtain ⟨v4, e3, hf⟩ := xbd hf
  by_cases q : (4 : Int32) < (v2 - v4)
  · have hf := xip q hf
    exact ⟨hm.tr (n_X8_findInt_j57 hA hr0 hr0 hf).1, (n_X8_findInt_j57 hA hr0 hr0 hf).2⟩
  · have hf := xin q hf
    exact ⟨hm.tr (n_X8_findInt_j57 hA hr0 hr0 hf).1, (n_X8_findInt_j57 hA hr0 hr0 hf).2⟩
theorem n_X8_findInt_l0 {A : Nat → Prop} {r0 : Nat} {a : XS} {x : XS} (hA : Reg A a) (hr0 : A r0) (hf : xloop (f_X8_findInt_b0 r0) a = some x) : Sm A a x ∧ Reg A x := by
  revert hA
  refine xloop_ind (P := fun a => Reg A a → Sm A a x ∧ Reg A x) (fun a y hf hc he => ?_) hf
  obtain ⟨σ, rfl⟩ : ∃ z, z = a := ⟨_, rfl⟩
  intro hA
  have hA0 : Reg A σ := hA
  have hy : (∀ a' : XS, y = .inl a' → Sm A σ a' ∧ Reg A a') ∧ (∀ b1 : XS, y = .inr b1 → Sm A σ b1 ∧ Reg A b1) := by
    have hm := Sm.rf (A := A) (σ := σ)
    obtain ⟨v2, e1, hf⟩ := xbd hf
    obtain ⟨v4, e3, hf⟩ := xbd hf
    by_cases q : v4 ≤ v2
    · have hf := xip q hf
      obtain ⟨b0, hg, e9⟩ := xmj hf
      subst e9
      have hf := hg
      refine ⟨fun a' e => xnc2 e, fun b e => ?_⟩
      have h9 := Sum.inr.inj e
      subst h9
      exact ⟨hm.tr (n_X8_findInt_j38 hA hr0 hf).1, (n_X8_findInt_j38 hA hr0 hf).2⟩
    · have hf := xin q hf
      obtain ⟨v6, e5, hf⟩ := xbd hf
      obtain ⟨_, e7, hf⟩ := xbd hf
      obtain ⟨v9, e8, hf⟩ := xbd hf
      obtain ⟨v11, e10, hf⟩ := xbd hf
      by_cases q : v11 = 0
      · have hf := xip q hf
        obtain ⟨b0, hg, e9⟩ := xmj hf
        subst e9
        have hf := hg
        refine ⟨fun a' e => xnc2 e, fun b e => ?_⟩
        have h9 := Sum.inr.inj e
        subst h9
        exact ⟨hm.tr (n_X8_findInt_j38 hA hr0 hf).1, (n_X8_findInt_j38 hA hr0 hf).2⟩
      · have hf := xin q hf
        obtain ⟨v13, e12, hf⟩ := xbd hf
        obtain ⟨σ15, e14, hf⟩ := xbd hf
        obtain ⟨hm9, hA⟩ := xpI_reg hA hr0 e14
        have hm := hm.tr hm9
        have hf := xsj hf
        subst hf
        exact ⟨fun a' e => (by have h9 := Sum.inl.inj e; subst h9; exact ⟨hm, hA⟩), fun b e => xnc1 e⟩
  cases y with
  | inl a' =>
    obtain ⟨hm, hA1⟩ := hy.1 a' rfl
    have h1 := hc a' rfl hA1
    exact ⟨hm.tr (h1).1, (h1).2⟩
  | inr b =>
    have h1 := he b rfl
    subst h1
    exact hy.2 _ rfl
theorem n_X8_findInt {A : Nat → Prop} {σ : XS} {r0 : Nat} {x : XS} (hA : Reg A σ) (hr0 : A r0) (hf : f_X8_findInt σ r0 = some x) : Sm A σ x ∧ Reg A x := by
  have hm := Sm.rf (A := A) (σ := σ)
  exact ⟨hm.tr (n_X8_findInt_l0 (a := σ) hA hr0 hf).1, (n_X8_findInt_l0 (a := σ) hA hr0 hf).2⟩
theorem n_X8_findToken_j43 {A : Nat → Prop} {σ : XS} {r0 : Nat} {x : XS} (hA : Reg A σ) (hr0 : A r0) (hf : f_X8_findToken_j43 σ r0 = some x) : Sm A σ x ∧ Reg A x := by
  have hm := Sm.rf (A := A) (σ := σ)
  obtain ⟨v2, e1, hf⟩ := xbd hf
  obtain ⟨_, e3, hf⟩ := xbd hf
  obtain ⟨v5, e4, hf⟩ := xbd hf
  obtain ⟨v7, e6, hf⟩ := xbd hf
  obtain ⟨σ9, e8, hf⟩ := xbd hf
  obtain ⟨hm9, hA⟩ := xpI_reg hA hr0 e8
  have hm := hm.tr hm9
  obtain ⟨v11, e10, hf⟩ := xbd hf
  obtain ⟨v13, e12, hf⟩ := xbd hf
  by_cases q : v11 < v13
  · have hf := xip q hf
    obtain ⟨v15, e14, hf⟩ := xbd hf
    by_cases q : v15 = 0
    · have hf := xip q hf
      obtain ⟨v17, e16, hf⟩ := xbd hf
      by_cases q : v17 = 0
      · have hf := xip q hf
        by_cases q : v5 = (45 : Int32)
        · have hf := xip q hf
          obtain ⟨σ19, e18, hf⟩ := xbd hf
          obtain ⟨hm9, hA⟩ := xpI_reg hA hr0 e18
          have hm := hm.tr hm9
          have hf := xsj hf
          subst hf
          exact ⟨hm, hA⟩
        · have hf := xin q hf
          by_cases q : v5 = (59 : Int32)
          · have hf := xip q hf
            obtain ⟨σ19, e18, hf⟩ := xbd hf
            obtain ⟨hm9, hA⟩ := xpI_reg hA hr0 e18
            have hm := hm.tr hm9
            have hf := xsj hf
            subst hf
            exact ⟨hm, hA⟩
          · have hf := xin q hf
            obtain ⟨σ19, e18, hf⟩ := xbd hf
            obtain ⟨hm9, hA⟩ := xpI_reg hA hr0 e18
            have hm := hm.tr hm9
            have hf := xsj hf
            subst hf
            exact ⟨hm, hA⟩
      · have hf := xin q hf
        obtain ⟨_, e18, hf⟩ := xbd hf
        obtain ⟨σ20, e19, hf⟩ := xbd hf
        obtain ⟨hm9, hA⟩ := n_X8_findInt hA hr0 e19
        have hm := hm.tr hm9
        have hf := xsj hf
        subst hf
        exact ⟨hm, hA⟩
    · have hf := xin q hf
      obtain ⟨_, e16, hf⟩ := xbd hf
      obtain ⟨σ18, e17, hf⟩ := xbd hf
      obtain ⟨hm9, hA⟩ := n_X8_skipLetters hA hr0 e17
      have hm := hm.tr hm9
      obtain ⟨_, e19, hf⟩ := xbd hf
      obtain ⟨v21, e20, hf⟩ := xbd hf
      obtain ⟨σ23, e22, hf⟩ := xbd hf
      obtain ⟨hm9, hA⟩ := xpI_reg hA hr0 e22
      have hm := hm.tr hm9
      have hf := xsj hf
      subst hf
      exact ⟨hm, hA⟩
  · have hf := xin q hf
    obtain ⟨v15, e14, hf⟩ := xbd hf
    obtain ⟨σ17, e16, hf⟩ := xbd hf
    obtain ⟨hm9, hA⟩ := xpI_reg hA hr0 e16
    have hm := hm.tr hm9
    obtain ⟨σ19, e18, hf⟩ := xbd hf
    obtain ⟨hm9, hA⟩ := xpI_reg hA hr0 e18
    have hm := hm.tr hm9
    have hf := xsj hf
    subst hf
    exact ⟨hm, hA⟩
theorem n_X8_findToken_l5 {A : Nat → Prop} {r0 : Nat} {a : XS} {x : XS} (hA : Reg A a) (hr0 : A r0) (hf : xloop (f_X8_findToken_b5 r0) a = some x) : Sm A a x ∧ Reg A x := by
  revert hA
  refine xloop_ind (P := fun a => Reg A a → Sm A a x ∧ Reg A x) (fun a y hf hc he => ?_) hf
  obtain ⟨σ, rfl⟩ : ∃ z, z = a := ⟨_, rfl⟩
  intro hA
  have hA0 : Reg A σ := hA
  have hy : (∀ a' : XS, y = .inl a' → Sm A σ a' ∧ Reg A a') ∧ (∀ b1 : XS, y = .inr b1 → Sm A σ b1 ∧ Reg A b1) := by
    have hm := Sm.rf (A := A) (σ := σ)
    obtain ⟨v2, e1, hf⟩ := xbd hf
    obtain ⟨v4, e3, hf⟩ := xbd hf
    by_cases q : v4 ≤ v2
    · have hf := xip q hf
      obtain ⟨b0, hg, e9⟩ := xmj hf
      subst e9
      have hf := hg
      refine ⟨fun a' e => xnc2 e, fun b e => ?_⟩
      have h9 := Sum.inr.inj e
      subst h9
      exact ⟨hm.tr (n_X8_findToken_j43 hA hr0 hf).1, (n_X8_findToken_j43 hA hr0 hf).2⟩
    · have hf := xin q hf
      obtain ⟨v6, e5, hf⟩ := xbd hf
      obtain ⟨_, e7, hf⟩ := xbd hf
      obtain ⟨v9, e8, hf⟩ := xbd hf
      obtain ⟨v11, e10, hf⟩ := xbd hf
      by_cases q : v11 = 0
      · have hf := xip q hf
        obtain ⟨b0, hg, e9⟩ := xmj hf
        subst e9
        have hf := hg
        refine ⟨fun a' e => xnc2 e, fun b e => ?_⟩
        have h9 := Sum.inr.inj e
        subst h9
        exact ⟨hm.tr (n_X8_findToken_j43 hA hr0 hf).1, (n_X8_findToken_j43 hA hr0 hf).2⟩
      · have hf := xin q hf
        obtain ⟨v13, e12, hf⟩ := xbd hf
        obtain ⟨σ15, e14, hf⟩ := xbd hf
        obtain ⟨hm9, hA⟩ := xpI_reg hA hr0 e14
        have hm := hm.tr hm9
        have hf := xsj hf
        subst hf
        exact ⟨fun a' e => (by have h9 := Sum.inl.inj e; subst h9; exact ⟨hm, hA⟩), fun b e => xnc1 e⟩
  cases y with
  | inl a' =>
    obtain ⟨hm, hA1⟩ := hy.1 a' rfl
    have h1 := hc a' rfl hA1
    exact ⟨hm.tr (h1).1, (h1).2⟩
  | inr b =>
    have h1 := he b rfl
    subst h1
    exact hy.2 _ rfl
theorem n_X8_findToken {A : Nat → Prop} {σ : XS} {r0 : Nat} {x1 : Int32} {x : XS} (hA : Reg A σ) (hr0 : A r0) (hf : f_X8_findToken σ r0 x1 = some x) : Sm A σ x ∧ Reg A x := by
  have hm := Sm.rf (A := A) (σ := σ)
  obtain ⟨σ2, e1, hf⟩ := xbd hf
  obtain ⟨hm9, hA⟩ := xpI_reg hA hr0 e1
  have hm := hm.tr hm9
  exact ⟨hm.tr (n_X8_findToken_l5 (a := σ2) hA hr0 hf).1, (n_X8_findToken_l5 (a := σ2) hA hr0 hf).2⟩
theorem n_X8_keepToken {A : Nat → Prop} {σ : XS} {r0 : Nat} {x : XS} (hA : Reg A σ) (hr0 : A r0) (hf : f_X8_keepToken σ r0 = some x) : Sm A σ x ∧ Reg A x := by
  have hm := Sm.rf (A := A) (σ := σ)
  obtain ⟨v2, e1, hf⟩ := xbd hf
  by_cases q : v2 < 0
  · have hf := xip q hf
    have hf := xsj hf
    subst hf
    exact ⟨hm, hA⟩
  · have hf := xin q hf
    obtain ⟨v4, e3, hf⟩ := xbd hf
    by_cases q : (400 : Int32) ≤ v4
    · have hf := xip q hf
      have hf := xsj hf
      subst hf
      exact ⟨hm, hA⟩
    · have hf := xin q hf
      obtain ⟨z6, e5, hf⟩ := xbd hf
      have hz6 := xgR_reg rfl hA hr0 e5
      obtain ⟨v8, e7, hf⟩ := xbd hf
      obtain ⟨v10, e9, hf⟩ := xbd hf
      obtain ⟨σ12, e11, hf⟩ := xbd hf
      obtain ⟨hm9, hA⟩ := xsI_reg hA hz6 e11
      have hm := hm.tr hm9
      obtain ⟨z14, e13, hf⟩ := xbd hf
      have hz14 := xgR_reg rfl hA hr0 e13
      obtain ⟨v16, e15, hf⟩ := xbd hf
      obtain ⟨v18, e17, hf⟩ := xbd hf
      obtain ⟨σ20, e19, hf⟩ := xbd hf
      obtain ⟨hm9, hA⟩ := xsI_reg hA hz14 e19
      have hm := hm.tr hm9
      obtain ⟨z22, e21, hf⟩ := xbd hf
      have hz22 := xgR_reg rfl hA hr0 e21
      obtain ⟨v24, e23, hf⟩ := xbd hf
      obtain ⟨v26, e25, hf⟩ := xbd hf
      obtain ⟨σ28, e27, hf⟩ := xbd hf
      obtain ⟨hm9, hA⟩ := xsI_reg hA hz22 e27
      have hm := hm.tr hm9
      obtain ⟨v30, e29, hf⟩ := xbd hf
      obtain ⟨σ32, e31, hf⟩ := xbd hf
      obtain ⟨hm9, hA⟩ := xpI_reg hA hr0 e31
      have hm := hm.tr hm9
      have hf := xsj hf
      subst hf
      exact ⟨hm, hA⟩
theorem n_X8_cut_l14 {A : Nat → Prop} {r0 : Nat} {a : Int32 × Int32 × XS} {x : Int32 × XS} (hA : Reg A a.2.2) (hr0 : A r0) (hf : xloop (f_X8_cut_b14 r0) a = some x) : Sm A a.2.2 x.2 ∧ Reg A x.2 := by
  revert hA
  refine xloop_ind (P := fun a => Reg A a.2.2 → Sm A a.2.2 x.2 ∧ Reg A x.2) (fun a y hf hc he => ?_) hf
  obtain ⟨x1, x2, σ⟩ := a
  intro hA
  have hA0 : Reg A σ := hA
  have hy : (∀ a' : Int32 × Int32 × XS, y = .inl a' → Sm A σ a'.2.2 ∧ Reg A a'.2.2) ∧ (∀ b1 : Int32 × XS, y = .inr b1 → Sm A σ b1.2 ∧ Reg A b1.2) := by
    have hm := Sm.rf (A := A) (σ := σ)
    by_cases q : (400 : Int32) < x2
    · have hf := xip q hf
      obtain ⟨b0, hg, e9⟩ := xmj hf
      subst e9
      have hf := hg
      refine ⟨fun a' e => xnc2 e, fun b e => ?_⟩
      have h9 := Sum.inr.inj e
      subst h9
      have hf := xsj hf
      subst hf
      exact ⟨hm, hA⟩
    · have hf := xin q hf
      obtain ⟨v2, e1, hf⟩ := xbd hf
      obtain ⟨_, e3, hf⟩ := xbd hf
      obtain ⟨σ5, e4, hf⟩ := xbd hf
      obtain ⟨hm9, hA⟩ := n_X8_findToken hA hr0 e4
      have hm := hm.tr hm9
      obtain ⟨v7, e6, hf⟩ := xbd hf
      by_cases q : v7 = 0
      · have hf := xip q hf
        obtain ⟨b0, hg, e9⟩ := xmj hf
        subst e9
        have hf := hg
        refine ⟨fun a' e => xnc2 e, fun b e => ?_⟩
        have h9 := Sum.inr.inj e
        subst h9
        by_cases q : x1 = (4 : Int32)
        · have hf := xip q hf
          have hf := xsj hf
          subst hf
          exact ⟨hm, hA⟩
        · have hf := xin q hf
          have hf := xsj hf
          subst hf
          exact ⟨hm, hA⟩
      · have hf := xin q hf
        obtain ⟨v9, e8, hf⟩ := xbd hf
        obtain ⟨v11, e10, hf⟩ := xbd hf
        by_cases q : v11 = (-1 : Int32)
        · have hf := xip q hf
          obtain ⟨b0, hg, e9⟩ := xmj hf
          subst e9
          have hf := hg
          refine ⟨fun a' e => xnc2 e, fun b e => ?_⟩
          have h9 := Sum.inr.inj e
          subst h9
          have hf := xsj hf
          subst hf
          exact ⟨hm, hA⟩
        · have hf := xin q hf
          obtain ⟨_, e12, hf⟩ := xbd hf
          obtain ⟨σ14, e13, hf⟩ := xbd hf
          obtain ⟨hm9, hA⟩ := n_X8_keepToken hA hr0 e13
          have hm := hm.tr hm9
          have hf := xsj hf
          subst hf
          exact ⟨fun a' e => (by have h9 := Sum.inl.inj e; subst h9; exact ⟨hm, hA⟩), fun b e => xnc1 e⟩
  cases y with
  | inl a' =>
    obtain ⟨hm, hA1⟩ := hy.1 a' rfl
    have h1 := hc a' rfl hA1
    exact ⟨hm.tr (h1).1, (h1).2⟩
  | inr b =>
    have h1 := he b rfl
    subst h1
    exact hy.2 _ rfl
theorem n_X8_cut {A : Nat → Prop} {σ : XS} {r0 : Nat} {x : Int32 × XS} (hA : Reg A σ) (hr0 : A r0) (hf : f_X8_cut σ r0 = some x) : Sm A σ x.2 ∧ Reg A x.2 := by
  have hm := Sm.rf (A := A) (σ := σ)
  obtain ⟨σ2, e1, hf⟩ := xbd hf
  obtain ⟨hm9, hA⟩ := xpI_reg hA hr0 e1
  have hm := hm.tr hm9
  obtain ⟨σ4, e3, hf⟩ := xbd hf
  obtain ⟨hm9, hA⟩ := xpI_reg hA hr0 e3
  have hm := hm.tr hm9
  exact ⟨hm.tr (n_X8_cut_l14 (a := ((0 : Int32), (0 : Int32), σ4)) hA hr0 hf).1, (n_X8_cut_l14 (a := ((0 : Int32), (0 : Int32), σ4)) hA hr0 hf).2⟩
theorem n_X1_blame {A : Nat → Prop} {σ : XS} {r0 : Nat} {x1 : Int32} {x2 : Int32} {x : XS} (hA : Reg A σ) (hr0 : A r0) (hf : f_X1_blame σ r0 x1 x2 = some x) : Sm A σ x ∧ Reg A x := by
  have hm := Sm.rf (A := A) (σ := σ)
  obtain ⟨v2, e1, hf⟩ := xbd hf
  by_cases q : v2 = 0
  · have hf := xip q hf
    obtain ⟨σ4, e3, hf⟩ := xbd hf
    obtain ⟨hm9, hA⟩ := xpI_reg hA hr0 e3
    have hm := hm.tr hm9
    obtain ⟨σ6, e5, hf⟩ := xbd hf
    obtain ⟨hm9, hA⟩ := xpI_reg hA hr0 e5
    have hm := hm.tr hm9
    have hf := xsj hf
    subst hf
    exact ⟨hm, hA⟩
  · have hf := xin q hf
    have hf := xsj hf
    subst hf
    exact ⟨hm, hA⟩
theorem n_X1_takeKind {A : Nat → Prop} {σ : XS} {r0 : Nat} {x : Int32 × XS} (hA : Reg A σ) (hr0 : A r0) (hf : f_X1_takeKind σ r0 = some x) : Sm A σ x.2 ∧ Reg A x.2 := by
  have hm := Sm.rf (A := A) (σ := σ)
  obtain ⟨z2, e1, hf⟩ := xbd hf
  obtain ⟨v4, e3, hf⟩ := xbd hf
  obtain ⟨_, e5, hf⟩ := xbd hf
  obtain ⟨v7, e6, hf⟩ := xbd hf
  obtain ⟨v9, e8, hf⟩ := xbd hf
  obtain ⟨σ11, e10, hf⟩ := xbd hf
  obtain ⟨hm9, hA⟩ := xpI_reg hA hr0 e10
  have hm := hm.tr hm9
  have hf := xsj hf
  subst hf
  exact ⟨hm, hA⟩
theorem n_X1_takeInt {A : Nat → Prop} {σ : XS} {r0 : Nat} {x : Int32 × XS} (hA : Reg A σ) (hr0 : A r0) (hf : f_X1_takeInt σ r0 = some x) : Sm A σ x.2 ∧ Reg A x.2 := by
  have hm := Sm.rf (A := A) (σ := σ)
  obtain ⟨z2, e1, hf⟩ := xbd hf
  obtain ⟨v4, e3, hf⟩ := xbd hf
  obtain ⟨_, e5, hf⟩ := xbd hf
  obtain ⟨v7, e6, hf⟩ := xbd hf
  obtain ⟨v9, e8, hf⟩ := xbd hf
  obtain ⟨σ11, e10, hf⟩ := xbd hf
  obtain ⟨hm9, hA⟩ := xpI_reg hA hr0 e10
  have hm := hm.tr hm9
  have hf := xsj hf
  subst hf
  exact ⟨hm, hA⟩
theorem n_X1_takeSize_j104 {A : Nat → Prop} {σ : XS} {r0 : Nat} {x : XS} (hA : Reg A σ) (hr0 : A r0) (hf : f_X1_takeSize_j104 σ r0 = some x) : Sm A σ x ∧ Reg A x := by
  have hm := Sm.rf (A := A) (σ := σ)
  obtain ⟨_, e1, hf⟩ := xbd hf
  obtain ⟨⟨v4, σ3⟩, e2, hf⟩ := xbd hf
  dsimp only at hf
  obtain ⟨hm9, hA⟩ := n_X1_takeKind hA hr0 e2
  have hm := hm.tr hm9
  have hf := xsj hf
  subst hf
  exact ⟨hm, hA⟩
theorem n_X1_takeSize_j86 {A : Nat → Prop} {σ : XS} {r0 : Nat} {x : XS} (hA : Reg A σ) (hr0 : A r0) (hf : f_X1_takeSize_j86 σ r0 = some x) : Sm A σ x ∧ Reg A x := by
  have hm := Sm.rf (A := A) (σ := σ)
  obtain ⟨z2, e1, hf⟩ := xbd hf
  obtain ⟨v4, e3, hf⟩ := xbd hf
  obtain ⟨_, e5, hf⟩ := xbd hf
  obtain ⟨v7, e6, hf⟩ := xbd hf
  obtain ⟨_, e8, hf⟩ := xbd hf
  obtain ⟨σ10, e9, hf⟩ := xbd hf
  obtain ⟨hm9, hA⟩ := n_X1_blame hA hr0 e9
  have hm := hm.tr hm9
  exact ⟨hm.tr (n_X1_takeSize_j104 hA hr0 hf).1, (n_X1_takeSize_j104 hA hr0 hf).2⟩
theorem n_X1_takeSize_j47 {A : Nat → Prop} {σ : XS} {r0 : Nat} {x : XS} (hA : Reg A σ) (hr0 : A r0) (hf : f_X1_takeSize_j47 σ r0 = some x) : Sm A σ x ∧ Reg A x := by
  have hm := Sm.rf (A := A) (σ := σ)
  obtain ⟨_, e1, hf⟩ := xbd hf
  obtain ⟨⟨v4, σ3⟩, e2, hf⟩ := xbd hf
  dsimp only at hf
  obtain ⟨hm9, hA⟩ := n_X1_takeInt hA hr0 e2
  have hm := hm.tr hm9
  obtain ⟨σ6, e5, hf⟩ := xbd hf
  obtain ⟨hm9, hA⟩ := xpI_reg hA hr0 e5
  have hm := hm.tr hm9
  obtain ⟨v8, e7, hf⟩ := xbd hf
  by_cases q : v8 < (1 : Int32)
  · have hf := xip q hf
    exact ⟨hm.tr (n_X1_takeSize_j86 hA hr0 hf).1, (n_X1_takeSize_j86 hA hr0 hf).2⟩
  · have hf := xin q hf
    obtain ⟨v10, e9, hf⟩ := xbd hf
    by_cases q : (16 : Int32) < v10
    · have hf := xip q hf
      exact ⟨hm.tr (n_X1_takeSize_j86 hA hr0 hf).1, (n_X1_takeSize_j86 hA hr0 hf).2⟩
    · have hf := xin q hf
      obtain ⟨v12, e11, hf⟩ := xbd hf
      obtain ⟨v14, e13, hf⟩ := xbd hf
      by_cases q : (v12 * v14) ≤ (16 : Int32)
      · have hf := xip q hf
        exact ⟨hm.tr (n_X1_takeSize_j104 hA hr0 hf).1, (n_X1_takeSize_j104 hA hr0 hf).2⟩
      · have hf := xin q hf
        exact ⟨hm.tr (n_X1_takeSize_j86 hA hr0 hf).1, (n_X1_takeSize_j86 hA hr0 hf).2⟩
theorem n_X1_takeSize_j29 {A : Nat → Prop} {σ : XS} {r0 : Nat} {x : XS} (hA : Reg A σ) (hr0 : A r0) (hf : f_X1_takeSize_j29 σ r0 = some x) : Sm A σ x ∧ Reg A x := by
  have hm := Sm.rf (A := A) (σ := σ)
  obtain ⟨z2, e1, hf⟩ := xbd hf
  obtain ⟨v4, e3, hf⟩ := xbd hf
  obtain ⟨_, e5, hf⟩ := xbd hf
  obtain ⟨v7, e6, hf⟩ := xbd hf
  obtain ⟨_, e8, hf⟩ := xbd hf
  obtain ⟨σ10, e9, hf⟩ := xbd hf
  obtain ⟨hm9, hA⟩ := n_X1_blame hA hr0 e9
  have hm := hm.tr hm9
  exact ⟨hm.tr (n_X1_takeSize_j47 hA hr0 hf).1, (n_X1_takeSize_j47 hA hr0 hf).2⟩
theorem n_X1_takeSize {A : Nat → Prop} {σ : XS} {r0 : Nat} {x : XS} (hA : Reg A σ) (hr0 : A r0) (hf : f_X1_takeSize σ r0 = some x) : Sm A σ x ∧ Reg A x := by
  have hm := Sm.rf (A := A) (σ := σ)
  obtain ⟨_, e1, hf⟩ := xbd hf
  obtain ⟨⟨v4, σ3⟩, e2, hf⟩ := xbd hf
  dsimp only at hf
  obtain ⟨hm9, hA⟩ := n_X1_takeKind hA hr0 e2
  have hm := hm.tr hm9
  obtain ⟨_, e5, hf⟩ := xbd hf
  obtain ⟨⟨v8, σ7⟩, e6, hf⟩ := xbd hf
  dsimp only at hf
  obtain ⟨hm9, hA⟩ := n_X1_takeInt hA hr0 e6
  have hm := hm.tr hm9
  obtain ⟨σ10, e9, hf⟩ := xbd hf
  obtain ⟨hm9, hA⟩ := xpI_reg hA hr0 e9
  have hm := hm.tr hm9
  obtain ⟨v12, e11, hf⟩ := xbd hf
  by_cases q : v12 < (1 : Int32)
  · have hf := xip q hf
    exact ⟨hm.tr (n_X1_takeSize_j29 hA hr0 hf).1, (n_X1_takeSize_j29 hA hr0 hf).2⟩
  · have hf := xin q hf
    obtain ⟨v14, e13, hf⟩ := xbd hf
    by_cases q : v14 ≤ (4 : Int32)
    · have hf := xip q hf
      exact ⟨hm.tr (n_X1_takeSize_j47 hA hr0 hf).1, (n_X1_takeSize_j47 hA hr0 hf).2⟩
    · have hf := xin q hf
      exact ⟨hm.tr (n_X1_takeSize_j29 hA hr0 hf).1, (n_X1_takeSize_j29 hA hr0 hf).2⟩
theorem n_X1_seeRings_l5 {A : Nat → Prop} {r0 : Nat} {a : Int32 × XS} {x : XS} (hA : Reg A a.2) (hr0 : A r0) (hf : xloop (f_X1_seeRings_b5 r0) a = some x) : Sm A a.2 x ∧ Reg A x := by
  revert hA
  refine xloop_ind (P := fun a => Reg A a.2 → Sm A a.2 x ∧ Reg A x) (fun a y hf hc he => ?_) hf
  obtain ⟨x1, σ⟩ := a
  intro hA
  have hA0 : Reg A σ := hA
  have hy : (∀ a' : Int32 × XS, y = .inl a' → Sm A σ a'.2 ∧ Reg A a'.2) ∧ (∀ b1 : XS, y = .inr b1 → Sm A σ b1 ∧ Reg A b1) := by
    have hm := Sm.rf (A := A) (σ := σ)
    obtain ⟨z2, e1, hf⟩ := xbd hf
    obtain ⟨v4, e3, hf⟩ := xbd hf
    by_cases q : v4 ≤ x1
    · have hf := xip q hf
      obtain ⟨b0, hg, e9⟩ := xmj hf
      subst e9
      have hf := hg
      refine ⟨fun a' e => xnc2 e, fun b e => ?_⟩
      have h9 := Sum.inr.inj e
      subst h9
      have hf := xsj hf
      subst hf
      exact ⟨hm, hA⟩
    · have hf := xin q hf
      obtain ⟨z6, e5, hf⟩ := xbd hf
      obtain ⟨_, e7, hf⟩ := xbd hf
      obtain ⟨v9, e8, hf⟩ := xbd hf
      by_cases q : v9 = (9 : Int32)
      · have hf := xip q hf
        obtain ⟨v11, e10, hf⟩ := xbd hf
        obtain ⟨z13, e12, hf⟩ := xbd hf
        obtain ⟨_, e14, hf⟩ := xbd hf
        obtain ⟨v16, e15, hf⟩ := xbd hf
        by_cases q : v16 = (6 : Int32)
        · have hf := xip q hf
          obtain ⟨σ18, e17, hf⟩ := xbd hf
          obtain ⟨hm9, hA⟩ := xpI_reg hA hr0 e17
          have hm := hm.tr hm9
          have hf := xsj hf
          subst hf
          exact ⟨fun a' e => (by have h9 := Sum.inl.inj e; subst h9; exact ⟨hm, hA⟩), fun b e => xnc1 e⟩
        · have hf := xin q hf
          obtain ⟨σ18, e17, hf⟩ := xbd hf
          obtain ⟨hm9, hA⟩ := xpI_reg hA hr0 e17
          have hm := hm.tr hm9
          have hf := xsj hf
          subst hf
          exact ⟨fun a' e => (by have h9 := Sum.inl.inj e; subst h9; exact ⟨hm, hA⟩), fun b e => xnc1 e⟩
      · have hf := xin q hf
        have hf := xsj hf
        subst hf
        exact ⟨fun a' e => (by have h9 := Sum.inl.inj e; subst h9; exact ⟨hm, hA⟩), fun b e => xnc1 e⟩
  cases y with
  | inl a' =>
    obtain ⟨hm, hA1⟩ := hy.1 a' rfl
    have h1 := hc a' rfl hA1
    exact ⟨hm.tr (h1).1, (h1).2⟩
  | inr b =>
    have h1 := he b rfl
    subst h1
    exact hy.2 _ rfl
theorem n_X1_seeRings {A : Nat → Prop} {σ : XS} {r0 : Nat} {x : XS} (hA : Reg A σ) (hr0 : A r0) (hf : f_X1_seeRings σ r0 = some x) : Sm A σ x ∧ Reg A x := by
  have hm := Sm.rf (A := A) (σ := σ)
  obtain ⟨v2, e1, hf⟩ := xbd hf
  exact ⟨hm.tr (n_X1_seeRings_l5 (a := (v2, σ)) hA hr0 hf).1, (n_X1_seeRings_l5 (a := (v2, σ)) hA hr0 hf).2⟩
theorem n_X1_takeJ_j58 {A : Nat → Prop} {σ : XS} {x1 : Int32} {x2 : Int32} {x : Int32 × XS} (hA : Reg A σ) (hf : f_X1_takeJ_j58 σ x1 x2 = some x) : Sm A σ x.2 ∧ Reg A x.2 := by
  have hm := Sm.rf (A := A) (σ := σ)
  by_cases q : x1 = 0
  · have hf := xip q hf
    have hf := xsj hf
    subst hf
    exact ⟨hm, hA⟩
  · have hf := xin q hf
    have hf := xsj hf
    subst hf
    exact ⟨hm, hA⟩
theorem n_X1_takeJ_j30 {A : Nat → Prop} {σ : XS} {r0 : Nat} {x1 : Int32} {x : Int32 × XS} (hA : Reg A σ) (hr0 : A r0) (hf : f_X1_takeJ_j30 σ r0 x1 = some x) : Sm A σ x.2 ∧ Reg A x.2 := by
  have hm := Sm.rf (A := A) (σ := σ)
  obtain ⟨_, e1, hf⟩ := xbd hf
  obtain ⟨⟨v4, σ3⟩, e2, hf⟩ := xbd hf
  dsimp only at hf
  obtain ⟨hm9, hA⟩ := n_X1_takeInt hA hr0 e2
  have hm := hm.tr hm9
  by_cases q : v4 ≤ (3 : Int32)
  · have hf := xip q hf
    exact ⟨hm.tr (n_X1_takeJ_j58 hA hf).1, (n_X1_takeJ_j58 hA hf).2⟩
  · have hf := xin q hf
    obtain ⟨z6, e5, hf⟩ := xbd hf
    obtain ⟨v8, e7, hf⟩ := xbd hf
    obtain ⟨_, e9, hf⟩ := xbd hf
    obtain ⟨v11, e10, hf⟩ := xbd hf
    obtain ⟨_, e12, hf⟩ := xbd hf
    obtain ⟨σ14, e13, hf⟩ := xbd hf
    obtain ⟨hm9, hA⟩ := n_X1_blame hA hr0 e13
    have hm := hm.tr hm9
    exact ⟨hm.tr (n_X1_takeJ_j58 hA hf).1, (n_X1_takeJ_j58 hA hf).2⟩
theorem n_X1_takeJ_j20 {A : Nat → Prop} {σ : XS} {r0 : Nat} {t0 : Int32} {x : Int32 × XS} (hA : Reg A σ) (hr0 : A r0) (hf : f_X1_takeJ_j20 σ r0 t0 = some x) : Sm A σ x.2 ∧ Reg A x.2 := by
  have hm := Sm.rf (A := A) (σ := σ)
  by_cases q : t0 = 0
  · have hf := xip q hf
    exact ⟨hm.tr (n_X1_takeJ_j30 hA hr0 hf).1, (n_X1_takeJ_j30 hA hr0 hf).2⟩
  · have hf := xin q hf
    obtain ⟨_, e1, hf⟩ := xbd hf
    obtain ⟨⟨v4, σ3⟩, e2, hf⟩ := xbd hf
    dsimp only at hf
    obtain ⟨hm9, hA⟩ := n_X1_takeKind hA hr0 e2
    have hm := hm.tr hm9
    exact ⟨hm.tr (n_X1_takeJ_j30 hA hr0 hf).1, (n_X1_takeJ_j30 hA hr0 hf).2⟩
theorem n_X1_takeJ {A : Nat → Prop} {σ : XS} {r0 : Nat} {x : Int32 × XS} (hA : Reg A σ) (hr0 : A r0) (hf : f_X1_takeJ σ r0 = some x) : Sm A σ x.2 ∧ Reg A x.2 := by
  have hm := Sm.rf (A := A) (σ := σ)
  obtain ⟨z2, e1, hf⟩ := xbd hf
  obtain ⟨v4, e3, hf⟩ := xbd hf
  obtain ⟨_, e5, hf⟩ := xbd hf
  obtain ⟨v7, e6, hf⟩ := xbd hf
  by_cases q : v7 = (3 : Int32)
  · have hf := xip q hf
    exact ⟨hm.tr (n_X1_takeJ_j20 hA hr0 hf).1, (n_X1_takeJ_j20 hA hr0 hf).2⟩
  · have hf := xin q hf
    exact ⟨hm.tr (n_X1_takeJ_j20 hA hr0 hf).1, (n_X1_takeJ_j20 hA hr0 hf).2⟩
theorem n_X1_takeSite {A : Nat → Prop} {σ : XS} {r0 : Nat} {x : Int32 × XS} (hA : Reg A σ) (hr0 : A r0) (hf : f_X1_takeSite σ r0 = some x) : Sm A σ x.2 ∧ Reg A x.2 := by
  have hm := Sm.rf (A := A) (σ := σ)
  obtain ⟨_, e1, hf⟩ := xbd hf
  obtain ⟨⟨v4, σ3⟩, e2, hf⟩ := xbd hf
  dsimp only at hf
  obtain ⟨hm9, hA⟩ := n_X1_takeInt hA hr0 e2
  have hm := hm.tr hm9
  obtain ⟨v6, e5, hf⟩ := xbd hf
  obtain ⟨v8, e7, hf⟩ := xbd hf
  by_cases q : v4 < (v6 * v8)
  · have hf := xip q hf
    have hf := xsj hf
    subst hf
    exact ⟨hm, hA⟩
  · have hf := xin q hf
    obtain ⟨z10, e9, hf⟩ := xbd hf
    obtain ⟨v12, e11, hf⟩ := xbd hf
    obtain ⟨_, e13, hf⟩ := xbd hf
    obtain ⟨v15, e14, hf⟩ := xbd hf
    obtain ⟨_, e16, hf⟩ := xbd hf
    obtain ⟨σ18, e17, hf⟩ := xbd hf
    obtain ⟨hm9, hA⟩ := n_X1_blame hA hr0 e17
    have hm := hm.tr hm9
    have hf := xsj hf
    subst hf
    exact ⟨hm, hA⟩
theorem n_X1_takeTie_j68 {A : Nat → Prop} {σ : XS} {r0 : Nat} {x2 : Int32} {x : XS} (hA : Reg A σ) (hr0 : A r0) (hf : f_X1_takeTie_j68 σ r0 x2 = some x) : Sm A σ x ∧ Reg A x := by
  have hm := Sm.rf (A := A) (σ := σ)
  obtain ⟨_, e1, hf⟩ := xbd hf
  obtain ⟨⟨v4, σ3⟩, e2, hf⟩ := xbd hf
  dsimp only at hf
  obtain ⟨hm9, hA⟩ := n_X1_takeJ hA hr0 e2
  have hm := hm.tr hm9
  obtain ⟨v6, e5, hf⟩ := xbd hf
  by_cases q : v6 = 0
  · have hf := xip q hf
    obtain ⟨z8, e7, hf⟩ := xbd hf
    have hz8 := xgR_reg rfl hA hr0 e7
    obtain ⟨_, e9, hf⟩ := xbd hf
    obtain ⟨σ11, e10, hf⟩ := xbd hf
    obtain ⟨hm9, hA⟩ := n_X6_setBond hA hz8 e10
    have hm := hm.tr hm9
    obtain ⟨v13, e12, hf⟩ := xbd hf
    obtain ⟨σ15, e14, hf⟩ := xbd hf
    obtain ⟨hm9, hA⟩ := xpI_reg hA hr0 e14
    have hm := hm.tr hm9
    have hf := xsj hf
    subst hf
    exact ⟨hm, hA⟩
  · have hf := xin q hf
    have hf := xsj hf
    subst hf
    exact ⟨hm, hA⟩
theorem n_X1_takeTie_j22 {A : Nat → Prop} {σ : XS} {r0 : Nat} {t0 : Int32} {x : XS} (hA : Reg A σ) (hr0 : A r0) (hf : f_X1_takeTie_j22 σ r0 t0 = some x) : Sm A σ x ∧ Reg A x := by
  have hm := Sm.rf (A := A) (σ := σ)
  obtain ⟨v2, e1, hf⟩ := xbd hf
  by_cases q : v2 = 0
  · have hf := xip q hf
    obtain ⟨v4, e3, hf⟩ := xbd hf
    obtain ⟨v6, e5, hf⟩ := xbd hf
    obtain ⟨v8, e7, hf⟩ := xbd hf
    obtain ⟨v10, e9, hf⟩ := xbd hf
    by_cases q : v10 = (-1 : Int32)
    · have hf := xip q hf
      obtain ⟨z12, e11, hf⟩ := xbd hf
      obtain ⟨v14, e13, hf⟩ := xbd hf
      obtain ⟨_, e15, hf⟩ := xbd hf
      obtain ⟨v17, e16, hf⟩ := xbd hf
      obtain ⟨_, e18, hf⟩ := xbd hf
      obtain ⟨σ20, e19, hf⟩ := xbd hf
      obtain ⟨hm9, hA⟩ := n_X1_blame hA hr0 e19
      have hm := hm.tr hm9
      exact ⟨hm.tr (n_X1_takeTie_j68 hA hr0 hf).1, (n_X1_takeTie_j68 hA hr0 hf).2⟩
    · have hf := xin q hf
      exact ⟨hm.tr (n_X1_takeTie_j68 hA hr0 hf).1, (n_X1_takeTie_j68 hA hr0 hf).2⟩
  · have hf := xin q hf
    exact ⟨hm.tr (n_X1_takeTie_j68 hA hr0 hf).1, (n_X1_takeTie_j68 hA hr0 hf).2⟩
theorem n_X1_takeTie {A : Nat → Prop} {σ : XS} {r0 : Nat} {x : XS} (hA : Reg A σ) (hr0 : A r0) (hf : f_X1_takeTie σ r0 = some x) : Sm A σ x ∧ Reg A x := by
  have hm := Sm.rf (A := A) (σ := σ)
  obtain ⟨_, e1, hf⟩ := xbd hf
  obtain ⟨⟨v4, σ3⟩, e2, hf⟩ := xbd hf
  dsimp only at hf
  obtain ⟨hm9, hA⟩ := n_X1_takeSite hA hr0 e2
  have hm := hm.tr hm9
  obtain ⟨_, e5, hf⟩ := xbd hf
  obtain ⟨⟨v8, σ7⟩, e6, hf⟩ := xbd hf
  dsimp only at hf
  obtain ⟨hm9, hA⟩ := n_X1_takeKind hA hr0 e6
  have hm := hm.tr hm9
  by_cases q : v8 = (7 : Int32)
  · have hf := xip q hf
    exact ⟨hm.tr (n_X1_takeTie_j22 hA hr0 hf).1, (n_X1_takeTie_j22 hA hr0 hf).2⟩
  · have hf := xin q hf
    exact ⟨hm.tr (n_X1_takeTie_j22 hA hr0 hf).1, (n_X1_takeTie_j22 hA hr0 hf).2⟩
theorem n_X1_takePull {A : Nat → Prop} {σ : XS} {r0 : Nat} {x : XS} (hA : Reg A σ) (hr0 : A r0) (hf : f_X1_takePull σ r0 = some x) : Sm A σ x ∧ Reg A x := by
  have hm := Sm.rf (A := A) (σ := σ)
  obtain ⟨_, e1, hf⟩ := xbd hf
  obtain ⟨⟨v4, σ3⟩, e2, hf⟩ := xbd hf
  dsimp only at hf
  obtain ⟨hm9, hA⟩ := n_X1_takeSite hA hr0 e2
  have hm := hm.tr hm9
  obtain ⟨_, e5, hf⟩ := xbd hf
  obtain ⟨⟨v8, σ7⟩, e6, hf⟩ := xbd hf
  dsimp only at hf
  obtain ⟨hm9, hA⟩ := n_X1_takeJ hA hr0 e6
  have hm := hm.tr hm9
  obtain ⟨v10, e9, hf⟩ := xbd hf
  by_cases q : v10 = 0
  · have hf := xip q hf
    obtain ⟨z12, e11, hf⟩ := xbd hf
    have hz12 := xgR_reg rfl hA hr0 e11
    obtain ⟨_, e13, hf⟩ := xbd hf
    obtain ⟨σ15, e14, hf⟩ := xbd hf
    obtain ⟨hm9, hA⟩ := n_X6_setField hA hz12 e14
    have hm := hm.tr hm9
    obtain ⟨v17, e16, hf⟩ := xbd hf
    obtain ⟨σ19, e18, hf⟩ := xbd hf
    obtain ⟨hm9, hA⟩ := xpI_reg hA hr0 e18
    have hm := hm.tr hm9
    have hf := xsj hf
    subst hf
    exact ⟨hm, hA⟩
  · have hf := xin q hf
    have hf := xsj hf
    subst hf
    exact ⟨hm, hA⟩
theorem n_X1_takePin_j19 {A : Nat → Prop} {σ : XS} {r0 : Nat} {x1 : Int32} {t0 : Int32} {x : XS} (hA : Reg A σ) (hr0 : A r0) (hf : f_X1_takePin_j19 σ r0 x1 t0 = some x) : Sm A σ x ∧ Reg A x := by
  have hm := Sm.rf (A := A) (σ := σ)
  obtain ⟨v2, e1, hf⟩ := xbd hf
  by_cases q : v2 = 0
  · have hf := xip q hf
    obtain ⟨z4, e3, hf⟩ := xbd hf
    have hz4 := xgR_reg rfl hA hr0 e3
    obtain ⟨_, e5, hf⟩ := xbd hf
    obtain ⟨σ7, e6, hf⟩ := xbd hf
    obtain ⟨hm9, hA⟩ := n_X6_setPin hA hz4 e6
    have hm := hm.tr hm9
    have hf := xsj hf
    subst hf
    exact ⟨hm, hA⟩
  · have hf := xin q hf
    have hf := xsj hf
    subst hf
    exact ⟨hm, hA⟩
theorem n_X1_takePin {A : Nat → Prop} {σ : XS} {r0 : Nat} {x : XS} (hA : Reg A σ) (hr0 : A r0) (hf : f_X1_takePin σ r0 = some x) : Sm A σ x ∧ Reg A x := by
  have hm := Sm.rf (A := A) (σ := σ)
  obtain ⟨_, e1, hf⟩ := xbd hf
  obtain ⟨⟨v4, σ3⟩, e2, hf⟩ := xbd hf
  dsimp only at hf
  obtain ⟨hm9, hA⟩ := n_X1_takeSite hA hr0 e2
  have hm := hm.tr hm9
  obtain ⟨_, e5, hf⟩ := xbd hf
  obtain ⟨⟨v8, σ7⟩, e6, hf⟩ := xbd hf
  dsimp only at hf
  obtain ⟨hm9, hA⟩ := n_X1_takeKind hA hr0 e6
  have hm := hm.tr hm9
  by_cases q : v8 = (13 : Int32)
  · have hf := xip q hf
    exact ⟨hm.tr (n_X1_takePin_j19 hA hr0 hf).1, (n_X1_takePin_j19 hA hr0 hf).2⟩
  · have hf := xin q hf
    exact ⟨hm.tr (n_X1_takePin_j19 hA hr0 hf).1, (n_X1_takePin_j19 hA hr0 hf).2⟩
theorem n_X1_takeTell_j133 {A : Nat → Prop} {σ : XS} {r0 : Nat} {x : XS} (hA : Reg A σ) (hr0 : A r0) (hf : f_X1_takeTell_j133 σ r0 = some x) : Sm A σ x ∧ Reg A x := by
  have hm := Sm.rf (A := A) (σ := σ)
  obtain ⟨_, e1, hf⟩ := xbd hf
  obtain ⟨⟨v4, σ3⟩, e2, hf⟩ := xbd hf
  dsimp only at hf
  obtain ⟨hm9, hA⟩ := n_X1_takeKind hA hr0 e2
  have hm := hm.tr hm9
  have hf := xsj hf
  subst hf
  exact ⟨hm, hA⟩
theorem n_X1_takeTell {A : Nat → Prop} {σ : XS} {r0 : Nat} {x : XS} (hA : Reg A σ) (hr0 : A r0) (hf : f_X1_takeTell σ r0 = some x) : Sm A σ x ∧ Reg A x := by
  have hm := Sm.rf (A := A) (σ := σ)
  obtain ⟨_, e1, hf⟩ := xbd hf
  obtain ⟨⟨v4, σ3⟩, e2, hf⟩ := xbd hf
  dsimp only at hf
  obtain ⟨hm9, hA⟩ := n_X1_takeKind hA hr0 e2
  have hm := hm.tr hm9
  by_cases ho : (v4).toInt < 6 ∨ 15 < (v4).toInt
  · have hf := xsw_out ho rfl hf
    obtain ⟨_, e5, hf⟩ := xbd hf
    obtain ⟨⟨v8, σ7⟩, e6, hf⟩ := xbd hf
    dsimp only at hf
    obtain ⟨hm9, hA⟩ := n_X1_takeKind hA hr0 e6
    have hm := hm.tr hm9
    exact ⟨hm.tr (n_X1_takeTell_j133 hA hr0 hf).1, (n_X1_takeTell_j133 hA hr0 hf).2⟩
  · rcases (by omega : (v4).toInt = 6 + ((0 : Nat) : Int) ∨ (v4).toInt = 6 + ((1 : Nat) : Int) ∨ (v4).toInt = 6 + ((2 : Nat) : Int) ∨ (v4).toInt = 6 + ((3 : Nat) : Int) ∨ (v4).toInt = 6 + ((4 : Nat) : Int) ∨ (v4).toInt = 6 + ((5 : Nat) : Int) ∨ (v4).toInt = 6 + ((6 : Nat) : Int) ∨ (v4).toInt = 6 + ((7 : Nat) : Int) ∨ (v4).toInt = 6 + ((8 : Nat) : Int) ∨ (v4).toInt = 6 + ((9 : Nat) : Int)) with hk1 | hk1 | hk1 | hk1 | hk1 | hk1 | hk1 | hk1 | hk1 | hk1
    · have hf := xsw_in 0 hk1 rfl hf
      obtain ⟨_, e5, hf⟩ := xbd hf
      obtain ⟨⟨v8, σ7⟩, e6, hf⟩ := xbd hf
      dsimp only at hf
      obtain ⟨hm9, hA⟩ := n_X1_takeJ hA hr0 e6
      have hm := hm.tr hm9
      obtain ⟨σ10, e9, hf⟩ := xbd hf
      obtain ⟨hm9, hA⟩ := xpI_reg hA hr0 e9
      have hm := hm.tr hm9
      exact ⟨hm.tr (n_X1_takeTell_j133 hA hr0 hf).1, (n_X1_takeTell_j133 hA hr0 hf).2⟩
    · have hf := xsw_in 1 hk1 rfl hf
      obtain ⟨_, e5, hf⟩ := xbd hf
      obtain ⟨⟨v8, σ7⟩, e6, hf⟩ := xbd hf
      dsimp only at hf
      obtain ⟨hm9, hA⟩ := n_X1_takeJ hA hr0 e6
      have hm := hm.tr hm9
      obtain ⟨σ10, e9, hf⟩ := xbd hf
      obtain ⟨hm9, hA⟩ := xpI_reg hA hr0 e9
      have hm := hm.tr hm9
      exact ⟨hm.tr (n_X1_takeTell_j133 hA hr0 hf).1, (n_X1_takeTell_j133 hA hr0 hf).2⟩
    · have hf := xsw_in 2 hk1 rfl hf
      obtain ⟨_, e5, hf⟩ := xbd hf
      obtain ⟨⟨v8, σ7⟩, e6, hf⟩ := xbd hf
      dsimp only at hf
      obtain ⟨hm9, hA⟩ := n_X1_takeJ hA hr0 e6
      have hm := hm.tr hm9
      obtain ⟨σ10, e9, hf⟩ := xbd hf
      obtain ⟨hm9, hA⟩ := xpI_reg hA hr0 e9
      have hm := hm.tr hm9
      exact ⟨hm.tr (n_X1_takeTell_j133 hA hr0 hf).1, (n_X1_takeTell_j133 hA hr0 hf).2⟩
    · have hf := xsw_in 3 hk1 rfl hf
      obtain ⟨_, e5, hf⟩ := xbd hf
      obtain ⟨⟨v8, σ7⟩, e6, hf⟩ := xbd hf
      dsimp only at hf
      obtain ⟨hm9, hA⟩ := n_X1_takeKind hA hr0 e6
      have hm := hm.tr hm9
      exact ⟨hm.tr (n_X1_takeTell_j133 hA hr0 hf).1, (n_X1_takeTell_j133 hA hr0 hf).2⟩
    · have hf := xsw_in 4 hk1 rfl hf
      obtain ⟨_, e5, hf⟩ := xbd hf
      obtain ⟨σ7, e6, hf⟩ := xbd hf
      obtain ⟨hm9, hA⟩ := n_X1_takeTie hA hr0 e6
      have hm := hm.tr hm9
      exact ⟨hm.tr (n_X1_takeTell_j133 hA hr0 hf).1, (n_X1_takeTell_j133 hA hr0 hf).2⟩
    · have hf := xsw_in 5 hk1 rfl hf
      obtain ⟨_, e5, hf⟩ := xbd hf
      obtain ⟨σ7, e6, hf⟩ := xbd hf
      obtain ⟨hm9, hA⟩ := n_X1_takePull hA hr0 e6
      have hm := hm.tr hm9
      exact ⟨hm.tr (n_X1_takeTell_j133 hA hr0 hf).1, (n_X1_takeTell_j133 hA hr0 hf).2⟩
    · have hf := xsw_in 6 hk1 rfl hf
      obtain ⟨_, e5, hf⟩ := xbd hf
      obtain ⟨σ7, e6, hf⟩ := xbd hf
      obtain ⟨hm9, hA⟩ := n_X1_takePin hA hr0 e6
      have hm := hm.tr hm9
      exact ⟨hm.tr (n_X1_takeTell_j133 hA hr0 hf).1, (n_X1_takeTell_j133 hA hr0 hf).2⟩
    · have hf := xsw_in 7 hk1 rfl hf
      obtain ⟨_, e5, hf⟩ := xbd hf
      obtain ⟨⟨v8, σ7⟩, e6, hf⟩ := xbd hf
      dsimp only at hf
      obtain ⟨hm9, hA⟩ := n_X1_takeKind hA hr0 e6
      have hm := hm.tr hm9
      exact ⟨hm.tr (n_X1_takeTell_j133 hA hr0 hf).1, (n_X1_takeTell_j133 hA hr0 hf).2⟩
    · have hf := xsw_in 8 hk1 rfl hf
      obtain ⟨_, e5, hf⟩ := xbd hf
      obtain ⟨⟨v8, σ7⟩, e6, hf⟩ := xbd hf
      dsimp only at hf
      obtain ⟨hm9, hA⟩ := n_X1_takeKind hA hr0 e6
      have hm := hm.tr hm9
      exact ⟨hm.tr (n_X1_takeTell_j133 hA hr0 hf).1, (n_X1_takeTell_j133 hA hr0 hf).2⟩
    · have hf := xsw_in 9 hk1 rfl hf
      obtain ⟨z6, e5, hf⟩ := xbd hf
      have hz6 := xgR_reg rfl hA hr0 e5
      obtain ⟨_, e7, hf⟩ := xbd hf
      obtain ⟨⟨v10, σ9⟩, e8, hf⟩ := xbd hf
      dsimp only at hf
      obtain ⟨hm9, hA⟩ := n_X1_takeInt hA hr0 e8
      have hm := hm.tr hm9
      obtain ⟨σ12, e11, hf⟩ := xbd hf
      obtain ⟨hm9, hA⟩ := xpI_reg hA hz6 e11
      have hm := hm.tr hm9
      exact ⟨hm.tr (n_X1_takeTell_j133 hA hr0 hf).1, (n_X1_takeTell_j133 hA hr0 hf).2⟩
theorem n_X1_giveUntold_l79 {A : Nat → Prop} {r0 : Nat} {a : Int32 × XS} {x : XS} (hA : Reg A a.2) (hr0 : A r0) (hf : xloop (f_X1_giveUntold_b79 r0) a = some x) : Sm A a.2 x ∧ Reg A x := by
  revert hA
  refine xloop_ind (P := fun a => Reg A a.2 → Sm A a.2 x ∧ Reg A x) (fun a y hf hc he => ?_) hf
  obtain ⟨x1, σ⟩ := a
  intro hA
  have hA0 : Reg A σ := hA
  have hy : (∀ a' : Int32 × XS, y = .inl a' → Sm A σ a'.2 ∧ Reg A a'.2) ∧ (∀ b1 : XS, y = .inr b1 → Sm A σ b1 ∧ Reg A b1) := by
    have hm := Sm.rf (A := A) (σ := σ)
    obtain ⟨v2, e1, hf⟩ := xbd hf
    by_cases q : v2 = 0
    · have hf := xip q hf
      obtain ⟨v4, e3, hf⟩ := xbd hf
      obtain ⟨v6, e5, hf⟩ := xbd hf
      by_cases q : (v4 * v6) ≤ x1
      · have hf := xip q hf
        obtain ⟨b0, hg, e9⟩ := xmj hf
        subst e9
        have hf := hg
        refine ⟨fun a' e => xnc2 e, fun b e => ?_⟩
        have h9 := Sum.inr.inj e
        subst h9
        have hf := xsj hf
        subst hf
        exact ⟨hm, hA⟩
      · have hf := xin q hf
        obtain ⟨v8, e7, hf⟩ := xbd hf
        obtain ⟨v10, e9, hf⟩ := xbd hf
        by_cases q : v10 = 0
        · have hf := xip q hf
          obtain ⟨z12, e11, hf⟩ := xbd hf
          have hz12 := xgR_reg rfl hA hr0 e11
          obtain ⟨v14, e13, hf⟩ := xbd hf
          obtain ⟨_, e15, hf⟩ := xbd hf
          obtain ⟨σ17, e16, hf⟩ := xbd hf
          obtain ⟨hm9, hA⟩ := n_X6_setField hA hz12 e16
          have hm := hm.tr hm9
          have hf := xsj hf
          subst hf
          exact ⟨fun a' e => (by have h9 := Sum.inl.inj e; subst h9; exact ⟨hm, hA⟩), fun b e => xnc1 e⟩
        · have hf := xin q hf
          have hf := xsj hf
          subst hf
          exact ⟨fun a' e => (by have h9 := Sum.inl.inj e; subst h9; exact ⟨hm, hA⟩), fun b e => xnc1 e⟩
    · have hf := xin q hf
      obtain ⟨b0, hg, e9⟩ := xmj hf
      subst e9
      have hf := hg
      refine ⟨fun a' e => xnc2 e, fun b e => ?_⟩
      have h9 := Sum.inr.inj e
      subst h9
      have hf := xsj hf
      subst hf
      exact ⟨hm, hA⟩
  cases y with
  | inl a' =>
    obtain ⟨hm, hA1⟩ := hy.1 a' rfl
    have h1 := hc a' rfl hA1
    exact ⟨hm.tr (h1).1, (h1).2⟩
  | inr b =>
    have h1 := he b rfl
    subst h1
    exact hy.2 _ rfl
theorem n_X1_giveUntold_j68 {A : Nat → Prop} {σ : XS} {r0 : Nat} {x1 : Int32} {t0 : Nat} {t1 : Int32} {t2 : Int32} {x : ((Int32 × XS) ⊕ (XS))} (hA : Reg A σ) (ht0 : A t0) (hf : f_X1_giveUntold_j68 σ r0 x1 t0 t1 t2 = some x) : (∀ a' : Int32 × XS, x = .inl a' → Sm A σ a'.2 ∧ Reg A a'.2) ∧ (∀ b1 : XS, x = .inr b1 → Sm A σ b1 ∧ Reg A b1) := by
  have hm := Sm.rf (A := A) (σ := σ)
  obtain ⟨_, e1, hf⟩ := xbd hf
  obtain ⟨σ3, e2, hf⟩ := xbd hf
  obtain ⟨hm9, hA⟩ := n_X6_setBond hA ht0 e2
  have hm := hm.tr hm9
  have hf := xsj hf
  subst hf
  exact ⟨fun a' e => (by have h9 := Sum.inl.inj e; subst h9; exact ⟨hm, hA⟩), fun b e => xnc1 e⟩
theorem n_X1_giveUntold_l2 {A : Nat → Prop} {r0 : Nat} {a : Int32 × XS} {x : XS} (hA : Reg A a.2) (hr0 : A r0) (hf : xloop (f_X1_giveUntold_b2 r0) a = some x) : Sm A a.2 x ∧ Reg A x := by
  revert hA
  refine xloop_ind (P := fun a => Reg A a.2 → Sm A a.2 x ∧ Reg A x) (fun a y hf hc he => ?_) hf
  obtain ⟨x1, σ⟩ := a
  intro hA
  have hA0 : Reg A σ := hA
  have hy : (∀ a' : Int32 × XS, y = .inl a' → Sm A σ a'.2 ∧ Reg A a'.2) ∧ (∀ b1 : XS, y = .inr b1 → Sm A σ b1 ∧ Reg A b1) := by
    have hm := Sm.rf (A := A) (σ := σ)
    obtain ⟨v2, e1, hf⟩ := xbd hf
    by_cases q : v2 = 0
    · have hf := xip q hf
      by_cases q : (32 : Int32) ≤ x1
      · have hf := xip q hf
        obtain ⟨b0, hg, e9⟩ := xmj hf
        subst e9
        have hf := hg
        refine ⟨fun a' e => xnc2 e, fun b e => ?_⟩
        have h9 := Sum.inr.inj e
        subst h9
        exact ⟨hm.tr (n_X1_giveUntold_l79 (a := ((0 : Int32), σ)) hA hr0 hf).1, (n_X1_giveUntold_l79 (a := ((0 : Int32), σ)) hA hr0 hf).2⟩
      · have hf := xin q hf
        obtain ⟨v4, e3, hf⟩ := xbd hf
        obtain ⟨v6, e5, hf⟩ := xbd hf
        by_cases q : v6 = 0
        · have hf := xip q hf
          obtain ⟨v8, e7, hf⟩ := xbd hf
          obtain ⟨v10, e9, hf⟩ := xbd hf
          obtain ⟨v12, e11, hf⟩ := xbd hf
          obtain ⟨v14, e13, hf⟩ := xbd hf
          by_cases q : v14 = (-1 : Int32)
          · have hf := xip q hf
            have hf := xsj hf
            subst hf
            exact ⟨fun a' e => (by have h9 := Sum.inl.inj e; subst h9; exact ⟨hm, hA⟩), fun b e => xnc1 e⟩
          · have hf := xin q hf
            obtain ⟨z16, e15, hf⟩ := xbd hf
            have hz16 := xgR_reg rfl hA hr0 e15
            by_cases q : (16 : Int32) ≤ x1
            · have hf := xip q hf
              obtain ⟨v18, e17, hf⟩ := xbd hf
              exact ⟨fun a' e => ⟨hm.tr ((n_X1_giveUntold_j68 hA hz16 hf).1 a' e).1, ((n_X1_giveUntold_j68 hA hz16 hf).1 a' e).2⟩, fun b1 eb1 => ⟨hm.tr ((n_X1_giveUntold_j68 hA hz16 hf).2 b1 eb1).1, ((n_X1_giveUntold_j68 hA hz16 hf).2 b1 eb1).2⟩⟩
            · have hf := xin q hf
              obtain ⟨v18, e17, hf⟩ := xbd hf
              exact ⟨fun a' e => ⟨hm.tr ((n_X1_giveUntold_j68 hA hz16 hf).1 a' e).1, ((n_X1_giveUntold_j68 hA hz16 hf).1 a' e).2⟩, fun b1 eb1 => ⟨hm.tr ((n_X1_giveUntold_j68 hA hz16 hf).2 b1 eb1).1, ((n_X1_giveUntold_j68 hA hz16 hf).2 b1 eb1).2⟩⟩
        · have hf := xin q hf
          have hf := xsj hf
          subst hf
          exact ⟨fun a' e => (by have h9 := Sum.inl.inj e; subst h9; exact ⟨hm, hA⟩), fun b e => xnc1 e⟩
    · have hf := xin q hf
      obtain ⟨b0, hg, e9⟩ := xmj hf
      subst e9
      have hf := hg
      refine ⟨fun a' e => xnc2 e, fun b e => ?_⟩
      have h9 := Sum.inr.inj e
      subst h9
      exact ⟨hm.tr (n_X1_giveUntold_l79 (a := ((0 : Int32), σ)) hA hr0 hf).1, (n_X1_giveUntold_l79 (a := ((0 : Int32), σ)) hA hr0 hf).2⟩
  cases y with
  | inl a' =>
    obtain ⟨hm, hA1⟩ := hy.1 a' rfl
    have h1 := hc a' rfl hA1
    exact ⟨hm.tr (h1).1, (h1).2⟩
  | inr b =>
    have h1 := he b rfl
    subst h1
    exact hy.2 _ rfl
theorem n_X1_giveUntold {A : Nat → Prop} {σ : XS} {r0 : Nat} {x : XS} (hA : Reg A σ) (hr0 : A r0) (hf : f_X1_giveUntold σ r0 = some x) : Sm A σ x ∧ Reg A x := by
  have hm := Sm.rf (A := A) (σ := σ)
  exact ⟨hm.tr (n_X1_giveUntold_l2 (a := ((0 : Int32), σ)) hA hr0 hf).1, (n_X1_giveUntold_l2 (a := ((0 : Int32), σ)) hA hr0 hf).2⟩
theorem n_X1_build_j77 {A : Nat → Prop} {σ : XS} {r0 : Nat} {x : XS} (hA : Reg A σ) (hr0 : A r0) (hf : f_X1_build_j77 σ r0 = some x) : Sm A σ x ∧ Reg A x := by
  have hm := Sm.rf (A := A) (σ := σ)
  obtain ⟨_, e1, hf⟩ := xbd hf
  obtain ⟨σ3, e2, hf⟩ := xbd hf
  obtain ⟨hm9, hA⟩ := n_X1_giveUntold hA hr0 e2
  have hm := hm.tr hm9
  have hf := xsj hf
  subst hf
  exact ⟨hm, hA⟩
theorem n_X1_build_l39 {A : Nat → Prop} {r0 : Nat} {a : Int32 × XS} {x : XS} (hA : Reg A a.2) (hr0 : A r0) (hf : xloop (f_X1_build_b39 r0) a = some x) : Sm A a.2 x ∧ Reg A x := by
  revert hA
  refine xloop_ind (P := fun a => Reg A a.2 → Sm A a.2 x ∧ Reg A x) (fun a y hf hc he => ?_) hf
  obtain ⟨x2, σ⟩ := a
  intro hA
  have hA0 : Reg A σ := hA
  have hy : (∀ a' : Int32 × XS, y = .inl a' → Sm A σ a'.2 ∧ Reg A a'.2) ∧ (∀ b1 : XS, y = .inr b1 → Sm A σ b1 ∧ Reg A b1) := by
    have hm := Sm.rf (A := A) (σ := σ)
    by_cases q : (400 : Int32) ≤ x2
    · have hf := xip q hf
      obtain ⟨b0, hg, e9⟩ := xmj hf
      subst e9
      have hf := hg
      refine ⟨fun a' e => xnc2 e, fun b e => ?_⟩
      have h9 := Sum.inr.inj e
      subst h9
      exact ⟨hm.tr (n_X1_build_j77 hA hr0 hf).1, (n_X1_build_j77 hA hr0 hf).2⟩
    · have hf := xin q hf
      obtain ⟨v2, e1, hf⟩ := xbd hf
      by_cases q : v2 = 0
      · have hf := xip q hf
        obtain ⟨v4, e3, hf⟩ := xbd hf
        obtain ⟨z6, e5, hf⟩ := xbd hf
        obtain ⟨v8, e7, hf⟩ := xbd hf
        by_cases q : v8 ≤ v4
        · have hf := xip q hf
          obtain ⟨b0, hg, e9⟩ := xmj hf
          subst e9
          have hf := hg
          refine ⟨fun a' e => xnc2 e, fun b e => ?_⟩
          have h9 := Sum.inr.inj e
          subst h9
          exact ⟨hm.tr (n_X1_build_j77 hA hr0 hf).1, (n_X1_build_j77 hA hr0 hf).2⟩
        · have hf := xin q hf
          obtain ⟨_, e9, hf⟩ := xbd hf
          obtain ⟨σ11, e10, hf⟩ := xbd hf
          obtain ⟨hm9, hA⟩ := n_X1_takeTell hA hr0 e10
          have hm := hm.tr hm9
          have hf := xsj hf
          subst hf
          exact ⟨fun a' e => (by have h9 := Sum.inl.inj e; subst h9; exact ⟨hm, hA⟩), fun b e => xnc1 e⟩
      · have hf := xin q hf
        obtain ⟨b0, hg, e9⟩ := xmj hf
        subst e9
        have hf := hg
        refine ⟨fun a' e => xnc2 e, fun b e => ?_⟩
        have h9 := Sum.inr.inj e
        subst h9
        exact ⟨hm.tr (n_X1_build_j77 hA hr0 hf).1, (n_X1_build_j77 hA hr0 hf).2⟩
  cases y with
  | inl a' =>
    obtain ⟨hm, hA1⟩ := hy.1 a' rfl
    have h1 := hc a' rfl hA1
    exact ⟨hm.tr (h1).1, (h1).2⟩
  | inr b =>
    have h1 := he b rfl
    subst h1
    exact hy.2 _ rfl
theorem n_X1_build {A : Nat → Prop} {σ : XS} {r0 : Nat} {x : XS} (hA : Reg A σ) (hr0 : A r0) (hf : f_X1_build σ r0 = some x) : Sm A σ x ∧ Reg A x := by
  have hm := Sm.rf (A := A) (σ := σ)
  obtain ⟨_, e1, hf⟩ := xbd hf
  obtain ⟨σ3, e2, hf⟩ := xbd hf
  obtain ⟨hm9, hA⟩ := n_X1_begin hA hr0 e2
  have hm := hm.tr hm9
  obtain ⟨z5, e4, hf⟩ := xbd hf
  have hz5 := xgR_reg rfl hA hr0 e4
  obtain ⟨_, e6, hf⟩ := xbd hf
  obtain ⟨⟨v9, σ8⟩, e7, hf⟩ := xbd hf
  dsimp only at hf
  obtain ⟨hm9, hA⟩ := n_X8_cut hA hz5 e7
  have hm := hm.tr hm9
  by_cases q : v9 = 0
  · have hf := xip q hf
    obtain ⟨_, e10, hf⟩ := xbd hf
    obtain ⟨σ12, e11, hf⟩ := xbd hf
    obtain ⟨hm9, hA⟩ := n_X1_takeSize hA hr0 e11
    have hm := hm.tr hm9
    obtain ⟨_, e13, hf⟩ := xbd hf
    obtain ⟨σ15, e14, hf⟩ := xbd hf
    obtain ⟨hm9, hA⟩ := n_X1_seeRings hA hr0 e14
    have hm := hm.tr hm9
    exact ⟨hm.tr (n_X1_build_l39 (a := ((0 : Int32), σ15)) hA hr0 hf).1, (n_X1_build_l39 (a := ((0 : Int32), σ15)) hA hr0 hf).2⟩
  · have hf := xin q hf
    obtain ⟨z11, e10, hf⟩ := xbd hf
    obtain ⟨v13, e12, hf⟩ := xbd hf
    obtain ⟨_, e14, hf⟩ := xbd hf
    obtain ⟨σ16, e15, hf⟩ := xbd hf
    obtain ⟨hm9, hA⟩ := n_X1_blame hA hr0 e15
    have hm := hm.tr hm9
    have hf := xsj hf
    subst hf
    exact ⟨hm, hA⟩
theorem n_X11_read {A : Nat → Prop} {σ : XS} {r0 : Nat} {x : Int32 × XS} (hA : Reg A σ) (hr0 : A r0) (hf : f_X11_read σ r0 = some x) : Sm A σ x.2 ∧ Reg A x.2 := by
  have hm := Sm.rf (A := A) (σ := σ)
  obtain ⟨z2, e1, hf⟩ := xbd hf
  have hz2 := xgR_reg rfl hA hr0 e1
  obtain ⟨_, e3, hf⟩ := xbd hf
  obtain ⟨σ5, e4, hf⟩ := xbd hf
  obtain ⟨hm9, hA⟩ := n_X1_build hA hz2 e4
  have hm := hm.tr hm9
  obtain ⟨z7, e6, hf⟩ := xbd hf
  have hz7 := xgR_reg rfl hA hr0 e6
  obtain ⟨σ9, e8, hf⟩ := xbd hf
  obtain ⟨hm9, hA⟩ := xpI_reg hA hz7 e8
  have hm := hm.tr hm9
  obtain ⟨z11, e10, hf⟩ := xbd hf
  obtain ⟨v13, e12, hf⟩ := xbd hf
  obtain ⟨σ15, e14, hf⟩ := xbd hf
  obtain ⟨hm9, hA⟩ := xpI_reg hA hr0 e14
  have hm := hm.tr hm9
  obtain ⟨z17, e16, hf⟩ := xbd hf
  obtain ⟨v19, e18, hf⟩ := xbd hf
  by_cases q : v19 = 0
  · have hf := xip q hf
    obtain ⟨_, e20, hf⟩ := xbd hf
    obtain ⟨σ22, e21, hf⟩ := xbd hf
    obtain ⟨hm9, hA⟩ := n_X11_beginAnew hA hr0 e21
    have hm := hm.tr hm9
    obtain ⟨z24, e23, hf⟩ := xbd hf
    obtain ⟨v26, e25, hf⟩ := xbd hf
    have hf := xsj hf
    subst hf
    exact ⟨hm, hA⟩
  · have hf := xin q hf
    obtain ⟨z21, e20, hf⟩ := xbd hf
    obtain ⟨v23, e22, hf⟩ := xbd hf
    have hf := xsj hf
    subst hf
    exact ⟨hm, hA⟩
theorem n_X11_restore {A : Nat → Prop} {σ : XS} {r0 : Nat} {x1 : Int32} {x : Int32 × XS} (hA : Reg A σ) (hr0 : A r0) (hf : f_X11_restore σ r0 x1 = some x) : Sm A σ x.2 ∧ Reg A x.2 := by
  have hm := Sm.rf (A := A) (σ := σ)
  obtain ⟨_, e1, hf⟩ := xbd hf
  obtain ⟨z3, e2, hf⟩ := xbd hf
  by_cases q : z3 = 0
  · have hf := xip q hf
    have hf := xsj hf
    subst hf
    exact ⟨hm, hA⟩
  · have hf := xin q hf
    have hz3 := (n_X11_slotAt hA hr0 e2 q)
    obtain ⟨v5, e4, hf⟩ := xbd hf
    by_cases q : v5 = 0
    · have hf := xip q hf
      have hf := xsj hf
      subst hf
      exact ⟨hm, hA⟩
    · have hf := xin q hf
      obtain ⟨z7, e6, hf⟩ := xbd hf
      have hz7 := xgR_reg rfl hA hr0 e6
      obtain ⟨z9, e8, hf⟩ := xbd hf
      obtain ⟨_, e10, hf⟩ := xbd hf
      obtain ⟨σ12, e11, hf⟩ := xbd hf
      obtain ⟨hm9, hA⟩ := n_X6_copyFrom hA hz7 e11
      have hm := hm.tr hm9
      obtain ⟨z14, e13, hf⟩ := xbd hf
      have hz14 := xgR_reg rfl hA hr0 e13
      obtain ⟨_, e15, hf⟩ := xbd hf
      obtain ⟨σ17, e16, hf⟩ := xbd hf
      obtain ⟨hm9, hA⟩ := n_X5_forget hA hz14 e16
      have hm := hm.tr hm9
      have hf := xsj hf
      subst hf
      exact ⟨hm, hA⟩
theorem n_X11_rows_l90 {A : Nat → Prop} {σ : XS} {r0 : Nat} {x3 : Int32} {r4 : Nat} {x6 : Int32} {x8 : Int32} {a : Int32 × Int32} {x : Int32 × XS} (hA : RegN A σ) (hf : xloop (f_X11_rows_b90 σ r0 x3 r4 x6 x8) a = some x) : Sm A σ x.2 ∧ RegN A x.2 := by
  revert hA
  refine xloop_ind (P := fun a => RegN A σ → Sm A σ x.2 ∧ RegN A x.2) (fun a y hf hc he => ?_) hf
  obtain ⟨x9, x10⟩ := a
  intro hA
  have hA0 : RegN A σ := hA
  have hy : (∀ a' : Int32 × Int32, y = .inl a' → True) ∧ (∀ b1 : Int32 × XS, y = .inr b1 → Sm A σ b1.2 ∧ RegN A b1.2) := by
    have hm := Sm.rf (A := A) (σ := σ)
    by_cases q : x8 ≤ x10
    · have hf := xip q hf
      obtain ⟨b0, hg, e9⟩ := xmj hf
      subst e9
      have hf := hg
      refine ⟨fun a' e => xnc2 e, fun b e => ?_⟩
      have h9 := Sum.inr.inj e
      subst h9
      have hf := xsj hf
      subst hf
      exact ⟨hm, hA⟩
    · have hf := xin q hf
      obtain ⟨z2, e1, hf⟩ := xbd hf
      obtain ⟨v4, e3, hf⟩ := xbd hf
      obtain ⟨z6, e5, hf⟩ := xbd hf
      obtain ⟨v8, e7, hf⟩ := xbd hf
      by_cases q : (x10 &&& v4) = (v8 &&& x6)
      · have hf := xip q hf
        obtain ⟨_, e9, hf⟩ := xbd hf
        obtain ⟨v11, e10, hf⟩ := xbd hf
        by_cases q : v11 = x3
        · have hf := xip q hf
          have hf := xsj hf
          subst hf
          exact ⟨fun a' e => (by have h9 := Sum.inl.inj e; subst h9; exact trivial), fun b e => xnc1 e⟩
        · have hf := xin q hf
          have hf := xsj hf
          subst hf
          exact ⟨fun a' e => (by have h9 := Sum.inl.inj e; subst h9; exact trivial), fun b e => xnc1 e⟩
      · have hf := xin q hf
        have hf := xsj hf
        subst hf
        exact ⟨fun a' e => (by have h9 := Sum.inl.inj e; subst h9; exact trivial), fun b e => xnc1 e⟩
  cases y with
  | inl a' =>
    exact hc a' rfl hA0
  | inr b =>
    have h1 := he b rfl
    subst h1
    exact hy.2 _ rfl
theorem n_X11_rows_j39 {A : Nat → Prop} {σ : XS} {r0 : Nat} {x1 : Int32} {x2 : Int32} {x3 : Int32} {t0 : Nat} {x : Int32 × XS} (hA : RegN A σ) (hf : f_X11_rows_j39 σ r0 x1 x2 x3 t0 = some x) : Sm A σ x.2 ∧ RegN A x.2 := by
  have hm := Sm.rf (A := A) (σ := σ)
  obtain ⟨z2, e1, hf⟩ := xbd hf
  obtain ⟨v4, e3, hf⟩ := xbd hf
  obtain ⟨z6, e5, hf⟩ := xbd hf
  obtain ⟨v8, e7, hf⟩ := xbd hf
  exact ⟨hm.tr (n_X11_rows_l90 (a := ((0 : Int32), x2 <<< ((x1 * v4) &&& 31))) hA hf).1, (n_X11_rows_l90 (a := ((0 : Int32), x2 <<< ((x1 * v4) &&& 31))) hA hf).2⟩
theorem n_X11_rows {A : Nat → Prop} {σ : XS} {r0 : Nat} {x1 : Int32} {x2 : Int32} {x3 : Int32} {x : Int32 × XS} (hA : RegN A σ) (hr0 : A r0) (hf : f_X11_rows σ r0 x1 x2 x3 = some x) : Sm A σ x.2 ∧ RegN A x.2 := by
  have hm := Sm.rf (A := A) (σ := σ)
  by_cases q : x1 < 0
  · have hf := xip q hf
    have hf := xsj hf
    subst hf
    exact ⟨hm, hA⟩
  · have hf := xin q hf
    obtain ⟨z2, e1, hf⟩ := xbd hf
    obtain ⟨v4, e3, hf⟩ := xbd hf
    by_cases q : v4 ≤ x1
    · have hf := xip q hf
      have hf := xsj hf
      subst hf
      exact ⟨hm, hA⟩
    · have hf := xin q hf
      by_cases q : x2 < 0
      · have hf := xip q hf
        have hf := xsj hf
        subst hf
        exact ⟨hm, hA⟩
      · have hf := xin q hf
        obtain ⟨z6, e5, hf⟩ := xbd hf
        obtain ⟨v8, e7, hf⟩ := xbd hf
        by_cases q : x2 < ((1 : Int32) <<< (v8 &&& 31))
        · have hf := xip q hf
          obtain ⟨_, e9, hf⟩ := xbd hf
          obtain ⟨⟨z12, σ11⟩, e10, hf⟩ := xbd hf
          dsimp only at hf
          obtain ⟨hm9, hA, hz120⟩ := n_X11_energiesOfRows hA hr0 e10
          have hm := hm.tr hm9
          obtain ⟨_, e13, hf⟩ := xbd hf
          have hz12 := hz120 (xnz_spec e13)
          exact ⟨hm.tr (n_X11_rows_j39 hA hf).1, (n_X11_rows_j39 hA hf).2⟩
        · have hf := xin q hf
          have hf := xsj hf
          subst hf
          exact ⟨hm, hA⟩
theorem n_X11_state_j152 {A : Nat → Prop} {σ : XS} {r0 : Nat} {x1 : Int32} {t0 : Nat} {x : Int32 × XS} (hA : RegN A σ) (hf : f_X11_state_j152 σ r0 x1 t0 = some x) : Sm A σ x.2 ∧ RegN A x.2 := by
  have hm := Sm.rf (A := A) (σ := σ)
  obtain ⟨z2, e1, hf⟩ := xbd hf
  obtain ⟨z4, e3, hf⟩ := xbd hf
  obtain ⟨_, e5, hf⟩ := xbd hf
  obtain ⟨v7, e6, hf⟩ := xbd hf
  obtain ⟨_, e8, hf⟩ := xbd hf
  obtain ⟨v10, e9, hf⟩ := xbd hf
  have hf := xsj hf
  subst hf
  exact ⟨hm, hA⟩
theorem n_X11_state {A : Nat → Prop} {σ : XS} {r0 : Nat} {x1 : Int32} {x2 : Int32} {x : Int32 × XS} (hA : RegN A σ) (hr0 : A r0) (hf : f_X11_state σ r0 x1 x2 = some x) : Sm A σ x.2 ∧ RegN A x.2 := by
  have hm := Sm.rf (A := A) (σ := σ)
  obtain ⟨_, e1, hf⟩ := xbd hf
  obtain ⟨v3, e2, hf⟩ := xbd hf
  by_cases q : v3 = 0
  · have hf := xip q hf
    have hf := xsj hf
    subst hf
    exact ⟨hm, hA⟩
  · have hf := xin q hf
    by_cases ho : (x2).toInt < 0 ∨ 5 < (x2).toInt
    · have hf := xsw_out ho rfl hf
      have hf := xsj hf
      subst hf
      exact ⟨hm, hA⟩
    · rcases (by omega : (x2).toInt = 0 + ((0 : Nat) : Int) ∨ (x2).toInt = 0 + ((1 : Nat) : Int) ∨ (x2).toInt = 0 + ((2 : Nat) : Int) ∨ (x2).toInt = 0 + ((3 : Nat) : Int) ∨ (x2).toInt = 0 + ((4 : Nat) : Int) ∨ (x2).toInt = 0 + ((5 : Nat) : Int)) with hk1 | hk1 | hk1 | hk1 | hk1 | hk1
      · have hf := xsw_in 0 hk1 rfl hf
        obtain ⟨z5, e4, hf⟩ := xbd hf
        have hz5 := xgR_reg rfl hA.1 hr0 e4
        obtain ⟨z7, e6, hf⟩ := xbd hf
        have hz7 := xgR_reg rfl hA.1 hr0 e6
        obtain ⟨_, e8, hf⟩ := xbd hf
        obtain ⟨v10, e9, hf⟩ := xbd hf
        have hf := xsj hf
        subst hf
        exact ⟨hm, hA⟩
      · have hf := xsw_in 1 hk1 rfl hf
        obtain ⟨z5, e4, hf⟩ := xbd hf
        have hz5 := xgR_reg rfl hA.1 hr0 e4
        obtain ⟨z7, e6, hf⟩ := xbd hf
        have hz7 := xgR_reg rfl hA.1 hr0 e6
        obtain ⟨_, e8, hf⟩ := xbd hf
        obtain ⟨v10, e9, hf⟩ := xbd hf
        have hf := xsj hf
        subst hf
        exact ⟨hm, hA⟩
      · have hf := xsw_in 2 hk1 rfl hf
        obtain ⟨z5, e4, hf⟩ := xbd hf
        have hz5 := xgR_reg rfl hA.1 hr0 e4
        obtain ⟨z7, e6, hf⟩ := xbd hf
        have hz7 := xgR_reg rfl hA.1 hr0 e6
        obtain ⟨_, e8, hf⟩ := xbd hf
        obtain ⟨v10, e9, hf⟩ := xbd hf
        by_cases q : v10 = (-1 : Int32)
        · have hf := xip q hf
          have hf := xsj hf
          subst hf
          exact ⟨hm, hA⟩
        · have hf := xin q hf
          have hf := xsj hf
          subst hf
          exact ⟨hm, hA⟩
      · have hf := xsw_in 3 hk1 rfl hf
        obtain ⟨z5, e4, hf⟩ := xbd hf
        have hz5 := xgR_reg rfl hA.1 hr0 e4
        obtain ⟨z7, e6, hf⟩ := xbd hf
        have hz7 := xgR_reg rfl hA.1 hr0 e6
        obtain ⟨z9, e8, hf⟩ := xbd hf
        obtain ⟨_, e10, hf⟩ := xbd hf
        obtain ⟨σ12, e11, hf⟩ := xbd hf
        obtain ⟨hm9, hB⟩ := n_X10_fallFrom hA.1 hz5 e11
        have hA := RegN.step hA hB (m_X10_fallFrom e11).ext
        have hm := hm.tr hm9
        obtain ⟨z14, e13, hf⟩ := xbd hf
        obtain ⟨v16, e15, hf⟩ := xbd hf
        have hf := xsj hf
        subst hf
        exact ⟨hm, hA⟩
      · have hf := xsw_in 4 hk1 rfl hf
        obtain ⟨z5, e4, hf⟩ := xbd hf
        have hz5 := xgR_reg rfl hA.1 hr0 e4
        obtain ⟨z7, e6, hf⟩ := xbd hf
        have hz7 := xgR_reg rfl hA.1 hr0 e6
        obtain ⟨z9, e8, hf⟩ := xbd hf
        obtain ⟨_, e10, hf⟩ := xbd hf
        obtain ⟨σ12, e11, hf⟩ := xbd hf
        obtain ⟨hm9, hB⟩ := n_X10_fallFrom hA.1 hz5 e11
        have hA := RegN.step hA hB (m_X10_fallFrom e11).ext
        have hm := hm.tr hm9
        obtain ⟨z14, e13, hf⟩ := xbd hf
        obtain ⟨v16, e15, hf⟩ := xbd hf
        have hf := xsj hf
        subst hf
        exact ⟨hm, hA⟩
      · have hf := xsw_in 5 hk1 rfl hf
        obtain ⟨_, e4, hf⟩ := xbd hf
        obtain ⟨⟨z7, σ6⟩, e5, hf⟩ := xbd hf
        dsimp only at hf
        obtain ⟨hm9, hA, hz70⟩ := n_X11_levelsNow hA hr0 e5
        have hm := hm.tr hm9
        obtain ⟨_, e8, hf⟩ := xbd hf
        have hz7 := hz70 (xnz_spec e8)
        exact ⟨hm.tr (n_X11_state_j152 hA hf).1, (n_X11_state_j152 hA hf).2⟩
theorem n_X11_stiff_j151 {A : Nat → Prop} {σ : XS} {x4 : Int32} {x5 : Int32} {t0 : Int32} {x : Int32 × XS} (hA : RegN A σ) (hf : f_X11_stiff_j151 σ x4 x5 t0 = some x) : Sm A σ x.2 ∧ RegN A x.2 := by
  have hm := Sm.rf (A := A) (σ := σ)
  by_cases q : t0 = 0
  · have hf := xip q hf
    have hf := xsj hf
    subst hf
    exact ⟨hm, hA⟩
  · have hf := xin q hf
    have hf := xsj hf
    subst hf
    exact ⟨hm, hA⟩
theorem n_X11_stiff_l56 {A : Nat → Prop} {σ : XS} {r0 : Nat} {x1 : Int32} {x2 : Int32} {x3 : Int32} {a : Int32 × Int32 × Int32} {x : Int32 × XS} (hA : RegN A σ) (hf : xloop (f_X11_stiff_b56 σ r0 x1 x2 x3) a = some x) : Sm A σ x.2 ∧ RegN A x.2 := by
  revert hA
  refine xloop_ind (P := fun a => RegN A σ → Sm A σ x.2 ∧ RegN A x.2) (fun a y hf hc he => ?_) hf
  obtain ⟨x4, x5, x6⟩ := a
  intro hA
  have hA0 : RegN A σ := hA
  have hy : (∀ a' : Int32 × Int32 × Int32, y = .inl a' → True) ∧ (∀ b1 : Int32 × XS, y = .inr b1 → Sm A σ b1.2 ∧ RegN A b1.2) := by
    have hm := Sm.rf (A := A) (σ := σ)
    by_cases q : x3 ≤ x6
    · have hf := xip q hf
      obtain ⟨b0, hg, e9⟩ := xmj hf
      subst e9
      have hf := hg
      refine ⟨fun a' e => xnc2 e, fun b e => ?_⟩
      have h9 := Sum.inr.inj e
      subst h9
      by_cases q : x5 = (145 : Int32)
      · have hf := xip q hf
        exact ⟨hm.tr (n_X11_stiff_j151 hA hf).1, (n_X11_stiff_j151 hA hf).2⟩
      · have hf := xin q hf
        by_cases q : x4 = (145 : Int32)
        · have hf := xip q hf
          exact ⟨hm.tr (n_X11_stiff_j151 hA hf).1, (n_X11_stiff_j151 hA hf).2⟩
        · have hf := xin q hf
          exact ⟨hm.tr (n_X11_stiff_j151 hA hf).1, (n_X11_stiff_j151 hA hf).2⟩
    · have hf := xin q hf
      obtain ⟨z2, e1, hf⟩ := xbd hf
      obtain ⟨_, e3, hf⟩ := xbd hf
      obtain ⟨v5, e4, hf⟩ := xbd hf
      by_cases q : v5 = 0
      · have hf := xip q hf
        have hf := xsj hf
        subst hf
        exact ⟨fun a' e => (by have h9 := Sum.inl.inj e; subst h9; exact trivial), fun b e => xnc1 e⟩
      · have hf := xin q hf
        obtain ⟨v7, e6, hf⟩ := xbd hf
        obtain ⟨v9, e8, hf⟩ := xbd hf
        by_cases q : v7 = v9
        · have hf := xip q hf
          obtain ⟨z11, e10, hf⟩ := xbd hf
          obtain ⟨_, e12, hf⟩ := xbd hf
          obtain ⟨v14, e13, hf⟩ := xbd hf
          have hf := xsj hf
          subst hf
          exact ⟨fun a' e => (by have h9 := Sum.inl.inj e; subst h9; exact trivial), fun b e => xnc1 e⟩
        · have hf := xin q hf
          obtain ⟨z11, e10, hf⟩ := xbd hf
          obtain ⟨_, e12, hf⟩ := xbd hf
          obtain ⟨v14, e13, hf⟩ := xbd hf
          have hf := xsj hf
          subst hf
          exact ⟨fun a' e => (by have h9 := Sum.inl.inj e; subst h9; exact trivial), fun b e => xnc1 e⟩
  cases y with
  | inl a' =>
    exact hc a' rfl hA0
  | inr b =>
    have h1 := he b rfl
    subst h1
    exact hy.2 _ rfl
theorem n_X11_stiff_j34 {A : Nat → Prop} {σ : XS} {r0 : Nat} {x1 : Int32} {x2 : Int32} {t0 : Nat} {x : Int32 × XS} (hA : RegN A σ) (hf : f_X11_stiff_j34 σ r0 x1 x2 t0 = some x) : Sm A σ x.2 ∧ RegN A x.2 := by
  have hm := Sm.rf (A := A) (σ := σ)
  obtain ⟨z2, e1, hf⟩ := xbd hf
  obtain ⟨_, e3, hf⟩ := xbd hf
  obtain ⟨v5, e4, hf⟩ := xbd hf
  exact ⟨hm.tr (n_X11_stiff_l56 (a := ((145 : Int32), (145 : Int32), (0 : Int32))) hA hf).1, (n_X11_stiff_l56 (a := ((145 : Int32), (145 : Int32), (0 : Int32))) hA hf).2⟩
theorem n_X11_stiff {A : Nat → Prop} {σ : XS} {r0 : Nat} {x1 : Int32} {x2 : Int32} {x : Int32 × XS} (hA : RegN A σ) (hr0 : A r0) (hf : f_X11_stiff σ r0 x1 x2 = some x) : Sm A σ x.2 ∧ RegN A x.2 := by
  have hm := Sm.rf (A := A) (σ := σ)
  obtain ⟨z2, e1, hf⟩ := xbd hf
  obtain ⟨_, e3, hf⟩ := xbd hf
  obtain ⟨v5, e4, hf⟩ := xbd hf
  by_cases q : v5 = 0
  · have hf := xip q hf
    have hf := xsj hf
    subst hf
    exact ⟨hm, hA⟩
  · have hf := xin q hf
    obtain ⟨z7, e6, hf⟩ := xbd hf
    obtain ⟨_, e8, hf⟩ := xbd hf
    obtain ⟨v10, e9, hf⟩ := xbd hf
    by_cases q : v10 = 0
    · have hf := xip q hf
      have hf := xsj hf
      subst hf
      exact ⟨hm, hA⟩
    · have hf := xin q hf
      by_cases q : x1 = x2
      · have hf := xip q hf
        have hf := xsj hf
        subst hf
        exact ⟨hm, hA⟩
      · have hf := xin q hf
        obtain ⟨_, e11, hf⟩ := xbd hf
        obtain ⟨⟨z14, σ13⟩, e12, hf⟩ := xbd hf
        dsimp only at hf
        obtain ⟨hm9, hA, hz140⟩ := n_X11_energiesNow hA hr0 e12
        have hm := hm.tr hm9
        obtain ⟨_, e15, hf⟩ := xbd hf
        have hz14 := hz140 (xnz_spec e15)
        exact ⟨hm.tr (n_X11_stiff_j34 hA hf).1, (n_X11_stiff_j34 hA hf).2⟩
theorem n_X11_stuck_j76 {A : Nat → Prop} {σ : XS} {r0 : Nat} {x1 : Int32} {x3 : Int32} {x4 : Int32} {x5 : Int32} {x6 : Int32} {t0 : Int32} {x : ((Int32 × Int32) ⊕ (Int32 × XS))} (hA : RegN A σ) (hf : f_X11_stuck_j76 σ r0 x1 x3 x4 x5 x6 t0 = some x) : (∀ a' : Int32 × Int32, x = .inl a' → True) ∧ (∀ b1 : Int32 × XS, x = .inr b1 → Sm A σ b1.2 ∧ RegN A b1.2) := by
  have hm := Sm.rf (A := A) (σ := σ)
  by_cases q : t0 = 0
  · have hf := xip q hf
    have hf := xsj hf
    subst hf
    exact ⟨fun a' e => (by have h9 := Sum.inl.inj e; subst h9; exact trivial), fun b e => xnc1 e⟩
  · have hf := xin q hf
    obtain ⟨z2, e1, hf⟩ := xbd hf
    obtain ⟨z4, e3, hf⟩ := xbd hf
    obtain ⟨v6, e5, hf⟩ := xbd hf
    obtain ⟨_, e7, hf⟩ := xbd hf
    obtain ⟨v9, e8, hf⟩ := xbd hf
    by_cases q : v9 = 0
    · have hf := xip q hf
      have hf := xsj hf
      subst hf
      exact ⟨fun a' e => (by have h9 := Sum.inl.inj e; subst h9; exact trivial), fun b e => xnc1 e⟩
    · have hf := xin q hf
      have hf := xsj hf
      subst hf
      exact ⟨fun a' e => (by have h9 := Sum.inl.inj e; subst h9; exact trivial), fun b e => xnc1 e⟩
theorem n_X11_stuck_l35 {A : Nat → Prop} {σ : XS} {r0 : Nat} {x1 : Int32} {x3 : Int32} {x4 : Int32} {a : Int32 × Int32} {x : Int32 × XS} (hA : RegN A σ) (hf : xloop (f_X11_stuck_b35 σ r0 x1 x3 x4) a = some x) : Sm A σ x.2 ∧ RegN A x.2 := by
  revert hA
  refine xloop_ind (P := fun a => RegN A σ → Sm A σ x.2 ∧ RegN A x.2) (fun a y hf hc he => ?_) hf
  obtain ⟨x5, x6⟩ := a
  intro hA
  have hA0 : RegN A σ := hA
  have hy : (∀ a' : Int32 × Int32, y = .inl a' → True) ∧ (∀ b1 : Int32 × XS, y = .inr b1 → Sm A σ b1.2 ∧ RegN A b1.2) := by
    have hm := Sm.rf (A := A) (σ := σ)
    by_cases q : x4 ≤ x6
    · have hf := xip q hf
      obtain ⟨b0, hg, e9⟩ := xmj hf
      subst e9
      have hf := hg
      refine ⟨fun a' e => xnc2 e, fun b e => ?_⟩
      have h9 := Sum.inr.inj e
      subst h9
      have hf := xsj hf
      subst hf
      exact ⟨hm, hA⟩
    · have hf := xin q hf
      obtain ⟨z2, e1, hf⟩ := xbd hf
      obtain ⟨_, e3, hf⟩ := xbd hf
      obtain ⟨v5, e4, hf⟩ := xbd hf
      by_cases q : v5 = 0
      · have hf := xip q hf
        exact ⟨fun _ _ => trivial, fun b1 eb1 => ⟨hm.tr ((n_X11_stuck_j76 hA hf).2 b1 eb1).1, ((n_X11_stuck_j76 hA hf).2 b1 eb1).2⟩⟩
      · have hf := xin q hf
        by_cases q : x1 = 0
        · have hf := xip q hf
          exact ⟨fun _ _ => trivial, fun b1 eb1 => ⟨hm.tr ((n_X11_stuck_j76 hA hf).2 b1 eb1).1, ((n_X11_stuck_j76 hA hf).2 b1 eb1).2⟩⟩
        · have hf := xin q hf
          obtain ⟨z7, e6, hf⟩ := xbd hf
          obtain ⟨_, e8, hf⟩ := xbd hf
          obtain ⟨v10, e9, hf⟩ := xbd hf
          by_cases q : v10 = x3
          · have hf := xip q hf
            exact ⟨fun _ _ => trivial, fun b1 eb1 => ⟨hm.tr ((n_X11_stuck_j76 hA hf).2 b1 eb1).1, ((n_X11_stuck_j76 hA hf).2 b1 eb1).2⟩⟩
          · have hf := xin q hf
            exact ⟨fun _ _ => trivial, fun b1 eb1 => ⟨hm.tr ((n_X11_stuck_j76 hA hf).2 b1 eb1).1, ((n_X11_stuck_j76 hA hf).2 b1 eb1).2⟩⟩
  cases y with
  | inl a' =>
    exact hc a' rfl hA0
  | inr b =>
    have h1 := he b rfl
    subst h1
    exact hy.2 _ rfl
theorem n_X11_stuck_j4 {A : Nat → Prop} {σ : XS} {r0 : Nat} {x1 : Int32} {t0 : Nat} {x : Int32 × XS} (hA : RegN A σ) (hf : f_X11_stuck_j4 σ r0 x1 t0 = some x) : Sm A σ x.2 ∧ RegN A x.2 := by
  have hm := Sm.rf (A := A) (σ := σ)
  obtain ⟨v2, e1, hf⟩ := xbd hf
  by_cases q : v2 = 0
  · have hf := xip q hf
    have hf := xsj hf
    subst hf
    exact ⟨hm, hA⟩
  · have hf := xin q hf
    obtain ⟨_, e3, hf⟩ := xbd hf
    obtain ⟨v5, e4, hf⟩ := xbd hf
    obtain ⟨z7, e6, hf⟩ := xbd hf
    obtain ⟨_, e8, hf⟩ := xbd hf
    obtain ⟨v10, e9, hf⟩ := xbd hf
    exact ⟨hm.tr (n_X11_stuck_l35 (a := ((0 : Int32), (0 : Int32))) hA hf).1, (n_X11_stuck_l35 (a := ((0 : Int32), (0 : Int32))) hA hf).2⟩
theorem n_X11_stuck {A : Nat → Prop} {σ : XS} {r0 : Nat} {x1 : Int32} {x : Int32 × XS} (hA : RegN A σ) (hr0 : A r0) (hf : f_X11_stuck σ r0 x1 = some x) : Sm A σ x.2 ∧ RegN A x.2 := by
  have hm := Sm.rf (A := A) (σ := σ)
  obtain ⟨_, e1, hf⟩ := xbd hf
  obtain ⟨⟨z4, σ3⟩, e2, hf⟩ := xbd hf
  dsimp only at hf
  obtain ⟨hm9, hA, hz40⟩ := n_X11_levelsNow hA hr0 e2
  have hm := hm.tr hm9
  obtain ⟨_, e5, hf⟩ := xbd hf
  have hz4 := hz40 (xnz_spec e5)
  exact ⟨hm.tr (n_X11_stuck_j4 hA hf).1, (n_X11_stuck_j4 hA hf).2⟩
theorem n_X11_tie {A : Nat → Prop} {σ : XS} {r0 : Nat} {x1 : Int32} {x2 : Int32} {x3 : Int32} {x : Int32 × XS} (hA : Reg A σ) (hr0 : A r0) (hf : f_X11_tie σ r0 x1 x2 x3 = some x) : Sm A σ x.2 ∧ Reg A x.2 := by
  have hm := Sm.rf (A := A) (σ := σ)
  obtain ⟨z2, e1, hf⟩ := xbd hf
  obtain ⟨_, e3, hf⟩ := xbd hf
  obtain ⟨v5, e4, hf⟩ := xbd hf
  by_cases q : v5 = (-1 : Int32)
  · have hf := xip q hf
    have hf := xsj hf
    subst hf
    exact ⟨hm, hA⟩
  · have hf := xin q hf
    obtain ⟨v7, e6, hf⟩ := xbd hf
    by_cases q : v7 = 0
    · have hf := xip q hf
      have hf := xsj hf
      subst hf
      exact ⟨hm, hA⟩
    · have hf := xin q hf
      obtain ⟨z9, e8, hf⟩ := xbd hf
      obtain ⟨_, e10, hf⟩ := xbd hf
      obtain ⟨v12, e11, hf⟩ := xbd hf
      by_cases q : v12 = x3
      · have hf := xip q hf
        have hf := xsj hf
        subst hf
        exact ⟨hm, hA⟩
      · have hf := xin q hf
        obtain ⟨z14, e13, hf⟩ := xbd hf
        have hz14 := xgR_reg rfl hA hr0 e13
        obtain ⟨z16, e15, hf⟩ := xbd hf
        obtain ⟨_, e17, hf⟩ := xbd hf
        obtain ⟨σ19, e18, hf⟩ := xbd hf
        obtain ⟨hm9, hA⟩ := n_X5_keep hA hz14 e18
        have hm := hm.tr hm9
        obtain ⟨z21, e20, hf⟩ := xbd hf
        have hz21 := xgR_reg rfl hA hr0 e20
        obtain ⟨_, e22, hf⟩ := xbd hf
        obtain ⟨σ24, e23, hf⟩ := xbd hf
        obtain ⟨hm9, hA⟩ := n_X6_setBond hA hz21 e23
        have hm := hm.tr hm9
        obtain ⟨_, e25, hf⟩ := xbd hf
        obtain ⟨σ27, e26, hf⟩ := xbd hf
        obtain ⟨hm9, hA⟩ := n_X11_stampTies hA hr0 e26
        have hm := hm.tr hm9
        have hf := xsj hf
        subst hf
        exact ⟨hm, hA⟩
theorem n_X11_turn {A : Nat → Prop} {σ : XS} {r0 : Nat} {x1 : Int32} {x : Int32 × XS} (hA : Reg A σ) (hr0 : A r0) (hf : f_X11_turn σ r0 x1 = some x) : Sm A σ x.2 ∧ Reg A x.2 := by
  have hm := Sm.rf (A := A) (σ := σ)
  obtain ⟨z2, e1, hf⟩ := xbd hf
  obtain ⟨_, e3, hf⟩ := xbd hf
  obtain ⟨v5, e4, hf⟩ := xbd hf
  by_cases q : v5 = 0
  · have hf := xip q hf
    have hf := xsj hf
    subst hf
    exact ⟨hm, hA⟩
  · have hf := xin q hf
    obtain ⟨z7, e6, hf⟩ := xbd hf
    obtain ⟨_, e8, hf⟩ := xbd hf
    obtain ⟨v10, e9, hf⟩ := xbd hf
    by_cases q : v10 = 0
    · have hf := xip q hf
      obtain ⟨z12, e11, hf⟩ := xbd hf
      have hz12 := xgR_reg rfl hA hr0 e11
      obtain ⟨z14, e13, hf⟩ := xbd hf
      obtain ⟨_, e15, hf⟩ := xbd hf
      obtain ⟨σ17, e16, hf⟩ := xbd hf
      obtain ⟨hm9, hA⟩ := n_X5_keep hA hz12 e16
      have hm := hm.tr hm9
      obtain ⟨z19, e18, hf⟩ := xbd hf
      have hz19 := xgR_reg rfl hA hr0 e18
      obtain ⟨v21, e20, hf⟩ := xbd hf
      obtain ⟨σ23, e22, hf⟩ := xbd hf
      obtain ⟨hm9, hA⟩ := xpI_reg hA hz19 e22
      have hm := hm.tr hm9
      have hf := xsj hf
      subst hf
      exact ⟨hm, hA⟩
    · have hf := xin q hf
      have hf := xsj hf
      subst hf
      exact ⟨hm, hA⟩
theorem n_X5_giveBack_j18 {A : Nat → Prop} {σ : XS} {r0 : Nat} {r1 : Nat} {t0 : Int32} {x : Int32 × XS} (hA : Reg A σ) (hr0 : A r0) (hr1 : A r1) (hf : f_X5_giveBack_j18 σ r0 r1 t0 = some x) : Sm A σ x.2 ∧ Reg A x.2 := by
  have hm := Sm.rf (A := A) (σ := σ)
  obtain ⟨v2, e1, hf⟩ := xbd hf
  by_cases q : v2 = 0
  · have hf := xip q hf
    have hf := xsj hf
    subst hf
    exact ⟨hm, hA⟩
  · have hf := xin q hf
    obtain ⟨z4, e3, hf⟩ := xbd hf
    obtain ⟨v6, e5, hf⟩ := xbd hf
    by_cases q : t0 < v6
    · have hf := xip q hf
      obtain ⟨z8, e7, hf⟩ := xbd hf
      obtain ⟨z10, e9, hf⟩ := xbd hf
      obtain ⟨_, e11, hf⟩ := xbd hf
      obtain ⟨σ13, e12, hf⟩ := xbd hf
      obtain ⟨hm9, hA⟩ := n_X6_copyFrom hA hr1 e12
      have hm := hm.tr hm9
      obtain ⟨σ15, e14, hf⟩ := xbd hf
      obtain ⟨hm9, hA⟩ := xpI_reg hA hr0 e14
      have hm := hm.tr hm9
      obtain ⟨v17, e16, hf⟩ := xbd hf
      obtain ⟨σ19, e18, hf⟩ := xbd hf
      obtain ⟨hm9, hA⟩ := xpI_reg hA hr0 e18
      have hm := hm.tr hm9
      have hf := xsj hf
      subst hf
      exact ⟨hm, hA⟩
    · have hf := xin q hf
      have hf := xsj hf
      subst hf
      exact ⟨hm, hA⟩
theorem n_X5_giveBack {A : Nat → Prop} {σ : XS} {r0 : Nat} {r1 : Nat} {x : Int32 × XS} (hA : Reg A σ) (hr0 : A r0) (hr1 : A r1) (hf : f_X5_giveBack σ r0 r1 = some x) : Sm A σ x.2 ∧ Reg A x.2 := by
  have hm := Sm.rf (A := A) (σ := σ)
  obtain ⟨v2, e1, hf⟩ := xbd hf
  by_cases q : v2 ≤ 0
  · have hf := xip q hf
    exact ⟨hm.tr (n_X5_giveBack_j18 hA hr0 hr1 hf).1, (n_X5_giveBack_j18 hA hr0 hr1 hf).2⟩
  · have hf := xin q hf
    obtain ⟨v4, e3, hf⟩ := xbd hf
    exact ⟨hm.tr (n_X5_giveBack_j18 hA hr0 hr1 hf).1, (n_X5_giveBack_j18 hA hr0 hr1 hf).2⟩
theorem n_X11_undo {A : Nat → Prop} {σ : XS} {r0 : Nat} {x : Int32 × XS} (hA : Reg A σ) (hr0 : A r0) (hf : f_X11_undo σ r0 = some x) : Sm A σ x.2 ∧ Reg A x.2 := by
  have hm := Sm.rf (A := A) (σ := σ)
  obtain ⟨z2, e1, hf⟩ := xbd hf
  have hz2 := xgR_reg rfl hA hr0 e1
  obtain ⟨z4, e3, hf⟩ := xbd hf
  have hz4 := xgR_reg rfl hA hr0 e3
  obtain ⟨_, e5, hf⟩ := xbd hf
  obtain ⟨⟨v8, σ7⟩, e6, hf⟩ := xbd hf
  dsimp only at hf
  obtain ⟨hm9, hA⟩ := n_X5_giveBack hA hz2 hz4 e6
  have hm := hm.tr hm9
  obtain ⟨_, e9, hf⟩ := xbd hf
  have hf := xsj hf
  subst hf
  exact ⟨hm, hA⟩
theorem n_X11_value_l39 {A : Nat → Prop} {σ : XS} {x1 : Int32} {r2 : Nat} {a : Int64 × Int64 × Int32} {x : Int32 × XS} (hA : RegN A σ) (hf : xloop (f_X11_value_b39 σ x1 r2) a = some x) : Sm A σ x.2 ∧ RegN A x.2 := by
  revert hA
  refine xloop_ind (P := fun a => RegN A σ → Sm A σ x.2 ∧ RegN A x.2) (fun a y hf hc he => ?_) hf
  obtain ⟨w3, w5, x7⟩ := a
  intro hA
  have hA0 : RegN A σ := hA
  have hy : (∀ a' : Int64 × Int64 × Int32, y = .inl a' → True) ∧ (∀ b1 : Int32 × XS, y = .inr b1 → Sm A σ b1.2 ∧ RegN A b1.2) := by
    have hm := Sm.rf (A := A) (σ := σ)
    by_cases q : (144 : Int32) < x7
    · have hf := xip q hf
      obtain ⟨b0, hg, e9⟩ := xmj hf
      subst e9
      have hf := hg
      refine ⟨fun a' e => xnc2 e, fun b e => ?_⟩
      have h9 := Sum.inr.inj e
      subst h9
      have hf := xsj hf
      subst hf
      exact ⟨hm, hA⟩
    · have hf := xin q hf
      obtain ⟨_, e1, hf⟩ := xbd hf
      obtain ⟨v3, e2, hf⟩ := xbd hf
      have hf := xsj hf
      subst hf
      exact ⟨fun a' e => (by have h9 := Sum.inl.inj e; subst h9; exact trivial), fun b e => xnc1 e⟩
  cases y with
  | inl a' =>
    exact hc a' rfl hA0
  | inr b =>
    have h1 := he b rfl
    subst h1
    exact hy.2 _ rfl
theorem n_X11_value_j17 {A : Nat → Prop} {σ : XS} {x1 : Int32} {t0 : Nat} {x : Int32 × XS} (hA : RegN A σ) (hf : f_X11_value_j17 σ x1 t0 = some x) : Sm A σ x.2 ∧ RegN A x.2 := by
  have hm := Sm.rf (A := A) (σ := σ)
  obtain ⟨v2, e1, hf⟩ := xbd hf
  by_cases q : v2 = 0
  · have hf := xip q hf
    have hf := xsj hf
    subst hf
    exact ⟨hm, hA⟩
  · have hf := xin q hf
    obtain ⟨_, e3, hf⟩ := xbd hf
    obtain ⟨v5, e4, hf⟩ := xbd hf
    exact ⟨hm.tr (n_X11_value_l39 (a := ((0 : Int64), (1 : Int64), v5)) hA hf).1, (n_X11_value_l39 (a := ((0 : Int64), (1 : Int64), v5)) hA hf).2⟩
theorem n_X11_value {A : Nat → Prop} {σ : XS} {r0 : Nat} {x1 : Int32} {x : Int32 × XS} (hA : RegN A σ) (hr0 : A r0) (hf : f_X11_value σ r0 x1 = some x) : Sm A σ x.2 ∧ RegN A x.2 := by
  have hm := Sm.rf (A := A) (σ := σ)
  by_cases q : x1 < 0
  · have hf := xip q hf
    have hf := xsj hf
    subst hf
    exact ⟨hm, hA⟩
  · have hf := xin q hf
    by_cases q : x1 < (1000003 : Int32)
    · have hf := xip q hf
      obtain ⟨_, e1, hf⟩ := xbd hf
      obtain ⟨⟨z4, σ3⟩, e2, hf⟩ := xbd hf
      dsimp only at hf
      obtain ⟨hm9, hA, hz40⟩ := n_X11_levelsNow hA hr0 e2
      have hm := hm.tr hm9
      obtain ⟨_, e5, hf⟩ := xbd hf
      have hz4 := hz40 (xnz_spec e5)
      exact ⟨hm.tr (n_X11_value_j17 hA hf).1, (n_X11_value_j17 hA hf).2⟩
    · have hf := xin q hf
      have hf := xsj hf
      subst hf
      exact ⟨hm, hA⟩
theorem n_X11_wander {A : Nat → Prop} {σ : XS} {r0 : Nat} {x1 : Int32} {x2 : Int32} {x3 : Int32} {x : Int32 × XS} (hA : Reg A σ) (hr0 : A r0) (hf : f_X11_wander σ r0 x1 x2 x3 = some x) : Sm A σ x.2 ∧ Reg A x.2 := by
  have hm := Sm.rf (A := A) (σ := σ)
  by_cases q : x1 < 0
  · have hf := xip q hf
    have hf := xsj hf
    subst hf
    exact ⟨hm, hA⟩
  · have hf := xin q hf
    by_cases q : (200 : Int32) < x1
    · have hf := xip q hf
      have hf := xsj hf
      subst hf
      exact ⟨hm, hA⟩
    · have hf := xin q hf
      by_cases q : x2 < 0
      · have hf := xip q hf
        have hf := xsj hf
        subst hf
        exact ⟨hm, hA⟩
      · have hf := xin q hf
        by_cases q : (100 : Int32) < x2
        · have hf := xip q hf
          have hf := xsj hf
          subst hf
          exact ⟨hm, hA⟩
        · have hf := xin q hf
          obtain ⟨z2, e1, hf⟩ := xbd hf
          obtain ⟨v4, e3, hf⟩ := xbd hf
          by_cases q : v4 = 0
          · have hf := xip q hf
            have hf := xsj hf
            subst hf
            exact ⟨hm, hA⟩
          · have hf := xin q hf
            obtain ⟨z6, e5, hf⟩ := xbd hf
            have hz6 := xgR_reg rfl hA hr0 e5
            obtain ⟨z8, e7, hf⟩ := xbd hf
            obtain ⟨z10, e9, hf⟩ := xbd hf
            obtain ⟨_, e11, hf⟩ := xbd hf
            obtain ⟨σ13, e12, hf⟩ := xbd hf
            obtain ⟨hm9, hA⟩ := n_X10_strollFrom hA hz6 e12
            have hm := hm.tr hm9
            by_cases ho : (x3).toInt < 0 ∨ 2 < (x3).toInt
            · have hf := xsw_out ho rfl hf
              have hf := xsj hf
              subst hf
              exact ⟨hm, hA⟩
            · rcases (by omega : (x3).toInt = 0 + ((0 : Nat) : Int) ∨ (x3).toInt = 0 + ((1 : Nat) : Int) ∨ (x3).toInt = 0 + ((2 : Nat) : Int)) with hk1 | hk1 | hk1
              · have hf := xsw_in 0 hk1 rfl hf
                obtain ⟨z15, e14, hf⟩ := xbd hf
                obtain ⟨v17, e16, hf⟩ := xbd hf
                have hf := xsj hf
                subst hf
                exact ⟨hm, hA⟩
              · have hf := xsw_in 1 hk1 rfl hf
                obtain ⟨z15, e14, hf⟩ := xbd hf
                obtain ⟨v17, e16, hf⟩ := xbd hf
                have hf := xsj hf
                subst hf
                exact ⟨hm, hA⟩
              · have hf := xsw_in 2 hk1 rfl hf
                obtain ⟨z15, e14, hf⟩ := xbd hf
                obtain ⟨v17, e16, hf⟩ := xbd hf
                have hf := xsj hf
                subst hf
                exact ⟨hm, hA⟩
theorem n_X12_back {A : Nat → Prop} {σ : XS} {r0 : Nat} {x1 : Int32} {x : Int32 × XS} (hA : Reg A σ) (hr0 : A r0) (hf : f_X12_back σ r0 x1 = some x) : Sm A σ x.2 ∧ Reg A x.2 := by
  have hm := Sm.rf (A := A) (σ := σ)
  by_cases q : x1 < 0
  · have hf := xip q hf
    have hf := xsj hf
    subst hf
    exact ⟨hm, hA⟩
  · have hf := xin q hf
    obtain ⟨v2, e1, hf⟩ := xbd hf
    by_cases q : x1 ≤ v2
    · have hf := xip q hf
      obtain ⟨v4, e3, hf⟩ := xbd hf
      obtain ⟨σ6, e5, hf⟩ := xbd hf
      obtain ⟨hm9, hA⟩ := xpI_reg hA hr0 e5
      have hm := hm.tr hm9
      obtain ⟨v8, e7, hf⟩ := xbd hf
      have hf := xsj hf
      subst hf
      exact ⟨hm, hA⟩
    · have hf := xin q hf
      have hf := xsj hf
      subst hf
      exact ⟨hm, hA⟩
theorem n_X12_knows_l122 {A : Nat → Prop} {r0 : Nat} {a : Int32 × XS} {x : XS} (hA : Reg A a.2) (hr0 : A r0) (hf : xloop (f_X12_knows_b122 r0) a = some x) : Sm A a.2 x ∧ Reg A x := by
  revert hA
  refine xloop_ind (P := fun a => Reg A a.2 → Sm A a.2 x ∧ Reg A x) (fun a y hf hc he => ?_) hf
  obtain ⟨x1, σ⟩ := a
  intro hA
  have hA0 : Reg A σ := hA
  have hy : (∀ a' : Int32 × XS, y = .inl a' → Sm A σ a'.2 ∧ Reg A a'.2) ∧ (∀ b1 : XS, y = .inr b1 → Sm A σ b1 ∧ Reg A b1) := by
    have hm := Sm.rf (A := A) (σ := σ)
    by_cases q : (301 : Int32) ≤ x1
    · have hf := xip q hf
      obtain ⟨b0, hg, e9⟩ := xmj hf
      subst e9
      have hf := hg
      refine ⟨fun a' e => xnc2 e, fun b e => ?_⟩
      have h9 := Sum.inr.inj e
      subst h9
      have hf := xsj hf
      subst hf
      exact ⟨hm, hA⟩
    · have hf := xin q hf
      obtain ⟨z2, e1, hf⟩ := xbd hf
      obtain ⟨v4, e3, hf⟩ := xbd hf
      by_cases q : v4 = 0
      · have hf := xip q hf
        have hf := xsj hf
        subst hf
        exact ⟨fun a' e => (by have h9 := Sum.inl.inj e; subst h9; exact ⟨hm, hA⟩), fun b e => xnc1 e⟩
      · have hf := xin q hf
        obtain ⟨z6, e5, hf⟩ := xbd hf
        have hz6 := xgR_reg rfl hA hr0 e5
        obtain ⟨v8, e7, hf⟩ := xbd hf
        obtain ⟨σ10, e9, hf⟩ := xbd hf
        obtain ⟨hm9, hA⟩ := xsI_reg hA hz6 e9
        have hm := hm.tr hm9
        obtain ⟨v12, e11, hf⟩ := xbd hf
        obtain ⟨σ14, e13, hf⟩ := xbd hf
        obtain ⟨hm9, hA⟩ := xpI_reg hA hr0 e13
        have hm := hm.tr hm9
        have hf := xsj hf
        subst hf
        exact ⟨fun a' e => (by have h9 := Sum.inl.inj e; subst h9; exact ⟨hm, hA⟩), fun b e => xnc1 e⟩
  cases y with
  | inl a' =>
    obtain ⟨hm, hA1⟩ := hy.1 a' rfl
    have h1 := hc a' rfl hA1
    exact ⟨hm.tr (h1).1, (h1).2⟩
  | inr b =>
    have h1 := he b rfl
    subst h1
    exact hy.2 _ rfl
theorem n_X12_knows_j77 {A : Nat → Prop} {σ : XS} {r0 : Nat} {x1 : Int32} {t0 : Nat} {t1 : Int32} {t2 : Int32} {x : ((Int32 × XS) ⊕ (XS))} (hA : Reg A σ) (hr0 : A r0) (ht0 : A t0) (hf : f_X12_knows_j77 σ r0 x1 t0 t1 t2 = some x) : (∀ a' : Int32 × XS, x = .inl a' → Sm A σ a'.2 ∧ Reg A a'.2) ∧ (∀ b1 : XS, x = .inr b1 → Sm A σ b1 ∧ Reg A b1) := by
  have hm := Sm.rf (A := A) (σ := σ)
  obtain ⟨σ2, e1, hf⟩ := xbd hf
  obtain ⟨hm9, hA⟩ := xsI_reg hA ht0 e1
  have hm := hm.tr hm9
  obtain ⟨z4, e3, hf⟩ := xbd hf
  obtain ⟨v6, e5, hf⟩ := xbd hf
  by_cases q : (100000 : Int32) ≤ v6
  · have hf := xip q hf
    have hf := xsj hf
    subst hf
    exact ⟨fun a' e => (by have h9 := Sum.inl.inj e; subst h9; exact ⟨hm, hA⟩), fun b e => xnc1 e⟩
  · have hf := xin q hf
    obtain ⟨z8, e7, hf⟩ := xbd hf
    have hz8 := xgR_reg rfl hA hr0 e7
    obtain ⟨z10, e9, hf⟩ := xbd hf
    obtain ⟨v12, e11, hf⟩ := xbd hf
    obtain ⟨v14, e13, hf⟩ := xbd hf
    obtain ⟨σ16, e15, hf⟩ := xbd hf
    obtain ⟨hm9, hA⟩ := xsI_reg hA hz8 e15
    have hm := hm.tr hm9
    have hf := xsj hf
    subst hf
    exact ⟨fun a' e => (by have h9 := Sum.inl.inj e; subst h9; exact ⟨hm, hA⟩), fun b e => xnc1 e⟩
theorem n_X12_knows_l37 {A : Nat → Prop} {r0 : Nat} {a : Int32 × XS} {x : XS} (hA : Reg A a.2) (hr0 : A r0) (hf : xloop (f_X12_knows_b37 r0) a = some x) : Sm A a.2 x ∧ Reg A x := by
  revert hA
  refine xloop_ind (P := fun a => Reg A a.2 → Sm A a.2 x ∧ Reg A x) (fun a y hf hc he => ?_) hf
  obtain ⟨x1, σ⟩ := a
  intro hA
  have hA0 : Reg A σ := hA
  have hy : (∀ a' : Int32 × XS, y = .inl a' → Sm A σ a'.2 ∧ Reg A a'.2) ∧ (∀ b1 : XS, y = .inr b1 → Sm A σ b1 ∧ Reg A b1) := by
    have hm := Sm.rf (A := A) (σ := σ)
    obtain ⟨_, e1, hf⟩ := xbd hf
    obtain ⟨v3, e2, hf⟩ := xbd hf
    by_cases q : v3 ≤ x1
    · have hf := xip q hf
      obtain ⟨b0, hg, e9⟩ := xmj hf
      subst e9
      have hf := hg
      refine ⟨fun a' e => xnc2 e, fun b e => ?_⟩
      have h9 := Sum.inr.inj e
      subst h9
      obtain ⟨σ5, e4, hf⟩ := xbd hf
      obtain ⟨hm9, hA⟩ := xpI_reg hA hr0 e4
      have hm := hm.tr hm9
      exact ⟨hm.tr (n_X12_knows_l122 (a := ((0 : Int32), σ5)) hA hr0 hf).1, (n_X12_knows_l122 (a := ((0 : Int32), σ5)) hA hr0 hf).2⟩
    · have hf := xin q hf
      obtain ⟨z5, e4, hf⟩ := xbd hf
      have hz5 := xgR_reg rfl hA hr0 e4
      obtain ⟨_, e6, hf⟩ := xbd hf
      obtain ⟨v8, e7, hf⟩ := xbd hf
      by_cases q : v8 = 0
      · have hf := xip q hf
        exact ⟨fun a' e => ⟨hm.tr ((n_X12_knows_j77 hA hr0 hz5 hf).1 a' e).1, ((n_X12_knows_j77 hA hr0 hz5 hf).1 a' e).2⟩, fun b1 eb1 => ⟨hm.tr ((n_X12_knows_j77 hA hr0 hz5 hf).2 b1 eb1).1, ((n_X12_knows_j77 hA hr0 hz5 hf).2 b1 eb1).2⟩⟩
      · have hf := xin q hf
        obtain ⟨z10, e9, hf⟩ := xbd hf
        obtain ⟨v12, e11, hf⟩ := xbd hf
        obtain ⟨_, e13, hf⟩ := xbd hf
        obtain ⟨v15, e14, hf⟩ := xbd hf
        exact ⟨fun a' e => ⟨hm.tr ((n_X12_knows_j77 hA hr0 hz5 hf).1 a' e).1, ((n_X12_knows_j77 hA hr0 hz5 hf).1 a' e).2⟩, fun b1 eb1 => ⟨hm.tr ((n_X12_knows_j77 hA hr0 hz5 hf).2 b1 eb1).1, ((n_X12_knows_j77 hA hr0 hz5 hf).2 b1 eb1).2⟩⟩
  cases y with
  | inl a' =>
    obtain ⟨hm, hA1⟩ := hy.1 a' rfl
    have h1 := hc a' rfl hA1
    exact ⟨hm.tr (h1).1, (h1).2⟩
  | inr b =>
    have h1 := he b rfl
    subst h1
    exact hy.2 _ rfl
theorem n_X12_knows_l15 {A : Nat → Prop} {r0 : Nat} {a : Int32 × XS} {x : XS} (hA : Reg A a.2) (hr0 : A r0) (hf : xloop (f_X12_knows_b15 r0) a = some x) : Sm A a.2 x ∧ Reg A x := by
  revert hA
  refine xloop_ind (P := fun a => Reg A a.2 → Sm A a.2 x ∧ Reg A x) (fun a y hf hc he => ?_) hf
  obtain ⟨x1, σ⟩ := a
  intro hA
  have hA0 : Reg A σ := hA
  have hy : (∀ a' : Int32 × XS, y = .inl a' → Sm A σ a'.2 ∧ Reg A a'.2) ∧ (∀ b1 : XS, y = .inr b1 → Sm A σ b1 ∧ Reg A b1) := by
    have hm := Sm.rf (A := A) (σ := σ)
    by_cases q : (301 : Int32) ≤ x1
    · have hf := xip q hf
      obtain ⟨b0, hg, e9⟩ := xmj hf
      subst e9
      have hf := hg
      refine ⟨fun a' e => xnc2 e, fun b e => ?_⟩
      have h9 := Sum.inr.inj e
      subst h9
      exact ⟨hm.tr (n_X12_knows_l37 (a := ((0 : Int32), σ)) hA hr0 hf).1, (n_X12_knows_l37 (a := ((0 : Int32), σ)) hA hr0 hf).2⟩
    · have hf := xin q hf
      obtain ⟨z2, e1, hf⟩ := xbd hf
      have hz2 := xgR_reg rfl hA hr0 e1
      obtain ⟨σ4, e3, hf⟩ := xbd hf
      obtain ⟨hm9, hA⟩ := xsI_reg hA hz2 e3
      have hm := hm.tr hm9
      have hf := xsj hf
      subst hf
      exact ⟨fun a' e => (by have h9 := Sum.inl.inj e; subst h9; exact ⟨hm, hA⟩), fun b e => xnc1 e⟩
  cases y with
  | inl a' =>
    obtain ⟨hm, hA1⟩ := hy.1 a' rfl
    have h1 := hc a' rfl hA1
    exact ⟨hm.tr (h1).1, (h1).2⟩
  | inr b =>
    have h1 := he b rfl
    subst h1
    exact hy.2 _ rfl
theorem n_X12_knows {A : Nat → Prop} {σ : XS} {r0 : Nat} {x : XS} (hA : Reg A σ) (hr0 : A r0) (hf : f_X12_knows σ r0 = some x) : Sm A σ x ∧ Reg A x := by
  have hm := Sm.rf (A := A) (σ := σ)
  obtain ⟨v2, e1, hf⟩ := xbd hf
  by_cases q : v2 = 0
  · have hf := xip q hf
    obtain ⟨σ4, e3, hf⟩ := xbd hf
    obtain ⟨hm9, hA⟩ := xpI_reg hA hr0 e3
    have hm := hm.tr hm9
    exact ⟨hm.tr (n_X12_knows_l15 (a := ((0 : Int32), σ4)) hA hr0 hf).1, (n_X12_knows_l15 (a := ((0 : Int32), σ4)) hA hr0 hf).2⟩
  · have hf := xin q hf
    have hf := xsj hf
    subst hf
    exact ⟨hm, hA⟩
theorem n_X12_basin_l29 {A : Nat → Prop} {σ : XS} {r0 : Nat} {x1 : Int32} {a : Int32 × Int32} {x : Int32 × XS} (hA : Reg A σ) (hf : xloop (f_X12_basin_b29 σ r0 x1) a = some x) : Sm A σ x.2 ∧ Reg A x.2 := by
  revert hA
  refine xloop_ind (P := fun a => Reg A σ → Sm A σ x.2 ∧ Reg A x.2) (fun a y hf hc he => ?_) hf
  obtain ⟨x2, x3⟩ := a
  intro hA
  have hA0 : Reg A σ := hA
  have hy : (∀ a' : Int32 × Int32, y = .inl a' → True) ∧ (∀ b1 : Int32 × XS, y = .inr b1 → Sm A σ b1.2 ∧ Reg A b1.2) := by
    have hm := Sm.rf (A := A) (σ := σ)
    obtain ⟨_, e1, hf⟩ := xbd hf
    obtain ⟨v3, e2, hf⟩ := xbd hf
    by_cases q : v3 ≤ x3
    · have hf := xip q hf
      obtain ⟨b0, hg, e9⟩ := xmj hf
      subst e9
      have hf := hg
      refine ⟨fun a' e => xnc2 e, fun b e => ?_⟩
      have h9 := Sum.inr.inj e
      subst h9
      have hf := xsj hf
      subst hf
      exact ⟨hm, hA⟩
    · have hf := xin q hf
      obtain ⟨z5, e4, hf⟩ := xbd hf
      obtain ⟨v7, e6, hf⟩ := xbd hf
      by_cases q : (100000 : Int32) ≤ v7
      · have hf := xip q hf
        have hf := xsj hf
        subst hf
        exact ⟨fun a' e => (by have h9 := Sum.inl.inj e; subst h9; exact trivial), fun b e => xnc1 e⟩
      · have hf := xin q hf
        obtain ⟨_, e8, hf⟩ := xbd hf
        obtain ⟨v10, e9, hf⟩ := xbd hf
        by_cases q : v10 = x1
        · have hf := xip q hf
          have hf := xsj hf
          subst hf
          exact ⟨fun a' e => (by have h9 := Sum.inl.inj e; subst h9; exact trivial), fun b e => xnc1 e⟩
        · have hf := xin q hf
          have hf := xsj hf
          subst hf
          exact ⟨fun a' e => (by have h9 := Sum.inl.inj e; subst h9; exact trivial), fun b e => xnc1 e⟩
  cases y with
  | inl a' =>
    exact hc a' rfl hA0
  | inr b =>
    have h1 := he b rfl
    subst h1
    exact hy.2 _ rfl
theorem n_X12_basin {A : Nat → Prop} {σ : XS} {r0 : Nat} {x1 : Int32} {x : Int32 × XS} (hA : Reg A σ) (hr0 : A r0) (hf : f_X12_basin σ r0 x1 = some x) : Sm A σ x.2 ∧ Reg A x.2 := by
  have hm := Sm.rf (A := A) (σ := σ)
  obtain ⟨_, e1, hf⟩ := xbd hf
  obtain ⟨v3, e2, hf⟩ := xbd hf
  by_cases q : v3 = 0
  · have hf := xip q hf
    have hf := xsj hf
    subst hf
    exact ⟨hm, hA⟩
  · have hf := xin q hf
    obtain ⟨_, e4, hf⟩ := xbd hf
    obtain ⟨v6, e5, hf⟩ := xbd hf
    by_cases q : v6 ≤ (10 : Int32)
    · have hf := xip q hf
      obtain ⟨_, e7, hf⟩ := xbd hf
      obtain ⟨σ9, e8, hf⟩ := xbd hf
      obtain ⟨hm9, hA⟩ := n_X12_knows hA hr0 e8
      have hm := hm.tr hm9
      exact ⟨hm.tr (n_X12_basin_l29 (a := ((0 : Int32), (0 : Int32))) hA hf).1, (n_X12_basin_l29 (a := ((0 : Int32), (0 : Int32))) hA hf).2⟩
    · have hf := xin q hf
      have hf := xsj hf
      subst hf
      exact ⟨hm, hA⟩
theorem n_X12_both_l9 {A : Nat → Prop} {σ : XS} {r0 : Nat} {x1 : Int32} {x2 : Int32} {a : Int32 × Int32} {x : Int32 × XS} (hA : Reg A σ) (hf : xloop (f_X12_both_b9 σ r0 x1 x2) a = some x) : Sm A σ x.2 ∧ Reg A x.2 := by
  revert hA
  refine xloop_ind (P := fun a => Reg A σ → Sm A σ x.2 ∧ Reg A x.2) (fun a y hf hc he => ?_) hf
  obtain ⟨x3, x4⟩ := a
  intro hA
  have hA0 : Reg A σ := hA
  have hy : (∀ a' : Int32 × Int32, y = .inl a' → True) ∧ (∀ b1 : Int32 × XS, y = .inr b1 → Sm A σ b1.2 ∧ Reg A b1.2) := by
    have hm := Sm.rf (A := A) (σ := σ)
    obtain ⟨_, e1, hf⟩ := xbd hf
    obtain ⟨v3, e2, hf⟩ := xbd hf
    by_cases q : v3 ≤ x4
    · have hf := xip q hf
      obtain ⟨b0, hg, e9⟩ := xmj hf
      subst e9
      have hf := hg
      refine ⟨fun a' e => xnc2 e, fun b e => ?_⟩
      have h9 := Sum.inr.inj e
      subst h9
      have hf := xsj hf
      subst hf
      exact ⟨hm, hA⟩
    · have hf := xin q hf
      obtain ⟨z5, e4, hf⟩ := xbd hf
      obtain ⟨v7, e6, hf⟩ := xbd hf
      by_cases q : (100000 : Int32) ≤ v7
      · have hf := xip q hf
        have hf := xsj hf
        subst hf
        exact ⟨fun a' e => (by have h9 := Sum.inl.inj e; subst h9; exact trivial), fun b e => xnc1 e⟩
      · have hf := xin q hf
        obtain ⟨z9, e8, hf⟩ := xbd hf
        obtain ⟨v11, e10, hf⟩ := xbd hf
        by_cases q : v11 = x1
        · have hf := xip q hf
          obtain ⟨v13, e12, hf⟩ := xbd hf
          by_cases q : v13 = x2
          · have hf := xip q hf
            have hf := xsj hf
            subst hf
            exact ⟨fun a' e => (by have h9 := Sum.inl.inj e; subst h9; exact trivial), fun b e => xnc1 e⟩
          · have hf := xin q hf
            have hf := xsj hf
            subst hf
            exact ⟨fun a' e => (by have h9 := Sum.inl.inj e; subst h9; exact trivial), fun b e => xnc1 e⟩
        · have hf := xin q hf
          have hf := xsj hf
          subst hf
          exact ⟨fun a' e => (by have h9 := Sum.inl.inj e; subst h9; exact trivial), fun b e => xnc1 e⟩
  cases y with
  | inl a' =>
    exact hc a' rfl hA0
  | inr b =>
    have h1 := he b rfl
    subst h1
    exact hy.2 _ rfl
theorem n_X12_both {A : Nat → Prop} {σ : XS} {r0 : Nat} {x1 : Int32} {x2 : Int32} {x : Int32 × XS} (hA : Reg A σ) (hr0 : A r0) (hf : f_X12_both σ r0 x1 x2 = some x) : Sm A σ x.2 ∧ Reg A x.2 := by
  have hm := Sm.rf (A := A) (σ := σ)
  obtain ⟨_, e1, hf⟩ := xbd hf
  obtain ⟨σ3, e2, hf⟩ := xbd hf
  obtain ⟨hm9, hA⟩ := n_X12_knows hA hr0 e2
  have hm := hm.tr hm9
  exact ⟨hm.tr (n_X12_both_l9 (a := ((0 : Int32), (0 : Int32))) hA hf).1, (n_X12_both_l9 (a := ((0 : Int32), (0 : Int32))) hA hf).2⟩
theorem n_X12_broken_l8 {A : Nat → Prop} {σ : XS} {r0 : Nat} {x1 : Int32} {a : Int32 × Int32} {x : Int32 × XS} (hA : Reg A σ) (hf : xloop (f_X12_broken_b8 σ r0 x1) a = some x) : Sm A σ x.2 ∧ Reg A x.2 := by
  revert hA
  refine xloop_ind (P := fun a => Reg A σ → Sm A σ x.2 ∧ Reg A x.2) (fun a y hf hc he => ?_) hf
  obtain ⟨x2, x3⟩ := a
  intro hA
  have hA0 : Reg A σ := hA
  have hy : (∀ a' : Int32 × Int32, y = .inl a' → True) ∧ (∀ b1 : Int32 × XS, y = .inr b1 → Sm A σ b1.2 ∧ Reg A b1.2) := by
    have hm := Sm.rf (A := A) (σ := σ)
    obtain ⟨_, e1, hf⟩ := xbd hf
    obtain ⟨v3, e2, hf⟩ := xbd hf
    by_cases q : v3 ≤ x3
    · have hf := xip q hf
      obtain ⟨b0, hg, e9⟩ := xmj hf
      subst e9
      have hf := hg
      refine ⟨fun a' e => xnc2 e, fun b e => ?_⟩
      have h9 := Sum.inr.inj e
      subst h9
      have hf := xsj hf
      subst hf
      exact ⟨hm, hA⟩
    · have hf := xin q hf
      obtain ⟨z5, e4, hf⟩ := xbd hf
      obtain ⟨v7, e6, hf⟩ := xbd hf
      by_cases q : (100000 : Int32) ≤ v7
      · have hf := xip q hf
        have hf := xsj hf
        subst hf
        exact ⟨fun a' e => (by have h9 := Sum.inl.inj e; subst h9; exact trivial), fun b e => xnc1 e⟩
      · have hf := xin q hf
        obtain ⟨_, e8, hf⟩ := xbd hf
        obtain ⟨v10, e9, hf⟩ := xbd hf
        by_cases q : v10 = x1
        · have hf := xip q hf
          have hf := xsj hf
          subst hf
          exact ⟨fun a' e => (by have h9 := Sum.inl.inj e; subst h9; exact trivial), fun b e => xnc1 e⟩
        · have hf := xin q hf
          have hf := xsj hf
          subst hf
          exact ⟨fun a' e => (by have h9 := Sum.inl.inj e; subst h9; exact trivial), fun b e => xnc1 e⟩
  cases y with
  | inl a' =>
    exact hc a' rfl hA0
  | inr b =>
    have h1 := he b rfl
    subst h1
    exact hy.2 _ rfl
theorem n_X12_broken {A : Nat → Prop} {σ : XS} {r0 : Nat} {x1 : Int32} {x : Int32 × XS} (hA : Reg A σ) (hr0 : A r0) (hf : f_X12_broken σ r0 x1 = some x) : Sm A σ x.2 ∧ Reg A x.2 := by
  have hm := Sm.rf (A := A) (σ := σ)
  obtain ⟨_, e1, hf⟩ := xbd hf
  obtain ⟨σ3, e2, hf⟩ := xbd hf
  obtain ⟨hm9, hA⟩ := n_X12_knows hA hr0 e2
  have hm := hm.tr hm9
  exact ⟨hm.tr (n_X12_broken_l8 (a := ((0 : Int32), (0 : Int32))) hA hf).1, (n_X12_broken_l8 (a := ((0 : Int32), (0 : Int32))) hA hf).2⟩
theorem n_X12_token {A : Nat → Prop} {σ : XS} {r0 : Nat} {x1 : Int32} {x2 : Int32} {x3 : Int32} {w4 : Int64} {x : XS} (hA : Reg A σ) (hr0 : A r0) (hf : f_X12_token σ r0 x1 x2 x3 w4 = some x) : Sm A σ x ∧ Reg A x := by
  have hm := Sm.rf (A := A) (σ := σ)
  obtain ⟨z2, e1, hf⟩ := xbd hf
  have hz2 := xgR_reg rfl hA hr0 e1
  obtain ⟨v4, e3, hf⟩ := xbd hf
  obtain ⟨σ6, e5, hf⟩ := xbd hf
  obtain ⟨hm9, hA⟩ := xsI_reg hA hz2 e5
  have hm := hm.tr hm9
  obtain ⟨z8, e7, hf⟩ := xbd hf
  have hz8 := xgR_reg rfl hA hr0 e7
  obtain ⟨v10, e9, hf⟩ := xbd hf
  obtain ⟨σ12, e11, hf⟩ := xbd hf
  obtain ⟨hm9, hA⟩ := xsI_reg hA hz8 e11
  have hm := hm.tr hm9
  obtain ⟨z14, e13, hf⟩ := xbd hf
  have hz14 := xgR_reg rfl hA hr0 e13
  obtain ⟨v16, e15, hf⟩ := xbd hf
  obtain ⟨σ18, e17, hf⟩ := xbd hf
  obtain ⟨hm9, hA⟩ := xsI_reg hA hz14 e17
  have hm := hm.tr hm9
  obtain ⟨z20, e19, hf⟩ := xbd hf
  have hz20 := xgR_reg rfl hA hr0 e19
  obtain ⟨v22, e21, hf⟩ := xbd hf
  obtain ⟨σ24, e23, hf⟩ := xbd hf
  obtain ⟨hm9, hA⟩ := xsL_reg hA hz20 e23
  have hm := hm.tr hm9
  obtain ⟨v26, e25, hf⟩ := xbd hf
  obtain ⟨σ28, e27, hf⟩ := xbd hf
  obtain ⟨hm9, hA⟩ := xpI_reg hA hr0 e27
  have hm := hm.tr hm9
  have hf := xsj hf
  subst hf
  exact ⟨hm, hA⟩
theorem n_X12_sign_j22 {A : Nat → Prop} {σ : XS} {x1 : Int32} {t0 : Nat} {t1 : Int32} {x : Int32 × XS} (hA : Reg A σ) (ht0 : A t0) (hf : f_X12_sign_j22 σ x1 t0 t1 = some x) : Sm A σ x.2 ∧ Reg A x.2 := by
  have hm := Sm.rf (A := A) (σ := σ)
  obtain ⟨_, e1, hf⟩ := xbd hf
  obtain ⟨σ3, e2, hf⟩ := xbd hf
  obtain ⟨hm9, hA⟩ := n_X12_token hA ht0 e2
  have hm := hm.tr hm9
  have hf := xsj hf
  subst hf
  exact ⟨hm, hA⟩
theorem n_X12_sign {A : Nat → Prop} {σ : XS} {r0 : Nat} {x1 : Int32} {x2 : Int32} {x : Int32 × XS} (hA : Reg A σ) (hr0 : A r0) (hf : f_X12_sign σ r0 x1 x2 = some x) : Sm A σ x.2 ∧ Reg A x.2 := by
  have hm := Sm.rf (A := A) (σ := σ)
  by_cases q : x2 = (59 : Int32)
  · have hf := xip q hf
    exact ⟨hm.tr (n_X12_sign_j22 hA hr0 hf).1, (n_X12_sign_j22 hA hr0 hf).2⟩
  · have hf := xin q hf
    by_cases q : x2 = (45 : Int32)
    · have hf := xip q hf
      exact ⟨hm.tr (n_X12_sign_j22 hA hr0 hf).1, (n_X12_sign_j22 hA hr0 hf).2⟩
    · have hf := xin q hf
      exact ⟨hm.tr (n_X12_sign_j22 hA hr0 hf).1, (n_X12_sign_j22 hA hr0 hf).2⟩
theorem n_X12_cutsText_j261 {A : Nat → Prop} {σ : XS} {r0 : Nat} {x1 : Int32} {x3 : Int32} {x4 : Int32} {t0 : Nat} {t1 : Int32} {x : ((Int32 × XS) ⊕ (XS))} (hA : Reg A σ) (ht0 : A t0) (hf : f_X12_cutsText_j261 σ r0 x1 x3 x4 t0 t1 = some x) : (∀ a' : Int32 × XS, x = .inl a' → Sm A σ a'.2 ∧ Reg A a'.2) ∧ (∀ b1 : XS, x = .inr b1 → Sm A σ b1 ∧ Reg A b1) := by
  have hm := Sm.rf (A := A) (σ := σ)
  obtain ⟨_, e1, hf⟩ := xbd hf
  obtain ⟨σ3, e2, hf⟩ := xbd hf
  obtain ⟨hm9, hA⟩ := n_X12_token hA ht0 e2
  have hm := hm.tr hm9
  have hf := xsj hf
  subst hf
  exact ⟨fun a' e => (by have h9 := Sum.inl.inj e; subst h9; exact ⟨hm, hA⟩), fun b e => xnc1 e⟩
theorem n_X12_cutsText_l208 {A : Nat → Prop} {σ : XS} {r0 : Nat} {x1 : Int32} {a : Int32 × Int32} {x : ((Int32 × XS) ⊕ (XS))} (hA : Reg A σ) (hr0 : A r0) (hf : xloop (f_X12_cutsText_b208 σ r0 x1) a = some x) : (∀ a' : Int32 × XS, x = .inl a' → Sm A σ a'.2 ∧ Reg A a'.2) ∧ (∀ b1 : XS, x = .inr b1 → Sm A σ b1 ∧ Reg A b1) := by
  revert hA
  refine xloop_ind (P := fun a => Reg A σ → (∀ a' : Int32 × XS, x = .inl a' → Sm A σ a'.2 ∧ Reg A a'.2) ∧ (∀ b1 : XS, x = .inr b1 → Sm A σ b1 ∧ Reg A b1)) (fun a y hf hc he => ?_) hf
  obtain ⟨x3, x4⟩ := a
  intro hA
  have hA0 : Reg A σ := hA
  have hy : (∀ a' : Int32 × Int32, y = .inl a' → True) ∧ (∀ b2 : ((Int32 × XS) ⊕ (XS)), y = .inr b2 → (∀ a' : Int32 × XS, b2 = .inl a' → Sm A σ a'.2 ∧ Reg A a'.2) ∧ (∀ b1 : XS, b2 = .inr b1 → Sm A σ b1 ∧ Reg A b1)) := by
    have hm := Sm.rf (A := A) (σ := σ)
    obtain ⟨_, e1, hf⟩ := xbd hf
    obtain ⟨v3, e2, hf⟩ := xbd hf
    obtain ⟨v5, e4, hf⟩ := xbd hf
    by_cases q : v5 = 0
    · have hf := xip q hf
      obtain ⟨b0, hg, e9⟩ := xmj hf
      subst e9
      have hf := hg
      refine ⟨fun a' e => xnc2 e, fun b e => ?_⟩
      have h9 := Sum.inr.inj e
      subst h9
      by_cases q : x3 ≤ (4 : Int32)
      · have hf := xip q hf
        exact ⟨fun a' e => ⟨hm.tr ((n_X12_cutsText_j261 hA hr0 hf).1 a' e).1, ((n_X12_cutsText_j261 hA hr0 hf).1 a' e).2⟩, fun b1 eb1 => ⟨hm.tr ((n_X12_cutsText_j261 hA hr0 hf).2 b1 eb1).1, ((n_X12_cutsText_j261 hA hr0 hf).2 b1 eb1).2⟩⟩
      · have hf := xin q hf
        exact ⟨fun a' e => ⟨hm.tr ((n_X12_cutsText_j261 hA hr0 hf).1 a' e).1, ((n_X12_cutsText_j261 hA hr0 hf).1 a' e).2⟩, fun b1 eb1 => ⟨hm.tr ((n_X12_cutsText_j261 hA hr0 hf).2 b1 eb1).1, ((n_X12_cutsText_j261 hA hr0 hf).2 b1 eb1).2⟩⟩
    · have hf := xin q hf
      by_cases q : (4 : Int32) ≤ x3
      · have hf := xip q hf
        have hf := xsj hf
        subst hf
        exact ⟨fun a' e => (by have h9 := Sum.inl.inj e; subst h9; exact trivial), fun b e => xnc1 e⟩
      · have hf := xin q hf
        obtain ⟨_, e6, hf⟩ := xbd hf
        obtain ⟨v8, e7, hf⟩ := xbd hf
        have hf := xsj hf
        subst hf
        exact ⟨fun a' e => (by have h9 := Sum.inl.inj e; subst h9; exact trivial), fun b e => xnc1 e⟩
  cases y with
  | inl a' =>
    exact hc a' rfl hA0
  | inr b =>
    have h1 := he b rfl
    subst h1
    exact hy.2 _ rfl
theorem n_X12_cutsText_j179 {A : Nat → Prop} {σ : XS} {r0 : Nat} {x1 : Int32} {x3 : Int32} {w4 : Int64} {x6 : Int32} {x : ((Int32 × XS) ⊕ (XS))} (hA : Reg A σ) (hr0 : A r0) (hf : f_X12_cutsText_j179 σ r0 x1 x3 w4 x6 = some x) : (∀ a' : Int32 × XS, x = .inl a' → Sm A σ a'.2 ∧ Reg A a'.2) ∧ (∀ b1 : XS, x = .inr b1 → Sm A σ b1 ∧ Reg A b1) := by
  have hm := Sm.rf (A := A) (σ := σ)
  obtain ⟨_, e1, hf⟩ := xbd hf
  obtain ⟨σ3, e2, hf⟩ := xbd hf
  obtain ⟨hm9, hA⟩ := n_X12_token hA hr0 e2
  have hm := hm.tr hm9
  have hf := xsj hf
  subst hf
  exact ⟨fun a' e => (by have h9 := Sum.inl.inj e; subst h9; exact ⟨hm, hA⟩), fun b e => xnc1 e⟩
theorem n_X12_cutsText_l146 {A : Nat → Prop} {σ : XS} {r0 : Nat} {x1 : Int32} {x3 : Int32} {w4 : Int64} {a : Int32 × Int32} {x : ((Int32 × XS) ⊕ (XS))} (hA : Reg A σ) (hr0 : A r0) (hf : xloop (f_X12_cutsText_b146 σ r0 x1 x3 w4) a = some x) : (∀ a' : Int32 × XS, x = .inl a' → Sm A σ a'.2 ∧ Reg A a'.2) ∧ (∀ b1 : XS, x = .inr b1 → Sm A σ b1 ∧ Reg A b1) := by
  revert hA
  refine xloop_ind (P := fun a => Reg A σ → (∀ a' : Int32 × XS, x = .inl a' → Sm A σ a'.2 ∧ Reg A a'.2) ∧ (∀ b1 : XS, x = .inr b1 → Sm A σ b1 ∧ Reg A b1)) (fun a y hf hc he => ?_) hf
  obtain ⟨x6, x7⟩ := a
  intro hA
  have hA0 : Reg A σ := hA
  have hy : (∀ a' : Int32 × Int32, y = .inl a' → True) ∧ (∀ b2 : ((Int32 × XS) ⊕ (XS)), y = .inr b2 → (∀ a' : Int32 × XS, b2 = .inl a' → Sm A σ a'.2 ∧ Reg A a'.2) ∧ (∀ b1 : XS, b2 = .inr b1 → Sm A σ b1 ∧ Reg A b1)) := by
    have hm := Sm.rf (A := A) (σ := σ)
    by_cases q : (11 : Int32) ≤ x7
    · have hf := xip q hf
      obtain ⟨b0, hg, e9⟩ := xmj hf
      subst e9
      have hf := hg
      refine ⟨fun a' e => xnc2 e, fun b e => ?_⟩
      have h9 := Sum.inr.inj e
      subst h9
      exact ⟨fun a' e => ⟨hm.tr ((n_X12_cutsText_j179 hA hr0 hf).1 a' e).1, ((n_X12_cutsText_j179 hA hr0 hf).1 a' e).2⟩, fun b1 eb1 => ⟨hm.tr ((n_X12_cutsText_j179 hA hr0 hf).2 b1 eb1).1, ((n_X12_cutsText_j179 hA hr0 hf).2 b1 eb1).2⟩⟩
    · have hf := xin q hf
      obtain ⟨z2, e1, hf⟩ := xbd hf
      obtain ⟨v4, e3, hf⟩ := xbd hf
      by_cases q : (lg_cmp v4 w4) = 0
      · have hf := xip q hf
        have hf := xsj hf
        subst hf
        exact ⟨fun a' e => (by have h9 := Sum.inl.inj e; subst h9; exact trivial), fun b e => xnc1 e⟩
      · have hf := xin q hf
        have hf := xsj hf
        subst hf
        exact ⟨fun a' e => (by have h9 := Sum.inl.inj e; subst h9; exact trivial), fun b e => xnc1 e⟩
  cases y with
  | inl a' =>
    exact hc a' rfl hA0
  | inr b =>
    have h1 := he b rfl
    subst h1
    exact hy.2 _ rfl
theorem n_X12_cutsText_j135 {A : Nat → Prop} {σ : XS} {r0 : Nat} {x1 : Int32} {x3 : Int32} {w4 : Int64} {t0 : Int32} {x : ((Int32 × XS) ⊕ (XS))} (hA : Reg A σ) (hr0 : A r0) (hf : f_X12_cutsText_j135 σ r0 x1 x3 w4 t0 = some x) : (∀ a' : Int32 × XS, x = .inl a' → Sm A σ a'.2 ∧ Reg A a'.2) ∧ (∀ b1 : XS, x = .inr b1 → Sm A σ b1 ∧ Reg A b1) := by
  have hm := Sm.rf (A := A) (σ := σ)
  by_cases q : (8 : Int32) < x3
  · have hf := xip q hf
    exact ⟨fun a' e => ⟨hm.tr ((n_X12_cutsText_j179 hA hr0 hf).1 a' e).1, ((n_X12_cutsText_j179 hA hr0 hf).1 a' e).2⟩, fun b1 eb1 => ⟨hm.tr ((n_X12_cutsText_j179 hA hr0 hf).2 b1 eb1).1, ((n_X12_cutsText_j179 hA hr0 hf).2 b1 eb1).2⟩⟩
  · have hf := xin q hf
    exact ⟨fun a' e => ⟨hm.tr ((n_X12_cutsText_l146 (a := (t0, (0 : Int32))) hA hr0 hf).1 a' e).1, ((n_X12_cutsText_l146 (a := (t0, (0 : Int32))) hA hr0 hf).1 a' e).2⟩, fun b1 eb1 => ⟨hm.tr ((n_X12_cutsText_l146 (a := (t0, (0 : Int32))) hA hr0 hf).2 b1 eb1).1, ((n_X12_cutsText_l146 (a := (t0, (0 : Int32))) hA hr0 hf).2 b1 eb1).2⟩⟩
theorem n_X12_cutsText_l85 {A : Nat → Prop} {σ : XS} {r0 : Nat} {x1 : Int32} {a : Int32 × Int64} {x : ((Int32 × XS) ⊕ (XS))} (hA : Reg A σ) (hr0 : A r0) (hf : xloop (f_X12_cutsText_b85 σ r0 x1) a = some x) : (∀ a' : Int32 × XS, x = .inl a' → Sm A σ a'.2 ∧ Reg A a'.2) ∧ (∀ b1 : XS, x = .inr b1 → Sm A σ b1 ∧ Reg A b1) := by
  revert hA
  refine xloop_ind (P := fun a => Reg A σ → (∀ a' : Int32 × XS, x = .inl a' → Sm A σ a'.2 ∧ Reg A a'.2) ∧ (∀ b1 : XS, x = .inr b1 → Sm A σ b1 ∧ Reg A b1)) (fun a y hf hc he => ?_) hf
  obtain ⟨x3, w4⟩ := a
  intro hA
  have hA0 : Reg A σ := hA
  have hy : (∀ a' : Int32 × Int64, y = .inl a' → True) ∧ (∀ b2 : ((Int32 × XS) ⊕ (XS)), y = .inr b2 → (∀ a' : Int32 × XS, b2 = .inl a' → Sm A σ a'.2 ∧ Reg A a'.2) ∧ (∀ b1 : XS, b2 = .inr b1 → Sm A σ b1 ∧ Reg A b1)) := by
    have hm := Sm.rf (A := A) (σ := σ)
    obtain ⟨_, e1, hf⟩ := xbd hf
    obtain ⟨v3, e2, hf⟩ := xbd hf
    obtain ⟨v5, e4, hf⟩ := xbd hf
    by_cases q : v5 = 0
    · have hf := xip q hf
      obtain ⟨b0, hg, e9⟩ := xmj hf
      subst e9
      have hf := hg
      refine ⟨fun a' e => xnc2 e, fun b e => ?_⟩
      have h9 := Sum.inr.inj e
      subst h9
      by_cases q : x3 ≤ (8 : Int32)
      · have hf := xip q hf
        exact ⟨fun a' e => ⟨hm.tr ((n_X12_cutsText_j135 hA hr0 hf).1 a' e).1, ((n_X12_cutsText_j135 hA hr0 hf).1 a' e).2⟩, fun b1 eb1 => ⟨hm.tr ((n_X12_cutsText_j135 hA hr0 hf).2 b1 eb1).1, ((n_X12_cutsText_j135 hA hr0 hf).2 b1 eb1).2⟩⟩
      · have hf := xin q hf
        exact ⟨fun a' e => ⟨hm.tr ((n_X12_cutsText_j135 hA hr0 hf).1 a' e).1, ((n_X12_cutsText_j135 hA hr0 hf).1 a' e).2⟩, fun b1 eb1 => ⟨hm.tr ((n_X12_cutsText_j135 hA hr0 hf).2 b1 eb1).1, ((n_X12_cutsText_j135 hA hr0 hf).2 b1 eb1).2⟩⟩
    · have hf := xin q hf
      by_cases q : (8 : Int32) ≤ x3
      · have hf := xip q hf
        have hf := xsj hf
        subst hf
        exact ⟨fun a' e => (by have h9 := Sum.inl.inj e; subst h9; exact trivial), fun b e => xnc1 e⟩
      · have hf := xin q hf
        obtain ⟨_, e6, hf⟩ := xbd hf
        obtain ⟨v8, e7, hf⟩ := xbd hf
        obtain ⟨v10, e9, hf⟩ := xbd hf
        have hf := xsj hf
        subst hf
        exact ⟨fun a' e => (by have h9 := Sum.inl.inj e; subst h9; exact trivial), fun b e => xnc1 e⟩
  cases y with
  | inl a' =>
    exact hc a' rfl hA0
  | inr b =>
    have h1 := he b rfl
    subst h1
    exact hy.2 _ rfl
theorem n_X12_cutsText_l7 {A : Nat → Prop} {r0 : Nat} {a : Int32 × XS} {x : XS} (hA : Reg A a.2) (hr0 : A r0) (hf : xloop (f_X12_cutsText_b7 r0) a = some x) : Sm A a.2 x ∧ Reg A x := by
  revert hA
  refine xloop_ind (P := fun a => Reg A a.2 → Sm A a.2 x ∧ Reg A x) (fun a y hf hc he => ?_) hf
  obtain ⟨x1, σ⟩ := a
  intro hA
  have hA0 : Reg A σ := hA
  have hy : (∀ a' : Int32 × XS, y = .inl a' → Sm A σ a'.2 ∧ Reg A a'.2) ∧ (∀ b1 : XS, y = .inr b1 → Sm A σ b1 ∧ Reg A b1) := by
    have hm := Sm.rf (A := A) (σ := σ)
    obtain ⟨v2, e1, hf⟩ := xbd hf
    by_cases q : (400 : Int32) < v2
    · have hf := xip q hf
      obtain ⟨b0, hg, e9⟩ := xmj hf
      subst e9
      have hf := hg
      refine ⟨fun a' e => xnc2 e, fun b e => ?_⟩
      have h9 := Sum.inr.inj e
      subst h9
      have hf := xsj hf
      subst hf
      exact ⟨hm, hA⟩
    · have hf := xin q hf
      obtain ⟨_, e3, hf⟩ := xbd hf
      obtain ⟨v5, e4, hf⟩ := xbd hf
      obtain ⟨v7, e6, hf⟩ := xbd hf
      by_cases q : x1 < v7
      · have hf := xip q hf
        by_cases q : v5 = (9 : Int32)
        · have hf := xip q hf
          have hf := xsj hf
          subst hf
          exact ⟨fun a' e => (by have h9 := Sum.inl.inj e; subst h9; exact ⟨hm, hA⟩), fun b e => xnc1 e⟩
        · have hf := xin q hf
          by_cases q : v5 = (10 : Int32)
          · have hf := xip q hf
            have hf := xsj hf
            subst hf
            exact ⟨fun a' e => (by have h9 := Sum.inl.inj e; subst h9; exact ⟨hm, hA⟩), fun b e => xnc1 e⟩
          · have hf := xin q hf
            by_cases q : v5 = (13 : Int32)
            · have hf := xip q hf
              have hf := xsj hf
              subst hf
              exact ⟨fun a' e => (by have h9 := Sum.inl.inj e; subst h9; exact ⟨hm, hA⟩), fun b e => xnc1 e⟩
            · have hf := xin q hf
              by_cases q : v5 = (32 : Int32)
              · have hf := xip q hf
                have hf := xsj hf
                subst hf
                exact ⟨fun a' e => (by have h9 := Sum.inl.inj e; subst h9; exact ⟨hm, hA⟩), fun b e => xnc1 e⟩
              · have hf := xin q hf
                obtain ⟨v9, e8, hf⟩ := xbd hf
                by_cases q : v9 = 0
                · have hf := xip q hf
                  obtain ⟨v11, e10, hf⟩ := xbd hf
                  by_cases q : v11 = 0
                  · have hf := xip q hf
                    obtain ⟨_, e12, hf⟩ := xbd hf
                    obtain ⟨⟨v15, σ14⟩, e13, hf⟩ := xbd hf
                    dsimp only at hf
                    obtain ⟨hm9, hA⟩ := n_X12_sign hA hr0 e13
                    have hm := hm.tr hm9
                    have hf := xsj hf
                    subst hf
                    exact ⟨fun a' e => (by have h9 := Sum.inl.inj e; subst h9; exact ⟨hm, hA⟩), fun b e => xnc1 e⟩
                  · have hf := xin q hf
                    exact ⟨fun a' e => ⟨hm.tr ((n_X12_cutsText_l208 (a := ((0 : Int32), (0 : Int32))) hA hr0 hf).1 a' e).1, ((n_X12_cutsText_l208 (a := ((0 : Int32), (0 : Int32))) hA hr0 hf).1 a' e).2⟩, fun b1 eb1 => ⟨hm.tr ((n_X12_cutsText_l208 (a := ((0 : Int32), (0 : Int32))) hA hr0 hf).2 b1 eb1).1, ((n_X12_cutsText_l208 (a := ((0 : Int32), (0 : Int32))) hA hr0 hf).2 b1 eb1).2⟩⟩
                · have hf := xin q hf
                  exact ⟨fun a' e => ⟨hm.tr ((n_X12_cutsText_l85 (a := ((0 : Int32), (0 : Int64))) hA hr0 hf).1 a' e).1, ((n_X12_cutsText_l85 (a := ((0 : Int32), (0 : Int64))) hA hr0 hf).1 a' e).2⟩, fun b1 eb1 => ⟨hm.tr ((n_X12_cutsText_l85 (a := ((0 : Int32), (0 : Int64))) hA hr0 hf).2 b1 eb1).1, ((n_X12_cutsText_l85 (a := ((0 : Int32), (0 : Int64))) hA hr0 hf).2 b1 eb1).2⟩⟩
      · have hf := xin q hf
        obtain ⟨b0, hg, e9⟩ := xmj hf
        subst e9
        have hf := hg
        refine ⟨fun a' e => xnc2 e, fun b e => ?_⟩
        have h9 := Sum.inr.inj e
        subst h9
        obtain ⟨v9, e8, hf⟩ := xbd hf
        obtain ⟨_, e10, hf⟩ := xbd hf
        obtain ⟨σ12, e11, hf⟩ := xbd hf
        obtain ⟨hm9, hA⟩ := n_X12_token hA hr0 e11
        have hm := hm.tr hm9
        have hf := xsj hf
        subst hf
        exact ⟨hm, hA⟩
  cases y with
  | inl a' =>
    obtain ⟨hm, hA1⟩ := hy.1 a' rfl
    have h1 := hc a' rfl hA1
    exact ⟨hm.tr (h1).1, (h1).2⟩
  | inr b =>
    have h1 := he b rfl
    subst h1
    exact hy.2 _ rfl
theorem n_X12_cutsText {A : Nat → Prop} {σ : XS} {r0 : Nat} {x : XS} (hA : Reg A σ) (hr0 : A r0) (hf : f_X12_cutsText σ r0 = some x) : Sm A σ x ∧ Reg A x := by
  have hm := Sm.rf (A := A) (σ := σ)
  obtain ⟨σ2, e1, hf⟩ := xbd hf
  obtain ⟨hm9, hA⟩ := xpI_reg hA hr0 e1
  have hm := hm.tr hm9
  exact ⟨hm.tr (n_X12_cutsText_l7 (a := ((0 : Int32), σ2)) hA hr0 hf).1, (n_X12_cutsText_l7 (a := ((0 : Int32), σ2)) hA hr0 hf).2⟩
theorem n_X12_down_l73 {A : Nat → Prop} {r0 : Nat} {x1 : Int32} {x2 : Int32} {x3 : Int32} {a : Int32 × XS} {x : ((Int32 × XS) ⊕ ((Int32 × XS) ⊕ (Int64 × XS)))} (hA : Reg A a.2) (hr0 : A r0) (hf : xloop (f_X12_down_b73 r0 x1 x2 x3) a = some x) : (∀ a' : Int32 × XS, x = .inl a' → Sm A a.2 a'.2 ∧ Reg A a'.2) ∧ (∀ b2 : ((Int32 × XS) ⊕ (Int64 × XS)), x = .inr b2 → (∀ a' : Int32 × XS, b2 = .inl a' → Sm A a.2 a'.2 ∧ Reg A a'.2) ∧ (∀ b1 : Int64 × XS, b2 = .inr b1 → Sm A a.2 b1.2 ∧ Reg A b1.2)) := by
  revert hA
  refine xloop_ind (P := fun a => Reg A a.2 → (∀ a' : Int32 × XS, x = .inl a' → Sm A a.2 a'.2 ∧ Reg A a'.2) ∧ (∀ b2 : ((Int32 × XS) ⊕ (Int64 × XS)), x = .inr b2 → (∀ a' : Int32 × XS, b2 = .inl a' → Sm A a.2 a'.2 ∧ Reg A a'.2) ∧ (∀ b1 : Int64 × XS, b2 = .inr b1 → Sm A a.2 b1.2 ∧ Reg A b1.2))) (fun a y hf hc he => ?_) hf
  obtain ⟨x4, σ⟩ := a
  intro hA
  have hA0 : Reg A σ := hA
  have hy : (∀ a' : Int32 × XS, y = .inl a' → Sm A σ a'.2 ∧ Reg A a'.2) ∧ (∀ b3 : ((Int32 × XS) ⊕ ((Int32 × XS) ⊕ (Int64 × XS))), y = .inr b3 → (∀ a' : Int32 × XS, b3 = .inl a' → Sm A σ a'.2 ∧ Reg A a'.2) ∧ (∀ b2 : ((Int32 × XS) ⊕ (Int64 × XS)), b3 = .inr b2 → (∀ a' : Int32 × XS, b2 = .inl a' → Sm A σ a'.2 ∧ Reg A a'.2) ∧ (∀ b1 : Int64 × XS, b2 = .inr b1 → Sm A σ b1.2 ∧ Reg A b1.2))) := by
    have hm := Sm.rf (A := A) (σ := σ)
    obtain ⟨_, e1, hf⟩ := xbd hf
    obtain ⟨v3, e2, hf⟩ := xbd hf
    by_cases q : v3 ≤ x4
    · have hf := xip q hf
      obtain ⟨b0, hg, e9⟩ := xmj hf
      subst e9
      have hf := hg
      refine ⟨fun a' e => xnc2 e, fun b e => ?_⟩
      have h9 := Sum.inr.inj e
      subst h9
      obtain ⟨z5, e4, hf⟩ := xbd hf
      obtain ⟨v7, e6, hf⟩ := xbd hf
      by_cases q : (lg_cmp v7 (0 : Int64)) = 0
      · have hf := xip q hf
        obtain ⟨z9, e8, hf⟩ := xbd hf
        have hz9 := xgR_reg rfl hA hr0 e8
        obtain ⟨σ11, e10, hf⟩ := xbd hf
        obtain ⟨hm9, hA⟩ := xsL_reg hA hz9 e10
        have hm := hm.tr hm9
        have hf := xsj hf
        subst hf
        exact ⟨fun a' e => (by have h9 := Sum.inl.inj e; subst h9; exact ⟨hm, hA⟩), fun b e => xnc1 e⟩
      · have hf := xin q hf
        have hf := xsj hf
        subst hf
        exact ⟨fun a' e => (by have h9 := Sum.inl.inj e; subst h9; exact ⟨hm, hA⟩), fun b e => xnc1 e⟩
    · have hf := xin q hf
      obtain ⟨z5, e4, hf⟩ := xbd hf
      obtain ⟨v7, e6, hf⟩ := xbd hf
      obtain ⟨z9, e8, hf⟩ := xbd hf
      obtain ⟨v11, e10, hf⟩ := xbd hf
      by_cases q : v11 ≤ v7
      · have hf := xip q hf
        have hf := xsj hf
        subst hf
        exact ⟨fun a' e => (by have h9 := Sum.inl.inj e; subst h9; exact ⟨hm, hA⟩), fun b e => xnc1 e⟩
      · have hf := xin q hf
        obtain ⟨z13, e12, hf⟩ := xbd hf
        have hz13 := xgR_reg rfl hA hr0 e12
        obtain ⟨v15, e14, hf⟩ := xbd hf
        obtain ⟨z17, e16, hf⟩ := xbd hf
        obtain ⟨v19, e18, hf⟩ := xbd hf
        obtain ⟨σ21, e20, hf⟩ := xbd hf
        obtain ⟨hm9, hA⟩ := xsL_reg hA hz13 e20
        have hm := hm.tr hm9
        have hf := xsj hf
        subst hf
        exact ⟨fun a' e => (by have h9 := Sum.inl.inj e; subst h9; exact ⟨hm, hA⟩), fun b e => xnc1 e⟩
  cases y with
  | inl a' =>
    obtain ⟨hm, hA1⟩ := hy.1 a' rfl
    have h1 := hc a' rfl hA1
    exact ⟨fun a' e => ⟨hm.tr ((h1).1 a' e).1, ((h1).1 a' e).2⟩, fun b2 eb2 => ⟨fun a' e => ⟨hm.tr (((h1).2 b2 eb2).1 a' e).1, (((h1).2 b2 eb2).1 a' e).2⟩, fun b1 eb1 => ⟨hm.tr (((h1).2 b2 eb2).2 b1 eb1).1, (((h1).2 b2 eb2).2 b1 eb1).2⟩⟩⟩
  | inr b =>
    have h1 := he b rfl
    subst h1
    exact hy.2 _ rfl
theorem n_X12_down_l37 {A : Nat → Prop} {r0 : Nat} {x1 : Int32} {x2 : Int32} {a : Int32 × XS} {x : ((Int32 × XS) ⊕ (Int64 × XS))} (hA : Reg A a.2) (hr0 : A r0) (hf : xloop (f_X12_down_b37 r0 x1 x2) a = some x) : (∀ a' : Int32 × XS, x = .inl a' → Sm A a.2 a'.2 ∧ Reg A a'.2) ∧ (∀ b1 : Int64 × XS, x = .inr b1 → Sm A a.2 b1.2 ∧ Reg A b1.2) := by
  revert hA
  refine xloop_ind (P := fun a => Reg A a.2 → (∀ a' : Int32 × XS, x = .inl a' → Sm A a.2 a'.2 ∧ Reg A a'.2) ∧ (∀ b1 : Int64 × XS, x = .inr b1 → Sm A a.2 b1.2 ∧ Reg A b1.2)) (fun a y hf hc he => ?_) hf
  obtain ⟨x3, σ⟩ := a
  intro hA
  have hA0 : Reg A σ := hA
  have hy : (∀ a' : Int32 × XS, y = .inl a' → Sm A σ a'.2 ∧ Reg A a'.2) ∧ (∀ b2 : ((Int32 × XS) ⊕ (Int64 × XS)), y = .inr b2 → (∀ a' : Int32 × XS, b2 = .inl a' → Sm A σ a'.2 ∧ Reg A a'.2) ∧ (∀ b1 : Int64 × XS, b2 = .inr b1 → Sm A σ b1.2 ∧ Reg A b1.2)) := by
    have hm := Sm.rf (A := A) (σ := σ)
    obtain ⟨_, e1, hf⟩ := xbd hf
    obtain ⟨v3, e2, hf⟩ := xbd hf
    by_cases q : v3 ≤ x3
    · have hf := xip q hf
      obtain ⟨b0, hg, e9⟩ := xmj hf
      subst e9
      have hf := hg
      refine ⟨fun a' e => xnc2 e, fun b e => ?_⟩
      have h9 := Sum.inr.inj e
      subst h9
      have hf := xsj hf
      subst hf
      exact ⟨fun a' e => (by have h9 := Sum.inl.inj e; subst h9; exact ⟨hm, hA⟩), fun b e => xnc1 e⟩
    · have hf := xin q hf
      obtain ⟨z5, e4, hf⟩ := xbd hf
      obtain ⟨v7, e6, hf⟩ := xbd hf
      obtain ⟨z9, e8, hf⟩ := xbd hf
      obtain ⟨v11, e10, hf⟩ := xbd hf
      by_cases q : v7 = v11
      · have hf := xip q hf
        obtain ⟨z13, e12, hf⟩ := xbd hf
        have hz13 := xgR_reg rfl hA hr0 e12
        obtain ⟨σ15, e14, hf⟩ := xbd hf
        obtain ⟨hm9, hA⟩ := xsL_reg hA hz13 e14
        have hm := hm.tr hm9
        exact ⟨fun a' e => ⟨hm.tr ((n_X12_down_l73 (a := ((0 : Int32), σ15)) hA hr0 hf).1 a' e).1, ((n_X12_down_l73 (a := ((0 : Int32), σ15)) hA hr0 hf).1 a' e).2⟩, fun b2 eb2 => ⟨fun a' e => ⟨hm.tr (((n_X12_down_l73 (a := ((0 : Int32), σ15)) hA hr0 hf).2 b2 eb2).1 a' e).1, (((n_X12_down_l73 (a := ((0 : Int32), σ15)) hA hr0 hf).2 b2 eb2).1 a' e).2⟩, fun b1 eb1 => ⟨hm.tr (((n_X12_down_l73 (a := ((0 : Int32), σ15)) hA hr0 hf).2 b2 eb2).2 b1 eb1).1, (((n_X12_down_l73 (a := ((0 : Int32), σ15)) hA hr0 hf).2 b2 eb2).2 b1 eb1).2⟩⟩⟩
      · have hf := xin q hf
        have hf := xsj hf
        subst hf
        exact ⟨fun a' e => (by have h9 := Sum.inl.inj e; subst h9; exact ⟨hm, hA⟩), fun b e => xnc1 e⟩
  cases y with
  | inl a' =>
    obtain ⟨hm, hA1⟩ := hy.1 a' rfl
    have h1 := hc a' rfl hA1
    exact ⟨fun a' e => ⟨hm.tr ((h1).1 a' e).1, ((h1).1 a' e).2⟩, fun b1 eb1 => ⟨hm.tr ((h1).2 b1 eb1).1, ((h1).2 b1 eb1).2⟩⟩
  | inr b =>
    have h1 := he b rfl
    subst h1
    exact hy.2 _ rfl
theorem n_X12_down_l27 {A : Nat → Prop} {r0 : Nat} {x1 : Int32} {a : Int32 × XS} {x : Int64 × XS} (hA : Reg A a.2) (hr0 : A r0) (hf : xloop (f_X12_down_b27 r0 x1) a = some x) : Sm A a.2 x.2 ∧ Reg A x.2 := by
  revert hA
  refine xloop_ind (P := fun a => Reg A a.2 → Sm A a.2 x.2 ∧ Reg A x.2) (fun a y hf hc he => ?_) hf
  obtain ⟨x2, σ⟩ := a
  intro hA
  have hA0 : Reg A σ := hA
  have hy : (∀ a' : Int32 × XS, y = .inl a' → Sm A σ a'.2 ∧ Reg A a'.2) ∧ (∀ b1 : Int64 × XS, y = .inr b1 → Sm A σ b1.2 ∧ Reg A b1.2) := by
    have hm := Sm.rf (A := A) (σ := σ)
    obtain ⟨v2, e1, hf⟩ := xbd hf
    by_cases q : v2 ≤ x2
    · have hf := xip q hf
      obtain ⟨b0, hg, e9⟩ := xmj hf
      subst e9
      have hf := hg
      refine ⟨fun a' e => xnc2 e, fun b e => ?_⟩
      have h9 := Sum.inr.inj e
      subst h9
      obtain ⟨z4, e3, hf⟩ := xbd hf
      obtain ⟨v6, e5, hf⟩ := xbd hf
      have hf := xsj hf
      subst hf
      exact ⟨hm, hA⟩
    · have hf := xin q hf
      exact ⟨fun a' e => ⟨hm.tr ((n_X12_down_l37 (a := ((0 : Int32), σ)) hA hr0 hf).1 a' e).1, ((n_X12_down_l37 (a := ((0 : Int32), σ)) hA hr0 hf).1 a' e).2⟩, fun b1 eb1 => ⟨hm.tr ((n_X12_down_l37 (a := ((0 : Int32), σ)) hA hr0 hf).2 b1 eb1).1, ((n_X12_down_l37 (a := ((0 : Int32), σ)) hA hr0 hf).2 b1 eb1).2⟩⟩
  cases y with
  | inl a' =>
    obtain ⟨hm, hA1⟩ := hy.1 a' rfl
    have h1 := hc a' rfl hA1
    exact ⟨hm.tr (h1).1, (h1).2⟩
  | inr b =>
    have h1 := he b rfl
    subst h1
    exact hy.2 _ rfl
theorem n_X12_down {A : Nat → Prop} {σ : XS} {r0 : Nat} {x1 : Int32} {x : Int64 × XS} (hA : Reg A σ) (hr0 : A r0) (hf : f_X12_down σ r0 x1 = some x) : Sm A σ x.2 ∧ Reg A x.2 := by
  have hm := Sm.rf (A := A) (σ := σ)
  obtain ⟨_, e1, hf⟩ := xbd hf
  obtain ⟨v3, e2, hf⟩ := xbd hf
  by_cases q : v3 = 0
  · have hf := xip q hf
    have hf := xsj hf
    subst hf
    exact ⟨hm, hA⟩
  · have hf := xin q hf
    obtain ⟨_, e4, hf⟩ := xbd hf
    obtain ⟨v6, e5, hf⟩ := xbd hf
    by_cases q : v6 ≤ (10 : Int32)
    · have hf := xip q hf
      obtain ⟨_, e7, hf⟩ := xbd hf
      obtain ⟨σ9, e8, hf⟩ := xbd hf
      obtain ⟨hm9, hA⟩ := n_X12_knows hA hr0 e8
      have hm := hm.tr hm9
      exact ⟨hm.tr (n_X12_down_l27 (a := ((0 : Int32), σ9)) hA hr0 hf).1, (n_X12_down_l27 (a := ((0 : Int32), σ9)) hA hr0 hf).2⟩
    · have hf := xin q hf
      have hf := xsj hf
      subst hf
      exact ⟨hm, hA⟩
theorem n_X12_fail {A : Nat → Prop} {σ : XS} {r0 : Nat} {x1 : Int32} {x : XS} (hA : Reg A σ) (hr0 : A r0) (hf : f_X12_fail σ r0 x1 = some x) : Sm A σ x ∧ Reg A x := by
  have hm := Sm.rf (A := A) (σ := σ)
  obtain ⟨v2, e1, hf⟩ := xbd hf
  by_cases q : v2 ≤ 0
  · have hf := xip q hf
    obtain ⟨σ4, e3, hf⟩ := xbd hf
    obtain ⟨hm9, hA⟩ := xpI_reg hA hr0 e3
    have hm := hm.tr hm9
    obtain ⟨z6, e5, hf⟩ := xbd hf
    obtain ⟨v8, e7, hf⟩ := xbd hf
    obtain ⟨v10, e9, hf⟩ := xbd hf
    obtain ⟨σ12, e11, hf⟩ := xbd hf
    obtain ⟨hm9, hA⟩ := xpI_reg hA hr0 e11
    have hm := hm.tr hm9
    have hf := xsj hf
    subst hf
    exact ⟨hm, hA⟩
  · have hf := xin q hf
    have hf := xsj hf
    subst hf
    exact ⟨hm, hA⟩
theorem n_X12_marks_l50 {A : Nat → Prop} {r0 : Nat} {x1 : Int32} {a : Int32 × XS} {x : XS} (hA : Reg A a.2) (hr0 : A r0) (hf : xloop (f_X12_marks_b50 r0 x1) a = some x) : Sm A a.2 x ∧ Reg A x := by
  revert hA
  refine xloop_ind (P := fun a => Reg A a.2 → Sm A a.2 x ∧ Reg A x) (fun a y hf hc he => ?_) hf
  obtain ⟨x2, σ⟩ := a
  intro hA
  have hA0 : Reg A σ := hA
  have hy : (∀ a' : Int32 × XS, y = .inl a' → Sm A σ a'.2 ∧ Reg A a'.2) ∧ (∀ b1 : XS, y = .inr b1 → Sm A σ b1 ∧ Reg A b1) := by
    have hm := Sm.rf (A := A) (σ := σ)
    by_cases q : (66 : Int32) ≤ x2
    · have hf := xip q hf
      obtain ⟨b0, hg, e9⟩ := xmj hf
      subst e9
      have hf := hg
      refine ⟨fun a' e => xnc2 e, fun b e => ?_⟩
      have h9 := Sum.inr.inj e
      subst h9
      obtain ⟨v2, e1, hf⟩ := xbd hf
      obtain ⟨σ4, e3, hf⟩ := xbd hf
      obtain ⟨hm9, hA⟩ := xpI_reg hA hr0 e3
      have hm := hm.tr hm9
      have hf := xsj hf
      subst hf
      exact ⟨hm, hA⟩
    · have hf := xin q hf
      obtain ⟨z2, e1, hf⟩ := xbd hf
      have hz2 := xgR_reg rfl hA hr0 e1
      obtain ⟨z4, e3, hf⟩ := xbd hf
      obtain ⟨v6, e5, hf⟩ := xbd hf
      obtain ⟨σ8, e7, hf⟩ := xbd hf
      obtain ⟨hm9, hA⟩ := xsI_reg hA hz2 e7
      have hm := hm.tr hm9
      have hf := xsj hf
      subst hf
      exact ⟨fun a' e => (by have h9 := Sum.inl.inj e; subst h9; exact ⟨hm, hA⟩), fun b e => xnc1 e⟩
  cases y with
  | inl a' =>
    obtain ⟨hm, hA1⟩ := hy.1 a' rfl
    have h1 := hc a' rfl hA1
    exact ⟨hm.tr (h1).1, (h1).2⟩
  | inr b =>
    have h1 := he b rfl
    subst h1
    exact hy.2 _ rfl
theorem n_X12_marks_j32 {A : Nat → Prop} {σ : XS} {r0 : Nat} {x : XS} (hA : Reg A σ) (hr0 : A r0) (hf : f_X12_marks_j32 σ r0 = some x) : Sm A σ x ∧ Reg A x := by
  have hm := Sm.rf (A := A) (σ := σ)
  obtain ⟨v2, e1, hf⟩ := xbd hf
  obtain ⟨v4, e3, hf⟩ := xbd hf
  exact ⟨hm.tr (n_X12_marks_l50 (a := ((0 : Int32), σ)) hA hr0 hf).1, (n_X12_marks_l50 (a := ((0 : Int32), σ)) hA hr0 hf).2⟩
theorem n_X12_marks {A : Nat → Prop} {σ : XS} {r0 : Nat} {x : XS} (hA : Reg A σ) (hr0 : A r0) (hf : f_X12_marks σ r0 = some x) : Sm A σ x ∧ Reg A x := by
  have hm := Sm.rf (A := A) (σ := σ)
  obtain ⟨v2, e1, hf⟩ := xbd hf
  by_cases q : v2 = (40 : Int32)
  · have hf := xip q hf
    obtain ⟨v4, e3, hf⟩ := xbd hf
    obtain ⟨σ6, e5, hf⟩ := xbd hf
    obtain ⟨hm9, hA⟩ := xpI_reg hA hr0 e5
    have hm := hm.tr hm9
    obtain ⟨v8, e7, hf⟩ := xbd hf
    obtain ⟨σ10, e9, hf⟩ := xbd hf
    obtain ⟨hm9, hA⟩ := xpI_reg hA hr0 e9
    have hm := hm.tr hm9
    exact ⟨hm.tr (n_X12_marks_j32 hA hr0 hf).1, (n_X12_marks_j32 hA hr0 hf).2⟩
  · have hf := xin q hf
    exact ⟨hm.tr (n_X12_marks_j32 hA hr0 hf).1, (n_X12_marks_j32 hA hr0 hf).2⟩
theorem n_X12_fall {A : Nat → Prop} {σ : XS} {r0 : Nat} {x : Int32 × XS} (hA : Reg A σ) (hr0 : A r0) (hf : f_X12_fall σ r0 = some x) : Sm A σ x.2 ∧ Reg A x.2 := by
  have hm := Sm.rf (A := A) (σ := σ)
  obtain ⟨_, e1, hf⟩ := xbd hf
  obtain ⟨v3, e2, hf⟩ := xbd hf
  by_cases q : v3 = 0
  · have hf := xip q hf
    have hf := xsj hf
    subst hf
    exact ⟨hm, hA⟩
  · have hf := xin q hf
    obtain ⟨_, e4, hf⟩ := xbd hf
    obtain ⟨σ6, e5, hf⟩ := xbd hf
    obtain ⟨hm9, hA⟩ := n_X12_knows hA hr0 e5
    have hm := hm.tr hm9
    obtain ⟨z8, e7, hf⟩ := xbd hf
    obtain ⟨v10, e9, hf⟩ := xbd hf
    obtain ⟨_, e11, hf⟩ := xbd hf
    obtain ⟨v13, e12, hf⟩ := xbd hf
    by_cases q : v13 = 0
    · have hf := xip q hf
      have hf := xsj hf
      subst hf
      exact ⟨hm, hA⟩
    · have hf := xin q hf
      obtain ⟨_, e14, hf⟩ := xbd hf
      obtain ⟨σ16, e15, hf⟩ := xbd hf
      obtain ⟨hm9, hA⟩ := n_X12_marks hA hr0 e15
      have hm := hm.tr hm9
      obtain ⟨z18, e17, hf⟩ := xbd hf
      have hz18 := xgR_reg rfl hA hr0 e17
      obtain ⟨z20, e19, hf⟩ := xbd hf
      obtain ⟨v22, e21, hf⟩ := xbd hf
      obtain ⟨_, e23, hf⟩ := xbd hf
      obtain ⟨v25, e24, hf⟩ := xbd hf
      obtain ⟨σ27, e26, hf⟩ := xbd hf
      obtain ⟨hm9, hA⟩ := xsI_reg hA hz18 e26
      have hm := hm.tr hm9
      have hf := xsj hf
      subst hf
      exact ⟨hm, hA⟩
theorem n_X12_lays_l3 {A : Nat → Prop} {r0 : Nat} {x1 : Int32} {a : Int32 × XS} {x : XS} (hA : Reg A a.2) (hr0 : A r0) (hf : xloop (f_X12_lays_b3 r0 x1) a = some x) : Sm A a.2 x ∧ Reg A x := by
  revert hA
  refine xloop_ind (P := fun a => Reg A a.2 → Sm A a.2 x ∧ Reg A x) (fun a y hf hc he => ?_) hf
  obtain ⟨x2, σ⟩ := a
  intro hA
  have hA0 : Reg A σ := hA
  have hy : (∀ a' : Int32 × XS, y = .inl a' → Sm A σ a'.2 ∧ Reg A a'.2) ∧ (∀ b1 : XS, y = .inr b1 → Sm A σ b1 ∧ Reg A b1) := by
    have hm := Sm.rf (A := A) (σ := σ)
    by_cases q : x2 < 0
    · have hf := xip q hf
      obtain ⟨b0, hg, e9⟩ := xmj hf
      subst e9
      have hf := hg
      refine ⟨fun a' e => xnc2 e, fun b e => ?_⟩
      have h9 := Sum.inr.inj e
      subst h9
      have hf := xsj hf
      subst hf
      exact ⟨hm, hA⟩
    · have hf := xin q hf
      obtain ⟨z2, e1, hf⟩ := xbd hf
      have hz2 := xgR_reg rfl hA hr0 e1
      obtain ⟨v4, e3, hf⟩ := xbd hf
      obtain ⟨σ6, e5, hf⟩ := xbd hf
      obtain ⟨hm9, hA⟩ := xsI_reg hA hz2 e5
      have hm := hm.tr hm9
      obtain ⟨v8, e7, hf⟩ := xbd hf
      obtain ⟨σ10, e9, hf⟩ := xbd hf
      obtain ⟨hm9, hA⟩ := xpI_reg hA hr0 e9
      have hm := hm.tr hm9
      have hf := xsj hf
      subst hf
      exact ⟨fun a' e => (by have h9 := Sum.inl.inj e; subst h9; exact ⟨hm, hA⟩), fun b e => xnc1 e⟩
  cases y with
  | inl a' =>
    obtain ⟨hm, hA1⟩ := hy.1 a' rfl
    have h1 := hc a' rfl hA1
    exact ⟨hm.tr (h1).1, (h1).2⟩
  | inr b =>
    have h1 := he b rfl
    subst h1
    exact hy.2 _ rfl
theorem n_X12_lays {A : Nat → Prop} {σ : XS} {r0 : Nat} {x1 : Int32} {x : XS} (hA : Reg A σ) (hr0 : A r0) (hf : f_X12_lays σ r0 x1 = some x) : Sm A σ x ∧ Reg A x := by
  have hm := Sm.rf (A := A) (σ := σ)
  exact ⟨hm.tr (n_X12_lays_l3 (a := ((24 : Int32), σ)) hA hr0 hf).1, (n_X12_lays_l3 (a := ((24 : Int32), σ)) hA hr0 hf).2⟩
theorem n_X12_feed {A : Nat → Prop} {σ : XS} {r0 : Nat} {x1 : Int32} {x2 : Int32} {x3 : Int32} {x4 : Int32} {x5 : Int32} {x : Int32 × XS} (hA : Reg A σ) (hr0 : A r0) (hf : f_X12_feed σ r0 x1 x2 x3 x4 x5 = some x) : Sm A σ x.2 ∧ Reg A x.2 := by
  have hm := Sm.rf (A := A) (σ := σ)
  obtain ⟨v2, e1, hf⟩ := xbd hf
  by_cases q : (v2 + (20 : Int32)) ≤ (2000 : Int32)
  · have hf := xip q hf
    obtain ⟨_, e3, hf⟩ := xbd hf
    obtain ⟨σ5, e4, hf⟩ := xbd hf
    obtain ⟨hm9, hA⟩ := n_X12_lays hA hr0 e4
    have hm := hm.tr hm9
    obtain ⟨_, e6, hf⟩ := xbd hf
    obtain ⟨σ8, e7, hf⟩ := xbd hf
    obtain ⟨hm9, hA⟩ := n_X12_lays hA hr0 e7
    have hm := hm.tr hm9
    obtain ⟨_, e9, hf⟩ := xbd hf
    obtain ⟨σ11, e10, hf⟩ := xbd hf
    obtain ⟨hm9, hA⟩ := n_X12_lays hA hr0 e10
    have hm := hm.tr hm9
    obtain ⟨_, e12, hf⟩ := xbd hf
    obtain ⟨σ14, e13, hf⟩ := xbd hf
    obtain ⟨hm9, hA⟩ := n_X12_lays hA hr0 e13
    have hm := hm.tr hm9
    obtain ⟨_, e15, hf⟩ := xbd hf
    obtain ⟨σ17, e16, hf⟩ := xbd hf
    obtain ⟨hm9, hA⟩ := n_X12_lays hA hr0 e16
    have hm := hm.tr hm9
    obtain ⟨v19, e18, hf⟩ := xbd hf
    have hf := xsj hf
    subst hf
    exact ⟨hm, hA⟩
  · have hf := xin q hf
    have hf := xsj hf
    subst hf
    exact ⟨hm, hA⟩
theorem n_X12_glass_j110 {A : Nat → Prop} {σ : XS} {r0 : Nat} {w2 : Int64} {x4 : Int32} {x6 : Int32} {t0 : Nat} {t1 : Int32} {x : ((Int64 × Int32 × XS) ⊕ (Int32 × XS))} (hA : Reg A σ) (ht0 : A t0) (hf : f_X12_glass_j110 σ r0 w2 x4 x6 t0 t1 = some x) : (∀ a' : Int64 × Int32 × XS, x = .inl a' → Sm A σ a'.2.2 ∧ Reg A a'.2.2) ∧ (∀ b1 : Int32 × XS, x = .inr b1 → Sm A σ b1.2 ∧ Reg A b1.2) := by
  have hm := Sm.rf (A := A) (σ := σ)
  by_cases q : (lg_cmp ((w2 / (65536 : Int64)) - (w2 / (65536 : Int64)) / (2 : Int64) * (2 : Int64)) (1 : Int64)) = 0
  · have hf := xip q hf
    obtain ⟨σ2, e1, hf⟩ := xbd hf
    obtain ⟨hm9, hA⟩ := xsI_reg hA ht0 e1
    have hm := hm.tr hm9
    have hf := xsj hf
    subst hf
    exact ⟨fun a' e => (by have h9 := Sum.inl.inj e; subst h9; exact ⟨hm, hA⟩), fun b e => xnc1 e⟩
  · have hf := xin q hf
    obtain ⟨σ2, e1, hf⟩ := xbd hf
    obtain ⟨hm9, hA⟩ := xsI_reg hA ht0 e1
    have hm := hm.tr hm9
    have hf := xsj hf
    subst hf
    exact ⟨fun a' e => (by have h9 := Sum.inl.inj e; subst h9; exact ⟨hm, hA⟩), fun b e => xnc1 e⟩
theorem n_X12_glass_j74 {A : Nat → Prop} {σ : XS} {r0 : Nat} {w2 : Int64} {x4 : Int32} {x5 : Int32} {t0 : Int32} {x : ((Int64 × Int32 × XS) ⊕ (Int32 × XS))} (hA : Reg A σ) (hr0 : A r0) (hf : f_X12_glass_j74 σ r0 w2 x4 x5 t0 = some x) : (∀ a' : Int64 × Int32 × XS, x = .inl a' → Sm A σ a'.2.2 ∧ Reg A a'.2.2) ∧ (∀ b1 : Int32 × XS, x = .inr b1 → Sm A σ b1.2 ∧ Reg A b1.2) := by
  have hm := Sm.rf (A := A) (σ := σ)
  obtain ⟨_, e1, hf⟩ := xbd hf
  obtain ⟨v3, e2, hf⟩ := xbd hf
  by_cases q : 0 ≤ v3
  · have hf := xip q hf
    obtain ⟨v5, e4, hf⟩ := xbd hf
    obtain ⟨z7, e6, hf⟩ := xbd hf
    have hz7 := xgR_reg rfl hA hr0 e6
    by_cases q : x5 = 0
    · have hf := xip q hf
      exact ⟨fun a' e => ⟨hm.tr ((n_X12_glass_j110 hA hz7 hf).1 a' e).1, ((n_X12_glass_j110 hA hz7 hf).1 a' e).2⟩, fun b1 eb1 => ⟨hm.tr ((n_X12_glass_j110 hA hz7 hf).2 b1 eb1).1, ((n_X12_glass_j110 hA hz7 hf).2 b1 eb1).2⟩⟩
    · have hf := xin q hf
      exact ⟨fun a' e => ⟨hm.tr ((n_X12_glass_j110 hA hz7 hf).1 a' e).1, ((n_X12_glass_j110 hA hz7 hf).1 a' e).2⟩, fun b1 eb1 => ⟨hm.tr ((n_X12_glass_j110 hA hz7 hf).2 b1 eb1).1, ((n_X12_glass_j110 hA hz7 hf).2 b1 eb1).2⟩⟩
  · have hf := xin q hf
    have hf := xsj hf
    subst hf
    exact ⟨fun a' e => (by have h9 := Sum.inl.inj e; subst h9; exact ⟨hm, hA⟩), fun b e => xnc1 e⟩
theorem n_X12_glass_j55 {A : Nat → Prop} {σ : XS} {r0 : Nat} {w2 : Int64} {x4 : Int32} {t0 : Int32} {x : ((Int64 × Int32 × XS) ⊕ (Int32 × XS))} (hA : Reg A σ) (hr0 : A r0) (hf : f_X12_glass_j55 σ r0 w2 x4 t0 = some x) : (∀ a' : Int64 × Int32 × XS, x = .inl a' → Sm A σ a'.2.2 ∧ Reg A a'.2.2) ∧ (∀ b1 : Int32 × XS, x = .inr b1 → Sm A σ b1.2 ∧ Reg A b1.2) := by
  have hm := Sm.rf (A := A) (σ := σ)
  by_cases q : t0 = 0
  · have hf := xip q hf
    exact ⟨fun a' e => ⟨hm.tr ((n_X12_glass_j74 hA hr0 hf).1 a' e).1, ((n_X12_glass_j74 hA hr0 hf).1 a' e).2⟩, fun b1 eb1 => ⟨hm.tr ((n_X12_glass_j74 hA hr0 hf).2 b1 eb1).1, ((n_X12_glass_j74 hA hr0 hf).2 b1 eb1).2⟩⟩
  · have hf := xin q hf
    obtain ⟨_, e1, hf⟩ := xbd hf
    obtain ⟨v3, e2, hf⟩ := xbd hf
    exact ⟨fun a' e => ⟨hm.tr ((n_X12_glass_j74 hA hr0 hf).1 a' e).1, ((n_X12_glass_j74 hA hr0 hf).1 a' e).2⟩, fun b1 eb1 => ⟨hm.tr ((n_X12_glass_j74 hA hr0 hf).2 b1 eb1).1, ((n_X12_glass_j74 hA hr0 hf).2 b1 eb1).2⟩⟩
theorem n_X12_glass_l30 {A : Nat → Prop} {r0 : Nat} {a : Int64 × Int32 × XS} {x : Int32 × XS} (hA : Reg A a.2.2) (hr0 : A r0) (hf : xloop (f_X12_glass_b30 r0) a = some x) : Sm A a.2.2 x.2 ∧ Reg A x.2 := by
  revert hA
  refine xloop_ind (P := fun a => Reg A a.2.2 → Sm A a.2.2 x.2 ∧ Reg A x.2) (fun a y hf hc he => ?_) hf
  obtain ⟨w2, x4, σ⟩ := a
  intro hA
  have hA0 : Reg A σ := hA
  have hy : (∀ a' : Int64 × Int32 × XS, y = .inl a' → Sm A σ a'.2.2 ∧ Reg A a'.2.2) ∧ (∀ b1 : Int32 × XS, y = .inr b1 → Sm A σ b1.2 ∧ Reg A b1.2) := by
    have hm := Sm.rf (A := A) (σ := σ)
    obtain ⟨_, e1, hf⟩ := xbd hf
    obtain ⟨v3, e2, hf⟩ := xbd hf
    by_cases q : ((2 : Int32) * v3) ≤ x4
    · have hf := xip q hf
      obtain ⟨b0, hg, e9⟩ := xmj hf
      subst e9
      have hf := hg
      refine ⟨fun a' e => xnc2 e, fun b e => ?_⟩
      have h9 := Sum.inr.inj e
      subst h9
      obtain ⟨σ5, e4, hf⟩ := xbd hf
      obtain ⟨hm9, hA⟩ := xpI_reg hA hr0 e4
      have hm := hm.tr hm9
      have hf := xsj hf
      subst hf
      exact ⟨hm, hA⟩
    · have hf := xin q hf
      obtain ⟨_, e4, hf⟩ := xbd hf
      obtain ⟨v6, e5, hf⟩ := xbd hf
      by_cases q : x4 < v6
      · have hf := xip q hf
        exact ⟨fun a' e => ⟨hm.tr ((n_X12_glass_j55 hA hr0 hf).1 a' e).1, ((n_X12_glass_j55 hA hr0 hf).1 a' e).2⟩, fun b1 eb1 => ⟨hm.tr ((n_X12_glass_j55 hA hr0 hf).2 b1 eb1).1, ((n_X12_glass_j55 hA hr0 hf).2 b1 eb1).2⟩⟩
      · have hf := xin q hf
        exact ⟨fun a' e => ⟨hm.tr ((n_X12_glass_j55 hA hr0 hf).1 a' e).1, ((n_X12_glass_j55 hA hr0 hf).1 a' e).2⟩, fun b1 eb1 => ⟨hm.tr ((n_X12_glass_j55 hA hr0 hf).2 b1 eb1).1, ((n_X12_glass_j55 hA hr0 hf).2 b1 eb1).2⟩⟩
  cases y with
  | inl a' =>
    obtain ⟨hm, hA1⟩ := hy.1 a' rfl
    have h1 := hc a' rfl hA1
    exact ⟨hm.tr (h1).1, (h1).2⟩
  | inr b =>
    have h1 := he b rfl
    subst h1
    exact hy.2 _ rfl
theorem n_X12_glass {A : Nat → Prop} {σ : XS} {r0 : Nat} {x1 : Int32} {x : Int32 × XS} (hA : Reg A σ) (hr0 : A r0) (hf : f_X12_glass σ r0 x1 = some x) : Sm A σ x.2 ∧ Reg A x.2 := by
  have hm := Sm.rf (A := A) (σ := σ)
  obtain ⟨v2, e1, hf⟩ := xbd hf
  by_cases q : v2 = 0
  · have hf := xip q hf
    have hf := xsj hf
    subst hf
    exact ⟨hm, hA⟩
  · have hf := xin q hf
    obtain ⟨_, e3, hf⟩ := xbd hf
    obtain ⟨v5, e4, hf⟩ := xbd hf
    by_cases q : v5 = 0
    · have hf := xip q hf
      have hf := xsj hf
      subst hf
      exact ⟨hm, hA⟩
    · have hf := xin q hf
      obtain ⟨_, e6, hf⟩ := xbd hf
      obtain ⟨σ8, e7, hf⟩ := xbd hf
      obtain ⟨hm9, hA⟩ := n_X12_marks hA hr0 e7
      have hm := hm.tr hm9
      exact ⟨hm.tr (n_X12_glass_l30 (a := (x1.toInt64, (0 : Int32), σ8)) hA hr0 hf).1, (n_X12_glass_l30 (a := (x1.toInt64, (0 : Int32), σ8)) hA hr0 hf).2⟩
theorem n_X12_ground {A : Nat → Prop} {σ : XS} {r0 : Nat} {x1 : Int32} {x : Int32 × XS} (hA : Reg A σ) (hr0 : A r0) (hf : f_X12_ground σ r0 x1 = some x) : Sm A σ x.2 ∧ Reg A x.2 := by
  have hm := Sm.rf (A := A) (σ := σ)
  obtain ⟨_, e1, hf⟩ := xbd hf
  obtain ⟨σ3, e2, hf⟩ := xbd hf
  obtain ⟨hm9, hA⟩ := n_X12_knows hA hr0 e2
  have hm := hm.tr hm9
  obtain ⟨v5, e4, hf⟩ := xbd hf
  by_cases q : v5 = 0
  · have hf := xip q hf
    have hf := xsj hf
    subst hf
    exact ⟨hm, hA⟩
  · have hf := xin q hf
    by_cases ho : (x1).toInt < 0 ∨ 3 < (x1).toInt
    · have hf := xsw_out ho rfl hf
      have hf := xsj hf
      subst hf
      exact ⟨hm, hA⟩
    · rcases (by omega : (x1).toInt = 0 + ((0 : Nat) : Int) ∨ (x1).toInt = 0 + ((1 : Nat) : Int) ∨ (x1).toInt = 0 + ((2 : Nat) : Int) ∨ (x1).toInt = 0 + ((3 : Nat) : Int)) with hk1 | hk1 | hk1 | hk1
      · have hf := xsw_in 0 hk1 rfl hf
        obtain ⟨z7, e6, hf⟩ := xbd hf
        obtain ⟨v9, e8, hf⟩ := xbd hf
        have hf := xsj hf
        subst hf
        exact ⟨hm, hA⟩
      · have hf := xsw_in 1 hk1 rfl hf
        obtain ⟨z7, e6, hf⟩ := xbd hf
        obtain ⟨z9, e8, hf⟩ := xbd hf
        obtain ⟨v11, e10, hf⟩ := xbd hf
        obtain ⟨v13, e12, hf⟩ := xbd hf
        have hf := xsj hf
        subst hf
        exact ⟨hm, hA⟩
      · have hf := xsw_in 2 hk1 rfl hf
        obtain ⟨z7, e6, hf⟩ := xbd hf
        obtain ⟨v9, e8, hf⟩ := xbd hf
        obtain ⟨_, e10, hf⟩ := xbd hf
        obtain ⟨v12, e11, hf⟩ := xbd hf
        have hf := xsj hf
        subst hf
        exact ⟨hm, hA⟩
      · have hf := xsw_in 3 hk1 rfl hf
        obtain ⟨v7, e6, hf⟩ := xbd hf
        by_cases q : v7 = (1 : Int32)
        · have hf := xip q hf
          have hf := xsj hf
          subst hf
          exact ⟨hm, hA⟩
        · have hf := xin q hf
          obtain ⟨z9, e8, hf⟩ := xbd hf
          obtain ⟨v11, e10, hf⟩ := xbd hf
          obtain ⟨z13, e12, hf⟩ := xbd hf
          obtain ⟨v15, e14, hf⟩ := xbd hf
          have hf := xsj hf
          subst hf
          exact ⟨hm, hA⟩
theorem n_X12_laysHills_j99 {A : Nat → Prop} {σ : XS} {r0 : Nat} {x1 : Int32} {x2 : Int32} {x3 : Int32} {x : ((Int32 × Int32 × XS) ⊕ ((Int32 × XS) ⊕ (XS)))} (hA : Reg A σ) (hr0 : A r0) (hf : f_X12_laysHills_j99 σ r0 x1 x2 x3 = some x) : (∀ a' : Int32 × Int32 × XS, x = .inl a' → Sm A σ a'.2.2 ∧ Reg A a'.2.2) ∧ (∀ b2 : ((Int32 × XS) ⊕ (XS)), x = .inr b2 → (∀ a' : Int32 × XS, b2 = .inl a' → Sm A σ a'.2 ∧ Reg A a'.2) ∧ (∀ b1 : XS, b2 = .inr b1 → Sm A σ b1 ∧ Reg A b1)) := by
  have hm := Sm.rf (A := A) (σ := σ)
  obtain ⟨z2, e1, hf⟩ := xbd hf
  obtain ⟨v4, e3, hf⟩ := xbd hf
  by_cases q : x3 < v4
  · have hf := xip q hf
    obtain ⟨z6, e5, hf⟩ := xbd hf
    have hz6 := xgR_reg rfl hA hr0 e5
    obtain ⟨σ8, e7, hf⟩ := xbd hf
    obtain ⟨hm9, hA⟩ := xsI_reg hA hz6 e7
    have hm := hm.tr hm9
    have hf := xsj hf
    subst hf
    exact ⟨fun a' e => (by have h9 := Sum.inl.inj e; subst h9; exact ⟨hm, hA⟩), fun b e => xnc1 e⟩
  · have hf := xin q hf
    have hf := xsj hf
    subst hf
    exact ⟨fun a' e => (by have h9 := Sum.inl.inj e; subst h9; exact ⟨hm, hA⟩), fun b e => xnc1 e⟩
theorem n_X12_laysHills_l40 {A : Nat → Prop} {σ : XS} {r0 : Nat} {x1 : Int32} {x2 : Int32} {a : Int32 × Int32} {x : ((Int32 × Int32 × XS) ⊕ ((Int32 × XS) ⊕ (XS)))} (hA : Reg A σ) (hr0 : A r0) (hf : xloop (f_X12_laysHills_b40 σ r0 x1 x2) a = some x) : (∀ a' : Int32 × Int32 × XS, x = .inl a' → Sm A σ a'.2.2 ∧ Reg A a'.2.2) ∧ (∀ b2 : ((Int32 × XS) ⊕ (XS)), x = .inr b2 → (∀ a' : Int32 × XS, b2 = .inl a' → Sm A σ a'.2 ∧ Reg A a'.2) ∧ (∀ b1 : XS, b2 = .inr b1 → Sm A σ b1 ∧ Reg A b1)) := by
  revert hA
  refine xloop_ind (P := fun a => Reg A σ → (∀ a' : Int32 × Int32 × XS, x = .inl a' → Sm A σ a'.2.2 ∧ Reg A a'.2.2) ∧ (∀ b2 : ((Int32 × XS) ⊕ (XS)), x = .inr b2 → (∀ a' : Int32 × XS, b2 = .inl a' → Sm A σ a'.2 ∧ Reg A a'.2) ∧ (∀ b1 : XS, b2 = .inr b1 → Sm A σ b1 ∧ Reg A b1))) (fun a y hf hc he => ?_) hf
  obtain ⟨x3, x4⟩ := a
  intro hA
  have hA0 : Reg A σ := hA
  have hy : (∀ a' : Int32 × Int32, y = .inl a' → True) ∧ (∀ b3 : ((Int32 × Int32 × XS) ⊕ ((Int32 × XS) ⊕ (XS))), y = .inr b3 → (∀ a' : Int32 × Int32 × XS, b3 = .inl a' → Sm A σ a'.2.2 ∧ Reg A a'.2.2) ∧ (∀ b2 : ((Int32 × XS) ⊕ (XS)), b3 = .inr b2 → (∀ a' : Int32 × XS, b2 = .inl a' → Sm A σ a'.2 ∧ Reg A a'.2) ∧ (∀ b1 : XS, b2 = .inr b1 → Sm A σ b1 ∧ Reg A b1))) := by
    have hm := Sm.rf (A := A) (σ := σ)
    obtain ⟨_, e1, hf⟩ := xbd hf
    obtain ⟨v3, e2, hf⟩ := xbd hf
    by_cases q : v3 ≤ x4
    · have hf := xip q hf
      obtain ⟨b0, hg, e9⟩ := xmj hf
      subst e9
      have hf := hg
      refine ⟨fun a' e => xnc2 e, fun b e => ?_⟩
      have h9 := Sum.inr.inj e
      subst h9
      obtain ⟨z5, e4, hf⟩ := xbd hf
      obtain ⟨v7, e6, hf⟩ := xbd hf
      by_cases q : v7 ≤ x3
      · have hf := xip q hf
        exact ⟨fun a' e => ⟨hm.tr ((n_X12_laysHills_j99 hA hr0 hf).1 a' e).1, ((n_X12_laysHills_j99 hA hr0 hf).1 a' e).2⟩, fun b2 eb2 => ⟨fun a' e => ⟨hm.tr (((n_X12_laysHills_j99 hA hr0 hf).2 b2 eb2).1 a' e).1, (((n_X12_laysHills_j99 hA hr0 hf).2 b2 eb2).1 a' e).2⟩, fun b1 eb1 => ⟨hm.tr (((n_X12_laysHills_j99 hA hr0 hf).2 b2 eb2).2 b1 eb1).1, (((n_X12_laysHills_j99 hA hr0 hf).2 b2 eb2).2 b1 eb1).2⟩⟩⟩
      · have hf := xin q hf
        obtain ⟨z9, e8, hf⟩ := xbd hf
        obtain ⟨v11, e10, hf⟩ := xbd hf
        exact ⟨fun a' e => ⟨hm.tr ((n_X12_laysHills_j99 hA hr0 hf).1 a' e).1, ((n_X12_laysHills_j99 hA hr0 hf).1 a' e).2⟩, fun b2 eb2 => ⟨fun a' e => ⟨hm.tr (((n_X12_laysHills_j99 hA hr0 hf).2 b2 eb2).1 a' e).1, (((n_X12_laysHills_j99 hA hr0 hf).2 b2 eb2).1 a' e).2⟩, fun b1 eb1 => ⟨hm.tr (((n_X12_laysHills_j99 hA hr0 hf).2 b2 eb2).2 b1 eb1).1, (((n_X12_laysHills_j99 hA hr0 hf).2 b2 eb2).2 b1 eb1).2⟩⟩⟩
    · have hf := xin q hf
      obtain ⟨z5, e4, hf⟩ := xbd hf
      obtain ⟨v7, e6, hf⟩ := xbd hf
      by_cases q : x3 ≤ v7
      · have hf := xip q hf
        have hf := xsj hf
        subst hf
        exact ⟨fun a' e => (by have h9 := Sum.inl.inj e; subst h9; exact trivial), fun b e => xnc1 e⟩
      · have hf := xin q hf
        obtain ⟨z9, e8, hf⟩ := xbd hf
        obtain ⟨v11, e10, hf⟩ := xbd hf
        have hf := xsj hf
        subst hf
        exact ⟨fun a' e => (by have h9 := Sum.inl.inj e; subst h9; exact trivial), fun b e => xnc1 e⟩
  cases y with
  | inl a' =>
    exact hc a' rfl hA0
  | inr b =>
    have h1 := he b rfl
    subst h1
    exact hy.2 _ rfl
theorem n_X12_laysHills_l10 {A : Nat → Prop} {r0 : Nat} {a : Int32 × Int32 × XS} {x : ((Int32 × XS) ⊕ (XS))} (hA : Reg A a.2.2) (hr0 : A r0) (hf : xloop (f_X12_laysHills_b10 r0) a = some x) : (∀ a' : Int32 × XS, x = .inl a' → Sm A a.2.2 a'.2 ∧ Reg A a'.2) ∧ (∀ b1 : XS, x = .inr b1 → Sm A a.2.2 b1 ∧ Reg A b1) := by
  revert hA
  refine xloop_ind (P := fun a => Reg A a.2.2 → (∀ a' : Int32 × XS, x = .inl a' → Sm A a.2.2 a'.2 ∧ Reg A a'.2) ∧ (∀ b1 : XS, x = .inr b1 → Sm A a.2.2 b1 ∧ Reg A b1)) (fun a y hf hc he => ?_) hf
  obtain ⟨x1, x2, σ⟩ := a
  intro hA
  have hA0 : Reg A σ := hA
  have hy : (∀ a' : Int32 × Int32 × XS, y = .inl a' → Sm A σ a'.2.2 ∧ Reg A a'.2.2) ∧ (∀ b2 : ((Int32 × XS) ⊕ (XS)), y = .inr b2 → (∀ a' : Int32 × XS, b2 = .inl a' → Sm A σ a'.2 ∧ Reg A a'.2) ∧ (∀ b1 : XS, b2 = .inr b1 → Sm A σ b1 ∧ Reg A b1)) := by
    have hm := Sm.rf (A := A) (σ := σ)
    obtain ⟨_, e1, hf⟩ := xbd hf
    obtain ⟨v3, e2, hf⟩ := xbd hf
    by_cases q : v3 ≤ x2
    · have hf := xip q hf
      obtain ⟨b0, hg, e9⟩ := xmj hf
      subst e9
      have hf := hg
      refine ⟨fun a' e => xnc2 e, fun b e => ?_⟩
      have h9 := Sum.inr.inj e
      subst h9
      have hf := xsj hf
      subst hf
      exact ⟨fun a' e => (by have h9 := Sum.inl.inj e; subst h9; exact ⟨hm, hA⟩), fun b e => xnc1 e⟩
    · have hf := xin q hf
      obtain ⟨z5, e4, hf⟩ := xbd hf
      obtain ⟨v7, e6, hf⟩ := xbd hf
      by_cases q : v7 = (100000 : Int32)
      · have hf := xip q hf
        have hf := xsj hf
        subst hf
        exact ⟨fun a' e => (by have h9 := Sum.inl.inj e; subst h9; exact ⟨hm, hA⟩), fun b e => xnc1 e⟩
      · have hf := xin q hf
        exact ⟨fun a' e => ⟨hm.tr ((n_X12_laysHills_l40 (a := ((100000 : Int32), (0 : Int32))) hA hr0 hf).1 a' e).1, ((n_X12_laysHills_l40 (a := ((100000 : Int32), (0 : Int32))) hA hr0 hf).1 a' e).2⟩, fun b2 eb2 => ⟨fun a' e => ⟨hm.tr (((n_X12_laysHills_l40 (a := ((100000 : Int32), (0 : Int32))) hA hr0 hf).2 b2 eb2).1 a' e).1, (((n_X12_laysHills_l40 (a := ((100000 : Int32), (0 : Int32))) hA hr0 hf).2 b2 eb2).1 a' e).2⟩, fun b1 eb1 => ⟨hm.tr (((n_X12_laysHills_l40 (a := ((100000 : Int32), (0 : Int32))) hA hr0 hf).2 b2 eb2).2 b1 eb1).1, (((n_X12_laysHills_l40 (a := ((100000 : Int32), (0 : Int32))) hA hr0 hf).2 b2 eb2).2 b1 eb1).2⟩⟩⟩
  cases y with
  | inl a' =>
    obtain ⟨hm, hA1⟩ := hy.1 a' rfl
    have h1 := hc a' rfl hA1
    exact ⟨fun a' e => ⟨hm.tr ((h1).1 a' e).1, ((h1).1 a' e).2⟩, fun b1 eb1 => ⟨hm.tr ((h1).2 b1 eb1).1, ((h1).2 b1 eb1).2⟩⟩
  | inr b =>
    have h1 := he b rfl
    subst h1
    exact hy.2 _ rfl
theorem n_X12_laysHills_l2 {A : Nat → Prop} {r0 : Nat} {a : Int32 × XS} {x : XS} (hA : Reg A a.2) (hr0 : A r0) (hf : xloop (f_X12_laysHills_b2 r0) a = some x) : Sm A a.2 x ∧ Reg A x := by
  revert hA
  refine xloop_ind (P := fun a => Reg A a.2 → Sm A a.2 x ∧ Reg A x) (fun a y hf hc he => ?_) hf
  obtain ⟨x1, σ⟩ := a
  intro hA
  have hA0 : Reg A σ := hA
  have hy : (∀ a' : Int32 × XS, y = .inl a' → Sm A σ a'.2 ∧ Reg A a'.2) ∧ (∀ b1 : XS, y = .inr b1 → Sm A σ b1 ∧ Reg A b1) := by
    have hm := Sm.rf (A := A) (σ := σ)
    by_cases q : x1 = 0
    · have hf := xip q hf
      obtain ⟨b0, hg, e9⟩ := xmj hf
      subst e9
      have hf := hg
      refine ⟨fun a' e => xnc2 e, fun b e => ?_⟩
      have h9 := Sum.inr.inj e
      subst h9
      have hf := xsj hf
      subst hf
      exact ⟨hm, hA⟩
    · have hf := xin q hf
      exact ⟨fun a' e => ⟨hm.tr ((n_X12_laysHills_l10 (a := ((0 : Int32), (0 : Int32), σ)) hA hr0 hf).1 a' e).1, ((n_X12_laysHills_l10 (a := ((0 : Int32), (0 : Int32), σ)) hA hr0 hf).1 a' e).2⟩, fun b1 eb1 => ⟨hm.tr ((n_X12_laysHills_l10 (a := ((0 : Int32), (0 : Int32), σ)) hA hr0 hf).2 b1 eb1).1, ((n_X12_laysHills_l10 (a := ((0 : Int32), (0 : Int32), σ)) hA hr0 hf).2 b1 eb1).2⟩⟩
  cases y with
  | inl a' =>
    obtain ⟨hm, hA1⟩ := hy.1 a' rfl
    have h1 := hc a' rfl hA1
    exact ⟨hm.tr (h1).1, (h1).2⟩
  | inr b =>
    have h1 := he b rfl
    subst h1
    exact hy.2 _ rfl
theorem n_X12_laysHills {A : Nat → Prop} {σ : XS} {r0 : Nat} {x : XS} (hA : Reg A σ) (hr0 : A r0) (hf : f_X12_laysHills σ r0 = some x) : Sm A σ x ∧ Reg A x := by
  have hm := Sm.rf (A := A) (σ := σ)
  exact ⟨hm.tr (n_X12_laysHills_l2 (a := ((1 : Int32), σ)) hA hr0 hf).1, (n_X12_laysHills_l2 (a := ((1 : Int32), σ)) hA hr0 hf).2⟩
theorem n_X12_hill_l27 {A : Nat → Prop} {r0 : Nat} {x1 : Int32} {a : Int32 × XS} {x : Int32 × XS} (hA : Reg A a.2) (hr0 : A r0) (hf : xloop (f_X12_hill_b27 r0 x1) a = some x) : Sm A a.2 x.2 ∧ Reg A x.2 := by
  revert hA
  refine xloop_ind (P := fun a => Reg A a.2 → Sm A a.2 x.2 ∧ Reg A x.2) (fun a y hf hc he => ?_) hf
  obtain ⟨x2, σ⟩ := a
  intro hA
  have hA0 : Reg A σ := hA
  have hy : (∀ a' : Int32 × XS, y = .inl a' → Sm A σ a'.2 ∧ Reg A a'.2) ∧ (∀ b1 : Int32 × XS, y = .inr b1 → Sm A σ b1.2 ∧ Reg A b1.2) := by
    have hm := Sm.rf (A := A) (σ := σ)
    obtain ⟨_, e1, hf⟩ := xbd hf
    obtain ⟨v3, e2, hf⟩ := xbd hf
    by_cases q : v3 ≤ x2
    · have hf := xip q hf
      obtain ⟨b0, hg, e9⟩ := xmj hf
      subst e9
      have hf := hg
      refine ⟨fun a' e => xnc2 e, fun b e => ?_⟩
      have h9 := Sum.inr.inj e
      subst h9
      obtain ⟨_, e4, hf⟩ := xbd hf
      obtain ⟨σ6, e5, hf⟩ := xbd hf
      obtain ⟨hm9, hA⟩ := n_X12_laysHills hA hr0 e5
      have hm := hm.tr hm9
      obtain ⟨z8, e7, hf⟩ := xbd hf
      obtain ⟨v10, e9, hf⟩ := xbd hf
      have hf := xsj hf
      subst hf
      exact ⟨hm, hA⟩
    · have hf := xin q hf
      obtain ⟨z5, e4, hf⟩ := xbd hf
      have hz5 := xgR_reg rfl hA hr0 e4
      obtain ⟨z7, e6, hf⟩ := xbd hf
      obtain ⟨v9, e8, hf⟩ := xbd hf
      obtain ⟨z11, e10, hf⟩ := xbd hf
      obtain ⟨v13, e12, hf⟩ := xbd hf
      by_cases q : v9 = v13
      · have hf := xip q hf
        obtain ⟨z15, e14, hf⟩ := xbd hf
        obtain ⟨v17, e16, hf⟩ := xbd hf
        obtain ⟨σ19, e18, hf⟩ := xbd hf
        obtain ⟨hm9, hA⟩ := xsI_reg hA hz5 e18
        have hm := hm.tr hm9
        have hf := xsj hf
        subst hf
        exact ⟨fun a' e => (by have h9 := Sum.inl.inj e; subst h9; exact ⟨hm, hA⟩), fun b e => xnc1 e⟩
      · have hf := xin q hf
        obtain ⟨σ15, e14, hf⟩ := xbd hf
        obtain ⟨hm9, hA⟩ := xsI_reg hA hz5 e14
        have hm := hm.tr hm9
        have hf := xsj hf
        subst hf
        exact ⟨fun a' e => (by have h9 := Sum.inl.inj e; subst h9; exact ⟨hm, hA⟩), fun b e => xnc1 e⟩
  cases y with
  | inl a' =>
    obtain ⟨hm, hA1⟩ := hy.1 a' rfl
    have h1 := hc a' rfl hA1
    exact ⟨hm.tr (h1).1, (h1).2⟩
  | inr b =>
    have h1 := he b rfl
    subst h1
    exact hy.2 _ rfl
theorem n_X12_hill {A : Nat → Prop} {σ : XS} {r0 : Nat} {x1 : Int32} {x : Int32 × XS} (hA : Reg A σ) (hr0 : A r0) (hf : f_X12_hill σ r0 x1 = some x) : Sm A σ x.2 ∧ Reg A x.2 := by
  have hm := Sm.rf (A := A) (σ := σ)
  obtain ⟨_, e1, hf⟩ := xbd hf
  obtain ⟨v3, e2, hf⟩ := xbd hf
  by_cases q : v3 = 0
  · have hf := xip q hf
    have hf := xsj hf
    subst hf
    exact ⟨hm, hA⟩
  · have hf := xin q hf
    obtain ⟨_, e4, hf⟩ := xbd hf
    obtain ⟨v6, e5, hf⟩ := xbd hf
    by_cases q : v6 ≤ (10 : Int32)
    · have hf := xip q hf
      obtain ⟨_, e7, hf⟩ := xbd hf
      obtain ⟨σ9, e8, hf⟩ := xbd hf
      obtain ⟨hm9, hA⟩ := n_X12_knows hA hr0 e8
      have hm := hm.tr hm9
      exact ⟨hm.tr (n_X12_hill_l27 (a := ((0 : Int32), σ9)) hA hr0 hf).1, (n_X12_hill_l27 (a := ((0 : Int32), σ9)) hA hr0 hf).2⟩
    · have hf := xin q hf
      have hf := xsj hf
      subst hf
      exact ⟨hm, hA⟩
theorem n_X12_hold_l13 {A : Nat → Prop} {r0 : Nat} {x1 : Int32} {a : Int32 × XS} {x : Int32 × XS} (hA : Reg A a.2) (hr0 : A r0) (hf : xloop (f_X12_hold_b13 r0 x1) a = some x) : Sm A a.2 x.2 ∧ Reg A x.2 := by
  revert hA
  refine xloop_ind (P := fun a => Reg A a.2 → Sm A a.2 x.2 ∧ Reg A x.2) (fun a y hf hc he => ?_) hf
  obtain ⟨x2, σ⟩ := a
  intro hA
  have hA0 : Reg A σ := hA
  have hy : (∀ a' : Int32 × XS, y = .inl a' → Sm A σ a'.2 ∧ Reg A a'.2) ∧ (∀ b1 : Int32 × XS, y = .inr b1 → Sm A σ b1.2 ∧ Reg A b1.2) := by
    have hm := Sm.rf (A := A) (σ := σ)
    by_cases q : (66 : Int32) ≤ x2
    · have hf := xip q hf
      obtain ⟨b0, hg, e9⟩ := xmj hf
      subst e9
      have hf := hg
      refine ⟨fun a' e => xnc2 e, fun b e => ?_⟩
      have h9 := Sum.inr.inj e
      subst h9
      obtain ⟨z2, e1, hf⟩ := xbd hf
      have hz2 := xgR_reg rfl hA hr0 e1
      obtain ⟨σ4, e3, hf⟩ := xbd hf
      obtain ⟨hm9, hA⟩ := xsI_reg hA hz2 e3
      have hm := hm.tr hm9
      have hf := xsj hf
      subst hf
      exact ⟨hm, hA⟩
    · have hf := xin q hf
      obtain ⟨z2, e1, hf⟩ := xbd hf
      have hz2 := xgR_reg rfl hA hr0 e1
      obtain ⟨z4, e3, hf⟩ := xbd hf
      obtain ⟨v6, e5, hf⟩ := xbd hf
      obtain ⟨σ8, e7, hf⟩ := xbd hf
      obtain ⟨hm9, hA⟩ := xsI_reg hA hz2 e7
      have hm := hm.tr hm9
      have hf := xsj hf
      subst hf
      exact ⟨fun a' e => (by have h9 := Sum.inl.inj e; subst h9; exact ⟨hm, hA⟩), fun b e => xnc1 e⟩
  cases y with
  | inl a' =>
    obtain ⟨hm, hA1⟩ := hy.1 a' rfl
    have h1 := hc a' rfl hA1
    exact ⟨hm.tr (h1).1, (h1).2⟩
  | inr b =>
    have h1 := he b rfl
    subst h1
    exact hy.2 _ rfl
theorem n_X12_hold {A : Nat → Prop} {σ : XS} {r0 : Nat} {x1 : Int32} {x : Int32 × XS} (hA : Reg A σ) (hr0 : A r0) (hf : f_X12_hold σ r0 x1 = some x) : Sm A σ x.2 ∧ Reg A x.2 := by
  have hm := Sm.rf (A := A) (σ := σ)
  obtain ⟨v2, e1, hf⟩ := xbd hf
  by_cases q : v2 = 0
  · have hf := xip q hf
    have hf := xsj hf
    subst hf
    exact ⟨hm, hA⟩
  · have hf := xin q hf
    exact ⟨hm.tr (n_X12_hold_l13 (a := ((0 : Int32), σ)) hA hr0 hf).1, (n_X12_hold_l13 (a := ((0 : Int32), σ)) hA hr0 hf).2⟩
theorem n_X12_init_j206 {A : Nat → Prop} {σ : XS} {r0 : Nat} {t0 : Nat} {t1 : Nat} {x : XS} (hA : RegN A σ) (hr0 : A r0) (ht0 : A t0) (ht1 : A t1) (hf : f_X12_init_j206 σ r0 t0 t1 = some x) : Sm A σ x ∧ RegN A x := by
  have hm := Sm.rf (A := A) (σ := σ)
  obtain ⟨_, e1, hf⟩ := xbd hf
  obtain ⟨σ3, e2, hf⟩ := xbd hf
  obtain ⟨hm9, hB⟩ := xpR_reg hA.1 ht0 ht1 e2
  have hA := RegN.step hA hB (xpR_same e2).ext
  have hm := hm.tr hm9
  obtain ⟨z5, e4, hf⟩ := xbd hf
  have hz5 := xgR_reg rfl hA.1 hr0 e4
  obtain ⟨v7, e6, hf⟩ := xbd hf
  obtain ⟨σ9, e8, hf⟩ := xbd hf
  obtain ⟨hm9, hB⟩ := xsL_reg hA.1 hz5 e8
  have hA := RegN.step hA hB (xsL_same e8).ext
  have hm := hm.tr hm9
  obtain ⟨z11, e10, hf⟩ := xbd hf
  have hz11 := xgR_reg rfl hA.1 hr0 e10
  obtain ⟨v13, e12, hf⟩ := xbd hf
  obtain ⟨σ15, e14, hf⟩ := xbd hf
  obtain ⟨hm9, hB⟩ := xsL_reg hA.1 hz11 e14
  have hA := RegN.step hA hB (xsL_same e14).ext
  have hm := hm.tr hm9
  obtain ⟨z17, e16, hf⟩ := xbd hf
  have hz17 := xgR_reg rfl hA.1 hr0 e16
  obtain ⟨v19, e18, hf⟩ := xbd hf
  obtain ⟨σ21, e20, hf⟩ := xbd hf
  obtain ⟨hm9, hB⟩ := xsL_reg hA.1 hz17 e20
  have hA := RegN.step hA hB (xsL_same e20).ext
  have hm := hm.tr hm9
  obtain ⟨z23, e22, hf⟩ := xbd hf
  have hz23 := xgR_reg rfl hA.1 hr0 e22
  obtain ⟨v25, e24, hf⟩ := xbd hf
  obtain ⟨σ27, e26, hf⟩ := xbd hf
  obtain ⟨hm9, hB⟩ := xsL_reg hA.1 hz23 e26
  have hA := RegN.step hA hB (xsL_same e26).ext
  have hm := hm.tr hm9
  obtain ⟨z29, e28, hf⟩ := xbd hf
  have hz29 := xgR_reg rfl hA.1 hr0 e28
  obtain ⟨v31, e30, hf⟩ := xbd hf
  obtain ⟨σ33, e32, hf⟩ := xbd hf
  obtain ⟨hm9, hB⟩ := xsL_reg hA.1 hz29 e32
  have hA := RegN.step hA hB (xsL_same e32).ext
  have hm := hm.tr hm9
  obtain ⟨z35, e34, hf⟩ := xbd hf
  have hz35 := xgR_reg rfl hA.1 hr0 e34
  obtain ⟨v37, e36, hf⟩ := xbd hf
  obtain ⟨σ39, e38, hf⟩ := xbd hf
  obtain ⟨hm9, hB⟩ := xsL_reg hA.1 hz35 e38
  have hA := RegN.step hA hB (xsL_same e38).ext
  have hm := hm.tr hm9
  obtain ⟨z41, e40, hf⟩ := xbd hf
  have hz41 := xgR_reg rfl hA.1 hr0 e40
  obtain ⟨v43, e42, hf⟩ := xbd hf
  obtain ⟨σ45, e44, hf⟩ := xbd hf
  obtain ⟨hm9, hB⟩ := xsL_reg hA.1 hz41 e44
  have hA := RegN.step hA hB (xsL_same e44).ext
  have hm := hm.tr hm9
  obtain ⟨z47, e46, hf⟩ := xbd hf
  have hz47 := xgR_reg rfl hA.1 hr0 e46
  obtain ⟨v49, e48, hf⟩ := xbd hf
  obtain ⟨σ51, e50, hf⟩ := xbd hf
  obtain ⟨hm9, hB⟩ := xsL_reg hA.1 hz47 e50
  have hA := RegN.step hA hB (xsL_same e50).ext
  have hm := hm.tr hm9
  obtain ⟨z53, e52, hf⟩ := xbd hf
  have hz53 := xgR_reg rfl hA.1 hr0 e52
  obtain ⟨v55, e54, hf⟩ := xbd hf
  obtain ⟨σ57, e56, hf⟩ := xbd hf
  obtain ⟨hm9, hB⟩ := xsL_reg hA.1 hz53 e56
  have hA := RegN.step hA hB (xsL_same e56).ext
  have hm := hm.tr hm9
  obtain ⟨z59, e58, hf⟩ := xbd hf
  have hz59 := xgR_reg rfl hA.1 hr0 e58
  obtain ⟨v61, e60, hf⟩ := xbd hf
  obtain ⟨σ63, e62, hf⟩ := xbd hf
  obtain ⟨hm9, hB⟩ := xsL_reg hA.1 hz59 e62
  have hA := RegN.step hA hB (xsL_same e62).ext
  have hm := hm.tr hm9
  obtain ⟨z65, e64, hf⟩ := xbd hf
  have hz65 := xgR_reg rfl hA.1 hr0 e64
  obtain ⟨v67, e66, hf⟩ := xbd hf
  obtain ⟨σ69, e68, hf⟩ := xbd hf
  obtain ⟨hm9, hB⟩ := xsL_reg hA.1 hz65 e68
  have hA := RegN.step hA hB (xsL_same e68).ext
  have hm := hm.tr hm9
  have hf := xsj hf
  subst hf
  exact ⟨hm, hA⟩
theorem n_X12_init_j197 {A : Nat → Prop} {σ : XS} {r0 : Nat} {t0 : Nat} {t1 : Nat} {x : XS} (hA : RegN A σ) (hr0 : A r0) (ht0 : A t0) (ht1 : A t1) (hf : f_X12_init_j197 σ r0 t0 t1 = some x) : Sm A σ x ∧ RegN A x := by
  have hm := Sm.rf (A := A) (σ := σ)
  obtain ⟨_, e1, hf⟩ := xbd hf
  obtain ⟨σ3, e2, hf⟩ := xbd hf
  obtain ⟨hm9, hB⟩ := xpR_reg hA.1 ht0 ht1 e2
  have hA := RegN.step hA hB (xpR_same e2).ext
  have hm := hm.tr hm9
  obtain ⟨⟨z5, σ6⟩, e4, hf⟩ := xbd hf
  dsimp only at hf
  obtain ⟨hm9, hA, hz5⟩ := xnA_reg hA e4
  have hm := hm.tr hm9
  exact ⟨hm.tr (n_X12_init_j206 hA hr0 hr0 hz5 hf).1, (n_X12_init_j206 hA hr0 hr0 hz5 hf).2⟩
theorem n_X12_init_j188 {A : Nat → Prop} {σ : XS} {r0 : Nat} {t0 : Nat} {t1 : Nat} {x : XS} (hA : RegN A σ) (hr0 : A r0) (ht0 : A t0) (ht1 : A t1) (hf : f_X12_init_j188 σ r0 t0 t1 = some x) : Sm A σ x ∧ RegN A x := by
  have hm := Sm.rf (A := A) (σ := σ)
  obtain ⟨_, e1, hf⟩ := xbd hf
  obtain ⟨σ3, e2, hf⟩ := xbd hf
  obtain ⟨hm9, hB⟩ := xpR_reg hA.1 ht0 ht1 e2
  have hA := RegN.step hA hB (xpR_same e2).ext
  have hm := hm.tr hm9
  obtain ⟨⟨z5, σ6⟩, e4, hf⟩ := xbd hf
  dsimp only at hf
  obtain ⟨hm9, hA, hz5⟩ := xnA_reg hA e4
  have hm := hm.tr hm9
  exact ⟨hm.tr (n_X12_init_j197 hA hr0 hr0 hz5 hf).1, (n_X12_init_j197 hA hr0 hr0 hz5 hf).2⟩
theorem n_X12_init_j179 {A : Nat → Prop} {σ : XS} {r0 : Nat} {t0 : Nat} {t1 : Nat} {x : XS} (hA : RegN A σ) (hr0 : A r0) (ht0 : A t0) (ht1 : A t1) (hf : f_X12_init_j179 σ r0 t0 t1 = some x) : Sm A σ x ∧ RegN A x := by
  have hm := Sm.rf (A := A) (σ := σ)
  obtain ⟨_, e1, hf⟩ := xbd hf
  obtain ⟨σ3, e2, hf⟩ := xbd hf
  obtain ⟨hm9, hB⟩ := xpR_reg hA.1 ht0 ht1 e2
  have hA := RegN.step hA hB (xpR_same e2).ext
  have hm := hm.tr hm9
  obtain ⟨⟨z5, σ6⟩, e4, hf⟩ := xbd hf
  dsimp only at hf
  obtain ⟨hm9, hA, hz5⟩ := xnA_reg hA e4
  have hm := hm.tr hm9
  exact ⟨hm.tr (n_X12_init_j188 hA hr0 hr0 hz5 hf).1, (n_X12_init_j188 hA hr0 hr0 hz5 hf).2⟩
theorem n_X12_init_j170 {A : Nat → Prop} {σ : XS} {r0 : Nat} {t0 : Nat} {t1 : Nat} {x : XS} (hA : RegN A σ) (hr0 : A r0) (ht0 : A t0) (ht1 : A t1) (hf : f_X12_init_j170 σ r0 t0 t1 = some x) : Sm A σ x ∧ RegN A x := by
  have hm := Sm.rf (A := A) (σ := σ)
  obtain ⟨_, e1, hf⟩ := xbd hf
  obtain ⟨σ3, e2, hf⟩ := xbd hf
  obtain ⟨hm9, hB⟩ := xpR_reg hA.1 ht0 ht1 e2
  have hA := RegN.step hA hB (xpR_same e2).ext
  have hm := hm.tr hm9
  obtain ⟨⟨z5, σ6⟩, e4, hf⟩ := xbd hf
  dsimp only at hf
  obtain ⟨hm9, hA, hz5⟩ := xnA_reg hA e4
  have hm := hm.tr hm9
  exact ⟨hm.tr (n_X12_init_j179 hA hr0 hr0 hz5 hf).1, (n_X12_init_j179 hA hr0 hr0 hz5 hf).2⟩
theorem n_X12_init_j161 {A : Nat → Prop} {σ : XS} {r0 : Nat} {t0 : Nat} {t1 : Nat} {x : XS} (hA : RegN A σ) (hr0 : A r0) (ht0 : A t0) (ht1 : A t1) (hf : f_X12_init_j161 σ r0 t0 t1 = some x) : Sm A σ x ∧ RegN A x := by
  have hm := Sm.rf (A := A) (σ := σ)
  obtain ⟨_, e1, hf⟩ := xbd hf
  obtain ⟨σ3, e2, hf⟩ := xbd hf
  obtain ⟨hm9, hB⟩ := xpR_reg hA.1 ht0 ht1 e2
  have hA := RegN.step hA hB (xpR_same e2).ext
  have hm := hm.tr hm9
  obtain ⟨⟨z5, σ6⟩, e4, hf⟩ := xbd hf
  dsimp only at hf
  obtain ⟨hm9, hA, hz5⟩ := xnA_reg hA e4
  have hm := hm.tr hm9
  exact ⟨hm.tr (n_X12_init_j170 hA hr0 hr0 hz5 hf).1, (n_X12_init_j170 hA hr0 hr0 hz5 hf).2⟩
theorem n_X12_init_j152 {A : Nat → Prop} {σ : XS} {r0 : Nat} {t0 : Nat} {t1 : Nat} {x : XS} (hA : RegN A σ) (hr0 : A r0) (ht0 : A t0) (ht1 : A t1) (hf : f_X12_init_j152 σ r0 t0 t1 = some x) : Sm A σ x ∧ RegN A x := by
  have hm := Sm.rf (A := A) (σ := σ)
  obtain ⟨_, e1, hf⟩ := xbd hf
  obtain ⟨σ3, e2, hf⟩ := xbd hf
  obtain ⟨hm9, hB⟩ := xpR_reg hA.1 ht0 ht1 e2
  have hA := RegN.step hA hB (xpR_same e2).ext
  have hm := hm.tr hm9
  obtain ⟨⟨z5, σ6⟩, e4, hf⟩ := xbd hf
  dsimp only at hf
  obtain ⟨hm9, hA, hz5⟩ := xnA_reg hA e4
  have hm := hm.tr hm9
  exact ⟨hm.tr (n_X12_init_j161 hA hr0 hr0 hz5 hf).1, (n_X12_init_j161 hA hr0 hr0 hz5 hf).2⟩
theorem n_X12_init_j143 {A : Nat → Prop} {σ : XS} {r0 : Nat} {t0 : Nat} {t1 : Nat} {x : XS} (hA : RegN A σ) (hr0 : A r0) (ht0 : A t0) (ht1 : A t1) (hf : f_X12_init_j143 σ r0 t0 t1 = some x) : Sm A σ x ∧ RegN A x := by
  have hm := Sm.rf (A := A) (σ := σ)
  obtain ⟨_, e1, hf⟩ := xbd hf
  obtain ⟨σ3, e2, hf⟩ := xbd hf
  obtain ⟨hm9, hB⟩ := xpR_reg hA.1 ht0 ht1 e2
  have hA := RegN.step hA hB (xpR_same e2).ext
  have hm := hm.tr hm9
  obtain ⟨⟨z5, σ6⟩, e4, hf⟩ := xbd hf
  dsimp only at hf
  obtain ⟨hm9, hA, hz5⟩ := xnA_reg hA e4
  have hm := hm.tr hm9
  exact ⟨hm.tr (n_X12_init_j152 hA hr0 hr0 hz5 hf).1, (n_X12_init_j152 hA hr0 hr0 hz5 hf).2⟩
theorem n_X12_init_j135 {A : Nat → Prop} {σ : XS} {r0 : Nat} {t0 : Nat} {t1 : Nat} {x : XS} (hA : RegN A σ) (hr0 : A r0) (ht0 : A t0) (ht1 : A t1) (hf : f_X12_init_j135 σ r0 t0 t1 = some x) : Sm A σ x ∧ RegN A x := by
  have hm := Sm.rf (A := A) (σ := σ)
  obtain ⟨_, e1, hf⟩ := xbd hf
  obtain ⟨σ3, e2, hf⟩ := xbd hf
  obtain ⟨hm9, hB⟩ := xpR_reg hA.1 ht0 ht1 e2
  have hA := RegN.step hA hB (xpR_same e2).ext
  have hm := hm.tr hm9
  obtain ⟨⟨z5, σ6⟩, e4, hf⟩ := xbd hf
  dsimp only at hf
  obtain ⟨hm9, hA, hz5⟩ := xnA_reg hA e4
  have hm := hm.tr hm9
  exact ⟨hm.tr (n_X12_init_j143 hA hr0 hr0 hz5 hf).1, (n_X12_init_j143 hA hr0 hr0 hz5 hf).2⟩
theorem n_X12_init_j126 {A : Nat → Prop} {σ : XS} {r0 : Nat} {t0 : Nat} {t1 : Nat} {x : XS} (hA : RegN A σ) (hr0 : A r0) (ht0 : A t0) (ht1 : A t1) (hf : f_X12_init_j126 σ r0 t0 t1 = some x) : Sm A σ x ∧ RegN A x := by
  have hm := Sm.rf (A := A) (σ := σ)
  obtain ⟨_, e1, hf⟩ := xbd hf
  obtain ⟨σ3, e2, hf⟩ := xbd hf
  obtain ⟨hm9, hB⟩ := xpR_reg hA.1 ht0 ht1 e2
  have hA := RegN.step hA hB (xpR_same e2).ext
  have hm := hm.tr hm9
  obtain ⟨⟨z5, σ6⟩, e4, hf⟩ := xbd hf
  dsimp only at hf
  obtain ⟨hm9, hA, hz5⟩ := xnA_reg hA e4
  have hm := hm.tr hm9
  exact ⟨hm.tr (n_X12_init_j135 hA hr0 hr0 hz5 hf).1, (n_X12_init_j135 hA hr0 hr0 hz5 hf).2⟩
theorem n_X12_init_j117 {A : Nat → Prop} {σ : XS} {r0 : Nat} {t0 : Nat} {t1 : Nat} {x : XS} (hA : RegN A σ) (hr0 : A r0) (ht0 : A t0) (ht1 : A t1) (hf : f_X12_init_j117 σ r0 t0 t1 = some x) : Sm A σ x ∧ RegN A x := by
  have hm := Sm.rf (A := A) (σ := σ)
  obtain ⟨_, e1, hf⟩ := xbd hf
  obtain ⟨σ3, e2, hf⟩ := xbd hf
  obtain ⟨hm9, hB⟩ := xpR_reg hA.1 ht0 ht1 e2
  have hA := RegN.step hA hB (xpR_same e2).ext
  have hm := hm.tr hm9
  obtain ⟨⟨z5, σ6⟩, e4, hf⟩ := xbd hf
  dsimp only at hf
  obtain ⟨hm9, hA, hz5⟩ := xnA_reg hA e4
  have hm := hm.tr hm9
  exact ⟨hm.tr (n_X12_init_j126 hA hr0 hr0 hz5 hf).1, (n_X12_init_j126 hA hr0 hr0 hz5 hf).2⟩
theorem n_X12_init_j109 {A : Nat → Prop} {σ : XS} {r0 : Nat} {t0 : Nat} {t1 : Nat} {x : XS} (hA : RegN A σ) (hr0 : A r0) (ht0 : A t0) (ht1 : A t1) (hf : f_X12_init_j109 σ r0 t0 t1 = some x) : Sm A σ x ∧ RegN A x := by
  have hm := Sm.rf (A := A) (σ := σ)
  obtain ⟨_, e1, hf⟩ := xbd hf
  obtain ⟨σ3, e2, hf⟩ := xbd hf
  obtain ⟨hm9, hB⟩ := xpR_reg hA.1 ht0 ht1 e2
  have hA := RegN.step hA hB (xpR_same e2).ext
  have hm := hm.tr hm9
  obtain ⟨⟨z5, σ6⟩, e4, hf⟩ := xbd hf
  dsimp only at hf
  obtain ⟨hm9, hA, hz5⟩ := xnA_reg hA e4
  have hm := hm.tr hm9
  exact ⟨hm.tr (n_X12_init_j117 hA hr0 hr0 hz5 hf).1, (n_X12_init_j117 hA hr0 hr0 hz5 hf).2⟩
theorem n_X12_init_j102 {A : Nat → Prop} {σ : XS} {r0 : Nat} {t0 : Nat} {t1 : Nat} {x : XS} (hA : RegN A σ) (hr0 : A r0) (ht0 : A t0) (ht1 : A t1) (hf : f_X12_init_j102 σ r0 t0 t1 = some x) : Sm A σ x ∧ RegN A x := by
  have hm := Sm.rf (A := A) (σ := σ)
  obtain ⟨_, e1, hf⟩ := xbd hf
  obtain ⟨σ3, e2, hf⟩ := xbd hf
  obtain ⟨hm9, hB⟩ := xpR_reg hA.1 ht0 ht1 e2
  have hA := RegN.step hA hB (xpR_same e2).ext
  have hm := hm.tr hm9
  obtain ⟨⟨z5, σ6⟩, e4, hf⟩ := xbd hf
  dsimp only at hf
  obtain ⟨hm9, hA, hz5⟩ := xnA_reg hA e4
  have hm := hm.tr hm9
  exact ⟨hm.tr (n_X12_init_j109 hA hr0 hr0 hz5 hf).1, (n_X12_init_j109 hA hr0 hr0 hz5 hf).2⟩
theorem n_X12_init_j93 {A : Nat → Prop} {σ : XS} {r0 : Nat} {t0 : Nat} {t1 : Nat} {x : XS} (hA : RegN A σ) (hr0 : A r0) (ht0 : A t0) (ht1 : A t1) (hf : f_X12_init_j93 σ r0 t0 t1 = some x) : Sm A σ x ∧ RegN A x := by
  have hm := Sm.rf (A := A) (σ := σ)
  obtain ⟨_, e1, hf⟩ := xbd hf
  obtain ⟨σ3, e2, hf⟩ := xbd hf
  obtain ⟨hm9, hB⟩ := xpR_reg hA.1 ht0 ht1 e2
  have hA := RegN.step hA hB (xpR_same e2).ext
  have hm := hm.tr hm9
  obtain ⟨⟨z5, σ6⟩, e4, hf⟩ := xbd hf
  dsimp only at hf
  obtain ⟨hm9, hA, hz5⟩ := xnA_reg hA e4
  have hm := hm.tr hm9
  exact ⟨hm.tr (n_X12_init_j102 hA hr0 hr0 hz5 hf).1, (n_X12_init_j102 hA hr0 hr0 hz5 hf).2⟩
theorem n_X12_init_j84 {A : Nat → Prop} {σ : XS} {r0 : Nat} {t0 : Nat} {t1 : Nat} {x : XS} (hA : RegN A σ) (hr0 : A r0) (ht0 : A t0) (ht1 : A t1) (hf : f_X12_init_j84 σ r0 t0 t1 = some x) : Sm A σ x ∧ RegN A x := by
  have hm := Sm.rf (A := A) (σ := σ)
  obtain ⟨_, e1, hf⟩ := xbd hf
  obtain ⟨σ3, e2, hf⟩ := xbd hf
  obtain ⟨hm9, hB⟩ := xpR_reg hA.1 ht0 ht1 e2
  have hA := RegN.step hA hB (xpR_same e2).ext
  have hm := hm.tr hm9
  obtain ⟨⟨z5, σ6⟩, e4, hf⟩ := xbd hf
  dsimp only at hf
  obtain ⟨hm9, hA, hz5⟩ := xnA_reg hA e4
  have hm := hm.tr hm9
  exact ⟨hm.tr (n_X12_init_j93 hA hr0 hr0 hz5 hf).1, (n_X12_init_j93 hA hr0 hr0 hz5 hf).2⟩
theorem n_X12_init_j76 {A : Nat → Prop} {σ : XS} {r0 : Nat} {t0 : Nat} {t1 : Nat} {x : XS} (hA : RegN A σ) (hr0 : A r0) (ht0 : A t0) (ht1 : A t1) (hf : f_X12_init_j76 σ r0 t0 t1 = some x) : Sm A σ x ∧ RegN A x := by
  have hm := Sm.rf (A := A) (σ := σ)
  obtain ⟨_, e1, hf⟩ := xbd hf
  obtain ⟨σ3, e2, hf⟩ := xbd hf
  obtain ⟨hm9, hB⟩ := xpR_reg hA.1 ht0 ht1 e2
  have hA := RegN.step hA hB (xpR_same e2).ext
  have hm := hm.tr hm9
  obtain ⟨⟨z5, σ6⟩, e4, hf⟩ := xbd hf
  dsimp only at hf
  obtain ⟨hm9, hA, hz5⟩ := xnA_reg hA e4
  have hm := hm.tr hm9
  exact ⟨hm.tr (n_X12_init_j84 hA hr0 hr0 hz5 hf).1, (n_X12_init_j84 hA hr0 hr0 hz5 hf).2⟩
theorem n_X12_init_j63 {A : Nat → Prop} {σ : XS} {r0 : Nat} {t0 : Nat} {t1 : Nat} {x : XS} (hA : RegN A σ) (hr0 : A r0) (ht0 : A t0) (ht1 : A t1) (hf : f_X12_init_j63 σ r0 t0 t1 = some x) : Sm A σ x ∧ RegN A x := by
  have hm := Sm.rf (A := A) (σ := σ)
  obtain ⟨_, e1, hf⟩ := xbd hf
  obtain ⟨σ3, e2, hf⟩ := xbd hf
  obtain ⟨hm9, hB⟩ := xpR_reg hA.1 ht0 ht1 e2
  have hA := RegN.step hA hB (xpR_same e2).ext
  have hm := hm.tr hm9
  obtain ⟨σ5, e4, hf⟩ := xbd hf
  obtain ⟨hm9, hB⟩ := xpI_reg hA.1 hr0 e4
  have hA := RegN.step hA hB (xpI_same e4).ext
  have hm := hm.tr hm9
  obtain ⟨⟨z7, σ8⟩, e6, hf⟩ := xbd hf
  dsimp only at hf
  obtain ⟨hm9, hA, hz7⟩ := xnA_reg hA e6
  have hm := hm.tr hm9
  exact ⟨hm.tr (n_X12_init_j76 hA hr0 hr0 hz7 hf).1, (n_X12_init_j76 hA hr0 hr0 hz7 hf).2⟩
theorem n_X12_init_j55 {A : Nat → Prop} {σ : XS} {r0 : Nat} {t0 : Nat} {t1 : Nat} {x : XS} (hA : RegN A σ) (hr0 : A r0) (ht0 : A t0) (ht1 : A t1) (hf : f_X12_init_j55 σ r0 t0 t1 = some x) : Sm A σ x ∧ RegN A x := by
  have hm := Sm.rf (A := A) (σ := σ)
  obtain ⟨_, e1, hf⟩ := xbd hf
  obtain ⟨σ3, e2, hf⟩ := xbd hf
  obtain ⟨hm9, hB⟩ := xpR_reg hA.1 ht0 ht1 e2
  have hA := RegN.step hA hB (xpR_same e2).ext
  have hm := hm.tr hm9
  obtain ⟨⟨z5, σ6⟩, e4, hf⟩ := xbd hf
  dsimp only at hf
  obtain ⟨hm9, hA, hz5⟩ := xnA_reg hA e4
  have hm := hm.tr hm9
  exact ⟨hm.tr (n_X12_init_j63 hA hr0 hr0 hz5 hf).1, (n_X12_init_j63 hA hr0 hr0 hz5 hf).2⟩
theorem n_X12_init_j46 {A : Nat → Prop} {σ : XS} {r0 : Nat} {t0 : Nat} {t1 : Nat} {x : XS} (hA : RegN A σ) (hr0 : A r0) (ht0 : A t0) (ht1 : A t1) (hf : f_X12_init_j46 σ r0 t0 t1 = some x) : Sm A σ x ∧ RegN A x := by
  have hm := Sm.rf (A := A) (σ := σ)
  obtain ⟨_, e1, hf⟩ := xbd hf
  obtain ⟨σ3, e2, hf⟩ := xbd hf
  obtain ⟨hm9, hB⟩ := xpR_reg hA.1 ht0 ht1 e2
  have hA := RegN.step hA hB (xpR_same e2).ext
  have hm := hm.tr hm9
  obtain ⟨⟨z5, σ6⟩, e4, hf⟩ := xbd hf
  dsimp only at hf
  obtain ⟨hm9, hA, hz5⟩ := xnA_reg hA e4
  have hm := hm.tr hm9
  exact ⟨hm.tr (n_X12_init_j55 hA hr0 hr0 hz5 hf).1, (n_X12_init_j55 hA hr0 hr0 hz5 hf).2⟩
theorem n_X12_init_j37 {A : Nat → Prop} {σ : XS} {r0 : Nat} {t0 : Nat} {t1 : Nat} {x : XS} (hA : RegN A σ) (hr0 : A r0) (ht0 : A t0) (ht1 : A t1) (hf : f_X12_init_j37 σ r0 t0 t1 = some x) : Sm A σ x ∧ RegN A x := by
  have hm := Sm.rf (A := A) (σ := σ)
  obtain ⟨_, e1, hf⟩ := xbd hf
  obtain ⟨σ3, e2, hf⟩ := xbd hf
  obtain ⟨hm9, hB⟩ := xpR_reg hA.1 ht0 ht1 e2
  have hA := RegN.step hA hB (xpR_same e2).ext
  have hm := hm.tr hm9
  obtain ⟨⟨z5, σ6⟩, e4, hf⟩ := xbd hf
  dsimp only at hf
  obtain ⟨hm9, hA, hz5⟩ := xnA_reg hA e4
  have hm := hm.tr hm9
  exact ⟨hm.tr (n_X12_init_j46 hA hr0 hr0 hz5 hf).1, (n_X12_init_j46 hA hr0 hr0 hz5 hf).2⟩
theorem n_X12_init_j28 {A : Nat → Prop} {σ : XS} {r0 : Nat} {t0 : Nat} {t1 : Nat} {x : XS} (hA : RegN A σ) (hr0 : A r0) (ht0 : A t0) (ht1 : A t1) (hf : f_X12_init_j28 σ r0 t0 t1 = some x) : Sm A σ x ∧ RegN A x := by
  have hm := Sm.rf (A := A) (σ := σ)
  obtain ⟨_, e1, hf⟩ := xbd hf
  obtain ⟨σ3, e2, hf⟩ := xbd hf
  obtain ⟨hm9, hB⟩ := xpR_reg hA.1 ht0 ht1 e2
  have hA := RegN.step hA hB (xpR_same e2).ext
  have hm := hm.tr hm9
  obtain ⟨⟨z5, σ6⟩, e4, hf⟩ := xbd hf
  dsimp only at hf
  obtain ⟨hm9, hA, hz5⟩ := xnA_reg hA e4
  have hm := hm.tr hm9
  exact ⟨hm.tr (n_X12_init_j37 hA hr0 hr0 hz5 hf).1, (n_X12_init_j37 hA hr0 hr0 hz5 hf).2⟩
theorem n_X12_init_j19 {A : Nat → Prop} {σ : XS} {r0 : Nat} {t0 : Nat} {t1 : Nat} {x : XS} (hA : RegN A σ) (hr0 : A r0) (ht0 : A t0) (ht1 : A t1) (hf : f_X12_init_j19 σ r0 t0 t1 = some x) : Sm A σ x ∧ RegN A x := by
  have hm := Sm.rf (A := A) (σ := σ)
  obtain ⟨_, e1, hf⟩ := xbd hf
  obtain ⟨σ3, e2, hf⟩ := xbd hf
  obtain ⟨hm9, hB⟩ := xpR_reg hA.1 ht0 ht1 e2
  have hA := RegN.step hA hB (xpR_same e2).ext
  have hm := hm.tr hm9
  obtain ⟨⟨z5, σ6⟩, e4, hf⟩ := xbd hf
  dsimp only at hf
  obtain ⟨hm9, hA, hz5⟩ := xnA_reg hA e4
  have hm := hm.tr hm9
  exact ⟨hm.tr (n_X12_init_j28 hA hr0 hr0 hz5 hf).1, (n_X12_init_j28 hA hr0 hr0 hz5 hf).2⟩
theorem n_X12_init_j10 {A : Nat → Prop} {σ : XS} {r0 : Nat} {t0 : Nat} {t1 : Nat} {x : XS} (hA : RegN A σ) (hr0 : A r0) (ht0 : A t0) (ht1 : A t1) (hf : f_X12_init_j10 σ r0 t0 t1 = some x) : Sm A σ x ∧ RegN A x := by
  have hm := Sm.rf (A := A) (σ := σ)
  obtain ⟨_, e1, hf⟩ := xbd hf
  obtain ⟨σ3, e2, hf⟩ := xbd hf
  obtain ⟨hm9, hB⟩ := xpR_reg hA.1 ht0 ht1 e2
  have hA := RegN.step hA hB (xpR_same e2).ext
  have hm := hm.tr hm9
  obtain ⟨⟨z5, σ6⟩, e4, hf⟩ := xbd hf
  dsimp only at hf
  obtain ⟨hm9, hA, hz5⟩ := xnA_reg hA e4
  have hm := hm.tr hm9
  exact ⟨hm.tr (n_X12_init_j19 hA hr0 hr0 hz5 hf).1, (n_X12_init_j19 hA hr0 hr0 hz5 hf).2⟩
theorem n_X12_init {A : Nat → Prop} {σ : XS} {r0 : Nat} {x : XS} (hA : RegN A σ) (hr0 : A r0) (hf : f_X12_init σ r0 = some x) : Sm A σ x ∧ RegN A x := by
  have hm := Sm.rf (A := A) (σ := σ)
  obtain ⟨⟨z2, σ3⟩, e1, hf⟩ := xbd hf
  dsimp only at hf
  obtain ⟨hm9, hA, hz2⟩ := xnA_reg hA e1
  have hm := hm.tr hm9
  exact ⟨hm.tr (n_X12_init_j10 hA hr0 hr0 hz2 hf).1, (n_X12_init_j10 hA hr0 hr0 hz2 hf).2⟩
theorem n_X12_wrong_j46 {A : Nat → Prop} {σ : XS} {r0 : Nat} {x1 : Int32} {x3 : Int32} {x : XS} (hA : Reg A σ) (hr0 : A r0) (hf : f_X12_wrong_j46 σ r0 x1 x3 = some x) : Sm A σ x ∧ Reg A x := by
  have hm := Sm.rf (A := A) (σ := σ)
  obtain ⟨σ2, e1, hf⟩ := xbd hf
  obtain ⟨hm9, hA⟩ := xpI_reg hA hr0 e1
  have hm := hm.tr hm9
  obtain ⟨σ4, e3, hf⟩ := xbd hf
  obtain ⟨hm9, hA⟩ := xpI_reg hA hr0 e3
  have hm := hm.tr hm9
  have hf := xsj hf
  subst hf
  exact ⟨hm, hA⟩
theorem n_X12_wrong {A : Nat → Prop} {σ : XS} {r0 : Nat} {x1 : Int32} {x2 : Int32} {x : XS} (hA : Reg A σ) (hr0 : A r0) (hf : f_X12_wrong σ r0 x1 x2 = some x) : Sm A σ x ∧ Reg A x := by
  have hm := Sm.rf (A := A) (σ := σ)
  obtain ⟨z2, e1, hf⟩ := xbd hf
  obtain ⟨v4, e3, hf⟩ := xbd hf
  obtain ⟨v6, e5, hf⟩ := xbd hf
  by_cases q : 0 < v6
  · have hf := xip q hf
    have hf := xsj hf
    subst hf
    exact ⟨hm, hA⟩
  · have hf := xin q hf
    obtain ⟨v8, e7, hf⟩ := xbd hf
    by_cases q : v8 = 0
    · have hf := xip q hf
      exact ⟨hm.tr (n_X12_wrong_j46 hA hr0 hf).1, (n_X12_wrong_j46 hA hr0 hf).2⟩
    · have hf := xin q hf
      obtain ⟨v10, e9, hf⟩ := xbd hf
      by_cases q : v10 < v4
      · have hf := xip q hf
        have hf := xsj hf
        subst hf
        exact ⟨hm, hA⟩
      · have hf := xin q hf
        obtain ⟨v12, e11, hf⟩ := xbd hf
        by_cases q : v4 = v12
        · have hf := xip q hf
          obtain ⟨v14, e13, hf⟩ := xbd hf
          by_cases q : x1 < v14
          · have hf := xip q hf
            exact ⟨hm.tr (n_X12_wrong_j46 hA hr0 hf).1, (n_X12_wrong_j46 hA hr0 hf).2⟩
          · have hf := xin q hf
            have hf := xsj hf
            subst hf
            exact ⟨hm, hA⟩
        · have hf := xin q hf
          exact ⟨hm.tr (n_X12_wrong_j46 hA hr0 hf).1, (n_X12_wrong_j46 hA hr0 hf).2⟩
theorem n_X12_jAt_j34 {A : Nat → Prop} {σ : XS} {r0 : Nat} {x1 : Int32} {x2 : Int32} {x : Int32 × XS} (hA : Reg A σ) (hf : f_X12_jAt_j34 σ r0 x1 x2 = some x) : Sm A σ x.2 ∧ Reg A x.2 := by
  have hm := Sm.rf (A := A) (σ := σ)
  obtain ⟨z2, e1, hf⟩ := xbd hf
  obtain ⟨v4, e3, hf⟩ := xbd hf
  by_cases q : v4 = (5 : Int32)
  · have hf := xip q hf
    obtain ⟨z6, e5, hf⟩ := xbd hf
    obtain ⟨v8, e7, hf⟩ := xbd hf
    have hf := xsj hf
    subst hf
    exact ⟨hm, hA⟩
  · have hf := xin q hf
    obtain ⟨z6, e5, hf⟩ := xbd hf
    obtain ⟨v8, e7, hf⟩ := xbd hf
    have hf := xsj hf
    subst hf
    exact ⟨hm, hA⟩
theorem n_X12_jAt_j17 {A : Nat → Prop} {σ : XS} {r0 : Nat} {x1 : Int32} {t0 : Int32} {x : Int32 × XS} (hA : Reg A σ) (hr0 : A r0) (hf : f_X12_jAt_j17 σ r0 x1 t0 = some x) : Sm A σ x.2 ∧ Reg A x.2 := by
  have hm := Sm.rf (A := A) (σ := σ)
  obtain ⟨z2, e1, hf⟩ := xbd hf
  obtain ⟨v4, e3, hf⟩ := xbd hf
  by_cases q : v4 ≤ (3 : Int32)
  · have hf := xip q hf
    exact ⟨hm.tr (n_X12_jAt_j34 hA hf).1, (n_X12_jAt_j34 hA hf).2⟩
  · have hf := xin q hf
    obtain ⟨_, e5, hf⟩ := xbd hf
    obtain ⟨σ7, e6, hf⟩ := xbd hf
    obtain ⟨hm9, hA⟩ := n_X12_wrong hA hr0 e6
    have hm := hm.tr hm9
    exact ⟨hm.tr (n_X12_jAt_j34 hA hf).1, (n_X12_jAt_j34 hA hf).2⟩
theorem n_X12_jAt {A : Nat → Prop} {σ : XS} {r0 : Nat} {x1 : Int32} {x : Int32 × XS} (hA : Reg A σ) (hr0 : A r0) (hf : f_X12_jAt σ r0 x1 = some x) : Sm A σ x.2 ∧ Reg A x.2 := by
  have hm := Sm.rf (A := A) (σ := σ)
  obtain ⟨z2, e1, hf⟩ := xbd hf
  obtain ⟨v4, e3, hf⟩ := xbd hf
  by_cases q : v4 = (5 : Int32)
  · have hf := xip q hf
    exact ⟨hm.tr (n_X12_jAt_j17 hA hr0 hf).1, (n_X12_jAt_j17 hA hr0 hf).2⟩
  · have hf := xin q hf
    exact ⟨hm.tr (n_X12_jAt_j17 hA hr0 hf).1, (n_X12_jAt_j17 hA hr0 hf).2⟩
theorem n_X12_laysMany_l21 {A : Nat → Prop} {r0 : Nat} {r1 : Nat} {r2 : Nat} {a : Int32 × XS} {x : XS} (hA : Reg A a.2) (hr2 : A r2) (hf : xloop (f_X12_laysMany_b21 r0 r1 r2) a = some x) : Sm A a.2 x ∧ Reg A x := by
  revert hA
  refine xloop_ind (P := fun a => Reg A a.2 → Sm A a.2 x ∧ Reg A x) (fun a y hf hc he => ?_) hf
  obtain ⟨x3, σ⟩ := a
  intro hA
  have hA0 : Reg A σ := hA
  have hy : (∀ a' : Int32 × XS, y = .inl a' → Sm A σ a'.2 ∧ Reg A a'.2) ∧ (∀ b1 : XS, y = .inr b1 → Sm A σ b1 ∧ Reg A b1) := by
    have hm := Sm.rf (A := A) (σ := σ)
    obtain ⟨_, e1, hf⟩ := xbd hf
    obtain ⟨v3, e2, hf⟩ := xbd hf
    by_cases q : v3 ≤ x3
    · have hf := xip q hf
      obtain ⟨b0, hg, e9⟩ := xmj hf
      subst e9
      have hf := hg
      refine ⟨fun a' e => xnc2 e, fun b e => ?_⟩
      have h9 := Sum.inr.inj e
      subst h9
      have hf := xsj hf
      subst hf
      exact ⟨hm, hA⟩
    · have hf := xin q hf
      obtain ⟨_, e4, hf⟩ := xbd hf
      obtain ⟨v6, e5, hf⟩ := xbd hf
      obtain ⟨v8, e7, hf⟩ := xbd hf
      by_cases q : v8 = 0
      · have hf := xip q hf
        have hf := xsj hf
        subst hf
        exact ⟨fun a' e => (by have h9 := Sum.inl.inj e; subst h9; exact ⟨hm, hA⟩), fun b e => xnc1 e⟩
      · have hf := xin q hf
        obtain ⟨v10, e9, hf⟩ := xbd hf
        obtain ⟨_, e11, hf⟩ := xbd hf
        obtain ⟨v13, e12, hf⟩ := xbd hf
        obtain ⟨v15, e14, hf⟩ := xbd hf
        obtain ⟨σ17, e16, hf⟩ := xbd hf
        obtain ⟨hm9, hA⟩ := xsI_reg hA hr2 e16
        have hm := hm.tr hm9
        have hf := xsj hf
        subst hf
        exact ⟨fun a' e => (by have h9 := Sum.inl.inj e; subst h9; exact ⟨hm, hA⟩), fun b e => xnc1 e⟩
  cases y with
  | inl a' =>
    obtain ⟨hm, hA1⟩ := hy.1 a' rfl
    have h1 := hc a' rfl hA1
    exact ⟨hm.tr (h1).1, (h1).2⟩
  | inr b =>
    have h1 := he b rfl
    subst h1
    exact hy.2 _ rfl
theorem n_X12_laysMany_l2 {A : Nat → Prop} {r0 : Nat} {r1 : Nat} {r2 : Nat} {a : Int32 × XS} {x : XS} (hA : Reg A a.2) (hr2 : A r2) (hf : xloop (f_X12_laysMany_b2 r0 r1 r2) a = some x) : Sm A a.2 x ∧ Reg A x := by
  revert hA
  refine xloop_ind (P := fun a => Reg A a.2 → Sm A a.2 x ∧ Reg A x) (fun a y hf hc he => ?_) hf
  obtain ⟨x3, σ⟩ := a
  intro hA
  have hA0 : Reg A σ := hA
  have hy : (∀ a' : Int32 × XS, y = .inl a' → Sm A σ a'.2 ∧ Reg A a'.2) ∧ (∀ b1 : XS, y = .inr b1 → Sm A σ b1 ∧ Reg A b1) := by
    have hm := Sm.rf (A := A) (σ := σ)
    by_cases q : (301 : Int32) ≤ x3
    · have hf := xip q hf
      obtain ⟨b0, hg, e9⟩ := xmj hf
      subst e9
      have hf := hg
      refine ⟨fun a' e => xnc2 e, fun b e => ?_⟩
      have h9 := Sum.inr.inj e
      subst h9
      exact ⟨hm.tr (n_X12_laysMany_l21 (a := ((0 : Int32), σ)) hA hr2 hf).1, (n_X12_laysMany_l21 (a := ((0 : Int32), σ)) hA hr2 hf).2⟩
    · have hf := xin q hf
      obtain ⟨σ2, e1, hf⟩ := xbd hf
      obtain ⟨hm9, hA⟩ := xsI_reg hA hr2 e1
      have hm := hm.tr hm9
      have hf := xsj hf
      subst hf
      exact ⟨fun a' e => (by have h9 := Sum.inl.inj e; subst h9; exact ⟨hm, hA⟩), fun b e => xnc1 e⟩
  cases y with
  | inl a' =>
    obtain ⟨hm, hA1⟩ := hy.1 a' rfl
    have h1 := hc a' rfl hA1
    exact ⟨hm.tr (h1).1, (h1).2⟩
  | inr b =>
    have h1 := he b rfl
    subst h1
    exact hy.2 _ rfl
theorem n_X12_laysMany {A : Nat → Prop} {σ : XS} {r0 : Nat} {r1 : Nat} {r2 : Nat} {x : XS} (hA : Reg A σ) (hr2 : A r2) (hf : f_X12_laysMany σ r0 r1 r2 = some x) : Sm A σ x ∧ Reg A x := by
  have hm := Sm.rf (A := A) (σ := σ)
  exact ⟨hm.tr (n_X12_laysMany_l2 (a := ((0 : Int32), σ)) hA hr2 hf).1, (n_X12_laysMany_l2 (a := ((0 : Int32), σ)) hA hr2 hf).2⟩
theorem n_X12_joined_l178 {A : Nat → Prop} {σ : XS} {r0 : Nat} {x2 : Int32} {x3 : Int32} {a : Int32 × Int32} {x : Int64 × XS} (hA : Reg A σ) (hf : xloop (f_X12_joined_b178 σ r0 x2 x3) a = some x) : Sm A σ x.2 ∧ Reg A x.2 := by
  revert hA
  refine xloop_ind (P := fun a => Reg A σ → Sm A σ x.2 ∧ Reg A x.2) (fun a y hf hc he => ?_) hf
  obtain ⟨x4, x5⟩ := a
  intro hA
  have hA0 : Reg A σ := hA
  have hy : (∀ a' : Int32 × Int32, y = .inl a' → True) ∧ (∀ b1 : Int64 × XS, y = .inr b1 → Sm A σ b1.2 ∧ Reg A b1.2) := by
    have hm := Sm.rf (A := A) (σ := σ)
    by_cases q : (601 : Int32) ≤ x5
    · have hf := xip q hf
      obtain ⟨b0, hg, e9⟩ := xmj hf
      subst e9
      have hf := hg
      refine ⟨fun a' e => xnc2 e, fun b e => ?_⟩
      have h9 := Sum.inr.inj e
      subst h9
      by_cases q : x2 = (-1 : Int32)
      · have hf := xip q hf
        have hf := xsj hf
        subst hf
        exact ⟨hm, hA⟩
      · have hf := xin q hf
        have hf := xsj hf
        subst hf
        exact ⟨hm, hA⟩
    · have hf := xin q hf
      obtain ⟨z2, e1, hf⟩ := xbd hf
      obtain ⟨v4, e3, hf⟩ := xbd hf
      by_cases q : (lg_cmp v4 (0 : Int64)) = 0
      · have hf := xip q hf
        have hf := xsj hf
        subst hf
        exact ⟨fun a' e => (by have h9 := Sum.inl.inj e; subst h9; exact trivial), fun b e => xnc1 e⟩
      · have hf := xin q hf
        by_cases q : x4 = x2
        · have hf := xip q hf
          obtain ⟨b0, hg, e9⟩ := xmj hf
          subst e9
          have hf := hg
          refine ⟨fun a' e => xnc2 e, fun b e => ?_⟩
          have h9 := Sum.inr.inj e
          subst h9
          by_cases q : x3 = 0
          · have hf := xip q hf
            have hf := xsj hf
            subst hf
            exact ⟨hm, hA⟩
          · have hf := xin q hf
            by_cases q : x3 = (1 : Int32)
            · have hf := xip q hf
              obtain ⟨z6, e5, hf⟩ := xbd hf
              obtain ⟨v8, e7, hf⟩ := xbd hf
              have hf := xsj hf
              subst hf
              exact ⟨hm, hA⟩
            · have hf := xin q hf
              have hf := xsj hf
              subst hf
              exact ⟨hm, hA⟩
        · have hf := xin q hf
          have hf := xsj hf
          subst hf
          exact ⟨fun a' e => (by have h9 := Sum.inl.inj e; subst h9; exact trivial), fun b e => xnc1 e⟩
  cases y with
  | inl a' =>
    exact hc a' rfl hA0
  | inr b =>
    have h1 := he b rfl
    subst h1
    exact hy.2 _ rfl
theorem n_X12_joined_l112 {A : Nat → Prop} {r0 : Nat} {x2 : Int32} {x3 : Int32} {x4 : Int32} {a : Int32 × XS} {x : ((Int32 × XS) ⊕ (Int64 × XS))} (hA : Reg A a.2) (hr0 : A r0) (hf : xloop (f_X12_joined_b112 r0 x2 x3 x4) a = some x) : (∀ a' : Int32 × XS, x = .inl a' → Sm A a.2 a'.2 ∧ Reg A a'.2) ∧ (∀ b1 : Int64 × XS, x = .inr b1 → Sm A a.2 b1.2 ∧ Reg A b1.2) := by
  revert hA
  refine xloop_ind (P := fun a => Reg A a.2 → (∀ a' : Int32 × XS, x = .inl a' → Sm A a.2 a'.2 ∧ Reg A a'.2) ∧ (∀ b1 : Int64 × XS, x = .inr b1 → Sm A a.2 b1.2 ∧ Reg A b1.2)) (fun a y hf hc he => ?_) hf
  obtain ⟨x5, σ⟩ := a
  intro hA
  have hA0 : Reg A σ := hA
  have hy : (∀ a' : Int32 × XS, y = .inl a' → Sm A σ a'.2 ∧ Reg A a'.2) ∧ (∀ b2 : ((Int32 × XS) ⊕ (Int64 × XS)), y = .inr b2 → (∀ a' : Int32 × XS, b2 = .inl a' → Sm A σ a'.2 ∧ Reg A a'.2) ∧ (∀ b1 : Int64 × XS, b2 = .inr b1 → Sm A σ b1.2 ∧ Reg A b1.2)) := by
    have hm := Sm.rf (A := A) (σ := σ)
    by_cases q : (301 : Int32) ≤ x5
    · have hf := xip q hf
      obtain ⟨b0, hg, e9⟩ := xmj hf
      subst e9
      have hf := hg
      refine ⟨fun a' e => xnc2 e, fun b e => ?_⟩
      have h9 := Sum.inr.inj e
      subst h9
      have hf := xsj hf
      subst hf
      exact ⟨fun a' e => (by have h9 := Sum.inl.inj e; subst h9; exact ⟨hm, hA⟩), fun b e => xnc1 e⟩
    · have hf := xin q hf
      obtain ⟨z2, e1, hf⟩ := xbd hf
      obtain ⟨v4, e3, hf⟩ := xbd hf
      by_cases q : v4 ≤ 0
      · have hf := xip q hf
        obtain ⟨b0, hg, e9⟩ := xmj hf
        subst e9
        have hf := hg
        refine ⟨fun a' e => xnc2 e, fun b e => ?_⟩
        have h9 := Sum.inr.inj e
        subst h9
        have hf := xsj hf
        subst hf
        exact ⟨fun a' e => (by have h9 := Sum.inl.inj e; subst h9; exact ⟨hm, hA⟩), fun b e => xnc1 e⟩
      · have hf := xin q hf
        obtain ⟨z6, e5, hf⟩ := xbd hf
        have hz6 := xgR_reg rfl hA hr0 e5
        obtain ⟨v8, e7, hf⟩ := xbd hf
        obtain ⟨z10, e9, hf⟩ := xbd hf
        obtain ⟨v12, e11, hf⟩ := xbd hf
        obtain ⟨z14, e13, hf⟩ := xbd hf
        obtain ⟨v16, e15, hf⟩ := xbd hf
        obtain ⟨σ18, e17, hf⟩ := xbd hf
        obtain ⟨hm9, hA⟩ := xsL_reg hA hz6 e17
        have hm := hm.tr hm9
        have hf := xsj hf
        subst hf
        exact ⟨fun a' e => (by have h9 := Sum.inl.inj e; subst h9; exact ⟨hm, hA⟩), fun b e => xnc1 e⟩
  cases y with
  | inl a' =>
    obtain ⟨hm, hA1⟩ := hy.1 a' rfl
    have h1 := hc a' rfl hA1
    exact ⟨fun a' e => ⟨hm.tr ((h1).1 a' e).1, ((h1).1 a' e).2⟩, fun b1 eb1 => ⟨hm.tr ((h1).2 b1 eb1).1, ((h1).2 b1 eb1).2⟩⟩
  | inr b =>
    have h1 := he b rfl
    subst h1
    exact hy.2 _ rfl
theorem n_X12_joined_l101 {A : Nat → Prop} {r0 : Nat} {x2 : Int32} {x3 : Int32} {a : Int32 × XS} {x : Int64 × XS} (hA : Reg A a.2) (hr0 : A r0) (hf : xloop (f_X12_joined_b101 r0 x2 x3) a = some x) : Sm A a.2 x.2 ∧ Reg A x.2 := by
  revert hA
  refine xloop_ind (P := fun a => Reg A a.2 → Sm A a.2 x.2 ∧ Reg A x.2) (fun a y hf hc he => ?_) hf
  obtain ⟨x4, σ⟩ := a
  intro hA
  have hA0 : Reg A σ := hA
  have hy : (∀ a' : Int32 × XS, y = .inl a' → Sm A σ a'.2 ∧ Reg A a'.2) ∧ (∀ b1 : Int64 × XS, y = .inr b1 → Sm A σ b1.2 ∧ Reg A b1.2) := by
    have hm := Sm.rf (A := A) (σ := σ)
    by_cases q : (301 : Int32) ≤ x4
    · have hf := xip q hf
      obtain ⟨b0, hg, e9⟩ := xmj hf
      subst e9
      have hf := hg
      refine ⟨fun a' e => xnc2 e, fun b e => ?_⟩
      have h9 := Sum.inr.inj e
      subst h9
      exact ⟨hm.tr (n_X12_joined_l178 (a := ((0 : Int32), (0 : Int32))) hA hf).1, (n_X12_joined_l178 (a := ((0 : Int32), (0 : Int32))) hA hf).2⟩
    · have hf := xin q hf
      exact ⟨fun a' e => ⟨hm.tr ((n_X12_joined_l112 (a := ((0 : Int32), σ)) hA hr0 hf).1 a' e).1, ((n_X12_joined_l112 (a := ((0 : Int32), σ)) hA hr0 hf).1 a' e).2⟩, fun b1 eb1 => ⟨hm.tr ((n_X12_joined_l112 (a := ((0 : Int32), σ)) hA hr0 hf).2 b1 eb1).1, ((n_X12_joined_l112 (a := ((0 : Int32), σ)) hA hr0 hf).2 b1 eb1).2⟩⟩
  cases y with
  | inl a' =>
    obtain ⟨hm, hA1⟩ := hy.1 a' rfl
    have h1 := hc a' rfl hA1
    exact ⟨hm.tr (h1).1, (h1).2⟩
  | inr b =>
    have h1 := he b rfl
    subst h1
    exact hy.2 _ rfl
theorem n_X12_joined_l76 {A : Nat → Prop} {r0 : Nat} {x2 : Int32} {x3 : Int32} {a : Int32 × XS} {x : Int64 × XS} (hA : Reg A a.2) (hr0 : A r0) (hf : xloop (f_X12_joined_b76 r0 x2 x3) a = some x) : Sm A a.2 x.2 ∧ Reg A x.2 := by
  revert hA
  refine xloop_ind (P := fun a => Reg A a.2 → Sm A a.2 x.2 ∧ Reg A x.2) (fun a y hf hc he => ?_) hf
  obtain ⟨x4, σ⟩ := a
  intro hA
  have hA0 : Reg A σ := hA
  have hy : (∀ a' : Int32 × XS, y = .inl a' → Sm A σ a'.2 ∧ Reg A a'.2) ∧ (∀ b1 : Int64 × XS, y = .inr b1 → Sm A σ b1.2 ∧ Reg A b1.2) := by
    have hm := Sm.rf (A := A) (σ := σ)
    by_cases q : (601 : Int32) ≤ x4
    · have hf := xip q hf
      obtain ⟨b0, hg, e9⟩ := xmj hf
      subst e9
      have hf := hg
      refine ⟨fun a' e => xnc2 e, fun b e => ?_⟩
      have h9 := Sum.inr.inj e
      subst h9
      exact ⟨hm.tr (n_X12_joined_l101 (a := ((0 : Int32), σ)) hA hr0 hf).1, (n_X12_joined_l101 (a := ((0 : Int32), σ)) hA hr0 hf).2⟩
    · have hf := xin q hf
      obtain ⟨z2, e1, hf⟩ := xbd hf
      have hz2 := xgR_reg rfl hA hr0 e1
      obtain ⟨σ4, e3, hf⟩ := xbd hf
      obtain ⟨hm9, hA⟩ := xsL_reg hA hz2 e3
      have hm := hm.tr hm9
      have hf := xsj hf
      subst hf
      exact ⟨fun a' e => (by have h9 := Sum.inl.inj e; subst h9; exact ⟨hm, hA⟩), fun b e => xnc1 e⟩
  cases y with
  | inl a' =>
    obtain ⟨hm, hA1⟩ := hy.1 a' rfl
    have h1 := hc a' rfl hA1
    exact ⟨hm.tr (h1).1, (h1).2⟩
  | inr b =>
    have h1 := he b rfl
    subst h1
    exact hy.2 _ rfl
theorem n_X12_joined_l29 {A : Nat → Prop} {r0 : Nat} {x1 : Int32} {x2 : Int32} {x3 : Int32} {a : Int32 × XS} {x : Int64 × XS} (hA : Reg A a.2) (hr0 : A r0) (hf : xloop (f_X12_joined_b29 r0 x1 x2 x3) a = some x) : Sm A a.2 x.2 ∧ Reg A x.2 := by
  revert hA
  refine xloop_ind (P := fun a => Reg A a.2 → Sm A a.2 x.2 ∧ Reg A x.2) (fun a y hf hc he => ?_) hf
  obtain ⟨x4, σ⟩ := a
  intro hA
  have hA0 : Reg A σ := hA
  have hy : (∀ a' : Int32 × XS, y = .inl a' → Sm A σ a'.2 ∧ Reg A a'.2) ∧ (∀ b1 : Int64 × XS, y = .inr b1 → Sm A σ b1.2 ∧ Reg A b1.2) := by
    have hm := Sm.rf (A := A) (σ := σ)
    by_cases q : (66 : Int32) ≤ x4
    · have hf := xip q hf
      obtain ⟨b0, hg, e9⟩ := xmj hf
      subst e9
      have hf := hg
      refine ⟨fun a' e => xnc2 e, fun b e => ?_⟩
      have h9 := Sum.inr.inj e
      subst h9
      obtain ⟨z2, e1, hf⟩ := xbd hf
      have hz2 := xgR_reg rfl hA hr0 e1
      obtain ⟨z4, e3, hf⟩ := xbd hf
      have hz4 := xgR_reg rfl hA hr0 e3
      obtain ⟨_, e5, hf⟩ := xbd hf
      obtain ⟨σ7, e6, hf⟩ := xbd hf
      obtain ⟨hm9, hA⟩ := n_X12_laysMany hA hz4 e6
      have hm := hm.tr hm9
      exact ⟨hm.tr (n_X12_joined_l76 (a := ((0 : Int32), σ7)) hA hr0 hf).1, (n_X12_joined_l76 (a := ((0 : Int32), σ7)) hA hr0 hf).2⟩
    · have hf := xin q hf
      obtain ⟨z2, e1, hf⟩ := xbd hf
      have hz2 := xgR_reg rfl hA hr0 e1
      obtain ⟨z4, e3, hf⟩ := xbd hf
      obtain ⟨v6, e5, hf⟩ := xbd hf
      obtain ⟨σ8, e7, hf⟩ := xbd hf
      obtain ⟨hm9, hA⟩ := xsI_reg hA hz2 e7
      have hm := hm.tr hm9
      have hf := xsj hf
      subst hf
      exact ⟨fun a' e => (by have h9 := Sum.inl.inj e; subst h9; exact ⟨hm, hA⟩), fun b e => xnc1 e⟩
  cases y with
  | inl a' =>
    obtain ⟨hm, hA1⟩ := hy.1 a' rfl
    have h1 := hc a' rfl hA1
    exact ⟨hm.tr (h1).1, (h1).2⟩
  | inr b =>
    have h1 := he b rfl
    subst h1
    exact hy.2 _ rfl
theorem n_X12_joined {A : Nat → Prop} {σ : XS} {r0 : Nat} {x1 : Int32} {x2 : Int32} {x3 : Int32} {x : Int64 × XS} (hA : Reg A σ) (hr0 : A r0) (hf : f_X12_joined σ r0 x1 x2 x3 = some x) : Sm A σ x.2 ∧ Reg A x.2 := by
  have hm := Sm.rf (A := A) (σ := σ)
  obtain ⟨v2, e1, hf⟩ := xbd hf
  by_cases q : v2 = 0
  · have hf := xip q hf
    have hf := xsj hf
    subst hf
    exact ⟨hm, hA⟩
  · have hf := xin q hf
    obtain ⟨z4, e3, hf⟩ := xbd hf
    obtain ⟨v6, e5, hf⟩ := xbd hf
    by_cases q : v6 = 0
    · have hf := xip q hf
      have hf := xsj hf
      subst hf
      exact ⟨hm, hA⟩
    · have hf := xin q hf
      obtain ⟨_, e7, hf⟩ := xbd hf
      obtain ⟨σ9, e8, hf⟩ := xbd hf
      obtain ⟨hm9, hA⟩ := n_X12_knows hA hr0 e8
      have hm := hm.tr hm9
      exact ⟨hm.tr (n_X12_joined_l29 (a := ((0 : Int32), σ9)) hA hr0 hf).1, (n_X12_joined_l29 (a := ((0 : Int32), σ9)) hA hr0 hf).2⟩
theorem n_X12_lakes_l119 {A : Nat → Prop} {r0 : Nat} {x1 : Int32} {x2 : Int32} {x3 : Int32} {x5 : Int32} {a : Int32 × Int32 × XS} {x : ((Int32 × Int32 × XS) ⊕ ((Int32 × Int32 × XS) ⊕ (Int32 × XS)))} (hA : Reg A a.2.2) (hr0 : A r0) (hf : xloop (f_X12_lakes_b119 r0 x1 x2 x3 x5) a = some x) : (∀ a' : Int32 × Int32 × XS, x = .inl a' → Sm A a.2.2 a'.2.2 ∧ Reg A a'.2.2) ∧ (∀ b2 : ((Int32 × Int32 × XS) ⊕ (Int32 × XS)), x = .inr b2 → (∀ a' : Int32 × Int32 × XS, b2 = .inl a' → Sm A a.2.2 a'.2.2 ∧ Reg A a'.2.2) ∧ (∀ b1 : Int32 × XS, b2 = .inr b1 → Sm A a.2.2 b1.2 ∧ Reg A b1.2)) := by
  revert hA
  refine xloop_ind (P := fun a => Reg A a.2.2 → (∀ a' : Int32 × Int32 × XS, x = .inl a' → Sm A a.2.2 a'.2.2 ∧ Reg A a'.2.2) ∧ (∀ b2 : ((Int32 × Int32 × XS) ⊕ (Int32 × XS)), x = .inr b2 → (∀ a' : Int32 × Int32 × XS, b2 = .inl a' → Sm A a.2.2 a'.2.2 ∧ Reg A a'.2.2) ∧ (∀ b1 : Int32 × XS, b2 = .inr b1 → Sm A a.2.2 b1.2 ∧ Reg A b1.2))) (fun a y hf hc he => ?_) hf
  obtain ⟨x4, x6, σ⟩ := a
  intro hA
  have hA0 : Reg A σ := hA
  have hy : (∀ a' : Int32 × Int32 × XS, y = .inl a' → Sm A σ a'.2.2 ∧ Reg A a'.2.2) ∧ (∀ b3 : ((Int32 × Int32 × XS) ⊕ ((Int32 × Int32 × XS) ⊕ (Int32 × XS))), y = .inr b3 → (∀ a' : Int32 × Int32 × XS, b3 = .inl a' → Sm A σ a'.2.2 ∧ Reg A a'.2.2) ∧ (∀ b2 : ((Int32 × Int32 × XS) ⊕ (Int32 × XS)), b3 = .inr b2 → (∀ a' : Int32 × Int32 × XS, b2 = .inl a' → Sm A σ a'.2.2 ∧ Reg A a'.2.2) ∧ (∀ b1 : Int32 × XS, b2 = .inr b1 → Sm A σ b1.2 ∧ Reg A b1.2))) := by
    have hm := Sm.rf (A := A) (σ := σ)
    obtain ⟨_, e1, hf⟩ := xbd hf
    obtain ⟨v3, e2, hf⟩ := xbd hf
    by_cases q : v3 ≤ x6
    · have hf := xip q hf
      obtain ⟨b0, hg, e9⟩ := xmj hf
      subst e9
      have hf := hg
      refine ⟨fun a' e => xnc2 e, fun b e => ?_⟩
      have h9 := Sum.inr.inj e
      subst h9
      have hf := xsj hf
      subst hf
      exact ⟨fun a' e => (by have h9 := Sum.inl.inj e; subst h9; exact ⟨hm, hA⟩), fun b e => xnc1 e⟩
    · have hf := xin q hf
      obtain ⟨z5, e4, hf⟩ := xbd hf
      obtain ⟨v7, e6, hf⟩ := xbd hf
      obtain ⟨z9, e8, hf⟩ := xbd hf
      obtain ⟨v11, e10, hf⟩ := xbd hf
      by_cases q : v11 = 0
      · have hf := xip q hf
        obtain ⟨z13, e12, hf⟩ := xbd hf
        obtain ⟨v15, e14, hf⟩ := xbd hf
        by_cases q : v15 = (100000 : Int32)
        · have hf := xip q hf
          have hf := xsj hf
          subst hf
          exact ⟨fun a' e => (by have h9 := Sum.inl.inj e; subst h9; exact ⟨hm, hA⟩), fun b e => xnc1 e⟩
        · have hf := xin q hf
          obtain ⟨z17, e16, hf⟩ := xbd hf
          obtain ⟨v19, e18, hf⟩ := xbd hf
          by_cases q : v19 ≤ x1
          · have hf := xip q hf
            obtain ⟨z21, e20, hf⟩ := xbd hf
            have hz21 := xgR_reg rfl hA hr0 e20
            obtain ⟨σ23, e22, hf⟩ := xbd hf
            obtain ⟨hm9, hA⟩ := xsI_reg hA hz21 e22
            have hm := hm.tr hm9
            obtain ⟨z25, e24, hf⟩ := xbd hf
            have hz25 := xgR_reg rfl hA hr0 e24
            obtain ⟨σ27, e26, hf⟩ := xbd hf
            obtain ⟨hm9, hA⟩ := xsI_reg hA hz25 e26
            have hm := hm.tr hm9
            have hf := xsj hf
            subst hf
            exact ⟨fun a' e => (by have h9 := Sum.inl.inj e; subst h9; exact ⟨hm, hA⟩), fun b e => xnc1 e⟩
          · have hf := xin q hf
            have hf := xsj hf
            subst hf
            exact ⟨fun a' e => (by have h9 := Sum.inl.inj e; subst h9; exact ⟨hm, hA⟩), fun b e => xnc1 e⟩
      · have hf := xin q hf
        have hf := xsj hf
        subst hf
        exact ⟨fun a' e => (by have h9 := Sum.inl.inj e; subst h9; exact ⟨hm, hA⟩), fun b e => xnc1 e⟩
  cases y with
  | inl a' =>
    obtain ⟨hm, hA1⟩ := hy.1 a' rfl
    have h1 := hc a' rfl hA1
    exact ⟨fun a' e => ⟨hm.tr ((h1).1 a' e).1, ((h1).1 a' e).2⟩, fun b2 eb2 => ⟨fun a' e => ⟨hm.tr (((h1).2 b2 eb2).1 a' e).1, (((h1).2 b2 eb2).1 a' e).2⟩, fun b1 eb1 => ⟨hm.tr (((h1).2 b2 eb2).2 b1 eb1).1, (((h1).2 b2 eb2).2 b1 eb1).2⟩⟩⟩
  | inr b =>
    have h1 := he b rfl
    subst h1
    exact hy.2 _ rfl
