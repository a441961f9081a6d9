section
theorem n_J7_fill_53178_l5 {A : Nat → Prop} {r0 : Nat} {x1 : Int32} {x3 : Int32} {a : Int32 × XS} {x : XS} (hA : Reg A a.2) (hr0 : A r0) (hf : xloop (f_J7_fill_53178_b5 r0 x1 x3) a = some x) : Sm A a.2 x ∧ Reg A x := by
  revert hA
  refine xloop_ind (P := fun a => Reg A a.2 → Sm A a.2 x ∧ Reg A x) (fun a y hf hc he => ?_) hf
  obtain ⟨x2, σ⟩ := a
  intro hA
  have hA0 : Reg A σ := hA
  have hy : (∀ a' : Int32 × XS, y = .inl a' → Sm A σ a'.2 ∧ Reg A a'.2) ∧ (∀ b1 : XS, y = .inr b1 → Sm A σ b1 ∧ Reg A b1) := by
    have hm := Sm.rf (A := A) (σ := σ)
    by_cases q : x3 ≤ x2
    · have hf := xip q hf
      obtain ⟨b0, hg, e9⟩ := xmj hf
      subst e9
      have hf := hg
      refine ⟨fun a' e => xnc2 e, fun b e => ?_⟩
      have h9 := Sum.inr.inj e
      subst h9
      have hf := xsj hf
      subst hf
      exact ⟨hm, hA⟩
    · have hf := xin q hf
      obtain ⟨σ2, e1, hf⟩ := xbd hf
      obtain ⟨hm9, hA⟩ := xsI_reg hA hr0 e1
      have hm := hm.tr hm9
      have hf := xsj hf
      subst hf
      exact ⟨fun a' e => (by have h9 := Sum.inl.inj e; subst h9; exact ⟨hm, hA⟩), fun b e => xnc1 e⟩
  cases y with
  | inl a' =>
    obtain ⟨hm, hA1⟩ := hy.1 a' rfl
    have h1 := hc a' rfl hA1
    exact ⟨hm.tr (h1).1, (h1).2⟩
  | inr b =>
    have h1 := he b rfl
    subst h1
    exact hy.2 _ rfl
theorem n_J7_fill_53178 {A : Nat → Prop} {σ : XS} {r0 : Nat} {x1 : Int32} {x : XS} (hA : Reg A σ) (hr0 : A r0) (hf : f_J7_fill_53178 σ r0 x1 = some x) : Sm A σ x ∧ Reg A x := by
  have hm := Sm.rf (A := A) (σ := σ)
  obtain ⟨v2, e1, hf⟩ := xbd hf
  exact ⟨hm.tr (n_J7_fill_53178_l5 (a := ((0 : Int32), σ)) hA hr0 hf).1, (n_J7_fill_53178_l5 (a := ((0 : Int32), σ)) hA hr0 hf).2⟩
theorem n_J7_fill_d0a16_l6 {A : Nat → Prop} {r0 : Nat} {w1 : Int64} {x4 : Int32} {a : Int32 × XS} {x : XS} (hA : Reg A a.2) (hr0 : A r0) (hf : xloop (f_J7_fill_d0a16_b6 r0 w1 x4) a = some x) : Sm A a.2 x ∧ Reg A x := by
  revert hA
  refine xloop_ind (P := fun a => Reg A a.2 → Sm A a.2 x ∧ Reg A x) (fun a y hf hc he => ?_) hf
  obtain ⟨x3, σ⟩ := a
  intro hA
  have hA0 : Reg A σ := hA
  have hy : (∀ a' : Int32 × XS, y = .inl a' → Sm A σ a'.2 ∧ Reg A a'.2) ∧ (∀ b1 : XS, y = .inr b1 → Sm A σ b1 ∧ Reg A b1) := by
    have hm := Sm.rf (A := A) (σ := σ)
    by_cases q : x4 ≤ x3
    · have hf := xip q hf
      obtain ⟨b0, hg, e9⟩ := xmj hf
      subst e9
      have hf := hg
      refine ⟨fun a' e => xnc2 e, fun b e => ?_⟩
      have h9 := Sum.inr.inj e
      subst h9
      have hf := xsj hf
      subst hf
      exact ⟨hm, hA⟩
    · have hf := xin q hf
      obtain ⟨σ2, e1, hf⟩ := xbd hf
      obtain ⟨hm9, hA⟩ := xsL_reg hA hr0 e1
      have hm := hm.tr hm9
      have hf := xsj hf
      subst hf
      exact ⟨fun a' e => (by have h9 := Sum.inl.inj e; subst h9; exact ⟨hm, hA⟩), fun b e => xnc1 e⟩
  cases y with
  | inl a' =>
    obtain ⟨hm, hA1⟩ := hy.1 a' rfl
    have h1 := hc a' rfl hA1
    exact ⟨hm.tr (h1).1, (h1).2⟩
  | inr b =>
    have h1 := he b rfl
    subst h1
    exact hy.2 _ rfl
theorem n_J7_fill_d0a16 {A : Nat → Prop} {σ : XS} {r0 : Nat} {w1 : Int64} {x : XS} (hA : Reg A σ) (hr0 : A r0) (hf : f_J7_fill_d0a16 σ r0 w1 = some x) : Sm A σ x ∧ Reg A x := by
  have hm := Sm.rf (A := A) (σ := σ)
  obtain ⟨v2, e1, hf⟩ := xbd hf
  exact ⟨hm.tr (n_J7_fill_d0a16_l6 (a := ((0 : Int32), σ)) hA hr0 hf).1, (n_J7_fill_d0a16_l6 (a := ((0 : Int32), σ)) hA hr0 hf).2⟩
theorem n_X2_seeLowerMates_l13 {A : Nat → Prop} {r0 : Nat} {r1 : Nat} {r2 : Nat} {x3 : Int32} {a : Int32 × XS} {x : XS} (hA : Reg A a.2) (hr0 : A r0) (hf : xloop (f_X2_seeLowerMates_b13 r0 r1 r2 x3) a = some x) : Sm A a.2 x ∧ Reg A x := by
  revert hA
  refine xloop_ind (P := fun a => Reg A a.2 → Sm A a.2 x ∧ Reg A x) (fun a y hf hc he => ?_) hf
  obtain ⟨x4, σ⟩ := a
  intro hA
  have hA0 : Reg A σ := hA
  have hy : (∀ a' : Int32 × XS, y = .inl a' → Sm A σ a'.2 ∧ Reg A a'.2) ∧ (∀ b1 : XS, y = .inr b1 → Sm A σ b1 ∧ Reg A b1) := by
    have hm := Sm.rf (A := A) (σ := σ)
    by_cases q : (4 : Int32) ≤ x4
    · have hf := xip q hf
      obtain ⟨b0, hg, e9⟩ := xmj hf
      subst e9
      have hf := hg
      refine ⟨fun a' e => xnc2 e, fun b e => ?_⟩
      have h9 := Sum.inr.inj e
      subst h9
      have hf := xsj hf
      subst hf
      exact ⟨hm, hA⟩
    · have hf := xin q hf
      obtain ⟨z2, e1, hf⟩ := xbd hf
      obtain ⟨v4, e3, hf⟩ := xbd hf
      by_cases q : v4 ≤ x4
      · have hf := xip q hf
        obtain ⟨b0, hg, e9⟩ := xmj hf
        subst e9
        have hf := hg
        refine ⟨fun a' e => xnc2 e, fun b e => ?_⟩
        have h9 := Sum.inr.inj e
        subst h9
        have hf := xsj hf
        subst hf
        exact ⟨hm, hA⟩
      · have hf := xin q hf
        obtain ⟨z6, e5, hf⟩ := xbd hf
        obtain ⟨v8, e7, hf⟩ := xbd hf
        obtain ⟨z10, e9, hf⟩ := xbd hf
        obtain ⟨v12, e11, hf⟩ := xbd hf
        by_cases q : x3 ≤ v8
        · have hf := xip q hf
          have hf := xsj hf
          subst hf
          exact ⟨fun a' e => (by have h9 := Sum.inl.inj e; subst h9; exact ⟨hm, hA⟩), fun b e => xnc1 e⟩
        · have hf := xin q hf
          by_cases q : v12 < 0
          · have hf := xip q hf
            have hf := xsj hf
            subst hf
            exact ⟨fun a' e => (by have h9 := Sum.inl.inj e; subst h9; exact ⟨hm, hA⟩), fun b e => xnc1 e⟩
          · have hf := xin q hf
            obtain ⟨v14, e13, hf⟩ := xbd hf
            by_cases q : v14 ≤ v12
            · have hf := xip q hf
              have hf := xsj hf
              subst hf
              exact ⟨fun a' e => (by have h9 := Sum.inl.inj e; subst h9; exact ⟨hm, hA⟩), fun b e => xnc1 e⟩
            · have hf := xin q hf
              obtain ⟨v16, e15, hf⟩ := xbd hf
              by_cases q : v16 = 0
              · have hf := xip q hf
                have hf := xsj hf
                subst hf
                exact ⟨fun a' e => (by have h9 := Sum.inl.inj e; subst h9; exact ⟨hm, hA⟩), fun b e => xnc1 e⟩
              · have hf := xin q hf
                obtain ⟨z18, e17, hf⟩ := xbd hf
                have hz18 := xgR_reg rfl hA hr0 e17
                obtain ⟨v20, e19, hf⟩ := xbd hf
                obtain ⟨σ22, e21, hf⟩ := xbd hf
                obtain ⟨hm9, hA⟩ := xsI_reg hA hz18 e21
                have hm := hm.tr hm9
                obtain ⟨z24, e23, hf⟩ := xbd hf
                have hz24 := xgR_reg rfl hA hr0 e23
                obtain ⟨v26, e25, hf⟩ := xbd hf
                obtain ⟨v28, e27, hf⟩ := xbd hf
                obtain ⟨σ30, e29, hf⟩ := xbd hf
                obtain ⟨hm9, hA⟩ := xsI_reg hA hz24 e29
                have hm := hm.tr hm9
                obtain ⟨v32, e31, hf⟩ := xbd hf
                obtain ⟨σ34, e33, hf⟩ := xbd hf
                obtain ⟨hm9, hA⟩ := xpI_reg hA hr0 e33
                have hm := hm.tr hm9
                obtain ⟨v36, e35, hf⟩ := xbd hf
                obtain ⟨σ38, e37, hf⟩ := xbd hf
                obtain ⟨hm9, hA⟩ := xpI_reg hA hr0 e37
                have hm := hm.tr hm9
                have hf := xsj hf
                subst hf
                exact ⟨fun a' e => (by have h9 := Sum.inl.inj e; subst h9; exact ⟨hm, hA⟩), fun b e => xnc1 e⟩
  cases y with
  | inl a' =>
    obtain ⟨hm, hA1⟩ := hy.1 a' rfl
    have h1 := hc a' rfl hA1
    exact ⟨hm.tr (h1).1, (h1).2⟩
  | inr b =>
    have h1 := he b rfl
    subst h1
    exact hy.2 _ rfl
theorem n_X2_seeLowerMates {A : Nat → Prop} {σ : XS} {r0 : Nat} {r1 : Nat} {r2 : Nat} {x3 : Int32} {x : XS} (hA : Reg A σ) (hr0 : A r0) (hf : f_X2_seeLowerMates σ r0 r1 r2 x3 = some x) : Sm A σ x ∧ Reg A x := by
  have hm := Sm.rf (A := A) (σ := σ)
  obtain ⟨σ2, e1, hf⟩ := xbd hf
  obtain ⟨hm9, hA⟩ := xpI_reg hA hr0 e1
  have hm := hm.tr hm9
  obtain ⟨σ4, e3, hf⟩ := xbd hf
  obtain ⟨hm9, hA⟩ := xpI_reg hA hr0 e3
  have hm := hm.tr hm9
  exact ⟨hm.tr (n_X2_seeLowerMates_l13 (a := ((0 : Int32), σ4)) hA hr0 hf).1, (n_X2_seeLowerMates_l13 (a := ((0 : Int32), σ4)) hA hr0 hf).2⟩
theorem n_X2_addSite_l35 {A : Nat → Prop} {r0 : Nat} {x2 : Int32} {x3 : Int32} {x4 : Int32} {x5 : Int32} {x6 : Int32} {a : Int32 × XS} {x : ((Int32 × XS) ⊕ (XS))} (hA : Reg A a.2) (hr0 : A r0) (hf : xloop (f_X2_addSite_b35 r0 x2 x3 x4 x5 x6) a = some x) : (∀ a' : Int32 × XS, x = .inl a' → Sm A a.2 a'.2 ∧ Reg A a'.2) ∧ (∀ b1 : XS, x = .inr b1 → Sm A a.2 b1 ∧ Reg A b1) := by
  revert hA
  refine xloop_ind (P := fun a => Reg A a.2 → (∀ a' : Int32 × XS, x = .inl a' → Sm A a.2 a'.2 ∧ Reg A a'.2) ∧ (∀ b1 : XS, x = .inr b1 → Sm A a.2 b1 ∧ Reg A b1)) (fun a y hf hc he => ?_) hf
  obtain ⟨x7, σ⟩ := a
  intro hA
  have hA0 : Reg A σ := hA
  have hy : (∀ a' : Int32 × XS, y = .inl a' → Sm A σ a'.2 ∧ Reg A a'.2) ∧ (∀ b2 : ((Int32 × XS) ⊕ (XS)), y = .inr b2 → (∀ a' : Int32 × XS, b2 = .inl a' → Sm A σ a'.2 ∧ Reg A a'.2) ∧ (∀ b1 : XS, b2 = .inr b1 → Sm A σ b1 ∧ Reg A b1)) := by
    have hm := Sm.rf (A := A) (σ := σ)
    by_cases q : (x5 + x4) ≤ x7
    · have hf := xip q hf
      obtain ⟨b0, hg, e9⟩ := xmj hf
      subst e9
      have hf := hg
      refine ⟨fun a' e => xnc2 e, fun b e => ?_⟩
      have h9 := Sum.inr.inj e
      subst h9
      have hf := xsj hf
      subst hf
      exact ⟨fun a' e => (by have h9 := Sum.inl.inj e; subst h9; exact ⟨hm, hA⟩), fun b e => xnc1 e⟩
    · have hf := xin q hf
      obtain ⟨z2, e1, hf⟩ := xbd hf
      obtain ⟨v4, e3, hf⟩ := xbd hf
      by_cases q : v4 ≤ (x3 + x7)
      · have hf := xip q hf
        obtain ⟨b0, hg, e9⟩ := xmj hf
        subst e9
        have hf := hg
        refine ⟨fun a' e => xnc2 e, fun b e => ?_⟩
        have h9 := Sum.inr.inj e
        subst h9
        have hf := xsj hf
        subst hf
        exact ⟨fun a' e => (by have h9 := Sum.inl.inj e; subst h9; exact ⟨hm, hA⟩), fun b e => xnc1 e⟩
      · have hf := xin q hf
        obtain ⟨z6, e5, hf⟩ := xbd hf
        have hz6 := xgR_reg rfl hA hr0 e5
        obtain ⟨z8, e7, hf⟩ := xbd hf
        obtain ⟨v10, e9, hf⟩ := xbd hf
        obtain ⟨σ12, e11, hf⟩ := xbd hf
        obtain ⟨hm9, hA⟩ := xsI_reg hA hz6 e11
        have hm := hm.tr hm9
        obtain ⟨z14, e13, hf⟩ := xbd hf
        have hz14 := xgR_reg rfl hA hr0 e13
        obtain ⟨v16, e15, hf⟩ := xbd hf
        obtain ⟨σ18, e17, hf⟩ := xbd hf
        obtain ⟨hm9, hA⟩ := xsI_reg hA hz14 e17
        have hm := hm.tr hm9
        have hf := xsj hf
        subst hf
        exact ⟨fun a' e => (by have h9 := Sum.inl.inj e; subst h9; exact ⟨hm, hA⟩), fun b e => xnc1 e⟩
  cases y with
  | inl a' =>
    obtain ⟨hm, hA1⟩ := hy.1 a' rfl
    have h1 := hc a' rfl hA1
    exact ⟨fun a' e => ⟨hm.tr ((h1).1 a' e).1, ((h1).1 a' e).2⟩, fun b1 eb1 => ⟨hm.tr ((h1).2 b1 eb1).1, ((h1).2 b1 eb1).2⟩⟩
  | inr b =>
    have h1 := he b rfl
    subst h1
    exact hy.2 _ rfl
theorem n_X2_addSite_l15 {A : Nat → Prop} {r0 : Nat} {x2 : Int32} {x3 : Int32} {x4 : Int32} {a : Int32 × XS} {x : XS} (hA : Reg A a.2) (hr0 : A r0) (hf : xloop (f_X2_addSite_b15 r0 x2 x3 x4) a = some x) : Sm A a.2 x ∧ Reg A x := by
  revert hA
  refine xloop_ind (P := fun a => Reg A a.2 → Sm A a.2 x ∧ Reg A x) (fun a y hf hc he => ?_) hf
  obtain ⟨x5, σ⟩ := a
  intro hA
  have hA0 : Reg A σ := hA
  have hy : (∀ a' : Int32 × XS, y = .inl a' → Sm A σ a'.2 ∧ Reg A a'.2) ∧ (∀ b1 : XS, y = .inr b1 → Sm A σ b1 ∧ Reg A b1) := by
    have hm := Sm.rf (A := A) (σ := σ)
    by_cases q : x3 ≤ x5
    · have hf := xip q hf
      obtain ⟨b0, hg, e9⟩ := xmj hf
      subst e9
      have hf := hg
      refine ⟨fun a' e => xnc2 e, fun b e => ?_⟩
      have h9 := Sum.inr.inj e
      subst h9
      have hf := xsj hf
      subst hf
      exact ⟨hm, hA⟩
    · have hf := xin q hf
      obtain ⟨_, e1, hf⟩ := xbd hf
      obtain ⟨v3, e2, hf⟩ := xbd hf
      exact ⟨fun a' e => ⟨hm.tr ((n_X2_addSite_l35 (a := (x5, σ)) hA hr0 hf).1 a' e).1, ((n_X2_addSite_l35 (a := (x5, σ)) hA hr0 hf).1 a' e).2⟩, fun b1 eb1 => ⟨hm.tr ((n_X2_addSite_l35 (a := (x5, σ)) hA hr0 hf).2 b1 eb1).1, ((n_X2_addSite_l35 (a := (x5, σ)) hA hr0 hf).2 b1 eb1).2⟩⟩
  cases y with
  | inl a' =>
    obtain ⟨hm, hA1⟩ := hy.1 a' rfl
    have h1 := hc a' rfl hA1
    exact ⟨hm.tr (h1).1, (h1).2⟩
  | inr b =>
    have h1 := he b rfl
    subst h1
    exact hy.2 _ rfl
theorem n_X2_addSite {A : Nat → Prop} {σ : XS} {r0 : Nat} {x1 : Int32} {x2 : Int32} {x : XS} (hA : Reg A σ) (hr0 : A r0) (hf : f_X2_addSite σ r0 x1 x2 = some x) : Sm A σ x ∧ Reg A x := by
  have hm := Sm.rf (A := A) (σ := σ)
  obtain ⟨v2, e1, hf⟩ := xbd hf
  exact ⟨hm.tr (n_X2_addSite_l15 (a := ((0 : Int32), σ)) hA hr0 hf).1, (n_X2_addSite_l15 (a := ((0 : Int32), σ)) hA hr0 hf).2⟩
theorem n_X2_fill_l45 {A : Nat → Prop} {r0 : Nat} {r1 : Nat} {r2 : Nat} {r3 : Nat} {x4 : Int32} {a : Int32 × XS} {x : XS} (hA : RegN A a.2) (hr0 : A r0) (hf : xloop (f_X2_fill_b45 r0 r1 r2 r3 x4) a = some x) : Sm A a.2 x ∧ RegN A x := by
  revert hA
  refine xloop_ind (P := fun a => RegN A a.2 → Sm A a.2 x ∧ RegN A x) (fun a y hf hc he => ?_) hf
  obtain ⟨x5, σ⟩ := a
  intro hA
  have hA0 : RegN A σ := hA
  have hy : (∀ a' : Int32 × XS, y = .inl a' → Sm A σ a'.2 ∧ RegN A a'.2) ∧ (∀ b1 : XS, y = .inr b1 → Sm A σ b1 ∧ RegN A b1) := by
    have hm := Sm.rf (A := A) (σ := σ)
    by_cases q : x4 ≤ x5
    · have hf := xip q hf
      obtain ⟨b0, hg, e9⟩ := xmj hf
      subst e9
      have hf := hg
      refine ⟨fun a' e => xnc2 e, fun b e => ?_⟩
      have h9 := Sum.inr.inj e
      subst h9
      have hf := xsj hf
      subst hf
      exact ⟨hm, hA⟩
    · have hf := xin q hf
      obtain ⟨v2, e1, hf⟩ := xbd hf
      by_cases q : v2 ≤ x5
      · have hf := xip q hf
        obtain ⟨b0, hg, e9⟩ := xmj hf
        subst e9
        have hf := hg
        refine ⟨fun a' e => xnc2 e, fun b e => ?_⟩
        have h9 := Sum.inr.inj e
        subst h9
        have hf := xsj hf
        subst hf
        exact ⟨hm, hA⟩
      · have hf := xin q hf
        obtain ⟨_, e3, hf⟩ := xbd hf
        obtain ⟨σ5, e4, hf⟩ := xbd hf
        obtain ⟨hm9, hB⟩ := n_X2_seeLowerMates hA.1 hr0 e4
        have hA := RegN.step hA hB (m_X2_seeLowerMates e4).ext
        have hm := hm.tr hm9
        obtain ⟨v7, e6, hf⟩ := xbd hf
        obtain ⟨_, e8, hf⟩ := xbd hf
        obtain ⟨σ10, e9, hf⟩ := xbd hf
        obtain ⟨hm9, hB⟩ := n_X2_addSite hA.1 hr0 e9
        have hA := RegN.step hA hB (m_X2_addSite e9).ext
        have hm := hm.tr hm9
        have hf := xsj hf
        subst hf
        exact ⟨fun a' e => (by have h9 := Sum.inl.inj e; subst h9; exact ⟨hm, hA⟩), fun b e => xnc1 e⟩
  cases y with
  | inl a' =>
    obtain ⟨hm, hA1⟩ := hy.1 a' rfl
    have h1 := hc a' rfl hA1
    exact ⟨hm.tr (h1).1, (h1).2⟩
  | inr b =>
    have h1 := he b rfl
    subst h1
    exact hy.2 _ rfl
theorem n_X2_fill_j35 {A : Nat → Prop} {σ : XS} {r0 : Nat} {r1 : Nat} {r2 : Nat} {r3 : Nat} {x4 : Int32} {x : XS} (hA : RegN A σ) (hr0 : A r0) (hf : f_X2_fill_j35 σ r0 r1 r2 r3 x4 = some x) : Sm A σ x ∧ RegN A x := by
  have hm := Sm.rf (A := A) (σ := σ)
  obtain ⟨z2, e1, hf⟩ := xbd hf
  have hz2 := xgR_reg rfl hA.1 hr0 e1
  obtain ⟨σ4, e3, hf⟩ := xbd hf
  obtain ⟨hm9, hB⟩ := xsI_reg hA.1 hz2 e3
  have hA := RegN.step hA hB (xsI_same e3).ext
  have hm := hm.tr hm9
  exact ⟨hm.tr (n_X2_fill_l45 (a := ((0 : Int32), σ4)) hA hr0 hf).1, (n_X2_fill_l45 (a := ((0 : Int32), σ4)) hA hr0 hf).2⟩
theorem n_X2_fill_j32 {A : Nat → Prop} {σ : XS} {r0 : Nat} {r1 : Nat} {r2 : Nat} {r3 : Nat} {x4 : Int32} {t0 : Nat} {t1 : Nat} {x : XS} (hA : RegN A σ) (hr0 : A r0) (ht0 : A t0) (ht1 : A t1) (hf : f_X2_fill_j32 σ r0 r1 r2 r3 x4 t0 t1 = some x) : Sm A σ x ∧ RegN A x := by
  have hm := Sm.rf (A := A) (σ := σ)
  obtain ⟨_, e1, hf⟩ := xbd hf
  obtain ⟨σ3, e2, hf⟩ := xbd hf
  obtain ⟨hm9, hB⟩ := xpR_reg hA.1 ht0 ht1 e2
  have hA := RegN.step hA hB (xpR_same e2).ext
  have hm := hm.tr hm9
  exact ⟨hm.tr (n_X2_fill_j35 hA hr0 hf).1, (n_X2_fill_j35 hA hr0 hf).2⟩
theorem n_X2_fill {A : Nat → Prop} {σ : XS} {r0 : Nat} {r1 : Nat} {r2 : Nat} {r3 : Nat} {x4 : Int32} {x : XS} (hA : RegN A σ) (hr0 : A r0) (hf : f_X2_fill σ r0 r1 r2 r3 x4 = some x) : Sm A σ x ∧ RegN A x := by
  have hm := Sm.rf (A := A) (σ := σ)
  by_cases q : x4 < 0
  · have hf := xip q hf
    have hf := xsj hf
    subst hf
    exact ⟨hm, hA⟩
  · have hf := xin q hf
    by_cases q : x4 ≤ (16 : Int32)
    · have hf := xip q hf
      obtain ⟨z2, e1, hf⟩ := xbd hf
      obtain ⟨v4, e3, hf⟩ := xbd hf
      by_cases q : ((1 : Int32) <<< (x4 &&& 31)) ≤ v4
      · have hf := xip q hf
        exact ⟨hm.tr (n_X2_fill_j35 hA hr0 hf).1, (n_X2_fill_j35 hA hr0 hf).2⟩
      · have hf := xin q hf
        obtain ⟨⟨z6, σ7⟩, e5, hf⟩ := xbd hf
        dsimp only at hf
        obtain ⟨hm9, hA, hz6⟩ := xnA_reg hA e5
        have hm := hm.tr hm9
        exact ⟨hm.tr (n_X2_fill_j32 hA hr0 hr0 hz6 hf).1, (n_X2_fill_j32 hA hr0 hr0 hz6 hf).2⟩
    · have hf := xin q hf
      have hf := xsj hf
      subst hf
      exact ⟨hm, hA⟩
theorem n_X0_gather_l98 {A : Nat → Prop} {r0 : Nat} {r2 : Nat} {r3 : Nat} {x4 : Int32} {x5 : Int32} {a : Int32 × XS} {x : XS} (hA : RegN A a.2) (hr0 : A r0) (hf : xloop (f_X0_gather_b98 r0 r2 r3 x4 x5) a = some x) : Sm A a.2 x ∧ RegN A x := by
  revert hA
  refine xloop_ind (P := fun a => RegN A a.2 → Sm A a.2 x ∧ RegN A x) (fun a y hf hc he => ?_) hf
  obtain ⟨x6, σ⟩ := a
  intro hA
  have hA0 : RegN A σ := hA
  have hy : (∀ a' : Int32 × XS, y = .inl a' → Sm A σ a'.2 ∧ RegN A a'.2) ∧ (∀ b1 : XS, y = .inr b1 → Sm A σ b1 ∧ RegN A b1) := by
    have hm := Sm.rf (A := A) (σ := σ)
    by_cases q : x5 ≤ x6
    · have hf := xip q hf
      obtain ⟨b0, hg, e9⟩ := xmj hf
      subst e9
      have hf := hg
      refine ⟨fun a' e => xnc2 e, fun b e => ?_⟩
      have h9 := Sum.inr.inj e
      subst h9
      have hf := xsj hf
      subst hf
      exact ⟨hm, hA⟩
    · have hf := xin q hf
      obtain ⟨_, e1, hf⟩ := xbd hf
      obtain ⟨v3, e2, hf⟩ := xbd hf
      obtain ⟨_, e4, hf⟩ := xbd hf
      obtain ⟨v6, e5, hf⟩ := xbd hf
      by_cases q : v6 = 0
      · have hf := xip q hf
        have hf := xsj hf
        subst hf
        exact ⟨fun a' e => (by have h9 := Sum.inl.inj e; subst h9; exact ⟨hm, hA⟩), fun b e => xnc1 e⟩
      · have hf := xin q hf
        by_cases q : ((x4 + v3) / (2 : Int32)) < 0
        · have hf := xip q hf
          have hf := xsj hf
          subst hf
          exact ⟨fun a' e => (by have h9 := Sum.inl.inj e; subst h9; exact ⟨hm, hA⟩), fun b e => xnc1 e⟩
        · have hf := xin q hf
          obtain ⟨z8, e7, hf⟩ := xbd hf
          obtain ⟨v10, e9, hf⟩ := xbd hf
          by_cases q : v10 ≤ ((x4 + v3) / (2 : Int32))
          · have hf := xip q hf
            have hf := xsj hf
            subst hf
            exact ⟨fun a' e => (by have h9 := Sum.inl.inj e; subst h9; exact ⟨hm, hA⟩), fun b e => xnc1 e⟩
          · have hf := xin q hf
            obtain ⟨z12, e11, hf⟩ := xbd hf
            have hz12 := xgR_reg rfl hA.1 hr0 e11
            obtain ⟨v14, e13, hf⟩ := xbd hf
            obtain ⟨σ16, e15, hf⟩ := xbd hf
            obtain ⟨hm9, hB⟩ := xsI_reg hA.1 hz12 e15
            have hA := RegN.step hA hB (xsI_same e15).ext
            have hm := hm.tr hm9
            have hf := xsj hf
            subst hf
            exact ⟨fun a' e => (by have h9 := Sum.inl.inj e; subst h9; exact ⟨hm, hA⟩), fun b e => xnc1 e⟩
  cases y with
  | inl a' =>
    obtain ⟨hm, hA1⟩ := hy.1 a' rfl
    have h1 := hc a' rfl hA1
    exact ⟨hm.tr (h1).1, (h1).2⟩
  | inr b =>
    have h1 := he b rfl
    subst h1
    exact hy.2 _ rfl
theorem n_X0_gather_j81 {A : Nat → Prop} {σ : XS} {r0 : Nat} {r1 : Nat} {r2 : Nat} {r3 : Nat} {x4 : Int32} {x : XS} (hA : RegN A σ) (hr0 : A r0) (hf : f_X0_gather_j81 σ r0 r1 r2 r3 x4 = some x) : Sm A σ x ∧ RegN A x := by
  have hm := Sm.rf (A := A) (σ := σ)
  obtain ⟨z2, e1, hf⟩ := xbd hf
  have hz2 := xgR_reg rfl hA.1 hr0 e1
  obtain ⟨σ4, e3, hf⟩ := xbd hf
  obtain ⟨hm9, hB⟩ := n_J7_fill_53178 hA.1 hz2 e3
  have hA := RegN.step hA hB (m_J7_fill_53178 e3).ext
  have hm := hm.tr hm9
  obtain ⟨_, e5, hf⟩ := xbd hf
  obtain ⟨v7, e6, hf⟩ := xbd hf
  exact ⟨hm.tr (n_X0_gather_l98 (a := ((0 : Int32), σ4)) hA hr0 hf).1, (n_X0_gather_l98 (a := ((0 : Int32), σ4)) hA hr0 hf).2⟩
theorem n_X0_gather_j42 {A : Nat → Prop} {σ : XS} {r0 : Nat} {r1 : Nat} {r2 : Nat} {r3 : Nat} {x4 : Int32} {x5 : Int32} {t0 : Nat} {t1 : Int32} {t2 : Int32} {x : ((Int32 × Int32 × XS) ⊕ (XS))} (hA : RegN A σ) (ht0 : A t0) (hf : f_X0_gather_j42 σ r0 r1 r2 r3 x4 x5 t0 t1 t2 = some x) : (∀ a' : Int32 × Int32 × XS, x = .inl a' → Sm A σ a'.2.2 ∧ RegN A a'.2.2) ∧ (∀ b1 : XS, x = .inr b1 → Sm A σ b1 ∧ RegN A b1) := by
  have hm := Sm.rf (A := A) (σ := σ)
  obtain ⟨σ2, e1, hf⟩ := xbd hf
  obtain ⟨hm9, hB⟩ := xsI_reg hA.1 ht0 e1
  have hA := RegN.step hA hB (xsI_same e1).ext
  have hm := hm.tr hm9
  obtain ⟨z4, e3, hf⟩ := xbd hf
  obtain ⟨v6, e5, hf⟩ := xbd hf
  have hf := xsj hf
  subst hf
  exact ⟨fun a' e => (by have h9 := Sum.inl.inj e; subst h9; exact ⟨hm, hA⟩), fun b e => xnc1 e⟩
theorem n_X0_gather_l6 {A : Nat → Prop} {r0 : Nat} {r1 : Nat} {r2 : Nat} {r3 : Nat} {a : Int32 × Int32 × XS} {x : XS} (hA : RegN A a.2.2) (hr0 : A r0) (hr3 : A r3) (hf : xloop (f_X0_gather_b6 r0 r1 r2 r3) a = some x) : Sm A a.2.2 x ∧ RegN A x := by
  revert hA
  refine xloop_ind (P := fun a => RegN A a.2.2 → Sm A a.2.2 x ∧ RegN A x) (fun a y hf hc he => ?_) hf
  obtain ⟨x4, x5, σ⟩ := a
  intro hA
  have hA0 : RegN A σ := hA
  have hy : (∀ a' : Int32 × Int32 × XS, y = .inl a' → Sm A σ a'.2.2 ∧ RegN A a'.2.2) ∧ (∀ b1 : XS, y = .inr b1 → Sm A σ b1 ∧ RegN A b1) := by
    have hm := Sm.rf (A := A) (σ := σ)
    by_cases q : (32 : Int32) ≤ x5
    · have hf := xip q hf
      obtain ⟨b0, hg, e9⟩ := xmj hf
      subst e9
      have hf := hg
      refine ⟨fun a' e => xnc2 e, fun b e => ?_⟩
      have h9 := Sum.inr.inj e
      subst h9
      obtain ⟨z2, e1, hf⟩ := xbd hf
      have hz2 := xgR_reg rfl hA.1 hr0 e1
      obtain ⟨z4, e3, hf⟩ := xbd hf
      obtain ⟨v6, e5, hf⟩ := xbd hf
      obtain ⟨_, e7, hf⟩ := xbd hf
      obtain ⟨σ9, e8, hf⟩ := xbd hf
      obtain ⟨hm9, hA⟩ := n_X2_fill hA hr3 e8
      have hm := hm.tr hm9
      exact ⟨hm.tr (n_X0_gather_j81 hA hr0 hf).1, (n_X0_gather_j81 hA hr0 hf).2⟩
    · have hf := xin q hf
      obtain ⟨z2, e1, hf⟩ := xbd hf
      have hz2 := xgR_reg rfl hA.1 hr0 e1
      obtain ⟨_, e3, hf⟩ := xbd hf
      obtain ⟨v5, e4, hf⟩ := xbd hf
      by_cases q : v5 = (-1 : Int32)
      · have hf := xip q hf
        exact ⟨fun a' e => ⟨hm.tr ((n_X0_gather_j42 hA hz2 hf).1 a' e).1, ((n_X0_gather_j42 hA hz2 hf).1 a' e).2⟩, fun b1 eb1 => ⟨hm.tr ((n_X0_gather_j42 hA hz2 hf).2 b1 eb1).1, ((n_X0_gather_j42 hA hz2 hf).2 b1 eb1).2⟩⟩
      · have hf := xin q hf
        obtain ⟨_, e6, hf⟩ := xbd hf
        obtain ⟨v8, e7, hf⟩ := xbd hf
        obtain ⟨v10, e9, hf⟩ := xbd hf
        exact ⟨fun a' e => ⟨hm.tr ((n_X0_gather_j42 hA hz2 hf).1 a' e).1, ((n_X0_gather_j42 hA hz2 hf).1 a' e).2⟩, fun b1 eb1 => ⟨hm.tr ((n_X0_gather_j42 hA hz2 hf).2 b1 eb1).1, ((n_X0_gather_j42 hA hz2 hf).2 b1 eb1).2⟩⟩
  cases y with
  | inl a' =>
    obtain ⟨hm, hA1⟩ := hy.1 a' rfl
    have h1 := hc a' rfl hA1
    exact ⟨hm.tr (h1).1, (h1).2⟩
  | inr b =>
    have h1 := he b rfl
    subst h1
    exact hy.2 _ rfl
theorem n_X0_gather {A : Nat → Prop} {σ : XS} {r0 : Nat} {r1 : Nat} {r2 : Nat} {r3 : Nat} {x : XS} (hA : RegN A σ) (hr0 : A r0) (hr3 : A r3) (hf : f_X0_gather σ r0 r1 r2 r3 = some x) : Sm A σ x ∧ RegN A x := by
  have hm := Sm.rf (A := A) (σ := σ)
  exact ⟨hm.tr (n_X0_gather_l6 (a := ((0 : Int32), (0 : Int32), σ)) hA hr0 hr3 hf).1, (n_X0_gather_l6 (a := ((0 : Int32), (0 : Int32), σ)) hA hr0 hr3 hf).2⟩
theorem n_X0_init_j25 {A : Nat → Prop} {σ : XS} {r0 : Nat} {t0 : Nat} {t1 : Nat} {x : XS} (hA : RegN A σ) (hr0 : A r0) (ht0 : A t0) (ht1 : A t1) (hf : f_X0_init_j25 σ r0 t0 t1 = some x) : Sm A σ x ∧ RegN A x := by
  have hm := Sm.rf (A := A) (σ := σ)
  obtain ⟨_, e1, hf⟩ := xbd hf
  obtain ⟨σ3, e2, hf⟩ := xbd hf
  obtain ⟨hm9, hB⟩ := xpR_reg hA.1 ht0 ht1 e2
  have hA := RegN.step hA hB (xpR_same e2).ext
  have hm := hm.tr hm9
  obtain ⟨σ5, e4, hf⟩ := xbd hf
  obtain ⟨hm9, hB⟩ := xpI_reg hA.1 hr0 e4
  have hA := RegN.step hA hB (xpI_same e4).ext
  have hm := hm.tr hm9
  have hf := xsj hf
  subst hf
  exact ⟨hm, hA⟩
theorem n_X0_init_j17 {A : Nat → Prop} {σ : XS} {r0 : Nat} {t0 : Nat} {t1 : Nat} {x : XS} (hA : RegN A σ) (hr0 : A r0) (ht0 : A t0) (ht1 : A t1) (hf : f_X0_init_j17 σ r0 t0 t1 = some x) : Sm A σ x ∧ RegN A x := by
  have hm := Sm.rf (A := A) (σ := σ)
  obtain ⟨_, e1, hf⟩ := xbd hf
  obtain ⟨σ3, e2, hf⟩ := xbd hf
  obtain ⟨hm9, hB⟩ := xpR_reg hA.1 ht0 ht1 e2
  have hA := RegN.step hA hB (xpR_same e2).ext
  have hm := hm.tr hm9
  obtain ⟨⟨z5, σ6⟩, e4, hf⟩ := xbd hf
  dsimp only at hf
  obtain ⟨hm9, hA, hz5⟩ := xnA_reg hA e4
  have hm := hm.tr hm9
  exact ⟨hm.tr (n_X0_init_j25 hA hr0 hr0 hz5 hf).1, (n_X0_init_j25 hA hr0 hr0 hz5 hf).2⟩
theorem n_X0_init_j9 {A : Nat → Prop} {σ : XS} {r0 : Nat} {t0 : Nat} {t1 : Nat} {x : XS} (hA : RegN A σ) (hr0 : A r0) (ht0 : A t0) (ht1 : A t1) (hf : f_X0_init_j9 σ r0 t0 t1 = some x) : Sm A σ x ∧ RegN A x := by
  have hm := Sm.rf (A := A) (σ := σ)
  obtain ⟨_, e1, hf⟩ := xbd hf
  obtain ⟨σ3, e2, hf⟩ := xbd hf
  obtain ⟨hm9, hB⟩ := xpR_reg hA.1 ht0 ht1 e2
  have hA := RegN.step hA hB (xpR_same e2).ext
  have hm := hm.tr hm9
  obtain ⟨⟨z5, σ6⟩, e4, hf⟩ := xbd hf
  dsimp only at hf
  obtain ⟨hm9, hA, hz5⟩ := xnA_reg hA e4
  have hm := hm.tr hm9
  exact ⟨hm.tr (n_X0_init_j17 hA hr0 hr0 hz5 hf).1, (n_X0_init_j17 hA hr0 hr0 hz5 hf).2⟩
theorem n_X0_init {A : Nat → Prop} {σ : XS} {r0 : Nat} {x : XS} (hA : RegN A σ) (hr0 : A r0) (hf : f_X0_init σ r0 = some x) : Sm A σ x ∧ RegN A x := by
  have hm := Sm.rf (A := A) (σ := σ)
  obtain ⟨⟨z2, σ3⟩, e1, hf⟩ := xbd hf
  dsimp only at hf
  obtain ⟨hm9, hA, hz2⟩ := xnA_reg hA e1
  have hm := hm.tr hm9
  exact ⟨hm.tr (n_X0_init_j9 hA hr0 hr0 hz2 hf).1, (n_X0_init_j9 hA hr0 hr0 hz2 hf).2⟩
theorem n_X10_fallFrom_l24 {A : Nat → Prop} {r0 : Nat} {r1 : Nat} {r2 : Nat} {a : Int32 × Int32 × XS} {x : XS} (hA : Reg A a.2.2) (hr0 : A r0) (hf : xloop (f_X10_fallFrom_b24 r0 r1 r2) a = some x) : Sm A a.2.2 x ∧ Reg A x := by
  revert hA
  refine xloop_ind (P := fun a => Reg A a.2.2 → Sm A a.2.2 x ∧ Reg A x) (fun a y hf hc he => ?_) hf
  obtain ⟨x4, x5, σ⟩ := a
  intro hA
  have hA0 : Reg A σ := hA
  have hy : (∀ a' : Int32 × Int32 × XS, y = .inl a' → Sm A σ a'.2.2 ∧ Reg A a'.2.2) ∧ (∀ b1 : XS, y = .inr b1 → Sm A σ b1 ∧ Reg A b1) := by
    have hm := Sm.rf (A := A) (σ := σ)
    by_cases q : (289 : Int32) ≤ x5
    · have hf := xip q hf
      obtain ⟨b0, hg, e9⟩ := xmj hf
      subst e9
      have hf := hg
      refine ⟨fun a' e => xnc2 e, fun b e => ?_⟩
      have h9 := Sum.inr.inj e
      subst h9
      have hf := xsj hf
      subst hf
      exact ⟨hm, hA⟩
    · have hf := xin q hf
      by_cases q : x4 = (-1 : Int32)
      · have hf := xip q hf
        obtain ⟨b0, hg, e9⟩ := xmj hf
        subst e9
        have hf := hg
        refine ⟨fun a' e => xnc2 e, fun b e => ?_⟩
        have h9 := Sum.inr.inj e
        subst h9
        have hf := xsj hf
        subst hf
        exact ⟨hm, hA⟩
      · have hf := xin q hf
        obtain ⟨v2, e1, hf⟩ := xbd hf
        obtain ⟨σ4, e3, hf⟩ := xbd hf
        obtain ⟨hm9, hA⟩ := xpI_reg hA hr0 e3
        have hm := hm.tr hm9
        obtain ⟨v6, e5, hf⟩ := xbd hf
        obtain ⟨σ8, e7, hf⟩ := xbd hf
        obtain ⟨hm9, hA⟩ := xpI_reg hA hr0 e7
        have hm := hm.tr hm9
        obtain ⟨v10, e9, hf⟩ := xbd hf
        obtain ⟨_, e11, hf⟩ := xbd hf
        obtain ⟨v13, e12, hf⟩ := xbd hf
        have hf := xsj hf
        subst hf
        exact ⟨fun a' e => (by have h9 := Sum.inl.inj e; subst h9; exact ⟨hm, hA⟩), fun b e => xnc1 e⟩
  cases y with
  | inl a' =>
    obtain ⟨hm, hA1⟩ := hy.1 a' rfl
    have h1 := hc a' rfl hA1
    exact ⟨hm.tr (h1).1, (h1).2⟩
  | inr b =>
    have h1 := he b rfl
    subst h1
    exact hy.2 _ rfl
theorem n_X10_fallFrom {A : Nat → Prop} {σ : XS} {r0 : Nat} {r1 : Nat} {r2 : Nat} {x3 : Int32} {x : XS} (hA : Reg A σ) (hr0 : A r0) (hf : f_X10_fallFrom σ r0 r1 r2 x3 = some x) : Sm A σ x ∧ Reg A x := by
  have hm := Sm.rf (A := A) (σ := σ)
  obtain ⟨σ2, e1, hf⟩ := xbd hf
  obtain ⟨hm9, hA⟩ := xpI_reg hA hr0 e1
  have hm := hm.tr hm9
  obtain ⟨σ4, e3, hf⟩ := xbd hf
  obtain ⟨hm9, hA⟩ := xpI_reg hA hr0 e3
  have hm := hm.tr hm9
  obtain ⟨v6, e5, hf⟩ := xbd hf
  obtain ⟨_, e7, hf⟩ := xbd hf
  obtain ⟨v9, e8, hf⟩ := xbd hf
  exact ⟨hm.tr (n_X10_fallFrom_l24 (a := (v9, (0 : Int32), σ4)) hA hr0 hf).1, (n_X10_fallFrom_l24 (a := (v9, (0 : Int32), σ4)) hA hr0 hf).2⟩
theorem n_X10_strollFrom_l40 {A : Nat → Prop} {r0 : Nat} {r1 : Nat} {r2 : Nat} {x3 : Int32} {x4 : Int32} {a : Int32 × Int64 × Int32 × XS} {x : XS} (hA : Reg A a.2.2.2) (hr0 : A r0) (hf : xloop (f_X10_strollFrom_b40 r0 r1 r2 x3 x4) a = some x) : Sm A a.2.2.2 x ∧ Reg A x := by
  revert hA
  refine xloop_ind (P := fun a => Reg A a.2.2.2 → Sm A a.2.2.2 x ∧ Reg A x) (fun a y hf hc he => ?_) hf
  obtain ⟨x5, w6, x8, σ⟩ := a
  intro hA
  have hA0 : Reg A σ := hA
  have hy : (∀ a' : Int32 × Int64 × Int32 × XS, y = .inl a' → Sm A σ a'.2.2.2 ∧ Reg A a'.2.2.2) ∧ (∀ b1 : XS, y = .inr b1 → Sm A σ b1 ∧ Reg A b1) := by
    have hm := Sm.rf (A := A) (σ := σ)
    by_cases q : x3 ≤ x8
    · have hf := xip q hf
      obtain ⟨b0, hg, e9⟩ := xmj hf
      subst e9
      have hf := hg
      refine ⟨fun a' e => xnc2 e, fun b e => ?_⟩
      have h9 := Sum.inr.inj e
      subst h9
      have hf := xsj hf
      subst hf
      exact ⟨hm, hA⟩
    · have hf := xin q hf
      obtain ⟨v2, e1, hf⟩ := xbd hf
      obtain ⟨v4, e3, hf⟩ := xbd hf
      obtain ⟨v6, e5, hf⟩ := xbd hf
      obtain ⟨v8, e7, hf⟩ := xbd hf
      obtain ⟨v10, e9, hf⟩ := xbd hf
      obtain ⟨_, e11, hf⟩ := xbd hf
      obtain ⟨v13, e12, hf⟩ := xbd hf
      obtain ⟨_, e14, hf⟩ := xbd hf
      obtain ⟨v16, e15, hf⟩ := xbd hf
      by_cases q : v16 = 0
      · have hf := xip q hf
        obtain ⟨v18, e17, hf⟩ := xbd hf
        by_cases q : ((100 : Int32) - (x4 * v13)) ≤ v18
        · have hf := xip q hf
          have hf := xsj hf
          subst hf
          exact ⟨fun a' e => (by have h9 := Sum.inl.inj e; subst h9; exact ⟨hm, hA⟩), fun b e => xnc1 e⟩
        · have hf := xin q hf
          obtain ⟨v20, e19, hf⟩ := xbd hf
          obtain ⟨σ22, e21, hf⟩ := xbd hf
          obtain ⟨hm9, hA⟩ := xpI_reg hA hr0 e21
          have hm := hm.tr hm9
          obtain ⟨v24, e23, hf⟩ := xbd hf
          obtain ⟨σ26, e25, hf⟩ := xbd hf
          obtain ⟨hm9, hA⟩ := xpI_reg hA hr0 e25
          have hm := hm.tr hm9
          obtain ⟨v28, e27, hf⟩ := xbd hf
          obtain ⟨σ30, e29, hf⟩ := xbd hf
          obtain ⟨hm9, hA⟩ := xpI_reg hA hr0 e29
          have hm := hm.tr hm9
          have hf := xsj hf
          subst hf
          exact ⟨fun a' e => (by have h9 := Sum.inl.inj e; subst h9; exact ⟨hm, hA⟩), fun b e => xnc1 e⟩
      · have hf := xin q hf
        have hf := xsj hf
        subst hf
        exact ⟨fun a' e => (by have h9 := Sum.inl.inj e; subst h9; exact ⟨hm, hA⟩), fun b e => xnc1 e⟩
  cases y with
  | inl a' =>
    obtain ⟨hm, hA1⟩ := hy.1 a' rfl
    have h1 := hc a' rfl hA1
    exact ⟨hm.tr (h1).1, (h1).2⟩
  | inr b =>
    have h1 := he b rfl
    subst h1
    exact hy.2 _ rfl
theorem n_X10_strollFrom {A : Nat → Prop} {σ : XS} {r0 : Nat} {r1 : Nat} {r2 : Nat} {x3 : Int32} {x4 : Int32} {x : XS} (hA : Reg A σ) (hr0 : A r0) (hf : f_X10_strollFrom σ r0 r1 r2 x3 x4 = some x) : Sm A σ x ∧ Reg A x := by
  have hm := Sm.rf (A := A) (σ := σ)
  obtain ⟨v2, e1, hf⟩ := xbd hf
  obtain ⟨σ4, e3, hf⟩ := xbd hf
  obtain ⟨hm9, hA⟩ := xpI_reg hA hr0 e3
  have hm := hm.tr hm9
  obtain ⟨σ6, e5, hf⟩ := xbd hf
  obtain ⟨hm9, hA⟩ := xpI_reg hA hr0 e5
  have hm := hm.tr hm9
  obtain ⟨v8, e7, hf⟩ := xbd hf
  obtain ⟨_, e9, hf⟩ := xbd hf
  obtain ⟨v11, e10, hf⟩ := xbd hf
  obtain ⟨σ13, e12, hf⟩ := xbd hf
  obtain ⟨hm9, hA⟩ := xpI_reg hA hr0 e12
  have hm := hm.tr hm9
  obtain ⟨v15, e14, hf⟩ := xbd hf
  exact ⟨hm.tr (n_X10_strollFrom_l40 (a := (v11, v15.toInt64, (0 : Int32), σ13)) hA hr0 hf).1, (n_X10_strollFrom_l40 (a := (v11, v15.toInt64, (0 : Int32), σ13)) hA hr0 hf).2⟩
theorem n_X11_back {A : Nat → Prop} {σ : XS} {r0 : Nat} {x1 : Int32} {x : Int32 × XS} (hA : Reg A σ) (hr0 : A r0) (hf : f_X11_back σ r0 x1 = some x) : Sm A σ x.2 ∧ Reg A x.2 := by
  have hm := Sm.rf (A := A) (σ := σ)
  by_cases q : x1 < 0
  · have hf := xip q hf
    have hf := xsj hf
    subst hf
    exact ⟨hm, hA⟩
  · have hf := xin q hf
    obtain ⟨z2, e1, hf⟩ := xbd hf
    obtain ⟨v4, e3, hf⟩ := xbd hf
    by_cases q : x1 ≤ v4
    · have hf := xip q hf
      obtain ⟨z6, e5, hf⟩ := xbd hf
      have hz6 := xgR_reg rfl hA hr0 e5
      obtain ⟨v8, e7, hf⟩ := xbd hf
      obtain ⟨σ10, e9, hf⟩ := xbd hf
      obtain ⟨hm9, hA⟩ := xpI_reg hA hz6 e9
      have hm := hm.tr hm9
      obtain ⟨z12, e11, hf⟩ := xbd hf
      obtain ⟨v14, e13, hf⟩ := xbd hf
      have hf := xsj hf
      subst hf
      exact ⟨hm, hA⟩
    · have hf := xin q hf
      have hf := xsj hf
      subst hf
      exact ⟨hm, hA⟩
theorem n_X11_energiesNow_j49 {A : Nat → Prop} {σ : XS} {r0 : Nat} {x : Nat × XS} (hA : RegN A σ) (hr0 : A r0) (hf : f_X11_energiesNow_j49 σ r0 = some x) : Sm A σ x.2 ∧ RegN A x.2 ∧ (x.1 ≠ 0 → A x.1) := by
  have hm := Sm.rf (A := A) (σ := σ)
  obtain ⟨z2, e1, hf⟩ := xbd hf
  have hz2 := xgR_reg rfl hA.1 hr0 e1
  obtain ⟨z4, e3, hf⟩ := xbd hf
  obtain ⟨v6, e5, hf⟩ := xbd hf
  obtain ⟨σ8, e7, hf⟩ := xbd hf
  obtain ⟨hm9, hB⟩ := xpI_reg hA.1 hz2 e7
  have hA := RegN.step hA hB (xpI_same e7).ext
  have hm := hm.tr hm9
  obtain ⟨z10, e9, hf⟩ := xbd hf
  have hz10 := xgR_reg rfl hA.1 hr0 e9
  obtain ⟨_, e11, hf⟩ := xbd hf
  have hf := xsj hf
  subst hf
  exact ⟨hm, hA, fun _ => hz10⟩
theorem n_X11_energiesNow {A : Nat → Prop} {σ : XS} {r0 : Nat} {x : Nat × XS} (hA : RegN A σ) (hr0 : A r0) (hf : f_X11_energiesNow σ r0 = some x) : Sm A σ x.2 ∧ RegN A x.2 ∧ (x.1 ≠ 0 → A x.1) := by
  have hm := Sm.rf (A := A) (σ := σ)
  obtain ⟨z2, e1, hf⟩ := xbd hf
  obtain ⟨v4, e3, hf⟩ := xbd hf
  obtain ⟨z6, e5, hf⟩ := xbd hf
  obtain ⟨v8, e7, hf⟩ := xbd hf
  by_cases q : v4 = v8
  · have hf := xip q hf
    obtain ⟨z10, e9, hf⟩ := xbd hf
    have hz10 := xgR_reg rfl hA.1 hr0 e9
    obtain ⟨_, e11, hf⟩ := xbd hf
    have hf := xsj hf
    subst hf
    exact ⟨hm, hA, fun _ => hz10⟩
  · have hf := xin q hf
    obtain ⟨z10, e9, hf⟩ := xbd hf
    have hz10 := xgR_reg rfl hA.1 hr0 e9
    obtain ⟨z12, e11, hf⟩ := xbd hf
    obtain ⟨z14, e13, hf⟩ := xbd hf
    obtain ⟨z16, e15, hf⟩ := xbd hf
    obtain ⟨z18, e17, hf⟩ := xbd hf
    obtain ⟨z20, e19, hf⟩ := xbd hf
    obtain ⟨z22, e21, hf⟩ := xbd hf
    obtain ⟨v24, e23, hf⟩ := xbd hf
    obtain ⟨_, e25, hf⟩ := xbd hf
    obtain ⟨σ27, e26, hf⟩ := xbd hf
    obtain ⟨hm9, hA⟩ := n_X2_fill hA hz10 e26
    have hm := hm.tr hm9
    exact ⟨hm.tr (n_X11_energiesNow_j49 hA hr0 hf).1, (n_X11_energiesNow_j49 hA hr0 hf).2⟩
theorem n_X4_listLevels_l7 {A : Nat → Prop} {r0 : Nat} {a : Int32 × XS} {x : XS} (hA : Reg A a.2) (hr0 : A r0) (hf : xloop (f_X4_listLevels_b7 r0) a = some x) : Sm A a.2 x ∧ Reg A x := by
  revert hA
  refine xloop_ind (P := fun a => Reg A a.2 → Sm A a.2 x ∧ Reg A x) (fun a y hf hc he => ?_) hf
  obtain ⟨x1, σ⟩ := a
  intro hA
  have hA0 : Reg A σ := hA
  have hy : (∀ a' : Int32 × XS, y = .inl a' → Sm A σ a'.2 ∧ Reg A a'.2) ∧ (∀ b1 : XS, y = .inr b1 → Sm A σ b1 ∧ Reg A b1) := by
    have hm := Sm.rf (A := A) (σ := σ)
    by_cases q : (289 : Int32) ≤ x1
    · have hf := xip q hf
      obtain ⟨b0, hg, e9⟩ := xmj hf
      subst e9
      have hf := hg
      refine ⟨fun a' e => xnc2 e, fun b e => ?_⟩
      have h9 := Sum.inr.inj e
      subst h9
      have hf := xsj hf
      subst hf
      exact ⟨hm, hA⟩
    · have hf := xin q hf
      obtain ⟨z2, e1, hf⟩ := xbd hf
      obtain ⟨v4, e3, hf⟩ := xbd hf
      by_cases q : v4 ≤ 0
      · have hf := xip q hf
        have hf := xsj hf
        subst hf
        exact ⟨fun a' e => (by have h9 := Sum.inl.inj e; subst h9; exact ⟨hm, hA⟩), fun b e => xnc1 e⟩
      · have hf := xin q hf
        obtain ⟨z6, e5, hf⟩ := xbd hf
        have hz6 := xgR_reg rfl hA hr0 e5
        obtain ⟨v8, e7, hf⟩ := xbd hf
        obtain ⟨σ10, e9, hf⟩ := xbd hf
        obtain ⟨hm9, hA⟩ := xsI_reg hA hz6 e9
        have hm := hm.tr hm9
        obtain ⟨v12, e11, hf⟩ := xbd hf
        obtain ⟨σ14, e13, hf⟩ := xbd hf
        obtain ⟨hm9, hA⟩ := xpI_reg hA hr0 e13
        have hm := hm.tr hm9
        have hf := xsj hf
        subst hf
        exact ⟨fun a' e => (by have h9 := Sum.inl.inj e; subst h9; exact ⟨hm, hA⟩), fun b e => xnc1 e⟩
  cases y with
  | inl a' =>
    obtain ⟨hm, hA1⟩ := hy.1 a' rfl
    have h1 := hc a' rfl hA1
    exact ⟨hm.tr (h1).1, (h1).2⟩
  | inr b =>
    have h1 := he b rfl
    subst h1
    exact hy.2 _ rfl
theorem n_X4_listLevels {A : Nat → Prop} {σ : XS} {r0 : Nat} {x : XS} (hA : Reg A σ) (hr0 : A r0) (hf : f_X4_listLevels σ r0 = some x) : Sm A σ x ∧ Reg A x := by
  have hm := Sm.rf (A := A) (σ := σ)
  obtain ⟨σ2, e1, hf⟩ := xbd hf
  obtain ⟨hm9, hA⟩ := xpI_reg hA hr0 e1
  have hm := hm.tr hm9
  exact ⟨hm.tr (n_X4_listLevels_l7 (a := ((0 : Int32), σ2)) hA hr0 hf).1, (n_X4_listLevels_l7 (a := ((0 : Int32), σ2)) hA hr0 hf).2⟩
theorem n_X4_gather_l21 {A : Nat → Prop} {r0 : Nat} {r1 : Nat} {r2 : Nat} {a : Int32 × XS} {x : XS} (hA : Reg A a.2) (hr0 : A r0) (hf : xloop (f_X4_gather_b21 r0 r1 r2) a = some x) : Sm A a.2 x ∧ Reg A x := by
  revert hA
  refine xloop_ind (P := fun a => Reg A a.2 → Sm A a.2 x ∧ Reg A x) (fun a y hf hc he => ?_) hf
  obtain ⟨x4, σ⟩ := a
  intro hA
  have hA0 : Reg A σ := hA
  have hy : (∀ a' : Int32 × XS, y = .inl a' → Sm A σ a'.2 ∧ Reg A a'.2) ∧ (∀ b1 : XS, y = .inr b1 → Sm A σ b1 ∧ Reg A b1) := by
    have hm := Sm.rf (A := A) (σ := σ)
    by_cases q : x4 < 0
    · have hf := xip q hf
      obtain ⟨b0, hg, e9⟩ := xmj hf
      subst e9
      have hf := hg
      refine ⟨fun a' e => xnc2 e, fun b e => ?_⟩
      have h9 := Sum.inr.inj e
      subst h9
      obtain ⟨_, e1, hf⟩ := xbd hf
      obtain ⟨σ3, e2, hf⟩ := xbd hf
      obtain ⟨hm9, hA⟩ := n_X4_listLevels hA hr0 e2
      have hm := hm.tr hm9
      have hf := xsj hf
      subst hf
      exact ⟨hm, hA⟩
    · have hf := xin q hf
      obtain ⟨_, e1, hf⟩ := xbd hf
      obtain ⟨v3, e2, hf⟩ := xbd hf
      obtain ⟨v5, e4, hf⟩ := xbd hf
      obtain ⟨_, e6, hf⟩ := xbd hf
      obtain ⟨v8, e7, hf⟩ := xbd hf
      by_cases q : v8 = 0
      · have hf := xip q hf
        have hf := xsj hf
        subst hf
        exact ⟨fun a' e => (by have h9 := Sum.inl.inj e; subst h9; exact ⟨hm, hA⟩), fun b e => xnc1 e⟩
      · have hf := xin q hf
        by_cases q : (v3 + (144 : Int32)) < 0
        · have hf := xip q hf
          have hf := xsj hf
          subst hf
          exact ⟨fun a' e => (by have h9 := Sum.inl.inj e; subst h9; exact ⟨hm, hA⟩), fun b e => xnc1 e⟩
        · have hf := xin q hf
          by_cases q : (289 : Int32) ≤ (v3 + (144 : Int32))
          · have hf := xip q hf
            have hf := xsj hf
            subst hf
            exact ⟨fun a' e => (by have h9 := Sum.inl.inj e; subst h9; exact ⟨hm, hA⟩), fun b e => xnc1 e⟩
          · have hf := xin q hf
            by_cases q : (17 : Int32) ≤ v5
            · have hf := xip q hf
              have hf := xsj hf
              subst hf
              exact ⟨fun a' e => (by have h9 := Sum.inl.inj e; subst h9; exact ⟨hm, hA⟩), fun b e => xnc1 e⟩
            · have hf := xin q hf
              obtain ⟨z10, e9, hf⟩ := xbd hf
              have hz10 := xgR_reg rfl hA hr0 e9
              obtain ⟨σ12, e11, hf⟩ := xbd hf
              obtain ⟨hm9, hA⟩ := xsI_reg hA hz10 e11
              have hm := hm.tr hm9
              obtain ⟨z14, e13, hf⟩ := xbd hf
              have hz14 := xgR_reg rfl hA hr0 e13
              obtain ⟨v16, e15, hf⟩ := xbd hf
              obtain ⟨σ18, e17, hf⟩ := xbd hf
              obtain ⟨hm9, hA⟩ := xsI_reg hA hz14 e17
              have hm := hm.tr hm9
              obtain ⟨z20, e19, hf⟩ := xbd hf
              have hz20 := xgR_reg rfl hA hr0 e19
              obtain ⟨v22, e21, hf⟩ := xbd hf
              obtain ⟨σ24, e23, hf⟩ := xbd hf
              obtain ⟨hm9, hA⟩ := xsI_reg hA hz20 e23
              have hm := hm.tr hm9
              have hf := xsj hf
              subst hf
              exact ⟨fun a' e => (by have h9 := Sum.inl.inj e; subst h9; exact ⟨hm, hA⟩), fun b e => xnc1 e⟩
  cases y with
  | inl a' =>
    obtain ⟨hm, hA1⟩ := hy.1 a' rfl
    have h1 := hc a' rfl hA1
    exact ⟨hm.tr (h1).1, (h1).2⟩
  | inr b =>
    have h1 := he b rfl
    subst h1
    exact hy.2 _ rfl
theorem n_X4_gather {A : Nat → Prop} {σ : XS} {r0 : Nat} {r1 : Nat} {r2 : Nat} {x3 : Int32} {x : XS} (hA : Reg A σ) (hr0 : A r0) (hf : f_X4_gather σ r0 r1 r2 x3 = some x) : Sm A σ x ∧ Reg A x := by
  have hm := Sm.rf (A := A) (σ := σ)
  obtain ⟨z2, e1, hf⟩ := xbd hf
  have hz2 := xgR_reg rfl hA hr0 e1
  obtain ⟨σ4, e3, hf⟩ := xbd hf
  obtain ⟨hm9, hA⟩ := n_J7_fill_53178 hA hz2 e3
  have hm := hm.tr hm9
  obtain ⟨z6, e5, hf⟩ := xbd hf
  have hz6 := xgR_reg rfl hA hr0 e5
  obtain ⟨σ8, e7, hf⟩ := xbd hf
  obtain ⟨hm9, hA⟩ := n_J7_fill_53178 hA hz6 e7
  have hm := hm.tr hm9
  exact ⟨hm.tr (n_X4_gather_l21 (a := (x3 - (1 : Int32), σ8)) hA hr0 hf).1, (n_X4_gather_l21 (a := (x3 - (1 : Int32), σ8)) hA hr0 hf).2⟩
theorem n_X11_levelsNow_j4 {A : Nat → Prop} {σ : XS} {r0 : Nat} {t0 : Nat} {x : Nat × XS} (hA : RegN A σ) (hr0 : A r0) (hf : f_X11_levelsNow_j4 σ r0 t0 = some x) : Sm A σ x.2 ∧ RegN A x.2 ∧ (x.1 ≠ 0 → A x.1) := by
  have hm := Sm.rf (A := A) (σ := σ)
  obtain ⟨z2, e1, hf⟩ := xbd hf
  obtain ⟨v4, e3, hf⟩ := xbd hf
  obtain ⟨z6, e5, hf⟩ := xbd hf
  obtain ⟨v8, e7, hf⟩ := xbd hf
  by_cases q : v4 = v8
  · have hf := xip q hf
    obtain ⟨z10, e9, hf⟩ := xbd hf
    have hz10 := xgR_reg rfl hA.1 hr0 e9
    obtain ⟨_, e11, hf⟩ := xbd hf
    have hf := xsj hf
    subst hf
    exact ⟨hm, hA, fun _ => hz10⟩
  · have hf := xin q hf
    obtain ⟨z10, e9, hf⟩ := xbd hf
    have hz10 := xgR_reg rfl hA.1 hr0 e9
    obtain ⟨z12, e11, hf⟩ := xbd hf
    obtain ⟨z14, e13, hf⟩ := xbd hf
    obtain ⟨z16, e15, hf⟩ := xbd hf
    obtain ⟨_, e17, hf⟩ := xbd hf
    obtain ⟨v19, e18, hf⟩ := xbd hf
    obtain ⟨_, e20, hf⟩ := xbd hf
    obtain ⟨σ22, e21, hf⟩ := xbd hf
    obtain ⟨hm9, hB⟩ := n_X4_gather hA.1 hz10 e21
    have hA := RegN.step hA hB (m_X4_gather e21).ext
    have hm := hm.tr hm9
    obtain ⟨z24, e23, hf⟩ := xbd hf
    have hz24 := xgR_reg rfl hA.1 hr0 e23
    obtain ⟨z26, e25, hf⟩ := xbd hf
    obtain ⟨v28, e27, hf⟩ := xbd hf
    obtain ⟨σ30, e29, hf⟩ := xbd hf
    obtain ⟨hm9, hB⟩ := xpI_reg hA.1 hz24 e29
    have hA := RegN.step hA hB (xpI_same e29).ext
    have hm := hm.tr hm9
    obtain ⟨z32, e31, hf⟩ := xbd hf
    have hz32 := xgR_reg rfl hA.1 hr0 e31
    obtain ⟨_, e33, hf⟩ := xbd hf
    have hf := xsj hf
    subst hf
    exact ⟨hm, hA, fun _ => hz32⟩
theorem n_X11_levelsNow {A : Nat → Prop} {σ : XS} {r0 : Nat} {x : Nat × XS} (hA : RegN A σ) (hr0 : A r0) (hf : f_X11_levelsNow σ r0 = some x) : Sm A σ x.2 ∧ RegN A x.2 ∧ (x.1 ≠ 0 → A x.1) := by
  have hm := Sm.rf (A := A) (σ := σ)
  obtain ⟨_, e1, hf⟩ := xbd hf
  obtain ⟨⟨z4, σ3⟩, e2, hf⟩ := xbd hf
  dsimp only at hf
  obtain ⟨hm9, hA, hz40⟩ := n_X11_energiesNow hA hr0 e2
  have hm := hm.tr hm9
  obtain ⟨_, e5, hf⟩ := xbd hf
  have hz4 := hz40 (xnz_spec e5)
  exact ⟨hm.tr (n_X11_levelsNow_j4 hA hr0 hf).1, (n_X11_levelsNow_j4 hA hr0 hf).2⟩
theorem n_X9_putInOrder {A : Nat → Prop} {σ : XS} {r0 : Nat} {x1 : Int32} {x2 : Int32} {x : XS} (hA : Reg A σ) (hr0 : A r0) (hf : f_X9_putInOrder σ r0 x1 x2 = some x) : Sm A σ x ∧ Reg A x := by
  have hm := Sm.rf (A := A) (σ := σ)
  by_cases q : x2 < 0
  · have hf := xip q hf
    have hf := xsj hf
    subst hf
    exact ⟨hm, hA⟩
  · have hf := xin q hf
    by_cases q : (289 : Int32) ≤ x2
    · have hf := xip q hf
      have hf := xsj hf
      subst hf
      exact ⟨hm, hA⟩
    · have hf := xin q hf
      obtain ⟨z2, e1, hf⟩ := xbd hf
      obtain ⟨v4, e3, hf⟩ := xbd hf
      by_cases q : v4 < 0
      · have hf := xip q hf
        have hf := xsj hf
        subst hf
        exact ⟨hm, hA⟩
      · have hf := xin q hf
        obtain ⟨z6, e5, hf⟩ := xbd hf
        obtain ⟨v8, e7, hf⟩ := xbd hf
        by_cases q : (1024 : Int32) ≤ v8
        · have hf := xip q hf
          have hf := xsj hf
          subst hf
          exact ⟨hm, hA⟩
        · have hf := xin q hf
          obtain ⟨z10, e9, hf⟩ := xbd hf
          have hz10 := xgR_reg rfl hA hr0 e9
          obtain ⟨z12, e11, hf⟩ := xbd hf
          obtain ⟨v14, e13, hf⟩ := xbd hf
          obtain ⟨σ16, e15, hf⟩ := xbd hf
          obtain ⟨hm9, hA⟩ := xsI_reg hA hz10 e15
          have hm := hm.tr hm9
          obtain ⟨z18, e17, hf⟩ := xbd hf
          have hz18 := xgR_reg rfl hA hr0 e17
          obtain ⟨v20, e19, hf⟩ := xbd hf
          obtain ⟨σ22, e21, hf⟩ := xbd hf
          obtain ⟨hm9, hA⟩ := xsI_reg hA hz18 e21
          have hm := hm.tr hm9
          have hf := xsj hf
          subst hf
          exact ⟨hm, hA⟩
theorem n_X9_sort_l96 {A : Nat → Prop} {r0 : Nat} {r1 : Nat} {r3 : Nat} {x5 : Int32} {a : Int32 × XS} {x : XS} (hA : Reg A a.2) (hr0 : A r0) (hf : xloop (f_X9_sort_b96 r0 r1 r3 x5) a = some x) : Sm A a.2 x ∧ Reg A x := by
  revert hA
  refine xloop_ind (P := fun a => Reg A a.2 → Sm A a.2 x ∧ Reg A x) (fun a y hf hc he => ?_) hf
  obtain ⟨x6, σ⟩ := a
  intro hA
  have hA0 : Reg A σ := hA
  have hy : (∀ a' : Int32 × XS, y = .inl a' → Sm A σ a'.2 ∧ Reg A a'.2) ∧ (∀ b1 : XS, y = .inr b1 → Sm A σ b1 ∧ Reg A b1) := by
    have hm := Sm.rf (A := A) (σ := σ)
    by_cases q : x5 ≤ x6
    · have hf := xip q hf
      obtain ⟨b0, hg, e9⟩ := xmj hf
      subst e9
      have hf := hg
      refine ⟨fun a' e => xnc2 e, fun b e => ?_⟩
      have h9 := Sum.inr.inj e
      subst h9
      have hf := xsj hf
      subst hf
      exact ⟨hm, hA⟩
    · have hf := xin q hf
      obtain ⟨_, e1, hf⟩ := xbd hf
      obtain ⟨v3, e2, hf⟩ := xbd hf
      by_cases q : v3 = 0
      · have hf := xip q hf
        have hf := xsj hf
        subst hf
        exact ⟨fun a' e => (by have h9 := Sum.inl.inj e; subst h9; exact ⟨hm, hA⟩), fun b e => xnc1 e⟩
      · have hf := xin q hf
        obtain ⟨_, e4, hf⟩ := xbd hf
        obtain ⟨v6, e5, hf⟩ := xbd hf
        obtain ⟨_, e7, hf⟩ := xbd hf
        obtain ⟨σ9, e8, hf⟩ := xbd hf
        obtain ⟨hm9, hA⟩ := n_X9_putInOrder hA hr0 e8
        have hm := hm.tr hm9
        have hf := xsj hf
        subst hf
        exact ⟨fun a' e => (by have h9 := Sum.inl.inj e; subst h9; exact ⟨hm, hA⟩), fun b e => xnc1 e⟩
  cases y with
  | inl a' =>
    obtain ⟨hm, hA1⟩ := hy.1 a' rfl
    have h1 := hc a' rfl hA1
    exact ⟨hm.tr (h1).1, (h1).2⟩
  | inr b =>
    have h1 := he b rfl
    subst h1
    exact hy.2 _ rfl
theorem n_X9_sort_l24 {A : Nat → Prop} {r0 : Nat} {r1 : Nat} {r2 : Nat} {r3 : Nat} {a : Int32 × XS} {x : XS} (hA : Reg A a.2) (hr0 : A r0) (hf : xloop (f_X9_sort_b24 r0 r1 r2 r3) a = some x) : Sm A a.2 x ∧ Reg A x := by
  revert hA
  refine xloop_ind (P := fun a => Reg A a.2 → Sm A a.2 x ∧ Reg A x) (fun a y hf hc he => ?_) hf
  obtain ⟨x5, σ⟩ := a
  intro hA
  have hA0 : Reg A σ := hA
  have hy : (∀ a' : Int32 × XS, y = .inl a' → Sm A σ a'.2 ∧ Reg A a'.2) ∧ (∀ b1 : XS, y = .inr b1 → Sm A σ b1 ∧ Reg A b1) := by
    have hm := Sm.rf (A := A) (σ := σ)
    by_cases q : (289 : Int32) ≤ x5
    · have hf := xip q hf
      obtain ⟨b0, hg, e9⟩ := xmj hf
      subst e9
      have hf := hg
      refine ⟨fun a' e => xnc2 e, fun b e => ?_⟩
      have h9 := Sum.inr.inj e
      subst h9
      obtain ⟨v2, e1, hf⟩ := xbd hf
      by_cases q : v2 ≤ 0
      · have hf := xip q hf
        exact ⟨hm.tr (n_X9_sort_l96 (a := ((0 : Int32), σ)) hA hr0 hf).1, (n_X9_sort_l96 (a := ((0 : Int32), σ)) hA hr0 hf).2⟩
      · have hf := xin q hf
        obtain ⟨v4, e3, hf⟩ := xbd hf
        by_cases q : (10 : Int32) < v4
        · have hf := xip q hf
          exact ⟨hm.tr (n_X9_sort_l96 (a := ((0 : Int32), σ)) hA hr0 hf).1, (n_X9_sort_l96 (a := ((0 : Int32), σ)) hA hr0 hf).2⟩
        · have hf := xin q hf
          obtain ⟨v6, e5, hf⟩ := xbd hf
          exact ⟨hm.tr (n_X9_sort_l96 (a := ((0 : Int32), σ)) hA hr0 hf).1, (n_X9_sort_l96 (a := ((0 : Int32), σ)) hA hr0 hf).2⟩
    · have hf := xin q hf
      obtain ⟨z2, e1, hf⟩ := xbd hf
      have hz2 := xgR_reg rfl hA hr0 e1
      obtain ⟨v4, e3, hf⟩ := xbd hf
      obtain ⟨σ6, e5, hf⟩ := xbd hf
      obtain ⟨hm9, hA⟩ := xsI_reg hA hz2 e5
      have hm := hm.tr hm9
      obtain ⟨v8, e7, hf⟩ := xbd hf
      obtain ⟨z10, e9, hf⟩ := xbd hf
      obtain ⟨v12, e11, hf⟩ := xbd hf
      obtain ⟨σ14, e13, hf⟩ := xbd hf
      obtain ⟨hm9, hA⟩ := xpI_reg hA hr0 e13
      have hm := hm.tr hm9
      have hf := xsj hf
      subst hf
      exact ⟨fun a' e => (by have h9 := Sum.inl.inj e; subst h9; exact ⟨hm, hA⟩), fun b e => xnc1 e⟩
  cases y with
  | inl a' =>
    obtain ⟨hm, hA1⟩ := hy.1 a' rfl
    have h1 := hc a' rfl hA1
    exact ⟨hm.tr (h1).1, (h1).2⟩
  | inr b =>
    have h1 := he b rfl
    subst h1
    exact hy.2 _ rfl
theorem n_X9_sort {A : Nat → Prop} {σ : XS} {r0 : Nat} {r1 : Nat} {r2 : Nat} {r3 : Nat} {x4 : Int32} {x : XS} (hA : Reg A σ) (hr0 : A r0) (hf : f_X9_sort σ r0 r1 r2 r3 x4 = some x) : Sm A σ x ∧ Reg A x := by
  have hm := Sm.rf (A := A) (σ := σ)
  obtain ⟨_, e1, hf⟩ := xbd hf
  obtain ⟨σ3, e2, hf⟩ := xbd hf
  obtain ⟨hm9, hA⟩ := xpR_regB rfl hA hr0 e2
  have hm := hm.tr hm9
  obtain ⟨_, e4, hf⟩ := xbd hf
  obtain ⟨σ6, e5, hf⟩ := xbd hf
  obtain ⟨hm9, hA⟩ := xpR_regB rfl hA hr0 e5
  have hm := hm.tr hm9
  obtain ⟨σ8, e7, hf⟩ := xbd hf
  obtain ⟨hm9, hA⟩ := xpI_reg hA hr0 e7
  have hm := hm.tr hm9
  obtain ⟨σ10, e9, hf⟩ := xbd hf
  obtain ⟨hm9, hA⟩ := xpI_reg hA hr0 e9
  have hm := hm.tr hm9
  exact ⟨hm.tr (n_X9_sort_l24 (a := ((0 : Int32), σ10)) hA hr0 hf).1, (n_X9_sort_l24 (a := ((0 : Int32), σ10)) hA hr0 hf).2⟩
theorem n_X11_terrainNow_j4 {A : Nat → Prop} {σ : XS} {r0 : Nat} {t0 : Nat} {x : Nat × XS} (hA : RegN A σ) (hr0 : A r0) (hf : f_X11_terrainNow_j4 σ r0 t0 = some x) : Sm A σ x.2 ∧ RegN A x.2 ∧ (x.1 ≠ 0 → A x.1) := by
  have hm := Sm.rf (A := A) (σ := σ)
  obtain ⟨z2, e1, hf⟩ := xbd hf
  obtain ⟨v4, e3, hf⟩ := xbd hf
  obtain ⟨z6, e5, hf⟩ := xbd hf
  obtain ⟨v8, e7, hf⟩ := xbd hf
  by_cases q : v4 = v8
  · have hf := xip q hf
    obtain ⟨z10, e9, hf⟩ := xbd hf
    have hz10 := xgR_reg rfl hA.1 hr0 e9
    obtain ⟨_, e11, hf⟩ := xbd hf
    have hf := xsj hf
    subst hf
    exact ⟨hm, hA, fun _ => hz10⟩
  · have hf := xin q hf
    obtain ⟨z10, e9, hf⟩ := xbd hf
    have hz10 := xgR_reg rfl hA.1 hr0 e9
    obtain ⟨z12, e11, hf⟩ := xbd hf
    obtain ⟨z14, e13, hf⟩ := xbd hf
    obtain ⟨z16, e15, hf⟩ := xbd hf
    obtain ⟨v18, e17, hf⟩ := xbd hf
    obtain ⟨_, e19, hf⟩ := xbd hf
    obtain ⟨σ21, e20, hf⟩ := xbd hf
    obtain ⟨hm9, hB⟩ := n_X9_sort hA.1 hz10 e20
    have hA := RegN.step hA hB (m_X9_sort e20).ext
    have hm := hm.tr hm9
    obtain ⟨z23, e22, hf⟩ := xbd hf
    have hz23 := xgR_reg rfl hA.1 hr0 e22
    obtain ⟨z25, e24, hf⟩ := xbd hf
    obtain ⟨v27, e26, hf⟩ := xbd hf
    obtain ⟨σ29, e28, hf⟩ := xbd hf
    obtain ⟨hm9, hB⟩ := xpI_reg hA.1 hz23 e28
    have hA := RegN.step hA hB (xpI_same e28).ext
    have hm := hm.tr hm9
    obtain ⟨z31, e30, hf⟩ := xbd hf
    have hz31 := xgR_reg rfl hA.1 hr0 e30
    obtain ⟨_, e32, hf⟩ := xbd hf
    have hf := xsj hf
    subst hf
    exact ⟨hm, hA, fun _ => hz31⟩
theorem n_X11_terrainNow {A : Nat → Prop} {σ : XS} {r0 : Nat} {x : Nat × XS} (hA : RegN A σ) (hr0 : A r0) (hf : f_X11_terrainNow σ r0 = some x) : Sm A σ x.2 ∧ RegN A x.2 ∧ (x.1 ≠ 0 → A x.1) := by
  have hm := Sm.rf (A := A) (σ := σ)
  obtain ⟨_, e1, hf⟩ := xbd hf
  obtain ⟨⟨z4, σ3⟩, e2, hf⟩ := xbd hf
  dsimp only at hf
  obtain ⟨hm9, hA, hz40⟩ := n_X11_levelsNow hA hr0 e2
  have hm := hm.tr hm9
  obtain ⟨_, e5, hf⟩ := xbd hf
  have hz4 := hz40 (xnz_spec e5)
  exact ⟨hm.tr (n_X11_terrainNow_j4 hA hr0 hf).1, (n_X11_terrainNow_j4 hA hr0 hf).2⟩
theorem n_X9_basinOf_j93 {A : Nat → Prop} {σ : XS} {r0 : Nat} {x1 : Int32} {x2 : Int32} {x3 : Int32} {x5 : Int32} {x : ((Int32 × Int32 × XS) ⊕ (Int32 × XS))} (hA : Reg A σ) (hf : f_X9_basinOf_j93 σ r0 x1 x2 x3 x5 = some x) : (∀ a' : Int32 × Int32 × XS, x = .inl a' → Sm A σ a'.2.2 ∧ Reg A a'.2.2) ∧ (∀ b1 : Int32 × XS, x = .inr b1 → Sm A σ b1.2 ∧ Reg A b1.2) := by
  have hm := Sm.rf (A := A) (σ := σ)
  by_cases q : x5 = x1
  · have hf := xip q hf
    have hf := xsj hf
    subst hf
    exact ⟨fun a' e => (by have h9 := Sum.inl.inj e; subst h9; exact ⟨hm, hA⟩), fun b e => xnc1 e⟩
  · have hf := xin q hf
    have hf := xsj hf
    subst hf
    exact ⟨fun a' e => (by have h9 := Sum.inl.inj e; subst h9; exact ⟨hm, hA⟩), fun b e => xnc1 e⟩
theorem n_X9_basinOf_j66 {A : Nat → Prop} {σ : XS} {r0 : Nat} {x1 : Int32} {x2 : Int32} {x3 : Int32} {t0 : Int32} {x : ((Int32 × Int32 × XS) ⊕ (Int32 × XS))} (hA : Reg A σ) (hr0 : A r0) (hf : f_X9_basinOf_j66 σ r0 x1 x2 x3 t0 = some x) : (∀ a' : Int32 × Int32 × XS, x = .inl a' → Sm A σ a'.2.2 ∧ Reg A a'.2.2) ∧ (∀ b1 : Int32 × XS, x = .inr b1 → Sm A σ b1.2 ∧ Reg A b1.2) := by
  have hm := Sm.rf (A := A) (σ := σ)
  obtain ⟨z2, e1, hf⟩ := xbd hf
  obtain ⟨v4, e3, hf⟩ := xbd hf
  obtain ⟨v6, e5, hf⟩ := xbd hf
  by_cases q : v6 = 0
  · have hf := xip q hf
    exact ⟨fun a' e => ⟨hm.tr ((n_X9_basinOf_j93 hA hf).1 a' e).1, ((n_X9_basinOf_j93 hA hf).1 a' e).2⟩, fun b1 eb1 => ⟨hm.tr ((n_X9_basinOf_j93 hA hf).2 b1 eb1).1, ((n_X9_basinOf_j93 hA hf).2 b1 eb1).2⟩⟩
  · have hf := xin q hf
    obtain ⟨z8, e7, hf⟩ := xbd hf
    have hz8 := xgR_reg rfl hA hr0 e7
    obtain ⟨z10, e9, hf⟩ := xbd hf
    obtain ⟨v12, e11, hf⟩ := xbd hf
    obtain ⟨σ14, e13, hf⟩ := xbd hf
    obtain ⟨hm9, hA⟩ := xsI_reg hA hz8 e13
    have hm := hm.tr hm9
    exact ⟨fun a' e => ⟨hm.tr ((n_X9_basinOf_j93 hA hf).1 a' e).1, ((n_X9_basinOf_j93 hA hf).1 a' e).2⟩, fun b1 eb1 => ⟨hm.tr ((n_X9_basinOf_j93 hA hf).2 b1 eb1).1, ((n_X9_basinOf_j93 hA hf).2 b1 eb1).2⟩⟩
theorem n_X9_basinOf_l4 {A : Nat → Prop} {r0 : Nat} {x1 : Int32} {a : Int32 × Int32 × XS} {x : Int32 × XS} (hA : Reg A a.2.2) (hr0 : A r0) (hf : xloop (f_X9_basinOf_b4 r0 x1) a = some x) : Sm A a.2.2 x.2 ∧ Reg A x.2 := by
  revert hA
  refine xloop_ind (P := fun a => Reg A a.2.2 → Sm A a.2.2 x.2 ∧ Reg A x.2) (fun a y hf hc he => ?_) hf
  obtain ⟨x2, x3, σ⟩ := a
  intro hA
  have hA0 : Reg A σ := hA
  have hy : (∀ a' : Int32 × Int32 × XS, y = .inl a' → Sm A σ a'.2.2 ∧ Reg A a'.2.2) ∧ (∀ b1 : Int32 × XS, y = .inr b1 → Sm A σ b1.2 ∧ Reg A b1.2) := by
    have hm := Sm.rf (A := A) (σ := σ)
    obtain ⟨v2, e1, hf⟩ := xbd hf
    by_cases q : v2 ≤ x3
    · have hf := xip q hf
      obtain ⟨b0, hg, e9⟩ := xmj hf
      subst e9
      have hf := hg
      refine ⟨fun a' e => xnc2 e, fun b e => ?_⟩
      have h9 := Sum.inr.inj e
      subst h9
      have hf := xsj hf
      subst hf
      exact ⟨hm, hA⟩
    · have hf := xin q hf
      by_cases q : (1024 : Int32) ≤ x3
      · have hf := xip q hf
        obtain ⟨b0, hg, e9⟩ := xmj hf
        subst e9
        have hf := hg
        refine ⟨fun a' e => xnc2 e, fun b e => ?_⟩
        have h9 := Sum.inr.inj e
        subst h9
        have hf := xsj hf
        subst hf
        exact ⟨hm, hA⟩
      · have hf := xin q hf
        obtain ⟨z4, e3, hf⟩ := xbd hf
        obtain ⟨v6, e5, hf⟩ := xbd hf
        obtain ⟨_, e7, hf⟩ := xbd hf
        obtain ⟨v9, e8, hf⟩ := xbd hf
        obtain ⟨z11, e10, hf⟩ := xbd hf
        obtain ⟨v13, e12, hf⟩ := xbd hf
        by_cases q : v9 = v13
        · have hf := xip q hf
          obtain ⟨z15, e14, hf⟩ := xbd hf
          obtain ⟨v17, e16, hf⟩ := xbd hf
          exact ⟨fun a' e => ⟨hm.tr ((n_X9_basinOf_j66 hA hr0 hf).1 a' e).1, ((n_X9_basinOf_j66 hA hr0 hf).1 a' e).2⟩, fun b1 eb1 => ⟨hm.tr ((n_X9_basinOf_j66 hA hr0 hf).2 b1 eb1).1, ((n_X9_basinOf_j66 hA hr0 hf).2 b1 eb1).2⟩⟩
        · have hf := xin q hf
          obtain ⟨v15, e14, hf⟩ := xbd hf
          by_cases q : v15 = 0
          · have hf := xip q hf
            obtain ⟨z17, e16, hf⟩ := xbd hf
            obtain ⟨v19, e18, hf⟩ := xbd hf
            exact ⟨fun a' e => ⟨hm.tr ((n_X9_basinOf_j66 hA hr0 hf).1 a' e).1, ((n_X9_basinOf_j66 hA hr0 hf).1 a' e).2⟩, fun b1 eb1 => ⟨hm.tr ((n_X9_basinOf_j66 hA hr0 hf).2 b1 eb1).1, ((n_X9_basinOf_j66 hA hr0 hf).2 b1 eb1).2⟩⟩
          · have hf := xin q hf
            obtain ⟨z17, e16, hf⟩ := xbd hf
            obtain ⟨v19, e18, hf⟩ := xbd hf
            exact ⟨fun a' e => ⟨hm.tr ((n_X9_basinOf_j66 hA hr0 hf).1 a' e).1, ((n_X9_basinOf_j66 hA hr0 hf).1 a' e).2⟩, fun b1 eb1 => ⟨hm.tr ((n_X9_basinOf_j66 hA hr0 hf).2 b1 eb1).1, ((n_X9_basinOf_j66 hA hr0 hf).2 b1 eb1).2⟩⟩
  cases y with
  | inl a' =>
    obtain ⟨hm, hA1⟩ := hy.1 a' rfl
    have h1 := hc a' rfl hA1
    exact ⟨hm.tr (h1).1, (h1).2⟩
  | inr b =>
    have h1 := he b rfl
    subst h1
    exact hy.2 _ rfl
theorem n_X9_basinOf {A : Nat → Prop} {σ : XS} {r0 : Nat} {x1 : Int32} {x : Int32 × XS} (hA : Reg A σ) (hr0 : A r0) (hf : f_X9_basinOf σ r0 x1 = some x) : Sm A σ x.2 ∧ Reg A x.2 := by
  have hm := Sm.rf (A := A) (σ := σ)
  exact ⟨hm.tr (n_X9_basinOf_l4 (a := ((0 : Int32), (0 : Int32), σ)) hA hr0 hf).1, (n_X9_basinOf_l4 (a := ((0 : Int32), (0 : Int32), σ)) hA hr0 hf).2⟩
theorem n_X11_basin_j22 {A : Nat → Prop} {σ : XS} {x1 : Int32} {t0 : Nat} {x : Int32 × XS} (hA : RegN A σ) (ht0 : A t0) (hf : f_X11_basin_j22 σ x1 t0 = some x) : Sm A σ x.2 ∧ RegN A x.2 := by
  have hm := Sm.rf (A := A) (σ := σ)
  obtain ⟨_, e1, hf⟩ := xbd hf
  obtain ⟨⟨v4, σ3⟩, e2, hf⟩ := xbd hf
  dsimp only at hf
  obtain ⟨hm9, hB⟩ := n_X9_basinOf hA.1 ht0 e2
  have hA := RegN.step hA hB (m_X9_basinOf e2).ext
  have hm := hm.tr hm9
  have hf := xsj hf
  subst hf
  exact ⟨hm, hA⟩
theorem n_X11_basin {A : Nat → Prop} {σ : XS} {r0 : Nat} {x1 : Int32} {x : Int32 × XS} (hA : RegN A σ) (hr0 : A r0) (hf : f_X11_basin σ r0 x1 = some x) : Sm A σ x.2 ∧ RegN A x.2 := by
  have hm := Sm.rf (A := A) (σ := σ)
  obtain ⟨_, e1, hf⟩ := xbd hf
  obtain ⟨v3, e2, hf⟩ := xbd hf
  by_cases q : v3 = 0
  · have hf := xip q hf
    have hf := xsj hf
    subst hf
    exact ⟨hm, hA⟩
  · have hf := xin q hf
    obtain ⟨_, e4, hf⟩ := xbd hf
    obtain ⟨v6, e5, hf⟩ := xbd hf
    by_cases q : v6 = 0
    · have hf := xip q hf
      have hf := xsj hf
      subst hf
      exact ⟨hm, hA⟩
    · have hf := xin q hf
      obtain ⟨_, e7, hf⟩ := xbd hf
      obtain ⟨⟨z10, σ9⟩, e8, hf⟩ := xbd hf
      dsimp only at hf
      obtain ⟨hm9, hA, hz100⟩ := n_X11_terrainNow hA hr0 e8
      have hm := hm.tr hm9
      obtain ⟨_, e11, hf⟩ := xbd hf
      have hz10 := hz100 (xnz_spec e11)
      exact ⟨hm.tr (n_X11_basin_j22 hA hz10 hf).1, (n_X11_basin_j22 hA hz10 hf).2⟩
theorem n_X3_addMate {A : Nat → Prop} {σ : XS} {r0 : Nat} {x1 : Int32} {x2 : Int32} {x3 : Int32} {x : XS} (hA : Reg A σ) (hr0 : A r0) (hf : f_X3_addMate σ r0 x1 x2 x3 = some x) : Sm A σ x ∧ Reg A x := by
  have hm := Sm.rf (A := A) (σ := σ)
  by_cases q : x1 < 0
  · have hf := xip q hf
    have hf := xsj hf
    subst hf
    exact ⟨hm, hA⟩
  · have hf := xin q hf
    by_cases q : (16 : Int32) ≤ x1
    · have hf := xip q hf
      have hf := xsj hf
      subst hf
      exact ⟨hm, hA⟩
    · have hf := xin q hf
      obtain ⟨z2, e1, hf⟩ := xbd hf
      obtain ⟨v4, e3, hf⟩ := xbd hf
      by_cases q : v4 < (4 : Int32)
      · have hf := xip q hf
        obtain ⟨z6, e5, hf⟩ := xbd hf
        obtain ⟨v8, e7, hf⟩ := xbd hf
        obtain ⟨z10, e9, hf⟩ := xbd hf
        have hz10 := xgR_reg rfl hA hr0 e9
        obtain ⟨σ12, e11, hf⟩ := xbd hf
        obtain ⟨hm9, hA⟩ := xsI_reg hA hz10 e11
        have hm := hm.tr hm9
        obtain ⟨z14, e13, hf⟩ := xbd hf
        have hz14 := xgR_reg rfl hA hr0 e13
        obtain ⟨σ16, e15, hf⟩ := xbd hf
        obtain ⟨hm9, hA⟩ := xsI_reg hA hz14 e15
        have hm := hm.tr hm9
        obtain ⟨z18, e17, hf⟩ := xbd hf
        have hz18 := xgR_reg rfl hA hr0 e17
        obtain ⟨v20, e19, hf⟩ := xbd hf
        obtain ⟨σ22, e21, hf⟩ := xbd hf
        obtain ⟨hm9, hA⟩ := xsI_reg hA hz18 e21
        have hm := hm.tr hm9
        have hf := xsj hf
        subst hf
        exact ⟨hm, hA⟩
      · have hf := xin q hf
        have hf := xsj hf
        subst hf
        exact ⟨hm, hA⟩
theorem n_X3_lay_l39 {A : Nat → Prop} {r0 : Nat} {a : Int32 × XS} {x : XS} (hA : Reg A a.2) (hr0 : A r0) (hf : xloop (f_X3_lay_b39 r0) a = some x) : Sm A a.2 x ∧ Reg A x := by
  revert hA
  refine xloop_ind (P := fun a => Reg A a.2 → Sm A a.2 x ∧ Reg A x) (fun a y hf hc he => ?_) hf
  obtain ⟨x4, σ⟩ := a
  intro hA
  have hA0 : Reg A σ := hA
  have hy : (∀ a' : Int32 × XS, y = .inl a' → Sm A σ a'.2 ∧ Reg A a'.2) ∧ (∀ b1 : XS, y = .inr b1 → Sm A σ b1 ∧ Reg A b1) := by
    have hm := Sm.rf (A := A) (σ := σ)
    by_cases q : (32 : Int32) ≤ x4
    · have hf := xip q hf
      obtain ⟨b0, hg, e9⟩ := xmj hf
      subst e9
      have hf := hg
      refine ⟨fun a' e => xnc2 e, fun b e => ?_⟩
      have h9 := Sum.inr.inj e
      subst h9
      have hf := xsj hf
      subst hf
      exact ⟨hm, hA⟩
    · have hf := xin q hf
      obtain ⟨z2, e1, hf⟩ := xbd hf
      have hz2 := xgR_reg rfl hA hr0 e1
      obtain ⟨v4, e3, hf⟩ := xbd hf
      obtain ⟨v6, e5, hf⟩ := xbd hf
      obtain ⟨v8, e7, hf⟩ := xbd hf
      obtain ⟨v10, e9, hf⟩ := xbd hf
      obtain ⟨σ12, e11, hf⟩ := xbd hf
      obtain ⟨hm9, hA⟩ := xsI_reg hA hz2 e11
      have hm := hm.tr hm9
      obtain ⟨z14, e13, hf⟩ := xbd hf
      obtain ⟨v16, e15, hf⟩ := xbd hf
      by_cases q : v16 = (-1 : Int32)
      · have hf := xip q hf
        have hf := xsj hf
        subst hf
        exact ⟨fun a' e => (by have h9 := Sum.inl.inj e; subst h9; exact ⟨hm, hA⟩), fun b e => xnc1 e⟩
      · have hf := xin q hf
        obtain ⟨v18, e17, hf⟩ := xbd hf
        obtain ⟨z20, e19, hf⟩ := xbd hf
        obtain ⟨v22, e21, hf⟩ := xbd hf
        obtain ⟨_, e23, hf⟩ := xbd hf
        obtain ⟨σ25, e24, hf⟩ := xbd hf
        obtain ⟨hm9, hA⟩ := n_X3_addMate hA hr0 e24
        have hm := hm.tr hm9
        obtain ⟨z27, e26, hf⟩ := xbd hf
        obtain ⟨v29, e28, hf⟩ := xbd hf
        obtain ⟨v31, e30, hf⟩ := xbd hf
        obtain ⟨_, e32, hf⟩ := xbd hf
        obtain ⟨σ34, e33, hf⟩ := xbd hf
        obtain ⟨hm9, hA⟩ := n_X3_addMate hA hr0 e33
        have hm := hm.tr hm9
        have hf := xsj hf
        subst hf
        exact ⟨fun a' e => (by have h9 := Sum.inl.inj e; subst h9; exact ⟨hm, hA⟩), fun b e => xnc1 e⟩
  cases y with
  | inl a' =>
    obtain ⟨hm, hA1⟩ := hy.1 a' rfl
    have h1 := hc a' rfl hA1
    exact ⟨hm.tr (h1).1, (h1).2⟩
  | inr b =>
    have h1 := he b rfl
    subst h1
    exact hy.2 _ rfl
theorem n_X3_lay {A : Nat → Prop} {σ : XS} {r0 : Nat} {x1 : Int32} {x2 : Int32} {x3 : Int32} {x : XS} (hA : Reg A σ) (hr0 : A r0) (hf : f_X3_lay σ r0 x1 x2 x3 = some x) : Sm A σ x ∧ Reg A x := by
  have hm := Sm.rf (A := A) (σ := σ)
  obtain ⟨σ2, e1, hf⟩ := xbd hf
  obtain ⟨hm9, hA⟩ := xpI_reg hA hr0 e1
  have hm := hm.tr hm9
  obtain ⟨σ4, e3, hf⟩ := xbd hf
  obtain ⟨hm9, hA⟩ := xpI_reg hA hr0 e3
  have hm := hm.tr hm9
  obtain ⟨σ6, e5, hf⟩ := xbd hf
  obtain ⟨hm9, hA⟩ := xpI_reg hA hr0 e5
  have hm := hm.tr hm9
  obtain ⟨v8, e7, hf⟩ := xbd hf
  obtain ⟨v10, e9, hf⟩ := xbd hf
  obtain ⟨σ12, e11, hf⟩ := xbd hf
  obtain ⟨hm9, hA⟩ := xpI_reg hA hr0 e11
  have hm := hm.tr hm9
  obtain ⟨z14, e13, hf⟩ := xbd hf
  have hz14 := xgR_reg rfl hA hr0 e13
  obtain ⟨σ16, e15, hf⟩ := xbd hf
  obtain ⟨hm9, hA⟩ := n_J7_fill_53178 hA hz14 e15
  have hm := hm.tr hm9
  exact ⟨hm.tr (n_X3_lay_l39 (a := ((0 : Int32), σ16)) hA hr0 hf).1, (n_X3_lay_l39 (a := ((0 : Int32), σ16)) hA hr0 hf).2⟩
theorem n_X6_copyFrom {A : Nat → Prop} {σ : XS} {r0 : Nat} {r1 : Nat} {x : XS} (hA : Reg A σ) (hr0 : A r0) (hf : f_X6_copyFrom σ r0 r1 = some x) : Sm A σ x ∧ Reg A x := by
  have hm := Sm.rf (A := A) (σ := σ)
  obtain ⟨z2, e1, hf⟩ := xbd hf
  obtain ⟨z4, e3, hf⟩ := xbd hf
  have hz4 := xgR_reg rfl hA hr0 e3
  obtain ⟨σ6, e5, hf⟩ := xbd hf
  obtain ⟨hm9, hA⟩ := xcp_reg hA hz4 e5
  have hm := hm.tr hm9
  obtain ⟨z8, e7, hf⟩ := xbd hf
  obtain ⟨z10, e9, hf⟩ := xbd hf
  have hz10 := xgR_reg rfl hA hr0 e9
  obtain ⟨σ12, e11, hf⟩ := xbd hf
  obtain ⟨hm9, hA⟩ := xcp_reg hA hz10 e11
  have hm := hm.tr hm9
  obtain ⟨v14, e13, hf⟩ := xbd hf
  obtain ⟨σ16, e15, hf⟩ := xbd hf
  obtain ⟨hm9, hA⟩ := xpI_reg hA hr0 e15
  have hm := hm.tr hm9
  obtain ⟨v18, e17, hf⟩ := xbd hf
  obtain ⟨σ20, e19, hf⟩ := xbd hf
  obtain ⟨hm9, hA⟩ := xpI_reg hA hr0 e19
  have hm := hm.tr hm9
  obtain ⟨v22, e21, hf⟩ := xbd hf
  obtain ⟨σ24, e23, hf⟩ := xbd hf
  obtain ⟨hm9, hA⟩ := xpI_reg hA hr0 e23
  have hm := hm.tr hm9
  obtain ⟨v26, e25, hf⟩ := xbd hf
  obtain ⟨σ28, e27, hf⟩ := xbd hf
  obtain ⟨hm9, hA⟩ := xpI_reg hA hr0 e27
  have hm := hm.tr hm9
  obtain ⟨v30, e29, hf⟩ := xbd hf
  obtain ⟨σ32, e31, hf⟩ := xbd hf
  obtain ⟨hm9, hA⟩ := xpI_reg hA hr0 e31
  have hm := hm.tr hm9
  obtain ⟨v34, e33, hf⟩ := xbd hf
  obtain ⟨σ36, e35, hf⟩ := xbd hf
  obtain ⟨hm9, hA⟩ := xpI_reg hA hr0 e35
  have hm := hm.tr hm9
  have hf := xsj hf
  subst hf
  exact ⟨hm, hA⟩
theorem n_X5_forget {A : Nat → Prop} {σ : XS} {r0 : Nat} {x : XS} (hA : Reg A σ) (hr0 : A r0) (hf : f_X5_forget σ r0 = some x) : Sm A σ x ∧ Reg A x := by
  have hm := Sm.rf (A := A) (σ := σ)
  obtain ⟨σ2, e1, hf⟩ := xbd hf
  obtain ⟨hm9, hA⟩ := xpI_reg hA hr0 e1
  have hm := hm.tr hm9
  obtain ⟨σ4, e3, hf⟩ := xbd hf
  obtain ⟨hm9, hA⟩ := xpI_reg hA hr0 e3
  have hm := hm.tr hm9
  have hf := xsj hf
  subst hf
  exact ⟨hm, hA⟩
theorem n_X11_stampTies {A : Nat → Prop} {σ : XS} {r0 : Nat} {x : XS} (hA : Reg A σ) (hr0 : A r0) (hf : f_X11_stampTies σ r0 = some x) : Sm A σ x ∧ Reg A x := by
  have hm := Sm.rf (A := A) (σ := σ)
  obtain ⟨v2, e1, hf⟩ := xbd hf
  obtain ⟨σ4, e3, hf⟩ := xbd hf
  obtain ⟨hm9, hA⟩ := xpI_reg hA hr0 e3
  have hm := hm.tr hm9
  obtain ⟨z6, e5, hf⟩ := xbd hf
  have hz6 := xgR_reg rfl hA hr0 e5
  obtain ⟨v8, e7, hf⟩ := xbd hf
  obtain ⟨σ10, e9, hf⟩ := xbd hf
  obtain ⟨hm9, hA⟩ := xpI_reg hA hz6 e9
  have hm := hm.tr hm9
  obtain ⟨z12, e11, hf⟩ := xbd hf
  have hz12 := xgR_reg rfl hA hr0 e11
  obtain ⟨v14, e13, hf⟩ := xbd hf
  obtain ⟨σ16, e15, hf⟩ := xbd hf
  obtain ⟨hm9, hA⟩ := xpI_reg hA hz12 e15
  have hm := hm.tr hm9
  have hf := xsj hf
  subst hf
  exact ⟨hm, hA⟩
theorem n_X11_beginAnew_l65 {A : Nat → Prop} {r0 : Nat} {a : Int32 × XS} {x : XS} (hA : Reg A a.2) (hr0 : A r0) (hf : xloop (f_X11_beginAnew_b65 r0) a = some x) : Sm A a.2 x ∧ Reg A x := by
  revert hA
  refine xloop_ind (P := fun a => Reg A a.2 → Sm A a.2 x ∧ Reg A x) (fun a y hf hc he => ?_) hf
  obtain ⟨x1, σ⟩ := a
  intro hA
  have hA0 : Reg A σ := hA
  have hy : (∀ a' : Int32 × XS, y = .inl a' → Sm A σ a'.2 ∧ Reg A a'.2) ∧ (∀ b1 : XS, y = .inr b1 → Sm A σ b1 ∧ Reg A b1) := by
    have hm := Sm.rf (A := A) (σ := σ)
    obtain ⟨z2, e1, hf⟩ := xbd hf
    obtain ⟨v4, e3, hf⟩ := xbd hf
    by_cases q : v4 ≤ x1
    · have hf := xip q hf
      obtain ⟨b0, hg, e9⟩ := xmj hf
      subst e9
      have hf := hg
      refine ⟨fun a' e => xnc2 e, fun b e => ?_⟩
      have h9 := Sum.inr.inj e
      subst h9
      obtain ⟨_, e5, hf⟩ := xbd hf
      obtain ⟨σ7, e6, hf⟩ := xbd hf
      obtain ⟨hm9, hA⟩ := n_X11_stampTies hA hr0 e6
      have hm := hm.tr hm9
      have hf := xsj hf
      subst hf
      exact ⟨hm, hA⟩
    · have hf := xin q hf
      obtain ⟨z6, e5, hf⟩ := xbd hf
      have hz6 := xgR_reg rfl hA hr0 e5
      obtain ⟨z8, e7, hf⟩ := xbd hf
      have hz8 := xaR_reg (by decide) hA hz6 e7
      obtain ⟨σ10, e9, hf⟩ := xbd hf
      obtain ⟨hm9, hA⟩ := xpI_reg hA hz8 e9
      have hm := hm.tr hm9
      have hf := xsj hf
      subst hf
      exact ⟨fun a' e => (by have h9 := Sum.inl.inj e; subst h9; exact ⟨hm, hA⟩), fun b e => xnc1 e⟩
  cases y with
  | inl a' =>
    obtain ⟨hm, hA1⟩ := hy.1 a' rfl
    have h1 := hc a' rfl hA1
    exact ⟨hm.tr (h1).1, (h1).2⟩
  | inr b =>
    have h1 := he b rfl
    subst h1
    exact hy.2 _ rfl
theorem n_X11_beginAnew {A : Nat → Prop} {σ : XS} {r0 : Nat} {x : XS} (hA : Reg A σ) (hr0 : A r0) (hf : f_X11_beginAnew σ r0 = some x) : Sm A σ x ∧ Reg A x := by
  have hm := Sm.rf (A := A) (σ := σ)
  obtain ⟨z2, e1, hf⟩ := xbd hf
  have hz2 := xgR_reg rfl hA hr0 e1
  obtain ⟨z4, e3, hf⟩ := xbd hf
  obtain ⟨v6, e5, hf⟩ := xbd hf
  obtain ⟨z8, e7, hf⟩ := xbd hf
  obtain ⟨v10, e9, hf⟩ := xbd hf
  obtain ⟨z12, e11, hf⟩ := xbd hf
  obtain ⟨v14, e13, hf⟩ := xbd hf
  obtain ⟨_, e15, hf⟩ := xbd hf
  obtain ⟨σ17, e16, hf⟩ := xbd hf
  obtain ⟨hm9, hA⟩ := n_X3_lay hA hz2 e16
  have hm := hm.tr hm9
  obtain ⟨z19, e18, hf⟩ := xbd hf
  have hz19 := xgR_reg rfl hA hr0 e18
  obtain ⟨z21, e20, hf⟩ := xbd hf
  obtain ⟨z23, e22, hf⟩ := xbd hf
  obtain ⟨_, e24, hf⟩ := xbd hf
  obtain ⟨σ26, e25, hf⟩ := xbd hf
  obtain ⟨hm9, hA⟩ := n_X6_copyFrom hA hz19 e25
  have hm := hm.tr hm9
  obtain ⟨z28, e27, hf⟩ := xbd hf
  have hz28 := xgR_reg rfl hA hr0 e27
  obtain ⟨z30, e29, hf⟩ := xbd hf
  obtain ⟨v32, e31, hf⟩ := xbd hf
  obtain ⟨σ34, e33, hf⟩ := xbd hf
  obtain ⟨hm9, hA⟩ := xpI_reg hA hz28 e33
  have hm := hm.tr hm9
  obtain ⟨z36, e35, hf⟩ := xbd hf
  have hz36 := xgR_reg rfl hA hr0 e35
  obtain ⟨_, e37, hf⟩ := xbd hf
  obtain ⟨σ39, e38, hf⟩ := xbd hf
  obtain ⟨hm9, hA⟩ := n_X5_forget hA hz36 e38
  have hm := hm.tr hm9
  exact ⟨hm.tr (n_X11_beginAnew_l65 (a := ((0 : Int32), σ39)) hA hr0 hf).1, (n_X11_beginAnew_l65 (a := ((0 : Int32), σ39)) hA hr0 hf).2⟩
theorem n_X11_both_j4 {A : Nat → Prop} {σ : XS} {x1 : Int32} {x2 : Int32} {t0 : Nat} {x : Int32 × XS} (hA : RegN A σ) (hf : f_X11_both_j4 σ x1 x2 t0 = some x) : Sm A σ x.2 ∧ RegN A x.2 := by
  have hm := Sm.rf (A := A) (σ := σ)
  obtain ⟨_, e1, hf⟩ := xbd hf
  obtain ⟨v3, e2, hf⟩ := xbd hf
  have hf := xsj hf
  subst hf
  exact ⟨hm, hA⟩
theorem n_X11_both {A : Nat → Prop} {σ : XS} {r0 : Nat} {x1 : Int32} {x2 : Int32} {x : Int32 × XS} (hA : RegN A σ) (hr0 : A r0) (hf : f_X11_both σ r0 x1 x2 = some x) : Sm A σ x.2 ∧ RegN A x.2 := by
  have hm := Sm.rf (A := A) (σ := σ)
  obtain ⟨_, e1, hf⟩ := xbd hf
  obtain ⟨⟨z4, σ3⟩, e2, hf⟩ := xbd hf
  dsimp only at hf
  obtain ⟨hm9, hA, hz40⟩ := n_X11_levelsNow hA hr0 e2
  have hm := hm.tr hm9
  obtain ⟨_, e5, hf⟩ := xbd hf
  have hz4 := hz40 (xnz_spec e5)
  exact ⟨hm.tr (n_X11_both_j4 hA hf).1, (n_X11_both_j4 hA hf).2⟩
theorem n_X11_breaksNow_j36 {A : Nat → Prop} {σ : XS} {r0 : Nat} {x : Nat × XS} (hA : RegN A σ) (hr0 : A r0) (hf : f_X11_breaksNow_j36 σ r0 = some x) : Sm A σ x.2 ∧ RegN A x.2 ∧ (x.1 ≠ 0 → A x.1) := by
  have hm := Sm.rf (A := A) (σ := σ)
  obtain ⟨z2, e1, hf⟩ := xbd hf
  have hz2 := xgR_reg rfl hA.1 hr0 e1
  obtain ⟨z4, e3, hf⟩ := xbd hf
  obtain ⟨v6, e5, hf⟩ := xbd hf
  obtain ⟨σ8, e7, hf⟩ := xbd hf
  obtain ⟨hm9, hB⟩ := xpI_reg hA.1 hz2 e7
  have hA := RegN.step hA hB (xpI_same e7).ext
  have hm := hm.tr hm9
  obtain ⟨z10, e9, hf⟩ := xbd hf
  have hz10 := xgR_reg rfl hA.1 hr0 e9
  obtain ⟨_, e11, hf⟩ := xbd hf
  have hf := xsj hf
  subst hf
  exact ⟨hm, hA, fun _ => hz10⟩
theorem n_X11_breaksNow {A : Nat → Prop} {σ : XS} {r0 : Nat} {x : Nat × XS} (hA : RegN A σ) (hr0 : A r0) (hf : f_X11_breaksNow σ r0 = some x) : Sm A σ x.2 ∧ RegN A x.2 ∧ (x.1 ≠ 0 → A x.1) := by
  have hm := Sm.rf (A := A) (σ := σ)
  obtain ⟨z2, e1, hf⟩ := xbd hf
  obtain ⟨v4, e3, hf⟩ := xbd hf
  obtain ⟨z6, e5, hf⟩ := xbd hf
  obtain ⟨v8, e7, hf⟩ := xbd hf
  by_cases q : v4 = v8
  · have hf := xip q hf
    obtain ⟨z10, e9, hf⟩ := xbd hf
    have hz10 := xgR_reg rfl hA.1 hr0 e9
    obtain ⟨_, e11, hf⟩ := xbd hf
    have hf := xsj hf
    subst hf
    exact ⟨hm, hA, fun _ => hz10⟩
  · have hf := xin q hf
    obtain ⟨z10, e9, hf⟩ := xbd hf
    have hz10 := xgR_reg rfl hA.1 hr0 e9
    obtain ⟨z12, e11, hf⟩ := xbd hf
    obtain ⟨z14, e13, hf⟩ := xbd hf
    obtain ⟨z16, e15, hf⟩ := xbd hf
    have hz16 := xgR_reg rfl hA.1 hr0 e15
    obtain ⟨_, e17, hf⟩ := xbd hf
    obtain ⟨σ19, e18, hf⟩ := xbd hf
    obtain ⟨hm9, hA⟩ := n_X0_gather hA hz10 hz16 e18
    have hm := hm.tr hm9
    exact ⟨hm.tr (n_X11_breaksNow_j36 hA hr0 hf).1, (n_X11_breaksNow_j36 hA hr0 hf).2⟩
theorem n_X11_broken_j4 {A : Nat → Prop} {σ : XS} {x1 : Int32} {t0 : Nat} {x : Int32 × XS} (hA : RegN A σ) (hf : f_X11_broken_j4 σ x1 t0 = some x) : Sm A σ x.2 ∧ RegN A x.2 := by
  have hm := Sm.rf (A := A) (σ := σ)
  obtain ⟨_, e1, hf⟩ := xbd hf
  obtain ⟨v3, e2, hf⟩ := xbd hf
  have hf := xsj hf
  subst hf
  exact ⟨hm, hA⟩
theorem n_X11_broken {A : Nat → Prop} {σ : XS} {r0 : Nat} {x1 : Int32} {x : Int32 × XS} (hA : RegN A σ) (hr0 : A r0) (hf : f_X11_broken σ r0 x1 = some x) : Sm A σ x.2 ∧ RegN A x.2 := by
  have hm := Sm.rf (A := A) (σ := σ)
  obtain ⟨_, e1, hf⟩ := xbd hf
  obtain ⟨⟨z4, σ3⟩, e2, hf⟩ := xbd hf
  dsimp only at hf
  obtain ⟨hm9, hA, hz40⟩ := n_X11_breaksNow hA hr0 e2
  have hm := hm.tr hm9
  obtain ⟨_, e5, hf⟩ := xbd hf
  have hz4 := hz40 (xnz_spec e5)
  exact ⟨hm.tr (n_X11_broken_j4 hA hf).1, (n_X11_broken_j4 hA hf).2⟩
theorem n_X11_count_j192 {A : Nat → Prop} {σ : XS} {t0 : Nat} {x : Int32 × XS} (hA : RegN A σ) (hf : f_X11_count_j192 σ t0 = some x) : Sm A σ x.2 ∧ RegN A x.2 := by
  have hm := Sm.rf (A := A) (σ := σ)
  obtain ⟨_, e1, hf⟩ := xbd hf
  obtain ⟨v3, e2, hf⟩ := xbd hf
  have hf := xsj hf
  subst hf
  exact ⟨hm, hA⟩
theorem n_X11_count {A : Nat → Prop} {σ : XS} {r0 : Nat} {x1 : Int32} {x : Int32 × XS} (hA : RegN A σ) (hr0 : A r0) (hf : f_X11_count σ r0 x1 = some x) : Sm A σ x.2 ∧ RegN A x.2 := by
  have hm := Sm.rf (A := A) (σ := σ)
  by_cases ho : (x1).toInt < 0 ∨ 14 < (x1).toInt
  · have hf := xsw_out ho rfl hf
    have hf := xsj hf
    subst hf
    exact ⟨hm, hA⟩
  · rcases (by omega : (x1).toInt = 0 + ((0 : Nat) : Int) ∨ (x1).toInt = 0 + ((1 : Nat) : Int) ∨ (x1).toInt = 0 + ((2 : Nat) : Int) ∨ (x1).toInt = 0 + ((3 : Nat) : Int) ∨ (x1).toInt = 0 + ((4 : Nat) : Int) ∨ (x1).toInt = 0 + ((5 : Nat) : Int) ∨ (x1).toInt = 0 + ((6 : Nat) : Int) ∨ (x1).toInt = 0 + ((7 : Nat) : Int) ∨ (x1).toInt = 0 + ((8 : Nat) : Int) ∨ (x1).toInt = 0 + ((9 : Nat) : Int) ∨ (x1).toInt = 0 + ((10 : Nat) : Int) ∨ (x1).toInt = 0 + ((11 : Nat) : Int) ∨ (x1).toInt = 0 + ((12 : Nat) : Int) ∨ (x1).toInt = 0 + ((13 : Nat) : Int) ∨ (x1).toInt = 0 + ((14 : Nat) : Int)) with hk1 | hk1 | hk1 | hk1 | hk1 | hk1 | hk1 | hk1 | hk1 | hk1 | hk1 | hk1 | hk1 | hk1 | hk1
    · have hf := xsw_in 0 hk1 rfl hf
      obtain ⟨z2, e1, hf⟩ := xbd hf
      obtain ⟨v4, e3, hf⟩ := xbd hf
      have hf := xsj hf
      subst hf
      exact ⟨hm, hA⟩
    · have hf := xsw_in 1 hk1 rfl hf
      obtain ⟨z2, e1, hf⟩ := xbd hf
      obtain ⟨v4, e3, hf⟩ := xbd hf
      have hf := xsj hf
      subst hf
      exact ⟨hm, hA⟩
    · have hf := xsw_in 2 hk1 rfl hf
      obtain ⟨z2, e1, hf⟩ := xbd hf
      obtain ⟨v4, e3, hf⟩ := xbd hf
      have hf := xsj hf
      subst hf
      exact ⟨hm, hA⟩
    · have hf := xsw_in 3 hk1 rfl hf
      obtain ⟨_, e1, hf⟩ := xbd hf
      obtain ⟨v3, e2, hf⟩ := xbd hf
      have hf := xsj hf
      subst hf
      exact ⟨hm, hA⟩
    · have hf := xsw_in 4 hk1 rfl hf
      obtain ⟨z2, e1, hf⟩ := xbd hf
      obtain ⟨v4, e3, hf⟩ := xbd hf
      have hf := xsj hf
      subst hf
      exact ⟨hm, hA⟩
    · have hf := xsw_in 5 hk1 rfl hf
      obtain ⟨z2, e1, hf⟩ := xbd hf
      obtain ⟨_, e3, hf⟩ := xbd hf
      obtain ⟨v5, e4, hf⟩ := xbd hf
      have hf := xsj hf
      subst hf
      exact ⟨hm, hA⟩
    · have hf := xsw_in 6 hk1 rfl hf
      obtain ⟨z2, e1, hf⟩ := xbd hf
      obtain ⟨v4, e3, hf⟩ := xbd hf
      have hf := xsj hf
      subst hf
      exact ⟨hm, hA⟩
    · have hf := xsw_in 7 hk1 rfl hf
      obtain ⟨z2, e1, hf⟩ := xbd hf
      obtain ⟨v4, e3, hf⟩ := xbd hf
      have hf := xsj hf
      subst hf
      exact ⟨hm, hA⟩
    · have hf := xsw_in 8 hk1 rfl hf
      obtain ⟨_, e1, hf⟩ := xbd hf
      obtain ⟨v3, e2, hf⟩ := xbd hf
      have hf := xsj hf
      subst hf
      exact ⟨hm, hA⟩
    · have hf := xsw_in 9 hk1 rfl hf
      obtain ⟨z2, e1, hf⟩ := xbd hf
      obtain ⟨v4, e3, hf⟩ := xbd hf
      have hf := xsj hf
      subst hf
      exact ⟨hm, hA⟩
    · have hf := xsw_in 10 hk1 rfl hf
      obtain ⟨z2, e1, hf⟩ := xbd hf
      obtain ⟨z4, e3, hf⟩ := xbd hf
      have hz4 := xgR_reg rfl hA.1 hr0 e3
      obtain ⟨v6, e5, hf⟩ := xbd hf
      obtain ⟨_, e7, hf⟩ := xbd hf
      obtain ⟨v9, e8, hf⟩ := xbd hf
      have hf := xsj hf
      subst hf
      exact ⟨hm, hA⟩
    · have hf := xsw_in 11 hk1 rfl hf
      obtain ⟨z2, e1, hf⟩ := xbd hf
      obtain ⟨z4, e3, hf⟩ := xbd hf
      have hz4 := xgR_reg rfl hA.1 hr0 e3
      obtain ⟨v6, e5, hf⟩ := xbd hf
      obtain ⟨_, e7, hf⟩ := xbd hf
      obtain ⟨v9, e8, hf⟩ := xbd hf
      have hf := xsj hf
      subst hf
      exact ⟨hm, hA⟩
    · have hf := xsw_in 12 hk1 rfl hf
      obtain ⟨z2, e1, hf⟩ := xbd hf
      obtain ⟨v4, e3, hf⟩ := xbd hf
      have hf := xsj hf
      subst hf
      exact ⟨hm, hA⟩
    · have hf := xsw_in 13 hk1 rfl hf
      obtain ⟨_, e1, hf⟩ := xbd hf
      obtain ⟨⟨z4, σ3⟩, e2, hf⟩ := xbd hf
      dsimp only at hf
      obtain ⟨hm9, hA, hz40⟩ := n_X11_breaksNow hA hr0 e2
      have hm := hm.tr hm9
      obtain ⟨_, e5, hf⟩ := xbd hf
      have hz4 := hz40 (xnz_spec e5)
      exact ⟨hm.tr (n_X11_count_j192 hA hf).1, (n_X11_count_j192 hA hf).2⟩
    · have hf := xsw_in 14 hk1 rfl hf
      obtain ⟨z2, e1, hf⟩ := xbd hf
      obtain ⟨z4, e3, hf⟩ := xbd hf
      obtain ⟨_, e5, hf⟩ := xbd hf
      obtain ⟨v7, e6, hf⟩ := xbd hf
      have hf := xsj hf
      subst hf
      exact ⟨hm, hA⟩
theorem n_X11_countWays_l17 {A : Nat → Prop} {r1 : Nat} {r2 : Nat} {r3 : Nat} {x4 : Int32} {a : Int32 × XS} {x : XS} (hA : Reg A a.2) (hr1 : A r1) (hf : xloop (f_X11_countWays_b17 r1 r2 r3 x4) a = some x) : Sm A a.2 x ∧ Reg A x := by
  revert hA
  refine xloop_ind (P := fun a => Reg A a.2 → Sm A a.2 x ∧ Reg A x) (fun a y hf hc he => ?_) hf
  obtain ⟨x5, σ⟩ := a
  intro hA
  have hA0 : Reg A σ := hA
  have hy : (∀ a' : Int32 × XS, y = .inl a' → Sm A σ a'.2 ∧ Reg A a'.2) ∧ (∀ b1 : XS, y = .inr b1 → Sm A σ b1 ∧ Reg A b1) := by
    have hm := Sm.rf (A := A) (σ := σ)
    by_cases q : x4 ≤ x5
    · have hf := xip q hf
      obtain ⟨b0, hg, e9⟩ := xmj hf
      subst e9
      have hf := hg
      refine ⟨fun a' e => xnc2 e, fun b e => ?_⟩
      have h9 := Sum.inr.inj e
      subst h9
      have hf := xsj hf
      subst hf
      exact ⟨hm, hA⟩
    · have hf := xin q hf
      obtain ⟨_, e1, hf⟩ := xbd hf
      obtain ⟨v3, e2, hf⟩ := xbd hf
      obtain ⟨_, e4, hf⟩ := xbd hf
      obtain ⟨v6, e5, hf⟩ := xbd hf
      by_cases q : v6 = 0
      · have hf := xip q hf
        have hf := xsj hf
        subst hf
        exact ⟨fun a' e => (by have h9 := Sum.inl.inj e; subst h9; exact ⟨hm, hA⟩), fun b e => xnc1 e⟩
      · have hf := xin q hf
        by_cases q : (v3 + (144 : Int32)) < 0
        · have hf := xip q hf
          have hf := xsj hf
          subst hf
          exact ⟨fun a' e => (by have h9 := Sum.inl.inj e; subst h9; exact ⟨hm, hA⟩), fun b e => xnc1 e⟩
        · have hf := xin q hf
          obtain ⟨v8, e7, hf⟩ := xbd hf
          by_cases q : v8 ≤ (v3 + (144 : Int32))
          · have hf := xip q hf
            have hf := xsj hf
            subst hf
            exact ⟨fun a' e => (by have h9 := Sum.inl.inj e; subst h9; exact ⟨hm, hA⟩), fun b e => xnc1 e⟩
          · have hf := xin q hf
            obtain ⟨v10, e9, hf⟩ := xbd hf
            obtain ⟨σ12, e11, hf⟩ := xbd hf
            obtain ⟨hm9, hA⟩ := xsI_reg hA hr1 e11
            have hm := hm.tr hm9
            have hf := xsj hf
            subst hf
            exact ⟨fun a' e => (by have h9 := Sum.inl.inj e; subst h9; exact ⟨hm, hA⟩), fun b e => xnc1 e⟩
  cases y with
  | inl a' =>
    obtain ⟨hm, hA1⟩ := hy.1 a' rfl
    have h1 := hc a' rfl hA1
    exact ⟨hm.tr (h1).1, (h1).2⟩
  | inr b =>
    have h1 := he b rfl
    subst h1
    exact hy.2 _ rfl
theorem n_X11_countWays {A : Nat → Prop} {σ : XS} {r0 : Nat} {r1 : Nat} {r2 : Nat} {r3 : Nat} {x : XS} (hA : Reg A σ) (hr1 : A r1) (hf : f_X11_countWays σ r0 r1 r2 r3 = some x) : Sm A σ x ∧ Reg A x := by
  have hm := Sm.rf (A := A) (σ := σ)
  obtain ⟨z2, e1, hf⟩ := xbd hf
  obtain ⟨_, e3, hf⟩ := xbd hf
  obtain ⟨v5, e4, hf⟩ := xbd hf
  obtain ⟨σ7, e6, hf⟩ := xbd hf
  obtain ⟨hm9, hA⟩ := n_J7_fill_53178 hA hr1 e6
  have hm := hm.tr hm9
  exact ⟨hm.tr (n_X11_countWays_l17 (a := ((0 : Int32), σ7)) hA hr1 hf).1, (n_X11_countWays_l17 (a := ((0 : Int32), σ7)) hA hr1 hf).2⟩
theorem n_X9_waysDown_l2 {A : Nat → Prop} {r0 : Nat} {x1 : Int32} {a : Int32 × XS} {x : Int64 × XS} (hA : Reg A a.2) (hr0 : A r0) (hf : xloop (f_X9_waysDown_b2 r0 x1) a = some x) : Sm A a.2 x.2 ∧ Reg A x.2 := by
  revert hA
  refine xloop_ind (P := fun a => Reg A a.2 → Sm A a.2 x.2 ∧ Reg A x.2) (fun a y hf hc he => ?_) hf
  obtain ⟨x2, σ⟩ := a
  intro hA
  have hA0 : Reg A σ := hA
  have hy : (∀ a' : Int32 × XS, y = .inl a' → Sm A σ a'.2 ∧ Reg A a'.2) ∧ (∀ b1 : Int64 × XS, y = .inr b1 → Sm A σ b1.2 ∧ Reg A b1.2) := by
    have hm := Sm.rf (A := A) (σ := σ)
    obtain ⟨v2, e1, hf⟩ := xbd hf
    by_cases q : v2 ≤ x2
    · have hf := xip q hf
      obtain ⟨b0, hg, e9⟩ := xmj hf
      subst e9
      have hf := hg
      refine ⟨fun a' e => xnc2 e, fun b e => ?_⟩
      have h9 := Sum.inr.inj e
      subst h9
      have hf := xsj hf
      subst hf
      exact ⟨hm, hA⟩
    · have hf := xin q hf
      by_cases q : (1024 : Int32) ≤ x2
      · have hf := xip q hf
        obtain ⟨b0, hg, e9⟩ := xmj hf
        subst e9
        have hf := hg
        refine ⟨fun a' e => xnc2 e, fun b e => ?_⟩
        have h9 := Sum.inr.inj e
        subst h9
        have hf := xsj hf
        subst hf
        exact ⟨hm, hA⟩
      · have hf := xin q hf
        obtain ⟨z4, e3, hf⟩ := xbd hf
        obtain ⟨v6, e5, hf⟩ := xbd hf
        obtain ⟨_, e7, hf⟩ := xbd hf
        obtain ⟨v9, e8, hf⟩ := xbd hf
        by_cases q : v6 = x1
        · have hf := xip q hf
          obtain ⟨b0, hg, e9⟩ := xmj hf
          subst e9
          have hf := hg
          refine ⟨fun a' e => xnc2 e, fun b e => ?_⟩
          have h9 := Sum.inr.inj e
          subst h9
          have hf := xsj hf
          subst hf
          exact ⟨hm, hA⟩
        · have hf := xin q hf
          obtain ⟨v11, e10, hf⟩ := xbd hf
          by_cases q : v11 = 0
          · have hf := xip q hf
            have hf := xsj hf
            subst hf
            exact ⟨fun a' e => (by have h9 := Sum.inl.inj e; subst h9; exact ⟨hm, hA⟩), fun b e => xnc1 e⟩
          · have hf := xin q hf
            obtain ⟨z13, e12, hf⟩ := xbd hf
            have hz13 := xgR_reg rfl hA hr0 e12
            obtain ⟨σ15, e14, hf⟩ := xbd hf
            obtain ⟨hm9, hA⟩ := xsL_reg hA hz13 e14
            have hm := hm.tr hm9
            have hf := xsj hf
            subst hf
            exact ⟨fun a' e => (by have h9 := Sum.inl.inj e; subst h9; exact ⟨hm, hA⟩), fun b e => xnc1 e⟩
  cases y with
  | inl a' =>
    obtain ⟨hm, hA1⟩ := hy.1 a' rfl
    have h1 := hc a' rfl hA1
    exact ⟨hm.tr (h1).1, (h1).2⟩
  | inr b =>
    have h1 := he b rfl
    subst h1
    exact hy.2 _ rfl
theorem n_X9_waysDown {A : Nat → Prop} {σ : XS} {r0 : Nat} {x1 : Int32} {x : Int64 × XS} (hA : Reg A σ) (hr0 : A r0) (hf : f_X9_waysDown σ r0 x1 = some x) : Sm A σ x.2 ∧ Reg A x.2 := by
  have hm := Sm.rf (A := A) (σ := σ)
  exact ⟨hm.tr (n_X9_waysDown_l2 (a := ((0 : Int32), σ)) hA hr0 hf).1, (n_X9_waysDown_l2 (a := ((0 : Int32), σ)) hA hr0 hf).2⟩
theorem n_X11_down_j23 {A : Nat → Prop} {σ : XS} {x1 : Int32} {t0 : Nat} {x : Int64 × XS} (hA : RegN A σ) (ht0 : A t0) (hf : f_X11_down_j23 σ x1 t0 = some x) : Sm A σ x.2 ∧ RegN A x.2 := by
  have hm := Sm.rf (A := A) (σ := σ)
  obtain ⟨_, e1, hf⟩ := xbd hf
  obtain ⟨⟨v4, σ3⟩, e2, hf⟩ := xbd hf
  dsimp only at hf
  obtain ⟨hm9, hB⟩ := n_X9_waysDown hA.1 ht0 e2
  have hA := RegN.step hA hB (m_X9_waysDown e2).ext
  have hm := hm.tr hm9
  have hf := xsj hf
  subst hf
  exact ⟨hm, hA⟩
theorem n_X11_down {A : Nat → Prop} {σ : XS} {r0 : Nat} {x1 : Int32} {x : Int64 × XS} (hA : RegN A σ) (hr0 : A r0) (hf : f_X11_down σ r0 x1 = some x) : Sm A σ x.2 ∧ RegN A x.2 := by
  have hm := Sm.rf (A := A) (σ := σ)
  obtain ⟨_, e1, hf⟩ := xbd hf
  obtain ⟨v3, e2, hf⟩ := xbd hf
  by_cases q : v3 = 0
  · have hf := xip q hf
    have hf := xsj hf
    subst hf
    exact ⟨hm, hA⟩
  · have hf := xin q hf
    obtain ⟨_, e4, hf⟩ := xbd hf
    obtain ⟨v6, e5, hf⟩ := xbd hf
    by_cases q : v6 = 0
    · have hf := xip q hf
      have hf := xsj hf
      subst hf
      exact ⟨hm, hA⟩
    · have hf := xin q hf
      obtain ⟨_, e7, hf⟩ := xbd hf
      obtain ⟨⟨z10, σ9⟩, e8, hf⟩ := xbd hf
      dsimp only at hf
      obtain ⟨hm9, hA, hz100⟩ := n_X11_terrainNow hA hr0 e8
      have hm := hm.tr hm9
      obtain ⟨_, e11, hf⟩ := xbd hf
      have hz10 := hz100 (xnz_spec e11)
      exact ⟨hm.tr (n_X11_down_j23 hA hz10 hf).1, (n_X11_down_j23 hA hz10 hf).2⟩
theorem n_X11_energiesOfRows_j54 {A : Nat → Prop} {σ : XS} {r0 : Nat} {x : Nat × XS} (hA : RegN A σ) (hr0 : A r0) (hf : f_X11_energiesOfRows_j54 σ r0 = some x) : Sm A σ x.2 ∧ RegN A x.2 ∧ (x.1 ≠ 0 → A x.1) := by
  have hm := Sm.rf (A := A) (σ := σ)
  obtain ⟨z2, e1, hf⟩ := xbd hf
  have hz2 := xgR_reg rfl hA.1 hr0 e1
  obtain ⟨_, e3, hf⟩ := xbd hf
  have hf := xsj hf
  subst hf
  exact ⟨hm, hA, fun _ => hz2⟩
theorem n_X11_energiesOfRows_j17 {A : Nat → Prop} {σ : XS} {t0 : Nat} {x : Nat × XS} (hA : RegN A σ) (ht0 : A t0) (hf : f_X11_energiesOfRows_j17 σ t0 = some x) : Sm A σ x.2 ∧ RegN A x.2 ∧ (x.1 ≠ 0 → A x.1) := by
  have hm := Sm.rf (A := A) (σ := σ)
  obtain ⟨_, e1, hf⟩ := xbd hf
  have hf := xsj hf
  subst hf
  exact ⟨hm, hA, fun _ => ht0⟩
theorem n_X11_energiesOfRows {A : Nat → Prop} {σ : XS} {r0 : Nat} {x1 : Int32} {x : Nat × XS} (hA : RegN A σ) (hr0 : A r0) (hf : f_X11_energiesOfRows σ r0 x1 = some x) : Sm A σ x.2 ∧ RegN A x.2 ∧ (x.1 ≠ 0 → A x.1) := by
  have hm := Sm.rf (A := A) (σ := σ)
  obtain ⟨z2, e1, hf⟩ := xbd hf
  obtain ⟨v4, e3, hf⟩ := xbd hf
  by_cases q : x1 = (v4 - (1 : Int32))
  · have hf := xip q hf
    obtain ⟨_, e5, hf⟩ := xbd hf
    obtain ⟨⟨z8, σ7⟩, e6, hf⟩ := xbd hf
    dsimp only at hf
    obtain ⟨hm9, hA, hz80⟩ := n_X11_energiesNow hA hr0 e6
    have hm := hm.tr hm9
    obtain ⟨_, e9, hf⟩ := xbd hf
    have hz8 := hz80 (xnz_spec e9)
    exact ⟨hm.tr (n_X11_energiesOfRows_j17 hA hz8 hf).1, (n_X11_energiesOfRows_j17 hA hz8 hf).2⟩
  · have hf := xin q hf
    obtain ⟨z6, e5, hf⟩ := xbd hf
    have hz6 := xgR_reg rfl hA.1 hr0 e5
    obtain ⟨z8, e7, hf⟩ := xbd hf
    obtain ⟨z10, e9, hf⟩ := xbd hf
    obtain ⟨z12, e11, hf⟩ := xbd hf
    obtain ⟨z14, e13, hf⟩ := xbd hf
    obtain ⟨z16, e15, hf⟩ := xbd hf
    obtain ⟨z18, e17, hf⟩ := xbd hf
    obtain ⟨v20, e19, hf⟩ := xbd hf
    obtain ⟨_, e21, hf⟩ := xbd hf
    obtain ⟨σ23, e22, hf⟩ := xbd hf
    obtain ⟨hm9, hA⟩ := n_X2_fill hA hz6 e22
    have hm := hm.tr hm9
    exact ⟨hm.tr (n_X11_energiesOfRows_j54 hA hr0 hf).1, (n_X11_energiesOfRows_j54 hA hr0 hf).2⟩
theorem n_X5_keep_j55 {A : Nat → Prop} {σ : XS} {r0 : Nat} {t0 : Nat} {t1 : Int32} {x : XS} (hA : Reg A σ) (hr0 : A r0) (ht0 : A t0) (hf : f_X5_keep_j55 σ r0 t0 t1 = some x) : Sm A σ x ∧ Reg A x := by
  have hm := Sm.rf (A := A) (σ := σ)
  obtain ⟨σ2, e1, hf⟩ := xbd hf
  obtain ⟨hm9, hA⟩ := xpI_reg hA ht0 e1
  have hm := hm.tr hm9
  obtain ⟨v4, e3, hf⟩ := xbd hf
  obtain ⟨σ6, e5, hf⟩ := xbd hf
  obtain ⟨hm9, hA⟩ := xpI_reg hA hr0 e5
  have hm := hm.tr hm9
  have hf := xsj hf
  subst hf
  exact ⟨hm, hA⟩
theorem n_X5_keep {A : Nat → Prop} {σ : XS} {r0 : Nat} {r1 : Nat} {x : XS} (hA : Reg A σ) (hr0 : A r0) (hf : f_X5_keep σ r0 r1 = some x) : Sm A σ x ∧ Reg A x := by
  have hm := Sm.rf (A := A) (σ := σ)
  obtain ⟨v2, e1, hf⟩ := xbd hf
  by_cases q : v2 < 0
  · have hf := xip q hf
    have hf := xsj hf
    subst hf
    exact ⟨hm, hA⟩
  · have hf := xin q hf
    obtain ⟨v4, e3, hf⟩ := xbd hf
    obtain ⟨z6, e5, hf⟩ := xbd hf
    obtain ⟨v8, e7, hf⟩ := xbd hf
    by_cases q : v4 < v8
    · have hf := xip q hf
      obtain ⟨z10, e9, hf⟩ := xbd hf
      have hz10 := xgR_reg rfl hA hr0 e9
      obtain ⟨v12, e11, hf⟩ := xbd hf
      obtain ⟨z14, e13, hf⟩ := xbd hf
      have hz14 := xaR_reg (by decide) hA hz10 e13
      obtain ⟨_, e15, hf⟩ := xbd hf
      obtain ⟨σ17, e16, hf⟩ := xbd hf
      obtain ⟨hm9, hA⟩ := n_X6_copyFrom hA hz14 e16
      have hm := hm.tr hm9
      obtain ⟨v19, e18, hf⟩ := xbd hf
      by_cases q : (40 : Int32) ≤ (v19 + (1 : Int32))
      · have hf := xip q hf
        exact ⟨hm.tr (n_X5_keep_j55 hA hr0 hr0 hf).1, (n_X5_keep_j55 hA hr0 hr0 hf).2⟩
      · have hf := xin q hf
        obtain ⟨v21, e20, hf⟩ := xbd hf
        exact ⟨hm.tr (n_X5_keep_j55 hA hr0 hr0 hf).1, (n_X5_keep_j55 hA hr0 hr0 hf).2⟩
    · have hf := xin q hf
      have hf := xsj hf
      subst hf
      exact ⟨hm, hA⟩
theorem n_X11_fall {A : Nat → Prop} {σ : XS} {r0 : Nat} {x : Int32 × XS} (hA : Reg A σ) (hr0 : A r0) (hf : f_X11_fall σ r0 = some x) : Sm A σ x.2 ∧ Reg A x.2 := by
  have hm := Sm.rf (A := A) (σ := σ)
  obtain ⟨z2, e1, hf⟩ := xbd hf
  obtain ⟨v4, e3, hf⟩ := xbd hf
  by_cases q : v4 = 0
  · have hf := xip q hf
    have hf := xsj hf
    subst hf
    exact ⟨hm, hA⟩
  · have hf := xin q hf
    obtain ⟨z6, e5, hf⟩ := xbd hf
    have hz6 := xgR_reg rfl hA hr0 e5
    obtain ⟨z8, e7, hf⟩ := xbd hf
    obtain ⟨z10, e9, hf⟩ := xbd hf
    obtain ⟨z12, e11, hf⟩ := xbd hf
    obtain ⟨v14, e13, hf⟩ := xbd hf
    obtain ⟨_, e15, hf⟩ := xbd hf
    obtain ⟨σ17, e16, hf⟩ := xbd hf
    obtain ⟨hm9, hA⟩ := n_X10_fallFrom hA hz6 e16
    have hm := hm.tr hm9
    obtain ⟨z19, e18, hf⟩ := xbd hf
    obtain ⟨v21, e20, hf⟩ := xbd hf
    by_cases q : v21 ≤ 0
    · have hf := xip q hf
      obtain ⟨z23, e22, hf⟩ := xbd hf
      have hz23 := xgR_reg rfl hA hr0 e22
      obtain ⟨v25, e24, hf⟩ := xbd hf
      have hf := xsj hf
      subst hf
      exact ⟨hm, hA⟩
    · have hf := xin q hf
      obtain ⟨z23, e22, hf⟩ := xbd hf
      have hz23 := xgR_reg rfl hA hr0 e22
      obtain ⟨z25, e24, hf⟩ := xbd hf
      obtain ⟨_, e26, hf⟩ := xbd hf
      obtain ⟨σ28, e27, hf⟩ := xbd hf
      obtain ⟨hm9, hA⟩ := n_X5_keep hA hz23 e27
      have hm := hm.tr hm9
      obtain ⟨z30, e29, hf⟩ := xbd hf
      have hz30 := xgR_reg rfl hA hr0 e29
      obtain ⟨z32, e31, hf⟩ := xbd hf
      obtain ⟨v34, e33, hf⟩ := xbd hf
      obtain ⟨σ36, e35, hf⟩ := xbd hf
      obtain ⟨hm9, hA⟩ := xpI_reg hA hz30 e35
      have hm := hm.tr hm9
      obtain ⟨z38, e37, hf⟩ := xbd hf
      obtain ⟨v40, e39, hf⟩ := xbd hf
      have hf := xsj hf
      subst hf
      exact ⟨hm, hA⟩
theorem n_X8_addWord_l3 {A : Nat → Prop} {r0 : Nat} {x1 : Int32} {a : Int32 × XS} {x : XS} (hA : Reg A a.2) (hr0 : A r0) (hf : xloop (f_X8_addWord_b3 r0 x1) a = some x) : Sm A a.2 x ∧ Reg A x := by
  revert hA
  refine xloop_ind (P := fun a => Reg A a.2 → Sm A a.2 x ∧ Reg A x) (fun a y hf hc he => ?_) hf
  obtain ⟨x2, σ⟩ := a
  intro hA
  have hA0 : Reg A σ := hA
  have hy : (∀ a' : Int32 × XS, y = .inl a' → Sm A σ a'.2 ∧ Reg A a'.2) ∧ (∀ b1 : XS, y = .inr b1 → Sm A σ b1 ∧ Reg A b1) := by
    have hm := Sm.rf (A := A) (σ := σ)
    by_cases q : x2 < 0
    · have hf := xip q hf
      obtain ⟨b0, hg, e9⟩ := xmj hf
      subst e9
      have hf := hg
      refine ⟨fun a' e => xnc2 e, fun b e => ?_⟩
      have h9 := Sum.inr.inj e
      subst h9
      have hf := xsj hf
      subst hf
      exact ⟨hm, hA⟩
    · have hf := xin q hf
      obtain ⟨v2, e1, hf⟩ := xbd hf
      by_cases q : v2 < 0
      · have hf := xip q hf
        have hf := xsj hf
        subst hf
        exact ⟨fun a' e => (by have h9 := Sum.inl.inj e; subst h9; exact ⟨hm, hA⟩), fun b e => xnc1 e⟩
      · have hf := xin q hf
        obtain ⟨v4, e3, hf⟩ := xbd hf
        obtain ⟨z6, e5, hf⟩ := xbd hf
        obtain ⟨v8, e7, hf⟩ := xbd hf
        by_cases q : v8 ≤ v4
        · have hf := xip q hf
          have hf := xsj hf
          subst hf
          exact ⟨fun a' e => (by have h9 := Sum.inl.inj e; subst h9; exact ⟨hm, hA⟩), fun b e => xnc1 e⟩
        · have hf := xin q hf
          obtain ⟨z10, e9, hf⟩ := xbd hf
          have hz10 := xgR_reg rfl hA hr0 e9
          obtain ⟨v12, e11, hf⟩ := xbd hf
          obtain ⟨σ14, e13, hf⟩ := xbd hf
          obtain ⟨hm9, hA⟩ := xsI_reg hA hz10 e13
          have hm := hm.tr hm9
          obtain ⟨v16, e15, hf⟩ := xbd hf
          obtain ⟨σ18, e17, hf⟩ := xbd hf
          obtain ⟨hm9, hA⟩ := xpI_reg hA hr0 e17
          have hm := hm.tr hm9
          have hf := xsj hf
          subst hf
          exact ⟨fun a' e => (by have h9 := Sum.inl.inj e; subst h9; exact ⟨hm, hA⟩), fun b e => xnc1 e⟩
  cases y with
  | inl a' =>
    obtain ⟨hm, hA1⟩ := hy.1 a' rfl
    have h1 := hc a' rfl hA1
    exact ⟨hm.tr (h1).1, (h1).2⟩
  | inr b =>
    have h1 := he b rfl
    subst h1
    exact hy.2 _ rfl
theorem n_X8_addWord {A : Nat → Prop} {σ : XS} {r0 : Nat} {x1 : Int32} {x : XS} (hA : Reg A σ) (hr0 : A r0) (hf : f_X8_addWord σ r0 x1 = some x) : Sm A σ x ∧ Reg A x := by
  have hm := Sm.rf (A := A) (σ := σ)
  exact ⟨hm.tr (n_X8_addWord_l3 (a := ((24 : Int32), σ)) hA hr0 hf).1, (n_X8_addWord_l3 (a := ((24 : Int32), σ)) hA hr0 hf).2⟩
theorem n_X11_feed {A : Nat → Prop} {σ : XS} {r0 : Nat} {x1 : Int32} {x2 : Int32} {x3 : Int32} {x4 : Int32} {x5 : Int32} {x : Int32 × XS} (hA : Reg A σ) (hr0 : A r0) (hf : f_X11_feed σ r0 x1 x2 x3 x4 x5 = some x) : Sm A σ x.2 ∧ Reg A x.2 := by
  have hm := Sm.rf (A := A) (σ := σ)
  obtain ⟨z2, e1, hf⟩ := xbd hf
  obtain ⟨v4, e3, hf⟩ := xbd hf
  by_cases q : (v4 + (20 : Int32)) ≤ (2000 : Int32)
  · have hf := xip q hf
    obtain ⟨z6, e5, hf⟩ := xbd hf
    have hz6 := xgR_reg rfl hA hr0 e5
    obtain ⟨_, e7, hf⟩ := xbd hf
    obtain ⟨σ9, e8, hf⟩ := xbd hf
    obtain ⟨hm9, hA⟩ := n_X8_addWord hA hz6 e8
    have hm := hm.tr hm9
    obtain ⟨z11, e10, hf⟩ := xbd hf
    have hz11 := xgR_reg rfl hA hr0 e10
    obtain ⟨_, e12, hf⟩ := xbd hf
    obtain ⟨σ14, e13, hf⟩ := xbd hf
    obtain ⟨hm9, hA⟩ := n_X8_addWord hA hz11 e13
    have hm := hm.tr hm9
    obtain ⟨z16, e15, hf⟩ := xbd hf
    have hz16 := xgR_reg rfl hA hr0 e15
    obtain ⟨_, e17, hf⟩ := xbd hf
    obtain ⟨σ19, e18, hf⟩ := xbd hf
    obtain ⟨hm9, hA⟩ := n_X8_addWord hA hz16 e18
    have hm := hm.tr hm9
    obtain ⟨z21, e20, hf⟩ := xbd hf
    have hz21 := xgR_reg rfl hA hr0 e20
    obtain ⟨_, e22, hf⟩ := xbd hf
    obtain ⟨σ24, e23, hf⟩ := xbd hf
    obtain ⟨hm9, hA⟩ := n_X8_addWord hA hz21 e23
    have hm := hm.tr hm9
    obtain ⟨z26, e25, hf⟩ := xbd hf
    have hz26 := xgR_reg rfl hA hr0 e25
    obtain ⟨_, e27, hf⟩ := xbd hf
    obtain ⟨σ29, e28, hf⟩ := xbd hf
    obtain ⟨hm9, hA⟩ := n_X8_addWord hA hz26 e28
    have hm := hm.tr hm9
    obtain ⟨z31, e30, hf⟩ := xbd hf
    obtain ⟨v33, e32, hf⟩ := xbd hf
    have hf := xsj hf
    subst hf
    exact ⟨hm, hA⟩
  · have hf := xin q hf
    have hf := xsj hf
    subst hf
    exact ⟨hm, hA⟩
theorem n_X6_setBond {A : Nat → Prop} {σ : XS} {r0 : Nat} {x1 : Int32} {x2 : Int32} {x : XS} (hA : Reg A σ) (hr0 : A r0) (hf : f_X6_setBond σ r0 x1 x2 = some x) : Sm A σ x ∧ Reg A x := by
  have hm := Sm.rf (A := A) (σ := σ)
  by_cases q : x1 < 0
  · have hf := xip q hf
    have hf := xsj hf
    subst hf
    exact ⟨hm, hA⟩
  · have hf := xin q hf
    obtain ⟨z2, e1, hf⟩ := xbd hf
    obtain ⟨v4, e3, hf⟩ := xbd hf
    by_cases q : v4 ≤ x1
    · have hf := xip q hf
      have hf := xsj hf
      subst hf
      exact ⟨hm, hA⟩
    · have hf := xin q hf
      obtain ⟨z6, e5, hf⟩ := xbd hf
      have hz6 := xgR_reg rfl hA hr0 e5
      obtain ⟨σ8, e7, hf⟩ := xbd hf
      obtain ⟨hm9, hA⟩ := xsI_reg hA hz6 e7
      have hm := hm.tr hm9
      have hf := xsj hf
      subst hf
      exact ⟨hm, hA⟩
theorem n_X11_glass_j85 {A : Nat → Prop} {σ : XS} {r0 : Nat} {w2 : Int64} {x4 : Int32} {t0 : Nat} {t1 : Int32} {t2 : Int32} {x : ((Int64 × Int32 × XS) ⊕ (Int32 × XS))} (hA : Reg A σ) (ht0 : A t0) (hf : f_X11_glass_j85 σ r0 w2 x4 t0 t1 t2 = some x) : (∀ a' : Int64 × Int32 × XS, x = .inl a' → Sm A σ a'.2.2 ∧ Reg A a'.2.2) ∧ (∀ b1 : Int32 × XS, x = .inr b1 → Sm A σ b1.2 ∧ Reg A b1.2) := by
  have hm := Sm.rf (A := A) (σ := σ)
  obtain ⟨_, e1, hf⟩ := xbd hf
  obtain ⟨σ3, e2, hf⟩ := xbd hf
  obtain ⟨hm9, hA⟩ := n_X6_setBond hA ht0 e2
  have hm := hm.tr hm9
  have hf := xsj hf
  subst hf
  exact ⟨fun a' e => (by have h9 := Sum.inl.inj e; subst h9; exact ⟨hm, hA⟩), fun b e => xnc1 e⟩
theorem n_X11_glass_l40 {A : Nat → Prop} {r0 : Nat} {a : Int64 × Int32 × XS} {x : Int32 × XS} (hA : Reg A a.2.2) (hr0 : A r0) (hf : xloop (f_X11_glass_b40 r0) a = some x) : Sm A a.2.2 x.2 ∧ Reg A x.2 := by
  revert hA
  refine xloop_ind (P := fun a => Reg A a.2.2 → Sm A a.2.2 x.2 ∧ Reg A x.2) (fun a y hf hc he => ?_) hf
  obtain ⟨w2, x4, σ⟩ := a
  intro hA
  have hA0 : Reg A σ := hA
  have hy : (∀ a' : Int64 × Int32 × XS, y = .inl a' → Sm A σ a'.2.2 ∧ Reg A a'.2.2) ∧ (∀ b1 : Int32 × XS, y = .inr b1 → Sm A σ b1.2 ∧ Reg A b1.2) := by
    have hm := Sm.rf (A := A) (σ := σ)
    by_cases q : (32 : Int32) ≤ x4
    · have hf := xip q hf
      obtain ⟨b0, hg, e9⟩ := xmj hf
      subst e9
      have hf := hg
      refine ⟨fun a' e => xnc2 e, fun b e => ?_⟩
      have h9 := Sum.inr.inj e
      subst h9
      obtain ⟨_, e1, hf⟩ := xbd hf
      obtain ⟨σ3, e2, hf⟩ := xbd hf
      obtain ⟨hm9, hA⟩ := n_X11_stampTies hA hr0 e2
      have hm := hm.tr hm9
      have hf := xsj hf
      subst hf
      exact ⟨hm, hA⟩
    · have hf := xin q hf
      obtain ⟨z2, e1, hf⟩ := xbd hf
      obtain ⟨_, e3, hf⟩ := xbd hf
      obtain ⟨v5, e4, hf⟩ := xbd hf
      by_cases q : v5 = (-1 : Int32)
      · have hf := xip q hf
        have hf := xsj hf
        subst hf
        exact ⟨fun a' e => (by have h9 := Sum.inl.inj e; subst h9; exact ⟨hm, hA⟩), fun b e => xnc1 e⟩
      · have hf := xin q hf
        obtain ⟨v7, e6, hf⟩ := xbd hf
        obtain ⟨z9, e8, hf⟩ := xbd hf
        have hz9 := xgR_reg rfl hA hr0 e8
        obtain ⟨v11, e10, hf⟩ := xbd hf
        by_cases q : v11 = (1 : Int32)
        · have hf := xip q hf
          exact ⟨fun a' e => ⟨hm.tr ((n_X11_glass_j85 hA hz9 hf).1 a' e).1, ((n_X11_glass_j85 hA hz9 hf).1 a' e).2⟩, fun b1 eb1 => ⟨hm.tr ((n_X11_glass_j85 hA hz9 hf).2 b1 eb1).1, ((n_X11_glass_j85 hA hz9 hf).2 b1 eb1).2⟩⟩
        · have hf := xin q hf
          exact ⟨fun a' e => ⟨hm.tr ((n_X11_glass_j85 hA hz9 hf).1 a' e).1, ((n_X11_glass_j85 hA hz9 hf).1 a' e).2⟩, fun b1 eb1 => ⟨hm.tr ((n_X11_glass_j85 hA hz9 hf).2 b1 eb1).1, ((n_X11_glass_j85 hA hz9 hf).2 b1 eb1).2⟩⟩
  cases y with
  | inl a' =>
    obtain ⟨hm, hA1⟩ := hy.1 a' rfl
    have h1 := hc a' rfl hA1
    exact ⟨hm.tr (h1).1, (h1).2⟩
  | inr b =>
    have h1 := he b rfl
    subst h1
    exact hy.2 _ rfl
theorem n_X11_glass {A : Nat → Prop} {σ : XS} {r0 : Nat} {x1 : Int32} {x : Int32 × XS} (hA : Reg A σ) (hr0 : A r0) (hf : f_X11_glass σ r0 x1 = some x) : Sm A σ x.2 ∧ Reg A x.2 := by
  have hm := Sm.rf (A := A) (σ := σ)
  by_cases q : x1 < 0
  · have hf := xip q hf
    have hf := xsj hf
    subst hf
    exact ⟨hm, hA⟩
  · have hf := xin q hf
    by_cases q : (9999 : Int32) < x1
    · have hf := xip q hf
      have hf := xsj hf
      subst hf
      exact ⟨hm, hA⟩
    · have hf := xin q hf
      obtain ⟨z2, e1, hf⟩ := xbd hf
      obtain ⟨v4, e3, hf⟩ := xbd hf
      by_cases q : v4 = 0
      · have hf := xip q hf
        have hf := xsj hf
        subst hf
        exact ⟨hm, hA⟩
      · have hf := xin q hf
        obtain ⟨z6, e5, hf⟩ := xbd hf
        have hz6 := xgR_reg rfl hA hr0 e5
        obtain ⟨z8, e7, hf⟩ := xbd hf
        obtain ⟨_, e9, hf⟩ := xbd hf
        obtain ⟨σ11, e10, hf⟩ := xbd hf
        obtain ⟨hm9, hA⟩ := n_X5_keep hA hz6 e10
        have hm := hm.tr hm9
        exact ⟨hm.tr (n_X11_glass_l40 (a := (x1.toInt64, (0 : Int32), σ11)) hA hr0 hf).1, (n_X11_glass_l40 (a := (x1.toInt64, (0 : Int32), σ11)) hA hr0 hf).2⟩
theorem n_X11_ground_j4 {A : Nat → Prop} {σ : XS} {x1 : Int32} {t0 : Nat} {x : Int32 × XS} (hA : RegN A σ) (hf : f_X11_ground_j4 σ x1 t0 = some x) : Sm A σ x.2 ∧ RegN A x.2 := by
  have hm := Sm.rf (A := A) (σ := σ)
  obtain ⟨v2, e1, hf⟩ := xbd hf
  by_cases q : v2 = 0
  · have hf := xip q hf
    have hf := xsj hf
    subst hf
    exact ⟨hm, hA⟩
  · have hf := xin q hf
    obtain ⟨_, e3, hf⟩ := xbd hf
    obtain ⟨v5, e4, hf⟩ := xbd hf
    by_cases ho : (x1).toInt < 0 ∨ 3 < (x1).toInt
    · have hf := xsw_out ho rfl hf
      have hf := xsj hf
      subst hf
      exact ⟨hm, hA⟩
    · rcases (by omega : (x1).toInt = 0 + ((0 : Nat) : Int) ∨ (x1).toInt = 0 + ((1 : Nat) : Int) ∨ (x1).toInt = 0 + ((2 : Nat) : Int) ∨ (x1).toInt = 0 + ((3 : Nat) : Int)) with hk1 | hk1 | hk1 | hk1
      · have hf := xsw_in 0 hk1 rfl hf
        have hf := xsj hf
        subst hf
        exact ⟨hm, hA⟩
      · have hf := xsw_in 1 hk1 rfl hf
        obtain ⟨_, e6, hf⟩ := xbd hf
        obtain ⟨v8, e7, hf⟩ := xbd hf
        have hf := xsj hf
        subst hf
        exact ⟨hm, hA⟩
      · have hf := xsw_in 2 hk1 rfl hf
        obtain ⟨_, e6, hf⟩ := xbd hf
        obtain ⟨v8, e7, hf⟩ := xbd hf
        have hf := xsj hf
        subst hf
        exact ⟨hm, hA⟩
      · have hf := xsw_in 3 hk1 rfl hf
        obtain ⟨v7, e6, hf⟩ := xbd hf
        by_cases q : v7 ≤ (1 : Int32)
        · have hf := xip q hf
          have hf := xsj hf
          subst hf
          exact ⟨hm, hA⟩
        · have hf := xin q hf
          obtain ⟨_, e8, hf⟩ := xbd hf
          obtain ⟨v10, e9, hf⟩ := xbd hf
          have hf := xsj hf
          subst hf
          exact ⟨hm, hA⟩
theorem n_X11_ground {A : Nat → Prop} {σ : XS} {r0 : Nat} {x1 : Int32} {x : Int32 × XS} (hA : RegN A σ) (hr0 : A r0) (hf : f_X11_ground σ r0 x1 = some x) : Sm A σ x.2 ∧ RegN A x.2 := by
  have hm := Sm.rf (A := A) (σ := σ)
  obtain ⟨_, e1, hf⟩ := xbd hf
  obtain ⟨⟨z4, σ3⟩, e2, hf⟩ := xbd hf
  dsimp only at hf
  obtain ⟨hm9, hA, hz40⟩ := n_X11_levelsNow hA hr0 e2
  have hm := hm.tr hm9
  obtain ⟨_, e5, hf⟩ := xbd hf
  have hz4 := hz40 (xnz_spec e5)
  exact ⟨hm.tr (n_X11_ground_j4 hA hf).1, (n_X11_ground_j4 hA hf).2⟩
theorem n_X11_heldWays_j39 {A : Nat → Prop} {σ : XS} {r0 : Nat} {r1 : Nat} {x : Nat × XS} (hA : RegN A σ) (hr1 : A r1) (hf : f_X11_heldWays_j39 σ r0 r1 = some x) : Sm A σ x.2 ∧ RegN A x.2 ∧ (x.1 ≠ 0 → A x.1) := by
  have hm := Sm.rf (A := A) (σ := σ)
  obtain ⟨z2, e1, hf⟩ := xbd hf
  have hz2 := xgR_reg rfl hA.1 hr1 e1
  obtain ⟨z4, e3, hf⟩ := xbd hf
  obtain ⟨z6, e5, hf⟩ := xbd hf
  obtain ⟨_, e7, hf⟩ := xbd hf
  obtain ⟨σ9, e8, hf⟩ := xbd hf
  obtain ⟨hm9, hB⟩ := n_X11_countWays hA.1 hz2 e8
  have hA := RegN.step hA hB (m_X11_countWays e8).ext
  have hm := hm.tr hm9
  obtain ⟨σ11, e10, hf⟩ := xbd hf
  obtain ⟨hm9, hB⟩ := xpI_reg hA.1 hr1 e10
  have hA := RegN.step hA hB (xpI_same e10).ext
  have hm := hm.tr hm9
  obtain ⟨z13, e12, hf⟩ := xbd hf
  have hz13 := xgR_reg rfl hA.1 hr1 e12
  obtain ⟨_, e14, hf⟩ := xbd hf
  have hf := xsj hf
  subst hf
  exact ⟨hm, hA, fun _ => hz13⟩
theorem n_X11_heldWays {A : Nat → Prop} {σ : XS} {r0 : Nat} {r1 : Nat} {x : Nat × XS} (hA : RegN A σ) (hr0 : A r0) (hr1 : A r1) (hf : f_X11_heldWays σ r0 r1 = some x) : Sm A σ x.2 ∧ RegN A x.2 ∧ (x.1 ≠ 0 → A x.1) := by
  have hm := Sm.rf (A := A) (σ := σ)
  obtain ⟨v2, e1, hf⟩ := xbd hf
  by_cases q : v2 = 0
  · have hf := xip q hf
    obtain ⟨z4, e3, hf⟩ := xbd hf
    have hz4 := xgR_reg rfl hA.1 hr0 e3
    obtain ⟨z6, e5, hf⟩ := xbd hf
    obtain ⟨z8, e7, hf⟩ := xbd hf
    obtain ⟨z10, e9, hf⟩ := xbd hf
    obtain ⟨z12, e11, hf⟩ := xbd hf
    obtain ⟨z14, e13, hf⟩ := xbd hf
    obtain ⟨z16, e15, hf⟩ := xbd hf
    obtain ⟨v18, e17, hf⟩ := xbd hf
    obtain ⟨_, e19, hf⟩ := xbd hf
    obtain ⟨σ21, e20, hf⟩ := xbd hf
    obtain ⟨hm9, hA⟩ := n_X2_fill hA hz4 e20
    have hm := hm.tr hm9
    exact ⟨hm.tr (n_X11_heldWays_j39 hA hr1 hf).1, (n_X11_heldWays_j39 hA hr1 hf).2⟩
  · have hf := xin q hf
    obtain ⟨z4, e3, hf⟩ := xbd hf
    have hz4 := xgR_reg rfl hA.1 hr1 e3
    obtain ⟨_, e5, hf⟩ := xbd hf
    have hf := xsj hf
    subst hf
    exact ⟨hm, hA, fun _ => hz4⟩
theorem n_X9_dry {A : Nat → Prop} {σ : XS} {r0 : Nat} {x : XS} (hA : Reg A σ) (hr0 : A r0) (hf : f_X9_dry σ r0 = some x) : Sm A σ x ∧ Reg A x := by
  have hm := Sm.rf (A := A) (σ := σ)
  obtain ⟨z2, e1, hf⟩ := xbd hf
  have hz2 := xgR_reg rfl hA hr0 e1
  obtain ⟨σ4, e3, hf⟩ := xbd hf
  obtain ⟨hm9, hA⟩ := n_J7_fill_53178 hA hz2 e3
  have hm := hm.tr hm9
  obtain ⟨σ6, e5, hf⟩ := xbd hf
  obtain ⟨hm9, hA⟩ := xpI_reg hA hr0 e5
  have hm := hm.tr hm9
  have hf := xsj hf
  subst hf
  exact ⟨hm, hA⟩
theorem n_X9_rootOf_l4 {A : Nat → Prop} {r0 : Nat} {a : Int32 × Int32 × XS} {x : Int32 × XS} (hA : Reg A a.2.2) (hr0 : A r0) (hf : xloop (f_X9_rootOf_b4 r0) a = some x) : Sm A a.2.2 x.2 ∧ Reg A x.2 := by
  revert hA
  refine xloop_ind (P := fun a => Reg A a.2.2 → Sm A a.2.2 x.2 ∧ Reg A x.2) (fun a y hf hc he => ?_) hf
  obtain ⟨x2, x3, σ⟩ := a
  intro hA
  have hA0 : Reg A σ := hA
  have hy : (∀ a' : Int32 × Int32 × XS, y = .inl a' → Sm A σ a'.2.2 ∧ Reg A a'.2.2) ∧ (∀ b1 : Int32 × XS, y = .inr b1 → Sm A σ b1.2 ∧ Reg A b1.2) := by
    have hm := Sm.rf (A := A) (σ := σ)
    by_cases q : (1024 : Int32) ≤ x3
    · have hf := xip q hf
      obtain ⟨b0, hg, e9⟩ := xmj hf
      subst e9
      have hf := hg
      refine ⟨fun a' e => xnc2 e, fun b e => ?_⟩
      have h9 := Sum.inr.inj e
      subst h9
      have hf := xsj hf
      subst hf
      exact ⟨hm, hA⟩
    · have hf := xin q hf
      obtain ⟨_, e1, hf⟩ := xbd hf
      obtain ⟨v3, e2, hf⟩ := xbd hf
      by_cases q : v3 = 0
      · have hf := xip q hf
        obtain ⟨b0, hg, e9⟩ := xmj hf
        subst e9
        have hf := hg
        refine ⟨fun a' e => xnc2 e, fun b e => ?_⟩
        have h9 := Sum.inr.inj e
        subst h9
        have hf := xsj hf
        subst hf
        exact ⟨hm, hA⟩
      · have hf := xin q hf
        obtain ⟨z5, e4, hf⟩ := xbd hf
        obtain ⟨v7, e6, hf⟩ := xbd hf
        obtain ⟨_, e8, hf⟩ := xbd hf
        obtain ⟨v10, e9, hf⟩ := xbd hf
        by_cases q : v10 = 0
        · have hf := xip q hf
          obtain ⟨b0, hg, e9⟩ := xmj hf
          subst e9
          have hf := hg
          refine ⟨fun a' e => xnc2 e, fun b e => ?_⟩
          have h9 := Sum.inr.inj e
          subst h9
          have hf := xsj hf
          subst hf
          exact ⟨hm, hA⟩
        · have hf := xin q hf
          obtain ⟨z12, e11, hf⟩ := xbd hf
          obtain ⟨v14, e13, hf⟩ := xbd hf
          by_cases q : v14 = x2
          · have hf := xip q hf
            obtain ⟨b0, hg, e9⟩ := xmj hf
            subst e9
            have hf := hg
            refine ⟨fun a' e => xnc2 e, fun b e => ?_⟩
            have h9 := Sum.inr.inj e
            subst h9
            have hf := xsj hf
            subst hf
            exact ⟨hm, hA⟩
          · have hf := xin q hf
            obtain ⟨z16, e15, hf⟩ := xbd hf
            have hz16 := xgR_reg rfl hA hr0 e15
            obtain ⟨z18, e17, hf⟩ := xbd hf
            obtain ⟨z20, e19, hf⟩ := xbd hf
            obtain ⟨v22, e21, hf⟩ := xbd hf
            obtain ⟨v24, e23, hf⟩ := xbd hf
            obtain ⟨σ26, e25, hf⟩ := xbd hf
            obtain ⟨hm9, hA⟩ := xsI_reg hA hz16 e25
            have hm := hm.tr hm9
            obtain ⟨z28, e27, hf⟩ := xbd hf
            obtain ⟨v30, e29, hf⟩ := xbd hf
            have hf := xsj hf
            subst hf
            exact ⟨fun a' e => (by have h9 := Sum.inl.inj e; subst h9; exact ⟨hm, hA⟩), fun b e => xnc1 e⟩
  cases y with
  | inl a' =>
    obtain ⟨hm, hA1⟩ := hy.1 a' rfl
    have h1 := hc a' rfl hA1
    exact ⟨hm.tr (h1).1, (h1).2⟩
  | inr b =>
    have h1 := he b rfl
    subst h1
    exact hy.2 _ rfl
theorem n_X9_rootOf {A : Nat → Prop} {σ : XS} {r0 : Nat} {x1 : Int32} {x : Int32 × XS} (hA : Reg A σ) (hr0 : A r0) (hf : f_X9_rootOf σ r0 x1 = some x) : Sm A σ x.2 ∧ Reg A x.2 := by
  have hm := Sm.rf (A := A) (σ := σ)
  exact ⟨hm.tr (n_X9_rootOf_l4 (a := (x1, (0 : Int32), σ)) hA hr0 hf).1, (n_X9_rootOf_l4 (a := (x1, (0 : Int32), σ)) hA hr0 hf).2⟩
theorem n_X9_join {A : Nat → Prop} {σ : XS} {r0 : Nat} {x1 : Int32} {x2 : Int32} {x : XS} (hA : Reg A σ) (hr0 : A r0) (hf : f_X9_join σ r0 x1 x2 = some x) : Sm A σ x ∧ Reg A x := by
  have hm := Sm.rf (A := A) (σ := σ)
  obtain ⟨_, e1, hf⟩ := xbd hf
  obtain ⟨⟨v4, σ3⟩, e2, hf⟩ := xbd hf
  dsimp only at hf
  obtain ⟨hm9, hA⟩ := n_X9_rootOf hA hr0 e2
  have hm := hm.tr hm9
  obtain ⟨_, e5, hf⟩ := xbd hf
  obtain ⟨⟨v8, σ7⟩, e6, hf⟩ := xbd hf
  dsimp only at hf
  obtain ⟨hm9, hA⟩ := n_X9_rootOf hA hr0 e6
  have hm := hm.tr hm9
  by_cases q : v4 = v8
  · have hf := xip q hf
    have hf := xsj hf
    subst hf
    exact ⟨hm, hA⟩
  · have hf := xin q hf
    obtain ⟨v10, e9, hf⟩ := xbd hf
    by_cases q : v10 = 0
    · have hf := xip q hf
      have hf := xsj hf
      subst hf
      exact ⟨hm, hA⟩
    · have hf := xin q hf
      obtain ⟨z12, e11, hf⟩ := xbd hf
      have hz12 := xgR_reg rfl hA hr0 e11
      obtain ⟨σ14, e13, hf⟩ := xbd hf
      obtain ⟨hm9, hA⟩ := xsI_reg hA hz12 e13
      have hm := hm.tr hm9
      obtain ⟨v16, e15, hf⟩ := xbd hf
      obtain ⟨σ18, e17, hf⟩ := xbd hf
      obtain ⟨hm9, hA⟩ := xpI_reg hA hr0 e17
      have hm := hm.tr hm9
      have hf := xsj hf
      subst hf
      exact ⟨hm, hA⟩
theorem n_X9_flood_l27 {A : Nat → Prop} {r0 : Nat} {x1 : Int32} {a : Int32 × XS} {x : XS} (hA : Reg A a.2) (hr0 : A r0) (hf : xloop (f_X9_flood_b27 r0 x1) a = some x) : Sm A a.2 x ∧ Reg A x := by
  revert hA
  refine xloop_ind (P := fun a => Reg A a.2 → Sm A a.2 x ∧ Reg A x) (fun a y hf hc he => ?_) hf
  obtain ⟨x2, σ⟩ := a
  intro hA
  have hA0 : Reg A σ := hA
  have hy : (∀ a' : Int32 × XS, y = .inl a' → Sm A σ a'.2 ∧ Reg A a'.2) ∧ (∀ b1 : XS, y = .inr b1 → Sm A σ b1 ∧ Reg A b1) := by
    have hm := Sm.rf (A := A) (σ := σ)
    obtain ⟨v2, e1, hf⟩ := xbd hf
    by_cases q : v2 ≤ x2
    · have hf := xip q hf
      obtain ⟨b0, hg, e9⟩ := xmj hf
      subst e9
      have hf := hg
      refine ⟨fun a' e => xnc2 e, fun b e => ?_⟩
      have h9 := Sum.inr.inj e
      subst h9
      have hf := xsj hf
      subst hf
      exact ⟨hm, hA⟩
    · have hf := xin q hf
      obtain ⟨_, e3, hf⟩ := xbd hf
      obtain ⟨v5, e4, hf⟩ := xbd hf
      by_cases q : v5 = 0
      · have hf := xip q hf
        have hf := xsj hf
        subst hf
        exact ⟨fun a' e => (by have h9 := Sum.inl.inj e; subst h9; exact ⟨hm, hA⟩), fun b e => xnc1 e⟩
      · have hf := xin q hf
        obtain ⟨_, e6, hf⟩ := xbd hf
        obtain ⟨v8, e7, hf⟩ := xbd hf
        by_cases q : v8 = 0
        · have hf := xip q hf
          have hf := xsj hf
          subst hf
          exact ⟨fun a' e => (by have h9 := Sum.inl.inj e; subst h9; exact ⟨hm, hA⟩), fun b e => xnc1 e⟩
        · have hf := xin q hf
          obtain ⟨_, e9, hf⟩ := xbd hf
          obtain ⟨σ11, e10, hf⟩ := xbd hf
          obtain ⟨hm9, hA⟩ := n_X9_join hA hr0 e10
          have hm := hm.tr hm9
          have hf := xsj hf
          subst hf
          exact ⟨fun a' e => (by have h9 := Sum.inl.inj e; subst h9; exact ⟨hm, hA⟩), fun b e => xnc1 e⟩
  cases y with
  | inl a' =>
    obtain ⟨hm, hA1⟩ := hy.1 a' rfl
    have h1 := hc a' rfl hA1
    exact ⟨hm.tr (h1).1, (h1).2⟩
  | inr b =>
    have h1 := he b rfl
    subst h1
    exact hy.2 _ rfl
theorem n_X9_flood {A : Nat → Prop} {σ : XS} {r0 : Nat} {x1 : Int32} {x : XS} (hA : Reg A σ) (hr0 : A r0) (hf : f_X9_flood σ r0 x1 = some x) : Sm A σ x ∧ Reg A x := by
  have hm := Sm.rf (A := A) (σ := σ)
  obtain ⟨v2, e1, hf⟩ := xbd hf
  by_cases q : v2 = 0
  · have hf := xip q hf
    have hf := xsj hf
    subst hf
    exact ⟨hm, hA⟩
  · have hf := xin q hf
    obtain ⟨z4, e3, hf⟩ := xbd hf
    have hz4 := xgR_reg rfl hA hr0 e3
    obtain ⟨σ6, e5, hf⟩ := xbd hf
    obtain ⟨hm9, hA⟩ := xsI_reg hA hz4 e5
    have hm := hm.tr hm9
    obtain ⟨v8, e7, hf⟩ := xbd hf
    obtain ⟨σ10, e9, hf⟩ := xbd hf
    obtain ⟨hm9, hA⟩ := xpI_reg hA hr0 e9
    have hm := hm.tr hm9
    exact ⟨hm.tr (n_X9_flood_l27 (a := ((0 : Int32), σ10)) hA hr0 hf).1, (n_X9_flood_l27 (a := ((0 : Int32), σ10)) hA hr0 hf).2⟩
theorem n_X9_meetingEnergy_j70 {A : Nat → Prop} {σ : XS} {r0 : Nat} {x1 : Int32} {x2 : Int32} {x3 : Int32} {x4 : Int32} {x5 : Int32} {x : ((Int32 × XS) ⊕ (Int32 × XS))} (hA : Reg A σ) (hr0 : A r0) (hf : f_X9_meetingEnergy_j70 σ r0 x1 x2 x3 x4 x5 = some x) : (∀ a' : Int32 × XS, x = .inl a' → Sm A σ a'.2 ∧ Reg A a'.2) ∧ (∀ b1 : Int32 × XS, x = .inr b1 → Sm A σ b1.2 ∧ Reg A b1.2) := by
  have hm := Sm.rf (A := A) (σ := σ)
  obtain ⟨_, e1, hf⟩ := xbd hf
  obtain ⟨v3, e2, hf⟩ := xbd hf
  by_cases q : v3 = 0
  · have hf := xip q hf
    have hf := xsj hf
    subst hf
    exact ⟨fun a' e => (by have h9 := Sum.inl.inj e; subst h9; exact ⟨hm, hA⟩), fun b e => xnc1 e⟩
  · have hf := xin q hf
    obtain ⟨_, e4, hf⟩ := xbd hf
    obtain ⟨v6, e5, hf⟩ := xbd hf
    by_cases q : v6 = 0
    · have hf := xip q hf
      have hf := xsj hf
      subst hf
      exact ⟨fun a' e => (by have h9 := Sum.inl.inj e; subst h9; exact ⟨hm, hA⟩), fun b e => xnc1 e⟩
    · have hf := xin q hf
      obtain ⟨_, e7, hf⟩ := xbd hf
      obtain ⟨⟨v10, σ9⟩, e8, hf⟩ := xbd hf
      dsimp only at hf
      obtain ⟨hm9, hA⟩ := n_X9_rootOf hA hr0 e8
      have hm := hm.tr hm9
      obtain ⟨_, e11, hf⟩ := xbd hf
      obtain ⟨⟨v14, σ13⟩, e12, hf⟩ := xbd hf
      dsimp only at hf
      obtain ⟨hm9, hA⟩ := n_X9_rootOf hA hr0 e12
      have hm := hm.tr hm9
      by_cases q : v10 = v14
      · have hf := xip q hf
        obtain ⟨b0, hg, e9⟩ := xmj hf
        subst e9
        have hf := hg
        refine ⟨fun a' e => xnc2 e, fun b e => ?_⟩
        have h9 := Sum.inr.inj e
        subst h9
        obtain ⟨_, e15, hf⟩ := xbd hf
        obtain ⟨v17, e16, hf⟩ := xbd hf
        have hf := xsj hf
        subst hf
        exact ⟨hm, hA⟩
      · have hf := xin q hf
        have hf := xsj hf
        subst hf
        exact ⟨fun a' e => (by have h9 := Sum.inl.inj e; subst h9; exact ⟨hm, hA⟩), fun b e => xnc1 e⟩
theorem n_X9_meetingEnergy_l7 {A : Nat → Prop} {r0 : Nat} {x1 : Int32} {x2 : Int32} {x3 : Int32} {a : Int32 × XS} {x : Int32 × XS} (hA : Reg A a.2) (hr0 : A r0) (hf : xloop (f_X9_meetingEnergy_b7 r0 x1 x2 x3) a = some x) : Sm A a.2 x.2 ∧ Reg A x.2 := by
  revert hA
  refine xloop_ind (P := fun a => Reg A a.2 → Sm A a.2 x.2 ∧ Reg A x.2) (fun a y hf hc he => ?_) hf
  obtain ⟨x4, σ⟩ := a
  intro hA
  have hA0 : Reg A σ := hA
  have hy : (∀ a' : Int32 × XS, y = .inl a' → Sm A σ a'.2 ∧ Reg A a'.2) ∧ (∀ b1 : Int32 × XS, y = .inr b1 → Sm A σ b1.2 ∧ Reg A b1.2) := by
    have hm := Sm.rf (A := A) (σ := σ)
    obtain ⟨v2, e1, hf⟩ := xbd hf
    by_cases q : v2 ≤ x4
    · have hf := xip q hf
      obtain ⟨b0, hg, e9⟩ := xmj hf
      subst e9
      have hf := hg
      refine ⟨fun a' e => xnc2 e, fun b e => ?_⟩
      have h9 := Sum.inr.inj e
      subst h9
      have hf := xsj hf
      subst hf
      exact ⟨hm, hA⟩
    · have hf := xin q hf
      by_cases q : (1024 : Int32) ≤ x4
      · have hf := xip q hf
        obtain ⟨b0, hg, e9⟩ := xmj hf
        subst e9
        have hf := hg
        refine ⟨fun a' e => xnc2 e, fun b e => ?_⟩
        have h9 := Sum.inr.inj e
        subst h9
        have hf := xsj hf
        subst hf
        exact ⟨hm, hA⟩
      · have hf := xin q hf
        obtain ⟨z4, e3, hf⟩ := xbd hf
        obtain ⟨v6, e5, hf⟩ := xbd hf
        obtain ⟨_, e7, hf⟩ := xbd hf
        obtain ⟨σ9, e8, hf⟩ := xbd hf
        obtain ⟨hm9, hA⟩ := n_X9_flood hA hr0 e8
        have hm := hm.tr hm9
        by_cases q : x3 = 0
        · have hf := xip q hf
          exact ⟨fun a' e => ⟨hm.tr ((n_X9_meetingEnergy_j70 hA hr0 hf).1 a' e).1, ((n_X9_meetingEnergy_j70 hA hr0 hf).1 a' e).2⟩, fun b1 eb1 => ⟨hm.tr ((n_X9_meetingEnergy_j70 hA hr0 hf).2 b1 eb1).1, ((n_X9_meetingEnergy_j70 hA hr0 hf).2 b1 eb1).2⟩⟩
        · have hf := xin q hf
          obtain ⟨_, e10, hf⟩ := xbd hf
          obtain ⟨v12, e11, hf⟩ := xbd hf
          obtain ⟨_, e13, hf⟩ := xbd hf
          obtain ⟨v15, e14, hf⟩ := xbd hf
          obtain ⟨_, e16, hf⟩ := xbd hf
          obtain ⟨v18, e17, hf⟩ := xbd hf
          by_cases q : v12 = v18
          · have hf := xip q hf
            obtain ⟨_, e19, hf⟩ := xbd hf
            obtain ⟨v21, e20, hf⟩ := xbd hf
            obtain ⟨_, e22, hf⟩ := xbd hf
            obtain ⟨σ24, e23, hf⟩ := xbd hf
            obtain ⟨hm9, hA⟩ := n_X9_join hA hr0 e23
            have hm := hm.tr hm9
            exact ⟨fun a' e => ⟨hm.tr ((n_X9_meetingEnergy_j70 hA hr0 hf).1 a' e).1, ((n_X9_meetingEnergy_j70 hA hr0 hf).1 a' e).2⟩, fun b1 eb1 => ⟨hm.tr ((n_X9_meetingEnergy_j70 hA hr0 hf).2 b1 eb1).1, ((n_X9_meetingEnergy_j70 hA hr0 hf).2 b1 eb1).2⟩⟩
          · have hf := xin q hf
            exact ⟨fun a' e => ⟨hm.tr ((n_X9_meetingEnergy_j70 hA hr0 hf).1 a' e).1, ((n_X9_meetingEnergy_j70 hA hr0 hf).1 a' e).2⟩, fun b1 eb1 => ⟨hm.tr ((n_X9_meetingEnergy_j70 hA hr0 hf).2 b1 eb1).1, ((n_X9_meetingEnergy_j70 hA hr0 hf).2 b1 eb1).2⟩⟩
  cases y with
  | inl a' =>
    obtain ⟨hm, hA1⟩ := hy.1 a' rfl
    have h1 := hc a' rfl hA1
    exact ⟨hm.tr (h1).1, (h1).2⟩
  | inr b =>
    have h1 := he b rfl
    subst h1
    exact hy.2 _ rfl
theorem n_X9_meetingEnergy {A : Nat → Prop} {σ : XS} {r0 : Nat} {x1 : Int32} {x2 : Int32} {x3 : Int32} {x : Int32 × XS} (hA : Reg A σ) (hr0 : A r0) (hf : f_X9_meetingEnergy σ r0 x1 x2 x3 = some x) : Sm A σ x.2 ∧ Reg A x.2 := by
  have hm := Sm.rf (A := A) (σ := σ)
  obtain ⟨_, e1, hf⟩ := xbd hf
  obtain ⟨σ3, e2, hf⟩ := xbd hf
  obtain ⟨hm9, hA⟩ := n_X9_dry hA hr0 e2
  have hm := hm.tr hm9
  exact ⟨hm.tr (n_X9_meetingEnergy_l7 (a := ((0 : Int32), σ3)) hA hr0 hf).1, (n_X9_meetingEnergy_l7 (a := ((0 : Int32), σ3)) hA hr0 hf).2⟩
theorem n_X11_hill_j22 {A : Nat → Prop} {σ : XS} {x1 : Int32} {t0 : Nat} {x : Int32 × XS} (hA : RegN A σ) (ht0 : A t0) (hf : f_X11_hill_j22 σ x1 t0 = some x) : Sm A σ x.2 ∧ RegN A x.2 := by
  have hm := Sm.rf (A := A) (σ := σ)
  obtain ⟨_, e1, hf⟩ := xbd hf
  obtain ⟨v3, e2, hf⟩ := xbd hf
  obtain ⟨_, e4, hf⟩ := xbd hf
  obtain ⟨⟨v7, σ6⟩, e5, hf⟩ := xbd hf
  dsimp only at hf
  obtain ⟨hm9, hB⟩ := n_X9_meetingEnergy hA.1 ht0 e5
  have hA := RegN.step hA hB (m_X9_meetingEnergy e5).ext
  have hm := hm.tr hm9
  have hf := xsj hf
  subst hf
  exact ⟨hm, hA⟩
theorem n_X11_hill {A : Nat → Prop} {σ : XS} {r0 : Nat} {x1 : Int32} {x : Int32 × XS} (hA : RegN A σ) (hr0 : A r0) (hf : f_X11_hill σ r0 x1 = some x) : Sm A σ x.2 ∧ RegN A x.2 := by
  have hm := Sm.rf (A := A) (σ := σ)
  obtain ⟨_, e1, hf⟩ := xbd hf
  obtain ⟨v3, e2, hf⟩ := xbd hf
  by_cases q : v3 = 0
  · have hf := xip q hf
    have hf := xsj hf
    subst hf
    exact ⟨hm, hA⟩
  · have hf := xin q hf
    obtain ⟨_, e4, hf⟩ := xbd hf
    obtain ⟨v6, e5, hf⟩ := xbd hf
    by_cases q : v6 = 0
    · have hf := xip q hf
      have hf := xsj hf
      subst hf
      exact ⟨hm, hA⟩
    · have hf := xin q hf
      obtain ⟨_, e7, hf⟩ := xbd hf
      obtain ⟨⟨z10, σ9⟩, e8, hf⟩ := xbd hf
      dsimp only at hf
      obtain ⟨hm9, hA, hz100⟩ := n_X11_terrainNow hA hr0 e8
      have hm := hm.tr hm9
      obtain ⟨_, e11, hf⟩ := xbd hf
      have hz10 := hz100 (xnz_spec e11)
      exact ⟨hm.tr (n_X11_hill_j22 hA hz10 hf).1, (n_X11_hill_j22 hA hz10 hf).2⟩
theorem n_X11_slotAt {A : Nat → Prop} {σ : XS} {r0 : Nat} {x1 : Int32} {x : Nat} (hA : Reg A σ) (hr0 : A r0) (hf : f_X11_slotAt σ r0 x1 = some x) : (x ≠ 0 → A x) := by
  have hm := Sm.rf (A := A) (σ := σ)
  by_cases q : x1 < 0
  · have hf := xip q hf
    have hf := xsj hf
    subst hf
    exact fun h0 => absurd rfl h0
  · have hf := xin q hf
    obtain ⟨z2, e1, hf⟩ := xbd hf
    obtain ⟨v4, e3, hf⟩ := xbd hf
    by_cases q : v4 ≤ x1
    · have hf := xip q hf
      have hf := xsj hf
      subst hf
      exact fun h0 => absurd rfl h0
    · have hf := xin q hf
      obtain ⟨z6, e5, hf⟩ := xbd hf
      have hz6 := xgR_reg rfl hA hr0 e5
      obtain ⟨z8, e7, hf⟩ := xbd hf
      have hz8 := xaR_reg (by decide) hA hz6 e7
      obtain ⟨_, e9, hf⟩ := xbd hf
      have hf := xsj hf
      subst hf
      exact fun _ => hz8
theorem n_X11_hold {A : Nat → Prop} {σ : XS} {r0 : Nat} {x1 : Int32} {x : Int32 × XS} (hA : Reg A σ) (hr0 : A r0) (hf : f_X11_hold σ r0 x1 = some x) : Sm A σ x.2 ∧ Reg A x.2 := by
  have hm := Sm.rf (A := A) (σ := σ)
  obtain ⟨_, e1, hf⟩ := xbd hf
  obtain ⟨z3, e2, hf⟩ := xbd hf
  by_cases q : z3 = 0
  · have hf := xip q hf
    have hf := xsj hf
    subst hf
    exact ⟨hm, hA⟩
  · have hf := xin q hf
    have hz3 := (n_X11_slotAt hA hr0 e2 q)
    obtain ⟨z5, e4, hf⟩ := xbd hf
    have hz5 := xgR_reg rfl hA hz3 e4
    obtain ⟨z7, e6, hf⟩ := xbd hf
    obtain ⟨_, e8, hf⟩ := xbd hf
    obtain ⟨σ10, e9, hf⟩ := xbd hf
    obtain ⟨hm9, hA⟩ := n_X6_copyFrom hA hz5 e9
    have hm := hm.tr hm9
    obtain ⟨σ12, e11, hf⟩ := xbd hf
    obtain ⟨hm9, hA⟩ := xpI_reg hA hz3 e11
    have hm := hm.tr hm9
    obtain ⟨σ14, e13, hf⟩ := xbd hf
    obtain ⟨hm9, hA⟩ := xpI_reg hA hz3 e13
    have hm := hm.tr hm9
    have hf := xsj hf
    subst hf
    exact ⟨hm, hA⟩
theorem n_X8_init_j37 {A : Nat → Prop} {σ : XS} {t0 : Nat} {t1 : Nat} {x : XS} (hA : RegN A σ) (ht0 : A t0) (ht1 : A t1) (hf : f_X8_init_j37 σ t0 t1 = some x) : Sm A σ x ∧ RegN A x := by
  have hm := Sm.rf (A := A) (σ := σ)
  obtain ⟨_, e1, hf⟩ := xbd hf
  obtain ⟨σ3, e2, hf⟩ := xbd hf
  obtain ⟨hm9, hB⟩ := xpR_reg hA.1 ht0 ht1 e2
  have hA := RegN.step hA hB (xpR_same e2).ext
  have hm := hm.tr hm9
  have hf := xsj hf
  subst hf
  exact ⟨hm, hA⟩
theorem n_X8_init_j28 {A : Nat → Prop} {σ : XS} {r0 : Nat} {t0 : Nat} {t1 : Nat} {x : XS} (hA : RegN A σ) (hr0 : A r0) (ht0 : A t0) (ht1 : A t1) (hf : f_X8_init_j28 σ r0 t0 t1 = some x) : Sm A σ x ∧ RegN A x := by
  have hm := Sm.rf (A := A) (σ := σ)
  obtain ⟨_, e1, hf⟩ := xbd hf
  obtain ⟨σ3, e2, hf⟩ := xbd hf
  obtain ⟨hm9, hB⟩ := xpR_reg hA.1 ht0 ht1 e2
  have hA := RegN.step hA hB (xpR_same e2).ext
  have hm := hm.tr hm9
  obtain ⟨⟨z5, σ6⟩, e4, hf⟩ := xbd hf
  dsimp only at hf
  obtain ⟨hm9, hA, hz5⟩ := xnA_reg hA e4
  have hm := hm.tr hm9
  exact ⟨hm.tr (n_X8_init_j37 hA hr0 hz5 hf).1, (n_X8_init_j37 hA hr0 hz5 hf).2⟩
theorem n_X8_init_j19 {A : Nat → Prop} {σ : XS} {r0 : Nat} {t0 : Nat} {t1 : Nat} {x : XS} (hA : RegN A σ) (hr0 : A r0) (ht0 : A t0) (ht1 : A t1) (hf : f_X8_init_j19 σ r0 t0 t1 = some x) : Sm A σ x ∧ RegN A x := by
  have hm := Sm.rf (A := A) (σ := σ)
  obtain ⟨_, e1, hf⟩ := xbd hf
  obtain ⟨σ3, e2, hf⟩ := xbd hf
  obtain ⟨hm9, hB⟩ := xpR_reg hA.1 ht0 ht1 e2
  have hA := RegN.step hA hB (xpR_same e2).ext
  have hm := hm.tr hm9
  obtain ⟨⟨z5, σ6⟩, e4, hf⟩ := xbd hf
  dsimp only at hf
  obtain ⟨hm9, hA, hz5⟩ := xnA_reg hA e4
  have hm := hm.tr hm9
  exact ⟨hm.tr (n_X8_init_j28 hA hr0 hr0 hz5 hf).1, (n_X8_init_j28 hA hr0 hr0 hz5 hf).2⟩
theorem n_X8_init_j10 {A : Nat → Prop} {σ : XS} {r0 : Nat} {t0 : Nat} {t1 : Nat} {x : XS} (hA : RegN A σ) (hr0 : A r0) (ht0 : A t0) (ht1 : A t1) (hf : f_X8_init_j10 σ r0 t0 t1 = some x) : Sm A σ x ∧ RegN A x := by
  have hm := Sm.rf (A := A) (σ := σ)
  obtain ⟨_, e1, hf⟩ := xbd hf
  obtain ⟨σ3, e2, hf⟩ := xbd hf
  obtain ⟨hm9, hB⟩ := xpR_reg hA.1 ht0 ht1 e2
  have hA := RegN.step hA hB (xpR_same e2).ext
  have hm := hm.tr hm9
  obtain ⟨⟨z5, σ6⟩, e4, hf⟩ := xbd hf
  dsimp only at hf
  obtain ⟨hm9, hA, hz5⟩ := xnA_reg hA e4
  have hm := hm.tr hm9
  exact ⟨hm.tr (n_X8_init_j19 hA hr0 hr0 hz5 hf).1, (n_X8_init_j19 hA hr0 hr0 hz5 hf).2⟩
theorem n_X8_init {A : Nat → Prop} {σ : XS} {r0 : Nat} {x : XS} (hA : RegN A σ) (hr0 : A r0) (hf : f_X8_init σ r0 = some x) : Sm A σ x ∧ RegN A x := by
  have hm := Sm.rf (A := A) (σ := σ)
  obtain ⟨⟨z2, σ3⟩, e1, hf⟩ := xbd hf
  dsimp only at hf
  obtain ⟨hm9, hA, hz2⟩ := xnA_reg hA e1
  have hm := hm.tr hm9
  exact ⟨hm.tr (n_X8_init_j10 hA hr0 hr0 hz2 hf).1, (n_X8_init_j10 hA hr0 hr0 hz2 hf).2⟩
theorem n_X6_init_j17 {A : Nat → Prop} {σ : XS} {t0 : Nat} {t1 : Nat} {x : XS} (hA : RegN A σ) (ht0 : A t0) (ht1 : A t1) (hf : f_X6_init_j17 σ t0 t1 = some x) : Sm A σ x ∧ RegN A x := by
  have hm := Sm.rf (A := A) (σ := σ)
  obtain ⟨_, e1, hf⟩ := xbd hf
  obtain ⟨σ3, e2, hf⟩ := xbd hf
  obtain ⟨hm9, hB⟩ := xpR_reg hA.1 ht0 ht1 e2
  have hA := RegN.step hA hB (xpR_same e2).ext
  have hm := hm.tr hm9
  have hf := xsj hf
  subst hf
  exact ⟨hm, hA⟩
theorem n_X6_init_j9 {A : Nat → Prop} {σ : XS} {r0 : Nat} {t0 : Nat} {t1 : Nat} {x : XS} (hA : RegN A σ) (hr0 : A r0) (ht0 : A t0) (ht1 : A t1) (hf : f_X6_init_j9 σ r0 t0 t1 = some x) : Sm A σ x ∧ RegN A x := by
  have hm := Sm.rf (A := A) (σ := σ)
  obtain ⟨_, e1, hf⟩ := xbd hf
  obtain ⟨σ3, e2, hf⟩ := xbd hf
  obtain ⟨hm9, hB⟩ := xpR_reg hA.1 ht0 ht1 e2
  have hA := RegN.step hA hB (xpR_same e2).ext
  have hm := hm.tr hm9
  obtain ⟨⟨z5, σ6⟩, e4, hf⟩ := xbd hf
  dsimp only at hf
  obtain ⟨hm9, hA, hz5⟩ := xnA_reg hA e4
  have hm := hm.tr hm9
  exact ⟨hm.tr (n_X6_init_j17 hA hr0 hz5 hf).1, (n_X6_init_j17 hA hr0 hz5 hf).2⟩
theorem n_X6_init {A : Nat → Prop} {σ : XS} {r0 : Nat} {x : XS} (hA : RegN A σ) (hr0 : A r0) (hf : f_X6_init σ r0 = some x) : Sm A σ x ∧ RegN A x := by
  have hm := Sm.rf (A := A) (σ := σ)
  obtain ⟨⟨z2, σ3⟩, e1, hf⟩ := xbd hf
  dsimp only at hf
  obtain ⟨hm9, hA, hz2⟩ := xnA_reg hA e1
  have hm := hm.tr hm9
  exact ⟨hm.tr (n_X6_init_j9 hA hr0 hr0 hz2 hf).1, (n_X6_init_j9 hA hr0 hr0 hz2 hf).2⟩
theorem n_X1_init_j23 {A : Nat → Prop} {σ : XS} {t0 : Nat} {t1 : Nat} {x : XS} (hA : RegN A σ) (ht0 : A t0) (ht1 : A t1) (hf : f_X1_init_j23 σ t0 t1 = some x) : Sm A σ x ∧ RegN A x := by
  have hm := Sm.rf (A := A) (σ := σ)
  obtain ⟨_, e1, hf⟩ := xbd hf
  obtain ⟨σ3, e2, hf⟩ := xbd hf
  obtain ⟨hm9, hB⟩ := xpR_reg hA.1 ht0 ht1 e2
  have hA := RegN.step hA hB (xpR_same e2).ext
  have hm := hm.tr hm9
  have hf := xsj hf
  subst hf
  exact ⟨hm, hA⟩
theorem n_X1_init_j19 {A : Nat → Prop} {σ : XS} {t0 : Nat} {t1 : Nat} {x : XS} (hA : RegN A σ) (ht0 : A t0) (ht1 : A t1) (hf : f_X1_init_j19 σ t0 t1 = some x) : Sm A σ x ∧ RegN A x := by
  have hm := Sm.rf (A := A) (σ := σ)
  obtain ⟨_, e1, hf⟩ := xbd hf
  obtain ⟨σ3, e2, hf⟩ := xbd hf
  obtain ⟨hm9, hA⟩ := n_X6_init hA ht1 e2
  have hm := hm.tr hm9
  exact ⟨hm.tr (n_X1_init_j23 hA ht0 ht1 hf).1, (n_X1_init_j23 hA ht0 ht1 hf).2⟩
theorem n_X1_init_j12 {A : Nat → Prop} {σ : XS} {r0 : Nat} {t0 : Nat} {t1 : Nat} {x : XS} (hA : RegN A σ) (hr0 : A r0) (ht0 : A t0) (ht1 : A t1) (hf : f_X1_init_j12 σ r0 t0 t1 = some x) : Sm A σ x ∧ RegN A x := by
  have hm := Sm.rf (A := A) (σ := σ)
  obtain ⟨_, e1, hf⟩ := xbd hf
  obtain ⟨σ3, e2, hf⟩ := xbd hf
  obtain ⟨hm9, hB⟩ := xpR_reg hA.1 ht0 ht1 e2
  have hA := RegN.step hA hB (xpR_same e2).ext
  have hm := hm.tr hm9
  obtain ⟨⟨z5, σ6⟩, e4, hf⟩ := xbd hf
  dsimp only at hf
  obtain ⟨hm9, hA, hz5⟩ := xnO_reg hA e4
  have hm := hm.tr hm9
  exact ⟨hm.tr (n_X1_init_j19 hA hr0 hz5 hf).1, (n_X1_init_j19 hA hr0 hz5 hf).2⟩
theorem n_X1_init_j8 {A : Nat → Prop} {σ : XS} {r0 : Nat} {t0 : Nat} {t1 : Nat} {x : XS} (hA : RegN A σ) (hr0 : A r0) (ht0 : A t0) (ht1 : A t1) (hf : f_X1_init_j8 σ r0 t0 t1 = some x) : Sm A σ x ∧ RegN A x := by
  have hm := Sm.rf (A := A) (σ := σ)
  obtain ⟨_, e1, hf⟩ := xbd hf
  obtain ⟨σ3, e2, hf⟩ := xbd hf
  obtain ⟨hm9, hA⟩ := n_X8_init hA ht1 e2
  have hm := hm.tr hm9
  exact ⟨hm.tr (n_X1_init_j12 hA hr0 ht0 ht1 hf).1, (n_X1_init_j12 hA hr0 ht0 ht1 hf).2⟩
theorem n_X1_init {A : Nat → Prop} {σ : XS} {r0 : Nat} {x : XS} (hA : RegN A σ) (hr0 : A r0) (hf : f_X1_init σ r0 = some x) : Sm A σ x ∧ RegN A x := by
  have hm := Sm.rf (A := A) (σ := σ)
  obtain ⟨⟨z2, σ3⟩, e1, hf⟩ := xbd hf
  dsimp only at hf
  obtain ⟨hm9, hA, hz2⟩ := xnO_reg hA e1
  have hm := hm.tr hm9
  exact ⟨hm.tr (n_X1_init_j8 hA hr0 hr0 hz2 hf).1, (n_X1_init_j8 hA hr0 hr0 hz2 hf).2⟩
theorem n_X3_init_j33 {A : Nat → Prop} {σ : XS} {r0 : Nat} {t0 : Nat} {t1 : Nat} {x : XS} (hA : RegN A σ) (hr0 : A r0) (ht0 : A t0) (ht1 : A t1) (hf : f_X3_init_j33 σ r0 t0 t1 = some x) : Sm A σ x ∧ RegN A x := by
  have hm := Sm.rf (A := A) (σ := σ)
  obtain ⟨_, e1, hf⟩ := xbd hf
  obtain ⟨σ3, e2, hf⟩ := xbd hf
  obtain ⟨hm9, hB⟩ := xpR_reg hA.1 ht0 ht1 e2
  have hA := RegN.step hA hB (xpR_same e2).ext
  have hm := hm.tr hm9
  obtain ⟨z5, e4, hf⟩ := xbd hf
  have hz5 := xgR_reg rfl hA.1 hr0 e4
  obtain ⟨σ7, e6, hf⟩ := xbd hf
  obtain ⟨hm9, hB⟩ := n_J7_fill_53178 hA.1 hz5 e6
  have hA := RegN.step hA hB (m_J7_fill_53178 e6).ext
  have hm := hm.tr hm9
  have hf := xsj hf
  subst hf
  exact ⟨hm, hA⟩
theorem n_X3_init_j25 {A : Nat → Prop} {σ : XS} {r0 : Nat} {t0 : Nat} {t1 : Nat} {x : XS} (hA : RegN A σ) (hr0 : A r0) (ht0 : A t0) (ht1 : A t1) (hf : f_X3_init_j25 σ r0 t0 t1 = some x) : Sm A σ x ∧ RegN A x := by
  have hm := Sm.rf (A := A) (σ := σ)
  obtain ⟨_, e1, hf⟩ := xbd hf
  obtain ⟨σ3, e2, hf⟩ := xbd hf
  obtain ⟨hm9, hB⟩ := xpR_reg hA.1 ht0 ht1 e2
  have hA := RegN.step hA hB (xpR_same e2).ext
  have hm := hm.tr hm9
  obtain ⟨⟨z5, σ6⟩, e4, hf⟩ := xbd hf
  dsimp only at hf
  obtain ⟨hm9, hA, hz5⟩ := xnA_reg hA e4
  have hm := hm.tr hm9
  exact ⟨hm.tr (n_X3_init_j33 hA hr0 hr0 hz5 hf).1, (n_X3_init_j33 hA hr0 hr0 hz5 hf).2⟩
theorem n_X3_init_j17 {A : Nat → Prop} {σ : XS} {r0 : Nat} {t0 : Nat} {t1 : Nat} {x : XS} (hA : RegN A σ) (hr0 : A r0) (ht0 : A t0) (ht1 : A t1) (hf : f_X3_init_j17 σ r0 t0 t1 = some x) : Sm A σ x ∧ RegN A x := by
  have hm := Sm.rf (A := A) (σ := σ)
  obtain ⟨_, e1, hf⟩ := xbd hf
  obtain ⟨σ3, e2, hf⟩ := xbd hf
  obtain ⟨hm9, hB⟩ := xpR_reg hA.1 ht0 ht1 e2
  have hA := RegN.step hA hB (xpR_same e2).ext
  have hm := hm.tr hm9
  obtain ⟨⟨z5, σ6⟩, e4, hf⟩ := xbd hf
  dsimp only at hf
  obtain ⟨hm9, hA, hz5⟩ := xnA_reg hA e4
  have hm := hm.tr hm9
  exact ⟨hm.tr (n_X3_init_j25 hA hr0 hr0 hz5 hf).1, (n_X3_init_j25 hA hr0 hr0 hz5 hf).2⟩
theorem n_X3_init_j9 {A : Nat → Prop} {σ : XS} {r0 : Nat} {t0 : Nat} {t1 : Nat} {x : XS} (hA : RegN A σ) (hr0 : A r0) (ht0 : A t0) (ht1 : A t1) (hf : f_X3_init_j9 σ r0 t0 t1 = some x) : Sm A σ x ∧ RegN A x := by
  have hm := Sm.rf (A := A) (σ := σ)
  obtain ⟨_, e1, hf⟩ := xbd hf
  obtain ⟨σ3, e2, hf⟩ := xbd hf
  obtain ⟨hm9, hB⟩ := xpR_reg hA.1 ht0 ht1 e2
  have hA := RegN.step hA hB (xpR_same e2).ext
  have hm := hm.tr hm9
  obtain ⟨⟨z5, σ6⟩, e4, hf⟩ := xbd hf
  dsimp only at hf
  obtain ⟨hm9, hA, hz5⟩ := xnA_reg hA e4
  have hm := hm.tr hm9
  exact ⟨hm.tr (n_X3_init_j17 hA hr0 hr0 hz5 hf).1, (n_X3_init_j17 hA hr0 hr0 hz5 hf).2⟩
theorem n_X3_init {A : Nat → Prop} {σ : XS} {r0 : Nat} {x : XS} (hA : RegN A σ) (hr0 : A r0) (hf : f_X3_init σ r0 = some x) : Sm A σ x ∧ RegN A x := by
  have hm := Sm.rf (A := A) (σ := σ)
  obtain ⟨⟨z2, σ3⟩, e1, hf⟩ := xbd hf
  dsimp only at hf
  obtain ⟨hm9, hA, hz2⟩ := xnA_reg hA e1
  have hm := hm.tr hm9
  exact ⟨hm.tr (n_X3_init_j9 hA hr0 hr0 hz2 hf).1, (n_X3_init_j9 hA hr0 hr0 hz2 hf).2⟩
theorem n_X5_init_j36 {A : Nat → Prop} {σ : XS} {r0 : Nat} {x1 : Int32} {t0 : Nat} {t1 : Int32} {t2 : Nat} {x : ((Int32 × XS) ⊕ (XS))} (hA : RegN A σ) (ht0 : A t0) (ht2 : A t2) (hf : f_X5_init_j36 σ r0 x1 t0 t1 t2 = some x) : (∀ a' : Int32 × XS, x = .inl a' → Sm A σ a'.2 ∧ RegN A a'.2) ∧ (∀ b1 : XS, x = .inr b1 → Sm A σ b1 ∧ RegN A b1) := by
  have hm := Sm.rf (A := A) (σ := σ)
  obtain ⟨σ2, e1, hf⟩ := xbd hf
  obtain ⟨hm9, hB⟩ := xsR_reg hA.1 ht0 ht2 e1
  have hA := RegN.step hA hB (xsR_same e1).ext
  have hm := hm.tr hm9
  have hf := xsj hf
  subst hf
  exact ⟨fun a' e => (by have h9 := Sum.inl.inj e; subst h9; exact ⟨hm, hA⟩), fun b e => xnc1 e⟩
theorem n_X5_init_j32 {A : Nat → Prop} {σ : XS} {r0 : Nat} {x1 : Int32} {t0 : Nat} {t1 : Int32} {t2 : Nat} {x : ((Int32 × XS) ⊕ (XS))} (hA : RegN A σ) (ht0 : A t0) (ht2 : A t2) (hf : f_X5_init_j32 σ r0 x1 t0 t1 t2 = some x) : (∀ a' : Int32 × XS, x = .inl a' → Sm A σ a'.2 ∧ RegN A a'.2) ∧ (∀ b1 : XS, x = .inr b1 → Sm A σ b1 ∧ RegN A b1) := by
  have hm := Sm.rf (A := A) (σ := σ)
  obtain ⟨_, e1, hf⟩ := xbd hf
  obtain ⟨σ3, e2, hf⟩ := xbd hf
  obtain ⟨hm9, hA⟩ := n_X6_init hA ht2 e2
  have hm := hm.tr hm9
  exact ⟨fun a' e => ⟨hm.tr ((n_X5_init_j36 hA ht0 ht2 hf).1 a' e).1, ((n_X5_init_j36 hA ht0 ht2 hf).1 a' e).2⟩, fun b1 eb1 => ⟨hm.tr ((n_X5_init_j36 hA ht0 ht2 hf).2 b1 eb1).1, ((n_X5_init_j36 hA ht0 ht2 hf).2 b1 eb1).2⟩⟩
theorem n_X5_init_l15 {A : Nat → Prop} {r0 : Nat} {a : Int32 × XS} {x : XS} (hA : RegN A a.2) (hr0 : A r0) (hf : xloop (f_X5_init_b15 r0) a = some x) : Sm A a.2 x ∧ RegN A x := by
  revert hA
  refine xloop_ind (P := fun a => RegN A a.2 → Sm A a.2 x ∧ RegN A x) (fun a y hf hc he => ?_) hf
  obtain ⟨x1, σ⟩ := a
  intro hA
  have hA0 : RegN A σ := hA
  have hy : (∀ a' : Int32 × XS, y = .inl a' → Sm A σ a'.2 ∧ RegN A a'.2) ∧ (∀ b1 : XS, y = .inr b1 → Sm A σ b1 ∧ RegN A b1) := by
    have hm := Sm.rf (A := A) (σ := σ)
    obtain ⟨z2, e1, hf⟩ := xbd hf
    obtain ⟨v4, e3, hf⟩ := xbd hf
    by_cases q : v4 ≤ x1
    · have hf := xip q hf
      obtain ⟨b0, hg, e9⟩ := xmj hf
      subst e9
      have hf := hg
      refine ⟨fun a' e => xnc2 e, fun b e => ?_⟩
      have h9 := Sum.inr.inj e
      subst h9
      have hf := xsj hf
      subst hf
      exact ⟨hm, hA⟩
    · have hf := xin q hf
      obtain ⟨z6, e5, hf⟩ := xbd hf
      have hz6 := xgR_reg rfl hA.1 hr0 e5
      obtain ⟨⟨z8, σ9⟩, e7, hf⟩ := xbd hf
      dsimp only at hf
      obtain ⟨hm9, hA, hz8⟩ := xnO_reg hA e7
      have hm := hm.tr hm9
      exact ⟨fun a' e => ⟨hm.tr ((n_X5_init_j32 hA hz6 hz8 hf).1 a' e).1, ((n_X5_init_j32 hA hz6 hz8 hf).1 a' e).2⟩, fun b1 eb1 => ⟨hm.tr ((n_X5_init_j32 hA hz6 hz8 hf).2 b1 eb1).1, ((n_X5_init_j32 hA hz6 hz8 hf).2 b1 eb1).2⟩⟩
  cases y with
  | inl a' =>
    obtain ⟨hm, hA1⟩ := hy.1 a' rfl
    have h1 := hc a' rfl hA1
    exact ⟨hm.tr (h1).1, (h1).2⟩
  | inr b =>
    have h1 := he b rfl
    subst h1
    exact hy.2 _ rfl
theorem n_X5_init_j10 {A : Nat → Prop} {σ : XS} {r0 : Nat} {t0 : Nat} {t1 : Nat} {x : XS} (hA : RegN A σ) (hr0 : A r0) (ht0 : A t0) (ht1 : A t1) (hf : f_X5_init_j10 σ r0 t0 t1 = some x) : Sm A σ x ∧ RegN A x := by
  have hm := Sm.rf (A := A) (σ := σ)
  obtain ⟨_, e1, hf⟩ := xbd hf
  obtain ⟨σ3, e2, hf⟩ := xbd hf
  obtain ⟨hm9, hB⟩ := xpR_reg hA.1 ht0 ht1 e2
  have hA := RegN.step hA hB (xpR_same e2).ext
  have hm := hm.tr hm9
  exact ⟨hm.tr (n_X5_init_l15 (a := ((0 : Int32), σ3)) hA hr0 hf).1, (n_X5_init_l15 (a := ((0 : Int32), σ3)) hA hr0 hf).2⟩
theorem n_X5_init {A : Nat → Prop} {σ : XS} {r0 : Nat} {x : XS} (hA : RegN A σ) (hr0 : A r0) (hf : f_X5_init σ r0 = some x) : Sm A σ x ∧ RegN A x := by
  have hm := Sm.rf (A := A) (σ := σ)
  obtain ⟨⟨z2, σ3⟩, e1, hf⟩ := xbd hf
  dsimp only at hf
  obtain ⟨hm9, hA, hz2⟩ := xnA_reg hA e1
  have hm := hm.tr hm9
  exact ⟨hm.tr (n_X5_init_j10 hA hr0 hr0 hz2 hf).1, (n_X5_init_j10 hA hr0 hr0 hz2 hf).2⟩
theorem n_X7_init_j21 {A : Nat → Prop} {σ : XS} {t0 : Nat} {t1 : Nat} {x : XS} (hA : RegN A σ) (ht0 : A t0) (ht1 : A t1) (hf : f_X7_init_j21 σ t0 t1 = some x) : Sm A σ x ∧ RegN A x := by
  have hm := Sm.rf (A := A) (σ := σ)
  obtain ⟨_, e1, hf⟩ := xbd hf
  obtain ⟨σ3, e2, hf⟩ := xbd hf
  obtain ⟨hm9, hB⟩ := xpR_reg hA.1 ht0 ht1 e2
  have hA := RegN.step hA hB (xpR_same e2).ext
  have hm := hm.tr hm9
  have hf := xsj hf
  subst hf
  exact ⟨hm, hA⟩
theorem n_X7_init_j12 {A : Nat → Prop} {σ : XS} {r0 : Nat} {t0 : Nat} {t1 : Nat} {x : XS} (hA : RegN A σ) (hr0 : A r0) (ht0 : A t0) (ht1 : A t1) (hf : f_X7_init_j12 σ r0 t0 t1 = some x) : Sm A σ x ∧ RegN A x := by
  have hm := Sm.rf (A := A) (σ := σ)
  obtain ⟨_, e1, hf⟩ := xbd hf
  obtain ⟨σ3, e2, hf⟩ := xbd hf
  obtain ⟨hm9, hB⟩ := xpR_reg hA.1 ht0 ht1 e2
  have hA := RegN.step hA hB (xpR_same e2).ext
  have hm := hm.tr hm9
  obtain ⟨⟨z5, σ6⟩, e4, hf⟩ := xbd hf
  dsimp only at hf
  obtain ⟨hm9, hA, hz5⟩ := xnA_reg hA e4
  have hm := hm.tr hm9
  exact ⟨hm.tr (n_X7_init_j21 hA hr0 hz5 hf).1, (n_X7_init_j21 hA hr0 hz5 hf).2⟩
theorem n_X7_init_j8 {A : Nat → Prop} {σ : XS} {r0 : Nat} {t0 : Nat} {t1 : Nat} {x : XS} (hA : RegN A σ) (hr0 : A r0) (ht0 : A t0) (ht1 : A t1) (hf : f_X7_init_j8 σ r0 t0 t1 = some x) : Sm A σ x ∧ RegN A x := by
  have hm := Sm.rf (A := A) (σ := σ)
  obtain ⟨_, e1, hf⟩ := xbd hf
  obtain ⟨σ3, e2, hf⟩ := xbd hf
  obtain ⟨hm9, hA⟩ := n_X6_init hA ht1 e2
  have hm := hm.tr hm9
  exact ⟨hm.tr (n_X7_init_j12 hA hr0 ht0 ht1 hf).1, (n_X7_init_j12 hA hr0 ht0 ht1 hf).2⟩
theorem n_X7_init {A : Nat → Prop} {σ : XS} {r0 : Nat} {x : XS} (hA : RegN A σ) (hr0 : A r0) (hf : f_X7_init σ r0 = some x) : Sm A σ x ∧ RegN A x := by
  have hm := Sm.rf (A := A) (σ := σ)
  obtain ⟨⟨z2, σ3⟩, e1, hf⟩ := xbd hf
  dsimp only at hf
  obtain ⟨hm9, hA, hz2⟩ := xnO_reg hA e1
  have hm := hm.tr hm9
  exact ⟨hm.tr (n_X7_init_j8 hA hr0 hr0 hz2 hf).1, (n_X7_init_j8 hA hr0 hr0 hz2 hf).2⟩
theorem n_X2_init_j22 {A : Nat → Prop} {σ : XS} {r0 : Nat} {t0 : Nat} {t1 : Nat} {x : XS} (hA : RegN A σ) (hr0 : A r0) (ht0 : A t0) (ht1 : A t1) (hf : f_X2_init_j22 σ r0 t0 t1 = some x) : Sm A σ x ∧ RegN A x := by
  have hm := Sm.rf (A := A) (σ := σ)
  obtain ⟨_, e1, hf⟩ := xbd hf
  obtain ⟨σ3, e2, hf⟩ := xbd hf
  obtain ⟨hm9, hB⟩ := xpR_reg hA.1 ht0 ht1 e2
  have hA := RegN.step hA hB (xpR_same e2).ext
  have hm := hm.tr hm9
  obtain ⟨σ5, e4, hf⟩ := xbd hf
  obtain ⟨hm9, hB⟩ := xpI_reg hA.1 hr0 e4
  have hA := RegN.step hA hB (xpI_same e4).ext
  have hm := hm.tr hm9
  have hf := xsj hf
  subst hf
  exact ⟨hm, hA⟩
theorem n_X2_init_j15 {A : Nat → Prop} {σ : XS} {r0 : Nat} {t0 : Nat} {t1 : Nat} {x : XS} (hA : RegN A σ) (hr0 : A r0) (ht0 : A t0) (ht1 : A t1) (hf : f_X2_init_j15 σ r0 t0 t1 = some x) : Sm A σ x ∧ RegN A x := by
  have hm := Sm.rf (A := A) (σ := σ)
  obtain ⟨_, e1, hf⟩ := xbd hf
  obtain ⟨σ3, e2, hf⟩ := xbd hf
  obtain ⟨hm9, hB⟩ := xpR_reg hA.1 ht0 ht1 e2
  have hA := RegN.step hA hB (xpR_same e2).ext
  have hm := hm.tr hm9
  obtain ⟨⟨z5, σ6⟩, e4, hf⟩ := xbd hf
  dsimp only at hf
  obtain ⟨hm9, hA, hz5⟩ := xnA_reg hA e4
  have hm := hm.tr hm9
  exact ⟨hm.tr (n_X2_init_j22 hA hr0 hr0 hz5 hf).1, (n_X2_init_j22 hA hr0 hr0 hz5 hf).2⟩
theorem n_X2_init_j8 {A : Nat → Prop} {σ : XS} {r0 : Nat} {t0 : Nat} {t1 : Nat} {x : XS} (hA : RegN A σ) (hr0 : A r0) (ht0 : A t0) (ht1 : A t1) (hf : f_X2_init_j8 σ r0 t0 t1 = some x) : Sm A σ x ∧ RegN A x := by
  have hm := Sm.rf (A := A) (σ := σ)
  obtain ⟨_, e1, hf⟩ := xbd hf
  obtain ⟨σ3, e2, hf⟩ := xbd hf
  obtain ⟨hm9, hB⟩ := xpR_reg hA.1 ht0 ht1 e2
  have hA := RegN.step hA hB (xpR_same e2).ext
  have hm := hm.tr hm9
  obtain ⟨⟨z5, σ6⟩, e4, hf⟩ := xbd hf
  dsimp only at hf
  obtain ⟨hm9, hA, hz5⟩ := xnA_reg hA e4
  have hm := hm.tr hm9
  exact ⟨hm.tr (n_X2_init_j15 hA hr0 hr0 hz5 hf).1, (n_X2_init_j15 hA hr0 hr0 hz5 hf).2⟩
theorem n_X2_init {A : Nat → Prop} {σ : XS} {r0 : Nat} {x : XS} (hA : RegN A σ) (hr0 : A r0) (hf : f_X2_init σ r0 = some x) : Sm A σ x ∧ RegN A x := by
  have hm := Sm.rf (A := A) (σ := σ)
  obtain ⟨⟨z2, σ3⟩, e1, hf⟩ := xbd hf
  dsimp only at hf
  obtain ⟨hm9, hA, hz2⟩ := xnA_reg hA e1
  have hm := hm.tr hm9
  exact ⟨hm.tr (n_X2_init_j8 hA hr0 hr0 hz2 hf).1, (n_X2_init_j8 hA hr0 hr0 hz2 hf).2⟩
theorem n_X4_init_j37 {A : Nat → Prop} {σ : XS} {r0 : Nat} {t0 : Nat} {t1 : Nat} {x : XS} (hA : RegN A σ) (hr0 : A r0) (ht0 : A t0) (ht1 : A t1) (hf : f_X4_init_j37 σ r0 t0 t1 = some x) : Sm A σ x ∧ RegN A x := by
  have hm := Sm.rf (A := A) (σ := σ)
  obtain ⟨_, e1, hf⟩ := xbd hf
  obtain ⟨σ3, e2, hf⟩ := xbd hf
  obtain ⟨hm9, hB⟩ := xpR_reg hA.1 ht0 ht1 e2
  have hA := RegN.step hA hB (xpR_same e2).ext
  have hm := hm.tr hm9
  obtain ⟨σ5, e4, hf⟩ := xbd hf
  obtain ⟨hm9, hB⟩ := xpI_reg hA.1 hr0 e4
  have hA := RegN.step hA hB (xpI_same e4).ext
  have hm := hm.tr hm9
  have hf := xsj hf
  subst hf
  exact ⟨hm, hA⟩
theorem n_X4_init_j28 {A : Nat → Prop} {σ : XS} {r0 : Nat} {t0 : Nat} {t1 : Nat} {x : XS} (hA : RegN A σ) (hr0 : A r0) (ht0 : A t0) (ht1 : A t1) (hf : f_X4_init_j28 σ r0 t0 t1 = some x) : Sm A σ x ∧ RegN A x := by
  have hm := Sm.rf (A := A) (σ := σ)
  obtain ⟨_, e1, hf⟩ := xbd hf
  obtain ⟨σ3, e2, hf⟩ := xbd hf
  obtain ⟨hm9, hB⟩ := xpR_reg hA.1 ht0 ht1 e2
  have hA := RegN.step hA hB (xpR_same e2).ext
  have hm := hm.tr hm9
  obtain ⟨⟨z5, σ6⟩, e4, hf⟩ := xbd hf
  dsimp only at hf
  obtain ⟨hm9, hA, hz5⟩ := xnA_reg hA e4
  have hm := hm.tr hm9
  exact ⟨hm.tr (n_X4_init_j37 hA hr0 hr0 hz5 hf).1, (n_X4_init_j37 hA hr0 hr0 hz5 hf).2⟩
theorem n_X4_init_j19 {A : Nat → Prop} {σ : XS} {r0 : Nat} {t0 : Nat} {t1 : Nat} {x : XS} (hA : RegN A σ) (hr0 : A r0) (ht0 : A t0) (ht1 : A t1) (hf : f_X4_init_j19 σ r0 t0 t1 = some x) : Sm A σ x ∧ RegN A x := by
  have hm := Sm.rf (A := A) (σ := σ)
  obtain ⟨_, e1, hf⟩ := xbd hf
  obtain ⟨σ3, e2, hf⟩ := xbd hf
  obtain ⟨hm9, hB⟩ := xpR_reg hA.1 ht0 ht1 e2
  have hA := RegN.step hA hB (xpR_same e2).ext
  have hm := hm.tr hm9
  obtain ⟨⟨z5, σ6⟩, e4, hf⟩ := xbd hf
  dsimp only at hf
  obtain ⟨hm9, hA, hz5⟩ := xnA_reg hA e4
  have hm := hm.tr hm9
  exact ⟨hm.tr (n_X4_init_j28 hA hr0 hr0 hz5 hf).1, (n_X4_init_j28 hA hr0 hr0 hz5 hf).2⟩
theorem n_X4_init_j10 {A : Nat → Prop} {σ : XS} {r0 : Nat} {t0 : Nat} {t1 : Nat} {x : XS} (hA : RegN A σ) (hr0 : A r0) (ht0 : A t0) (ht1 : A t1) (hf : f_X4_init_j10 σ r0 t0 t1 = some x) : Sm A σ x ∧ RegN A x := by
  have hm := Sm.rf (A := A) (σ := σ)
  obtain ⟨_, e1, hf⟩ := xbd hf
  obtain ⟨σ3, e2, hf⟩ := xbd hf
  obtain ⟨hm9, hB⟩ := xpR_reg hA.1 ht0 ht1 e2
  have hA := RegN.step hA hB (xpR_same e2).ext
  have hm := hm.tr hm9
  obtain ⟨⟨z5, σ6⟩, e4, hf⟩ := xbd hf
  dsimp only at hf
  obtain ⟨hm9, hA, hz5⟩ := xnA_reg hA e4
  have hm := hm.tr hm9
  exact ⟨hm.tr (n_X4_init_j19 hA hr0 hr0 hz5 hf).1, (n_X4_init_j19 hA hr0 hr0 hz5 hf).2⟩
theorem n_X4_init {A : Nat → Prop} {σ : XS} {r0 : Nat} {x : XS} (hA : RegN A σ) (hr0 : A r0) (hf : f_X4_init σ r0 = some x) : Sm A σ x ∧ RegN A x := by
  have hm := Sm.rf (A := A) (σ := σ)
  obtain ⟨⟨z2, σ3⟩, e1, hf⟩ := xbd hf
  dsimp only at hf
  obtain ⟨hm9, hA, hz2⟩ := xnA_reg hA e1
  have hm := hm.tr hm9
  exact ⟨hm.tr (n_X4_init_j10 hA hr0 hr0 hz2 hf).1, (n_X4_init_j10 hA hr0 hr0 hz2 hf).2⟩
theorem n_X9_init_j46 {A : Nat → Prop} {σ : XS} {r0 : Nat} {t0 : Nat} {t1 : Nat} {x : XS} (hA : RegN A σ) (hr0 : A r0) (ht0 : A t0) (ht1 : A t1) (hf : f_X9_init_j46 σ r0 t0 t1 = some x) : Sm A σ x ∧ RegN A x := by
  have hm := Sm.rf (A := A) (σ := σ)
  obtain ⟨_, e1, hf⟩ := xbd hf
  obtain ⟨σ3, e2, hf⟩ := xbd hf
  obtain ⟨hm9, hB⟩ := xpR_reg hA.1 ht0 ht1 e2
  have hA := RegN.step hA hB (xpR_same e2).ext
  have hm := hm.tr hm9
  obtain ⟨σ5, e4, hf⟩ := xbd hf
  obtain ⟨hm9, hB⟩ := xpI_reg hA.1 hr0 e4
  have hA := RegN.step hA hB (xpI_same e4).ext
  have hm := hm.tr hm9
  have hf := xsj hf
  subst hf
  exact ⟨hm, hA⟩
theorem n_X9_init_j37 {A : Nat → Prop} {σ : XS} {r0 : Nat} {t0 : Nat} {t1 : Nat} {x : XS} (hA : RegN A σ) (hr0 : A r0) (ht0 : A t0) (ht1 : A t1) (hf : f_X9_init_j37 σ r0 t0 t1 = some x) : Sm A σ x ∧ RegN A x := by
  have hm := Sm.rf (A := A) (σ := σ)
  obtain ⟨_, e1, hf⟩ := xbd hf
  obtain ⟨σ3, e2, hf⟩ := xbd hf
  obtain ⟨hm9, hB⟩ := xpR_reg hA.1 ht0 ht1 e2
  have hA := RegN.step hA hB (xpR_same e2).ext
  have hm := hm.tr hm9
  obtain ⟨⟨z5, σ6⟩, e4, hf⟩ := xbd hf
  dsimp only at hf
  obtain ⟨hm9, hA, hz5⟩ := xnA_reg hA e4
  have hm := hm.tr hm9
  exact ⟨hm.tr (n_X9_init_j46 hA hr0 hr0 hz5 hf).1, (n_X9_init_j46 hA hr0 hr0 hz5 hf).2⟩
theorem n_X9_init_j28 {A : Nat → Prop} {σ : XS} {r0 : Nat} {t0 : Nat} {t1 : Nat} {x : XS} (hA : RegN A σ) (hr0 : A r0) (ht0 : A t0) (ht1 : A t1) (hf : f_X9_init_j28 σ r0 t0 t1 = some x) : Sm A σ x ∧ RegN A x := by
  have hm := Sm.rf (A := A) (σ := σ)
  obtain ⟨_, e1, hf⟩ := xbd hf
  obtain ⟨σ3, e2, hf⟩ := xbd hf
  obtain ⟨hm9, hB⟩ := xpR_reg hA.1 ht0 ht1 e2
  have hA := RegN.step hA hB (xpR_same e2).ext
  have hm := hm.tr hm9
  obtain ⟨⟨z5, σ6⟩, e4, hf⟩ := xbd hf
  dsimp only at hf
  obtain ⟨hm9, hA, hz5⟩ := xnA_reg hA e4
  have hm := hm.tr hm9
  exact ⟨hm.tr (n_X9_init_j37 hA hr0 hr0 hz5 hf).1, (n_X9_init_j37 hA hr0 hr0 hz5 hf).2⟩
theorem n_X9_init_j19 {A : Nat → Prop} {σ : XS} {r0 : Nat} {t0 : Nat} {t1 : Nat} {x : XS} (hA : RegN A σ) (hr0 : A r0) (ht0 : A t0) (ht1 : A t1) (hf : f_X9_init_j19 σ r0 t0 t1 = some x) : Sm A σ x ∧ RegN A x := by
  have hm := Sm.rf (A := A) (σ := σ)
  obtain ⟨_, e1, hf⟩ := xbd hf
  obtain ⟨σ3, e2, hf⟩ := xbd hf
  obtain ⟨hm9, hB⟩ := xpR_reg hA.1 ht0 ht1 e2
  have hA := RegN.step hA hB (xpR_same e2).ext
  have hm := hm.tr hm9
  obtain ⟨⟨z5, σ6⟩, e4, hf⟩ := xbd hf
  dsimp only at hf
  obtain ⟨hm9, hA, hz5⟩ := xnA_reg hA e4
  have hm := hm.tr hm9
  exact ⟨hm.tr (n_X9_init_j28 hA hr0 hr0 hz5 hf).1, (n_X9_init_j28 hA hr0 hr0 hz5 hf).2⟩
theorem n_X9_init_j10 {A : Nat → Prop} {σ : XS} {r0 : Nat} {t0 : Nat} {t1 : Nat} {x : XS} (hA : RegN A σ) (hr0 : A r0) (ht0 : A t0) (ht1 : A t1) (hf : f_X9_init_j10 σ r0 t0 t1 = some x) : Sm A σ x ∧ RegN A x := by
  have hm := Sm.rf (A := A) (σ := σ)
  obtain ⟨_, e1, hf⟩ := xbd hf
  obtain ⟨σ3, e2, hf⟩ := xbd hf
  obtain ⟨hm9, hB⟩ := xpR_reg hA.1 ht0 ht1 e2
  have hA := RegN.step hA hB (xpR_same e2).ext
  have hm := hm.tr hm9
  obtain ⟨⟨z5, σ6⟩, e4, hf⟩ := xbd hf
  dsimp only at hf
  obtain ⟨hm9, hA, hz5⟩ := xnA_reg hA e4
  have hm := hm.tr hm9
  exact ⟨hm.tr (n_X9_init_j19 hA hr0 hr0 hz5 hf).1, (n_X9_init_j19 hA hr0 hr0 hz5 hf).2⟩
theorem n_X9_init {A : Nat → Prop} {σ : XS} {r0 : Nat} {x : XS} (hA : RegN A σ) (hr0 : A r0) (hf : f_X9_init σ r0 = some x) : Sm A σ x ∧ RegN A x := by
  have hm := Sm.rf (A := A) (σ := σ)
  obtain ⟨⟨z2, σ3⟩, e1, hf⟩ := xbd hf
  dsimp only at hf
  obtain ⟨hm9, hA, hz2⟩ := xnA_reg hA e1
  have hm := hm.tr hm9
  exact ⟨hm.tr (n_X9_init_j10 hA hr0 hr0 hz2 hf).1, (n_X9_init_j10 hA hr0 hr0 hz2 hf).2⟩
theorem n_X11_init_j178 {A : Nat → Prop} {σ : XS} {r0 : Nat} {t0 : Nat} {t1 : Nat} {x : XS} (hA : RegN A σ) (hr0 : A r0) (ht0 : A t0) (ht1 : A t1) (hf : f_X11_init_j178 σ r0 t0 t1 = some x) : Sm A σ x ∧ RegN A x := by
  have hm := Sm.rf (A := A) (σ := σ)
  obtain ⟨_, e1, hf⟩ := xbd hf
  obtain ⟨σ3, e2, hf⟩ := xbd hf
  obtain ⟨hm9, hB⟩ := xpR_reg hA.1 ht0 ht1 e2
  have hA := RegN.step hA hB (xpR_same e2).ext
  have hm := hm.tr hm9
  obtain ⟨σ5, e4, hf⟩ := xbd hf
  obtain ⟨hm9, hB⟩ := xpI_reg hA.1 hr0 e4
  have hA := RegN.step hA hB (xpI_same e4).ext
  have hm := hm.tr hm9
  obtain ⟨σ7, e6, hf⟩ := xbd hf
  obtain ⟨hm9, hB⟩ := xpI_reg hA.1 hr0 e6
  have hA := RegN.step hA hB (xpI_same e6).ext
  have hm := hm.tr hm9
  have hf := xsj hf
  subst hf
  exact ⟨hm, hA⟩
theorem n_X11_init_j169 {A : Nat → Prop} {σ : XS} {r0 : Nat} {t0 : Nat} {t1 : Nat} {x : XS} (hA : RegN A σ) (hr0 : A r0) (ht0 : A t0) (ht1 : A t1) (hf : f_X11_init_j169 σ r0 t0 t1 = some x) : Sm A σ x ∧ RegN A x := by
  have hm := Sm.rf (A := A) (σ := σ)
  obtain ⟨_, e1, hf⟩ := xbd hf
  obtain ⟨σ3, e2, hf⟩ := xbd hf
  obtain ⟨hm9, hB⟩ := xpR_reg hA.1 ht0 ht1 e2
  have hA := RegN.step hA hB (xpR_same e2).ext
  have hm := hm.tr hm9
  obtain ⟨⟨z5, σ6⟩, e4, hf⟩ := xbd hf
  dsimp only at hf
  obtain ⟨hm9, hA, hz5⟩ := xnA_reg hA e4
  have hm := hm.tr hm9
  exact ⟨hm.tr (n_X11_init_j178 hA hr0 hr0 hz5 hf).1, (n_X11_init_j178 hA hr0 hr0 hz5 hf).2⟩
theorem n_X11_init_j156 {A : Nat → Prop} {σ : XS} {r0 : Nat} {t0 : Nat} {t1 : Nat} {x : XS} (hA : RegN A σ) (hr0 : A r0) (ht0 : A t0) (ht1 : A t1) (hf : f_X11_init_j156 σ r0 t0 t1 = some x) : Sm A σ x ∧ RegN A x := by
  have hm := Sm.rf (A := A) (σ := σ)
  obtain ⟨_, e1, hf⟩ := xbd hf
  obtain ⟨_, e2, hf⟩ := xbd hf
  obtain ⟨_, e3, hf⟩ := xbd hf
  obtain ⟨σ5, e4, hf⟩ := xbd hf
  obtain ⟨hm9, hB⟩ := xpR_reg hA.1 ht0 ht1 e4
  have hA := RegN.step hA hB (xpR_same e4).ext
  have hm := hm.tr hm9
  obtain ⟨⟨z7, σ8⟩, e6, hf⟩ := xbd hf
  dsimp only at hf
  obtain ⟨hm9, hA, hz7⟩ := xnA_reg hA e6
  have hm := hm.tr hm9
  exact ⟨hm.tr (n_X11_init_j169 hA hr0 hr0 hz7 hf).1, (n_X11_init_j169 hA hr0 hr0 hz7 hf).2⟩
theorem n_X11_init_j149 {A : Nat → Prop} {σ : XS} {r0 : Nat} {t0 : Nat} {t1 : Nat} {x : XS} (hA : RegN A σ) (hr0 : A r0) (ht0 : A t0) (ht1 : A t1) (hf : f_X11_init_j149 σ r0 t0 t1 = some x) : Sm A σ x ∧ RegN A x := by
  have hm := Sm.rf (A := A) (σ := σ)
  obtain ⟨_, e1, hf⟩ := xbd hf
  obtain ⟨σ3, e2, hf⟩ := xbd hf
  obtain ⟨hm9, hB⟩ := xpR_reg hA.1 ht0 ht1 e2
  have hA := RegN.step hA hB (xpR_same e2).ext
  have hm := hm.tr hm9
  obtain ⟨⟨z5, σ6⟩, e4, hf⟩ := xbd hf
  dsimp only at hf
  obtain ⟨hm9, hA, hz5⟩ := xnO_reg hA e4
  have hm := hm.tr hm9
  exact ⟨hm.tr (n_X11_init_j156 hA hr0 hr0 hz5 hf).1, (n_X11_init_j156 hA hr0 hr0 hz5 hf).2⟩
theorem n_X11_init_j145 {A : Nat → Prop} {σ : XS} {r0 : Nat} {t0 : Nat} {t1 : Nat} {x : XS} (hA : RegN A σ) (hr0 : A r0) (ht0 : A t0) (ht1 : A t1) (hf : f_X11_init_j145 σ r0 t0 t1 = some x) : Sm A σ x ∧ RegN A x := by
  have hm := Sm.rf (A := A) (σ := σ)
  obtain ⟨_, e1, hf⟩ := xbd hf
  obtain ⟨σ3, e2, hf⟩ := xbd hf
  obtain ⟨hm9, hA⟩ := n_X9_init hA ht1 e2
  have hm := hm.tr hm9
  exact ⟨hm.tr (n_X11_init_j149 hA hr0 ht0 ht1 hf).1, (n_X11_init_j149 hA hr0 ht0 ht1 hf).2⟩
theorem n_X11_init_j138 {A : Nat → Prop} {σ : XS} {r0 : Nat} {t0 : Nat} {t1 : Nat} {x : XS} (hA : RegN A σ) (hr0 : A r0) (ht0 : A t0) (ht1 : A t1) (hf : f_X11_init_j138 σ r0 t0 t1 = some x) : Sm A σ x ∧ RegN A x := by
  have hm := Sm.rf (A := A) (σ := σ)
  obtain ⟨_, e1, hf⟩ := xbd hf
  obtain ⟨σ3, e2, hf⟩ := xbd hf
  obtain ⟨hm9, hB⟩ := xpR_reg hA.1 ht0 ht1 e2
  have hA := RegN.step hA hB (xpR_same e2).ext
  have hm := hm.tr hm9
  obtain ⟨⟨z5, σ6⟩, e4, hf⟩ := xbd hf
  dsimp only at hf
  obtain ⟨hm9, hA, hz5⟩ := xnO_reg hA e4
  have hm := hm.tr hm9
  exact ⟨hm.tr (n_X11_init_j145 hA hr0 hr0 hz5 hf).1, (n_X11_init_j145 hA hr0 hr0 hz5 hf).2⟩
theorem n_X11_init_j134 {A : Nat → Prop} {σ : XS} {r0 : Nat} {t0 : Nat} {t1 : Nat} {x : XS} (hA : RegN A σ) (hr0 : A r0) (ht0 : A t0) (ht1 : A t1) (hf : f_X11_init_j134 σ r0 t0 t1 = some x) : Sm A σ x ∧ RegN A x := by
  have hm := Sm.rf (A := A) (σ := σ)
  obtain ⟨_, e1, hf⟩ := xbd hf
  obtain ⟨σ3, e2, hf⟩ := xbd hf
  obtain ⟨hm9, hA⟩ := n_X0_init hA ht1 e2
  have hm := hm.tr hm9
  exact ⟨hm.tr (n_X11_init_j138 hA hr0 ht0 ht1 hf).1, (n_X11_init_j138 hA hr0 ht0 ht1 hf).2⟩
theorem n_X11_init_j127 {A : Nat → Prop} {σ : XS} {r0 : Nat} {t0 : Nat} {t1 : Nat} {x : XS} (hA : RegN A σ) (hr0 : A r0) (ht0 : A t0) (ht1 : A t1) (hf : f_X11_init_j127 σ r0 t0 t1 = some x) : Sm A σ x ∧ RegN A x := by
  have hm := Sm.rf (A := A) (σ := σ)
  obtain ⟨_, e1, hf⟩ := xbd hf
  obtain ⟨σ3, e2, hf⟩ := xbd hf
  obtain ⟨hm9, hB⟩ := xpR_reg hA.1 ht0 ht1 e2
  have hA := RegN.step hA hB (xpR_same e2).ext
  have hm := hm.tr hm9
  obtain ⟨⟨z5, σ6⟩, e4, hf⟩ := xbd hf
  dsimp only at hf
  obtain ⟨hm9, hA, hz5⟩ := xnO_reg hA e4
  have hm := hm.tr hm9
  exact ⟨hm.tr (n_X11_init_j134 hA hr0 hr0 hz5 hf).1, (n_X11_init_j134 hA hr0 hr0 hz5 hf).2⟩
theorem n_X11_init_j123 {A : Nat → Prop} {σ : XS} {r0 : Nat} {t0 : Nat} {t1 : Nat} {x : XS} (hA : RegN A σ) (hr0 : A r0) (ht0 : A t0) (ht1 : A t1) (hf : f_X11_init_j123 σ r0 t0 t1 = some x) : Sm A σ x ∧ RegN A x := by
  have hm := Sm.rf (A := A) (σ := σ)
  obtain ⟨_, e1, hf⟩ := xbd hf
  obtain ⟨σ3, e2, hf⟩ := xbd hf
  obtain ⟨hm9, hA⟩ := n_X4_init hA ht1 e2
  have hm := hm.tr hm9
  exact ⟨hm.tr (n_X11_init_j127 hA hr0 ht0 ht1 hf).1, (n_X11_init_j127 hA hr0 ht0 ht1 hf).2⟩
theorem n_X11_init_j116 {A : Nat → Prop} {σ : XS} {r0 : Nat} {t0 : Nat} {t1 : Nat} {x : XS} (hA : RegN A σ) (hr0 : A r0) (ht0 : A t0) (ht1 : A t1) (hf : f_X11_init_j116 σ r0 t0 t1 = some x) : Sm A σ x ∧ RegN A x := by
  have hm := Sm.rf (A := A) (σ := σ)
  obtain ⟨_, e1, hf⟩ := xbd hf
  obtain ⟨σ3, e2, hf⟩ := xbd hf
  obtain ⟨hm9, hB⟩ := xpR_reg hA.1 ht0 ht1 e2
  have hA := RegN.step hA hB (xpR_same e2).ext
  have hm := hm.tr hm9
  obtain ⟨⟨z5, σ6⟩, e4, hf⟩ := xbd hf
  dsimp only at hf
  obtain ⟨hm9, hA, hz5⟩ := xnO_reg hA e4
  have hm := hm.tr hm9
  exact ⟨hm.tr (n_X11_init_j123 hA hr0 hr0 hz5 hf).1, (n_X11_init_j123 hA hr0 hr0 hz5 hf).2⟩
theorem n_X11_init_j112 {A : Nat → Prop} {σ : XS} {r0 : Nat} {t0 : Nat} {t1 : Nat} {x : XS} (hA : RegN A σ) (hr0 : A r0) (ht0 : A t0) (ht1 : A t1) (hf : f_X11_init_j112 σ r0 t0 t1 = some x) : Sm A σ x ∧ RegN A x := by
  have hm := Sm.rf (A := A) (σ := σ)
  obtain ⟨_, e1, hf⟩ := xbd hf
  obtain ⟨σ3, e2, hf⟩ := xbd hf
  obtain ⟨hm9, hA⟩ := n_X2_init hA ht1 e2
  have hm := hm.tr hm9
  exact ⟨hm.tr (n_X11_init_j116 hA hr0 ht0 ht1 hf).1, (n_X11_init_j116 hA hr0 ht0 ht1 hf).2⟩
theorem n_X11_init_j105 {A : Nat → Prop} {σ : XS} {r0 : Nat} {t0 : Nat} {t1 : Nat} {x : XS} (hA : RegN A σ) (hr0 : A r0) (ht0 : A t0) (ht1 : A t1) (hf : f_X11_init_j105 σ r0 t0 t1 = some x) : Sm A σ x ∧ RegN A x := by
  have hm := Sm.rf (A := A) (σ := σ)
  obtain ⟨_, e1, hf⟩ := xbd hf
  obtain ⟨σ3, e2, hf⟩ := xbd hf
  obtain ⟨hm9, hB⟩ := xpR_reg hA.1 ht0 ht1 e2
  have hA := RegN.step hA hB (xpR_same e2).ext
  have hm := hm.tr hm9
  obtain ⟨⟨z5, σ6⟩, e4, hf⟩ := xbd hf
  dsimp only at hf
  obtain ⟨hm9, hA, hz5⟩ := xnO_reg hA e4
  have hm := hm.tr hm9
  exact ⟨hm.tr (n_X11_init_j112 hA hr0 hr0 hz5 hf).1, (n_X11_init_j112 hA hr0 hr0 hz5 hf).2⟩
theorem n_X11_init_j101 {A : Nat → Prop} {σ : XS} {r0 : Nat} {t0 : Nat} {t1 : Nat} {x : XS} (hA : RegN A σ) (hr0 : A r0) (ht0 : A t0) (ht1 : A t1) (hf : f_X11_init_j101 σ r0 t0 t1 = some x) : Sm A σ x ∧ RegN A x := by
  have hm := Sm.rf (A := A) (σ := σ)
  obtain ⟨_, e1, hf⟩ := xbd hf
  obtain ⟨σ3, e2, hf⟩ := xbd hf
  obtain ⟨hm9, hA⟩ := n_X2_init hA ht1 e2
  have hm := hm.tr hm9
  exact ⟨hm.tr (n_X11_init_j105 hA hr0 ht0 ht1 hf).1, (n_X11_init_j105 hA hr0 ht0 ht1 hf).2⟩
theorem n_X11_init_j90 {A : Nat → Prop} {σ : XS} {r0 : Nat} {x1 : Int32} {t0 : Nat} {t1 : Int32} {t2 : Nat} {x : ((Int32 × XS) ⊕ (XS))} (hA : RegN A σ) (ht0 : A t0) (ht2 : A t2) (hf : f_X11_init_j90 σ r0 x1 t0 t1 t2 = some x) : (∀ a' : Int32 × XS, x = .inl a' → Sm A σ a'.2 ∧ RegN A a'.2) ∧ (∀ b1 : XS, x = .inr b1 → Sm A σ b1 ∧ RegN A b1) := by
  have hm := Sm.rf (A := A) (σ := σ)
  obtain ⟨σ2, e1, hf⟩ := xbd hf
  obtain ⟨hm9, hB⟩ := xsR_reg hA.1 ht0 ht2 e1
  have hA := RegN.step hA hB (xsR_same e1).ext
  have hm := hm.tr hm9
  have hf := xsj hf
  subst hf
  exact ⟨fun a' e => (by have h9 := Sum.inl.inj e; subst h9; exact ⟨hm, hA⟩), fun b e => xnc1 e⟩
theorem n_X11_init_j86 {A : Nat → Prop} {σ : XS} {r0 : Nat} {x1 : Int32} {t0 : Nat} {t1 : Int32} {t2 : Nat} {x : ((Int32 × XS) ⊕ (XS))} (hA : RegN A σ) (ht0 : A t0) (ht2 : A t2) (hf : f_X11_init_j86 σ r0 x1 t0 t1 t2 = some x) : (∀ a' : Int32 × XS, x = .inl a' → Sm A σ a'.2 ∧ RegN A a'.2) ∧ (∀ b1 : XS, x = .inr b1 → Sm A σ b1 ∧ RegN A b1) := by
  have hm := Sm.rf (A := A) (σ := σ)
  obtain ⟨_, e1, hf⟩ := xbd hf
  obtain ⟨σ3, e2, hf⟩ := xbd hf
  obtain ⟨hm9, hA⟩ := n_X7_init hA ht2 e2
  have hm := hm.tr hm9
  exact ⟨fun a' e => ⟨hm.tr ((n_X11_init_j90 hA ht0 ht2 hf).1 a' e).1, ((n_X11_init_j90 hA ht0 ht2 hf).1 a' e).2⟩, fun b1 eb1 => ⟨hm.tr ((n_X11_init_j90 hA ht0 ht2 hf).2 b1 eb1).1, ((n_X11_init_j90 hA ht0 ht2 hf).2 b1 eb1).2⟩⟩
theorem n_X11_init_l69 {A : Nat → Prop} {r0 : Nat} {a : Int32 × XS} {x : XS} (hA : RegN A a.2) (hr0 : A r0) (hf : xloop (f_X11_init_b69 r0) a = some x) : Sm A a.2 x ∧ RegN A x := by
  revert hA
  refine xloop_ind (P := fun a => RegN A a.2 → Sm A a.2 x ∧ RegN A x) (fun a y hf hc he => ?_) hf
  obtain ⟨x1, σ⟩ := a
  intro hA
  have hA0 : RegN A σ := hA
  have hy : (∀ a' : Int32 × XS, y = .inl a' → Sm A σ a'.2 ∧ RegN A a'.2) ∧ (∀ b1 : XS, y = .inr b1 → Sm A σ b1 ∧ RegN A b1) := by
    have hm := Sm.rf (A := A) (σ := σ)
    obtain ⟨z2, e1, hf⟩ := xbd hf
    obtain ⟨v4, e3, hf⟩ := xbd hf
    by_cases q : v4 ≤ x1
    · have hf := xip q hf
      obtain ⟨b0, hg, e9⟩ := xmj hf
      subst e9
      have hf := hg
      refine ⟨fun a' e => xnc2 e, fun b e => ?_⟩
      have h9 := Sum.inr.inj e
      subst h9
      obtain ⟨⟨z6, σ7⟩, e5, hf⟩ := xbd hf
      dsimp only at hf
      obtain ⟨hm9, hA, hz6⟩ := xnO_reg hA e5
      have hm := hm.tr hm9
      exact ⟨hm.tr (n_X11_init_j101 hA hr0 hr0 hz6 hf).1, (n_X11_init_j101 hA hr0 hr0 hz6 hf).2⟩
    · have hf := xin q hf
      obtain ⟨z6, e5, hf⟩ := xbd hf
      have hz6 := xgR_reg rfl hA.1 hr0 e5
      obtain ⟨⟨z8, σ9⟩, e7, hf⟩ := xbd hf
      dsimp only at hf
      obtain ⟨hm9, hA, hz8⟩ := xnO_reg hA e7
      have hm := hm.tr hm9
      exact ⟨fun a' e => ⟨hm.tr ((n_X11_init_j86 hA hz6 hz8 hf).1 a' e).1, ((n_X11_init_j86 hA hz6 hz8 hf).1 a' e).2⟩, fun b1 eb1 => ⟨hm.tr ((n_X11_init_j86 hA hz6 hz8 hf).2 b1 eb1).1, ((n_X11_init_j86 hA hz6 hz8 hf).2 b1 eb1).2⟩⟩
  cases y with
  | inl a' =>
    obtain ⟨hm, hA1⟩ := hy.1 a' rfl
    have h1 := hc a' rfl hA1
    exact ⟨hm.tr (h1).1, (h1).2⟩
  | inr b =>
    have h1 := he b rfl
    subst h1
    exact hy.2 _ rfl
theorem n_X11_init_j64 {A : Nat → Prop} {σ : XS} {r0 : Nat} {t0 : Nat} {t1 : Nat} {x : XS} (hA : RegN A σ) (hr0 : A r0) (ht0 : A t0) (ht1 : A t1) (hf : f_X11_init_j64 σ r0 t0 t1 = some x) : Sm A σ x ∧ RegN A x := by
  have hm := Sm.rf (A := A) (σ := σ)
  obtain ⟨_, e1, hf⟩ := xbd hf
  obtain ⟨σ3, e2, hf⟩ := xbd hf
  obtain ⟨hm9, hB⟩ := xpR_reg hA.1 ht0 ht1 e2
  have hA := RegN.step hA hB (xpR_same e2).ext
  have hm := hm.tr hm9
  exact ⟨hm.tr (n_X11_init_l69 (a := ((0 : Int32), σ3)) hA hr0 hf).1, (n_X11_init_l69 (a := ((0 : Int32), σ3)) hA hr0 hf).2⟩
theorem n_X11_init_j56 {A : Nat → Prop} {σ : XS} {r0 : Nat} {t0 : Nat} {t1 : Nat} {x : XS} (hA : RegN A σ) (hr0 : A r0) (ht0 : A t0) (ht1 : A t1) (hf : f_X11_init_j56 σ r0 t0 t1 = some x) : Sm A σ x ∧ RegN A x := by
  have hm := Sm.rf (A := A) (σ := σ)
  obtain ⟨_, e1, hf⟩ := xbd hf
  obtain ⟨σ3, e2, hf⟩ := xbd hf
  obtain ⟨hm9, hB⟩ := xpR_reg hA.1 ht0 ht1 e2
  have hA := RegN.step hA hB (xpR_same e2).ext
  have hm := hm.tr hm9
  obtain ⟨⟨z5, σ6⟩, e4, hf⟩ := xbd hf
  dsimp only at hf
  obtain ⟨hm9, hA, hz5⟩ := xnA_reg hA e4
  have hm := hm.tr hm9
  exact ⟨hm.tr (n_X11_init_j64 hA hr0 hr0 hz5 hf).1, (n_X11_init_j64 hA hr0 hr0 hz5 hf).2⟩
theorem n_X11_init_j52 {A : Nat → Prop} {σ : XS} {r0 : Nat} {t0 : Nat} {t1 : Nat} {x : XS} (hA : RegN A σ) (hr0 : A r0) (ht0 : A t0) (ht1 : A t1) (hf : f_X11_init_j52 σ r0 t0 t1 = some x) : Sm A σ x ∧ RegN A x := by
  have hm := Sm.rf (A := A) (σ := σ)
  obtain ⟨_, e1, hf⟩ := xbd hf
  obtain ⟨σ3, e2, hf⟩ := xbd hf
  obtain ⟨hm9, hA⟩ := n_X5_init hA ht1 e2
  have hm := hm.tr hm9
  exact ⟨hm.tr (n_X11_init_j56 hA hr0 ht0 ht1 hf).1, (n_X11_init_j56 hA hr0 ht0 ht1 hf).2⟩
theorem n_X11_init_j45 {A : Nat → Prop} {σ : XS} {r0 : Nat} {t0 : Nat} {t1 : Nat} {x : XS} (hA : RegN A σ) (hr0 : A r0) (ht0 : A t0) (ht1 : A t1) (hf : f_X11_init_j45 σ r0 t0 t1 = some x) : Sm A σ x ∧ RegN A x := by
  have hm := Sm.rf (A := A) (σ := σ)
  obtain ⟨_, e1, hf⟩ := xbd hf
  obtain ⟨σ3, e2, hf⟩ := xbd hf
  obtain ⟨hm9, hB⟩ := xpR_reg hA.1 ht0 ht1 e2
  have hA := RegN.step hA hB (xpR_same e2).ext
  have hm := hm.tr hm9
  obtain ⟨⟨z5, σ6⟩, e4, hf⟩ := xbd hf
  dsimp only at hf
  obtain ⟨hm9, hA, hz5⟩ := xnO_reg hA e4
  have hm := hm.tr hm9
  exact ⟨hm.tr (n_X11_init_j52 hA hr0 hr0 hz5 hf).1, (n_X11_init_j52 hA hr0 hr0 hz5 hf).2⟩
theorem n_X11_init_j41 {A : Nat → Prop} {σ : XS} {r0 : Nat} {t0 : Nat} {t1 : Nat} {x : XS} (hA : RegN A σ) (hr0 : A r0) (ht0 : A t0) (ht1 : A t1) (hf : f_X11_init_j41 σ r0 t0 t1 = some x) : Sm A σ x ∧ RegN A x := by
  have hm := Sm.rf (A := A) (σ := σ)
  obtain ⟨_, e1, hf⟩ := xbd hf
  obtain ⟨σ3, e2, hf⟩ := xbd hf
  obtain ⟨hm9, hA⟩ := n_X6_init hA ht1 e2
  have hm := hm.tr hm9
  exact ⟨hm.tr (n_X11_init_j45 hA hr0 ht0 ht1 hf).1, (n_X11_init_j45 hA hr0 ht0 ht1 hf).2⟩
theorem n_X11_init_j34 {A : Nat → Prop} {σ : XS} {r0 : Nat} {t0 : Nat} {t1 : Nat} {x : XS} (hA : RegN A σ) (hr0 : A r0) (ht0 : A t0) (ht1 : A t1) (hf : f_X11_init_j34 σ r0 t0 t1 = some x) : Sm A σ x ∧ RegN A x := by
  have hm := Sm.rf (A := A) (σ := σ)
  obtain ⟨_, e1, hf⟩ := xbd hf
  obtain ⟨σ3, e2, hf⟩ := xbd hf
  obtain ⟨hm9, hB⟩ := xpR_reg hA.1 ht0 ht1 e2
  have hA := RegN.step hA hB (xpR_same e2).ext
  have hm := hm.tr hm9
  obtain ⟨⟨z5, σ6⟩, e4, hf⟩ := xbd hf
  dsimp only at hf
  obtain ⟨hm9, hA, hz5⟩ := xnO_reg hA e4
  have hm := hm.tr hm9
  exact ⟨hm.tr (n_X11_init_j41 hA hr0 hr0 hz5 hf).1, (n_X11_init_j41 hA hr0 hr0 hz5 hf).2⟩
theorem n_X11_init_j30 {A : Nat → Prop} {σ : XS} {r0 : Nat} {t0 : Nat} {t1 : Nat} {x : XS} (hA : RegN A σ) (hr0 : A r0) (ht0 : A t0) (ht1 : A t1) (hf : f_X11_init_j30 σ r0 t0 t1 = some x) : Sm A σ x ∧ RegN A x := by
  have hm := Sm.rf (A := A) (σ := σ)
  obtain ⟨_, e1, hf⟩ := xbd hf
  obtain ⟨σ3, e2, hf⟩ := xbd hf
  obtain ⟨hm9, hA⟩ := n_X3_init hA ht1 e2
  have hm := hm.tr hm9
  exact ⟨hm.tr (n_X11_init_j34 hA hr0 ht0 ht1 hf).1, (n_X11_init_j34 hA hr0 ht0 ht1 hf).2⟩
theorem n_X11_init_j12 {A : Nat → Prop} {σ : XS} {r0 : Nat} {t0 : Nat} {t1 : Nat} {x : XS} (hA : RegN A σ) (hr0 : A r0) (ht0 : A t0) (ht1 : A t1) (hf : f_X11_init_j12 σ r0 t0 t1 = some x) : Sm A σ x ∧ RegN A x := by
  have hm := Sm.rf (A := A) (σ := σ)
  obtain ⟨_, e1, hf⟩ := xbd hf
  obtain ⟨σ3, e2, hf⟩ := xbd hf
  obtain ⟨hm9, hB⟩ := xpR_reg hA.1 ht0 ht1 e2
  have hA := RegN.step hA hB (xpR_same e2).ext
  have hm := hm.tr hm9
  obtain ⟨z5, e4, hf⟩ := xbd hf
  have hz5 := xgR_reg rfl hA.1 hr0 e4
  obtain ⟨z7, e6, hf⟩ := xbd hf
  have hz7 := xgR_reg rfl hA.1 hz5 e6
  obtain ⟨_, e8, hf⟩ := xbd hf
  obtain ⟨σ10, e9, hf⟩ := xbd hf
  obtain ⟨hm9, hB⟩ := xpR_reg hA.1 hr0 hz7 e9
  have hA := RegN.step hA hB (xpR_same e9).ext
  have hm := hm.tr hm9
  obtain ⟨⟨z12, σ13⟩, e11, hf⟩ := xbd hf
  dsimp only at hf
  obtain ⟨hm9, hA, hz12⟩ := xnO_reg hA e11
  have hm := hm.tr hm9
  exact ⟨hm.tr (n_X11_init_j30 hA hr0 hr0 hz12 hf).1, (n_X11_init_j30 hA hr0 hr0 hz12 hf).2⟩
theorem n_X11_init_j8 {A : Nat → Prop} {σ : XS} {r0 : Nat} {t0 : Nat} {t1 : Nat} {x : XS} (hA : RegN A σ) (hr0 : A r0) (ht0 : A t0) (ht1 : A t1) (hf : f_X11_init_j8 σ r0 t0 t1 = some x) : Sm A σ x ∧ RegN A x := by
  have hm := Sm.rf (A := A) (σ := σ)
  obtain ⟨_, e1, hf⟩ := xbd hf
  obtain ⟨σ3, e2, hf⟩ := xbd hf
  obtain ⟨hm9, hA⟩ := n_X1_init hA ht1 e2
  have hm := hm.tr hm9
  exact ⟨hm.tr (n_X11_init_j12 hA hr0 ht0 ht1 hf).1, (n_X11_init_j12 hA hr0 ht0 ht1 hf).2⟩
theorem n_X11_init {A : Nat → Prop} {σ : XS} {r0 : Nat} {x : XS} (hA : RegN A σ) (hr0 : A r0) (hf : f_X11_init σ r0 = some x) : Sm A σ x ∧ RegN A x := by
  have hm := Sm.rf (A := A) (σ := σ)
  obtain ⟨⟨z2, σ3⟩, e1, hf⟩ := xbd hf
  dsimp only at hf
  obtain ⟨hm9, hA, hz2⟩ := xnO_reg hA e1
  have hm := hm.tr hm9
  exact ⟨hm.tr (n_X11_init_j8 hA hr0 hr0 hz2 hf).1, (n_X11_init_j8 hA hr0 hr0 hz2 hf).2⟩
theorem n_X11_joinWays_l35 {A : Nat → Prop} {r0 : Nat} {r2 : Nat} {r3 : Nat} {x4 : Int32} {a : Int32 × XS} {x : ((Int32 × XS) ⊕ (XS))} (hA : RegN A a.2) (hr0 : A r0) (hf : xloop (f_X11_joinWays_b35 r0 r2 r3 x4) a = some x) : (∀ a' : Int32 × XS, x = .inl a' → Sm A a.2 a'.2 ∧ RegN A a'.2) ∧ (∀ b1 : XS, x = .inr b1 → Sm A a.2 b1 ∧ RegN A b1) := by
  revert hA
  refine xloop_ind (P := fun a => RegN A a.2 → (∀ a' : Int32 × XS, x = .inl a' → Sm A a.2 a'.2 ∧ RegN A a'.2) ∧ (∀ b1 : XS, x = .inr b1 → Sm A a.2 b1 ∧ RegN A b1)) (fun a y hf hc he => ?_) hf
  obtain ⟨x5, σ⟩ := a
  intro hA
  have hA0 : RegN A σ := hA
  have hy : (∀ a' : Int32 × XS, y = .inl a' → Sm A σ a'.2 ∧ RegN A a'.2) ∧ (∀ b2 : ((Int32 × XS) ⊕ (XS)), y = .inr b2 → (∀ a' : Int32 × XS, b2 = .inl a' → Sm A σ a'.2 ∧ RegN A a'.2) ∧ (∀ b1 : XS, b2 = .inr b1 → Sm A σ b1 ∧ RegN A b1)) := by
    have hm := Sm.rf (A := A) (σ := σ)
    obtain ⟨v2, e1, hf⟩ := xbd hf
    by_cases q : v2 = 0
    · have hf := xip q hf
      obtain ⟨b0, hg, e9⟩ := xmj hf
      subst e9
      have hf := hg
      refine ⟨fun a' e => xnc2 e, fun b e => ?_⟩
      have h9 := Sum.inr.inj e
      subst h9
      have hf := xsj hf
      subst hf
      exact ⟨fun a' e => (by have h9 := Sum.inl.inj e; subst h9; exact ⟨hm, hA⟩), fun b e => xnc1 e⟩
    · have hf := xin q hf
      obtain ⟨v4, e3, hf⟩ := xbd hf
      by_cases q : v4 ≤ x5
      · have hf := xip q hf
        obtain ⟨b0, hg, e9⟩ := xmj hf
        subst e9
        have hf := hg
        refine ⟨fun a' e => xnc2 e, fun b e => ?_⟩
        have h9 := Sum.inr.inj e
        subst h9
        have hf := xsj hf
        subst hf
        exact ⟨fun a' e => (by have h9 := Sum.inl.inj e; subst h9; exact ⟨hm, hA⟩), fun b e => xnc1 e⟩
      · have hf := xin q hf
        obtain ⟨z6, e5, hf⟩ := xbd hf
        obtain ⟨v8, e7, hf⟩ := xbd hf
        by_cases q : v8 ≤ (x4 + x5)
        · have hf := xip q hf
          obtain ⟨b0, hg, e9⟩ := xmj hf
          subst e9
          have hf := hg
          refine ⟨fun a' e => xnc2 e, fun b e => ?_⟩
          have h9 := Sum.inr.inj e
          subst h9
          have hf := xsj hf
          subst hf
          exact ⟨fun a' e => (by have h9 := Sum.inl.inj e; subst h9; exact ⟨hm, hA⟩), fun b e => xnc1 e⟩
        · have hf := xin q hf
          obtain ⟨z10, e9, hf⟩ := xbd hf
          have hz10 := xgR_reg rfl hA.1 hr0 e9
          obtain ⟨v12, e11, hf⟩ := xbd hf
          obtain ⟨v14, e13, hf⟩ := xbd hf
          obtain ⟨v16, e15, hf⟩ := xbd hf
          obtain ⟨σ18, e17, hf⟩ := xbd hf
          obtain ⟨hm9, hB⟩ := xsL_reg hA.1 hz10 e17
          have hA := RegN.step hA hB (xsL_same e17).ext
          have hm := hm.tr hm9
          have hf := xsj hf
          subst hf
          exact ⟨fun a' e => (by have h9 := Sum.inl.inj e; subst h9; exact ⟨hm, hA⟩), fun b e => xnc1 e⟩
  cases y with
  | inl a' =>
    obtain ⟨hm, hA1⟩ := hy.1 a' rfl
    have h1 := hc a' rfl hA1
    exact ⟨fun a' e => ⟨hm.tr ((h1).1 a' e).1, ((h1).1 a' e).2⟩, fun b1 eb1 => ⟨hm.tr ((h1).2 b1 eb1).1, ((h1).2 b1 eb1).2⟩⟩
  | inr b =>
    have h1 := he b rfl
    subst h1
    exact hy.2 _ rfl
theorem n_X11_joinWays_l25 {A : Nat → Prop} {r0 : Nat} {r2 : Nat} {r3 : Nat} {a : Int32 × XS} {x : XS} (hA : RegN A a.2) (hr0 : A r0) (hf : xloop (f_X11_joinWays_b25 r0 r2 r3) a = some x) : Sm A a.2 x ∧ RegN A x := by
  revert hA
  refine xloop_ind (P := fun a => RegN A a.2 → Sm A a.2 x ∧ RegN A x) (fun a y hf hc he => ?_) hf
  obtain ⟨x4, σ⟩ := a
  intro hA
  have hA0 : RegN A σ := hA
  have hy : (∀ a' : Int32 × XS, y = .inl a' → Sm A σ a'.2 ∧ RegN A a'.2) ∧ (∀ b1 : XS, y = .inr b1 → Sm A σ b1 ∧ RegN A b1) := by
    have hm := Sm.rf (A := A) (σ := σ)
    obtain ⟨v2, e1, hf⟩ := xbd hf
    by_cases q : v2 ≤ x4
    · have hf := xip q hf
      obtain ⟨b0, hg, e9⟩ := xmj hf
      subst e9
      have hf := hg
      refine ⟨fun a' e => xnc2 e, fun b e => ?_⟩
      have h9 := Sum.inr.inj e
      subst h9
      have hf := xsj hf
      subst hf
      exact ⟨hm, hA⟩
    · have hf := xin q hf
      exact ⟨fun a' e => ⟨hm.tr ((n_X11_joinWays_l35 (a := ((0 : Int32), σ)) hA hr0 hf).1 a' e).1, ((n_X11_joinWays_l35 (a := ((0 : Int32), σ)) hA hr0 hf).1 a' e).2⟩, fun b1 eb1 => ⟨hm.tr ((n_X11_joinWays_l35 (a := ((0 : Int32), σ)) hA hr0 hf).2 b1 eb1).1, ((n_X11_joinWays_l35 (a := ((0 : Int32), σ)) hA hr0 hf).2 b1 eb1).2⟩⟩
  cases y with
  | inl a' =>
    obtain ⟨hm, hA1⟩ := hy.1 a' rfl
    have h1 := hc a' rfl hA1
    exact ⟨hm.tr (h1).1, (h1).2⟩
  | inr b =>
    have h1 := he b rfl
    subst h1
    exact hy.2 _ rfl
theorem n_X11_joinWays_j13 {A : Nat → Prop} {σ : XS} {r0 : Nat} {r2 : Nat} {t0 : Nat} {x : XS} (hA : RegN A σ) (hr0 : A r0) (hf : f_X11_joinWays_j13 σ r0 r2 t0 = some x) : Sm A σ x ∧ RegN A x := by
  have hm := Sm.rf (A := A) (σ := σ)
  obtain ⟨z2, e1, hf⟩ := xbd hf
  have hz2 := xgR_reg rfl hA.1 hr0 e1
  obtain ⟨σ4, e3, hf⟩ := xbd hf
  obtain ⟨hm9, hB⟩ := n_J7_fill_d0a16 hA.1 hz2 e3
  have hA := RegN.step hA hB (m_J7_fill_d0a16 e3).ext
  have hm := hm.tr hm9
  exact ⟨hm.tr (n_X11_joinWays_l25 (a := ((0 : Int32), σ4)) hA hr0 hf).1, (n_X11_joinWays_l25 (a := ((0 : Int32), σ4)) hA hr0 hf).2⟩
theorem n_X11_joinWays_j4 {A : Nat → Prop} {σ : XS} {r0 : Nat} {r1 : Nat} {t0 : Nat} {x : XS} (hA : RegN A σ) (hr0 : A r0) (hr1 : A r1) (hf : f_X11_joinWays_j4 σ r0 r1 t0 = some x) : Sm A σ x ∧ RegN A x := by
  have hm := Sm.rf (A := A) (σ := σ)
  obtain ⟨z2, e1, hf⟩ := xbd hf
  obtain ⟨_, e3, hf⟩ := xbd hf
  obtain ⟨⟨z6, σ5⟩, e4, hf⟩ := xbd hf
  dsimp only at hf
  obtain ⟨hm9, hA, hz60⟩ := n_X11_heldWays hA hr0 hr1 e4
  have hm := hm.tr hm9
  obtain ⟨_, e7, hf⟩ := xbd hf
  have hz6 := hz60 (xnz_spec e7)
  exact ⟨hm.tr (n_X11_joinWays_j13 hA hr0 hf).1, (n_X11_joinWays_j13 hA hr0 hf).2⟩
theorem n_X11_joinWays {A : Nat → Prop} {σ : XS} {r0 : Nat} {r1 : Nat} {x : XS} (hA : RegN A σ) (hr0 : A r0) (hr1 : A r1) (hf : f_X11_joinWays σ r0 r1 = some x) : Sm A σ x ∧ RegN A x := by
  have hm := Sm.rf (A := A) (σ := σ)
  obtain ⟨_, e1, hf⟩ := xbd hf
  obtain ⟨⟨z4, σ3⟩, e2, hf⟩ := xbd hf
  dsimp only at hf
  obtain ⟨hm9, hA, hz40⟩ := n_X11_levelsNow hA hr0 e2
  have hm := hm.tr hm9
  obtain ⟨_, e5, hf⟩ := xbd hf
  have hz4 := hz40 (xnz_spec e5)
  exact ⟨hm.tr (n_X11_joinWays_j4 hA hr0 hr1 hf).1, (n_X11_joinWays_j4 hA hr0 hr1 hf).2⟩
theorem n_X11_joined_j30 {A : Nat → Prop} {σ : XS} {r0 : Nat} {x2 : Int32} {x3 : Int32} {x : Int64 × XS} (hA : RegN A σ) (hf : f_X11_joined_j30 σ r0 x2 x3 = some x) : Sm A σ x.2 ∧ RegN A x.2 := by
  have hm := Sm.rf (A := A) (σ := σ)
  by_cases q : x2 = (-1 : Int32)
  · have hf := xip q hf
    obtain ⟨_, e1, hf⟩ := xbd hf
    obtain ⟨v3, e2, hf⟩ := xbd hf
    have hf := xsj hf
    subst hf
    exact ⟨hm, hA⟩
  · have hf := xin q hf
    obtain ⟨_, e1, hf⟩ := xbd hf
    obtain ⟨v3, e2, hf⟩ := xbd hf
    by_cases q : v3 < 0
    · have hf := xip q hf
      have hf := xsj hf
      subst hf
      exact ⟨hm, hA⟩
    · have hf := xin q hf
      obtain ⟨z5, e4, hf⟩ := xbd hf
      obtain ⟨v7, e6, hf⟩ := xbd hf
      by_cases q : v3 < v7
      · have hf := xip q hf
        by_cases q : x3 = 0
        · have hf := xip q hf
          have hf := xsj hf
          subst hf
          exact ⟨hm, hA⟩
        · by_cases q1 : x3 = 1
          · have hf := xip q1 (xin q hf)
            obtain ⟨z9, e8, hf⟩ := xbd hf
            obtain ⟨v11, e10, hf⟩ := xbd hf
            have hf := xsj hf
            subst hf
            exact ⟨hm, hA⟩
          · have hf := xin q1 (xin q hf)
            have hf := xsj hf
            subst hf
            exact ⟨hm, hA⟩
      · have hf := xin q hf
        have hf := xsj hf
        subst hf
        exact ⟨hm, hA⟩
theorem n_X11_joined {A : Nat → Prop} {σ : XS} {r0 : Nat} {x1 : Int32} {x2 : Int32} {x3 : Int32} {x : Int64 × XS} (hA : RegN A σ) (hr0 : A r0) (hf : f_X11_joined σ r0 x1 x2 x3 = some x) : Sm A σ x.2 ∧ RegN A x.2 := by
  have hm := Sm.rf (A := A) (σ := σ)
  obtain ⟨_, e1, hf⟩ := xbd hf
  obtain ⟨z3, e2, hf⟩ := xbd hf
  by_cases q : z3 = 0
  · have hf := xip q hf
    have hf := xsj hf
    subst hf
    exact ⟨hm, hA⟩
  · have hf := xin q hf
    have hz3 := (n_X11_slotAt hA.1 hr0 e2 q)
    obtain ⟨v5, e4, hf⟩ := xbd hf
    by_cases q : v5 = 0
    · have hf := xip q hf
      have hf := xsj hf
      subst hf
      exact ⟨hm, hA⟩
    · have hf := xin q hf
      obtain ⟨_, e6, hf⟩ := xbd hf
      obtain ⟨σ8, e7, hf⟩ := xbd hf
      obtain ⟨hm9, hA⟩ := n_X11_joinWays hA hr0 hz3 e7
      have hm := hm.tr hm9
      exact ⟨hm.tr (n_X11_joined_j30 hA hf).1, (n_X11_joined_j30 hA hf).2⟩
theorem n_X9_lakesBelow_l6 {A : Nat → Prop} {r0 : Nat} {x1 : Int32} {a : Int32 × XS} {x : Int32 × XS} (hA : Reg A a.2) (hr0 : A r0) (hf : xloop (f_X9_lakesBelow_b6 r0 x1) a = some x) : Sm A a.2 x.2 ∧ Reg A x.2 := by
  revert hA
  refine xloop_ind (P := fun a => Reg A a.2 → Sm A a.2 x.2 ∧ Reg A x.2) (fun a y hf hc he => ?_) hf
  obtain ⟨x2, σ⟩ := a
  intro hA
  have hA0 : Reg A σ := hA
  have hy : (∀ a' : Int32 × XS, y = .inl a' → Sm A σ a'.2 ∧ Reg A a'.2) ∧ (∀ b1 : Int32 × XS, y = .inr b1 → Sm A σ b1.2 ∧ Reg A b1.2) := by
    have hm := Sm.rf (A := A) (σ := σ)
    obtain ⟨v2, e1, hf⟩ := xbd hf
    by_cases q : v2 ≤ x2
    · have hf := xip q hf
      obtain ⟨b0, hg, e9⟩ := xmj hf
      subst e9
      have hf := hg
      refine ⟨fun a' e => xnc2 e, fun b e => ?_⟩
      have h9 := Sum.inr.inj e
      subst h9
      obtain ⟨v4, e3, hf⟩ := xbd hf
      have hf := xsj hf
      subst hf
      exact ⟨hm, hA⟩
    · have hf := xin q hf
      by_cases q : (1024 : Int32) ≤ x2
      · have hf := xip q hf
        obtain ⟨b0, hg, e9⟩ := xmj hf
        subst e9
        have hf := hg
        refine ⟨fun a' e => xnc2 e, fun b e => ?_⟩
        have h9 := Sum.inr.inj e
        subst h9
        obtain ⟨v4, e3, hf⟩ := xbd hf
        have hf := xsj hf
        subst hf
        exact ⟨hm, hA⟩
      · have hf := xin q hf
        obtain ⟨z4, e3, hf⟩ := xbd hf
        obtain ⟨v6, e5, hf⟩ := xbd hf
        obtain ⟨_, e7, hf⟩ := xbd hf
        obtain ⟨v9, e8, hf⟩ := xbd hf
        by_cases q : x1 < v9
        · have hf := xip q hf
          obtain ⟨b0, hg, e9⟩ := xmj hf
          subst e9
          have hf := hg
          refine ⟨fun a' e => xnc2 e, fun b e => ?_⟩
          have h9 := Sum.inr.inj e
          subst h9
          obtain ⟨v11, e10, hf⟩ := xbd hf
          have hf := xsj hf
          subst hf
          exact ⟨hm, hA⟩
        · have hf := xin q hf
          obtain ⟨z11, e10, hf⟩ := xbd hf
          obtain ⟨v13, e12, hf⟩ := xbd hf
          obtain ⟨_, e14, hf⟩ := xbd hf
          obtain ⟨σ16, e15, hf⟩ := xbd hf
          obtain ⟨hm9, hA⟩ := n_X9_flood hA hr0 e15
          have hm := hm.tr hm9
          have hf := xsj hf
          subst hf
          exact ⟨fun a' e => (by have h9 := Sum.inl.inj e; subst h9; exact ⟨hm, hA⟩), fun b e => xnc1 e⟩
  cases y with
  | inl a' =>
    obtain ⟨hm, hA1⟩ := hy.1 a' rfl
    have h1 := hc a' rfl hA1
    exact ⟨hm.tr (h1).1, (h1).2⟩
  | inr b =>
    have h1 := he b rfl
    subst h1
    exact hy.2 _ rfl
theorem n_X9_lakesBelow {A : Nat → Prop} {σ : XS} {r0 : Nat} {x1 : Int32} {x : Int32 × XS} (hA : Reg A σ) (hr0 : A r0) (hf : f_X9_lakesBelow σ r0 x1 = some x) : Sm A σ x.2 ∧ Reg A x.2 := by
  have hm := Sm.rf (A := A) (σ := σ)
  obtain ⟨_, e1, hf⟩ := xbd hf
  obtain ⟨σ3, e2, hf⟩ := xbd hf
  obtain ⟨hm9, hA⟩ := n_X9_dry hA hr0 e2
  have hm := hm.tr hm9
  exact ⟨hm.tr (n_X9_lakesBelow_l6 (a := ((0 : Int32), σ3)) hA hr0 hf).1, (n_X9_lakesBelow_l6 (a := ((0 : Int32), σ3)) hA hr0 hf).2⟩
theorem n_X11_lakes_j14 {A : Nat → Prop} {σ : XS} {x1 : Int32} {t0 : Nat} {x : Int32 × XS} (hA : RegN A σ) (ht0 : A t0) (hf : f_X11_lakes_j14 σ x1 t0 = some x) : Sm A σ x.2 ∧ RegN A x.2 := by
  have hm := Sm.rf (A := A) (σ := σ)
  obtain ⟨_, e1, hf⟩ := xbd hf
  obtain ⟨⟨v4, σ3⟩, e2, hf⟩ := xbd hf
  dsimp only at hf
  obtain ⟨hm9, hB⟩ := n_X9_lakesBelow hA.1 ht0 e2
  have hA := RegN.step hA hB (m_X9_lakesBelow e2).ext
  have hm := hm.tr hm9
  have hf := xsj hf
  subst hf
  exact ⟨hm, hA⟩
theorem n_X11_lakes {A : Nat → Prop} {σ : XS} {r0 : Nat} {x1 : Int32} {x : Int32 × XS} (hA : RegN A σ) (hr0 : A r0) (hf : f_X11_lakes σ r0 x1 = some x) : Sm A σ x.2 ∧ RegN A x.2 := by
  have hm := Sm.rf (A := A) (σ := σ)
  obtain ⟨_, e1, hf⟩ := xbd hf
  obtain ⟨v3, e2, hf⟩ := xbd hf
  by_cases q : v3 = 0
  · have hf := xip q hf
    have hf := xsj hf
    subst hf
    exact ⟨hm, hA⟩
  · have hf := xin q hf
    obtain ⟨_, e4, hf⟩ := xbd hf
    obtain ⟨⟨z7, σ6⟩, e5, hf⟩ := xbd hf
    dsimp only at hf
    obtain ⟨hm9, hA, hz70⟩ := n_X11_terrainNow hA hr0 e5
    have hm := hm.tr hm9
    obtain ⟨_, e8, hf⟩ := xbd hf
    have hz7 := hz70 (xnz_spec e8)
    exact ⟨hm.tr (n_X11_lakes_j14 hA hz7 hf).1, (n_X11_lakes_j14 hA hz7 hf).2⟩
theorem n_X11_level_j4 {A : Nat → Prop} {σ : XS} {x1 : Int32} {x2 : Int32} {t0 : Nat} {x : Int32 × XS} (hA : RegN A σ) (hf : f_X11_level_j4 σ x1 x2 t0 = some x) : Sm A σ x.2 ∧ RegN A x.2 := by
  have hm := Sm.rf (A := A) (σ := σ)
  by_cases q : x1 = (-1 : Int32)
  · have hf := xip q hf
    obtain ⟨v2, e1, hf⟩ := xbd hf
    have hf := xsj hf
    subst hf
    exact ⟨hm, hA⟩
  · have hf := xin q hf
    obtain ⟨_, e1, hf⟩ := xbd hf
    obtain ⟨v3, e2, hf⟩ := xbd hf
    by_cases q : v3 = 0
    · have hf := xip q hf
      have hf := xsj hf
      subst hf
      exact ⟨hm, hA⟩
    · have hf := xin q hf
      obtain ⟨_, e4, hf⟩ := xbd hf
      obtain ⟨v6, e5, hf⟩ := xbd hf
      by_cases ho : (x2).toInt < 0 ∨ 4 < (x2).toInt
      · have hf := xsw_out ho rfl hf
        have hf := xsj hf
        subst hf
        exact ⟨hm, hA⟩
      · rcases (by omega : (x2).toInt = 0 + ((0 : Nat) : Int) ∨ (x2).toInt = 0 + ((1 : Nat) : Int) ∨ (x2).toInt = 0 + ((2 : Nat) : Int) ∨ (x2).toInt = 0 + ((3 : Nat) : Int) ∨ (x2).toInt = 0 + ((4 : Nat) : Int)) with hk1 | hk1 | hk1 | hk1 | hk1
        · have hf := xsw_in 0 hk1 rfl hf
          have hf := xsj hf
          subst hf
          exact ⟨hm, hA⟩
        · have hf := xsw_in 1 hk1 rfl hf
          obtain ⟨_, e7, hf⟩ := xbd hf
          obtain ⟨v9, e8, hf⟩ := xbd hf
          have hf := xsj hf
          subst hf
          exact ⟨hm, hA⟩
        · have hf := xsw_in 2 hk1 rfl hf
          obtain ⟨_, e7, hf⟩ := xbd hf
          obtain ⟨v9, e8, hf⟩ := xbd hf
          have hf := xsj hf
          subst hf
          exact ⟨hm, hA⟩
        · have hf := xsw_in 3 hk1 rfl hf
          obtain ⟨_, e7, hf⟩ := xbd hf
          obtain ⟨v9, e8, hf⟩ := xbd hf
          have hf := xsj hf
          subst hf
          exact ⟨hm, hA⟩
        · have hf := xsw_in 4 hk1 rfl hf
          obtain ⟨_, e7, hf⟩ := xbd hf
          obtain ⟨v9, e8, hf⟩ := xbd hf
          have hf := xsj hf
          subst hf
          exact ⟨hm, hA⟩
theorem n_X11_level {A : Nat → Prop} {σ : XS} {r0 : Nat} {x1 : Int32} {x2 : Int32} {x : Int32 × XS} (hA : RegN A σ) (hr0 : A r0) (hf : f_X11_level σ r0 x1 x2 = some x) : Sm A σ x.2 ∧ RegN A x.2 := by
  have hm := Sm.rf (A := A) (σ := σ)
  obtain ⟨_, e1, hf⟩ := xbd hf
  obtain ⟨⟨z4, σ3⟩, e2, hf⟩ := xbd hf
  dsimp only at hf
  obtain ⟨hm9, hA, hz40⟩ := n_X11_levelsNow hA hr0 e2
  have hm := hm.tr hm9
  obtain ⟨_, e5, hf⟩ := xbd hf
  have hz4 := hz40 (xnz_spec e5)
  exact ⟨hm.tr (n_X11_level_j4 hA hf).1, (n_X11_level_j4 hA hf).2⟩
theorem n_X11_listGround_l13 {A : Nat → Prop} {r0 : Nat} {x1 : Int32} {x2 : Int32} {a : Int32 × Int32 × XS} {x : Int32 × XS} (hA : Reg A a.2.2) (hr0 : A r0) (hf : xloop (f_X11_listGround_b13 r0 x1 x2) a = some x) : Sm A a.2.2 x.2 ∧ Reg A x.2 := by
  revert hA
  refine xloop_ind (P := fun a => Reg A a.2.2 → Sm A a.2.2 x.2 ∧ Reg A x.2) (fun a y hf hc he => ?_) hf
  obtain ⟨x3, x4, σ⟩ := a
  intro hA
  have hA0 : Reg A σ := hA
  have hy : (∀ a' : Int32 × Int32 × XS, y = .inl a' → Sm A σ a'.2.2 ∧ Reg A a'.2.2) ∧ (∀ b1 : Int32 × XS, y = .inr b1 → Sm A σ b1.2 ∧ Reg A b1.2) := by
    have hm := Sm.rf (A := A) (σ := σ)
    by_cases q : x2 ≤ x4
    · have hf := xip q hf
      obtain ⟨b0, hg, e9⟩ := xmj hf
      subst e9
      have hf := hg
      refine ⟨fun a' e => xnc2 e, fun b e => ?_⟩
      have h9 := Sum.inr.inj e
      subst h9
      have hf := xsj hf
      subst hf
      exact ⟨hm, hA⟩
    · have hf := xin q hf
      obtain ⟨z2, e1, hf⟩ := xbd hf
      obtain ⟨v4, e3, hf⟩ := xbd hf
      by_cases q : v4 ≤ x3
      · have hf := xip q hf
        obtain ⟨b0, hg, e9⟩ := xmj hf
        subst e9
        have hf := hg
        refine ⟨fun a' e => xnc2 e, fun b e => ?_⟩
        have h9 := Sum.inr.inj e
        subst h9
        have hf := xsj hf
        subst hf
        exact ⟨hm, hA⟩
      · have hf := xin q hf
        obtain ⟨z6, e5, hf⟩ := xbd hf
        obtain ⟨_, e7, hf⟩ := xbd hf
        obtain ⟨v9, e8, hf⟩ := xbd hf
        by_cases q : v9 = 0
        · have hf := xip q hf
          have hf := xsj hf
          subst hf
          exact ⟨fun a' e => (by have h9 := Sum.inl.inj e; subst h9; exact ⟨hm, hA⟩), fun b e => xnc1 e⟩
        · have hf := xin q hf
          obtain ⟨z11, e10, hf⟩ := xbd hf
          obtain ⟨_, e12, hf⟩ := xbd hf
          obtain ⟨v14, e13, hf⟩ := xbd hf
          by_cases q : v14 = x1
          · have hf := xip q hf
            obtain ⟨z16, e15, hf⟩ := xbd hf
            have hz16 := xgR_reg rfl hA hr0 e15
            obtain ⟨σ18, e17, hf⟩ := xbd hf
            obtain ⟨hm9, hA⟩ := xsI_reg hA hz16 e17
            have hm := hm.tr hm9
            have hf := xsj hf
            subst hf
            exact ⟨fun a' e => (by have h9 := Sum.inl.inj e; subst h9; exact ⟨hm, hA⟩), fun b e => xnc1 e⟩
          · have hf := xin q hf
            have hf := xsj hf
            subst hf
            exact ⟨fun a' e => (by have h9 := Sum.inl.inj e; subst h9; exact ⟨hm, hA⟩), fun b e => xnc1 e⟩
  cases y with
  | inl a' =>
    obtain ⟨hm, hA1⟩ := hy.1 a' rfl
    have h1 := hc a' rfl hA1
    exact ⟨hm.tr (h1).1, (h1).2⟩
  | inr b =>
    have h1 := he b rfl
    subst h1
    exact hy.2 _ rfl
theorem n_X11_listGround {A : Nat → Prop} {σ : XS} {r0 : Nat} {x1 : Int32} {x : Int32 × XS} (hA : Reg A σ) (hr0 : A r0) (hf : f_X11_listGround σ r0 x1 = some x) : Sm A σ x.2 ∧ Reg A x.2 := by
  have hm := Sm.rf (A := A) (σ := σ)
  obtain ⟨z2, e1, hf⟩ := xbd hf
  obtain ⟨_, e3, hf⟩ := xbd hf
  obtain ⟨v5, e4, hf⟩ := xbd hf
  exact ⟨hm.tr (n_X11_listGround_l13 (a := ((0 : Int32), (0 : Int32), σ)) hA hr0 hf).1, (n_X11_listGround_l13 (a := ((0 : Int32), (0 : Int32), σ)) hA hr0 hf).2⟩
theorem n_X11_mean_j4 {A : Nat → Prop} {σ : XS} {x1 : Int32} {x2 : Int32} {t0 : Nat} {x : Int32 × XS} (hA : RegN A σ) (hf : f_X11_mean_j4 σ x1 x2 t0 = some x) : Sm A σ x.2 ∧ RegN A x.2 := by
  have hm := Sm.rf (A := A) (σ := σ)
  obtain ⟨_, e1, hf⟩ := xbd hf
  obtain ⟨v3, e2, hf⟩ := xbd hf
  by_cases q : v3 = 0
  · have hf := xip q hf
    have hf := xsj hf
    subst hf
    exact ⟨hm, hA⟩
  · have hf := xin q hf
    obtain ⟨_, e4, hf⟩ := xbd hf
    obtain ⟨v6, e5, hf⟩ := xbd hf
    obtain ⟨_, e7, hf⟩ := xbd hf
    obtain ⟨v9, e8, hf⟩ := xbd hf
    obtain ⟨_, e10, hf⟩ := xbd hf
    obtain ⟨v12, e11, hf⟩ := xbd hf
    obtain ⟨v14, e13, hf⟩ := xbd hf
    have hf := xsj hf
    subst hf
    exact ⟨hm, hA⟩
theorem n_X11_mean {A : Nat → Prop} {σ : XS} {r0 : Nat} {x1 : Int32} {x2 : Int32} {x : Int32 × XS} (hA : RegN A σ) (hr0 : A r0) (hf : f_X11_mean σ r0 x1 x2 = some x) : Sm A σ x.2 ∧ RegN A x.2 := by
  have hm := Sm.rf (A := A) (σ := σ)
  obtain ⟨_, e1, hf⟩ := xbd hf
  obtain ⟨⟨z4, σ3⟩, e2, hf⟩ := xbd hf
  dsimp only at hf
  obtain ⟨hm9, hA, hz40⟩ := n_X11_levelsNow hA hr0 e2
  have hm := hm.tr hm9
  obtain ⟨_, e5, hf⟩ := xbd hf
  have hz4 := hz40 (xnz_spec e5)
  exact ⟨hm.tr (n_X11_mean_j4 hA hf).1, (n_X11_mean_j4 hA hf).2⟩
theorem n_X11_nearestGround_l30 {A : Nat → Prop} {σ : XS} {r0 : Nat} {x1 : Int32} {x3 : Int32} {x4 : Int32} {a : Int32 × Int32} {x : Int32 × XS} (hA : RegN A σ) (hf : xloop (f_X11_nearestGround_b30 σ r0 x1 x3 x4) a = some x) : Sm A σ x.2 ∧ RegN A x.2 := by
  revert hA
  refine xloop_ind (P := fun a => RegN A σ → Sm A σ x.2 ∧ RegN A x.2) (fun a y hf hc he => ?_) hf
  obtain ⟨x5, x6⟩ := a
  intro hA
  have hA0 : RegN A σ := hA
  have hy : (∀ a' : Int32 × Int32, y = .inl a' → True) ∧ (∀ b1 : Int32 × XS, y = .inr b1 → Sm A σ b1.2 ∧ RegN A b1.2) := by
    have hm := Sm.rf (A := A) (σ := σ)
    by_cases q : x4 ≤ x6
    · have hf := xip q hf
      obtain ⟨b0, hg, e9⟩ := xmj hf
      subst e9
      have hf := hg
      refine ⟨fun a' e => xnc2 e, fun b e => ?_⟩
      have h9 := Sum.inr.inj e
      subst h9
      have hf := xsj hf
      subst hf
      exact ⟨hm, hA⟩
    · have hf := xin q hf
      obtain ⟨z2, e1, hf⟩ := xbd hf
      obtain ⟨_, e3, hf⟩ := xbd hf
      obtain ⟨v5, e4, hf⟩ := xbd hf
      by_cases q : v5 = 0
      · have hf := xip q hf
        have hf := xsj hf
        subst hf
        exact ⟨fun a' e => (by have h9 := Sum.inl.inj e; subst h9; exact trivial), fun b e => xnc1 e⟩
      · have hf := xin q hf
        obtain ⟨z7, e6, hf⟩ := xbd hf
        obtain ⟨_, e8, hf⟩ := xbd hf
        obtain ⟨v10, e9, hf⟩ := xbd hf
        by_cases q : v10 = x3
        · have hf := xip q hf
          obtain ⟨v12, e11, hf⟩ := xbd hf
          obtain ⟨v14, e13, hf⟩ := xbd hf
          by_cases q : v14 ≤ v12
          · have hf := xip q hf
            have hf := xsj hf
            subst hf
            exact ⟨fun a' e => (by have h9 := Sum.inl.inj e; subst h9; exact trivial), fun b e => xnc1 e⟩
          · have hf := xin q hf
            have hf := xsj hf
            subst hf
            exact ⟨fun a' e => (by have h9 := Sum.inl.inj e; subst h9; exact trivial), fun b e => xnc1 e⟩
        · have hf := xin q hf
          have hf := xsj hf
          subst hf
          exact ⟨fun a' e => (by have h9 := Sum.inl.inj e; subst h9; exact trivial), fun b e => xnc1 e⟩
  cases y with
  | inl a' =>
    exact hc a' rfl hA0
  | inr b =>
    have h1 := he b rfl
    subst h1
    exact hy.2 _ rfl
theorem n_X11_nearestGround_j4 {A : Nat → Prop} {σ : XS} {r0 : Nat} {x1 : Int32} {t0 : Nat} {x : Int32 × XS} (hA : RegN A σ) (hf : f_X11_nearestGround_j4 σ r0 x1 t0 = some x) : Sm A σ x.2 ∧ RegN A x.2 := by
  have hm := Sm.rf (A := A) (σ := σ)
  obtain ⟨_, e1, hf⟩ := xbd hf
  obtain ⟨v3, e2, hf⟩ := xbd hf
  obtain ⟨z5, e4, hf⟩ := xbd hf
  obtain ⟨_, e6, hf⟩ := xbd hf
  obtain ⟨v8, e7, hf⟩ := xbd hf
  obtain ⟨_, e9, hf⟩ := xbd hf
  obtain ⟨v11, e10, hf⟩ := xbd hf
  exact ⟨hm.tr (n_X11_nearestGround_l30 (a := (v11, (0 : Int32))) hA hf).1, (n_X11_nearestGround_l30 (a := (v11, (0 : Int32))) hA hf).2⟩
theorem n_X11_nearestGround {A : Nat → Prop} {σ : XS} {r0 : Nat} {x1 : Int32} {x : Int32 × XS} (hA : RegN A σ) (hr0 : A r0) (hf : f_X11_nearestGround σ r0 x1 = some x) : Sm A σ x.2 ∧ RegN A x.2 := by
  have hm := Sm.rf (A := A) (σ := σ)
  obtain ⟨_, e1, hf⟩ := xbd hf
  obtain ⟨⟨z4, σ3⟩, e2, hf⟩ := xbd hf
  dsimp only at hf
  obtain ⟨hm9, hA, hz40⟩ := n_X11_levelsNow hA hr0 e2
  have hm := hm.tr hm9
  obtain ⟨_, e5, hf⟩ := xbd hf
  have hz4 := hz40 (xnz_spec e5)
  exact ⟨hm.tr (n_X11_nearestGround_j4 hA hf).1, (n_X11_nearestGround_j4 hA hf).2⟩
theorem n_X11_nearest_j25 {A : Nat → Prop} {σ : XS} {x1 : Int32} {x2 : Int32} {t0 : Int32} {x : Int32 × XS} (hA : RegN A σ) (hf : f_X11_nearest_j25 σ x1 x2 t0 = some x) : Sm A σ x.2 ∧ RegN A x.2 := by
  have hm := Sm.rf (A := A) (σ := σ)
  by_cases q : x2 = 0
  · have hf := xip q hf
    have hf := xsj hf
    subst hf
    exact ⟨hm, hA⟩
  · have hf := xin q hf
    obtain ⟨v2, e1, hf⟩ := xbd hf
    have hf := xsj hf
    subst hf
    exact ⟨hm, hA⟩
theorem n_X11_nearest {A : Nat → Prop} {σ : XS} {r0 : Nat} {x1 : Int32} {x2 : Int32} {x : Int32 × XS} (hA : RegN A σ) (hr0 : A r0) (hf : f_X11_nearest σ r0 x1 x2 = some x) : Sm A σ x.2 ∧ RegN A x.2 := by
  have hm := Sm.rf (A := A) (σ := σ)
  obtain ⟨_, e1, hf⟩ := xbd hf
  obtain ⟨v3, e2, hf⟩ := xbd hf
  by_cases q : v3 = 0
  · have hf := xip q hf
    have hf := xsj hf
    subst hf
    exact ⟨hm, hA⟩
  · have hf := xin q hf
    by_cases q : x2 < 0
    · have hf := xip q hf
      have hf := xsj hf
      subst hf
      exact ⟨hm, hA⟩
    · have hf := xin q hf
      by_cases q : x2 ≤ (1 : Int32)
      · have hf := xip q hf
        obtain ⟨_, e4, hf⟩ := xbd hf
        obtain ⟨⟨v7, σ6⟩, e5, hf⟩ := xbd hf
        dsimp only at hf
        obtain ⟨hm9, hA⟩ := n_X11_nearestGround hA hr0 e5
        have hm := hm.tr hm9
        exact ⟨hm.tr (n_X11_nearest_j25 hA hf).1, (n_X11_nearest_j25 hA hf).2⟩
      · have hf := xin q hf
        have hf := xsj hf
        subst hf
        exact ⟨hm, hA⟩
theorem n_X11_overlap_l67 {A : Nat → Prop} {σ : XS} {r0 : Nat} {x1 : Int32} {x3 : Int32} {x5 : Int32} {a : Int32 × Int32} {x : ((Int32 × Int32) ⊕ (Int32 × XS))} (hA : RegN A σ) (hf : xloop (f_X11_overlap_b67 σ r0 x1 x3 x5) a = some x) : (∀ a' : Int32 × Int32, x = .inl a' → True) ∧ (∀ b1 : Int32 × XS, x = .inr b1 → Sm A σ b1.2 ∧ RegN A b1.2) := by
  revert hA
  refine xloop_ind (P := fun a => RegN A σ → (∀ a' : Int32 × Int32, x = .inl a' → True) ∧ (∀ b1 : Int32 × XS, x = .inr b1 → Sm A σ b1.2 ∧ RegN A b1.2)) (fun a y hf hc he => ?_) hf
  obtain ⟨x4, x6⟩ := a
  intro hA
  have hA0 : RegN A σ := hA
  have hy : (∀ a' : Int32 × Int32, y = .inl a' → True) ∧ (∀ b2 : ((Int32 × Int32) ⊕ (Int32 × XS)), y = .inr b2 → (∀ a' : Int32 × Int32, b2 = .inl a' → True) ∧ (∀ b1 : Int32 × XS, b2 = .inr b1 → Sm A σ b1.2 ∧ RegN A b1.2)) := by
    have hm := Sm.rf (A := A) (σ := σ)
    by_cases q : x5 ≤ x6
    · have hf := xip q hf
      obtain ⟨b0, hg, e9⟩ := xmj hf
      subst e9
      have hf := hg
      refine ⟨fun a' e => xnc2 e, fun b e => ?_⟩
      have h9 := Sum.inr.inj e
      subst h9
      have hf := xsj hf
      subst hf
      exact ⟨fun a' e => (by have h9 := Sum.inl.inj e; subst h9; exact trivial), fun b e => xnc1 e⟩
    · have hf := xin q hf
      obtain ⟨z2, e1, hf⟩ := xbd hf
      obtain ⟨v4, e3, hf⟩ := xbd hf
      obtain ⟨z6, e5, hf⟩ := xbd hf
      obtain ⟨v8, e7, hf⟩ := xbd hf
      obtain ⟨v10, e9, hf⟩ := xbd hf
      by_cases q : v10 = x1
      · have hf := xip q hf
        have hf := xsj hf
        subst hf
        exact ⟨fun a' e => (by have h9 := Sum.inl.inj e; subst h9; exact trivial), fun b e => xnc1 e⟩
      · have hf := xin q hf
        have hf := xsj hf
        subst hf
        exact ⟨fun a' e => (by have h9 := Sum.inl.inj e; subst h9; exact trivial), fun b e => xnc1 e⟩
  cases y with
  | inl a' =>
    exact hc a' rfl hA0
  | inr b =>
    have h1 := he b rfl
    subst h1
    exact hy.2 _ rfl
theorem n_X11_overlap_l48 {A : Nat → Prop} {σ : XS} {r0 : Nat} {x1 : Int32} {x3 : Int32} {a : Int32 × Int32} {x : Int32 × XS} (hA : RegN A σ) (hf : xloop (f_X11_overlap_b48 σ r0 x1 x3) a = some x) : Sm A σ x.2 ∧ RegN A x.2 := by
  revert hA
  refine xloop_ind (P := fun a => RegN A σ → Sm A σ x.2 ∧ RegN A x.2) (fun a y hf hc he => ?_) hf
  obtain ⟨x4, x5⟩ := a
  intro hA
  have hA0 : RegN A σ := hA
  have hy : (∀ a' : Int32 × Int32, y = .inl a' → True) ∧ (∀ b1 : Int32 × XS, y = .inr b1 → Sm A σ b1.2 ∧ RegN A b1.2) := by
    have hm := Sm.rf (A := A) (σ := σ)
    by_cases q : x3 ≤ x5
    · have hf := xip q hf
      obtain ⟨b0, hg, e9⟩ := xmj hf
      subst e9
      have hf := hg
      refine ⟨fun a' e => xnc2 e, fun b e => ?_⟩
      have h9 := Sum.inr.inj e
      subst h9
      have hf := xsj hf
      subst hf
      exact ⟨hm, hA⟩
    · have hf := xin q hf
      obtain ⟨z2, e1, hf⟩ := xbd hf
      obtain ⟨v4, e3, hf⟩ := xbd hf
      by_cases q : v4 ≤ x5
      · have hf := xip q hf
        obtain ⟨b0, hg, e9⟩ := xmj hf
        subst e9
        have hf := hg
        refine ⟨fun a' e => xnc2 e, fun b e => ?_⟩
        have h9 := Sum.inr.inj e
        subst h9
        have hf := xsj hf
        subst hf
        exact ⟨hm, hA⟩
      · have hf := xin q hf
        exact ⟨fun _ _ => trivial, fun b1 eb1 => ⟨hm.tr ((n_X11_overlap_l67 (a := (x4, (0 : Int32))) hA hf).2 b1 eb1).1, ((n_X11_overlap_l67 (a := (x4, (0 : Int32))) hA hf).2 b1 eb1).2⟩⟩
  cases y with
  | inl a' =>
    exact hc a' rfl hA0
  | inr b =>
    have h1 := he b rfl
    subst h1
    exact hy.2 _ rfl
theorem n_X11_overlap_j4 {A : Nat → Prop} {σ : XS} {r0 : Nat} {x1 : Int32} {t0 : Nat} {x : Int32 × XS} (hA : RegN A σ) (hr0 : A r0) (hf : f_X11_overlap_j4 σ r0 x1 t0 = some x) : Sm A σ x.2 ∧ RegN A x.2 := by
  have hm := Sm.rf (A := A) (σ := σ)
  obtain ⟨v2, e1, hf⟩ := xbd hf
  by_cases q : v2 = 0
  · have hf := xip q hf
    have hf := xsj hf
    subst hf
    exact ⟨hm, hA⟩
  · have hf := xin q hf
    obtain ⟨_, e3, hf⟩ := xbd hf
    obtain ⟨v5, e4, hf⟩ := xbd hf
    obtain ⟨_, e6, hf⟩ := xbd hf
    obtain ⟨v8, e7, hf⟩ := xbd hf
    by_cases q : v8 ≤ (256 : Int32)
    · have hf := xip q hf
      obtain ⟨_, e9, hf⟩ := xbd hf
      obtain ⟨v11, e10, hf⟩ := xbd hf
      obtain ⟨_, e12, hf⟩ := xbd hf
      obtain ⟨⟨v15, σ14⟩, e13, hf⟩ := xbd hf
      dsimp only at hf
      obtain ⟨hm9, hB⟩ := n_X11_listGround hA.1 hr0 e13
      have hA := RegN.step hA hB (m_X11_listGround e13).ext
      have hm := hm.tr hm9
      exact ⟨hm.tr (n_X11_overlap_l48 (a := ((0 : Int32), (0 : Int32))) hA hf).1, (n_X11_overlap_l48 (a := ((0 : Int32), (0 : Int32))) hA hf).2⟩
    · have hf := xin q hf
      have hf := xsj hf
      subst hf
      exact ⟨hm, hA⟩
theorem n_X11_overlap {A : Nat → Prop} {σ : XS} {r0 : Nat} {x1 : Int32} {x : Int32 × XS} (hA : RegN A σ) (hr0 : A r0) (hf : f_X11_overlap σ r0 x1 = some x) : Sm A σ x.2 ∧ RegN A x.2 := by
  have hm := Sm.rf (A := A) (σ := σ)
  obtain ⟨_, e1, hf⟩ := xbd hf
  obtain ⟨⟨z4, σ3⟩, e2, hf⟩ := xbd hf
  dsimp only at hf
  obtain ⟨hm9, hA, hz40⟩ := n_X11_levelsNow hA hr0 e2
  have hm := hm.tr hm9
  obtain ⟨_, e5, hf⟩ := xbd hf
  have hz4 := hz40 (xnz_spec e5)
  exact ⟨hm.tr (n_X11_overlap_j4 hA hr0 hf).1, (n_X11_overlap_j4 hA hr0 hf).2⟩
theorem n_X11_pair_j26 {A : Nat → Prop} {σ : XS} {r0 : Nat} {x1 : Int32} {x2 : Int32} {x3 : Int32} {x4 : Int32} {t0 : Nat} {x : Int32 × XS} (hA : RegN A σ) (hf : f_X11_pair_j26 σ r0 x1 x2 x3 x4 t0 = some x) : Sm A σ x.2 ∧ RegN A x.2 := by
  have hm := Sm.rf (A := A) (σ := σ)
  obtain ⟨_, e1, hf⟩ := xbd hf
  obtain ⟨v3, e2, hf⟩ := xbd hf
  by_cases q : v3 = 0
  · have hf := xip q hf
    have hf := xsj hf
    subst hf
    exact ⟨hm, hA⟩
  · have hf := xin q hf
    obtain ⟨z5, e4, hf⟩ := xbd hf
    obtain ⟨_, e6, hf⟩ := xbd hf
    obtain ⟨v8, e7, hf⟩ := xbd hf
    obtain ⟨_, e9, hf⟩ := xbd hf
    obtain ⟨v11, e10, hf⟩ := xbd hf
    obtain ⟨z13, e12, hf⟩ := xbd hf
    obtain ⟨_, e14, hf⟩ := xbd hf
    obtain ⟨v16, e15, hf⟩ := xbd hf
    obtain ⟨v18, e17, hf⟩ := xbd hf
    have hf := xsj hf
    subst hf
    exact ⟨hm, hA⟩
theorem n_X11_pair {A : Nat → Prop} {σ : XS} {r0 : Nat} {x1 : Int32} {x2 : Int32} {x3 : Int32} {x4 : Int32} {x : Int32 × XS} (hA : RegN A σ) (hr0 : A r0) (hf : f_X11_pair σ r0 x1 x2 x3 x4 = some x) : Sm A σ x.2 ∧ RegN A x.2 := by
  have hm := Sm.rf (A := A) (σ := σ)
  obtain ⟨z2, e1, hf⟩ := xbd hf
  obtain ⟨_, e3, hf⟩ := xbd hf
  obtain ⟨v5, e4, hf⟩ := xbd hf
  by_cases q : v5 = 0
  · have hf := xip q hf
    have hf := xsj hf
    subst hf
    exact ⟨hm, hA⟩
  · have hf := xin q hf
    obtain ⟨z7, e6, hf⟩ := xbd hf
    obtain ⟨_, e8, hf⟩ := xbd hf
    obtain ⟨v10, e9, hf⟩ := xbd hf
    by_cases q : v10 = 0
    · have hf := xip q hf
      have hf := xsj hf
      subst hf
      exact ⟨hm, hA⟩
    · have hf := xin q hf
      obtain ⟨_, e11, hf⟩ := xbd hf
      obtain ⟨⟨z14, σ13⟩, e12, hf⟩ := xbd hf
      dsimp only at hf
      obtain ⟨hm9, hA, hz140⟩ := n_X11_levelsNow hA hr0 e12
      have hm := hm.tr hm9
      obtain ⟨_, e15, hf⟩ := xbd hf
      have hz14 := hz140 (xnz_spec e15)
      exact ⟨hm.tr (n_X11_pair_j26 hA hf).1, (n_X11_pair_j26 hA hf).2⟩
theorem n_X11_pass_j30 {A : Nat → Prop} {σ : XS} {x1 : Int32} {x2 : Int32} {t0 : Nat} {x : Int32 × XS} (hA : RegN A σ) (ht0 : A t0) (hf : f_X11_pass_j30 σ x1 x2 t0 = some x) : Sm A σ x.2 ∧ RegN A x.2 := by
  have hm := Sm.rf (A := A) (σ := σ)
  obtain ⟨_, e1, hf⟩ := xbd hf
  obtain ⟨⟨v4, σ3⟩, e2, hf⟩ := xbd hf
  dsimp only at hf
  obtain ⟨hm9, hB⟩ := n_X9_meetingEnergy hA.1 ht0 e2
  have hA := RegN.step hA hB (m_X9_meetingEnergy e2).ext
  have hm := hm.tr hm9
  have hf := xsj hf
  subst hf
  exact ⟨hm, hA⟩
theorem n_X11_pass {A : Nat → Prop} {σ : XS} {r0 : Nat} {x1 : Int32} {x2 : Int32} {x : Int32 × XS} (hA : RegN A σ) (hr0 : A r0) (hf : f_X11_pass σ r0 x1 x2 = some x) : Sm A σ x.2 ∧ RegN A x.2 := by
  have hm := Sm.rf (A := A) (σ := σ)
  obtain ⟨_, e1, hf⟩ := xbd hf
  obtain ⟨v3, e2, hf⟩ := xbd hf
  by_cases q : v3 = 0
  · have hf := xip q hf
    have hf := xsj hf
    subst hf
    exact ⟨hm, hA⟩
  · have hf := xin q hf
    obtain ⟨_, e4, hf⟩ := xbd hf
    obtain ⟨v6, e5, hf⟩ := xbd hf
    by_cases q : v6 = 0
    · have hf := xip q hf
      have hf := xsj hf
      subst hf
      exact ⟨hm, hA⟩
    · have hf := xin q hf
      obtain ⟨_, e7, hf⟩ := xbd hf
      obtain ⟨v9, e8, hf⟩ := xbd hf
      by_cases q : v9 = 0
      · have hf := xip q hf
        have hf := xsj hf
        subst hf
        exact ⟨hm, hA⟩
      · have hf := xin q hf
        obtain ⟨_, e10, hf⟩ := xbd hf
        obtain ⟨⟨z13, σ12⟩, e11, hf⟩ := xbd hf
        dsimp only at hf
        obtain ⟨hm9, hA, hz130⟩ := n_X11_terrainNow hA hr0 e11
        have hm := hm.tr hm9
        obtain ⟨_, e14, hf⟩ := xbd hf
        have hz13 := hz130 (xnz_spec e14)
        exact ⟨hm.tr (n_X11_pass_j30 hA hz13 hf).1, (n_X11_pass_j30 hA hz13 hf).2⟩
theorem n_X6_setPin_j26 {A : Nat → Prop} {σ : XS} {r0 : Nat} {x2 : Int32} {x3 : Int32} {t0 : Nat} {t1 : Int32} {x : XS} (hA : Reg A σ) (hr0 : A r0) (ht0 : A t0) (hf : f_X6_setPin_j26 σ r0 x2 x3 t0 t1 = some x) : Sm A σ x ∧ Reg A x := by
  have hm := Sm.rf (A := A) (σ := σ)
  obtain ⟨σ2, e1, hf⟩ := xbd hf
  obtain ⟨hm9, hA⟩ := xpI_reg hA ht0 e1
  have hm := hm.tr hm9
  by_cases q : x2 = (1 : Int32)
  · have hf := xip q hf
    obtain ⟨v4, e3, hf⟩ := xbd hf
    obtain ⟨σ6, e5, hf⟩ := xbd hf
    obtain ⟨hm9, hA⟩ := xpI_reg hA hr0 e5
    have hm := hm.tr hm9
    have hf := xsj hf
    subst hf
    exact ⟨hm, hA⟩
  · have hf := xin q hf
    obtain ⟨v4, e3, hf⟩ := xbd hf
    obtain ⟨σ6, e5, hf⟩ := xbd hf
    obtain ⟨hm9, hA⟩ := xpI_reg hA hr0 e5
    have hm := hm.tr hm9
    have hf := xsj hf
    subst hf
    exact ⟨hm, hA⟩
theorem n_X6_setPin {A : Nat → Prop} {σ : XS} {r0 : Nat} {x1 : Int32} {x2 : Int32} {x : XS} (hA : Reg A σ) (hr0 : A r0) (hf : f_X6_setPin σ r0 x1 x2 = some x) : Sm A σ x ∧ Reg A x := by
  have hm := Sm.rf (A := A) (σ := σ)
  by_cases q : x2 = 0
  · have hf := xip q hf
    obtain ⟨v2, e1, hf⟩ := xbd hf
    exact ⟨hm.tr (n_X6_setPin_j26 hA hr0 hr0 hf).1, (n_X6_setPin_j26 hA hr0 hr0 hf).2⟩
  · have hf := xin q hf
    obtain ⟨v2, e1, hf⟩ := xbd hf
    exact ⟨hm.tr (n_X6_setPin_j26 hA hr0 hr0 hf).1, (n_X6_setPin_j26 hA hr0 hr0 hf).2⟩
theorem n_X11_stampPins {A : Nat → Prop} {σ : XS} {r0 : Nat} {x : XS} (hA : Reg A σ) (hr0 : A r0) (hf : f_X11_stampPins σ r0 = some x) : Sm A σ x ∧ Reg A x := by
  have hm := Sm.rf (A := A) (σ := σ)
  obtain ⟨v2, e1, hf⟩ := xbd hf
  obtain ⟨σ4, e3, hf⟩ := xbd hf
  obtain ⟨hm9, hA⟩ := xpI_reg hA hr0 e3
  have hm := hm.tr hm9
  obtain ⟨z6, e5, hf⟩ := xbd hf
  have hz6 := xgR_reg rfl hA hr0 e5
  obtain ⟨v8, e7, hf⟩ := xbd hf
  obtain ⟨σ10, e9, hf⟩ := xbd hf
  obtain ⟨hm9, hA⟩ := xpI_reg hA hz6 e9
  have hm := hm.tr hm9
  have hf := xsj hf
  subst hf
  exact ⟨hm, hA⟩
end
section
theorem n_X11_pin {A : Nat → Prop} {σ : XS} {r0 : Nat} {x1 : Int32} {x2 : Int32} {x : Int32 × XS} (hA : Reg A σ) (hr0 : A r0) (hf : f_X11_pin σ r0 x1 x2 = some x) : Sm A σ x.2 ∧ Reg A x.2 := by
  have hm := Sm.rf (A := A) (σ := σ)
  obtain ⟨z2, e1, hf⟩ := xbd hf
  obtain ⟨_, e3, hf⟩ := xbd hf
  obtain ⟨v5, e4, hf⟩ := xbd hf
  by_cases q : v5 = 0
  · have hf := xip q hf
    have hf := xsj hf
    subst hf
    exact ⟨hm, hA⟩
  · have hf := xin q hf
    by_cases q : x2 < 0
    · have hf := xip q hf
      have hf := xsj hf
      subst hf
      exact ⟨hm, hA⟩
    · have hf := xin q hf
      by_cases q : (2 : Int32) < x2
      · have hf := xip q hf
        have hf := xsj hf
        subst hf
        exact ⟨hm, hA⟩
      · have hf := xin q hf
        obtain ⟨z7, e6, hf⟩ := xbd hf
        obtain ⟨_, e8, hf⟩ := xbd hf
        obtain ⟨v10, e9, hf⟩ := xbd hf
        by_cases q : v10 = x2
        · have hf := xip q hf
          have hf := xsj hf
          subst hf
          exact ⟨hm, hA⟩
        · have hf := xin q hf
          obtain ⟨z12, e11, hf⟩ := xbd hf
          have hz12 := xgR_reg rfl hA hr0 e11
          obtain ⟨z14, e13, hf⟩ := xbd hf
          obtain ⟨_, e15, hf⟩ := xbd hf
          obtain ⟨σ17, e16, hf⟩ := xbd hf
          obtain ⟨hm9, hA⟩ := n_X5_keep hA hz12 e16
          have hm := hm.tr hm9
          obtain ⟨z19, e18, hf⟩ := xbd hf
          have hz19 := xgR_reg rfl hA hr0 e18
          obtain ⟨_, e20, hf⟩ := xbd hf
          obtain ⟨σ22, e21, hf⟩ := xbd hf
          obtain ⟨hm9, hA⟩ := n_X6_setPin hA hz19 e21
          have hm := hm.tr hm9
          obtain ⟨z24, e23, hf⟩ := xbd hf
          have hz24 := xgR_reg rfl hA hr0 e23
          obtain ⟨z26, e25, hf⟩ := xbd hf
          obtain ⟨v28, e27, hf⟩ := xbd hf
          obtain ⟨z30, e29, hf⟩ := xbd hf
          obtain ⟨v32, e31, hf⟩ := xbd hf
          obtain ⟨z34, e33, hf⟩ := xbd hf
          obtain ⟨v36, e35, hf⟩ := xbd hf
          obtain ⟨σ38, e37, hf⟩ := xbd hf
          obtain ⟨hm9, hA⟩ := xpI_reg hA hz24 e37
          have hm := hm.tr hm9
          obtain ⟨_, e39, hf⟩ := xbd hf
          obtain ⟨σ41, e40, hf⟩ := xbd hf
          obtain ⟨hm9, hA⟩ := n_X11_stampPins hA hr0 e40
          have hm := hm.tr hm9
          have hf := xsj hf
          subst hf
          exact ⟨hm, hA⟩
theorem n_X6_setField {A : Nat → Prop} {σ : XS} {r0 : Nat} {x1 : Int32} {x2 : Int32} {x : XS} (hA : Reg A σ) (hr0 : A r0) (hf : f_X6_setField σ r0 x1 x2 = some x) : Sm A σ x ∧ Reg A x := by
  have hm := Sm.rf (A := A) (σ := σ)
  by_cases q : x1 < 0
  · have hf := xip q hf
    have hf := xsj hf
    subst hf
    exact ⟨hm, hA⟩
  · have hf := xin q hf
    obtain ⟨z2, e1, hf⟩ := xbd hf
    obtain ⟨v4, e3, hf⟩ := xbd hf
    by_cases q : v4 ≤ x1
    · have hf := xip q hf
      have hf := xsj hf
      subst hf
      exact ⟨hm, hA⟩
    · have hf := xin q hf
      obtain ⟨z6, e5, hf⟩ := xbd hf
      have hz6 := xgR_reg rfl hA hr0 e5
      obtain ⟨σ8, e7, hf⟩ := xbd hf
      obtain ⟨hm9, hA⟩ := xsI_reg hA hz6 e7
      have hm := hm.tr hm9
      have hf := xsj hf
      subst hf
      exact ⟨hm, hA⟩
theorem n_X11_pull {A : Nat → Prop} {σ : XS} {r0 : Nat} {x1 : Int32} {x2 : Int32} {x : Int32 × XS} (hA : Reg A σ) (hr0 : A r0) (hf : f_X11_pull σ r0 x1 x2 = some x) : Sm A σ x.2 ∧ Reg A x.2 := by
  have hm := Sm.rf (A := A) (σ := σ)
  obtain ⟨z2, e1, hf⟩ := xbd hf
  obtain ⟨_, e3, hf⟩ := xbd hf
  obtain ⟨v5, e4, hf⟩ := xbd hf
  by_cases q : v5 = 0
  · have hf := xip q hf
    have hf := xsj hf
    subst hf
    exact ⟨hm, hA⟩
  · have hf := xin q hf
    obtain ⟨v7, e6, hf⟩ := xbd hf
    by_cases q : v7 = 0
    · have hf := xip q hf
      have hf := xsj hf
      subst hf
      exact ⟨hm, hA⟩
    · have hf := xin q hf
      obtain ⟨z9, e8, hf⟩ := xbd hf
      obtain ⟨_, e10, hf⟩ := xbd hf
      obtain ⟨v12, e11, hf⟩ := xbd hf
      by_cases q : v12 = x2
      · have hf := xip q hf
        have hf := xsj hf
        subst hf
        exact ⟨hm, hA⟩
      · have hf := xin q hf
        obtain ⟨z14, e13, hf⟩ := xbd hf
        have hz14 := xgR_reg rfl hA hr0 e13
        obtain ⟨z16, e15, hf⟩ := xbd hf
        obtain ⟨_, e17, hf⟩ := xbd hf
        obtain ⟨σ19, e18, hf⟩ := xbd hf
        obtain ⟨hm9, hA⟩ := n_X5_keep hA hz14 e18
        have hm := hm.tr hm9
        obtain ⟨z21, e20, hf⟩ := xbd hf
        have hz21 := xgR_reg rfl hA hr0 e20
        obtain ⟨_, e22, hf⟩ := xbd hf
        obtain ⟨σ24, e23, hf⟩ := xbd hf
        obtain ⟨hm9, hA⟩ := n_X6_setField hA hz21 e23
        have hm := hm.tr hm9
        obtain ⟨_, e25, hf⟩ := xbd hf
        obtain ⟨σ27, e26, hf⟩ := xbd hf
        obtain ⟨hm9, hA⟩ := n_X11_stampTies hA hr0 e26
        have hm := hm.tr hm9
        have hf := xsj hf
        subst hf
        exact ⟨hm, hA⟩
theorem n_X6_clear {A : Nat → Prop} {σ : XS} {r0 : Nat} {x : XS} (hA : Reg A σ) (hr0 : A r0) (hf : f_X6_clear σ r0 = some x) : Sm A σ x ∧ Reg A x := by
  have hm := Sm.rf (A := A) (σ := σ)
  obtain ⟨z2, e1, hf⟩ := xbd hf
  have hz2 := xgR_reg rfl hA hr0 e1
  obtain ⟨σ4, e3, hf⟩ := xbd hf
  obtain ⟨hm9, hA⟩ := n_J7_fill_53178 hA hz2 e3
  have hm := hm.tr hm9
  obtain ⟨z6, e5, hf⟩ := xbd hf
  have hz6 := xgR_reg rfl hA hr0 e5
  obtain ⟨σ8, e7, hf⟩ := xbd hf
  obtain ⟨hm9, hA⟩ := n_J7_fill_53178 hA hz6 e7
  have hm := hm.tr hm9
  obtain ⟨σ10, e9, hf⟩ := xbd hf
  obtain ⟨hm9, hA⟩ := xpI_reg hA hr0 e9
  have hm := hm.tr hm9
  obtain ⟨σ12, e11, hf⟩ := xbd hf
  obtain ⟨hm9, hA⟩ := xpI_reg hA hr0 e11
  have hm := hm.tr hm9
  obtain ⟨σ14, e13, hf⟩ := xbd hf
  obtain ⟨hm9, hA⟩ := xpI_reg hA hr0 e13
  have hm := hm.tr hm9
  obtain ⟨σ16, e15, hf⟩ := xbd hf
  obtain ⟨hm9, hA⟩ := xpI_reg hA hr0 e15
  have hm := hm.tr hm9
  have hf := xsj hf
  subst hf
  exact ⟨hm, hA⟩
theorem n_X1_begin {A : Nat → Prop} {σ : XS} {r0 : Nat} {x : XS} (hA : Reg A σ) (hr0 : A r0) (hf : f_X1_begin σ r0 = some x) : Sm A σ x ∧ Reg A x := by
  have hm := Sm.rf (A := A) (σ := σ)
  obtain ⟨z2, e1, hf⟩ := xbd hf
  have hz2 := xgR_reg rfl hA hr0 e1
  obtain ⟨_, e3, hf⟩ := xbd hf
  obtain ⟨σ5, e4, hf⟩ := xbd hf
  obtain ⟨hm9, hA⟩ := n_X6_clear hA hz2 e4
  have hm := hm.tr hm9
  obtain ⟨σ7, e6, hf⟩ := xbd hf
  obtain ⟨hm9, hA⟩ := xpI_reg hA hr0 e6
  have hm := hm.tr hm9
  obtain ⟨σ9, e8, hf⟩ := xbd hf
  obtain ⟨hm9, hA⟩ := xpI_reg hA hr0 e8
  have hm := hm.tr hm9
  obtain ⟨σ11, e10, hf⟩ := xbd hf
  obtain ⟨hm9, hA⟩ := xpI_reg hA hr0 e10
  have hm := hm.tr hm9
  obtain ⟨σ13, e12, hf⟩ := xbd hf
  obtain ⟨hm9, hA⟩ := xpI_reg hA hr0 e12
  have hm := hm.tr hm9
  obtain ⟨σ15, e14, hf⟩ := xbd hf
  obtain ⟨hm9, hA⟩ := xpI_reg hA hr0 e14
  have hm := hm.tr hm9
  obtain ⟨σ17, e16, hf⟩ := xbd hf
  obtain ⟨hm9, hA⟩ := xpI_reg hA hr0 e16
  have hm := hm.tr hm9
  obtain ⟨σ19, e18, hf⟩ := xbd hf
  obtain ⟨hm9, hA⟩ := xpI_reg hA hr0 e18
  have hm := hm.tr hm9
  obtain ⟨σ21, e20, hf⟩ := xbd hf
  obtain ⟨hm9, hA⟩ := xpI_reg hA hr0 e20
  have hm := hm.tr hm9
  obtain ⟨σ23, e22, hf⟩ := xbd hf
  obtain ⟨hm9, hA⟩ := xpI_reg hA hr0 e22
  have hm := hm.tr hm9
  have hf := xsj hf
  subst hf
  exact ⟨hm, hA⟩
theorem n_X8_skipLetters_l0 {A : Nat → Prop} {r0 : Nat} {a : XS} {x : XS} (hA : Reg A a) (hr0 : A r0) (hf : xloop (f_X8_skipLetters_b0 r0) a = some x) : Sm A a x ∧ Reg A x := by
  revert hA
  refine xloop_ind (P := fun a => Reg A a → Sm A a x ∧ Reg A x) (fun a y hf hc he => ?_) hf
  obtain ⟨σ, rfl⟩ : ∃ z, z = a := ⟨_, rfl⟩
  intro hA
  have hA0 : Reg A σ := hA
  have hy : (∀ a' : XS, y = .inl a' → Sm A σ a' ∧ Reg A a') ∧ (∀ b1 : XS, y = .inr b1 → Sm A σ b1 ∧ Reg A b1) := by
    have hm := Sm.rf (A := A) (σ := σ)
    obtain ⟨v2, e1, hf⟩ := xbd hf
    obtain ⟨v4, e3, hf⟩ := xbd hf
    by_cases q : v4 ≤ v2
    · have hf := xip q hf
      obtain ⟨b0, hg, e9⟩ := xmj hf
      subst e9
      have hf := hg
      refine ⟨fun a' e => xnc2 e, fun b e => ?_⟩
      have h9 := Sum.inr.inj e
      subst h9
      have hf := xsj hf
      subst hf
      exact ⟨hm, hA⟩
    · have hf := xin q hf
      obtain ⟨v6, e5, hf⟩ := xbd hf
      obtain ⟨_, e7, hf⟩ := xbd hf
      obtain ⟨v9, e8, hf⟩ := xbd hf
      obtain ⟨v11, e10, hf⟩ := xbd hf
      by_cases q : v11 = 0
      · have hf := xip q hf
        obtain ⟨b0, hg, e9⟩ := xmj hf
        subst e9
        have hf := hg
        refine ⟨fun a' e => xnc2 e, fun b e => ?_⟩
        have h9 := Sum.inr.inj e
        subst h9
        have hf := xsj hf
        subst hf
        exact ⟨hm, hA⟩
      · have hf := xin q hf
        obtain ⟨v13, e12, hf⟩ := xbd hf
        obtain ⟨σ15, e14, hf⟩ := xbd hf
        obtain ⟨hm9, hA⟩ := xpI_reg hA hr0 e14
        have hm := hm.tr hm9
        have hf := xsj hf
        subst hf
        exact ⟨fun a' e => (by have h9 := Sum.inl.inj e; subst h9; exact ⟨hm, hA⟩), fun b e => xnc1 e⟩
  cases y with
  | inl a' =>
    obtain ⟨hm, hA1⟩ := hy.1 a' rfl
    have h1 := hc a' rfl hA1
    exact ⟨hm.tr (h1).1, (h1).2⟩
  | inr b =>
    have h1 := he b rfl
    subst h1
    exact hy.2 _ rfl
theorem n_X8_skipLetters {A : Nat → Prop} {σ : XS} {r0 : Nat} {x : XS} (hA : Reg A σ) (hr0 : A r0) (hf : f_X8_skipLetters σ r0 = some x) : Sm A σ x ∧ Reg A x := by
  have hm := Sm.rf (A := A) (σ := σ)
  exact ⟨hm.tr (n_X8_skipLetters_l0 (a := σ) hA hr0 hf).1, (n_X8_skipLetters_l0 (a := σ) hA hr0 hf).2⟩
theorem n_X8_findInt_l70 {A : Nat → Prop} {r0 : Nat} {a : Int32 × XS} {x : XS} (hA : Reg A a.2) (hr0 : A r0) (hf : xloop (f_X8_findInt_b70 r0) a = some x) : Sm A a.2 x ∧ Reg A x := by
  revert hA
  refine xloop_ind (P := fun a => Reg A a.2 → Sm A a.2 x ∧ Reg A x) (fun a y hf hc he => ?_) hf
  obtain ⟨x1, σ⟩ := a
  intro hA
  have hA0 : Reg A σ := hA
  have hy : (∀ a' : Int32 × XS, y = .inl a' → Sm A σ a'.2 ∧ Reg A a'.2) ∧ (∀ b1 : XS, y = .inr b1 → Sm A σ b1 ∧ Reg A b1) := by
    have hm := Sm.rf (A := A) (σ := σ)
    obtain ⟨v2, e1, hf⟩ := xbd hf
    by_cases q : v2 = (2 : Int32)
    · have hf := xip q hf
      obtain ⟨v4, e3, hf⟩ := xbd hf
      by_cases q : v4 ≤ x1
      · have hf := xip q hf
        obtain ⟨b0, hg, e9⟩ := xmj hf
        subst e9
        have hf := hg
        refine ⟨fun a' e => xnc2 e, fun b e => ?_⟩
        have h9 := Sum.inr.inj e
        subst h9
        have hf := xsj hf
        subst hf
        exact ⟨hm, hA⟩
      · have hf := xin q hf
        obtain ⟨v6, e5, hf⟩ := xbd hf
        obtain ⟨_, e7, hf⟩ := xbd hf
        obtain ⟨v9, e8, hf⟩ := xbd hf
        obtain ⟨σ11, e10, hf⟩ := xbd hf
        obtain ⟨hm9, hA⟩ := xpI_reg hA hr0 e10
        have hm := hm.tr hm9
        have hf := xsj hf
        subst hf
        exact ⟨fun a' e => (by have h9 := Sum.inl.inj e; subst h9; exact ⟨hm, hA⟩), fun b e => xnc1 e⟩
    · have hf := xin q hf
      obtain ⟨b0, hg, e9⟩ := xmj hf
      subst e9
      have hf := hg
      refine ⟨fun a' e => xnc2 e, fun b e => ?_⟩
      have h9 := Sum.inr.inj e
      subst h9
      have hf := xsj hf
      subst hf
      exact ⟨hm, hA⟩
  cases y with
  | inl a' =>
    obtain ⟨hm, hA1⟩ := hy.1 a' rfl
    have h1 := hc a' rfl hA1
    exact ⟨hm.tr (h1).1, (h1).2⟩
  | inr b =>
    have h1 := he b rfl
    subst h1
    exact hy.2 _ rfl
theorem n_X8_findInt_j57 {A : Nat → Prop} {σ : XS} {r0 : Nat} {t0 : Nat} {t1 : Int32} {x : XS} (hA : Reg A σ) (hr0 : A r0) (ht0 : A t0) (hf : f_X8_findInt_j57 σ r0 t0 t1 = some x) : Sm A σ x ∧ Reg A x := by
  have hm := Sm.rf (A := A) (σ := σ)
  obtain ⟨σ2, e1, hf⟩ := xbd hf
  obtain ⟨hm9, hA⟩ := xpI_reg hA ht0 e1
  have hm := hm.tr hm9
  obtain ⟨σ4, e3, hf⟩ := xbd hf
  obtain ⟨hm9, hA⟩ := xpI_reg hA hr0 e3
  have hm := hm.tr hm9
  obtain ⟨v6, e5, hf⟩ := xbd hf
  exact ⟨hm.tr (n_X8_findInt_l70 (a := (v6, σ4)) hA hr0 hf).1, (n_X8_findInt_l70 (a := (v6, σ4)) hA hr0 hf).2⟩
theorem n_X8_findInt_j38 {A : Nat → Prop} {σ : XS} {r0 : Nat} {x : XS} (hA : Reg A σ) (hr0 : A r0) (hf : f_X8_findInt_j38 σ r0 = some x) : Sm A σ x ∧ Reg A x := by
  have hm := Sm.rf (A := A) (σ := σ)
  obtain ⟨v2, e1, hf⟩ := xbd hf
  obtain ⟨v4, e3, hf⟩ := xbd hf
  by_cases q : (4 : Int32) < (v2 - v4)
  · have hf := xip q hf
    exact ⟨hm.tr (n_X8_findInt_j57 hA hr0 hr0 hf).1, (n_X8_findInt_j57 hA hr0 hr0 hf).2⟩
  · have hf := xin q hf
    exact ⟨hm.tr (n_X8_findInt_j57 hA hr0 hr0 hf).1, (n_X8_findInt_j57 hA hr0 hr0 hf).2⟩
theorem n_X8_findInt_l0 {A : Nat → Prop} {r0 : Nat} {a : XS} {x : XS} (hA : Reg A a) (hr0 : A r0) (hf : xloop (f_X8_findInt_b0 r0) a = some x) : Sm A a x ∧ Reg A x := by
  revert hA
  refine xloop_ind (P := fun a => Reg A a → Sm A a x ∧ Reg A x) (fun a y hf hc he => ?_) hf
  obtain ⟨σ, rfl⟩ : ∃ z, z = a := ⟨_, rfl⟩
  intro hA
  have hA0 : Reg A σ := hA
  have hy : (∀ a' : XS, y = .inl a' → Sm A σ a' ∧ Reg A a') ∧ (∀ b1 : XS, y = .inr b1 → Sm A σ b1 ∧ Reg A b1) := by
    have hm := Sm.rf (A := A) (σ := σ)
    obtain ⟨v2, e1, hf⟩ := xbd hf
    obtain ⟨v4, e3, hf⟩ := xbd hf
    by_cases q : v4 ≤ v2
    · have hf := xip q hf
      obtain ⟨b0, hg, e9⟩ := xmj hf
      subst e9
      have hf := hg
      refine ⟨fun a' e => xnc2 e, fun b e => ?_⟩
      have h9 := Sum.inr.inj e
      subst h9
      exact ⟨hm.tr (n_X8_findInt_j38 hA hr0 hf).1, (n_X8_findInt_j38 hA hr0 hf).2⟩
    · have hf := xin q hf
      obtain ⟨v6, e5, hf⟩ := xbd hf
      obtain ⟨_, e7, hf⟩ := xbd hf
      obtain ⟨v9, e8, hf⟩ := xbd hf
      obtain ⟨v11, e10, hf⟩ := xbd hf
      by_cases q : v11 = 0
      · have hf := xip q hf
        obtain ⟨b0, hg, e9⟩ := xmj hf
        subst e9
        have hf := hg
        refine ⟨fun a' e => xnc2 e, fun b e => ?_⟩
        have h9 := Sum.inr.inj e
        subst h9
        exact ⟨hm.tr (n_X8_findInt_j38 hA hr0 hf).1, (n_X8_findInt_j38 hA hr0 hf).2⟩
      · have hf := xin q hf
        obtain ⟨v13, e12, hf⟩ := xbd hf
        obtain ⟨σ15, e14, hf⟩ := xbd hf
        obtain ⟨hm9, hA⟩ := xpI_reg hA hr0 e14
        have hm := hm.tr hm9
        have hf := xsj hf
        subst hf
        exact ⟨fun a' e => (by have h9 := Sum.inl.inj e; subst h9; exact ⟨hm, hA⟩), fun b e => xnc1 e⟩
  cases y with
  | inl a' =>
    obtain ⟨hm, hA1⟩ := hy.1 a' rfl
    have h1 := hc a' rfl hA1
    exact ⟨hm.tr (h1).1, (h1).2⟩
  | inr b =>
    have h1 := he b rfl
    subst h1
    exact hy.2 _ rfl
theorem n_X8_findInt {A : Nat → Prop} {σ : XS} {r0 : Nat} {x : XS} (hA : Reg A σ) (hr0 : A r0) (hf : f_X8_findInt σ r0 = some x) : Sm A σ x ∧ Reg A x := by
  have hm := Sm.rf (A := A) (σ := σ)
  exact ⟨hm.tr (n_X8_findInt_l0 (a := σ) hA hr0 hf).1, (n_X8_findInt_l0 (a := σ) hA hr0 hf).2⟩
theorem n_X8_findToken_j43 {A : Nat → Prop} {σ : XS} {r0 : Nat} {x : XS} (hA : Reg A σ) (hr0 : A r0) (hf : f_X8_findToken_j43 σ r0 = some x) : Sm A σ x ∧ Reg A x := by
  have hm := Sm.rf (A := A) (σ := σ)
  obtain ⟨v2, e1, hf⟩ := xbd hf
  obtain ⟨_, e3, hf⟩ := xbd hf
  obtain ⟨v5, e4, hf⟩ := xbd hf
  obtain ⟨v7, e6, hf⟩ := xbd hf
  obtain ⟨σ9, e8, hf⟩ := xbd hf
  obtain ⟨hm9, hA⟩ := xpI_reg hA hr0 e8
  have hm := hm.tr hm9
  obtain ⟨v11, e10, hf⟩ := xbd hf
  obtain ⟨v13, e12, hf⟩ := xbd hf
  by_cases q : v11 < v13
  · have hf := xip q hf
    obtain ⟨v15, e14, hf⟩ := xbd hf
    by_cases q : v15 = 0
    · have hf := xip q hf
      obtain ⟨v17, e16, hf⟩ := xbd hf
      by_cases q : v17 = 0
      · have hf := xip q hf
        by_cases q : v5 = (45 : Int32)
        · have hf := xip q hf
          obtain ⟨σ19, e18, hf⟩ := xbd hf
          obtain ⟨hm9, hA⟩ := xpI_reg hA hr0 e18
          have hm := hm.tr hm9
          have hf := xsj hf
          subst hf
          exact ⟨hm, hA⟩
        · have hf := xin q hf
          by_cases q : v5 = (59 : Int32)
          · have hf := xip q hf
            obtain ⟨σ19, e18, hf⟩ := xbd hf
            obtain ⟨hm9, hA⟩ := xpI_reg hA hr0 e18
            have hm := hm.tr hm9
            have hf := xsj hf
            subst hf
            exact ⟨hm, hA⟩
          · have hf := xin q hf
            obtain ⟨σ19, e18, hf⟩ := xbd hf
            obtain ⟨hm9, hA⟩ := xpI_reg hA hr0 e18
            have hm := hm.tr hm9
            have hf := xsj hf
            subst hf
            exact ⟨hm, hA⟩
      · have hf := xin q hf
        obtain ⟨_, e18, hf⟩ := xbd hf
        obtain ⟨σ20, e19, hf⟩ := xbd hf
        obtain ⟨hm9, hA⟩ := n_X8_findInt hA hr0 e19
        have hm := hm.tr hm9
        have hf := xsj hf
        subst hf
        exact ⟨hm, hA⟩
    · have hf := xin q hf
      obtain ⟨_, e16, hf⟩ := xbd hf
      obtain ⟨σ18, e17, hf⟩ := xbd hf
      obtain ⟨hm9, hA⟩ := n_X8_skipLetters hA hr0 e17
      have hm := hm.tr hm9
      obtain ⟨_, e19, hf⟩ := xbd hf
      obtain ⟨v21, e20, hf⟩ := xbd hf
      obtain ⟨σ23, e22, hf⟩ := xbd hf
      obtain ⟨hm9, hA⟩ := xpI_reg hA hr0 e22
      have hm := hm.tr hm9
      have hf := xsj hf
      subst hf
      exact ⟨hm, hA⟩
  · have hf := xin q hf
    obtain ⟨v15, e14, hf⟩ := xbd hf
    obtain ⟨σ17, e16, hf⟩ := xbd hf
    obtain ⟨hm9, hA⟩ := xpI_reg hA hr0 e16
    have hm := hm.tr hm9
    obtain ⟨σ19, e18, hf⟩ := xbd hf
    obtain ⟨hm9, hA⟩ := xpI_reg hA hr0 e18
    have hm := hm.tr hm9
    have hf := xsj hf
    subst hf
    exact ⟨hm, hA⟩
theorem n_X8_findToken_l5 {A : Nat → Prop} {r0 : Nat} {a : XS} {x : XS} (hA : Reg A a) (hr0 : A r0) (hf : xloop (f_X8_findToken_b5 r0) a = some x) : Sm A a x ∧ Reg A x := by
  revert hA
  refine xloop_ind (P := fun a => Reg A a → Sm A a x ∧ Reg A x) (fun a y hf hc he => ?_) hf
  obtain ⟨σ, rfl⟩ : ∃ z, z = a := ⟨_, rfl⟩
  intro hA
  have hA0 : Reg A σ := hA
  have hy : (∀ a' : XS, y = .inl a' → Sm A σ a' ∧ Reg A a') ∧ (∀ b1 : XS, y = .inr b1 → Sm A σ b1 ∧ Reg A b1) := by
    have hm := Sm.rf (A := A) (σ := σ)
    obtain ⟨v2, e1, hf⟩ := xbd hf
    obtain ⟨v4, e3, hf⟩ := xbd hf
    by_cases q : v4 ≤ v2
    · have hf := xip q hf
      obtain ⟨b0, hg, e9⟩ := xmj hf
      subst e9
      have hf := hg
      refine ⟨fun a' e => xnc2 e, fun b e => ?_⟩
      have h9 := Sum.inr.inj e
      subst h9
      exact ⟨hm.tr (n_X8_findToken_j43 hA hr0 hf).1, (n_X8_findToken_j43 hA hr0 hf).2⟩
    · have hf := xin q hf
      obtain ⟨v6, e5, hf⟩ := xbd hf
      obtain ⟨_, e7, hf⟩ := xbd hf
      obtain ⟨v9, e8, hf⟩ := xbd hf
      obtain ⟨v11, e10, hf⟩ := xbd hf
      by_cases q : v11 = 0
      · have hf := xip q hf
        obtain ⟨b0, hg, e9⟩ := xmj hf
        subst e9
        have hf := hg
        refine ⟨fun a' e => xnc2 e, fun b e => ?_⟩
        have h9 := Sum.inr.inj e
        subst h9
        exact ⟨hm.tr (n_X8_findToken_j43 hA hr0 hf).1, (n_X8_findToken_j43 hA hr0 hf).2⟩
      · have hf := xin q hf
        obtain ⟨v13, e12, hf⟩ := xbd hf
        obtain ⟨σ15, e14, hf⟩ := xbd hf
        obtain ⟨hm9, hA⟩ := xpI_reg hA hr0 e14
        have hm := hm.tr hm9
        have hf := xsj hf
        subst hf
        exact ⟨fun a' e => (by have h9 := Sum.inl.inj e; subst h9; exact ⟨hm, hA⟩), fun b e => xnc1 e⟩
  cases y with
  | inl a' =>
    obtain ⟨hm, hA1⟩ := hy.1 a' rfl
    have h1 := hc a' rfl hA1
    exact ⟨hm.tr (h1).1, (h1).2⟩
  | inr b =>
    have h1 := he b rfl
    subst h1
    exact hy.2 _ rfl
theorem n_X8_findToken {A : Nat → Prop} {σ : XS} {r0 : Nat} {x1 : Int32} {x : XS} (hA : Reg A σ) (hr0 : A r0) (hf : f_X8_findToken σ r0 x1 = some x) : Sm A σ x ∧ Reg A x := by
  have hm := Sm.rf (A := A) (σ := σ)
  obtain ⟨σ2, e1, hf⟩ := xbd hf
  obtain ⟨hm9, hA⟩ := xpI_reg hA hr0 e1
  have hm := hm.tr hm9
  exact ⟨hm.tr (n_X8_findToken_l5 (a := σ2) hA hr0 hf).1, (n_X8_findToken_l5 (a := σ2) hA hr0 hf).2⟩
theorem n_X8_keepToken {A : Nat → Prop} {σ : XS} {r0 : Nat} {x : XS} (hA : Reg A σ) (hr0 : A r0) (hf : f_X8_keepToken σ r0 = some x) : Sm A σ x ∧ Reg A x := by
  have hm := Sm.rf (A := A) (σ := σ)
  obtain ⟨v2, e1, hf⟩ := xbd hf
  by_cases q : v2 < 0
  · have hf := xip q hf
    have hf := xsj hf
    subst hf
    exact ⟨hm, hA⟩
  · have hf := xin q hf
    obtain ⟨v4, e3, hf⟩ := xbd hf
    by_cases q : (400 : Int32) ≤ v4
    · have hf := xip q hf
      have hf := xsj hf
      subst hf
      exact ⟨hm, hA⟩
    · have hf := xin q hf
      obtain ⟨z6, e5, hf⟩ := xbd hf
      have hz6 := xgR_reg rfl hA hr0 e5
      obtain ⟨v8, e7, hf⟩ := xbd hf
      obtain ⟨v10, e9, hf⟩ := xbd hf
      obtain ⟨σ12, e11, hf⟩ := xbd hf
      obtain ⟨hm9, hA⟩ := xsI_reg hA hz6 e11
      have hm := hm.tr hm9
      obtain ⟨z14, e13, hf⟩ := xbd hf
      have hz14 := xgR_reg rfl hA hr0 e13
      obtain ⟨v16, e15, hf⟩ := xbd hf
      obtain ⟨v18, e17, hf⟩ := xbd hf
      obtain ⟨σ20, e19, hf⟩ := xbd hf
      obtain ⟨hm9, hA⟩ := xsI_reg hA hz14 e19
      have hm := hm.tr hm9
      obtain ⟨z22, e21, hf⟩ := xbd hf
      have hz22 := xgR_reg rfl hA hr0 e21
      obtain ⟨v24, e23, hf⟩ := xbd hf
      obtain ⟨v26, e25, hf⟩ := xbd hf
      obtain ⟨σ28, e27, hf⟩ := xbd hf
      obtain ⟨hm9, hA⟩ := xsI_reg hA hz22 e27
      have hm := hm.tr hm9
      obtain ⟨v30, e29, hf⟩ := xbd hf
      obtain ⟨σ32, e31, hf⟩ := xbd hf
      obtain ⟨hm9, hA⟩ := xpI_reg hA hr0 e31
      have hm := hm.tr hm9
      have hf := xsj hf
      subst hf
      exact ⟨hm, hA⟩
theorem n_X8_cut_l14 {A : Nat → Prop} {r0 : Nat} {a : Int32 × Int32 × XS} {x : Int32 × XS} (hA : Reg A a.2.2) (hr0 : A r0) (hf : xloop (f_X8_cut_b14 r0) a = some x) : Sm A a.2.2 x.2 ∧ Reg A x.2 := by
  revert hA
  refine xloop_ind (P := fun a => Reg A a.2.2 → Sm A a.2.2 x.2 ∧ Reg A x.2) (fun a y hf hc he => ?_) hf
  obtain ⟨x1, x2, σ⟩ := a
  intro hA
  have hA0 : Reg A σ := hA
  have hy : (∀ a' : Int32 × Int32 × XS, y = .inl a' → Sm A σ a'.2.2 ∧ Reg A a'.2.2) ∧ (∀ b1 : Int32 × XS, y = .inr b1 → Sm A σ b1.2 ∧ Reg A b1.2) := by
    have hm := Sm.rf (A := A) (σ := σ)
    by_cases q : (400 : Int32) < x2
    · have hf := xip q hf
      obtain ⟨b0, hg, e9⟩ := xmj hf
      subst e9
      have hf := hg
      refine ⟨fun a' e => xnc2 e, fun b e => ?_⟩
      have h9 := Sum.inr.inj e
      subst h9
      have hf := xsj hf
      subst hf
      exact ⟨hm, hA⟩
    · have hf := xin q hf
      obtain ⟨v2, e1, hf⟩ := xbd hf
      obtain ⟨_, e3, hf⟩ := xbd hf
      obtain ⟨σ5, e4, hf⟩ := xbd hf
      obtain ⟨hm9, hA⟩ := n_X8_findToken hA hr0 e4
      have hm := hm.tr hm9
      obtain ⟨v7, e6, hf⟩ := xbd hf
      by_cases q : v7 = 0
      · have hf := xip q hf
        obtain ⟨b0, hg, e9⟩ := xmj hf
        subst e9
        have hf := hg
        refine ⟨fun a' e => xnc2 e, fun b e => ?_⟩
        have h9 := Sum.inr.inj e
        subst h9
        by_cases q : x1 = (4 : Int32)
        · have hf := xip q hf
          have hf := xsj hf
          subst hf
          exact ⟨hm, hA⟩
        · have hf := xin q hf
          have hf := xsj hf
          subst hf
          exact ⟨hm, hA⟩
      · have hf := xin q hf
        obtain ⟨v9, e8, hf⟩ := xbd hf
        obtain ⟨v11, e10, hf⟩ := xbd hf
        by_cases q : v11 = (-1 : Int32)
        · have hf := xip q hf
          obtain ⟨b0, hg, e9⟩ := xmj hf
          subst e9
          have hf := hg
          refine ⟨fun a' e => xnc2 e, fun b e => ?_⟩
          have h9 := Sum.inr.inj e
          subst h9
          have hf := xsj hf
          subst hf
          exact ⟨hm, hA⟩
        · have hf := xin q hf
          obtain ⟨_, e12, hf⟩ := xbd hf
          obtain ⟨σ14, e13, hf⟩ := xbd hf
          obtain ⟨hm9, hA⟩ := n_X8_keepToken hA hr0 e13
          have hm := hm.tr hm9
          have hf := xsj hf
          subst hf
          exact ⟨fun a' e => (by have h9 := Sum.inl.inj e; subst h9; exact ⟨hm, hA⟩), fun b e => xnc1 e⟩
  cases y with
  | inl a' =>
    obtain ⟨hm, hA1⟩ := hy.1 a' rfl
    have h1 := hc a' rfl hA1
    exact ⟨hm.tr (h1).1, (h1).2⟩
  | inr b =>
    have h1 := he b rfl
    subst h1
    exact hy.2 _ rfl
theorem n_X8_cut {A : Nat → Prop} {σ : XS} {r0 : Nat} {x : Int32 × XS} (hA : Reg A σ) (hr0 : A r0) (hf : f_X8_cut σ r0 = some x) : Sm A σ x.2 ∧ Reg A x.2 := by
  have hm := Sm.rf (A := A) (σ := σ)
  obtain ⟨σ2, e1, hf⟩ := xbd hf
  obtain ⟨hm9, hA⟩ := xpI_reg hA hr0 e1
  have hm := hm.tr hm9
  obtain ⟨σ4, e3, hf⟩ := xbd hf
  obtain ⟨hm9, hA⟩ := xpI_reg hA hr0 e3
  have hm := hm.tr hm9
  exact ⟨hm.tr (n_X8_cut_l14 (a := ((0 : Int32), (0 : Int32), σ4)) hA hr0 hf).1, (n_X8_cut_l14 (a := ((0 : Int32), (0 : Int32), σ4)) hA hr0 hf).2⟩
theorem n_X1_blame {A : Nat → Prop} {σ : XS} {r0 : Nat} {x1 : Int32} {x2 : Int32} {x : XS} (hA : Reg A σ) (hr0 : A r0) (hf : f_X1_blame σ r0 x1 x2 = some x) : Sm A σ x ∧ Reg A x := by
  have hm := Sm.rf (A := A) (σ := σ)
  obtain ⟨v2, e1, hf⟩ := xbd hf
  by_cases q : v2 = 0
  · have hf := xip q hf
    obtain ⟨σ4, e3, hf⟩ := xbd hf
    obtain ⟨hm9, hA⟩ := xpI_reg hA hr0 e3
    have hm := hm.tr hm9
    obtain ⟨σ6, e5, hf⟩ := xbd hf
    obtain ⟨hm9, hA⟩ := xpI_reg hA hr0 e5
    have hm := hm.tr hm9
    have hf := xsj hf
    subst hf
    exact ⟨hm, hA⟩
  · have hf := xin q hf
    have hf := xsj hf
    subst hf
    exact ⟨hm, hA⟩
theorem n_X1_takeKind {A : Nat → Prop} {σ : XS} {r0 : Nat} {x : Int32 × XS} (hA : Reg A σ) (hr0 : A r0) (hf : f_X1_takeKind σ r0 = some x) : Sm A σ x.2 ∧ Reg A x.2 := by
  have hm := Sm.rf (A := A) (σ := σ)
  obtain ⟨z2, e1, hf⟩ := xbd hf
  obtain ⟨v4, e3, hf⟩ := xbd hf
  obtain ⟨_, e5, hf⟩ := xbd hf
  obtain ⟨v7, e6, hf⟩ := xbd hf
  obtain ⟨v9, e8, hf⟩ := xbd hf
  obtain ⟨σ11, e10, hf⟩ := xbd hf
  obtain ⟨hm9, hA⟩ := xpI_reg hA hr0 e10
  have hm := hm.tr hm9
  have hf := xsj hf
  subst hf
  exact ⟨hm, hA⟩
theorem n_X1_takeInt {A : Nat → Prop} {σ : XS} {r0 : Nat} {x : Int32 × XS} (hA : Reg A σ) (hr0 : A r0) (hf : f_X1_takeInt σ r0 = some x) : Sm A σ x.2 ∧ Reg A x.2 := by
  have hm := Sm.rf (A := A) (σ := σ)
  obtain ⟨z2, e1, hf⟩ := xbd hf
  obtain ⟨v4, e3, hf⟩ := xbd hf
  obtain ⟨_, e5, hf⟩ := xbd hf
  obtain ⟨v7, e6, hf⟩ := xbd hf
  obtain ⟨v9, e8, hf⟩ := xbd hf
  obtain ⟨σ11, e10, hf⟩ := xbd hf
  obtain ⟨hm9, hA⟩ := xpI_reg hA hr0 e10
  have hm := hm.tr hm9
  have hf := xsj hf
  subst hf
  exact ⟨hm, hA⟩
theorem n_X1_takeSize_j104 {A : Nat → Prop} {σ : XS} {r0 : Nat} {x : XS} (hA : Reg A σ) (hr0 : A r0) (hf : f_X1_takeSize_j104 σ r0 = some x) : Sm A σ x ∧ Reg A x := by
  have hm := Sm.rf (A := A) (σ := σ)
  obtain ⟨_, e1, hf⟩ := xbd hf
  obtain ⟨⟨v4, σ3⟩, e2, hf⟩ := xbd hf
  dsimp only at hf
  obtain ⟨hm9, hA⟩ := n_X1_takeKind hA hr0 e2
  have hm := hm.tr hm9
  have hf := xsj hf
  subst hf
  exact ⟨hm, hA⟩
theorem n_X1_takeSize_j86 {A : Nat → Prop} {σ : XS} {r0 : Nat} {x : XS} (hA : Reg A σ) (hr0 : A r0) (hf : f_X1_takeSize_j86 σ r0 = some x) : Sm A σ x ∧ Reg A x := by
  have hm := Sm.rf (A := A) (σ := σ)
  obtain ⟨z2, e1, hf⟩ := xbd hf
  obtain ⟨v4, e3, hf⟩ := xbd hf
  obtain ⟨_, e5, hf⟩ := xbd hf
  obtain ⟨v7, e6, hf⟩ := xbd hf
  obtain ⟨_, e8, hf⟩ := xbd hf
  obtain ⟨σ10, e9, hf⟩ := xbd hf
  obtain ⟨hm9, hA⟩ := n_X1_blame hA hr0 e9
  have hm := hm.tr hm9
  exact ⟨hm.tr (n_X1_takeSize_j104 hA hr0 hf).1, (n_X1_takeSize_j104 hA hr0 hf).2⟩
theorem n_X1_takeSize_j47 {A : Nat → Prop} {σ : XS} {r0 : Nat} {x : XS} (hA : Reg A σ) (hr0 : A r0) (hf : f_X1_takeSize_j47 σ r0 = some x) : Sm A σ x ∧ Reg A x := by
  have hm := Sm.rf (A := A) (σ := σ)
  obtain ⟨_, e1, hf⟩ := xbd hf
  obtain ⟨⟨v4, σ3⟩, e2, hf⟩ := xbd hf
  dsimp only at hf
  obtain ⟨hm9, hA⟩ := n_X1_takeInt hA hr0 e2
  have hm := hm.tr hm9
  obtain ⟨σ6, e5, hf⟩ := xbd hf
  obtain ⟨hm9, hA⟩ := xpI_reg hA hr0 e5
  have hm := hm.tr hm9
  obtain ⟨v8, e7, hf⟩ := xbd hf
  by_cases q : v8 < (1 : Int32)
  · have hf := xip q hf
    exact ⟨hm.tr (n_X1_takeSize_j86 hA hr0 hf).1, (n_X1_takeSize_j86 hA hr0 hf).2⟩
  · have hf := xin q hf
    obtain ⟨v10, e9, hf⟩ := xbd hf
    by_cases q : (16 : Int32) < v10
    · have hf := xip q hf
      exact ⟨hm.tr (n_X1_takeSize_j86 hA hr0 hf).1, (n_X1_takeSize_j86 hA hr0 hf).2⟩
    · have hf := xin q hf
      obtain ⟨v12, e11, hf⟩ := xbd hf
      obtain ⟨v14, e13, hf⟩ := xbd hf
      by_cases q : (v12 * v14) ≤ (16 : Int32)
      · have hf := xip q hf
        exact ⟨hm.tr (n_X1_takeSize_j104 hA hr0 hf).1, (n_X1_takeSize_j104 hA hr0 hf).2⟩
      · have hf := xin q hf
        exact ⟨hm.tr (n_X1_takeSize_j86 hA hr0 hf).1, (n_X1_takeSize_j86 hA hr0 hf).2⟩
theorem n_X1_takeSize_j29 {A : Nat → Prop} {σ : XS} {r0 : Nat} {x : XS} (hA : Reg A σ) (hr0 : A r0) (hf : f_X1_takeSize_j29 σ r0 = some x) : Sm A σ x ∧ Reg A x := by
  have hm := Sm.rf (A := A) (σ := σ)
  obtain ⟨z2, e1, hf⟩ := xbd hf
  obtain ⟨v4, e3, hf⟩ := xbd hf
  obtain ⟨_, e5, hf⟩ := xbd hf
  obtain ⟨v7, e6, hf⟩ := xbd hf
  obtain ⟨_, e8, hf⟩ := xbd hf
  obtain ⟨σ10, e9, hf⟩ := xbd hf
  obtain ⟨hm9, hA⟩ := n_X1_blame hA hr0 e9
  have hm := hm.tr hm9
  exact ⟨hm.tr (n_X1_takeSize_j47 hA hr0 hf).1, (n_X1_takeSize_j47 hA hr0 hf).2⟩
theorem n_X1_takeSize {A : Nat → Prop} {σ : XS} {r0 : Nat} {x : XS} (hA : Reg A σ) (hr0 : A r0) (hf : f_X1_takeSize σ r0 = some x) : Sm A σ x ∧ Reg A x := by
  have hm := Sm.rf (A := A) (σ := σ)
  obtain ⟨_, e1, hf⟩ := xbd hf
  obtain ⟨⟨v4, σ3⟩, e2, hf⟩ := xbd hf
  dsimp only at hf
  obtain ⟨hm9, hA⟩ := n_X1_takeKind hA hr0 e2
  have hm := hm.tr hm9
  obtain ⟨_, e5, hf⟩ := xbd hf
  obtain ⟨⟨v8, σ7⟩, e6, hf⟩ := xbd hf
  dsimp only at hf
  obtain ⟨hm9, hA⟩ := n_X1_takeInt hA hr0 e6
  have hm := hm.tr hm9
  obtain ⟨σ10, e9, hf⟩ := xbd hf
  obtain ⟨hm9, hA⟩ := xpI_reg hA hr0 e9
  have hm := hm.tr hm9
  obtain ⟨v12, e11, hf⟩ := xbd hf
  by_cases q : v12 < (1 : Int32)
  · have hf := xip q hf
    exact ⟨hm.tr (n_X1_takeSize_j29 hA hr0 hf).1, (n_X1_takeSize_j29 hA hr0 hf).2⟩
  · have hf := xin q hf
    obtain ⟨v14, e13, hf⟩ := xbd hf
    by_cases q : v14 ≤ (4 : Int32)
    · have hf := xip q hf
      exact ⟨hm.tr (n_X1_takeSize_j47 hA hr0 hf).1, (n_X1_takeSize_j47 hA hr0 hf).2⟩
    · have hf := xin q hf
      exact ⟨hm.tr (n_X1_takeSize_j29 hA hr0 hf).1, (n_X1_takeSize_j29 hA hr0 hf).2⟩
theorem n_X1_seeRings_l5 {A : Nat → Prop} {r0 : Nat} {a : Int32 × XS} {x : XS} (hA : Reg A a.2) (hr0 : A r0) (hf : xloop (f_X1_seeRings_b5 r0) a = some x) : Sm A a.2 x ∧ Reg A x := by
  revert hA
  refine xloop_ind (P := fun a => Reg A a.2 → Sm A a.2 x ∧ Reg A x) (fun a y hf hc he => ?_) hf
  obtain ⟨x1, σ⟩ := a
  intro hA
  have hA0 : Reg A σ := hA
  have hy : (∀ a' : Int32 × XS, y = .inl a' → Sm A σ a'.2 ∧ Reg A a'.2) ∧ (∀ b1 : XS, y = .inr b1 → Sm A σ b1 ∧ Reg A b1) := by
    have hm := Sm.rf (A := A) (σ := σ)
    obtain ⟨z2, e1, hf⟩ := xbd hf
    obtain ⟨v4, e3, hf⟩ := xbd hf
    by_cases q : v4 ≤ x1
    · have hf := xip q hf
      obtain ⟨b0, hg, e9⟩ := xmj hf
      subst e9
      have hf := hg
      refine ⟨fun a' e => xnc2 e, fun b e => ?_⟩
      have h9 := Sum.inr.inj e
      subst h9
      have hf := xsj hf
      subst hf
      exact ⟨hm, hA⟩
    · have hf := xin q hf
      obtain ⟨z6, e5, hf⟩ := xbd hf
      obtain ⟨_, e7, hf⟩ := xbd hf
      obtain ⟨v9, e8, hf⟩ := xbd hf
      by_cases q : v9 = (9 : Int32)
      · have hf := xip q hf
        obtain ⟨v11, e10, hf⟩ := xbd hf
        obtain ⟨z13, e12, hf⟩ := xbd hf
        obtain ⟨_, e14, hf⟩ := xbd hf
        obtain ⟨v16, e15, hf⟩ := xbd hf
        by_cases q : v16 = (6 : Int32)
        · have hf := xip q hf
          obtain ⟨σ18, e17, hf⟩ := xbd hf
          obtain ⟨hm9, hA⟩ := xpI_reg hA hr0 e17
          have hm := hm.tr hm9
          have hf := xsj hf
          subst hf
          exact ⟨fun a' e => (by have h9 := Sum.inl.inj e; subst h9; exact ⟨hm, hA⟩), fun b e => xnc1 e⟩
        · have hf := xin q hf
          obtain ⟨σ18, e17, hf⟩ := xbd hf
          obtain ⟨hm9, hA⟩ := xpI_reg hA hr0 e17
          have hm := hm.tr hm9
          have hf := xsj hf
          subst hf
          exact ⟨fun a' e => (by have h9 := Sum.inl.inj e; subst h9; exact ⟨hm, hA⟩), fun b e => xnc1 e⟩
      · have hf := xin q hf
        have hf := xsj hf
        subst hf
        exact ⟨fun a' e => (by have h9 := Sum.inl.inj e; subst h9; exact ⟨hm, hA⟩), fun b e => xnc1 e⟩
  cases y with
  | inl a' =>
    obtain ⟨hm, hA1⟩ := hy.1 a' rfl
    have h1 := hc a' rfl hA1
    exact ⟨hm.tr (h1).1, (h1).2⟩
  | inr b =>
    have h1 := he b rfl
    subst h1
    exact hy.2 _ rfl
theorem n_X1_seeRings {A : Nat → Prop} {σ : XS} {r0 : Nat} {x : XS} (hA : Reg A σ) (hr0 : A r0) (hf : f_X1_seeRings σ r0 = some x) : Sm A σ x ∧ Reg A x := by
  have hm := Sm.rf (A := A) (σ := σ)
  obtain ⟨v2, e1, hf⟩ := xbd hf
  exact ⟨hm.tr (n_X1_seeRings_l5 (a := (v2, σ)) hA hr0 hf).1, (n_X1_seeRings_l5 (a := (v2, σ)) hA hr0 hf).2⟩
theorem n_X1_takeJ_j58 {A : Nat → Prop} {σ : XS} {x1 : Int32} {x2 : Int32} {x : Int32 × XS} (hA : Reg A σ) (hf : f_X1_takeJ_j58 σ x1 x2 = some x) : Sm A σ x.2 ∧ Reg A x.2 := by
  have hm := Sm.rf (A := A) (σ := σ)
  by_cases q : x1 = 0
  · have hf := xip q hf
    have hf := xsj hf
    subst hf
    exact ⟨hm, hA⟩
  · have hf := xin q hf
    have hf := xsj hf
    subst hf
    exact ⟨hm, hA⟩
theorem n_X1_takeJ_j30 {A : Nat → Prop} {σ : XS} {r0 : Nat} {x1 : Int32} {x : Int32 × XS} (hA : Reg A σ) (hr0 : A r0) (hf : f_X1_takeJ_j30 σ r0 x1 = some x) : Sm A σ x.2 ∧ Reg A x.2 := by
  have hm := Sm.rf (A := A) (σ := σ)
  obtain ⟨_, e1, hf⟩ := xbd hf
  obtain ⟨⟨v4, σ3⟩, e2, hf⟩ := xbd hf
  dsimp only at hf
  obtain ⟨hm9, hA⟩ := n_X1_takeInt hA hr0 e2
  have hm := hm.tr hm9
  by_cases q : v4 ≤ (3 : Int32)
  · have hf := xip q hf
    exact ⟨hm.tr (n_X1_takeJ_j58 hA hf).1, (n_X1_takeJ_j58 hA hf).2⟩
  · have hf := xin q hf
    obtain ⟨z6, e5, hf⟩ := xbd hf
    obtain ⟨v8, e7, hf⟩ := xbd hf
    obtain ⟨_, e9, hf⟩ := xbd hf
    obtain ⟨v11, e10, hf⟩ := xbd hf
    obtain ⟨_, e12, hf⟩ := xbd hf
    obtain ⟨σ14, e13, hf⟩ := xbd hf
    obtain ⟨hm9, hA⟩ := n_X1_blame hA hr0 e13
    have hm := hm.tr hm9
    exact ⟨hm.tr (n_X1_takeJ_j58 hA hf).1, (n_X1_takeJ_j58 hA hf).2⟩
theorem n_X1_takeJ_j20 {A : Nat → Prop} {σ : XS} {r0 : Nat} {t0 : Int32} {x : Int32 × XS} (hA : Reg A σ) (hr0 : A r0) (hf : f_X1_takeJ_j20 σ r0 t0 = some x) : Sm A σ x.2 ∧ Reg A x.2 := by
  have hm := Sm.rf (A := A) (σ := σ)
  by_cases q : t0 = 0
  · have hf := xip q hf
    exact ⟨hm.tr (n_X1_takeJ_j30 hA hr0 hf).1, (n_X1_takeJ_j30 hA hr0 hf).2⟩
  · have hf := xin q hf
    obtain ⟨_, e1, hf⟩ := xbd hf
    obtain ⟨⟨v4, σ3⟩, e2, hf⟩ := xbd hf
    dsimp only at hf
    obtain ⟨hm9, hA⟩ := n_X1_takeKind hA hr0 e2
    have hm := hm.tr hm9
    exact ⟨hm.tr (n_X1_takeJ_j30 hA hr0 hf).1, (n_X1_takeJ_j30 hA hr0 hf).2⟩
theorem n_X1_takeJ {A : Nat → Prop} {σ : XS} {r0 : Nat} {x : Int32 × XS} (hA : Reg A σ) (hr0 : A r0) (hf : f_X1_takeJ σ r0 = some x) : Sm A σ x.2 ∧ Reg A x.2 := by
  have hm := Sm.rf (A := A) (σ := σ)
  obtain ⟨z2, e1, hf⟩ := xbd hf
  obtain ⟨v4, e3, hf⟩ := xbd hf
  obtain ⟨_, e5, hf⟩ := xbd hf
  obtain ⟨v7, e6, hf⟩ := xbd hf
  by_cases q : v7 = (3 : Int32)
  · have hf := xip q hf
    exact ⟨hm.tr (n_X1_takeJ_j20 hA hr0 hf).1, (n_X1_takeJ_j20 hA hr0 hf).2⟩
  · have hf := xin q hf
    exact ⟨hm.tr (n_X1_takeJ_j20 hA hr0 hf).1, (n_X1_takeJ_j20 hA hr0 hf).2⟩
theorem n_X1_takeSite {A : Nat → Prop} {σ : XS} {r0 : Nat} {x : Int32 × XS} (hA : Reg A σ) (hr0 : A r0) (hf : f_X1_takeSite σ r0 = some x) : Sm A σ x.2 ∧ Reg A x.2 := by
  have hm := Sm.rf (A := A) (σ := σ)
  obtain ⟨_, e1, hf⟩ := xbd hf
  obtain ⟨⟨v4, σ3⟩, e2, hf⟩ := xbd hf
  dsimp only at hf
  obtain ⟨hm9, hA⟩ := n_X1_takeInt hA hr0 e2
  have hm := hm.tr hm9
  obtain ⟨v6, e5, hf⟩ := xbd hf
  obtain ⟨v8, e7, hf⟩ := xbd hf
  by_cases q : v4 < (v6 * v8)
  · have hf := xip q hf
    have hf := xsj hf
    subst hf
    exact ⟨hm, hA⟩
  · have hf := xin q hf
    obtain ⟨z10, e9, hf⟩ := xbd hf
    obtain ⟨v12, e11, hf⟩ := xbd hf
    obtain ⟨_, e13, hf⟩ := xbd hf
    obtain ⟨v15, e14, hf⟩ := xbd hf
    obtain ⟨_, e16, hf⟩ := xbd hf
    obtain ⟨σ18, e17, hf⟩ := xbd hf
    obtain ⟨hm9, hA⟩ := n_X1_blame hA hr0 e17
    have hm := hm.tr hm9
    have hf := xsj hf
    subst hf
    exact ⟨hm, hA⟩
theorem n_X1_takeTie_j68 {A : Nat → Prop} {σ : XS} {r0 : Nat} {x2 : Int32} {x : XS} (hA : Reg A σ) (hr0 : A r0) (hf : f_X1_takeTie_j68 σ r0 x2 = some x) : Sm A σ x ∧ Reg A x := by
  have hm := Sm.rf (A := A) (σ := σ)
  obtain ⟨_, e1, hf⟩ := xbd hf
  obtain ⟨⟨v4, σ3⟩, e2, hf⟩ := xbd hf
  dsimp only at hf
  obtain ⟨hm9, hA⟩ := n_X1_takeJ hA hr0 e2
  have hm := hm.tr hm9
  obtain ⟨v6, e5, hf⟩ := xbd hf
  by_cases q : v6 = 0
  · have hf := xip q hf
    obtain ⟨z8, e7, hf⟩ := xbd hf
    have hz8 := xgR_reg rfl hA hr0 e7
    obtain ⟨_, e9, hf⟩ := xbd hf
    obtain ⟨σ11, e10, hf⟩ := xbd hf
    obtain ⟨hm9, hA⟩ := n_X6_setBond hA hz8 e10
    have hm := hm.tr hm9
    obtain ⟨v13, e12, hf⟩ := xbd hf
    obtain ⟨σ15, e14, hf⟩ := xbd hf
    obtain ⟨hm9, hA⟩ := xpI_reg hA hr0 e14
    have hm := hm.tr hm9
    have hf := xsj hf
    subst hf
    exact ⟨hm, hA⟩
  · have hf := xin q hf
    have hf := xsj hf
    subst hf
    exact ⟨hm, hA⟩
theorem n_X1_takeTie_j22 {A : Nat → Prop} {σ : XS} {r0 : Nat} {t0 : Int32} {x : XS} (hA : Reg A σ) (hr0 : A r0) (hf : f_X1_takeTie_j22 σ r0 t0 = some x) : Sm A σ x ∧ Reg A x := by
  have hm := Sm.rf (A := A) (σ := σ)
  obtain ⟨v2, e1, hf⟩ := xbd hf
  by_cases q : v2 = 0
  · have hf := xip q hf
    obtain ⟨v4, e3, hf⟩ := xbd hf
    obtain ⟨v6, e5, hf⟩ := xbd hf
    obtain ⟨v8, e7, hf⟩ := xbd hf
    obtain ⟨v10, e9, hf⟩ := xbd hf
    by_cases q : v10 = (-1 : Int32)
    · have hf := xip q hf
      obtain ⟨z12, e11, hf⟩ := xbd hf
      obtain ⟨v14, e13, hf⟩ := xbd hf
      obtain ⟨_, e15, hf⟩ := xbd hf
      obtain ⟨v17, e16, hf⟩ := xbd hf
      obtain ⟨_, e18, hf⟩ := xbd hf
      obtain ⟨σ20, e19, hf⟩ := xbd hf
      obtain ⟨hm9, hA⟩ := n_X1_blame hA hr0 e19
      have hm := hm.tr hm9
      exact ⟨hm.tr (n_X1_takeTie_j68 hA hr0 hf).1, (n_X1_takeTie_j68 hA hr0 hf).2⟩
    · have hf := xin q hf
      exact ⟨hm.tr (n_X1_takeTie_j68 hA hr0 hf).1, (n_X1_takeTie_j68 hA hr0 hf).2⟩
  · have hf := xin q hf
    exact ⟨hm.tr (n_X1_takeTie_j68 hA hr0 hf).1, (n_X1_takeTie_j68 hA hr0 hf).2⟩
theorem n_X1_takeTie {A : Nat → Prop} {σ : XS} {r0 : Nat} {x : XS} (hA : Reg A σ) (hr0 : A r0) (hf : f_X1_takeTie σ r0 = some x) : Sm A σ x ∧ Reg A x := by
  have hm := Sm.rf (A := A) (σ := σ)
  obtain ⟨_, e1, hf⟩ := xbd hf
  obtain ⟨⟨v4, σ3⟩, e2, hf⟩ := xbd hf
  dsimp only at hf
  obtain ⟨hm9, hA⟩ := n_X1_takeSite hA hr0 e2
  have hm := hm.tr hm9
  obtain ⟨_, e5, hf⟩ := xbd hf
  obtain ⟨⟨v8, σ7⟩, e6, hf⟩ := xbd hf
  dsimp only at hf
  obtain ⟨hm9, hA⟩ := n_X1_takeKind hA hr0 e6
  have hm := hm.tr hm9
  by_cases q : v8 = (7 : Int32)
  · have hf := xip q hf
    exact ⟨hm.tr (n_X1_takeTie_j22 hA hr0 hf).1, (n_X1_takeTie_j22 hA hr0 hf).2⟩
  · have hf := xin q hf
    exact ⟨hm.tr (n_X1_takeTie_j22 hA hr0 hf).1, (n_X1_takeTie_j22 hA hr0 hf).2⟩
theorem n_X1_takePull {A : Nat → Prop} {σ : XS} {r0 : Nat} {x : XS} (hA : Reg A σ) (hr0 : A r0) (hf : f_X1_takePull σ r0 = some x) : Sm A σ x ∧ Reg A x := by
  have hm := Sm.rf (A := A) (σ := σ)
  obtain ⟨_, e1, hf⟩ := xbd hf
  obtain ⟨⟨v4, σ3⟩, e2, hf⟩ := xbd hf
  dsimp only at hf
  obtain ⟨hm9, hA⟩ := n_X1_takeSite hA hr0 e2
  have hm := hm.tr hm9
  obtain ⟨_, e5, hf⟩ := xbd hf
  obtain ⟨⟨v8, σ7⟩, e6, hf⟩ := xbd hf
  dsimp only at hf
  obtain ⟨hm9, hA⟩ := n_X1_takeJ hA hr0 e6
  have hm := hm.tr hm9
  obtain ⟨v10, e9, hf⟩ := xbd hf
  by_cases q : v10 = 0
  · have hf := xip q hf
    obtain ⟨z12, e11, hf⟩ := xbd hf
    have hz12 := xgR_reg rfl hA hr0 e11
    obtain ⟨_, e13, hf⟩ := xbd hf
    obtain ⟨σ15, e14, hf⟩ := xbd hf
    obtain ⟨hm9, hA⟩ := n_X6_setField hA hz12 e14
    have hm := hm.tr hm9
    obtain ⟨v17, e16, hf⟩ := xbd hf
    obtain ⟨σ19, e18, hf⟩ := xbd hf
    obtain ⟨hm9, hA⟩ := xpI_reg hA hr0 e18
    have hm := hm.tr hm9
    have hf := xsj hf
    subst hf
    exact ⟨hm, hA⟩
  · have hf := xin q hf
    have hf := xsj hf
    subst hf
    exact ⟨hm, hA⟩
theorem n_X1_takePin_j19 {A : Nat → Prop} {σ : XS} {r0 : Nat} {x1 : Int32} {t0 : Int32} {x : XS} (hA : Reg A σ) (hr0 : A r0) (hf : f_X1_takePin_j19 σ r0 x1 t0 = some x) : Sm A σ x ∧ Reg A x := by
  have hm := Sm.rf (A := A) (σ := σ)
  obtain ⟨v2, e1, hf⟩ := xbd hf
  by_cases q : v2 = 0
  · have hf := xip q hf
    obtain ⟨z4, e3, hf⟩ := xbd hf
    have hz4 := xgR_reg rfl hA hr0 e3
    obtain ⟨_, e5, hf⟩ := xbd hf
    obtain ⟨σ7, e6, hf⟩ := xbd hf
    obtain ⟨hm9, hA⟩ := n_X6_setPin hA hz4 e6
    have hm := hm.tr hm9
    have hf := xsj hf
    subst hf
    exact ⟨hm, hA⟩
  · have hf := xin q hf
    have hf := xsj hf
    subst hf
    exact ⟨hm, hA⟩
theorem n_X1_takePin {A : Nat → Prop} {σ : XS} {r0 : Nat} {x : XS} (hA : Reg A σ) (hr0 : A r0) (hf : f_X1_takePin σ r0 = some x) : Sm A σ x ∧ Reg A x := by
  have hm := Sm.rf (A := A) (σ := σ)
  obtain ⟨_, e1, hf⟩ := xbd hf
  obtain ⟨⟨v4, σ3⟩, e2, hf⟩ := xbd hf
  dsimp only at hf
  obtain ⟨hm9, hA⟩ := n_X1_takeSite hA hr0 e2
  have hm := hm.tr hm9
  obtain ⟨_, e5, hf⟩ := xbd hf
  obtain ⟨⟨v8, σ7⟩, e6, hf⟩ := xbd hf
  dsimp only at hf
  obtain ⟨hm9, hA⟩ := n_X1_takeKind hA hr0 e6
  have hm := hm.tr hm9
  by_cases q : v8 = (13 : Int32)
  · have hf := xip q hf
    exact ⟨hm.tr (n_X1_takePin_j19 hA hr0 hf).1, (n_X1_takePin_j19 hA hr0 hf).2⟩
  · have hf := xin q hf
    exact ⟨hm.tr (n_X1_takePin_j19 hA hr0 hf).1, (n_X1_takePin_j19 hA hr0 hf).2⟩
theorem n_X1_takeTell_j133 {A : Nat → Prop} {σ : XS} {r0 : Nat} {x : XS} (hA : Reg A σ) (hr0 : A r0) (hf : f_X1_takeTell_j133 σ r0 = some x) : Sm A σ x ∧ Reg A x := by
  have hm := Sm.rf (A := A) (σ := σ)
  obtain ⟨_, e1, hf⟩ := xbd hf
  obtain ⟨⟨v4, σ3⟩, e2, hf⟩ := xbd hf
  dsimp only at hf
  obtain ⟨hm9, hA⟩ := n_X1_takeKind hA hr0 e2
  have hm := hm.tr hm9
  have hf := xsj hf
  subst hf
  exact ⟨hm, hA⟩
theorem n_X1_takeTell {A : Nat → Prop} {σ : XS} {r0 : Nat} {x : XS} (hA : Reg A σ) (hr0 : A r0) (hf : f_X1_takeTell σ r0 = some x) : Sm A σ x ∧ Reg A x := by
  have hm := Sm.rf (A := A) (σ := σ)
  obtain ⟨_, e1, hf⟩ := xbd hf
  obtain ⟨⟨v4, σ3⟩, e2, hf⟩ := xbd hf
  dsimp only at hf
  obtain ⟨hm9, hA⟩ := n_X1_takeKind hA hr0 e2
  have hm := hm.tr hm9
  by_cases ho : (v4).toInt < 6 ∨ 15 < (v4).toInt
  · have hf := xsw_out ho rfl hf
    obtain ⟨_, e5, hf⟩ := xbd hf
    obtain ⟨⟨v8, σ7⟩, e6, hf⟩ := xbd hf
    dsimp only at hf
    obtain ⟨hm9, hA⟩ := n_X1_takeKind hA hr0 e6
    have hm := hm.tr hm9
    exact ⟨hm.tr (n_X1_takeTell_j133 hA hr0 hf).1, (n_X1_takeTell_j133 hA hr0 hf).2⟩
  · rcases (by omega : (v4).toInt = 6 + ((0 : Nat) : Int) ∨ (v4).toInt = 6 + ((1 : Nat) : Int) ∨ (v4).toInt = 6 + ((2 : Nat) : Int) ∨ (v4).toInt = 6 + ((3 : Nat) : Int) ∨ (v4).toInt = 6 + ((4 : Nat) : Int) ∨ (v4).toInt = 6 + ((5 : Nat) : Int) ∨ (v4).toInt = 6 + ((6 : Nat) : Int) ∨ (v4).toInt = 6 + ((7 : Nat) : Int) ∨ (v4).toInt = 6 + ((8 : Nat) : Int) ∨ (v4).toInt = 6 + ((9 : Nat) : Int)) with hk1 | hk1 | hk1 | hk1 | hk1 | hk1 | hk1 | hk1 | hk1 | hk1
    · have hf := xsw_in 0 hk1 rfl hf
      obtain ⟨_, e5, hf⟩ := xbd hf
      obtain ⟨⟨v8, σ7⟩, e6, hf⟩ := xbd hf
      dsimp only at hf
      obtain ⟨hm9, hA⟩ := n_X1_takeJ hA hr0 e6
      have hm := hm.tr hm9
      obtain ⟨σ10, e9, hf⟩ := xbd hf
      obtain ⟨hm9, hA⟩ := xpI_reg hA hr0 e9
      have hm := hm.tr hm9
      exact ⟨hm.tr (n_X1_takeTell_j133 hA hr0 hf).1, (n_X1_takeTell_j133 hA hr0 hf).2⟩
    · have hf := xsw_in 1 hk1 rfl hf
      obtain ⟨_, e5, hf⟩ := xbd hf
      obtain ⟨⟨v8, σ7⟩, e6, hf⟩ := xbd hf
      dsimp only at hf
      obtain ⟨hm9, hA⟩ := n_X1_takeJ hA hr0 e6
      have hm := hm.tr hm9
      obtain ⟨σ10, e9, hf⟩ := xbd hf
      obtain ⟨hm9, hA⟩ := xpI_reg hA hr0 e9
      have hm := hm.tr hm9
      exact ⟨hm.tr (n_X1_takeTell_j133 hA hr0 hf).1, (n_X1_takeTell_j133 hA hr0 hf).2⟩
    · have hf := xsw_in 2 hk1 rfl hf
      obtain ⟨_, e5, hf⟩ := xbd hf
      obtain ⟨⟨v8, σ7⟩, e6, hf⟩ := xbd hf
      dsimp only at hf
      obtain ⟨hm9, hA⟩ := n_X1_takeJ hA hr0 e6
      have hm := hm.tr hm9
      obtain ⟨σ10, e9, hf⟩ := xbd hf
      obtain ⟨hm9, hA⟩ := xpI_reg hA hr0 e9
      have hm := hm.tr hm9
      exact ⟨hm.tr (n_X1_takeTell_j133 hA hr0 hf).1, (n_X1_takeTell_j133 hA hr0 hf).2⟩
    · have hf := xsw_in 3 hk1 rfl hf
      obtain ⟨_, e5, hf⟩ := xbd hf
      obtain ⟨⟨v8, σ7⟩, e6, hf⟩ := xbd hf
      dsimp only at hf
      obtain ⟨hm9, hA⟩ := n_X1_takeKind hA hr0 e6
      have hm := hm.tr hm9
      exact ⟨hm.tr (n_X1_takeTell_j133 hA hr0 hf).1, (n_X1_takeTell_j133 hA hr0 hf).2⟩
    · have hf := xsw_in 4 hk1 rfl hf
      obtain ⟨_, e5, hf⟩ := xbd hf
      obtain ⟨σ7, e6, hf⟩ := xbd hf
      obtain ⟨hm9, hA⟩ := n_X1_takeTie hA hr0 e6
      have hm := hm.tr hm9
      exact ⟨hm.tr (n_X1_takeTell_j133 hA hr0 hf).1, (n_X1_takeTell_j133 hA hr0 hf).2⟩
    · have hf := xsw_in 5 hk1 rfl hf
      obtain ⟨_, e5, hf⟩ := xbd hf
      obtain ⟨σ7, e6, hf⟩ := xbd hf
      obtain ⟨hm9, hA⟩ := n_X1_takePull hA hr0 e6
      have hm := hm.tr hm9
      exact ⟨hm.tr (n_X1_takeTell_j133 hA hr0 hf).1, (n_X1_takeTell_j133 hA hr0 hf).2⟩
    · have hf := xsw_in 6 hk1 rfl hf
      obtain ⟨_, e5, hf⟩ := xbd hf
      obtain ⟨σ7, e6, hf⟩ := xbd hf
      obtain ⟨hm9, hA⟩ := n_X1_takePin hA hr0 e6
      have hm := hm.tr hm9
      exact ⟨hm.tr (n_X1_takeTell_j133 hA hr0 hf).1, (n_X1_takeTell_j133 hA hr0 hf).2⟩
    · have hf := xsw_in 7 hk1 rfl hf
      obtain ⟨_, e5, hf⟩ := xbd hf
      obtain ⟨⟨v8, σ7⟩, e6, hf⟩ := xbd hf
      dsimp only at hf
      obtain ⟨hm9, hA⟩ := n_X1_takeKind hA hr0 e6
      have hm := hm.tr hm9
      exact ⟨hm.tr (n_X1_takeTell_j133 hA hr0 hf).1, (n_X1_takeTell_j133 hA hr0 hf).2⟩
    · have hf := xsw_in 8 hk1 rfl hf
      obtain ⟨_, e5, hf⟩ := xbd hf
      obtain ⟨⟨v8, σ7⟩, e6, hf⟩ := xbd hf
      dsimp only at hf
      obtain ⟨hm9, hA⟩ := n_X1_takeKind hA hr0 e6
      have hm := hm.tr hm9
      exact ⟨hm.tr (n_X1_takeTell_j133 hA hr0 hf).1, (n_X1_takeTell_j133 hA hr0 hf).2⟩
    · have hf := xsw_in 9 hk1 rfl hf
      obtain ⟨z6, e5, hf⟩ := xbd hf
      have hz6 := xgR_reg rfl hA hr0 e5
      obtain ⟨_, e7, hf⟩ := xbd hf
      obtain ⟨⟨v10, σ9⟩, e8, hf⟩ := xbd hf
      dsimp only at hf
      obtain ⟨hm9, hA⟩ := n_X1_takeInt hA hr0 e8
      have hm := hm.tr hm9
      obtain ⟨σ12, e11, hf⟩ := xbd hf
      obtain ⟨hm9, hA⟩ := xpI_reg hA hz6 e11
      have hm := hm.tr hm9
      exact ⟨hm.tr (n_X1_takeTell_j133 hA hr0 hf).1, (n_X1_takeTell_j133 hA hr0 hf).2⟩
theorem n_X1_giveUntold_l79 {A : Nat → Prop} {r0 : Nat} {a : Int32 × XS} {x : XS} (hA : Reg A a.2) (hr0 : A r0) (hf : xloop (f_X1_giveUntold_b79 r0) a = some x) : Sm A a.2 x ∧ Reg A x := by
  revert hA
  refine xloop_ind (P := fun a => Reg A a.2 → Sm A a.2 x ∧ Reg A x) (fun a y hf hc he => ?_) hf
  obtain ⟨x1, σ⟩ := a
  intro hA
  have hA0 : Reg A σ := hA
  have hy : (∀ a' : Int32 × XS, y = .inl a' → Sm A σ a'.2 ∧ Reg A a'.2) ∧ (∀ b1 : XS, y = .inr b1 → Sm A σ b1 ∧ Reg A b1) := by
    have hm := Sm.rf (A := A) (σ := σ)
    obtain ⟨v2, e1, hf⟩ := xbd hf
    by_cases q : v2 = 0
    · have hf := xip q hf
      obtain ⟨v4, e3, hf⟩ := xbd hf
      obtain ⟨v6, e5, hf⟩ := xbd hf
      by_cases q : (v4 * v6) ≤ x1
      · have hf := xip q hf
        obtain ⟨b0, hg, e9⟩ := xmj hf
        subst e9
        have hf := hg
        refine ⟨fun a' e => xnc2 e, fun b e => ?_⟩
        have h9 := Sum.inr.inj e
        subst h9
        have hf := xsj hf
        subst hf
        exact ⟨hm, hA⟩
      · have hf := xin q hf
        obtain ⟨v8, e7, hf⟩ := xbd hf
        obtain ⟨v10, e9, hf⟩ := xbd hf
        by_cases q : v10 = 0
        · have hf := xip q hf
          obtain ⟨z12, e11, hf⟩ := xbd hf
          have hz12 := xgR_reg rfl hA hr0 e11
          obtain ⟨v14, e13, hf⟩ := xbd hf
          obtain ⟨_, e15, hf⟩ := xbd hf
          obtain ⟨σ17, e16, hf⟩ := xbd hf
          obtain ⟨hm9, hA⟩ := n_X6_setField hA hz12 e16
          have hm := hm.tr hm9
          have hf := xsj hf
          subst hf
          exact ⟨fun a' e => (by have h9 := Sum.inl.inj e; subst h9; exact ⟨hm, hA⟩), fun b e => xnc1 e⟩
        · have hf := xin q hf
          have hf := xsj hf
          subst hf
          exact ⟨fun a' e => (by have h9 := Sum.inl.inj e; subst h9; exact ⟨hm, hA⟩), fun b e => xnc1 e⟩
    · have hf := xin q hf
      obtain ⟨b0, hg, e9⟩ := xmj hf
      subst e9
      have hf := hg
      refine ⟨fun a' e => xnc2 e, fun b e => ?_⟩
      have h9 := Sum.inr.inj e
      subst h9
      have hf := xsj hf
      subst hf
      exact ⟨hm, hA⟩
  cases y with
  | inl a' =>
    obtain ⟨hm, hA1⟩ := hy.1 a' rfl
    have h1 := hc a' rfl hA1
    exact ⟨hm.tr (h1).1, (h1).2⟩
  | inr b =>
    have h1 := he b rfl
    subst h1
    exact hy.2 _ rfl
theorem n_X1_giveUntold_j68 {A : Nat → Prop} {σ : XS} {r0 : Nat} {x1 : Int32} {t0 : Nat} {t1 : Int32} {t2 : Int32} {x : ((Int32 × XS) ⊕ (XS))} (hA : Reg A σ) (ht0 : A t0) (hf : f_X1_giveUntold_j68 σ r0 x1 t0 t1 t2 = some x) : (∀ a' : Int32 × XS, x = .inl a' → Sm A σ a'.2 ∧ Reg A a'.2) ∧ (∀ b1 : XS, x = .inr b1 → Sm A σ b1 ∧ Reg A b1) := by
  have hm := Sm.rf (A := A) (σ := σ)
  obtain ⟨_, e1, hf⟩ := xbd hf
  obtain ⟨σ3, e2, hf⟩ := xbd hf
  obtain ⟨hm9, hA⟩ := n_X6_setBond hA ht0 e2
  have hm := hm.tr hm9
  have hf := xsj hf
  subst hf
  exact ⟨fun a' e => (by have h9 := Sum.inl.inj e; subst h9; exact ⟨hm, hA⟩), fun b e => xnc1 e⟩
theorem n_X1_giveUntold_l2 {A : Nat → Prop} {r0 : Nat} {a : Int32 × XS} {x : XS} (hA : Reg A a.2) (hr0 : A r0) (hf : xloop (f_X1_giveUntold_b2 r0) a = some x) : Sm A a.2 x ∧ Reg A x := by
  revert hA
  refine xloop_ind (P := fun a => Reg A a.2 → Sm A a.2 x ∧ Reg A x) (fun a y hf hc he => ?_) hf
  obtain ⟨x1, σ⟩ := a
  intro hA
  have hA0 : Reg A σ := hA
  have hy : (∀ a' : Int32 × XS, y = .inl a' → Sm A σ a'.2 ∧ Reg A a'.2) ∧ (∀ b1 : XS, y = .inr b1 → Sm A σ b1 ∧ Reg A b1) := by
    have hm := Sm.rf (A := A) (σ := σ)
    obtain ⟨v2, e1, hf⟩ := xbd hf
    by_cases q : v2 = 0
    · have hf := xip q hf
      by_cases q : (32 : Int32) ≤ x1
      · have hf := xip q hf
        obtain ⟨b0, hg, e9⟩ := xmj hf
        subst e9
        have hf := hg
        refine ⟨fun a' e => xnc2 e, fun b e => ?_⟩
        have h9 := Sum.inr.inj e
        subst h9
        exact ⟨hm.tr (n_X1_giveUntold_l79 (a := ((0 : Int32), σ)) hA hr0 hf).1, (n_X1_giveUntold_l79 (a := ((0 : Int32), σ)) hA hr0 hf).2⟩
      · have hf := xin q hf
        obtain ⟨v4, e3, hf⟩ := xbd hf
        obtain ⟨v6, e5, hf⟩ := xbd hf
        by_cases q : v6 = 0
        · have hf := xip q hf
          obtain ⟨v8, e7, hf⟩ := xbd hf
          obtain ⟨v10, e9, hf⟩ := xbd hf
          obtain ⟨v12, e11, hf⟩ := xbd hf
          obtain ⟨v14, e13, hf⟩ := xbd hf
          by_cases q : v14 = (-1 : Int32)
          · have hf := xip q hf
            have hf := xsj hf
            subst hf
            exact ⟨fun a' e => (by have h9 := Sum.inl.inj e; subst h9; exact ⟨hm, hA⟩), fun b e => xnc1 e⟩
          · have hf := xin q hf
            obtain ⟨z16, e15, hf⟩ := xbd hf
            have hz16 := xgR_reg rfl hA hr0 e15
            by_cases q : (16 : Int32) ≤ x1
            · have hf := xip q hf
              obtain ⟨v18, e17, hf⟩ := xbd hf
              exact ⟨fun a' e => ⟨hm.tr ((n_X1_giveUntold_j68 hA hz16 hf).1 a' e).1, ((n_X1_giveUntold_j68 hA hz16 hf).1 a' e).2⟩, fun b1 eb1 => ⟨hm.tr ((n_X1_giveUntold_j68 hA hz16 hf).2 b1 eb1).1, ((n_X1_giveUntold_j68 hA hz16 hf).2 b1 eb1).2⟩⟩
            · have hf := xin q hf
              obtain ⟨v18, e17, hf⟩ := xbd hf
              exact ⟨fun a' e => ⟨hm.tr ((n_X1_giveUntold_j68 hA hz16 hf).1 a' e).1, ((n_X1_giveUntold_j68 hA hz16 hf).1 a' e).2⟩, fun b1 eb1 => ⟨hm.tr ((n_X1_giveUntold_j68 hA hz16 hf).2 b1 eb1).1, ((n_X1_giveUntold_j68 hA hz16 hf).2 b1 eb1).2⟩⟩
        · have hf := xin q hf
          have hf := xsj hf
          subst hf
          exact ⟨fun a' e => (by have h9 := Sum.inl.inj e; subst h9; exact ⟨hm, hA⟩), fun b e => xnc1 e⟩
    · have hf := xin q hf
      obtain ⟨b0, hg, e9⟩ := xmj hf
      subst e9
      have hf := hg
      refine ⟨fun a' e => xnc2 e, fun b e => ?_⟩
      have h9 := Sum.inr.inj e
      subst h9
      exact ⟨hm.tr (n_X1_giveUntold_l79 (a := ((0 : Int32), σ)) hA hr0 hf).1, (n_X1_giveUntold_l79 (a := ((0 : Int32), σ)) hA hr0 hf).2⟩
  cases y with
  | inl a' =>
    obtain ⟨hm, hA1⟩ := hy.1 a' rfl
    have h1 := hc a' rfl hA1
    exact ⟨hm.tr (h1).1, (h1).2⟩
  | inr b =>
    have h1 := he b rfl
    subst h1
    exact hy.2 _ rfl
theorem n_X1_giveUntold {A : Nat → Prop} {σ : XS} {r0 : Nat} {x : XS} (hA : Reg A σ) (hr0 : A r0) (hf : f_X1_giveUntold σ r0 = some x) : Sm A σ x ∧ Reg A x := by
  have hm := Sm.rf (A := A) (σ := σ)
  exact ⟨hm.tr (n_X1_giveUntold_l2 (a := ((0 : Int32), σ)) hA hr0 hf).1, (n_X1_giveUntold_l2 (a := ((0 : Int32), σ)) hA hr0 hf).2⟩
theorem n_X1_build_j77 {A : Nat → Prop} {σ : XS} {r0 : Nat} {x : XS} (hA : Reg A σ) (hr0 : A r0) (hf : f_X1_build_j77 σ r0 = some x) : Sm A σ x ∧ Reg A x := by
  have hm := Sm.rf (A := A) (σ := σ)
  obtain ⟨_, e1, hf⟩ := xbd hf
  obtain ⟨σ3, e2, hf⟩ := xbd hf
  obtain ⟨hm9, hA⟩ := n_X1_giveUntold hA hr0 e2
  have hm := hm.tr hm9
  have hf := xsj hf
  subst hf
  exact ⟨hm, hA⟩
theorem n_X1_build_l39 {A : Nat → Prop} {r0 : Nat} {a : Int32 × XS} {x : XS} (hA : Reg A a.2) (hr0 : A r0) (hf : xloop (f_X1_build_b39 r0) a = some x) : Sm A a.2 x ∧ Reg A x := by
  revert hA
  refine xloop_ind (P := fun a => Reg A a.2 → Sm A a.2 x ∧ Reg A x) (fun a y hf hc he => ?_) hf
  obtain ⟨x2, σ⟩ := a
  intro hA
  have hA0 : Reg A σ := hA
  have hy : (∀ a' : Int32 × XS, y = .inl a' → Sm A σ a'.2 ∧ Reg A a'.2) ∧ (∀ b1 : XS, y = .inr b1 → Sm A σ b1 ∧ Reg A b1) := by
    have hm := Sm.rf (A := A) (σ := σ)
    by_cases q : (400 : Int32) ≤ x2
    · have hf := xip q hf
      obtain ⟨b0, hg, e9⟩ := xmj hf
      subst e9
      have hf := hg
      refine ⟨fun a' e => xnc2 e, fun b e => ?_⟩
      have h9 := Sum.inr.inj e
      subst h9
      exact ⟨hm.tr (n_X1_build_j77 hA hr0 hf).1, (n_X1_build_j77 hA hr0 hf).2⟩
    · have hf := xin q hf
      obtain ⟨v2, e1, hf⟩ := xbd hf
      by_cases q : v2 = 0
      · have hf := xip q hf
        obtain ⟨v4, e3, hf⟩ := xbd hf
        obtain ⟨z6, e5, hf⟩ := xbd hf
        obtain ⟨v8, e7, hf⟩ := xbd hf
        by_cases q : v8 ≤ v4
        · have hf := xip q hf
          obtain ⟨b0, hg, e9⟩ := xmj hf
          subst e9
          have hf := hg
          refine ⟨fun a' e => xnc2 e, fun b e => ?_⟩
          have h9 := Sum.inr.inj e
          subst h9
          exact ⟨hm.tr (n_X1_build_j77 hA hr0 hf).1, (n_X1_build_j77 hA hr0 hf).2⟩
        · have hf := xin q hf
          obtain ⟨_, e9, hf⟩ := xbd hf
          obtain ⟨σ11, e10, hf⟩ := xbd hf
          obtain ⟨hm9, hA⟩ := n_X1_takeTell hA hr0 e10
          have hm := hm.tr hm9
          have hf := xsj hf
          subst hf
          exact ⟨fun a' e => (by have h9 := Sum.inl.inj e; subst h9; exact ⟨hm, hA⟩), fun b e => xnc1 e⟩
      · have hf := xin q hf
        obtain ⟨b0, hg, e9⟩ := xmj hf
        subst e9
        have hf := hg
        refine ⟨fun a' e => xnc2 e, fun b e => ?_⟩
        have h9 := Sum.inr.inj e
        subst h9
        exact ⟨hm.tr (n_X1_build_j77 hA hr0 hf).1, (n_X1_build_j77 hA hr0 hf).2⟩
  cases y with
  | inl a' =>
    obtain ⟨hm, hA1⟩ := hy.1 a' rfl
    have h1 := hc a' rfl hA1
    exact ⟨hm.tr (h1).1, (h1).2⟩
  | inr b =>
    have h1 := he b rfl
    subst h1
    exact hy.2 _ rfl
theorem n_X1_build {A : Nat → Prop} {σ : XS} {r0 : Nat} {x : XS} (hA : Reg A σ) (hr0 : A r0) (hf : f_X1_build σ r0 = some x) : Sm A σ x ∧ Reg A x := by
  have hm := Sm.rf (A := A) (σ := σ)
  obtain ⟨_, e1, hf⟩ := xbd hf
  obtain ⟨σ3, e2, hf⟩ := xbd hf
  obtain ⟨hm9, hA⟩ := n_X1_begin hA hr0 e2
  have hm := hm.tr hm9
  obtain ⟨z5, e4, hf⟩ := xbd hf
  have hz5 := xgR_reg rfl hA hr0 e4
  obtain ⟨_, e6, hf⟩ := xbd hf
  obtain ⟨⟨v9, σ8⟩, e7, hf⟩ := xbd hf
  dsimp only at hf
  obtain ⟨hm9, hA⟩ := n_X8_cut hA hz5 e7
  have hm := hm.tr hm9
  by_cases q : v9 = 0
  · have hf := xip q hf
    obtain ⟨_, e10, hf⟩ := xbd hf
    obtain ⟨σ12, e11, hf⟩ := xbd hf
    obtain ⟨hm9, hA⟩ := n_X1_takeSize hA hr0 e11
    have hm := hm.tr hm9
    obtain ⟨_, e13, hf⟩ := xbd hf
    obtain ⟨σ15, e14, hf⟩ := xbd hf
    obtain ⟨hm9, hA⟩ := n_X1_seeRings hA hr0 e14
    have hm := hm.tr hm9
    exact ⟨hm.tr (n_X1_build_l39 (a := ((0 : Int32), σ15)) hA hr0 hf).1, (n_X1_build_l39 (a := ((0 : Int32), σ15)) hA hr0 hf).2⟩
  · have hf := xin q hf
    obtain ⟨z11, e10, hf⟩ := xbd hf
    obtain ⟨v13, e12, hf⟩ := xbd hf
    obtain ⟨_, e14, hf⟩ := xbd hf
    obtain ⟨σ16, e15, hf⟩ := xbd hf
    obtain ⟨hm9, hA⟩ := n_X1_blame hA hr0 e15
    have hm := hm.tr hm9
    have hf := xsj hf
    subst hf
    exact ⟨hm, hA⟩
theorem n_X11_read {A : Nat → Prop} {σ : XS} {r0 : Nat} {x : Int32 × XS} (hA : Reg A σ) (hr0 : A r0) (hf : f_X11_read σ r0 = some x) : Sm A σ x.2 ∧ Reg A x.2 := by
  have hm := Sm.rf (A := A) (σ := σ)
  obtain ⟨z2, e1, hf⟩ := xbd hf
  have hz2 := xgR_reg rfl hA hr0 e1
  obtain ⟨_, e3, hf⟩ := xbd hf
  obtain ⟨σ5, e4, hf⟩ := xbd hf
  obtain ⟨hm9, hA⟩ := n_X1_build hA hz2 e4
  have hm := hm.tr hm9
  obtain ⟨z7, e6, hf⟩ := xbd hf
  have hz7 := xgR_reg rfl hA hr0 e6
  obtain ⟨σ9, e8, hf⟩ := xbd hf
  obtain ⟨hm9, hA⟩ := xpI_reg hA hz7 e8
  have hm := hm.tr hm9
  obtain ⟨z11, e10, hf⟩ := xbd hf
  obtain ⟨v13, e12, hf⟩ := xbd hf
  obtain ⟨σ15, e14, hf⟩ := xbd hf
  obtain ⟨hm9, hA⟩ := xpI_reg hA hr0 e14
  have hm := hm.tr hm9
  obtain ⟨z17, e16, hf⟩ := xbd hf
  obtain ⟨v19, e18, hf⟩ := xbd hf
  by_cases q : v19 = 0
  · have hf := xip q hf
    obtain ⟨_, e20, hf⟩ := xbd hf
    obtain ⟨σ22, e21, hf⟩ := xbd hf
    obtain ⟨hm9, hA⟩ := n_X11_beginAnew hA hr0 e21
    have hm := hm.tr hm9
    obtain ⟨z24, e23, hf⟩ := xbd hf
    obtain ⟨v26, e25, hf⟩ := xbd hf
    have hf := xsj hf
    subst hf
    exact ⟨hm, hA⟩
  · have hf := xin q hf
    obtain ⟨z21, e20, hf⟩ := xbd hf
    obtain ⟨v23, e22, hf⟩ := xbd hf
    have hf := xsj hf
    subst hf
    exact ⟨hm, hA⟩
theorem n_X11_restore {A : Nat → Prop} {σ : XS} {r0 : Nat} {x1 : Int32} {x : Int32 × XS} (hA : Reg A σ) (hr0 : A r0) (hf : f_X11_restore σ r0 x1 = some x) : Sm A σ x.2 ∧ Reg A x.2 := by
  have hm := Sm.rf (A := A) (σ := σ)
  obtain ⟨_, e1, hf⟩ := xbd hf
  obtain ⟨z3, e2, hf⟩ := xbd hf
  by_cases q : z3 = 0
  · have hf := xip q hf
    have hf := xsj hf
    subst hf
    exact ⟨hm, hA⟩
  · have hf := xin q hf
    have hz3 := (n_X11_slotAt hA hr0 e2 q)
    obtain ⟨v5, e4, hf⟩ := xbd hf
    by_cases q : v5 = 0
    · have hf := xip q hf
      have hf := xsj hf
      subst hf
      exact ⟨hm, hA⟩
    · have hf := xin q hf
      obtain ⟨z7, e6, hf⟩ := xbd hf
      have hz7 := xgR_reg rfl hA hr0 e6
      obtain ⟨z9, e8, hf⟩ := xbd hf
      obtain ⟨_, e10, hf⟩ := xbd hf
      obtain ⟨σ12, e11, hf⟩ := xbd hf
      obtain ⟨hm9, hA⟩ := n_X6_copyFrom hA hz7 e11
      have hm := hm.tr hm9
      obtain ⟨z14, e13, hf⟩ := xbd hf
      have hz14 := xgR_reg rfl hA hr0 e13
      obtain ⟨_, e15, hf⟩ := xbd hf
      obtain ⟨σ17, e16, hf⟩ := xbd hf
      obtain ⟨hm9, hA⟩ := n_X5_forget hA hz14 e16
      have hm := hm.tr hm9
      have hf := xsj hf
      subst hf
      exact ⟨hm, hA⟩
theorem n_X11_rows_l90 {A : Nat → Prop} {σ : XS} {r0 : Nat} {x3 : Int32} {r4 : Nat} {x6 : Int32} {x8 : Int32} {a : Int32 × Int32} {x : Int32 × XS} (hA : RegN A σ) (hf : xloop (f_X11_rows_b90 σ r0 x3 r4 x6 x8) a = some x) : Sm A σ x.2 ∧ RegN A x.2 := by
  revert hA
  refine xloop_ind (P := fun a => RegN A σ → Sm A σ x.2 ∧ RegN A x.2) (fun a y hf hc he => ?_) hf
  obtain ⟨x9, x10⟩ := a
  intro hA
  have hA0 : RegN A σ := hA
  have hy : (∀ a' : Int32 × Int32, y = .inl a' → True) ∧ (∀ b1 : Int32 × XS, y = .inr b1 → Sm A σ b1.2 ∧ RegN A b1.2) := by
    have hm := Sm.rf (A := A) (σ := σ)
    by_cases q : x8 ≤ x10
    · have hf := xip q hf
      obtain ⟨b0, hg, e9⟩ := xmj hf
      subst e9
      have hf := hg
      refine ⟨fun a' e => xnc2 e, fun b e => ?_⟩
      have h9 := Sum.inr.inj e
      subst h9
      have hf := xsj hf
      subst hf
      exact ⟨hm, hA⟩
    · have hf := xin q hf
      obtain ⟨z2, e1, hf⟩ := xbd hf
      obtain ⟨v4, e3, hf⟩ := xbd hf
      obtain ⟨z6, e5, hf⟩ := xbd hf
      obtain ⟨v8, e7, hf⟩ := xbd hf
      by_cases q : (x10 &&& v4) = (v8 &&& x6)
      · have hf := xip q hf
        obtain ⟨_, e9, hf⟩ := xbd hf
        obtain ⟨v11, e10, hf⟩ := xbd hf
        by_cases q : v11 = x3
        · have hf := xip q hf
          have hf := xsj hf
          subst hf
          exact ⟨fun a' e => (by have h9 := Sum.inl.inj e; subst h9; exact trivial), fun b e => xnc1 e⟩
        · have hf := xin q hf
          have hf := xsj hf
          subst hf
          exact ⟨fun a' e => (by have h9 := Sum.inl.inj e; subst h9; exact trivial), fun b e => xnc1 e⟩
      · have hf := xin q hf
        have hf := xsj hf
        subst hf
        exact ⟨fun a' e => (by have h9 := Sum.inl.inj e; subst h9; exact trivial), fun b e => xnc1 e⟩
  cases y with
  | inl a' =>
    exact hc a' rfl hA0
  | inr b =>
    have h1 := he b rfl
    subst h1
    exact hy.2 _ rfl
theorem n_X11_rows_j39 {A : Nat → Prop} {σ : XS} {r0 : Nat} {x1 : Int32} {x2 : Int32} {x3 : Int32} {t0 : Nat} {x : Int32 × XS} (hA : RegN A σ) (hf : f_X11_rows_j39 σ r0 x1 x2 x3 t0 = some x) : Sm A σ x.2 ∧ RegN A x.2 := by
  have hm := Sm.rf (A := A) (σ := σ)
  obtain ⟨z2, e1, hf⟩ := xbd hf
  obtain ⟨v4, e3, hf⟩ := xbd hf
  obtain ⟨z6, e5, hf⟩ := xbd hf
  obtain ⟨v8, e7, hf⟩ := xbd hf
  exact ⟨hm.tr (n_X11_rows_l90 (a := ((0 : Int32), x2 <<< ((x1 * v4) &&& 31))) hA hf).1, (n_X11_rows_l90 (a := ((0 : Int32), x2 <<< ((x1 * v4) &&& 31))) hA hf).2⟩
theorem n_X11_rows {A : Nat → Prop} {σ : XS} {r0 : Nat} {x1 : Int32} {x2 : Int32} {x3 : Int32} {x : Int32 × XS} (hA : RegN A σ) (hr0 : A r0) (hf : f_X11_rows σ r0 x1 x2 x3 = some x) : Sm A σ x.2 ∧ RegN A x.2 := by
  have hm := Sm.rf (A := A) (σ := σ)
  by_cases q : x1 < 0
  · have hf := xip q hf
    have hf := xsj hf
    subst hf
    exact ⟨hm, hA⟩
  · have hf := xin q hf
    obtain ⟨z2, e1, hf⟩ := xbd hf
    obtain ⟨v4, e3, hf⟩ := xbd hf
    by_cases q : v4 ≤ x1
    · have hf := xip q hf
      have hf := xsj hf
      subst hf
      exact ⟨hm, hA⟩
    · have hf := xin q hf
      by_cases q : x2 < 0
      · have hf := xip q hf
        have hf := xsj hf
        subst hf
        exact ⟨hm, hA⟩
      · have hf := xin q hf
        obtain ⟨z6, e5, hf⟩ := xbd hf
        obtain ⟨v8, e7, hf⟩ := xbd hf
        by_cases q : x2 < ((1 : Int32) <<< (v8 &&& 31))
        · have hf := xip q hf
          obtain ⟨_, e9, hf⟩ := xbd hf
          obtain ⟨⟨z12, σ11⟩, e10, hf⟩ := xbd hf
          dsimp only at hf
          obtain ⟨hm9, hA, hz120⟩ := n_X11_energiesOfRows hA hr0 e10
          have hm := hm.tr hm9
          obtain ⟨_, e13, hf⟩ := xbd hf
          have hz12 := hz120 (xnz_spec e13)
          exact ⟨hm.tr (n_X11_rows_j39 hA hf).1, (n_X11_rows_j39 hA hf).2⟩
        · have hf := xin q hf
          have hf := xsj hf
          subst hf
          exact ⟨hm, hA⟩
theorem n_X11_state_j152 {A : Nat → Prop} {σ : XS} {r0 : Nat} {x1 : Int32} {t0 : Nat} {x : Int32 × XS} (hA : RegN A σ) (hf : f_X11_state_j152 σ r0 x1 t0 = some x) : Sm A σ x.2 ∧ RegN A x.2 := by
  have hm := Sm.rf (A := A) (σ := σ)
  obtain ⟨z2, e1, hf⟩ := xbd hf
  obtain ⟨z4, e3, hf⟩ := xbd hf
  obtain ⟨_, e5, hf⟩ := xbd hf
  obtain ⟨v7, e6, hf⟩ := xbd hf
  obtain ⟨_, e8, hf⟩ := xbd hf
  obtain ⟨v10, e9, hf⟩ := xbd hf
  have hf := xsj hf
  subst hf
  exact ⟨hm, hA⟩
theorem n_X11_state {A : Nat → Prop} {σ : XS} {r0 : Nat} {x1 : Int32} {x2 : Int32} {x : Int32 × XS} (hA : RegN A σ) (hr0 : A r0) (hf : f_X11_state σ r0 x1 x2 = some x) : Sm A σ x.2 ∧ RegN A x.2 := by
  have hm := Sm.rf (A := A) (σ := σ)
  obtain ⟨_, e1, hf⟩ := xbd hf
  obtain ⟨v3, e2, hf⟩ := xbd hf
  by_cases q : v3 = 0
  · have hf := xip q hf
    have hf := xsj hf
    subst hf
    exact ⟨hm, hA⟩
  · have hf := xin q hf
    by_cases ho : (x2).toInt < 0 ∨ 5 < (x2).toInt
    · have hf := xsw_out ho rfl hf
      have hf := xsj hf
      subst hf
      exact ⟨hm, hA⟩
    · rcases (by omega : (x2).toInt = 0 + ((0 : Nat) : Int) ∨ (x2).toInt = 0 + ((1 : Nat) : Int) ∨ (x2).toInt = 0 + ((2 : Nat) : Int) ∨ (x2).toInt = 0 + ((3 : Nat) : Int) ∨ (x2).toInt = 0 + ((4 : Nat) : Int) ∨ (x2).toInt = 0 + ((5 : Nat) : Int)) with hk1 | hk1 | hk1 | hk1 | hk1 | hk1
      · have hf := xsw_in 0 hk1 rfl hf
        obtain ⟨z5, e4, hf⟩ := xbd hf
        have hz5 := xgR_reg rfl hA.1 hr0 e4
        obtain ⟨z7, e6, hf⟩ := xbd hf
        have hz7 := xgR_reg rfl hA.1 hr0 e6
        obtain ⟨_, e8, hf⟩ := xbd hf
        obtain ⟨v10, e9, hf⟩ := xbd hf
        have hf := xsj hf
        subst hf
        exact ⟨hm, hA⟩
      · have hf := xsw_in 1 hk1 rfl hf
        obtain ⟨z5, e4, hf⟩ := xbd hf
        have hz5 := xgR_reg rfl hA.1 hr0 e4
        obtain ⟨z7, e6, hf⟩ := xbd hf
        have hz7 := xgR_reg rfl hA.1 hr0 e6
        obtain ⟨_, e8, hf⟩ := xbd hf
        obtain ⟨v10, e9, hf⟩ := xbd hf
        have hf := xsj hf
        subst hf
        exact ⟨hm, hA⟩
      · have hf := xsw_in 2 hk1 rfl hf
        obtain ⟨z5, e4, hf⟩ := xbd hf
        have hz5 := xgR_reg rfl hA.1 hr0 e4
        obtain ⟨z7, e6, hf⟩ := xbd hf
        have hz7 := xgR_reg rfl hA.1 hr0 e6
        obtain ⟨_, e8, hf⟩ := xbd hf
        obtain ⟨v10, e9, hf⟩ := xbd hf
        by_cases q : v10 = (-1 : Int32)
        · have hf := xip q hf
          have hf := xsj hf
          subst hf
          exact ⟨hm, hA⟩
        · have hf := xin q hf
          have hf := xsj hf
          subst hf
          exact ⟨hm, hA⟩
      · have hf := xsw_in 3 hk1 rfl hf
        obtain ⟨z5, e4, hf⟩ := xbd hf
        have hz5 := xgR_reg rfl hA.1 hr0 e4
        obtain ⟨z7, e6, hf⟩ := xbd hf
        have hz7 := xgR_reg rfl hA.1 hr0 e6
        obtain ⟨z9, e8, hf⟩ := xbd hf
        obtain ⟨_, e10, hf⟩ := xbd hf
        obtain ⟨σ12, e11, hf⟩ := xbd hf
        obtain ⟨hm9, hB⟩ := n_X10_fallFrom hA.1 hz5 e11
        have hA := RegN.step hA hB (m_X10_fallFrom e11).ext
        have hm := hm.tr hm9
        obtain ⟨z14, e13, hf⟩ := xbd hf
        obtain ⟨v16, e15, hf⟩ := xbd hf
        have hf := xsj hf
        subst hf
        exact ⟨hm, hA⟩
      · have hf := xsw_in 4 hk1 rfl hf
        obtain ⟨z5, e4, hf⟩ := xbd hf
        have hz5 := xgR_reg rfl hA.1 hr0 e4
        obtain ⟨z7, e6, hf⟩ := xbd hf
        have hz7 := xgR_reg rfl hA.1 hr0 e6
        obtain ⟨z9, e8, hf⟩ := xbd hf
        obtain ⟨_, e10, hf⟩ := xbd hf
        obtain ⟨σ12, e11, hf⟩ := xbd hf
        obtain ⟨hm9, hB⟩ := n_X10_fallFrom hA.1 hz5 e11
        have hA := RegN.step hA hB (m_X10_fallFrom e11).ext
        have hm := hm.tr hm9
        obtain ⟨z14, e13, hf⟩ := xbd hf
        obtain ⟨v16, e15, hf⟩ := xbd hf
        have hf := xsj hf
        subst hf
        exact ⟨hm, hA⟩
      · have hf := xsw_in 5 hk1 rfl hf
        obtain ⟨_, e4, hf⟩ := xbd hf
        obtain ⟨⟨z7, σ6⟩, e5, hf⟩ := xbd hf
        dsimp only at hf
        obtain ⟨hm9, hA, hz70⟩ := n_X11_levelsNow hA hr0 e5
        have hm := hm.tr hm9
        obtain ⟨_, e8, hf⟩ := xbd hf
        have hz7 := hz70 (xnz_spec e8)
        exact ⟨hm.tr (n_X11_state_j152 hA hf).1, (n_X11_state_j152 hA hf).2⟩
theorem n_X11_stiff_j151 {A : Nat → Prop} {σ : XS} {x4 : Int32} {x5 : Int32} {t0 : Int32} {x : Int32 × XS} (hA : RegN A σ) (hf : f_X11_stiff_j151 σ x4 x5 t0 = some x) : Sm A σ x.2 ∧ RegN A x.2 := by
  have hm := Sm.rf (A := A) (σ := σ)
  by_cases q : t0 = 0
  · have hf := xip q hf
    have hf := xsj hf
    subst hf
    exact ⟨hm, hA⟩
  · have hf := xin q hf
    have hf := xsj hf
    subst hf
    exact ⟨hm, hA⟩
theorem n_X11_stiff_l56 {A : Nat → Prop} {σ : XS} {r0 : Nat} {x1 : Int32} {x2 : Int32} {x3 : Int32} {a : Int32 × Int32 × Int32} {x : Int32 × XS} (hA : RegN A σ) (hf : xloop (f_X11_stiff_b56 σ r0 x1 x2 x3) a = some x) : Sm A σ x.2 ∧ RegN A x.2 := by
  revert hA
  refine xloop_ind (P := fun a => RegN A σ → Sm A σ x.2 ∧ RegN A x.2) (fun a y hf hc he => ?_) hf
  obtain ⟨x4, x5, x6⟩ := a
  intro hA
  have hA0 : RegN A σ := hA
  have hy : (∀ a' : Int32 × Int32 × Int32, y = .inl a' → True) ∧ (∀ b1 : Int32 × XS, y = .inr b1 → Sm A σ b1.2 ∧ RegN A b1.2) := by
    have hm := Sm.rf (A := A) (σ := σ)
    by_cases q : x3 ≤ x6
    · have hf := xip q hf
      obtain ⟨b0, hg, e9⟩ := xmj hf
      subst e9
      have hf := hg
      refine ⟨fun a' e => xnc2 e, fun b e => ?_⟩
      have h9 := Sum.inr.inj e
      subst h9
      by_cases q : x5 = (145 : Int32)
      · have hf := xip q hf
        exact ⟨hm.tr (n_X11_stiff_j151 hA hf).1, (n_X11_stiff_j151 hA hf).2⟩
      · have hf := xin q hf
        by_cases q : x4 = (145 : Int32)
        · have hf := xip q hf
          exact ⟨hm.tr (n_X11_stiff_j151 hA hf).1, (n_X11_stiff_j151 hA hf).2⟩
        · have hf := xin q hf
          exact ⟨hm.tr (n_X11_stiff_j151 hA hf).1, (n_X11_stiff_j151 hA hf).2⟩
    · have hf := xin q hf
      obtain ⟨z2, e1, hf⟩ := xbd hf
      obtain ⟨_, e3, hf⟩ := xbd hf
      obtain ⟨v5, e4, hf⟩ := xbd hf
      by_cases q : v5 = 0
      · have hf := xip q hf
        have hf := xsj hf
        subst hf
        exact ⟨fun a' e => (by have h9 := Sum.inl.inj e; subst h9; exact trivial), fun b e => xnc1 e⟩
      · have hf := xin q hf
        obtain ⟨v7, e6, hf⟩ := xbd hf
        obtain ⟨v9, e8, hf⟩ := xbd hf
        by_cases q : v7 = v9
        · have hf := xip q hf
          obtain ⟨z11, e10, hf⟩ := xbd hf
          obtain ⟨_, e12, hf⟩ := xbd hf
          obtain ⟨v14, e13, hf⟩ := xbd hf
          have hf := xsj hf
          subst hf
          exact ⟨fun a' e => (by have h9 := Sum.inl.inj e; subst h9; exact trivial), fun b e => xnc1 e⟩
        · have hf := xin q hf
          obtain ⟨z11, e10, hf⟩ := xbd hf
          obtain ⟨_, e12, hf⟩ := xbd hf
          obtain ⟨v14, e13, hf⟩ := xbd hf
          have hf := xsj hf
          subst hf
          exact ⟨fun a' e => (by have h9 := Sum.inl.inj e; subst h9; exact trivial), fun b e => xnc1 e⟩
  cases y with
  | inl a' =>
    exact hc a' rfl hA0
  | inr b =>
    have h1 := he b rfl
    subst h1
    exact hy.2 _ rfl
theorem n_X11_stiff_j34 {A : Nat → Prop} {σ : XS} {r0 : Nat} {x1 : Int32} {x2 : Int32} {t0 : Nat} {x : Int32 × XS} (hA : RegN A σ) (hf : f_X11_stiff_j34 σ r0 x1 x2 t0 = some x) : Sm A σ x.2 ∧ RegN A x.2 := by
  have hm := Sm.rf (A := A) (σ := σ)
  obtain ⟨z2, e1, hf⟩ := xbd hf
  obtain ⟨_, e3, hf⟩ := xbd hf
  obtain ⟨v5, e4, hf⟩ := xbd hf
  exact ⟨hm.tr (n_X11_stiff_l56 (a := ((145 : Int32), (145 : Int32), (0 : Int32))) hA hf).1, (n_X11_stiff_l56 (a := ((145 : Int32), (145 : Int32), (0 : Int32))) hA hf).2⟩
theorem n_X11_stiff {A : Nat → Prop} {σ : XS} {r0 : Nat} {x1 : Int32} {x2 : Int32} {x : Int32 × XS} (hA : RegN A σ) (hr0 : A r0) (hf : f_X11_stiff σ r0 x1 x2 = some x) : Sm A σ x.2 ∧ RegN A x.2 := by
  have hm := Sm.rf (A := A) (σ := σ)
  obtain ⟨z2, e1, hf⟩ := xbd hf
  obtain ⟨_, e3, hf⟩ := xbd hf
  obtain ⟨v5, e4, hf⟩ := xbd hf
  by_cases q : v5 = 0
  · have hf := xip q hf
    have hf := xsj hf
    subst hf
    exact ⟨hm, hA⟩
  · have hf := xin q hf
    obtain ⟨z7, e6, hf⟩ := xbd hf
    obtain ⟨_, e8, hf⟩ := xbd hf
    obtain ⟨v10, e9, hf⟩ := xbd hf
    by_cases q : v10 = 0
    · have hf := xip q hf
      have hf := xsj hf
      subst hf
      exact ⟨hm, hA⟩
    · have hf := xin q hf
      by_cases q : x1 = x2
      · have hf := xip q hf
        have hf := xsj hf
        subst hf
        exact ⟨hm, hA⟩
      · have hf := xin q hf
        obtain ⟨_, e11, hf⟩ := xbd hf
        obtain ⟨⟨z14, σ13⟩, e12, hf⟩ := xbd hf
        dsimp only at hf
        obtain ⟨hm9, hA, hz140⟩ := n_X11_energiesNow hA hr0 e12
        have hm := hm.tr hm9
        obtain ⟨_, e15, hf⟩ := xbd hf
        have hz14 := hz140 (xnz_spec e15)
        exact ⟨hm.tr (n_X11_stiff_j34 hA hf).1, (n_X11_stiff_j34 hA hf).2⟩
theorem n_X11_stuck_j76 {A : Nat → Prop} {σ : XS} {r0 : Nat} {x1 : Int32} {x3 : Int32} {x4 : Int32} {x5 : Int32} {x6 : Int32} {t0 : Int32} {x : ((Int32 × Int32) ⊕ (Int32 × XS))} (hA : RegN A σ) (hf : f_X11_stuck_j76 σ r0 x1 x3 x4 x5 x6 t0 = some x) : (∀ a' : Int32 × Int32, x = .inl a' → True) ∧ (∀ b1 : Int32 × XS, x = .inr b1 → Sm A σ b1.2 ∧ RegN A b1.2) := by
  have hm := Sm.rf (A := A) (σ := σ)
  by_cases q : t0 = 0
  · have hf := xip q hf
    have hf := xsj hf
    subst hf
    exact ⟨fun a' e => (by have h9 := Sum.inl.inj e; subst h9; exact trivial), fun b e => xnc1 e⟩
  · have hf := xin q hf
    obtain ⟨z2, e1, hf⟩ := xbd hf
    obtain ⟨z4, e3, hf⟩ := xbd hf
    obtain ⟨v6, e5, hf⟩ := xbd hf
    obtain ⟨_, e7, hf⟩ := xbd hf
    obtain ⟨v9, e8, hf⟩ := xbd hf
    by_cases q : v9 = 0
    · have hf := xip q hf
      have hf := xsj hf
      subst hf
      exact ⟨fun a' e => (by have h9 := Sum.inl.inj e; subst h9; exact trivial), fun b e => xnc1 e⟩
    · have hf := xin q hf
      have hf := xsj hf
      subst hf
      exact ⟨fun a' e => (by have h9 := Sum.inl.inj e; subst h9; exact trivial), fun b e => xnc1 e⟩
theorem n_X11_stuck_l35 {A : Nat → Prop} {σ : XS} {r0 : Nat} {x1 : Int32} {x3 : Int32} {x4 : Int32} {a : Int32 × Int32} {x : Int32 × XS} (hA : RegN A σ) (hf : xloop (f_X11_stuck_b35 σ r0 x1 x3 x4) a = some x) : Sm A σ x.2 ∧ RegN A x.2 := by
  revert hA
  refine xloop_ind (P := fun a => RegN A σ → Sm A σ x.2 ∧ RegN A x.2) (fun a y hf hc he => ?_) hf
  obtain ⟨x5, x6⟩ := a
  intro hA
  have hA0 : RegN A σ := hA
  have hy : (∀ a' : Int32 × Int32, y = .inl a' → True) ∧ (∀ b1 : Int32 × XS, y = .inr b1 → Sm A σ b1.2 ∧ RegN A b1.2) := by
    have hm := Sm.rf (A := A) (σ := σ)
    by_cases q : x4 ≤ x6
    · have hf := xip q hf
      obtain ⟨b0, hg, e9⟩ := xmj hf
      subst e9
      have hf := hg
      refine ⟨fun a' e => xnc2 e, fun b e => ?_⟩
      have h9 := Sum.inr.inj e
      subst h9
      have hf := xsj hf
      subst hf
      exact ⟨hm, hA⟩
    · have hf := xin q hf
      obtain ⟨z2, e1, hf⟩ := xbd hf
      obtain ⟨_, e3, hf⟩ := xbd hf
      obtain ⟨v5, e4, hf⟩ := xbd hf
      by_cases q : v5 = 0
      · have hf := xip q hf
        exact ⟨fun _ _ => trivial, fun b1 eb1 => ⟨hm.tr ((n_X11_stuck_j76 hA hf).2 b1 eb1).1, ((n_X11_stuck_j76 hA hf).2 b1 eb1).2⟩⟩
      · have hf := xin q hf
        by_cases q : x1 = 0
        · have hf := xip q hf
          exact ⟨fun _ _ => trivial, fun b1 eb1 => ⟨hm.tr ((n_X11_stuck_j76 hA hf).2 b1 eb1).1, ((n_X11_stuck_j76 hA hf).2 b1 eb1).2⟩⟩
        · have hf := xin q hf
          obtain ⟨z7, e6, hf⟩ := xbd hf
          obtain ⟨_, e8, hf⟩ := xbd hf
          obtain ⟨v10, e9, hf⟩ := xbd hf
          by_cases q : v10 = x3
          · have hf := xip q hf
            exact ⟨fun _ _ => trivial, fun b1 eb1 => ⟨hm.tr ((n_X11_stuck_j76 hA hf).2 b1 eb1).1, ((n_X11_stuck_j76 hA hf).2 b1 eb1).2⟩⟩
          · have hf := xin q hf
            exact ⟨fun _ _ => trivial, fun b1 eb1 => ⟨hm.tr ((n_X11_stuck_j76 hA hf).2 b1 eb1).1, ((n_X11_stuck_j76 hA hf).2 b1 eb1).2⟩⟩
  cases y with
  | inl a' =>
    exact hc a' rfl hA0
  | inr b =>
    have h1 := he b rfl
    subst h1
    exact hy.2 _ rfl
theorem n_X11_stuck_j4 {A : Nat → Prop} {σ : XS} {r0 : Nat} {x1 : Int32} {t0 : Nat} {x : Int32 × XS} (hA : RegN A σ) (hf : f_X11_stuck_j4 σ r0 x1 t0 = some x) : Sm A σ x.2 ∧ RegN A x.2 := by
  have hm := Sm.rf (A := A) (σ := σ)
  obtain ⟨v2, e1, hf⟩ := xbd hf
  by_cases q : v2 = 0
  · have hf := xip q hf
    have hf := xsj hf
    subst hf
    exact ⟨hm, hA⟩
  · have hf := xin q hf
    obtain ⟨_, e3, hf⟩ := xbd hf
    obtain ⟨v5, e4, hf⟩ := xbd hf
    obtain ⟨z7, e6, hf⟩ := xbd hf
    obtain ⟨_, e8, hf⟩ := xbd hf
    obtain ⟨v10, e9, hf⟩ := xbd hf
    exact ⟨hm.tr (n_X11_stuck_l35 (a := ((0 : Int32), (0 : Int32))) hA hf).1, (n_X11_stuck_l35 (a := ((0 : Int32), (0 : Int32))) hA hf).2⟩
theorem n_X11_stuck {A : Nat → Prop} {σ : XS} {r0 : Nat} {x1 : Int32} {x : Int32 × XS} (hA : RegN A σ) (hr0 : A r0) (hf : f_X11_stuck σ r0 x1 = some x) : Sm A σ x.2 ∧ RegN A x.2 := by
  have hm := Sm.rf (A := A) (σ := σ)
  obtain ⟨_, e1, hf⟩ := xbd hf
  obtain ⟨⟨z4, σ3⟩, e2, hf⟩ := xbd hf
  dsimp only at hf
  obtain ⟨hm9, hA, hz40⟩ := n_X11_levelsNow hA hr0 e2
  have hm := hm.tr hm9
  obtain ⟨_, e5, hf⟩ := xbd hf
  have hz4 := hz40 (xnz_spec e5)
  exact ⟨hm.tr (n_X11_stuck_j4 hA hf).1, (n_X11_stuck_j4 hA hf).2⟩
theorem n_X11_tie {A : Nat → Prop} {σ : XS} {r0 : Nat} {x1 : Int32} {x2 : Int32} {x3 : Int32} {x : Int32 × XS} (hA : Reg A σ) (hr0 : A r0) (hf : f_X11_tie σ r0 x1 x2 x3 = some x) : Sm A σ x.2 ∧ Reg A x.2 := by
  have hm := Sm.rf (A := A) (σ := σ)
  obtain ⟨z2, e1, hf⟩ := xbd hf
  obtain ⟨_, e3, hf⟩ := xbd hf
  obtain ⟨v5, e4, hf⟩ := xbd hf
  by_cases q : v5 = (-1 : Int32)
  · have hf := xip q hf
    have hf := xsj hf
    subst hf
    exact ⟨hm, hA⟩
  · have hf := xin q hf
    obtain ⟨v7, e6, hf⟩ := xbd hf
    by_cases q : v7 = 0
    · have hf := xip q hf
      have hf := xsj hf
      subst hf
      exact ⟨hm, hA⟩
    · have hf := xin q hf
      obtain ⟨z9, e8, hf⟩ := xbd hf
      obtain ⟨_, e10, hf⟩ := xbd hf
      obtain ⟨v12, e11, hf⟩ := xbd hf
      by_cases q : v12 = x3
      · have hf := xip q hf
        have hf := xsj hf
        subst hf
        exact ⟨hm, hA⟩
      · have hf := xin q hf
        obtain ⟨z14, e13, hf⟩ := xbd hf
        have hz14 := xgR_reg rfl hA hr0 e13
        obtain ⟨z16, e15, hf⟩ := xbd hf
        obtain ⟨_, e17, hf⟩ := xbd hf
        obtain ⟨σ19, e18, hf⟩ := xbd hf
        obtain ⟨hm9, hA⟩ := n_X5_keep hA hz14 e18
        have hm := hm.tr hm9
        obtain ⟨z21, e20, hf⟩ := xbd hf
        have hz21 := xgR_reg rfl hA hr0 e20
        obtain ⟨_, e22, hf⟩ := xbd hf
        obtain ⟨σ24, e23, hf⟩ := xbd hf
        obtain ⟨hm9, hA⟩ := n_X6_setBond hA hz21 e23
        have hm := hm.tr hm9
        obtain ⟨_, e25, hf⟩ := xbd hf
        obtain ⟨σ27, e26, hf⟩ := xbd hf
        obtain ⟨hm9, hA⟩ := n_X11_stampTies hA hr0 e26
        have hm := hm.tr hm9
        have hf := xsj hf
        subst hf
        exact ⟨hm, hA⟩
theorem n_X11_turn {A : Nat → Prop} {σ : XS} {r0 : Nat} {x1 : Int32} {x : Int32 × XS} (hA : Reg A σ) (hr0 : A r0) (hf : f_X11_turn σ r0 x1 = some x) : Sm A σ x.2 ∧ Reg A x.2 := by
  have hm := Sm.rf (A := A) (σ := σ)
  obtain ⟨z2, e1, hf⟩ := xbd hf
  obtain ⟨_, e3, hf⟩ := xbd hf
  obtain ⟨v5, e4, hf⟩ := xbd hf
  by_cases q : v5 = 0
  · have hf := xip q hf
    have hf := xsj hf
    subst hf
    exact ⟨hm, hA⟩
  · have hf := xin q hf
    obtain ⟨z7, e6, hf⟩ := xbd hf
    obtain ⟨_, e8, hf⟩ := xbd hf
    obtain ⟨v10, e9, hf⟩ := xbd hf
    by_cases q : v10 = 0
    · have hf := xip q hf
      obtain ⟨z12, e11, hf⟩ := xbd hf
      have hz12 := xgR_reg rfl hA hr0 e11
      obtain ⟨z14, e13, hf⟩ := xbd hf
      obtain ⟨_, e15, hf⟩ := xbd hf
      obtain ⟨σ17, e16, hf⟩ := xbd hf
      obtain ⟨hm9, hA⟩ := n_X5_keep hA hz12 e16
      have hm := hm.tr hm9
      obtain ⟨z19, e18, hf⟩ := xbd hf
      have hz19 := xgR_reg rfl hA hr0 e18
      obtain ⟨v21, e20, hf⟩ := xbd hf
      obtain ⟨σ23, e22, hf⟩ := xbd hf
      obtain ⟨hm9, hA⟩ := xpI_reg hA hz19 e22
      have hm := hm.tr hm9
      have hf := xsj hf
      subst hf
      exact ⟨hm, hA⟩
    · have hf := xin q hf
      have hf := xsj hf
      subst hf
      exact ⟨hm, hA⟩
theorem n_X5_giveBack_j18 {A : Nat → Prop} {σ : XS} {r0 : Nat} {r1 : Nat} {t0 : Int32} {x : Int32 × XS} (hA : Reg A σ) (hr0 : A r0) (hr1 : A r1) (hf : f_X5_giveBack_j18 σ r0 r1 t0 = some x) : Sm A σ x.2 ∧ Reg A x.2 := by
  have hm := Sm.rf (A := A) (σ := σ)
  obtain ⟨v2, e1, hf⟩ := xbd hf
  by_cases q : v2 = 0
  · have hf := xip q hf
    have hf := xsj hf
    subst hf
    exact ⟨hm, hA⟩
  · have hf := xin q hf
    obtain ⟨z4, e3, hf⟩ := xbd hf
    obtain ⟨v6, e5, hf⟩ := xbd hf
    by_cases q : t0 < v6
    · have hf := xip q hf
      obtain ⟨z8, e7, hf⟩ := xbd hf
      obtain ⟨z10, e9, hf⟩ := xbd hf
      obtain ⟨_, e11, hf⟩ := xbd hf
      obtain ⟨σ13, e12, hf⟩ := xbd hf
      obtain ⟨hm9, hA⟩ := n_X6_copyFrom hA hr1 e12
      have hm := hm.tr hm9
      obtain ⟨σ15, e14, hf⟩ := xbd hf
      obtain ⟨hm9, hA⟩ := xpI_reg hA hr0 e14
      have hm := hm.tr hm9
      obtain ⟨v17, e16, hf⟩ := xbd hf
      obtain ⟨σ19, e18, hf⟩ := xbd hf
      obtain ⟨hm9, hA⟩ := xpI_reg hA hr0 e18
      have hm := hm.tr hm9
      have hf := xsj hf
      subst hf
      exact ⟨hm, hA⟩
    · have hf := xin q hf
      have hf := xsj hf
      subst hf
      exact ⟨hm, hA⟩
theorem n_X5_giveBack {A : Nat → Prop} {σ : XS} {r0 : Nat} {r1 : Nat} {x : Int32 × XS} (hA : Reg A σ) (hr0 : A r0) (hr1 : A r1) (hf : f_X5_giveBack σ r0 r1 = some x) : Sm A σ x.2 ∧ Reg A x.2 := by
  have hm := Sm.rf (A := A) (σ := σ)
  obtain ⟨v2, e1, hf⟩ := xbd hf
  by_cases q : v2 ≤ 0
  · have hf := xip q hf
    exact ⟨hm.tr (n_X5_giveBack_j18 hA hr0 hr1 hf).1, (n_X5_giveBack_j18 hA hr0 hr1 hf).2⟩
  · have hf := xin q hf
    obtain ⟨v4, e3, hf⟩ := xbd hf
    exact ⟨hm.tr (n_X5_giveBack_j18 hA hr0 hr1 hf).1, (n_X5_giveBack_j18 hA hr0 hr1 hf).2⟩
theorem n_X11_undo {A : Nat → Prop} {σ : XS} {r0 : Nat} {x : Int32 × XS} (hA : Reg A σ) (hr0 : A r0) (hf : f_X11_undo σ r0 = some x) : Sm A σ x.2 ∧ Reg A x.2 := by
  have hm := Sm.rf (A := A) (σ := σ)
  obtain ⟨z2, e1, hf⟩ := xbd hf
  have hz2 := xgR_reg rfl hA hr0 e1
  obtain ⟨z4, e3, hf⟩ := xbd hf
  have hz4 := xgR_reg rfl hA hr0 e3
  obtain ⟨_, e5, hf⟩ := xbd hf
  obtain ⟨⟨v8, σ7⟩, e6, hf⟩ := xbd hf
  dsimp only at hf
  obtain ⟨hm9, hA⟩ := n_X5_giveBack hA hz2 hz4 e6
  have hm := hm.tr hm9
  obtain ⟨_, e9, hf⟩ := xbd hf
  have hf := xsj hf
  subst hf
  exact ⟨hm, hA⟩
theorem n_X11_value_l39 {A : Nat → Prop} {σ : XS} {x1 : Int32} {r2 : Nat} {a : Int64 × Int64 × Int32} {x : Int32 × XS} (hA : RegN A σ) (hf : xloop (f_X11_value_b39 σ x1 r2) a = some x) : Sm A σ x.2 ∧ RegN A x.2 := by
  revert hA
  refine xloop_ind (P := fun a => RegN A σ → Sm A σ x.2 ∧ RegN A x.2) (fun a y hf hc he => ?_) hf
  obtain ⟨w3, w5, x7⟩ := a
  intro hA
  have hA0 : RegN A σ := hA
  have hy : (∀ a' : Int64 × Int64 × Int32, y = .inl a' → True) ∧ (∀ b1 : Int32 × XS, y = .inr b1 → Sm A σ b1.2 ∧ RegN A b1.2) := by
    have hm := Sm.rf (A := A) (σ := σ)
    by_cases q : (144 : Int32) < x7
    · have hf := xip q hf
      obtain ⟨b0, hg, e9⟩ := xmj hf
      subst e9
      have hf := hg
      refine ⟨fun a' e => xnc2 e, fun b e => ?_⟩
      have h9 := Sum.inr.inj e
      subst h9
      have hf := xsj hf
      subst hf
      exact ⟨hm, hA⟩
    · have hf := xin q hf
      obtain ⟨_, e1, hf⟩ := xbd hf
      obtain ⟨v3, e2, hf⟩ := xbd hf
      have hf := xsj hf
      subst hf
      exact ⟨fun a' e => (by have h9 := Sum.inl.inj e; subst h9; exact trivial), fun b e => xnc1 e⟩
  cases y with
  | inl a' =>
    exact hc a' rfl hA0
  | inr b =>
    have h1 := he b rfl
    subst h1
    exact hy.2 _ rfl
theorem n_X11_value_j17 {A : Nat → Prop} {σ : XS} {x1 : Int32} {t0 : Nat} {x : Int32 × XS} (hA : RegN A σ) (hf : f_X11_value_j17 σ x1 t0 = some x) : Sm A σ x.2 ∧ RegN A x.2 := by
  have hm := Sm.rf (A := A) (σ := σ)
  obtain ⟨v2, e1, hf⟩ := xbd hf
  by_cases q : v2 = 0
  · have hf := xip q hf
    have hf := xsj hf
    subst hf
    exact ⟨hm, hA⟩
  · have hf := xin q hf
    obtain ⟨_, e3, hf⟩ := xbd hf
    obtain ⟨v5, e4, hf⟩ := xbd hf
    exact ⟨hm.tr (n_X11_value_l39 (a := ((0 : Int64), (1 : Int64), v5)) hA hf).1, (n_X11_value_l39 (a := ((0 : Int64), (1 : Int64), v5)) hA hf).2⟩
theorem n_X11_value {A : Nat → Prop} {σ : XS} {r0 : Nat} {x1 : Int32} {x : Int32 × XS} (hA : RegN A σ) (hr0 : A r0) (hf : f_X11_value σ r0 x1 = some x) : Sm A σ x.2 ∧ RegN A x.2 := by
  have hm := Sm.rf (A := A) (σ := σ)
  by_cases q : x1 < 0
  · have hf := xip q hf
    have hf := xsj hf
    subst hf
    exact ⟨hm, hA⟩
  · have hf := xin q hf
    by_cases q : x1 < (1000003 : Int32)
    · have hf := xip q hf
      obtain ⟨_, e1, hf⟩ := xbd hf
      obtain ⟨⟨z4, σ3⟩, e2, hf⟩ := xbd hf
      dsimp only at hf
      obtain ⟨hm9, hA, hz40⟩ := n_X11_levelsNow hA hr0 e2
      have hm := hm.tr hm9
      obtain ⟨_, e5, hf⟩ := xbd hf
      have hz4 := hz40 (xnz_spec e5)
      exact ⟨hm.tr (n_X11_value_j17 hA hf).1, (n_X11_value_j17 hA hf).2⟩
    · have hf := xin q hf
      have hf := xsj hf
      subst hf
      exact ⟨hm, hA⟩
theorem n_X11_wander {A : Nat → Prop} {σ : XS} {r0 : Nat} {x1 : Int32} {x2 : Int32} {x3 : Int32} {x : Int32 × XS} (hA : Reg A σ) (hr0 : A r0) (hf : f_X11_wander σ r0 x1 x2 x3 = some x) : Sm A σ x.2 ∧ Reg A x.2 := by
  have hm := Sm.rf (A := A) (σ := σ)
  by_cases q : x1 < 0
  · have hf := xip q hf
    have hf := xsj hf
    subst hf
    exact ⟨hm, hA⟩
  · have hf := xin q hf
    by_cases q : (200 : Int32) < x1
    · have hf := xip q hf
      have hf := xsj hf
      subst hf
      exact ⟨hm, hA⟩
    · have hf := xin q hf
      by_cases q : x2 < 0
      · have hf := xip q hf
        have hf := xsj hf
        subst hf
        exact ⟨hm, hA⟩
      · have hf := xin q hf
        by_cases q : (100 : Int32) < x2
        · have hf := xip q hf
          have hf := xsj hf
          subst hf
          exact ⟨hm, hA⟩
        · have hf := xin q hf
          obtain ⟨z2, e1, hf⟩ := xbd hf
          obtain ⟨v4, e3, hf⟩ := xbd hf
          by_cases q : v4 = 0
          · have hf := xip q hf
            have hf := xsj hf
            subst hf
            exact ⟨hm, hA⟩
          · have hf := xin q hf
            obtain ⟨z6, e5, hf⟩ := xbd hf
            have hz6 := xgR_reg rfl hA hr0 e5
            obtain ⟨z8, e7, hf⟩ := xbd hf
            obtain ⟨z10, e9, hf⟩ := xbd hf
            obtain ⟨_, e11, hf⟩ := xbd hf
            obtain ⟨σ13, e12, hf⟩ := xbd hf
            obtain ⟨hm9, hA⟩ := n_X10_strollFrom hA hz6 e12
            have hm := hm.tr hm9
            by_cases ho : (x3).toInt < 0 ∨ 2 < (x3).toInt
            · have hf := xsw_out ho rfl hf
              have hf := xsj hf
              subst hf
              exact ⟨hm, hA⟩
            · rcases (by omega : (x3).toInt = 0 + ((0 : Nat) : Int) ∨ (x3).toInt = 0 + ((1 : Nat) : Int) ∨ (x3).toInt = 0 + ((2 : Nat) : Int)) with hk1 | hk1 | hk1
              · have hf := xsw_in 0 hk1 rfl hf
                obtain ⟨z15, e14, hf⟩ := xbd hf
                obtain ⟨v17, e16, hf⟩ := xbd hf
                have hf := xsj hf
                subst hf
                exact ⟨hm, hA⟩
              · have hf := xsw_in 1 hk1 rfl hf
                obtain ⟨z15, e14, hf⟩ := xbd hf
                obtain ⟨v17, e16, hf⟩ := xbd hf
                have hf := xsj hf
                subst hf
                exact ⟨hm, hA⟩
              · have hf := xsw_in 2 hk1 rfl hf
                obtain ⟨z15, e14, hf⟩ := xbd hf
                obtain ⟨v17, e16, hf⟩ := xbd hf
                have hf := xsj hf
                subst hf
                exact ⟨hm, hA⟩
theorem n_X12_back {A : Nat → Prop} {σ : XS} {r0 : Nat} {x1 : Int32} {x : Int32 × XS} (hA : Reg A σ) (hr0 : A r0) (hf : f_X12_back σ r0 x1 = some x) : Sm A σ x.2 ∧ Reg A x.2 := by
  have hm := Sm.rf (A := A) (σ := σ)
  by_cases q : x1 < 0
  · have hf := xip q hf
    have hf := xsj hf
    subst hf
    exact ⟨hm, hA⟩
  · have hf := xin q hf
    obtain ⟨v2, e1, hf⟩ := xbd hf
    by_cases q : x1 ≤ v2
    · have hf := xip q hf
      obtain ⟨v4, e3, hf⟩ := xbd hf
      obtain ⟨σ6, e5, hf⟩ := xbd hf
      obtain ⟨hm9, hA⟩ := xpI_reg hA hr0 e5
      have hm := hm.tr hm9
      obtain ⟨v8, e7, hf⟩ := xbd hf
      have hf := xsj hf
      subst hf
      exact ⟨hm, hA⟩
    · have hf := xin q hf
      have hf := xsj hf
      subst hf
      exact ⟨hm, hA⟩
theorem n_X12_knows_l122 {A : Nat → Prop} {r0 : Nat} {a : Int32 × XS} {x : XS} (hA : Reg A a.2) (hr0 : A r0) (hf : xloop (f_X12_knows_b122 r0) a = some x) : Sm A a.2 x ∧ Reg A x := by
  revert hA
  refine xloop_ind (P := fun a => Reg A a.2 → Sm A a.2 x ∧ Reg A x) (fun a y hf hc he => ?_) hf
  obtain ⟨x1, σ⟩ := a
  intro hA
  have hA0 : Reg A σ := hA
  have hy : (∀ a' : Int32 × XS, y = .inl a' → Sm A σ a'.2 ∧ Reg A a'.2) ∧ (∀ b1 : XS, y = .inr b1 → Sm A σ b1 ∧ Reg A b1) := by
    have hm := Sm.rf (A := A) (σ := σ)
    by_cases q : (301 : Int32) ≤ x1
    · have hf := xip q hf
      obtain ⟨b0, hg, e9⟩ := xmj hf
      subst e9
      have hf := hg
      refine ⟨fun a' e => xnc2 e, fun b e => ?_⟩
      have h9 := Sum.inr.inj e
      subst h9
      have hf := xsj hf
      subst hf
      exact ⟨hm, hA⟩
    · have hf := xin q hf
      obtain ⟨z2, e1, hf⟩ := xbd hf
      obtain ⟨v4, e3, hf⟩ := xbd hf
      by_cases q : v4 = 0
      · have hf := xip q hf
        have hf := xsj hf
        subst hf
        exact ⟨fun a' e => (by have h9 := Sum.inl.inj e; subst h9; exact ⟨hm, hA⟩), fun b e => xnc1 e⟩
      · have hf := xin q hf
        obtain ⟨z6, e5, hf⟩ := xbd hf
        have hz6 := xgR_reg rfl hA hr0 e5
        obtain ⟨v8, e7, hf⟩ := xbd hf
        obtain ⟨σ10, e9, hf⟩ := xbd hf
        obtain ⟨hm9, hA⟩ := xsI_reg hA hz6 e9
        have hm := hm.tr hm9
        obtain ⟨v12, e11, hf⟩ := xbd hf
        obtain ⟨σ14, e13, hf⟩ := xbd hf
        obtain ⟨hm9, hA⟩ := xpI_reg hA hr0 e13
        have hm := hm.tr hm9
        have hf := xsj hf
        subst hf
        exact ⟨fun a' e => (by have h9 := Sum.inl.inj e; subst h9; exact ⟨hm, hA⟩), fun b e => xnc1 e⟩
  cases y with
  | inl a' =>
    obtain ⟨hm, hA1⟩ := hy.1 a' rfl
    have h1 := hc a' rfl hA1
    exact ⟨hm.tr (h1).1, (h1).2⟩
  | inr b =>
    have h1 := he b rfl
    subst h1
    exact hy.2 _ rfl
theorem n_X12_knows_j77 {A : Nat → Prop} {σ : XS} {r0 : Nat} {x1 : Int32} {t0 : Nat} {t1 : Int32} {t2 : Int32} {x : ((Int32 × XS) ⊕ (XS))} (hA : Reg A σ) (hr0 : A r0) (ht0 : A t0) (hf : f_X12_knows_j77 σ r0 x1 t0 t1 t2 = some x) : (∀ a' : Int32 × XS, x = .inl a' → Sm A σ a'.2 ∧ Reg A a'.2) ∧ (∀ b1 : XS, x = .inr b1 → Sm A σ b1 ∧ Reg A b1) := by
  have hm := Sm.rf (A := A) (σ := σ)
  obtain ⟨σ2, e1, hf⟩ := xbd hf
  obtain ⟨hm9, hA⟩ := xsI_reg hA ht0 e1
  have hm := hm.tr hm9
  obtain ⟨z4, e3, hf⟩ := xbd hf
  obtain ⟨v6, e5, hf⟩ := xbd hf
  by_cases q : (100000 : Int32) ≤ v6
  · have hf := xip q hf
    have hf := xsj hf
    subst hf
    exact ⟨fun a' e => (by have h9 := Sum.inl.inj e; subst h9; exact ⟨hm, hA⟩), fun b e => xnc1 e⟩
  · have hf := xin q hf
    obtain ⟨z8, e7, hf⟩ := xbd hf
    have hz8 := xgR_reg rfl hA hr0 e7
    obtain ⟨z10, e9, hf⟩ := xbd hf
    obtain ⟨v12, e11, hf⟩ := xbd hf
    obtain ⟨v14, e13, hf⟩ := xbd hf
    obtain ⟨σ16, e15, hf⟩ := xbd hf
    obtain ⟨hm9, hA⟩ := xsI_reg hA hz8 e15
    have hm := hm.tr hm9
    have hf := xsj hf
    subst hf
    exact ⟨fun a' e => (by have h9 := Sum.inl.inj e; subst h9; exact ⟨hm, hA⟩), fun b e => xnc1 e⟩
theorem n_X12_knows_l37 {A : Nat → Prop} {r0 : Nat} {a : Int32 × XS} {x : XS} (hA : Reg A a.2) (hr0 : A r0) (hf : xloop (f_X12_knows_b37 r0) a = some x) : Sm A a.2 x ∧ Reg A x := by
  revert hA
  refine xloop_ind (P := fun a => Reg A a.2 → Sm A a.2 x ∧ Reg A x) (fun a y hf hc he => ?_) hf
  obtain ⟨x1, σ⟩ := a
  intro hA
  have hA0 : Reg A σ := hA
  have hy : (∀ a' : Int32 × XS, y = .inl a' → Sm A σ a'.2 ∧ Reg A a'.2) ∧ (∀ b1 : XS, y = .inr b1 → Sm A σ b1 ∧ Reg A b1) := by
    have hm := Sm.rf (A := A) (σ := σ)
    obtain ⟨_, e1, hf⟩ := xbd hf
    obtain ⟨v3, e2, hf⟩ := xbd hf
    by_cases q : v3 ≤ x1
    · have hf := xip q hf
      obtain ⟨b0, hg, e9⟩ := xmj hf
      subst e9
      have hf := hg
      refine ⟨fun a' e => xnc2 e, fun b e => ?_⟩
      have h9 := Sum.inr.inj e
      subst h9
      obtain ⟨σ5, e4, hf⟩ := xbd hf
      obtain ⟨hm9, hA⟩ := xpI_reg hA hr0 e4
      have hm := hm.tr hm9
      exact ⟨hm.tr (n_X12_knows_l122 (a := ((0 : Int32), σ5)) hA hr0 hf).1, (n_X12_knows_l122 (a := ((0 : Int32), σ5)) hA hr0 hf).2⟩
    · have hf := xin q hf
      obtain ⟨z5, e4, hf⟩ := xbd hf
      have hz5 := xgR_reg rfl hA hr0 e4
      obtain ⟨_, e6, hf⟩ := xbd hf
      obtain ⟨v8, e7, hf⟩ := xbd hf
      by_cases q : v8 = 0
      · have hf := xip q hf
        exact ⟨fun a' e => ⟨hm.tr ((n_X12_knows_j77 hA hr0 hz5 hf).1 a' e).1, ((n_X12_knows_j77 hA hr0 hz5 hf).1 a' e).2⟩, fun b1 eb1 => ⟨hm.tr ((n_X12_knows_j77 hA hr0 hz5 hf).2 b1 eb1).1, ((n_X12_knows_j77 hA hr0 hz5 hf).2 b1 eb1).2⟩⟩
      · have hf := xin q hf
        obtain ⟨z10, e9, hf⟩ := xbd hf
        obtain ⟨v12, e11, hf⟩ := xbd hf
        obtain ⟨_, e13, hf⟩ := xbd hf
        obtain ⟨v15, e14, hf⟩ := xbd hf
        exact ⟨fun a' e => ⟨hm.tr ((n_X12_knows_j77 hA hr0 hz5 hf).1 a' e).1, ((n_X12_knows_j77 hA hr0 hz5 hf).1 a' e).2⟩, fun b1 eb1 => ⟨hm.tr ((n_X12_knows_j77 hA hr0 hz5 hf).2 b1 eb1).1, ((n_X12_knows_j77 hA hr0 hz5 hf).2 b1 eb1).2⟩⟩
  cases y with
  | inl a' =>
    obtain ⟨hm, hA1⟩ := hy.1 a' rfl
    have h1 := hc a' rfl hA1
    exact ⟨hm.tr (h1).1, (h1).2⟩
  | inr b =>
    have h1 := he b rfl
    subst h1
    exact hy.2 _ rfl
theorem n_X12_knows_l15 {A : Nat → Prop} {r0 : Nat} {a : Int32 × XS} {x : XS} (hA : Reg A a.2) (hr0 : A r0) (hf : xloop (f_X12_knows_b15 r0) a = some x) : Sm A a.2 x ∧ Reg A x := by
  revert hA
  refine xloop_ind (P := fun a => Reg A a.2 → Sm A a.2 x ∧ Reg A x) (fun a y hf hc he => ?_) hf
  obtain ⟨x1, σ⟩ := a
  intro hA
  have hA0 : Reg A σ := hA
  have hy : (∀ a' : Int32 × XS, y = .inl a' → Sm A σ a'.2 ∧ Reg A a'.2) ∧ (∀ b1 : XS, y = .inr b1 → Sm A σ b1 ∧ Reg A b1) := by
    have hm := Sm.rf (A := A) (σ := σ)
    by_cases q : (301 : Int32) ≤ x1
    · have hf := xip q hf
      obtain ⟨b0, hg, e9⟩ := xmj hf
      subst e9
      have hf := hg
      refine ⟨fun a' e => xnc2 e, fun b e => ?_⟩
      have h9 := Sum.inr.inj e
      subst h9
      exact ⟨hm.tr (n_X12_knows_l37 (a := ((0 : Int32), σ)) hA hr0 hf).1, (n_X12_knows_l37 (a := ((0 : Int32), σ)) hA hr0 hf).2⟩
    · have hf := xin q hf
      obtain ⟨z2, e1, hf⟩ := xbd hf
      have hz2 := xgR_reg rfl hA hr0 e1
      obtain ⟨σ4, e3, hf⟩ := xbd hf
      obtain ⟨hm9, hA⟩ := xsI_reg hA hz2 e3
      have hm := hm.tr hm9
      have hf := xsj hf
      subst hf
      exact ⟨fun a' e => (by have h9 := Sum.inl.inj e; subst h9; exact ⟨hm, hA⟩), fun b e => xnc1 e⟩
  cases y with
  | inl a' =>
    obtain ⟨hm, hA1⟩ := hy.1 a' rfl
    have h1 := hc a' rfl hA1
    exact ⟨hm.tr (h1).1, (h1).2⟩
  | inr b =>
    have h1 := he b rfl
    subst h1
    exact hy.2 _ rfl
theorem n_X12_knows {A : Nat → Prop} {σ : XS} {r0 : Nat} {x : XS} (hA : Reg A σ) (hr0 : A r0) (hf : f_X12_knows σ r0 = some x) : Sm A σ x ∧ Reg A x := by
  have hm := Sm.rf (A := A) (σ := σ)
  obtain ⟨v2, e1, hf⟩ := xbd hf
  by_cases q : v2 = 0
  · have hf := xip q hf
    obtain ⟨σ4, e3, hf⟩ := xbd hf
    obtain ⟨hm9, hA⟩ := xpI_reg hA hr0 e3
    have hm := hm.tr hm9
    exact ⟨hm.tr (n_X12_knows_l15 (a := ((0 : Int32), σ4)) hA hr0 hf).1, (n_X12_knows_l15 (a := ((0 : Int32), σ4)) hA hr0 hf).2⟩
  · have hf := xin q hf
    have hf := xsj hf
    subst hf
    exact ⟨hm, hA⟩
theorem n_X12_basin_l29 {A : Nat → Prop} {σ : XS} {r0 : Nat} {x1 : Int32} {a : Int32 × Int32} {x : Int32 × XS} (hA : Reg A σ) (hf : xloop (f_X12_basin_b29 σ r0 x1) a = some x) : Sm A σ x.2 ∧ Reg A x.2 := by
  revert hA
  refine xloop_ind (P := fun a => Reg A σ → Sm A σ x.2 ∧ Reg A x.2) (fun a y hf hc he => ?_) hf
  obtain ⟨x2, x3⟩ := a
  intro hA
  have hA0 : Reg A σ := hA
  have hy : (∀ a' : Int32 × Int32, y = .inl a' → True) ∧ (∀ b1 : Int32 × XS, y = .inr b1 → Sm A σ b1.2 ∧ Reg A b1.2) := by
    have hm := Sm.rf (A := A) (σ := σ)
    obtain ⟨_, e1, hf⟩ := xbd hf
    obtain ⟨v3, e2, hf⟩ := xbd hf
    by_cases q : v3 ≤ x3
    · have hf := xip q hf
      obtain ⟨b0, hg, e9⟩ := xmj hf
      subst e9
      have hf := hg
      refine ⟨fun a' e => xnc2 e, fun b e => ?_⟩
      have h9 := Sum.inr.inj e
      subst h9
      have hf := xsj hf
      subst hf
      exact ⟨hm, hA⟩
    · have hf := xin q hf
      obtain ⟨z5, e4, hf⟩ := xbd hf
      obtain ⟨v7, e6, hf⟩ := xbd hf
      by_cases q : (100000 : Int32) ≤ v7
      · have hf := xip q hf
        have hf := xsj hf
        subst hf
        exact ⟨fun a' e => (by have h9 := Sum.inl.inj e; subst h9; exact trivial), fun b e => xnc1 e⟩
      · have hf := xin q hf
        obtain ⟨_, e8, hf⟩ := xbd hf
        obtain ⟨v10, e9, hf⟩ := xbd hf
        by_cases q : v10 = x1
        · have hf := xip q hf
          have hf := xsj hf
          subst hf
          exact ⟨fun a' e => (by have h9 := Sum.inl.inj e; subst h9; exact trivial), fun b e => xnc1 e⟩
        · have hf := xin q hf
          have hf := xsj hf
          subst hf
          exact ⟨fun a' e => (by have h9 := Sum.inl.inj e; subst h9; exact trivial), fun b e => xnc1 e⟩
  cases y with
  | inl a' =>
    exact hc a' rfl hA0
  | inr b =>
    have h1 := he b rfl
    subst h1
    exact hy.2 _ rfl
theorem n_X12_basin {A : Nat → Prop} {σ : XS} {r0 : Nat} {x1 : Int32} {x : Int32 × XS} (hA : Reg A σ) (hr0 : A r0) (hf : f_X12_basin σ r0 x1 = some x) : Sm A σ x.2 ∧ Reg A x.2 := by
  have hm := Sm.rf (A := A) (σ := σ)
  obtain ⟨_, e1, hf⟩ := xbd hf
  obtain ⟨v3, e2, hf⟩ := xbd hf
  by_cases q : v3 = 0
  · have hf := xip q hf
    have hf := xsj hf
    subst hf
    exact ⟨hm, hA⟩
  · have hf := xin q hf
    obtain ⟨_, e4, hf⟩ := xbd hf
    obtain ⟨v6, e5, hf⟩ := xbd hf
    by_cases q : v6 ≤ (10 : Int32)
    · have hf := xip q hf
      obtain ⟨_, e7, hf⟩ := xbd hf
      obtain ⟨σ9, e8, hf⟩ := xbd hf
      obtain ⟨hm9, hA⟩ := n_X12_knows hA hr0 e8
      have hm := hm.tr hm9
      exact ⟨hm.tr (n_X12_basin_l29 (a := ((0 : Int32), (0 : Int32))) hA hf).1, (n_X12_basin_l29 (a := ((0 : Int32), (0 : Int32))) hA hf).2⟩
    · have hf := xin q hf
      have hf := xsj hf
      subst hf
      exact ⟨hm, hA⟩
theorem n_X12_both_l9 {A : Nat → Prop} {σ : XS} {r0 : Nat} {x1 : Int32} {x2 : Int32} {a : Int32 × Int32} {x : Int32 × XS} (hA : Reg A σ) (hf : xloop (f_X12_both_b9 σ r0 x1 x2) a = some x) : Sm A σ x.2 ∧ Reg A x.2 := by
  revert hA
  refine xloop_ind (P := fun a => Reg A σ → Sm A σ x.2 ∧ Reg A x.2) (fun a y hf hc he => ?_) hf
  obtain ⟨x3, x4⟩ := a
  intro hA
  have hA0 : Reg A σ := hA
  have hy : (∀ a' : Int32 × Int32, y = .inl a' → True) ∧ (∀ b1 : Int32 × XS, y = .inr b1 → Sm A σ b1.2 ∧ Reg A b1.2) := by
    have hm := Sm.rf (A := A) (σ := σ)
    obtain ⟨_, e1, hf⟩ := xbd hf
    obtain ⟨v3, e2, hf⟩ := xbd hf
    by_cases q : v3 ≤ x4
    · have hf := xip q hf
      obtain ⟨b0, hg, e9⟩ := xmj hf
      subst e9
      have hf := hg
      refine ⟨fun a' e => xnc2 e, fun b e => ?_⟩
      have h9 := Sum.inr.inj e
      subst h9
      have hf := xsj hf
      subst hf
      exact ⟨hm, hA⟩
    · have hf := xin q hf
      obtain ⟨z5, e4, hf⟩ := xbd hf
      obtain ⟨v7, e6, hf⟩ := xbd hf
      by_cases q : (100000 : Int32) ≤ v7
      · have hf := xip q hf
        have hf := xsj hf
        subst hf
        exact ⟨fun a' e => (by have h9 := Sum.inl.inj e; subst h9; exact trivial), fun b e => xnc1 e⟩
      · have hf := xin q hf
        obtain ⟨z9, e8, hf⟩ := xbd hf
        obtain ⟨v11, e10, hf⟩ := xbd hf
        by_cases q : v11 = x1
        · have hf := xip q hf
          obtain ⟨v13, e12, hf⟩ := xbd hf
          by_cases q : v13 = x2
          · have hf := xip q hf
            have hf := xsj hf
            subst hf
            exact ⟨fun a' e => (by have h9 := Sum.inl.inj e; subst h9; exact trivial), fun b e => xnc1 e⟩
          · have hf := xin q hf
            have hf := xsj hf
            subst hf
            exact ⟨fun a' e => (by have h9 := Sum.inl.inj e; subst h9; exact trivial), fun b e => xnc1 e⟩
        · have hf := xin q hf
          have hf := xsj hf
          subst hf
          exact ⟨fun a' e => (by have h9 := Sum.inl.inj e; subst h9; exact trivial), fun b e => xnc1 e⟩
  cases y with
  | inl a' =>
    exact hc a' rfl hA0
  | inr b =>
    have h1 := he b rfl
    subst h1
    exact hy.2 _ rfl
theorem n_X12_both {A : Nat → Prop} {σ : XS} {r0 : Nat} {x1 : Int32} {x2 : Int32} {x : Int32 × XS} (hA : Reg A σ) (hr0 : A r0) (hf : f_X12_both σ r0 x1 x2 = some x) : Sm A σ x.2 ∧ Reg A x.2 := by
  have hm := Sm.rf (A := A) (σ := σ)
  obtain ⟨_, e1, hf⟩ := xbd hf
  obtain ⟨σ3, e2, hf⟩ := xbd hf
  obtain ⟨hm9, hA⟩ := n_X12_knows hA hr0 e2
  have hm := hm.tr hm9
  exact ⟨hm.tr (n_X12_both_l9 (a := ((0 : Int32), (0 : Int32))) hA hf).1, (n_X12_both_l9 (a := ((0 : Int32), (0 : Int32))) hA hf).2⟩
theorem n_X12_broken_l8 {A : Nat → Prop} {σ : XS} {r0 : Nat} {x1 : Int32} {a : Int32 × Int32} {x : Int32 × XS} (hA : Reg A σ) (hf : xloop (f_X12_broken_b8 σ r0 x1) a = some x) : Sm A σ x.2 ∧ Reg A x.2 := by
  revert hA
  refine xloop_ind (P := fun a => Reg A σ → Sm A σ x.2 ∧ Reg A x.2) (fun a y hf hc he => ?_) hf
  obtain ⟨x2, x3⟩ := a
  intro hA
  have hA0 : Reg A σ := hA
  have hy : (∀ a' : Int32 × Int32, y = .inl a' → True) ∧ (∀ b1 : Int32 × XS, y = .inr b1 → Sm A σ b1.2 ∧ Reg A b1.2) := by
    have hm := Sm.rf (A := A) (σ := σ)
    obtain ⟨_, e1, hf⟩ := xbd hf
    obtain ⟨v3, e2, hf⟩ := xbd hf
    by_cases q : v3 ≤ x3
    · have hf := xip q hf
      obtain ⟨b0, hg, e9⟩ := xmj hf
      subst e9
      have hf := hg
      refine ⟨fun a' e => xnc2 e, fun b e => ?_⟩
      have h9 := Sum.inr.inj e
      subst h9
      have hf := xsj hf
      subst hf
      exact ⟨hm, hA⟩
    · have hf := xin q hf
      obtain ⟨z5, e4, hf⟩ := xbd hf
      obtain ⟨v7, e6, hf⟩ := xbd hf
      by_cases q : (100000 : Int32) ≤ v7
      · have hf := xip q hf
        have hf := xsj hf
        subst hf
        exact ⟨fun a' e => (by have h9 := Sum.inl.inj e; subst h9; exact trivial), fun b e => xnc1 e⟩
      · have hf := xin q hf
        obtain ⟨_, e8, hf⟩ := xbd hf
        obtain ⟨v10, e9, hf⟩ := xbd hf
        by_cases q : v10 = x1
        · have hf := xip q hf
          have hf := xsj hf
          subst hf
          exact ⟨fun a' e => (by have h9 := Sum.inl.inj e; subst h9; exact trivial), fun b e => xnc1 e⟩
        · have hf := xin q hf
          have hf := xsj hf
          subst hf
          exact ⟨fun a' e => (by have h9 := Sum.inl.inj e; subst h9; exact trivial), fun b e => xnc1 e⟩
  cases y with
  | inl a' =>
    exact hc a' rfl hA0
  | inr b =>
    have h1 := he b rfl
    subst h1
    exact hy.2 _ rfl
theorem n_X12_broken {A : Nat → Prop} {σ : XS} {r0 : Nat} {x1 : Int32} {x : Int32 × XS} (hA : Reg A σ) (hr0 : A r0) (hf : f_X12_broken σ r0 x1 = some x) : Sm A σ x.2 ∧ Reg A x.2 := by
  have hm := Sm.rf (A := A) (σ := σ)
  obtain ⟨_, e1, hf⟩ := xbd hf
  obtain ⟨σ3, e2, hf⟩ := xbd hf
  obtain ⟨hm9, hA⟩ := n_X12_knows hA hr0 e2
  have hm := hm.tr hm9
  exact ⟨hm.tr (n_X12_broken_l8 (a := ((0 : Int32), (0 : Int32))) hA hf).1, (n_X12_broken_l8 (a := ((0 : Int32), (0 : Int32))) hA hf).2⟩
theorem n_X12_token {A : Nat → Prop} {σ : XS} {r0 : Nat} {x1 : Int32} {x2 : Int32} {x3 : Int32} {w4 : Int64} {x : XS} (hA : Reg A σ) (hr0 : A r0) (hf : f_X12_token σ r0 x1 x2 x3 w4 = some x) : Sm A σ x ∧ Reg A x := by
  have hm := Sm.rf (A := A) (σ := σ)
  obtain ⟨z2, e1, hf⟩ := xbd hf
  have hz2 := xgR_reg rfl hA hr0 e1
  obtain ⟨v4, e3, hf⟩ := xbd hf
  obtain ⟨σ6, e5, hf⟩ := xbd hf
  obtain ⟨hm9, hA⟩ := xsI_reg hA hz2 e5
  have hm := hm.tr hm9
  obtain ⟨z8, e7, hf⟩ := xbd hf
  have hz8 := xgR_reg rfl hA hr0 e7
  obtain ⟨v10, e9, hf⟩ := xbd hf
  obtain ⟨σ12, e11, hf⟩ := xbd hf
  obtain ⟨hm9, hA⟩ := xsI_reg hA hz8 e11
  have hm := hm.tr hm9
  obtain ⟨z14, e13, hf⟩ := xbd hf
  have hz14 := xgR_reg rfl hA hr0 e13
  obtain ⟨v16, e15, hf⟩ := xbd hf
  obtain ⟨σ18, e17, hf⟩ := xbd hf
  obtain ⟨hm9, hA⟩ := xsI_reg hA hz14 e17
  have hm := hm.tr hm9
  obtain ⟨z20, e19, hf⟩ := xbd hf
  have hz20 := xgR_reg rfl hA hr0 e19
  obtain ⟨v22, e21, hf⟩ := xbd hf
  obtain ⟨σ24, e23, hf⟩ := xbd hf
  obtain ⟨hm9, hA⟩ := xsL_reg hA hz20 e23
  have hm := hm.tr hm9
  obtain ⟨v26, e25, hf⟩ := xbd hf
  obtain ⟨σ28, e27, hf⟩ := xbd hf
  obtain ⟨hm9, hA⟩ := xpI_reg hA hr0 e27
  have hm := hm.tr hm9
  have hf := xsj hf
  subst hf
  exact ⟨hm, hA⟩
theorem n_X12_sign_j22 {A : Nat → Prop} {σ : XS} {x1 : Int32} {t0 : Nat} {t1 : Int32} {x : Int32 × XS} (hA : Reg A σ) (ht0 : A t0) (hf : f_X12_sign_j22 σ x1 t0 t1 = some x) : Sm A σ x.2 ∧ Reg A x.2 := by
  have hm := Sm.rf (A := A) (σ := σ)
  obtain ⟨_, e1, hf⟩ := xbd hf
  obtain ⟨σ3, e2, hf⟩ := xbd hf
  obtain ⟨hm9, hA⟩ := n_X12_token hA ht0 e2
  have hm := hm.tr hm9
  have hf := xsj hf
  subst hf
  exact ⟨hm, hA⟩
theorem n_X12_sign {A : Nat → Prop} {σ : XS} {r0 : Nat} {x1 : Int32} {x2 : Int32} {x : Int32 × XS} (hA : Reg A σ) (hr0 : A r0) (hf : f_X12_sign σ r0 x1 x2 = some x) : Sm A σ x.2 ∧ Reg A x.2 := by
  have hm := Sm.rf (A := A) (σ := σ)
  by_cases q : x2 = (59 : Int32)
  · have hf := xip q hf
    exact ⟨hm.tr (n_X12_sign_j22 hA hr0 hf).1, (n_X12_sign_j22 hA hr0 hf).2⟩
  · have hf := xin q hf
    by_cases q : x2 = (45 : Int32)
    · have hf := xip q hf
      exact ⟨hm.tr (n_X12_sign_j22 hA hr0 hf).1, (n_X12_sign_j22 hA hr0 hf).2⟩
    · have hf := xin q hf
      exact ⟨hm.tr (n_X12_sign_j22 hA hr0 hf).1, (n_X12_sign_j22 hA hr0 hf).2⟩
theorem n_X12_cutsText_j261 {A : Nat → Prop} {σ : XS} {r0 : Nat} {x1 : Int32} {x3 : Int32} {x4 : Int32} {t0 : Nat} {t1 : Int32} {x : ((Int32 × XS) ⊕ (XS))} (hA : Reg A σ) (ht0 : A t0) (hf : f_X12_cutsText_j261 σ r0 x1 x3 x4 t0 t1 = some x) : (∀ a' : Int32 × XS, x = .inl a' → Sm A σ a'.2 ∧ Reg A a'.2) ∧ (∀ b1 : XS, x = .inr b1 → Sm A σ b1 ∧ Reg A b1) := by
  have hm := Sm.rf (A := A) (σ := σ)
  obtain ⟨_, e1, hf⟩ := xbd hf
  obtain ⟨σ3, e2, hf⟩ := xbd hf
  obtain ⟨hm9, hA⟩ := n_X12_token hA ht0 e2
  have hm := hm.tr hm9
  have hf := xsj hf
  subst hf
  exact ⟨fun a' e => (by have h9 := Sum.inl.inj e; subst h9; exact ⟨hm, hA⟩), fun b e => xnc1 e⟩
theorem n_X12_cutsText_l208 {A : Nat → Prop} {σ : XS} {r0 : Nat} {x1 : Int32} {a : Int32 × Int32} {x : ((Int32 × XS) ⊕ (XS))} (hA : Reg A σ) (hr0 : A r0) (hf : xloop (f_X12_cutsText_b208 σ r0 x1) a = some x) : (∀ a' : Int32 × XS, x = .inl a' → Sm A σ a'.2 ∧ Reg A a'.2) ∧ (∀ b1 : XS, x = .inr b1 → Sm A σ b1 ∧ Reg A b1) := by
  revert hA
  refine xloop_ind (P := fun a => Reg A σ → (∀ a' : Int32 × XS, x = .inl a' → Sm A σ a'.2 ∧ Reg A a'.2) ∧ (∀ b1 : XS, x = .inr b1 → Sm A σ b1 ∧ Reg A b1)) (fun a y hf hc he => ?_) hf
  obtain ⟨x3, x4⟩ := a
  intro hA
  have hA0 : Reg A σ := hA
  have hy : (∀ a' : Int32 × Int32, y = .inl a' → True) ∧ (∀ b2 : ((Int32 × XS) ⊕ (XS)), y = .inr b2 → (∀ a' : Int32 × XS, b2 = .inl a' → Sm A σ a'.2 ∧ Reg A a'.2) ∧ (∀ b1 : XS, b2 = .inr b1 → Sm A σ b1 ∧ Reg A b1)) := by
    have hm := Sm.rf (A := A) (σ := σ)
    obtain ⟨_, e1, hf⟩ := xbd hf
    obtain ⟨v3, e2, hf⟩ := xbd hf
    obtain ⟨v5, e4, hf⟩ := xbd hf
    by_cases q : v5 = 0
    · have hf := xip q hf
      obtain ⟨b0, hg, e9⟩ := xmj hf
      subst e9
      have hf := hg
      refine ⟨fun a' e => xnc2 e, fun b e => ?_⟩
      have h9 := Sum.inr.inj e
      subst h9
      by_cases q : x3 ≤ (4 : Int32)
      · have hf := xip q hf
        exact ⟨fun a' e => ⟨hm.tr ((n_X12_cutsText_j261 hA hr0 hf).1 a' e).1, ((n_X12_cutsText_j261 hA hr0 hf).1 a' e).2⟩, fun b1 eb1 => ⟨hm.tr ((n_X12_cutsText_j261 hA hr0 hf).2 b1 eb1).1, ((n_X12_cutsText_j261 hA hr0 hf).2 b1 eb1).2⟩⟩
      · have hf := xin q hf
        exact ⟨fun a' e => ⟨hm.tr ((n_X12_cutsText_j261 hA hr0 hf).1 a' e).1, ((n_X12_cutsText_j261 hA hr0 hf).1 a' e).2⟩, fun b1 eb1 => ⟨hm.tr ((n_X12_cutsText_j261 hA hr0 hf).2 b1 eb1).1, ((n_X12_cutsText_j261 hA hr0 hf).2 b1 eb1).2⟩⟩
    · have hf := xin q hf
      by_cases q : (4 : Int32) ≤ x3
      · have hf := xip q hf
        have hf := xsj hf
        subst hf
        exact ⟨fun a' e => (by have h9 := Sum.inl.inj e; subst h9; exact trivial), fun b e => xnc1 e⟩
      · have hf := xin q hf
        obtain ⟨_, e6, hf⟩ := xbd hf
        obtain ⟨v8, e7, hf⟩ := xbd hf
        have hf := xsj hf
        subst hf
        exact ⟨fun a' e => (by have h9 := Sum.inl.inj e; subst h9; exact trivial), fun b e => xnc1 e⟩
  cases y with
  | inl a' =>
    exact hc a' rfl hA0
  | inr b =>
    have h1 := he b rfl
    subst h1
    exact hy.2 _ rfl
theorem n_X12_cutsText_j179 {A : Nat → Prop} {σ : XS} {r0 : Nat} {x1 : Int32} {x3 : Int32} {w4 : Int64} {x6 : Int32} {x : ((Int32 × XS) ⊕ (XS))} (hA : Reg A σ) (hr0 : A r0) (hf : f_X12_cutsText_j179 σ r0 x1 x3 w4 x6 = some x) : (∀ a' : Int32 × XS, x = .inl a' → Sm A σ a'.2 ∧ Reg A a'.2) ∧ (∀ b1 : XS, x = .inr b1 → Sm A σ b1 ∧ Reg A b1) := by
  have hm := Sm.rf (A := A) (σ := σ)
  obtain ⟨_, e1, hf⟩ := xbd hf
  obtain ⟨σ3, e2, hf⟩ := xbd hf
  obtain ⟨hm9, hA⟩ := n_X12_token hA hr0 e2
  have hm := hm.tr hm9
  have hf := xsj hf
  subst hf
  exact ⟨fun a' e => (by have h9 := Sum.inl.inj e; subst h9; exact ⟨hm, hA⟩), fun b e => xnc1 e⟩
theorem n_X12_cutsText_l146 {A : Nat → Prop} {σ : XS} {r0 : Nat} {x1 : Int32} {x3 : Int32} {w4 : Int64} {a : Int32 × Int32} {x : ((Int32 × XS) ⊕ (XS))} (hA : Reg A σ) (hr0 : A r0) (hf : xloop (f_X12_cutsText_b146 σ r0 x1 x3 w4) a = some x) : (∀ a' : Int32 × XS, x = .inl a' → Sm A σ a'.2 ∧ Reg A a'.2) ∧ (∀ b1 : XS, x = .inr b1 → Sm A σ b1 ∧ Reg A b1) := by
  revert hA
  refine xloop_ind (P := fun a => Reg A σ → (∀ a' : Int32 × XS, x = .inl a' → Sm A σ a'.2 ∧ Reg A a'.2) ∧ (∀ b1 : XS, x = .inr b1 → Sm A σ b1 ∧ Reg A b1)) (fun a y hf hc he => ?_) hf
  obtain ⟨x6, x7⟩ := a
  intro hA
  have hA0 : Reg A σ := hA
  have hy : (∀ a' : Int32 × Int32, y = .inl a' → True) ∧ (∀ b2 : ((Int32 × XS) ⊕ (XS)), y = .inr b2 → (∀ a' : Int32 × XS, b2 = .inl a' → Sm A σ a'.2 ∧ Reg A a'.2) ∧ (∀ b1 : XS, b2 = .inr b1 → Sm A σ b1 ∧ Reg A b1)) := by
    have hm := Sm.rf (A := A) (σ := σ)
    by_cases q : (11 : Int32) ≤ x7
    · have hf := xip q hf
      obtain ⟨b0, hg, e9⟩ := xmj hf
      subst e9
      have hf := hg
      refine ⟨fun a' e => xnc2 e, fun b e => ?_⟩
      have h9 := Sum.inr.inj e
      subst h9
      exact ⟨fun a' e => ⟨hm.tr ((n_X12_cutsText_j179 hA hr0 hf).1 a' e).1, ((n_X12_cutsText_j179 hA hr0 hf).1 a' e).2⟩, fun b1 eb1 => ⟨hm.tr ((n_X12_cutsText_j179 hA hr0 hf).2 b1 eb1).1, ((n_X12_cutsText_j179 hA hr0 hf).2 b1 eb1).2⟩⟩
    · have hf := xin q hf
      obtain ⟨z2, e1, hf⟩ := xbd hf
      obtain ⟨v4, e3, hf⟩ := xbd hf
      by_cases q : (lg_cmp v4 w4) = 0
      · have hf := xip q hf
        have hf := xsj hf
        subst hf
        exact ⟨fun a' e => (by have h9 := Sum.inl.inj e; subst h9; exact trivial), fun b e => xnc1 e⟩
      · have hf := xin q hf
        have hf := xsj hf
        subst hf
        exact ⟨fun a' e => (by have h9 := Sum.inl.inj e; subst h9; exact trivial), fun b e => xnc1 e⟩
  cases y with
  | inl a' =>
    exact hc a' rfl hA0
  | inr b =>
    have h1 := he b rfl
    subst h1
    exact hy.2 _ rfl
theorem n_X12_cutsText_j135 {A : Nat → Prop} {σ : XS} {r0 : Nat} {x1 : Int32} {x3 : Int32} {w4 : Int64} {t0 : Int32} {x : ((Int32 × XS) ⊕ (XS))} (hA : Reg A σ) (hr0 : A r0) (hf : f_X12_cutsText_j135 σ r0 x1 x3 w4 t0 = some x) : (∀ a' : Int32 × XS, x = .inl a' → Sm A σ a'.2 ∧ Reg A a'.2) ∧ (∀ b1 : XS, x = .inr b1 → Sm A σ b1 ∧ Reg A b1) := by
  have hm := Sm.rf (A := A) (σ := σ)
  by_cases q : (8 : Int32) < x3
  · have hf := xip q hf
    exact ⟨fun a' e => ⟨hm.tr ((n_X12_cutsText_j179 hA hr0 hf).1 a' e).1, ((n_X12_cutsText_j179 hA hr0 hf).1 a' e).2⟩, fun b1 eb1 => ⟨hm.tr ((n_X12_cutsText_j179 hA hr0 hf).2 b1 eb1).1, ((n_X12_cutsText_j179 hA hr0 hf).2 b1 eb1).2⟩⟩
  · have hf := xin q hf
    exact ⟨fun a' e => ⟨hm.tr ((n_X12_cutsText_l146 (a := (t0, (0 : Int32))) hA hr0 hf).1 a' e).1, ((n_X12_cutsText_l146 (a := (t0, (0 : Int32))) hA hr0 hf).1 a' e).2⟩, fun b1 eb1 => ⟨hm.tr ((n_X12_cutsText_l146 (a := (t0, (0 : Int32))) hA hr0 hf).2 b1 eb1).1, ((n_X12_cutsText_l146 (a := (t0, (0 : Int32))) hA hr0 hf).2 b1 eb1).2⟩⟩
theorem n_X12_cutsText_l85 {A : Nat → Prop} {σ : XS} {r0 : Nat} {x1 : Int32} {a : Int32 × Int64} {x : ((Int32 × XS) ⊕ (XS))} (hA : Reg A σ) (hr0 : A r0) (hf : xloop (f_X12_cutsText_b85 σ r0 x1) a = some x) : (∀ a' : Int32 × XS, x = .inl a' → Sm A σ a'.2 ∧ Reg A a'.2) ∧ (∀ b1 : XS, x = .inr b1 → Sm A σ b1 ∧ Reg A b1) := by
  revert hA
  refine xloop_ind (P := fun a => Reg A σ → (∀ a' : Int32 × XS, x = .inl a' → Sm A σ a'.2 ∧ Reg A a'.2) ∧ (∀ b1 : XS, x = .inr b1 → Sm A σ b1 ∧ Reg A b1)) (fun a y hf hc he => ?_) hf
  obtain ⟨x3, w4⟩ := a
  intro hA
  have hA0 : Reg A σ := hA
  have hy : (∀ a' : Int32 × Int64, y = .inl a' → True) ∧ (∀ b2 : ((Int32 × XS) ⊕ (XS)), y = .inr b2 → (∀ a' : Int32 × XS, b2 = .inl a' → Sm A σ a'.2 ∧ Reg A a'.2) ∧ (∀ b1 : XS, b2 = .inr b1 → Sm A σ b1 ∧ Reg A b1)) := by
    have hm := Sm.rf (A := A) (σ := σ)
    obtain ⟨_, e1, hf⟩ := xbd hf
    obtain ⟨v3, e2, hf⟩ := xbd hf
    obtain ⟨v5, e4, hf⟩ := xbd hf
    by_cases q : v5 = 0
    · have hf := xip q hf
      obtain ⟨b0, hg, e9⟩ := xmj hf
      subst e9
      have hf := hg
      refine ⟨fun a' e => xnc2 e, fun b e => ?_⟩
      have h9 := Sum.inr.inj e
      subst h9
      by_cases q : x3 ≤ (8 : Int32)
      · have hf := xip q hf
        exact ⟨fun a' e => ⟨hm.tr ((n_X12_cutsText_j135 hA hr0 hf).1 a' e).1, ((n_X12_cutsText_j135 hA hr0 hf).1 a' e).2⟩, fun b1 eb1 => ⟨hm.tr ((n_X12_cutsText_j135 hA hr0 hf).2 b1 eb1).1, ((n_X12_cutsText_j135 hA hr0 hf).2 b1 eb1).2⟩⟩
      · have hf := xin q hf
        exact ⟨fun a' e => ⟨hm.tr ((n_X12_cutsText_j135 hA hr0 hf).1 a' e).1, ((n_X12_cutsText_j135 hA hr0 hf).1 a' e).2⟩, fun b1 eb1 => ⟨hm.tr ((n_X12_cutsText_j135 hA hr0 hf).2 b1 eb1).1, ((n_X12_cutsText_j135 hA hr0 hf).2 b1 eb1).2⟩⟩
    · have hf := xin q hf
      by_cases q : (8 : Int32) ≤ x3
      · have hf := xip q hf
        have hf := xsj hf
        subst hf
        exact ⟨fun a' e => (by have h9 := Sum.inl.inj e; subst h9; exact trivial), fun b e => xnc1 e⟩
      · have hf := xin q hf
        obtain ⟨_, e6, hf⟩ := xbd hf
        obtain ⟨v8, e7, hf⟩ := xbd hf
        obtain ⟨v10, e9, hf⟩ := xbd hf
        have hf := xsj hf
        subst hf
        exact ⟨fun a' e => (by have h9 := Sum.inl.inj e; subst h9; exact trivial), fun b e => xnc1 e⟩
  cases y with
  | inl a' =>
    exact hc a' rfl hA0
  | inr b =>
    have h1 := he b rfl
    subst h1
    exact hy.2 _ rfl
theorem n_X12_cutsText_l7 {A : Nat → Prop} {r0 : Nat} {a : Int32 × XS} {x : XS} (hA : Reg A a.2) (hr0 : A r0) (hf : xloop (f_X12_cutsText_b7 r0) a = some x) : Sm A a.2 x ∧ Reg A x := by
  revert hA
  refine xloop_ind (P := fun a => Reg A a.2 → Sm A a.2 x ∧ Reg A x) (fun a y hf hc he => ?_) hf
  obtain ⟨x1, σ⟩ := a
  intro hA
  have hA0 : Reg A σ := hA
  have hy : (∀ a' : Int32 × XS, y = .inl a' → Sm A σ a'.2 ∧ Reg A a'.2) ∧ (∀ b1 : XS, y = .inr b1 → Sm A σ b1 ∧ Reg A b1) := by
    have hm := Sm.rf (A := A) (σ := σ)
    obtain ⟨v2, e1, hf⟩ := xbd hf
    by_cases q : (400 : Int32) < v2
    · have hf := xip q hf
      obtain ⟨b0, hg, e9⟩ := xmj hf
      subst e9
      have hf := hg
      refine ⟨fun a' e => xnc2 e, fun b e => ?_⟩
      have h9 := Sum.inr.inj e
      subst h9
      have hf := xsj hf
      subst hf
      exact ⟨hm, hA⟩
    · have hf := xin q hf
      obtain ⟨_, e3, hf⟩ := xbd hf
      obtain ⟨v5, e4, hf⟩ := xbd hf
      obtain ⟨v7, e6, hf⟩ := xbd hf
      by_cases q : x1 < v7
      · have hf := xip q hf
        by_cases q : v5 = (9 : Int32)
        · have hf := xip q hf
          have hf := xsj hf
          subst hf
          exact ⟨fun a' e => (by have h9 := Sum.inl.inj e; subst h9; exact ⟨hm, hA⟩), fun b e => xnc1 e⟩
        · have hf := xin q hf
          by_cases q : v5 = (10 : Int32)
          · have hf := xip q hf
            have hf := xsj hf
            subst hf
            exact ⟨fun a' e => (by have h9 := Sum.inl.inj e; subst h9; exact ⟨hm, hA⟩), fun b e => xnc1 e⟩
          · have hf := xin q hf
            by_cases q : v5 = (13 : Int32)
            · have hf := xip q hf
              have hf := xsj hf
              subst hf
              exact ⟨fun a' e => (by have h9 := Sum.inl.inj e; subst h9; exact ⟨hm, hA⟩), fun b e => xnc1 e⟩
            · have hf := xin q hf
              by_cases q : v5 = (32 : Int32)
              · have hf := xip q hf
                have hf := xsj hf
                subst hf
                exact ⟨fun a' e => (by have h9 := Sum.inl.inj e; subst h9; exact ⟨hm, hA⟩), fun b e => xnc1 e⟩
              · have hf := xin q hf
                obtain ⟨v9, e8, hf⟩ := xbd hf
                by_cases q : v9 = 0
                · have hf := xip q hf
                  obtain ⟨v11, e10, hf⟩ := xbd hf
                  by_cases q : v11 = 0
                  · have hf := xip q hf
                    obtain ⟨_, e12, hf⟩ := xbd hf
                    obtain ⟨⟨v15, σ14⟩, e13, hf⟩ := xbd hf
                    dsimp only at hf
                    obtain ⟨hm9, hA⟩ := n_X12_sign hA hr0 e13
                    have hm := hm.tr hm9
                    have hf := xsj hf
                    subst hf
                    exact ⟨fun a' e => (by have h9 := Sum.inl.inj e; subst h9; exact ⟨hm, hA⟩), fun b e => xnc1 e⟩
                  · have hf := xin q hf
                    exact ⟨fun a' e => ⟨hm.tr ((n_X12_cutsText_l208 (a := ((0 : Int32), (0 : Int32))) hA hr0 hf).1 a' e).1, ((n_X12_cutsText_l208 (a := ((0 : Int32), (0 : Int32))) hA hr0 hf).1 a' e).2⟩, fun b1 eb1 => ⟨hm.tr ((n_X12_cutsText_l208 (a := ((0 : Int32), (0 : Int32))) hA hr0 hf).2 b1 eb1).1, ((n_X12_cutsText_l208 (a := ((0 : Int32), (0 : Int32))) hA hr0 hf).2 b1 eb1).2⟩⟩
                · have hf := xin q hf
                  exact ⟨fun a' e => ⟨hm.tr ((n_X12_cutsText_l85 (a := ((0 : Int32), (0 : Int64))) hA hr0 hf).1 a' e).1, ((n_X12_cutsText_l85 (a := ((0 : Int32), (0 : Int64))) hA hr0 hf).1 a' e).2⟩, fun b1 eb1 => ⟨hm.tr ((n_X12_cutsText_l85 (a := ((0 : Int32), (0 : Int64))) hA hr0 hf).2 b1 eb1).1, ((n_X12_cutsText_l85 (a := ((0 : Int32), (0 : Int64))) hA hr0 hf).2 b1 eb1).2⟩⟩
      · have hf := xin q hf
        obtain ⟨b0, hg, e9⟩ := xmj hf
        subst e9
        have hf := hg
        refine ⟨fun a' e => xnc2 e, fun b e => ?_⟩
        have h9 := Sum.inr.inj e
        subst h9
        obtain ⟨v9, e8, hf⟩ := xbd hf
        obtain ⟨_, e10, hf⟩ := xbd hf
        obtain ⟨σ12, e11, hf⟩ := xbd hf
        obtain ⟨hm9, hA⟩ := n_X12_token hA hr0 e11
        have hm := hm.tr hm9
        have hf := xsj hf
        subst hf
        exact ⟨hm, hA⟩
  cases y with
  | inl a' =>
    obtain ⟨hm, hA1⟩ := hy.1 a' rfl
    have h1 := hc a' rfl hA1
    exact ⟨hm.tr (h1).1, (h1).2⟩
  | inr b =>
    have h1 := he b rfl
    subst h1
    exact hy.2 _ rfl
theorem n_X12_cutsText {A : Nat → Prop} {σ : XS} {r0 : Nat} {x : XS} (hA : Reg A σ) (hr0 : A r0) (hf : f_X12_cutsText σ r0 = some x) : Sm A σ x ∧ Reg A x := by
  have hm := Sm.rf (A := A) (σ := σ)
  obtain ⟨σ2, e1, hf⟩ := xbd hf
  obtain ⟨hm9, hA⟩ := xpI_reg hA hr0 e1
  have hm := hm.tr hm9
  exact ⟨hm.tr (n_X12_cutsText_l7 (a := ((0 : Int32), σ2)) hA hr0 hf).1, (n_X12_cutsText_l7 (a := ((0 : Int32), σ2)) hA hr0 hf).2⟩
theorem n_X12_down_l73 {A : Nat → Prop} {r0 : Nat} {x1 : Int32} {x2 : Int32} {x3 : Int32} {a : Int32 × XS} {x : ((Int32 × XS) ⊕ ((Int32 × XS) ⊕ (Int64 × XS)))} (hA : Reg A a.2) (hr0 : A r0) (hf : xloop (f_X12_down_b73 r0 x1 x2 x3) a = some x) : (∀ a' : Int32 × XS, x = .inl a' → Sm A a.2 a'.2 ∧ Reg A a'.2) ∧ (∀ b2 : ((Int32 × XS) ⊕ (Int64 × XS)), x = .inr b2 → (∀ a' : Int32 × XS, b2 = .inl a' → Sm A a.2 a'.2 ∧ Reg A a'.2) ∧ (∀ b1 : Int64 × XS, b2 = .inr b1 → Sm A a.2 b1.2 ∧ Reg A b1.2)) := by
  revert hA
  refine xloop_ind (P := fun a => Reg A a.2 → (∀ a' : Int32 × XS, x = .inl a' → Sm A a.2 a'.2 ∧ Reg A a'.2) ∧ (∀ b2 : ((Int32 × XS) ⊕ (Int64 × XS)), x = .inr b2 → (∀ a' : Int32 × XS, b2 = .inl a' → Sm A a.2 a'.2 ∧ Reg A a'.2) ∧ (∀ b1 : Int64 × XS, b2 = .inr b1 → Sm A a.2 b1.2 ∧ Reg A b1.2))) (fun a y hf hc he => ?_) hf
  obtain ⟨x4, σ⟩ := a
  intro hA
  have hA0 : Reg A σ := hA
  have hy : (∀ a' : Int32 × XS, y = .inl a' → Sm A σ a'.2 ∧ Reg A a'.2) ∧ (∀ b3 : ((Int32 × XS) ⊕ ((Int32 × XS) ⊕ (Int64 × XS))), y = .inr b3 → (∀ a' : Int32 × XS, b3 = .inl a' → Sm A σ a'.2 ∧ Reg A a'.2) ∧ (∀ b2 : ((Int32 × XS) ⊕ (Int64 × XS)), b3 = .inr b2 → (∀ a' : Int32 × XS, b2 = .inl a' → Sm A σ a'.2 ∧ Reg A a'.2) ∧ (∀ b1 : Int64 × XS, b2 = .inr b1 → Sm A σ b1.2 ∧ Reg A b1.2))) := by
    have hm := Sm.rf (A := A) (σ := σ)
    obtain ⟨_, e1, hf⟩ := xbd hf
    obtain ⟨v3, e2, hf⟩ := xbd hf
    by_cases q : v3 ≤ x4
    · have hf := xip q hf
      obtain ⟨b0, hg, e9⟩ := xmj hf
      subst e9
      have hf := hg
      refine ⟨fun a' e => xnc2 e, fun b e => ?_⟩
      have h9 := Sum.inr.inj e
      subst h9
      obtain ⟨z5, e4, hf⟩ := xbd hf
      obtain ⟨v7, e6, hf⟩ := xbd hf
      by_cases q : (lg_cmp v7 (0 : Int64)) = 0
      · have hf := xip q hf
        obtain ⟨z9, e8, hf⟩ := xbd hf
        have hz9 := xgR_reg rfl hA hr0 e8
        obtain ⟨σ11, e10, hf⟩ := xbd hf
        obtain ⟨hm9, hA⟩ := xsL_reg hA hz9 e10
        have hm := hm.tr hm9
        have hf := xsj hf
        subst hf
        exact ⟨fun a' e => (by have h9 := Sum.inl.inj e; subst h9; exact ⟨hm, hA⟩), fun b e => xnc1 e⟩
      · have hf := xin q hf
        have hf := xsj hf
        subst hf
        exact ⟨fun a' e => (by have h9 := Sum.inl.inj e; subst h9; exact ⟨hm, hA⟩), fun b e => xnc1 e⟩
    · have hf := xin q hf
      obtain ⟨z5, e4, hf⟩ := xbd hf
      obtain ⟨v7, e6, hf⟩ := xbd hf
      obtain ⟨z9, e8, hf⟩ := xbd hf
      obtain ⟨v11, e10, hf⟩ := xbd hf
      by_cases q : v11 ≤ v7
      · have hf := xip q hf
        have hf := xsj hf
        subst hf
        exact ⟨fun a' e => (by have h9 := Sum.inl.inj e; subst h9; exact ⟨hm, hA⟩), fun b e => xnc1 e⟩
      · have hf := xin q hf
        obtain ⟨z13, e12, hf⟩ := xbd hf
        have hz13 := xgR_reg rfl hA hr0 e12
        obtain ⟨v15, e14, hf⟩ := xbd hf
        obtain ⟨z17, e16, hf⟩ := xbd hf
        obtain ⟨v19, e18, hf⟩ := xbd hf
        obtain ⟨σ21, e20, hf⟩ := xbd hf
        obtain ⟨hm9, hA⟩ := xsL_reg hA hz13 e20
        have hm := hm.tr hm9
        have hf := xsj hf
        subst hf
        exact ⟨fun a' e => (by have h9 := Sum.inl.inj e; subst h9; exact ⟨hm, hA⟩), fun b e => xnc1 e⟩
  cases y with
  | inl a' =>
    obtain ⟨hm, hA1⟩ := hy.1 a' rfl
    have h1 := hc a' rfl hA1
    exact ⟨fun a' e => ⟨hm.tr ((h1).1 a' e).1, ((h1).1 a' e).2⟩, fun b2 eb2 => ⟨fun a' e => ⟨hm.tr (((h1).2 b2 eb2).1 a' e).1, (((h1).2 b2 eb2).1 a' e).2⟩, fun b1 eb1 => ⟨hm.tr (((h1).2 b2 eb2).2 b1 eb1).1, (((h1).2 b2 eb2).2 b1 eb1).2⟩⟩⟩
  | inr b =>
    have h1 := he b rfl
    subst h1
    exact hy.2 _ rfl
theorem n_X12_down_l37 {A : Nat → Prop} {r0 : Nat} {x1 : Int32} {x2 : Int32} {a : Int32 × XS} {x : ((Int32 × XS) ⊕ (Int64 × XS))} (hA : Reg A a.2) (hr0 : A r0) (hf : xloop (f_X12_down_b37 r0 x1 x2) a = some x) : (∀ a' : Int32 × XS, x = .inl a' → Sm A a.2 a'.2 ∧ Reg A a'.2) ∧ (∀ b1 : Int64 × XS, x = .inr b1 → Sm A a.2 b1.2 ∧ Reg A b1.2) := by
  revert hA
  refine xloop_ind (P := fun a => Reg A a.2 → (∀ a' : Int32 × XS, x = .inl a' → Sm A a.2 a'.2 ∧ Reg A a'.2) ∧ (∀ b1 : Int64 × XS, x = .inr b1 → Sm A a.2 b1.2 ∧ Reg A b1.2)) (fun a y hf hc he => ?_) hf
  obtain ⟨x3, σ⟩ := a
  intro hA
  have hA0 : Reg A σ := hA
  have hy : (∀ a' : Int32 × XS, y = .inl a' → Sm A σ a'.2 ∧ Reg A a'.2) ∧ (∀ b2 : ((Int32 × XS) ⊕ (Int64 × XS)), y = .inr b2 → (∀ a' : Int32 × XS, b2 = .inl a' → Sm A σ a'.2 ∧ Reg A a'.2) ∧ (∀ b1 : Int64 × XS, b2 = .inr b1 → Sm A σ b1.2 ∧ Reg A b1.2)) := by
    have hm := Sm.rf (A := A) (σ := σ)
    obtain ⟨_, e1, hf⟩ := xbd hf
    obtain ⟨v3, e2, hf⟩ := xbd hf
    by_cases q : v3 ≤ x3
    · have hf := xip q hf
      obtain ⟨b0, hg, e9⟩ := xmj hf
      subst e9
      have hf := hg
      refine ⟨fun a' e => xnc2 e, fun b e => ?_⟩
      have h9 := Sum.inr.inj e
      subst h9
      have hf := xsj hf
      subst hf
      exact ⟨fun a' e => (by have h9 := Sum.inl.inj e; subst h9; exact ⟨hm, hA⟩), fun b e => xnc1 e⟩
    · have hf := xin q hf
      obtain ⟨z5, e4, hf⟩ := xbd hf
      obtain ⟨v7, e6, hf⟩ := xbd hf
      obtain ⟨z9, e8, hf⟩ := xbd hf
      obtain ⟨v11, e10, hf⟩ := xbd hf
      by_cases q : v7 = v11
      · have hf := xip q hf
        obtain ⟨z13, e12, hf⟩ := xbd hf
        have hz13 := xgR_reg rfl hA hr0 e12
        obtain ⟨σ15, e14, hf⟩ := xbd hf
        obtain ⟨hm9, hA⟩ := xsL_reg hA hz13 e14
        have hm := hm.tr hm9
        exact ⟨fun a' e => ⟨hm.tr ((n_X12_down_l73 (a := ((0 : Int32), σ15)) hA hr0 hf).1 a' e).1, ((n_X12_down_l73 (a := ((0 : Int32), σ15)) hA hr0 hf).1 a' e).2⟩, fun b2 eb2 => ⟨fun a' e => ⟨hm.tr (((n_X12_down_l73 (a := ((0 : Int32), σ15)) hA hr0 hf).2 b2 eb2).1 a' e).1, (((n_X12_down_l73 (a := ((0 : Int32), σ15)) hA hr0 hf).2 b2 eb2).1 a' e).2⟩, fun b1 eb1 => ⟨hm.tr (((n_X12_down_l73 (a := ((0 : Int32), σ15)) hA hr0 hf).2 b2 eb2).2 b1 eb1).1, (((n_X12_down_l73 (a := ((0 : Int32), σ15)) hA hr0 hf).2 b2 eb2).2 b1 eb1).2⟩⟩⟩
      · have hf := xin q hf
        have hf := xsj hf
        subst hf
        exact ⟨fun a' e => (by have h9 := Sum.inl.inj e; subst h9; exact ⟨hm, hA⟩), fun b e => xnc1 e⟩
  cases y with
  | inl a' =>
    obtain ⟨hm, hA1⟩ := hy.1 a' rfl
    have h1 := hc a' rfl hA1
    exact ⟨fun a' e => ⟨hm.tr ((h1).1 a' e).1, ((h1).1 a' e).2⟩, fun b1 eb1 => ⟨hm.tr ((h1).2 b1 eb1).1, ((h1).2 b1 eb1).2⟩⟩
  | inr b =>
    have h1 := he b rfl
    subst h1
    exact hy.2 _ rfl
theorem n_X12_down_l27 {A : Nat → Prop} {r0 : Nat} {x1 : Int32} {a : Int32 × XS} {x : Int64 × XS} (hA : Reg A a.2) (hr0 : A r0) (hf : xloop (f_X12_down_b27 r0 x1) a = some x) : Sm A a.2 x.2 ∧ Reg A x.2 := by
  revert hA
  refine xloop_ind (P := fun a => Reg A a.2 → Sm A a.2 x.2 ∧ Reg A x.2) (fun a y hf hc he => ?_) hf
  obtain ⟨x2, σ⟩ := a
  intro hA
  have hA0 : Reg A σ := hA
  have hy : (∀ a' : Int32 × XS, y = .inl a' → Sm A σ a'.2 ∧ Reg A a'.2) ∧ (∀ b1 : Int64 × XS, y = .inr b1 → Sm A σ b1.2 ∧ Reg A b1.2) := by
    have hm := Sm.rf (A := A) (σ := σ)
    obtain ⟨v2, e1, hf⟩ := xbd hf
    by_cases q : v2 ≤ x2
    · have hf := xip q hf
      obtain ⟨b0, hg, e9⟩ := xmj hf
      subst e9
      have hf := hg
      refine ⟨fun a' e => xnc2 e, fun b e => ?_⟩
      have h9 := Sum.inr.inj e
      subst h9
      obtain ⟨z4, e3, hf⟩ := xbd hf
      obtain ⟨v6, e5, hf⟩ := xbd hf
      have hf := xsj hf
      subst hf
      exact ⟨hm, hA⟩
    · have hf := xin q hf
      exact ⟨fun a' e => ⟨hm.tr ((n_X12_down_l37 (a := ((0 : Int32), σ)) hA hr0 hf).1 a' e).1, ((n_X12_down_l37 (a := ((0 : Int32), σ)) hA hr0 hf).1 a' e).2⟩, fun b1 eb1 => ⟨hm.tr ((n_X12_down_l37 (a := ((0 : Int32), σ)) hA hr0 hf).2 b1 eb1).1, ((n_X12_down_l37 (a := ((0 : Int32), σ)) hA hr0 hf).2 b1 eb1).2⟩⟩
  cases y with
  | inl a' =>
    obtain ⟨hm, hA1⟩ := hy.1 a' rfl
    have h1 := hc a' rfl hA1
    exact ⟨hm.tr (h1).1, (h1).2⟩
  | inr b =>
    have h1 := he b rfl
    subst h1
    exact hy.2 _ rfl
theorem n_X12_down {A : Nat → Prop} {σ : XS} {r0 : Nat} {x1 : Int32} {x : Int64 × XS} (hA : Reg A σ) (hr0 : A r0) (hf : f_X12_down σ r0 x1 = some x) : Sm A σ x.2 ∧ Reg A x.2 := by
  have hm := Sm.rf (A := A) (σ := σ)
  obtain ⟨_, e1, hf⟩ := xbd hf
  obtain ⟨v3, e2, hf⟩ := xbd hf
  by_cases q : v3 = 0
  · have hf := xip q hf
    have hf := xsj hf
    subst hf
    exact ⟨hm, hA⟩
  · have hf := xin q hf
    obtain ⟨_, e4, hf⟩ := xbd hf
    obtain ⟨v6, e5, hf⟩ := xbd hf
    by_cases q : v6 ≤ (10 : Int32)
    · have hf := xip q hf
      obtain ⟨_, e7, hf⟩ := xbd hf
      obtain ⟨σ9, e8, hf⟩ := xbd hf
      obtain ⟨hm9, hA⟩ := n_X12_knows hA hr0 e8
      have hm := hm.tr hm9
      exact ⟨hm.tr (n_X12_down_l27 (a := ((0 : Int32), σ9)) hA hr0 hf).1, (n_X12_down_l27 (a := ((0 : Int32), σ9)) hA hr0 hf).2⟩
    · have hf := xin q hf
      have hf := xsj hf
      subst hf
      exact ⟨hm, hA⟩
theorem n_X12_fail {A : Nat → Prop} {σ : XS} {r0 : Nat} {x1 : Int32} {x : XS} (hA : Reg A σ) (hr0 : A r0) (hf : f_X12_fail σ r0 x1 = some x) : Sm A σ x ∧ Reg A x := by
  have hm := Sm.rf (A := A) (σ := σ)
  obtain ⟨v2, e1, hf⟩ := xbd hf
  by_cases q : v2 ≤ 0
  · have hf := xip q hf
    obtain ⟨σ4, e3, hf⟩ := xbd hf
    obtain ⟨hm9, hA⟩ := xpI_reg hA hr0 e3
    have hm := hm.tr hm9
    obtain ⟨z6, e5, hf⟩ := xbd hf
    obtain ⟨v8, e7, hf⟩ := xbd hf
    obtain ⟨v10, e9, hf⟩ := xbd hf
    obtain ⟨σ12, e11, hf⟩ := xbd hf
    obtain ⟨hm9, hA⟩ := xpI_reg hA hr0 e11
    have hm := hm.tr hm9
    have hf := xsj hf
    subst hf
    exact ⟨hm, hA⟩
  · have hf := xin q hf
    have hf := xsj hf
    subst hf
    exact ⟨hm, hA⟩
theorem n_X12_marks_l50 {A : Nat → Prop} {r0 : Nat} {x1 : Int32} {a : Int32 × XS} {x : XS} (hA : Reg A a.2) (hr0 : A r0) (hf : xloop (f_X12_marks_b50 r0 x1) a = some x) : Sm A a.2 x ∧ Reg A x := by
  revert hA
  refine xloop_ind (P := fun a => Reg A a.2 → Sm A a.2 x ∧ Reg A x) (fun a y hf hc he => ?_) hf
  obtain ⟨x2, σ⟩ := a
  intro hA
  have hA0 : Reg A σ := hA
  have hy : (∀ a' : Int32 × XS, y = .inl a' → Sm A σ a'.2 ∧ Reg A a'.2) ∧ (∀ b1 : XS, y = .inr b1 → Sm A σ b1 ∧ Reg A b1) := by
    have hm := Sm.rf (A := A) (σ := σ)
    by_cases q : (66 : Int32) ≤ x2
    · have hf := xip q hf
      obtain ⟨b0, hg, e9⟩ := xmj hf
      subst e9
      have hf := hg
      refine ⟨fun a' e => xnc2 e, fun b e => ?_⟩
      have h9 := Sum.inr.inj e
      subst h9
      obtain ⟨v2, e1, hf⟩ := xbd hf
      obtain ⟨σ4, e3, hf⟩ := xbd hf
      obtain ⟨hm9, hA⟩ := xpI_reg hA hr0 e3
      have hm := hm.tr hm9
      have hf := xsj hf
      subst hf
      exact ⟨hm, hA⟩
    · have hf := xin q hf
      obtain ⟨z2, e1, hf⟩ := xbd hf
      have hz2 := xgR_reg rfl hA hr0 e1
      obtain ⟨z4, e3, hf⟩ := xbd hf
      obtain ⟨v6, e5, hf⟩ := xbd hf
      obtain ⟨σ8, e7, hf⟩ := xbd hf
      obtain ⟨hm9, hA⟩ := xsI_reg hA hz2 e7
      have hm := hm.tr hm9
      have hf := xsj hf
      subst hf
      exact ⟨fun a' e => (by have h9 := Sum.inl.inj e; subst h9; exact ⟨hm, hA⟩), fun b e => xnc1 e⟩
  cases y with
  | inl a' =>
    obtain ⟨hm, hA1⟩ := hy.1 a' rfl
    have h1 := hc a' rfl hA1
    exact ⟨hm.tr (h1).1, (h1).2⟩
  | inr b =>
    have h1 := he b rfl
    subst h1
    exact hy.2 _ rfl
theorem n_X12_marks_j32 {A : Nat → Prop} {σ : XS} {r0 : Nat} {x : XS} (hA : Reg A σ) (hr0 : A r0) (hf : f_X12_marks_j32 σ r0 = some x) : Sm A σ x ∧ Reg A x := by
  have hm := Sm.rf (A := A) (σ := σ)
  obtain ⟨v2, e1, hf⟩ := xbd hf
  obtain ⟨v4, e3, hf⟩ := xbd hf
  exact ⟨hm.tr (n_X12_marks_l50 (a := ((0 : Int32), σ)) hA hr0 hf).1, (n_X12_marks_l50 (a := ((0 : Int32), σ)) hA hr0 hf).2⟩
theorem n_X12_marks {A : Nat → Prop} {σ : XS} {r0 : Nat} {x : XS} (hA : Reg A σ) (hr0 : A r0) (hf : f_X12_marks σ r0 = some x) : Sm A σ x ∧ Reg A x := by
  have hm := Sm.rf (A := A) (σ := σ)
  obtain ⟨v2, e1, hf⟩ := xbd hf
  by_cases q : v2 = (40 : Int32)
  · have hf := xip q hf
    obtain ⟨v4, e3, hf⟩ := xbd hf
    obtain ⟨σ6, e5, hf⟩ := xbd hf
    obtain ⟨hm9, hA⟩ := xpI_reg hA hr0 e5
    have hm := hm.tr hm9
    obtain ⟨v8, e7, hf⟩ := xbd hf
    obtain ⟨σ10, e9, hf⟩ := xbd hf
    obtain ⟨hm9, hA⟩ := xpI_reg hA hr0 e9
    have hm := hm.tr hm9
    exact ⟨hm.tr (n_X12_marks_j32 hA hr0 hf).1, (n_X12_marks_j32 hA hr0 hf).2⟩
  · have hf := xin q hf
    exact ⟨hm.tr (n_X12_marks_j32 hA hr0 hf).1, (n_X12_marks_j32 hA hr0 hf).2⟩
theorem n_X12_fall {A : Nat → Prop} {σ : XS} {r0 : Nat} {x : Int32 × XS} (hA : Reg A σ) (hr0 : A r0) (hf : f_X12_fall σ r0 = some x) : Sm A σ x.2 ∧ Reg A x.2 := by
  have hm := Sm.rf (A := A) (σ := σ)
  obtain ⟨_, e1, hf⟩ := xbd hf
  obtain ⟨v3, e2, hf⟩ := xbd hf
  by_cases q : v3 = 0
  · have hf := xip q hf
    have hf := xsj hf
    subst hf
    exact ⟨hm, hA⟩
  · have hf := xin q hf
    obtain ⟨_, e4, hf⟩ := xbd hf
    obtain ⟨σ6, e5, hf⟩ := xbd hf
    obtain ⟨hm9, hA⟩ := n_X12_knows hA hr0 e5
    have hm := hm.tr hm9
    obtain ⟨z8, e7, hf⟩ := xbd hf
    obtain ⟨v10, e9, hf⟩ := xbd hf
    obtain ⟨_, e11, hf⟩ := xbd hf
    obtain ⟨v13, e12, hf⟩ := xbd hf
    by_cases q : v13 = 0
    · have hf := xip q hf
      have hf := xsj hf
      subst hf
      exact ⟨hm, hA⟩
    · have hf := xin q hf
      obtain ⟨_, e14, hf⟩ := xbd hf
      obtain ⟨σ16, e15, hf⟩ := xbd hf
      obtain ⟨hm9, hA⟩ := n_X12_marks hA hr0 e15
      have hm := hm.tr hm9
      obtain ⟨z18, e17, hf⟩ := xbd hf
      have hz18 := xgR_reg rfl hA hr0 e17
      obtain ⟨z20, e19, hf⟩ := xbd hf
      obtain ⟨v22, e21, hf⟩ := xbd hf
      obtain ⟨_, e23, hf⟩ := xbd hf
      obtain ⟨v25, e24, hf⟩ := xbd hf
      obtain ⟨σ27, e26, hf⟩ := xbd hf
      obtain ⟨hm9, hA⟩ := xsI_reg hA hz18 e26
      have hm := hm.tr hm9
      have hf := xsj hf
      subst hf
      exact ⟨hm, hA⟩
theorem n_X12_lays_l3 {A : Nat → Prop} {r0 : Nat} {x1 : Int32} {a : Int32 × XS} {x : XS} (hA : Reg A a.2) (hr0 : A r0) (hf : xloop (f_X12_lays_b3 r0 x1) a = some x) : Sm A a.2 x ∧ Reg A x := by
  revert hA
  refine xloop_ind (P := fun a => Reg A a.2 → Sm A a.2 x ∧ Reg A x) (fun a y hf hc he => ?_) hf
  obtain ⟨x2, σ⟩ := a
  intro hA
  have hA0 : Reg A σ := hA
  have hy : (∀ a' : Int32 × XS, y = .inl a' → Sm A σ a'.2 ∧ Reg A a'.2) ∧ (∀ b1 : XS, y = .inr b1 → Sm A σ b1 ∧ Reg A b1) := by
    have hm := Sm.rf (A := A) (σ := σ)
    by_cases q : x2 < 0
    · have hf := xip q hf
      obtain ⟨b0, hg, e9⟩ := xmj hf
      subst e9
      have hf := hg
      refine ⟨fun a' e => xnc2 e, fun b e => ?_⟩
      have h9 := Sum.inr.inj e
      subst h9
      have hf := xsj hf
      subst hf
      exact ⟨hm, hA⟩
    · have hf := xin q hf
      obtain ⟨z2, e1, hf⟩ := xbd hf
      have hz2 := xgR_reg rfl hA hr0 e1
      obtain ⟨v4, e3, hf⟩ := xbd hf
      obtain ⟨σ6, e5, hf⟩ := xbd hf
      obtain ⟨hm9, hA⟩ := xsI_reg hA hz2 e5
      have hm := hm.tr hm9
      obtain ⟨v8, e7, hf⟩ := xbd hf
      obtain ⟨σ10, e9, hf⟩ := xbd hf
      obtain ⟨hm9, hA⟩ := xpI_reg hA hr0 e9
      have hm := hm.tr hm9
      have hf := xsj hf
      subst hf
      exact ⟨fun a' e => (by have h9 := Sum.inl.inj e; subst h9; exact ⟨hm, hA⟩), fun b e => xnc1 e⟩
  cases y with
  | inl a' =>
    obtain ⟨hm, hA1⟩ := hy.1 a' rfl
    have h1 := hc a' rfl hA1
    exact ⟨hm.tr (h1).1, (h1).2⟩
  | inr b =>
    have h1 := he b rfl
    subst h1
    exact hy.2 _ rfl
theorem n_X12_lays {A : Nat → Prop} {σ : XS} {r0 : Nat} {x1 : Int32} {x : XS} (hA : Reg A σ) (hr0 : A r0) (hf : f_X12_lays σ r0 x1 = some x) : Sm A σ x ∧ Reg A x := by
  have hm := Sm.rf (A := A) (σ := σ)
  exact ⟨hm.tr (n_X12_lays_l3 (a := ((24 : Int32), σ)) hA hr0 hf).1, (n_X12_lays_l3 (a := ((24 : Int32), σ)) hA hr0 hf).2⟩
theorem n_X12_feed {A : Nat → Prop} {σ : XS} {r0 : Nat} {x1 : Int32} {x2 : Int32} {x3 : Int32} {x4 : Int32} {x5 : Int32} {x : Int32 × XS} (hA : Reg A σ) (hr0 : A r0) (hf : f_X12_feed σ r0 x1 x2 x3 x4 x5 = some x) : Sm A σ x.2 ∧ Reg A x.2 := by
  have hm := Sm.rf (A := A) (σ := σ)
  obtain ⟨v2, e1, hf⟩ := xbd hf
  by_cases q : (v2 + (20 : Int32)) ≤ (2000 : Int32)
  · have hf := xip q hf
    obtain ⟨_, e3, hf⟩ := xbd hf
    obtain ⟨σ5, e4, hf⟩ := xbd hf
    obtain ⟨hm9, hA⟩ := n_X12_lays hA hr0 e4
    have hm := hm.tr hm9
    obtain ⟨_, e6, hf⟩ := xbd hf
    obtain ⟨σ8, e7, hf⟩ := xbd hf
    obtain ⟨hm9, hA⟩ := n_X12_lays hA hr0 e7
    have hm := hm.tr hm9
    obtain ⟨_, e9, hf⟩ := xbd hf
    obtain ⟨σ11, e10, hf⟩ := xbd hf
    obtain ⟨hm9, hA⟩ := n_X12_lays hA hr0 e10
    have hm := hm.tr hm9
    obtain ⟨_, e12, hf⟩ := xbd hf
    obtain ⟨σ14, e13, hf⟩ := xbd hf
    obtain ⟨hm9, hA⟩ := n_X12_lays hA hr0 e13
    have hm := hm.tr hm9
    obtain ⟨_, e15, hf⟩ := xbd hf
    obtain ⟨σ17, e16, hf⟩ := xbd hf
    obtain ⟨hm9, hA⟩ := n_X12_lays hA hr0 e16
    have hm := hm.tr hm9
    obtain ⟨v19, e18, hf⟩ := xbd hf
    have hf := xsj hf
    subst hf
    exact ⟨hm, hA⟩
  · have hf := xin q hf
    have hf := xsj hf
    subst hf
    exact ⟨hm, hA⟩
theorem n_X12_glass_j110 {A : Nat → Prop} {σ : XS} {r0 : Nat} {w2 : Int64} {x4 : Int32} {x6 : Int32} {t0 : Nat} {t1 : Int32} {x : ((Int64 × Int32 × XS) ⊕ (Int32 × XS))} (hA : Reg A σ) (ht0 : A t0) (hf : f_X12_glass_j110 σ r0 w2 x4 x6 t0 t1 = some x) : (∀ a' : Int64 × Int32 × XS, x = .inl a' → Sm A σ a'.2.2 ∧ Reg A a'.2.2) ∧ (∀ b1 : Int32 × XS, x = .inr b1 → Sm A σ b1.2 ∧ Reg A b1.2) := by
  have hm := Sm.rf (A := A) (σ := σ)
  by_cases q : (lg_cmp ((w2 / (65536 : Int64)) - (w2 / (65536 : Int64)) / (2 : Int64) * (2 : Int64)) (1 : Int64)) = 0
  · have hf := xip q hf
    obtain ⟨σ2, e1, hf⟩ := xbd hf
    obtain ⟨hm9, hA⟩ := xsI_reg hA ht0 e1
    have hm := hm.tr hm9
    have hf := xsj hf
    subst hf
    exact ⟨fun a' e => (by have h9 := Sum.inl.inj e; subst h9; exact ⟨hm, hA⟩), fun b e => xnc1 e⟩
  · have hf := xin q hf
    obtain ⟨σ2, e1, hf⟩ := xbd hf
    obtain ⟨hm9, hA⟩ := xsI_reg hA ht0 e1
    have hm := hm.tr hm9
    have hf := xsj hf
    subst hf
    exact ⟨fun a' e => (by have h9 := Sum.inl.inj e; subst h9; exact ⟨hm, hA⟩), fun b e => xnc1 e⟩
theorem n_X12_glass_j74 {A : Nat → Prop} {σ : XS} {r0 : Nat} {w2 : Int64} {x4 : Int32} {x5 : Int32} {t0 : Int32} {x : ((Int64 × Int32 × XS) ⊕ (Int32 × XS))} (hA : Reg A σ) (hr0 : A r0) (hf : f_X12_glass_j74 σ r0 w2 x4 x5 t0 = some x) : (∀ a' : Int64 × Int32 × XS, x = .inl a' → Sm A σ a'.2.2 ∧ Reg A a'.2.2) ∧ (∀ b1 : Int32 × XS, x = .inr b1 → Sm A σ b1.2 ∧ Reg A b1.2) := by
  have hm := Sm.rf (A := A) (σ := σ)
  obtain ⟨_, e1, hf⟩ := xbd hf
  obtain ⟨v3, e2, hf⟩ := xbd hf
  by_cases q : 0 ≤ v3
  · have hf := xip q hf
    obtain ⟨v5, e4, hf⟩ := xbd hf
    obtain ⟨z7, e6, hf⟩ := xbd hf
    have hz7 := xgR_reg rfl hA hr0 e6
    by_cases q : x5 = 0
    · have hf := xip q hf
      exact ⟨fun a' e => ⟨hm.tr ((n_X12_glass_j110 hA hz7 hf).1 a' e).1, ((n_X12_glass_j110 hA hz7 hf).1 a' e).2⟩, fun b1 eb1 => ⟨hm.tr ((n_X12_glass_j110 hA hz7 hf).2 b1 eb1).1, ((n_X12_glass_j110 hA hz7 hf).2 b1 eb1).2⟩⟩
    · have hf := xin q hf
      exact ⟨fun a' e => ⟨hm.tr ((n_X12_glass_j110 hA hz7 hf).1 a' e).1, ((n_X12_glass_j110 hA hz7 hf).1 a' e).2⟩, fun b1 eb1 => ⟨hm.tr ((n_X12_glass_j110 hA hz7 hf).2 b1 eb1).1, ((n_X12_glass_j110 hA hz7 hf).2 b1 eb1).2⟩⟩
  · have hf := xin q hf
    have hf := xsj hf
    subst hf
    exact ⟨fun a' e => (by have h9 := Sum.inl.inj e; subst h9; exact ⟨hm, hA⟩), fun b e => xnc1 e⟩
theorem n_X12_glass_j55 {A : Nat → Prop} {σ : XS} {r0 : Nat} {w2 : Int64} {x4 : Int32} {t0 : Int32} {x : ((Int64 × Int32 × XS) ⊕ (Int32 × XS))} (hA : Reg A σ) (hr0 : A r0) (hf : f_X12_glass_j55 σ r0 w2 x4 t0 = some x) : (∀ a' : Int64 × Int32 × XS, x = .inl a' → Sm A σ a'.2.2 ∧ Reg A a'.2.2) ∧ (∀ b1 : Int32 × XS, x = .inr b1 → Sm A σ b1.2 ∧ Reg A b1.2) := by
  have hm := Sm.rf (A := A) (σ := σ)
  by_cases q : t0 = 0
  · have hf := xip q hf
    exact ⟨fun a' e => ⟨hm.tr ((n_X12_glass_j74 hA hr0 hf).1 a' e).1, ((n_X12_glass_j74 hA hr0 hf).1 a' e).2⟩, fun b1 eb1 => ⟨hm.tr ((n_X12_glass_j74 hA hr0 hf).2 b1 eb1).1, ((n_X12_glass_j74 hA hr0 hf).2 b1 eb1).2⟩⟩
  · have hf := xin q hf
    obtain ⟨_, e1, hf⟩ := xbd hf
    obtain ⟨v3, e2, hf⟩ := xbd hf
    exact ⟨fun a' e => ⟨hm.tr ((n_X12_glass_j74 hA hr0 hf).1 a' e).1, ((n_X12_glass_j74 hA hr0 hf).1 a' e).2⟩, fun b1 eb1 => ⟨hm.tr ((n_X12_glass_j74 hA hr0 hf).2 b1 eb1).1, ((n_X12_glass_j74 hA hr0 hf).2 b1 eb1).2⟩⟩
theorem n_X12_glass_l30 {A : Nat → Prop} {r0 : Nat} {a : Int64 × Int32 × XS} {x : Int32 × XS} (hA : Reg A a.2.2) (hr0 : A r0) (hf : xloop (f_X12_glass_b30 r0) a = some x) : Sm A a.2.2 x.2 ∧ Reg A x.2 := by
  revert hA
  refine xloop_ind (P := fun a => Reg A a.2.2 → Sm A a.2.2 x.2 ∧ Reg A x.2) (fun a y hf hc he => ?_) hf
  obtain ⟨w2, x4, σ⟩ := a
  intro hA
  have hA0 : Reg A σ := hA
  have hy : (∀ a' : Int64 × Int32 × XS, y = .inl a' → Sm A σ a'.2.2 ∧ Reg A a'.2.2) ∧ (∀ b1 : Int32 × XS, y = .inr b1 → Sm A σ b1.2 ∧ Reg A b1.2) := by
    have hm := Sm.rf (A := A) (σ := σ)
    obtain ⟨_, e1, hf⟩ := xbd hf
    obtain ⟨v3, e2, hf⟩ := xbd hf
    by_cases q : ((2 : Int32) * v3) ≤ x4
    · have hf := xip q hf
      obtain ⟨b0, hg, e9⟩ := xmj hf
      subst e9
      have hf := hg
      refine ⟨fun a' e => xnc2 e, fun b e => ?_⟩
      have h9 := Sum.inr.inj e
      subst h9
      obtain ⟨σ5, e4, hf⟩ := xbd hf
      obtain ⟨hm9, hA⟩ := xpI_reg hA hr0 e4
      have hm := hm.tr hm9
      have hf := xsj hf
      subst hf
      exact ⟨hm, hA⟩
    · have hf := xin q hf
      obtain ⟨_, e4, hf⟩ := xbd hf
      obtain ⟨v6, e5, hf⟩ := xbd hf
      by_cases q : x4 < v6
      · have hf := xip q hf
        exact ⟨fun a' e => ⟨hm.tr ((n_X12_glass_j55 hA hr0 hf).1 a' e).1, ((n_X12_glass_j55 hA hr0 hf).1 a' e).2⟩, fun b1 eb1 => ⟨hm.tr ((n_X12_glass_j55 hA hr0 hf).2 b1 eb1).1, ((n_X12_glass_j55 hA hr0 hf).2 b1 eb1).2⟩⟩
      · have hf := xin q hf
        exact ⟨fun a' e => ⟨hm.tr ((n_X12_glass_j55 hA hr0 hf).1 a' e).1, ((n_X12_glass_j55 hA hr0 hf).1 a' e).2⟩, fun b1 eb1 => ⟨hm.tr ((n_X12_glass_j55 hA hr0 hf).2 b1 eb1).1, ((n_X12_glass_j55 hA hr0 hf).2 b1 eb1).2⟩⟩
  cases y with
  | inl a' =>
    obtain ⟨hm, hA1⟩ := hy.1 a' rfl
    have h1 := hc a' rfl hA1
    exact ⟨hm.tr (h1).1, (h1).2⟩
  | inr b =>
    have h1 := he b rfl
    subst h1
    exact hy.2 _ rfl
theorem n_X12_glass {A : Nat → Prop} {σ : XS} {r0 : Nat} {x1 : Int32} {x : Int32 × XS} (hA : Reg A σ) (hr0 : A r0) (hf : f_X12_glass σ r0 x1 = some x) : Sm A σ x.2 ∧ Reg A x.2 := by
  have hm := Sm.rf (A := A) (σ := σ)
  obtain ⟨v2, e1, hf⟩ := xbd hf
  by_cases q : v2 = 0
  · have hf := xip q hf
    have hf := xsj hf
    subst hf
    exact ⟨hm, hA⟩
  · have hf := xin q hf
    obtain ⟨_, e3, hf⟩ := xbd hf
    obtain ⟨v5, e4, hf⟩ := xbd hf
    by_cases q : v5 = 0
    · have hf := xip q hf
      have hf := xsj hf
      subst hf
      exact ⟨hm, hA⟩
    · have hf := xin q hf
      obtain ⟨_, e6, hf⟩ := xbd hf
      obtain ⟨σ8, e7, hf⟩ := xbd hf
      obtain ⟨hm9, hA⟩ := n_X12_marks hA hr0 e7
      have hm := hm.tr hm9
      exact ⟨hm.tr (n_X12_glass_l30 (a := (x1.toInt64, (0 : Int32), σ8)) hA hr0 hf).1, (n_X12_glass_l30 (a := (x1.toInt64, (0 : Int32), σ8)) hA hr0 hf).2⟩
theorem n_X12_ground {A : Nat → Prop} {σ : XS} {r0 : Nat} {x1 : Int32} {x : Int32 × XS} (hA : Reg A σ) (hr0 : A r0) (hf : f_X12_ground σ r0 x1 = some x) : Sm A σ x.2 ∧ Reg A x.2 := by
  have hm := Sm.rf (A := A) (σ := σ)
  obtain ⟨_, e1, hf⟩ := xbd hf
  obtain ⟨σ3, e2, hf⟩ := xbd hf
  obtain ⟨hm9, hA⟩ := n_X12_knows hA hr0 e2
  have hm := hm.tr hm9
  obtain ⟨v5, e4, hf⟩ := xbd hf
  by_cases q : v5 = 0
  · have hf := xip q hf
    have hf := xsj hf
    subst hf
    exact ⟨hm, hA⟩
  · have hf := xin q hf
    by_cases ho : (x1).toInt < 0 ∨ 3 < (x1).toInt
    · have hf := xsw_out ho rfl hf
      have hf := xsj hf
      subst hf
      exact ⟨hm, hA⟩
    · rcases (by omega : (x1).toInt = 0 + ((0 : Nat) : Int) ∨ (x1).toInt = 0 + ((1 : Nat) : Int) ∨ (x1).toInt = 0 + ((2 : Nat) : Int) ∨ (x1).toInt = 0 + ((3 : Nat) : Int)) with hk1 | hk1 | hk1 | hk1
      · have hf := xsw_in 0 hk1 rfl hf
        obtain ⟨z7, e6, hf⟩ := xbd hf
        obtain ⟨v9, e8, hf⟩ := xbd hf
        have hf := xsj hf
        subst hf
        exact ⟨hm, hA⟩
      · have hf := xsw_in 1 hk1 rfl hf
        obtain ⟨z7, e6, hf⟩ := xbd hf
        obtain ⟨z9, e8, hf⟩ := xbd hf
        obtain ⟨v11, e10, hf⟩ := xbd hf
        obtain ⟨v13, e12, hf⟩ := xbd hf
        have hf := xsj hf
        subst hf
        exact ⟨hm, hA⟩
      · have hf := xsw_in 2 hk1 rfl hf
        obtain ⟨z7, e6, hf⟩ := xbd hf
        obtain ⟨v9, e8, hf⟩ := xbd hf
        obtain ⟨_, e10, hf⟩ := xbd hf
        obtain ⟨v12, e11, hf⟩ := xbd hf
        have hf := xsj hf
        subst hf
        exact ⟨hm, hA⟩
      · have hf := xsw_in 3 hk1 rfl hf
        obtain ⟨v7, e6, hf⟩ := xbd hf
        by_cases q : v7 = (1 : Int32)
        · have hf := xip q hf
          have hf := xsj hf
          subst hf
          exact ⟨hm, hA⟩
        · have hf := xin q hf
          obtain ⟨z9, e8, hf⟩ := xbd hf
          obtain ⟨v11, e10, hf⟩ := xbd hf
          obtain ⟨z13, e12, hf⟩ := xbd hf
          obtain ⟨v15, e14, hf⟩ := xbd hf
          have hf := xsj hf
          subst hf
          exact ⟨hm, hA⟩
theorem n_X12_laysHills_j99 {A : Nat → Prop} {σ : XS} {r0 : Nat} {x1 : Int32} {x2 : Int32} {x3 : Int32} {x : ((Int32 × Int32 × XS) ⊕ ((Int32 × XS) ⊕ (XS)))} (hA : Reg A σ) (hr0 : A r0) (hf : f_X12_laysHills_j99 σ r0 x1 x2 x3 = some x) : (∀ a' : Int32 × Int32 × XS, x = .inl a' → Sm A σ a'.2.2 ∧ Reg A a'.2.2) ∧ (∀ b2 : ((Int32 × XS) ⊕ (XS)), x = .inr b2 → (∀ a' : Int32 × XS, b2 = .inl a' → Sm A σ a'.2 ∧ Reg A a'.2) ∧ (∀ b1 : XS, b2 = .inr b1 → Sm A σ b1 ∧ Reg A b1)) := by
  have hm := Sm.rf (A := A) (σ := σ)
  obtain ⟨z2, e1, hf⟩ := xbd hf
  obtain ⟨v4, e3, hf⟩ := xbd hf
  by_cases q : x3 < v4
  · have hf := xip q hf
    obtain ⟨z6, e5, hf⟩ := xbd hf
    have hz6 := xgR_reg rfl hA hr0 e5
    obtain ⟨σ8, e7, hf⟩ := xbd hf
    obtain ⟨hm9, hA⟩ := xsI_reg hA hz6 e7
    have hm := hm.tr hm9
    have hf := xsj hf
    subst hf
    exact ⟨fun a' e => (by have h9 := Sum.inl.inj e; subst h9; exact ⟨hm, hA⟩), fun b e => xnc1 e⟩
  · have hf := xin q hf
    have hf := xsj hf
    subst hf
    exact ⟨fun a' e => (by have h9 := Sum.inl.inj e; subst h9; exact ⟨hm, hA⟩), fun b e => xnc1 e⟩
theorem n_X12_laysHills_l40 {A : Nat → Prop} {σ : XS} {r0 : Nat} {x1 : Int32} {x2 : Int32} {a : Int32 × Int32} {x : ((Int32 × Int32 × XS) ⊕ ((Int32 × XS) ⊕ (XS)))} (hA : Reg A σ) (hr0 : A r0) (hf : xloop (f_X12_laysHills_b40 σ r0 x1 x2) a = some x) : (∀ a' : Int32 × Int32 × XS, x = .inl a' → Sm A σ a'.2.2 ∧ Reg A a'.2.2) ∧ (∀ b2 : ((Int32 × XS) ⊕ (XS)), x = .inr b2 → (∀ a' : Int32 × XS, b2 = .inl a' → Sm A σ a'.2 ∧ Reg A a'.2) ∧ (∀ b1 : XS, b2 = .inr b1 → Sm A σ b1 ∧ Reg A b1)) := by
  revert hA
  refine xloop_ind (P := fun a => Reg A σ → (∀ a' : Int32 × Int32 × XS, x = .inl a' → Sm A σ a'.2.2 ∧ Reg A a'.2.2) ∧ (∀ b2 : ((Int32 × XS) ⊕ (XS)), x = .inr b2 → (∀ a' : Int32 × XS, b2 = .inl a' → Sm A σ a'.2 ∧ Reg A a'.2) ∧ (∀ b1 : XS, b2 = .inr b1 → Sm A σ b1 ∧ Reg A b1))) (fun a y hf hc he => ?_) hf
  obtain ⟨x3, x4⟩ := a
  intro hA
  have hA0 : Reg A σ := hA
  have hy : (∀ a' : Int32 × Int32, y = .inl a' → True) ∧ (∀ b3 : ((Int32 × Int32 × XS) ⊕ ((Int32 × XS) ⊕ (XS))), y = .inr b3 → (∀ a' : Int32 × Int32 × XS, b3 = .inl a' → Sm A σ a'.2.2 ∧ Reg A a'.2.2) ∧ (∀ b2 : ((Int32 × XS) ⊕ (XS)), b3 = .inr b2 → (∀ a' : Int32 × XS, b2 = .inl a' → Sm A σ a'.2 ∧ Reg A a'.2) ∧ (∀ b1 : XS, b2 = .inr b1 → Sm A σ b1 ∧ Reg A b1))) := by
    have hm := Sm.rf (A := A) (σ := σ)
    obtain ⟨_, e1, hf⟩ := xbd hf
    obtain ⟨v3, e2, hf⟩ := xbd hf
    by_cases q : v3 ≤ x4
    · have hf := xip q hf
      obtain ⟨b0, hg, e9⟩ := xmj hf
      subst e9
      have hf := hg
      refine ⟨fun a' e => xnc2 e, fun b e => ?_⟩
      have h9 := Sum.inr.inj e
      subst h9
      obtain ⟨z5, e4, hf⟩ := xbd hf
      obtain ⟨v7, e6, hf⟩ := xbd hf
      by_cases q : v7 ≤ x3
      · have hf := xip q hf
        exact ⟨fun a' e => ⟨hm.tr ((n_X12_laysHills_j99 hA hr0 hf).1 a' e).1, ((n_X12_laysHills_j99 hA hr0 hf).1 a' e).2⟩, fun b2 eb2 => ⟨fun a' e => ⟨hm.tr (((n_X12_laysHills_j99 hA hr0 hf).2 b2 eb2).1 a' e).1, (((n_X12_laysHills_j99 hA hr0 hf).2 b2 eb2).1 a' e).2⟩, fun b1 eb1 => ⟨hm.tr (((n_X12_laysHills_j99 hA hr0 hf).2 b2 eb2).2 b1 eb1).1, (((n_X12_laysHills_j99 hA hr0 hf).2 b2 eb2).2 b1 eb1).2⟩⟩⟩
      · have hf := xin q hf
        obtain ⟨z9, e8, hf⟩ := xbd hf
        obtain ⟨v11, e10, hf⟩ := xbd hf
        exact ⟨fun a' e => ⟨hm.tr ((n_X12_laysHills_j99 hA hr0 hf).1 a' e).1, ((n_X12_laysHills_j99 hA hr0 hf).1 a' e).2⟩, fun b2 eb2 => ⟨fun a' e => ⟨hm.tr (((n_X12_laysHills_j99 hA hr0 hf).2 b2 eb2).1 a' e).1, (((n_X12_laysHills_j99 hA hr0 hf).2 b2 eb2).1 a' e).2⟩, fun b1 eb1 => ⟨hm.tr (((n_X12_laysHills_j99 hA hr0 hf).2 b2 eb2).2 b1 eb1).1, (((n_X12_laysHills_j99 hA hr0 hf).2 b2 eb2).2 b1 eb1).2⟩⟩⟩
    · have hf := xin q hf
      obtain ⟨z5, e4, hf⟩ := xbd hf
      obtain ⟨v7, e6, hf⟩ := xbd hf
      by_cases q : x3 ≤ v7
      · have hf := xip q hf
        have hf := xsj hf
        subst hf
        exact ⟨fun a' e => (by have h9 := Sum.inl.inj e; subst h9; exact trivial), fun b e => xnc1 e⟩
      · have hf := xin q hf
        obtain ⟨z9, e8, hf⟩ := xbd hf
        obtain ⟨v11, e10, hf⟩ := xbd hf
        have hf := xsj hf
        subst hf
        exact ⟨fun a' e => (by have h9 := Sum.inl.inj e; subst h9; exact trivial), fun b e => xnc1 e⟩
  cases y with
  | inl a' =>
    exact hc a' rfl hA0
  | inr b =>
    have h1 := he b rfl
    subst h1
    exact hy.2 _ rfl
theorem n_X12_laysHills_l10 {A : Nat → Prop} {r0 : Nat} {a : Int32 × Int32 × XS} {x : ((Int32 × XS) ⊕ (XS))} (hA : Reg A a.2.2) (hr0 : A r0) (hf : xloop (f_X12_laysHills_b10 r0) a = some x) : (∀ a' : Int32 × XS, x = .inl a' → Sm A a.2.2 a'.2 ∧ Reg A a'.2) ∧ (∀ b1 : XS, x = .inr b1 → Sm A a.2.2 b1 ∧ Reg A b1) := by
  revert hA
  refine xloop_ind (P := fun a => Reg A a.2.2 → (∀ a' : Int32 × XS, x = .inl a' → Sm A a.2.2 a'.2 ∧ Reg A a'.2) ∧ (∀ b1 : XS, x = .inr b1 → Sm A a.2.2 b1 ∧ Reg A b1)) (fun a y hf hc he => ?_) hf
  obtain ⟨x1, x2, σ⟩ := a
  intro hA
  have hA0 : Reg A σ := hA
  have hy : (∀ a' : Int32 × Int32 × XS, y = .inl a' → Sm A σ a'.2.2 ∧ Reg A a'.2.2) ∧ (∀ b2 : ((Int32 × XS) ⊕ (XS)), y = .inr b2 → (∀ a' : Int32 × XS, b2 = .inl a' → Sm A σ a'.2 ∧ Reg A a'.2) ∧ (∀ b1 : XS, b2 = .inr b1 → Sm A σ b1 ∧ Reg A b1)) := by
    have hm := Sm.rf (A := A) (σ := σ)
    obtain ⟨_, e1, hf⟩ := xbd hf
    obtain ⟨v3, e2, hf⟩ := xbd hf
    by_cases q : v3 ≤ x2
    · have hf := xip q hf
      obtain ⟨b0, hg, e9⟩ := xmj hf
      subst e9
      have hf := hg
      refine ⟨fun a' e => xnc2 e, fun b e => ?_⟩
      have h9 := Sum.inr.inj e
      subst h9
      have hf := xsj hf
      subst hf
      exact ⟨fun a' e => (by have h9 := Sum.inl.inj e; subst h9; exact ⟨hm, hA⟩), fun b e => xnc1 e⟩
    · have hf := xin q hf
      obtain ⟨z5, e4, hf⟩ := xbd hf
      obtain ⟨v7, e6, hf⟩ := xbd hf
      by_cases q : v7 = (100000 : Int32)
      · have hf := xip q hf
        have hf := xsj hf
        subst hf
        exact ⟨fun a' e => (by have h9 := Sum.inl.inj e; subst h9; exact ⟨hm, hA⟩), fun b e => xnc1 e⟩
      · have hf := xin q hf
        exact ⟨fun a' e => ⟨hm.tr ((n_X12_laysHills_l40 (a := ((100000 : Int32), (0 : Int32))) hA hr0 hf).1 a' e).1, ((n_X12_laysHills_l40 (a := ((100000 : Int32), (0 : Int32))) hA hr0 hf).1 a' e).2⟩, fun b2 eb2 => ⟨fun a' e => ⟨hm.tr (((n_X12_laysHills_l40 (a := ((100000 : Int32), (0 : Int32))) hA hr0 hf).2 b2 eb2).1 a' e).1, (((n_X12_laysHills_l40 (a := ((100000 : Int32), (0 : Int32))) hA hr0 hf).2 b2 eb2).1 a' e).2⟩, fun b1 eb1 => ⟨hm.tr (((n_X12_laysHills_l40 (a := ((100000 : Int32), (0 : Int32))) hA hr0 hf).2 b2 eb2).2 b1 eb1).1, (((n_X12_laysHills_l40 (a := ((100000 : Int32), (0 : Int32))) hA hr0 hf).2 b2 eb2).2 b1 eb1).2⟩⟩⟩
  cases y with
  | inl a' =>
    obtain ⟨hm, hA1⟩ := hy.1 a' rfl
    have h1 := hc a' rfl hA1
    exact ⟨fun a' e => ⟨hm.tr ((h1).1 a' e).1, ((h1).1 a' e).2⟩, fun b1 eb1 => ⟨hm.tr ((h1).2 b1 eb1).1, ((h1).2 b1 eb1).2⟩⟩
  | inr b =>
    have h1 := he b rfl
    subst h1
    exact hy.2 _ rfl
theorem n_X12_laysHills_l2 {A : Nat → Prop} {r0 : Nat} {a : Int32 × XS} {x : XS} (hA : Reg A a.2) (hr0 : A r0) (hf : xloop (f_X12_laysHills_b2 r0) a = some x) : Sm A a.2 x ∧ Reg A x := by
  revert hA
  refine xloop_ind (P := fun a => Reg A a.2 → Sm A a.2 x ∧ Reg A x) (fun a y hf hc he => ?_) hf
  obtain ⟨x1, σ⟩ := a
  intro hA
  have hA0 : Reg A σ := hA
  have hy : (∀ a' : Int32 × XS, y = .inl a' → Sm A σ a'.2 ∧ Reg A a'.2) ∧ (∀ b1 : XS, y = .inr b1 → Sm A σ b1 ∧ Reg A b1) := by
    have hm := Sm.rf (A := A) (σ := σ)
    by_cases q : x1 = 0
    · have hf := xip q hf
      obtain ⟨b0, hg, e9⟩ := xmj hf
      subst e9
      have hf := hg
      refine ⟨fun a' e => xnc2 e, fun b e => ?_⟩
      have h9 := Sum.inr.inj e
      subst h9
      have hf := xsj hf
      subst hf
      exact ⟨hm, hA⟩
    · have hf := xin q hf
      exact ⟨fun a' e => ⟨hm.tr ((n_X12_laysHills_l10 (a := ((0 : Int32), (0 : Int32), σ)) hA hr0 hf).1 a' e).1, ((n_X12_laysHills_l10 (a := ((0 : Int32), (0 : Int32), σ)) hA hr0 hf).1 a' e).2⟩, fun b1 eb1 => ⟨hm.tr ((n_X12_laysHills_l10 (a := ((0 : Int32), (0 : Int32), σ)) hA hr0 hf).2 b1 eb1).1, ((n_X12_laysHills_l10 (a := ((0 : Int32), (0 : Int32), σ)) hA hr0 hf).2 b1 eb1).2⟩⟩
  cases y with
  | inl a' =>
    obtain ⟨hm, hA1⟩ := hy.1 a' rfl
    have h1 := hc a' rfl hA1
    exact ⟨hm.tr (h1).1, (h1).2⟩
  | inr b =>
    have h1 := he b rfl
    subst h1
    exact hy.2 _ rfl
theorem n_X12_laysHills {A : Nat → Prop} {σ : XS} {r0 : Nat} {x : XS} (hA : Reg A σ) (hr0 : A r0) (hf : f_X12_laysHills σ r0 = some x) : Sm A σ x ∧ Reg A x := by
  have hm := Sm.rf (A := A) (σ := σ)
  exact ⟨hm.tr (n_X12_laysHills_l2 (a := ((1 : Int32), σ)) hA hr0 hf).1, (n_X12_laysHills_l2 (a := ((1 : Int32), σ)) hA hr0 hf).2⟩
theorem n_X12_hill_l27 {A : Nat → Prop} {r0 : Nat} {x1 : Int32} {a : Int32 × XS} {x : Int32 × XS} (hA : Reg A a.2) (hr0 : A r0) (hf : xloop (f_X12_hill_b27 r0 x1) a = some x) : Sm A a.2 x.2 ∧ Reg A x.2 := by
  revert hA
  refine xloop_ind (P := fun a => Reg A a.2 → Sm A a.2 x.2 ∧ Reg A x.2) (fun a y hf hc he => ?_) hf
  obtain ⟨x2, σ⟩ := a
  intro hA
  have hA0 : Reg A σ := hA
  have hy : (∀ a' : Int32 × XS, y = .inl a' → Sm A σ a'.2 ∧ Reg A a'.2) ∧ (∀ b1 : Int32 × XS, y = .inr b1 → Sm A σ b1.2 ∧ Reg A b1.2) := by
    have hm := Sm.rf (A := A) (σ := σ)
    obtain ⟨_, e1, hf⟩ := xbd hf
    obtain ⟨v3, e2, hf⟩ := xbd hf
    by_cases q : v3 ≤ x2
    · have hf := xip q hf
      obtain ⟨b0, hg, e9⟩ := xmj hf
      subst e9
      have hf := hg
      refine ⟨fun a' e => xnc2 e, fun b e => ?_⟩
      have h9 := Sum.inr.inj e
      subst h9
      obtain ⟨_, e4, hf⟩ := xbd hf
      obtain ⟨σ6, e5, hf⟩ := xbd hf
      obtain ⟨hm9, hA⟩ := n_X12_laysHills hA hr0 e5
      have hm := hm.tr hm9
      obtain ⟨z8, e7, hf⟩ := xbd hf
      obtain ⟨v10, e9, hf⟩ := xbd hf
      have hf := xsj hf
      subst hf
      exact ⟨hm, hA⟩
    · have hf := xin q hf
      obtain ⟨z5, e4, hf⟩ := xbd hf
      have hz5 := xgR_reg rfl hA hr0 e4
      obtain ⟨z7, e6, hf⟩ := xbd hf
      obtain ⟨v9, e8, hf⟩ := xbd hf
      obtain ⟨z11, e10, hf⟩ := xbd hf
      obtain ⟨v13, e12, hf⟩ := xbd hf
      by_cases q : v9 = v13
      · have hf := xip q hf
        obtain ⟨z15, e14, hf⟩ := xbd hf
        obtain ⟨v17, e16, hf⟩ := xbd hf
        obtain ⟨σ19, e18, hf⟩ := xbd hf
        obtain ⟨hm9, hA⟩ := xsI_reg hA hz5 e18
        have hm := hm.tr hm9
        have hf := xsj hf
        subst hf
        exact ⟨fun a' e => (by have h9 := Sum.inl.inj e; subst h9; exact ⟨hm, hA⟩), fun b e => xnc1 e⟩
      · have hf := xin q hf
        obtain ⟨σ15, e14, hf⟩ := xbd hf
        obtain ⟨hm9, hA⟩ := xsI_reg hA hz5 e14
        have hm := hm.tr hm9
        have hf := xsj hf
        subst hf
        exact ⟨fun a' e => (by have h9 := Sum.inl.inj e; subst h9; exact ⟨hm, hA⟩), fun b e => xnc1 e⟩
  cases y with
  | inl a' =>
    obtain ⟨hm, hA1⟩ := hy.1 a' rfl
    have h1 := hc a' rfl hA1
    exact ⟨hm.tr (h1).1, (h1).2⟩
  | inr b =>
    have h1 := he b rfl
    subst h1
    exact hy.2 _ rfl
theorem n_X12_hill {A : Nat → Prop} {σ : XS} {r0 : Nat} {x1 : Int32} {x : Int32 × XS} (hA : Reg A σ) (hr0 : A r0) (hf : f_X12_hill σ r0 x1 = some x) : Sm A σ x.2 ∧ Reg A x.2 := by
  have hm := Sm.rf (A := A) (σ := σ)
  obtain ⟨_, e1, hf⟩ := xbd hf
  obtain ⟨v3, e2, hf⟩ := xbd hf
  by_cases q : v3 = 0
  · have hf := xip q hf
    have hf := xsj hf
    subst hf
    exact ⟨hm, hA⟩
  · have hf := xin q hf
    obtain ⟨_, e4, hf⟩ := xbd hf
    obtain ⟨v6, e5, hf⟩ := xbd hf
    by_cases q : v6 ≤ (10 : Int32)
    · have hf := xip q hf
      obtain ⟨_, e7, hf⟩ := xbd hf
      obtain ⟨σ9, e8, hf⟩ := xbd hf
      obtain ⟨hm9, hA⟩ := n_X12_knows hA hr0 e8
      have hm := hm.tr hm9
      exact ⟨hm.tr (n_X12_hill_l27 (a := ((0 : Int32), σ9)) hA hr0 hf).1, (n_X12_hill_l27 (a := ((0 : Int32), σ9)) hA hr0 hf).2⟩
    · have hf := xin q hf
      have hf := xsj hf
      subst hf
      exact ⟨hm, hA⟩
theorem n_X12_hold_l13 {A : Nat → Prop} {r0 : Nat} {x1 : Int32} {a : Int32 × XS} {x : Int32 × XS} (hA : Reg A a.2) (hr0 : A r0) (hf : xloop (f_X12_hold_b13 r0 x1) a = some x) : Sm A a.2 x.2 ∧ Reg A x.2 := by
  revert hA
  refine xloop_ind (P := fun a => Reg A a.2 → Sm A a.2 x.2 ∧ Reg A x.2) (fun a y hf hc he => ?_) hf
  obtain ⟨x2, σ⟩ := a
  intro hA
  have hA0 : Reg A σ := hA
  have hy : (∀ a' : Int32 × XS, y = .inl a' → Sm A σ a'.2 ∧ Reg A a'.2) ∧ (∀ b1 : Int32 × XS, y = .inr b1 → Sm A σ b1.2 ∧ Reg A b1.2) := by
    have hm := Sm.rf (A := A) (σ := σ)
    by_cases q : (66 : Int32) ≤ x2
    · have hf := xip q hf
      obtain ⟨b0, hg, e9⟩ := xmj hf
      subst e9
      have hf := hg
      refine ⟨fun a' e => xnc2 e, fun b e => ?_⟩
      have h9 := Sum.inr.inj e
      subst h9
      obtain ⟨z2, e1, hf⟩ := xbd hf
      have hz2 := xgR_reg rfl hA hr0 e1
      obtain ⟨σ4, e3, hf⟩ := xbd hf
      obtain ⟨hm9, hA⟩ := xsI_reg hA hz2 e3
      have hm := hm.tr hm9
      have hf := xsj hf
      subst hf
      exact ⟨hm, hA⟩
    · have hf := xin q hf
      obtain ⟨z2, e1, hf⟩ := xbd hf
      have hz2 := xgR_reg rfl hA hr0 e1
      obtain ⟨z4, e3, hf⟩ := xbd hf
      obtain ⟨v6, e5, hf⟩ := xbd hf
      obtain ⟨σ8, e7, hf⟩ := xbd hf
      obtain ⟨hm9, hA⟩ := xsI_reg hA hz2 e7
      have hm := hm.tr hm9
      have hf := xsj hf
      subst hf
      exact ⟨fun a' e => (by have h9 := Sum.inl.inj e; subst h9; exact ⟨hm, hA⟩), fun b e => xnc1 e⟩
  cases y with
  | inl a' =>
    obtain ⟨hm, hA1⟩ := hy.1 a' rfl
    have h1 := hc a' rfl hA1
    exact ⟨hm.tr (h1).1, (h1).2⟩
  | inr b =>
    have h1 := he b rfl
    subst h1
    exact hy.2 _ rfl
theorem n_X12_hold {A : Nat → Prop} {σ : XS} {r0 : Nat} {x1 : Int32} {x : Int32 × XS} (hA : Reg A σ) (hr0 : A r0) (hf : f_X12_hold σ r0 x1 = some x) : Sm A σ x.2 ∧ Reg A x.2 := by
  have hm := Sm.rf (A := A) (σ := σ)
  obtain ⟨v2, e1, hf⟩ := xbd hf
  by_cases q : v2 = 0
  · have hf := xip q hf
    have hf := xsj hf
    subst hf
    exact ⟨hm, hA⟩
  · have hf := xin q hf
    exact ⟨hm.tr (n_X12_hold_l13 (a := ((0 : Int32), σ)) hA hr0 hf).1, (n_X12_hold_l13 (a := ((0 : Int32), σ)) hA hr0 hf).2⟩
theorem n_X12_init_j206 {A : Nat → Prop} {σ : XS} {r0 : Nat} {t0 : Nat} {t1 : Nat} {x : XS} (hA : RegN A σ) (hr0 : A r0) (ht0 : A t0) (ht1 : A t1) (hf : f_X12_init_j206 σ r0 t0 t1 = some x) : Sm A σ x ∧ RegN A x := by
  have hm := Sm.rf (A := A) (σ := σ)
  obtain ⟨_, e1, hf⟩ := xbd hf
  obtain ⟨σ3, e2, hf⟩ := xbd hf
  obtain ⟨hm9, hB⟩ := xpR_reg hA.1 ht0 ht1 e2
  have hA := RegN.step hA hB (xpR_same e2).ext
  have hm := hm.tr hm9
  obtain ⟨z5, e4, hf⟩ := xbd hf
  have hz5 := xgR_reg rfl hA.1 hr0 e4
  obtain ⟨v7, e6, hf⟩ := xbd hf
  obtain ⟨σ9, e8, hf⟩ := xbd hf
  obtain ⟨hm9, hB⟩ := xsL_reg hA.1 hz5 e8
  have hA := RegN.step hA hB (xsL_same e8).ext
  have hm := hm.tr hm9
  obtain ⟨z11, e10, hf⟩ := xbd hf
  have hz11 := xgR_reg rfl hA.1 hr0 e10
  obtain ⟨v13, e12, hf⟩ := xbd hf
  obtain ⟨σ15, e14, hf⟩ := xbd hf
  obtain ⟨hm9, hB⟩ := xsL_reg hA.1 hz11 e14
  have hA := RegN.step hA hB (xsL_same e14).ext
  have hm := hm.tr hm9
  obtain ⟨z17, e16, hf⟩ := xbd hf
  have hz17 := xgR_reg rfl hA.1 hr0 e16
  obtain ⟨v19, e18, hf⟩ := xbd hf
  obtain ⟨σ21, e20, hf⟩ := xbd hf
  obtain ⟨hm9, hB⟩ := xsL_reg hA.1 hz17 e20
  have hA := RegN.step hA hB (xsL_same e20).ext
  have hm := hm.tr hm9
  obtain ⟨z23, e22, hf⟩ := xbd hf
  have hz23 := xgR_reg rfl hA.1 hr0 e22
  obtain ⟨v25, e24, hf⟩ := xbd hf
  obtain ⟨σ27, e26, hf⟩ := xbd hf
  obtain ⟨hm9, hB⟩ := xsL_reg hA.1 hz23 e26
  have hA := RegN.step hA hB (xsL_same e26).ext
  have hm := hm.tr hm9
  obtain ⟨z29, e28, hf⟩ := xbd hf
  have hz29 := xgR_reg rfl hA.1 hr0 e28
  obtain ⟨v31, e30, hf⟩ := xbd hf
  obtain ⟨σ33, e32, hf⟩ := xbd hf
  obtain ⟨hm9, hB⟩ := xsL_reg hA.1 hz29 e32
  have hA := RegN.step hA hB (xsL_same e32).ext
  have hm := hm.tr hm9
  obtain ⟨z35, e34, hf⟩ := xbd hf
  have hz35 := xgR_reg rfl hA.1 hr0 e34
  obtain ⟨v37, e36, hf⟩ := xbd hf
  obtain ⟨σ39, e38, hf⟩ := xbd hf
  obtain ⟨hm9, hB⟩ := xsL_reg hA.1 hz35 e38
  have hA := RegN.step hA hB (xsL_same e38).ext
  have hm := hm.tr hm9
  obtain ⟨z41, e40, hf⟩ := xbd hf
  have hz41 := xgR_reg rfl hA.1 hr0 e40
  obtain ⟨v43, e42, hf⟩ := xbd hf
  obtain ⟨σ45, e44, hf⟩ := xbd hf
  obtain ⟨hm9, hB⟩ := xsL_reg hA.1 hz41 e44
  have hA := RegN.step hA hB (xsL_same e44).ext
  have hm := hm.tr hm9
  obtain ⟨z47, e46, hf⟩ := xbd hf
  have hz47 := xgR_reg rfl hA.1 hr0 e46
  obtain ⟨v49, e48, hf⟩ := xbd hf
  obtain ⟨σ51, e50, hf⟩ := xbd hf
  obtain ⟨hm9, hB⟩ := xsL_reg hA.1 hz47 e50
  have hA := RegN.step hA hB (xsL_same e50).ext
  have hm := hm.tr hm9
  obtain ⟨z53, e52, hf⟩ := xbd hf
  have hz53 := xgR_reg rfl hA.1 hr0 e52
  obtain ⟨v55, e54, hf⟩ := xbd hf
  obtain ⟨σ57, e56, hf⟩ := xbd hf
  obtain ⟨hm9, hB⟩ := xsL_reg hA.1 hz53 e56
  have hA := RegN.step hA hB (xsL_same e56).ext
  have hm := hm.tr hm9
  obtain ⟨z59, e58, hf⟩ := xbd hf
  have hz59 := xgR_reg rfl hA.1 hr0 e58
  obtain ⟨v61, e60, hf⟩ := xbd hf
  obtain ⟨σ63, e62, hf⟩ := xbd hf
  obtain ⟨hm9, hB⟩ := xsL_reg hA.1 hz59 e62
  have hA := RegN.step hA hB (xsL_same e62).ext
  have hm := hm.tr hm9
  obtain ⟨z65, e64, hf⟩ := xbd hf
  have hz65 := xgR_reg rfl hA.1 hr0 e64
  obtain ⟨v67, e66, hf⟩ := xbd hf
  obtain ⟨σ69, e68, hf⟩ := xbd hf
  obtain ⟨hm9, hB⟩ := xsL_reg hA.1 hz65 e68
  have hA := RegN.step hA hB (xsL_same e68).ext
  have hm := hm.tr hm9
  have hf := xsj hf
  subst hf
  exact ⟨hm, hA⟩
theorem n_X12_init_j197 {A : Nat → Prop} {σ : XS} {r0 : Nat} {t0 : Nat} {t1 : Nat} {x : XS} (hA : RegN A σ) (hr0 : A r0) (ht0 : A t0) (ht1 : A t1) (hf : f_X12_init_j197 σ r0 t0 t1 = some x) : Sm A σ x ∧ RegN A x := by
  have hm := Sm.rf (A := A) (σ := σ)
  obtain ⟨_, e1, hf⟩ := xbd hf
  obtain ⟨σ3, e2, hf⟩ := xbd hf
  obtain ⟨hm9, hB⟩ := xpR_reg hA.1 ht0 ht1 e2
  have hA := RegN.step hA hB (xpR_same e2).ext
  have hm := hm.tr hm9
  obtain ⟨⟨z5, σ6⟩, e4, hf⟩ := xbd hf
  dsimp only at hf
  obtain ⟨hm9, hA, hz5⟩ := xnA_reg hA e4
  have hm := hm.tr hm9
  exact ⟨hm.tr (n_X12_init_j206 hA hr0 hr0 hz5 hf).1, (n_X12_init_j206 hA hr0 hr0 hz5 hf).2⟩
theorem n_X12_init_j188 {A : Nat → Prop} {σ : XS} {r0 : Nat} {t0 : Nat} {t1 : Nat} {x : XS} (hA : RegN A σ) (hr0 : A r0) (ht0 : A t0) (ht1 : A t1) (hf : f_X12_init_j188 σ r0 t0 t1 = some x) : Sm A σ x ∧ RegN A x := by
  have hm := Sm.rf (A := A) (σ := σ)
  obtain ⟨_, e1, hf⟩ := xbd hf
  obtain ⟨σ3, e2, hf⟩ := xbd hf
  obtain ⟨hm9, hB⟩ := xpR_reg hA.1 ht0 ht1 e2
  have hA := RegN.step hA hB (xpR_same e2).ext
  have hm := hm.tr hm9
  obtain ⟨⟨z5, σ6⟩, e4, hf⟩ := xbd hf
  dsimp only at hf
  obtain ⟨hm9, hA, hz5⟩ := xnA_reg hA e4
  have hm := hm.tr hm9
  exact ⟨hm.tr (n_X12_init_j197 hA hr0 hr0 hz5 hf).1, (n_X12_init_j197 hA hr0 hr0 hz5 hf).2⟩
theorem n_X12_init_j179 {A : Nat → Prop} {σ : XS} {r0 : Nat} {t0 : Nat} {t1 : Nat} {x : XS} (hA : RegN A σ) (hr0 : A r0) (ht0 : A t0) (ht1 : A t1) (hf : f_X12_init_j179 σ r0 t0 t1 = some x) : Sm A σ x ∧ RegN A x := by
  have hm := Sm.rf (A := A) (σ := σ)
  obtain ⟨_, e1, hf⟩ := xbd hf
  obtain ⟨σ3, e2, hf⟩ := xbd hf
  obtain ⟨hm9, hB⟩ := xpR_reg hA.1 ht0 ht1 e2
  have hA := RegN.step hA hB (xpR_same e2).ext
  have hm := hm.tr hm9
  obtain ⟨⟨z5, σ6⟩, e4, hf⟩ := xbd hf
  dsimp only at hf
  obtain ⟨hm9, hA, hz5⟩ := xnA_reg hA e4
  have hm := hm.tr hm9
  exact ⟨hm.tr (n_X12_init_j188 hA hr0 hr0 hz5 hf).1, (n_X12_init_j188 hA hr0 hr0 hz5 hf).2⟩
theorem n_X12_init_j170 {A : Nat → Prop} {σ : XS} {r0 : Nat} {t0 : Nat} {t1 : Nat} {x : XS} (hA : RegN A σ) (hr0 : A r0) (ht0 : A t0) (ht1 : A t1) (hf : f_X12_init_j170 σ r0 t0 t1 = some x) : Sm A σ x ∧ RegN A x := by
  have hm := Sm.rf (A := A) (σ := σ)
  obtain ⟨_, e1, hf⟩ := xbd hf
  obtain ⟨σ3, e2, hf⟩ := xbd hf
  obtain ⟨hm9, hB⟩ := xpR_reg hA.1 ht0 ht1 e2
  have hA := RegN.step hA hB (xpR_same e2).ext
  have hm := hm.tr hm9
  obtain ⟨⟨z5, σ6⟩, e4, hf⟩ := xbd hf
  dsimp only at hf
  obtain ⟨hm9, hA, hz5⟩ := xnA_reg hA e4
  have hm := hm.tr hm9
  exact ⟨hm.tr (n_X12_init_j179 hA hr0 hr0 hz5 hf).1, (n_X12_init_j179 hA hr0 hr0 hz5 hf).2⟩
theorem n_X12_init_j161 {A : Nat → Prop} {σ : XS} {r0 : Nat} {t0 : Nat} {t1 : Nat} {x : XS} (hA : RegN A σ) (hr0 : A r0) (ht0 : A t0) (ht1 : A t1) (hf : f_X12_init_j161 σ r0 t0 t1 = some x) : Sm A σ x ∧ RegN A x := by
  have hm := Sm.rf (A := A) (σ := σ)
  obtain ⟨_, e1, hf⟩ := xbd hf
  obtain ⟨σ3, e2, hf⟩ := xbd hf
  obtain ⟨hm9, hB⟩ := xpR_reg hA.1 ht0 ht1 e2
  have hA := RegN.step hA hB (xpR_same e2).ext
  have hm := hm.tr hm9
  obtain ⟨⟨z5, σ6⟩, e4, hf⟩ := xbd hf
  dsimp only at hf
  obtain ⟨hm9, hA, hz5⟩ := xnA_reg hA e4
  have hm := hm.tr hm9
  exact ⟨hm.tr (n_X12_init_j170 hA hr0 hr0 hz5 hf).1, (n_X12_init_j170 hA hr0 hr0 hz5 hf).2⟩
theorem n_X12_init_j152 {A : Nat → Prop} {σ : XS} {r0 : Nat} {t0 : Nat} {t1 : Nat} {x : XS} (hA : RegN A σ) (hr0 : A r0) (ht0 : A t0) (ht1 : A t1) (hf : f_X12_init_j152 σ r0 t0 t1 = some x) : Sm A σ x ∧ RegN A x := by
  have hm := Sm.rf (A := A) (σ := σ)
  obtain ⟨_, e1, hf⟩ := xbd hf
  obtain ⟨σ3, e2, hf⟩ := xbd hf
  obtain ⟨hm9, hB⟩ := xpR_reg hA.1 ht0 ht1 e2
  have hA := RegN.step hA hB (xpR_same e2).ext
  have hm := hm.tr hm9
  obtain ⟨⟨z5, σ6⟩, e4, hf⟩ := xbd hf
  dsimp only at hf
  obtain ⟨hm9, hA, hz5⟩ := xnA_reg hA e4
  have hm := hm.tr hm9
  exact ⟨hm.tr (n_X12_init_j161 hA hr0 hr0 hz5 hf).1, (n_X12_init_j161 hA hr0 hr0 hz5 hf).2⟩
theorem n_X12_init_j143 {A : Nat → Prop} {σ : XS} {r0 : Nat} {t0 : Nat} {t1 : Nat} {x : XS} (hA : RegN A σ) (hr0 : A r0) (ht0 : A t0) (ht1 : A t1) (hf : f_X12_init_j143 σ r0 t0 t1 = some x) : Sm A σ x ∧ RegN A x := by
  have hm := Sm.rf (A := A) (σ := σ)
  obtain ⟨_, e1, hf⟩ := xbd hf
  obtain ⟨σ3, e2, hf⟩ := xbd hf
  obtain ⟨hm9, hB⟩ := xpR_reg hA.1 ht0 ht1 e2
  have hA := RegN.step hA hB (xpR_same e2).ext
  have hm := hm.tr hm9
  obtain ⟨⟨z5, σ6⟩, e4, hf⟩ := xbd hf
  dsimp only at hf
  obtain ⟨hm9, hA, hz5⟩ := xnA_reg hA e4
  have hm := hm.tr hm9
  exact ⟨hm.tr (n_X12_init_j152 hA hr0 hr0 hz5 hf).1, (n_X12_init_j152 hA hr0 hr0 hz5 hf).2⟩
theorem n_X12_init_j135 {A : Nat → Prop} {σ : XS} {r0 : Nat} {t0 : Nat} {t1 : Nat} {x : XS} (hA : RegN A σ) (hr0 : A r0) (ht0 : A t0) (ht1 : A t1) (hf : f_X12_init_j135 σ r0 t0 t1 = some x) : Sm A σ x ∧ RegN A x := by
  have hm := Sm.rf (A := A) (σ := σ)
  obtain ⟨_, e1, hf⟩ := xbd hf
  obtain ⟨σ3, e2, hf⟩ := xbd hf
  obtain ⟨hm9, hB⟩ := xpR_reg hA.1 ht0 ht1 e2
  have hA := RegN.step hA hB (xpR_same e2).ext
  have hm := hm.tr hm9
  obtain ⟨⟨z5, σ6⟩, e4, hf⟩ := xbd hf
  dsimp only at hf
  obtain ⟨hm9, hA, hz5⟩ := xnA_reg hA e4
  have hm := hm.tr hm9
  exact ⟨hm.tr (n_X12_init_j143 hA hr0 hr0 hz5 hf).1, (n_X12_init_j143 hA hr0 hr0 hz5 hf).2⟩
theorem n_X12_init_j126 {A : Nat → Prop} {σ : XS} {r0 : Nat} {t0 : Nat} {t1 : Nat} {x : XS} (hA : RegN A σ) (hr0 : A r0) (ht0 : A t0) (ht1 : A t1) (hf : f_X12_init_j126 σ r0 t0 t1 = some x) : Sm A σ x ∧ RegN A x := by
  have hm := Sm.rf (A := A) (σ := σ)
  obtain ⟨_, e1, hf⟩ := xbd hf
  obtain ⟨σ3, e2, hf⟩ := xbd hf
  obtain ⟨hm9, hB⟩ := xpR_reg hA.1 ht0 ht1 e2
  have hA := RegN.step hA hB (xpR_same e2).ext
  have hm := hm.tr hm9
  obtain ⟨⟨z5, σ6⟩, e4, hf⟩ := xbd hf
  dsimp only at hf
  obtain ⟨hm9, hA, hz5⟩ := xnA_reg hA e4
  have hm := hm.tr hm9
  exact ⟨hm.tr (n_X12_init_j135 hA hr0 hr0 hz5 hf).1, (n_X12_init_j135 hA hr0 hr0 hz5 hf).2⟩
theorem n_X12_init_j117 {A : Nat → Prop} {σ : XS} {r0 : Nat} {t0 : Nat} {t1 : Nat} {x : XS} (hA : RegN A σ) (hr0 : A r0) (ht0 : A t0) (ht1 : A t1) (hf : f_X12_init_j117 σ r0 t0 t1 = some x) : Sm A σ x ∧ RegN A x := by
  have hm := Sm.rf (A := A) (σ := σ)
  obtain ⟨_, e1, hf⟩ := xbd hf
  obtain ⟨σ3, e2, hf⟩ := xbd hf
  obtain ⟨hm9, hB⟩ := xpR_reg hA.1 ht0 ht1 e2
  have hA := RegN.step hA hB (xpR_same e2).ext
  have hm := hm.tr hm9
  obtain ⟨⟨z5, σ6⟩, e4, hf⟩ := xbd hf
  dsimp only at hf
  obtain ⟨hm9, hA, hz5⟩ := xnA_reg hA e4
  have hm := hm.tr hm9
  exact ⟨hm.tr (n_X12_init_j126 hA hr0 hr0 hz5 hf).1, (n_X12_init_j126 hA hr0 hr0 hz5 hf).2⟩
theorem n_X12_init_j109 {A : Nat → Prop} {σ : XS} {r0 : Nat} {t0 : Nat} {t1 : Nat} {x : XS} (hA : RegN A σ) (hr0 : A r0) (ht0 : A t0) (ht1 : A t1) (hf : f_X12_init_j109 σ r0 t0 t1 = some x) : Sm A σ x ∧ RegN A x := by
  have hm := Sm.rf (A := A) (σ := σ)
  obtain ⟨_, e1, hf⟩ := xbd hf
  obtain ⟨σ3, e2, hf⟩ := xbd hf
  obtain ⟨hm9, hB⟩ := xpR_reg hA.1 ht0 ht1 e2
  have hA := RegN.step hA hB (xpR_same e2).ext
  have hm := hm.tr hm9
  obtain ⟨⟨z5, σ6⟩, e4, hf⟩ := xbd hf
  dsimp only at hf
  obtain ⟨hm9, hA, hz5⟩ := xnA_reg hA e4
  have hm := hm.tr hm9
  exact ⟨hm.tr (n_X12_init_j117 hA hr0 hr0 hz5 hf).1, (n_X12_init_j117 hA hr0 hr0 hz5 hf).2⟩
theorem n_X12_init_j102 {A : Nat → Prop} {σ : XS} {r0 : Nat} {t0 : Nat} {t1 : Nat} {x : XS} (hA : RegN A σ) (hr0 : A r0) (ht0 : A t0) (ht1 : A t1) (hf : f_X12_init_j102 σ r0 t0 t1 = some x) : Sm A σ x ∧ RegN A x := by
  have hm := Sm.rf (A := A) (σ := σ)
  obtain ⟨_, e1, hf⟩ := xbd hf
  obtain ⟨σ3, e2, hf⟩ := xbd hf
  obtain ⟨hm9, hB⟩ := xpR_reg hA.1 ht0 ht1 e2
  have hA := RegN.step hA hB (xpR_same e2).ext
  have hm := hm.tr hm9
  obtain ⟨⟨z5, σ6⟩, e4, hf⟩ := xbd hf
  dsimp only at hf
  obtain ⟨hm9, hA, hz5⟩ := xnA_reg hA e4
  have hm := hm.tr hm9
  exact ⟨hm.tr (n_X12_init_j109 hA hr0 hr0 hz5 hf).1, (n_X12_init_j109 hA hr0 hr0 hz5 hf).2⟩
theorem n_X12_init_j93 {A : Nat → Prop} {σ : XS} {r0 : Nat} {t0 : Nat} {t1 : Nat} {x : XS} (hA : RegN A σ) (hr0 : A r0) (ht0 : A t0) (ht1 : A t1) (hf : f_X12_init_j93 σ r0 t0 t1 = some x) : Sm A σ x ∧ RegN A x := by
  have hm := Sm.rf (A := A) (σ := σ)
  obtain ⟨_, e1, hf⟩ := xbd hf
  obtain ⟨σ3, e2, hf⟩ := xbd hf
  obtain ⟨hm9, hB⟩ := xpR_reg hA.1 ht0 ht1 e2
  have hA := RegN.step hA hB (xpR_same e2).ext
  have hm := hm.tr hm9
  obtain ⟨⟨z5, σ6⟩, e4, hf⟩ := xbd hf
  dsimp only at hf
  obtain ⟨hm9, hA, hz5⟩ := xnA_reg hA e4
  have hm := hm.tr hm9
  exact ⟨hm.tr (n_X12_init_j102 hA hr0 hr0 hz5 hf).1, (n_X12_init_j102 hA hr0 hr0 hz5 hf).2⟩
theorem n_X12_init_j84 {A : Nat → Prop} {σ : XS} {r0 : Nat} {t0 : Nat} {t1 : Nat} {x : XS} (hA : RegN A σ) (hr0 : A r0) (ht0 : A t0) (ht1 : A t1) (hf : f_X12_init_j84 σ r0 t0 t1 = some x) : Sm A σ x ∧ RegN A x := by
  have hm := Sm.rf (A := A) (σ := σ)
  obtain ⟨_, e1, hf⟩ := xbd hf
  obtain ⟨σ3, e2, hf⟩ := xbd hf
  obtain ⟨hm9, hB⟩ := xpR_reg hA.1 ht0 ht1 e2
  have hA := RegN.step hA hB (xpR_same e2).ext
  have hm := hm.tr hm9
  obtain ⟨⟨z5, σ6⟩, e4, hf⟩ := xbd hf
  dsimp only at hf
  obtain ⟨hm9, hA, hz5⟩ := xnA_reg hA e4
  have hm := hm.tr hm9
  exact ⟨hm.tr (n_X12_init_j93 hA hr0 hr0 hz5 hf).1, (n_X12_init_j93 hA hr0 hr0 hz5 hf).2⟩
theorem n_X12_init_j76 {A : Nat → Prop} {σ : XS} {r0 : Nat} {t0 : Nat} {t1 : Nat} {x : XS} (hA : RegN A σ) (hr0 : A r0) (ht0 : A t0) (ht1 : A t1) (hf : f_X12_init_j76 σ r0 t0 t1 = some x) : Sm A σ x ∧ RegN A x := by
  have hm := Sm.rf (A := A) (σ := σ)
  obtain ⟨_, e1, hf⟩ := xbd hf
  obtain ⟨σ3, e2, hf⟩ := xbd hf
  obtain ⟨hm9, hB⟩ := xpR_reg hA.1 ht0 ht1 e2
  have hA := RegN.step hA hB (xpR_same e2).ext
  have hm := hm.tr hm9
  obtain ⟨⟨z5, σ6⟩, e4, hf⟩ := xbd hf
  dsimp only at hf
  obtain ⟨hm9, hA, hz5⟩ := xnA_reg hA e4
  have hm := hm.tr hm9
  exact ⟨hm.tr (n_X12_init_j84 hA hr0 hr0 hz5 hf).1, (n_X12_init_j84 hA hr0 hr0 hz5 hf).2⟩
theorem n_X12_init_j63 {A : Nat → Prop} {σ : XS} {r0 : Nat} {t0 : Nat} {t1 : Nat} {x : XS} (hA : RegN A σ) (hr0 : A r0) (ht0 : A t0) (ht1 : A t1) (hf : f_X12_init_j63 σ r0 t0 t1 = some x) : Sm A σ x ∧ RegN A x := by
  have hm := Sm.rf (A := A) (σ := σ)
  obtain ⟨_, e1, hf⟩ := xbd hf
  obtain ⟨σ3, e2, hf⟩ := xbd hf
  obtain ⟨hm9, hB⟩ := xpR_reg hA.1 ht0 ht1 e2
  have hA := RegN.step hA hB (xpR_same e2).ext
  have hm := hm.tr hm9
  obtain ⟨σ5, e4, hf⟩ := xbd hf
  obtain ⟨hm9, hB⟩ := xpI_reg hA.1 hr0 e4
  have hA := RegN.step hA hB (xpI_same e4).ext
  have hm := hm.tr hm9
  obtain ⟨⟨z7, σ8⟩, e6, hf⟩ := xbd hf
  dsimp only at hf
  obtain ⟨hm9, hA, hz7⟩ := xnA_reg hA e6
  have hm := hm.tr hm9
  exact ⟨hm.tr (n_X12_init_j76 hA hr0 hr0 hz7 hf).1, (n_X12_init_j76 hA hr0 hr0 hz7 hf).2⟩
theorem n_X12_init_j55 {A : Nat → Prop} {σ : XS} {r0 : Nat} {t0 : Nat} {t1 : Nat} {x : XS} (hA : RegN A σ) (hr0 : A r0) (ht0 : A t0) (ht1 : A t1) (hf : f_X12_init_j55 σ r0 t0 t1 = some x) : Sm A σ x ∧ RegN A x := by
  have hm := Sm.rf (A := A) (σ := σ)
  obtain ⟨_, e1, hf⟩ := xbd hf
  obtain ⟨σ3, e2, hf⟩ := xbd hf
  obtain ⟨hm9, hB⟩ := xpR_reg hA.1 ht0 ht1 e2
  have hA := RegN.step hA hB (xpR_same e2).ext
  have hm := hm.tr hm9
  obtain ⟨⟨z5, σ6⟩, e4, hf⟩ := xbd hf
  dsimp only at hf
  obtain ⟨hm9, hA, hz5⟩ := xnA_reg hA e4
  have hm := hm.tr hm9
  exact ⟨hm.tr (n_X12_init_j63 hA hr0 hr0 hz5 hf).1, (n_X12_init_j63 hA hr0 hr0 hz5 hf).2⟩
theorem n_X12_init_j46 {A : Nat → Prop} {σ : XS} {r0 : Nat} {t0 : Nat} {t1 : Nat} {x : XS} (hA : RegN A σ) (hr0 : A r0) (ht0 : A t0) (ht1 : A t1) (hf : f_X12_init_j46 σ r0 t0 t1 = some x) : Sm A σ x ∧ RegN A x := by
  have hm := Sm.rf (A := A) (σ := σ)
  obtain ⟨_, e1, hf⟩ := xbd hf
  obtain ⟨σ3, e2, hf⟩ := xbd hf
  obtain ⟨hm9, hB⟩ := xpR_reg hA.1 ht0 ht1 e2
  have hA := RegN.step hA hB (xpR_same e2).ext
  have hm := hm.tr hm9
  obtain ⟨⟨z5, σ6⟩, e4, hf⟩ := xbd hf
  dsimp only at hf
  obtain ⟨hm9, hA, hz5⟩ := xnA_reg hA e4
  have hm := hm.tr hm9
  exact ⟨hm.tr (n_X12_init_j55 hA hr0 hr0 hz5 hf).1, (n_X12_init_j55 hA hr0 hr0 hz5 hf).2⟩
theorem n_X12_init_j37 {A : Nat → Prop} {σ : XS} {r0 : Nat} {t0 : Nat} {t1 : Nat} {x : XS} (hA : RegN A σ) (hr0 : A r0) (ht0 : A t0) (ht1 : A t1) (hf : f_X12_init_j37 σ r0 t0 t1 = some x) : Sm A σ x ∧ RegN A x := by
  have hm := Sm.rf (A := A) (σ := σ)
  obtain ⟨_, e1, hf⟩ := xbd hf
  obtain ⟨σ3, e2, hf⟩ := xbd hf
  obtain ⟨hm9, hB⟩ := xpR_reg hA.1 ht0 ht1 e2
  have hA := RegN.step hA hB (xpR_same e2).ext
  have hm := hm.tr hm9
  obtain ⟨⟨z5, σ6⟩, e4, hf⟩ := xbd hf
  dsimp only at hf
  obtain ⟨hm9, hA, hz5⟩ := xnA_reg hA e4
  have hm := hm.tr hm9
  exact ⟨hm.tr (n_X12_init_j46 hA hr0 hr0 hz5 hf).1, (n_X12_init_j46 hA hr0 hr0 hz5 hf).2⟩
theorem n_X12_init_j28 {A : Nat → Prop} {σ : XS} {r0 : Nat} {t0 : Nat} {t1 : Nat} {x : XS} (hA : RegN A σ) (hr0 : A r0) (ht0 : A t0) (ht1 : A t1) (hf : f_X12_init_j28 σ r0 t0 t1 = some x) : Sm A σ x ∧ RegN A x := by
  have hm := Sm.rf (A := A) (σ := σ)
  obtain ⟨_, e1, hf⟩ := xbd hf
  obtain ⟨σ3, e2, hf⟩ := xbd hf
  obtain ⟨hm9, hB⟩ := xpR_reg hA.1 ht0 ht1 e2
  have hA := RegN.step hA hB (xpR_same e2).ext
  have hm := hm.tr hm9
  obtain ⟨⟨z5, σ6⟩, e4, hf⟩ := xbd hf
  dsimp only at hf
  obtain ⟨hm9, hA, hz5⟩ := xnA_reg hA e4
  have hm := hm.tr hm9
  exact ⟨hm.tr (n_X12_init_j37 hA hr0 hr0 hz5 hf).1, (n_X12_init_j37 hA hr0 hr0 hz5 hf).2⟩
theorem n_X12_init_j19 {A : Nat → Prop} {σ : XS} {r0 : Nat} {t0 : Nat} {t1 : Nat} {x : XS} (hA : RegN A σ) (hr0 : A r0) (ht0 : A t0) (ht1 : A t1) (hf : f_X12_init_j19 σ r0 t0 t1 = some x) : Sm A σ x ∧ RegN A x := by
  have hm := Sm.rf (A := A) (σ := σ)
  obtain ⟨_, e1, hf⟩ := xbd hf
  obtain ⟨σ3, e2, hf⟩ := xbd hf
  obtain ⟨hm9, hB⟩ := xpR_reg hA.1 ht0 ht1 e2
  have hA := RegN.step hA hB (xpR_same e2).ext
  have hm := hm.tr hm9
  obtain ⟨⟨z5, σ6⟩, e4, hf⟩ := xbd hf
  dsimp only at hf
  obtain ⟨hm9, hA, hz5⟩ := xnA_reg hA e4
  have hm := hm.tr hm9
  exact ⟨hm.tr (n_X12_init_j28 hA hr0 hr0 hz5 hf).1, (n_X12_init_j28 hA hr0 hr0 hz5 hf).2⟩
theorem n_X12_init_j10 {A : Nat → Prop} {σ : XS} {r0 : Nat} {t0 : Nat} {t1 : Nat} {x : XS} (hA : RegN A σ) (hr0 : A r0) (ht0 : A t0) (ht1 : A t1) (hf : f_X12_init_j10 σ r0 t0 t1 = some x) : Sm A σ x ∧ RegN A x := by
  have hm := Sm.rf (A := A) (σ := σ)
  obtain ⟨_, e1, hf⟩ := xbd hf
  obtain ⟨σ3, e2, hf⟩ := xbd hf
  obtain ⟨hm9, hB⟩ := xpR_reg hA.1 ht0 ht1 e2
  have hA := RegN.step hA hB (xpR_same e2).ext
  have hm := hm.tr hm9
  obtain ⟨⟨z5, σ6⟩, e4, hf⟩ := xbd hf
  dsimp only at hf
  obtain ⟨hm9, hA, hz5⟩ := xnA_reg hA e4
  have hm := hm.tr hm9
  exact ⟨hm.tr (n_X12_init_j19 hA hr0 hr0 hz5 hf).1, (n_X12_init_j19 hA hr0 hr0 hz5 hf).2⟩
theorem n_X12_init {A : Nat → Prop} {σ : XS} {r0 : Nat} {x : XS} (hA : RegN A σ) (hr0 : A r0) (hf : f_X12_init σ r0 = some x) : Sm A σ x ∧ RegN A x := by
  have hm := Sm.rf (A := A) (σ := σ)
  obtain ⟨⟨z2, σ3⟩, e1, hf⟩ := xbd hf
  dsimp only at hf
  obtain ⟨hm9, hA, hz2⟩ := xnA_reg hA e1
  have hm := hm.tr hm9
  exact ⟨hm.tr (n_X12_init_j10 hA hr0 hr0 hz2 hf).1, (n_X12_init_j10 hA hr0 hr0 hz2 hf).2⟩
theorem n_X12_wrong_j46 {A : Nat → Prop} {σ : XS} {r0 : Nat} {x1 : Int32} {x3 : Int32} {x : XS} (hA : Reg A σ) (hr0 : A r0) (hf : f_X12_wrong_j46 σ r0 x1 x3 = some x) : Sm A σ x ∧ Reg A x := by
  have hm := Sm.rf (A := A) (σ := σ)
  obtain ⟨σ2, e1, hf⟩ := xbd hf
  obtain ⟨hm9, hA⟩ := xpI_reg hA hr0 e1
  have hm := hm.tr hm9
  obtain ⟨σ4, e3, hf⟩ := xbd hf
  obtain ⟨hm9, hA⟩ := xpI_reg hA hr0 e3
  have hm := hm.tr hm9
  have hf := xsj hf
  subst hf
  exact ⟨hm, hA⟩
theorem n_X12_wrong {A : Nat → Prop} {σ : XS} {r0 : Nat} {x1 : Int32} {x2 : Int32} {x : XS} (hA : Reg A σ) (hr0 : A r0) (hf : f_X12_wrong σ r0 x1 x2 = some x) : Sm A σ x ∧ Reg A x := by
  have hm := Sm.rf (A := A) (σ := σ)
  obtain ⟨z2, e1, hf⟩ := xbd hf
  obtain ⟨v4, e3, hf⟩ := xbd hf
  obtain ⟨v6, e5, hf⟩ := xbd hf
  by_cases q : 0 < v6
  · have hf := xip q hf
    have hf := xsj hf
    subst hf
    exact ⟨hm, hA⟩
  · have hf := xin q hf
    obtain ⟨v8, e7, hf⟩ := xbd hf
    by_cases q : v8 = 0
    · have hf := xip q hf
      exact ⟨hm.tr (n_X12_wrong_j46 hA hr0 hf).1, (n_X12_wrong_j46 hA hr0 hf).2⟩
    · have hf := xin q hf
      obtain ⟨v10, e9, hf⟩ := xbd hf
      by_cases q : v10 < v4
      · have hf := xip q hf
        have hf := xsj hf
        subst hf
        exact ⟨hm, hA⟩
      · have hf := xin q hf
        obtain ⟨v12, e11, hf⟩ := xbd hf
        by_cases q : v4 = v12
        · have hf := xip q hf
          obtain ⟨v14, e13, hf⟩ := xbd hf
          by_cases q : x1 < v14
          · have hf := xip q hf
            exact ⟨hm.tr (n_X12_wrong_j46 hA hr0 hf).1, (n_X12_wrong_j46 hA hr0 hf).2⟩
          · have hf := xin q hf
            have hf := xsj hf
            subst hf
            exact ⟨hm, hA⟩
        · have hf := xin q hf
          exact ⟨hm.tr (n_X12_wrong_j46 hA hr0 hf).1, (n_X12_wrong_j46 hA hr0 hf).2⟩
theorem n_X12_jAt_j34 {A : Nat → Prop} {σ : XS} {r0 : Nat} {x1 : Int32} {x2 : Int32} {x : Int32 × XS} (hA : Reg A σ) (hf : f_X12_jAt_j34 σ r0 x1 x2 = some x) : Sm A σ x.2 ∧ Reg A x.2 := by
  have hm := Sm.rf (A := A) (σ := σ)
  obtain ⟨z2, e1, hf⟩ := xbd hf
  obtain ⟨v4, e3, hf⟩ := xbd hf
  by_cases q : v4 = (5 : Int32)
  · have hf := xip q hf
    obtain ⟨z6, e5, hf⟩ := xbd hf
    obtain ⟨v8, e7, hf⟩ := xbd hf
    have hf := xsj hf
    subst hf
    exact ⟨hm, hA⟩
  · have hf := xin q hf
    obtain ⟨z6, e5, hf⟩ := xbd hf
    obtain ⟨v8, e7, hf⟩ := xbd hf
    have hf := xsj hf
    subst hf
    exact ⟨hm, hA⟩
theorem n_X12_jAt_j17 {A : Nat → Prop} {σ : XS} {r0 : Nat} {x1 : Int32} {t0 : Int32} {x : Int32 × XS} (hA : Reg A σ) (hr0 : A r0) (hf : f_X12_jAt_j17 σ r0 x1 t0 = some x) : Sm A σ x.2 ∧ Reg A x.2 := by
  have hm := Sm.rf (A := A) (σ := σ)
  obtain ⟨z2, e1, hf⟩ := xbd hf
  obtain ⟨v4, e3, hf⟩ := xbd hf
  by_cases q : v4 ≤ (3 : Int32)
  · have hf := xip q hf
    exact ⟨hm.tr (n_X12_jAt_j34 hA hf).1, (n_X12_jAt_j34 hA hf).2⟩
  · have hf := xin q hf
    obtain ⟨_, e5, hf⟩ := xbd hf
    obtain ⟨σ7, e6, hf⟩ := xbd hf
    obtain ⟨hm9, hA⟩ := n_X12_wrong hA hr0 e6
    have hm := hm.tr hm9
    exact ⟨hm.tr (n_X12_jAt_j34 hA hf).1, (n_X12_jAt_j34 hA hf).2⟩
theorem n_X12_jAt {A : Nat → Prop} {σ : XS} {r0 : Nat} {x1 : Int32} {x : Int32 × XS} (hA : Reg A σ) (hr0 : A r0) (hf : f_X12_jAt σ r0 x1 = some x) : Sm A σ x.2 ∧ Reg A x.2 := by
  have hm := Sm.rf (A := A) (σ := σ)
  obtain ⟨z2, e1, hf⟩ := xbd hf
  obtain ⟨v4, e3, hf⟩ := xbd hf
  by_cases q : v4 = (5 : Int32)
  · have hf := xip q hf
    exact ⟨hm.tr (n_X12_jAt_j17 hA hr0 hf).1, (n_X12_jAt_j17 hA hr0 hf).2⟩
  · have hf := xin q hf
    exact ⟨hm.tr (n_X12_jAt_j17 hA hr0 hf).1, (n_X12_jAt_j17 hA hr0 hf).2⟩
theorem n_X12_laysMany_l21 {A : Nat → Prop} {r0 : Nat} {r1 : Nat} {r2 : Nat} {a : Int32 × XS} {x : XS} (hA : Reg A a.2) (hr2 : A r2) (hf : xloop (f_X12_laysMany_b21 r0 r1 r2) a = some x) : Sm A a.2 x ∧ Reg A x := by
  revert hA
  refine xloop_ind (P := fun a => Reg A a.2 → Sm A a.2 x ∧ Reg A x) (fun a y hf hc he => ?_) hf
  obtain ⟨x3, σ⟩ := a
  intro hA
  have hA0 : Reg A σ := hA
  have hy : (∀ a' : Int32 × XS, y = .inl a' → Sm A σ a'.2 ∧ Reg A a'.2) ∧ (∀ b1 : XS, y = .inr b1 → Sm A σ b1 ∧ Reg A b1) := by
    have hm := Sm.rf (A := A) (σ := σ)
    obtain ⟨_, e1, hf⟩ := xbd hf
    obtain ⟨v3, e2, hf⟩ := xbd hf
    by_cases q : v3 ≤ x3
    · have hf := xip q hf
      obtain ⟨b0, hg, e9⟩ := xmj hf
      subst e9
      have hf := hg
      refine ⟨fun a' e => xnc2 e, fun b e => ?_⟩
      have h9 := Sum.inr.inj e
      subst h9
      have hf := xsj hf
      subst hf
      exact ⟨hm, hA⟩
    · have hf := xin q hf
      obtain ⟨_, e4, hf⟩ := xbd hf
      obtain ⟨v6, e5, hf⟩ := xbd hf
      obtain ⟨v8, e7, hf⟩ := xbd hf
      by_cases q : v8 = 0
      · have hf := xip q hf
        have hf := xsj hf
        subst hf
        exact ⟨fun a' e => (by have h9 := Sum.inl.inj e; subst h9; exact ⟨hm, hA⟩), fun b e => xnc1 e⟩
      · have hf := xin q hf
        obtain ⟨v10, e9, hf⟩ := xbd hf
        obtain ⟨_, e11, hf⟩ := xbd hf
        obtain ⟨v13, e12, hf⟩ := xbd hf
        obtain ⟨v15, e14, hf⟩ := xbd hf
        obtain ⟨σ17, e16, hf⟩ := xbd hf
        obtain ⟨hm9, hA⟩ := xsI_reg hA hr2 e16
        have hm := hm.tr hm9
        have hf := xsj hf
        subst hf
        exact ⟨fun a' e => (by have h9 := Sum.inl.inj e; subst h9; exact ⟨hm, hA⟩), fun b e => xnc1 e⟩
  cases y with
  | inl a' =>
    obtain ⟨hm, hA1⟩ := hy.1 a' rfl
    have h1 := hc a' rfl hA1
    exact ⟨hm.tr (h1).1, (h1).2⟩
  | inr b =>
    have h1 := he b rfl
    subst h1
    exact hy.2 _ rfl
theorem n_X12_laysMany_l2 {A : Nat → Prop} {r0 : Nat} {r1 : Nat} {r2 : Nat} {a : Int32 × XS} {x : XS} (hA : Reg A a.2) (hr2 : A r2) (hf : xloop (f_X12_laysMany_b2 r0 r1 r2) a = some x) : Sm A a.2 x ∧ Reg A x := by
  revert hA
  refine xloop_ind (P := fun a => Reg A a.2 → Sm A a.2 x ∧ Reg A x) (fun a y hf hc he => ?_) hf
  obtain ⟨x3, σ⟩ := a
  intro hA
  have hA0 : Reg A σ := hA
  have hy : (∀ a' : Int32 × XS, y = .inl a' → Sm A σ a'.2 ∧ Reg A a'.2) ∧ (∀ b1 : XS, y = .inr b1 → Sm A σ b1 ∧ Reg A b1) := by
    have hm := Sm.rf (A := A) (σ := σ)
    by_cases q : (301 : Int32) ≤ x3
    · have hf := xip q hf
      obtain ⟨b0, hg, e9⟩ := xmj hf
      subst e9
      have hf := hg
      refine ⟨fun a' e => xnc2 e, fun b e => ?_⟩
      have h9 := Sum.inr.inj e
      subst h9
      exact ⟨hm.tr (n_X12_laysMany_l21 (a := ((0 : Int32), σ)) hA hr2 hf).1, (n_X12_laysMany_l21 (a := ((0 : Int32), σ)) hA hr2 hf).2⟩
    · have hf := xin q hf
      obtain ⟨σ2, e1, hf⟩ := xbd hf
      obtain ⟨hm9, hA⟩ := xsI_reg hA hr2 e1
      have hm := hm.tr hm9
      have hf := xsj hf
      subst hf
      exact ⟨fun a' e => (by have h9 := Sum.inl.inj e; subst h9; exact ⟨hm, hA⟩), fun b e => xnc1 e⟩
  cases y with
  | inl a' =>
    obtain ⟨hm, hA1⟩ := hy.1 a' rfl
    have h1 := hc a' rfl hA1
    exact ⟨hm.tr (h1).1, (h1).2⟩
  | inr b =>
    have h1 := he b rfl
    subst h1
    exact hy.2 _ rfl
theorem n_X12_laysMany {A : Nat → Prop} {σ : XS} {r0 : Nat} {r1 : Nat} {r2 : Nat} {x : XS} (hA : Reg A σ) (hr2 : A r2) (hf : f_X12_laysMany σ r0 r1 r2 = some x) : Sm A σ x ∧ Reg A x := by
  have hm := Sm.rf (A := A) (σ := σ)
  exact ⟨hm.tr (n_X12_laysMany_l2 (a := ((0 : Int32), σ)) hA hr2 hf).1, (n_X12_laysMany_l2 (a := ((0 : Int32), σ)) hA hr2 hf).2⟩
theorem n_X12_joined_l178 {A : Nat → Prop} {σ : XS} {r0 : Nat} {x2 : Int32} {x3 : Int32} {a : Int32 × Int32} {x : Int64 × XS} (hA : Reg A σ) (hf : xloop (f_X12_joined_b178 σ r0 x2 x3) a = some x) : Sm A σ x.2 ∧ Reg A x.2 := by
  revert hA
  refine xloop_ind (P := fun a => Reg A σ → Sm A σ x.2 ∧ Reg A x.2) (fun a y hf hc he => ?_) hf
  obtain ⟨x4, x5⟩ := a
  intro hA
  have hA0 : Reg A σ := hA
  have hy : (∀ a' : Int32 × Int32, y = .inl a' → True) ∧ (∀ b1 : Int64 × XS, y = .inr b1 → Sm A σ b1.2 ∧ Reg A b1.2) := by
    have hm := Sm.rf (A := A) (σ := σ)
    by_cases q : (601 : Int32) ≤ x5
    · have hf := xip q hf
      obtain ⟨b0, hg, e9⟩ := xmj hf
      subst e9
      have hf := hg
      refine ⟨fun a' e => xnc2 e, fun b e => ?_⟩
      have h9 := Sum.inr.inj e
      subst h9
      by_cases q : x2 = (-1 : Int32)
      · have hf := xip q hf
        have hf := xsj hf
        subst hf
        exact ⟨hm, hA⟩
      · have hf := xin q hf
        have hf := xsj hf
        subst hf
        exact ⟨hm, hA⟩
    · have hf := xin q hf
      obtain ⟨z2, e1, hf⟩ := xbd hf
      obtain ⟨v4, e3, hf⟩ := xbd hf
      by_cases q : (lg_cmp v4 (0 : Int64)) = 0
      · have hf := xip q hf
        have hf := xsj hf
        subst hf
        exact ⟨fun a' e => (by have h9 := Sum.inl.inj e; subst h9; exact trivial), fun b e => xnc1 e⟩
      · have hf := xin q hf
        by_cases q : x4 = x2
        · have hf := xip q hf
          obtain ⟨b0, hg, e9⟩ := xmj hf
          subst e9
          have hf := hg
          refine ⟨fun a' e => xnc2 e, fun b e => ?_⟩
          have h9 := Sum.inr.inj e
          subst h9
          by_cases q : x3 = 0
          · have hf := xip q hf
            have hf := xsj hf
            subst hf
            exact ⟨hm, hA⟩
          · have hf := xin q hf
            by_cases q : x3 = (1 : Int32)
            · have hf := xip q hf
              obtain ⟨z6, e5, hf⟩ := xbd hf
              obtain ⟨v8, e7, hf⟩ := xbd hf
              have hf := xsj hf
              subst hf
              exact ⟨hm, hA⟩
            · have hf := xin q hf
              have hf := xsj hf
              subst hf
              exact ⟨hm, hA⟩
        · have hf := xin q hf
          have hf := xsj hf
          subst hf
          exact ⟨fun a' e => (by have h9 := Sum.inl.inj e; subst h9; exact trivial), fun b e => xnc1 e⟩
  cases y with
  | inl a' =>
    exact hc a' rfl hA0
  | inr b =>
    have h1 := he b rfl
    subst h1
    exact hy.2 _ rfl
theorem n_X12_joined_l112 {A : Nat → Prop} {r0 : Nat} {x2 : Int32} {x3 : Int32} {x4 : Int32} {a : Int32 × XS} {x : ((Int32 × XS) ⊕ (Int64 × XS))} (hA : Reg A a.2) (hr0 : A r0) (hf : xloop (f_X12_joined_b112 r0 x2 x3 x4) a = some x) : (∀ a' : Int32 × XS, x = .inl a' → Sm A a.2 a'.2 ∧ Reg A a'.2) ∧ (∀ b1 : Int64 × XS, x = .inr b1 → Sm A a.2 b1.2 ∧ Reg A b1.2) := by
  revert hA
  refine xloop_ind (P := fun a => Reg A a.2 → (∀ a' : Int32 × XS, x = .inl a' → Sm A a.2 a'.2 ∧ Reg A a'.2) ∧ (∀ b1 : Int64 × XS, x = .inr b1 → Sm A a.2 b1.2 ∧ Reg A b1.2)) (fun a y hf hc he => ?_) hf
  obtain ⟨x5, σ⟩ := a
  intro hA
  have hA0 : Reg A σ := hA
  have hy : (∀ a' : Int32 × XS, y = .inl a' → Sm A σ a'.2 ∧ Reg A a'.2) ∧ (∀ b2 : ((Int32 × XS) ⊕ (Int64 × XS)), y = .inr b2 → (∀ a' : Int32 × XS, b2 = .inl a' → Sm A σ a'.2 ∧ Reg A a'.2) ∧ (∀ b1 : Int64 × XS, b2 = .inr b1 → Sm A σ b1.2 ∧ Reg A b1.2)) := by
    have hm := Sm.rf (A := A) (σ := σ)
    by_cases q : (301 : Int32) ≤ x5
    · have hf := xip q hf
      obtain ⟨b0, hg, e9⟩ := xmj hf
      subst e9
      have hf := hg
      refine ⟨fun a' e => xnc2 e, fun b e => ?_⟩
      have h9 := Sum.inr.inj e
      subst h9
      have hf := xsj hf
      subst hf
      exact ⟨fun a' e => (by have h9 := Sum.inl.inj e; subst h9; exact ⟨hm, hA⟩), fun b e => xnc1 e⟩
    · have hf := xin q hf
      obtain ⟨z2, e1, hf⟩ := xbd hf
      obtain ⟨v4, e3, hf⟩ := xbd hf
      by_cases q : v4 ≤ 0
      · have hf := xip q hf
        obtain ⟨b0, hg, e9⟩ := xmj hf
        subst e9
        have hf := hg
        refine ⟨fun a' e => xnc2 e, fun b e => ?_⟩
        have h9 := Sum.inr.inj e
        subst h9
        have hf := xsj hf
        subst hf
        exact ⟨fun a' e => (by have h9 := Sum.inl.inj e; subst h9; exact ⟨hm, hA⟩), fun b e => xnc1 e⟩
      · have hf := xin q hf
        obtain ⟨z6, e5, hf⟩ := xbd hf
        have hz6 := xgR_reg rfl hA hr0 e5
        obtain ⟨v8, e7, hf⟩ := xbd hf
        obtain ⟨z10, e9, hf⟩ := xbd hf
        obtain ⟨v12, e11, hf⟩ := xbd hf
        obtain ⟨z14, e13, hf⟩ := xbd hf
        obtain ⟨v16, e15, hf⟩ := xbd hf
        obtain ⟨σ18, e17, hf⟩ := xbd hf
        obtain ⟨hm9, hA⟩ := xsL_reg hA hz6 e17
        have hm := hm.tr hm9
        have hf := xsj hf
        subst hf
        exact ⟨fun a' e => (by have h9 := Sum.inl.inj e; subst h9; exact ⟨hm, hA⟩), fun b e => xnc1 e⟩
  cases y with
  | inl a' =>
    obtain ⟨hm, hA1⟩ := hy.1 a' rfl
    have h1 := hc a' rfl hA1
    exact ⟨fun a' e => ⟨hm.tr ((h1).1 a' e).1, ((h1).1 a' e).2⟩, fun b1 eb1 => ⟨hm.tr ((h1).2 b1 eb1).1, ((h1).2 b1 eb1).2⟩⟩
  | inr b =>
    have h1 := he b rfl
    subst h1
    exact hy.2 _ rfl
theorem n_X12_joined_l101 {A : Nat → Prop} {r0 : Nat} {x2 : Int32} {x3 : Int32} {a : Int32 × XS} {x : Int64 × XS} (hA : Reg A a.2) (hr0 : A r0) (hf : xloop (f_X12_joined_b101 r0 x2 x3) a = some x) : Sm A a.2 x.2 ∧ Reg A x.2 := by
  revert hA
  refine xloop_ind (P := fun a => Reg A a.2 → Sm A a.2 x.2 ∧ Reg A x.2) (fun a y hf hc he => ?_) hf
  obtain ⟨x4, σ⟩ := a
  intro hA
  have hA0 : Reg A σ := hA
  have hy : (∀ a' : Int32 × XS, y = .inl a' → Sm A σ a'.2 ∧ Reg A a'.2) ∧ (∀ b1 : Int64 × XS, y = .inr b1 → Sm A σ b1.2 ∧ Reg A b1.2) := by
    have hm := Sm.rf (A := A) (σ := σ)
    by_cases q : (301 : Int32) ≤ x4
    · have hf := xip q hf
      obtain ⟨b0, hg, e9⟩ := xmj hf
      subst e9
      have hf := hg
      refine ⟨fun a' e => xnc2 e, fun b e => ?_⟩
      have h9 := Sum.inr.inj e
      subst h9
      exact ⟨hm.tr (n_X12_joined_l178 (a := ((0 : Int32), (0 : Int32))) hA hf).1, (n_X12_joined_l178 (a := ((0 : Int32), (0 : Int32))) hA hf).2⟩
    · have hf := xin q hf
      exact ⟨fun a' e => ⟨hm.tr ((n_X12_joined_l112 (a := ((0 : Int32), σ)) hA hr0 hf).1 a' e).1, ((n_X12_joined_l112 (a := ((0 : Int32), σ)) hA hr0 hf).1 a' e).2⟩, fun b1 eb1 => ⟨hm.tr ((n_X12_joined_l112 (a := ((0 : Int32), σ)) hA hr0 hf).2 b1 eb1).1, ((n_X12_joined_l112 (a := ((0 : Int32), σ)) hA hr0 hf).2 b1 eb1).2⟩⟩
  cases y with
  | inl a' =>
    obtain ⟨hm, hA1⟩ := hy.1 a' rfl
    have h1 := hc a' rfl hA1
    exact ⟨hm.tr (h1).1, (h1).2⟩
  | inr b =>
    have h1 := he b rfl
    subst h1
    exact hy.2 _ rfl
theorem n_X12_joined_l76 {A : Nat → Prop} {r0 : Nat} {x2 : Int32} {x3 : Int32} {a : Int32 × XS} {x : Int64 × XS} (hA : Reg A a.2) (hr0 : A r0) (hf : xloop (f_X12_joined_b76 r0 x2 x3) a = some x) : Sm A a.2 x.2 ∧ Reg A x.2 := by
  revert hA
  refine xloop_ind (P := fun a => Reg A a.2 → Sm A a.2 x.2 ∧ Reg A x.2) (fun a y hf hc he => ?_) hf
  obtain ⟨x4, σ⟩ := a
  intro hA
  have hA0 : Reg A σ := hA
  have hy : (∀ a' : Int32 × XS, y = .inl a' → Sm A σ a'.2 ∧ Reg A a'.2) ∧ (∀ b1 : Int64 × XS, y = .inr b1 → Sm A σ b1.2 ∧ Reg A b1.2) := by
    have hm := Sm.rf (A := A) (σ := σ)
    by_cases q : (601 : Int32) ≤ x4
    · have hf := xip q hf
      obtain ⟨b0, hg, e9⟩ := xmj hf
      subst e9
      have hf := hg
      refine ⟨fun a' e => xnc2 e, fun b e => ?_⟩
      have h9 := Sum.inr.inj e
      subst h9
      exact ⟨hm.tr (n_X12_joined_l101 (a := ((0 : Int32), σ)) hA hr0 hf).1, (n_X12_joined_l101 (a := ((0 : Int32), σ)) hA hr0 hf).2⟩
    · have hf := xin q hf
      obtain ⟨z2, e1, hf⟩ := xbd hf
      have hz2 := xgR_reg rfl hA hr0 e1
      obtain ⟨σ4, e3, hf⟩ := xbd hf
      obtain ⟨hm9, hA⟩ := xsL_reg hA hz2 e3
      have hm := hm.tr hm9
      have hf := xsj hf
      subst hf
      exact ⟨fun a' e => (by have h9 := Sum.inl.inj e; subst h9; exact ⟨hm, hA⟩), fun b e => xnc1 e⟩
  cases y with
  | inl a' =>
    obtain ⟨hm, hA1⟩ := hy.1 a' rfl
    have h1 := hc a' rfl hA1
    exact ⟨hm.tr (h1).1, (h1).2⟩
  | inr b =>
    have h1 := he b rfl
    subst h1
    exact hy.2 _ rfl
theorem n_X12_joined_l29 {A : Nat → Prop} {r0 : Nat} {x1 : Int32} {x2 : Int32} {x3 : Int32} {a : Int32 × XS} {x : Int64 × XS} (hA : Reg A a.2) (hr0 : A r0) (hf : xloop (f_X12_joined_b29 r0 x1 x2 x3) a = some x) : Sm A a.2 x.2 ∧ Reg A x.2 := by
  revert hA
  refine xloop_ind (P := fun a => Reg A a.2 → Sm A a.2 x.2 ∧ Reg A x.2) (fun a y hf hc he => ?_) hf
  obtain ⟨x4, σ⟩ := a
  intro hA
  have hA0 : Reg A σ := hA
  have hy : (∀ a' : Int32 × XS, y = .inl a' → Sm A σ a'.2 ∧ Reg A a'.2) ∧ (∀ b1 : Int64 × XS, y = .inr b1 → Sm A σ b1.2 ∧ Reg A b1.2) := by
    have hm := Sm.rf (A := A) (σ := σ)
    by_cases q : (66 : Int32) ≤ x4
    · have hf := xip q hf
      obtain ⟨b0, hg, e9⟩ := xmj hf
      subst e9
      have hf := hg
      refine ⟨fun a' e => xnc2 e, fun b e => ?_⟩
      have h9 := Sum.inr.inj e
      subst h9
      obtain ⟨z2, e1, hf⟩ := xbd hf
      have hz2 := xgR_reg rfl hA hr0 e1
      obtain ⟨z4, e3, hf⟩ := xbd hf
      have hz4 := xgR_reg rfl hA hr0 e3
      obtain ⟨_, e5, hf⟩ := xbd hf
      obtain ⟨σ7, e6, hf⟩ := xbd hf
      obtain ⟨hm9, hA⟩ := n_X12_laysMany hA hz4 e6
      have hm := hm.tr hm9
      exact ⟨hm.tr (n_X12_joined_l76 (a := ((0 : Int32), σ7)) hA hr0 hf).1, (n_X12_joined_l76 (a := ((0 : Int32), σ7)) hA hr0 hf).2⟩
    · have hf := xin q hf
      obtain ⟨z2, e1, hf⟩ := xbd hf
      have hz2 := xgR_reg rfl hA hr0 e1
      obtain ⟨z4, e3, hf⟩ := xbd hf
      obtain ⟨v6, e5, hf⟩ := xbd hf
      obtain ⟨σ8, e7, hf⟩ := xbd hf
      obtain ⟨hm9, hA⟩ := xsI_reg hA hz2 e7
      have hm := hm.tr hm9
      have hf := xsj hf
      subst hf
      exact ⟨fun a' e => (by have h9 := Sum.inl.inj e; subst h9; exact ⟨hm, hA⟩), fun b e => xnc1 e⟩
  cases y with
  | inl a' =>
    obtain ⟨hm, hA1⟩ := hy.1 a' rfl
    have h1 := hc a' rfl hA1
    exact ⟨hm.tr (h1).1, (h1).2⟩
  | inr b =>
    have h1 := he b rfl
    subst h1
    exact hy.2 _ rfl
theorem n_X12_joined {A : Nat → Prop} {σ : XS} {r0 : Nat} {x1 : Int32} {x2 : Int32} {x3 : Int32} {x : Int64 × XS} (hA : Reg A σ) (hr0 : A r0) (hf : f_X12_joined σ r0 x1 x2 x3 = some x) : Sm A σ x.2 ∧ Reg A x.2 := by
  have hm := Sm.rf (A := A) (σ := σ)
  obtain ⟨v2, e1, hf⟩ := xbd hf
  by_cases q : v2 = 0
  · have hf := xip q hf
    have hf := xsj hf
    subst hf
    exact ⟨hm, hA⟩
  · have hf := xin q hf
    obtain ⟨z4, e3, hf⟩ := xbd hf
    obtain ⟨v6, e5, hf⟩ := xbd hf
    by_cases q : v6 = 0
    · have hf := xip q hf
      have hf := xsj hf
      subst hf
      exact ⟨hm, hA⟩
    · have hf := xin q hf
      obtain ⟨_, e7, hf⟩ := xbd hf
      obtain ⟨σ9, e8, hf⟩ := xbd hf
      obtain ⟨hm9, hA⟩ := n_X12_knows hA hr0 e8
      have hm := hm.tr hm9
      exact ⟨hm.tr (n_X12_joined_l29 (a := ((0 : Int32), σ9)) hA hr0 hf).1, (n_X12_joined_l29 (a := ((0 : Int32), σ9)) hA hr0 hf).2⟩
theorem n_X12_lakes_l119 {A : Nat → Prop} {r0 : Nat} {x1 : Int32} {x2 : Int32} {x3 : Int32} {x5 : Int32} {a : Int32 × Int32 × XS} {x : ((Int32 × Int32 × XS) ⊕ ((Int32 × Int32 × XS) ⊕ (Int32 × XS)))} (hA : Reg A a.2.2) (hr0 : A r0) (hf : xloop (f_X12_lakes_b119 r0 x1 x2 x3 x5) a = some x) : (∀ a' : Int32 × Int32 × XS, x = .inl a' → Sm A a.2.2 a'.2.2 ∧ Reg A a'.2.2) ∧ (∀ b2 : ((Int32 × Int32 × XS) ⊕ (Int32 × XS)), x = .inr b2 → (∀ a' : Int32 × Int32 × XS, b2 = .inl a' → Sm A a.2.2 a'.2.2 ∧ Reg A a'.2.2) ∧ (∀ b1 : Int32 × XS, b2 = .inr b1 → Sm A a.2.2 b1.2 ∧ Reg A b1.2)) := by
  revert hA
  refine xloop_ind (P := fun a => Reg A a.2.2 → (∀ a' : Int32 × Int32 × XS, x = .inl a' → Sm A a.2.2 a'.2.2 ∧ Reg A a'.2.2) ∧ (∀ b2 : ((Int32 × Int32 × XS) ⊕ (Int32 × XS)), x = .inr b2 → (∀ a' : Int32 × Int32 × XS, b2 = .inl a' → Sm A a.2.2 a'.2.2 ∧ Reg A a'.2.2) ∧ (∀ b1 : Int32 × XS, b2 = .inr b1 → Sm A a.2.2 b1.2 ∧ Reg A b1.2))) (fun a y hf hc he => ?_) hf
  obtain ⟨x4, x6, σ⟩ := a
  intro hA
  have hA0 : Reg A σ := hA
  have hy : (∀ a' : Int32 × Int32 × XS, y = .inl a' → Sm A σ a'.2.2 ∧ Reg A a'.2.2) ∧ (∀ b3 : ((Int32 × Int32 × XS) ⊕ ((Int32 × Int32 × XS) ⊕ (Int32 × XS))), y = .inr b3 → (∀ a' : Int32 × Int32 × XS, b3 = .inl a' → Sm A σ a'.2.2 ∧ Reg A a'.2.2) ∧ (∀ b2 : ((Int32 × Int32 × XS) ⊕ (Int32 × XS)), b3 = .inr b2 → (∀ a' : Int32 × Int32 × XS, b2 = .inl a' → Sm A σ a'.2.2 ∧ Reg A a'.2.2) ∧ (∀ b1 : Int32 × XS, b2 = .inr b1 → Sm A σ b1.2 ∧ Reg A b1.2))) := by
    have hm := Sm.rf (A := A) (σ := σ)
    obtain ⟨_, e1, hf⟩ := xbd hf
    obtain ⟨v3, e2, hf⟩ := xbd hf
    by_cases q : v3 ≤ x6
    · have hf := xip q hf
      obtain ⟨b0, hg, e9⟩ := xmj hf
      subst e9
      have hf := hg
      refine ⟨fun a' e => xnc2 e, fun b e => ?_⟩
      have h9 := Sum.inr.inj e
      subst h9
      have hf := xsj hf
      subst hf
      exact ⟨fun a' e => (by have h9 := Sum.inl.inj e; subst h9; exact ⟨hm, hA⟩), fun b e => xnc1 e⟩
    · have hf := xin q hf
      obtain ⟨z5, e4, hf⟩ := xbd hf
      obtain ⟨v7, e6, hf⟩ := xbd hf
      obtain ⟨z9, e8, hf⟩ := xbd hf
      obtain ⟨v11, e10, hf⟩ := xbd hf
      by_cases q : v11 = 0
      · have hf := xip q hf
        obtain ⟨z13, e12, hf⟩ := xbd hf
        obtain ⟨v15, e14, hf⟩ := xbd hf
        by_cases q : v15 = (100000 : Int32)
        · have hf := xip q hf
          have hf := xsj hf
          subst hf
          exact ⟨fun a' e => (by have h9 := Sum.inl.inj e; subst h9; exact ⟨hm, hA⟩), fun b e => xnc1 e⟩
        · have hf := xin q hf
          obtain ⟨z17, e16, hf⟩ := xbd hf
          obtain ⟨v19, e18, hf⟩ := xbd hf
          by_cases q : v19 ≤ x1
          · have hf := xip q hf
            obtain ⟨z21, e20, hf⟩ := xbd hf
            have hz21 := xgR_reg rfl hA hr0 e20
            obtain ⟨σ23, e22, hf⟩ := xbd hf
            obtain ⟨hm9, hA⟩ := xsI_reg hA hz21 e22
            have hm := hm.tr hm9
            obtain ⟨z25, e24, hf⟩ := xbd hf
            have hz25 := xgR_reg rfl hA hr0 e24
            obtain ⟨σ27, e26, hf⟩ := xbd hf
            obtain ⟨hm9, hA⟩ := xsI_reg hA hz25 e26
            have hm := hm.tr hm9
            have hf := xsj hf
            subst hf
            exact ⟨fun a' e => (by have h9 := Sum.inl.inj e; subst h9; exact ⟨hm, hA⟩), fun b e => xnc1 e⟩
          · have hf := xin q hf
            have hf := xsj hf
            subst hf
            exact ⟨fun a' e => (by have h9 := Sum.inl.inj e; subst h9; exact ⟨hm, hA⟩), fun b e => xnc1 e⟩
      · have hf := xin q hf
        have hf := xsj hf
        subst hf
        exact ⟨fun a' e => (by have h9 := Sum.inl.inj e; subst h9; exact ⟨hm, hA⟩), fun b e => xnc1 e⟩
  cases y with
  | inl a' =>
    obtain ⟨hm, hA1⟩ := hy.1 a' rfl
    have h1 := hc a' rfl hA1
    exact ⟨fun a' e => ⟨hm.tr ((h1).1 a' e).1, ((h1).1 a' e).2⟩, fun b2 eb2 => ⟨fun a' e => ⟨hm.tr (((h1).2 b2 eb2).1 a' e).1, (((h1).2 b2 eb2).1 a' e).2⟩, fun b1 eb1 => ⟨hm.tr (((h1).2 b2 eb2).2 b1 eb1).1, (((h1).2 b2 eb2).2 b1 eb1).2⟩⟩⟩
  | inr b =>
    have h1 := he b rfl
    subst h1
    exact hy.2 _ rfl
end
section
theorem n_X12_lakes_l109 {A : Nat → Prop} {r0 : Nat} {x1 : Int32} {x2 : Int32} {x3 : Int32} {a : Int32 × Int32 × XS} {x : ((Int32 × Int32 × XS) ⊕ (Int32 × XS))} (hA : Reg A a.2.2) (hr0 : A r0) (hf : xloop (f_X12_lakes_b109 r0 x1 x2 x3) a = some x) : (∀ a' : Int32 × Int32 × XS, x = .inl a' → Sm A a.2.2 a'.2.2 ∧ Reg A a'.2.2) ∧ (∀ b1 : Int32 × XS, x = .inr b1 → Sm A a.2.2 b1.2 ∧ Reg A b1.2) := by
  revert hA
  refine xloop_ind (P := fun a => Reg A a.2.2 → (∀ a' : Int32 × Int32 × XS, x = .inl a' → Sm A a.2.2 a'.2.2 ∧ Reg A a'.2.2) ∧ (∀ b1 : Int32 × XS, x = .inr b1 → Sm A a.2.2 b1.2 ∧ Reg A b1.2)) (fun a y hf hc he => ?_) hf
  obtain ⟨x4, x5, σ⟩ := a
  intro hA
  have hA0 : Reg A σ := hA
  have hy : (∀ a' : Int32 × Int32 × XS, y = .inl a' → Sm A σ a'.2.2 ∧ Reg A a'.2.2) ∧ (∀ b2 : ((Int32 × Int32 × XS) ⊕ (Int32 × XS)), y = .inr b2 → (∀ a' : Int32 × Int32 × XS, b2 = .inl a' → Sm A σ a'.2.2 ∧ Reg A a'.2.2) ∧ (∀ b1 : Int32 × XS, b2 = .inr b1 → Sm A σ b1.2 ∧ Reg A b1.2)) := by
    have hm := Sm.rf (A := A) (σ := σ)
    by_cases q : x4 ≤ x5
    · have hf := xip q hf
      obtain ⟨b0, hg, e9⟩ := xmj hf
      subst e9
      have hf := hg
      refine ⟨fun a' e => xnc2 e, fun b e => ?_⟩
      have h9 := Sum.inr.inj e
      subst h9
      have hf := xsj hf
      subst hf
      exact ⟨fun a' e => (by have h9 := Sum.inl.inj e; subst h9; exact ⟨hm, hA⟩), fun b e => xnc1 e⟩
    · have hf := xin q hf
      exact ⟨fun a' e => ⟨hm.tr ((n_X12_lakes_l119 (a := (x4, (0 : Int32), σ)) hA hr0 hf).1 a' e).1, ((n_X12_lakes_l119 (a := (x4, (0 : Int32), σ)) hA hr0 hf).1 a' e).2⟩, fun b2 eb2 => ⟨fun a' e => ⟨hm.tr (((n_X12_lakes_l119 (a := (x4, (0 : Int32), σ)) hA hr0 hf).2 b2 eb2).1 a' e).1, (((n_X12_lakes_l119 (a := (x4, (0 : Int32), σ)) hA hr0 hf).2 b2 eb2).1 a' e).2⟩, fun b1 eb1 => ⟨hm.tr (((n_X12_lakes_l119 (a := (x4, (0 : Int32), σ)) hA hr0 hf).2 b2 eb2).2 b1 eb1).1, (((n_X12_lakes_l119 (a := (x4, (0 : Int32), σ)) hA hr0 hf).2 b2 eb2).2 b1 eb1).2⟩⟩⟩
  cases y with
  | inl a' =>
    obtain ⟨hm, hA1⟩ := hy.1 a' rfl
    have h1 := hc a' rfl hA1
    exact ⟨fun a' e => ⟨hm.tr ((h1).1 a' e).1, ((h1).1 a' e).2⟩, fun b1 eb1 => ⟨hm.tr ((h1).2 b1 eb1).1, ((h1).2 b1 eb1).2⟩⟩
  | inr b =>
    have h1 := he b rfl
    subst h1
    exact hy.2 _ rfl
theorem n_X12_lakes_l44 {A : Nat → Prop} {r0 : Nat} {x1 : Int32} {a : Int32 × Int32 × XS} {x : Int32 × XS} (hA : Reg A a.2.2) (hr0 : A r0) (hf : xloop (f_X12_lakes_b44 r0 x1) a = some x) : Sm A a.2.2 x.2 ∧ Reg A x.2 := by
  revert hA
  refine xloop_ind (P := fun a => Reg A a.2.2 → Sm A a.2.2 x.2 ∧ Reg A x.2) (fun a y hf hc he => ?_) hf
  obtain ⟨x2, x3, σ⟩ := a
  intro hA
  have hA0 : Reg A σ := hA
  have hy : (∀ a' : Int32 × Int32 × XS, y = .inl a' → Sm A σ a'.2.2 ∧ Reg A a'.2.2) ∧ (∀ b1 : Int32 × XS, y = .inr b1 → Sm A σ b1.2 ∧ Reg A b1.2) := by
    have hm := Sm.rf (A := A) (σ := σ)
    obtain ⟨_, e1, hf⟩ := xbd hf
    obtain ⟨v3, e2, hf⟩ := xbd hf
    by_cases q : v3 ≤ x3
    · have hf := xip q hf
      obtain ⟨b0, hg, e9⟩ := xmj hf
      subst e9
      have hf := hg
      refine ⟨fun a' e => xnc2 e, fun b e => ?_⟩
      have h9 := Sum.inr.inj e
      subst h9
      have hf := xsj hf
      subst hf
      exact ⟨hm, hA⟩
    · have hf := xin q hf
      obtain ⟨z5, e4, hf⟩ := xbd hf
      obtain ⟨v7, e6, hf⟩ := xbd hf
      by_cases q : v7 = 0
      · have hf := xip q hf
        obtain ⟨z9, e8, hf⟩ := xbd hf
        obtain ⟨v11, e10, hf⟩ := xbd hf
        by_cases q : v11 = (100000 : Int32)
        · have hf := xip q hf
          have hf := xsj hf
          subst hf
          exact ⟨fun a' e => (by have h9 := Sum.inl.inj e; subst h9; exact ⟨hm, hA⟩), fun b e => xnc1 e⟩
        · have hf := xin q hf
          obtain ⟨z13, e12, hf⟩ := xbd hf
          obtain ⟨v15, e14, hf⟩ := xbd hf
          by_cases q : v15 ≤ x1
          · have hf := xip q hf
            obtain ⟨z17, e16, hf⟩ := xbd hf
            have hz17 := xgR_reg rfl hA hr0 e16
            obtain ⟨σ19, e18, hf⟩ := xbd hf
            obtain ⟨hm9, hA⟩ := xsI_reg hA hz17 e18
            have hm := hm.tr hm9
            obtain ⟨z21, e20, hf⟩ := xbd hf
            have hz21 := xgR_reg rfl hA hr0 e20
            obtain ⟨σ23, e22, hf⟩ := xbd hf
            obtain ⟨hm9, hA⟩ := xsI_reg hA hz21 e22
            have hm := hm.tr hm9
            exact ⟨fun a' e => ⟨hm.tr ((n_X12_lakes_l109 (a := ((1 : Int32), (0 : Int32), σ23)) hA hr0 hf).1 a' e).1, ((n_X12_lakes_l109 (a := ((1 : Int32), (0 : Int32), σ23)) hA hr0 hf).1 a' e).2⟩, fun b1 eb1 => ⟨hm.tr ((n_X12_lakes_l109 (a := ((1 : Int32), (0 : Int32), σ23)) hA hr0 hf).2 b1 eb1).1, ((n_X12_lakes_l109 (a := ((1 : Int32), (0 : Int32), σ23)) hA hr0 hf).2 b1 eb1).2⟩⟩
          · have hf := xin q hf
            have hf := xsj hf
            subst hf
            exact ⟨fun a' e => (by have h9 := Sum.inl.inj e; subst h9; exact ⟨hm, hA⟩), fun b e => xnc1 e⟩
      · have hf := xin q hf
        have hf := xsj hf
        subst hf
        exact ⟨fun a' e => (by have h9 := Sum.inl.inj e; subst h9; exact ⟨hm, hA⟩), fun b e => xnc1 e⟩
  cases y with
  | inl a' =>
    obtain ⟨hm, hA1⟩ := hy.1 a' rfl
    have h1 := hc a' rfl hA1
    exact ⟨hm.tr (h1).1, (h1).2⟩
  | inr b =>
    have h1 := he b rfl
    subst h1
    exact hy.2 _ rfl
theorem n_X12_lakes_l19 {A : Nat → Prop} {r0 : Nat} {x1 : Int32} {a : Int32 × XS} {x : Int32 × XS} (hA : Reg A a.2) (hr0 : A r0) (hf : xloop (f_X12_lakes_b19 r0 x1) a = some x) : Sm A a.2 x.2 ∧ Reg A x.2 := by
  revert hA
  refine xloop_ind (P := fun a => Reg A a.2 → Sm A a.2 x.2 ∧ Reg A x.2) (fun a y hf hc he => ?_) hf
  obtain ⟨x2, σ⟩ := a
  intro hA
  have hA0 : Reg A σ := hA
  have hy : (∀ a' : Int32 × XS, y = .inl a' → Sm A σ a'.2 ∧ Reg A a'.2) ∧ (∀ b1 : Int32 × XS, y = .inr b1 → Sm A σ b1.2 ∧ Reg A b1.2) := by
    have hm := Sm.rf (A := A) (σ := σ)
    obtain ⟨_, e1, hf⟩ := xbd hf
    obtain ⟨v3, e2, hf⟩ := xbd hf
    by_cases q : v3 ≤ x2
    · have hf := xip q hf
      obtain ⟨b0, hg, e9⟩ := xmj hf
      subst e9
      have hf := hg
      refine ⟨fun a' e => xnc2 e, fun b e => ?_⟩
      have h9 := Sum.inr.inj e
      subst h9
      exact ⟨hm.tr (n_X12_lakes_l44 (a := ((0 : Int32), (0 : Int32), σ)) hA hr0 hf).1, (n_X12_lakes_l44 (a := ((0 : Int32), (0 : Int32), σ)) hA hr0 hf).2⟩
    · have hf := xin q hf
      obtain ⟨z5, e4, hf⟩ := xbd hf
      have hz5 := xgR_reg rfl hA hr0 e4
      obtain ⟨σ7, e6, hf⟩ := xbd hf
      obtain ⟨hm9, hA⟩ := xsI_reg hA hz5 e6
      have hm := hm.tr hm9
      have hf := xsj hf
      subst hf
      exact ⟨fun a' e => (by have h9 := Sum.inl.inj e; subst h9; exact ⟨hm, hA⟩), fun b e => xnc1 e⟩
  cases y with
  | inl a' =>
    obtain ⟨hm, hA1⟩ := hy.1 a' rfl
    have h1 := hc a' rfl hA1
    exact ⟨hm.tr (h1).1, (h1).2⟩
  | inr b =>
    have h1 := he b rfl
    subst h1
    exact hy.2 _ rfl
theorem n_X12_lakes {A : Nat → Prop} {σ : XS} {r0 : Nat} {x1 : Int32} {x : Int32 × XS} (hA : Reg A σ) (hr0 : A r0) (hf : f_X12_lakes σ r0 x1 = some x) : Sm A σ x.2 ∧ Reg A x.2 := by
  have hm := Sm.rf (A := A) (σ := σ)
  obtain ⟨_, e1, hf⟩ := xbd hf
  obtain ⟨v3, e2, hf⟩ := xbd hf
  by_cases q : v3 ≤ (10 : Int32)
  · have hf := xip q hf
    obtain ⟨_, e4, hf⟩ := xbd hf
    obtain ⟨σ6, e5, hf⟩ := xbd hf
    obtain ⟨hm9, hA⟩ := n_X12_knows hA hr0 e5
    have hm := hm.tr hm9
    exact ⟨hm.tr (n_X12_lakes_l19 (a := ((0 : Int32), σ6)) hA hr0 hf).1, (n_X12_lakes_l19 (a := ((0 : Int32), σ6)) hA hr0 hf).2⟩
  · have hf := xin q hf
    have hf := xsj hf
    subst hf
    exact ⟨hm, hA⟩
theorem n_X12_level {A : Nat → Prop} {σ : XS} {r0 : Nat} {x1 : Int32} {x2 : Int32} {x : Int32 × XS} (hA : Reg A σ) (hr0 : A r0) (hf : f_X12_level σ r0 x1 x2 = some x) : Sm A σ x.2 ∧ Reg A x.2 := by
  have hm := Sm.rf (A := A) (σ := σ)
  obtain ⟨_, e1, hf⟩ := xbd hf
  obtain ⟨σ3, e2, hf⟩ := xbd hf
  obtain ⟨hm9, hA⟩ := n_X12_knows hA hr0 e2
  have hm := hm.tr hm9
  by_cases q : x1 = (-1 : Int32)
  · have hf := xip q hf
    obtain ⟨v5, e4, hf⟩ := xbd hf
    have hf := xsj hf
    subst hf
    exact ⟨hm, hA⟩
  · have hf := xin q hf
    obtain ⟨v5, e4, hf⟩ := xbd hf
    obtain ⟨v7, e6, hf⟩ := xbd hf
    by_cases q : v7 = 0
    · have hf := xip q hf
      have hf := xsj hf
      subst hf
      exact ⟨hm, hA⟩
    · have hf := xin q hf
      by_cases ho : (x2).toInt < 0 ∨ 4 < (x2).toInt
      · have hf := xsw_out ho rfl hf
        have hf := xsj hf
        subst hf
        exact ⟨hm, hA⟩
      · rcases (by omega : (x2).toInt = 0 + ((0 : Nat) : Int) ∨ (x2).toInt = 0 + ((1 : Nat) : Int) ∨ (x2).toInt = 0 + ((2 : Nat) : Int) ∨ (x2).toInt = 0 + ((3 : Nat) : Int) ∨ (x2).toInt = 0 + ((4 : Nat) : Int)) with hk1 | hk1 | hk1 | hk1 | hk1
        · have hf := xsw_in 0 hk1 rfl hf
          obtain ⟨z9, e8, hf⟩ := xbd hf
          obtain ⟨v11, e10, hf⟩ := xbd hf
          have hf := xsj hf
          subst hf
          exact ⟨hm, hA⟩
        · have hf := xsw_in 1 hk1 rfl hf
          obtain ⟨z9, e8, hf⟩ := xbd hf
          obtain ⟨z11, e10, hf⟩ := xbd hf
          obtain ⟨v13, e12, hf⟩ := xbd hf
          obtain ⟨v15, e14, hf⟩ := xbd hf
          have hf := xsj hf
          subst hf
          exact ⟨hm, hA⟩
        · have hf := xsw_in 2 hk1 rfl hf
          obtain ⟨z9, e8, hf⟩ := xbd hf
          obtain ⟨v11, e10, hf⟩ := xbd hf
          obtain ⟨_, e12, hf⟩ := xbd hf
          obtain ⟨v14, e13, hf⟩ := xbd hf
          have hf := xsj hf
          subst hf
          exact ⟨hm, hA⟩
        · have hf := xsw_in 3 hk1 rfl hf
          obtain ⟨z9, e8, hf⟩ := xbd hf
          obtain ⟨v11, e10, hf⟩ := xbd hf
          obtain ⟨_, e12, hf⟩ := xbd hf
          obtain ⟨v14, e13, hf⟩ := xbd hf
          have hf := xsj hf
          subst hf
          exact ⟨hm, hA⟩
        · have hf := xsw_in 4 hk1 rfl hf
          obtain ⟨z9, e8, hf⟩ := xbd hf
          obtain ⟨v11, e10, hf⟩ := xbd hf
          obtain ⟨_, e12, hf⟩ := xbd hf
          obtain ⟨v14, e13, hf⟩ := xbd hf
          have hf := xsj hf
          subst hf
          exact ⟨hm, hA⟩
theorem n_X12_passes {A : Nat → Prop} {σ : XS} {r0 : Nat} {x : XS} (hA : Reg A σ) (hr0 : A r0) (hf : f_X12_passes σ r0 = some x) : Sm A σ x ∧ Reg A x := by
  have hm := Sm.rf (A := A) (σ := σ)
  obtain ⟨v2, e1, hf⟩ := xbd hf
  by_cases q : v2 = (400 : Int32)
  · have hf := xip q hf
    obtain ⟨_, e3, hf⟩ := xbd hf
    obtain ⟨σ5, e4, hf⟩ := xbd hf
    obtain ⟨hm9, hA⟩ := n_X12_fail hA hr0 e4
    have hm := hm.tr hm9
    have hf := xsj hf
    subst hf
    exact ⟨hm, hA⟩
  · have hf := xin q hf
    obtain ⟨v4, e3, hf⟩ := xbd hf
    obtain ⟨σ6, e5, hf⟩ := xbd hf
    obtain ⟨hm9, hA⟩ := xpI_reg hA hr0 e5
    have hm := hm.tr hm9
    have hf := xsj hf
    subst hf
    exact ⟨hm, hA⟩
theorem n_X12_must {A : Nat → Prop} {σ : XS} {r0 : Nat} {x1 : Int32} {x : XS} (hA : Reg A σ) (hr0 : A r0) (hf : f_X12_must σ r0 x1 = some x) : Sm A σ x ∧ Reg A x := by
  have hm := Sm.rf (A := A) (σ := σ)
  obtain ⟨_, e1, hf⟩ := xbd hf
  obtain ⟨v3, e2, hf⟩ := xbd hf
  by_cases q : v3 = 0
  · have hf := xip q hf
    obtain ⟨_, e4, hf⟩ := xbd hf
    obtain ⟨σ6, e5, hf⟩ := xbd hf
    obtain ⟨hm9, hA⟩ := n_X12_fail hA hr0 e5
    have hm := hm.tr hm9
    have hf := xsj hf
    subst hf
    exact ⟨hm, hA⟩
  · have hf := xin q hf
    obtain ⟨_, e4, hf⟩ := xbd hf
    obtain ⟨σ6, e5, hf⟩ := xbd hf
    obtain ⟨hm9, hA⟩ := n_X12_passes hA hr0 e5
    have hm := hm.tr hm9
    have hf := xsj hf
    subst hf
    exact ⟨hm, hA⟩
theorem n_X12_mustJ_j12 {A : Nat → Prop} {σ : XS} {r0 : Nat} {x : XS} (hA : Reg A σ) (hr0 : A r0) (hf : f_X12_mustJ_j12 σ r0 = some x) : Sm A σ x ∧ Reg A x := by
  have hm := Sm.rf (A := A) (σ := σ)
  obtain ⟨_, e1, hf⟩ := xbd hf
  obtain ⟨σ3, e2, hf⟩ := xbd hf
  obtain ⟨hm9, hA⟩ := n_X12_must hA hr0 e2
  have hm := hm.tr hm9
  have hf := xsj hf
  subst hf
  exact ⟨hm, hA⟩
theorem n_X12_mustJ {A : Nat → Prop} {σ : XS} {r0 : Nat} {x : XS} (hA : Reg A σ) (hr0 : A r0) (hf : f_X12_mustJ σ r0 = some x) : Sm A σ x ∧ Reg A x := by
  have hm := Sm.rf (A := A) (σ := σ)
  obtain ⟨_, e1, hf⟩ := xbd hf
  obtain ⟨v3, e2, hf⟩ := xbd hf
  by_cases q : v3 = 0
  · have hf := xip q hf
    exact ⟨hm.tr (n_X12_mustJ_j12 hA hr0 hf).1, (n_X12_mustJ_j12 hA hr0 hf).2⟩
  · have hf := xin q hf
    obtain ⟨_, e4, hf⟩ := xbd hf
    obtain ⟨σ6, e5, hf⟩ := xbd hf
    obtain ⟨hm9, hA⟩ := n_X12_passes hA hr0 e5
    have hm := hm.tr hm9
    exact ⟨hm.tr (n_X12_mustJ_j12 hA hr0 hf).1, (n_X12_mustJ_j12 hA hr0 hf).2⟩
theorem n_X12_mustWay {A : Nat → Prop} {σ : XS} {r0 : Nat} {x : XS} (hA : Reg A σ) (hr0 : A r0) (hf : f_X12_mustWay σ r0 = some x) : Sm A σ x ∧ Reg A x := by
  have hm := Sm.rf (A := A) (σ := σ)
  obtain ⟨_, e1, hf⟩ := xbd hf
  obtain ⟨v3, e2, hf⟩ := xbd hf
  by_cases q : v3 = 0
  · have hf := xip q hf
    obtain ⟨_, e4, hf⟩ := xbd hf
    obtain ⟨σ6, e5, hf⟩ := xbd hf
    obtain ⟨hm9, hA⟩ := n_X12_must hA hr0 e5
    have hm := hm.tr hm9
    have hf := xsj hf
    subst hf
    exact ⟨hm, hA⟩
  · have hf := xin q hf
    obtain ⟨_, e4, hf⟩ := xbd hf
    obtain ⟨σ6, e5, hf⟩ := xbd hf
    obtain ⟨hm9, hA⟩ := n_X12_passes hA hr0 e5
    have hm := hm.tr hm9
    have hf := xsj hf
    subst hf
    exact ⟨hm, hA⟩
theorem n_X12_line_j174 {A : Nat → Prop} {σ : XS} {r0 : Nat} {x : XS} (hA : Reg A σ) (hr0 : A r0) (hf : f_X12_line_j174 σ r0 = some x) : Sm A σ x ∧ Reg A x := by
  have hm := Sm.rf (A := A) (σ := σ)
  obtain ⟨_, e1, hf⟩ := xbd hf
  obtain ⟨σ3, e2, hf⟩ := xbd hf
  obtain ⟨hm9, hA⟩ := n_X12_must hA hr0 e2
  have hm := hm.tr hm9
  have hf := xsj hf
  subst hf
  exact ⟨hm, hA⟩
theorem n_X12_line {A : Nat → Prop} {σ : XS} {r0 : Nat} {x : XS} (hA : Reg A σ) (hr0 : A r0) (hf : f_X12_line σ r0 = some x) : Sm A σ x ∧ Reg A x := by
  have hm := Sm.rf (A := A) (σ := σ)
  obtain ⟨z2, e1, hf⟩ := xbd hf
  obtain ⟨v4, e3, hf⟩ := xbd hf
  obtain ⟨v6, e5, hf⟩ := xbd hf
  by_cases ho : (v6).toInt < 21 ∨ 30 < (v6).toInt
  · have hf := xsw_out ho rfl hf
    obtain ⟨_, e7, hf⟩ := xbd hf
    obtain ⟨σ9, e8, hf⟩ := xbd hf
    obtain ⟨hm9, hA⟩ := n_X12_fail hA hr0 e8
    have hm := hm.tr hm9
    have hf := xsj hf
    subst hf
    exact ⟨hm, hA⟩
  · rcases (by omega : (v6).toInt = 21 + ((0 : Nat) : Int) ∨ (v6).toInt = 21 + ((1 : Nat) : Int) ∨ (v6).toInt = 21 + ((2 : Nat) : Int) ∨ (v6).toInt = 21 + ((3 : Nat) : Int) ∨ (v6).toInt = 21 + ((4 : Nat) : Int) ∨ (v6).toInt = 21 + ((5 : Nat) : Int) ∨ (v6).toInt = 21 + ((6 : Nat) : Int) ∨ (v6).toInt = 21 + ((7 : Nat) : Int) ∨ (v6).toInt = 21 + ((8 : Nat) : Int) ∨ (v6).toInt = 21 + ((9 : Nat) : Int)) with hk1 | hk1 | hk1 | hk1 | hk1 | hk1 | hk1 | hk1 | hk1 | hk1
    · have hf := xsw_in 0 hk1 rfl hf
      obtain ⟨_, e7, hf⟩ := xbd hf
      obtain ⟨σ9, e8, hf⟩ := xbd hf
      obtain ⟨hm9, hA⟩ := n_X12_passes hA hr0 e8
      have hm := hm.tr hm9
      obtain ⟨_, e10, hf⟩ := xbd hf
      obtain ⟨σ12, e11, hf⟩ := xbd hf
      obtain ⟨hm9, hA⟩ := n_X12_mustJ hA hr0 e11
      have hm := hm.tr hm9
      exact ⟨hm.tr (n_X12_line_j174 hA hr0 hf).1, (n_X12_line_j174 hA hr0 hf).2⟩
    · have hf := xsw_in 1 hk1 rfl hf
      obtain ⟨_, e7, hf⟩ := xbd hf
      obtain ⟨σ9, e8, hf⟩ := xbd hf
      obtain ⟨hm9, hA⟩ := n_X12_passes hA hr0 e8
      have hm := hm.tr hm9
      obtain ⟨_, e10, hf⟩ := xbd hf
      obtain ⟨σ12, e11, hf⟩ := xbd hf
      obtain ⟨hm9, hA⟩ := n_X12_mustJ hA hr0 e11
      have hm := hm.tr hm9
      exact ⟨hm.tr (n_X12_line_j174 hA hr0 hf).1, (n_X12_line_j174 hA hr0 hf).2⟩
    · have hf := xsw_in 2 hk1 rfl hf
      obtain ⟨_, e7, hf⟩ := xbd hf
      obtain ⟨σ9, e8, hf⟩ := xbd hf
      obtain ⟨hm9, hA⟩ := n_X12_passes hA hr0 e8
      have hm := hm.tr hm9
      obtain ⟨_, e10, hf⟩ := xbd hf
      obtain ⟨σ12, e11, hf⟩ := xbd hf
      obtain ⟨hm9, hA⟩ := n_X12_mustJ hA hr0 e11
      have hm := hm.tr hm9
      exact ⟨hm.tr (n_X12_line_j174 hA hr0 hf).1, (n_X12_line_j174 hA hr0 hf).2⟩
    · have hf := xsw_in 3 hk1 rfl hf
      obtain ⟨_, e7, hf⟩ := xbd hf
      obtain ⟨σ9, e8, hf⟩ := xbd hf
      obtain ⟨hm9, hA⟩ := n_X12_passes hA hr0 e8
      have hm := hm.tr hm9
      obtain ⟨_, e10, hf⟩ := xbd hf
      obtain ⟨σ12, e11, hf⟩ := xbd hf
      obtain ⟨hm9, hA⟩ := n_X12_mustWay hA hr0 e11
      have hm := hm.tr hm9
      exact ⟨hm.tr (n_X12_line_j174 hA hr0 hf).1, (n_X12_line_j174 hA hr0 hf).2⟩
    · have hf := xsw_in 4 hk1 rfl hf
      obtain ⟨_, e7, hf⟩ := xbd hf
      obtain ⟨σ9, e8, hf⟩ := xbd hf
      obtain ⟨hm9, hA⟩ := n_X12_passes hA hr0 e8
      have hm := hm.tr hm9
      obtain ⟨_, e10, hf⟩ := xbd hf
      obtain ⟨σ12, e11, hf⟩ := xbd hf
      obtain ⟨hm9, hA⟩ := n_X12_must hA hr0 e11
      have hm := hm.tr hm9
      obtain ⟨_, e13, hf⟩ := xbd hf
      obtain ⟨σ15, e14, hf⟩ := xbd hf
      obtain ⟨hm9, hA⟩ := n_X12_mustWay hA hr0 e14
      have hm := hm.tr hm9
      obtain ⟨_, e16, hf⟩ := xbd hf
      obtain ⟨σ18, e17, hf⟩ := xbd hf
      obtain ⟨hm9, hA⟩ := n_X12_mustJ hA hr0 e17
      have hm := hm.tr hm9
      exact ⟨hm.tr (n_X12_line_j174 hA hr0 hf).1, (n_X12_line_j174 hA hr0 hf).2⟩
    · have hf := xsw_in 5 hk1 rfl hf
      obtain ⟨_, e7, hf⟩ := xbd hf
      obtain ⟨σ9, e8, hf⟩ := xbd hf
      obtain ⟨hm9, hA⟩ := n_X12_passes hA hr0 e8
      have hm := hm.tr hm9
      obtain ⟨_, e10, hf⟩ := xbd hf
      obtain ⟨σ12, e11, hf⟩ := xbd hf
      obtain ⟨hm9, hA⟩ := n_X12_must hA hr0 e11
      have hm := hm.tr hm9
      obtain ⟨_, e13, hf⟩ := xbd hf
      obtain ⟨σ15, e14, hf⟩ := xbd hf
      obtain ⟨hm9, hA⟩ := n_X12_mustJ hA hr0 e14
      have hm := hm.tr hm9
      exact ⟨hm.tr (n_X12_line_j174 hA hr0 hf).1, (n_X12_line_j174 hA hr0 hf).2⟩
    · have hf := xsw_in 6 hk1 rfl hf
      obtain ⟨_, e7, hf⟩ := xbd hf
      obtain ⟨σ9, e8, hf⟩ := xbd hf
      obtain ⟨hm9, hA⟩ := n_X12_passes hA hr0 e8
      have hm := hm.tr hm9
      obtain ⟨_, e10, hf⟩ := xbd hf
      obtain ⟨σ12, e11, hf⟩ := xbd hf
      obtain ⟨hm9, hA⟩ := n_X12_must hA hr0 e11
      have hm := hm.tr hm9
      obtain ⟨_, e13, hf⟩ := xbd hf
      obtain ⟨v15, e14, hf⟩ := xbd hf
      by_cases q : v15 = 0
      · have hf := xip q hf
        obtain ⟨_, e16, hf⟩ := xbd hf
        obtain ⟨σ18, e17, hf⟩ := xbd hf
        obtain ⟨hm9, hA⟩ := n_X12_must hA hr0 e17
        have hm := hm.tr hm9
        exact ⟨hm.tr (n_X12_line_j174 hA hr0 hf).1, (n_X12_line_j174 hA hr0 hf).2⟩
      · have hf := xin q hf
        obtain ⟨_, e16, hf⟩ := xbd hf
        obtain ⟨σ18, e17, hf⟩ := xbd hf
        obtain ⟨hm9, hA⟩ := n_X12_passes hA hr0 e17
        have hm := hm.tr hm9
        exact ⟨hm.tr (n_X12_line_j174 hA hr0 hf).1, (n_X12_line_j174 hA hr0 hf).2⟩
    · have hf := xsw_in 7 hk1 rfl hf
      obtain ⟨_, e7, hf⟩ := xbd hf
      obtain ⟨σ9, e8, hf⟩ := xbd hf
      obtain ⟨hm9, hA⟩ := n_X12_fail hA hr0 e8
      have hm := hm.tr hm9
      have hf := xsj hf
      subst hf
      exact ⟨hm, hA⟩
    · have hf := xsw_in 8 hk1 rfl hf
      obtain ⟨_, e7, hf⟩ := xbd hf
      obtain ⟨σ9, e8, hf⟩ := xbd hf
      obtain ⟨hm9, hA⟩ := n_X12_fail hA hr0 e8
      have hm := hm.tr hm9
      have hf := xsj hf
      subst hf
      exact ⟨hm, hA⟩
    · have hf := xsw_in 9 hk1 rfl hf
      obtain ⟨_, e7, hf⟩ := xbd hf
      obtain ⟨σ9, e8, hf⟩ := xbd hf
      obtain ⟨hm9, hA⟩ := n_X12_passes hA hr0 e8
      have hm := hm.tr hm9
      obtain ⟨_, e10, hf⟩ := xbd hf
      obtain ⟨σ12, e11, hf⟩ := xbd hf
      obtain ⟨hm9, hA⟩ := n_X12_must hA hr0 e11
      have hm := hm.tr hm9
      exact ⟨hm.tr (n_X12_line_j174 hA hr0 hf).1, (n_X12_line_j174 hA hr0 hf).2⟩
theorem n_X12_mean_l36 {A : Nat → Prop} {σ : XS} {r0 : Nat} {x1 : Int32} {x2 : Int32} {a : Int32 × Int32} {x : Int32 × XS} (hA : Reg A σ) (hf : xloop (f_X12_mean_b36 σ r0 x1 x2) a = some x) : Sm A σ x.2 ∧ Reg A x.2 := by
  revert hA
  refine xloop_ind (P := fun a => Reg A σ → Sm A σ x.2 ∧ Reg A x.2) (fun a y hf hc he => ?_) hf
  obtain ⟨x3, x4⟩ := a
  intro hA
  have hA0 : Reg A σ := hA
  have hy : (∀ a' : Int32 × Int32, y = .inl a' → True) ∧ (∀ b1 : Int32 × XS, y = .inr b1 → Sm A σ b1.2 ∧ Reg A b1.2) := by
    have hm := Sm.rf (A := A) (σ := σ)
    obtain ⟨_, e1, hf⟩ := xbd hf
    obtain ⟨v3, e2, hf⟩ := xbd hf
    by_cases q : v3 ≤ x4
    · have hf := xip q hf
      obtain ⟨b0, hg, e9⟩ := xmj hf
      subst e9
      have hf := hg
      refine ⟨fun a' e => xnc2 e, fun b e => ?_⟩
      have h9 := Sum.inr.inj e
      subst h9
      obtain ⟨z5, e4, hf⟩ := xbd hf
      obtain ⟨z7, e6, hf⟩ := xbd hf
      obtain ⟨v9, e8, hf⟩ := xbd hf
      obtain ⟨v11, e10, hf⟩ := xbd hf
      obtain ⟨v13, e12, hf⟩ := xbd hf
      have hf := xsj hf
      subst hf
      exact ⟨hm, hA⟩
    · have hf := xin q hf
      obtain ⟨z5, e4, hf⟩ := xbd hf
      obtain ⟨v7, e6, hf⟩ := xbd hf
      obtain ⟨z9, e8, hf⟩ := xbd hf
      obtain ⟨v11, e10, hf⟩ := xbd hf
      by_cases q : v7 = v11
      · have hf := xip q hf
        obtain ⟨v13, e12, hf⟩ := xbd hf
        have hf := xsj hf
        subst hf
        exact ⟨fun a' e => (by have h9 := Sum.inl.inj e; subst h9; exact trivial), fun b e => xnc1 e⟩
      · have hf := xin q hf
        have hf := xsj hf
        subst hf
        exact ⟨fun a' e => (by have h9 := Sum.inl.inj e; subst h9; exact trivial), fun b e => xnc1 e⟩
  cases y with
  | inl a' =>
    exact hc a' rfl hA0
  | inr b =>
    have h1 := he b rfl
    subst h1
    exact hy.2 _ rfl
theorem n_X12_mean {A : Nat → Prop} {σ : XS} {r0 : Nat} {x1 : Int32} {x2 : Int32} {x : Int32 × XS} (hA : Reg A σ) (hr0 : A r0) (hf : f_X12_mean σ r0 x1 x2 = some x) : Sm A σ x.2 ∧ Reg A x.2 := by
  have hm := Sm.rf (A := A) (σ := σ)
  obtain ⟨_, e1, hf⟩ := xbd hf
  obtain ⟨σ3, e2, hf⟩ := xbd hf
  obtain ⟨hm9, hA⟩ := n_X12_knows hA hr0 e2
  have hm := hm.tr hm9
  obtain ⟨v5, e4, hf⟩ := xbd hf
  obtain ⟨v7, e6, hf⟩ := xbd hf
  by_cases q : v7 = 0
  · have hf := xip q hf
    have hf := xsj hf
    subst hf
    exact ⟨hm, hA⟩
  · have hf := xin q hf
    obtain ⟨v9, e8, hf⟩ := xbd hf
    by_cases q : v9 = 0
    · have hf := xip q hf
      have hf := xsj hf
      subst hf
      exact ⟨hm, hA⟩
    · have hf := xin q hf
      exact ⟨hm.tr (n_X12_mean_l36 (a := ((0 : Int32), (0 : Int32))) hA hf).1, (n_X12_mean_l36 (a := ((0 : Int32), (0 : Int32))) hA hf).2⟩
theorem n_X12_meansAll_l105 {A : Nat → Prop} {r0 : Nat} {x2 : Int32} {x3 : Int32} {a : Int32 × XS} {x : XS} (hA : Reg A a.2) (hr0 : A r0) (hf : xloop (f_X12_meansAll_b105 r0 x2 x3) a = some x) : Sm A a.2 x ∧ Reg A x := by
  revert hA
  refine xloop_ind (P := fun a => Reg A a.2 → Sm A a.2 x ∧ Reg A x) (fun a y hf hc he => ?_) hf
  obtain ⟨x4, σ⟩ := a
  intro hA
  have hA0 : Reg A σ := hA
  have hy : (∀ a' : Int32 × XS, y = .inl a' → Sm A σ a'.2 ∧ Reg A a'.2) ∧ (∀ b1 : XS, y = .inr b1 → Sm A σ b1 ∧ Reg A b1) := by
    have hm := Sm.rf (A := A) (σ := σ)
    by_cases q : (16 : Int32) ≤ x4
    · have hf := xip q hf
      obtain ⟨b0, hg, e9⟩ := xmj hf
      subst e9
      have hf := hg
      refine ⟨fun a' e => xnc2 e, fun b e => ?_⟩
      have h9 := Sum.inr.inj e
      subst h9
      have hf := xsj hf
      subst hf
      exact ⟨hm, hA⟩
    · have hf := xin q hf
      obtain ⟨z2, e1, hf⟩ := xbd hf
      have hz2 := xgR_reg rfl hA hr0 e1
      obtain ⟨σ4, e3, hf⟩ := xbd hf
      obtain ⟨hm9, hA⟩ := xsI_reg hA hz2 e3
      have hm := hm.tr hm9
      have hf := xsj hf
      subst hf
      exact ⟨fun a' e => (by have h9 := Sum.inl.inj e; subst h9; exact ⟨hm, hA⟩), fun b e => xnc1 e⟩
  cases y with
  | inl a' =>
    obtain ⟨hm, hA1⟩ := hy.1 a' rfl
    have h1 := hc a' rfl hA1
    exact ⟨hm.tr (h1).1, (h1).2⟩
  | inr b =>
    have h1 := he b rfl
    subst h1
    exact hy.2 _ rfl
theorem n_X12_meansAll_j93 {A : Nat → Prop} {σ : XS} {r0 : Nat} {x1 : Int32} {t0 : Int32} {x : XS} (hA : Reg A σ) (hr0 : A r0) (hf : f_X12_meansAll_j93 σ r0 x1 t0 = some x) : Sm A σ x ∧ Reg A x := by
  have hm := Sm.rf (A := A) (σ := σ)
  obtain ⟨_, e1, hf⟩ := xbd hf
  obtain ⟨⟨v4, σ3⟩, e2, hf⟩ := xbd hf
  dsimp only at hf
  obtain ⟨hm9, hA⟩ := n_X12_jAt hA hr0 e2
  have hm := hm.tr hm9
  exact ⟨hm.tr (n_X12_meansAll_l105 (a := ((0 : Int32), σ3)) hA hr0 hf).1, (n_X12_meansAll_l105 (a := ((0 : Int32), σ3)) hA hr0 hf).2⟩
theorem n_X12_meansAll_j60 {A : Nat → Prop} {σ : XS} {r0 : Nat} {x1 : Int32} {x : XS} (hA : Reg A σ) (hr0 : A r0) (hf : f_X12_meansAll_j60 σ r0 x1 = some x) : Sm A σ x ∧ Reg A x := by
  have hm := Sm.rf (A := A) (σ := σ)
  obtain ⟨z2, e1, hf⟩ := xbd hf
  obtain ⟨v4, e3, hf⟩ := xbd hf
  by_cases q : v4 = (21 : Int32)
  · have hf := xip q hf
    exact ⟨hm.tr (n_X12_meansAll_j93 hA hr0 hf).1, (n_X12_meansAll_j93 hA hr0 hf).2⟩
  · have hf := xin q hf
    obtain ⟨z6, e5, hf⟩ := xbd hf
    obtain ⟨v8, e7, hf⟩ := xbd hf
    by_cases q : v8 = (22 : Int32)
    · have hf := xip q hf
      exact ⟨hm.tr (n_X12_meansAll_j93 hA hr0 hf).1, (n_X12_meansAll_j93 hA hr0 hf).2⟩
    · have hf := xin q hf
      exact ⟨hm.tr (n_X12_meansAll_j93 hA hr0 hf).1, (n_X12_meansAll_j93 hA hr0 hf).2⟩
theorem n_X12_meansAll_j26 {A : Nat → Prop} {σ : XS} {r0 : Nat} {x1 : Int32} {x : XS} (hA : Reg A σ) (hr0 : A r0) (hf : f_X12_meansAll_j26 σ r0 x1 = some x) : Sm A σ x ∧ Reg A x := by
  have hm := Sm.rf (A := A) (σ := σ)
  obtain ⟨z2, e1, hf⟩ := xbd hf
  obtain ⟨v4, e3, hf⟩ := xbd hf
  by_cases q : v4 = (21 : Int32)
  · have hf := xip q hf
    exact ⟨hm.tr (n_X12_meansAll_j60 hA hr0 hf).1, (n_X12_meansAll_j60 hA hr0 hf).2⟩
  · have hf := xin q hf
    obtain ⟨z6, e5, hf⟩ := xbd hf
    obtain ⟨v8, e7, hf⟩ := xbd hf
    by_cases q : v8 = (22 : Int32)
    · have hf := xip q hf
      exact ⟨hm.tr (n_X12_meansAll_j60 hA hr0 hf).1, (n_X12_meansAll_j60 hA hr0 hf).2⟩
    · have hf := xin q hf
      obtain ⟨z10, e9, hf⟩ := xbd hf
      obtain ⟨v12, e11, hf⟩ := xbd hf
      by_cases q : v12 = (23 : Int32)
      · have hf := xip q hf
        exact ⟨hm.tr (n_X12_meansAll_j60 hA hr0 hf).1, (n_X12_meansAll_j60 hA hr0 hf).2⟩
      · have hf := xin q hf
        have hf := xsj hf
        subst hf
        exact ⟨hm, hA⟩
theorem n_X12_meansAll {A : Nat → Prop} {σ : XS} {r0 : Nat} {x1 : Int32} {x : XS} (hA : Reg A σ) (hr0 : A r0) (hf : f_X12_meansAll σ r0 x1 = some x) : Sm A σ x ∧ Reg A x := by
  have hm := Sm.rf (A := A) (σ := σ)
  obtain ⟨z2, e1, hf⟩ := xbd hf
  obtain ⟨v4, e3, hf⟩ := xbd hf
  by_cases q : v4 = (30 : Int32)
  · have hf := xip q hf
    obtain ⟨z6, e5, hf⟩ := xbd hf
    have hz6 := xgR_reg rfl hA hr0 e5
    obtain ⟨z8, e7, hf⟩ := xbd hf
    obtain ⟨v10, e9, hf⟩ := xbd hf
    obtain ⟨σ12, e11, hf⟩ := xbd hf
    obtain ⟨hm9, hA⟩ := xsI_reg hA hz6 e11
    have hm := hm.tr hm9
    exact ⟨hm.tr (n_X12_meansAll_j26 hA hr0 hf).1, (n_X12_meansAll_j26 hA hr0 hf).2⟩
  · have hf := xin q hf
    exact ⟨hm.tr (n_X12_meansAll_j26 hA hr0 hf).1, (n_X12_meansAll_j26 hA hr0 hf).2⟩
theorem n_X12_meansOne_j200 {A : Nat → Prop} {σ : XS} {r0 : Nat} {x2 : Int32} {x3 : Int32} {x4 : Int32} {x5 : Int32} {t0 : Nat} {t1 : Int32} {x : XS} (hA : Reg A σ) (hr0 : A r0) (ht0 : A t0) (hf : f_X12_meansOne_j200 σ r0 x2 x3 x4 x5 t0 t1 = some x) : Sm A σ x ∧ Reg A x := by
  have hm := Sm.rf (A := A) (σ := σ)
  obtain ⟨_, e1, hf⟩ := xbd hf
  obtain ⟨⟨v4, σ3⟩, e2, hf⟩ := xbd hf
  dsimp only at hf
  obtain ⟨hm9, hA⟩ := n_X12_jAt hA ht0 e2
  have hm := hm.tr hm9
  by_cases q : x4 = 0
  · have hf := xip q hf
    have hf := xsj hf
    subst hf
    exact ⟨hm, hA⟩
  · have hf := xin q hf
    obtain ⟨z6, e5, hf⟩ := xbd hf
    have hz6 := xgR_reg rfl hA hr0 e5
    by_cases q : x2 = (26 : Int32)
    · have hf := xip q hf
      obtain ⟨σ8, e7, hf⟩ := xbd hf
      obtain ⟨hm9, hA⟩ := xsI_reg hA hz6 e7
      have hm := hm.tr hm9
      have hf := xsj hf
      subst hf
      exact ⟨hm, hA⟩
    · have hf := xin q hf
      by_cases q : x5 = 0
      · have hf := xip q hf
        obtain ⟨σ8, e7, hf⟩ := xbd hf
        obtain ⟨hm9, hA⟩ := xsI_reg hA hz6 e7
        have hm := hm.tr hm9
        have hf := xsj hf
        subst hf
        exact ⟨hm, hA⟩
      · have hf := xin q hf
        obtain ⟨σ8, e7, hf⟩ := xbd hf
        obtain ⟨hm9, hA⟩ := xsI_reg hA hz6 e7
        have hm := hm.tr hm9
        have hf := xsj hf
        subst hf
        exact ⟨hm, hA⟩
theorem n_X12_meansOne_j145 {A : Nat → Prop} {σ : XS} {r0 : Nat} {x1 : Int32} {x2 : Int32} {x3 : Int32} {x4 : Int32} {x5 : Int32} {x : XS} (hA : Reg A σ) (hr0 : A r0) (hf : f_X12_meansOne_j145 σ r0 x1 x2 x3 x4 x5 = some x) : Sm A σ x ∧ Reg A x := by
  have hm := Sm.rf (A := A) (σ := σ)
  by_cases q : x2 = (27 : Int32)
  · have hf := xip q hf
    by_cases q : x4 = 0
    · have hf := xip q hf
      have hf := xsj hf
      subst hf
      exact ⟨hm, hA⟩
    · have hf := xin q hf
      obtain ⟨z2, e1, hf⟩ := xbd hf
      have hz2 := xgR_reg rfl hA hr0 e1
      obtain ⟨z4, e3, hf⟩ := xbd hf
      obtain ⟨v6, e5, hf⟩ := xbd hf
      by_cases q : v6 = (28 : Int32)
      · have hf := xip q hf
        obtain ⟨σ8, e7, hf⟩ := xbd hf
        obtain ⟨hm9, hA⟩ := xsI_reg hA hz2 e7
        have hm := hm.tr hm9
        have hf := xsj hf
        subst hf
        exact ⟨hm, hA⟩
      · have hf := xin q hf
        obtain ⟨σ8, e7, hf⟩ := xbd hf
        obtain ⟨hm9, hA⟩ := xsI_reg hA hz2 e7
        have hm := hm.tr hm9
        have hf := xsj hf
        subst hf
        exact ⟨hm, hA⟩
  · have hf := xin q hf
    by_cases q : x2 = (25 : Int32)
    · have hf := xip q hf
      exact ⟨hm.tr (n_X12_meansOne_j200 hA hr0 hr0 hf).1, (n_X12_meansOne_j200 hA hr0 hr0 hf).2⟩
    · have hf := xin q hf
      exact ⟨hm.tr (n_X12_meansOne_j200 hA hr0 hr0 hf).1, (n_X12_meansOne_j200 hA hr0 hr0 hf).2⟩
theorem n_X12_meansOne_j134 {A : Nat → Prop} {σ : XS} {r0 : Nat} {x1 : Int32} {x2 : Int32} {x3 : Int32} {x5 : Int32} {x : XS} (hA : Reg A σ) (hr0 : A r0) (hf : f_X12_meansOne_j134 σ r0 x1 x2 x3 x5 = some x) : Sm A σ x ∧ Reg A x := by
  have hm := Sm.rf (A := A) (σ := σ)
  obtain ⟨_, e1, hf⟩ := xbd hf
  obtain ⟨σ3, e2, hf⟩ := xbd hf
  obtain ⟨hm9, hA⟩ := n_X12_wrong hA hr0 e2
  have hm := hm.tr hm9
  exact ⟨hm.tr (n_X12_meansOne_j145 hA hr0 hf).1, (n_X12_meansOne_j145 hA hr0 hf).2⟩
theorem n_X12_meansOne_j128 {A : Nat → Prop} {σ : XS} {r0 : Nat} {x1 : Int32} {x2 : Int32} {x3 : Int32} {x4 : Int32} {x5 : Int32} {t0 : Int32} {t1 : Int32} {t2 : Int32} {t3 : Int32} {t4 : Int32} {x : XS} (hA : Reg A σ) (hr0 : A r0) (hf : f_X12_meansOne_j128 σ r0 x1 x2 x3 x4 x5 t0 t1 t2 t3 t4 = some x) : Sm A σ x ∧ Reg A x := by
  have hm := Sm.rf (A := A) (σ := σ)
  obtain ⟨v2, e1, hf⟩ := xbd hf
  by_cases q : 0 ≤ v2
  · have hf := xip q hf
    exact ⟨hm.tr (n_X12_meansOne_j145 hA hr0 hf).1, (n_X12_meansOne_j145 hA hr0 hf).2⟩
  · have hf := xin q hf
    exact ⟨hm.tr (n_X12_meansOne_j134 hA hr0 hf).1, (n_X12_meansOne_j134 hA hr0 hf).2⟩
theorem n_X12_meansOne_j80 {A : Nat → Prop} {σ : XS} {r0 : Nat} {x1 : Int32} {x2 : Int32} {x3 : Int32} {x4 : Int32} {t0 : Int32} {x : XS} (hA : Reg A σ) (hr0 : A r0) (hf : f_X12_meansOne_j80 σ r0 x1 x2 x3 x4 t0 = some x) : Sm A σ x ∧ Reg A x := by
  have hm := Sm.rf (A := A) (σ := σ)
  obtain ⟨v2, e1, hf⟩ := xbd hf
  obtain ⟨v4, e3, hf⟩ := xbd hf
  by_cases q : (v2 * v4) ≤ x3
  · have hf := xip q hf
    exact ⟨hm.tr (n_X12_meansOne_j134 hA hr0 hf).1, (n_X12_meansOne_j134 hA hr0 hf).2⟩
  · have hf := xin q hf
    by_cases q : x2 = (25 : Int32)
    · have hf := xip q hf
      obtain ⟨v6, e5, hf⟩ := xbd hf
      obtain ⟨v8, e7, hf⟩ := xbd hf
      by_cases q : t0 = 0
      · have hf := xip q hf
        obtain ⟨v10, e9, hf⟩ := xbd hf
        exact ⟨hm.tr (n_X12_meansOne_j128 hA hr0 hf).1, (n_X12_meansOne_j128 hA hr0 hf).2⟩
      · have hf := xin q hf
        obtain ⟨v10, e9, hf⟩ := xbd hf
        exact ⟨hm.tr (n_X12_meansOne_j128 hA hr0 hf).1, (n_X12_meansOne_j128 hA hr0 hf).2⟩
    · have hf := xin q hf
      exact ⟨hm.tr (n_X12_meansOne_j145 hA hr0 hf).1, (n_X12_meansOne_j145 hA hr0 hf).2⟩
theorem n_X12_meansOne_j60 {A : Nat → Prop} {σ : XS} {r0 : Nat} {x1 : Int32} {x2 : Int32} {x3 : Int32} {t0 : Int32} {x : XS} (hA : Reg A σ) (hr0 : A r0) (hf : f_X12_meansOne_j60 σ r0 x1 x2 x3 t0 = some x) : Sm A σ x ∧ Reg A x := by
  have hm := Sm.rf (A := A) (σ := σ)
  obtain ⟨z2, e1, hf⟩ := xbd hf
  obtain ⟨v4, e3, hf⟩ := xbd hf
  by_cases q : v4 = (22 : Int32)
  · have hf := xip q hf
    exact ⟨hm.tr (n_X12_meansOne_j80 hA hr0 hf).1, (n_X12_meansOne_j80 hA hr0 hf).2⟩
  · have hf := xin q hf
    exact ⟨hm.tr (n_X12_meansOne_j80 hA hr0 hf).1, (n_X12_meansOne_j80 hA hr0 hf).2⟩
theorem n_X12_meansOne_j26 {A : Nat → Prop} {σ : XS} {r0 : Nat} {x1 : Int32} {x2 : Int32} {x : XS} (hA : Reg A σ) (hr0 : A r0) (hf : f_X12_meansOne_j26 σ r0 x1 x2 = some x) : Sm A σ x ∧ Reg A x := by
  have hm := Sm.rf (A := A) (σ := σ)
  obtain ⟨z2, e1, hf⟩ := xbd hf
  obtain ⟨v4, e3, hf⟩ := xbd hf
  obtain ⟨v6, e5, hf⟩ := xbd hf
  obtain ⟨v8, e7, hf⟩ := xbd hf
  by_cases q : (v6 * v8) ≤ v4
  · have hf := xip q hf
    exact ⟨hm.tr (n_X12_meansOne_j60 hA hr0 hf).1, (n_X12_meansOne_j60 hA hr0 hf).2⟩
  · have hf := xin q hf
    obtain ⟨v10, e9, hf⟩ := xbd hf
    by_cases q : v10 = 0
    · have hf := xip q hf
      exact ⟨hm.tr (n_X12_meansOne_j60 hA hr0 hf).1, (n_X12_meansOne_j60 hA hr0 hf).2⟩
    · have hf := xin q hf
      exact ⟨hm.tr (n_X12_meansOne_j60 hA hr0 hf).1, (n_X12_meansOne_j60 hA hr0 hf).2⟩
theorem n_X12_meansOne {A : Nat → Prop} {σ : XS} {r0 : Nat} {x1 : Int32} {x : XS} (hA : Reg A σ) (hr0 : A r0) (hf : f_X12_meansOne σ r0 x1 = some x) : Sm A σ x ∧ Reg A x := by
  have hm := Sm.rf (A := A) (σ := σ)
  obtain ⟨z2, e1, hf⟩ := xbd hf
  obtain ⟨v4, e3, hf⟩ := xbd hf
  by_cases q : v4 = (25 : Int32)
  · have hf := xip q hf
    exact ⟨hm.tr (n_X12_meansOne_j26 hA hr0 hf).1, (n_X12_meansOne_j26 hA hr0 hf).2⟩
  · have hf := xin q hf
    by_cases q : v4 = (26 : Int32)
    · have hf := xip q hf
      exact ⟨hm.tr (n_X12_meansOne_j26 hA hr0 hf).1, (n_X12_meansOne_j26 hA hr0 hf).2⟩
    · have hf := xin q hf
      by_cases q : v4 = (27 : Int32)
      · have hf := xip q hf
        exact ⟨hm.tr (n_X12_meansOne_j26 hA hr0 hf).1, (n_X12_meansOne_j26 hA hr0 hf).2⟩
      · have hf := xin q hf
        have hf := xsj hf
        subst hf
        exact ⟨hm, hA⟩
theorem n_X12_means_l211 {A : Nat → Prop} {r0 : Nat} {a : Int32 × XS} {x : XS} (hA : Reg A a.2) (hr0 : A r0) (hf : xloop (f_X12_means_b211 r0) a = some x) : Sm A a.2 x ∧ Reg A x := by
  revert hA
  refine xloop_ind (P := fun a => Reg A a.2 → Sm A a.2 x ∧ Reg A x) (fun a y hf hc he => ?_) hf
  obtain ⟨x1, σ⟩ := a
  intro hA
  have hA0 : Reg A σ := hA
  have hy : (∀ a' : Int32 × XS, y = .inl a' → Sm A σ a'.2 ∧ Reg A a'.2) ∧ (∀ b1 : XS, y = .inr b1 → Sm A σ b1 ∧ Reg A b1) := by
    have hm := Sm.rf (A := A) (σ := σ)
    obtain ⟨v2, e1, hf⟩ := xbd hf
    by_cases q : v2 ≤ x1
    · have hf := xip q hf
      obtain ⟨b0, hg, e9⟩ := xmj hf
      subst e9
      have hf := hg
      refine ⟨fun a' e => xnc2 e, fun b e => ?_⟩
      have h9 := Sum.inr.inj e
      subst h9
      have hf := xsj hf
      subst hf
      exact ⟨hm, hA⟩
    · have hf := xin q hf
      obtain ⟨z4, e3, hf⟩ := xbd hf
      obtain ⟨v6, e5, hf⟩ := xbd hf
      by_cases q : v6 = (4 : Int32)
      · have hf := xip q hf
        obtain ⟨_, e7, hf⟩ := xbd hf
        obtain ⟨σ9, e8, hf⟩ := xbd hf
        obtain ⟨hm9, hA⟩ := n_X12_meansOne hA hr0 e8
        have hm := hm.tr hm9
        have hf := xsj hf
        subst hf
        exact ⟨fun a' e => (by have h9 := Sum.inl.inj e; subst h9; exact ⟨hm, hA⟩), fun b e => xnc1 e⟩
      · have hf := xin q hf
        have hf := xsj hf
        subst hf
        exact ⟨fun a' e => (by have h9 := Sum.inl.inj e; subst h9; exact ⟨hm, hA⟩), fun b e => xnc1 e⟩
  cases y with
  | inl a' =>
    obtain ⟨hm, hA1⟩ := hy.1 a' rfl
    have h1 := hc a' rfl hA1
    exact ⟨hm.tr (h1).1, (h1).2⟩
  | inr b =>
    have h1 := he b rfl
    subst h1
    exact hy.2 _ rfl
theorem n_X12_means_l178 {A : Nat → Prop} {r0 : Nat} {a : Int32 × XS} {x : XS} (hA : Reg A a.2) (hr0 : A r0) (hf : xloop (f_X12_means_b178 r0) a = some x) : Sm A a.2 x ∧ Reg A x := by
  revert hA
  refine xloop_ind (P := fun a => Reg A a.2 → Sm A a.2 x ∧ Reg A x) (fun a y hf hc he => ?_) hf
  obtain ⟨x1, σ⟩ := a
  intro hA
  have hA0 : Reg A σ := hA
  have hy : (∀ a' : Int32 × XS, y = .inl a' → Sm A σ a'.2 ∧ Reg A a'.2) ∧ (∀ b1 : XS, y = .inr b1 → Sm A σ b1 ∧ Reg A b1) := by
    have hm := Sm.rf (A := A) (σ := σ)
    obtain ⟨v2, e1, hf⟩ := xbd hf
    by_cases q : v2 ≤ x1
    · have hf := xip q hf
      obtain ⟨b0, hg, e9⟩ := xmj hf
      subst e9
      have hf := hg
      refine ⟨fun a' e => xnc2 e, fun b e => ?_⟩
      have h9 := Sum.inr.inj e
      subst h9
      exact ⟨hm.tr (n_X12_means_l211 (a := ((4 : Int32), σ)) hA hr0 hf).1, (n_X12_means_l211 (a := ((4 : Int32), σ)) hA hr0 hf).2⟩
    · have hf := xin q hf
      obtain ⟨z4, e3, hf⟩ := xbd hf
      obtain ⟨v6, e5, hf⟩ := xbd hf
      by_cases q : v6 = (4 : Int32)
      · have hf := xip q hf
        obtain ⟨_, e7, hf⟩ := xbd hf
        obtain ⟨σ9, e8, hf⟩ := xbd hf
        obtain ⟨hm9, hA⟩ := n_X12_meansAll hA hr0 e8
        have hm := hm.tr hm9
        have hf := xsj hf
        subst hf
        exact ⟨fun a' e => (by have h9 := Sum.inl.inj e; subst h9; exact ⟨hm, hA⟩), fun b e => xnc1 e⟩
      · have hf := xin q hf
        have hf := xsj hf
        subst hf
        exact ⟨fun a' e => (by have h9 := Sum.inl.inj e; subst h9; exact ⟨hm, hA⟩), fun b e => xnc1 e⟩
  cases y with
  | inl a' =>
    obtain ⟨hm, hA1⟩ := hy.1 a' rfl
    have h1 := hc a' rfl hA1
    exact ⟨hm.tr (h1).1, (h1).2⟩
  | inr b =>
    have h1 := he b rfl
    subst h1
    exact hy.2 _ rfl
theorem n_X12_means_j141 {A : Nat → Prop} {σ : XS} {r0 : Nat} {x1 : Int32} {x : ((Int32 × XS) ⊕ (XS))} (hA : Reg A σ) (hr0 : A r0) (hf : f_X12_means_j141 σ r0 x1 = some x) : (∀ a' : Int32 × XS, x = .inl a' → Sm A σ a'.2 ∧ Reg A a'.2) ∧ (∀ b1 : XS, x = .inr b1 → Sm A σ b1 ∧ Reg A b1) := by
  have hm := Sm.rf (A := A) (σ := σ)
  obtain ⟨z2, e1, hf⟩ := xbd hf
  obtain ⟨v4, e3, hf⟩ := xbd hf
  by_cases q : v4 = (24 : Int32)
  · have hf := xip q hf
    obtain ⟨z6, e5, hf⟩ := xbd hf
    obtain ⟨v8, e7, hf⟩ := xbd hf
    by_cases q : v8 = (22 : Int32)
    · have hf := xip q hf
      obtain ⟨σ10, e9, hf⟩ := xbd hf
      obtain ⟨hm9, hA⟩ := xpI_reg hA hr0 e9
      have hm := hm.tr hm9
      have hf := xsj hf
      subst hf
      exact ⟨fun a' e => (by have h9 := Sum.inl.inj e; subst h9; exact ⟨hm, hA⟩), fun b e => xnc1 e⟩
    · have hf := xin q hf
      have hf := xsj hf
      subst hf
      exact ⟨fun a' e => (by have h9 := Sum.inl.inj e; subst h9; exact ⟨hm, hA⟩), fun b e => xnc1 e⟩
  · have hf := xin q hf
    have hf := xsj hf
    subst hf
    exact ⟨fun a' e => (by have h9 := Sum.inl.inj e; subst h9; exact ⟨hm, hA⟩), fun b e => xnc1 e⟩
theorem n_X12_means_l104 {A : Nat → Prop} {r0 : Nat} {a : Int32 × XS} {x : XS} (hA : Reg A a.2) (hr0 : A r0) (hf : xloop (f_X12_means_b104 r0) a = some x) : Sm A a.2 x ∧ Reg A x := by
  revert hA
  refine xloop_ind (P := fun a => Reg A a.2 → Sm A a.2 x ∧ Reg A x) (fun a y hf hc he => ?_) hf
  obtain ⟨x1, σ⟩ := a
  intro hA
  have hA0 : Reg A σ := hA
  have hy : (∀ a' : Int32 × XS, y = .inl a' → Sm A σ a'.2 ∧ Reg A a'.2) ∧ (∀ b1 : XS, y = .inr b1 → Sm A σ b1 ∧ Reg A b1) := by
    have hm := Sm.rf (A := A) (σ := σ)
    obtain ⟨v2, e1, hf⟩ := xbd hf
    by_cases q : v2 ≤ x1
    · have hf := xip q hf
      obtain ⟨b0, hg, e9⟩ := xmj hf
      subst e9
      have hf := hg
      refine ⟨fun a' e => xnc2 e, fun b e => ?_⟩
      have h9 := Sum.inr.inj e
      subst h9
      exact ⟨hm.tr (n_X12_means_l178 (a := ((4 : Int32), σ)) hA hr0 hf).1, (n_X12_means_l178 (a := ((4 : Int32), σ)) hA hr0 hf).2⟩
    · have hf := xin q hf
      obtain ⟨z4, e3, hf⟩ := xbd hf
      obtain ⟨v6, e5, hf⟩ := xbd hf
      by_cases q : v6 = (24 : Int32)
      · have hf := xip q hf
        obtain ⟨z8, e7, hf⟩ := xbd hf
        obtain ⟨v10, e9, hf⟩ := xbd hf
        by_cases q : v10 = (21 : Int32)
        · have hf := xip q hf
          obtain ⟨σ12, e11, hf⟩ := xbd hf
          obtain ⟨hm9, hA⟩ := xpI_reg hA hr0 e11
          have hm := hm.tr hm9
          exact ⟨fun a' e => ⟨hm.tr ((n_X12_means_j141 hA hr0 hf).1 a' e).1, ((n_X12_means_j141 hA hr0 hf).1 a' e).2⟩, fun b1 eb1 => ⟨hm.tr ((n_X12_means_j141 hA hr0 hf).2 b1 eb1).1, ((n_X12_means_j141 hA hr0 hf).2 b1 eb1).2⟩⟩
        · have hf := xin q hf
          exact ⟨fun a' e => ⟨hm.tr ((n_X12_means_j141 hA hr0 hf).1 a' e).1, ((n_X12_means_j141 hA hr0 hf).1 a' e).2⟩, fun b1 eb1 => ⟨hm.tr ((n_X12_means_j141 hA hr0 hf).2 b1 eb1).1, ((n_X12_means_j141 hA hr0 hf).2 b1 eb1).2⟩⟩
      · have hf := xin q hf
        exact ⟨fun a' e => ⟨hm.tr ((n_X12_means_j141 hA hr0 hf).1 a' e).1, ((n_X12_means_j141 hA hr0 hf).1 a' e).2⟩, fun b1 eb1 => ⟨hm.tr ((n_X12_means_j141 hA hr0 hf).2 b1 eb1).1, ((n_X12_means_j141 hA hr0 hf).2 b1 eb1).2⟩⟩
  cases y with
  | inl a' =>
    obtain ⟨hm, hA1⟩ := hy.1 a' rfl
    have h1 := hc a' rfl hA1
    exact ⟨hm.tr (h1).1, (h1).2⟩
  | inr b =>
    have h1 := he b rfl
    subst h1
    exact hy.2 _ rfl
theorem n_X12_means_l83 {A : Nat → Prop} {r0 : Nat} {a : Int32 × XS} {x : XS} (hA : Reg A a.2) (hr0 : A r0) (hf : xloop (f_X12_means_b83 r0) a = some x) : Sm A a.2 x ∧ Reg A x := by
  revert hA
  refine xloop_ind (P := fun a => Reg A a.2 → Sm A a.2 x ∧ Reg A x) (fun a y hf hc he => ?_) hf
  obtain ⟨x1, σ⟩ := a
  intro hA
  have hA0 : Reg A σ := hA
  have hy : (∀ a' : Int32 × XS, y = .inl a' → Sm A σ a'.2 ∧ Reg A a'.2) ∧ (∀ b1 : XS, y = .inr b1 → Sm A σ b1 ∧ Reg A b1) := by
    have hm := Sm.rf (A := A) (σ := σ)
    by_cases q : (66 : Int32) ≤ x1
    · have hf := xip q hf
      obtain ⟨b0, hg, e9⟩ := xmj hf
      subst e9
      have hf := hg
      refine ⟨fun a' e => xnc2 e, fun b e => ?_⟩
      have h9 := Sum.inr.inj e
      subst h9
      exact ⟨hm.tr (n_X12_means_l104 (a := ((0 : Int32), σ)) hA hr0 hf).1, (n_X12_means_l104 (a := ((0 : Int32), σ)) hA hr0 hf).2⟩
    · have hf := xin q hf
      obtain ⟨z2, e1, hf⟩ := xbd hf
      have hz2 := xgR_reg rfl hA hr0 e1
      obtain ⟨σ4, e3, hf⟩ := xbd hf
      obtain ⟨hm9, hA⟩ := xsI_reg hA hz2 e3
      have hm := hm.tr hm9
      have hf := xsj hf
      subst hf
      exact ⟨fun a' e => (by have h9 := Sum.inl.inj e; subst h9; exact ⟨hm, hA⟩), fun b e => xnc1 e⟩
  cases y with
  | inl a' =>
    obtain ⟨hm, hA1⟩ := hy.1 a' rfl
    have h1 := hc a' rfl hA1
    exact ⟨hm.tr (h1).1, (h1).2⟩
  | inr b =>
    have h1 := he b rfl
    subst h1
    exact hy.2 _ rfl
theorem n_X12_means_j75 {A : Nat → Prop} {σ : XS} {r0 : Nat} {x : XS} (hA : Reg A σ) (hr0 : A r0) (hf : f_X12_means_j75 σ r0 = some x) : Sm A σ x ∧ Reg A x := by
  have hm := Sm.rf (A := A) (σ := σ)
  obtain ⟨_, e1, hf⟩ := xbd hf
  obtain ⟨σ3, e2, hf⟩ := xbd hf
  obtain ⟨hm9, hA⟩ := n_X12_wrong hA hr0 e2
  have hm := hm.tr hm9
  exact ⟨hm.tr (n_X12_means_l83 (a := ((0 : Int32), σ3)) hA hr0 hf).1, (n_X12_means_l83 (a := ((0 : Int32), σ3)) hA hr0 hf).2⟩
theorem n_X12_means_j48 {A : Nat → Prop} {σ : XS} {r0 : Nat} {x : XS} (hA : Reg A σ) (hr0 : A r0) (hf : f_X12_means_j48 σ r0 = some x) : Sm A σ x ∧ Reg A x := by
  have hm := Sm.rf (A := A) (σ := σ)
  obtain ⟨v2, e1, hf⟩ := xbd hf
  obtain ⟨v4, e3, hf⟩ := xbd hf
  by_cases q : v4 = 0
  · have hf := xip q hf
    exact ⟨hm.tr (n_X12_means_j75 hA hr0 hf).1, (n_X12_means_j75 hA hr0 hf).2⟩
  · have hf := xin q hf
    obtain ⟨v6, e5, hf⟩ := xbd hf
    obtain ⟨v8, e7, hf⟩ := xbd hf
    by_cases q : (v6 * v8) ≤ (16 : Int32)
    · have hf := xip q hf
      exact ⟨hm.tr (n_X12_means_l83 (a := ((0 : Int32), σ)) hA hr0 hf).1, (n_X12_means_l83 (a := ((0 : Int32), σ)) hA hr0 hf).2⟩
    · have hf := xin q hf
      exact ⟨hm.tr (n_X12_means_j75 hA hr0 hf).1, (n_X12_means_j75 hA hr0 hf).2⟩
theorem n_X12_means {A : Nat → Prop} {σ : XS} {r0 : Nat} {x : XS} (hA : Reg A σ) (hr0 : A r0) (hf : f_X12_means σ r0 = some x) : Sm A σ x ∧ Reg A x := by
  have hm := Sm.rf (A := A) (σ := σ)
  obtain ⟨z2, e1, hf⟩ := xbd hf
  obtain ⟨v4, e3, hf⟩ := xbd hf
  obtain ⟨σ6, e5, hf⟩ := xbd hf
  obtain ⟨hm9, hA⟩ := xpI_reg hA hr0 e5
  have hm := hm.tr hm9
  obtain ⟨z8, e7, hf⟩ := xbd hf
  obtain ⟨v10, e9, hf⟩ := xbd hf
  obtain ⟨σ12, e11, hf⟩ := xbd hf
  obtain ⟨hm9, hA⟩ := xpI_reg hA hr0 e11
  have hm := hm.tr hm9
  obtain ⟨σ14, e13, hf⟩ := xbd hf
  obtain ⟨hm9, hA⟩ := xpI_reg hA hr0 e13
  have hm := hm.tr hm9
  obtain ⟨σ16, e15, hf⟩ := xbd hf
  obtain ⟨hm9, hA⟩ := xpI_reg hA hr0 e15
  have hm := hm.tr hm9
  obtain ⟨v18, e17, hf⟩ := xbd hf
  obtain ⟨v20, e19, hf⟩ := xbd hf
  by_cases q : v20 = 0
  · have hf := xip q hf
    obtain ⟨_, e21, hf⟩ := xbd hf
    obtain ⟨σ23, e22, hf⟩ := xbd hf
    obtain ⟨hm9, hA⟩ := n_X12_wrong hA hr0 e22
    have hm := hm.tr hm9
    exact ⟨hm.tr (n_X12_means_j48 hA hr0 hf).1, (n_X12_means_j48 hA hr0 hf).2⟩
  · have hf := xin q hf
    exact ⟨hm.tr (n_X12_means_j48 hA hr0 hf).1, (n_X12_means_j48 hA hr0 hf).2⟩
theorem n_X12_nearest_l30 {A : Nat → Prop} {σ : XS} {r0 : Nat} {x1 : Int32} {x2 : Int32} {a : Int32 × Int32} {x : Int32 × XS} (hA : Reg A σ) (hf : xloop (f_X12_nearest_b30 σ r0 x1 x2) a = some x) : Sm A σ x.2 ∧ Reg A x.2 := by
  revert hA
  refine xloop_ind (P := fun a => Reg A σ → Sm A σ x.2 ∧ Reg A x.2) (fun a y hf hc he => ?_) hf
  obtain ⟨x3, x4⟩ := a
  intro hA
  have hA0 : Reg A σ := hA
  have hy : (∀ a' : Int32 × Int32, y = .inl a' → True) ∧ (∀ b1 : Int32 × XS, y = .inr b1 → Sm A σ b1.2 ∧ Reg A b1.2) := by
    have hm := Sm.rf (A := A) (σ := σ)
    obtain ⟨_, e1, hf⟩ := xbd hf
    obtain ⟨v3, e2, hf⟩ := xbd hf
    by_cases q : v3 ≤ x4
    · have hf := xip q hf
      obtain ⟨b0, hg, e9⟩ := xmj hf
      subst e9
      have hf := hg
      refine ⟨fun a' e => xnc2 e, fun b e => ?_⟩
      have h9 := Sum.inr.inj e
      subst h9
      by_cases q : x2 = 0
      · have hf := xip q hf
        have hf := xsj hf
        subst hf
        exact ⟨hm, hA⟩
      · have hf := xin q hf
        obtain ⟨v5, e4, hf⟩ := xbd hf
        have hf := xsj hf
        subst hf
        exact ⟨hm, hA⟩
    · have hf := xin q hf
      obtain ⟨z5, e4, hf⟩ := xbd hf
      obtain ⟨v7, e6, hf⟩ := xbd hf
      obtain ⟨z9, e8, hf⟩ := xbd hf
      obtain ⟨v11, e10, hf⟩ := xbd hf
      by_cases q : v7 = v11
      · have hf := xip q hf
        by_cases q : x3 < 0
        · have hf := xip q hf
          have hf := xsj hf
          subst hf
          exact ⟨fun a' e => (by have h9 := Sum.inl.inj e; subst h9; exact trivial), fun b e => xnc1 e⟩
        · have hf := xin q hf
          obtain ⟨v13, e12, hf⟩ := xbd hf
          obtain ⟨v15, e14, hf⟩ := xbd hf
          by_cases q : v15 ≤ v13
          · have hf := xip q hf
            have hf := xsj hf
            subst hf
            exact ⟨fun a' e => (by have h9 := Sum.inl.inj e; subst h9; exact trivial), fun b e => xnc1 e⟩
          · have hf := xin q hf
            have hf := xsj hf
            subst hf
            exact ⟨fun a' e => (by have h9 := Sum.inl.inj e; subst h9; exact trivial), fun b e => xnc1 e⟩
      · have hf := xin q hf
        have hf := xsj hf
        subst hf
        exact ⟨fun a' e => (by have h9 := Sum.inl.inj e; subst h9; exact trivial), fun b e => xnc1 e⟩
  cases y with
  | inl a' =>
    exact hc a' rfl hA0
  | inr b =>
    have h1 := he b rfl
    subst h1
    exact hy.2 _ rfl
theorem n_X12_nearest {A : Nat → Prop} {σ : XS} {r0 : Nat} {x1 : Int32} {x2 : Int32} {x : Int32 × XS} (hA : Reg A σ) (hr0 : A r0) (hf : f_X12_nearest σ r0 x1 x2 = some x) : Sm A σ x.2 ∧ Reg A x.2 := by
  have hm := Sm.rf (A := A) (σ := σ)
  obtain ⟨_, e1, hf⟩ := xbd hf
  obtain ⟨v3, e2, hf⟩ := xbd hf
  by_cases q : v3 = 0
  · have hf := xip q hf
    have hf := xsj hf
    subst hf
    exact ⟨hm, hA⟩
  · have hf := xin q hf
    obtain ⟨v5, e4, hf⟩ := xbd hf
    by_cases q : v5 = 0
    · have hf := xip q hf
      have hf := xsj hf
      subst hf
      exact ⟨hm, hA⟩
    · have hf := xin q hf
      obtain ⟨_, e6, hf⟩ := xbd hf
      obtain ⟨σ8, e7, hf⟩ := xbd hf
      obtain ⟨hm9, hA⟩ := n_X12_knows hA hr0 e7
      have hm := hm.tr hm9
      exact ⟨hm.tr (n_X12_nearest_l30 (a := ((-1 : Int32), (0 : Int32))) hA hf).1, (n_X12_nearest_l30 (a := ((-1 : Int32), (0 : Int32))) hA hf).2⟩
theorem n_X12_overlap_l75 {A : Nat → Prop} {σ : XS} {r0 : Nat} {x1 : Int32} {x2 : Int32} {x4 : Int32} {a : Int32 × Int32} {x : ((Int32 × Int32 × Int32 × XS) ⊕ (Int32 × XS))} (hA : Reg A σ) (hr0 : A r0) (hf : xloop (f_X12_overlap_b75 σ r0 x1 x2 x4) a = some x) : (∀ a' : Int32 × Int32 × Int32 × XS, x = .inl a' → Sm A σ a'.2.2.2 ∧ Reg A a'.2.2.2) ∧ (∀ b1 : Int32 × XS, x = .inr b1 → Sm A σ b1.2 ∧ Reg A b1.2) := by
  revert hA
  refine xloop_ind (P := fun a => Reg A σ → (∀ a' : Int32 × Int32 × Int32 × XS, x = .inl a' → Sm A σ a'.2.2.2 ∧ Reg A a'.2.2.2) ∧ (∀ b1 : Int32 × XS, x = .inr b1 → Sm A σ b1.2 ∧ Reg A b1.2)) (fun a y hf hc he => ?_) hf
  obtain ⟨x3, x5⟩ := a
  intro hA
  have hA0 : Reg A σ := hA
  have hy : (∀ a' : Int32 × Int32, y = .inl a' → True) ∧ (∀ b2 : ((Int32 × Int32 × Int32 × XS) ⊕ (Int32 × XS)), y = .inr b2 → (∀ a' : Int32 × Int32 × Int32 × XS, b2 = .inl a' → Sm A σ a'.2.2.2 ∧ Reg A a'.2.2.2) ∧ (∀ b1 : Int32 × XS, b2 = .inr b1 → Sm A σ b1.2 ∧ Reg A b1.2)) := by
    have hm := Sm.rf (A := A) (σ := σ)
    by_cases q : x2 ≤ x5
    · have hf := xip q hf
      obtain ⟨b0, hg, e9⟩ := xmj hf
      subst e9
      have hf := hg
      refine ⟨fun a' e => xnc2 e, fun b e => ?_⟩
      have h9 := Sum.inr.inj e
      subst h9
      obtain ⟨z2, e1, hf⟩ := xbd hf
      have hz2 := xgR_reg rfl hA hr0 e1
      obtain ⟨σ4, e3, hf⟩ := xbd hf
      obtain ⟨hm9, hA⟩ := xsI_reg hA hz2 e3
      have hm := hm.tr hm9
      have hf := xsj hf
      subst hf
      exact ⟨fun a' e => (by have h9 := Sum.inl.inj e; subst h9; exact ⟨hm, hA⟩), fun b e => xnc1 e⟩
    · have hf := xin q hf
      obtain ⟨z2, e1, hf⟩ := xbd hf
      obtain ⟨v4, e3, hf⟩ := xbd hf
      obtain ⟨v6, e5, hf⟩ := xbd hf
      by_cases q : v6 = x1
      · have hf := xip q hf
        have hf := xsj hf
        subst hf
        exact ⟨fun a' e => (by have h9 := Sum.inl.inj e; subst h9; exact trivial), fun b e => xnc1 e⟩
      · have hf := xin q hf
        have hf := xsj hf
        subst hf
        exact ⟨fun a' e => (by have h9 := Sum.inl.inj e; subst h9; exact trivial), fun b e => xnc1 e⟩
  cases y with
  | inl a' =>
    exact hc a' rfl hA0
  | inr b =>
    have h1 := he b rfl
    subst h1
    exact hy.2 _ rfl
theorem n_X12_overlap_l44 {A : Nat → Prop} {r0 : Nat} {x1 : Int32} {a : Int32 × Int32 × Int32 × XS} {x : Int32 × XS} (hA : Reg A a.2.2.2) (hr0 : A r0) (hf : xloop (f_X12_overlap_b44 r0 x1) a = some x) : Sm A a.2.2.2 x.2 ∧ Reg A x.2 := by
  revert hA
  refine xloop_ind (P := fun a => Reg A a.2.2.2 → Sm A a.2.2.2 x.2 ∧ Reg A x.2) (fun a y hf hc he => ?_) hf
  obtain ⟨x2, x3, x4, σ⟩ := a
  intro hA
  have hA0 : Reg A σ := hA
  have hy : (∀ a' : Int32 × Int32 × Int32 × XS, y = .inl a' → Sm A σ a'.2.2.2 ∧ Reg A a'.2.2.2) ∧ (∀ b1 : Int32 × XS, y = .inr b1 → Sm A σ b1.2 ∧ Reg A b1.2) := by
    have hm := Sm.rf (A := A) (σ := σ)
    obtain ⟨_, e1, hf⟩ := xbd hf
    obtain ⟨v3, e2, hf⟩ := xbd hf
    by_cases q : v3 ≤ x4
    · have hf := xip q hf
      obtain ⟨b0, hg, e9⟩ := xmj hf
      subst e9
      have hf := hg
      refine ⟨fun a' e => xnc2 e, fun b e => ?_⟩
      have h9 := Sum.inr.inj e
      subst h9
      have hf := xsj hf
      subst hf
      exact ⟨hm, hA⟩
    · have hf := xin q hf
      obtain ⟨z5, e4, hf⟩ := xbd hf
      obtain ⟨v7, e6, hf⟩ := xbd hf
      obtain ⟨z9, e8, hf⟩ := xbd hf
      obtain ⟨v11, e10, hf⟩ := xbd hf
      by_cases q : v7 = v11
      · have hf := xip q hf
        exact ⟨fun a' e => ⟨hm.tr ((n_X12_overlap_l75 (a := (x3, (0 : Int32))) hA hr0 hf).1 a' e).1, ((n_X12_overlap_l75 (a := (x3, (0 : Int32))) hA hr0 hf).1 a' e).2⟩, fun b1 eb1 => ⟨hm.tr ((n_X12_overlap_l75 (a := (x3, (0 : Int32))) hA hr0 hf).2 b1 eb1).1, ((n_X12_overlap_l75 (a := (x3, (0 : Int32))) hA hr0 hf).2 b1 eb1).2⟩⟩
      · have hf := xin q hf
        have hf := xsj hf
        subst hf
        exact ⟨fun a' e => (by have h9 := Sum.inl.inj e; subst h9; exact ⟨hm, hA⟩), fun b e => xnc1 e⟩
  cases y with
  | inl a' =>
    obtain ⟨hm, hA1⟩ := hy.1 a' rfl
    have h1 := hc a' rfl hA1
    exact ⟨hm.tr (h1).1, (h1).2⟩
  | inr b =>
    have h1 := he b rfl
    subst h1
    exact hy.2 _ rfl
theorem n_X12_overlap {A : Nat → Prop} {σ : XS} {r0 : Nat} {x1 : Int32} {x : Int32 × XS} (hA : Reg A σ) (hr0 : A r0) (hf : f_X12_overlap σ r0 x1 = some x) : Sm A σ x.2 ∧ Reg A x.2 := by
  have hm := Sm.rf (A := A) (σ := σ)
  obtain ⟨_, e1, hf⟩ := xbd hf
  obtain ⟨σ3, e2, hf⟩ := xbd hf
  obtain ⟨hm9, hA⟩ := n_X12_knows hA hr0 e2
  have hm := hm.tr hm9
  obtain ⟨v5, e4, hf⟩ := xbd hf
  by_cases q : v5 = 0
  · have hf := xip q hf
    have hf := xsj hf
    subst hf
    exact ⟨hm, hA⟩
  · have hf := xin q hf
    obtain ⟨z7, e6, hf⟩ := xbd hf
    obtain ⟨z9, e8, hf⟩ := xbd hf
    obtain ⟨v11, e10, hf⟩ := xbd hf
    obtain ⟨v13, e12, hf⟩ := xbd hf
    by_cases q : v13 ≤ (256 : Int32)
    · have hf := xip q hf
      exact ⟨hm.tr (n_X12_overlap_l44 (a := ((0 : Int32), (0 : Int32), (0 : Int32), σ3)) hA hr0 hf).1, (n_X12_overlap_l44 (a := ((0 : Int32), (0 : Int32), (0 : Int32), σ3)) hA hr0 hf).2⟩
    · have hf := xin q hf
      have hf := xsj hf
      subst hf
      exact ⟨hm, hA⟩
theorem n_X12_pair_l54 {A : Nat → Prop} {σ : XS} {r0 : Nat} {x1 : Int32} {x2 : Int32} {x3 : Int32} {x4 : Int32} {a : Int32 × Int32} {x : Int32 × XS} (hA : Reg A σ) (hf : xloop (f_X12_pair_b54 σ r0 x1 x2 x3 x4) a = some x) : Sm A σ x.2 ∧ Reg A x.2 := by
  revert hA
  refine xloop_ind (P := fun a => Reg A σ → Sm A σ x.2 ∧ Reg A x.2) (fun a y hf hc he => ?_) hf
  obtain ⟨x5, x6⟩ := a
  intro hA
  have hA0 : Reg A σ := hA
  have hy : (∀ a' : Int32 × Int32, y = .inl a' → True) ∧ (∀ b1 : Int32 × XS, y = .inr b1 → Sm A σ b1.2 ∧ Reg A b1.2) := by
    have hm := Sm.rf (A := A) (σ := σ)
    obtain ⟨_, e1, hf⟩ := xbd hf
    obtain ⟨v3, e2, hf⟩ := xbd hf
    by_cases q : v3 ≤ x6
    · have hf := xip q hf
      obtain ⟨b0, hg, e9⟩ := xmj hf
      subst e9
      have hf := hg
      refine ⟨fun a' e => xnc2 e, fun b e => ?_⟩
      have h9 := Sum.inr.inj e
      subst h9
      obtain ⟨z5, e4, hf⟩ := xbd hf
      obtain ⟨z7, e6, hf⟩ := xbd hf
      obtain ⟨v9, e8, hf⟩ := xbd hf
      obtain ⟨v11, e10, hf⟩ := xbd hf
      obtain ⟨v13, e12, hf⟩ := xbd hf
      have hf := xsj hf
      subst hf
      exact ⟨hm, hA⟩
    · have hf := xin q hf
      obtain ⟨z5, e4, hf⟩ := xbd hf
      obtain ⟨v7, e6, hf⟩ := xbd hf
      obtain ⟨z9, e8, hf⟩ := xbd hf
      obtain ⟨v11, e10, hf⟩ := xbd hf
      by_cases q : v7 = v11
      · have hf := xip q hf
        obtain ⟨v13, e12, hf⟩ := xbd hf
        obtain ⟨v15, e14, hf⟩ := xbd hf
        by_cases q : v13 = v15
        · have hf := xip q hf
          have hf := xsj hf
          subst hf
          exact ⟨fun a' e => (by have h9 := Sum.inl.inj e; subst h9; exact trivial), fun b e => xnc1 e⟩
        · have hf := xin q hf
          have hf := xsj hf
          subst hf
          exact ⟨fun a' e => (by have h9 := Sum.inl.inj e; subst h9; exact trivial), fun b e => xnc1 e⟩
      · have hf := xin q hf
        have hf := xsj hf
        subst hf
        exact ⟨fun a' e => (by have h9 := Sum.inl.inj e; subst h9; exact trivial), fun b e => xnc1 e⟩
  cases y with
  | inl a' =>
    exact hc a' rfl hA0
  | inr b =>
    have h1 := he b rfl
    subst h1
    exact hy.2 _ rfl
theorem n_X12_pair {A : Nat → Prop} {σ : XS} {r0 : Nat} {x1 : Int32} {x2 : Int32} {x3 : Int32} {x4 : Int32} {x : Int32 × XS} (hA : Reg A σ) (hr0 : A r0) (hf : f_X12_pair σ r0 x1 x2 x3 x4 = some x) : Sm A σ x.2 ∧ Reg A x.2 := by
  have hm := Sm.rf (A := A) (σ := σ)
  obtain ⟨_, e1, hf⟩ := xbd hf
  obtain ⟨σ3, e2, hf⟩ := xbd hf
  obtain ⟨hm9, hA⟩ := n_X12_knows hA hr0 e2
  have hm := hm.tr hm9
  obtain ⟨_, e4, hf⟩ := xbd hf
  obtain ⟨v6, e5, hf⟩ := xbd hf
  by_cases q : v6 = 0
  · have hf := xip q hf
    have hf := xsj hf
    subst hf
    exact ⟨hm, hA⟩
  · have hf := xin q hf
    obtain ⟨_, e7, hf⟩ := xbd hf
    obtain ⟨v9, e8, hf⟩ := xbd hf
    by_cases q : v9 = 0
    · have hf := xip q hf
      have hf := xsj hf
      subst hf
      exact ⟨hm, hA⟩
    · have hf := xin q hf
      obtain ⟨v11, e10, hf⟩ := xbd hf
      obtain ⟨v13, e12, hf⟩ := xbd hf
      by_cases q : v13 = 0
      · have hf := xip q hf
        have hf := xsj hf
        subst hf
        exact ⟨hm, hA⟩
      · have hf := xin q hf
        obtain ⟨v15, e14, hf⟩ := xbd hf
        by_cases q : v15 = 0
        · have hf := xip q hf
          have hf := xsj hf
          subst hf
          exact ⟨hm, hA⟩
        · have hf := xin q hf
          exact ⟨hm.tr (n_X12_pair_l54 (a := ((0 : Int32), (0 : Int32))) hA hf).1, (n_X12_pair_l54 (a := ((0 : Int32), (0 : Int32))) hA hf).2⟩
theorem n_X12_pass_l35 {A : Nat → Prop} {r0 : Nat} {x1 : Int32} {x2 : Int32} {a : Int32 × XS} {x : Int32 × XS} (hA : Reg A a.2) (hr0 : A r0) (hf : xloop (f_X12_pass_b35 r0 x1 x2) a = some x) : Sm A a.2 x.2 ∧ Reg A x.2 := by
  revert hA
  refine xloop_ind (P := fun a => Reg A a.2 → Sm A a.2 x.2 ∧ Reg A x.2) (fun a y hf hc he => ?_) hf
  obtain ⟨x3, σ⟩ := a
  intro hA
  have hA0 : Reg A σ := hA
  have hy : (∀ a' : Int32 × XS, y = .inl a' → Sm A σ a'.2 ∧ Reg A a'.2) ∧ (∀ b1 : Int32 × XS, y = .inr b1 → Sm A σ b1.2 ∧ Reg A b1.2) := by
    have hm := Sm.rf (A := A) (σ := σ)
    obtain ⟨_, e1, hf⟩ := xbd hf
    obtain ⟨v3, e2, hf⟩ := xbd hf
    by_cases q : v3 ≤ x3
    · have hf := xip q hf
      obtain ⟨b0, hg, e9⟩ := xmj hf
      subst e9
      have hf := hg
      refine ⟨fun a' e => xnc2 e, fun b e => ?_⟩
      have h9 := Sum.inr.inj e
      subst h9
      obtain ⟨_, e4, hf⟩ := xbd hf
      obtain ⟨σ6, e5, hf⟩ := xbd hf
      obtain ⟨hm9, hA⟩ := n_X12_laysHills hA hr0 e5
      have hm := hm.tr hm9
      obtain ⟨z8, e7, hf⟩ := xbd hf
      obtain ⟨v10, e9, hf⟩ := xbd hf
      have hf := xsj hf
      subst hf
      exact ⟨hm, hA⟩
    · have hf := xin q hf
      obtain ⟨z5, e4, hf⟩ := xbd hf
      have hz5 := xgR_reg rfl hA hr0 e4
      by_cases q : x3 = x2
      · have hf := xip q hf
        obtain ⟨z7, e6, hf⟩ := xbd hf
        obtain ⟨v9, e8, hf⟩ := xbd hf
        obtain ⟨σ11, e10, hf⟩ := xbd hf
        obtain ⟨hm9, hA⟩ := xsI_reg hA hz5 e10
        have hm := hm.tr hm9
        have hf := xsj hf
        subst hf
        exact ⟨fun a' e => (by have h9 := Sum.inl.inj e; subst h9; exact ⟨hm, hA⟩), fun b e => xnc1 e⟩
      · have hf := xin q hf
        obtain ⟨σ7, e6, hf⟩ := xbd hf
        obtain ⟨hm9, hA⟩ := xsI_reg hA hz5 e6
        have hm := hm.tr hm9
        have hf := xsj hf
        subst hf
        exact ⟨fun a' e => (by have h9 := Sum.inl.inj e; subst h9; exact ⟨hm, hA⟩), fun b e => xnc1 e⟩
  cases y with
  | inl a' =>
    obtain ⟨hm, hA1⟩ := hy.1 a' rfl
    have h1 := hc a' rfl hA1
    exact ⟨hm.tr (h1).1, (h1).2⟩
  | inr b =>
    have h1 := he b rfl
    subst h1
    exact hy.2 _ rfl
theorem n_X12_pass {A : Nat → Prop} {σ : XS} {r0 : Nat} {x1 : Int32} {x2 : Int32} {x : Int32 × XS} (hA : Reg A σ) (hr0 : A r0) (hf : f_X12_pass σ r0 x1 x2 = some x) : Sm A σ x.2 ∧ Reg A x.2 := by
  have hm := Sm.rf (A := A) (σ := σ)
  obtain ⟨_, e1, hf⟩ := xbd hf
  obtain ⟨v3, e2, hf⟩ := xbd hf
  by_cases q : v3 = 0
  · have hf := xip q hf
    have hf := xsj hf
    subst hf
    exact ⟨hm, hA⟩
  · have hf := xin q hf
    obtain ⟨_, e4, hf⟩ := xbd hf
    obtain ⟨v6, e5, hf⟩ := xbd hf
    by_cases q : v6 = 0
    · have hf := xip q hf
      have hf := xsj hf
      subst hf
      exact ⟨hm, hA⟩
    · have hf := xin q hf
      obtain ⟨_, e7, hf⟩ := xbd hf
      obtain ⟨v9, e8, hf⟩ := xbd hf
      by_cases q : v9 ≤ (10 : Int32)
      · have hf := xip q hf
        obtain ⟨_, e10, hf⟩ := xbd hf
        obtain ⟨σ12, e11, hf⟩ := xbd hf
        obtain ⟨hm9, hA⟩ := n_X12_knows hA hr0 e11
        have hm := hm.tr hm9
        exact ⟨hm.tr (n_X12_pass_l35 (a := ((0 : Int32), σ12)) hA hr0 hf).1, (n_X12_pass_l35 (a := ((0 : Int32), σ12)) hA hr0 hf).2⟩
      · have hf := xin q hf
        have hf := xsj hf
        subst hf
        exact ⟨hm, hA⟩
theorem n_X12_pin_j64 {A : Nat → Prop} {σ : XS} {r0 : Nat} {x1 : Int32} {x2 : Int32} {x : Int32 × XS} (hA : Reg A σ) (hr0 : A r0) (hf : f_X12_pin_j64 σ r0 x1 x2 = some x) : Sm A σ x.2 ∧ Reg A x.2 := by
  have hm := Sm.rf (A := A) (σ := σ)
  by_cases q : x2 = (2 : Int32)
  · have hf := xip q hf
    obtain ⟨z2, e1, hf⟩ := xbd hf
    have hz2 := xgR_reg rfl hA hr0 e1
    obtain ⟨v4, e3, hf⟩ := xbd hf
    obtain ⟨σ6, e5, hf⟩ := xbd hf
    obtain ⟨hm9, hA⟩ := xsI_reg hA hz2 e5
    have hm := hm.tr hm9
    obtain ⟨σ8, e7, hf⟩ := xbd hf
    obtain ⟨hm9, hA⟩ := xpI_reg hA hr0 e7
    have hm := hm.tr hm9
    have hf := xsj hf
    subst hf
    exact ⟨hm, hA⟩
  · have hf := xin q hf
    obtain ⟨σ2, e1, hf⟩ := xbd hf
    obtain ⟨hm9, hA⟩ := xpI_reg hA hr0 e1
    have hm := hm.tr hm9
    have hf := xsj hf
    subst hf
    exact ⟨hm, hA⟩
theorem n_X12_pin {A : Nat → Prop} {σ : XS} {r0 : Nat} {x1 : Int32} {x2 : Int32} {x : Int32 × XS} (hA : Reg A σ) (hr0 : A r0) (hf : f_X12_pin σ r0 x1 x2 = some x) : Sm A σ x.2 ∧ Reg A x.2 := by
  have hm := Sm.rf (A := A) (σ := σ)
  obtain ⟨_, e1, hf⟩ := xbd hf
  obtain ⟨v3, e2, hf⟩ := xbd hf
  by_cases q : v3 = 0
  · have hf := xip q hf
    have hf := xsj hf
    subst hf
    exact ⟨hm, hA⟩
  · have hf := xin q hf
    obtain ⟨v5, e4, hf⟩ := xbd hf
    by_cases q : v5 = 0
    · have hf := xip q hf
      have hf := xsj hf
      subst hf
      exact ⟨hm, hA⟩
    · have hf := xin q hf
      obtain ⟨z7, e6, hf⟩ := xbd hf
      obtain ⟨v9, e8, hf⟩ := xbd hf
      by_cases q : v9 = x2
      · have hf := xip q hf
        have hf := xsj hf
        subst hf
        exact ⟨hm, hA⟩
      · have hf := xin q hf
        obtain ⟨_, e10, hf⟩ := xbd hf
        obtain ⟨σ12, e11, hf⟩ := xbd hf
        obtain ⟨hm9, hA⟩ := n_X12_marks hA hr0 e11
        have hm := hm.tr hm9
        obtain ⟨z14, e13, hf⟩ := xbd hf
        have hz14 := xgR_reg rfl hA hr0 e13
        obtain ⟨σ16, e15, hf⟩ := xbd hf
        obtain ⟨hm9, hA⟩ := xsI_reg hA hz14 e15
        have hm := hm.tr hm9
        by_cases q : x2 = (1 : Int32)
        · have hf := xip q hf
          obtain ⟨z18, e17, hf⟩ := xbd hf
          have hz18 := xgR_reg rfl hA hr0 e17
          obtain ⟨v20, e19, hf⟩ := xbd hf
          obtain ⟨σ22, e21, hf⟩ := xbd hf
          obtain ⟨hm9, hA⟩ := xsI_reg hA hz18 e21
          have hm := hm.tr hm9
          exact ⟨hm.tr (n_X12_pin_j64 hA hr0 hf).1, (n_X12_pin_j64 hA hr0 hf).2⟩
        · have hf := xin q hf
          exact ⟨hm.tr (n_X12_pin_j64 hA hr0 hf).1, (n_X12_pin_j64 hA hr0 hf).2⟩
theorem n_X12_pull {A : Nat → Prop} {σ : XS} {r0 : Nat} {x1 : Int32} {x2 : Int32} {x : Int32 × XS} (hA : Reg A σ) (hr0 : A r0) (hf : f_X12_pull σ r0 x1 x2 = some x) : Sm A σ x.2 ∧ Reg A x.2 := by
  have hm := Sm.rf (A := A) (σ := σ)
  obtain ⟨_, e1, hf⟩ := xbd hf
  obtain ⟨v3, e2, hf⟩ := xbd hf
  by_cases q : v3 = 0
  · have hf := xip q hf
    have hf := xsj hf
    subst hf
    exact ⟨hm, hA⟩
  · have hf := xin q hf
    obtain ⟨v5, e4, hf⟩ := xbd hf
    by_cases q : v5 = 0
    · have hf := xip q hf
      have hf := xsj hf
      subst hf
      exact ⟨hm, hA⟩
    · have hf := xin q hf
      obtain ⟨z7, e6, hf⟩ := xbd hf
      obtain ⟨v9, e8, hf⟩ := xbd hf
      by_cases q : v9 = x2
      · have hf := xip q hf
        have hf := xsj hf
        subst hf
        exact ⟨hm, hA⟩
      · have hf := xin q hf
        obtain ⟨_, e10, hf⟩ := xbd hf
        obtain ⟨σ12, e11, hf⟩ := xbd hf
        obtain ⟨hm9, hA⟩ := n_X12_marks hA hr0 e11
        have hm := hm.tr hm9
        obtain ⟨z14, e13, hf⟩ := xbd hf
        have hz14 := xgR_reg rfl hA hr0 e13
        obtain ⟨σ16, e15, hf⟩ := xbd hf
        obtain ⟨hm9, hA⟩ := xsI_reg hA hz14 e15
        have hm := hm.tr hm9
        obtain ⟨σ18, e17, hf⟩ := xbd hf
        obtain ⟨hm9, hA⟩ := xpI_reg hA hr0 e17
        have hm := hm.tr hm9
        have hf := xsj hf
        subst hf
        exact ⟨hm, hA⟩
theorem n_X12_read_l286 {A : Nat → Prop} {r0 : Nat} {a : Int32 × XS} {x : Int32 × XS} (hA : Reg A a.2) (hr0 : A r0) (hf : xloop (f_X12_read_b286 r0) a = some x) : Sm A a.2 x.2 ∧ Reg A x.2 := by
  revert hA
  refine xloop_ind (P := fun a => Reg A a.2 → Sm A a.2 x.2 ∧ Reg A x.2) (fun a y hf hc he => ?_) hf
  obtain ⟨x1, σ⟩ := a
  intro hA
  have hA0 : Reg A σ := hA
  have hy : (∀ a' : Int32 × XS, y = .inl a' → Sm A σ a'.2 ∧ Reg A a'.2) ∧ (∀ b1 : Int32 × XS, y = .inr b1 → Sm A σ b1.2 ∧ Reg A b1.2) := by
    have hm := Sm.rf (A := A) (σ := σ)
    by_cases q : (3 : Int32) ≤ x1
    · have hf := xip q hf
      obtain ⟨b0, hg, e9⟩ := xmj hf
      subst e9
      have hf := hg
      refine ⟨fun a' e => xnc2 e, fun b e => ?_⟩
      have h9 := Sum.inr.inj e
      subst h9
      obtain ⟨σ2, e1, hf⟩ := xbd hf
      obtain ⟨hm9, hA⟩ := xpI_reg hA hr0 e1
      have hm := hm.tr hm9
      have hf := xsj hf
      subst hf
      exact ⟨hm, hA⟩
    · have hf := xin q hf
      obtain ⟨z2, e1, hf⟩ := xbd hf
      have hz2 := xgR_reg rfl hA hr0 e1
      obtain ⟨σ4, e3, hf⟩ := xbd hf
      obtain ⟨hm9, hA⟩ := xsI_reg hA hz2 e3
      have hm := hm.tr hm9
      have hf := xsj hf
      subst hf
      exact ⟨fun a' e => (by have h9 := Sum.inl.inj e; subst h9; exact ⟨hm, hA⟩), fun b e => xnc1 e⟩
  cases y with
  | inl a' =>
    obtain ⟨hm, hA1⟩ := hy.1 a' rfl
    have h1 := hc a' rfl hA1
    exact ⟨hm.tr (h1).1, (h1).2⟩
  | inr b =>
    have h1 := he b rfl
    subst h1
    exact hy.2 _ rfl
theorem n_X12_read_l239 {A : Nat → Prop} {r0 : Nat} {a : Int32 × XS} {x : Int32 × XS} (hA : Reg A a.2) (hr0 : A r0) (hf : xloop (f_X12_read_b239 r0) a = some x) : Sm A a.2 x.2 ∧ Reg A x.2 := by
  revert hA
  refine xloop_ind (P := fun a => Reg A a.2 → Sm A a.2 x.2 ∧ Reg A x.2) (fun a y hf hc he => ?_) hf
  obtain ⟨x1, σ⟩ := a
  intro hA
  have hA0 : Reg A σ := hA
  have hy : (∀ a' : Int32 × XS, y = .inl a' → Sm A σ a'.2 ∧ Reg A a'.2) ∧ (∀ b1 : Int32 × XS, y = .inr b1 → Sm A σ b1.2 ∧ Reg A b1.2) := by
    have hm := Sm.rf (A := A) (σ := σ)
    obtain ⟨_, e1, hf⟩ := xbd hf
    obtain ⟨v3, e2, hf⟩ := xbd hf
    by_cases q : v3 ≤ x1
    · have hf := xip q hf
      obtain ⟨b0, hg, e9⟩ := xmj hf
      subst e9
      have hf := hg
      refine ⟨fun a' e => xnc2 e, fun b e => ?_⟩
      have h9 := Sum.inr.inj e
      subst h9
      obtain ⟨σ5, e4, hf⟩ := xbd hf
      obtain ⟨hm9, hA⟩ := xpI_reg hA hr0 e4
      have hm := hm.tr hm9
      exact ⟨hm.tr (n_X12_read_l286 (a := ((0 : Int32), σ5)) hA hr0 hf).1, (n_X12_read_l286 (a := ((0 : Int32), σ5)) hA hr0 hf).2⟩
    · have hf := xin q hf
      obtain ⟨z5, e4, hf⟩ := xbd hf
      obtain ⟨v7, e6, hf⟩ := xbd hf
      by_cases q : v7 = (1 : Int32)
      · have hf := xip q hf
        obtain ⟨z9, e8, hf⟩ := xbd hf
        have hz9 := xgR_reg rfl hA hr0 e8
        obtain ⟨v11, e10, hf⟩ := xbd hf
        obtain ⟨σ13, e12, hf⟩ := xbd hf
        obtain ⟨hm9, hA⟩ := xsI_reg hA hz9 e12
        have hm := hm.tr hm9
        have hf := xsj hf
        subst hf
        exact ⟨fun a' e => (by have h9 := Sum.inl.inj e; subst h9; exact ⟨hm, hA⟩), fun b e => xnc1 e⟩
      · have hf := xin q hf
        have hf := xsj hf
        subst hf
        exact ⟨fun a' e => (by have h9 := Sum.inl.inj e; subst h9; exact ⟨hm, hA⟩), fun b e => xnc1 e⟩
  cases y with
  | inl a' =>
    obtain ⟨hm, hA1⟩ := hy.1 a' rfl
    have h1 := hc a' rfl hA1
    exact ⟨hm.tr (h1).1, (h1).2⟩
  | inr b =>
    have h1 := he b rfl
    subst h1
    exact hy.2 _ rfl
theorem n_X12_read_l205 {A : Nat → Prop} {r0 : Nat} {a : Int32 × XS} {x : Int32 × XS} (hA : Reg A a.2) (hr0 : A r0) (hf : xloop (f_X12_read_b205 r0) a = some x) : Sm A a.2 x.2 ∧ Reg A x.2 := by
  revert hA
  refine xloop_ind (P := fun a => Reg A a.2 → Sm A a.2 x.2 ∧ Reg A x.2) (fun a y hf hc he => ?_) hf
  obtain ⟨x1, σ⟩ := a
  intro hA
  have hA0 : Reg A σ := hA
  have hy : (∀ a' : Int32 × XS, y = .inl a' → Sm A σ a'.2 ∧ Reg A a'.2) ∧ (∀ b1 : Int32 × XS, y = .inr b1 → Sm A σ b1.2 ∧ Reg A b1.2) := by
    have hm := Sm.rf (A := A) (σ := σ)
    by_cases q : (66 : Int32) ≤ x1
    · have hf := xip q hf
      obtain ⟨b0, hg, e9⟩ := xmj hf
      subst e9
      have hf := hg
      refine ⟨fun a' e => xnc2 e, fun b e => ?_⟩
      have h9 := Sum.inr.inj e
      subst h9
      obtain ⟨z2, e1, hf⟩ := xbd hf
      have hz2 := xgR_reg rfl hA hr0 e1
      obtain ⟨σ4, e3, hf⟩ := xbd hf
      obtain ⟨hm9, hA⟩ := xsI_reg hA hz2 e3
      have hm := hm.tr hm9
      exact ⟨hm.tr (n_X12_read_l239 (a := ((0 : Int32), σ4)) hA hr0 hf).1, (n_X12_read_l239 (a := ((0 : Int32), σ4)) hA hr0 hf).2⟩
    · have hf := xin q hf
      obtain ⟨z2, e1, hf⟩ := xbd hf
      have hz2 := xgR_reg rfl hA hr0 e1
      obtain ⟨z4, e3, hf⟩ := xbd hf
      obtain ⟨v6, e5, hf⟩ := xbd hf
      obtain ⟨σ8, e7, hf⟩ := xbd hf
      obtain ⟨hm9, hA⟩ := xsI_reg hA hz2 e7
      have hm := hm.tr hm9
      have hf := xsj hf
      subst hf
      exact ⟨fun a' e => (by have h9 := Sum.inl.inj e; subst h9; exact ⟨hm, hA⟩), fun b e => xnc1 e⟩
  cases y with
  | inl a' =>
    obtain ⟨hm, hA1⟩ := hy.1 a' rfl
    have h1 := hc a' rfl hA1
    exact ⟨hm.tr (h1).1, (h1).2⟩
  | inr b =>
    have h1 := he b rfl
    subst h1
    exact hy.2 _ rfl
theorem n_X12_read_j144 {A : Nat → Prop} {σ : XS} {r0 : Nat} {t0 : Nat} {t1 : Int32} {x : Int32 × XS} (hA : Reg A σ) (hr0 : A r0) (ht0 : A t0) (hf : f_X12_read_j144 σ r0 t0 t1 = some x) : Sm A σ x.2 ∧ Reg A x.2 := by
  have hm := Sm.rf (A := A) (σ := σ)
  obtain ⟨σ2, e1, hf⟩ := xbd hf
  obtain ⟨hm9, hA⟩ := xpI_reg hA ht0 e1
  have hm := hm.tr hm9
  obtain ⟨v4, e3, hf⟩ := xbd hf
  by_cases q : v4 ≤ 0
  · have hf := xip q hf
    obtain ⟨v6, e5, hf⟩ := xbd hf
    by_cases q : v6 ≤ 0
    · have hf := xip q hf
      obtain ⟨v8, e7, hf⟩ := xbd hf
      obtain ⟨σ10, e9, hf⟩ := xbd hf
      obtain ⟨hm9, hA⟩ := xpI_reg hA hr0 e9
      have hm := hm.tr hm9
      obtain ⟨v12, e11, hf⟩ := xbd hf
      obtain ⟨σ14, e13, hf⟩ := xbd hf
      obtain ⟨hm9, hA⟩ := xpI_reg hA hr0 e13
      have hm := hm.tr hm9
      obtain ⟨v16, e15, hf⟩ := xbd hf
      obtain ⟨_, e17, hf⟩ := xbd hf
      obtain ⟨σ19, e18, hf⟩ := xbd hf
      obtain ⟨hm9, hA⟩ := xpI_reg hA hr0 e18
      have hm := hm.tr hm9
      obtain ⟨v21, e20, hf⟩ := xbd hf
      obtain ⟨_, e22, hf⟩ := xbd hf
      obtain ⟨σ24, e23, hf⟩ := xbd hf
      obtain ⟨hm9, hA⟩ := xpI_reg hA hr0 e23
      have hm := hm.tr hm9
      exact ⟨hm.tr (n_X12_read_l205 (a := ((0 : Int32), σ24)) hA hr0 hf).1, (n_X12_read_l205 (a := ((0 : Int32), σ24)) hA hr0 hf).2⟩
    · have hf := xin q hf
      obtain ⟨v8, e7, hf⟩ := xbd hf
      have hf := xsj hf
      subst hf
      exact ⟨hm, hA⟩
  · have hf := xin q hf
    obtain ⟨v6, e5, hf⟩ := xbd hf
    have hf := xsj hf
    subst hf
    exact ⟨hm, hA⟩
theorem n_X12_read_j114 {A : Nat → Prop} {σ : XS} {r0 : Nat} {x : Int32 × XS} (hA : Reg A σ) (hr0 : A r0) (hf : f_X12_read_j114 σ r0 = some x) : Sm A σ x.2 ∧ Reg A x.2 := by
  have hm := Sm.rf (A := A) (σ := σ)
  obtain ⟨v2, e1, hf⟩ := xbd hf
  by_cases q : v2 ≤ 0
  · have hf := xip q hf
    obtain ⟨v4, e3, hf⟩ := xbd hf
    by_cases q : v4 ≤ 0
    · have hf := xip q hf
      exact ⟨hm.tr (n_X12_read_j144 hA hr0 hr0 hf).1, (n_X12_read_j144 hA hr0 hr0 hf).2⟩
    · have hf := xin q hf
      obtain ⟨v6, e5, hf⟩ := xbd hf
      exact ⟨hm.tr (n_X12_read_j144 hA hr0 hr0 hf).1, (n_X12_read_j144 hA hr0 hr0 hf).2⟩
  · have hf := xin q hf
    obtain ⟨v4, e3, hf⟩ := xbd hf
    exact ⟨hm.tr (n_X12_read_j144 hA hr0 hr0 hf).1, (n_X12_read_j144 hA hr0 hr0 hf).2⟩
theorem n_X12_read_j103 {A : Nat → Prop} {σ : XS} {r0 : Nat} {x : Int32 × XS} (hA : Reg A σ) (hr0 : A r0) (hf : f_X12_read_j103 σ r0 = some x) : Sm A σ x.2 ∧ Reg A x.2 := by
  have hm := Sm.rf (A := A) (σ := σ)
  obtain ⟨v2, e1, hf⟩ := xbd hf
  by_cases q : v2 = 0
  · have hf := xip q hf
    obtain ⟨_, e3, hf⟩ := xbd hf
    obtain ⟨σ5, e4, hf⟩ := xbd hf
    obtain ⟨hm9, hA⟩ := n_X12_means hA hr0 e4
    have hm := hm.tr hm9
    exact ⟨hm.tr (n_X12_read_j114 hA hr0 hf).1, (n_X12_read_j114 hA hr0 hf).2⟩
  · have hf := xin q hf
    exact ⟨hm.tr (n_X12_read_j114 hA hr0 hf).1, (n_X12_read_j114 hA hr0 hf).2⟩
theorem n_X12_read_l81 {A : Nat → Prop} {r0 : Nat} {a : XS} {x : Int32 × XS} (hA : Reg A a) (hr0 : A r0) (hf : xloop (f_X12_read_b81 r0) a = some x) : Sm A a x.2 ∧ Reg A x.2 := by
  revert hA
  refine xloop_ind (P := fun a => Reg A a → Sm A a x.2 ∧ Reg A x.2) (fun a y hf hc he => ?_) hf
  obtain ⟨σ, rfl⟩ : ∃ z, z = a := ⟨_, rfl⟩
  intro hA
  have hA0 : Reg A σ := hA
  have hy : (∀ a' : XS, y = .inl a' → Sm A σ a' ∧ Reg A a') ∧ (∀ b1 : Int32 × XS, y = .inr b1 → Sm A σ b1.2 ∧ Reg A b1.2) := by
    have hm := Sm.rf (A := A) (σ := σ)
    obtain ⟨v2, e1, hf⟩ := xbd hf
    by_cases q : v2 = 0
    · have hf := xip q hf
      obtain ⟨_, e3, hf⟩ := xbd hf
      obtain ⟨v5, e4, hf⟩ := xbd hf
      by_cases q : v5 = 0
      · have hf := xip q hf
        obtain ⟨_, e6, hf⟩ := xbd hf
        obtain ⟨σ8, e7, hf⟩ := xbd hf
        obtain ⟨hm9, hA⟩ := n_X12_line hA hr0 e7
        have hm := hm.tr hm9
        have hf := xsj hf
        subst hf
        exact ⟨fun a' e => (by have h9 := Sum.inl.inj e; subst h9; exact ⟨hm, hA⟩), fun b e => xnc1 e⟩
      · have hf := xin q hf
        obtain ⟨b0, hg, e9⟩ := xmj hf
        subst e9
        have hf := hg
        refine ⟨fun a' e => xnc2 e, fun b e => ?_⟩
        have h9 := Sum.inr.inj e
        subst h9
        exact ⟨hm.tr (n_X12_read_j103 hA hr0 hf).1, (n_X12_read_j103 hA hr0 hf).2⟩
    · have hf := xin q hf
      obtain ⟨b0, hg, e9⟩ := xmj hf
      subst e9
      have hf := hg
      refine ⟨fun a' e => xnc2 e, fun b e => ?_⟩
      have h9 := Sum.inr.inj e
      subst h9
      exact ⟨hm.tr (n_X12_read_j103 hA hr0 hf).1, (n_X12_read_j103 hA hr0 hf).2⟩
  cases y with
  | inl a' =>
    obtain ⟨hm, hA1⟩ := hy.1 a' rfl
    have h1 := hc a' rfl hA1
    exact ⟨hm.tr (h1).1, (h1).2⟩
  | inr b =>
    have h1 := he b rfl
    subst h1
    exact hy.2 _ rfl
theorem n_X12_read_l10 {A : Nat → Prop} {r0 : Nat} {a : Int32 × XS} {x : Int32 × XS} (hA : Reg A a.2) (hr0 : A r0) (hf : xloop (f_X12_read_b10 r0) a = some x) : Sm A a.2 x.2 ∧ Reg A x.2 := by
  revert hA
  refine xloop_ind (P := fun a => Reg A a.2 → Sm A a.2 x.2 ∧ Reg A x.2) (fun a y hf hc he => ?_) hf
  obtain ⟨x1, σ⟩ := a
  intro hA
  have hA0 : Reg A σ := hA
  have hy : (∀ a' : Int32 × XS, y = .inl a' → Sm A σ a'.2 ∧ Reg A a'.2) ∧ (∀ b1 : Int32 × XS, y = .inr b1 → Sm A σ b1.2 ∧ Reg A b1.2) := by
    have hm := Sm.rf (A := A) (σ := σ)
    obtain ⟨v2, e1, hf⟩ := xbd hf
    by_cases q : v2 ≤ x1
    · have hf := xip q hf
      obtain ⟨b0, hg, e9⟩ := xmj hf
      subst e9
      have hf := hg
      refine ⟨fun a' e => xnc2 e, fun b e => ?_⟩
      have h9 := Sum.inr.inj e
      subst h9
      obtain ⟨σ4, e3, hf⟩ := xbd hf
      obtain ⟨hm9, hA⟩ := xpI_reg hA hr0 e3
      have hm := hm.tr hm9
      obtain ⟨_, e5, hf⟩ := xbd hf
      obtain ⟨σ7, e6, hf⟩ := xbd hf
      obtain ⟨hm9, hA⟩ := n_X12_cutsText hA hr0 e6
      have hm := hm.tr hm9
      obtain ⟨σ9, e8, hf⟩ := xbd hf
      obtain ⟨hm9, hA⟩ := xpI_reg hA hr0 e8
      have hm := hm.tr hm9
      obtain ⟨σ11, e10, hf⟩ := xbd hf
      obtain ⟨hm9, hA⟩ := xpI_reg hA hr0 e10
      have hm := hm.tr hm9
      obtain ⟨σ13, e12, hf⟩ := xbd hf
      obtain ⟨hm9, hA⟩ := xpI_reg hA hr0 e12
      have hm := hm.tr hm9
      obtain ⟨_, e14, hf⟩ := xbd hf
      obtain ⟨σ16, e15, hf⟩ := xbd hf
      obtain ⟨hm9, hA⟩ := n_X12_must hA hr0 e15
      have hm := hm.tr hm9
      obtain ⟨_, e17, hf⟩ := xbd hf
      obtain ⟨σ19, e18, hf⟩ := xbd hf
      obtain ⟨hm9, hA⟩ := n_X12_must hA hr0 e18
      have hm := hm.tr hm9
      obtain ⟨_, e20, hf⟩ := xbd hf
      obtain ⟨σ22, e21, hf⟩ := xbd hf
      obtain ⟨hm9, hA⟩ := n_X12_must hA hr0 e21
      have hm := hm.tr hm9
      obtain ⟨_, e23, hf⟩ := xbd hf
      obtain ⟨σ25, e24, hf⟩ := xbd hf
      obtain ⟨hm9, hA⟩ := n_X12_must hA hr0 e24
      have hm := hm.tr hm9
      exact ⟨hm.tr (n_X12_read_l81 (a := σ25) hA hr0 hf).1, (n_X12_read_l81 (a := σ25) hA hr0 hf).2⟩
    · have hf := xin q hf
      obtain ⟨z4, e3, hf⟩ := xbd hf
      have hz4 := xgR_reg rfl hA hr0 e3
      obtain ⟨z6, e5, hf⟩ := xbd hf
      obtain ⟨v8, e7, hf⟩ := xbd hf
      obtain ⟨σ10, e9, hf⟩ := xbd hf
      obtain ⟨hm9, hA⟩ := xsI_reg hA hz4 e9
      have hm := hm.tr hm9
      have hf := xsj hf
      subst hf
      exact ⟨fun a' e => (by have h9 := Sum.inl.inj e; subst h9; exact ⟨hm, hA⟩), fun b e => xnc1 e⟩
  cases y with
  | inl a' =>
    obtain ⟨hm, hA1⟩ := hy.1 a' rfl
    have h1 := hc a' rfl hA1
    exact ⟨hm.tr (h1).1, (h1).2⟩
  | inr b =>
    have h1 := he b rfl
    subst h1
    exact hy.2 _ rfl
theorem n_X12_read {A : Nat → Prop} {σ : XS} {r0 : Nat} {x : Int32 × XS} (hA : Reg A σ) (hr0 : A r0) (hf : f_X12_read σ r0 = some x) : Sm A σ x.2 ∧ Reg A x.2 := by
  have hm := Sm.rf (A := A) (σ := σ)
  obtain ⟨v2, e1, hf⟩ := xbd hf
  obtain ⟨σ4, e3, hf⟩ := xbd hf
  obtain ⟨hm9, hA⟩ := xpI_reg hA hr0 e3
  have hm := hm.tr hm9
  exact ⟨hm.tr (n_X12_read_l10 (a := ((0 : Int32), σ4)) hA hr0 hf).1, (n_X12_read_l10 (a := ((0 : Int32), σ4)) hA hr0 hf).2⟩
theorem n_X12_restore_l22 {A : Nat → Prop} {r0 : Nat} {x1 : Int32} {a : Int32 × XS} {x : Int32 × XS} (hA : Reg A a.2) (hr0 : A r0) (hf : xloop (f_X12_restore_b22 r0 x1) a = some x) : Sm A a.2 x.2 ∧ Reg A x.2 := by
  revert hA
  refine xloop_ind (P := fun a => Reg A a.2 → Sm A a.2 x.2 ∧ Reg A x.2) (fun a y hf hc he => ?_) hf
  obtain ⟨x2, σ⟩ := a
  intro hA
  have hA0 : Reg A σ := hA
  have hy : (∀ a' : Int32 × XS, y = .inl a' → Sm A σ a'.2 ∧ Reg A a'.2) ∧ (∀ b1 : Int32 × XS, y = .inr b1 → Sm A σ b1.2 ∧ Reg A b1.2) := by
    have hm := Sm.rf (A := A) (σ := σ)
    by_cases q : (66 : Int32) ≤ x2
    · have hf := xip q hf
      obtain ⟨b0, hg, e9⟩ := xmj hf
      subst e9
      have hf := hg
      refine ⟨fun a' e => xnc2 e, fun b e => ?_⟩
      have h9 := Sum.inr.inj e
      subst h9
      obtain ⟨σ2, e1, hf⟩ := xbd hf
      obtain ⟨hm9, hA⟩ := xpI_reg hA hr0 e1
      have hm := hm.tr hm9
      obtain ⟨σ4, e3, hf⟩ := xbd hf
      obtain ⟨hm9, hA⟩ := xpI_reg hA hr0 e3
      have hm := hm.tr hm9
      have hf := xsj hf
      subst hf
      exact ⟨hm, hA⟩
    · have hf := xin q hf
      obtain ⟨z2, e1, hf⟩ := xbd hf
      have hz2 := xgR_reg rfl hA hr0 e1
      obtain ⟨z4, e3, hf⟩ := xbd hf
      obtain ⟨v6, e5, hf⟩ := xbd hf
      obtain ⟨σ8, e7, hf⟩ := xbd hf
      obtain ⟨hm9, hA⟩ := xsI_reg hA hz2 e7
      have hm := hm.tr hm9
      have hf := xsj hf
      subst hf
      exact ⟨fun a' e => (by have h9 := Sum.inl.inj e; subst h9; exact ⟨hm, hA⟩), fun b e => xnc1 e⟩
  cases y with
  | inl a' =>
    obtain ⟨hm, hA1⟩ := hy.1 a' rfl
    have h1 := hc a' rfl hA1
    exact ⟨hm.tr (h1).1, (h1).2⟩
  | inr b =>
    have h1 := he b rfl
    subst h1
    exact hy.2 _ rfl
theorem n_X12_restore {A : Nat → Prop} {σ : XS} {r0 : Nat} {x1 : Int32} {x : Int32 × XS} (hA : Reg A σ) (hr0 : A r0) (hf : f_X12_restore σ r0 x1 = some x) : Sm A σ x.2 ∧ Reg A x.2 := by
  have hm := Sm.rf (A := A) (σ := σ)
  obtain ⟨v2, e1, hf⟩ := xbd hf
  by_cases q : v2 = 0
  · have hf := xip q hf
    have hf := xsj hf
    subst hf
    exact ⟨hm, hA⟩
  · have hf := xin q hf
    obtain ⟨z4, e3, hf⟩ := xbd hf
    obtain ⟨v6, e5, hf⟩ := xbd hf
    by_cases q : v6 = 0
    · have hf := xip q hf
      have hf := xsj hf
      subst hf
      exact ⟨hm, hA⟩
    · have hf := xin q hf
      exact ⟨hm.tr (n_X12_restore_l22 (a := ((0 : Int32), σ)) hA hr0 hf).1, (n_X12_restore_l22 (a := ((0 : Int32), σ)) hA hr0 hf).2⟩
theorem n_X12_state {A : Nat → Prop} {σ : XS} {r0 : Nat} {x1 : Int32} {x2 : Int32} {x : Int32 × XS} (hA : Reg A σ) (hr0 : A r0) (hf : f_X12_state σ r0 x1 x2 = some x) : Sm A σ x.2 ∧ Reg A x.2 := by
  have hm := Sm.rf (A := A) (σ := σ)
  obtain ⟨_, e1, hf⟩ := xbd hf
  obtain ⟨v3, e2, hf⟩ := xbd hf
  by_cases q : v3 = 0
  · have hf := xip q hf
    have hf := xsj hf
    subst hf
    exact ⟨hm, hA⟩
  · have hf := xin q hf
    obtain ⟨_, e4, hf⟩ := xbd hf
    obtain ⟨σ6, e5, hf⟩ := xbd hf
    obtain ⟨hm9, hA⟩ := n_X12_knows hA hr0 e5
    have hm := hm.tr hm9
    by_cases ho : (x2).toInt < 0 ∨ 5 < (x2).toInt
    · have hf := xsw_out ho rfl hf
      have hf := xsj hf
      subst hf
      exact ⟨hm, hA⟩
    · rcases (by omega : (x2).toInt = 0 + ((0 : Nat) : Int) ∨ (x2).toInt = 0 + ((1 : Nat) : Int) ∨ (x2).toInt = 0 + ((2 : Nat) : Int) ∨ (x2).toInt = 0 + ((3 : Nat) : Int) ∨ (x2).toInt = 0 + ((4 : Nat) : Int) ∨ (x2).toInt = 0 + ((5 : Nat) : Int)) with hk1 | hk1 | hk1 | hk1 | hk1 | hk1
      · have hf := xsw_in 0 hk1 rfl hf
        obtain ⟨z8, e7, hf⟩ := xbd hf
        obtain ⟨v10, e9, hf⟩ := xbd hf
        have hf := xsj hf
        subst hf
        exact ⟨hm, hA⟩
      · have hf := xsw_in 1 hk1 rfl hf
        obtain ⟨_, e7, hf⟩ := xbd hf
        obtain ⟨v9, e8, hf⟩ := xbd hf
        have hf := xsj hf
        subst hf
        exact ⟨hm, hA⟩
      · have hf := xsw_in 2 hk1 rfl hf
        obtain ⟨_, e7, hf⟩ := xbd hf
        obtain ⟨v9, e8, hf⟩ := xbd hf
        by_cases q : 0 ≤ v9
        · have hf := xip q hf
          have hf := xsj hf
          subst hf
          exact ⟨hm, hA⟩
        · have hf := xin q hf
          have hf := xsj hf
          subst hf
          exact ⟨hm, hA⟩
      · have hf := xsw_in 3 hk1 rfl hf
        obtain ⟨_, e7, hf⟩ := xbd hf
        obtain ⟨v9, e8, hf⟩ := xbd hf
        have hf := xsj hf
        subst hf
        exact ⟨hm, hA⟩
      · have hf := xsw_in 4 hk1 rfl hf
        obtain ⟨_, e7, hf⟩ := xbd hf
        obtain ⟨v9, e8, hf⟩ := xbd hf
        have hf := xsj hf
        subst hf
        exact ⟨hm, hA⟩
      · have hf := xsw_in 5 hk1 rfl hf
        obtain ⟨_, e7, hf⟩ := xbd hf
        obtain ⟨v9, e8, hf⟩ := xbd hf
        have hf := xsj hf
        subst hf
        exact ⟨hm, hA⟩
theorem n_X12_stiff_l41 {A : Nat → Prop} {σ : XS} {r0 : Nat} {x1 : Int32} {x2 : Int32} {a : Int32 × Int32 × Int32} {x : Int32 × XS} (hA : Reg A σ) (hf : xloop (f_X12_stiff_b41 σ r0 x1 x2) a = some x) : Sm A σ x.2 ∧ Reg A x.2 := by
  revert hA
  refine xloop_ind (P := fun a => Reg A σ → Sm A σ x.2 ∧ Reg A x.2) (fun a y hf hc he => ?_) hf
  obtain ⟨x3, x4, x5⟩ := a
  intro hA
  have hA0 : Reg A σ := hA
  have hy : (∀ a' : Int32 × Int32 × Int32, y = .inl a' → True) ∧ (∀ b1 : Int32 × XS, y = .inr b1 → Sm A σ b1.2 ∧ Reg A b1.2) := by
    have hm := Sm.rf (A := A) (σ := σ)
    obtain ⟨_, e1, hf⟩ := xbd hf
    obtain ⟨v3, e2, hf⟩ := xbd hf
    by_cases q : v3 ≤ x5
    · have hf := xip q hf
      obtain ⟨b0, hg, e9⟩ := xmj hf
      subst e9
      have hf := hg
      refine ⟨fun a' e => xnc2 e, fun b e => ?_⟩
      have h9 := Sum.inr.inj e
      subst h9
      by_cases q : x3 = (100000 : Int32)
      · have hf := xip q hf
        have hf := xsj hf
        subst hf
        exact ⟨hm, hA⟩
      · have hf := xin q hf
        by_cases q : x4 = (100000 : Int32)
        · have hf := xip q hf
          have hf := xsj hf
          subst hf
          exact ⟨hm, hA⟩
        · have hf := xin q hf
          have hf := xsj hf
          subst hf
          exact ⟨hm, hA⟩
    · have hf := xin q hf
      obtain ⟨v5, e4, hf⟩ := xbd hf
      obtain ⟨v7, e6, hf⟩ := xbd hf
      by_cases q : v5 = v7
      · have hf := xip q hf
        obtain ⟨z9, e8, hf⟩ := xbd hf
        obtain ⟨v11, e10, hf⟩ := xbd hf
        by_cases q : x3 ≤ v11
        · have hf := xip q hf
          have hf := xsj hf
          subst hf
          exact ⟨fun a' e => (by have h9 := Sum.inl.inj e; subst h9; exact trivial), fun b e => xnc1 e⟩
        · have hf := xin q hf
          obtain ⟨z13, e12, hf⟩ := xbd hf
          obtain ⟨v15, e14, hf⟩ := xbd hf
          have hf := xsj hf
          subst hf
          exact ⟨fun a' e => (by have h9 := Sum.inl.inj e; subst h9; exact trivial), fun b e => xnc1 e⟩
      · have hf := xin q hf
        obtain ⟨z9, e8, hf⟩ := xbd hf
        obtain ⟨v11, e10, hf⟩ := xbd hf
        by_cases q : x4 ≤ v11
        · have hf := xip q hf
          have hf := xsj hf
          subst hf
          exact ⟨fun a' e => (by have h9 := Sum.inl.inj e; subst h9; exact trivial), fun b e => xnc1 e⟩
        · have hf := xin q hf
          obtain ⟨z13, e12, hf⟩ := xbd hf
          obtain ⟨v15, e14, hf⟩ := xbd hf
          have hf := xsj hf
          subst hf
          exact ⟨fun a' e => (by have h9 := Sum.inl.inj e; subst h9; exact trivial), fun b e => xnc1 e⟩
  cases y with
  | inl a' =>
    exact hc a' rfl hA0
  | inr b =>
    have h1 := he b rfl
    subst h1
    exact hy.2 _ rfl
theorem n_X12_stiff {A : Nat → Prop} {σ : XS} {r0 : Nat} {x1 : Int32} {x2 : Int32} {x : Int32 × XS} (hA : Reg A σ) (hr0 : A r0) (hf : f_X12_stiff σ r0 x1 x2 = some x) : Sm A σ x.2 ∧ Reg A x.2 := by
  have hm := Sm.rf (A := A) (σ := σ)
  obtain ⟨_, e1, hf⟩ := xbd hf
  obtain ⟨v3, e2, hf⟩ := xbd hf
  by_cases q : v3 = 0
  · have hf := xip q hf
    have hf := xsj hf
    subst hf
    exact ⟨hm, hA⟩
  · have hf := xin q hf
    obtain ⟨_, e4, hf⟩ := xbd hf
    obtain ⟨v6, e5, hf⟩ := xbd hf
    by_cases q : v6 = 0
    · have hf := xip q hf
      have hf := xsj hf
      subst hf
      exact ⟨hm, hA⟩
    · have hf := xin q hf
      by_cases q : x1 = x2
      · have hf := xip q hf
        have hf := xsj hf
        subst hf
        exact ⟨hm, hA⟩
      · have hf := xin q hf
        obtain ⟨_, e7, hf⟩ := xbd hf
        obtain ⟨σ9, e8, hf⟩ := xbd hf
        obtain ⟨hm9, hA⟩ := n_X12_knows hA hr0 e8
        have hm := hm.tr hm9
        exact ⟨hm.tr (n_X12_stiff_l41 (a := ((100000 : Int32), (100000 : Int32), (0 : Int32))) hA hf).1, (n_X12_stiff_l41 (a := ((100000 : Int32), (100000 : Int32), (0 : Int32))) hA hf).2⟩
theorem n_X12_stuck_j47 {A : Nat → Prop} {σ : XS} {r0 : Nat} {x1 : Int32} {x2 : Int32} {x3 : Int32} {x : ((Int32 × Int32) ⊕ (Int32 × XS))} (hA : Reg A σ) (hf : f_X12_stuck_j47 σ r0 x1 x2 x3 = some x) : (∀ a' : Int32 × Int32, x = .inl a' → True) ∧ (∀ b1 : Int32 × XS, x = .inr b1 → Sm A σ b1.2 ∧ Reg A b1.2) := by
  have hm := Sm.rf (A := A) (σ := σ)
  obtain ⟨_, e1, hf⟩ := xbd hf
  obtain ⟨v3, e2, hf⟩ := xbd hf
  by_cases q : 0 ≤ v3
  · have hf := xip q hf
    have hf := xsj hf
    subst hf
    exact ⟨fun a' e => (by have h9 := Sum.inl.inj e; subst h9; exact trivial), fun b e => xnc1 e⟩
  · have hf := xin q hf
    have hf := xsj hf
    subst hf
    exact ⟨fun a' e => (by have h9 := Sum.inl.inj e; subst h9; exact trivial), fun b e => xnc1 e⟩
theorem n_X12_stuck_l8 {A : Nat → Prop} {σ : XS} {r0 : Nat} {x1 : Int32} {a : Int32 × Int32} {x : Int32 × XS} (hA : Reg A σ) (hf : xloop (f_X12_stuck_b8 σ r0 x1) a = some x) : Sm A σ x.2 ∧ Reg A x.2 := by
  revert hA
  refine xloop_ind (P := fun a => Reg A σ → Sm A σ x.2 ∧ Reg A x.2) (fun a y hf hc he => ?_) hf
  obtain ⟨x2, x3⟩ := a
  intro hA
  have hA0 : Reg A σ := hA
  have hy : (∀ a' : Int32 × Int32, y = .inl a' → True) ∧ (∀ b1 : Int32 × XS, y = .inr b1 → Sm A σ b1.2 ∧ Reg A b1.2) := by
    have hm := Sm.rf (A := A) (σ := σ)
    obtain ⟨_, e1, hf⟩ := xbd hf
    obtain ⟨v3, e2, hf⟩ := xbd hf
    by_cases q : v3 ≤ x3
    · have hf := xip q hf
      obtain ⟨b0, hg, e9⟩ := xmj hf
      subst e9
      have hf := hg
      refine ⟨fun a' e => xnc2 e, fun b e => ?_⟩
      have h9 := Sum.inr.inj e
      subst h9
      have hf := xsj hf
      subst hf
      exact ⟨hm, hA⟩
    · have hf := xin q hf
      obtain ⟨z5, e4, hf⟩ := xbd hf
      obtain ⟨v7, e6, hf⟩ := xbd hf
      by_cases q : (100000 : Int32) ≤ v7
      · have hf := xip q hf
        have hf := xsj hf
        subst hf
        exact ⟨fun a' e => (by have h9 := Sum.inl.inj e; subst h9; exact trivial), fun b e => xnc1 e⟩
      · have hf := xin q hf
        by_cases q : x1 = 0
        · have hf := xip q hf
          exact ⟨fun _ _ => trivial, fun b1 eb1 => ⟨hm.tr ((n_X12_stuck_j47 hA hf).2 b1 eb1).1, ((n_X12_stuck_j47 hA hf).2 b1 eb1).2⟩⟩
        · have hf := xin q hf
          obtain ⟨z9, e8, hf⟩ := xbd hf
          obtain ⟨v11, e10, hf⟩ := xbd hf
          obtain ⟨z13, e12, hf⟩ := xbd hf
          obtain ⟨v15, e14, hf⟩ := xbd hf
          by_cases q : v11 ≤ v15
          · have hf := xip q hf
            have hf := xsj hf
            subst hf
            exact ⟨fun a' e => (by have h9 := Sum.inl.inj e; subst h9; exact trivial), fun b e => xnc1 e⟩
          · have hf := xin q hf
            exact ⟨fun _ _ => trivial, fun b1 eb1 => ⟨hm.tr ((n_X12_stuck_j47 hA hf).2 b1 eb1).1, ((n_X12_stuck_j47 hA hf).2 b1 eb1).2⟩⟩
  cases y with
  | inl a' =>
    exact hc a' rfl hA0
  | inr b =>
    have h1 := he b rfl
    subst h1
    exact hy.2 _ rfl
theorem n_X12_stuck {A : Nat → Prop} {σ : XS} {r0 : Nat} {x1 : Int32} {x : Int32 × XS} (hA : Reg A σ) (hr0 : A r0) (hf : f_X12_stuck σ r0 x1 = some x) : Sm A σ x.2 ∧ Reg A x.2 := by
  have hm := Sm.rf (A := A) (σ := σ)
  obtain ⟨_, e1, hf⟩ := xbd hf
  obtain ⟨σ3, e2, hf⟩ := xbd hf
  obtain ⟨hm9, hA⟩ := n_X12_knows hA hr0 e2
  have hm := hm.tr hm9
  exact ⟨hm.tr (n_X12_stuck_l8 (a := ((0 : Int32), (0 : Int32))) hA hf).1, (n_X12_stuck_l8 (a := ((0 : Int32), (0 : Int32))) hA hf).2⟩
theorem n_X12_tie_j60 {A : Nat → Prop} {σ : XS} {r0 : Nat} {x1 : Int32} {x3 : Int32} {t0 : Nat} {t1 : Int32} {x : Int32 × XS} (hA : Reg A σ) (hr0 : A r0) (ht0 : A t0) (hf : f_X12_tie_j60 σ r0 x1 x3 t0 t1 = some x) : Sm A σ x.2 ∧ Reg A x.2 := by
  have hm := Sm.rf (A := A) (σ := σ)
  obtain ⟨σ2, e1, hf⟩ := xbd hf
  obtain ⟨hm9, hA⟩ := xsI_reg hA ht0 e1
  have hm := hm.tr hm9
  obtain ⟨σ4, e3, hf⟩ := xbd hf
  obtain ⟨hm9, hA⟩ := xpI_reg hA hr0 e3
  have hm := hm.tr hm9
  have hf := xsj hf
  subst hf
  exact ⟨hm, hA⟩
theorem n_X12_tie {A : Nat → Prop} {σ : XS} {r0 : Nat} {x1 : Int32} {x2 : Int32} {x3 : Int32} {x : Int32 × XS} (hA : Reg A σ) (hr0 : A r0) (hf : f_X12_tie σ r0 x1 x2 x3 = some x) : Sm A σ x.2 ∧ Reg A x.2 := by
  have hm := Sm.rf (A := A) (σ := σ)
  obtain ⟨_, e1, hf⟩ := xbd hf
  obtain ⟨v3, e2, hf⟩ := xbd hf
  by_cases q : v3 = 0
  · have hf := xip q hf
    have hf := xsj hf
    subst hf
    exact ⟨hm, hA⟩
  · have hf := xin q hf
    obtain ⟨v5, e4, hf⟩ := xbd hf
    by_cases q : v5 = 0
    · have hf := xip q hf
      have hf := xsj hf
      subst hf
      exact ⟨hm, hA⟩
    · have hf := xin q hf
      obtain ⟨_, e6, hf⟩ := xbd hf
      obtain ⟨v8, e7, hf⟩ := xbd hf
      by_cases q : v8 < 0
      · have hf := xip q hf
        have hf := xsj hf
        subst hf
        exact ⟨hm, hA⟩
      · have hf := xin q hf
        obtain ⟨z10, e9, hf⟩ := xbd hf
        obtain ⟨v12, e11, hf⟩ := xbd hf
        by_cases q : v12 = x3
        · have hf := xip q hf
          have hf := xsj hf
          subst hf
          exact ⟨hm, hA⟩
        · have hf := xin q hf
          obtain ⟨_, e13, hf⟩ := xbd hf
          obtain ⟨σ15, e14, hf⟩ := xbd hf
          obtain ⟨hm9, hA⟩ := n_X12_marks hA hr0 e14
          have hm := hm.tr hm9
          obtain ⟨z17, e16, hf⟩ := xbd hf
          have hz17 := xgR_reg rfl hA hr0 e16
          by_cases q : x2 = 0
          · have hf := xip q hf
            exact ⟨hm.tr (n_X12_tie_j60 hA hr0 hz17 hf).1, (n_X12_tie_j60 hA hr0 hz17 hf).2⟩
          · have hf := xin q hf
            exact ⟨hm.tr (n_X12_tie_j60 hA hr0 hz17 hf).1, (n_X12_tie_j60 hA hr0 hz17 hf).2⟩
theorem n_X12_turn {A : Nat → Prop} {σ : XS} {r0 : Nat} {x1 : Int32} {x : Int32 × XS} (hA : Reg A σ) (hr0 : A r0) (hf : f_X12_turn σ r0 x1 = some x) : Sm A σ x.2 ∧ Reg A x.2 := by
  have hm := Sm.rf (A := A) (σ := σ)
  obtain ⟨_, e1, hf⟩ := xbd hf
  obtain ⟨v3, e2, hf⟩ := xbd hf
  by_cases q : v3 = 0
  · have hf := xip q hf
    have hf := xsj hf
    subst hf
    exact ⟨hm, hA⟩
  · have hf := xin q hf
    obtain ⟨z5, e4, hf⟩ := xbd hf
    obtain ⟨v7, e6, hf⟩ := xbd hf
    by_cases q : v7 ≤ 0
    · have hf := xip q hf
      obtain ⟨_, e8, hf⟩ := xbd hf
      obtain ⟨σ10, e9, hf⟩ := xbd hf
      obtain ⟨hm9, hA⟩ := n_X12_marks hA hr0 e9
      have hm := hm.tr hm9
      obtain ⟨z12, e11, hf⟩ := xbd hf
      have hz12 := xgR_reg rfl hA hr0 e11
      obtain ⟨v14, e13, hf⟩ := xbd hf
      obtain ⟨σ16, e15, hf⟩ := xbd hf
      obtain ⟨hm9, hA⟩ := xsI_reg hA hz12 e15
      have hm := hm.tr hm9
      have hf := xsj hf
      subst hf
      exact ⟨hm, hA⟩
    · have hf := xin q hf
      have hf := xsj hf
      subst hf
      exact ⟨hm, hA⟩
theorem n_X12_undo_l37 {A : Nat → Prop} {r0 : Nat} {x1 : Int32} {a : Int32 × XS} {x : Int32 × XS} (hA : Reg A a.2) (hr0 : A r0) (hf : xloop (f_X12_undo_b37 r0 x1) a = some x) : Sm A a.2 x.2 ∧ Reg A x.2 := by
  revert hA
  refine xloop_ind (P := fun a => Reg A a.2 → Sm A a.2 x.2 ∧ Reg A x.2) (fun a y hf hc he => ?_) hf
  obtain ⟨x2, σ⟩ := a
  intro hA
  have hA0 : Reg A σ := hA
  have hy : (∀ a' : Int32 × XS, y = .inl a' → Sm A σ a'.2 ∧ Reg A a'.2) ∧ (∀ b1 : Int32 × XS, y = .inr b1 → Sm A σ b1.2 ∧ Reg A b1.2) := by
    have hm := Sm.rf (A := A) (σ := σ)
    by_cases q : (66 : Int32) ≤ x2
    · have hf := xip q hf
      obtain ⟨b0, hg, e9⟩ := xmj hf
      subst e9
      have hf := hg
      refine ⟨fun a' e => xnc2 e, fun b e => ?_⟩
      have h9 := Sum.inr.inj e
      subst h9
      obtain ⟨σ2, e1, hf⟩ := xbd hf
      obtain ⟨hm9, hA⟩ := xpI_reg hA hr0 e1
      have hm := hm.tr hm9
      have hf := xsj hf
      subst hf
      exact ⟨hm, hA⟩
    · have hf := xin q hf
      obtain ⟨z2, e1, hf⟩ := xbd hf
      have hz2 := xgR_reg rfl hA hr0 e1
      obtain ⟨z4, e3, hf⟩ := xbd hf
      obtain ⟨v6, e5, hf⟩ := xbd hf
      obtain ⟨σ8, e7, hf⟩ := xbd hf
      obtain ⟨hm9, hA⟩ := xsI_reg hA hz2 e7
      have hm := hm.tr hm9
      have hf := xsj hf
      subst hf
      exact ⟨fun a' e => (by have h9 := Sum.inl.inj e; subst h9; exact ⟨hm, hA⟩), fun b e => xnc1 e⟩
  cases y with
  | inl a' =>
    obtain ⟨hm, hA1⟩ := hy.1 a' rfl
    have h1 := hc a' rfl hA1
    exact ⟨hm.tr (h1).1, (h1).2⟩
  | inr b =>
    have h1 := he b rfl
    subst h1
    exact hy.2 _ rfl
theorem n_X12_undo {A : Nat → Prop} {σ : XS} {r0 : Nat} {x : Int32 × XS} (hA : Reg A σ) (hr0 : A r0) (hf : f_X12_undo σ r0 = some x) : Sm A σ x.2 ∧ Reg A x.2 := by
  have hm := Sm.rf (A := A) (σ := σ)
  obtain ⟨v2, e1, hf⟩ := xbd hf
  by_cases q : v2 = 0
  · have hf := xip q hf
    have hf := xsj hf
    subst hf
    exact ⟨hm, hA⟩
  · have hf := xin q hf
    obtain ⟨v4, e3, hf⟩ := xbd hf
    obtain ⟨σ6, e5, hf⟩ := xbd hf
    obtain ⟨hm9, hA⟩ := xpI_reg hA hr0 e5
    have hm := hm.tr hm9
    obtain ⟨v8, e7, hf⟩ := xbd hf
    obtain ⟨v10, e9, hf⟩ := xbd hf
    exact ⟨hm.tr (n_X12_undo_l37 (a := ((0 : Int32), σ6)) hA hr0 hf).1, (n_X12_undo_l37 (a := ((0 : Int32), σ6)) hA hr0 hf).2⟩
theorem n_X12_value_j90 {A : Nat → Prop} {σ : XS} {r0 : Nat} {x1 : Int32} {w2 : Int64} {w4 : Int64} {x6 : Int32} {x7 : Int32} {x : ((Int64 × Int64 × Int32 × Int32) ⊕ (Int32 × XS))} (hA : Reg A σ) (hf : f_X12_value_j90 σ r0 x1 w2 w4 x6 x7 = some x) : (∀ a' : Int64 × Int64 × Int32 × Int32, x = .inl a' → True) ∧ (∀ b1 : Int32 × XS, x = .inr b1 → Sm A σ b1.2 ∧ Reg A b1.2) := by
  have hm := Sm.rf (A := A) (σ := σ)
  have hf := xsj hf
  subst hf
  exact ⟨fun a' e => (by have h9 := Sum.inl.inj e; subst h9; exact trivial), fun b e => xnc1 e⟩
theorem n_X12_value_l44 {A : Nat → Prop} {σ : XS} {r0 : Nat} {x1 : Int32} {a : Int64 × Int64 × Int32 × Int32} {x : Int32 × XS} (hA : Reg A σ) (hf : xloop (f_X12_value_b44 σ r0 x1) a = some x) : Sm A σ x.2 ∧ Reg A x.2 := by
  revert hA
  refine xloop_ind (P := fun a => Reg A σ → Sm A σ x.2 ∧ Reg A x.2) (fun a y hf hc he => ?_) hf
  obtain ⟨w2, w4, x6, x7⟩ := a
  intro hA
  have hA0 : Reg A σ := hA
  have hy : (∀ a' : Int64 × Int64 × Int32 × Int32, y = .inl a' → True) ∧ (∀ b1 : Int32 × XS, y = .inr b1 → Sm A σ b1.2 ∧ Reg A b1.2) := by
    have hm := Sm.rf (A := A) (σ := σ)
    obtain ⟨v2, e1, hf⟩ := xbd hf
    by_cases q : v2 ≤ x6
    · have hf := xip q hf
      obtain ⟨b0, hg, e9⟩ := xmj hf
      subst e9
      have hf := hg
      refine ⟨fun a' e => xnc2 e, fun b e => ?_⟩
      have h9 := Sum.inr.inj e
      subst h9
      have hf := xsj hf
      subst hf
      exact ⟨hm, hA⟩
    · have hf := xin q hf
      obtain ⟨z4, e3, hf⟩ := xbd hf
      obtain ⟨v6, e5, hf⟩ := xbd hf
      by_cases q : x7 = v6
      · have hf := xip q hf
        obtain ⟨z8, e7, hf⟩ := xbd hf
        obtain ⟨v10, e9, hf⟩ := xbd hf
        exact ⟨fun _ _ => trivial, fun b1 eb1 => ⟨hm.tr ((n_X12_value_j90 hA hf).2 b1 eb1).1, ((n_X12_value_j90 hA hf).2 b1 eb1).2⟩⟩
      · have hf := xin q hf
        exact ⟨fun _ _ => trivial, fun b1 eb1 => ⟨hm.tr ((n_X12_value_j90 hA hf).2 b1 eb1).1, ((n_X12_value_j90 hA hf).2 b1 eb1).2⟩⟩
  cases y with
  | inl a' =>
    exact hc a' rfl hA0
  | inr b =>
    have h1 := he b rfl
    subst h1
    exact hy.2 _ rfl
theorem n_X12_value {A : Nat → Prop} {σ : XS} {r0 : Nat} {x1 : Int32} {x : Int32 × XS} (hA : Reg A σ) (hr0 : A r0) (hf : f_X12_value σ r0 x1 = some x) : Sm A σ x.2 ∧ Reg A x.2 := by
  have hm := Sm.rf (A := A) (σ := σ)
  obtain ⟨v2, e1, hf⟩ := xbd hf
  by_cases q : v2 = 0
  · have hf := xip q hf
    have hf := xsj hf
    subst hf
    exact ⟨hm, hA⟩
  · have hf := xin q hf
    obtain ⟨_, e3, hf⟩ := xbd hf
    obtain ⟨σ5, e4, hf⟩ := xbd hf
    obtain ⟨hm9, hA⟩ := n_X12_knows hA hr0 e4
    have hm := hm.tr hm9
    obtain ⟨v7, e6, hf⟩ := xbd hf
    by_cases q : v7 = 0
    · have hf := xip q hf
      exact ⟨hm.tr (n_X12_value_l44 (a := ((0 : Int64), (1 : Int64), (0 : Int32), (0 : Int32))) hA hf).1, (n_X12_value_l44 (a := ((0 : Int64), (1 : Int64), (0 : Int32), (0 : Int32))) hA hf).2⟩
    · have hf := xin q hf
      obtain ⟨z9, e8, hf⟩ := xbd hf
      obtain ⟨v11, e10, hf⟩ := xbd hf
      exact ⟨hm.tr (n_X12_value_l44 (a := ((0 : Int64), (1 : Int64), (0 : Int32), v11)) hA hf).1, (n_X12_value_l44 (a := ((0 : Int64), (1 : Int64), (0 : Int32), v11)) hA hf).2⟩
theorem n_X12_wander_l79 {A : Nat → Prop} {σ : XS} {r0 : Nat} {x1 : Int32} {x2 : Int32} {x3 : Int32} {a : Int64 × Int32 × Int32 × Int32 × Int32} {x : Int32 × XS} (hA : Reg A σ) (hf : xloop (f_X12_wander_b79 σ r0 x1 x2 x3) a = some x) : Sm A σ x.2 ∧ Reg A x.2 := by
  revert hA
  refine xloop_ind (P := fun a => Reg A σ → Sm A σ x.2 ∧ Reg A x.2) (fun a y hf hc he => ?_) hf
  obtain ⟨w4, x6, x7, x8, x9⟩ := a
  intro hA
  have hA0 : Reg A σ := hA
  have hy : (∀ a' : Int64 × Int32 × Int32 × Int32 × Int32, y = .inl a' → True) ∧ (∀ b1 : Int32 × XS, y = .inr b1 → Sm A σ b1.2 ∧ Reg A b1.2) := by
    have hm := Sm.rf (A := A) (σ := σ)
    by_cases q : x1 ≤ x9
    · have hf := xip q hf
      obtain ⟨b0, hg, e9⟩ := xmj hf
      subst e9
      have hf := hg
      refine ⟨fun a' e => xnc2 e, fun b e => ?_⟩
      have h9 := Sum.inr.inj e
      subst h9
      by_cases q : x3 = 0
      · have hf := xip q hf
        have hf := xsj hf
        subst hf
        exact ⟨hm, hA⟩
      · have hf := xin q hf
        by_cases q : x3 = (1 : Int32)
        · have hf := xip q hf
          have hf := xsj hf
          subst hf
          exact ⟨hm, hA⟩
        · have hf := xin q hf
          have hf := xsj hf
          subst hf
          exact ⟨hm, hA⟩
    · have hf := xin q hf
      obtain ⟨v2, e1, hf⟩ := xbd hf
      obtain ⟨_, e3, hf⟩ := xbd hf
      obtain ⟨v5, e4, hf⟩ := xbd hf
      obtain ⟨_, e6, hf⟩ := xbd hf
      obtain ⟨v8, e7, hf⟩ := xbd hf
      obtain ⟨z10, e9, hf⟩ := xbd hf
      obtain ⟨v12, e11, hf⟩ := xbd hf
      by_cases q : 0 < v12
      · have hf := xip q hf
        have hf := xsj hf
        subst hf
        exact ⟨fun a' e => (by have h9 := Sum.inl.inj e; subst h9; exact trivial), fun b e => xnc1 e⟩
      · have hf := xin q hf
        obtain ⟨_, e13, hf⟩ := xbd hf
        obtain ⟨v15, e14, hf⟩ := xbd hf
        by_cases q : (((v8 / (65536 : Int64)) - (v8 / (65536 : Int64)) / (100 : Int64) * (100 : Int64)).toInt32) < ((100 : Int32) - (x2 * v15))
        · have hf := xip q hf
          obtain ⟨z17, e16, hf⟩ := xbd hf
          obtain ⟨v19, e18, hf⟩ := xbd hf
          by_cases q : x7 ≤ v19
          · have hf := xip q hf
            have hf := xsj hf
            subst hf
            exact ⟨fun a' e => (by have h9 := Sum.inl.inj e; subst h9; exact trivial), fun b e => xnc1 e⟩
          · have hf := xin q hf
            obtain ⟨z21, e20, hf⟩ := xbd hf
            obtain ⟨v23, e22, hf⟩ := xbd hf
            have hf := xsj hf
            subst hf
            exact ⟨fun a' e => (by have h9 := Sum.inl.inj e; subst h9; exact trivial), fun b e => xnc1 e⟩
        · have hf := xin q hf
          have hf := xsj hf
          subst hf
          exact ⟨fun a' e => (by have h9 := Sum.inl.inj e; subst h9; exact trivial), fun b e => xnc1 e⟩
  cases y with
  | inl a' =>
    exact hc a' rfl hA0
  | inr b =>
    have h1 := he b rfl
    subst h1
    exact hy.2 _ rfl
theorem n_X12_wander {A : Nat → Prop} {σ : XS} {r0 : Nat} {x1 : Int32} {x2 : Int32} {x3 : Int32} {x : Int32 × XS} (hA : Reg A σ) (hr0 : A r0) (hf : f_X12_wander σ r0 x1 x2 x3 = some x) : Sm A σ x.2 ∧ Reg A x.2 := by
  have hm := Sm.rf (A := A) (σ := σ)
  obtain ⟨_, e1, hf⟩ := xbd hf
  obtain ⟨v3, e2, hf⟩ := xbd hf
  by_cases q : v3 = 0
  · have hf := xip q hf
    have hf := xsj hf
    subst hf
    exact ⟨hm, hA⟩
  · have hf := xin q hf
    obtain ⟨v5, e4, hf⟩ := xbd hf
    by_cases q : v5 = 0
    · have hf := xip q hf
      have hf := xsj hf
      subst hf
      exact ⟨hm, hA⟩
    · have hf := xin q hf
      obtain ⟨v7, e6, hf⟩ := xbd hf
      by_cases q : v7 = 0
      · have hf := xip q hf
        have hf := xsj hf
        subst hf
        exact ⟨hm, hA⟩
      · have hf := xin q hf
        obtain ⟨v9, e8, hf⟩ := xbd hf
        by_cases q : v9 = 0
        · have hf := xip q hf
          have hf := xsj hf
          subst hf
          exact ⟨hm, hA⟩
        · have hf := xin q hf
          obtain ⟨_, e10, hf⟩ := xbd hf
          obtain ⟨σ12, e11, hf⟩ := xbd hf
          obtain ⟨hm9, hA⟩ := n_X12_knows hA hr0 e11
          have hm := hm.tr hm9
          obtain ⟨z14, e13, hf⟩ := xbd hf
          obtain ⟨v16, e15, hf⟩ := xbd hf
          obtain ⟨z18, e17, hf⟩ := xbd hf
          obtain ⟨v20, e19, hf⟩ := xbd hf
          obtain ⟨z22, e21, hf⟩ := xbd hf
          obtain ⟨v24, e23, hf⟩ := xbd hf
          exact ⟨hm.tr (n_X12_wander_l79 (a := (v16.toInt64, v20, v24, (0 : Int32), (0 : Int32))) hA hf).1, (n_X12_wander_l79 (a := (v16.toInt64, v20, v24, (0 : Int32), (0 : Int32))) hA hf).2⟩
theorem n_L_law_j355 {A : Nat → Prop} {L : Nat} {xs : Nat → Int32} {σ : XS} {r1 : Nat} {r2 : Nat} {x3 : Int32} {t0 : Nat} {t1 : Int32} {t2 : Int32} {x : ((Int32 × XS) ⊕ (Int32 × XS))} (hA : RegN A σ) (ht0 : A t0) (hf : f_L_law_j355 L xs σ r1 r2 x3 t0 t1 t2 = some x) : (∀ a' : Int32 × XS, x = .inl a' → Sm A σ a'.2 ∧ RegN A a'.2) ∧ (∀ b1 : Int32 × XS, x = .inr b1 → Sm A σ b1.2 ∧ RegN A b1.2) := by
  have hm := Sm.rf (A := A) (σ := σ)
  obtain ⟨v2, e1, hf⟩ := xbd hf
  obtain ⟨_, e3, hf⟩ := xbd hf
  obtain ⟨⟨v6, σ5⟩, e4, hf⟩ := xbd hf
  dsimp only at hf
  obtain ⟨hm9, hB⟩ := n_X12_tie hA.1 ht0 e4
  have hA := RegN.step hA hB (m_X12_tie e4).ext
  have hm := hm.tr hm9
  have hf := xsj hf
  subst hf
  exact ⟨fun a' e => (by have h9 := Sum.inl.inj e; subst h9; exact ⟨hm, hA⟩), fun b e => xnc1 e⟩
theorem n_L_law_j327 {A : Nat → Prop} {L : Nat} {xs : Nat → Int32} {σ : XS} {r1 : Nat} {r2 : Nat} {x3 : Int32} {t0 : Nat} {t1 : Int32} {t2 : Int32} {x : ((Int32 × XS) ⊕ (Int32 × XS))} (hA : RegN A σ) (hr2 : A r2) (ht0 : A t0) (hf : f_L_law_j327 L xs σ r1 r2 x3 t0 t1 t2 = some x) : (∀ a' : Int32 × XS, x = .inl a' → Sm A σ a'.2 ∧ RegN A a'.2) ∧ (∀ b1 : Int32 × XS, x = .inr b1 → Sm A σ b1.2 ∧ RegN A b1.2) := by
  have hm := Sm.rf (A := A) (σ := σ)
  obtain ⟨v2, e1, hf⟩ := xbd hf
  obtain ⟨_, e3, hf⟩ := xbd hf
  obtain ⟨⟨v6, σ5⟩, e4, hf⟩ := xbd hf
  dsimp only at hf
  obtain ⟨hm9, hB⟩ := n_X11_tie hA.1 ht0 e4
  have hA := RegN.step hA hB (m_X11_tie e4).ext
  have hm := hm.tr hm9
  obtain ⟨v8, e7, hf⟩ := xbd hf
  obtain ⟨v10, e9, hf⟩ := xbd hf
  by_cases q : v10 = 0
  · have hf := xip q hf
    exact ⟨fun a' e => ⟨hm.tr ((n_L_law_j355 hA hr2 hf).1 a' e).1, ((n_L_law_j355 hA hr2 hf).1 a' e).2⟩, fun b1 eb1 => ⟨hm.tr ((n_L_law_j355 hA hr2 hf).2 b1 eb1).1, ((n_L_law_j355 hA hr2 hf).2 b1 eb1).2⟩⟩
  · have hf := xin q hf
    exact ⟨fun a' e => ⟨hm.tr ((n_L_law_j355 hA hr2 hf).1 a' e).1, ((n_L_law_j355 hA hr2 hf).1 a' e).2⟩, fun b1 eb1 => ⟨hm.tr ((n_L_law_j355 hA hr2 hf).2 b1 eb1).1, ((n_L_law_j355 hA hr2 hf).2 b1 eb1).2⟩⟩
theorem n_L_law_j552 {A : Nat → Prop} {L : Nat} {xs : Nat → Int32} {σ : XS} {r1 : Nat} {r2 : Nat} {x3 : Int32} {t0 : Int32} {x : ((Int32 × XS) ⊕ (Int32 × XS))} (hA : RegN A σ) (hr2 : A r2) (hf : f_L_law_j552 L xs σ r1 r2 x3 t0 = some x) : (∀ a' : Int32 × XS, x = .inl a' → Sm A σ a'.2 ∧ RegN A a'.2) ∧ (∀ b1 : Int32 × XS, x = .inr b1 → Sm A σ b1.2 ∧ RegN A b1.2) := by
  have hm := Sm.rf (A := A) (σ := σ)
  obtain ⟨v2, e1, hf⟩ := xbd hf
  obtain ⟨v4, e3, hf⟩ := xbd hf
  obtain ⟨_, e5, hf⟩ := xbd hf
  obtain ⟨⟨v8, σ7⟩, e6, hf⟩ := xbd hf
  dsimp only at hf
  obtain ⟨hm9, hB⟩ := n_X12_level hA.1 hr2 e6
  have hA := RegN.step hA hB (m_X12_level e6).ext
  have hm := hm.tr hm9
  have hf := xsj hf
  subst hf
  exact ⟨fun a' e => (by have h9 := Sum.inl.inj e; subst h9; exact ⟨hm, hA⟩), fun b e => xnc1 e⟩
theorem n_L_law_j585 {A : Nat → Prop} {L : Nat} {xs : Nat → Int32} {σ : XS} {r1 : Nat} {r2 : Nat} {x3 : Int32} {t0 : Int32} {x : ((Int32 × XS) ⊕ (Int32 × XS))} (hA : RegN A σ) (hr2 : A r2) (hf : f_L_law_j585 L xs σ r1 r2 x3 t0 = some x) : (∀ a' : Int32 × XS, x = .inl a' → Sm A σ a'.2 ∧ RegN A a'.2) ∧ (∀ b1 : Int32 × XS, x = .inr b1 → Sm A σ b1.2 ∧ RegN A b1.2) := by
  have hm := Sm.rf (A := A) (σ := σ)
  obtain ⟨v2, e1, hf⟩ := xbd hf
  obtain ⟨v4, e3, hf⟩ := xbd hf
  obtain ⟨_, e5, hf⟩ := xbd hf
  obtain ⟨⟨v8, σ7⟩, e6, hf⟩ := xbd hf
  dsimp only at hf
  obtain ⟨hm9, hB⟩ := n_X12_both hA.1 hr2 e6
  have hA := RegN.step hA hB (m_X12_both e6).ext
  have hm := hm.tr hm9
  have hf := xsj hf
  subst hf
  exact ⟨fun a' e => (by have h9 := Sum.inl.inj e; subst h9; exact ⟨hm, hA⟩), fun b e => xnc1 e⟩
theorem n_L_law_j613 {A : Nat → Prop} {L : Nat} {xs : Nat → Int32} {σ : XS} {r1 : Nat} {r2 : Nat} {x3 : Int32} {t0 : Int32} {x : ((Int32 × XS) ⊕ (Int32 × XS))} (hA : RegN A σ) (hr2 : A r2) (hf : f_L_law_j613 L xs σ r1 r2 x3 t0 = some x) : (∀ a' : Int32 × XS, x = .inl a' → Sm A σ a'.2 ∧ RegN A a'.2) ∧ (∀ b1 : Int32 × XS, x = .inr b1 → Sm A σ b1.2 ∧ RegN A b1.2) := by
  have hm := Sm.rf (A := A) (σ := σ)
  obtain ⟨v2, e1, hf⟩ := xbd hf
  obtain ⟨_, e3, hf⟩ := xbd hf
  obtain ⟨⟨v6, σ5⟩, e4, hf⟩ := xbd hf
  dsimp only at hf
  obtain ⟨hm9, hB⟩ := n_X12_broken hA.1 hr2 e4
  have hA := RegN.step hA hB (m_X12_broken e4).ext
  have hm := hm.tr hm9
  have hf := xsj hf
  subst hf
  exact ⟨fun a' e => (by have h9 := Sum.inl.inj e; subst h9; exact ⟨hm, hA⟩), fun b e => xnc1 e⟩
theorem n_L_law_j636 {A : Nat → Prop} {L : Nat} {xs : Nat → Int32} {σ : XS} {r1 : Nat} {r2 : Nat} {x3 : Int32} {t0 : Int32} {x : ((Int32 × XS) ⊕ (Int32 × XS))} (hA : RegN A σ) (hr2 : A r2) (hf : f_L_law_j636 L xs σ r1 r2 x3 t0 = some x) : (∀ a' : Int32 × XS, x = .inl a' → Sm A σ a'.2 ∧ RegN A a'.2) ∧ (∀ b1 : Int32 × XS, x = .inr b1 → Sm A σ b1.2 ∧ RegN A b1.2) := by
  have hm := Sm.rf (A := A) (σ := σ)
  obtain ⟨v2, e1, hf⟩ := xbd hf
  obtain ⟨_, e3, hf⟩ := xbd hf
  obtain ⟨⟨v6, σ5⟩, e4, hf⟩ := xbd hf
  dsimp only at hf
  obtain ⟨hm9, hB⟩ := n_X12_ground hA.1 hr2 e4
  have hA := RegN.step hA hB (m_X12_ground e4).ext
  have hm := hm.tr hm9
  have hf := xsj hf
  subst hf
  exact ⟨fun a' e => (by have h9 := Sum.inl.inj e; subst h9; exact ⟨hm, hA⟩), fun b e => xnc1 e⟩
theorem n_L_law_j674 {A : Nat → Prop} {L : Nat} {xs : Nat → Int32} {σ : XS} {r1 : Nat} {r2 : Nat} {x3 : Int32} {t0 : Int32} {x : ((Int32 × XS) ⊕ (Int32 × XS))} (hA : RegN A σ) (hr2 : A r2) (hf : f_L_law_j674 L xs σ r1 r2 x3 t0 = some x) : (∀ a' : Int32 × XS, x = .inl a' → Sm A σ a'.2 ∧ RegN A a'.2) ∧ (∀ b1 : Int32 × XS, x = .inr b1 → Sm A σ b1.2 ∧ RegN A b1.2) := by
  have hm := Sm.rf (A := A) (σ := σ)
  obtain ⟨v2, e1, hf⟩ := xbd hf
  obtain ⟨v4, e3, hf⟩ := xbd hf
  obtain ⟨v6, e5, hf⟩ := xbd hf
  obtain ⟨v8, e7, hf⟩ := xbd hf
  obtain ⟨_, e9, hf⟩ := xbd hf
  obtain ⟨⟨v12, σ11⟩, e10, hf⟩ := xbd hf
  dsimp only at hf
  obtain ⟨hm9, hB⟩ := n_X12_pair hA.1 hr2 e10
  have hA := RegN.step hA hB (m_X12_pair e10).ext
  have hm := hm.tr hm9
  have hf := xsj hf
  subst hf
  exact ⟨fun a' e => (by have h9 := Sum.inl.inj e; subst h9; exact ⟨hm, hA⟩), fun b e => xnc1 e⟩
theorem n_L_law_j717 {A : Nat → Prop} {L : Nat} {xs : Nat → Int32} {σ : XS} {r1 : Nat} {r2 : Nat} {x3 : Int32} {t0 : Int32} {x : ((Int32 × XS) ⊕ (Int32 × XS))} (hA : RegN A σ) (hr2 : A r2) (hf : f_L_law_j717 L xs σ r1 r2 x3 t0 = some x) : (∀ a' : Int32 × XS, x = .inl a' → Sm A σ a'.2 ∧ RegN A a'.2) ∧ (∀ b1 : Int32 × XS, x = .inr b1 → Sm A σ b1.2 ∧ RegN A b1.2) := by
  have hm := Sm.rf (A := A) (σ := σ)
  obtain ⟨v2, e1, hf⟩ := xbd hf
  obtain ⟨v4, e3, hf⟩ := xbd hf
  obtain ⟨_, e5, hf⟩ := xbd hf
  obtain ⟨⟨v8, σ7⟩, e6, hf⟩ := xbd hf
  dsimp only at hf
  obtain ⟨hm9, hB⟩ := n_X12_mean hA.1 hr2 e6
  have hA := RegN.step hA hB (m_X12_mean e6).ext
  have hm := hm.tr hm9
  have hf := xsj hf
  subst hf
  exact ⟨fun a' e => (by have h9 := Sum.inl.inj e; subst h9; exact ⟨hm, hA⟩), fun b e => xnc1 e⟩
theorem n_L_law_j745 {A : Nat → Prop} {L : Nat} {xs : Nat → Int32} {σ : XS} {r1 : Nat} {r2 : Nat} {x3 : Int32} {t0 : Int32} {x : ((Int32 × XS) ⊕ (Int32 × XS))} (hA : RegN A σ) (hr2 : A r2) (hf : f_L_law_j745 L xs σ r1 r2 x3 t0 = some x) : (∀ a' : Int32 × XS, x = .inl a' → Sm A σ a'.2 ∧ RegN A a'.2) ∧ (∀ b1 : Int32 × XS, x = .inr b1 → Sm A σ b1.2 ∧ RegN A b1.2) := by
  have hm := Sm.rf (A := A) (σ := σ)
  obtain ⟨v2, e1, hf⟩ := xbd hf
  obtain ⟨_, e3, hf⟩ := xbd hf
  obtain ⟨⟨v6, σ5⟩, e4, hf⟩ := xbd hf
  dsimp only at hf
  obtain ⟨hm9, hB⟩ := n_X12_value hA.1 hr2 e4
  have hA := RegN.step hA hB (m_X12_value e4).ext
  have hm := hm.tr hm9
  have hf := xsj hf
  subst hf
  exact ⟨fun a' e => (by have h9 := Sum.inl.inj e; subst h9; exact ⟨hm, hA⟩), fun b e => xnc1 e⟩
theorem n_L_law_j778 {A : Nat → Prop} {L : Nat} {xs : Nat → Int32} {σ : XS} {r1 : Nat} {r2 : Nat} {x3 : Int32} {t0 : Int64} {x : ((Int32 × XS) ⊕ (Int32 × XS))} (hA : RegN A σ) (hr2 : A r2) (hf : f_L_law_j778 L xs σ r1 r2 x3 t0 = some x) : (∀ a' : Int32 × XS, x = .inl a' → Sm A σ a'.2 ∧ RegN A a'.2) ∧ (∀ b1 : Int32 × XS, x = .inr b1 → Sm A σ b1.2 ∧ RegN A b1.2) := by
  have hm := Sm.rf (A := A) (σ := σ)
  obtain ⟨v2, e1, hf⟩ := xbd hf
  obtain ⟨v4, e3, hf⟩ := xbd hf
  obtain ⟨v6, e5, hf⟩ := xbd hf
  obtain ⟨_, e7, hf⟩ := xbd hf
  obtain ⟨⟨v10, σ9⟩, e8, hf⟩ := xbd hf
  dsimp only at hf
  obtain ⟨hm9, hB⟩ := n_X12_joined hA.1 hr2 e8
  have hA := RegN.step hA hB (m_X12_joined e8).ext
  have hm := hm.tr hm9
  have hf := xsj hf
  subst hf
  exact ⟨fun a' e => (by have h9 := Sum.inl.inj e; subst h9; exact ⟨hm, hA⟩), fun b e => xnc1 e⟩
theorem n_L_law_j816 {A : Nat → Prop} {L : Nat} {xs : Nat → Int32} {σ : XS} {r1 : Nat} {r2 : Nat} {x3 : Int32} {t0 : Int32} {x : ((Int32 × XS) ⊕ (Int32 × XS))} (hA : RegN A σ) (hr2 : A r2) (hf : f_L_law_j816 L xs σ r1 r2 x3 t0 = some x) : (∀ a' : Int32 × XS, x = .inl a' → Sm A σ a'.2 ∧ RegN A a'.2) ∧ (∀ b1 : Int32 × XS, x = .inr b1 → Sm A σ b1.2 ∧ RegN A b1.2) := by
  have hm := Sm.rf (A := A) (σ := σ)
  obtain ⟨v2, e1, hf⟩ := xbd hf
  obtain ⟨v4, e3, hf⟩ := xbd hf
  obtain ⟨_, e5, hf⟩ := xbd hf
  obtain ⟨⟨v8, σ7⟩, e6, hf⟩ := xbd hf
  dsimp only at hf
  obtain ⟨hm9, hB⟩ := n_X12_state hA.1 hr2 e6
  have hA := RegN.step hA hB (m_X12_state e6).ext
  have hm := hm.tr hm9
  have hf := xsj hf
  subst hf
  exact ⟨fun a' e => (by have h9 := Sum.inl.inj e; subst h9; exact ⟨hm, hA⟩), fun b e => xnc1 e⟩
theorem n_L_law_j867 {A : Nat → Prop} {L : Nat} {xs : Nat → Int32} {σ : XS} {r1 : Nat} {r2 : Nat} {x3 : Int32} {t0 : Nat} {t1 : Int32} {x : ((Int32 × XS) ⊕ (Int32 × XS))} (hA : RegN A σ) (ht0 : A t0) (hf : f_L_law_j867 L xs σ r1 r2 x3 t0 t1 = some x) : (∀ a' : Int32 × XS, x = .inl a' → Sm A σ a'.2 ∧ RegN A a'.2) ∧ (∀ b1 : Int32 × XS, x = .inr b1 → Sm A σ b1.2 ∧ RegN A b1.2) := by
  have hm := Sm.rf (A := A) (σ := σ)
  obtain ⟨_, e1, hf⟩ := xbd hf
  obtain ⟨⟨v4, σ3⟩, e2, hf⟩ := xbd hf
  dsimp only at hf
  obtain ⟨hm9, hB⟩ := n_X12_stuck hA.1 ht0 e2
  have hA := RegN.step hA hB (m_X12_stuck e2).ext
  have hm := hm.tr hm9
  have hf := xsj hf
  subst hf
  exact ⟨fun a' e => (by have h9 := Sum.inl.inj e; subst h9; exact ⟨hm, hA⟩), fun b e => xnc1 e⟩
theorem n_L_law_j852 {A : Nat → Prop} {L : Nat} {xs : Nat → Int32} {σ : XS} {r1 : Nat} {r2 : Nat} {x3 : Int32} {t0 : Int32} {x : ((Int32 × XS) ⊕ (Int32 × XS))} (hA : RegN A σ) (hr2 : A r2) (hf : f_L_law_j852 L xs σ r1 r2 x3 t0 = some x) : (∀ a' : Int32 × XS, x = .inl a' → Sm A σ a'.2 ∧ RegN A a'.2) ∧ (∀ b1 : Int32 × XS, x = .inr b1 → Sm A σ b1.2 ∧ RegN A b1.2) := by
  have hm := Sm.rf (A := A) (σ := σ)
  obtain ⟨v2, e1, hf⟩ := xbd hf
  by_cases q : v2 = 0
  · have hf := xip q hf
    exact ⟨fun a' e => ⟨hm.tr ((n_L_law_j867 hA hr2 hf).1 a' e).1, ((n_L_law_j867 hA hr2 hf).1 a' e).2⟩, fun b1 eb1 => ⟨hm.tr ((n_L_law_j867 hA hr2 hf).2 b1 eb1).1, ((n_L_law_j867 hA hr2 hf).2 b1 eb1).2⟩⟩
  · have hf := xin q hf
    exact ⟨fun a' e => ⟨hm.tr ((n_L_law_j867 hA hr2 hf).1 a' e).1, ((n_L_law_j867 hA hr2 hf).1 a' e).2⟩, fun b1 eb1 => ⟨hm.tr ((n_L_law_j867 hA hr2 hf).2 b1 eb1).1, ((n_L_law_j867 hA hr2 hf).2 b1 eb1).2⟩⟩
theorem n_L_law_j849 {A : Nat → Prop} {L : Nat} {xs : Nat → Int32} {σ : XS} {r1 : Nat} {r2 : Nat} {x3 : Int32} {t0 : Nat} {t1 : Int32} {x : ((Int32 × XS) ⊕ (Int32 × XS))} (hA : RegN A σ) (hr2 : A r2) (ht0 : A t0) (hf : f_L_law_j849 L xs σ r1 r2 x3 t0 t1 = some x) : (∀ a' : Int32 × XS, x = .inl a' → Sm A σ a'.2 ∧ RegN A a'.2) ∧ (∀ b1 : Int32 × XS, x = .inr b1 → Sm A σ b1.2 ∧ RegN A b1.2) := by
  have hm := Sm.rf (A := A) (σ := σ)
  obtain ⟨_, e1, hf⟩ := xbd hf
  obtain ⟨⟨v4, σ3⟩, e2, hf⟩ := xbd hf
  dsimp only at hf
  obtain ⟨hm9, hA⟩ := n_X11_stuck hA ht0 e2
  have hm := hm.tr hm9
  exact ⟨fun a' e => ⟨hm.tr ((n_L_law_j852 hA hr2 hf).1 a' e).1, ((n_L_law_j852 hA hr2 hf).1 a' e).2⟩, fun b1 eb1 => ⟨hm.tr ((n_L_law_j852 hA hr2 hf).2 b1 eb1).1, ((n_L_law_j852 hA hr2 hf).2 b1 eb1).2⟩⟩
theorem n_L_law_j893 {A : Nat → Prop} {L : Nat} {xs : Nat → Int32} {σ : XS} {r1 : Nat} {r2 : Nat} {x3 : Int32} {t0 : Int32} {x : ((Int32 × XS) ⊕ (Int32 × XS))} (hA : RegN A σ) (hf : f_L_law_j893 L xs σ r1 r2 x3 t0 = some x) : (∀ a' : Int32 × XS, x = .inl a' → Sm A σ a'.2 ∧ RegN A a'.2) ∧ (∀ b1 : Int32 × XS, x = .inr b1 → Sm A σ b1.2 ∧ RegN A b1.2) := by
  have hm := Sm.rf (A := A) (σ := σ)
  obtain ⟨v2, e1, hf⟩ := xbd hf
  obtain ⟨v4, e3, hf⟩ := xbd hf
  obtain ⟨v6, e5, hf⟩ := xbd hf
  obtain ⟨_, e7, hf⟩ := xbd hf
  obtain ⟨v9, e8, hf⟩ := xbd hf
  have hf := xsj hf
  subst hf
  exact ⟨fun a' e => (by have h9 := Sum.inl.inj e; subst h9; exact ⟨hm, hA⟩), fun b e => xnc1 e⟩
theorem n_L_law_j949 {A : Nat → Prop} {L : Nat} {xs : Nat → Int32} {σ : XS} {r1 : Nat} {r2 : Nat} {x3 : Int32} {t0 : Int32} {x : ((Int32 × XS) ⊕ (Int32 × XS))} (hA : RegN A σ) (hr2 : A r2) (hf : f_L_law_j949 L xs σ r1 r2 x3 t0 = some x) : (∀ a' : Int32 × XS, x = .inl a' → Sm A σ a'.2 ∧ RegN A a'.2) ∧ (∀ b1 : Int32 × XS, x = .inr b1 → Sm A σ b1.2 ∧ RegN A b1.2) := by
  have hm := Sm.rf (A := A) (σ := σ)
  obtain ⟨v2, e1, hf⟩ := xbd hf
  obtain ⟨_, e3, hf⟩ := xbd hf
  obtain ⟨⟨v6, σ5⟩, e4, hf⟩ := xbd hf
  dsimp only at hf
  obtain ⟨hm9, hB⟩ := n_X12_overlap hA.1 hr2 e4
  have hA := RegN.step hA hB (m_X12_overlap e4).ext
  have hm := hm.tr hm9
  have hf := xsj hf
  subst hf
  exact ⟨fun a' e => (by have h9 := Sum.inl.inj e; subst h9; exact ⟨hm, hA⟩), fun b e => xnc1 e⟩
theorem n_L_law_j972 {A : Nat → Prop} {L : Nat} {xs : Nat → Int32} {σ : XS} {r1 : Nat} {r2 : Nat} {x3 : Int32} {t0 : Int32} {x : ((Int32 × XS) ⊕ (Int32 × XS))} (hA : RegN A σ) (hr2 : A r2) (hf : f_L_law_j972 L xs σ r1 r2 x3 t0 = some x) : (∀ a' : Int32 × XS, x = .inl a' → Sm A σ a'.2 ∧ RegN A a'.2) ∧ (∀ b1 : Int32 × XS, x = .inr b1 → Sm A σ b1.2 ∧ RegN A b1.2) := by
  have hm := Sm.rf (A := A) (σ := σ)
  obtain ⟨v2, e1, hf⟩ := xbd hf
  obtain ⟨_, e3, hf⟩ := xbd hf
  obtain ⟨⟨v6, σ5⟩, e4, hf⟩ := xbd hf
  dsimp only at hf
  obtain ⟨hm9, hB⟩ := n_X12_basin hA.1 hr2 e4
  have hA := RegN.step hA hB (m_X12_basin e4).ext
  have hm := hm.tr hm9
  have hf := xsj hf
  subst hf
  exact ⟨fun a' e => (by have h9 := Sum.inl.inj e; subst h9; exact ⟨hm, hA⟩), fun b e => xnc1 e⟩
theorem n_L_law_j1000 {A : Nat → Prop} {L : Nat} {xs : Nat → Int32} {σ : XS} {r1 : Nat} {r2 : Nat} {x3 : Int32} {t0 : Int32} {x : ((Int32 × XS) ⊕ (Int32 × XS))} (hA : RegN A σ) (hr2 : A r2) (hf : f_L_law_j1000 L xs σ r1 r2 x3 t0 = some x) : (∀ a' : Int32 × XS, x = .inl a' → Sm A σ a'.2 ∧ RegN A a'.2) ∧ (∀ b1 : Int32 × XS, x = .inr b1 → Sm A σ b1.2 ∧ RegN A b1.2) := by
  have hm := Sm.rf (A := A) (σ := σ)
  obtain ⟨v2, e1, hf⟩ := xbd hf
  obtain ⟨v4, e3, hf⟩ := xbd hf
  obtain ⟨_, e5, hf⟩ := xbd hf
  obtain ⟨⟨v8, σ7⟩, e6, hf⟩ := xbd hf
  dsimp only at hf
  obtain ⟨hm9, hB⟩ := n_X12_stiff hA.1 hr2 e6
  have hA := RegN.step hA hB (m_X12_stiff e6).ext
  have hm := hm.tr hm9
  have hf := xsj hf
  subst hf
  exact ⟨fun a' e => (by have h9 := Sum.inl.inj e; subst h9; exact ⟨hm, hA⟩), fun b e => xnc1 e⟩
theorem n_L_law_j1028 {A : Nat → Prop} {L : Nat} {xs : Nat → Int32} {σ : XS} {r1 : Nat} {r2 : Nat} {x3 : Int32} {t0 : Int32} {x : ((Int32 × XS) ⊕ (Int32 × XS))} (hA : RegN A σ) (hr2 : A r2) (hf : f_L_law_j1028 L xs σ r1 r2 x3 t0 = some x) : (∀ a' : Int32 × XS, x = .inl a' → Sm A σ a'.2 ∧ RegN A a'.2) ∧ (∀ b1 : Int32 × XS, x = .inr b1 → Sm A σ b1.2 ∧ RegN A b1.2) := by
  have hm := Sm.rf (A := A) (σ := σ)
  obtain ⟨v2, e1, hf⟩ := xbd hf
  obtain ⟨_, e3, hf⟩ := xbd hf
  obtain ⟨⟨v6, σ5⟩, e4, hf⟩ := xbd hf
  dsimp only at hf
  obtain ⟨hm9, hB⟩ := n_X12_hill hA.1 hr2 e4
  have hA := RegN.step hA hB (m_X12_hill e4).ext
  have hm := hm.tr hm9
  by_cases q : t0 = v6
  · have hf := xip q hf
    have hf := xsj hf
    subst hf
    exact ⟨fun a' e => (by have h9 := Sum.inl.inj e; subst h9; exact ⟨hm, hA⟩), fun b e => xnc1 e⟩
  · have hf := xin q hf
    obtain ⟨b0, hg, e9⟩ := xmj hf
    subst e9
    have hf := hg
    refine ⟨fun a' e => xnc2 e, fun b e => ?_⟩
    have h9 := Sum.inr.inj e
    subst h9
    have hf := xsj hf
    subst hf
    exact ⟨hm, hA⟩
theorem n_L_law_j1056 {A : Nat → Prop} {L : Nat} {xs : Nat → Int32} {σ : XS} {r1 : Nat} {r2 : Nat} {x3 : Int32} {t0 : Int32} {x : ((Int32 × XS) ⊕ (Int32 × XS))} (hA : RegN A σ) (hr2 : A r2) (hf : f_L_law_j1056 L xs σ r1 r2 x3 t0 = some x) : (∀ a' : Int32 × XS, x = .inl a' → Sm A σ a'.2 ∧ RegN A a'.2) ∧ (∀ b1 : Int32 × XS, x = .inr b1 → Sm A σ b1.2 ∧ RegN A b1.2) := by
  have hm := Sm.rf (A := A) (σ := σ)
  obtain ⟨v2, e1, hf⟩ := xbd hf
  obtain ⟨v4, e3, hf⟩ := xbd hf
  obtain ⟨_, e5, hf⟩ := xbd hf
  obtain ⟨⟨v8, σ7⟩, e6, hf⟩ := xbd hf
  dsimp only at hf
  obtain ⟨hm9, hB⟩ := n_X12_pass hA.1 hr2 e6
  have hA := RegN.step hA hB (m_X12_pass e6).ext
  have hm := hm.tr hm9
  have hf := xsj hf
  subst hf
  exact ⟨fun a' e => (by have h9 := Sum.inl.inj e; subst h9; exact ⟨hm, hA⟩), fun b e => xnc1 e⟩
theorem n_L_law_j1084 {A : Nat → Prop} {L : Nat} {xs : Nat → Int32} {σ : XS} {r1 : Nat} {r2 : Nat} {x3 : Int32} {t0 : Int32} {x : ((Int32 × XS) ⊕ (Int32 × XS))} (hA : RegN A σ) (hr2 : A r2) (hf : f_L_law_j1084 L xs σ r1 r2 x3 t0 = some x) : (∀ a' : Int32 × XS, x = .inl a' → Sm A σ a'.2 ∧ RegN A a'.2) ∧ (∀ b1 : Int32 × XS, x = .inr b1 → Sm A σ b1.2 ∧ RegN A b1.2) := by
  have hm := Sm.rf (A := A) (σ := σ)
  obtain ⟨v2, e1, hf⟩ := xbd hf
  obtain ⟨_, e3, hf⟩ := xbd hf
  obtain ⟨⟨v6, σ5⟩, e4, hf⟩ := xbd hf
  dsimp only at hf
  obtain ⟨hm9, hB⟩ := n_X12_lakes hA.1 hr2 e4
  have hA := RegN.step hA hB (m_X12_lakes e4).ext
  have hm := hm.tr hm9
  have hf := xsj hf
  subst hf
  exact ⟨fun a' e => (by have h9 := Sum.inl.inj e; subst h9; exact ⟨hm, hA⟩), fun b e => xnc1 e⟩
theorem n_L_law_j1107 {A : Nat → Prop} {L : Nat} {xs : Nat → Int32} {σ : XS} {r1 : Nat} {r2 : Nat} {x3 : Int32} {t0 : Int64} {x : ((Int32 × XS) ⊕ (Int32 × XS))} (hA : RegN A σ) (hr2 : A r2) (hf : f_L_law_j1107 L xs σ r1 r2 x3 t0 = some x) : (∀ a' : Int32 × XS, x = .inl a' → Sm A σ a'.2 ∧ RegN A a'.2) ∧ (∀ b1 : Int32 × XS, x = .inr b1 → Sm A σ b1.2 ∧ RegN A b1.2) := by
  have hm := Sm.rf (A := A) (σ := σ)
  obtain ⟨v2, e1, hf⟩ := xbd hf
  obtain ⟨_, e3, hf⟩ := xbd hf
  obtain ⟨⟨v6, σ5⟩, e4, hf⟩ := xbd hf
  dsimp only at hf
  obtain ⟨hm9, hB⟩ := n_X12_down hA.1 hr2 e4
  have hA := RegN.step hA hB (m_X12_down e4).ext
  have hm := hm.tr hm9
  have hf := xsj hf
  subst hf
  exact ⟨fun a' e => (by have h9 := Sum.inl.inj e; subst h9; exact ⟨hm, hA⟩), fun b e => xnc1 e⟩
theorem n_L_law_j1135 {A : Nat → Prop} {L : Nat} {xs : Nat → Int32} {σ : XS} {r1 : Nat} {r2 : Nat} {x3 : Int32} {t0 : Int32} {x : ((Int32 × XS) ⊕ (Int32 × XS))} (hA : RegN A σ) (hr2 : A r2) (hf : f_L_law_j1135 L xs σ r1 r2 x3 t0 = some x) : (∀ a' : Int32 × XS, x = .inl a' → Sm A σ a'.2 ∧ RegN A a'.2) ∧ (∀ b1 : Int32 × XS, x = .inr b1 → Sm A σ b1.2 ∧ RegN A b1.2) := by
  have hm := Sm.rf (A := A) (σ := σ)
  obtain ⟨v2, e1, hf⟩ := xbd hf
  obtain ⟨v4, e3, hf⟩ := xbd hf
  obtain ⟨_, e5, hf⟩ := xbd hf
  obtain ⟨⟨v8, σ7⟩, e6, hf⟩ := xbd hf
  dsimp only at hf
  obtain ⟨hm9, hB⟩ := n_X12_nearest hA.1 hr2 e6
  have hA := RegN.step hA hB (m_X12_nearest e6).ext
  have hm := hm.tr hm9
  have hf := xsj hf
  subst hf
  exact ⟨fun a' e => (by have h9 := Sum.inl.inj e; subst h9; exact ⟨hm, hA⟩), fun b e => xnc1 e⟩
theorem n_L_law_j1275 {A : Nat → Prop} {L : Nat} {xs : Nat → Int32} {σ : XS} {r1 : Nat} {r2 : Nat} {x3 : Int32} {t0 : Int32} {x : ((Int32 × XS) ⊕ (Int32 × XS))} (hA : RegN A σ) (hf : f_L_law_j1275 L xs σ r1 r2 x3 t0 = some x) : (∀ a' : Int32 × XS, x = .inl a' → Sm A σ a'.2 ∧ RegN A a'.2) ∧ (∀ b1 : Int32 × XS, x = .inr b1 → Sm A σ b1.2 ∧ RegN A b1.2) := by
  have hm := Sm.rf (A := A) (σ := σ)
  obtain ⟨v2, e1, hf⟩ := xbd hf
  obtain ⟨_, e3, hf⟩ := xbd hf
  obtain ⟨v5, e4, hf⟩ := xbd hf
  have hf := xsj hf
  subst hf
  exact ⟨fun a' e => (by have h9 := Sum.inl.inj e; subst h9; exact ⟨hm, hA⟩), fun b e => xnc1 e⟩
theorem n_L_law_l18 {A : Nat → Prop} {L : Nat} {xs : Nat → Int32} {r1 : Nat} {r2 : Nat} {a : Int32 × XS} {x : Int32 × XS} (hA : RegN A a.2) (hr1 : A r1) (hr2 : A r2) (hf : xloop (f_L_law_b18 L xs r1 r2) a = some x) : Sm A a.2 x.2 ∧ RegN A x.2 := by
  revert hA
  refine xloop_ind (P := fun a => RegN A a.2 → Sm A a.2 x.2 ∧ RegN A x.2) (fun a y hf hc he => ?_) hf
  obtain ⟨x3, σ⟩ := a
  intro hA
  have hA0 : RegN A σ := hA
  have hy : (∀ a' : Int32 × XS, y = .inl a' → Sm A σ a'.2 ∧ RegN A a'.2) ∧ (∀ b1 : Int32 × XS, y = .inr b1 → Sm A σ b1.2 ∧ RegN A b1.2) := by
    have hm := Sm.rf (A := A) (σ := σ)
    by_cases q : ((Int32.ofNat L) - (6 : Int32)) < x3
    · have hf := xip q hf
      obtain ⟨b0, hg, e9⟩ := xmj hf
      subst e9
      have hf := hg
      refine ⟨fun a' e => xnc2 e, fun b e => ?_⟩
      have h9 := Sum.inr.inj e
      subst h9
      have hf := xsj hf
      subst hf
      exact ⟨hm, hA⟩
    · have hf := xin q hf
      obtain ⟨v2, e1, hf⟩ := xbd hf
      by_cases ho : (v2 &&& (63 : Int32)).toInt < 0 ∨ 36 < (v2 &&& (63 : Int32)).toInt
      · have hf := xsw_out ho rfl hf
        have hf := xsj hf
        subst hf
        exact ⟨fun a' e => (by have h9 := Sum.inl.inj e; subst h9; exact ⟨hm, hA⟩), fun b e => xnc1 e⟩
      · rcases (by omega : (v2 &&& (63 : Int32)).toInt = 0 + ((0 : Nat) : Int) ∨ (v2 &&& (63 : Int32)).toInt = 0 + ((1 : Nat) : Int) ∨ (v2 &&& (63 : Int32)).toInt = 0 + ((2 : Nat) : Int) ∨ (v2 &&& (63 : Int32)).toInt = 0 + ((3 : Nat) : Int) ∨ (v2 &&& (63 : Int32)).toInt = 0 + ((4 : Nat) : Int) ∨ (v2 &&& (63 : Int32)).toInt = 0 + ((5 : Nat) : Int) ∨ (v2 &&& (63 : Int32)).toInt = 0 + ((6 : Nat) : Int) ∨ (v2 &&& (63 : Int32)).toInt = 0 + ((7 : Nat) : Int) ∨ (v2 &&& (63 : Int32)).toInt = 0 + ((8 : Nat) : Int) ∨ (v2 &&& (63 : Int32)).toInt = 0 + ((9 : Nat) : Int) ∨ (v2 &&& (63 : Int32)).toInt = 0 + ((10 : Nat) : Int) ∨ (v2 &&& (63 : Int32)).toInt = 0 + ((11 : Nat) : Int) ∨ (v2 &&& (63 : Int32)).toInt = 0 + ((12 : Nat) : Int) ∨ (v2 &&& (63 : Int32)).toInt = 0 + ((13 : Nat) : Int) ∨ (v2 &&& (63 : Int32)).toInt = 0 + ((14 : Nat) : Int) ∨ (v2 &&& (63 : Int32)).toInt = 0 + ((15 : Nat) : Int) ∨ (v2 &&& (63 : Int32)).toInt = 0 + ((16 : Nat) : Int) ∨ (v2 &&& (63 : Int32)).toInt = 0 + ((17 : Nat) : Int) ∨ (v2 &&& (63 : Int32)).toInt = 0 + ((18 : Nat) : Int) ∨ (v2 &&& (63 : Int32)).toInt = 0 + ((19 : Nat) : Int) ∨ (v2 &&& (63 : Int32)).toInt = 0 + ((20 : Nat) : Int) ∨ (v2 &&& (63 : Int32)).toInt = 0 + ((21 : Nat) : Int) ∨ (v2 &&& (63 : Int32)).toInt = 0 + ((22 : Nat) : Int) ∨ (v2 &&& (63 : Int32)).toInt = 0 + ((23 : Nat) : Int) ∨ (v2 &&& (63 : Int32)).toInt = 0 + ((24 : Nat) : Int) ∨ (v2 &&& (63 : Int32)).toInt = 0 + ((25 : Nat) : Int) ∨ (v2 &&& (63 : Int32)).toInt = 0 + ((26 : Nat) : Int) ∨ (v2 &&& (63 : Int32)).toInt = 0 + ((27 : Nat) : Int) ∨ (v2 &&& (63 : Int32)).toInt = 0 + ((28 : Nat) : Int) ∨ (v2 &&& (63 : Int32)).toInt = 0 + ((29 : Nat) : Int) ∨ (v2 &&& (63 : Int32)).toInt = 0 + ((30 : Nat) : Int) ∨ (v2 &&& (63 : Int32)).toInt = 0 + ((31 : Nat) : Int) ∨ (v2 &&& (63 : Int32)).toInt = 0 + ((32 : Nat) : Int) ∨ (v2 &&& (63 : Int32)).toInt = 0 + ((33 : Nat) : Int) ∨ (v2 &&& (63 : Int32)).toInt = 0 + ((34 : Nat) : Int) ∨ (v2 &&& (63 : Int32)).toInt = 0 + ((35 : Nat) : Int) ∨ (v2 &&& (63 : Int32)).toInt = 0 + ((36 : Nat) : Int)) with hk1 | hk1 | hk1 | hk1 | hk1 | hk1 | hk1 | hk1 | hk1 | hk1 | hk1 | hk1 | hk1 | hk1 | hk1 | hk1 | hk1 | hk1 | hk1 | hk1 | hk1 | hk1 | hk1 | hk1 | hk1 | hk1 | hk1 | hk1 | hk1 | hk1 | hk1 | hk1 | hk1 | hk1 | hk1 | hk1 | hk1
        · have hf := xsw_in 0 hk1 rfl hf
          obtain ⟨v4, e3, hf⟩ := xbd hf
          obtain ⟨v6, e5, hf⟩ := xbd hf
          obtain ⟨v8, e7, hf⟩ := xbd hf
          obtain ⟨v10, e9, hf⟩ := xbd hf
          obtain ⟨v12, e11, hf⟩ := xbd hf
          obtain ⟨_, e13, hf⟩ := xbd hf
          obtain ⟨⟨v16, σ15⟩, e14, hf⟩ := xbd hf
          dsimp only at hf
          obtain ⟨hm9, hB⟩ := n_X11_feed hA.1 hr1 e14
          have hA := RegN.step hA hB (m_X11_feed e14).ext
          have hm := hm.tr hm9
          obtain ⟨v18, e17, hf⟩ := xbd hf
          obtain ⟨v20, e19, hf⟩ := xbd hf
          obtain ⟨v22, e21, hf⟩ := xbd hf
          obtain ⟨v24, e23, hf⟩ := xbd hf
          obtain ⟨v26, e25, hf⟩ := xbd hf
          obtain ⟨_, e27, hf⟩ := xbd hf
          obtain ⟨⟨v30, σ29⟩, e28, hf⟩ := xbd hf
          dsimp only at hf
          obtain ⟨hm9, hB⟩ := n_X12_feed hA.1 hr2 e28
          have hA := RegN.step hA hB (m_X12_feed e28).ext
          have hm := hm.tr hm9
          have hf := xsj hf
          subst hf
          exact ⟨fun a' e => (by have h9 := Sum.inl.inj e; subst h9; exact ⟨hm, hA⟩), fun b e => xnc1 e⟩
        · have hf := xsw_in 1 hk1 rfl hf
          obtain ⟨v4, e3, hf⟩ := xbd hf
          obtain ⟨_, e5, hf⟩ := xbd hf
          obtain ⟨⟨v8, σ7⟩, e6, hf⟩ := xbd hf
          dsimp only at hf
          obtain ⟨hm9, hB⟩ := n_X11_back hA.1 hr1 e6
          have hA := RegN.step hA hB (m_X11_back e6).ext
          have hm := hm.tr hm9
          obtain ⟨v10, e9, hf⟩ := xbd hf
          obtain ⟨_, e11, hf⟩ := xbd hf
          obtain ⟨⟨v14, σ13⟩, e12, hf⟩ := xbd hf
          dsimp only at hf
          obtain ⟨hm9, hB⟩ := n_X12_back hA.1 hr2 e12
          have hA := RegN.step hA hB (m_X12_back e12).ext
          have hm := hm.tr hm9
          have hf := xsj hf
          subst hf
          exact ⟨fun a' e => (by have h9 := Sum.inl.inj e; subst h9; exact ⟨hm, hA⟩), fun b e => xnc1 e⟩
        · have hf := xsw_in 2 hk1 rfl hf
          obtain ⟨_, e3, hf⟩ := xbd hf
          obtain ⟨⟨v6, σ5⟩, e4, hf⟩ := xbd hf
          dsimp only at hf
          obtain ⟨hm9, hB⟩ := n_X11_read hA.1 hr1 e4
          have hA := RegN.step hA hB (m_X11_read e4).ext
          have hm := hm.tr hm9
          obtain ⟨_, e7, hf⟩ := xbd hf
          obtain ⟨⟨v10, σ9⟩, e8, hf⟩ := xbd hf
          dsimp only at hf
          obtain ⟨hm9, hB⟩ := n_X12_read hA.1 hr2 e8
          have hA := RegN.step hA hB (m_X12_read e8).ext
          have hm := hm.tr hm9
          have hf := xsj hf
          subst hf
          exact ⟨fun a' e => (by have h9 := Sum.inl.inj e; subst h9; exact ⟨hm, hA⟩), fun b e => xnc1 e⟩
        · have hf := xsw_in 3 hk1 rfl hf
          obtain ⟨_, e3, hf⟩ := xbd hf
          obtain ⟨v5, e4, hf⟩ := xbd hf
          obtain ⟨_, e6, hf⟩ := xbd hf
          obtain ⟨v8, e7, hf⟩ := xbd hf
          have hf := xsj hf
          subst hf
          exact ⟨fun a' e => (by have h9 := Sum.inl.inj e; subst h9; exact ⟨hm, hA⟩), fun b e => xnc1 e⟩
        · have hf := xsw_in 4 hk1 rfl hf
          obtain ⟨v4, e3, hf⟩ := xbd hf
          obtain ⟨v6, e5, hf⟩ := xbd hf
          by_cases q : v6 = 0
          · have hf := xip q hf
            exact ⟨fun a' e => ⟨hm.tr ((n_L_law_j327 hA hr2 hr1 hf).1 a' e).1, ((n_L_law_j327 hA hr2 hr1 hf).1 a' e).2⟩, fun b1 eb1 => ⟨hm.tr ((n_L_law_j327 hA hr2 hr1 hf).2 b1 eb1).1, ((n_L_law_j327 hA hr2 hr1 hf).2 b1 eb1).2⟩⟩
          · have hf := xin q hf
            exact ⟨fun a' e => ⟨hm.tr ((n_L_law_j327 hA hr2 hr1 hf).1 a' e).1, ((n_L_law_j327 hA hr2 hr1 hf).1 a' e).2⟩, fun b1 eb1 => ⟨hm.tr ((n_L_law_j327 hA hr2 hr1 hf).2 b1 eb1).1, ((n_L_law_j327 hA hr2 hr1 hf).2 b1 eb1).2⟩⟩
        · have hf := xsw_in 5 hk1 rfl hf
          obtain ⟨v4, e3, hf⟩ := xbd hf
          obtain ⟨v6, e5, hf⟩ := xbd hf
          obtain ⟨_, e7, hf⟩ := xbd hf
          obtain ⟨⟨v10, σ9⟩, e8, hf⟩ := xbd hf
          dsimp only at hf
          obtain ⟨hm9, hB⟩ := n_X11_pull hA.1 hr1 e8
          have hA := RegN.step hA hB (m_X11_pull e8).ext
          have hm := hm.tr hm9
          obtain ⟨v12, e11, hf⟩ := xbd hf
          obtain ⟨v14, e13, hf⟩ := xbd hf
          obtain ⟨_, e15, hf⟩ := xbd hf
          obtain ⟨⟨v18, σ17⟩, e16, hf⟩ := xbd hf
          dsimp only at hf
          obtain ⟨hm9, hB⟩ := n_X12_pull hA.1 hr2 e16
          have hA := RegN.step hA hB (m_X12_pull e16).ext
          have hm := hm.tr hm9
          have hf := xsj hf
          subst hf
          exact ⟨fun a' e => (by have h9 := Sum.inl.inj e; subst h9; exact ⟨hm, hA⟩), fun b e => xnc1 e⟩
        · have hf := xsw_in 6 hk1 rfl hf
          obtain ⟨v4, e3, hf⟩ := xbd hf
          obtain ⟨v6, e5, hf⟩ := xbd hf
          obtain ⟨_, e7, hf⟩ := xbd hf
          obtain ⟨⟨v10, σ9⟩, e8, hf⟩ := xbd hf
          dsimp only at hf
          obtain ⟨hm9, hB⟩ := n_X11_pin hA.1 hr1 e8
          have hA := RegN.step hA hB (m_X11_pin e8).ext
          have hm := hm.tr hm9
          obtain ⟨v12, e11, hf⟩ := xbd hf
          obtain ⟨v14, e13, hf⟩ := xbd hf
          obtain ⟨_, e15, hf⟩ := xbd hf
          obtain ⟨⟨v18, σ17⟩, e16, hf⟩ := xbd hf
          dsimp only at hf
          obtain ⟨hm9, hB⟩ := n_X12_pin hA.1 hr2 e16
          have hA := RegN.step hA hB (m_X12_pin e16).ext
          have hm := hm.tr hm9
          have hf := xsj hf
          subst hf
          exact ⟨fun a' e => (by have h9 := Sum.inl.inj e; subst h9; exact ⟨hm, hA⟩), fun b e => xnc1 e⟩
        · have hf := xsw_in 7 hk1 rfl hf
          obtain ⟨v4, e3, hf⟩ := xbd hf
          obtain ⟨_, e5, hf⟩ := xbd hf
          obtain ⟨⟨v8, σ7⟩, e6, hf⟩ := xbd hf
          dsimp only at hf
          obtain ⟨hm9, hB⟩ := n_X11_glass hA.1 hr1 e6
          have hA := RegN.step hA hB (m_X11_glass e6).ext
          have hm := hm.tr hm9
          obtain ⟨v10, e9, hf⟩ := xbd hf
          obtain ⟨_, e11, hf⟩ := xbd hf
          obtain ⟨⟨v14, σ13⟩, e12, hf⟩ := xbd hf
          dsimp only at hf
          obtain ⟨hm9, hB⟩ := n_X12_glass hA.1 hr2 e12
          have hA := RegN.step hA hB (m_X12_glass e12).ext
          have hm := hm.tr hm9
          have hf := xsj hf
          subst hf
          exact ⟨fun a' e => (by have h9 := Sum.inl.inj e; subst h9; exact ⟨hm, hA⟩), fun b e => xnc1 e⟩
        · have hf := xsw_in 8 hk1 rfl hf
          obtain ⟨v4, e3, hf⟩ := xbd hf
          obtain ⟨_, e5, hf⟩ := xbd hf
          obtain ⟨⟨v8, σ7⟩, e6, hf⟩ := xbd hf
          dsimp only at hf
          obtain ⟨hm9, hB⟩ := n_X11_turn hA.1 hr1 e6
          have hA := RegN.step hA hB (m_X11_turn e6).ext
          have hm := hm.tr hm9
          obtain ⟨v10, e9, hf⟩ := xbd hf
          obtain ⟨_, e11, hf⟩ := xbd hf
          obtain ⟨⟨v14, σ13⟩, e12, hf⟩ := xbd hf
          dsimp only at hf
          obtain ⟨hm9, hB⟩ := n_X12_turn hA.1 hr2 e12
          have hA := RegN.step hA hB (m_X12_turn e12).ext
          have hm := hm.tr hm9
          have hf := xsj hf
          subst hf
          exact ⟨fun a' e => (by have h9 := Sum.inl.inj e; subst h9; exact ⟨hm, hA⟩), fun b e => xnc1 e⟩
        · have hf := xsw_in 9 hk1 rfl hf
          obtain ⟨_, e3, hf⟩ := xbd hf
          obtain ⟨⟨v6, σ5⟩, e4, hf⟩ := xbd hf
          dsimp only at hf
          obtain ⟨hm9, hB⟩ := n_X11_fall hA.1 hr1 e4
          have hA := RegN.step hA hB (m_X11_fall e4).ext
          have hm := hm.tr hm9
          obtain ⟨_, e7, hf⟩ := xbd hf
          obtain ⟨⟨v10, σ9⟩, e8, hf⟩ := xbd hf
          dsimp only at hf
          obtain ⟨hm9, hB⟩ := n_X12_fall hA.1 hr2 e8
          have hA := RegN.step hA hB (m_X12_fall e8).ext
          have hm := hm.tr hm9
          have hf := xsj hf
          subst hf
          exact ⟨fun a' e => (by have h9 := Sum.inl.inj e; subst h9; exact ⟨hm, hA⟩), fun b e => xnc1 e⟩
        · have hf := xsw_in 10 hk1 rfl hf
          obtain ⟨_, e3, hf⟩ := xbd hf
          obtain ⟨⟨v6, σ5⟩, e4, hf⟩ := xbd hf
          dsimp only at hf
          obtain ⟨hm9, hB⟩ := n_X11_undo hA.1 hr1 e4
          have hA := RegN.step hA hB (m_X11_undo e4).ext
          have hm := hm.tr hm9
          obtain ⟨_, e7, hf⟩ := xbd hf
          obtain ⟨⟨v10, σ9⟩, e8, hf⟩ := xbd hf
          dsimp only at hf
          obtain ⟨hm9, hB⟩ := n_X12_undo hA.1 hr2 e8
          have hA := RegN.step hA hB (m_X12_undo e8).ext
          have hm := hm.tr hm9
          have hf := xsj hf
          subst hf
          exact ⟨fun a' e => (by have h9 := Sum.inl.inj e; subst h9; exact ⟨hm, hA⟩), fun b e => xnc1 e⟩
        · have hf := xsw_in 11 hk1 rfl hf
          obtain ⟨v4, e3, hf⟩ := xbd hf
          obtain ⟨v6, e5, hf⟩ := xbd hf
          obtain ⟨_, e7, hf⟩ := xbd hf
          obtain ⟨v9, e8, hf⟩ := xbd hf
          obtain ⟨v11, e10, hf⟩ := xbd hf
          obtain ⟨v13, e12, hf⟩ := xbd hf
          obtain ⟨_, e14, hf⟩ := xbd hf
          obtain ⟨v16, e15, hf⟩ := xbd hf
          have hf := xsj hf
          subst hf
          exact ⟨fun a' e => (by have h9 := Sum.inl.inj e; subst h9; exact ⟨hm, hA⟩), fun b e => xnc1 e⟩
        · have hf := xsw_in 12 hk1 rfl hf
          obtain ⟨v4, e3, hf⟩ := xbd hf
          obtain ⟨v6, e5, hf⟩ := xbd hf
          obtain ⟨_, e7, hf⟩ := xbd hf
          obtain ⟨⟨v10, σ9⟩, e8, hf⟩ := xbd hf
          dsimp only at hf
          obtain ⟨hm9, hA⟩ := n_X11_level hA hr1 e8
          have hm := hm.tr hm9
          exact ⟨fun a' e => ⟨hm.tr ((n_L_law_j552 hA hr2 hf).1 a' e).1, ((n_L_law_j552 hA hr2 hf).1 a' e).2⟩, fun b1 eb1 => ⟨hm.tr ((n_L_law_j552 hA hr2 hf).2 b1 eb1).1, ((n_L_law_j552 hA hr2 hf).2 b1 eb1).2⟩⟩
        · have hf := xsw_in 13 hk1 rfl hf
          obtain ⟨v4, e3, hf⟩ := xbd hf
          obtain ⟨v6, e5, hf⟩ := xbd hf
          obtain ⟨_, e7, hf⟩ := xbd hf
          obtain ⟨⟨v10, σ9⟩, e8, hf⟩ := xbd hf
          dsimp only at hf
          obtain ⟨hm9, hA⟩ := n_X11_both hA hr1 e8
          have hm := hm.tr hm9
          exact ⟨fun a' e => ⟨hm.tr ((n_L_law_j585 hA hr2 hf).1 a' e).1, ((n_L_law_j585 hA hr2 hf).1 a' e).2⟩, fun b1 eb1 => ⟨hm.tr ((n_L_law_j585 hA hr2 hf).2 b1 eb1).1, ((n_L_law_j585 hA hr2 hf).2 b1 eb1).2⟩⟩
        · have hf := xsw_in 14 hk1 rfl hf
          obtain ⟨v4, e3, hf⟩ := xbd hf
          obtain ⟨_, e5, hf⟩ := xbd hf
          obtain ⟨⟨v8, σ7⟩, e6, hf⟩ := xbd hf
          dsimp only at hf
          obtain ⟨hm9, hA⟩ := n_X11_broken hA hr1 e6
          have hm := hm.tr hm9
          exact ⟨fun a' e => ⟨hm.tr ((n_L_law_j613 hA hr2 hf).1 a' e).1, ((n_L_law_j613 hA hr2 hf).1 a' e).2⟩, fun b1 eb1 => ⟨hm.tr ((n_L_law_j613 hA hr2 hf).2 b1 eb1).1, ((n_L_law_j613 hA hr2 hf).2 b1 eb1).2⟩⟩
        · have hf := xsw_in 15 hk1 rfl hf
          obtain ⟨v4, e3, hf⟩ := xbd hf
          obtain ⟨_, e5, hf⟩ := xbd hf
          obtain ⟨⟨v8, σ7⟩, e6, hf⟩ := xbd hf
          dsimp only at hf
          obtain ⟨hm9, hA⟩ := n_X11_ground hA hr1 e6
          have hm := hm.tr hm9
          exact ⟨fun a' e => ⟨hm.tr ((n_L_law_j636 hA hr2 hf).1 a' e).1, ((n_L_law_j636 hA hr2 hf).1 a' e).2⟩, fun b1 eb1 => ⟨hm.tr ((n_L_law_j636 hA hr2 hf).2 b1 eb1).1, ((n_L_law_j636 hA hr2 hf).2 b1 eb1).2⟩⟩
        · have hf := xsw_in 16 hk1 rfl hf
          obtain ⟨v4, e3, hf⟩ := xbd hf
          obtain ⟨v6, e5, hf⟩ := xbd hf
          obtain ⟨v8, e7, hf⟩ := xbd hf
          obtain ⟨v10, e9, hf⟩ := xbd hf
          obtain ⟨_, e11, hf⟩ := xbd hf
          obtain ⟨⟨v14, σ13⟩, e12, hf⟩ := xbd hf
          dsimp only at hf
          obtain ⟨hm9, hA⟩ := n_X11_pair hA hr1 e12
          have hm := hm.tr hm9
          exact ⟨fun a' e => ⟨hm.tr ((n_L_law_j674 hA hr2 hf).1 a' e).1, ((n_L_law_j674 hA hr2 hf).1 a' e).2⟩, fun b1 eb1 => ⟨hm.tr ((n_L_law_j674 hA hr2 hf).2 b1 eb1).1, ((n_L_law_j674 hA hr2 hf).2 b1 eb1).2⟩⟩
        · have hf := xsw_in 17 hk1 rfl hf
          obtain ⟨v4, e3, hf⟩ := xbd hf
          obtain ⟨v6, e5, hf⟩ := xbd hf
          obtain ⟨_, e7, hf⟩ := xbd hf
          obtain ⟨⟨v10, σ9⟩, e8, hf⟩ := xbd hf
          dsimp only at hf
          obtain ⟨hm9, hA⟩ := n_X11_mean hA hr1 e8
          have hm := hm.tr hm9
          exact ⟨fun a' e => ⟨hm.tr ((n_L_law_j717 hA hr2 hf).1 a' e).1, ((n_L_law_j717 hA hr2 hf).1 a' e).2⟩, fun b1 eb1 => ⟨hm.tr ((n_L_law_j717 hA hr2 hf).2 b1 eb1).1, ((n_L_law_j717 hA hr2 hf).2 b1 eb1).2⟩⟩
        · have hf := xsw_in 18 hk1 rfl hf
          obtain ⟨v4, e3, hf⟩ := xbd hf
          obtain ⟨_, e5, hf⟩ := xbd hf
          obtain ⟨⟨v8, σ7⟩, e6, hf⟩ := xbd hf
          dsimp only at hf
          obtain ⟨hm9, hA⟩ := n_X11_value hA hr1 e6
          have hm := hm.tr hm9
          exact ⟨fun a' e => ⟨hm.tr ((n_L_law_j745 hA hr2 hf).1 a' e).1, ((n_L_law_j745 hA hr2 hf).1 a' e).2⟩, fun b1 eb1 => ⟨hm.tr ((n_L_law_j745 hA hr2 hf).2 b1 eb1).1, ((n_L_law_j745 hA hr2 hf).2 b1 eb1).2⟩⟩
        · have hf := xsw_in 19 hk1 rfl hf
          obtain ⟨v4, e3, hf⟩ := xbd hf
          obtain ⟨v6, e5, hf⟩ := xbd hf
          obtain ⟨v8, e7, hf⟩ := xbd hf
          obtain ⟨_, e9, hf⟩ := xbd hf
          obtain ⟨⟨v12, σ11⟩, e10, hf⟩ := xbd hf
          dsimp only at hf
          obtain ⟨hm9, hA⟩ := n_X11_joined hA hr1 e10
          have hm := hm.tr hm9
          exact ⟨fun a' e => ⟨hm.tr ((n_L_law_j778 hA hr2 hf).1 a' e).1, ((n_L_law_j778 hA hr2 hf).1 a' e).2⟩, fun b1 eb1 => ⟨hm.tr ((n_L_law_j778 hA hr2 hf).2 b1 eb1).1, ((n_L_law_j778 hA hr2 hf).2 b1 eb1).2⟩⟩
        · have hf := xsw_in 20 hk1 rfl hf
          obtain ⟨v4, e3, hf⟩ := xbd hf
          obtain ⟨v6, e5, hf⟩ := xbd hf
          obtain ⟨_, e7, hf⟩ := xbd hf
          obtain ⟨⟨v10, σ9⟩, e8, hf⟩ := xbd hf
          dsimp only at hf
          obtain ⟨hm9, hA⟩ := n_X11_state hA hr1 e8
          have hm := hm.tr hm9
          exact ⟨fun a' e => ⟨hm.tr ((n_L_law_j816 hA hr2 hf).1 a' e).1, ((n_L_law_j816 hA hr2 hf).1 a' e).2⟩, fun b1 eb1 => ⟨hm.tr ((n_L_law_j816 hA hr2 hf).2 b1 eb1).1, ((n_L_law_j816 hA hr2 hf).2 b1 eb1).2⟩⟩
        · have hf := xsw_in 21 hk1 rfl hf
          obtain ⟨v4, e3, hf⟩ := xbd hf
          by_cases q : v4 = 0
          · have hf := xip q hf
            exact ⟨fun a' e => ⟨hm.tr ((n_L_law_j849 hA hr2 hr1 hf).1 a' e).1, ((n_L_law_j849 hA hr2 hr1 hf).1 a' e).2⟩, fun b1 eb1 => ⟨hm.tr ((n_L_law_j849 hA hr2 hr1 hf).2 b1 eb1).1, ((n_L_law_j849 hA hr2 hr1 hf).2 b1 eb1).2⟩⟩
          · have hf := xin q hf
            exact ⟨fun a' e => ⟨hm.tr ((n_L_law_j849 hA hr2 hr1 hf).1 a' e).1, ((n_L_law_j849 hA hr2 hr1 hf).1 a' e).2⟩, fun b1 eb1 => ⟨hm.tr ((n_L_law_j849 hA hr2 hr1 hf).2 b1 eb1).1, ((n_L_law_j849 hA hr2 hr1 hf).2 b1 eb1).2⟩⟩
        · have hf := xsw_in 22 hk1 rfl hf
          obtain ⟨v4, e3, hf⟩ := xbd hf
          obtain ⟨v6, e5, hf⟩ := xbd hf
          obtain ⟨v8, e7, hf⟩ := xbd hf
          obtain ⟨_, e9, hf⟩ := xbd hf
          obtain ⟨⟨v12, σ11⟩, e10, hf⟩ := xbd hf
          dsimp only at hf
          obtain ⟨hm9, hA⟩ := n_X11_rows hA hr1 e10
          have hm := hm.tr hm9
          exact ⟨fun a' e => ⟨hm.tr ((n_L_law_j893 hA hf).1 a' e).1, ((n_L_law_j893 hA hf).1 a' e).2⟩, fun b1 eb1 => ⟨hm.tr ((n_L_law_j893 hA hf).2 b1 eb1).1, ((n_L_law_j893 hA hf).2 b1 eb1).2⟩⟩
        · have hf := xsw_in 23 hk1 rfl hf
          obtain ⟨v4, e3, hf⟩ := xbd hf
          obtain ⟨_, e5, hf⟩ := xbd hf
          obtain ⟨v7, e6, hf⟩ := xbd hf
          obtain ⟨v9, e8, hf⟩ := xbd hf
          obtain ⟨_, e10, hf⟩ := xbd hf
          obtain ⟨v12, e11, hf⟩ := xbd hf
          have hf := xsj hf
          subst hf
          exact ⟨fun a' e => (by have h9 := Sum.inl.inj e; subst h9; exact ⟨hm, hA⟩), fun b e => xnc1 e⟩
        · have hf := xsw_in 24 hk1 rfl hf
          obtain ⟨v4, e3, hf⟩ := xbd hf
          obtain ⟨_, e5, hf⟩ := xbd hf
          obtain ⟨⟨v8, σ7⟩, e6, hf⟩ := xbd hf
          dsimp only at hf
          obtain ⟨hm9, hA⟩ := n_X11_overlap hA hr1 e6
          have hm := hm.tr hm9
          exact ⟨fun a' e => ⟨hm.tr ((n_L_law_j949 hA hr2 hf).1 a' e).1, ((n_L_law_j949 hA hr2 hf).1 a' e).2⟩, fun b1 eb1 => ⟨hm.tr ((n_L_law_j949 hA hr2 hf).2 b1 eb1).1, ((n_L_law_j949 hA hr2 hf).2 b1 eb1).2⟩⟩
        · have hf := xsw_in 25 hk1 rfl hf
          obtain ⟨v4, e3, hf⟩ := xbd hf
          obtain ⟨_, e5, hf⟩ := xbd hf
          obtain ⟨⟨v8, σ7⟩, e6, hf⟩ := xbd hf
          dsimp only at hf
          obtain ⟨hm9, hA⟩ := n_X11_basin hA hr1 e6
          have hm := hm.tr hm9
          exact ⟨fun a' e => ⟨hm.tr ((n_L_law_j972 hA hr2 hf).1 a' e).1, ((n_L_law_j972 hA hr2 hf).1 a' e).2⟩, fun b1 eb1 => ⟨hm.tr ((n_L_law_j972 hA hr2 hf).2 b1 eb1).1, ((n_L_law_j972 hA hr2 hf).2 b1 eb1).2⟩⟩
        · have hf := xsw_in 26 hk1 rfl hf
          obtain ⟨v4, e3, hf⟩ := xbd hf
          obtain ⟨v6, e5, hf⟩ := xbd hf
          obtain ⟨_, e7, hf⟩ := xbd hf
          obtain ⟨⟨v10, σ9⟩, e8, hf⟩ := xbd hf
          dsimp only at hf
          obtain ⟨hm9, hA⟩ := n_X11_stiff hA hr1 e8
          have hm := hm.tr hm9
          exact ⟨fun a' e => ⟨hm.tr ((n_L_law_j1000 hA hr2 hf).1 a' e).1, ((n_L_law_j1000 hA hr2 hf).1 a' e).2⟩, fun b1 eb1 => ⟨hm.tr ((n_L_law_j1000 hA hr2 hf).2 b1 eb1).1, ((n_L_law_j1000 hA hr2 hf).2 b1 eb1).2⟩⟩
        · have hf := xsw_in 27 hk1 rfl hf
          obtain ⟨v4, e3, hf⟩ := xbd hf
          obtain ⟨_, e5, hf⟩ := xbd hf
          obtain ⟨⟨v8, σ7⟩, e6, hf⟩ := xbd hf
          dsimp only at hf
          obtain ⟨hm9, hA⟩ := n_X11_hill hA hr1 e6
          have hm := hm.tr hm9
          exact ⟨fun a' e => ⟨hm.tr ((n_L_law_j1028 hA hr2 hf).1 a' e).1, ((n_L_law_j1028 hA hr2 hf).1 a' e).2⟩, fun b1 eb1 => ⟨hm.tr ((n_L_law_j1028 hA hr2 hf).2 b1 eb1).1, ((n_L_law_j1028 hA hr2 hf).2 b1 eb1).2⟩⟩
        · have hf := xsw_in 28 hk1 rfl hf
          obtain ⟨v4, e3, hf⟩ := xbd hf
          obtain ⟨v6, e5, hf⟩ := xbd hf
          obtain ⟨_, e7, hf⟩ := xbd hf
          obtain ⟨⟨v10, σ9⟩, e8, hf⟩ := xbd hf
          dsimp only at hf
          obtain ⟨hm9, hA⟩ := n_X11_pass hA hr1 e8
          have hm := hm.tr hm9
          exact ⟨fun a' e => ⟨hm.tr ((n_L_law_j1056 hA hr2 hf).1 a' e).1, ((n_L_law_j1056 hA hr2 hf).1 a' e).2⟩, fun b1 eb1 => ⟨hm.tr ((n_L_law_j1056 hA hr2 hf).2 b1 eb1).1, ((n_L_law_j1056 hA hr2 hf).2 b1 eb1).2⟩⟩
        · have hf := xsw_in 29 hk1 rfl hf
          obtain ⟨v4, e3, hf⟩ := xbd hf
          obtain ⟨_, e5, hf⟩ := xbd hf
          obtain ⟨⟨v8, σ7⟩, e6, hf⟩ := xbd hf
          dsimp only at hf
          obtain ⟨hm9, hA⟩ := n_X11_lakes hA hr1 e6
          have hm := hm.tr hm9
          exact ⟨fun a' e => ⟨hm.tr ((n_L_law_j1084 hA hr2 hf).1 a' e).1, ((n_L_law_j1084 hA hr2 hf).1 a' e).2⟩, fun b1 eb1 => ⟨hm.tr ((n_L_law_j1084 hA hr2 hf).2 b1 eb1).1, ((n_L_law_j1084 hA hr2 hf).2 b1 eb1).2⟩⟩
        · have hf := xsw_in 30 hk1 rfl hf
          obtain ⟨v4, e3, hf⟩ := xbd hf
          obtain ⟨_, e5, hf⟩ := xbd hf
          obtain ⟨⟨v8, σ7⟩, e6, hf⟩ := xbd hf
          dsimp only at hf
          obtain ⟨hm9, hA⟩ := n_X11_down hA hr1 e6
          have hm := hm.tr hm9
          exact ⟨fun a' e => ⟨hm.tr ((n_L_law_j1107 hA hr2 hf).1 a' e).1, ((n_L_law_j1107 hA hr2 hf).1 a' e).2⟩, fun b1 eb1 => ⟨hm.tr ((n_L_law_j1107 hA hr2 hf).2 b1 eb1).1, ((n_L_law_j1107 hA hr2 hf).2 b1 eb1).2⟩⟩
        · have hf := xsw_in 31 hk1 rfl hf
          obtain ⟨v4, e3, hf⟩ := xbd hf
          obtain ⟨v6, e5, hf⟩ := xbd hf
          obtain ⟨_, e7, hf⟩ := xbd hf
          obtain ⟨⟨v10, σ9⟩, e8, hf⟩ := xbd hf
          dsimp only at hf
          obtain ⟨hm9, hA⟩ := n_X11_nearest hA hr1 e8
          have hm := hm.tr hm9
          exact ⟨fun a' e => ⟨hm.tr ((n_L_law_j1135 hA hr2 hf).1 a' e).1, ((n_L_law_j1135 hA hr2 hf).1 a' e).2⟩, fun b1 eb1 => ⟨hm.tr ((n_L_law_j1135 hA hr2 hf).2 b1 eb1).1, ((n_L_law_j1135 hA hr2 hf).2 b1 eb1).2⟩⟩
        · have hf := xsw_in 32 hk1 rfl hf
          obtain ⟨v4, e3, hf⟩ := xbd hf
          obtain ⟨_, e5, hf⟩ := xbd hf
          obtain ⟨v7, e6, hf⟩ := xbd hf
          obtain ⟨v9, e8, hf⟩ := xbd hf
          obtain ⟨_, e10, hf⟩ := xbd hf
          obtain ⟨v12, e11, hf⟩ := xbd hf
          have hf := xsj hf
          subst hf
          exact ⟨fun a' e => (by have h9 := Sum.inl.inj e; subst h9; exact ⟨hm, hA⟩), fun b e => xnc1 e⟩
        · have hf := xsw_in 33 hk1 rfl hf
          obtain ⟨v4, e3, hf⟩ := xbd hf
          obtain ⟨v6, e5, hf⟩ := xbd hf
          obtain ⟨v8, e7, hf⟩ := xbd hf
          obtain ⟨_, e9, hf⟩ := xbd hf
          obtain ⟨⟨v12, σ11⟩, e10, hf⟩ := xbd hf
          dsimp only at hf
          obtain ⟨hm9, hB⟩ := n_X11_wander hA.1 hr1 e10
          have hA := RegN.step hA hB (m_X11_wander e10).ext
          have hm := hm.tr hm9
          obtain ⟨v14, e13, hf⟩ := xbd hf
          obtain ⟨v16, e15, hf⟩ := xbd hf
          obtain ⟨v18, e17, hf⟩ := xbd hf
          obtain ⟨_, e19, hf⟩ := xbd hf
          obtain ⟨⟨v22, σ21⟩, e20, hf⟩ := xbd hf
          dsimp only at hf
          obtain ⟨hm9, hB⟩ := n_X12_wander hA.1 hr2 e20
          have hA := RegN.step hA hB (m_X12_wander e20).ext
          have hm := hm.tr hm9
          have hf := xsj hf
          subst hf
          exact ⟨fun a' e => (by have h9 := Sum.inl.inj e; subst h9; exact ⟨hm, hA⟩), fun b e => xnc1 e⟩
        · have hf := xsw_in 34 hk1 rfl hf
          obtain ⟨v4, e3, hf⟩ := xbd hf
          obtain ⟨_, e5, hf⟩ := xbd hf
          obtain ⟨⟨v8, σ7⟩, e6, hf⟩ := xbd hf
          dsimp only at hf
          obtain ⟨hm9, hB⟩ := n_X11_hold hA.1 hr1 e6
          have hA := RegN.step hA hB (m_X11_hold e6).ext
          have hm := hm.tr hm9
          obtain ⟨v10, e9, hf⟩ := xbd hf
          obtain ⟨_, e11, hf⟩ := xbd hf
          obtain ⟨⟨v14, σ13⟩, e12, hf⟩ := xbd hf
          dsimp only at hf
          obtain ⟨hm9, hB⟩ := n_X12_hold hA.1 hr2 e12
          have hA := RegN.step hA hB (m_X12_hold e12).ext
          have hm := hm.tr hm9
          have hf := xsj hf
          subst hf
          exact ⟨fun a' e => (by have h9 := Sum.inl.inj e; subst h9; exact ⟨hm, hA⟩), fun b e => xnc1 e⟩
        · have hf := xsw_in 35 hk1 rfl hf
          obtain ⟨v4, e3, hf⟩ := xbd hf
          obtain ⟨_, e5, hf⟩ := xbd hf
          obtain ⟨⟨v8, σ7⟩, e6, hf⟩ := xbd hf
          dsimp only at hf
          obtain ⟨hm9, hB⟩ := n_X11_restore hA.1 hr1 e6
          have hA := RegN.step hA hB (m_X11_restore e6).ext
          have hm := hm.tr hm9
          obtain ⟨v10, e9, hf⟩ := xbd hf
          obtain ⟨_, e11, hf⟩ := xbd hf
          obtain ⟨⟨v14, σ13⟩, e12, hf⟩ := xbd hf
          dsimp only at hf
          obtain ⟨hm9, hB⟩ := n_X12_restore hA.1 hr2 e12
          have hA := RegN.step hA hB (m_X12_restore e12).ext
          have hm := hm.tr hm9
          have hf := xsj hf
          subst hf
          exact ⟨fun a' e => (by have h9 := Sum.inl.inj e; subst h9; exact ⟨hm, hA⟩), fun b e => xnc1 e⟩
        · have hf := xsw_in 36 hk1 rfl hf
          obtain ⟨v4, e3, hf⟩ := xbd hf
          obtain ⟨_, e5, hf⟩ := xbd hf
          obtain ⟨⟨v8, σ7⟩, e6, hf⟩ := xbd hf
          dsimp only at hf
          obtain ⟨hm9, hA⟩ := n_X11_count hA hr1 e6
          have hm := hm.tr hm9
          exact ⟨fun a' e => ⟨hm.tr ((n_L_law_j1275 hA hf).1 a' e).1, ((n_L_law_j1275 hA hf).1 a' e).2⟩, fun b1 eb1 => ⟨hm.tr ((n_L_law_j1275 hA hf).2 b1 eb1).1, ((n_L_law_j1275 hA hf).2 b1 eb1).2⟩⟩
  cases y with
  | inl a' =>
    obtain ⟨hm, hA1⟩ := hy.1 a' rfl
    have h1 := hc a' rfl hA1
    exact ⟨hm.tr (h1).1, (h1).2⟩
  | inr b =>
    have h1 := he b rfl
    subst h1
    exact hy.2 _ rfl
theorem n_L_law_j15 {A : Nat → Prop} {L : Nat} {xs : Nat → Int32} {σ : XS} {r1 : Nat} {t0 : Nat} {x : Int32 × XS} (hA : RegN A σ) (hr1 : A r1) (ht0 : A t0) (hf : f_L_law_j15 L xs σ r1 t0 = some x) : Sm A σ x.2 ∧ RegN A x.2 := by
  have hm := Sm.rf (A := A) (σ := σ)
  exact ⟨hm.tr (n_L_law_l18 (a := ((0 : Int32), σ)) hA hr1 ht0 hf).1, (n_L_law_l18 (a := ((0 : Int32), σ)) hA hr1 ht0 hf).2⟩
theorem n_L_law_j11 {A : Nat → Prop} {L : Nat} {xs : Nat → Int32} {σ : XS} {r1 : Nat} {t0 : Nat} {x : Int32 × XS} (hA : RegN A σ) (hr1 : A r1) (ht0 : A t0) (hf : f_L_law_j11 L xs σ r1 t0 = some x) : Sm A σ x.2 ∧ RegN A x.2 := by
  have hm := Sm.rf (A := A) (σ := σ)
  obtain ⟨_, e1, hf⟩ := xbd hf
  obtain ⟨σ3, e2, hf⟩ := xbd hf
  obtain ⟨hm9, hA⟩ := n_X12_init hA ht0 e2
  have hm := hm.tr hm9
  exact ⟨hm.tr (n_L_law_j15 hA hr1 ht0 hf).1, (n_L_law_j15 hA hr1 ht0 hf).2⟩
theorem n_L_law_j7 {A : Nat → Prop} {L : Nat} {xs : Nat → Int32} {σ : XS} {t0 : Nat} {x : Int32 × XS} (hA : RegN A σ) (ht0 : A t0) (hf : f_L_law_j7 L xs σ t0 = some x) : Sm A σ x.2 ∧ RegN A x.2 := by
  have hm := Sm.rf (A := A) (σ := σ)
  obtain ⟨⟨z2, σ3⟩, e1, hf⟩ := xbd hf
  dsimp only at hf
  obtain ⟨hm9, hA, hz2⟩ := xnO_reg hA e1
  have hm := hm.tr hm9
  exact ⟨hm.tr (n_L_law_j11 hA ht0 hz2 hf).1, (n_L_law_j11 hA ht0 hz2 hf).2⟩
theorem n_L_law_j3 {A : Nat → Prop} {L : Nat} {xs : Nat → Int32} {σ : XS} {t0 : Nat} {x : Int32 × XS} (hA : RegN A σ) (ht0 : A t0) (hf : f_L_law_j3 L xs σ t0 = some x) : Sm A σ x.2 ∧ RegN A x.2 := by
  have hm := Sm.rf (A := A) (σ := σ)
  obtain ⟨_, e1, hf⟩ := xbd hf
  obtain ⟨σ3, e2, hf⟩ := xbd hf
  obtain ⟨hm9, hA⟩ := n_X11_init hA ht0 e2
  have hm := hm.tr hm9
  exact ⟨hm.tr (n_L_law_j7 hA ht0 hf).1, (n_L_law_j7 hA ht0 hf).2⟩
theorem n_L_law {A : Nat → Prop} {L : Nat} {xs : Nat → Int32} {σ : XS} {x : Int32 × XS} (hA : RegN A σ) (hf : f_L_law L xs σ = some x) : Sm A σ x.2 ∧ RegN A x.2 := by
  have hm := Sm.rf (A := A) (σ := σ)
  obtain ⟨⟨z2, σ3⟩, e1, hf⟩ := xbd hf
  dsimp only at hf
  obtain ⟨hm9, hA, hz2⟩ := xnO_reg hA e1
  have hm := hm.tr hm9
  exact ⟨hm.tr (n_L_law_j3 hA hz2 hf).1, (n_L_law_j3 hA hz2 hf).2⟩
end
