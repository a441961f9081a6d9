theorem n_X12_lakes_l109 {A : Nat → Prop} {r0 : Nat} {x1 : Int32} {x2 : Int32} {x3 : Int32} {a : Int32 × Int32 × XS} {x : ((Int32 × Int32 × XS) ⊕ (Int32 × XS))} (hA : Reg A a.2.2) (hr0 : A r0) (hf : xloop (f_X12_lakes_b109 r0 x1 x2 x3) a = some x) : (∀ a' : Int32 × Int32 × XS, x = .inl a' → Sm A a.2.2 a'.2.2 ∧ Reg A a'.2.2) ∧ (∀ b1 : Int32 × XS, x = .inr b1 → Sm A a.2.2 b1.2 ∧ Reg A b1.2) := by
  revert hA
  refine xloop_ind (P := fun a => Reg A a.2.2 → (∀ a' : Int32 × Int32 × XS, x = .inl a' → Sm A a.2.2 a'.2.2 ∧ Reg A a'.2.2) ∧ (∀ b1 : Int32 × XS, x = .inr b1 → Sm A a.2.2 b1.2 ∧ Reg A b1.2)) (fun a y hf hc he => ?_) hf
  obtain ⟨x4, x5, σ⟩ := a
  intro hA
  have hA0 : Reg A σ := hA
  have hy : (∀ a' : Int32 × Int32 × XS, y = .inl a' → Sm A σ a'.2.2 ∧ Reg A a'.2.2) ∧ (∀ b2 : ((Int32 × Int32 × XS) ⊕ (Int32 × XS)), y = .inr b2 → (∀ a' : Int32 × Int32 × XS, b2 = .inl a' → Sm A σ a'.2.2 ∧ Reg A a'.2.2) ∧ (∀ b1 : Int32 × XS, b2 = .inr b1 → Sm A σ b1.2 ∧ Reg A b1.2)) := by
    have hm := Sm.rf (A := A) (σ := σ)
    by_cases q : x4 ≤ x5
    · have hf := xip q hf
      obtain ⟨b0, hg, e9⟩ := xmj hf
      subst e9
      have hf := hg
      refine ⟨fun a' e => xnc2 e, fun b e => ?_⟩
      have h9 := Sum.inr.inj e
      subst h9
      have hf := xsj hf
      subst hf
      exact ⟨fun a' e => (by have h9 := Sum.inl.inj e; subst h9; exact ⟨hm, hA⟩), fun b e => xnc1 e⟩
    · have hf := xin q hf
      exact ⟨fun a' e => ⟨hm.tr ((n_X12_lakes_l119 (a := (x4, (0 : Int32), σ)) hA hr0 hf).1 a' e).1, ((n_X12_lakes_l119 (a := (x4, (0 : Int32), σ)) hA hr0 hf).1 a' e).2⟩, fun b2 eb2 => ⟨fun a' e => ⟨hm.tr (((n_X12_lakes_l119 (a := (x4, (0 : Int32), σ)) hA hr0 hf).2 b2 eb2).1 a' e).1, (((n_X12_lakes_l119 (a := (x4, (0 : Int32), σ)) hA hr0 hf).2 b2 eb2).1 a' e).2⟩, fun b1 eb1 => ⟨hm.tr (((n_X12_lakes_l119 (a := (x4, (0 : Int32), σ)) hA hr0 hf).2 b2 eb2).2 b1 eb1).1, (((n_X12_lakes_l119 (a := (x4, (0 : Int32), σ)) hA hr0 hf).2 b2 eb2).2 b1 eb1).2⟩⟩⟩
  cases y with
  | inl a' =>
    obtain ⟨hm, hA1⟩ := hy.1 a' rfl
    have h1 := hc a' rfl hA1
    exact ⟨fun a' e => ⟨hm.tr ((h1).1 a' e).1, ((h1).1 a' e).2⟩, fun b1 eb1 => ⟨hm.tr ((h1).2 b1 eb1).1, ((h1).2 b1 eb1).2⟩⟩
  | inr b =>
    have h1 := he b rfl
    subst h1
    exact hy.2 _ rfl
theorem n_X12_lakes_l44 {A : Nat → Prop} {r0 : Nat} {x1 : Int32} {a : Int32 × Int32 × XS} {x : Int32 × XS} (hA : Reg A a.2.2) (hr0 : A r0) (hf : xloop (f_X12_lakes_b44 r0 x1) a = some x) : Sm A a.2.2 x.2 ∧ Reg A x.2 := by
  revert hA
  refine xloop_ind (P := fun a => Reg A a.2.2 → Sm A a.2.2 x.2 ∧ Reg A x.2) (fun a y hf hc he => ?_) hf
  obtain ⟨x2, x3, σ⟩ := a
  intro hA
  have hA0 : Reg A σ := hA
  have hy : (∀ a' : Int32 × Int32 × XS, y = .inl a' → Sm A σ a'.2.2 ∧ Reg A a'.2.2) ∧ (∀ b1 : Int32 × XS, y = .inr b1 → Sm A σ b1.2 ∧ Reg A b1.2) := by
    have hm := Sm.rf (A := A) (σ := σ)
    obtain ⟨_, e1, hf⟩ := xbd hf
    obtain ⟨v3, e2, hf⟩ := xbd hf
    by_cases q : v3 ≤ x3
    · have hf := xip q hf
      obtain ⟨b0, hg, e9⟩ := xmj hf
      subst e9
      have hf := hg
      refine ⟨fun a' e => xnc2 e, fun b e => ?_⟩
      have h9 := Sum.inr.inj e
      subst h9
      have hf := xsj hf
      subst hf
      exact ⟨hm, hA⟩
    · have hf := xin q hf
      obtain ⟨z5, e4, hf⟩ := xbd hf
      obtain ⟨v7, e6, hf⟩ := xbd hf
      by_cases q : v7 = 0
      · have hf := xip q hf
        obtain ⟨z9, e8, hf⟩ := xbd hf
        obtain ⟨v11, e10, hf⟩ := xbd hf
        by_cases q : v11 = (100000 : Int32)
        · have hf := xip q hf
          have hf := xsj hf
          subst hf
          exact ⟨fun a' e => (by have h9 := Sum.inl.inj e; subst h9; exact ⟨hm, hA⟩), fun b e => xnc1 e⟩
        · have hf := xin q hf
          obtain ⟨z13, e12, hf⟩ := xbd hf
          obtain ⟨v15, e14, hf⟩ := xbd hf
          by_cases q : v15 ≤ x1
          · have hf := xip q hf
            obtain ⟨z17, e16, hf⟩ := xbd hf
            have hz17 := xgR_reg rfl hA hr0 e16
            obtain ⟨σ19, e18, hf⟩ := xbd hf
            obtain ⟨hm9, hA⟩ := xsI_reg hA hz17 e18
            have hm := hm.tr hm9
            obtain ⟨z21, e20, hf⟩ := xbd hf
            have hz21 := xgR_reg rfl hA hr0 e20
            obtain ⟨σ23, e22, hf⟩ := xbd hf
            obtain ⟨hm9, hA⟩ := xsI_reg hA hz21 e22
            have hm := hm.tr hm9
            exact ⟨fun a' e => ⟨hm.tr ((n_X12_lakes_l109 (a := ((1 : Int32), (0 : Int32), σ23)) hA hr0 hf).1 a' e).1, ((n_X12_lakes_l109 (a := ((1 : Int32), (0 : Int32), σ23)) hA hr0 hf).1 a' e).2⟩, fun b1 eb1 => ⟨hm.tr ((n_X12_lakes_l109 (a := ((1 : Int32), (0 : Int32), σ23)) hA hr0 hf).2 b1 eb1).1, ((n_X12_lakes_l109 (a := ((1 : Int32), (0 : Int32), σ23)) hA hr0 hf).2 b1 eb1).2⟩⟩
          · have hf := xin q hf
            have hf := xsj hf
            subst hf
            exact ⟨fun a' e => (by have h9 := Sum.inl.inj e; subst h9; exact ⟨hm, hA⟩), fun b e => xnc1 e⟩
      · have hf := xin q hf
        have hf := xsj hf
        subst hf
        exact ⟨fun a' e => (by have h9 := Sum.inl.inj e; subst h9; exact ⟨hm, hA⟩), fun b e => xnc1 e⟩
  cases y with
  | inl a' =>
    obtain ⟨hm, hA1⟩ := hy.1 a' rfl
    have h1 := hc a' rfl hA1
    exact ⟨hm.tr (h1).1, (h1).2⟩
  | inr b =>
    have h1 := he b rfl
    subst h1
    exact hy.2 _ rfl
theorem n_X12_lakes_l19 {A : Nat → Prop} {r0 : Nat} {x1 : Int32} {a : Int32 × XS} {x : Int32 × XS} (hA : Reg A a.2) (hr0 : A r0) (hf : xloop (f_X12_lakes_b19 r0 x1) a = some x) : Sm A a.2 x.2 ∧ Reg A x.2 := by
  revert hA
  refine xloop_ind (P := fun a => Reg A a.2 → Sm A a.2 x.2 ∧ Reg A x.2) (fun a y hf hc he => ?_) hf
  obtain ⟨x2, σ⟩ := a
  intro hA
  have hA0 : Reg A σ := hA
  have hy : (∀ a' : Int32 × XS, y = .inl a' → Sm A σ a'.2 ∧ Reg A a'.2) ∧ (∀ b1 : Int32 × XS, y = .inr b1 → Sm A σ b1.2 ∧ Reg A b1.2) := by
    have hm := Sm.rf (A := A) (σ := σ)
    obtain ⟨_, e1, hf⟩ := xbd hf
    obtain ⟨v3, e2, hf⟩ := xbd hf
    by_cases q : v3 ≤ x2
    · have hf := xip q hf
      obtain ⟨b0, hg, e9⟩ := xmj hf
      subst e9
      have hf := hg
      refine ⟨fun a' e => xnc2 e, fun b e => ?_⟩
      have h9 := Sum.inr.inj e
      subst h9
      exact ⟨hm.tr (n_X12_lakes_l44 (a := ((0 : Int32), (0 : Int32), σ)) hA hr0 hf).1, (n_X12_lakes_l44 (a := ((0 : Int32), (0 : Int32), σ)) hA hr0 hf).2⟩
    · have hf := xin q hf
      obtain ⟨z5, e4, hf⟩ := xbd hf
      have hz5 := xgR_reg rfl hA hr0 e4
      obtain ⟨σ7, e6, hf⟩ := xbd hf
      obtain ⟨hm9, hA⟩ := xsI_reg hA hz5 e6
      have hm := hm.tr hm9
      have hf := xsj hf
      subst hf
      exact ⟨fun a' e => (by have h9 := Sum.inl.inj e; subst h9; exact ⟨hm, hA⟩), fun b e => xnc1 e⟩
  cases y with
  | inl a' =>
    obtain ⟨hm, hA1⟩ := hy.1 a' rfl
    have h1 := hc a' rfl hA1
    exact ⟨hm.tr (h1).1, (h1).2⟩
  | inr b =>
    have h1 := he b rfl
    subst h1
    exact hy.2 _ rfl
theorem n_X12_lakes {A : Nat → Prop} {σ : XS} {r0 : Nat} {x1 : Int32} {x : Int32 × XS} (hA : Reg A σ) (hr0 : A r0) (hf : f_X12_lakes σ r0 x1 = some x) : Sm A σ x.2 ∧ Reg A x.2 := by
  have hm := Sm.rf (A := A) (σ := σ)
  obtain ⟨_, e1, hf⟩ := xbd hf
  obtain ⟨v3, e2, hf⟩ := xbd hf
  by_cases q : v3 ≤ (10 : Int32)
  · have hf := xip q hf
    obtain ⟨_, e4, hf⟩ := xbd hf
    obtain ⟨σ6, e5, hf⟩ := xbd hf
    obtain ⟨hm9, hA⟩ := n_X12_knows hA hr0 e5
    have hm := hm.tr hm9
    exact ⟨hm.tr (n_X12_lakes_l19 (a := ((0 : Int32), σ6)) hA hr0 hf).1, (n_X12_lakes_l19 (a := ((0 : Int32), σ6)) hA hr0 hf).2⟩
  · have hf := xin q hf
    have hf := xsj hf
    subst hf
    exact ⟨hm, hA⟩
theorem n_X12_level {A : Nat → Prop} {σ : XS} {r0 : Nat} {x1 : Int32} {x2 : Int32} {x : Int32 × XS} (hA : Reg A σ) (hr0 : A r0) (hf : f_X12_level σ r0 x1 x2 = some x) : Sm A σ x.2 ∧ Reg A x.2 := by
  have hm := Sm.rf (A := A) (σ := σ)
  obtain ⟨_, e1, hf⟩ := xbd hf
  obtain ⟨σ3, e2, hf⟩ := xbd hf
  obtain ⟨hm9, hA⟩ := n_X12_knows hA hr0 e2
  have hm := hm.tr hm9
  by_cases q : x1 = (-1 : Int32)
  · have hf := xip q hf
    obtain ⟨v5, e4, hf⟩ := xbd hf
    have hf := xsj hf
    subst hf
    exact ⟨hm, hA⟩
  · have hf := xin q hf
    obtain ⟨v5, e4, hf⟩ := xbd hf
    obtain ⟨v7, e6, hf⟩ := xbd hf
    by_cases q : v7 = 0
    · have hf := xip q hf
      have hf := xsj hf
      subst hf
      exact ⟨hm, hA⟩
    · have hf := xin q hf
      by_cases ho : (x2).toInt < 0 ∨ 4 < (x2).toInt
      · have hf := xsw_out ho rfl hf
        have hf := xsj hf
        subst hf
        exact ⟨hm, hA⟩
      · rcases (by omega : (x2).toInt = 0 + ((0 : Nat) : Int) ∨ (x2).toInt = 0 + ((1 : Nat) : Int) ∨ (x2).toInt = 0 + ((2 : Nat) : Int) ∨ (x2).toInt = 0 + ((3 : Nat) : Int) ∨ (x2).toInt = 0 + ((4 : Nat) : Int)) with hk1 | hk1 | hk1 | hk1 | hk1
        · have hf := xsw_in 0 hk1 rfl hf
          obtain ⟨z9, e8, hf⟩ := xbd hf
          obtain ⟨v11, e10, hf⟩ := xbd hf
          have hf := xsj hf
          subst hf
          exact ⟨hm, hA⟩
        · have hf := xsw_in 1 hk1 rfl hf
          obtain ⟨z9, e8, hf⟩ := xbd hf
          obtain ⟨z11, e10, hf⟩ := xbd hf
          obtain ⟨v13, e12, hf⟩ := xbd hf
          obtain ⟨v15, e14, hf⟩ := xbd hf
          have hf := xsj hf
          subst hf
          exact ⟨hm, hA⟩
        · have hf := xsw_in 2 hk1 rfl hf
          obtain ⟨z9, e8, hf⟩ := xbd hf
          obtain ⟨v11, e10, hf⟩ := xbd hf
          obtain ⟨_, e12, hf⟩ := xbd hf
          obtain ⟨v14, e13, hf⟩ := xbd hf
          have hf := xsj hf
          subst hf
          exact ⟨hm, hA⟩
        · have hf := xsw_in 3 hk1 rfl hf
          obtain ⟨z9, e8, hf⟩ := xbd hf
          obtain ⟨v11, e10, hf⟩ := xbd hf
          obtain ⟨_, e12, hf⟩ := xbd hf
          obtain ⟨v14, e13, hf⟩ := xbd hf
          have hf := xsj hf
          subst hf
          exact ⟨hm, hA⟩
        · have hf := xsw_in 4 hk1 rfl hf
          obtain ⟨z9, e8, hf⟩ := xbd hf
          obtain ⟨v11, e10, hf⟩ := xbd hf
          obtain ⟨_, e12, hf⟩ := xbd hf
          obtain ⟨v14, e13, hf⟩ := xbd hf
          have hf := xsj hf
          subst hf
          exact ⟨hm, hA⟩
theorem n_X12_passes {A : Nat → Prop} {σ : XS} {r0 : Nat} {x : XS} (hA : Reg A σ) (hr0 : A r0) (hf : f_X12_passes σ r0 = some x) : Sm A σ x ∧ Reg A x := by
  have hm := Sm.rf (A := A) (σ := σ)
  obtain ⟨v2, e1, hf⟩ := xbd hf
  by_cases q : v2 = (400 : Int32)
  · have hf := xip q hf
    obtain ⟨_, e3, hf⟩ := xbd hf
    obtain ⟨σ5, e4, hf⟩ := xbd hf
    obtain ⟨hm9, hA⟩ := n_X12_fail hA hr0 e4
    have hm := hm.tr hm9
    have hf := xsj hf
    subst hf
    exact ⟨hm, hA⟩
  · have hf := xin q hf
    obtain ⟨v4, e3, hf⟩ := xbd hf
    obtain ⟨σ6, e5, hf⟩ := xbd hf
    obtain ⟨hm9, hA⟩ := xpI_reg hA hr0 e5
    have hm := hm.tr hm9
    have hf := xsj hf
    subst hf
    exact ⟨hm, hA⟩
theorem n_X12_must {A : Nat → Prop} {σ : XS} {r0 : Nat} {x1 : Int32} {x : XS} (hA : Reg A σ) (hr0 : A r0) (hf : f_X12_must σ r0 x1 = some x) : Sm A σ x ∧ Reg A x := by
  have hm := Sm.rf (A := A) (σ := σ)
  obtain ⟨_, e1, hf⟩ := xbd hf
  obtain ⟨v3, e2, hf⟩ := xbd hf
  by_cases q : v3 = 0
  · have hf := xip q hf
    obtain ⟨_, e4, hf⟩ := xbd hf
    obtain ⟨σ6, e5, hf⟩ := xbd hf
    obtain ⟨hm9, hA⟩ := n_X12_fail hA hr0 e5
    have hm := hm.tr hm9
    have hf := xsj hf
    subst hf
    exact ⟨hm, hA⟩
  · have hf := xin q hf
    obtain ⟨_, e4, hf⟩ := xbd hf
    obtain ⟨σ6, e5, hf⟩ := xbd hf
    obtain ⟨hm9, hA⟩ := n_X12_passes hA hr0 e5
    have hm := hm.tr hm9
    have hf := xsj hf
    subst hf
    exact ⟨hm, hA⟩
theorem n_X12_mustJ_j12 {A : Nat → Prop} {σ : XS} {r0 : Nat} {x : XS} (hA : Reg A σ) (hr0 : A r0) (hf : f_X12_mustJ_j12 σ r0 = some x) : Sm A σ x ∧ Reg A x := by
  have hm := Sm.rf (A := A) (σ := σ)
  obtain ⟨_, e1, hf⟩ := xbd hf
  obtain ⟨σ3, e2, hf⟩ := xbd hf
  obtain ⟨hm9, hA⟩ := n_X12_must hA hr0 e2
  have hm := hm.tr hm9
  have hf := xsj hf
  subst hf
  exact ⟨hm, hA⟩
theorem n_X12_mustJ {A : Nat → Prop} {σ : XS} {r0 : Nat} {x : XS} (hA : Reg A σ) (hr0 : A r0) (hf : f_X12_mustJ σ r0 = some x) : Sm A σ x ∧ Reg A x := by
  have hm := Sm.rf (A := A) (σ := σ)
  obtain ⟨_, e1, hf⟩ := xbd hf
  obtain ⟨v3, e2, hf⟩ := xbd hf
  by_cases q : v3 = 0
  · have hf := xip q hf
    exact ⟨hm.tr (n_X12_mustJ_j12 hA hr0 hf).1, (n_X12_mustJ_j12 hA hr0 hf).2⟩
  · have hf := xin q hf
    obtain ⟨_, e4, hf⟩ := xbd hf
    obtain ⟨σ6, e5, hf⟩ := xbd hf
    obtain ⟨hm9, hA⟩ := n_X12_passes hA hr0 e5
    have hm := hm.tr hm9
    exact ⟨hm.tr (n_X12_mustJ_j12 hA hr0 hf).1, (n_X12_mustJ_j12 hA hr0 hf).2⟩
theorem n_X12_mustWay {A : Nat → Prop} {σ : XS} {r0 : Nat} {x : XS} (hA : Reg A σ) (hr0 : A r0) (hf : f_X12_mustWay σ r0 = some x) : Sm A σ x ∧ Reg A x := by
  have hm := Sm.rf (A := A) (σ := σ)
  obtain ⟨_, e1, hf⟩ := xbd hf
  obtain ⟨v3, e2, hf⟩ := xbd hf
  by_cases q : v3 = 0
  · have hf := xip q hf
    obtain ⟨_, e4, hf⟩ := xbd hf
    obtain ⟨σ6, e5, hf⟩ := xbd hf
    obtain ⟨hm9, hA⟩ := n_X12_must hA hr0 e5
    have hm := hm.tr hm9
    have hf := xsj hf
    subst hf
    exact ⟨hm, hA⟩
  · have hf := xin q hf
    obtain ⟨_, e4, hf⟩ := xbd hf
    obtain ⟨σ6, e5, hf⟩ := xbd hf
    obtain ⟨hm9, hA⟩ := n_X12_passes hA hr0 e5
    have hm := hm.tr hm9
    have hf := xsj hf
    subst hf
    exact ⟨hm, hA⟩
theorem n_X12_line_j174 {A : Nat → Prop} {σ : XS} {r0 : Nat} {x : XS} (hA : Reg A σ) (hr0 : A r0) (hf : f_X12_line_j174 σ r0 = some x) : Sm A σ x ∧ Reg A x := by
  have hm := Sm.rf (A := A) (σ := σ)
  obtain ⟨_, e1, hf⟩ := xbd hf
  obtain ⟨σ3, e2, hf⟩ := xbd hf
  obtain ⟨hm9, hA⟩ := n_X12_must hA hr0 e2
  have hm := hm.tr hm9
  have hf := xsj hf
  subst hf
  exact ⟨hm, hA⟩
theorem n_X12_line {A : Nat → Prop} {σ : XS} {r0 : Nat} {x : XS} (hA : Reg A σ) (hr0 : A r0) (hf : f_X12_line σ r0 = some x) : Sm A σ x ∧ Reg A x := by
  have hm := Sm.rf (A := A) (σ := σ)
  obtain ⟨z2, e1, hf⟩ := xbd hf
  obtain ⟨v4, e3, hf⟩ := xbd hf
  obtain ⟨v6, e5, hf⟩ := xbd hf
  by_cases ho : (v6).toInt < 21 ∨ 30 < (v6).toInt
  · have hf := xsw_out ho rfl hf
    obtain ⟨_, e7, hf⟩ := xbd hf
    obtain ⟨σ9, e8, hf⟩ := xbd hf
    obtain ⟨hm9, hA⟩ := n_X12_fail hA hr0 e8
    have hm := hm.tr hm9
    have hf := xsj hf
    subst hf
    exact ⟨hm, hA⟩
  · rcases (by omega : (v6).toInt = 21 + ((0 : Nat) : Int) ∨ (v6).toInt = 21 + ((1 : Nat) : Int) ∨ (v6).toInt = 21 + ((2 : Nat) : Int) ∨ (v6).toInt = 21 + ((3 : Nat) : Int) ∨ (v6).toInt = 21 + ((4 : Nat) : Int) ∨ (v6).toInt = 21 + ((5 : Nat) : Int) ∨ (v6).toInt = 21 + ((6 : Nat) : Int) ∨ (v6).toInt = 21 + ((7 : Nat) : Int) ∨ (v6).toInt = 21 + ((8 : Nat) : Int) ∨ (v6).toInt = 21 + ((9 : Nat) : Int)) with hk1 | hk1 | hk1 | hk1 | hk1 | hk1 | hk1 | hk1 | hk1 | hk1
    · have hf := xsw_in 0 hk1 rfl hf
      obtain ⟨_, e7, hf⟩ := xbd hf
      obtain ⟨σ9, e8, hf⟩ := xbd hf
      obtain ⟨hm9, hA⟩ := n_X12_passes hA hr0 e8
      have hm := hm.tr hm9
      obtain ⟨_, e10, hf⟩ := xbd hf
      obtain ⟨σ12, e11, hf⟩ := xbd hf
      obtain ⟨hm9, hA⟩ := n_X12_mustJ hA hr0 e11
      have hm := hm.tr hm9
      exact ⟨hm.tr (n_X12_line_j174 hA hr0 hf).1, (n_X12_line_j174 hA hr0 hf).2⟩
    · have hf := xsw_in 1 hk1 rfl hf
      obtain ⟨_, e7, hf⟩ := xbd hf
      obtain ⟨σ9, e8, hf⟩ := xbd hf
      obtain ⟨hm9, hA⟩ := n_X12_passes hA hr0 e8
      have hm := hm.tr hm9
      obtain ⟨_, e10, hf⟩ := xbd hf
      obtain ⟨σ12, e11, hf⟩ := xbd hf
      obtain ⟨hm9, hA⟩ := n_X12_mustJ hA hr0 e11
      have hm := hm.tr hm9
      exact ⟨hm.tr (n_X12_line_j174 hA hr0 hf).1, (n_X12_line_j174 hA hr0 hf).2⟩
    · have hf := xsw_in 2 hk1 rfl hf
      obtain ⟨_, e7, hf⟩ := xbd hf
      obtain ⟨σ9, e8, hf⟩ := xbd hf
      obtain ⟨hm9, hA⟩ := n_X12_passes hA hr0 e8
      have hm := hm.tr hm9
      obtain ⟨_, e10, hf⟩ := xbd hf
      obtain ⟨σ12, e11, hf⟩ := xbd hf
      obtain ⟨hm9, hA⟩ := n_X12_mustJ hA hr0 e11
      have hm := hm.tr hm9
      exact ⟨hm.tr (n_X12_line_j174 hA hr0 hf).1, (n_X12_line_j174 hA hr0 hf).2⟩
    · have hf := xsw_in 3 hk1 rfl hf
      obtain ⟨_, e7, hf⟩ := xbd hf
      obtain ⟨σ9, e8, hf⟩ := xbd hf
      obtain ⟨hm9, hA⟩ := n_X12_passes hA hr0 e8
      have hm := hm.tr hm9
      obtain ⟨_, e10, hf⟩ := xbd hf
      obtain ⟨σ12, e11, hf⟩ := xbd hf
      obtain ⟨hm9, hA⟩ := n_X12_mustWay hA hr0 e11
      have hm := hm.tr hm9
      exact ⟨hm.tr (n_X12_line_j174 hA hr0 hf).1, (n_X12_line_j174 hA hr0 hf).2⟩
    · have hf := xsw_in 4 hk1 rfl hf
      obtain ⟨_, e7, hf⟩ := xbd hf
      obtain ⟨σ9, e8, hf⟩ := xbd hf
      obtain ⟨hm9, hA⟩ := n_X12_passes hA hr0 e8
      have hm := hm.tr hm9
      obtain ⟨_, e10, hf⟩ := xbd hf
      obtain ⟨σ12, e11, hf⟩ := xbd hf
      obtain ⟨hm9, hA⟩ := n_X12_must hA hr0 e11
      have hm := hm.tr hm9
      obtain ⟨_, e13, hf⟩ := xbd hf
      obtain ⟨σ15, e14, hf⟩ := xbd hf
      obtain ⟨hm9, hA⟩ := n_X12_mustWay hA hr0 e14
      have hm := hm.tr hm9
      obtain ⟨_, e16, hf⟩ := xbd hf
      obtain ⟨σ18, e17, hf⟩ := xbd hf
      obtain ⟨hm9, hA⟩ := n_X12_mustJ hA hr0 e17
      have hm := hm.tr hm9
      exact ⟨hm.tr (n_X12_line_j174 hA hr0 hf).1, (n_X12_line_j174 hA hr0 hf).2⟩
    · have hf := xsw_in 5 hk1 rfl hf
      obtain ⟨_, e7, hf⟩ := xbd hf
      obtain ⟨σ9, e8, hf⟩ := xbd hf
      obtain ⟨hm9, hA⟩ := n_X12_passes hA hr0 e8
      have hm := hm.tr hm9
      obtain ⟨_, e10, hf⟩ := xbd hf
      obtain ⟨σ12, e11, hf⟩ := xbd hf
      obtain ⟨hm9, hA⟩ := n_X12_must hA hr0 e11
      have hm := hm.tr hm9
      obtain ⟨_, e13, hf⟩ := xbd hf
      obtain ⟨σ15, e14, hf⟩ := xbd hf
      obtain ⟨hm9, hA⟩ := n_X12_mustJ hA hr0 e14
      have hm := hm.tr hm9
      exact ⟨hm.tr (n_X12_line_j174 hA hr0 hf).1, (n_X12_line_j174 hA hr0 hf).2⟩
    · have hf := xsw_in 6 hk1 rfl hf
      obtain ⟨_, e7, hf⟩ := xbd hf
      obtain ⟨σ9, e8, hf⟩ := xbd hf
      obtain ⟨hm9, hA⟩ := n_X12_passes hA hr0 e8
      have hm := hm.tr hm9
      obtain ⟨_, e10, hf⟩ := xbd hf
      obtain ⟨σ12, e11, hf⟩ := xbd hf
      obtain ⟨hm9, hA⟩ := n_X12_must hA hr0 e11
      have hm := hm.tr hm9
      obtain ⟨_, e13, hf⟩ := xbd hf
      obtain ⟨v15, e14, hf⟩ := xbd hf
      by_cases q : v15 = 0
      · have hf := xip q hf
        obtain ⟨_, e16, hf⟩ := xbd hf
        obtain ⟨σ18, e17, hf⟩ := xbd hf
        obtain ⟨hm9, hA⟩ := n_X12_must hA hr0 e17
        have hm := hm.tr hm9
        exact ⟨hm.tr (n_X12_line_j174 hA hr0 hf).1, (n_X12_line_j174 hA hr0 hf).2⟩
      · have hf := xin q hf
        obtain ⟨_, e16, hf⟩ := xbd hf
        obtain ⟨σ18, e17, hf⟩ := xbd hf
        obtain ⟨hm9, hA⟩ := n_X12_passes hA hr0 e17
        have hm := hm.tr hm9
        exact ⟨hm.tr (n_X12_line_j174 hA hr0 hf).1, (n_X12_line_j174 hA hr0 hf).2⟩
    · have hf := xsw_in 7 hk1 rfl hf
      obtain ⟨_, e7, hf⟩ := xbd hf
      obtain ⟨σ9, e8, hf⟩ := xbd hf
      obtain ⟨hm9, hA⟩ := n_X12_fail hA hr0 e8
      have hm := hm.tr hm9
      have hf := xsj hf
      subst hf
      exact ⟨hm, hA⟩
    · have hf := xsw_in 8 hk1 rfl hf
      obtain ⟨_, e7, hf⟩ := xbd hf
      obtain ⟨σ9, e8, hf⟩ := xbd hf
      obtain ⟨hm9, hA⟩ := n_X12_fail hA hr0 e8
      have hm := hm.tr hm9
      have hf := xsj hf
      subst hf
      exact ⟨hm, hA⟩
    · have hf := xsw_in 9 hk1 rfl hf
      obtain ⟨_, e7, hf⟩ := xbd hf
      obtain ⟨σ9, e8, hf⟩ := xbd hf
      obtain ⟨hm9, hA⟩ := n_X12_passes hA hr0 e8
      have hm := hm.tr hm9
      obtain ⟨_, e10, hf⟩ := xbd hf
      obtain ⟨σ12, e11, hf⟩ := xbd hf
      obtain ⟨hm9, hA⟩ := n_X12_must hA hr0 e11
      have hm := hm.tr hm9
      exact ⟨hm.tr (n_X12_line_j174 hA hr0 hf).1, (n_X12_line_j174 hA hr0 hf).2⟩
theorem n_X12_mean_l36 {A : Nat → Prop} {σ : XS} {r0 : Nat} {x1 : Int32} {x2 : Int32} {a : Int32 × Int32} {x : Int32 × XS} (hA : Reg A σ) (hf : xloop (f_X12_mean_b36 σ r0 x1 x2) a = some x) : Sm A σ x.2 ∧ Reg A x.2 := by
  revert hA
  refine xloop_ind (P := fun a => Reg A σ → Sm A σ x.2 ∧ Reg A x.2) (fun a y hf hc he => ?_) hf
  obtain ⟨x3, x4⟩ := a
  intro hA
  have hA0 : Reg A σ := hA
  have hy : (∀ a' : Int32 × Int32, y = .inl a' → True) ∧ (∀ b1 : Int32 × XS, y = .inr b1 → Sm A σ b1.2 ∧ Reg A b1.2) := by
    have hm := Sm.rf (A := A) (σ := σ)
    obtain ⟨_, e1, hf⟩ := xbd hf
    obtain ⟨v3, e2, hf⟩ := xbd hf
    by_cases q : v3 ≤ x4
    · have hf := xip q hf
      obtain ⟨b0, hg, e9⟩ := xmj hf
      subst e9
      have hf := hg
      refine ⟨fun a' e => xnc2 e, fun b e => ?_⟩
      have h9 := Sum.inr.inj e
      subst h9
      obtain ⟨z5, e4, hf⟩ := xbd hf
      obtain ⟨z7, e6, hf⟩ := xbd hf
      obtain ⟨v9, e8, hf⟩ := xbd hf
      obtain ⟨v11, e10, hf⟩ := xbd hf
      obtain ⟨v13, e12, hf⟩ := xbd hf
      have hf := xsj hf
      subst hf
      exact ⟨hm, hA⟩
    · have hf := xin q hf
      obtain ⟨z5, e4, hf⟩ := xbd hf
      obtain ⟨v7, e6, hf⟩ := xbd hf
      obtain ⟨z9, e8, hf⟩ := xbd hf
      obtain ⟨v11, e10, hf⟩ := xbd hf
      by_cases q : v7 = v11
      · have hf := xip q hf
        obtain ⟨v13, e12, hf⟩ := xbd hf
        have hf := xsj hf
        subst hf
        exact ⟨fun a' e => (by have h9 := Sum.inl.inj e; subst h9; exact trivial), fun b e => xnc1 e⟩
      · have hf := xin q hf
        have hf := xsj hf
        subst hf
        exact ⟨fun a' e => (by have h9 := Sum.inl.inj e; subst h9; exact trivial), fun b e => xnc1 e⟩
  cases y with
  | inl a' =>
    exact hc a' rfl hA0
  | inr b =>
    have h1 := he b rfl
    subst h1
    exact hy.2 _ rfl
theorem n_X12_mean {A : Nat → Prop} {σ : XS} {r0 : Nat} {x1 : Int32} {x2 : Int32} {x : Int32 × XS} (hA : Reg A σ) (hr0 : A r0) (hf : f_X12_mean σ r0 x1 x2 = some x) : Sm A σ x.2 ∧ Reg A x.2 := by
  have hm := Sm.rf (A := A) (σ := σ)
  obtain ⟨_, e1, hf⟩ := xbd hf
  obtain ⟨σ3, e2, hf⟩ := xbd hf
  obtain ⟨hm9, hA⟩ := n_X12_knows hA hr0 e2
  have hm := hm.tr hm9
  obtain ⟨v5, e4, hf⟩ := xbd hf
  obtain ⟨v7, e6, hf⟩ := xbd hf
  by_cases q : v7 = 0
  · have hf := xip q hf
    have hf := xsj hf
    subst hf
    exact ⟨hm, hA⟩
  · have hf := xin q hf
    obtain ⟨v9, e8, hf⟩ := xbd hf
    by_cases q : v9 = 0
    · have hf := xip q hf
      have hf := xsj hf
      subst hf
      exact ⟨hm, hA⟩
    · have hf := xin q hf
      exact ⟨hm.tr (n_X12_mean_l36 (a := ((0 : Int32), (0 : Int32))) hA hf).1, (n_X12_mean_l36 (a := ((0 : Int32), (0 : Int32))) hA hf).2⟩
theorem n_X12_meansAll_l105 {A : Nat → Prop} {r0 : Nat} {x2 : Int32} {x3 : Int32} {a : Int32 × XS} {x : XS} (hA : Reg A a.2) (hr0 : A r0) (hf : xloop (f_X12_meansAll_b105 r0 x2 x3) a = some x) : Sm A a.2 x ∧ Reg A x := by
  revert hA
  refine xloop_ind (P := fun a => Reg A a.2 → Sm A a.2 x ∧ Reg A x) (fun a y hf hc he => ?_) hf
  obtain ⟨x4, σ⟩ := a
  intro hA
  have hA0 : Reg A σ := hA
  have hy : (∀ a' : Int32 × XS, y = .inl a' → Sm A σ a'.2 ∧ Reg A a'.2) ∧ (∀ b1 : XS, y = .inr b1 → Sm A σ b1 ∧ Reg A b1) := by
    have hm := Sm.rf (A := A) (σ := σ)
    by_cases q : (16 : Int32) ≤ x4
    · have hf := xip q hf
      obtain ⟨b0, hg, e9⟩ := xmj hf
      subst e9
      have hf := hg
      refine ⟨fun a' e => xnc2 e, fun b e => ?_⟩
      have h9 := Sum.inr.inj e
      subst h9
      have hf := xsj hf
      subst hf
      exact ⟨hm, hA⟩
    · have hf := xin q hf
      obtain ⟨z2, e1, hf⟩ := xbd hf
      have hz2 := xgR_reg rfl hA hr0 e1
      obtain ⟨σ4, e3, hf⟩ := xbd hf
      obtain ⟨hm9, hA⟩ := xsI_reg hA hz2 e3
      have hm := hm.tr hm9
      have hf := xsj hf
      subst hf
      exact ⟨fun a' e => (by have h9 := Sum.inl.inj e; subst h9; exact ⟨hm, hA⟩), fun b e => xnc1 e⟩
  cases y with
  | inl a' =>
    obtain ⟨hm, hA1⟩ := hy.1 a' rfl
    have h1 := hc a' rfl hA1
    exact ⟨hm.tr (h1).1, (h1).2⟩
  | inr b =>
    have h1 := he b rfl
    subst h1
    exact hy.2 _ rfl
theorem n_X12_meansAll_j93 {A : Nat → Prop} {σ : XS} {r0 : Nat} {x1 : Int32} {t0 : Int32} {x : XS} (hA : Reg A σ) (hr0 : A r0) (hf : f_X12_meansAll_j93 σ r0 x1 t0 = some x) : Sm A σ x ∧ Reg A x := by
  have hm := Sm.rf (A := A) (σ := σ)
  obtain ⟨_, e1, hf⟩ := xbd hf
  obtain ⟨⟨v4, σ3⟩, e2, hf⟩ := xbd hf
  dsimp only at hf
  obtain ⟨hm9, hA⟩ := n_X12_jAt hA hr0 e2
  have hm := hm.tr hm9
  exact ⟨hm.tr (n_X12_meansAll_l105 (a := ((0 : Int32), σ3)) hA hr0 hf).1, (n_X12_meansAll_l105 (a := ((0 : Int32), σ3)) hA hr0 hf).2⟩
theorem n_X12_meansAll_j60 {A : Nat → Prop} {σ : XS} {r0 : Nat} {x1 : Int32} {x : XS} (hA : Reg A σ) (hr0 : A r0) (hf : f_X12_meansAll_j60 σ r0 x1 = some x) : Sm A σ x ∧ Reg A x := by
  have hm := Sm.rf (A := A) (σ := σ)
  obtain ⟨z2, e1, hf⟩ := xbd hf
  obtain ⟨v4, e3, hf⟩ := xbd hf
  by_cases q : v4 = (21 : Int32)
  · have hf := xip q hf
    exact ⟨hm.tr (n_X12_meansAll_j93 hA hr0 hf).1, (n_X12_meansAll_j93 hA hr0 hf).2⟩
  · have hf := xin q hf
    obtain ⟨z6, e5, hf⟩ := xbd hf
    obtain ⟨v8, e7, hf⟩ := xbd hf
    by_cases q : v8 = (22 : Int32)
    · have hf := xip q hf
      exact ⟨hm.tr (n_X12_meansAll_j93 hA hr0 hf).1, (n_X12_meansAll_j93 hA hr0 hf).2⟩
    · have hf := xin q hf
      exact ⟨hm.tr (n_X12_meansAll_j93 hA hr0 hf).1, (n_X12_meansAll_j93 hA hr0 hf).2⟩
theorem n_X12_meansAll_j26 {A : Nat → Prop} {σ : XS} {r0 : Nat} {x1 : Int32} {x : XS} (hA : Reg A σ) (hr0 : A r0) (hf : f_X12_meansAll_j26 σ r0 x1 = some x) : Sm A σ x ∧ Reg A x := by
  have hm := Sm.rf (A := A) (σ := σ)
  obtain ⟨z2, e1, hf⟩ := xbd hf
  obtain ⟨v4, e3, hf⟩ := xbd hf
  by_cases q : v4 = (21 : Int32)
  · have hf := xip q hf
    exact ⟨hm.tr (n_X12_meansAll_j60 hA hr0 hf).1, (n_X12_meansAll_j60 hA hr0 hf).2⟩
  · have hf := xin q hf
    obtain ⟨z6, e5, hf⟩ := xbd hf
    obtain ⟨v8, e7, hf⟩ := xbd hf
    by_cases q : v8 = (22 : Int32)
    · have hf := xip q hf
      exact ⟨hm.tr (n_X12_meansAll_j60 hA hr0 hf).1, (n_X12_meansAll_j60 hA hr0 hf).2⟩
    · have hf := xin q hf
      obtain ⟨z10, e9, hf⟩ := xbd hf
      obtain ⟨v12, e11, hf⟩ := xbd hf
      by_cases q : v12 = (23 : Int32)
      · have hf := xip q hf
        exact ⟨hm.tr (n_X12_meansAll_j60 hA hr0 hf).1, (n_X12_meansAll_j60 hA hr0 hf).2⟩
      · have hf := xin q hf
        have hf := xsj hf
        subst hf
        exact ⟨hm, hA⟩
theorem n_X12_meansAll {A : Nat → Prop} {σ : XS} {r0 : Nat} {x1 : Int32} {x : XS} (hA : Reg A σ) (hr0 : A r0) (hf : f_X12_meansAll σ r0 x1 = some x) : Sm A σ x ∧ Reg A x := by
  have hm := Sm.rf (A := A) (σ := σ)
  obtain ⟨z2, e1, hf⟩ := xbd hf
  obtain ⟨v4, e3, hf⟩ := xbd hf
  by_cases q : v4 = (30 : Int32)
  · have hf := xip q hf
    obtain ⟨z6, e5, hf⟩ := xbd hf
    have hz6 := xgR_reg rfl hA hr0 e5
    obtain ⟨z8, e7, hf⟩ := xbd hf
    obtain ⟨v10, e9, hf⟩ := xbd hf
    obtain ⟨σ12, e11, hf⟩ := xbd hf
    obtain ⟨hm9, hA⟩ := xsI_reg hA hz6 e11
    have hm := hm.tr hm9
    exact ⟨hm.tr (n_X12_meansAll_j26 hA hr0 hf).1, (n_X12_meansAll_j26 hA hr0 hf).2⟩
  · have hf := xin q hf
    exact ⟨hm.tr (n_X12_meansAll_j26 hA hr0 hf).1, (n_X12_meansAll_j26 hA hr0 hf).2⟩
theorem n_X12_meansOne_j200 {A : Nat → Prop} {σ : XS} {r0 : Nat} {x2 : Int32} {x3 : Int32} {x4 : Int32} {x5 : Int32} {t0 : Nat} {t1 : Int32} {x : XS} (hA : Reg A σ) (hr0 : A r0) (ht0 : A t0) (hf : f_X12_meansOne_j200 σ r0 x2 x3 x4 x5 t0 t1 = some x) : Sm A σ x ∧ Reg A x := by
  have hm := Sm.rf (A := A) (σ := σ)
  obtain ⟨_, e1, hf⟩ := xbd hf
  obtain ⟨⟨v4, σ3⟩, e2, hf⟩ := xbd hf
  dsimp only at hf
  obtain ⟨hm9, hA⟩ := n_X12_jAt hA ht0 e2
  have hm := hm.tr hm9
  by_cases q : x4 = 0
  · have hf := xip q hf
    have hf := xsj hf
    subst hf
    exact ⟨hm, hA⟩
  · have hf := xin q hf
    obtain ⟨z6, e5, hf⟩ := xbd hf
    have hz6 := xgR_reg rfl hA hr0 e5
    by_cases q : x2 = (26 : Int32)
    · have hf := xip q hf
      obtain ⟨σ8, e7, hf⟩ := xbd hf
      obtain ⟨hm9, hA⟩ := xsI_reg hA hz6 e7
      have hm := hm.tr hm9
      have hf := xsj hf
      subst hf
      exact ⟨hm, hA⟩
    · have hf := xin q hf
      by_cases q : x5 = 0
      · have hf := xip q hf
        obtain ⟨σ8, e7, hf⟩ := xbd hf
        obtain ⟨hm9, hA⟩ := xsI_reg hA hz6 e7
        have hm := hm.tr hm9
        have hf := xsj hf
        subst hf
        exact ⟨hm, hA⟩
      · have hf := xin q hf
        obtain ⟨σ8, e7, hf⟩ := xbd hf
        obtain ⟨hm9, hA⟩ := xsI_reg hA hz6 e7
        have hm := hm.tr hm9
        have hf := xsj hf
        subst hf
        exact ⟨hm, hA⟩
theorem n_X12_meansOne_j145 {A : Nat → Prop} {σ : XS} {r0 : Nat} {x1 : Int32} {x2 : Int32} {x3 : Int32} {x4 : Int32} {x5 : Int32} {x : XS} (hA : Reg A σ) (hr0 : A r0) (hf : f_X12_meansOne_j145 σ r0 x1 x2 x3 x4 x5 = some x) : Sm A σ x ∧ Reg A x := by
  have hm := Sm.rf (A := A) (σ := σ)
  by_cases q : x2 = (27 : Int32)
  · have hf := xip q hf
    by_cases q : x4 = 0
    · have hf := xip q hf
      have hf := xsj hf
      subst hf
      exact ⟨hm, hA⟩
    · have hf := xin q hf
      obtain ⟨z2, e1, hf⟩ := xbd hf
      have hz2 := xgR_reg rfl hA hr0 e1
      obtain ⟨z4, e3, hf⟩ := xbd hf
      obtain ⟨v6, e5, hf⟩ := xbd hf
      by_cases q : v6 = (28 : Int32)
      · have hf := xip q hf
        obtain ⟨σ8, e7, hf⟩ := xbd hf
        obtain ⟨hm9, hA⟩ := xsI_reg hA hz2 e7
        have hm := hm.tr hm9
        have hf := xsj hf
        subst hf
        exact ⟨hm, hA⟩
      · have hf := xin q hf
        obtain ⟨σ8, e7, hf⟩ := xbd hf
        obtain ⟨hm9, hA⟩ := xsI_reg hA hz2 e7
        have hm := hm.tr hm9
        have hf := xsj hf
        subst hf
        exact ⟨hm, hA⟩
  · have hf := xin q hf
    by_cases q : x2 = (25 : Int32)
    · have hf := xip q hf
      exact ⟨hm.tr (n_X12_meansOne_j200 hA hr0 hr0 hf).1, (n_X12_meansOne_j200 hA hr0 hr0 hf).2⟩
    · have hf := xin q hf
      exact ⟨hm.tr (n_X12_meansOne_j200 hA hr0 hr0 hf).1, (n_X12_meansOne_j200 hA hr0 hr0 hf).2⟩
theorem n_X12_meansOne_j134 {A : Nat → Prop} {σ : XS} {r0 : Nat} {x1 : Int32} {x2 : Int32} {x3 : Int32} {x5 : Int32} {x : XS} (hA : Reg A σ) (hr0 : A r0) (hf : f_X12_meansOne_j134 σ r0 x1 x2 x3 x5 = some x) : Sm A σ x ∧ Reg A x := by
  have hm := Sm.rf (A := A) (σ := σ)
  obtain ⟨_, e1, hf⟩ := xbd hf
  obtain ⟨σ3, e2, hf⟩ := xbd hf
  obtain ⟨hm9, hA⟩ := n_X12_wrong hA hr0 e2
  have hm := hm.tr hm9
  exact ⟨hm.tr (n_X12_meansOne_j145 hA hr0 hf).1, (n_X12_meansOne_j145 hA hr0 hf).2⟩
theorem n_X12_meansOne_j128 {A : Nat → Prop} {σ : XS} {r0 : Nat} {x1 : Int32} {x2 : Int32} {x3 : Int32} {x4 : Int32} {x5 : Int32} {t0 : Int32} {t1 : Int32} {t2 : Int32} {t3 : Int32} {t4 : Int32} {x : XS} (hA : Reg A σ) (hr0 : A r0) (hf : f_X12_meansOne_j128 σ r0 x1 x2 x3 x4 x5 t0 t1 t2 t3 t4 = some x) : Sm A σ x ∧ Reg A x := by
  have hm := Sm.rf (A := A) (σ := σ)
  obtain ⟨v2, e1, hf⟩ := xbd hf
  by_cases q : 0 ≤ v2
  · have hf := xip q hf
    exact ⟨hm.tr (n_X12_meansOne_j145 hA hr0 hf).1, (n_X12_meansOne_j145 hA hr0 hf).2⟩
  · have hf := xin q hf
    exact ⟨hm.tr (n_X12_meansOne_j134 hA hr0 hf).1, (n_X12_meansOne_j134 hA hr0 hf).2⟩
theorem n_X12_meansOne_j80 {A : Nat → Prop} {σ : XS} {r0 : Nat} {x1 : Int32} {x2 : Int32} {x3 : Int32} {x4 : Int32} {t0 : Int32} {x : XS} (hA : Reg A σ) (hr0 : A r0) (hf : f_X12_meansOne_j80 σ r0 x1 x2 x3 x4 t0 = some x) : Sm A σ x ∧ Reg A x := by
  have hm := Sm.rf (A := A) (σ := σ)
  obtain ⟨v2, e1, hf⟩ := xbd hf
  obtain ⟨v4, e3, hf⟩ := xbd hf
  by_cases q : (v2 * v4) ≤ x3
  · have hf := xip q hf
    exact ⟨hm.tr (n_X12_meansOne_j134 hA hr0 hf).1, (n_X12_meansOne_j134 hA hr0 hf).2⟩
  · have hf := xin q hf
    by_cases q : x2 = (25 : Int32)
    · have hf := xip q hf
      obtain ⟨v6, e5, hf⟩ := xbd hf
      obtain ⟨v8, e7, hf⟩ := xbd hf
      by_cases q : t0 = 0
      · have hf := xip q hf
        obtain ⟨v10, e9, hf⟩ := xbd hf
        exact ⟨hm.tr (n_X12_meansOne_j128 hA hr0 hf).1, (n_X12_meansOne_j128 hA hr0 hf).2⟩
      · have hf := xin q hf
        obtain ⟨v10, e9, hf⟩ := xbd hf
        exact ⟨hm.tr (n_X12_meansOne_j128 hA hr0 hf).1, (n_X12_meansOne_j128 hA hr0 hf).2⟩
    · have hf := xin q hf
      exact ⟨hm.tr (n_X12_meansOne_j145 hA hr0 hf).1, (n_X12_meansOne_j145 hA hr0 hf).2⟩
theorem n_X12_meansOne_j60 {A : Nat → Prop} {σ : XS} {r0 : Nat} {x1 : Int32} {x2 : Int32} {x3 : Int32} {t0 : Int32} {x : XS} (hA : Reg A σ) (hr0 : A r0) (hf : f_X12_meansOne_j60 σ r0 x1 x2 x3 t0 = some x) : Sm A σ x ∧ Reg A x := by
  have hm := Sm.rf (A := A) (σ := σ)
  obtain ⟨z2, e1, hf⟩ := xbd hf
  obtain ⟨v4, e3, hf⟩ := xbd hf
  by_cases q : v4 = (22 : Int32)
  · have hf := xip q hf
    exact ⟨hm.tr (n_X12_meansOne_j80 hA hr0 hf).1, (n_X12_meansOne_j80 hA hr0 hf).2⟩
  · have hf := xin q hf
    exact ⟨hm.tr (n_X12_meansOne_j80 hA hr0 hf).1, (n_X12_meansOne_j80 hA hr0 hf).2⟩
theorem n_X12_meansOne_j26 {A : Nat → Prop} {σ : XS} {r0 : Nat} {x1 : Int32} {x2 : Int32} {x : XS} (hA : Reg A σ) (hr0 : A r0) (hf : f_X12_meansOne_j26 σ r0 x1 x2 = some x) : Sm A σ x ∧ Reg A x := by
  have hm := Sm.rf (A := A) (σ := σ)
  obtain ⟨z2, e1, hf⟩ := xbd hf
  obtain ⟨v4, e3, hf⟩ := xbd hf
  obtain ⟨v6, e5, hf⟩ := xbd hf
  obtain ⟨v8, e7, hf⟩ := xbd hf
  by_cases q : (v6 * v8) ≤ v4
  · have hf := xip q hf
    exact ⟨hm.tr (n_X12_meansOne_j60 hA hr0 hf).1, (n_X12_meansOne_j60 hA hr0 hf).2⟩
  · have hf := xin q hf
    obtain ⟨v10, e9, hf⟩ := xbd hf
    by_cases q : v10 = 0
    · have hf := xip q hf
      exact ⟨hm.tr (n_X12_meansOne_j60 hA hr0 hf).1, (n_X12_meansOne_j60 hA hr0 hf).2⟩
    · have hf := xin q hf
      exact ⟨hm.tr (n_X12_meansOne_j60 hA hr0 hf).1, (n_X12_meansOne_j60 hA hr0 hf).2⟩
theorem n_X12_meansOne {A : Nat → Prop} {σ : XS} {r0 : Nat} {x1 : Int32} {x : XS} (hA : Reg A σ) (hr0 : A r0) (hf : f_X12_meansOne σ r0 x1 = some x) : Sm A σ x ∧ Reg A x := by
  have hm := Sm.rf (A := A) (σ := σ)
  obtain ⟨z2, e1, hf⟩ := xbd hf
  obtain ⟨v4, e3, hf⟩ := xbd hf
  by_cases q : v4 = (25 : Int32)
  · have hf := xip q hf
    exact ⟨hm.tr (n_X12_meansOne_j26 hA hr0 hf).1, (n_X12_meansOne_j26 hA hr0 hf).2⟩
  · have hf := xin q hf
    by_cases q : v4 = (26 : Int32)
    · have hf := xip q hf
      exact ⟨hm.tr (n_X12_meansOne_j26 hA hr0 hf).1, (n_X12_meansOne_j26 hA hr0 hf).2⟩
    · have hf := xin q hf
      by_cases q : v4 = (27 : Int32)
      · have hf := xip q hf
        exact ⟨hm.tr (n_X12_meansOne_j26 hA hr0 hf).1, (n_X12_meansOne_j26 hA hr0 hf).2⟩
      · have hf := xin q hf
        have hf := xsj hf
        subst hf
        exact ⟨hm, hA⟩
theorem n_X12_means_l211 {A : Nat → Prop} {r0 : Nat} {a : Int32 × XS} {x : XS} (hA : Reg A a.2) (hr0 : A r0) (hf : xloop (f_X12_means_b211 r0) a = some x) : Sm A a.2 x ∧ Reg A x := by
  revert hA
  refine xloop_ind (P := fun a => Reg A a.2 → Sm A a.2 x ∧ Reg A x) (fun a y hf hc he => ?_) hf
  obtain ⟨x1, σ⟩ := a
  intro hA
  have hA0 : Reg A σ := hA
  have hy : (∀ a' : Int32 × XS, y = .inl a' → Sm A σ a'.2 ∧ Reg A a'.2) ∧ (∀ b1 : XS, y = .inr b1 → Sm A σ b1 ∧ Reg A b1) := by
    have hm := Sm.rf (A := A) (σ := σ)
    obtain ⟨v2, e1, hf⟩ := xbd hf
    by_cases q : v2 ≤ x1
    · have hf := xip q hf
      obtain ⟨b0, hg, e9⟩ := xmj hf
      subst e9
      have hf := hg
      refine ⟨fun a' e => xnc2 e, fun b e => ?_⟩
      have h9 := Sum.inr.inj e
      subst h9
      have hf := xsj hf
      subst hf
      exact ⟨hm, hA⟩
    · have hf := xin q hf
      obtain ⟨z4, e3, hf⟩ := xbd hf
      obtain ⟨v6, e5, hf⟩ := xbd hf
      by_cases q : v6 = (4 : Int32)
      · have hf := xip q hf
        obtain ⟨_, e7, hf⟩ := xbd hf
        obtain ⟨σ9, e8, hf⟩ := xbd hf
        obtain ⟨hm9, hA⟩ := n_X12_meansOne hA hr0 e8
        have hm := hm.tr hm9
        have hf := xsj hf
        subst hf
        exact ⟨fun a' e => (by have h9 := Sum.inl.inj e; subst h9; exact ⟨hm, hA⟩), fun b e => xnc1 e⟩
      · have hf := xin q hf
        have hf := xsj hf
        subst hf
        exact ⟨fun a' e => (by have h9 := Sum.inl.inj e; subst h9; exact ⟨hm, hA⟩), fun b e => xnc1 e⟩
  cases y with
  | inl a' =>
    obtain ⟨hm, hA1⟩ := hy.1 a' rfl
    have h1 := hc a' rfl hA1
    exact ⟨hm.tr (h1).1, (h1).2⟩
  | inr b =>
    have h1 := he b rfl
    subst h1
    exact hy.2 _ rfl
theorem n_X12_means_l178 {A : Nat → Prop} {r0 : Nat} {a : Int32 × XS} {x : XS} (hA : Reg A a.2) (hr0 : A r0) (hf : xloop (f_X12_means_b178 r0) a = some x) : Sm A a.2 x ∧ Reg A x := by
  revert hA
  refine xloop_ind (P := fun a => Reg A a.2 → Sm A a.2 x ∧ Reg A x) (fun a y hf hc he => ?_) hf
  obtain ⟨x1, σ⟩ := a
  intro hA
  have hA0 : Reg A σ := hA
  have hy : (∀ a' : Int32 × XS, y = .inl a' → Sm A σ a'.2 ∧ Reg A a'.2) ∧ (∀ b1 : XS, y = .inr b1 → Sm A σ b1 ∧ Reg A b1) := by
    have hm := Sm.rf (A := A) (σ := σ)
    obtain ⟨v2, e1, hf⟩ := xbd hf
    by_cases q : v2 ≤ x1
    · have hf := xip q hf
      obtain ⟨b0, hg, e9⟩ := xmj hf
      subst e9
      have hf := hg
      refine ⟨fun a' e => xnc2 e, fun b e => ?_⟩
      have h9 := Sum.inr.inj e
      subst h9
      exact ⟨hm.tr (n_X12_means_l211 (a := ((4 : Int32), σ)) hA hr0 hf).1, (n_X12_means_l211 (a := ((4 : Int32), σ)) hA hr0 hf).2⟩
    · have hf := xin q hf
      obtain ⟨z4, e3, hf⟩ := xbd hf
      obtain ⟨v6, e5, hf⟩ := xbd hf
      by_cases q : v6 = (4 : Int32)
      · have hf := xip q hf
        obtain ⟨_, e7, hf⟩ := xbd hf
        obtain ⟨σ9, e8, hf⟩ := xbd hf
        obtain ⟨hm9, hA⟩ := n_X12_meansAll hA hr0 e8
        have hm := hm.tr hm9
        have hf := xsj hf
        subst hf
        exact ⟨fun a' e => (by have h9 := Sum.inl.inj e; subst h9; exact ⟨hm, hA⟩), fun b e => xnc1 e⟩
      · have hf := xin q hf
        have hf := xsj hf
        subst hf
        exact ⟨fun a' e => (by have h9 := Sum.inl.inj e; subst h9; exact ⟨hm, hA⟩), fun b e => xnc1 e⟩
  cases y with
  | inl a' =>
    obtain ⟨hm, hA1⟩ := hy.1 a' rfl
    have h1 := hc a' rfl hA1
    exact ⟨hm.tr (h1).1, (h1).2⟩
  | inr b =>
    have h1 := he b rfl
    subst h1
    exact hy.2 _ rfl
theorem n_X12_means_j141 {A : Nat → Prop} {σ : XS} {r0 : Nat} {x1 : Int32} {x : ((Int32 × XS) ⊕ (XS))} (hA : Reg A σ) (hr0 : A r0) (hf : f_X12_means_j141 σ r0 x1 = some x) : (∀ a' : Int32 × XS, x = .inl a' → Sm A σ a'.2 ∧ Reg A a'.2) ∧ (∀ b1 : XS, x = .inr b1 → Sm A σ b1 ∧ Reg A b1) := by
  have hm := Sm.rf (A := A) (σ := σ)
  obtain ⟨z2, e1, hf⟩ := xbd hf
  obtain ⟨v4, e3, hf⟩ := xbd hf
  by_cases q : v4 = (24 : Int32)
  · have hf := xip q hf
    obtain ⟨z6, e5, hf⟩ := xbd hf
    obtain ⟨v8, e7, hf⟩ := xbd hf
    by_cases q : v8 = (22 : Int32)
    · have hf := xip q hf
      obtain ⟨σ10, e9, hf⟩ := xbd hf
      obtain ⟨hm9, hA⟩ := xpI_reg hA hr0 e9
      have hm := hm.tr hm9
      have hf := xsj hf
      subst hf
      exact ⟨fun a' e => (by have h9 := Sum.inl.inj e; subst h9; exact ⟨hm, hA⟩), fun b e => xnc1 e⟩
    · have hf := xin q hf
      have hf := xsj hf
      subst hf
      exact ⟨fun a' e => (by have h9 := Sum.inl.inj e; subst h9; exact ⟨hm, hA⟩), fun b e => xnc1 e⟩
  · have hf := xin q hf
    have hf := xsj hf
    subst hf
    exact ⟨fun a' e => (by have h9 := Sum.inl.inj e; subst h9; exact ⟨hm, hA⟩), fun b e => xnc1 e⟩
theorem n_X12_means_l104 {A : Nat → Prop} {r0 : Nat} {a : Int32 × XS} {x : XS} (hA : Reg A a.2) (hr0 : A r0) (hf : xloop (f_X12_means_b104 r0) a = some x) : Sm A a.2 x ∧ Reg A x := by
  revert hA
  refine xloop_ind (P := fun a => Reg A a.2 → Sm A a.2 x ∧ Reg A x) (fun a y hf hc he => ?_) hf
  obtain ⟨x1, σ⟩ := a
  intro hA
  have hA0 : Reg A σ := hA
  have hy : (∀ a' : Int32 × XS, y = .inl a' → Sm A σ a'.2 ∧ Reg A a'.2) ∧ (∀ b1 : XS, y = .inr b1 → Sm A σ b1 ∧ Reg A b1) := by
    have hm := Sm.rf (A := A) (σ := σ)
    obtain ⟨v2, e1, hf⟩ := xbd hf
    by_cases q : v2 ≤ x1
    · have hf := xip q hf
      obtain ⟨b0, hg, e9⟩ := xmj hf
      subst e9
      have hf := hg
      refine ⟨fun a' e => xnc2 e, fun b e => ?_⟩
      have h9 := Sum.inr.inj e
      subst h9
      exact ⟨hm.tr (n_X12_means_l178 (a := ((4 : Int32), σ)) hA hr0 hf).1, (n_X12_means_l178 (a := ((4 : Int32), σ)) hA hr0 hf).2⟩
    · have hf := xin q hf
      obtain ⟨z4, e3, hf⟩ := xbd hf
      obtain ⟨v6, e5, hf⟩ := xbd hf
      by_cases q : v6 = (24 : Int32)
      · have hf := xip q hf
        obtain ⟨z8, e7, hf⟩ := xbd hf
        obtain ⟨v10, e9, hf⟩ := xbd hf
        by_cases q : v10 = (21 : Int32)
        · have hf := xip q hf
          obtain ⟨σ12, e11, hf⟩ := xbd hf
          obtain ⟨hm9, hA⟩ := xpI_reg hA hr0 e11
          have hm := hm.tr hm9
          exact ⟨fun a' e => ⟨hm.tr ((n_X12_means_j141 hA hr0 hf).1 a' e).1, ((n_X12_means_j141 hA hr0 hf).1 a' e).2⟩, fun b1 eb1 => ⟨hm.tr ((n_X12_means_j141 hA hr0 hf).2 b1 eb1).1, ((n_X12_means_j141 hA hr0 hf).2 b1 eb1).2⟩⟩
        · have hf := xin q hf
          exact ⟨fun a' e => ⟨hm.tr ((n_X12_means_j141 hA hr0 hf).1 a' e).1, ((n_X12_means_j141 hA hr0 hf).1 a' e).2⟩, fun b1 eb1 => ⟨hm.tr ((n_X12_means_j141 hA hr0 hf).2 b1 eb1).1, ((n_X12_means_j141 hA hr0 hf).2 b1 eb1).2⟩⟩
      · have hf := xin q hf
        exact ⟨fun a' e => ⟨hm.tr ((n_X12_means_j141 hA hr0 hf).1 a' e).1, ((n_X12_means_j141 hA hr0 hf).1 a' e).2⟩, fun b1 eb1 => ⟨hm.tr ((n_X12_means_j141 hA hr0 hf).2 b1 eb1).1, ((n_X12_means_j141 hA hr0 hf).2 b1 eb1).2⟩⟩
  cases y with
  | inl a' =>
    obtain ⟨hm, hA1⟩ := hy.1 a' rfl
    have h1 := hc a' rfl hA1
    exact ⟨hm.tr (h1).1, (h1).2⟩
  | inr b =>
    have h1 := he b rfl
    subst h1
    exact hy.2 _ rfl
theorem n_X12_means_l83 {A : Nat → Prop} {r0 : Nat} {a : Int32 × XS} {x : XS} (hA : Reg A a.2) (hr0 : A r0) (hf : xloop (f_X12_means_b83 r0) a = some x) : Sm A a.2 x ∧ Reg A x := by
  revert hA
  refine xloop_ind (P := fun a => Reg A a.2 → Sm A a.2 x ∧ Reg A x) (fun a y hf hc he => ?_) hf
  obtain ⟨x1, σ⟩ := a
  intro hA
  have hA0 : Reg A σ := hA
  have hy : (∀ a' : Int32 × XS, y = .inl a' → Sm A σ a'.2 ∧ Reg A a'.2) ∧ (∀ b1 : XS, y = .inr b1 → Sm A σ b1 ∧ Reg A b1) := by
    have hm := Sm.rf (A := A) (σ := σ)
    by_cases q : (66 : Int32) ≤ x1
    · have hf := xip q hf
      obtain ⟨b0, hg, e9⟩ := xmj hf
      subst e9
      have hf := hg
      refine ⟨fun a' e => xnc2 e, fun b e => ?_⟩
      have h9 := Sum.inr.inj e
      subst h9
      exact ⟨hm.tr (n_X12_means_l104 (a := ((0 : Int32), σ)) hA hr0 hf).1, (n_X12_means_l104 (a := ((0 : Int32), σ)) hA hr0 hf).2⟩
    · have hf := xin q hf
      obtain ⟨z2, e1, hf⟩ := xbd hf
      have hz2 := xgR_reg rfl hA hr0 e1
      obtain ⟨σ4, e3, hf⟩ := xbd hf
      obtain ⟨hm9, hA⟩ := xsI_reg hA hz2 e3
      have hm := hm.tr hm9
      have hf := xsj hf
      subst hf
      exact ⟨fun a' e => (by have h9 := Sum.inl.inj e; subst h9; exact ⟨hm, hA⟩), fun b e => xnc1 e⟩
  cases y with
  | inl a' =>
    obtain ⟨hm, hA1⟩ := hy.1 a' rfl
    have h1 := hc a' rfl hA1
    exact ⟨hm.tr (h1).1, (h1).2⟩
  | inr b =>
    have h1 := he b rfl
    subst h1
    exact hy.2 _ rfl
theorem n_X12_means_j75 {A : Nat → Prop} {σ : XS} {r0 : Nat} {x : XS} (hA : Reg A σ) (hr0 : A r0) (hf : f_X12_means_j75 σ r0 = some x) : Sm A σ x ∧ Reg A x := by
  have hm := Sm.rf (A := A) (σ := σ)
  obtain ⟨_, e1, hf⟩ := xbd hf
  obtain ⟨σ3, e2, hf⟩ := xbd hf
  obtain ⟨hm9, hA⟩ := n_X12_wrong hA hr0 e2
  have hm := hm.tr hm9
  exact ⟨hm.tr (n_X12_means_l83 (a := ((0 : Int32), σ3)) hA hr0 hf).1, (n_X12_means_l83 (a := ((0 : Int32), σ3)) hA hr0 hf).2⟩
theorem n_X12_means_j48 {A : Nat → Prop} {σ : XS} {r0 : Nat} {x : XS} (hA : Reg A σ) (hr0 : A r0) (hf : f_X12_means_j48 σ r0 = some x) : Sm A σ x ∧ Reg A x := by
  have hm := Sm.rf (A := A) (σ := σ)
  obtain ⟨v2, e1, hf⟩ := xbd hf
  obtain ⟨v4, e3, hf⟩ := xbd hf
  by_cases q : v4 = 0
  · have hf := xip q hf
    exact ⟨hm.tr (n_X12_means_j75 hA hr0 hf).1, (n_X12_means_j75 hA hr0 hf).2⟩
  · have hf := xin q hf
    obtain ⟨v6, e5, hf⟩ := xbd hf
    obtain ⟨v8, e7, hf⟩ := xbd hf
    by_cases q : (v6 * v8) ≤ (16 : Int32)
    · have hf := xip q hf
      exact ⟨hm.tr (n_X12_means_l83 (a := ((0 : Int32), σ)) hA hr0 hf).1, (n_X12_means_l83 (a := ((0 : Int32), σ)) hA hr0 hf).2⟩
    · have hf := xin q hf
      exact ⟨hm.tr (n_X12_means_j75 hA hr0 hf).1, (n_X12_means_j75 hA hr0 hf).2⟩
theorem n_X12_means {A : Nat → Prop} {σ : XS} {r0 : Nat} {x : XS} (hA : Reg A σ) (hr0 : A r0) (hf : f_X12_means σ r0 = some x) : Sm A σ x ∧ Reg A x := by
  have hm := Sm.rf (A := A) (σ := σ)
  obtain ⟨z2, e1, hf⟩ := xbd hf
  obtain ⟨v4, e3, hf⟩ := xbd hf
  obtain ⟨σ6, e5, hf⟩ := xbd hf
  obtain ⟨hm9, hA⟩ := xpI_reg hA hr0 e5
  have hm := hm.tr hm9
  obtain ⟨z8, e7, hf⟩ := xbd hf
  obtain ⟨v10, e9, hf⟩ := xbd hf
  obtain ⟨σ12, e11, hf⟩ := xbd hf
  obtain ⟨hm9, hA⟩ := xpI_reg hA hr0 e11
  have hm := hm.tr hm9
  obtain ⟨σ14, e13, hf⟩ := xbd hf
  obtain ⟨hm9, hA⟩ := xpI_reg hA hr0 e13
  have hm := hm.tr hm9
  obtain ⟨σ16, e15, hf⟩ := xbd hf
  obtain ⟨hm9, hA⟩ := xpI_reg hA hr0 e15
  have hm := hm.tr hm9
  obtain ⟨v18, e17, hf⟩ := xbd hf
  obtain ⟨v20, e19, hf⟩ := xbd hf
  by_cases q : v20 = 0
  · have hf := xip q hf
    obtain ⟨_, e21, hf⟩ := xbd hf
    obtain ⟨σ23, e22, hf⟩ := xbd hf
    obtain ⟨hm9, hA⟩ := n_X12_wrong hA hr0 e22
    have hm := hm.tr hm9
    exact ⟨hm.tr (n_X12_means_j48 hA hr0 hf).1, (n_X12_means_j48 hA hr0 hf).2⟩
  · have hf := xin q hf
    exact ⟨hm.tr (n_X12_means_j48 hA hr0 hf).1, (n_X12_means_j48 hA hr0 hf).2⟩
theorem n_X12_nearest_l30 {A : Nat → Prop} {σ : XS} {r0 : Nat} {x1 : Int32} {x2 : Int32} {a : Int32 × Int32} {x : Int32 × XS} (hA : Reg A σ) (hf : xloop (f_X12_nearest_b30 σ r0 x1 x2) a = some x) : Sm A σ x.2 ∧ Reg A x.2 := by
  revert hA
  refine xloop_ind (P := fun a => Reg A σ → Sm A σ x.2 ∧ Reg A x.2) (fun a y hf hc he => ?_) hf
  obtain ⟨x3, x4⟩ := a
  intro hA
  have hA0 : Reg A σ := hA
  have hy : (∀ a' : Int32 × Int32, y = .inl a' → True) ∧ (∀ b1 : Int32 × XS, y = .inr b1 → Sm A σ b1.2 ∧ Reg A b1.2) := by
    have hm := Sm.rf (A := A) (σ := σ)
    obtain ⟨_, e1, hf⟩ := xbd hf
    obtain ⟨v3, e2, hf⟩ := xbd hf
    by_cases q : v3 ≤ x4
    · have hf := xip q hf
      obtain ⟨b0, hg, e9⟩ := xmj hf
      subst e9
      have hf := hg
      refine ⟨fun a' e => xnc2 e, fun b e => ?_⟩
      have h9 := Sum.inr.inj e
      subst h9
      by_cases q : x2 = 0
      · have hf := xip q hf
        have hf := xsj hf
        subst hf
        exact ⟨hm, hA⟩
      · have hf := xin q hf
        obtain ⟨v5, e4, hf⟩ := xbd hf
        have hf := xsj hf
        subst hf
        exact ⟨hm, hA⟩
    · have hf := xin q hf
      obtain ⟨z5, e4, hf⟩ := xbd hf
      obtain ⟨v7, e6, hf⟩ := xbd hf
      obtain ⟨z9, e8, hf⟩ := xbd hf
      obtain ⟨v11, e10, hf⟩ := xbd hf
      by_cases q : v7 = v11
      · have hf := xip q hf
        by_cases q : x3 < 0
        · have hf := xip q hf
          have hf := xsj hf
          subst hf
          exact ⟨fun a' e => (by have h9 := Sum.inl.inj e; subst h9; exact trivial), fun b e => xnc1 e⟩
        · have hf := xin q hf
          obtain ⟨v13, e12, hf⟩ := xbd hf
          obtain ⟨v15, e14, hf⟩ := xbd hf
          by_cases q : v15 ≤ v13
          · have hf := xip q hf
            have hf := xsj hf
            subst hf
            exact ⟨fun a' e => (by have h9 := Sum.inl.inj e; subst h9; exact trivial), fun b e => xnc1 e⟩
          · have hf := xin q hf
            have hf := xsj hf
            subst hf
            exact ⟨fun a' e => (by have h9 := Sum.inl.inj e; subst h9; exact trivial), fun b e => xnc1 e⟩
      · have hf := xin q hf
        have hf := xsj hf
        subst hf
        exact ⟨fun a' e => (by have h9 := Sum.inl.inj e; subst h9; exact trivial), fun b e => xnc1 e⟩
  cases y with
  | inl a' =>
    exact hc a' rfl hA0
  | inr b =>
    have h1 := he b rfl
    subst h1
    exact hy.2 _ rfl
theorem n_X12_nearest {A : Nat → Prop} {σ : XS} {r0 : Nat} {x1 : Int32} {x2 : Int32} {x : Int32 × XS} (hA : Reg A σ) (hr0 : A r0) (hf : f_X12_nearest σ r0 x1 x2 = some x) : Sm A σ x.2 ∧ Reg A x.2 := by
  have hm := Sm.rf (A := A) (σ := σ)
  obtain ⟨_, e1, hf⟩ := xbd hf
  obtain ⟨v3, e2, hf⟩ := xbd hf
  by_cases q : v3 = 0
  · have hf := xip q hf
    have hf := xsj hf
    subst hf
    exact ⟨hm, hA⟩
  · have hf := xin q hf
    obtain ⟨v5, e4, hf⟩ := xbd hf
    by_cases q : v5 = 0
    · have hf := xip q hf
      have hf := xsj hf
      subst hf
      exact ⟨hm, hA⟩
    · have hf := xin q hf
      obtain ⟨_, e6, hf⟩ := xbd hf
      obtain ⟨σ8, e7, hf⟩ := xbd hf
      obtain ⟨hm9, hA⟩ := n_X12_knows hA hr0 e7
      have hm := hm.tr hm9
      exact ⟨hm.tr (n_X12_nearest_l30 (a := ((-1 : Int32), (0 : Int32))) hA hf).1, (n_X12_nearest_l30 (a := ((-1 : Int32), (0 : Int32))) hA hf).2⟩
theorem n_X12_overlap_l75 {A : Nat → Prop} {σ : XS} {r0 : Nat} {x1 : Int32} {x2 : Int32} {x4 : Int32} {a : Int32 × Int32} {x : ((Int32 × Int32 × Int32 × XS) ⊕ (Int32 × XS))} (hA : Reg A σ) (hr0 : A r0) (hf : xloop (f_X12_overlap_b75 σ r0 x1 x2 x4) a = some x) : (∀ a' : Int32 × Int32 × Int32 × XS, x = .inl a' → Sm A σ a'.2.2.2 ∧ Reg A a'.2.2.2) ∧ (∀ b1 : Int32 × XS, x = .inr b1 → Sm A σ b1.2 ∧ Reg A b1.2) := by
  revert hA
  refine xloop_ind (P := fun a => Reg A σ → (∀ a' : Int32 × Int32 × Int32 × XS, x = .inl a' → Sm A σ a'.2.2.2 ∧ Reg A a'.2.2.2) ∧ (∀ b1 : Int32 × XS, x = .inr b1 → Sm A σ b1.2 ∧ Reg A b1.2)) (fun a y hf hc he => ?_) hf
  obtain ⟨x3, x5⟩ := a
  intro hA
  have hA0 : Reg A σ := hA
  have hy : (∀ a' : Int32 × Int32, y = .inl a' → True) ∧ (∀ b2 : ((Int32 × Int32 × Int32 × XS) ⊕ (Int32 × XS)), y = .inr b2 → (∀ a' : Int32 × Int32 × Int32 × XS, b2 = .inl a' → Sm A σ a'.2.2.2 ∧ Reg A a'.2.2.2) ∧ (∀ b1 : Int32 × XS, b2 = .inr b1 → Sm A σ b1.2 ∧ Reg A b1.2)) := by
    have hm := Sm.rf (A := A) (σ := σ)
    by_cases q : x2 ≤ x5
    · have hf := xip q hf
      obtain ⟨b0, hg, e9⟩ := xmj hf
      subst e9
      have hf := hg
      refine ⟨fun a' e => xnc2 e, fun b e => ?_⟩
      have h9 := Sum.inr.inj e
      subst h9
      obtain ⟨z2, e1, hf⟩ := xbd hf
      have hz2 := xgR_reg rfl hA hr0 e1
      obtain ⟨σ4, e3, hf⟩ := xbd hf
      obtain ⟨hm9, hA⟩ := xsI_reg hA hz2 e3
      have hm := hm.tr hm9
      have hf := xsj hf
      subst hf
      exact ⟨fun a' e => (by have h9 := Sum.inl.inj e; subst h9; exact ⟨hm, hA⟩), fun b e => xnc1 e⟩
    · have hf := xin q hf
      obtain ⟨z2, e1, hf⟩ := xbd hf
      obtain ⟨v4, e3, hf⟩ := xbd hf
      obtain ⟨v6, e5, hf⟩ := xbd hf
      by_cases q : v6 = x1
      · have hf := xip q hf
        have hf := xsj hf
        subst hf
        exact ⟨fun a' e => (by have h9 := Sum.inl.inj e; subst h9; exact trivial), fun b e => xnc1 e⟩
      · have hf := xin q hf
        have hf := xsj hf
        subst hf
        exact ⟨fun a' e => (by have h9 := Sum.inl.inj e; subst h9; exact trivial), fun b e => xnc1 e⟩
  cases y with
  | inl a' =>
    exact hc a' rfl hA0
  | inr b =>
    have h1 := he b rfl
    subst h1
    exact hy.2 _ rfl
theorem n_X12_overlap_l44 {A : Nat → Prop} {r0 : Nat} {x1 : Int32} {a : Int32 × Int32 × Int32 × XS} {x : Int32 × XS} (hA : Reg A a.2.2.2) (hr0 : A r0) (hf : xloop (f_X12_overlap_b44 r0 x1) a = some x) : Sm A a.2.2.2 x.2 ∧ Reg A x.2 := by
  revert hA
  refine xloop_ind (P := fun a => Reg A a.2.2.2 → Sm A a.2.2.2 x.2 ∧ Reg A x.2) (fun a y hf hc he => ?_) hf
  obtain ⟨x2, x3, x4, σ⟩ := a
  intro hA
  have hA0 : Reg A σ := hA
  have hy : (∀ a' : Int32 × Int32 × Int32 × XS, y = .inl a' → Sm A σ a'.2.2.2 ∧ Reg A a'.2.2.2) ∧ (∀ b1 : Int32 × XS, y = .inr b1 → Sm A σ b1.2 ∧ Reg A b1.2) := by
    have hm := Sm.rf (A := A) (σ := σ)
    obtain ⟨_, e1, hf⟩ := xbd hf
    obtain ⟨v3, e2, hf⟩ := xbd hf
    by_cases q : v3 ≤ x4
    · have hf := xip q hf
      obtain ⟨b0, hg, e9⟩ := xmj hf
      subst e9
      have hf := hg
      refine ⟨fun a' e => xnc2 e, fun b e => ?_⟩
      have h9 := Sum.inr.inj e
      subst h9
      have hf := xsj hf
      subst hf
      exact ⟨hm, hA⟩
    · have hf := xin q hf
      obtain ⟨z5, e4, hf⟩ := xbd hf
      obtain ⟨v7, e6, hf⟩ := xbd hf
      obtain ⟨z9, e8, hf⟩ := xbd hf
      obtain ⟨v11, e10, hf⟩ := xbd hf
      by_cases q : v7 = v11
      · have hf := xip q hf
        exact ⟨fun a' e => ⟨hm.tr ((n_X12_overlap_l75 (a := (x3, (0 : Int32))) hA hr0 hf).1 a' e).1, ((n_X12_overlap_l75 (a := (x3, (0 : Int32))) hA hr0 hf).1 a' e).2⟩, fun b1 eb1 => ⟨hm.tr ((n_X12_overlap_l75 (a := (x3, (0 : Int32))) hA hr0 hf).2 b1 eb1).1, ((n_X12_overlap_l75 (a := (x3, (0 : Int32))) hA hr0 hf).2 b1 eb1).2⟩⟩
      · have hf := xin q hf
        have hf := xsj hf
        subst hf
        exact ⟨fun a' e => (by have h9 := Sum.inl.inj e; subst h9; exact ⟨hm, hA⟩), fun b e => xnc1 e⟩
  cases y with
  | inl a' =>
    obtain ⟨hm, hA1⟩ := hy.1 a' rfl
    have h1 := hc a' rfl hA1
    exact ⟨hm.tr (h1).1, (h1).2⟩
  | inr b =>
    have h1 := he b rfl
    subst h1
    exact hy.2 _ rfl
theorem n_X12_overlap {A : Nat → Prop} {σ : XS} {r0 : Nat} {x1 : Int32} {x : Int32 × XS} (hA : Reg A σ) (hr0 : A r0) (hf : f_X12_overlap σ r0 x1 = some x) : Sm A σ x.2 ∧ Reg A x.2 := by
  have hm := Sm.rf (A := A) (σ := σ)
  obtain ⟨_, e1, hf⟩ := xbd hf
  obtain ⟨σ3, e2, hf⟩ := xbd hf
  obtain ⟨hm9, hA⟩ := n_X12_knows hA hr0 e2
  have hm := hm.tr hm9
  obtain ⟨v5, e4, hf⟩ := xbd hf
  by_cases q : v5 = 0
  · have hf := xip q hf
    have hf := xsj hf
    subst hf
    exact ⟨hm, hA⟩
  · have hf := xin q hf
    obtain ⟨z7, e6, hf⟩ := xbd hf
    obtain ⟨z9, e8, hf⟩ := xbd hf
    obtain ⟨v11, e10, hf⟩ := xbd hf
    obtain ⟨v13, e12, hf⟩ := xbd hf
    by_cases q : v13 ≤ (256 : Int32)
    · have hf := xip q hf
      exact ⟨hm.tr (n_X12_overlap_l44 (a := ((0 : Int32), (0 : Int32), (0 : Int32), σ3)) hA hr0 hf).1, (n_X12_overlap_l44 (a := ((0 : Int32), (0 : Int32), (0 : Int32), σ3)) hA hr0 hf).2⟩
    · have hf := xin q hf
      have hf := xsj hf
      subst hf
      exact ⟨hm, hA⟩
theorem n_X12_pair_l54 {A : Nat → Prop} {σ : XS} {r0 : Nat} {x1 : Int32} {x2 : Int32} {x3 : Int32} {x4 : Int32} {a : Int32 × Int32} {x : Int32 × XS} (hA : Reg A σ) (hf : xloop (f_X12_pair_b54 σ r0 x1 x2 x3 x4) a = some x) : Sm A σ x.2 ∧ Reg A x.2 := by
  revert hA
  refine xloop_ind (P := fun a => Reg A σ → Sm A σ x.2 ∧ Reg A x.2) (fun a y hf hc he => ?_) hf
  obtain ⟨x5, x6⟩ := a
  intro hA
  have hA0 : Reg A σ := hA
  have hy : (∀ a' : Int32 × Int32, y = .inl a' → True) ∧ (∀ b1 : Int32 × XS, y = .inr b1 → Sm A σ b1.2 ∧ Reg A b1.2) := by
    have hm := Sm.rf (A := A) (σ := σ)
    obtain ⟨_, e1, hf⟩ := xbd hf
    obtain ⟨v3, e2, hf⟩ := xbd hf
    by_cases q : v3 ≤ x6
    · have hf := xip q hf
      obtain ⟨b0, hg, e9⟩ := xmj hf
      subst e9
      have hf := hg
      refine ⟨fun a' e => xnc2 e, fun b e => ?_⟩
      have h9 := Sum.inr.inj e
      subst h9
      obtain ⟨z5, e4, hf⟩ := xbd hf
      obtain ⟨z7, e6, hf⟩ := xbd hf
      obtain ⟨v9, e8, hf⟩ := xbd hf
      obtain ⟨v11, e10, hf⟩ := xbd hf
      obtain ⟨v13, e12, hf⟩ := xbd hf
      have hf := xsj hf
      subst hf
      exact ⟨hm, hA⟩
    · have hf := xin q hf
      obtain ⟨z5, e4, hf⟩ := xbd hf
      obtain ⟨v7, e6, hf⟩ := xbd hf
      obtain ⟨z9, e8, hf⟩ := xbd hf
      obtain ⟨v11, e10, hf⟩ := xbd hf
      by_cases q : v7 = v11
      · have hf := xip q hf
        obtain ⟨v13, e12, hf⟩ := xbd hf
        obtain ⟨v15, e14, hf⟩ := xbd hf
        by_cases q : v13 = v15
        · have hf := xip q hf
          have hf := xsj hf
          subst hf
          exact ⟨fun a' e => (by have h9 := Sum.inl.inj e; subst h9; exact trivial), fun b e => xnc1 e⟩
        · have hf := xin q hf
          have hf := xsj hf
          subst hf
          exact ⟨fun a' e => (by have h9 := Sum.inl.inj e; subst h9; exact trivial), fun b e => xnc1 e⟩
      · have hf := xin q hf
        have hf := xsj hf
        subst hf
        exact ⟨fun a' e => (by have h9 := Sum.inl.inj e; subst h9; exact trivial), fun b e => xnc1 e⟩
  cases y with
  | inl a' =>
    exact hc a' rfl hA0
  | inr b =>
    have h1 := he b rfl
    subst h1
    exact hy.2 _ rfl
theorem n_X12_pair {A : Nat → Prop} {σ : XS} {r0 : Nat} {x1 : Int32} {x2 : Int32} {x3 : Int32} {x4 : Int32} {x : Int32 × XS} (hA : Reg A σ) (hr0 : A r0) (hf : f_X12_pair σ r0 x1 x2 x3 x4 = some x) : Sm A σ x.2 ∧ Reg A x.2 := by
  have hm := Sm.rf (A := A) (σ := σ)
  obtain ⟨_, e1, hf⟩ := xbd hf
  obtain ⟨σ3, e2, hf⟩ := xbd hf
  obtain ⟨hm9, hA⟩ := n_X12_knows hA hr0 e2
  have hm := hm.tr hm9
  obtain ⟨_, e4, hf⟩ := xbd hf
  obtain ⟨v6, e5, hf⟩ := xbd hf
  by_cases q : v6 = 0
  · have hf := xip q hf
    have hf := xsj hf
    subst hf
    exact ⟨hm, hA⟩
  · have hf := xin q hf
    obtain ⟨_, e7, hf⟩ := xbd hf
    obtain ⟨v9, e8, hf⟩ := xbd hf
    by_cases q : v9 = 0
    · have hf := xip q hf
      have hf := xsj hf
      subst hf
      exact ⟨hm, hA⟩
    · have hf := xin q hf
      obtain ⟨v11, e10, hf⟩ := xbd hf
      obtain ⟨v13, e12, hf⟩ := xbd hf
      by_cases q : v13 = 0
      · have hf := xip q hf
        have hf := xsj hf
        subst hf
        exact ⟨hm, hA⟩
      · have hf := xin q hf
        obtain ⟨v15, e14, hf⟩ := xbd hf
        by_cases q : v15 = 0
        · have hf := xip q hf
          have hf := xsj hf
          subst hf
          exact ⟨hm, hA⟩
        · have hf := xin q hf
          exact ⟨hm.tr (n_X12_pair_l54 (a := ((0 : Int32), (0 : Int32))) hA hf).1, (n_X12_pair_l54 (a := ((0 : Int32), (0 : Int32))) hA hf).2⟩
theorem n_X12_pass_l35 {A : Nat → Prop} {r0 : Nat} {x1 : Int32} {x2 : Int32} {a : Int32 × XS} {x : Int32 × XS} (hA : Reg A a.2) (hr0 : A r0) (hf : xloop (f_X12_pass_b35 r0 x1 x2) a = some x) : Sm A a.2 x.2 ∧ Reg A x.2 := by
  revert hA
  refine xloop_ind (P := fun a => Reg A a.2 → Sm A a.2 x.2 ∧ Reg A x.2) (fun a y hf hc he => ?_) hf
  obtain ⟨x3, σ⟩ := a
  intro hA
  have hA0 : Reg A σ := hA
  have hy : (∀ a' : Int32 × XS, y = .inl a' → Sm A σ a'.2 ∧ Reg A a'.2) ∧ (∀ b1 : Int32 × XS, y = .inr b1 → Sm A σ b1.2 ∧ Reg A b1.2) := by
    have hm := Sm.rf (A := A) (σ := σ)
    obtain ⟨_, e1, hf⟩ := xbd hf
    obtain ⟨v3, e2, hf⟩ := xbd hf
    by_cases q : v3 ≤ x3
    · have hf := xip q hf
      obtain ⟨b0, hg, e9⟩ := xmj hf
      subst e9
      have hf := hg
      refine ⟨fun a' e => xnc2 e, fun b e => ?_⟩
      have h9 := Sum.inr.inj e
      subst h9
      obtain ⟨_, e4, hf⟩ := xbd hf
      obtain ⟨σ6, e5, hf⟩ := xbd hf
      obtain ⟨hm9, hA⟩ := n_X12_laysHills hA hr0 e5
      have hm := hm.tr hm9
      obtain ⟨z8, e7, hf⟩ := xbd hf
      obtain ⟨v10, e9, hf⟩ := xbd hf
      have hf := xsj hf
      subst hf
      exact ⟨hm, hA⟩
    · have hf := xin q hf
      obtain ⟨z5, e4, hf⟩ := xbd hf
      have hz5 := xgR_reg rfl hA hr0 e4
      by_cases q : x3 = x2
      · have hf := xip q hf
        obtain ⟨z7, e6, hf⟩ := xbd hf
        obtain ⟨v9, e8, hf⟩ := xbd hf
        obtain ⟨σ11, e10, hf⟩ := xbd hf
        obtain ⟨hm9, hA⟩ := xsI_reg hA hz5 e10
        have hm := hm.tr hm9
        have hf := xsj hf
        subst hf
        exact ⟨fun a' e => (by have h9 := Sum.inl.inj e; subst h9; exact ⟨hm, hA⟩), fun b e => xnc1 e⟩
      · have hf := xin q hf
        obtain ⟨σ7, e6, hf⟩ := xbd hf
        obtain ⟨hm9, hA⟩ := xsI_reg hA hz5 e6
        have hm := hm.tr hm9
        have hf := xsj hf
        subst hf
        exact ⟨fun a' e => (by have h9 := Sum.inl.inj e; subst h9; exact ⟨hm, hA⟩), fun b e => xnc1 e⟩
  cases y with
  | inl a' =>
    obtain ⟨hm, hA1⟩ := hy.1 a' rfl
    have h1 := hc a' rfl hA1
    exact ⟨hm.tr (h1).1, (h1).2⟩
  | inr b =>
    have h1 := he b rfl
    subst h1
    exact hy.2 _ rfl
theorem n_X12_pass {A : Nat → Prop} {σ : XS} {r0 : Nat} {x1 : Int32} {x2 : Int32} {x : Int32 × XS} (hA : Reg A σ) (hr0 : A r0) (hf : f_X12_pass σ r0 x1 x2 = some x) : Sm A σ x.2 ∧ Reg A x.2 := by
  have hm := Sm.rf (A := A) (σ := σ)
  obtain ⟨_, e1, hf⟩ := xbd hf
  obtain ⟨v3, e2, hf⟩ := xbd hf
  by_cases q : v3 = 0
  · have hf := xip q hf
    have hf := xsj hf
    subst hf
    exact ⟨hm, hA⟩
  · have hf := xin q hf
    obtain ⟨_, e4, hf⟩ := xbd hf
    obtain ⟨v6, e5, hf⟩ := xbd hf
    by_cases q : v6 = 0
    · have hf := xip q hf
      have hf := xsj hf
      subst hf
      exact ⟨hm, hA⟩
    · have hf := xin q hf
      obtain ⟨_, e7, hf⟩ := xbd hf
      obtain ⟨v9, e8, hf⟩ := xbd hf
      by_cases q : v9 ≤ (10 : Int32)
      · have hf := xip q hf
        obtain ⟨_, e10, hf⟩ := xbd hf
        obtain ⟨σ12, e11, hf⟩ := xbd hf
        obtain ⟨hm9, hA⟩ := n_X12_knows hA hr0 e11
        have hm := hm.tr hm9
        exact ⟨hm.tr (n_X12_pass_l35 (a := ((0 : Int32), σ12)) hA hr0 hf).1, (n_X12_pass_l35 (a := ((0 : Int32), σ12)) hA hr0 hf).2⟩
      · have hf := xin q hf
        have hf := xsj hf
        subst hf
        exact ⟨hm, hA⟩
theorem n_X12_pin_j64 {A : Nat → Prop} {σ : XS} {r0 : Nat} {x1 : Int32} {x2 : Int32} {x : Int32 × XS} (hA : Reg A σ) (hr0 : A r0) (hf : f_X12_pin_j64 σ r0 x1 x2 = some x) : Sm A σ x.2 ∧ Reg A x.2 := by
  have hm := Sm.rf (A := A) (σ := σ)
  by_cases q : x2 = (2 : Int32)
  · have hf := xip q hf
    obtain ⟨z2, e1, hf⟩ := xbd hf
    have hz2 := xgR_reg rfl hA hr0 e1
    obtain ⟨v4, e3, hf⟩ := xbd hf
    obtain ⟨σ6, e5, hf⟩ := xbd hf
    obtain ⟨hm9, hA⟩ := xsI_reg hA hz2 e5
    have hm := hm.tr hm9
    obtain ⟨σ8, e7, hf⟩ := xbd hf
    obtain ⟨hm9, hA⟩ := xpI_reg hA hr0 e7
    have hm := hm.tr hm9
    have hf := xsj hf
    subst hf
    exact ⟨hm, hA⟩
  · have hf := xin q hf
    obtain ⟨σ2, e1, hf⟩ := xbd hf
    obtain ⟨hm9, hA⟩ := xpI_reg hA hr0 e1
    have hm := hm.tr hm9
    have hf := xsj hf
    subst hf
    exact ⟨hm, hA⟩
theorem n_X12_pin {A : Nat → Prop} {σ : XS} {r0 : Nat} {x1 : Int32} {x2 : Int32} {x : Int32 × XS} (hA : Reg A σ) (hr0 : A r0) (hf : f_X12_pin σ r0 x1 x2 = some x) : Sm A σ x.2 ∧ Reg A x.2 := by
  have hm := Sm.rf (A := A) (σ := σ)
  obtain ⟨_, e1, hf⟩ := xbd hf
  obtain ⟨v3, e2, hf⟩ := xbd hf
  by_cases q : v3 = 0
  · have hf := xip q hf
    have hf := xsj hf
    subst hf
    exact ⟨hm, hA⟩
  · have hf := xin q hf
    obtain ⟨v5, e4, hf⟩ := xbd hf
    by_cases q : v5 = 0
    · have hf := xip q hf
      have hf := xsj hf
      subst hf
      exact ⟨hm, hA⟩
    · have hf := xin q hf
      obtain ⟨z7, e6, hf⟩ := xbd hf
      obtain ⟨v9, e8, hf⟩ := xbd hf
      by_cases q : v9 = x2
      · have hf := xip q hf
        have hf := xsj hf
        subst hf
        exact ⟨hm, hA⟩
      · have hf := xin q hf
        obtain ⟨_, e10, hf⟩ := xbd hf
        obtain ⟨σ12, e11, hf⟩ := xbd hf
        obtain ⟨hm9, hA⟩ := n_X12_marks hA hr0 e11
        have hm := hm.tr hm9
        obtain ⟨z14, e13, hf⟩ := xbd hf
        have hz14 := xgR_reg rfl hA hr0 e13
        obtain ⟨σ16, e15, hf⟩ := xbd hf
        obtain ⟨hm9, hA⟩ := xsI_reg hA hz14 e15
        have hm := hm.tr hm9
        by_cases q : x2 = (1 : Int32)
        · have hf := xip q hf
          obtain ⟨z18, e17, hf⟩ := xbd hf
          have hz18 := xgR_reg rfl hA hr0 e17
          obtain ⟨v20, e19, hf⟩ := xbd hf
          obtain ⟨σ22, e21, hf⟩ := xbd hf
          obtain ⟨hm9, hA⟩ := xsI_reg hA hz18 e21
          have hm := hm.tr hm9
          exact ⟨hm.tr (n_X12_pin_j64 hA hr0 hf).1, (n_X12_pin_j64 hA hr0 hf).2⟩
        · have hf := xin q hf
          exact ⟨hm.tr (n_X12_pin_j64 hA hr0 hf).1, (n_X12_pin_j64 hA hr0 hf).2⟩
theorem n_X12_pull {A : Nat → Prop} {σ : XS} {r0 : Nat} {x1 : Int32} {x2 : Int32} {x : Int32 × XS} (hA : Reg A σ) (hr0 : A r0) (hf : f_X12_pull σ r0 x1 x2 = some x) : Sm A σ x.2 ∧ Reg A x.2 := by
  have hm := Sm.rf (A := A) (σ := σ)
  obtain ⟨_, e1, hf⟩ := xbd hf
  obtain ⟨v3, e2, hf⟩ := xbd hf
  by_cases q : v3 = 0
  · have hf := xip q hf
    have hf := xsj hf
    subst hf
    exact ⟨hm, hA⟩
  · have hf := xin q hf
    obtain ⟨v5, e4, hf⟩ := xbd hf
    by_cases q : v5 = 0
    · have hf := xip q hf
      have hf := xsj hf
      subst hf
      exact ⟨hm, hA⟩
    · have hf := xin q hf
      obtain ⟨z7, e6, hf⟩ := xbd hf
      obtain ⟨v9, e8, hf⟩ := xbd hf
      by_cases q : v9 = x2
      · have hf := xip q hf
        have hf := xsj hf
        subst hf
        exact ⟨hm, hA⟩
      · have hf := xin q hf
        obtain ⟨_, e10, hf⟩ := xbd hf
        obtain ⟨σ12, e11, hf⟩ := xbd hf
        obtain ⟨hm9, hA⟩ := n_X12_marks hA hr0 e11
        have hm := hm.tr hm9
        obtain ⟨z14, e13, hf⟩ := xbd hf
        have hz14 := xgR_reg rfl hA hr0 e13
        obtain ⟨σ16, e15, hf⟩ := xbd hf
        obtain ⟨hm9, hA⟩ := xsI_reg hA hz14 e15
        have hm := hm.tr hm9
        obtain ⟨σ18, e17, hf⟩ := xbd hf
        obtain ⟨hm9, hA⟩ := xpI_reg hA hr0 e17
        have hm := hm.tr hm9
        have hf := xsj hf
        subst hf
        exact ⟨hm, hA⟩
theorem n_X12_read_l286 {A : Nat → Prop} {r0 : Nat} {a : Int32 × XS} {x : Int32 × XS} (hA : Reg A a.2) (hr0 : A r0) (hf : xloop (f_X12_read_b286 r0) a = some x) : Sm A a.2 x.2 ∧ Reg A x.2 := by
  revert hA
  refine xloop_ind (P := fun a => Reg A a.2 → Sm A a.2 x.2 ∧ Reg A x.2) (fun a y hf hc he => ?_) hf
  obtain ⟨x1, σ⟩ := a
  intro hA
  have hA0 : Reg A σ := hA
  have hy : (∀ a' : Int32 × XS, y = .inl a' → Sm A σ a'.2 ∧ Reg A a'.2) ∧ (∀ b1 : Int32 × XS, y = .inr b1 → Sm A σ b1.2 ∧ Reg A b1.2) := by
    have hm := Sm.rf (A := A) (σ := σ)
    by_cases q : (3 : Int32) ≤ x1
    · have hf := xip q hf
      obtain ⟨b0, hg, e9⟩ := xmj hf
      subst e9
      have hf := hg
      refine ⟨fun a' e => xnc2 e, fun b e => ?_⟩
      have h9 := Sum.inr.inj e
      subst h9
      obtain ⟨σ2, e1, hf⟩ := xbd hf
      obtain ⟨hm9, hA⟩ := xpI_reg hA hr0 e1
      have hm := hm.tr hm9
      have hf := xsj hf
      subst hf
      exact ⟨hm, hA⟩
    · have hf := xin q hf
      obtain ⟨z2, e1, hf⟩ := xbd hf
      have hz2 := xgR_reg rfl hA hr0 e1
      obtain ⟨σ4, e3, hf⟩ := xbd hf
      obtain ⟨hm9, hA⟩ := xsI_reg hA hz2 e3
      have hm := hm.tr hm9
      have hf := xsj hf
      subst hf
      exact ⟨fun a' e => (by have h9 := Sum.inl.inj e; subst h9; exact ⟨hm, hA⟩), fun b e => xnc1 e⟩
  cases y with
  | inl a' =>
    obtain ⟨hm, hA1⟩ := hy.1 a' rfl
    have h1 := hc a' rfl hA1
    exact ⟨hm.tr (h1).1, (h1).2⟩
  | inr b =>
    have h1 := he b rfl
    subst h1
    exact hy.2 _ rfl
theorem n_X12_read_l239 {A : Nat → Prop} {r0 : Nat} {a : Int32 × XS} {x : Int32 × XS} (hA : Reg A a.2) (hr0 : A r0) (hf : xloop (f_X12_read_b239 r0) a = some x) : Sm A a.2 x.2 ∧ Reg A x.2 := by
  revert hA
  refine xloop_ind (P := fun a => Reg A a.2 → Sm A a.2 x.2 ∧ Reg A x.2) (fun a y hf hc he => ?_) hf
  obtain ⟨x1, σ⟩ := a
  intro hA
  have hA0 : Reg A σ := hA
  have hy : (∀ a' : Int32 × XS, y = .inl a' → Sm A σ a'.2 ∧ Reg A a'.2) ∧ (∀ b1 : Int32 × XS, y = .inr b1 → Sm A σ b1.2 ∧ Reg A b1.2) := by
    have hm := Sm.rf (A := A) (σ := σ)
    obtain ⟨_, e1, hf⟩ := xbd hf
    obtain ⟨v3, e2, hf⟩ := xbd hf
    by_cases q : v3 ≤ x1
    · have hf := xip q hf
      obtain ⟨b0, hg, e9⟩ := xmj hf
      subst e9
      have hf := hg
      refine ⟨fun a' e => xnc2 e, fun b e => ?_⟩
      have h9 := Sum.inr.inj e
      subst h9
      obtain ⟨σ5, e4, hf⟩ := xbd hf
      obtain ⟨hm9, hA⟩ := xpI_reg hA hr0 e4
      have hm := hm.tr hm9
      exact ⟨hm.tr (n_X12_read_l286 (a := ((0 : Int32), σ5)) hA hr0 hf).1, (n_X12_read_l286 (a := ((0 : Int32), σ5)) hA hr0 hf).2⟩
    · have hf := xin q hf
      obtain ⟨z5, e4, hf⟩ := xbd hf
      obtain ⟨v7, e6, hf⟩ := xbd hf
      by_cases q : v7 = (1 : Int32)
      · have hf := xip q hf
        obtain ⟨z9, e8, hf⟩ := xbd hf
        have hz9 := xgR_reg rfl hA hr0 e8
        obtain ⟨v11, e10, hf⟩ := xbd hf
        obtain ⟨σ13, e12, hf⟩ := xbd hf
        obtain ⟨hm9, hA⟩ := xsI_reg hA hz9 e12
        have hm := hm.tr hm9
        have hf := xsj hf
        subst hf
        exact ⟨fun a' e => (by have h9 := Sum.inl.inj e; subst h9; exact ⟨hm, hA⟩), fun b e => xnc1 e⟩
      · have hf := xin q hf
        have hf := xsj hf
        subst hf
        exact ⟨fun a' e => (by have h9 := Sum.inl.inj e; subst h9; exact ⟨hm, hA⟩), fun b e => xnc1 e⟩
  cases y with
  | inl a' =>
    obtain ⟨hm, hA1⟩ := hy.1 a' rfl
    have h1 := hc a' rfl hA1
    exact ⟨hm.tr (h1).1, (h1).2⟩
  | inr b =>
    have h1 := he b rfl
    subst h1
    exact hy.2 _ rfl
theorem n_X12_read_l205 {A : Nat → Prop} {r0 : Nat} {a : Int32 × XS} {x : Int32 × XS} (hA : Reg A a.2) (hr0 : A r0) (hf : xloop (f_X12_read_b205 r0) a = some x) : Sm A a.2 x.2 ∧ Reg A x.2 := by
  revert hA
  refine xloop_ind (P := fun a => Reg A a.2 → Sm A a.2 x.2 ∧ Reg A x.2) (fun a y hf hc he => ?_) hf
  obtain ⟨x1, σ⟩ := a
  intro hA
  have hA0 : Reg A σ := hA
  have hy : (∀ a' : Int32 × XS, y = .inl a' → Sm A σ a'.2 ∧ Reg A a'.2) ∧ (∀ b1 : Int32 × XS, y = .inr b1 → Sm A σ b1.2 ∧ Reg A b1.2) := by
    have hm := Sm.rf (A := A) (σ := σ)
    by_cases q : (66 : Int32) ≤ x1
    · have hf := xip q hf
      obtain ⟨b0, hg, e9⟩ := xmj hf
      subst e9
      have hf := hg
      refine ⟨fun a' e => xnc2 e, fun b e => ?_⟩
      have h9 := Sum.inr.inj e
      subst h9
      obtain ⟨z2, e1, hf⟩ := xbd hf
      have hz2 := xgR_reg rfl hA hr0 e1
      obtain ⟨σ4, e3, hf⟩ := xbd hf
      obtain ⟨hm9, hA⟩ := xsI_reg hA hz2 e3
      have hm := hm.tr hm9
      exact ⟨hm.tr (n_X12_read_l239 (a := ((0 : Int32), σ4)) hA hr0 hf).1, (n_X12_read_l239 (a := ((0 : Int32), σ4)) hA hr0 hf).2⟩
    · have hf := xin q hf
      obtain ⟨z2, e1, hf⟩ := xbd hf
      have hz2 := xgR_reg rfl hA hr0 e1
      obtain ⟨z4, e3, hf⟩ := xbd hf
      obtain ⟨v6, e5, hf⟩ := xbd hf
      obtain ⟨σ8, e7, hf⟩ := xbd hf
      obtain ⟨hm9, hA⟩ := xsI_reg hA hz2 e7
      have hm := hm.tr hm9
      have hf := xsj hf
      subst hf
      exact ⟨fun a' e => (by have h9 := Sum.inl.inj e; subst h9; exact ⟨hm, hA⟩), fun b e => xnc1 e⟩
  cases y with
  | inl a' =>
    obtain ⟨hm, hA1⟩ := hy.1 a' rfl
    have h1 := hc a' rfl hA1
    exact ⟨hm.tr (h1).1, (h1).2⟩
  | inr b =>
    have h1 := he b rfl
    subst h1
    exact hy.2 _ rfl
theorem n_X12_read_j144 {A : Nat → Prop} {σ : XS} {r0 : Nat} {t0 : Nat} {t1 : Int32} {x : Int32 × XS} (hA : Reg A σ) (hr0 : A r0) (ht0 : A t0) (hf : f_X12_read_j144 σ r0 t0 t1 = some x) : Sm A σ x.2 ∧ Reg A x.2 := by
  have hm := Sm.rf (A := A) (σ := σ)
  obtain ⟨σ2, e1, hf⟩ := xbd hf
  obtain ⟨hm9, hA⟩ := xpI_reg hA ht0 e1
  have hm := hm.tr hm9
  obtain ⟨v4, e3, hf⟩ := xbd hf
  by_cases q : v4 ≤ 0
  · have hf := xip q hf
    obtain ⟨v6, e5, hf⟩ := xbd hf
    by_cases q : v6 ≤ 0
    · have hf := xip q hf
      obtain ⟨v8, e7, hf⟩ := xbd hf
      obtain ⟨σ10, e9, hf⟩ := xbd hf
      obtain ⟨hm9, hA⟩ := xpI_reg hA hr0 e9
      have hm := hm.tr hm9
      obtain ⟨v12, e11, hf⟩ := xbd hf
      obtain ⟨σ14, e13, hf⟩ := xbd hf
      obtain ⟨hm9, hA⟩ := xpI_reg hA hr0 e13
      have hm := hm.tr hm9
      obtain ⟨v16, e15, hf⟩ := xbd hf
      obtain ⟨_, e17, hf⟩ := xbd hf
      obtain ⟨σ19, e18, hf⟩ := xbd hf
      obtain ⟨hm9, hA⟩ := xpI_reg hA hr0 e18
      have hm := hm.tr hm9
      obtain ⟨v21, e20, hf⟩ := xbd hf
      obtain ⟨_, e22, hf⟩ := xbd hf
      obtain ⟨σ24, e23, hf⟩ := xbd hf
      obtain ⟨hm9, hA⟩ := xpI_reg hA hr0 e23
      have hm := hm.tr hm9
      exact ⟨hm.tr (n_X12_read_l205 (a := ((0 : Int32), σ24)) hA hr0 hf).1, (n_X12_read_l205 (a := ((0 : Int32), σ24)) hA hr0 hf).2⟩
    · have hf := xin q hf
      obtain ⟨v8, e7, hf⟩ := xbd hf
      have hf := xsj hf
      subst hf
      exact ⟨hm, hA⟩
  · have hf := xin q hf
    obtain ⟨v6, e5, hf⟩ := xbd hf
    have hf := xsj hf
    subst hf
    exact ⟨hm, hA⟩
theorem n_X12_read_j114 {A : Nat → Prop} {σ : XS} {r0 : Nat} {x : Int32 × XS} (hA : Reg A σ) (hr0 : A r0) (hf : f_X12_read_j114 σ r0 = some x) : Sm A σ x.2 ∧ Reg A x.2 := by
  have hm := Sm.rf (A := A) (σ := σ)
  obtain ⟨v2, e1, hf⟩ := xbd hf
  by_cases q : v2 ≤ 0
  · have hf := xip q hf
    obtain ⟨v4, e3, hf⟩ := xbd hf
    by_cases q : v4 ≤ 0
    · have hf := xip q hf
      exact ⟨hm.tr (n_X12_read_j144 hA hr0 hr0 hf).1, (n_X12_read_j144 hA hr0 hr0 hf).2⟩
    · have hf := xin q hf
      obtain ⟨v6, e5, hf⟩ := xbd hf
      exact ⟨hm.tr (n_X12_read_j144 hA hr0 hr0 hf).1, (n_X12_read_j144 hA hr0 hr0 hf).2⟩
  · have hf := xin q hf
    obtain ⟨v4, e3, hf⟩ := xbd hf
    exact ⟨hm.tr (n_X12_read_j144 hA hr0 hr0 hf).1, (n_X12_read_j144 hA hr0 hr0 hf).2⟩
theorem n_X12_read_j103 {A : Nat → Prop} {σ : XS} {r0 : Nat} {x : Int32 × XS} (hA : Reg A σ) (hr0 : A r0) (hf : f_X12_read_j103 σ r0 = some x) : Sm A σ x.2 ∧ Reg A x.2 := by
  have hm := Sm.rf (A := A) (σ := σ)
  obtain ⟨v2, e1, hf⟩ := xbd hf
  by_cases q : v2 = 0
  · have hf := xip q hf
    obtain ⟨_, e3, hf⟩ := xbd hf
    obtain ⟨σ5, e4, hf⟩ := xbd hf
    obtain ⟨hm9, hA⟩ := n_X12_means hA hr0 e4
    have hm := hm.tr hm9
    exact ⟨hm.tr (n_X12_read_j114 hA hr0 hf).1, (n_X12_read_j114 hA hr0 hf).2⟩
  · have hf := xin q hf
    exact ⟨hm.tr (n_X12_read_j114 hA hr0 hf).1, (n_X12_read_j114 hA hr0 hf).2⟩
theorem n_X12_read_l81 {A : Nat → Prop} {r0 : Nat} {a : XS} {x : Int32 × XS} (hA : Reg A a) (hr0 : A r0) (hf : xloop (f_X12_read_b81 r0) a = some x) : Sm A a x.2 ∧ Reg A x.2 := by
  revert hA
  refine xloop_ind (P := fun a => Reg A a → Sm A a x.2 ∧ Reg A x.2) (fun a y hf hc he => ?_) hf
  obtain ⟨σ, rfl⟩ : ∃ z, z = a := ⟨_, rfl⟩
  intro hA
  have hA0 : Reg A σ := hA
  have hy : (∀ a' : XS, y = .inl a' → Sm A σ a' ∧ Reg A a') ∧ (∀ b1 : Int32 × XS, y = .inr b1 → Sm A σ b1.2 ∧ Reg A b1.2) := by
    have hm := Sm.rf (A := A) (σ := σ)
    obtain ⟨v2, e1, hf⟩ := xbd hf
    by_cases q : v2 = 0
    · have hf := xip q hf
      obtain ⟨_, e3, hf⟩ := xbd hf
      obtain ⟨v5, e4, hf⟩ := xbd hf
      by_cases q : v5 = 0
      · have hf := xip q hf
        obtain ⟨_, e6, hf⟩ := xbd hf
        obtain ⟨σ8, e7, hf⟩ := xbd hf
        obtain ⟨hm9, hA⟩ := n_X12_line hA hr0 e7
        have hm := hm.tr hm9
        have hf := xsj hf
        subst hf
        exact ⟨fun a' e => (by have h9 := Sum.inl.inj e; subst h9; exact ⟨hm, hA⟩), fun b e => xnc1 e⟩
      · have hf := xin q hf
        obtain ⟨b0, hg, e9⟩ := xmj hf
        subst e9
        have hf := hg
        refine ⟨fun a' e => xnc2 e, fun b e => ?_⟩
        have h9 := Sum.inr.inj e
        subst h9
        exact ⟨hm.tr (n_X12_read_j103 hA hr0 hf).1, (n_X12_read_j103 hA hr0 hf).2⟩
    · have hf := xin q hf
      obtain ⟨b0, hg, e9⟩ := xmj hf
      subst e9
      have hf := hg
      refine ⟨fun a' e => xnc2 e, fun b e => ?_⟩
      have h9 := Sum.inr.inj e
      subst h9
      exact ⟨hm.tr (n_X12_read_j103 hA hr0 hf).1, (n_X12_read_j103 hA hr0 hf).2⟩
  cases y with
  | inl a' =>
    obtain ⟨hm, hA1⟩ := hy.1 a' rfl
    have h1 := hc a' rfl hA1
    exact ⟨hm.tr (h1).1, (h1).2⟩
  | inr b =>
    have h1 := he b rfl
    subst h1
    exact hy.2 _ rfl
theorem n_X12_read_l10 {A : Nat → Prop} {r0 : Nat} {a : Int32 × XS} {x : Int32 × XS} (hA : Reg A a.2) (hr0 : A r0) (hf : xloop (f_X12_read_b10 r0) a = some x) : Sm A a.2 x.2 ∧ Reg A x.2 := by
  revert hA
  refine xloop_ind (P := fun a => Reg A a.2 → Sm A a.2 x.2 ∧ Reg A x.2) (fun a y hf hc he => ?_) hf
  obtain ⟨x1, σ⟩ := a
  intro hA
  have hA0 : Reg A σ := hA
  have hy : (∀ a' : Int32 × XS, y = .inl a' → Sm A σ a'.2 ∧ Reg A a'.2) ∧ (∀ b1 : Int32 × XS, y = .inr b1 → Sm A σ b1.2 ∧ Reg A b1.2) := by
    have hm := Sm.rf (A := A) (σ := σ)
    obtain ⟨v2, e1, hf⟩ := xbd hf
    by_cases q : v2 ≤ x1
    · have hf := xip q hf
      obtain ⟨b0, hg, e9⟩ := xmj hf
      subst e9
      have hf := hg
      refine ⟨fun a' e => xnc2 e, fun b e => ?_⟩
      have h9 := Sum.inr.inj e
      subst h9
      obtain ⟨σ4, e3, hf⟩ := xbd hf
      obtain ⟨hm9, hA⟩ := xpI_reg hA hr0 e3
      have hm := hm.tr hm9
      obtain ⟨_, e5, hf⟩ := xbd hf
      obtain ⟨σ7, e6, hf⟩ := xbd hf
      obtain ⟨hm9, hA⟩ := n_X12_cutsText hA hr0 e6
      have hm := hm.tr hm9
      obtain ⟨σ9, e8, hf⟩ := xbd hf
      obtain ⟨hm9, hA⟩ := xpI_reg hA hr0 e8
      have hm := hm.tr hm9
      obtain ⟨σ11, e10, hf⟩ := xbd hf
      obtain ⟨hm9, hA⟩ := xpI_reg hA hr0 e10
      have hm := hm.tr hm9
      obtain ⟨σ13, e12, hf⟩ := xbd hf
      obtain ⟨hm9, hA⟩ := xpI_reg hA hr0 e12
      have hm := hm.tr hm9
      obtain ⟨_, e14, hf⟩ := xbd hf
      obtain ⟨σ16, e15, hf⟩ := xbd hf
      obtain ⟨hm9, hA⟩ := n_X12_must hA hr0 e15
      have hm := hm.tr hm9
      obtain ⟨_, e17, hf⟩ := xbd hf
      obtain ⟨σ19, e18, hf⟩ := xbd hf
      obtain ⟨hm9, hA⟩ := n_X12_must hA hr0 e18
      have hm := hm.tr hm9
      obtain ⟨_, e20, hf⟩ := xbd hf
      obtain ⟨σ22, e21, hf⟩ := xbd hf
      obtain ⟨hm9, hA⟩ := n_X12_must hA hr0 e21
      have hm := hm.tr hm9
      obtain ⟨_, e23, hf⟩ := xbd hf
      obtain ⟨σ25, e24, hf⟩ := xbd hf
      obtain ⟨hm9, hA⟩ := n_X12_must hA hr0 e24
      have hm := hm.tr hm9
      exact ⟨hm.tr (n_X12_read_l81 (a := σ25) hA hr0 hf).1, (n_X12_read_l81 (a := σ25) hA hr0 hf).2⟩
    · have hf := xin q hf
      obtain ⟨z4, e3, hf⟩ := xbd hf
      have hz4 := xgR_reg rfl hA hr0 e3
      obtain ⟨z6, e5, hf⟩ := xbd hf
      obtain ⟨v8, e7, hf⟩ := xbd hf
      obtain ⟨σ10, e9, hf⟩ := xbd hf
      obtain ⟨hm9, hA⟩ := xsI_reg hA hz4 e9
      have hm := hm.tr hm9
      have hf := xsj hf
      subst hf
      exact ⟨fun a' e => (by have h9 := Sum.inl.inj e; subst h9; exact ⟨hm, hA⟩), fun b e => xnc1 e⟩
  cases y with
  | inl a' =>
    obtain ⟨hm, hA1⟩ := hy.1 a' rfl
    have h1 := hc a' rfl hA1
    exact ⟨hm.tr (h1).1, (h1).2⟩
  | inr b =>
    have h1 := he b rfl
    subst h1
    exact hy.2 _ rfl
theorem n_X12_read {A : Nat → Prop} {σ : XS} {r0 : Nat} {x : Int32 × XS} (hA : Reg A σ) (hr0 : A r0) (hf : f_X12_read σ r0 = some x) : Sm A σ x.2 ∧ Reg A x.2 := by
  have hm := Sm.rf (A := A) (σ := σ)
  obtain ⟨v2, e1, hf⟩ := xbd hf
  obtain ⟨σ4, e3, hf⟩ := xbd hf
  obtain ⟨hm9, hA⟩ := xpI_reg hA hr0 e3
  have hm := hm.tr hm9
  exact ⟨hm.tr (n_X12_read_l10 (a := ((0 : Int32), σ4)) hA hr0 hf).1, (n_X12_read_l10 (a := ((0 : Int32), σ4)) hA hr0 hf).2⟩
theorem n_X12_restore_l22 {A : Nat → Prop} {r0 : Nat} {x1 : Int32} {a : Int32 × XS} {x : Int32 × XS} (hA : Reg A a.2) (hr0 : A r0) (hf : xloop (f_X12_restore_b22 r0 x1) a = some x) : Sm A a.2 x.2 ∧ Reg A x.2 := by
  revert hA
  refine xloop_ind (P := fun a => Reg A a.2 → Sm A a.2 x.2 ∧ Reg A x.2) (fun a y hf hc he => ?_) hf
  obtain ⟨x2, σ⟩ := a
  intro hA
  have hA0 : Reg A σ := hA
  have hy : (∀ a' : Int32 × XS, y = .inl a' → Sm A σ a'.2 ∧ Reg A a'.2) ∧ (∀ b1 : Int32 × XS, y = .inr b1 → Sm A σ b1.2 ∧ Reg A b1.2) := by
    have hm := Sm.rf (A := A) (σ := σ)
    by_cases q : (66 : Int32) ≤ x2
    · have hf := xip q hf
      obtain ⟨b0, hg, e9⟩ := xmj hf
      subst e9
      have hf := hg
      refine ⟨fun a' e => xnc2 e, fun b e => ?_⟩
      have h9 := Sum.inr.inj e
      subst h9
      obtain ⟨σ2, e1, hf⟩ := xbd hf
      obtain ⟨hm9, hA⟩ := xpI_reg hA hr0 e1
      have hm := hm.tr hm9
      obtain ⟨σ4, e3, hf⟩ := xbd hf
      obtain ⟨hm9, hA⟩ := xpI_reg hA hr0 e3
      have hm := hm.tr hm9
      have hf := xsj hf
      subst hf
      exact ⟨hm, hA⟩
    · have hf := xin q hf
      obtain ⟨z2, e1, hf⟩ := xbd hf
      have hz2 := xgR_reg rfl hA hr0 e1
      obtain ⟨z4, e3, hf⟩ := xbd hf
      obtain ⟨v6, e5, hf⟩ := xbd hf
      obtain ⟨σ8, e7, hf⟩ := xbd hf
      obtain ⟨hm9, hA⟩ := xsI_reg hA hz2 e7
      have hm := hm.tr hm9
      have hf := xsj hf
      subst hf
      exact ⟨fun a' e => (by have h9 := Sum.inl.inj e; subst h9; exact ⟨hm, hA⟩), fun b e => xnc1 e⟩
  cases y with
  | inl a' =>
    obtain ⟨hm, hA1⟩ := hy.1 a' rfl
    have h1 := hc a' rfl hA1
    exact ⟨hm.tr (h1).1, (h1).2⟩
  | inr b =>
    have h1 := he b rfl
    subst h1
    exact hy.2 _ rfl
theorem n_X12_restore {A : Nat → Prop} {σ : XS} {r0 : Nat} {x1 : Int32} {x : Int32 × XS} (hA : Reg A σ) (hr0 : A r0) (hf : f_X12_restore σ r0 x1 = some x) : Sm A σ x.2 ∧ Reg A x.2 := by
  have hm := Sm.rf (A := A) (σ := σ)
  obtain ⟨v2, e1, hf⟩ := xbd hf
  by_cases q : v2 = 0
  · have hf := xip q hf
    have hf := xsj hf
    subst hf
    exact ⟨hm, hA⟩
  · have hf := xin q hf
    obtain ⟨z4, e3, hf⟩ := xbd hf
    obtain ⟨v6, e5, hf⟩ := xbd hf
    by_cases q : v6 = 0
    · have hf := xip q hf
      have hf := xsj hf
      subst hf
      exact ⟨hm, hA⟩
    · have hf := xin q hf
      exact ⟨hm.tr (n_X12_restore_l22 (a := ((0 : Int32), σ)) hA hr0 hf).1, (n_X12_restore_l22 (a := ((0 : Int32), σ)) hA hr0 hf).2⟩
theorem n_X12_state {A : Nat → Prop} {σ : XS} {r0 : Nat} {x1 : Int32} {x2 : Int32} {x : Int32 × XS} (hA : Reg A σ) (hr0 : A r0) (hf : f_X12_state σ r0 x1 x2 = some x) : Sm A σ x.2 ∧ Reg A x.2 := by
  have hm := Sm.rf (A := A) (σ := σ)
  obtain ⟨_, e1, hf⟩ := xbd hf
  obtain ⟨v3, e2, hf⟩ := xbd hf
  by_cases q : v3 = 0
  · have hf := xip q hf
    have hf := xsj hf
    subst hf
    exact ⟨hm, hA⟩
  · have hf := xin q hf
    obtain ⟨_, e4, hf⟩ := xbd hf
    obtain ⟨σ6, e5, hf⟩ := xbd hf
    obtain ⟨hm9, hA⟩ := n_X12_knows hA hr0 e5
    have hm := hm.tr hm9
    by_cases ho : (x2).toInt < 0 ∨ 5 < (x2).toInt
    · have hf := xsw_out ho rfl hf
      have hf := xsj hf
      subst hf
      exact ⟨hm, hA⟩
    · rcases (by omega : (x2).toInt = 0 + ((0 : Nat) : Int) ∨ (x2).toInt = 0 + ((1 : Nat) : Int) ∨ (x2).toInt = 0 + ((2 : Nat) : Int) ∨ (x2).toInt = 0 + ((3 : Nat) : Int) ∨ (x2).toInt = 0 + ((4 : Nat) : Int) ∨ (x2).toInt = 0 + ((5 : Nat) : Int)) with hk1 | hk1 | hk1 | hk1 | hk1 | hk1
      · have hf := xsw_in 0 hk1 rfl hf
        obtain ⟨z8, e7, hf⟩ := xbd hf
        obtain ⟨v10, e9, hf⟩ := xbd hf
        have hf := xsj hf
        subst hf
        exact ⟨hm, hA⟩
      · have hf := xsw_in 1 hk1 rfl hf
        obtain ⟨_, e7, hf⟩ := xbd hf
        obtain ⟨v9, e8, hf⟩ := xbd hf
        have hf := xsj hf
        subst hf
        exact ⟨hm, hA⟩
      · have hf := xsw_in 2 hk1 rfl hf
        obtain ⟨_, e7, hf⟩ := xbd hf
        obtain ⟨v9, e8, hf⟩ := xbd hf
        by_cases q : 0 ≤ v9
        · have hf := xip q hf
          have hf := xsj hf
          subst hf
          exact ⟨hm, hA⟩
        · have hf := xin q hf
          have hf := xsj hf
          subst hf
          exact ⟨hm, hA⟩
      · have hf := xsw_in 3 hk1 rfl hf
        obtain ⟨_, e7, hf⟩ := xbd hf
        obtain ⟨v9, e8, hf⟩ := xbd hf
        have hf := xsj hf
        subst hf
        exact ⟨hm, hA⟩
      · have hf := xsw_in 4 hk1 rfl hf
        obtain ⟨_, e7, hf⟩ := xbd hf
        obtain ⟨v9, e8, hf⟩ := xbd hf
        have hf := xsj hf
        subst hf
        exact ⟨hm, hA⟩
      · have hf := xsw_in 5 hk1 rfl hf
        obtain ⟨_, e7, hf⟩ := xbd hf
        obtain ⟨v9, e8, hf⟩ := xbd hf
        have hf := xsj hf
        subst hf
        exact ⟨hm, hA⟩
theorem n_X12_stiff_l41 {A : Nat → Prop} {σ : XS} {r0 : Nat} {x1 : Int32} {x2 : Int32} {a : Int32 × Int32 × Int32} {x : Int32 × XS} (hA : Reg A σ) (hf : xloop (f_X12_stiff_b41 σ r0 x1 x2) a = some x) : Sm A σ x.2 ∧ Reg A x.2 := by
  revert hA
  refine xloop_ind (P := fun a => Reg A σ → Sm A σ x.2 ∧ Reg A x.2) (fun a y hf hc he => ?_) hf
  obtain ⟨x3, x4, x5⟩ := a
  intro hA
  have hA0 : Reg A σ := hA
  have hy : (∀ a' : Int32 × Int32 × Int32, y = .inl a' → True) ∧ (∀ b1 : Int32 × XS, y = .inr b1 → Sm A σ b1.2 ∧ Reg A b1.2) := by
    have hm := Sm.rf (A := A) (σ := σ)
    obtain ⟨_, e1, hf⟩ := xbd hf
    obtain ⟨v3, e2, hf⟩ := xbd hf
    by_cases q : v3 ≤ x5
    · have hf := xip q hf
      obtain ⟨b0, hg, e9⟩ := xmj hf
      subst e9
      have hf := hg
      refine ⟨fun a' e => xnc2 e, fun b e => ?_⟩
      have h9 := Sum.inr.inj e
      subst h9
      by_cases q : x3 = (100000 : Int32)
      · have hf := xip q hf
        have hf := xsj hf
        subst hf
        exact ⟨hm, hA⟩
      · have hf := xin q hf
        by_cases q : x4 = (100000 : Int32)
        · have hf := xip q hf
          have hf := xsj hf
          subst hf
          exact ⟨hm, hA⟩
        · have hf := xin q hf
          have hf := xsj hf
          subst hf
          exact ⟨hm, hA⟩
    · have hf := xin q hf
      obtain ⟨v5, e4, hf⟩ := xbd hf
      obtain ⟨v7, e6, hf⟩ := xbd hf
      by_cases q : v5 = v7
      · have hf := xip q hf
        obtain ⟨z9, e8, hf⟩ := xbd hf
        obtain ⟨v11, e10, hf⟩ := xbd hf
        by_cases q : x3 ≤ v11
        · have hf := xip q hf
          have hf := xsj hf
          subst hf
          exact ⟨fun a' e => (by have h9 := Sum.inl.inj e; subst h9; exact trivial), fun b e => xnc1 e⟩
        · have hf := xin q hf
          obtain ⟨z13, e12, hf⟩ := xbd hf
          obtain ⟨v15, e14, hf⟩ := xbd hf
          have hf := xsj hf
          subst hf
          exact ⟨fun a' e => (by have h9 := Sum.inl.inj e; subst h9; exact trivial), fun b e => xnc1 e⟩
      · have hf := xin q hf
        obtain ⟨z9, e8, hf⟩ := xbd hf
        obtain ⟨v11, e10, hf⟩ := xbd hf
        by_cases q : x4 ≤ v11
        · have hf := xip q hf
          have hf := xsj hf
          subst hf
          exact ⟨fun a' e => (by have h9 := Sum.inl.inj e; subst h9; exact trivial), fun b e => xnc1 e⟩
        · have hf := xin q hf
          obtain ⟨z13, e12, hf⟩ := xbd hf
          obtain ⟨v15, e14, hf⟩ := xbd hf
          have hf := xsj hf
          subst hf
          exact ⟨fun a' e => (by have h9 := Sum.inl.inj e; subst h9; exact trivial), fun b e => xnc1 e⟩
  cases y with
  | inl a' =>
    exact hc a' rfl hA0
  | inr b =>
    have h1 := he b rfl
    subst h1
    exact hy.2 _ rfl
theorem n_X12_stiff {A : Nat → Prop} {σ : XS} {r0 : Nat} {x1 : Int32} {x2 : Int32} {x : Int32 × XS} (hA : Reg A σ) (hr0 : A r0) (hf : f_X12_stiff σ r0 x1 x2 = some x) : Sm A σ x.2 ∧ Reg A x.2 := by
  have hm := Sm.rf (A := A) (σ := σ)
  obtain ⟨_, e1, hf⟩ := xbd hf
  obtain ⟨v3, e2, hf⟩ := xbd hf
  by_cases q : v3 = 0
  · have hf := xip q hf
    have hf := xsj hf
    subst hf
    exact ⟨hm, hA⟩
  · have hf := xin q hf
    obtain ⟨_, e4, hf⟩ := xbd hf
    obtain ⟨v6, e5, hf⟩ := xbd hf
    by_cases q : v6 = 0
    · have hf := xip q hf
      have hf := xsj hf
      subst hf
      exact ⟨hm, hA⟩
    · have hf := xin q hf
      by_cases q : x1 = x2
      · have hf := xip q hf
        have hf := xsj hf
        subst hf
        exact ⟨hm, hA⟩
      · have hf := xin q hf
        obtain ⟨_, e7, hf⟩ := xbd hf
        obtain ⟨σ9, e8, hf⟩ := xbd hf
        obtain ⟨hm9, hA⟩ := n_X12_knows hA hr0 e8
        have hm := hm.tr hm9
        exact ⟨hm.tr (n_X12_stiff_l41 (a := ((100000 : Int32), (100000 : Int32), (0 : Int32))) hA hf).1, (n_X12_stiff_l41 (a := ((100000 : Int32), (100000 : Int32), (0 : Int32))) hA hf).2⟩
theorem n_X12_stuck_j47 {A : Nat → Prop} {σ : XS} {r0 : Nat} {x1 : Int32} {x2 : Int32} {x3 : Int32} {x : ((Int32 × Int32) ⊕ (Int32 × XS))} (hA : Reg A σ) (hf : f_X12_stuck_j47 σ r0 x1 x2 x3 = some x) : (∀ a' : Int32 × Int32, x = .inl a' → True) ∧ (∀ b1 : Int32 × XS, x = .inr b1 → Sm A σ b1.2 ∧ Reg A b1.2) := by
  have hm := Sm.rf (A := A) (σ := σ)
  obtain ⟨_, e1, hf⟩ := xbd hf
  obtain ⟨v3, e2, hf⟩ := xbd hf
  by_cases q : 0 ≤ v3
  · have hf := xip q hf
    have hf := xsj hf
    subst hf
    exact ⟨fun a' e => (by have h9 := Sum.inl.inj e; subst h9; exact trivial), fun b e => xnc1 e⟩
  · have hf := xin q hf
    have hf := xsj hf
    subst hf
    exact ⟨fun a' e => (by have h9 := Sum.inl.inj e; subst h9; exact trivial), fun b e => xnc1 e⟩
theorem n_X12_stuck_l8 {A : Nat → Prop} {σ : XS} {r0 : Nat} {x1 : Int32} {a : Int32 × Int32} {x : Int32 × XS} (hA : Reg A σ) (hf : xloop (f_X12_stuck_b8 σ r0 x1) a = some x) : Sm A σ x.2 ∧ Reg A x.2 := by
  revert hA
  refine xloop_ind (P := fun a => Reg A σ → Sm A σ x.2 ∧ Reg A x.2) (fun a y hf hc he => ?_) hf
  obtain ⟨x2, x3⟩ := a
  intro hA
  have hA0 : Reg A σ := hA
  have hy : (∀ a' : Int32 × Int32, y = .inl a' → True) ∧ (∀ b1 : Int32 × XS, y = .inr b1 → Sm A σ b1.2 ∧ Reg A b1.2) := by
    have hm := Sm.rf (A := A) (σ := σ)
    obtain ⟨_, e1, hf⟩ := xbd hf
    obtain ⟨v3, e2, hf⟩ := xbd hf
    by_cases q : v3 ≤ x3
    · have hf := xip q hf
      obtain ⟨b0, hg, e9⟩ := xmj hf
      subst e9
      have hf := hg
      refine ⟨fun a' e => xnc2 e, fun b e => ?_⟩
      have h9 := Sum.inr.inj e
      subst h9
      have hf := xsj hf
      subst hf
      exact ⟨hm, hA⟩
    · have hf := xin q hf
      obtain ⟨z5, e4, hf⟩ := xbd hf
      obtain ⟨v7, e6, hf⟩ := xbd hf
      by_cases q : (100000 : Int32) ≤ v7
      · have hf := xip q hf
        have hf := xsj hf
        subst hf
        exact ⟨fun a' e => (by have h9 := Sum.inl.inj e; subst h9; exact trivial), fun b e => xnc1 e⟩
      · have hf := xin q hf
        by_cases q : x1 = 0
        · have hf := xip q hf
          exact ⟨fun _ _ => trivial, fun b1 eb1 => ⟨hm.tr ((n_X12_stuck_j47 hA hf).2 b1 eb1).1, ((n_X12_stuck_j47 hA hf).2 b1 eb1).2⟩⟩
        · have hf := xin q hf
          obtain ⟨z9, e8, hf⟩ := xbd hf
          obtain ⟨v11, e10, hf⟩ := xbd hf
          obtain ⟨z13, e12, hf⟩ := xbd hf
          obtain ⟨v15, e14, hf⟩ := xbd hf
          by_cases q : v11 ≤ v15
          · have hf := xip q hf
            have hf := xsj hf
            subst hf
            exact ⟨fun a' e => (by have h9 := Sum.inl.inj e; subst h9; exact trivial), fun b e => xnc1 e⟩
          · have hf := xin q hf
            exact ⟨fun _ _ => trivial, fun b1 eb1 => ⟨hm.tr ((n_X12_stuck_j47 hA hf).2 b1 eb1).1, ((n_X12_stuck_j47 hA hf).2 b1 eb1).2⟩⟩
  cases y with
  | inl a' =>
    exact hc a' rfl hA0
  | inr b =>
    have h1 := he b rfl
    subst h1
    exact hy.2 _ rfl
theorem n_X12_stuck {A : Nat → Prop} {σ : XS} {r0 : Nat} {x1 : Int32} {x : Int32 × XS} (hA : Reg A σ) (hr0 : A r0) (hf : f_X12_stuck σ r0 x1 = some x) : Sm A σ x.2 ∧ Reg A x.2 := by
  have hm := Sm.rf (A := A) (σ := σ)
  obtain ⟨_, e1, hf⟩ := xbd hf
  obtain ⟨σ3, e2, hf⟩ := xbd hf
  obtain ⟨hm9, hA⟩ := n_X12_knows hA hr0 e2
  have hm := hm.tr hm9
  exact ⟨hm.tr (n_X12_stuck_l8 (a := ((0 : Int32), (0 : Int32))) hA hf).1, (n_X12_stuck_l8 (a := ((0 : Int32), (0 : Int32))) hA hf).2⟩
theorem n_X12_tie_j60 {A : Nat → Prop} {σ : XS} {r0 : Nat} {x1 : Int32} {x3 : Int32} {t0 : Nat} {t1 : Int32} {x : Int32 × XS} (hA : Reg A σ) (hr0 : A r0) (ht0 : A t0) (hf : f_X12_tie_j60 σ r0 x1 x3 t0 t1 = some x) : Sm A σ x.2 ∧ Reg A x.2 := by
  have hm := Sm.rf (A := A) (σ := σ)
  obtain ⟨σ2, e1, hf⟩ := xbd hf
  obtain ⟨hm9, hA⟩ := xsI_reg hA ht0 e1
  have hm := hm.tr hm9
  obtain ⟨σ4, e3, hf⟩ := xbd hf
  obtain ⟨hm9, hA⟩ := xpI_reg hA hr0 e3
  have hm := hm.tr hm9
  have hf := xsj hf
  subst hf
  exact ⟨hm, hA⟩
theorem n_X12_tie {A : Nat → Prop} {σ : XS} {r0 : Nat} {x1 : Int32} {x2 : Int32} {x3 : Int32} {x : Int32 × XS} (hA : Reg A σ) (hr0 : A r0) (hf : f_X12_tie σ r0 x1 x2 x3 = some x) : Sm A σ x.2 ∧ Reg A x.2 := by
  have hm := Sm.rf (A := A) (σ := σ)
  obtain ⟨_, e1, hf⟩ := xbd hf
  obtain ⟨v3, e2, hf⟩ := xbd hf
  by_cases q : v3 = 0
  · have hf := xip q hf
    have hf := xsj hf
    subst hf
    exact ⟨hm, hA⟩
  · have hf := xin q hf
    obtain ⟨v5, e4, hf⟩ := xbd hf
    by_cases q : v5 = 0
    · have hf := xip q hf
      have hf := xsj hf
      subst hf
      exact ⟨hm, hA⟩
    · have hf := xin q hf
      obtain ⟨_, e6, hf⟩ := xbd hf
      obtain ⟨v8, e7, hf⟩ := xbd hf
      by_cases q : v8 < 0
      · have hf := xip q hf
        have hf := xsj hf
        subst hf
        exact ⟨hm, hA⟩
      · have hf := xin q hf
        obtain ⟨z10, e9, hf⟩ := xbd hf
        obtain ⟨v12, e11, hf⟩ := xbd hf
        by_cases q : v12 = x3
        · have hf := xip q hf
          have hf := xsj hf
          subst hf
          exact ⟨hm, hA⟩
        · have hf := xin q hf
          obtain ⟨_, e13, hf⟩ := xbd hf
          obtain ⟨σ15, e14, hf⟩ := xbd hf
          obtain ⟨hm9, hA⟩ := n_X12_marks hA hr0 e14
          have hm := hm.tr hm9
          obtain ⟨z17, e16, hf⟩ := xbd hf
          have hz17 := xgR_reg rfl hA hr0 e16
          by_cases q : x2 = 0
          · have hf := xip q hf
            exact ⟨hm.tr (n_X12_tie_j60 hA hr0 hz17 hf).1, (n_X12_tie_j60 hA hr0 hz17 hf).2⟩
          · have hf := xin q hf
            exact ⟨hm.tr (n_X12_tie_j60 hA hr0 hz17 hf).1, (n_X12_tie_j60 hA hr0 hz17 hf).2⟩
theorem n_X12_turn {A : Nat → Prop} {σ : XS} {r0 : Nat} {x1 : Int32} {x : Int32 × XS} (hA : Reg A σ) (hr0 : A r0) (hf : f_X12_turn σ r0 x1 = some x) : Sm A σ x.2 ∧ Reg A x.2 := by
  have hm := Sm.rf (A := A) (σ := σ)
  obtain ⟨_, e1, hf⟩ := xbd hf
  obtain ⟨v3, e2, hf⟩ := xbd hf
  by_cases q : v3 = 0
  · have hf := xip q hf
    have hf := xsj hf
    subst hf
    exact ⟨hm, hA⟩
  · have hf := xin q hf
    obtain ⟨z5, e4, hf⟩ := xbd hf
    obtain ⟨v7, e6, hf⟩ := xbd hf
    by_cases q : v7 ≤ 0
    · have hf := xip q hf
      obtain ⟨_, e8, hf⟩ := xbd hf
      obtain ⟨σ10, e9, hf⟩ := xbd hf
      obtain ⟨hm9, hA⟩ := n_X12_marks hA hr0 e9
      have hm := hm.tr hm9
      obtain ⟨z12, e11, hf⟩ := xbd hf
      have hz12 := xgR_reg rfl hA hr0 e11
      obtain ⟨v14, e13, hf⟩ := xbd hf
      obtain ⟨σ16, e15, hf⟩ := xbd hf
      obtain ⟨hm9, hA⟩ := xsI_reg hA hz12 e15
      have hm := hm.tr hm9
      have hf := xsj hf
      subst hf
      exact ⟨hm, hA⟩
    · have hf := xin q hf
      have hf := xsj hf
      subst hf
      exact ⟨hm, hA⟩
theorem n_X12_undo_l37 {A : Nat → Prop} {r0 : Nat} {x1 : Int32} {a : Int32 × XS} {x : Int32 × XS} (hA : Reg A a.2) (hr0 : A r0) (hf : xloop (f_X12_undo_b37 r0 x1) a = some x) : Sm A a.2 x.2 ∧ Reg A x.2 := by
  revert hA
  refine xloop_ind (P := fun a => Reg A a.2 → Sm A a.2 x.2 ∧ Reg A x.2) (fun a y hf hc he => ?_) hf
  obtain ⟨x2, σ⟩ := a
  intro hA
  have hA0 : Reg A σ := hA
  have hy : (∀ a' : Int32 × XS, y = .inl a' → Sm A σ a'.2 ∧ Reg A a'.2) ∧ (∀ b1 : Int32 × XS, y = .inr b1 → Sm A σ b1.2 ∧ Reg A b1.2) := by
    have hm := Sm.rf (A := A) (σ := σ)
    by_cases q : (66 : Int32) ≤ x2
    · have hf := xip q hf
      obtain ⟨b0, hg, e9⟩ := xmj hf
      subst e9
      have hf := hg
      refine ⟨fun a' e => xnc2 e, fun b e => ?_⟩
      have h9 := Sum.inr.inj e
      subst h9
      obtain ⟨σ2, e1, hf⟩ := xbd hf
      obtain ⟨hm9, hA⟩ := xpI_reg hA hr0 e1
      have hm := hm.tr hm9
      have hf := xsj hf
      subst hf
      exact ⟨hm, hA⟩
    · have hf := xin q hf
      obtain ⟨z2, e1, hf⟩ := xbd hf
      have hz2 := xgR_reg rfl hA hr0 e1
      obtain ⟨z4, e3, hf⟩ := xbd hf
      obtain ⟨v6, e5, hf⟩ := xbd hf
      obtain ⟨σ8, e7, hf⟩ := xbd hf
      obtain ⟨hm9, hA⟩ := xsI_reg hA hz2 e7
      have hm := hm.tr hm9
      have hf := xsj hf
      subst hf
      exact ⟨fun a' e => (by have h9 := Sum.inl.inj e; subst h9; exact ⟨hm, hA⟩), fun b e => xnc1 e⟩
  cases y with
  | inl a' =>
    obtain ⟨hm, hA1⟩ := hy.1 a' rfl
    have h1 := hc a' rfl hA1
    exact ⟨hm.tr (h1).1, (h1).2⟩
  | inr b =>
    have h1 := he b rfl
    subst h1
    exact hy.2 _ rfl
theorem n_X12_undo {A : Nat → Prop} {σ : XS} {r0 : Nat} {x : Int32 × XS} (hA : Reg A σ) (hr0 : A r0) (hf : f_X12_undo σ r0 = some x) : Sm A σ x.2 ∧ Reg A x.2 := by
  have hm := Sm.rf (A := A) (σ := σ)
  obtain ⟨v2, e1, hf⟩ := xbd hf
  by_cases q : v2 = 0
  · have hf := xip q hf
    have hf := xsj hf
    subst hf
    exact ⟨hm, hA⟩
  · have hf := xin q hf
    obtain ⟨v4, e3, hf⟩ := xbd hf
    obtain ⟨σ6, e5, hf⟩ := xbd hf
    obtain ⟨hm9, hA⟩ := xpI_reg hA hr0 e5
    have hm := hm.tr hm9
    obtain ⟨v8, e7, hf⟩ := xbd hf
    obtain ⟨v10, e9, hf⟩ := xbd hf
    exact ⟨hm.tr (n_X12_undo_l37 (a := ((0 : Int32), σ6)) hA hr0 hf).1, (n_X12_undo_l37 (a := ((0 : Int32), σ6)) hA hr0 hf).2⟩
theorem n_X12_value_j90 {A : Nat → Prop} {σ : XS} {r0 : Nat} {x1 : Int32} {w2 : Int64} {w4 : Int64} {x6 : Int32} {x7 : Int32} {x : ((Int64 × Int64 × Int32 × Int32) ⊕ (Int32 × XS))} (hA : Reg A σ) (hf : f_X12_value_j90 σ r0 x1 w2 w4 x6 x7 = some x) : (∀ a' : Int64 × Int64 × Int32 × Int32, x = .inl a' → True) ∧ (∀ b1 : Int32 × XS, x = .inr b1 → Sm A σ b1.2 ∧ Reg A b1.2) := by
  have hm := Sm.rf (A := A) (σ := σ)
  have hf := xsj hf
  subst hf
  exact ⟨fun a' e => (by have h9 := Sum.inl.inj e; subst h9; exact trivial), fun b e => xnc1 e⟩
theorem n_X12_value_l44 {A : Nat → Prop} {σ : XS} {r0 : Nat} {x1 : Int32} {a : Int64 × Int64 × Int32 × Int32} {x : Int32 × XS} (hA : Reg A σ) (hf : xloop (f_X12_value_b44 σ r0 x1) a = some x) : Sm A σ x.2 ∧ Reg A x.2 := by
  revert hA
  refine xloop_ind (P := fun a => Reg A σ → Sm A σ x.2 ∧ Reg A x.2) (fun a y hf hc he => ?_) hf
  obtain ⟨w2, w4, x6, x7⟩ := a
  intro hA
  have hA0 : Reg A σ := hA
  have hy : (∀ a' : Int64 × Int64 × Int32 × Int32, y = .inl a' → True) ∧ (∀ b1 : Int32 × XS, y = .inr b1 → Sm A σ b1.2 ∧ Reg A b1.2) := by
    have hm := Sm.rf (A := A) (σ := σ)
    obtain ⟨v2, e1, hf⟩ := xbd hf
    by_cases q : v2 ≤ x6
    · have hf := xip q hf
      obtain ⟨b0, hg, e9⟩ := xmj hf
      subst e9
      have hf := hg
      refine ⟨fun a' e => xnc2 e, fun b e => ?_⟩
      have h9 := Sum.inr.inj e
      subst h9
      have hf := xsj hf
      subst hf
      exact ⟨hm, hA⟩
    · have hf := xin q hf
      obtain ⟨z4, e3, hf⟩ := xbd hf
      obtain ⟨v6, e5, hf⟩ := xbd hf
      by_cases q : x7 = v6
      · have hf := xip q hf
        obtain ⟨z8, e7, hf⟩ := xbd hf
        obtain ⟨v10, e9, hf⟩ := xbd hf
        exact ⟨fun _ _ => trivial, fun b1 eb1 => ⟨hm.tr ((n_X12_value_j90 hA hf).2 b1 eb1).1, ((n_X12_value_j90 hA hf).2 b1 eb1).2⟩⟩
      · have hf := xin q hf
        exact ⟨fun _ _ => trivial, fun b1 eb1 => ⟨hm.tr ((n_X12_value_j90 hA hf).2 b1 eb1).1, ((n_X12_value_j90 hA hf).2 b1 eb1).2⟩⟩
  cases y with
  | inl a' =>
    exact hc a' rfl hA0
  | inr b =>
    have h1 := he b rfl
    subst h1
    exact hy.2 _ rfl
theorem n_X12_value {A : Nat → Prop} {σ : XS} {r0 : Nat} {x1 : Int32} {x : Int32 × XS} (hA : Reg A σ) (hr0 : A r0) (hf : f_X12_value σ r0 x1 = some x) : Sm A σ x.2 ∧ Reg A x.2 := by
  have hm := Sm.rf (A := A) (σ := σ)
  obtain ⟨v2, e1, hf⟩ := xbd hf
  by_cases q : v2 = 0
  · have hf := xip q hf
    have hf := xsj hf
    subst hf
    exact ⟨hm, hA⟩
  · have hf := xin q hf
    obtain ⟨_, e3, hf⟩ := xbd hf
    obtain ⟨σ5, e4, hf⟩ := xbd hf
    obtain ⟨hm9, hA⟩ := n_X12_knows hA hr0 e4
    have hm := hm.tr hm9
    obtain ⟨v7, e6, hf⟩ := xbd hf
    by_cases q : v7 = 0
    · have hf := xip q hf
      exact ⟨hm.tr (n_X12_value_l44 (a := ((0 : Int64), (1 : Int64), (0 : Int32), (0 : Int32))) hA hf).1, (n_X12_value_l44 (a := ((0 : Int64), (1 : Int64), (0 : Int32), (0 : Int32))) hA hf).2⟩
    · have hf := xin q hf
      obtain ⟨z9, e8, hf⟩ := xbd hf
      obtain ⟨v11, e10, hf⟩ := xbd hf
      exact ⟨hm.tr (n_X12_value_l44 (a := ((0 : Int64), (1 : Int64), (0 : Int32), v11)) hA hf).1, (n_X12_value_l44 (a := ((0 : Int64), (1 : Int64), (0 : Int32), v11)) hA hf).2⟩
theorem n_X12_wander_l79 {A : Nat → Prop} {σ : XS} {r0 : Nat} {x1 : Int32} {x2 : Int32} {x3 : Int32} {a : Int64 × Int32 × Int32 × Int32 × Int32} {x : Int32 × XS} (hA : Reg A σ) (hf : xloop (f_X12_wander_b79 σ r0 x1 x2 x3) a = some x) : Sm A σ x.2 ∧ Reg A x.2 := by
  revert hA
  refine xloop_ind (P := fun a => Reg A σ → Sm A σ x.2 ∧ Reg A x.2) (fun a y hf hc he => ?_) hf
  obtain ⟨w4, x6, x7, x8, x9⟩ := a
  intro hA
  have hA0 : Reg A σ := hA
  have hy : (∀ a' : Int64 × Int32 × Int32 × Int32 × Int32, y = .inl a' → True) ∧ (∀ b1 : Int32 × XS, y = .inr b1 → Sm A σ b1.2 ∧ Reg A b1.2) := by
    have hm := Sm.rf (A := A) (σ := σ)
    by_cases q : x1 ≤ x9
    · have hf := xip q hf
      obtain ⟨b0, hg, e9⟩ := xmj hf
      subst e9
      have hf := hg
      refine ⟨fun a' e => xnc2 e, fun b e => ?_⟩
      have h9 := Sum.inr.inj e
      subst h9
      by_cases q : x3 = 0
      · have hf := xip q hf
        have hf := xsj hf
        subst hf
        exact ⟨hm, hA⟩
      · have hf := xin q hf
        by_cases q : x3 = (1 : Int32)
        · have hf := xip q hf
          have hf := xsj hf
          subst hf
          exact ⟨hm, hA⟩
        · have hf := xin q hf
          have hf := xsj hf
          subst hf
          exact ⟨hm, hA⟩
    · have hf := xin q hf
      obtain ⟨v2, e1, hf⟩ := xbd hf
      obtain ⟨_, e3, hf⟩ := xbd hf
      obtain ⟨v5, e4, hf⟩ := xbd hf
      obtain ⟨_, e6, hf⟩ := xbd hf
      obtain ⟨v8, e7, hf⟩ := xbd hf
      obtain ⟨z10, e9, hf⟩ := xbd hf
      obtain ⟨v12, e11, hf⟩ := xbd hf
      by_cases q : 0 < v12
      · have hf := xip q hf
        have hf := xsj hf
        subst hf
        exact ⟨fun a' e => (by have h9 := Sum.inl.inj e; subst h9; exact trivial), fun b e => xnc1 e⟩
      · have hf := xin q hf
        obtain ⟨_, e13, hf⟩ := xbd hf
        obtain ⟨v15, e14, hf⟩ := xbd hf
        by_cases q : (((v8 / (65536 : Int64)) - (v8 / (65536 : Int64)) / (100 : Int64) * (100 : Int64)).toInt32) < ((100 : Int32) - (x2 * v15))
        · have hf := xip q hf
          obtain ⟨z17, e16, hf⟩ := xbd hf
          obtain ⟨v19, e18, hf⟩ := xbd hf
          by_cases q : x7 ≤ v19
          · have hf := xip q hf
            have hf := xsj hf
            subst hf
            exact ⟨fun a' e => (by have h9 := Sum.inl.inj e; subst h9; exact trivial), fun b e => xnc1 e⟩
          · have hf := xin q hf
            obtain ⟨z21, e20, hf⟩ := xbd hf
            obtain ⟨v23, e22, hf⟩ := xbd hf
            have hf := xsj hf
            subst hf
            exact ⟨fun a' e => (by have h9 := Sum.inl.inj e; subst h9; exact trivial), fun b e => xnc1 e⟩
        · have hf := xin q hf
          have hf := xsj hf
          subst hf
          exact ⟨fun a' e => (by have h9 := Sum.inl.inj e; subst h9; exact trivial), fun b e => xnc1 e⟩
  cases y with
  | inl a' =>
    exact hc a' rfl hA0
  | inr b =>
    have h1 := he b rfl
    subst h1
    exact hy.2 _ rfl
theorem n_X12_wander {A : Nat → Prop} {σ : XS} {r0 : Nat} {x1 : Int32} {x2 : Int32} {x3 : Int32} {x : Int32 × XS} (hA : Reg A σ) (hr0 : A r0) (hf : f_X12_wander σ r0 x1 x2 x3 = some x) : Sm A σ x.2 ∧ Reg A x.2 := by
  have hm := Sm.rf (A := A) (σ := σ)
  obtain ⟨_, e1, hf⟩ := xbd hf
  obtain ⟨v3, e2, hf⟩ := xbd hf
  by_cases q : v3 = 0
  · have hf := xip q hf
    have hf := xsj hf
    subst hf
    exact ⟨hm, hA⟩
  · have hf := xin q hf
    obtain ⟨v5, e4, hf⟩ := xbd hf
    by_cases q : v5 = 0
    · have hf := xip q hf
      have hf := xsj hf
      subst hf
      exact ⟨hm, hA⟩
    · have hf := xin q hf
      obtain ⟨v7, e6, hf⟩ := xbd hf
      by_cases q : v7 = 0
      · have hf := xip q hf
        have hf := xsj hf
        subst hf
        exact ⟨hm, hA⟩
      · have hf := xin q hf
        obtain ⟨v9, e8, hf⟩ := xbd hf
        by_cases q : v9 = 0
        · have hf := xip q hf
          have hf := xsj hf
          subst hf
          exact ⟨hm, hA⟩
        · have hf := xin q hf
          obtain ⟨_, e10, hf⟩ := xbd hf
          obtain ⟨σ12, e11, hf⟩ := xbd hf
          obtain ⟨hm9, hA⟩ := n_X12_knows hA hr0 e11
          have hm := hm.tr hm9
          obtain ⟨z14, e13, hf⟩ := xbd hf
          obtain ⟨v16, e15, hf⟩ := xbd hf
          obtain ⟨z18, e17, hf⟩ := xbd hf
          obtain ⟨v20, e19, hf⟩ := xbd hf
          obtain ⟨z22, e21, hf⟩ := xbd hf
          obtain ⟨v24, e23, hf⟩ := xbd hf
          exact ⟨hm.tr (n_X12_wander_l79 (a := (v16.toInt64, v20, v24, (0 : Int32), (0 : Int32))) hA hf).1, (n_X12_wander_l79 (a := (v16.toInt64, v20, v24, (0 : Int32), (0 : Int32))) hA hf).2⟩
theorem n_L_law_j355 {A : Nat → Prop} {L : Nat} {xs : Nat → Int32} {σ : XS} {r1 : Nat} {r2 : Nat} {x3 : Int32} {t0 : Nat} {t1 : Int32} {t2 : Int32} {x : ((Int32 × XS) ⊕ (Int32 × XS))} (hA : RegN A σ) (ht0 : A t0) (hf : f_L_law_j355 L xs σ r1 r2 x3 t0 t1 t2 = some x) : (∀ a' : Int32 × XS, x = .inl a' → Sm A σ a'.2 ∧ RegN A a'.2) ∧ (∀ b1 : Int32 × XS, x = .inr b1 → Sm A σ b1.2 ∧ RegN A b1.2) := by
  have hm := Sm.rf (A := A) (σ := σ)
  obtain ⟨v2, e1, hf⟩ := xbd hf
  obtain ⟨_, e3, hf⟩ := xbd hf
  obtain ⟨⟨v6, σ5⟩, e4, hf⟩ := xbd hf
  dsimp only at hf
  obtain ⟨hm9, hB⟩ := n_X12_tie hA.1 ht0 e4
  have hA := RegN.step hA hB (m_X12_tie e4).ext
  have hm := hm.tr hm9
  have hf := xsj hf
  subst hf
  exact ⟨fun a' e => (by have h9 := Sum.inl.inj e; subst h9; exact ⟨hm, hA⟩), fun b e => xnc1 e⟩
theorem n_L_law_j327 {A : Nat → Prop} {L : Nat} {xs : Nat → Int32} {σ : XS} {r1 : Nat} {r2 : Nat} {x3 : Int32} {t0 : Nat} {t1 : Int32} {t2 : Int32} {x : ((Int32 × XS) ⊕ (Int32 × XS))} (hA : RegN A σ) (hr2 : A r2) (ht0 : A t0) (hf : f_L_law_j327 L xs σ r1 r2 x3 t0 t1 t2 = some x) : (∀ a' : Int32 × XS, x = .inl a' → Sm A σ a'.2 ∧ RegN A a'.2) ∧ (∀ b1 : Int32 × XS, x = .inr b1 → Sm A σ b1.2 ∧ RegN A b1.2) := by
  have hm := Sm.rf (A := A) (σ := σ)
  obtain ⟨v2, e1, hf⟩ := xbd hf
  obtain ⟨_, e3, hf⟩ := xbd hf
  obtain ⟨⟨v6, σ5⟩, e4, hf⟩ := xbd hf
  dsimp only at hf
  obtain ⟨hm9, hB⟩ := n_X11_tie hA.1 ht0 e4
  have hA := RegN.step hA hB (m_X11_tie e4).ext
  have hm := hm.tr hm9
  obtain ⟨v8, e7, hf⟩ := xbd hf
  obtain ⟨v10, e9, hf⟩ := xbd hf
  by_cases q : v10 = 0
  · have hf := xip q hf
    exact ⟨fun a' e => ⟨hm.tr ((n_L_law_j355 hA hr2 hf).1 a' e).1, ((n_L_law_j355 hA hr2 hf).1 a' e).2⟩, fun b1 eb1 => ⟨hm.tr ((n_L_law_j355 hA hr2 hf).2 b1 eb1).1, ((n_L_law_j355 hA hr2 hf).2 b1 eb1).2⟩⟩
  · have hf := xin q hf
    exact ⟨fun a' e => ⟨hm.tr ((n_L_law_j355 hA hr2 hf).1 a' e).1, ((n_L_law_j355 hA hr2 hf).1 a' e).2⟩, fun b1 eb1 => ⟨hm.tr ((n_L_law_j355 hA hr2 hf).2 b1 eb1).1, ((n_L_law_j355 hA hr2 hf).2 b1 eb1).2⟩⟩
theorem n_L_law_j552 {A : Nat → Prop} {L : Nat} {xs : Nat → Int32} {σ : XS} {r1 : Nat} {r2 : Nat} {x3 : Int32} {t0 : Int32} {x : ((Int32 × XS) ⊕ (Int32 × XS))} (hA : RegN A σ) (hr2 : A r2) (hf : f_L_law_j552 L xs σ r1 r2 x3 t0 = some x) : (∀ a' : Int32 × XS, x = .inl a' → Sm A σ a'.2 ∧ RegN A a'.2) ∧ (∀ b1 : Int32 × XS, x = .inr b1 → Sm A σ b1.2 ∧ RegN A b1.2) := by
  have hm := Sm.rf (A := A) (σ := σ)
  obtain ⟨v2, e1, hf⟩ := xbd hf
  obtain ⟨v4, e3, hf⟩ := xbd hf
  obtain ⟨_, e5, hf⟩ := xbd hf
  obtain ⟨⟨v8, σ7⟩, e6, hf⟩ := xbd hf
  dsimp only at hf
  obtain ⟨hm9, hB⟩ := n_X12_level hA.1 hr2 e6
  have hA := RegN.step hA hB (m_X12_level e6).ext
  have hm := hm.tr hm9
  have hf := xsj hf
  subst hf
  exact ⟨fun a' e => (by have h9 := Sum.inl.inj e; subst h9; exact ⟨hm, hA⟩), fun b e => xnc1 e⟩
theorem n_L_law_j585 {A : Nat → Prop} {L : Nat} {xs : Nat → Int32} {σ : XS} {r1 : Nat} {r2 : Nat} {x3 : Int32} {t0 : Int32} {x : ((Int32 × XS) ⊕ (Int32 × XS))} (hA : RegN A σ) (hr2 : A r2) (hf : f_L_law_j585 L xs σ r1 r2 x3 t0 = some x) : (∀ a' : Int32 × XS, x = .inl a' → Sm A σ a'.2 ∧ RegN A a'.2) ∧ (∀ b1 : Int32 × XS, x = .inr b1 → Sm A σ b1.2 ∧ RegN A b1.2) := by
  have hm := Sm.rf (A := A) (σ := σ)
  obtain ⟨v2, e1, hf⟩ := xbd hf
  obtain ⟨v4, e3, hf⟩ := xbd hf
  obtain ⟨_, e5, hf⟩ := xbd hf
  obtain ⟨⟨v8, σ7⟩, e6, hf⟩ := xbd hf
  dsimp only at hf
  obtain ⟨hm9, hB⟩ := n_X12_both hA.1 hr2 e6
  have hA := RegN.step hA hB (m_X12_both e6).ext
  have hm := hm.tr hm9
  have hf := xsj hf
  subst hf
  exact ⟨fun a' e => (by have h9 := Sum.inl.inj e; subst h9; exact ⟨hm, hA⟩), fun b e => xnc1 e⟩
theorem n_L_law_j613 {A : Nat → Prop} {L : Nat} {xs : Nat → Int32} {σ : XS} {r1 : Nat} {r2 : Nat} {x3 : Int32} {t0 : Int32} {x : ((Int32 × XS) ⊕ (Int32 × XS))} (hA : RegN A σ) (hr2 : A r2) (hf : f_L_law_j613 L xs σ r1 r2 x3 t0 = some x) : (∀ a' : Int32 × XS, x = .inl a' → Sm A σ a'.2 ∧ RegN A a'.2) ∧ (∀ b1 : Int32 × XS, x = .inr b1 → Sm A σ b1.2 ∧ RegN A b1.2) := by
  have hm := Sm.rf (A := A) (σ := σ)
  obtain ⟨v2, e1, hf⟩ := xbd hf
  obtain ⟨_, e3, hf⟩ := xbd hf
  obtain ⟨⟨v6, σ5⟩, e4, hf⟩ := xbd hf
  dsimp only at hf
  obtain ⟨hm9, hB⟩ := n_X12_broken hA.1 hr2 e4
  have hA := RegN.step hA hB (m_X12_broken e4).ext
  have hm := hm.tr hm9
  have hf := xsj hf
  subst hf
  exact ⟨fun a' e => (by have h9 := Sum.inl.inj e; subst h9; exact ⟨hm, hA⟩), fun b e => xnc1 e⟩
theorem n_L_law_j636 {A : Nat → Prop} {L : Nat} {xs : Nat → Int32} {σ : XS} {r1 : Nat} {r2 : Nat} {x3 : Int32} {t0 : Int32} {x : ((Int32 × XS) ⊕ (Int32 × XS))} (hA : RegN A σ) (hr2 : A r2) (hf : f_L_law_j636 L xs σ r1 r2 x3 t0 = some x) : (∀ a' : Int32 × XS, x = .inl a' → Sm A σ a'.2 ∧ RegN A a'.2) ∧ (∀ b1 : Int32 × XS, x = .inr b1 → Sm A σ b1.2 ∧ RegN A b1.2) := by
  have hm := Sm.rf (A := A) (σ := σ)
  obtain ⟨v2, e1, hf⟩ := xbd hf
  obtain ⟨_, e3, hf⟩ := xbd hf
  obtain ⟨⟨v6, σ5⟩, e4, hf⟩ := xbd hf
  dsimp only at hf
  obtain ⟨hm9, hB⟩ := n_X12_ground hA.1 hr2 e4
  have hA := RegN.step hA hB (m_X12_ground e4).ext
  have hm := hm.tr hm9
  have hf := xsj hf
  subst hf
  exact ⟨fun a' e => (by have h9 := Sum.inl.inj e; subst h9; exact ⟨hm, hA⟩), fun b e => xnc1 e⟩
theorem n_L_law_j674 {A : Nat → Prop} {L : Nat} {xs : Nat → Int32} {σ : XS} {r1 : Nat} {r2 : Nat} {x3 : Int32} {t0 : Int32} {x : ((Int32 × XS) ⊕ (Int32 × XS))} (hA : RegN A σ) (hr2 : A r2) (hf : f_L_law_j674 L xs σ r1 r2 x3 t0 = some x) : (∀ a' : Int32 × XS, x = .inl a' → Sm A σ a'.2 ∧ RegN A a'.2) ∧ (∀ b1 : Int32 × XS, x = .inr b1 → Sm A σ b1.2 ∧ RegN A b1.2) := by
  have hm := Sm.rf (A := A) (σ := σ)
  obtain ⟨v2, e1, hf⟩ := xbd hf
  obtain ⟨v4, e3, hf⟩ := xbd hf
  obtain ⟨v6, e5, hf⟩ := xbd hf
  obtain ⟨v8, e7, hf⟩ := xbd hf
  obtain ⟨_, e9, hf⟩ := xbd hf
  obtain ⟨⟨v12, σ11⟩, e10, hf⟩ := xbd hf
  dsimp only at hf
  obtain ⟨hm9, hB⟩ := n_X12_pair hA.1 hr2 e10
  have hA := RegN.step hA hB (m_X12_pair e10).ext
  have hm := hm.tr hm9
  have hf := xsj hf
  subst hf
  exact ⟨fun a' e => (by have h9 := Sum.inl.inj e; subst h9; exact ⟨hm, hA⟩), fun b e => xnc1 e⟩
theorem n_L_law_j717 {A : Nat → Prop} {L : Nat} {xs : Nat → Int32} {σ : XS} {r1 : Nat} {r2 : Nat} {x3 : Int32} {t0 : Int32} {x : ((Int32 × XS) ⊕ (Int32 × XS))} (hA : RegN A σ) (hr2 : A r2) (hf : f_L_law_j717 L xs σ r1 r2 x3 t0 = some x) : (∀ a' : Int32 × XS, x = .inl a' → Sm A σ a'.2 ∧ RegN A a'.2) ∧ (∀ b1 : Int32 × XS, x = .inr b1 → Sm A σ b1.2 ∧ RegN A b1.2) := by
  have hm := Sm.rf (A := A) (σ := σ)
  obtain ⟨v2, e1, hf⟩ := xbd hf
  obtain ⟨v4, e3, hf⟩ := xbd hf
  obtain ⟨_, e5, hf⟩ := xbd hf
  obtain ⟨⟨v8, σ7⟩, e6, hf⟩ := xbd hf
  dsimp only at hf
  obtain ⟨hm9, hB⟩ := n_X12_mean hA.1 hr2 e6
  have hA := RegN.step hA hB (m_X12_mean e6).ext
  have hm := hm.tr hm9
  have hf := xsj hf
  subst hf
  exact ⟨fun a' e => (by have h9 := Sum.inl.inj e; subst h9; exact ⟨hm, hA⟩), fun b e => xnc1 e⟩
theorem n_L_law_j745 {A : Nat → Prop} {L : Nat} {xs : Nat → Int32} {σ : XS} {r1 : Nat} {r2 : Nat} {x3 : Int32} {t0 : Int32} {x : ((Int32 × XS) ⊕ (Int32 × XS))} (hA : RegN A σ) (hr2 : A r2) (hf : f_L_law_j745 L xs σ r1 r2 x3 t0 = some x) : (∀ a' : Int32 × XS, x = .inl a' → Sm A σ a'.2 ∧ RegN A a'.2) ∧ (∀ b1 : Int32 × XS, x = .inr b1 → Sm A σ b1.2 ∧ RegN A b1.2) := by
  have hm := Sm.rf (A := A) (σ := σ)
  obtain ⟨v2, e1, hf⟩ := xbd hf
  obtain ⟨_, e3, hf⟩ := xbd hf
  obtain ⟨⟨v6, σ5⟩, e4, hf⟩ := xbd hf
  dsimp only at hf
  obtain ⟨hm9, hB⟩ := n_X12_value hA.1 hr2 e4
  have hA := RegN.step hA hB (m_X12_value e4).ext
  have hm := hm.tr hm9
  have hf := xsj hf
  subst hf
  exact ⟨fun a' e => (by have h9 := Sum.inl.inj e; subst h9; exact ⟨hm, hA⟩), fun b e => xnc1 e⟩
theorem n_L_law_j778 {A : Nat → Prop} {L : Nat} {xs : Nat → Int32} {σ : XS} {r1 : Nat} {r2 : Nat} {x3 : Int32} {t0 : Int64} {x : ((Int32 × XS) ⊕ (Int32 × XS))} (hA : RegN A σ) (hr2 : A r2) (hf : f_L_law_j778 L xs σ r1 r2 x3 t0 = some x) : (∀ a' : Int32 × XS, x = .inl a' → Sm A σ a'.2 ∧ RegN A a'.2) ∧ (∀ b1 : Int32 × XS, x = .inr b1 → Sm A σ b1.2 ∧ RegN A b1.2) := by
  have hm := Sm.rf (A := A) (σ := σ)
  obtain ⟨v2, e1, hf⟩ := xbd hf
  obtain ⟨v4, e3, hf⟩ := xbd hf
  obtain ⟨v6, e5, hf⟩ := xbd hf
  obtain ⟨_, e7, hf⟩ := xbd hf
  obtain ⟨⟨v10, σ9⟩, e8, hf⟩ := xbd hf
  dsimp only at hf
  obtain ⟨hm9, hB⟩ := n_X12_joined hA.1 hr2 e8
  have hA := RegN.step hA hB (m_X12_joined e8).ext
  have hm := hm.tr hm9
  have hf := xsj hf
  subst hf
  exact ⟨fun a' e => (by have h9 := Sum.inl.inj e; subst h9; exact ⟨hm, hA⟩), fun b e => xnc1 e⟩
theorem n_L_law_j816 {A : Nat → Prop} {L : Nat} {xs : Nat → Int32} {σ : XS} {r1 : Nat} {r2 : Nat} {x3 : Int32} {t0 : Int32} {x : ((Int32 × XS) ⊕ (Int32 × XS))} (hA : RegN A σ) (hr2 : A r2) (hf : f_L_law_j816 L xs σ r1 r2 x3 t0 = some x) : (∀ a' : Int32 × XS, x = .inl a' → Sm A σ a'.2 ∧ RegN A a'.2) ∧ (∀ b1 : Int32 × XS, x = .inr b1 → Sm A σ b1.2 ∧ RegN A b1.2) := by
  have hm := Sm.rf (A := A) (σ := σ)
  obtain ⟨v2, e1, hf⟩ := xbd hf
  obtain ⟨v4, e3, hf⟩ := xbd hf
  obtain ⟨_, e5, hf⟩ := xbd hf
  obtain ⟨⟨v8, σ7⟩, e6, hf⟩ := xbd hf
  dsimp only at hf
  obtain ⟨hm9, hB⟩ := n_X12_state hA.1 hr2 e6
  have hA := RegN.step hA hB (m_X12_state e6).ext
  have hm := hm.tr hm9
  have hf := xsj hf
  subst hf
  exact ⟨fun a' e => (by have h9 := Sum.inl.inj e; subst h9; exact ⟨hm, hA⟩), fun b e => xnc1 e⟩
theorem n_L_law_j867 {A : Nat → Prop} {L : Nat} {xs : Nat → Int32} {σ : XS} {r1 : Nat} {r2 : Nat} {x3 : Int32} {t0 : Nat} {t1 : Int32} {x : ((Int32 × XS) ⊕ (Int32 × XS))} (hA : RegN A σ) (ht0 : A t0) (hf : f_L_law_j867 L xs σ r1 r2 x3 t0 t1 = some x) : (∀ a' : Int32 × XS, x = .inl a' → Sm A σ a'.2 ∧ RegN A a'.2) ∧ (∀ b1 : Int32 × XS, x = .inr b1 → Sm A σ b1.2 ∧ RegN A b1.2) := by
  have hm := Sm.rf (A := A) (σ := σ)
  obtain ⟨_, e1, hf⟩ := xbd hf
  obtain ⟨⟨v4, σ3⟩, e2, hf⟩ := xbd hf
  dsimp only at hf
  obtain ⟨hm9, hB⟩ := n_X12_stuck hA.1 ht0 e2
  have hA := RegN.step hA hB (m_X12_stuck e2).ext
  have hm := hm.tr hm9
  have hf := xsj hf
  subst hf
  exact ⟨fun a' e => (by have h9 := Sum.inl.inj e; subst h9; exact ⟨hm, hA⟩), fun b e => xnc1 e⟩
theorem n_L_law_j852 {A : Nat → Prop} {L : Nat} {xs : Nat → Int32} {σ : XS} {r1 : Nat} {r2 : Nat} {x3 : Int32} {t0 : Int32} {x : ((Int32 × XS) ⊕ (Int32 × XS))} (hA : RegN A σ) (hr2 : A r2) (hf : f_L_law_j852 L xs σ r1 r2 x3 t0 = some x) : (∀ a' : Int32 × XS, x = .inl a' → Sm A σ a'.2 ∧ RegN A a'.2) ∧ (∀ b1 : Int32 × XS, x = .inr b1 → Sm A σ b1.2 ∧ RegN A b1.2) := by
  have hm := Sm.rf (A := A) (σ := σ)
  obtain ⟨v2, e1, hf⟩ := xbd hf
  by_cases q : v2 = 0
  · have hf := xip q hf
    exact ⟨fun a' e => ⟨hm.tr ((n_L_law_j867 hA hr2 hf).1 a' e).1, ((n_L_law_j867 hA hr2 hf).1 a' e).2⟩, fun b1 eb1 => ⟨hm.tr ((n_L_law_j867 hA hr2 hf).2 b1 eb1).1, ((n_L_law_j867 hA hr2 hf).2 b1 eb1).2⟩⟩
  · have hf := xin q hf
    exact ⟨fun a' e => ⟨hm.tr ((n_L_law_j867 hA hr2 hf).1 a' e).1, ((n_L_law_j867 hA hr2 hf).1 a' e).2⟩, fun b1 eb1 => ⟨hm.tr ((n_L_law_j867 hA hr2 hf).2 b1 eb1).1, ((n_L_law_j867 hA hr2 hf).2 b1 eb1).2⟩⟩
theorem n_L_law_j849 {A : Nat → Prop} {L : Nat} {xs : Nat → Int32} {σ : XS} {r1 : Nat} {r2 : Nat} {x3 : Int32} {t0 : Nat} {t1 : Int32} {x : ((Int32 × XS) ⊕ (Int32 × XS))} (hA : RegN A σ) (hr2 : A r2) (ht0 : A t0) (hf : f_L_law_j849 L xs σ r1 r2 x3 t0 t1 = some x) : (∀ a' : Int32 × XS, x = .inl a' → Sm A σ a'.2 ∧ RegN A a'.2) ∧ (∀ b1 : Int32 × XS, x = .inr b1 → Sm A σ b1.2 ∧ RegN A b1.2) := by
  have hm := Sm.rf (A := A) (σ := σ)
  obtain ⟨_, e1, hf⟩ := xbd hf
  obtain ⟨⟨v4, σ3⟩, e2, hf⟩ := xbd hf
  dsimp only at hf
  obtain ⟨hm9, hA⟩ := n_X11_stuck hA ht0 e2
  have hm := hm.tr hm9
  exact ⟨fun a' e => ⟨hm.tr ((n_L_law_j852 hA hr2 hf).1 a' e).1, ((n_L_law_j852 hA hr2 hf).1 a' e).2⟩, fun b1 eb1 => ⟨hm.tr ((n_L_law_j852 hA hr2 hf).2 b1 eb1).1, ((n_L_law_j852 hA hr2 hf).2 b1 eb1).2⟩⟩
theorem n_L_law_j893 {A : Nat → Prop} {L : Nat} {xs : Nat → Int32} {σ : XS} {r1 : Nat} {r2 : Nat} {x3 : Int32} {t0 : Int32} {x : ((Int32 × XS) ⊕ (Int32 × XS))} (hA : RegN A σ) (hf : f_L_law_j893 L xs σ r1 r2 x3 t0 = some x) : (∀ a' : Int32 × XS, x = .inl a' → Sm A σ a'.2 ∧ RegN A a'.2) ∧ (∀ b1 : Int32 × XS, x = .inr b1 → Sm A σ b1.2 ∧ RegN A b1.2) := by
  have hm := Sm.rf (A := A) (σ := σ)
  obtain ⟨v2, e1, hf⟩ := xbd hf
  obtain ⟨v4, e3, hf⟩ := xbd hf
  obtain ⟨v6, e5, hf⟩ := xbd hf
  obtain ⟨_, e7, hf⟩ := xbd hf
  obtain ⟨v9, e8, hf⟩ := xbd hf
  have hf := xsj hf
  subst hf
  exact ⟨fun a' e => (by have h9 := Sum.inl.inj e; subst h9; exact ⟨hm, hA⟩), fun b e => xnc1 e⟩
theorem n_L_law_j949 {A : Nat → Prop} {L : Nat} {xs : Nat → Int32} {σ : XS} {r1 : Nat} {r2 : Nat} {x3 : Int32} {t0 : Int32} {x : ((Int32 × XS) ⊕ (Int32 × XS))} (hA : RegN A σ) (hr2 : A r2) (hf : f_L_law_j949 L xs σ r1 r2 x3 t0 = some x) : (∀ a' : Int32 × XS, x = .inl a' → Sm A σ a'.2 ∧ RegN A a'.2) ∧ (∀ b1 : Int32 × XS, x = .inr b1 → Sm A σ b1.2 ∧ RegN A b1.2) := by
  have hm := Sm.rf (A := A) (σ := σ)
  obtain ⟨v2, e1, hf⟩ := xbd hf
  obtain ⟨_, e3, hf⟩ := xbd hf
  obtain ⟨⟨v6, σ5⟩, e4, hf⟩ := xbd hf
  dsimp only at hf
  obtain ⟨hm9, hB⟩ := n_X12_overlap hA.1 hr2 e4
  have hA := RegN.step hA hB (m_X12_overlap e4).ext
  have hm := hm.tr hm9
  have hf := xsj hf
  subst hf
  exact ⟨fun a' e => (by have h9 := Sum.inl.inj e; subst h9; exact ⟨hm, hA⟩), fun b e => xnc1 e⟩
theorem n_L_law_j972 {A : Nat → Prop} {L : Nat} {xs : Nat → Int32} {σ : XS} {r1 : Nat} {r2 : Nat} {x3 : Int32} {t0 : Int32} {x : ((Int32 × XS) ⊕ (Int32 × XS))} (hA : RegN A σ) (hr2 : A r2) (hf : f_L_law_j972 L xs σ r1 r2 x3 t0 = some x) : (∀ a' : Int32 × XS, x = .inl a' → Sm A σ a'.2 ∧ RegN A a'.2) ∧ (∀ b1 : Int32 × XS, x = .inr b1 → Sm A σ b1.2 ∧ RegN A b1.2) := by
  have hm := Sm.rf (A := A) (σ := σ)
  obtain ⟨v2, e1, hf⟩ := xbd hf
  obtain ⟨_, e3, hf⟩ := xbd hf
  obtain ⟨⟨v6, σ5⟩, e4, hf⟩ := xbd hf
  dsimp only at hf
  obtain ⟨hm9, hB⟩ := n_X12_basin hA.1 hr2 e4
  have hA := RegN.step hA hB (m_X12_basin e4).ext
  have hm := hm.tr hm9
  have hf := xsj hf
  subst hf
  exact ⟨fun a' e => (by have h9 := Sum.inl.inj e; subst h9; exact ⟨hm, hA⟩), fun b e => xnc1 e⟩
theorem n_L_law_j1000 {A : Nat → Prop} {L : Nat} {xs : Nat → Int32} {σ : XS} {r1 : Nat} {r2 : Nat} {x3 : Int32} {t0 : Int32} {x : ((Int32 × XS) ⊕ (Int32 × XS))} (hA : RegN A σ) (hr2 : A r2) (hf : f_L_law_j1000 L xs σ r1 r2 x3 t0 = some x) : (∀ a' : Int32 × XS, x = .inl a' → Sm A σ a'.2 ∧ RegN A a'.2) ∧ (∀ b1 : Int32 × XS, x = .inr b1 → Sm A σ b1.2 ∧ RegN A b1.2) := by
  have hm := Sm.rf (A := A) (σ := σ)
  obtain ⟨v2, e1, hf⟩ := xbd hf
  obtain ⟨v4, e3, hf⟩ := xbd hf
  obtain ⟨_, e5, hf⟩ := xbd hf
  obtain ⟨⟨v8, σ7⟩, e6, hf⟩ := xbd hf
  dsimp only at hf
  obtain ⟨hm9, hB⟩ := n_X12_stiff hA.1 hr2 e6
  have hA := RegN.step hA hB (m_X12_stiff e6).ext
  have hm := hm.tr hm9
  have hf := xsj hf
  subst hf
  exact ⟨fun a' e => (by have h9 := Sum.inl.inj e; subst h9; exact ⟨hm, hA⟩), fun b e => xnc1 e⟩
theorem n_L_law_j1028 {A : Nat → Prop} {L : Nat} {xs : Nat → Int32} {σ : XS} {r1 : Nat} {r2 : Nat} {x3 : Int32} {t0 : Int32} {x : ((Int32 × XS) ⊕ (Int32 × XS))} (hA : RegN A σ) (hr2 : A r2) (hf : f_L_law_j1028 L xs σ r1 r2 x3 t0 = some x) : (∀ a' : Int32 × XS, x = .inl a' → Sm A σ a'.2 ∧ RegN A a'.2) ∧ (∀ b1 : Int32 × XS, x = .inr b1 → Sm A σ b1.2 ∧ RegN A b1.2) := by
  have hm := Sm.rf (A := A) (σ := σ)
  obtain ⟨v2, e1, hf⟩ := xbd hf
  obtain ⟨_, e3, hf⟩ := xbd hf
  obtain ⟨⟨v6, σ5⟩, e4, hf⟩ := xbd hf
  dsimp only at hf
  obtain ⟨hm9, hB⟩ := n_X12_hill hA.1 hr2 e4
  have hA := RegN.step hA hB (m_X12_hill e4).ext
  have hm := hm.tr hm9
  have hf := xsj hf
  subst hf
  exact ⟨fun a' e => (by have h9 := Sum.inl.inj e; subst h9; exact ⟨hm, hA⟩), fun b e => xnc1 e⟩
theorem n_L_law_j1056 {A : Nat → Prop} {L : Nat} {xs : Nat → Int32} {σ : XS} {r1 : Nat} {r2 : Nat} {x3 : Int32} {t0 : Int32} {x : ((Int32 × XS) ⊕ (Int32 × XS))} (hA : RegN A σ) (hr2 : A r2) (hf : f_L_law_j1056 L xs σ r1 r2 x3 t0 = some x) : (∀ a' : Int32 × XS, x = .inl a' → Sm A σ a'.2 ∧ RegN A a'.2) ∧ (∀ b1 : Int32 × XS, x = .inr b1 → Sm A σ b1.2 ∧ RegN A b1.2) := by
  have hm := Sm.rf (A := A) (σ := σ)
  obtain ⟨v2, e1, hf⟩ := xbd hf
  obtain ⟨v4, e3, hf⟩ := xbd hf
  obtain ⟨_, e5, hf⟩ := xbd hf
  obtain ⟨⟨v8, σ7⟩, e6, hf⟩ := xbd hf
  dsimp only at hf
  obtain ⟨hm9, hB⟩ := n_X12_pass hA.1 hr2 e6
  have hA := RegN.step hA hB (m_X12_pass e6).ext
  have hm := hm.tr hm9
  have hf := xsj hf
  subst hf
  exact ⟨fun a' e => (by have h9 := Sum.inl.inj e; subst h9; exact ⟨hm, hA⟩), fun b e => xnc1 e⟩
theorem n_L_law_j1084 {A : Nat → Prop} {L : Nat} {xs : Nat → Int32} {σ : XS} {r1 : Nat} {r2 : Nat} {x3 : Int32} {t0 : Int32} {x : ((Int32 × XS) ⊕ (Int32 × XS))} (hA : RegN A σ) (hr2 : A r2) (hf : f_L_law_j1084 L xs σ r1 r2 x3 t0 = some x) : (∀ a' : Int32 × XS, x = .inl a' → Sm A σ a'.2 ∧ RegN A a'.2) ∧ (∀ b1 : Int32 × XS, x = .inr b1 → Sm A σ b1.2 ∧ RegN A b1.2) := by
  have hm := Sm.rf (A := A) (σ := σ)
  obtain ⟨v2, e1, hf⟩ := xbd hf
  obtain ⟨_, e3, hf⟩ := xbd hf
  obtain ⟨⟨v6, σ5⟩, e4, hf⟩ := xbd hf
  dsimp only at hf
  obtain ⟨hm9, hB⟩ := n_X12_lakes hA.1 hr2 e4
  have hA := RegN.step hA hB (m_X12_lakes e4).ext
  have hm := hm.tr hm9
  have hf := xsj hf
  subst hf
  exact ⟨fun a' e => (by have h9 := Sum.inl.inj e; subst h9; exact ⟨hm, hA⟩), fun b e => xnc1 e⟩
theorem n_L_law_j1107 {A : Nat → Prop} {L : Nat} {xs : Nat → Int32} {σ : XS} {r1 : Nat} {r2 : Nat} {x3 : Int32} {t0 : Int64} {x : ((Int32 × XS) ⊕ (Int32 × XS))} (hA : RegN A σ) (hr2 : A r2) (hf : f_L_law_j1107 L xs σ r1 r2 x3 t0 = some x) : (∀ a' : Int32 × XS, x = .inl a' → Sm A σ a'.2 ∧ RegN A a'.2) ∧ (∀ b1 : Int32 × XS, x = .inr b1 → Sm A σ b1.2 ∧ RegN A b1.2) := by
  have hm := Sm.rf (A := A) (σ := σ)
  obtain ⟨v2, e1, hf⟩ := xbd hf
  obtain ⟨_, e3, hf⟩ := xbd hf
  obtain ⟨⟨v6, σ5⟩, e4, hf⟩ := xbd hf
  dsimp only at hf
  obtain ⟨hm9, hB⟩ := n_X12_down hA.1 hr2 e4
  have hA := RegN.step hA hB (m_X12_down e4).ext
  have hm := hm.tr hm9
  have hf := xsj hf
  subst hf
  exact ⟨fun a' e => (by have h9 := Sum.inl.inj e; subst h9; exact ⟨hm, hA⟩), fun b e => xnc1 e⟩
theorem n_L_law_j1135 {A : Nat → Prop} {L : Nat} {xs : Nat → Int32} {σ : XS} {r1 : Nat} {r2 : Nat} {x3 : Int32} {t0 : Int32} {x : ((Int32 × XS) ⊕ (Int32 × XS))} (hA : RegN A σ) (hr2 : A r2) (hf : f_L_law_j1135 L xs σ r1 r2 x3 t0 = some x) : (∀ a' : Int32 × XS, x = .inl a' → Sm A σ a'.2 ∧ RegN A a'.2) ∧ (∀ b1 : Int32 × XS, x = .inr b1 → Sm A σ b1.2 ∧ RegN A b1.2) := by
  have hm := Sm.rf (A := A) (σ := σ)
  obtain ⟨v2, e1, hf⟩ := xbd hf
  obtain ⟨v4, e3, hf⟩ := xbd hf
  obtain ⟨_, e5, hf⟩ := xbd hf
  obtain ⟨⟨v8, σ7⟩, e6, hf⟩ := xbd hf
  dsimp only at hf
  obtain ⟨hm9, hB⟩ := n_X12_nearest hA.1 hr2 e6
  have hA := RegN.step hA hB (m_X12_nearest e6).ext
  have hm := hm.tr hm9
  have hf := xsj hf
  subst hf
  exact ⟨fun a' e => (by have h9 := Sum.inl.inj e; subst h9; exact ⟨hm, hA⟩), fun b e => xnc1 e⟩
theorem n_L_law_j1275 {A : Nat → Prop} {L : Nat} {xs : Nat → Int32} {σ : XS} {r1 : Nat} {r2 : Nat} {x3 : Int32} {t0 : Int32} {x : ((Int32 × XS) ⊕ (Int32 × XS))} (hA : RegN A σ) (hf : f_L_law_j1275 L xs σ r1 r2 x3 t0 = some x) : (∀ a' : Int32 × XS, x = .inl a' → Sm A σ a'.2 ∧ RegN A a'.2) ∧ (∀ b1 : Int32 × XS, x = .inr b1 → Sm A σ b1.2 ∧ RegN A b1.2) := by
  have hm := Sm.rf (A := A) (σ := σ)
  obtain ⟨v2, e1, hf⟩ := xbd hf
  obtain ⟨_, e3, hf⟩ := xbd hf
  obtain ⟨v5, e4, hf⟩ := xbd hf
  have hf := xsj hf
  subst hf
  exact ⟨fun a' e => (by have h9 := Sum.inl.inj e; subst h9; exact ⟨hm, hA⟩), fun b e => xnc1 e⟩
theorem n_L_law_l18 {A : Nat → Prop} {L : Nat} {xs : Nat → Int32} {r1 : Nat} {r2 : Nat} {a : Int32 × XS} {x : Int32 × XS} (hA : RegN A a.2) (hr1 : A r1) (hr2 : A r2) (hf : xloop (f_L_law_b18 L xs r1 r2) a = some x) : Sm A a.2 x.2 ∧ RegN A x.2 := by
  revert hA
  refine xloop_ind (P := fun a => RegN A a.2 → Sm A a.2 x.2 ∧ RegN A x.2) (fun a y hf hc he => ?_) hf
  obtain ⟨x3, σ⟩ := a
  intro hA
  have hA0 : RegN A σ := hA
  have hy : (∀ a' : Int32 × XS, y = .inl a' → Sm A σ a'.2 ∧ RegN A a'.2) ∧ (∀ b1 : Int32 × XS, y = .inr b1 → Sm A σ b1.2 ∧ RegN A b1.2) := by
    have hm := Sm.rf (A := A) (σ := σ)
    by_cases q : ((Int32.ofNat L) - (6 : Int32)) < x3
    · have hf := xip q hf
      obtain ⟨b0, hg, e9⟩ := xmj hf
      subst e9
      have hf := hg
      refine ⟨fun a' e => xnc2 e, fun b e => ?_⟩
      have h9 := Sum.inr.inj e
      subst h9
      have hf := xsj hf
      subst hf
      exact ⟨hm, hA⟩
    · have hf := xin q hf
      obtain ⟨v2, e1, hf⟩ := xbd hf
      by_cases ho : (v2 &&& (63 : Int32)).toInt < 0 ∨ 36 < (v2 &&& (63 : Int32)).toInt
      · have hf := xsw_out ho rfl hf
        have hf := xsj hf
        subst hf
        exact ⟨fun a' e => (by have h9 := Sum.inl.inj e; subst h9; exact ⟨hm, hA⟩), fun b e => xnc1 e⟩
      · rcases (by omega : (v2 &&& (63 : Int32)).toInt = 0 + ((0 : Nat) : Int) ∨ (v2 &&& (63 : Int32)).toInt = 0 + ((1 : Nat) : Int) ∨ (v2 &&& (63 : Int32)).toInt = 0 + ((2 : Nat) : Int) ∨ (v2 &&& (63 : Int32)).toInt = 0 + ((3 : Nat) : Int) ∨ (v2 &&& (63 : Int32)).toInt = 0 + ((4 : Nat) : Int) ∨ (v2 &&& (63 : Int32)).toInt = 0 + ((5 : Nat) : Int) ∨ (v2 &&& (63 : Int32)).toInt = 0 + ((6 : Nat) : Int) ∨ (v2 &&& (63 : Int32)).toInt = 0 + ((7 : Nat) : Int) ∨ (v2 &&& (63 : Int32)).toInt = 0 + ((8 : Nat) : Int) ∨ (v2 &&& (63 : Int32)).toInt = 0 + ((9 : Nat) : Int) ∨ (v2 &&& (63 : Int32)).toInt = 0 + ((10 : Nat) : Int) ∨ (v2 &&& (63 : Int32)).toInt = 0 + ((11 : Nat) : Int) ∨ (v2 &&& (63 : Int32)).toInt = 0 + ((12 : Nat) : Int) ∨ (v2 &&& (63 : Int32)).toInt = 0 + ((13 : Nat) : Int) ∨ (v2 &&& (63 : Int32)).toInt = 0 + ((14 : Nat) : Int) ∨ (v2 &&& (63 : Int32)).toInt = 0 + ((15 : Nat) : Int) ∨ (v2 &&& (63 : Int32)).toInt = 0 + ((16 : Nat) : Int) ∨ (v2 &&& (63 : Int32)).toInt = 0 + ((17 : Nat) : Int) ∨ (v2 &&& (63 : Int32)).toInt = 0 + ((18 : Nat) : Int) ∨ (v2 &&& (63 : Int32)).toInt = 0 + ((19 : Nat) : Int) ∨ (v2 &&& (63 : Int32)).toInt = 0 + ((20 : Nat) : Int) ∨ (v2 &&& (63 : Int32)).toInt = 0 + ((21 : Nat) : Int) ∨ (v2 &&& (63 : Int32)).toInt = 0 + ((22 : Nat) : Int) ∨ (v2 &&& (63 : Int32)).toInt = 0 + ((23 : Nat) : Int) ∨ (v2 &&& (63 : Int32)).toInt = 0 + ((24 : Nat) : Int) ∨ (v2 &&& (63 : Int32)).toInt = 0 + ((25 : Nat) : Int) ∨ (v2 &&& (63 : Int32)).toInt = 0 + ((26 : Nat) : Int) ∨ (v2 &&& (63 : Int32)).toInt = 0 + ((27 : Nat) : Int) ∨ (v2 &&& (63 : Int32)).toInt = 0 + ((28 : Nat) : Int) ∨ (v2 &&& (63 : Int32)).toInt = 0 + ((29 : Nat) : Int) ∨ (v2 &&& (63 : Int32)).toInt = 0 + ((30 : Nat) : Int) ∨ (v2 &&& (63 : Int32)).toInt = 0 + ((31 : Nat) : Int) ∨ (v2 &&& (63 : Int32)).toInt = 0 + ((32 : Nat) : Int) ∨ (v2 &&& (63 : Int32)).toInt = 0 + ((33 : Nat) : Int) ∨ (v2 &&& (63 : Int32)).toInt = 0 + ((34 : Nat) : Int) ∨ (v2 &&& (63 : Int32)).toInt = 0 + ((35 : Nat) : Int) ∨ (v2 &&& (63 : Int32)).toInt = 0 + ((36 : Nat) : Int)) with hk1 | hk1 | hk1 | hk1 | hk1 | hk1 | hk1 | hk1 | hk1 | hk1 | hk1 | hk1 | hk1 | hk1 | hk1 | hk1 | hk1 | hk1 | hk1 | hk1 | hk1 | hk1 | hk1 | hk1 | hk1 | hk1 | hk1 | hk1 | hk1 | hk1 | hk1 | hk1 | hk1 | hk1 | hk1 | hk1 | hk1
        · have hf := xsw_in 0 hk1 rfl hf
          obtain ⟨v4, e3, hf⟩ := xbd hf
          obtain ⟨v6, e5, hf⟩ := xbd hf
          obtain ⟨v8, e7, hf⟩ := xbd hf
          obtain ⟨v10, e9, hf⟩ := xbd hf
          obtain ⟨v12, e11, hf⟩ := xbd hf
          obtain ⟨_, e13, hf⟩ := xbd hf
          obtain ⟨⟨v16, σ15⟩, e14, hf⟩ := xbd hf
          dsimp only at hf
          obtain ⟨hm9, hB⟩ := n_X11_feed hA.1 hr1 e14
          have hA := RegN.step hA hB (m_X11_feed e14).ext
          have hm := hm.tr hm9
          obtain ⟨v18, e17, hf⟩ := xbd hf
          obtain ⟨v20, e19, hf⟩ := xbd hf
          obtain ⟨v22, e21, hf⟩ := xbd hf
          obtain ⟨v24, e23, hf⟩ := xbd hf
          obtain ⟨v26, e25, hf⟩ := xbd hf
          obtain ⟨_, e27, hf⟩ := xbd hf
          obtain ⟨⟨v30, σ29⟩, e28, hf⟩ := xbd hf
          dsimp only at hf
          obtain ⟨hm9, hB⟩ := n_X12_feed hA.1 hr2 e28
          have hA := RegN.step hA hB (m_X12_feed e28).ext
          have hm := hm.tr hm9
          have hf := xsj hf
          subst hf
          exact ⟨fun a' e => (by have h9 := Sum.inl.inj e; subst h9; exact ⟨hm, hA⟩), fun b e => xnc1 e⟩
        · have hf := xsw_in 1 hk1 rfl hf
          obtain ⟨v4, e3, hf⟩ := xbd hf
          obtain ⟨_, e5, hf⟩ := xbd hf
          obtain ⟨⟨v8, σ7⟩, e6, hf⟩ := xbd hf
          dsimp only at hf
          obtain ⟨hm9, hB⟩ := n_X11_back hA.1 hr1 e6
          have hA := RegN.step hA hB (m_X11_back e6).ext
          have hm := hm.tr hm9
          obtain ⟨v10, e9, hf⟩ := xbd hf
          obtain ⟨_, e11, hf⟩ := xbd hf
          obtain ⟨⟨v14, σ13⟩, e12, hf⟩ := xbd hf
          dsimp only at hf
          obtain ⟨hm9, hB⟩ := n_X12_back hA.1 hr2 e12
          have hA := RegN.step hA hB (m_X12_back e12).ext
          have hm := hm.tr hm9
          have hf := xsj hf
          subst hf
          exact ⟨fun a' e => (by have h9 := Sum.inl.inj e; subst h9; exact ⟨hm, hA⟩), fun b e => xnc1 e⟩
        · have hf := xsw_in 2 hk1 rfl hf
          obtain ⟨_, e3, hf⟩ := xbd hf
          obtain ⟨⟨v6, σ5⟩, e4, hf⟩ := xbd hf
          dsimp only at hf
          obtain ⟨hm9, hB⟩ := n_X11_read hA.1 hr1 e4
          have hA := RegN.step hA hB (m_X11_read e4).ext
          have hm := hm.tr hm9
          obtain ⟨_, e7, hf⟩ := xbd hf
          obtain ⟨⟨v10, σ9⟩, e8, hf⟩ := xbd hf
          dsimp only at hf
          obtain ⟨hm9, hB⟩ := n_X12_read hA.1 hr2 e8
          have hA := RegN.step hA hB (m_X12_read e8).ext
          have hm := hm.tr hm9
          have hf := xsj hf
          subst hf
          exact ⟨fun a' e => (by have h9 := Sum.inl.inj e; subst h9; exact ⟨hm, hA⟩), fun b e => xnc1 e⟩
        · have hf := xsw_in 3 hk1 rfl hf
          obtain ⟨_, e3, hf⟩ := xbd hf
          obtain ⟨v5, e4, hf⟩ := xbd hf
          obtain ⟨_, e6, hf⟩ := xbd hf
          obtain ⟨v8, e7, hf⟩ := xbd hf
          have hf := xsj hf
          subst hf
          exact ⟨fun a' e => (by have h9 := Sum.inl.inj e; subst h9; exact ⟨hm, hA⟩), fun b e => xnc1 e⟩
        · have hf := xsw_in 4 hk1 rfl hf
          obtain ⟨v4, e3, hf⟩ := xbd hf
          obtain ⟨v6, e5, hf⟩ := xbd hf
          by_cases q : v6 = 0
          · have hf := xip q hf
            exact ⟨fun a' e => ⟨hm.tr ((n_L_law_j327 hA hr2 hr1 hf).1 a' e).1, ((n_L_law_j327 hA hr2 hr1 hf).1 a' e).2⟩, fun b1 eb1 => ⟨hm.tr ((n_L_law_j327 hA hr2 hr1 hf).2 b1 eb1).1, ((n_L_law_j327 hA hr2 hr1 hf).2 b1 eb1).2⟩⟩
          · have hf := xin q hf
            exact ⟨fun a' e => ⟨hm.tr ((n_L_law_j327 hA hr2 hr1 hf).1 a' e).1, ((n_L_law_j327 hA hr2 hr1 hf).1 a' e).2⟩, fun b1 eb1 => ⟨hm.tr ((n_L_law_j327 hA hr2 hr1 hf).2 b1 eb1).1, ((n_L_law_j327 hA hr2 hr1 hf).2 b1 eb1).2⟩⟩
        · have hf := xsw_in 5 hk1 rfl hf
          obtain ⟨v4, e3, hf⟩ := xbd hf
          obtain ⟨v6, e5, hf⟩ := xbd hf
          obtain ⟨_, e7, hf⟩ := xbd hf
          obtain ⟨⟨v10, σ9⟩, e8, hf⟩ := xbd hf
          dsimp only at hf
          obtain ⟨hm9, hB⟩ := n_X11_pull hA.1 hr1 e8
          have hA := RegN.step hA hB (m_X11_pull e8).ext
          have hm := hm.tr hm9
          obtain ⟨v12, e11, hf⟩ := xbd hf
          obtain ⟨v14, e13, hf⟩ := xbd hf
          obtain ⟨_, e15, hf⟩ := xbd hf
          obtain ⟨⟨v18, σ17⟩, e16, hf⟩ := xbd hf
          dsimp only at hf
          obtain ⟨hm9, hB⟩ := n_X12_pull hA.1 hr2 e16
          have hA := RegN.step hA hB (m_X12_pull e16).ext
          have hm := hm.tr hm9
          have hf := xsj hf
          subst hf
          exact ⟨fun a' e => (by have h9 := Sum.inl.inj e; subst h9; exact ⟨hm, hA⟩), fun b e => xnc1 e⟩
        · have hf := xsw_in 6 hk1 rfl hf
          obtain ⟨v4, e3, hf⟩ := xbd hf
          obtain ⟨v6, e5, hf⟩ := xbd hf
          obtain ⟨_, e7, hf⟩ := xbd hf
          obtain ⟨⟨v10, σ9⟩, e8, hf⟩ := xbd hf
          dsimp only at hf
          obtain ⟨hm9, hB⟩ := n_X11_pin hA.1 hr1 e8
          have hA := RegN.step hA hB (m_X11_pin e8).ext
          have hm := hm.tr hm9
          obtain ⟨v12, e11, hf⟩ := xbd hf
          obtain ⟨v14, e13, hf⟩ := xbd hf
          obtain ⟨_, e15, hf⟩ := xbd hf
          obtain ⟨⟨v18, σ17⟩, e16, hf⟩ := xbd hf
          dsimp only at hf
          obtain ⟨hm9, hB⟩ := n_X12_pin hA.1 hr2 e16
          have hA := RegN.step hA hB (m_X12_pin e16).ext
          have hm := hm.tr hm9
          have hf := xsj hf
          subst hf
          exact ⟨fun a' e => (by have h9 := Sum.inl.inj e; subst h9; exact ⟨hm, hA⟩), fun b e => xnc1 e⟩
        · have hf := xsw_in 7 hk1 rfl hf
          obtain ⟨v4, e3, hf⟩ := xbd hf
          obtain ⟨_, e5, hf⟩ := xbd hf
          obtain ⟨⟨v8, σ7⟩, e6, hf⟩ := xbd hf
          dsimp only at hf
          obtain ⟨hm9, hB⟩ := n_X11_glass hA.1 hr1 e6
          have hA := RegN.step hA hB (m_X11_glass e6).ext
          have hm := hm.tr hm9
          obtain ⟨v10, e9, hf⟩ := xbd hf
          obtain ⟨_, e11, hf⟩ := xbd hf
          obtain ⟨⟨v14, σ13⟩, e12, hf⟩ := xbd hf
          dsimp only at hf
          obtain ⟨hm9, hB⟩ := n_X12_glass hA.1 hr2 e12
          have hA := RegN.step hA hB (m_X12_glass e12).ext
          have hm := hm.tr hm9
          have hf := xsj hf
          subst hf
          exact ⟨fun a' e => (by have h9 := Sum.inl.inj e; subst h9; exact ⟨hm, hA⟩), fun b e => xnc1 e⟩
        · have hf := xsw_in 8 hk1 rfl hf
          obtain ⟨v4, e3, hf⟩ := xbd hf
          obtain ⟨_, e5, hf⟩ := xbd hf
          obtain ⟨⟨v8, σ7⟩, e6, hf⟩ := xbd hf
          dsimp only at hf
          obtain ⟨hm9, hB⟩ := n_X11_turn hA.1 hr1 e6
          have hA := RegN.step hA hB (m_X11_turn e6).ext
          have hm := hm.tr hm9
          obtain ⟨v10, e9, hf⟩ := xbd hf
          obtain ⟨_, e11, hf⟩ := xbd hf
          obtain ⟨⟨v14, σ13⟩, e12, hf⟩ := xbd hf
          dsimp only at hf
          obtain ⟨hm9, hB⟩ := n_X12_turn hA.1 hr2 e12
          have hA := RegN.step hA hB (m_X12_turn e12).ext
          have hm := hm.tr hm9
          have hf := xsj hf
          subst hf
          exact ⟨fun a' e => (by have h9 := Sum.inl.inj e; subst h9; exact ⟨hm, hA⟩), fun b e => xnc1 e⟩
        · have hf := xsw_in 9 hk1 rfl hf
          obtain ⟨_, e3, hf⟩ := xbd hf
          obtain ⟨⟨v6, σ5⟩, e4, hf⟩ := xbd hf
          dsimp only at hf
          obtain ⟨hm9, hB⟩ := n_X11_fall hA.1 hr1 e4
          have hA := RegN.step hA hB (m_X11_fall e4).ext
          have hm := hm.tr hm9
          obtain ⟨_, e7, hf⟩ := xbd hf
          obtain ⟨⟨v10, σ9⟩, e8, hf⟩ := xbd hf
          dsimp only at hf
          obtain ⟨hm9, hB⟩ := n_X12_fall hA.1 hr2 e8
          have hA := RegN.step hA hB (m_X12_fall e8).ext
          have hm := hm.tr hm9
          have hf := xsj hf
          subst hf
          exact ⟨fun a' e => (by have h9 := Sum.inl.inj e; subst h9; exact ⟨hm, hA⟩), fun b e => xnc1 e⟩
        · have hf := xsw_in 10 hk1 rfl hf
          obtain ⟨_, e3, hf⟩ := xbd hf
          obtain ⟨⟨v6, σ5⟩, e4, hf⟩ := xbd hf
          dsimp only at hf
          obtain ⟨hm9, hB⟩ := n_X11_undo hA.1 hr1 e4
          have hA := RegN.step hA hB (m_X11_undo e4).ext
          have hm := hm.tr hm9
          obtain ⟨_, e7, hf⟩ := xbd hf
          obtain ⟨⟨v10, σ9⟩, e8, hf⟩ := xbd hf
          dsimp only at hf
          obtain ⟨hm9, hB⟩ := n_X12_undo hA.1 hr2 e8
          have hA := RegN.step hA hB (m_X12_undo e8).ext
          have hm := hm.tr hm9
          by_cases q : v6 = v10
          · have hf := xip q hf
            have hf := xsj hf
            subst hf
            exact ⟨fun a' e => (by have h9 := Sum.inl.inj e; subst h9; exact ⟨hm, hA⟩), fun b e => xnc1 e⟩
          · have hf := xin q hf
            obtain ⟨b0, hg, e9⟩ := xmj hf
            subst e9
            have hf := hg
            refine ⟨fun a' e => xnc2 e, fun b e => ?_⟩
            have h9 := Sum.inr.inj e
            subst h9
            have hf := xsj hf
            subst hf
            exact ⟨hm, hA⟩
        · have hf := xsw_in 11 hk1 rfl hf
          obtain ⟨v4, e3, hf⟩ := xbd hf
          obtain ⟨v6, e5, hf⟩ := xbd hf
          obtain ⟨_, e7, hf⟩ := xbd hf
          obtain ⟨v9, e8, hf⟩ := xbd hf
          obtain ⟨v11, e10, hf⟩ := xbd hf
          obtain ⟨v13, e12, hf⟩ := xbd hf
          obtain ⟨_, e14, hf⟩ := xbd hf
          obtain ⟨v16, e15, hf⟩ := xbd hf
          have hf := xsj hf
          subst hf
          exact ⟨fun a' e => (by have h9 := Sum.inl.inj e; subst h9; exact ⟨hm, hA⟩), fun b e => xnc1 e⟩
        · have hf := xsw_in 12 hk1 rfl hf
          obtain ⟨v4, e3, hf⟩ := xbd hf
          obtain ⟨v6, e5, hf⟩ := xbd hf
          obtain ⟨_, e7, hf⟩ := xbd hf
          obtain ⟨⟨v10, σ9⟩, e8, hf⟩ := xbd hf
          dsimp only at hf
          obtain ⟨hm9, hA⟩ := n_X11_level hA hr1 e8
          have hm := hm.tr hm9
          exact ⟨fun a' e => ⟨hm.tr ((n_L_law_j552 hA hr2 hf).1 a' e).1, ((n_L_law_j552 hA hr2 hf).1 a' e).2⟩, fun b1 eb1 => ⟨hm.tr ((n_L_law_j552 hA hr2 hf).2 b1 eb1).1, ((n_L_law_j552 hA hr2 hf).2 b1 eb1).2⟩⟩
        · have hf := xsw_in 13 hk1 rfl hf
          obtain ⟨v4, e3, hf⟩ := xbd hf
          obtain ⟨v6, e5, hf⟩ := xbd hf
          obtain ⟨_, e7, hf⟩ := xbd hf
          obtain ⟨⟨v10, σ9⟩, e8, hf⟩ := xbd hf
          dsimp only at hf
          obtain ⟨hm9, hA⟩ := n_X11_both hA hr1 e8
          have hm := hm.tr hm9
          exact ⟨fun a' e => ⟨hm.tr ((n_L_law_j585 hA hr2 hf).1 a' e).1, ((n_L_law_j585 hA hr2 hf).1 a' e).2⟩, fun b1 eb1 => ⟨hm.tr ((n_L_law_j585 hA hr2 hf).2 b1 eb1).1, ((n_L_law_j585 hA hr2 hf).2 b1 eb1).2⟩⟩
        · have hf := xsw_in 14 hk1 rfl hf
          obtain ⟨v4, e3, hf⟩ := xbd hf
          obtain ⟨_, e5, hf⟩ := xbd hf
          obtain ⟨⟨v8, σ7⟩, e6, hf⟩ := xbd hf
          dsimp only at hf
          obtain ⟨hm9, hA⟩ := n_X11_broken hA hr1 e6
          have hm := hm.tr hm9
          exact ⟨fun a' e => ⟨hm.tr ((n_L_law_j613 hA hr2 hf).1 a' e).1, ((n_L_law_j613 hA hr2 hf).1 a' e).2⟩, fun b1 eb1 => ⟨hm.tr ((n_L_law_j613 hA hr2 hf).2 b1 eb1).1, ((n_L_law_j613 hA hr2 hf).2 b1 eb1).2⟩⟩
        · have hf := xsw_in 15 hk1 rfl hf
          obtain ⟨v4, e3, hf⟩ := xbd hf
          obtain ⟨_, e5, hf⟩ := xbd hf
          obtain ⟨⟨v8, σ7⟩, e6, hf⟩ := xbd hf
          dsimp only at hf
          obtain ⟨hm9, hA⟩ := n_X11_ground hA hr1 e6
          have hm := hm.tr hm9
          exact ⟨fun a' e => ⟨hm.tr ((n_L_law_j636 hA hr2 hf).1 a' e).1, ((n_L_law_j636 hA hr2 hf).1 a' e).2⟩, fun b1 eb1 => ⟨hm.tr ((n_L_law_j636 hA hr2 hf).2 b1 eb1).1, ((n_L_law_j636 hA hr2 hf).2 b1 eb1).2⟩⟩
        · have hf := xsw_in 16 hk1 rfl hf
          obtain ⟨v4, e3, hf⟩ := xbd hf
          obtain ⟨v6, e5, hf⟩ := xbd hf
          obtain ⟨v8, e7, hf⟩ := xbd hf
          obtain ⟨v10, e9, hf⟩ := xbd hf
          obtain ⟨_, e11, hf⟩ := xbd hf
          obtain ⟨⟨v14, σ13⟩, e12, hf⟩ := xbd hf
          dsimp only at hf
          obtain ⟨hm9, hA⟩ := n_X11_pair hA hr1 e12
          have hm := hm.tr hm9
          exact ⟨fun a' e => ⟨hm.tr ((n_L_law_j674 hA hr2 hf).1 a' e).1, ((n_L_law_j674 hA hr2 hf).1 a' e).2⟩, fun b1 eb1 => ⟨hm.tr ((n_L_law_j674 hA hr2 hf).2 b1 eb1).1, ((n_L_law_j674 hA hr2 hf).2 b1 eb1).2⟩⟩
        · have hf := xsw_in 17 hk1 rfl hf
          obtain ⟨v4, e3, hf⟩ := xbd hf
          obtain ⟨v6, e5, hf⟩ := xbd hf
          obtain ⟨_, e7, hf⟩ := xbd hf
          obtain ⟨⟨v10, σ9⟩, e8, hf⟩ := xbd hf
          dsimp only at hf
          obtain ⟨hm9, hA⟩ := n_X11_mean hA hr1 e8
          have hm := hm.tr hm9
          exact ⟨fun a' e => ⟨hm.tr ((n_L_law_j717 hA hr2 hf).1 a' e).1, ((n_L_law_j717 hA hr2 hf).1 a' e).2⟩, fun b1 eb1 => ⟨hm.tr ((n_L_law_j717 hA hr2 hf).2 b1 eb1).1, ((n_L_law_j717 hA hr2 hf).2 b1 eb1).2⟩⟩
        · have hf := xsw_in 18 hk1 rfl hf
          obtain ⟨v4, e3, hf⟩ := xbd hf
          obtain ⟨_, e5, hf⟩ := xbd hf
          obtain ⟨⟨v8, σ7⟩, e6, hf⟩ := xbd hf
          dsimp only at hf
          obtain ⟨hm9, hA⟩ := n_X11_value hA hr1 e6
          have hm := hm.tr hm9
          exact ⟨fun a' e => ⟨hm.tr ((n_L_law_j745 hA hr2 hf).1 a' e).1, ((n_L_law_j745 hA hr2 hf).1 a' e).2⟩, fun b1 eb1 => ⟨hm.tr ((n_L_law_j745 hA hr2 hf).2 b1 eb1).1, ((n_L_law_j745 hA hr2 hf).2 b1 eb1).2⟩⟩
        · have hf := xsw_in 19 hk1 rfl hf
          obtain ⟨v4, e3, hf⟩ := xbd hf
          obtain ⟨v6, e5, hf⟩ := xbd hf
          obtain ⟨v8, e7, hf⟩ := xbd hf
          obtain ⟨_, e9, hf⟩ := xbd hf
          obtain ⟨⟨v12, σ11⟩, e10, hf⟩ := xbd hf
          dsimp only at hf
          obtain ⟨hm9, hA⟩ := n_X11_joined hA hr1 e10
          have hm := hm.tr hm9
          exact ⟨fun a' e => ⟨hm.tr ((n_L_law_j778 hA hr2 hf).1 a' e).1, ((n_L_law_j778 hA hr2 hf).1 a' e).2⟩, fun b1 eb1 => ⟨hm.tr ((n_L_law_j778 hA hr2 hf).2 b1 eb1).1, ((n_L_law_j778 hA hr2 hf).2 b1 eb1).2⟩⟩
        · have hf := xsw_in 20 hk1 rfl hf
          obtain ⟨v4, e3, hf⟩ := xbd hf
          obtain ⟨v6, e5, hf⟩ := xbd hf
          obtain ⟨_, e7, hf⟩ := xbd hf
          obtain ⟨⟨v10, σ9⟩, e8, hf⟩ := xbd hf
          dsimp only at hf
          obtain ⟨hm9, hA⟩ := n_X11_state hA hr1 e8
          have hm := hm.tr hm9
          exact ⟨fun a' e => ⟨hm.tr ((n_L_law_j816 hA hr2 hf).1 a' e).1, ((n_L_law_j816 hA hr2 hf).1 a' e).2⟩, fun b1 eb1 => ⟨hm.tr ((n_L_law_j816 hA hr2 hf).2 b1 eb1).1, ((n_L_law_j816 hA hr2 hf).2 b1 eb1).2⟩⟩
        · have hf := xsw_in 21 hk1 rfl hf
          obtain ⟨v4, e3, hf⟩ := xbd hf
          by_cases q : v4 = 0
          · have hf := xip q hf
            exact ⟨fun a' e => ⟨hm.tr ((n_L_law_j849 hA hr2 hr1 hf).1 a' e).1, ((n_L_law_j849 hA hr2 hr1 hf).1 a' e).2⟩, fun b1 eb1 => ⟨hm.tr ((n_L_law_j849 hA hr2 hr1 hf).2 b1 eb1).1, ((n_L_law_j849 hA hr2 hr1 hf).2 b1 eb1).2⟩⟩
          · have hf := xin q hf
            exact ⟨fun a' e => ⟨hm.tr ((n_L_law_j849 hA hr2 hr1 hf).1 a' e).1, ((n_L_law_j849 hA hr2 hr1 hf).1 a' e).2⟩, fun b1 eb1 => ⟨hm.tr ((n_L_law_j849 hA hr2 hr1 hf).2 b1 eb1).1, ((n_L_law_j849 hA hr2 hr1 hf).2 b1 eb1).2⟩⟩
        · have hf := xsw_in 22 hk1 rfl hf
          obtain ⟨v4, e3, hf⟩ := xbd hf
          obtain ⟨v6, e5, hf⟩ := xbd hf
          obtain ⟨v8, e7, hf⟩ := xbd hf
          obtain ⟨_, e9, hf⟩ := xbd hf
          obtain ⟨⟨v12, σ11⟩, e10, hf⟩ := xbd hf
          dsimp only at hf
          obtain ⟨hm9, hA⟩ := n_X11_rows hA hr1 e10
          have hm := hm.tr hm9
          exact ⟨fun a' e => ⟨hm.tr ((n_L_law_j893 hA hf).1 a' e).1, ((n_L_law_j893 hA hf).1 a' e).2⟩, fun b1 eb1 => ⟨hm.tr ((n_L_law_j893 hA hf).2 b1 eb1).1, ((n_L_law_j893 hA hf).2 b1 eb1).2⟩⟩
        · have hf := xsw_in 23 hk1 rfl hf
          obtain ⟨v4, e3, hf⟩ := xbd hf
          obtain ⟨_, e5, hf⟩ := xbd hf
          obtain ⟨v7, e6, hf⟩ := xbd hf
          obtain ⟨v9, e8, hf⟩ := xbd hf
          obtain ⟨_, e10, hf⟩ := xbd hf
          obtain ⟨v12, e11, hf⟩ := xbd hf
          have hf := xsj hf
          subst hf
          exact ⟨fun a' e => (by have h9 := Sum.inl.inj e; subst h9; exact ⟨hm, hA⟩), fun b e => xnc1 e⟩
        · have hf := xsw_in 24 hk1 rfl hf
          obtain ⟨v4, e3, hf⟩ := xbd hf
          obtain ⟨_, e5, hf⟩ := xbd hf
          obtain ⟨⟨v8, σ7⟩, e6, hf⟩ := xbd hf
          dsimp only at hf
          obtain ⟨hm9, hA⟩ := n_X11_overlap hA hr1 e6
          have hm := hm.tr hm9
          exact ⟨fun a' e => ⟨hm.tr ((n_L_law_j949 hA hr2 hf).1 a' e).1, ((n_L_law_j949 hA hr2 hf).1 a' e).2⟩, fun b1 eb1 => ⟨hm.tr ((n_L_law_j949 hA hr2 hf).2 b1 eb1).1, ((n_L_law_j949 hA hr2 hf).2 b1 eb1).2⟩⟩
        · have hf := xsw_in 25 hk1 rfl hf
          obtain ⟨v4, e3, hf⟩ := xbd hf
          obtain ⟨_, e5, hf⟩ := xbd hf
          obtain ⟨⟨v8, σ7⟩, e6, hf⟩ := xbd hf
          dsimp only at hf
          obtain ⟨hm9, hA⟩ := n_X11_basin hA hr1 e6
          have hm := hm.tr hm9
          exact ⟨fun a' e => ⟨hm.tr ((n_L_law_j972 hA hr2 hf).1 a' e).1, ((n_L_law_j972 hA hr2 hf).1 a' e).2⟩, fun b1 eb1 => ⟨hm.tr ((n_L_law_j972 hA hr2 hf).2 b1 eb1).1, ((n_L_law_j972 hA hr2 hf).2 b1 eb1).2⟩⟩
        · have hf := xsw_in 26 hk1 rfl hf
          obtain ⟨v4, e3, hf⟩ := xbd hf
          obtain ⟨v6, e5, hf⟩ := xbd hf
          obtain ⟨_, e7, hf⟩ := xbd hf
          obtain ⟨⟨v10, σ9⟩, e8, hf⟩ := xbd hf
          dsimp only at hf
          obtain ⟨hm9, hA⟩ := n_X11_stiff hA hr1 e8
          have hm := hm.tr hm9
          exact ⟨fun a' e => ⟨hm.tr ((n_L_law_j1000 hA hr2 hf).1 a' e).1, ((n_L_law_j1000 hA hr2 hf).1 a' e).2⟩, fun b1 eb1 => ⟨hm.tr ((n_L_law_j1000 hA hr2 hf).2 b1 eb1).1, ((n_L_law_j1000 hA hr2 hf).2 b1 eb1).2⟩⟩
        · have hf := xsw_in 27 hk1 rfl hf
          obtain ⟨v4, e3, hf⟩ := xbd hf
          obtain ⟨_, e5, hf⟩ := xbd hf
          obtain ⟨⟨v8, σ7⟩, e6, hf⟩ := xbd hf
          dsimp only at hf
          obtain ⟨hm9, hA⟩ := n_X11_hill hA hr1 e6
          have hm := hm.tr hm9
          exact ⟨fun a' e => ⟨hm.tr ((n_L_law_j1028 hA hr2 hf).1 a' e).1, ((n_L_law_j1028 hA hr2 hf).1 a' e).2⟩, fun b1 eb1 => ⟨hm.tr ((n_L_law_j1028 hA hr2 hf).2 b1 eb1).1, ((n_L_law_j1028 hA hr2 hf).2 b1 eb1).2⟩⟩
        · have hf := xsw_in 28 hk1 rfl hf
          obtain ⟨v4, e3, hf⟩ := xbd hf
          obtain ⟨v6, e5, hf⟩ := xbd hf
          obtain ⟨_, e7, hf⟩ := xbd hf
          obtain ⟨⟨v10, σ9⟩, e8, hf⟩ := xbd hf
          dsimp only at hf
          obtain ⟨hm9, hA⟩ := n_X11_pass hA hr1 e8
          have hm := hm.tr hm9
          exact ⟨fun a' e => ⟨hm.tr ((n_L_law_j1056 hA hr2 hf).1 a' e).1, ((n_L_law_j1056 hA hr2 hf).1 a' e).2⟩, fun b1 eb1 => ⟨hm.tr ((n_L_law_j1056 hA hr2 hf).2 b1 eb1).1, ((n_L_law_j1056 hA hr2 hf).2 b1 eb1).2⟩⟩
        · have hf := xsw_in 29 hk1 rfl hf
          obtain ⟨v4, e3, hf⟩ := xbd hf
          obtain ⟨_, e5, hf⟩ := xbd hf
          obtain ⟨⟨v8, σ7⟩, e6, hf⟩ := xbd hf
          dsimp only at hf
          obtain ⟨hm9, hA⟩ := n_X11_lakes hA hr1 e6
          have hm := hm.tr hm9
          exact ⟨fun a' e => ⟨hm.tr ((n_L_law_j1084 hA hr2 hf).1 a' e).1, ((n_L_law_j1084 hA hr2 hf).1 a' e).2⟩, fun b1 eb1 => ⟨hm.tr ((n_L_law_j1084 hA hr2 hf).2 b1 eb1).1, ((n_L_law_j1084 hA hr2 hf).2 b1 eb1).2⟩⟩
        · have hf := xsw_in 30 hk1 rfl hf
          obtain ⟨v4, e3, hf⟩ := xbd hf
          obtain ⟨_, e5, hf⟩ := xbd hf
          obtain ⟨⟨v8, σ7⟩, e6, hf⟩ := xbd hf
          dsimp only at hf
          obtain ⟨hm9, hA⟩ := n_X11_down hA hr1 e6
          have hm := hm.tr hm9
          exact ⟨fun a' e => ⟨hm.tr ((n_L_law_j1107 hA hr2 hf).1 a' e).1, ((n_L_law_j1107 hA hr2 hf).1 a' e).2⟩, fun b1 eb1 => ⟨hm.tr ((n_L_law_j1107 hA hr2 hf).2 b1 eb1).1, ((n_L_law_j1107 hA hr2 hf).2 b1 eb1).2⟩⟩
        · have hf := xsw_in 31 hk1 rfl hf
          obtain ⟨v4, e3, hf⟩ := xbd hf
          obtain ⟨v6, e5, hf⟩ := xbd hf
          obtain ⟨_, e7, hf⟩ := xbd hf
          obtain ⟨⟨v10, σ9⟩, e8, hf⟩ := xbd hf
          dsimp only at hf
          obtain ⟨hm9, hA⟩ := n_X11_nearest hA hr1 e8
          have hm := hm.tr hm9
          exact ⟨fun a' e => ⟨hm.tr ((n_L_law_j1135 hA hr2 hf).1 a' e).1, ((n_L_law_j1135 hA hr2 hf).1 a' e).2⟩, fun b1 eb1 => ⟨hm.tr ((n_L_law_j1135 hA hr2 hf).2 b1 eb1).1, ((n_L_law_j1135 hA hr2 hf).2 b1 eb1).2⟩⟩
        · have hf := xsw_in 32 hk1 rfl hf
          obtain ⟨v4, e3, hf⟩ := xbd hf
          obtain ⟨_, e5, hf⟩ := xbd hf
          obtain ⟨v7, e6, hf⟩ := xbd hf
          obtain ⟨v9, e8, hf⟩ := xbd hf
          obtain ⟨_, e10, hf⟩ := xbd hf
          obtain ⟨v12, e11, hf⟩ := xbd hf
          have hf := xsj hf
          subst hf
          exact ⟨fun a' e => (by have h9 := Sum.inl.inj e; subst h9; exact ⟨hm, hA⟩), fun b e => xnc1 e⟩
        · have hf := xsw_in 33 hk1 rfl hf
          obtain ⟨v4, e3, hf⟩ := xbd hf
          obtain ⟨v6, e5, hf⟩ := xbd hf
          obtain ⟨v8, e7, hf⟩ := xbd hf
          obtain ⟨_, e9, hf⟩ := xbd hf
          obtain ⟨⟨v12, σ11⟩, e10, hf⟩ := xbd hf
          dsimp only at hf
          obtain ⟨hm9, hB⟩ := n_X11_wander hA.1 hr1 e10
          have hA := RegN.step hA hB (m_X11_wander e10).ext
          have hm := hm.tr hm9
          obtain ⟨v14, e13, hf⟩ := xbd hf
          obtain ⟨v16, e15, hf⟩ := xbd hf
          obtain ⟨v18, e17, hf⟩ := xbd hf
          obtain ⟨_, e19, hf⟩ := xbd hf
          obtain ⟨⟨v22, σ21⟩, e20, hf⟩ := xbd hf
          dsimp only at hf
          obtain ⟨hm9, hB⟩ := n_X12_wander hA.1 hr2 e20
          have hA := RegN.step hA hB (m_X12_wander e20).ext
          have hm := hm.tr hm9
          have hf := xsj hf
          subst hf
          exact ⟨fun a' e => (by have h9 := Sum.inl.inj e; subst h9; exact ⟨hm, hA⟩), fun b e => xnc1 e⟩
        · have hf := xsw_in 34 hk1 rfl hf
          obtain ⟨v4, e3, hf⟩ := xbd hf
          obtain ⟨_, e5, hf⟩ := xbd hf
          obtain ⟨⟨v8, σ7⟩, e6, hf⟩ := xbd hf
          dsimp only at hf
          obtain ⟨hm9, hB⟩ := n_X11_hold hA.1 hr1 e6
          have hA := RegN.step hA hB (m_X11_hold e6).ext
          have hm := hm.tr hm9
          obtain ⟨v10, e9, hf⟩ := xbd hf
          obtain ⟨_, e11, hf⟩ := xbd hf
          obtain ⟨⟨v14, σ13⟩, e12, hf⟩ := xbd hf
          dsimp only at hf
          obtain ⟨hm9, hB⟩ := n_X12_hold hA.1 hr2 e12
          have hA := RegN.step hA hB (m_X12_hold e12).ext
          have hm := hm.tr hm9
          have hf := xsj hf
          subst hf
          exact ⟨fun a' e => (by have h9 := Sum.inl.inj e; subst h9; exact ⟨hm, hA⟩), fun b e => xnc1 e⟩
        · have hf := xsw_in 35 hk1 rfl hf
          obtain ⟨v4, e3, hf⟩ := xbd hf
          obtain ⟨_, e5, hf⟩ := xbd hf
          obtain ⟨⟨v8, σ7⟩, e6, hf⟩ := xbd hf
          dsimp only at hf
          obtain ⟨hm9, hB⟩ := n_X11_restore hA.1 hr1 e6
          have hA := RegN.step hA hB (m_X11_restore e6).ext
          have hm := hm.tr hm9
          obtain ⟨v10, e9, hf⟩ := xbd hf
          obtain ⟨_, e11, hf⟩ := xbd hf
          obtain ⟨⟨v14, σ13⟩, e12, hf⟩ := xbd hf
          dsimp only at hf
          obtain ⟨hm9, hB⟩ := n_X12_restore hA.1 hr2 e12
          have hA := RegN.step hA hB (m_X12_restore e12).ext
          have hm := hm.tr hm9
          have hf := xsj hf
          subst hf
          exact ⟨fun a' e => (by have h9 := Sum.inl.inj e; subst h9; exact ⟨hm, hA⟩), fun b e => xnc1 e⟩
        · have hf := xsw_in 36 hk1 rfl hf
          obtain ⟨v4, e3, hf⟩ := xbd hf
          obtain ⟨_, e5, hf⟩ := xbd hf
          obtain ⟨⟨v8, σ7⟩, e6, hf⟩ := xbd hf
          dsimp only at hf
          obtain ⟨hm9, hA⟩ := n_X11_count hA hr1 e6
          have hm := hm.tr hm9
          exact ⟨fun a' e => ⟨hm.tr ((n_L_law_j1275 hA hf).1 a' e).1, ((n_L_law_j1275 hA hf).1 a' e).2⟩, fun b1 eb1 => ⟨hm.tr ((n_L_law_j1275 hA hf).2 b1 eb1).1, ((n_L_law_j1275 hA hf).2 b1 eb1).2⟩⟩
  cases y with
  | inl a' =>
    obtain ⟨hm, hA1⟩ := hy.1 a' rfl
    have h1 := hc a' rfl hA1
    exact ⟨hm.tr (h1).1, (h1).2⟩
  | inr b =>
    have h1 := he b rfl
    subst h1
    exact hy.2 _ rfl
theorem n_L_law_j15 {A : Nat → Prop} {L : Nat} {xs : Nat → Int32} {σ : XS} {r1 : Nat} {t0 : Nat} {x : Int32 × XS} (hA : RegN A σ) (hr1 : A r1) (ht0 : A t0) (hf : f_L_law_j15 L xs σ r1 t0 = some x) : Sm A σ x.2 ∧ RegN A x.2 := by
  have hm := Sm.rf (A := A) (σ := σ)
  exact ⟨hm.tr (n_L_law_l18 (a := ((0 : Int32), σ)) hA hr1 ht0 hf).1, (n_L_law_l18 (a := ((0 : Int32), σ)) hA hr1 ht0 hf).2⟩
theorem n_L_law_j11 {A : Nat → Prop} {L : Nat} {xs : Nat → Int32} {σ : XS} {r1 : Nat} {t0 : Nat} {x : Int32 × XS} (hA : RegN A σ) (hr1 : A r1) (ht0 : A t0) (hf : f_L_law_j11 L xs σ r1 t0 = some x) : Sm A σ x.2 ∧ RegN A x.2 := by
  have hm := Sm.rf (A := A) (σ := σ)
  obtain ⟨_, e1, hf⟩ := xbd hf
  obtain ⟨σ3, e2, hf⟩ := xbd hf
  obtain ⟨hm9, hA⟩ := n_X12_init hA ht0 e2
  have hm := hm.tr hm9
  exact ⟨hm.tr (n_L_law_j15 hA hr1 ht0 hf).1, (n_L_law_j15 hA hr1 ht0 hf).2⟩
theorem n_L_law_j7 {A : Nat → Prop} {L : Nat} {xs : Nat → Int32} {σ : XS} {t0 : Nat} {x : Int32 × XS} (hA : RegN A σ) (ht0 : A t0) (hf : f_L_law_j7 L xs σ t0 = some x) : Sm A σ x.2 ∧ RegN A x.2 := by
  have hm := Sm.rf (A := A) (σ := σ)
  obtain ⟨⟨z2, σ3⟩, e1, hf⟩ := xbd hf
  dsimp only at hf
  obtain ⟨hm9, hA, hz2⟩ := xnO_reg hA e1
  have hm := hm.tr hm9
  exact ⟨hm.tr (n_L_law_j11 hA ht0 hz2 hf).1, (n_L_law_j11 hA ht0 hz2 hf).2⟩
theorem n_L_law_j3 {A : Nat → Prop} {L : Nat} {xs : Nat → Int32} {σ : XS} {t0 : Nat} {x : Int32 × XS} (hA : RegN A σ) (ht0 : A t0) (hf : f_L_law_j3 L xs σ t0 = some x) : Sm A σ x.2 ∧ RegN A x.2 := by
  have hm := Sm.rf (A := A) (σ := σ)
  obtain ⟨_, e1, hf⟩ := xbd hf
  obtain ⟨σ3, e2, hf⟩ := xbd hf
  obtain ⟨hm9, hA⟩ := n_X11_init hA ht0 e2
  have hm := hm.tr hm9
  exact ⟨hm.tr (n_L_law_j7 hA ht0 hf).1, (n_L_law_j7 hA ht0 hf).2⟩
theorem n_L_law {A : Nat → Prop} {L : Nat} {xs : Nat → Int32} {σ : XS} {x : Int32 × XS} (hA : RegN A σ) (hf : f_L_law L xs σ = some x) : Sm A σ x.2 ∧ RegN A x.2 := by
  have hm := Sm.rf (A := A) (σ := σ)
  obtain ⟨⟨z2, σ3⟩, e1, hf⟩ := xbd hf
  dsimp only at hf
  obtain ⟨hm9, hA, hz2⟩ := xnO_reg hA e1
  have hm := hm.tr hm9
  exact ⟨hm.tr (n_L_law_j3 hA hz2 hf).1, (n_L_law_j3 hA hz2 hf).2⟩
