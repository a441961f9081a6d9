/-! a region of the heap: closed under references; what is kept outside of it -/
/-- fields that only lend: a Terrain's energies and setup -/
def xbor (c j : Nat) : Bool := c == 9 && (j == 5 || j == 6)
def Reg (A : Nat → Prop) (σ : XS) : Prop := ∀ a j, A a → xbor (xT σ a) j = false → xR σ a j ≠ 0 → A (xR σ a j)
def RegN (A : Nat → Prop) (σ : XS) : Prop := Reg A σ ∧ ∀ a, xn σ < a → A a
def Sm (A : Nat → Prop) (σ τ : XS) : Prop := ∀ b, ¬ A b → τ.1 b = σ.1 b ∧ (∀ j, xI τ b j = xI σ b j) ∧ (∀ j, xL τ b j = xL σ b j) ∧ ∀ j, xR τ b j = xR σ b j
section XREG
variable {A : Nat → Prop} {σ τ υ : XS}
theorem Sm.rf : Sm A σ σ := fun _ _ => ⟨rfl, fun _ => rfl, fun _ => rfl, fun _ => rfl⟩
theorem Sm.tr (h1 : Sm A σ τ) (h2 : Sm A τ υ) : Sm A σ υ := fun b hb => ⟨(h2 b hb).1.trans (h1 b hb).1, fun j => ((h2 b hb).2.1 j).trans ((h1 b hb).2.1 j), fun j => ((h2 b hb).2.2.1 j).trans ((h1 b hb).2.2.1 j), fun j => ((h2 b hb).2.2.2 j).trans ((h1 b hb).2.2.2 j)⟩
theorem RegN.step (h : RegN A σ) (h1 : Reg A τ) (h2 : xext σ τ) : RegN A τ := ⟨h1, fun a ha => h.2 a (Nat.lt_of_le_of_lt h2.1.1 ha)⟩
theorem xgR_reg {a c j v : Nat} (hb : xbor c j = false) (hA : Reg A σ) (ha : A a) (e : xgR σ a c j = some v) : A v := by
  obtain ⟨hT, rfl, h⟩ := xgR_spec e
  exact hA a j ha (by rw [hT]; exact hb) h
theorem xaR_reg {k a v : Nat} {i : Int32} (hk : k ≠ 9) (hA : Reg A σ) (ha : A a) (e : xaR σ k a i = some v) : A v := by
  obtain ⟨hT, -, rfl, h⟩ := xaR_spec e
  exact hA a _ ha (by rw [hT]; unfold xbor; simp [hk]) h
theorem xuI_reg {a j : Nat} {v : Int32} (hA : Reg A σ) (ha : A a) : Sm A σ (xuI σ a j v) ∧ Reg A (xuI σ a j v) := ⟨fun b hb => ⟨rfl, fun k => xup_ne (fun q => hb (q ▸ ha)), fun _ => rfl, fun _ => rfl⟩, hA⟩
theorem xuL_reg {a j : Nat} {v : Int64} (hA : Reg A σ) (ha : A a) : Sm A σ (xuL σ a j v) ∧ Reg A (xuL σ a j v) := ⟨fun b hb => ⟨rfl, fun _ => rfl, fun k => xup_ne (fun q => hb (q ▸ ha)), fun _ => rfl⟩, hA⟩
theorem xuR_reg {a j v : Nat} (hA : Reg A σ) (ha : A a) (hv : A v) : Sm A σ (xuR σ a j v) ∧ Reg A (xuR σ a j v) := by
  refine ⟨fun b hb => ⟨rfl, fun _ => rfl, fun _ => rfl, fun k => xup_ne (fun q => hb (q ▸ ha))⟩, fun b k hb hbo h0 => ?_⟩
  have e : xR (xuR σ a j v) b k = if b = a ∧ k = j then v else xR σ b k := rfl
  rw [e] at h0 ⊢
  by_cases q : b = a ∧ k = j
  · rw [if_pos q]; exact hv
  · rw [if_neg q] at h0 ⊢; exact hA b k hb hbo h0
theorem xpR_regB {a c j v : Nat} (hbo : xbor c j = true) (hA : Reg A σ) (ha : A a) (e : xpR σ a c j v = some τ) : Sm A σ τ ∧ Reg A τ := by
  obtain ⟨hT, rfl⟩ := xpR_spec e
  refine ⟨fun b hb => ⟨rfl, fun _ => rfl, fun _ => rfl, fun k => xup_ne (fun q => hb (q ▸ ha))⟩, fun b k hb hbo2 h0 => ?_⟩
  have e : xR (xuR σ a j v) b k = if b = a ∧ k = j then v else xR σ b k := rfl
  have hbo3 : xbor (xT σ b) k = false := hbo2
  rw [e] at h0 ⊢
  by_cases q : b = a ∧ k = j
  · rw [q.1, q.2, hT, hbo] at hbo3; cases hbo3
  · rw [if_neg q] at h0 ⊢; exact hA b k hb hbo3 h0
theorem xpI_reg {a c j : Nat} {v : Int32} (hA : Reg A σ) (ha : A a) (e : xpI σ a c j v = some τ) : Sm A σ τ ∧ Reg A τ := by
  obtain ⟨-, rfl⟩ := xpI_spec e
  exact xuI_reg hA ha
theorem xpR_reg {a c j v : Nat} (hA : Reg A σ) (ha : A a) (hv : A v) (e : xpR σ a c j v = some τ) : Sm A σ τ ∧ Reg A τ := by
  obtain ⟨-, rfl⟩ := xpR_spec e
  exact xuR_reg hA ha hv
theorem xsI_reg {k a : Nat} {i v : Int32} (hA : Reg A σ) (ha : A a) (e : xsI σ k a i v = some τ) : Sm A σ τ ∧ Reg A τ := by
  obtain ⟨-, -, rfl⟩ := xsI_spec e
  exact xuI_reg hA ha
theorem xsL_reg {a : Nat} {i : Int32} {v : Int64} (hA : Reg A σ) (ha : A a) (e : xsL σ a i v = some τ) : Sm A σ τ ∧ Reg A τ := by
  obtain ⟨-, -, rfl⟩ := xsL_spec e
  exact xuL_reg hA ha
theorem xsR_reg {k c a v : Nat} {i : Int32} (hA : Reg A σ) (ha : A a) (hv : A v) (e : xsR σ k c a i v = some τ) : Sm A σ τ ∧ Reg A τ := by
  obtain ⟨-, -, -, rfl⟩ := xsR_spec e
  exact xuR_reg hA ha hv
theorem xcp_reg {a b : Nat} {sp dp n : Int32} (hA : Reg A σ) (hb : A b) (e : xcp σ a sp b dp n = some τ) : Sm A σ τ ∧ Reg A τ := by
  obtain ⟨-, rfl⟩ := xcp_spec e
  refine ⟨fun c hc => ⟨rfl, fun k => ?_, fun _ => rfl, fun _ => rfl⟩, hA⟩
  have hne : ¬ c = b := fun q => hc (q ▸ hb)
  show (if c = b then _ else σ.2.1 c k) = _
  rw [if_neg hne]
  rfl
theorem xnew_reg {k len w : Nat} (hA : RegN A σ) : Sm A σ (xnew σ k len w) ∧ RegN A (xnew σ k len w) ∧ A (xn σ + 1) := by
  have h1 : A (xn σ + 1) := hA.2 _ (Nat.lt_succ_self _)
  refine ⟨fun b hb => ?_, ⟨fun b j hb hbo h0 => ?_, fun a ha => hA.2 a (Nat.lt_of_succ_lt ha)⟩, h1⟩
  · have hne : b ≠ xn σ + 1 := fun q => hb (q ▸ h1)
    refine ⟨xnew_ne hne, fun j => ?_, fun j => ?_, fun j => ?_⟩
    · show (if b = xn σ + 1 then 0 else σ.2.1 b j) = _
      rw [if_neg hne]; rfl
    · show (if b = xn σ + 1 then 0 else σ.2.2.1 b j) = _
      rw [if_neg hne]; rfl
    · show (if b = xn σ + 1 then 0 else σ.2.2.2.1 b j) = _
      rw [if_neg hne]; rfl
  · have e : xR (xnew σ k len w) b j = if b = xn σ + 1 then 0 else xR σ b j := rfl
    rw [e] at h0 ⊢
    by_cases q : b = xn σ + 1
    · rw [if_pos q] at h0; exact absurd rfl h0
    · have hT : xT (xnew σ k len w) b = xT σ b := by unfold xT; rw [xnew_ne q]
      rw [hT] at hbo
      rw [if_neg q] at h0 ⊢; exact hA.1 b j hb hbo h0
theorem xnO_reg {c w q : Nat} (hA : RegN A σ) (e : xnO σ c w = some (q, τ)) : Sm A σ τ ∧ RegN A τ ∧ A q := by
  obtain ⟨rfl, rfl⟩ := xnO_spec e
  exact xnew_reg hA
theorem xnA_reg {k q : Nat} {i : Int32} (hA : RegN A σ) (e : xnA σ k i = some (q, τ)) : Sm A σ τ ∧ RegN A τ ∧ A q := by
  obtain ⟨-, -, rfl, rfl⟩ := xnA_spec e
  exact xnew_reg hA
end XREG
