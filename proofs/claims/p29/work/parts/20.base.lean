/-! The abstract heap: cells are numbered from 1 on in the order in which they were made; the cell a lies at hb + a. Of a cell: its kind (an object's class in xcl; arrays 20 int, 21 byte, 22 boolean, 23 long, 24 Setup, 25 Slot; 99 none), its length; ints, longs, references (0: null) by cell and place. -/
abbrev XS : Type := (Nat → Nat × Nat) × (Nat → Nat → Int32) × (Nat → Nat → Int64) × (Nat → Nat → Nat) × Nat × Nat
def xT (σ : XS) (a : Nat) : Nat := (σ.1 a).1
def xlen (σ : XS) (a : Nat) : Nat := (σ.1 a).2
def xI (σ : XS) : Nat → Nat → Int32 := σ.2.1
def xL (σ : XS) : Nat → Nat → Int64 := σ.2.2.1
def xR (σ : XS) : Nat → Nat → Nat := σ.2.2.2.1
def xn (σ : XS) : Nat := σ.2.2.2.2.1
def xz (σ : XS) : Nat := σ.2.2.2.2.2
def xup {α : Type} (f : Nat → Nat → α) (a j : Nat) (v : α) : Nat → Nat → α := fun b k => if b = a ∧ k = j then v else f b k
def xuI (σ : XS) (a j : Nat) (v : Int32) : XS := (σ.1, xup σ.2.1 a j v, σ.2.2)
def xuL (σ : XS) (a j : Nat) (v : Int64) : XS := (σ.1, σ.2.1, xup σ.2.2.1 a j v, σ.2.2.2)
def xuR (σ : XS) (a j v : Nat) : XS := (σ.1, σ.2.1, σ.2.2.1, xup σ.2.2.2.1 a j v, σ.2.2.2.2)
def xnew (σ : XS) (k len w : Nat) : XS := (fun b => if b = xn σ + 1 then (k, len) else σ.1 b, fun b j => if b = xn σ + 1 then 0 else σ.2.1 b j, fun b j => if b = xn σ + 1 then 0 else σ.2.2.1 b j, fun b j => if b = xn σ + 1 then 0 else σ.2.2.2.1 b j, xn σ + 1, xz σ + w)
/-! what instructions do to it -/
def xgI (σ : XS) (a c j : Nat) : Option Int32 := if xT σ a = c then some (xI σ a j) else none
def xgR (σ : XS) (a c j : Nat) : Option Nat := if xT σ a = c ∧ xR σ a j ≠ 0 then some (xR σ a j) else none
def xgN (σ : XS) (a c j : Nat) : Option Nat := if xT σ a = c then some (xR σ a j) else none
def xck (σ : XS) (a c : Nat) : Option Unit := if xT σ a = c then some () else none
def xnz (a : Nat) : Option Unit := if a = 0 then none else some ()
def xbz (v : Int32) : Option Unit := if v = 0 ∨ v = 1 then some () else none
def xdz (v : Int32) : Option Unit := if v = 0 then none else some ()
def xdZ (v : Int64) : Option Unit := if v = 0 then none else some ()
def xpI (σ : XS) (a c j : Nat) (v : Int32) : Option XS := if xT σ a = c then some (xuI σ a j v) else none
def xpR (σ : XS) (a c j v : Nat) : Option XS := if xT σ a = c then some (xuR σ a j v) else none
def xal (σ : XS) (a : Nat) : Option Int32 := if 20 ≤ xT σ a ∧ xT σ a ≤ 25 then some (Int32.ofNat (xlen σ a)) else none
def xaI (σ : XS) (k a : Nat) (i : Int32) : Option Int32 := if xT σ a = k ∧ ¬ (i < 0 ∨ xlen σ a ≤ i.toNatClampNeg) then some (xI σ a i.toNatClampNeg) else none
def xsI (σ : XS) (k a : Nat) (i v : Int32) : Option XS := if xT σ a = k ∧ ¬ (i < 0 ∨ xlen σ a ≤ i.toNatClampNeg) then some (xuI σ a i.toNatClampNeg v) else none
def xaL (σ : XS) (a : Nat) (i : Int32) : Option Int64 := if xT σ a = 23 ∧ ¬ (i < 0 ∨ xlen σ a ≤ i.toNatClampNeg) then some (xL σ a i.toNatClampNeg) else none
def xsL (σ : XS) (a : Nat) (i : Int32) (v : Int64) : Option XS := if xT σ a = 23 ∧ ¬ (i < 0 ∨ xlen σ a ≤ i.toNatClampNeg) then some (xuL σ a i.toNatClampNeg v) else none
def xaR (σ : XS) (k a : Nat) (i : Int32) : Option Nat := if xT σ a = k ∧ xR σ a i.toNatClampNeg ≠ 0 ∧ ¬ (i < 0 ∨ xlen σ a ≤ i.toNatClampNeg) then some (xR σ a i.toNatClampNeg) else none
def xsR (σ : XS) (k c a : Nat) (i : Int32) (v : Nat) : Option XS := if xT σ a = k ∧ xT σ v = c ∧ ¬ (i < 0 ∨ xlen σ a ≤ i.toNatClampNeg) then some (xuR σ a i.toNatClampNeg v) else none
def xnA (σ : XS) (k : Nat) (i : Int32) : Option (Nat × XS) := if i < 0 ∨ 67108864 < i.toNatClampNeg then none else some (xn σ + 1, xnew σ k i.toNatClampNeg i.toNatClampNeg)
def xnO (σ : XS) (c w : Nat) : Option (Nat × XS) := some (xn σ + 1, xnew σ c 0 w)
/-! loops -/
def xiter {α β : Type} (f : α → Option (α ⊕ β)) : Nat → α → Option β
  | 0, _ => none
  | n + 1, a => match f a with
    | none => none
    | some (.inl a') => xiter f n a'
    | some (.inr b) => some b
noncomputable def xloop {α β : Type} (f : α → Option (α ⊕ β)) (a : α) : Option β := @dite _ (∃ n, xiter f n a ≠ none) (Classical.propDecidable _) (fun h => xiter f h.choose a) (fun _ => none)
theorem xiter_mono {α β : Type} {f : α → Option (α ⊕ β)} : ∀ {n : Nat} {a : α} {b : β}, xiter f n a = some b → ∀ m, n ≤ m → xiter f m a = some b
  | 0, a, b, h, m, _ => by simp [xiter] at h
  | n + 1, a, b, h, m, hm => by
    obtain ⟨m, rfl⟩ : ∃ k, m = k + 1 := ⟨m - 1, by omega⟩
    unfold xiter at h ⊢
    cases hf : f a with
    | none => rw [hf] at h; cases h
    | some x =>
      rw [hf] at h
      cases x with
      | inl a' => exact xiter_mono h m (by omega)
      | inr b' => exact h
theorem xloop_of {α β : Type} {f : α → Option (α ⊕ β)} {a : α} {b : β} {n : Nat} (h : xiter f n a = some b) : xloop f a = some b := by
  unfold xloop
  have hx : ∃ n, xiter f n a ≠ none := ⟨n, by rw [h]; exact fun q => by cases q⟩
  rw [dif_pos hx]
  have h2 := hx.choose_spec
  cases hc : xiter f hx.choose a with
  | none => exact absurd hc h2
  | some b' =>
    have e1 := xiter_mono hc (max hx.choose n) (Nat.le_max_left _ _)
    have e2 := xiter_mono h (max hx.choose n) (Nat.le_max_right _ _)
    exact e1.symm.trans e2
theorem xloop_iff {α β : Type} {f : α → Option (α ⊕ β)} {a : α} {b : β} : xloop f a = some b ↔ ∃ n, xiter f n a = some b := by
  constructor
  · intro h
    unfold xloop at h
    by_cases hx : ∃ n, xiter f n a ≠ none
    · rw [dif_pos hx] at h
      exact ⟨_, h⟩
    · rw [dif_neg hx] at h
      cases h
  · rintro ⟨n, h⟩
    exact xloop_of h
/-- what holds of a loop's end holds at its start: one walk of the body -/
theorem xloop_ind {α β : Type} {f : α → Option (α ⊕ β)} {b : β} (P : α → Prop) (h : ∀ a x, f a = some x → (∀ a', x = .inl a' → P a') → (∀ b', x = .inr b' → b' = b) → P a) {a : α} (ha : xloop f a = some b) : P a := by
  obtain ⟨n, hn⟩ := xloop_iff.mp ha
  clear ha
  induction n generalizing a with
  | zero => simp [xiter] at hn
  | succ n ih =>
    unfold xiter at hn
    cases hf : f a with
    | none => rw [hf] at hn; cases hn
    | some x =>
      rw [hf] at hn
      cases x with
      | inl a' => exact h a _ hf (fun _ e => by cases e; exact ih hn) (fun _ e => by cases e)
      | inr b' => exact h a _ hf (fun _ e => by cases e) (fun _ e => by cases e; exact Option.some.inj hn)
theorem xloop_ind2 {α β : Type} {f : α → Option (α ⊕ β)} {b : β} (P : α → Prop) (h : ∀ a x, f a = some x → (∀ a', x = .inl a' → xloop f a' = some b ∧ P a') → (∀ b', x = .inr b' → b' = b) → P a) {a : α} (ha : xloop f a = some b) : P a := by
  obtain ⟨n, hn⟩ := xloop_iff.mp ha
  clear ha
  induction n generalizing a with
  | zero => simp [xiter] at hn
  | succ n ih =>
    unfold xiter at hn
    cases hf : f a with
    | none => rw [hf] at hn; cases hn
    | some x =>
      rw [hf] at hn
      cases x with
      | inl a' => exact h a _ hf (fun _ e => by cases e; exact ⟨xloop_of hn, ih hn⟩) (fun _ e => by cases e)
      | inr b' => exact h a _ hf (fun _ e => by cases e) (fun _ e => by cases e; exact Option.some.inj hn)
theorem xloop_step {α β : Type} {f : α → Option (α ⊕ β)} {a a' : α} (h : f a = some (.inl a')) : xloop f a = xloop f a' := by
  apply Option.ext
  intro b
  rw [xloop_iff, xloop_iff]
  constructor
  · rintro ⟨n, hn⟩
    cases n with
    | zero => simp [xiter] at hn
    | succ n => unfold xiter at hn; rw [h] at hn; exact ⟨n, hn⟩
  · rintro ⟨n, hn⟩
    exact ⟨n + 1, by unfold xiter; rw [h]; exact hn⟩
theorem xloop_end {α β : Type} {f : α → Option (α ⊕ β)} {a : α} {b : β} (h : f a = some (.inr b)) : xloop f a = some b := xloop_of (n := 1) (by unfold xiter; rw [h])
/-- the loop's rule for its meaning: a measure falls -/
theorem xloop_run {α β : Type} {f : α → Option (α ⊕ β)} (I : Nat → α → Prop) (P : β → Prop) (hs : ∀ k a, I k a → (∃ b, f a = some (.inr b) ∧ P b) ∨ ∃ k' a', k' < k ∧ f a = some (.inl a') ∧ I k' a') : ∀ k a, I k a → ∃ b, xloop f a = some b ∧ P b := by
  intro k
  induction k using Nat.strongRecOn with
  | ind k ih =>
    intro a ha
    rcases hs k a ha with ⟨b, h1, h2⟩ | ⟨k', a', h1, h2, h3⟩
    · exact ⟨b, xloop_end h1, h2⟩
    · obtain ⟨b, e1, e2⟩ := ih k' h1 a' h3
      exact ⟨b, by rw [xloop_step h2]; exact e1, e2⟩
/-! reading a meaning -/
theorem xbd {α β : Type} {o : Option α} {k : α → Option β} {x : β} (h : o.bind k = some x) : ∃ a, o = some a ∧ k a = some x := by
  cases o with
  | none => cases h
  | some a => exact ⟨a, rfl, h⟩
theorem xip {α : Type} {c : Prop} [Decidable c] {a b : Option α} {x : α} (hc : c) (h : (if c then a else b) = some x) : a = some x := by rw [if_pos hc] at h; exact h
theorem xin {α : Type} {c : Prop} [Decidable c] {a b : Option α} {x : α} (hc : ¬ c) (h : (if c then a else b) = some x) : b = some x := by rw [if_neg hc] at h; exact h
theorem xsj {α : Type} {a x : α} (h : some a = some x) : a = x := Option.some.inj h
theorem xmj {α β : Type} {o : Option β} {x : α ⊕ β} (h : o.map (Sum.inr (α := α)) = some x) : ∃ b, o = some b ∧ x = .inr b := by
  cases o with
  | none => cases h
  | some b => exact ⟨b, rfl, (Option.some.inj h).symm⟩
theorem xck_spec {σ : XS} {a c : Nat} {u : Unit} (e : xck σ a c = some u) : xT σ a = c := by
  unfold xck at e
  by_cases h : xT σ a = c
  · exact h
  · rw [if_neg h] at e; cases e
theorem xnz_spec {a : Nat} {u : Unit} (e : xnz a = some u) : a ≠ 0 := by
  unfold xnz at e
  by_cases h : a = 0
  · rw [if_pos h] at e; cases e
  · exact h
theorem xdz_spec {v : Int32} {u : Unit} (e : xdz v = some u) : ¬ v = 0 := by
  unfold xdz at e
  by_cases h : v = 0
  · rw [if_pos h] at e; cases e
  · exact h
theorem xdZ_spec {v : Int64} {u : Unit} (e : xdZ v = some u) : ¬ v = 0 := by
  unfold xdZ at e
  by_cases h : v = 0
  · rw [if_pos h] at e; cases e
  · exact h
theorem xbz_spec {v : Int32} {u : Unit} (e : xbz v = some u) : v = 0 ∨ v = 1 := by
  unfold xbz at e
  by_cases h : v = 0 ∨ v = 1
  · exact h
  · rw [if_neg h] at e; cases e
theorem xbz_nar {v : Int32} {u : Unit} (e : xbz v = some u) : narrow .boolean (.int v) = .int v := by
  rcases xbz_spec e with h | h <;> subst h <;> rfl
/-- a switch over a table: what each case means, and all else -/
def xsw {β : Type} (v : Int32) (lo : Int) (as : List (Option β)) (d : Option β) : Option β := if v.toInt < lo then d else (as[(v.toInt - lo).toNat]?).getD d
theorem xsw_in {β : Type} {v : Int32} {lo : Int} {as : List (Option β)} {d : Option β} {x : β} {a : Option β} (k : Nat) (hv : v.toInt = lo + k) (ha : as[k]? = some a) (h : xsw v lo as d = some x) : a = some x := by
  unfold xsw at h
  rw [if_neg (by omega), show (v.toInt - lo).toNat = k by omega, ha] at h
  exact h
theorem xsw_out {β : Type} {v : Int32} {lo hi : Int} {as : List (Option β)} {d : Option β} {x : β} (hv : v.toInt < lo ∨ hi < v.toInt) (hn : hi + 1 - lo = (as.length : Int)) (h : xsw v lo as d = some x) : d = some x := by
  unfold xsw at h
  by_cases q : v.toInt < lo
  · rw [if_pos q] at h; exact h
  · rw [if_neg q, List.getElem?_eq_none (by omega)] at h
    exact h
/-- nothing made, no kind changed -/
def xsame (σ τ : XS) : Prop := τ.1 = σ.1 ∧ xn τ = xn σ ∧ xz τ = xz σ
theorem xsame.rf {σ : XS} : xsame σ σ := ⟨rfl, rfl, rfl⟩
theorem xsame.tr {σ τ υ : XS} (h1 : xsame σ τ) (h2 : xsame τ υ) : xsame σ υ := ⟨h2.1.trans h1.1, h2.2.1.trans h1.2.1, h2.2.2.trans h1.2.2⟩
theorem xsame.le {σ τ : XS} (h : xsame σ τ) : xn σ ≤ xn τ ∧ xz σ ≤ xz τ := ⟨by rw [h.2.1]; exact Nat.le_refl _, by rw [h.2.2]; exact Nat.le_refl _⟩
theorem xpI_same {σ τ : XS} {a c j : Nat} {v : Int32} (e : xpI σ a c j v = some τ) : xsame σ τ := by
  unfold xpI at e
  by_cases h : xT σ a = c
  · rw [if_pos h] at e; obtain rfl := Option.some.inj e; exact ⟨rfl, rfl, rfl⟩
  · rw [if_neg h] at e; cases e
theorem xpR_same {σ τ : XS} {a c j v : Nat} (e : xpR σ a c j v = some τ) : xsame σ τ := by
  unfold xpR at e
  by_cases h : xT σ a = c
  · rw [if_pos h] at e; obtain rfl := Option.some.inj e; exact ⟨rfl, rfl, rfl⟩
  · rw [if_neg h] at e; cases e
theorem xsI_same {σ τ : XS} {k a : Nat} {i v : Int32} (e : xsI σ k a i v = some τ) : xsame σ τ := by
  unfold xsI at e
  by_cases h : xT σ a = k ∧ ¬ (i < 0 ∨ xlen σ a ≤ i.toNatClampNeg)
  · rw [if_pos h] at e; obtain rfl := Option.some.inj e; exact ⟨rfl, rfl, rfl⟩
  · rw [if_neg h] at e; cases e
theorem xsL_same {σ τ : XS} {a : Nat} {i : Int32} {v : Int64} (e : xsL σ a i v = some τ) : xsame σ τ := by
  unfold xsL at e
  by_cases h : xT σ a = 23 ∧ ¬ (i < 0 ∨ xlen σ a ≤ i.toNatClampNeg)
  · rw [if_pos h] at e; obtain rfl := Option.some.inj e; exact ⟨rfl, rfl, rfl⟩
  · rw [if_neg h] at e; cases e
theorem xsR_same {σ τ : XS} {k c a v : Nat} {i : Int32} (e : xsR σ k c a i v = some τ) : xsame σ τ := by
  unfold xsR at e
  by_cases h : xT σ a = k ∧ xT σ v = c ∧ ¬ (i < 0 ∨ xlen σ a ≤ i.toNatClampNeg)
  · rw [if_pos h] at e; obtain rfl := Option.some.inj e; exact ⟨rfl, rfl, rfl⟩
  · rw [if_neg h] at e; cases e
/-- cells may be made; those that were there keep their kinds -/
def xext (σ τ : XS) : Prop := (xn σ ≤ xn τ ∧ xz σ ≤ xz τ) ∧ ∀ a, a ≤ xn σ → τ.1 a = σ.1 a
theorem xext.rf {σ : XS} : xext σ σ := ⟨⟨Nat.le_refl _, Nat.le_refl _⟩, fun _ _ => rfl⟩
theorem xext.tr {σ τ υ : XS} (h1 : xext σ τ) (h2 : xext τ υ) : xext σ υ := ⟨⟨Nat.le_trans h1.1.1 h2.1.1, Nat.le_trans h1.1.2 h2.1.2⟩, fun a ha => (h2.2 a (Nat.le_trans ha h1.1.1)).trans (h1.2 a ha)⟩
theorem xsame.ext {σ τ : XS} (h : xsame σ τ) : xext σ τ := ⟨h.le, fun a _ => by rw [h.1]⟩
theorem xnew_ext {σ : XS} {k len w : Nat} : xext σ (xnew σ k len w) := ⟨⟨Nat.le_succ _, Nat.le_add_right _ _⟩, fun a ha => by show (if a = xn σ + 1 then (k, len) else σ.1 a) = _; rw [if_neg (by omega)]⟩
theorem xnA_ext {σ τ : XS} {k q : Nat} {i : Int32} (e : xnA σ k i = some (q, τ)) : xext σ τ := by
  unfold xnA at e
  by_cases h : i < 0 ∨ 67108864 < i.toNatClampNeg
  · rw [if_pos h] at e; cases e
  · rw [if_neg h] at e
    have e2 : xnew σ k i.toNatClampNeg i.toNatClampNeg = τ := congrArg Prod.snd (Option.some.inj e)
    rw [← e2]
    exact xnew_ext
theorem xst4 {st : List Value} (h : st.length ≤ 4) : (st.map fun v => v.category).sum ≤ 8 := by
  have : ∀ l : List Value, (l.map fun v => v.category).sum ≤ 2 * l.length := by
    intro l
    induction l with
    | nil => simp
    | cons v r ih =>
      have := lv_cat v
      simp only [List.map_cons, List.sum_cons, List.length_cons]
      omega
  have := this st
  omega
theorem xnO_ext {σ τ : XS} {c w q : Nat} (e : xnO σ c w = some (q, τ)) : xext σ τ := by
  have e2 : xnew σ c 0 w = τ := congrArg Prod.snd (Option.some.inj e)
  rw [← e2]
  exact xnew_ext
abbrev xcl : List vw_C := [(RX0, TX0, 4), (RX1, TX1, 13), (RX2, TX2, 6), (RX3, TX3, 8), (RX4, TX4, 6), (RX5, TX5, 3), (RX6, TX6, 8), (RX7, TX7, 4), (RX8, TX8, 10), (RX9, TX9, 11), (RX10, TX10, 3), (RX11, TX11, 16), (RX12, TX12, 45)]
/-- which fields are references -/
def xbk : Nat → List Bool := fun k => match k with
  | 0 => [true, true, true, false]
  | 1 => [true, true, false, false, false, false, false, false, false, false, false, false, false]
  | 2 => [true, true, false, false, true, false]
  | 3 => [true, true, true, true, false, false, false, false]
  | 4 => [true, true, true, true, false, false]
  | 5 => [true, false, false]
  | 6 => [true, true, false, false, false, false, false, false]
  | 7 => [true, true, false, false]
  | 8 => [true, true, true, true, false, false, false, false, false, false]
  | 9 => [true, true, true, true, true, true, true, false, false, false, false]
  | 10 => [false, false, false]
  | 11 => [true, true, true, true, true, true, true, true, true, true, true, true, true, true, false, false]
  | 12 => [false, true, false, true, false, true, true, true, true, true, false, false, false, false, false, false, false, false, false, false, false, true, false, false, false, false, true, true, false, false, true, true, false, true, true, false, true, true, true, true, true, true, true, true, true]
  | _ => []
abbrev XD : Type := va_G × (Nat → ClassId) × (Nat → Nat) × (Nat → Nat)
def xrf (hb r : Nat) : Option Nat := if r = 0 then none else some (hb + r)
def xrv (hb r : Nat) : Value := va_rf (xrf hb r)
theorem xrv_pos {hb r : Nat} (h : r ≠ 0) : xrv hb r = .ref (hb + r) := by unfold xrv xrf; rw [if_neg h]; rfl
theorem xrv_zero {hb : Nat} : xrv hb 0 = .null := rfl
def xvals (hb : Nat) (σ : XS) (a : Nat) : Nat → List Bool → List Value
  | _, [] => []
  | j, true :: r => xrv hb (xR σ a j) :: xvals hb σ a (j + 1) r
  | j, false :: r => .int (xI σ a j) :: xvals hb σ a (j + 1) r
theorem xvals_length {hb : Nat} {σ : XS} {a : Nat} : ∀ (bs : List Bool) (j : Nat), (xvals hb σ a j bs).length = bs.length
  | [], _ => rfl
  | true :: r, j => by simp [xvals, xvals_length r]
  | false :: r, j => by simp [xvals, xvals_length r]
def xval (hb : Nat) (σ : XS) (a j : Nat) (b : Bool) : Value := if b then xrv hb (xR σ a j) else .int (xI σ a j)
theorem xvals_get {hb : Nat} {σ : XS} {a : Nat} : ∀ (bs : List Bool) (j k : Nat) (b : Bool), bs[k]? = some b → (xvals hb σ a j bs)[k]? = some (xval hb σ a (j + k) b)
  | [], _, _, _, h => by simp at h
  | x :: r, j, 0, b, h => by
    simp at h
    subst h
    cases x <;> simp [xvals, xval]
  | x :: r, j, k + 1, b, h => by
    have h' : r[k]? = some b := by simpa using h
    have := xvals_get (hb := hb) (σ := σ) (a := a) r (j + 1) k b h'
    cases x <;> simp [xvals, this] <;> (congr 1; omega)
def xe (E : XD) (hb : Nat) (σ : XS) (a : Nat) : va_E :=
  if xT σ a < 20 then .inr (xT σ a, xvals hb σ a 0 (xbk (xT σ a)))
  else if xT σ a = 23 then .inl (E.2.1 23, xlen σ a, .inr (.inl (xL σ a)))
  else if xT σ a < 23 then .inl (E.2.1 (xT σ a), xlen σ a, .inl (xI σ a))
  else .inl (E.2.1 (xT σ a), xlen σ a, .inr (.inr (.inr (.inr (fun j => xrf hb (xR σ a j))))))
def XP (E : XD) (hb : Nat) (σ : XS) (H : Heap) : Prop := H.size = hb + xn σ + 1 ∧ (∀ a, a = 0 ∨ xn σ < a → xT σ a = 99) ∧ ∀ a, 1 ≤ a → a ≤ xn σ → va_at E.1 xcl (hb + a, xe E hb σ a) H
theorem XP.live {E : XD} {hb : Nat} {σ : XS} {H : Heap} (h : XP E hb σ H) {a : Nat} (ha : xT σ a ≠ 99) : 1 ≤ a ∧ a ≤ xn σ := by
  constructor
  · rcases Nat.eq_zero_or_pos a with q | q
    · exact absurd (h.2.1 a (Or.inl q)) ha
    · exact q
  · rcases Nat.lt_or_ge (xn σ) a with q | q
    · exact absurd (h.2.1 a (Or.inr q)) ha
    · exact q
theorem XP.at {E : XD} {hb : Nat} {σ : XS} {H : Heap} (h : XP E hb σ H) {a : Nat} (ha : xT σ a ≠ 99) : va_at E.1 xcl (hb + a, xe E hb σ a) H := h.2.2 a (h.live ha).1 (h.live ha).2
theorem va_P.one {D : va_G} {cl : List vw_C} {q : Nat × va_E} {H : Heap} (h : va_at D cl q H) : va_P D cl [q] H := by
  intro k x hx
  have hz : k < 1 := (List.getElem?_eq_some_iff.mp hx).1
  rw [show k = 0 by omega] at hx
  cases hx
  exact h
abbrev xtys (E : XD) : List (ClassId × FieldType) := [(E.2.1 20, .int), (E.2.1 21, .byte), (E.2.1 22, .boolean), (E.2.1 23, .long), (E.2.1 24, .object RX6), (E.2.1 25, .object RX7)]
/-! the String constants of Tape: their places, texts, lengths, bytes -/
def xsi : Nat → Nat := fun k => match k with
  | 0 => 79
  | 1 => 85
  | 2 => 87
  | 3 => 89
  | 4 => 91
  | 5 => 93
  | 6 => 95
  | 7 => 97
  | 8 => 99
  | 9 => 101
  | 10 => 103
  | _ => 0
def xst : Nat → String := fun k => match k with
  | 0 => "strip"
  | 1 => "across"
  | 2 => "along"
  | 3 => "field"
  | 4 => "ring"
  | 5 => "tie"
  | 6 => "pull"
  | 7 => "pin"
  | 8 => "up"
  | 9 => "down"
  | 10 => "seed"
  | _ => ""
def xsl : List Nat := [5, 6, 5, 5, 4, 3, 4, 3, 2, 4, 4]
def xsb : List (List Int32) := [[115, 116, 114, 105, 112], [97, 99, 114, 111, 115, 115], [97, 108, 111, 110, 103], [102, 105, 101, 108, 100], [114, 105, 110, 103], [116, 105, 101], [112, 117, 108, 108], [112, 105, 110], [117, 112], [100, 111, 119, 110], [115, 101, 101, 100]]
abbrev xA (hb : Nat) : Nat → Prop := fun q => hb < q
/-- what lies below: the Strings, two statics of the JDK -/
def XV (E : XD) (hb : Nat) (U : State) : Prop := (∀ i, i < 11 → vk_R RX8 (xsi i) (xst i) (E.2.2.1 i) U) ∧ vk_S 11 xsl xsb E.2.2.1 E.2.2.2 (xA hb) U U.heap ∧ va_Z "java/lang/String" "COMPACT_STRINGS" "Z" (.int 1) (xA hb) U U.heap ∧ va_Zq "jdk/internal/util/Preconditions" "SIOOBE_FORMATTER" "Ljava/util/function/BiFunction;" (xA hb) U U.heap
theorem XV.warm {E : XD} {hb : Nat} {s U : State} (h : XV E hb s) (hW : s.WarmedH U.vm) (hq : ∀ q : Nat, q < s.heap.size → ¬ xA hb q → U.heap[q]? = s.heap[q]?) : XV E hb U :=
  ⟨fun i hi => vk_R.warm hW (h.1 i hi), (vk_S.moved hW.alike h.2.1).kept hq, (va_Z.moved hW.alike h.2.2.1).kept hq, (va_Zq.moved hW.alike h.2.2.2).kept hq⟩
theorem XV.same {E : XD} {hb : Nat} {s U : State} (h : XV E hb s) (hv : s.vm = U.vm) (hh : U.heap = s.heap) : XV E hb U := by
  have hA : s.vm.Alike U.vm := by rw [hv]; exact Vm.Alike.refl _
  refine ⟨fun i hi => vk_R.same hv.symm (h.1 i hi), ?_, ?_, ?_⟩
  · rw [hh]; exact vk_S.moved hA h.2.1
  · rw [hh]; exact va_Z.moved hA h.2.2.1
  · rw [hh]; exact va_Zq.moved hA h.2.2.2
def XK (E : XD) (hb : Nat) (U : State) : Prop := va_K E.1 xcl (xtys E) U ∧ (∀ w ∈ lw_nest, va_Nw w U) ∧ (va_AO RX6 U ∧ va_AO RX7 U) ∧ XV E hb U
theorem xnest_warm {s U : State} (h : ∀ w ∈ lw_nest, va_Nw w s) (hW : s.WarmedH U.vm) : ∀ w ∈ lw_nest, va_Nw w U := fun w hw => by
  have h1 := h w hw
  have h2 := (List.mem_filter.mp hw).2
  cases w <;> first | exact va_Nw.warmM hW h1 | exact va_Nw.warmF hW h1 | (simp [xisN] at h2)
theorem XK.warm {E : XD} {hb : Nat} {s U : State} (h : XK E hb s) (hW : s.WarmedH U.vm) (hq : ∀ q : Nat, q < s.heap.size → ¬ xA hb q → U.heap[q]? = s.heap[q]?) : XK E hb U :=
  ⟨va_K.moved hW.alike h.1, xnest_warm h.2.1 hW, ⟨h.2.2.1.1.moved hW.alike, h.2.2.1.2.moved hW.alike⟩, h.2.2.2.warm hW hq⟩
theorem XK.same {E : XD} {hb : Nat} {u U : State} (h : XK E hb u) (e : u.vm = U.vm) (hh : U.heap = u.heap) : XK E hb U := by
  have hA : u.vm.Alike U.vm := by rw [e]; exact Vm.Alike.refl _
  refine ⟨va_K.moved hA h.1, fun w hw => ?_, ⟨h.2.2.1.1.moved hA, h.2.2.1.2.moved hA⟩, h.2.2.2.same e hh⟩
  have h1 := h.2.1 w hw
  have h2 := (List.mem_filter.mp hw).2
  cases w <;> first | exact va_Nw.same rfl e h1 | (simp [xisN] at h2)
/-! the walk: G is all that stays while a method's body is walked -/
abbrev XG : Type := Program × Launch × Env × Room × State × MethodId × Array Value × List Frame × Method × Code × (State → Prop) × XD × Nat × Nat × Nat × Nat
abbrev gp (G : XG) : Program := G.1
abbrev gl (G : XG) : Launch := G.2.1
abbrev ge (G : XG) : Env := G.2.2.1
abbrev gR (G : XG) : Room := G.2.2.2.1
abbrev gs (G : XG) : State := G.2.2.2.2.1
abbrev gm (G : XG) : MethodId := G.2.2.2.2.2.1
abbrev ga (G : XG) : Array Value := G.2.2.2.2.2.2.1
abbrev gb (G : XG) : List Frame := G.2.2.2.2.2.2.2.1
abbrev gh (G : XG) : Method := G.2.2.2.2.2.2.2.2.1
abbrev gc (G : XG) : Code := G.2.2.2.2.2.2.2.2.2.1
abbrev gQ (G : XG) : State → Prop := G.2.2.2.2.2.2.2.2.2.2.1
abbrev gE (G : XG) : XD := G.2.2.2.2.2.2.2.2.2.2.2.1
abbrev gB (G : XG) : Nat := G.2.2.2.2.2.2.2.2.2.2.2.2.1
abbrev gL (G : XG) : Nat := G.2.2.2.2.2.2.2.2.2.2.2.2.2.1
abbrev gn (G : XG) : Nat := G.2.2.2.2.2.2.2.2.2.2.2.2.2.2.1
abbrev gz (G : XG) : Nat := G.2.2.2.2.2.2.2.2.2.2.2.2.2.2.2
abbrev gW (G : XG) (H : Heap) (locs : List Loc) (cells slots : Nat) (g : JFrame) : Prop := W (gp G) (gl G) (ge G) (gR G) (gs G) (gm G) (ga G) (gb G) (gh G) (gc G) H locs cells slots (gQ G) g
/-- the room: what is made since the method's start fits -/
def XLim (G : XG) (σ : XS) : Prop := (gn G ≤ xn σ ∧ gz G ≤ xz σ) ∧ xn σ ≤ gn G + (gR G).cells ∧ xz σ ≤ gz G + (gR G).slots
def XJ (G : XG) (σ : XS) (H : Heap) (locs : List Loc) : Prop := XP (gE G) (gB G) σ H ∧ va_S (xA (gB G)) (gs G).heap H locs ∧ XLim G σ
/-- the machine at pc with these locals, this stack and this heap comes to the end that is wanted -/
def WW (G : XG) (pc : Nat) (lv : List (Nat × Value)) (st : List Value) (σ : XS) : Prop := ∀ (H : Heap) (locs : List Loc) (ls : Array Slot), XJ G σ H locs → lv_has ls (gL G) lv → gW G H locs (xn σ - gn G) (xz σ - gz G) (F0 (gm G) pc ls st)
/-- what is known in a body: its code, its class's name, the words, the tables -/
def XC (G : XG) (cc : ByteArray) (own : String) (rt : Option FieldType) (nL fr lo : Nat) : Prop := (gL G = nL ∧ (gR G).frames = fr ∧ (gR G).locals = lo) ∧ (gp G).tables.exec = Jvm.exec ∧ (gc G).code = cc ∧ (gc G).maxLocals = gL G ∧ (gs G).vm.findClass own = some (gm G).cls ∧ (∀ w ∈ lw_good, w.before (ga G) (gs G) = true) ∧ XK (gE G) (gB G) (gs G) ∧ (gh G).sig.returnType = rt ∧ (gh G).locks = false
section XROWS
variable {G : XG} {cc : ByteArray} {own : String} {rt : Option FieldType} {nL fr lo pc : Nat} {lv : List (Nat × Value)} {st : List Value} {σ : XS}
theorem XC.hx (C : XC G cc own rt nL fr lo) : (gp G).tables.exec = Jvm.exec := C.2.1
theorem XC.hb (C : XC G cc own rt nL fr lo) : (gc G).code = cc := C.2.2.1
theorem XC.hml (C : XC G cc own rt nL fr lo) : (gc G).maxLocals = gL G := C.2.2.2.1
theorem XC.hown (C : XC G cc own rt nL fr lo) : (gs G).vm.findClass own = some (gm G).cls := C.2.2.2.2.1
theorem XC.hts (C : XC G cc own rt nL fr lo) : ∀ w ∈ lw_good, w.before (ga G) (gs G) = true := C.2.2.2.2.2.1
theorem XC.hK (C : XC G cc own rt nL fr lo) : XK (gE G) (gB G) (gs G) := C.2.2.2.2.2.2.1
theorem XC.hr (C : XC G cc own rt nL fr lo) : (gh G).sig.returnType = rt := C.2.2.2.2.2.2.2.1
theorem XC.hlk (C : XC G cc own rt nL fr lo) : (gh G).locks = false := C.2.2.2.2.2.2.2.2
theorem XC.hL (C : XC G cc own rt nL fr lo) : gL G = nL := C.1.1
theorem XC.hfr (C : XC G cc own rt nL fr lo) : (gR G).frames = fr := C.1.2.1
theorem XC.hlo (C : XC G cc own rt nL fr lo) : (gR G).locals = lo := C.1.2.2
/-- fewer locals -/
theorem ww_sub {lv' : List (Nat × Value)} (ks : List Nat) (hl : lv_pick lv ks = lv') (k : WW G pc lv' st σ) : WW G pc lv st σ := fun H locs ls hJ h => k H locs ls hJ (lv_sub h ks hl)
theorem ww_iconst (C : XC G cc own rt nL fr lo) {n : Int} {v : Int32} (hd : decode cc pc = .ok (.iconst n, 1)) (hv : Int32.ofInt n = v) (k : WW G (pc + 1) lv (.int v :: st) σ) : WW G pc lv st σ := fun H locs ls hJ h => lv_iconst C.hx C.hb hd hv (k H locs ls hJ h)
theorem ww_bipush (C : XC G cc own rt nL fr lo) {n : Int} {v : Int32} (hd : decode cc pc = .ok (.bipush n, 2)) (hv : (Int8.ofInt n).toInt32 = v) (k : WW G (pc + 2) lv (.int v :: st) σ) : WW G pc lv st σ := fun H locs ls hJ h => lv_bipush C.hx C.hb hd hv (k H locs ls hJ h)
theorem ww_sipush (C : XC G cc own rt nL fr lo) {n : Int} {v : Int32} (hd : decode cc pc = .ok (.sipush n, 3)) (hv : (Int16.ofInt n).toInt32 = v) (k : WW G (pc + 3) lv (.int v :: st) σ) : WW G pc lv st σ := fun H locs ls hJ h => lv_sipush C.hx C.hb hd hv (k H locs ls hJ h)
theorem ww_lconst (C : XC G cc own rt nL fr lo) {n : Fin 2} {v : Int64} (hd : decode cc pc = .ok (.lconst n, 1)) (hv : Int64.ofNat (n : Nat) = v) (k : WW G (pc + 1) lv (.long v :: st) σ) : WW G pc lv st σ := fun H locs ls hJ h => lv_lconst C.hx C.hb hd hv (k H locs ls hJ h)
theorem ww_iload_n (C : XC G cc own rt nL fr lo) {i : Fin 4} {n : Int32} (q : Nat) (hd : decode cc pc = .ok (.iload_n i, 1)) (hq : lv[q]? = some ((i : Nat), .int n)) (k : WW G (pc + 1) lv (.int n :: st) σ) : WW G pc lv st σ := fun H locs ls hJ h => lv_iload_n C.hx C.hb hd rfl (lv_at h q hq) (k H locs ls hJ h)
theorem ww_iload (C : XC G cc own rt nL fr lo) {i : Nat} {n : Int32} (q : Nat) (hd : decode cc pc = .ok (.iload i, 2)) (hq : lv[q]? = some (i, .int n)) (k : WW G (pc + 2) lv (.int n :: st) σ) : WW G pc lv st σ := fun H locs ls hJ h => lv_iload C.hx C.hb hd (lv_at h q hq) (k H locs ls hJ h)
theorem ww_lload_n (C : XC G cc own rt nL fr lo) {i : Fin 4} {n : Int64} (q : Nat) (hd : decode cc pc = .ok (.lload_n i, 1)) (hq : lv[q]? = some ((i : Nat), .long n)) (k : WW G (pc + 1) lv (.long n :: st) σ) : WW G pc lv st σ := fun H locs ls hJ h => lv_lload_n C.hx C.hb hd rfl (lv_at h q hq) (k H locs ls hJ h)
theorem ww_lload (C : XC G cc own rt nL fr lo) {i : Nat} {n : Int64} (q : Nat) (hd : decode cc pc = .ok (.lload i, 2)) (hq : lv[q]? = some (i, .long n)) (k : WW G (pc + 2) lv (.long n :: st) σ) : WW G pc lv st σ := fun H locs ls hJ h => lv_lload C.hx C.hb hd (lv_at h q hq) (k H locs ls hJ h)
theorem ww_aload_n (C : XC G cc own rt nL fr lo) {i : Fin 4} {r : Nat} (q : Nat) (hd : decode cc pc = .ok (.aload_n i, 1)) (hq : lv[q]? = some ((i : Nat), .ref r)) (k : WW G (pc + 1) lv (.ref r :: st) σ) : WW G pc lv st σ := fun H locs ls hJ h => lv_aload_n C.hx C.hb hd rfl (lv_at h q hq) (k H locs ls hJ h)
theorem ww_aload (C : XC G cc own rt nL fr lo) {i r : Nat} (q : Nat) (hd : decode cc pc = .ok (.aload i, 2)) (hq : lv[q]? = some (i, .ref r)) (k : WW G (pc + 2) lv (.ref r :: st) σ) : WW G pc lv st σ := fun H locs ls hJ h => lv_aload C.hx C.hb hd (lv_at h q hq) (k H locs ls hJ h)
theorem ww_aload_nN (C : XC G cc own rt nL fr lo) {i : Fin 4} (q : Nat) (hd : decode cc pc = .ok (.aload_n i, 1)) (hq : lv[q]? = some ((i : Nat), .null)) (k : WW G (pc + 1) lv (.null :: st) σ) : WW G pc lv st σ := fun H locs ls hJ h => lv_aload_nN C.hx C.hb hd rfl (lv_at h q hq) (k H locs ls hJ h)
theorem ww_aloadN (C : XC G cc own rt nL fr lo) {i : Nat} (q : Nat) (hd : decode cc pc = .ok (.aload i, 2)) (hq : lv[q]? = some (i, .null)) (k : WW G (pc + 2) lv (.null :: st) σ) : WW G pc lv st σ := fun H locs ls hJ h => lv_aloadN C.hx C.hb hd (lv_at h q hq) (k H locs ls hJ h)
theorem ww_istore_n (C : XC G cc own rt nL fr lo) {i : Fin 4} {n : Int32} {lv' : List (Nat × Value)} (hd : decode cc pc = .ok (.istore_n i, 1)) (hn : (i : Nat) < nL) (hl : ((i : Nat), Value.int n) :: lv.filter (fun q => !(q.1 == (i : Nat)) && !(q.1 + 1 == (i : Nat) && q.2.category == 2)) = lv') (k : WW G (pc + 1) lv' st σ) : WW G pc lv (.int n :: st) σ := fun H locs ls hJ h => lv_istore_n C.hx C.hb hd rfl h (by rw [C.hL]; exact hn) hl (fun ls' h' => k H locs ls' hJ h')
theorem ww_istore (C : XC G cc own rt nL fr lo) {i : Nat} {n : Int32} {lv' : List (Nat × Value)} (hd : decode cc pc = .ok (.istore i, 2)) (hn : i < nL) (hl : (i, Value.int n) :: lv.filter (fun q => !(q.1 == i) && !(q.1 + 1 == i && q.2.category == 2)) = lv') (k : WW G (pc + 2) lv' st σ) : WW G pc lv (.int n :: st) σ := fun H locs ls hJ h => lv_istore C.hx C.hb hd h (by rw [C.hL]; exact hn) hl (fun ls' h' => k H locs ls' hJ h')
theorem ww_lstore_n (C : XC G cc own rt nL fr lo) {i : Fin 4} {n : Int64} {lv' : List (Nat × Value)} (hd : decode cc pc = .ok (.lstore_n i, 1)) (hn : (i : Nat) + 1 < nL) (hl : ((i : Nat), Value.long n) :: lv.filter (fun q => !(q.1 == (i : Nat)) && (!(q.1 == (i : Nat) + 1) && !(q.1 + 1 == (i : Nat) && q.2.category == 2))) = lv') (k : WW G (pc + 1) lv' st σ) : WW G pc lv (.long n :: st) σ := fun H locs ls hJ h => lv_lstore_n C.hx C.hb hd rfl h (by rw [C.hL]; exact hn) hl (fun ls' h' => k H locs ls' hJ h')
theorem ww_lstore (C : XC G cc own rt nL fr lo) {i : Nat} {n : Int64} {lv' : List (Nat × Value)} (hd : decode cc pc = .ok (.lstore i, 2)) (hn : i + 1 < nL) (hl : (i, Value.long n) :: lv.filter (fun q => !(q.1 == i) && (!(q.1 == i + 1) && !(q.1 + 1 == i && q.2.category == 2))) = lv') (k : WW G (pc + 2) lv' st σ) : WW G pc lv (.long n :: st) σ := fun H locs ls hJ h => lv_lstore C.hx C.hb hd h (by rw [C.hL]; exact hn) hl (fun ls' h' => k H locs ls' hJ h')
theorem ww_astore_n (C : XC G cc own rt nL fr lo) {i : Fin 4} {r : Nat} {lv' : List (Nat × Value)} (hd : decode cc pc = .ok (.astore_n i, 1)) (hn : (i : Nat) < nL) (hl : ((i : Nat), Value.ref r) :: lv.filter (fun q => !(q.1 == (i : Nat)) && !(q.1 + 1 == (i : Nat) && q.2.category == 2)) = lv') (k : WW G (pc + 1) lv' st σ) : WW G pc lv (Value.ref r :: st) σ := fun H locs ls hJ h => lv_astore_n C.hx C.hb hd rfl h (by rw [C.hL]; exact hn) hl (fun ls' h' => k H locs ls' hJ h')
theorem ww_astore (C : XC G cc own rt nL fr lo) {i : Nat} {r : Nat} {lv' : List (Nat × Value)} (hd : decode cc pc = .ok (.astore i, 2)) (hn : i < nL) (hl : (i, Value.ref r) :: lv.filter (fun q => !(q.1 == i) && !(q.1 + 1 == i && q.2.category == 2)) = lv') (k : WW G (pc + 2) lv' st σ) : WW G pc lv (Value.ref r :: st) σ := fun H locs ls hJ h => lv_astore C.hx C.hb hd h (by rw [C.hL]; exact hn) hl (fun ls' h' => k H locs ls' hJ h')
theorem ww_astore_nN (C : XC G cc own rt nL fr lo) {i : Fin 4} {lv' : List (Nat × Value)} (hd : decode cc pc = .ok (.astore_n i, 1)) (hn : (i : Nat) < nL) (hl : ((i : Nat), Value.null) :: lv.filter (fun q => !(q.1 == (i : Nat)) && !(q.1 + 1 == (i : Nat) && q.2.category == 2)) = lv') (k : WW G (pc + 1) lv' st σ) : WW G pc lv (Value.null :: st) σ := fun H locs ls hJ h => lv_astore_nN C.hx C.hb hd rfl h (by rw [C.hL]; exact hn) hl (fun ls' h' => k H locs ls' hJ h')
theorem ww_astoreN (C : XC G cc own rt nL fr lo) {i : Nat} {lv' : List (Nat × Value)} (hd : decode cc pc = .ok (.astore i, 2)) (hn : i < nL) (hl : (i, Value.null) :: lv.filter (fun q => !(q.1 == i) && !(q.1 + 1 == i && q.2.category == 2)) = lv') (k : WW G (pc + 2) lv' st σ) : WW G pc lv (Value.null :: st) σ := fun H locs ls hJ h => lv_astoreN C.hx C.hb hd h (by rw [C.hL]; exact hn) hl (fun ls' h' => k H locs ls' hJ h')
theorem ww_iinc (C : XC G cc own rt nL fr lo) {i : Nat} {n : Int} {a v : Int32} {lv' : List (Nat × Value)} (q : Nat) (hd : decode cc pc = .ok (.iinc i n, 3)) (hq : lv[q]? = some (i, .int a)) (hv : a + Int32.ofInt n = v) (hn : i < nL) (hl : (i, Value.int v) :: lv.filter (fun q => !(q.1 == i) && !(q.1 + 1 == i && q.2.category == 2)) = lv') (k : WW G (pc + 3) lv' st σ) : WW G pc lv st σ := fun H locs ls hJ h => lv_iinc (k := q) C.hx C.hb hd h hq hv (by rw [C.hL]; exact hn) hl (fun ls' h' => k H locs ls' hJ h')
theorem ww_goto (C : XC G cc own rt nL fr lo) {off : Int} {tgt : Nat} (hd : decode cc pc = .ok (.goto off, 3)) (ht : (pc : Int) + off = (tgt : Int)) (k : WW G tgt lv st σ) : WW G pc lv st σ := fun H locs ls hJ h => lv_goto C.hx C.hb hd ht (k H locs ls hJ h)
theorem ww_iadd (C : XC G cc own rt nL fr lo) {x y : Int32} (hd : decode cc pc = .ok (.iadd, 1))  (k : WW G (pc + 1) lv (.int (x + y) :: st) σ) : WW G pc lv (.int y :: .int x :: st) σ := fun H locs ls hJ h => lv_iadd C.hx C.hb hd (k H locs ls hJ h)
theorem ww_isub (C : XC G cc own rt nL fr lo) {x y : Int32} (hd : decode cc pc = .ok (.isub, 1))  (k : WW G (pc + 1) lv (.int (x - y) :: st) σ) : WW G pc lv (.int y :: .int x :: st) σ := fun H locs ls hJ h => lv_isub C.hx C.hb hd (k H locs ls hJ h)
theorem ww_imul (C : XC G cc own rt nL fr lo) {x y : Int32} (hd : decode cc pc = .ok (.imul, 1))  (k : WW G (pc + 1) lv (.int (x * y) :: st) σ) : WW G pc lv (.int y :: .int x :: st) σ := fun H locs ls hJ h => lv_imul C.hx C.hb hd (k H locs ls hJ h)
theorem ww_ineg (C : XC G cc own rt nL fr lo) {x : Int32} (hd : decode cc pc = .ok (.ineg, 1))  (k : WW G (pc + 1) lv (.int (-x) :: st) σ) : WW G pc lv (.int x :: st) σ := fun H locs ls hJ h => lv_ineg C.hx C.hb hd (k H locs ls hJ h)
theorem ww_iand (C : XC G cc own rt nL fr lo) {x y : Int32} (hd : decode cc pc = .ok (.iand, 1))  (k : WW G (pc + 1) lv (.int (x &&& y) :: st) σ) : WW G pc lv (.int y :: .int x :: st) σ := fun H locs ls hJ h => lv_iand C.hx C.hb hd (k H locs ls hJ h)
theorem ww_ior (C : XC G cc own rt nL fr lo) {x y : Int32} (hd : decode cc pc = .ok (.ior, 1))  (k : WW G (pc + 1) lv (.int (x ||| y) :: st) σ) : WW G pc lv (.int y :: .int x :: st) σ := fun H locs ls hJ h => lv_ior C.hx C.hb hd (k H locs ls hJ h)
theorem ww_ixor (C : XC G cc own rt nL fr lo) {x y : Int32} (hd : decode cc pc = .ok (.ixor, 1))  (k : WW G (pc + 1) lv (.int (x ^^^ y) :: st) σ) : WW G pc lv (.int y :: .int x :: st) σ := fun H locs ls hJ h => lv_ixor C.hx C.hb hd (k H locs ls hJ h)
theorem ww_ishl (C : XC G cc own rt nL fr lo) {x y : Int32} (hd : decode cc pc = .ok (.ishl, 1))  (k : WW G (pc + 1) lv (.int (x <<< (y &&& 31)) :: st) σ) : WW G pc lv (.int y :: .int x :: st) σ := fun H locs ls hJ h => lv_ishl C.hx C.hb hd (k H locs ls hJ h)
theorem ww_ishr (C : XC G cc own rt nL fr lo) {x y : Int32} (hd : decode cc pc = .ok (.ishr, 1))  (k : WW G (pc + 1) lv (.int (x >>> (y &&& 31)) :: st) σ) : WW G pc lv (.int y :: .int x :: st) σ := fun H locs ls hJ h => lv_ishr C.hx C.hb hd (k H locs ls hJ h)
theorem ww_ladd (C : XC G cc own rt nL fr lo) {x y : Int64} (hd : decode cc pc = .ok (.ladd, 1))  (k : WW G (pc + 1) lv (.long (x + y) :: st) σ) : WW G pc lv (.long y :: .long x :: st) σ := fun H locs ls hJ h => lv_ladd C.hx C.hb hd (k H locs ls hJ h)
theorem ww_lmul (C : XC G cc own rt nL fr lo) {x y : Int64} (hd : decode cc pc = .ok (.lmul, 1))  (k : WW G (pc + 1) lv (.long (x * y) :: st) σ) : WW G pc lv (.long y :: .long x :: st) σ := fun H locs ls hJ h => lv_lmul C.hx C.hb hd (k H locs ls hJ h)
theorem ww_idiv (C : XC G cc own rt nL fr lo) {x y : Int32} (hd : decode cc pc = .ok (.idiv, 1)) (hne : ¬ y = 0) (k : WW G (pc + 1) lv (.int (x / y) :: st) σ) : WW G pc lv (.int y :: .int x :: st) σ := fun H locs ls hJ h => lv_idiv C.hx C.hb hd hne (k H locs ls hJ h)
theorem ww_irem (C : XC G cc own rt nL fr lo) {x y : Int32} (hd : decode cc pc = .ok (.irem, 1)) (hne : ¬ y = 0) (k : WW G (pc + 1) lv (.int (x - x / y * y) :: st) σ) : WW G pc lv (.int y :: .int x :: st) σ := fun H locs ls hJ h => lv_irem C.hx C.hb hd hne (k H locs ls hJ h)
theorem ww_ldiv (C : XC G cc own rt nL fr lo) {x y : Int64} (hd : decode cc pc = .ok (.ldiv, 1)) (hne : ¬ y = 0) (k : WW G (pc + 1) lv (.long (x / y) :: st) σ) : WW G pc lv (.long y :: .long x :: st) σ := fun H locs ls hJ h => lv_ldiv C.hx C.hb hd hne (k H locs ls hJ h)
theorem ww_lrem (C : XC G cc own rt nL fr lo) {x y : Int64} (hd : decode cc pc = .ok (.lrem, 1)) (hne : ¬ y = 0) (k : WW G (pc + 1) lv (.long (x - x / y * y) :: st) σ) : WW G pc lv (.long y :: .long x :: st) σ := fun H locs ls hJ h => lv_lrem C.hx C.hb hd hne (k H locs ls hJ h)
theorem ww_i2b (C : XC G cc own rt nL fr lo) {x : Int32} {v : Int32} (hd : decode cc pc = .ok (.i2b, 1)) (hv : x.toInt8.toInt32 = v) (k : WW G (pc + 1) lv (.int v :: st) σ) : WW G pc lv (.int x :: st) σ := fun H locs ls hJ h => lv_i2b C.hx C.hb hd hv (k H locs ls hJ h)
theorem ww_l2i (C : XC G cc own rt nL fr lo) {x : Int64} {v : Int32} (hd : decode cc pc = .ok (.l2i, 1)) (hv : x.toInt32 = v) (k : WW G (pc + 1) lv (.int v :: st) σ) : WW G pc lv (.long x :: st) σ := fun H locs ls hJ h => lv_l2i C.hx C.hb hd hv (k H locs ls hJ h)
theorem ww_i2l (C : XC G cc own rt nL fr lo) {x : Int32} {v : Int64} (hd : decode cc pc = .ok (.i2l, 1)) (hv : x.toInt64 = v) (k : WW G (pc + 1) lv (.long v :: st) σ) : WW G pc lv (.int x :: st) σ := fun H locs ls hJ h => lv_i2l C.hx C.hb hd hv (k H locs ls hJ h)
theorem ww_iushr (C : XC G cc own rt nL fr lo) {x y v : Int32} (hd : decode cc pc = .ok (.iushr, 1)) (hv : (x.toUInt32 >>> (y.toUInt32 &&& Int32.toUInt32 31)).toInt32 = v) (k : WW G (pc + 1) lv (.int v :: st) σ) : WW G pc lv (.int y :: .int x :: st) σ := fun H locs ls hJ h => lv_iushr C.hx C.hb hd hv (k H locs ls hJ h)
theorem ww_i2c (C : XC G cc own rt nL fr lo) {x : Int32} {v : Int32} (hd : decode cc pc = .ok (.i2c, 1)) (hv : (x.toUInt32 % 65536).toInt32 = v) (k : WW G (pc + 1) lv (.int v :: st) σ) : WW G pc lv (.int x :: st) σ := fun H locs ls hJ h => lv_i2c C.hx C.hb hd hv (k H locs ls hJ h)
theorem ww_icmp_eq (C : XC G cc own rt nL fr lo) {x y : Int32} {off : Int} {tgt : Nat} (hd : decode cc pc = .ok (.if_icmp .eq off, 3)) (ht : (pc : Int) + off = (tgt : Int)) (kt : x = y → WW G tgt lv st σ) (kf : ¬ x = y → WW G (pc + 3) lv st σ) : WW G pc lv (.int y :: .int x :: st) σ := fun H locs ls hJ h => lv_icmp_eq C.hx C.hb hd ht (fun q => kt q H locs ls hJ h) (fun q => kf q H locs ls hJ h)
theorem ww_icmp_ne (C : XC G cc own rt nL fr lo) {x y : Int32} {off : Int} {tgt : Nat} (hd : decode cc pc = .ok (.if_icmp .ne off, 3)) (ht : (pc : Int) + off = (tgt : Int)) (kt : ¬ x = y → WW G tgt lv st σ) (kf : x = y → WW G (pc + 3) lv st σ) : WW G pc lv (.int y :: .int x :: st) σ := fun H locs ls hJ h => lv_icmp_ne C.hx C.hb hd ht (fun q => kt q H locs ls hJ h) (fun q => kf q H locs ls hJ h)
theorem ww_icmp_lt (C : XC G cc own rt nL fr lo) {x y : Int32} {off : Int} {tgt : Nat} (hd : decode cc pc = .ok (.if_icmp .lt off, 3)) (ht : (pc : Int) + off = (tgt : Int)) (kt : x < y → WW G tgt lv st σ) (kf : ¬ x < y → WW G (pc + 3) lv st σ) : WW G pc lv (.int y :: .int x :: st) σ := fun H locs ls hJ h => lv_icmp_lt C.hx C.hb hd ht (fun q => kt q H locs ls hJ h) (fun q => kf q H locs ls hJ h)
theorem ww_icmp_ge (C : XC G cc own rt nL fr lo) {x y : Int32} {off : Int} {tgt : Nat} (hd : decode cc pc = .ok (.if_icmp .ge off, 3)) (ht : (pc : Int) + off = (tgt : Int)) (kt : y ≤ x → WW G tgt lv st σ) (kf : ¬ y ≤ x → WW G (pc + 3) lv st σ) : WW G pc lv (.int y :: .int x :: st) σ := fun H locs ls hJ h => lv_icmp_ge C.hx C.hb hd ht (fun q => kt q H locs ls hJ h) (fun q => kf q H locs ls hJ h)
theorem ww_icmp_gt (C : XC G cc own rt nL fr lo) {x y : Int32} {off : Int} {tgt : Nat} (hd : decode cc pc = .ok (.if_icmp .gt off, 3)) (ht : (pc : Int) + off = (tgt : Int)) (kt : y < x → WW G tgt lv st σ) (kf : ¬ y < x → WW G (pc + 3) lv st σ) : WW G pc lv (.int y :: .int x :: st) σ := fun H locs ls hJ h => lv_icmp_gt C.hx C.hb hd ht (fun q => kt q H locs ls hJ h) (fun q => kf q H locs ls hJ h)
theorem ww_icmp_le (C : XC G cc own rt nL fr lo) {x y : Int32} {off : Int} {tgt : Nat} (hd : decode cc pc = .ok (.if_icmp .le off, 3)) (ht : (pc : Int) + off = (tgt : Int)) (kt : x ≤ y → WW G tgt lv st σ) (kf : ¬ x ≤ y → WW G (pc + 3) lv st σ) : WW G pc lv (.int y :: .int x :: st) σ := fun H locs ls hJ h => lv_icmp_le C.hx C.hb hd ht (fun q => kt q H locs ls hJ h) (fun q => kf q H locs ls hJ h)
theorem ww_if_eq (C : XC G cc own rt nL fr lo) {x : Int32} {off : Int} {tgt : Nat} (hd : decode cc pc = .ok (.ifCond .eq off, 3)) (ht : (pc : Int) + off = (tgt : Int)) (kt : x = 0 → WW G tgt lv st σ) (kf : ¬ x = 0 → WW G (pc + 3) lv st σ) : WW G pc lv (.int x :: st) σ := fun H locs ls hJ h => lv_if_eq C.hx C.hb hd ht (fun q => kt q H locs ls hJ h) (fun q => kf q H locs ls hJ h)
theorem ww_if_ne (C : XC G cc own rt nL fr lo) {x : Int32} {off : Int} {tgt : Nat} (hd : decode cc pc = .ok (.ifCond .ne off, 3)) (ht : (pc : Int) + off = (tgt : Int)) (kt : ¬ x = 0 → WW G tgt lv st σ) (kf : x = 0 → WW G (pc + 3) lv st σ) : WW G pc lv (.int x :: st) σ := fun H locs ls hJ h => lv_if_ne C.hx C.hb hd ht (fun q => kt q H locs ls hJ h) (fun q => kf q H locs ls hJ h)
theorem ww_if_lt (C : XC G cc own rt nL fr lo) {x : Int32} {off : Int} {tgt : Nat} (hd : decode cc pc = .ok (.ifCond .lt off, 3)) (ht : (pc : Int) + off = (tgt : Int)) (kt : x < 0 → WW G tgt lv st σ) (kf : ¬ x < 0 → WW G (pc + 3) lv st σ) : WW G pc lv (.int x :: st) σ := fun H locs ls hJ h => lv_if_lt C.hx C.hb hd ht (fun q => kt q H locs ls hJ h) (fun q => kf q H locs ls hJ h)
theorem ww_if_ge (C : XC G cc own rt nL fr lo) {x : Int32} {off : Int} {tgt : Nat} (hd : decode cc pc = .ok (.ifCond .ge off, 3)) (ht : (pc : Int) + off = (tgt : Int)) (kt : 0 ≤ x → WW G tgt lv st σ) (kf : ¬ 0 ≤ x → WW G (pc + 3) lv st σ) : WW G pc lv (.int x :: st) σ := fun H locs ls hJ h => lv_if_ge C.hx C.hb hd ht (fun q => kt q H locs ls hJ h) (fun q => kf q H locs ls hJ h)
theorem ww_if_gt (C : XC G cc own rt nL fr lo) {x : Int32} {off : Int} {tgt : Nat} (hd : decode cc pc = .ok (.ifCond .gt off, 3)) (ht : (pc : Int) + off = (tgt : Int)) (kt : 0 < x → WW G tgt lv st σ) (kf : ¬ 0 < x → WW G (pc + 3) lv st σ) : WW G pc lv (.int x :: st) σ := fun H locs ls hJ h => lv_if_gt C.hx C.hb hd ht (fun q => kt q H locs ls hJ h) (fun q => kf q H locs ls hJ h)
theorem ww_if_le (C : XC G cc own rt nL fr lo) {x : Int32} {off : Int} {tgt : Nat} (hd : decode cc pc = .ok (.ifCond .le off, 3)) (ht : (pc : Int) + off = (tgt : Int)) (kt : x ≤ 0 → WW G tgt lv st σ) (kf : ¬ x ≤ 0 → WW G (pc + 3) lv st σ) : WW G pc lv (.int x :: st) σ := fun H locs ls hJ h => lv_if_le C.hx C.hb hd ht (fun q => kt q H locs ls hJ h) (fun q => kf q H locs ls hJ h)
theorem ww_dup (C : XC G cc own rt nL fr lo) {v : Value} (hd : decode cc pc = .ok (.dup, 1)) (hv : v.category = 1) (k : WW G (pc + 1) lv (v :: v :: st) σ) : WW G pc lv (v :: st) σ := fun H locs ls hJ h => lv_dup C.hx C.hb hd hv (k H locs ls hJ h)
theorem ww_dup2 (C : XC G cc own rt nL fr lo) {v w : Value} (hd : decode cc pc = .ok (.dup2, 1)) (hv : v.category = 1) (hw : w.category = 1) (k : WW G (pc + 1) lv (v :: w :: v :: w :: st) σ) : WW G pc lv (v :: w :: st) σ := fun H locs ls hJ h => lv_dup2_11 C.hx C.hb hd hv hw (k H locs ls hJ h)
theorem ww_pop (C : XC G cc own rt nL fr lo) {v : Value} (hd : decode cc pc = .ok (.pop, 1)) (hv : v.category = 1) (k : WW G (pc + 1) lv st σ) : WW G pc lv (v :: st) σ := fun H locs ls hJ h => lv_pop C.hx C.hb hd hv (k H locs ls hJ h)
theorem ww_pop2 (C : XC G cc own rt nL fr lo) {v : Value} (hd : decode cc pc = .ok (.pop2, 1)) (hv : v.category = 2) (k : WW G (pc + 1) lv st σ) : WW G pc lv (v :: st) σ := fun H locs ls hJ h => lv_pop2_2 C.hx C.hb hd hv (k H locs ls hJ h)
theorem ww_lcmp (C : XC G cc own rt nL fr lo) {x y : Int64} (hd : decode cc pc = .ok (.lcmp, 1)) (k : WW G (pc + 1) lv (.int (lg_cmp x y) :: st) σ) : WW G pc lv (.long y :: .long x :: st) σ := fun H locs ls hJ h => W.lcmp C.hx C.hb hd (k H locs ls hJ h)
theorem xrv_cat (hb r : Nat) : (xrv hb r).category = 1 := by
  by_cases h : r = 0
  · subst h; rfl
  · rw [xrv_pos h]; rfl
theorem ww_ifnull (C : XC G cc own rt nL fr lo) {r : Nat} {off : Int} (hd : decode cc pc = .ok (.ifnull off, 3)) (k : WW G (pc + 3) lv st σ) : WW G pc lv (.ref r :: st) σ := fun H locs ls hJ h => lv_ifnull C.hx C.hb hd (k H locs ls hJ h)
theorem ww_ifnullN (C : XC G cc own rt nL fr lo) {off : Int} {tgt : Nat} (hd : decode cc pc = .ok (.ifnull off, 3)) (ht : (pc : Int) + off = (tgt : Int)) (k : WW G tgt lv st σ) : WW G pc lv (.null :: st) σ := fun H locs ls hJ h => lv_ifnullN C.hx C.hb hd ht (k H locs ls hJ h)
theorem ww_ifnonnull (C : XC G cc own rt nL fr lo) {r : Nat} {off : Int} {tgt : Nat} (hd : decode cc pc = .ok (.ifnonnull off, 3)) (ht : (pc : Int) + off = (tgt : Int)) (k : WW G tgt lv st σ) : WW G pc lv (.ref r :: st) σ := fun H locs ls hJ h => lv_ifnonnull C.hx C.hb hd ht (k H locs ls hJ h)
theorem ww_ifnonnullN (C : XC G cc own rt nL fr lo) {off : Int} (hd : decode cc pc = .ok (.ifnonnull off, 3)) (k : WW G (pc + 3) lv st σ) : WW G pc lv (.null :: st) σ := fun H locs ls hJ h => lv_ifnonnullN C.hx C.hb hd (k H locs ls hJ h)
theorem ww_null (C : XC G cc own rt nL fr lo) (hd : decode cc pc = .ok (.aconst_null, 1)) (k : WW G (pc + 1) lv (.null :: st) σ) : WW G pc lv st σ := fun H locs ls hJ h => lv_null C.hx C.hb hd (k H locs ls hJ h)
/-- a reference that may be null: two ways on -/
theorem ww_nul {r : Nat} (k0 : r = 0 → WW G pc lv (.null :: st) σ) (k1 : ¬ r = 0 → WW G pc lv (.ref (gB G + r) :: st) σ) : WW G pc lv (xrv (gB G) r :: st) σ := by
  by_cases h : r = 0
  · subst h; exact k0 rfl
  · rw [xrv_pos h]; exact k1 h
theorem ww_ldc (C : XC G cc own rt nL fr lo) {ix : Nat} {v : Int32} (hw : Cond.constant own ix v ∈ lw_good) (hd : decode cc pc = .ok (.ldc ix, 2)) (k : WW G (pc + 2) lv (.int v :: st) σ) : WW G pc lv st σ := fun H locs ls hJ h => lv_ldc C.hx C.hb C.hown (C.hts _ hw) hd (k H locs ls hJ h)
theorem ww_ldcw (C : XC G cc own rt nL fr lo) {ix : Nat} {v : Int32} (hw : Cond.constant own ix v ∈ lw_good) (hd : decode cc pc = .ok (.ldc_w ix, 3)) (k : WW G (pc + 3) lv (.int v :: st) σ) : WW G pc lv st σ := fun H locs ls hJ h => lv_ldcw C.hx C.hb C.hown (C.hts _ hw) hd (k H locs ls hJ h)
theorem ww_ldc2 (C : XC G cc own rt nL fr lo) {ix : Nat} {v : Int64} (hw : Cond.constantLong own ix v ∈ lw_good) (hd : decode cc pc = .ok (.ldc2_w ix, 3)) (k : WW G (pc + 3) lv (.long v :: st) σ) : WW G pc lv st σ := fun H locs ls hJ h => lv_ldc2 C.hx C.hb C.hown (C.hts _ hw) hd (k H locs ls hJ h)
/-! fields read -/
theorem xe_obj {E : XD} {hb : Nat} {σ : XS} {a c : Nat} (hT : xT σ a = c) (hc : c < 20) : xe E hb σ a = .inr (c, xvals hb σ a 0 (xbk c)) := by
  unfold xe
  rw [hT, if_pos hc]
theorem XJ.obj {a c : Nat} {H : Heap} {locs : List Loc} (hJ : XJ G σ H locs) (hT : xT σ a = c) (hc : c < 20) : va_at (gE G).1 xcl (gB G + a, .inr (c, xvals (gB G) σ a 0 (xbk c))) H ∧ a ≠ 0 := by
  have h1 : xT σ a ≠ 99 := by omega
  have h2 := hJ.1.at h1
  rw [xe_obj hT hc] at h2
  have := hJ.1.live h1
  exact ⟨h2, by omega⟩
theorem xgI_spec {a c j : Nat} {v : Int32} (e : xgI σ a c j = some v) : xT σ a = c ∧ xI σ a j = v := by
  unfold xgI at e
  by_cases h : xT σ a = c
  · rw [if_pos h] at e; exact ⟨h, Option.some.inj e⟩
  · rw [if_neg h] at e; cases e
theorem xgR_spec {a c j v : Nat} (e : xgR σ a c j = some v) : xT σ a = c ∧ xR σ a j = v ∧ v ≠ 0 := by
  unfold xgR at e
  by_cases h : xT σ a = c ∧ xR σ a j ≠ 0
  · rw [if_pos h] at e
    have e := Option.some.inj e
    exact ⟨h.1, e, by rw [← e]; exact h.2⟩
  · rw [if_neg h] at e; cases e
theorem xgN_spec {a c j v : Nat} (e : xgN σ a c j = some v) : xT σ a = c ∧ xR σ a j = v := by
  unfold xgN at e
  by_cases h : xT σ a = c
  · rw [if_pos h] at e; exact ⟨h, Option.some.inj e⟩
  · rw [if_neg h] at e; cases e
theorem ww_getI (C : XC G cc own rt nL fr lo) {a c j ix N : Nat} {v : Int32} {Cn : String} {T : u_T} (hc : xcl[c]? = some (Cn, T, N)) (hj : j < N) (hc9 : c < 20) (hbk : (xbk c)[j]? = some false) (hin : ∀ w ∈ u_ws Cn T N, w ∈ lw_good) (hlink : Cond.fieldLink own ix (T j).1 (T j).2.1 (T j).2.2.1 ∈ lw_good) (e : xgI σ a c j = some v) (hd : decode cc pc = .ok (.getfield ix, 3)) (k : WW G (pc + 3) lv (.int v :: st) σ) : WW G pc lv (.ref (gB G + a) :: st) σ := fun H locs ls hJ h => by
  obtain ⟨hT, rfl⟩ := xgI_spec e
  obtain ⟨hat, h0⟩ := hJ.obj hT hc9
  exact va_get (ws := [(gB G + a, .inr (c, xvals (gB G) σ a 0 (xbk c)))]) C.hx C.hb C.hts hin C.hown C.hK.1 (va_P.one hat) 0 rfl hc j hj (C.hts _ hlink) (fun _ h9 => h9) (by rw [xvals_get _ 0 j false hbk]; simp [xval]) hd (k H locs ls hJ h)
theorem ww_getR (C : XC G cc own rt nL fr lo) {a c j ix N v : Nat} {Cn : String} {T : u_T} (hc : xcl[c]? = some (Cn, T, N)) (hj : j < N) (hc9 : c < 20) (hbk : (xbk c)[j]? = some true) (hin : ∀ w ∈ u_ws Cn T N, w ∈ lw_good) (hlink : Cond.fieldLink own ix (T j).1 (T j).2.1 (T j).2.2.1 ∈ lw_good) (e : xgR σ a c j = some v) (hd : decode cc pc = .ok (.getfield ix, 3)) (k : WW G (pc + 3) lv (.ref (gB G + v) :: st) σ) : WW G pc lv (.ref (gB G + a) :: st) σ := fun H locs ls hJ h => by
  obtain ⟨hT, rfl, hv0⟩ := xgR_spec e
  obtain ⟨hat, h0⟩ := hJ.obj hT hc9
  exact va_get (ws := [(gB G + a, .inr (c, xvals (gB G) σ a 0 (xbk c)))]) C.hx C.hb C.hts hin C.hown C.hK.1 (va_P.one hat) 0 rfl hc j hj (C.hts _ hlink) (fun _ h9 => h9) (by rw [xvals_get _ 0 j true hbk]; simp [xval]; exact xrv_pos hv0) hd (k H locs ls hJ h)
theorem ww_getQ (C : XC G cc own rt nL fr lo) {a c j ix N v : Nat} {Cn : String} {T : u_T} (hc : xcl[c]? = some (Cn, T, N)) (hj : j < N) (hc9 : c < 20) (hbk : (xbk c)[j]? = some true) (hin : ∀ w ∈ u_ws Cn T N, w ∈ lw_good) (hlink : Cond.fieldLink own ix (T j).1 (T j).2.1 (T j).2.2.1 ∈ lw_good) (e : xgN σ a c j = some v) (hd : decode cc pc = .ok (.getfield ix, 3)) (k : WW G (pc + 3) lv (xrv (gB G) v :: st) σ) : WW G pc lv (.ref (gB G + a) :: st) σ := fun H locs ls hJ h => by
  obtain ⟨hT, rfl⟩ := xgN_spec e
  obtain ⟨hat, h0⟩ := hJ.obj hT hc9
  exact va_get (ws := [(gB G + a, .inr (c, xvals (gB G) σ a 0 (xbk c)))]) C.hx C.hb C.hts hin C.hown C.hK.1 (va_P.one hat) 0 rfl hc j hj (C.hts _ hlink) (fun _ h9 => h9) (by rw [xvals_get _ 0 j true hbk]; simp [xval]) hd (k H locs ls hJ h)
theorem ww_getIN (C : XC G cc own rt nL fr lo) {a c j ix N : Nat} {v : Int32} {Cn host : String} {T : u_T} (hc : xcl[c]? = some (Cn, T, N)) (hj : j < N) (hc9 : c < 20) (hbk : (xbk c)[j]? = some false) (hin : ∀ w ∈ u_ws Cn T N, w ∈ lw_good) (hlink : Cond.fieldLinkNest own ix (T j).1 (T j).2.1 (T j).2.2.1 host ∈ lw_nest) (e : xgI σ a c j = some v) (hd : decode cc pc = .ok (.getfield ix, 3)) (k : WW G (pc + 3) lv (.int v :: st) σ) : WW G pc lv (.ref (gB G + a) :: st) σ := fun H locs ls hJ h => by
  obtain ⟨hT, rfl⟩ := xgI_spec e
  obtain ⟨hat, h0⟩ := hJ.obj hT hc9
  exact va_getN (ws := [(gB G + a, .inr (c, xvals (gB G) σ a 0 (xbk c)))]) C.hx C.hb C.hts hin C.hown C.hK.1 (va_P.one hat) 0 rfl hc j hj (va_Nw.use rfl (C.hK.2.1 _ hlink)) (fun _ h9 => h9) (by rw [xvals_get _ 0 j false hbk]; simp [xval]) hd (k H locs ls hJ h)
theorem ww_getRN (C : XC G cc own rt nL fr lo) {a c j ix N v : Nat} {Cn host : String} {T : u_T} (hc : xcl[c]? = some (Cn, T, N)) (hj : j < N) (hc9 : c < 20) (hbk : (xbk c)[j]? = some true) (hin : ∀ w ∈ u_ws Cn T N, w ∈ lw_good) (hlink : Cond.fieldLinkNest own ix (T j).1 (T j).2.1 (T j).2.2.1 host ∈ lw_nest) (e : xgR σ a c j = some v) (hd : decode cc pc = .ok (.getfield ix, 3)) (k : WW G (pc + 3) lv (.ref (gB G + v) :: st) σ) : WW G pc lv (.ref (gB G + a) :: st) σ := fun H locs ls hJ h => by
  obtain ⟨hT, rfl, hv0⟩ := xgR_spec e
  obtain ⟨hat, h0⟩ := hJ.obj hT hc9
  exact va_getN (ws := [(gB G + a, .inr (c, xvals (gB G) σ a 0 (xbk c)))]) C.hx C.hb C.hts hin C.hown C.hK.1 (va_P.one hat) 0 rfl hc j hj (va_Nw.use rfl (C.hK.2.1 _ hlink)) (fun _ h9 => h9) (by rw [xvals_get _ 0 j true hbk]; simp [xval]; exact xrv_pos hv0) hd (k H locs ls hJ h)
theorem ww_getQN (C : XC G cc own rt nL fr lo) {a c j ix N v : Nat} {Cn host : String} {T : u_T} (hc : xcl[c]? = some (Cn, T, N)) (hj : j < N) (hc9 : c < 20) (hbk : (xbk c)[j]? = some true) (hin : ∀ w ∈ u_ws Cn T N, w ∈ lw_good) (hlink : Cond.fieldLinkNest own ix (T j).1 (T j).2.1 (T j).2.2.1 host ∈ lw_nest) (e : xgN σ a c j = some v) (hd : decode cc pc = .ok (.getfield ix, 3)) (k : WW G (pc + 3) lv (xrv (gB G) v :: st) σ) : WW G pc lv (.ref (gB G + a) :: st) σ := fun H locs ls hJ h => by
  obtain ⟨hT, rfl⟩ := xgN_spec e
  obtain ⟨hat, h0⟩ := hJ.obj hT hc9
  exact va_getN (ws := [(gB G + a, .inr (c, xvals (gB G) σ a 0 (xbk c)))]) C.hx C.hb C.hts hin C.hown C.hK.1 (va_P.one hat) 0 rfl hc j hj (va_Nw.use rfl (C.hK.2.1 _ hlink)) (fun _ h9 => h9) (by rw [xvals_get _ 0 j true hbk]; simp [xval]) hd (k H locs ls hJ h)
/-! arrays read -/
theorem XJ.arrI {a c : Nat} {H : Heap} {locs : List Loc} (hJ : XJ G σ H locs) (hT : xT σ a = c) (hc : 20 ≤ c ∧ c < 23) : va_at (gE G).1 xcl (gB G + a, .inl ((gE G).2.1 c, xlen σ a, .inl (xI σ a))) H ∧ a ≠ 0 := by
  have h1 : xT σ a ≠ 99 := by omega
  have h2 := hJ.1.at h1
  have h3 : xe (gE G) (gB G) σ a = .inl ((gE G).2.1 c, xlen σ a, .inl (xI σ a)) := by
    unfold xe
    rw [hT, if_neg (by omega), if_neg (by omega), if_pos hc.2]
  rw [h3] at h2
  have := hJ.1.live h1
  exact ⟨h2, by omega⟩
theorem XJ.arrL {a : Nat} {H : Heap} {locs : List Loc} (hJ : XJ G σ H locs) (hT : xT σ a = 23) : va_at (gE G).1 xcl (gB G + a, .inl ((gE G).2.1 23, xlen σ a, .inr (.inl (xL σ a)))) H ∧ a ≠ 0 := by
  have h1 : xT σ a ≠ 99 := by omega
  have h2 := hJ.1.at h1
  have h3 : xe (gE G) (gB G) σ a = .inl ((gE G).2.1 23, xlen σ a, .inr (.inl (xL σ a))) := by
    unfold xe
    rw [hT, if_neg (by omega), if_pos rfl]
  rw [h3] at h2
  have := hJ.1.live h1
  exact ⟨h2, by omega⟩
theorem XJ.arrR {a c : Nat} {H : Heap} {locs : List Loc} (hJ : XJ G σ H locs) (hT : xT σ a = c) (hc : 24 ≤ c ∧ c < 26) : va_at (gE G).1 xcl (gB G + a, .inl ((gE G).2.1 c, xlen σ a, .inr (.inr (.inr (.inr (fun j => xrf (gB G) (xR σ a j))))))) H ∧ a ≠ 0 := by
  have h1 : xT σ a ≠ 99 := by omega
  have h2 := hJ.1.at h1
  have h3 : xe (gE G) (gB G) σ a = .inl ((gE G).2.1 c, xlen σ a, .inr (.inr (.inr (.inr (fun j => xrf (gB G) (xR σ a j)))))) := by
    unfold xe
    rw [hT, if_neg (by omega), if_neg (by omega), if_neg (by omega)]
  rw [h3] at h2
  have := hJ.1.live h1
  exact ⟨h2, by omega⟩
theorem xaI_spec {k a : Nat} {i v : Int32} (e : xaI σ k a i = some v) : xT σ a = k ∧ vp_in i (xlen σ a) ∧ xI σ a i.toNatClampNeg = v := by
  unfold xaI at e
  by_cases h : xT σ a = k ∧ ¬ (i < 0 ∨ xlen σ a ≤ i.toNatClampNeg)
  · rw [if_pos h] at e; exact ⟨h.1, h.2, Option.some.inj e⟩
  · rw [if_neg h] at e; cases e
theorem xaL_spec {a : Nat} {i : Int32} {v : Int64} (e : xaL σ a i = some v) : xT σ a = 23 ∧ vp_in i (xlen σ a) ∧ xL σ a i.toNatClampNeg = v := by
  unfold xaL at e
  by_cases h : xT σ a = 23 ∧ ¬ (i < 0 ∨ xlen σ a ≤ i.toNatClampNeg)
  · rw [if_pos h] at e; exact ⟨h.1, h.2, Option.some.inj e⟩
  · rw [if_neg h] at e; cases e
theorem xaR_spec {k a v : Nat} {i : Int32} (e : xaR σ k a i = some v) : xT σ a = k ∧ vp_in i (xlen σ a) ∧ xR σ a i.toNatClampNeg = v ∧ v ≠ 0 := by
  unfold xaR at e
  by_cases h : xT σ a = k ∧ xR σ a i.toNatClampNeg ≠ 0 ∧ ¬ (i < 0 ∨ xlen σ a ≤ i.toNatClampNeg)
  · rw [if_pos h] at e
    have e := Option.some.inj e
    exact ⟨h.1, h.2.2, e, by rw [← e]; exact h.2.1⟩
  · rw [if_neg h] at e; cases e
theorem ww_iald (C : XC G cc own rt nL fr lo) {a : Nat} {i v : Int32} (e : xaI σ 20 a i = some v) (hd : decode cc pc = .ok (.iaload, 1)) (k : WW G (pc + 1) lv (.int v :: st) σ) : WW G pc lv (.int i :: .ref (gB G + a) :: st) σ := fun H locs ls hJ h => by
  obtain ⟨hT, hin, rfl⟩ := xaI_spec e
  obtain ⟨hat, h0⟩ := hJ.arrI hT (by omega)
  exact va_iald C.hx C.hb C.hK.1 (va_P.one hat) 0 0 rfl rfl hin hd (k H locs ls hJ h)
theorem ww_bald (C : XC G cc own rt nL fr lo) {a : Nat} {i v : Int32} (e : xaI σ 21 a i = some v) (hd : decode cc pc = .ok (.baload, 1)) (k : WW G (pc + 1) lv (.int v :: st) σ) : WW G pc lv (.int i :: .ref (gB G + a) :: st) σ := fun H locs ls hJ h => by
  obtain ⟨hT, hin, rfl⟩ := xaI_spec e
  obtain ⟨hat, h0⟩ := hJ.arrI hT (by omega)
  exact va_bald C.hx C.hb C.hK.1 (va_P.one hat) 0 1 rfl rfl hin hd (k H locs ls hJ h)
theorem ww_zald (C : XC G cc own rt nL fr lo) {a : Nat} {i v : Int32} (e : xaI σ 22 a i = some v) (hd : decode cc pc = .ok (.baload, 1)) (k : WW G (pc + 1) lv (.int v :: st) σ) : WW G pc lv (.int i :: .ref (gB G + a) :: st) σ := fun H locs ls hJ h => by
  obtain ⟨hT, hin, rfl⟩ := xaI_spec e
  obtain ⟨hat, h0⟩ := hJ.arrI hT (by omega)
  exact va_zald C.hx C.hb C.hK.1 (va_P.one hat) 0 2 rfl rfl hin hd (k H locs ls hJ h)
theorem ww_lald (C : XC G cc own rt nL fr lo) {a : Nat} {i : Int32} {v : Int64} (e : xaL σ a i = some v) (hd : decode cc pc = .ok (.laload, 1)) (k : WW G (pc + 1) lv (.long v :: st) σ) : WW G pc lv (.int i :: .ref (gB G + a) :: st) σ := fun H locs ls hJ h => by
  obtain ⟨hT, hin, rfl⟩ := xaL_spec e
  obtain ⟨hat, h0⟩ := hJ.arrL hT
  exact va_lald C.hx C.hb C.hK.1 (va_P.one hat) 0 3 rfl rfl hin hd (k H locs ls hJ h)
theorem ww_aald {q : Nat} (hq : q = 24 ∨ q = 25) (C : XC G cc own rt nL fr lo) {a v : Nat} {i : Int32} (e : xaR σ q a i = some v) (hd : decode cc pc = .ok (.aaload, 1)) (k : WW G (pc + 1) lv (.ref (gB G + v) :: st) σ) : WW G pc lv (.int i :: .ref (gB G + a) :: st) σ := fun H locs ls hJ h => by
  obtain ⟨hT, hin, rfl, hv0⟩ := xaR_spec e
  obtain ⟨hat, h0⟩ := hJ.arrR hT (by omega)
  have hk := k H locs ls hJ h
  rw [← xrv_pos hv0] at hk
  rcases hq with rfl | rfl
  · exact va_aldq C.hx C.hb C.hK.1 (va_P.one hat) 0 4 rfl rfl hin hd hk
  · exact va_aldq C.hx C.hb C.hK.1 (va_P.one hat) 0 5 rfl rfl hin hd hk
theorem ww_alen (C : XC G cc own rt nL fr lo) {a : Nat} {v : Int32} (e : xal σ a = some v) (hd : decode cc pc = .ok (.arraylength, 1)) (k : WW G (pc + 1) lv (.int v :: st) σ) : WW G pc lv (.ref (gB G + a) :: st) σ := fun H locs ls hJ h => by
  unfold xal at e
  by_cases hT : 20 ≤ xT σ a ∧ xT σ a ≤ 25
  · rw [if_pos hT] at e
    obtain rfl := Option.some.inj e
    have hk := k H locs ls hJ h
    rcases (by omega : xT σ a = 20 ∨ xT σ a = 21 ∨ xT σ a = 22 ∨ xT σ a = 23 ∨ xT σ a = 24 ∨ xT σ a = 25) with q | q | q | q | q | q
    · obtain ⟨hat, h0⟩ := hJ.arrI q (by omega)
      exact va_alen C.hx C.hb C.hK.1 (va_P.one hat) 0 0 rfl rfl rfl hd hk
    · obtain ⟨hat, h0⟩ := hJ.arrI q (by omega)
      exact va_alen C.hx C.hb C.hK.1 (va_P.one hat) 0 1 rfl rfl rfl hd hk
    · obtain ⟨hat, h0⟩ := hJ.arrI q (by omega)
      exact va_alen C.hx C.hb C.hK.1 (va_P.one hat) 0 2 rfl rfl rfl hd hk
    · obtain ⟨hat, h0⟩ := hJ.arrL q
      exact va_alen C.hx C.hb C.hK.1 (va_P.one hat) 0 3 rfl rfl rfl hd hk
    · obtain ⟨hat, h0⟩ := hJ.arrR q (by omega)
      exact va_alen C.hx C.hb C.hK.1 (va_P.one hat) 0 4 rfl rfl rfl hd hk
    · obtain ⟨hat, h0⟩ := hJ.arrR q (by omega)
      exact va_alen C.hx C.hb C.hK.1 (va_P.one hat) 0 5 rfl rfl rfl hd hk
  · rw [if_neg hT] at e
    cases e
/-! what is written -/
theorem xvals_congr {hb : Nat} {σ τ : XS} {a : Nat} (h1 : ∀ j, xI τ a j = xI σ a j) (h2 : ∀ j, xR τ a j = xR σ a j) : ∀ (bs : List Bool) (j : Nat), xvals hb τ a j bs = xvals hb σ a j bs
  | [], _ => rfl
  | true :: r, j => by simp [xvals, h2, xvals_congr h1 h2 r]
  | false :: r, j => by simp [xvals, h1, xvals_congr h1 h2 r]
theorem xe_congr {E : XD} {hb : Nat} {σ τ : XS} {a : Nat} (h0 : τ.1 a = σ.1 a) (h1 : ∀ j, xI τ a j = xI σ a j) (h2 : ∀ j, xR τ a j = xR σ a j) (h3 : ∀ j, xL τ a j = xL σ a j) : xe E hb τ a = xe E hb σ a := by
  have e0 : xT τ a = xT σ a := by unfold xT; rw [h0]
  have e1 : xlen τ a = xlen σ a := by unfold xlen; rw [h0]
  have e2 : xI τ a = xI σ a := funext h1
  have e3 : xL τ a = xL σ a := funext h3
  have e4 : xR τ a = xR σ a := funext h2
  unfold xe
  rw [e0, e1, e2, e3, e4, xvals_congr h1 h2]
/-- one cell is another, the rest stay -/
theorem XP.one {E : XD} {hb : Nat} {σ τ : XS} {H H1 : Heap} {a : Nat} (h : XP E hb σ H) (ha : xT σ a ≠ 99) (hn : xn τ = xn σ) (h0 : τ.1 = σ.1) (h1 : ∀ b, b ≠ a → ∀ j, xI τ b j = xI σ b j) (h2 : ∀ b, b ≠ a → ∀ j, xR τ b j = xR σ b j) (h3 : ∀ b, b ≠ a → ∀ j, xL τ b j = xL σ b j) (hz : H1.size = H.size) (ho : ∀ q, q ≠ hb + a → H1[q]? = H[q]?) (hat : va_at E.1 xcl (hb + a, xe E hb τ a) H1) : XP E hb τ H1 := by
  refine ⟨by rw [hz, hn]; exact h.1, fun b hb => ?_, fun b b1 b2 => ?_⟩
  · have := h.2.1 b (by rw [hn] at hb; exact hb)
    unfold xT at this ⊢
    rw [h0]; exact this
  · by_cases hba : b = a
    · subst hba; exact hat
    · rw [xe_congr (by rw [h0]) (h1 b hba) (h2 b hba) (h3 b hba)]
      exact (h.2.2 b b1 (by rw [hn] at b2; exact b2)).kept (ho _ (by show hb + b ≠ hb + a; omega))
theorem XJ.upd {τ : XS} {H H1 : Heap} {locs : List Loc} {a i : Nat} (hJ : XJ G σ H locs) (hP : XP (gE G) (gB G) τ H1) (ha : a ≠ 0) (hz : H1.size = H.size) (ho : ∀ q, q ≠ gB G + a → H1[q]? = H[q]?) (hn : xn τ = xn σ) (hs : xz τ = xz σ) : XJ G τ H1 (locs ++ [⟨gB G + a, i⟩]) := by
  refine ⟨hP, hJ.2.1.put hz ho ?_, by unfold XLim; rw [hn, hs]; exact hJ.2.2⟩
  show gB G < gB G + a
  omega
theorem xup_ne {α : Type} {f : Nat → Nat → α} {a j b k : Nat} {v : α} (h : b ≠ a) : xup f a j v b k = f b k := by unfold xup; rw [if_neg (fun q => h q.1)]
theorem xup_ne2 {α : Type} {f : Nat → Nat → α} {a j b k : Nat} {v : α} (h : k ≠ j) : xup f a j v b k = f b k := by unfold xup; rw [if_neg (fun q => h q.2)]
theorem xup_eq {α : Type} {f : Nat → Nat → α} {a j : Nat} {v : α} : xup f a j v a j = v := by unfold xup; rw [if_pos ⟨rfl, rfl⟩]
theorem xup_row {α : Type} (f : Nat → Nat → α) (a j : Nat) (v : α) (k : Nat) : xup f a j v a k = if k = j then v else f a k := by
  unfold xup
  by_cases h : k = j <;> simp [h]
theorem xvals_setI {hb : Nat} {σ : XS} {a j : Nat} {v : Int32} {bs : List Bool} (h : bs[j]? = some false) : xvals hb (xuI σ a j v) a 0 bs = (xvals hb σ a 0 bs).set j (.int v) := by
  apply List.ext_getElem?
  intro k
  have hlen : j < bs.length := (List.getElem?_eq_some_iff.mp h).1
  by_cases hk : k < bs.length
  · obtain ⟨b, hb1⟩ : ∃ b, bs[k]? = some b := ⟨bs[k], List.getElem?_eq_getElem hk⟩
    rw [xvals_get bs 0 k b hb1, List.getElem?_set]
    by_cases hkj : j = k
    · subst hkj
      obtain rfl := Option.some.inj (hb1.symm.trans h)
      rw [if_pos rfl, if_pos (by rw [xvals_length]; exact hlen)]
      simp [xval, xI, xuI, xup_eq]
    · rw [if_neg hkj, xvals_get bs 0 k b hb1]
      cases b
      · simp [xval, xI, xuI]
        rw [xup_ne2 (Ne.symm hkj)]
      · simp [xval, xR, xuI]
  · rw [List.getElem?_eq_none (by rw [xvals_length]; omega), List.getElem?_eq_none (by rw [List.length_set, xvals_length]; omega)]
theorem xvals_setR {hb : Nat} {σ : XS} {a j v : Nat} {bs : List Bool} (h : bs[j]? = some true) : xvals hb (xuR σ a j v) a 0 bs = (xvals hb σ a 0 bs).set j (xrv hb v) := by
  apply List.ext_getElem?
  intro k
  have hlen : j < bs.length := (List.getElem?_eq_some_iff.mp h).1
  by_cases hk : k < bs.length
  · obtain ⟨b, hb1⟩ : ∃ b, bs[k]? = some b := ⟨bs[k], List.getElem?_eq_getElem hk⟩
    rw [xvals_get bs 0 k b hb1, List.getElem?_set]
    by_cases hkj : j = k
    · subst hkj
      obtain rfl := Option.some.inj (hb1.symm.trans h)
      rw [if_pos rfl, if_pos (by rw [xvals_length]; exact hlen)]
      simp [xval, xR, xuR, xup_eq]
    · rw [if_neg hkj, xvals_get bs 0 k b hb1]
      cases b
      · simp [xval, xI, xuR]
      · simp [xval, xR, xuR]
        rw [xup_ne2 (Ne.symm hkj)]
  · rw [List.getElem?_eq_none (by rw [xvals_length]; omega), List.getElem?_eq_none (by rw [List.length_set, xvals_length]; omega)]
/-- which fields may be written anywhere, which in a constructor alone; a link of its own class or a nest mate's -/
def XLk (G : XG) (own : String) (ix : Nat) (ref name desc : String) : Prop := Cond.fieldLink own ix ref name desc ∈ lw_good ∨ ∃ host, Cond.fieldLinkNest own ix ref name desc host ∈ lw_nest
theorem x_put (C : XC G cc own rt nL fr lo) {a c j ix N : Nat} {v : Value} {ty : FieldType} {Cn : String} {T : u_T} {fs : List Value} {H : Heap} {locs : List Loc} {ls : Array Slot} {cells slots : Nat} (hc : xcl[c]? = some (Cn, T, N)) (hj : j < N) (hin : ∀ w ∈ u_ws Cn T N, w ∈ lw_good) (ty0 : Nat → FieldType) (hty : ∀ k, k < N → parseFieldDescriptor (T k).2.2.1 = some (ty0 k)) (hnm : ∀ a, a < N → ∀ b, b < N → a ≠ b → (T a).2.1 ≠ (T b).2.1) (hlink : XLk G own ix (T j).1 (T j).2.1 (T j).2.2.1) (hfin : (T j).2.2.2 = false ∨ ((T j).2.2.2 = true ∧ (gh G).name = "<init>" ∧ (T j).1 = own ∧ Cond.fieldLink own ix (T j).1 (T j).2.1 (T j).2.2.1 ∈ lw_good)) (ht : ty0 j = ty) (hn : narrow ty v = v) (hfit : fits ty v = true) (hl : j < fs.length) (hat : va_at (gE G).1 xcl (a, .inr (c, fs)) H) (hd : decode cc pc = .ok (.putfield ix, 3))
    (kk : ∀ (H1 : Heap) (i : Nat), va_at (gE G).1 xcl (a, .inr (c, fs.set j v)) H1 → H1.size = H.size → (∀ q, q ≠ a → H1[q]? = H[q]?) → gW G H1 (locs ++ [⟨a, i⟩]) cells slots (F0 (gm G) (pc + 3) ls st)) : gW G H locs cells slots (F0 (gm G) pc ls (v :: .ref a :: st)) := by
  have hap := va_apart (own := own) C.hts hin ty0 hty hnm C.hK.1 hc
  obtain ⟨r, h1, cell, q1, q2, q3, q4⟩ := hat
  have hr : r = (Cn, T, N) := Option.some.inj (h1.symm.trans hc)
  subst hr
  obtain ⟨hS, hfc, kC, hkC, hkind⟩ := C.hK.1.1 c _ hc
  obtain ⟨cf, kf, fi, f, hi, hsl⟩ := hS j hj
  have hlay := C.hts _ (hin _ (u_in_lay hj))
  have hpd : parseFieldDescriptor (T j).2.2.1 = some ty := by rw [← ht]; exact hty j hj
  have hst := (u_facts hfc hkC (u_lays C.hts hin hj) hi).1
  have fin : ∀ (H' : Heap), H'[a]? = some (cell.setSlot f.slot v) → va_at (gE G).1 xcl (a, .inr (c, fs.set j v)) H' := fun H' e1 => by
    rw [hsl] at e1
    exact ⟨_, hc, t_OB.to (V := updV (vp_V fs) j v) ⟨_, e1, q2, q3, t_set q4 hap hj v⟩ (fun j' _ => vp_updV_set hl v j')⟩
  have hslt : f.slot < cell.slots.size := by rw [hsl]; exact k2_hasslot (q4 j hj)
  rcases hfin with hfin | ⟨hfin, hin2, hdecl, hlk⟩
  · unfold u_lay at hlay
    rw [if_neg (by rw [hfin]; decide)] at hlay
    have h6 := u_store hfc hkC hkind hlay hi hpd hn hfit
    rcases hlink with hlk | ⟨host, hlk⟩
    · exact W.putK C.hx C.hb (f := f) ⟨C.hown, C.hts _ hlk, ⟨_, _, _, hi⟩, hst⟩ (by rw [q2]; exact h6) q1 q3 hslt rfl rfl hd fun H' e1 e2 e3 => kk H' _ (fin H' e1) e2 e3
    · exact va_WputK C.hx C.hb (f := f) C.hown (va_Nw.use rfl (C.hK.2.1 _ hlk)) hi hst (by rw [q2]; exact h6) q1 q3 hslt rfl rfl hd fun H' e1 e2 e3 => kk H' _ (fin H' e1) e2 e3
  · unfold u_lay at hlay
    rw [if_pos hfin] at hlay
    have hcf : (gm G).cls = cf := by
      obtain ⟨_, _, c', _, _, _, -, -, hf', -, -, -, hown2, -⟩ := Cond.laysFinal_spec hlay
      have e1 : c' = cf := by have := hi.symm.trans hf'; simp at this; exact this.1.symm
      rw [hdecl] at hown2
      rw [← e1]; exact Option.some.inj (C.hown.symm.trans hown2)
    have h6 := u_fits hfc hkC hkind (Or.inr hlay) hi hpd hn hfit
    exact W.putFinK C.hx C.hb C.hown (C.hts _ hlk) hi hst hcf hin2 (by rw [q2]; exact h6) q1 q3 hslt rfl rfl hd fun H' e1 e2 e3 => kk H' _ (fin H' e1) e2 e3
theorem xpI_spec {a c j : Nat} {v : Int32} {τ : XS} (e : xpI σ a c j v = some τ) : xT σ a = c ∧ xuI σ a j v = τ := by
  unfold xpI at e
  by_cases h : xT σ a = c
  · rw [if_pos h] at e; exact ⟨h, Option.some.inj e⟩
  · rw [if_neg h] at e; cases e
theorem xpR_spec {a c j v : Nat} {τ : XS} (e : xpR σ a c j v = some τ) : xT σ a = c ∧ xuR σ a j v = τ := by
  unfold xpR at e
  by_cases h : xT σ a = c
  · rw [if_pos h] at e; exact ⟨h, Option.some.inj e⟩
  · rw [if_neg h] at e; cases e
theorem ww_putI (C : XC G cc own rt nL fr lo) {a c j ix N : Nat} {v : Int32} {τ : XS} {ty : FieldType} {Cn : String} {T : u_T} (hc : xcl[c]? = some (Cn, T, N)) (hj : j < N) (hc9 : c < 20) (hbk : (xbk c)[j]? = some false) (hin : ∀ w ∈ u_ws Cn T N, w ∈ lw_good) (ty0 : Nat → FieldType) (hty : ∀ k, k < N → parseFieldDescriptor (T k).2.2.1 = some (ty0 k)) (hnm : ∀ a, a < N → ∀ b, b < N → a ≠ b → (T a).2.1 ≠ (T b).2.1) (hlink : XLk G own ix (T j).1 (T j).2.1 (T j).2.2.1) (hfin : (T j).2.2.2 = false) (ht : ty0 j = ty) (hn : narrow ty (.int v) = .int v) (hfit : fits ty (.int v) = true) (e : xpI σ a c j v = some τ) (hd : decode cc pc = .ok (.putfield ix, 3)) (k : WW G (pc + 3) lv st τ) : WW G pc lv (.int v :: .ref (gB G + a) :: st) σ := fun H locs ls hJ h => by
  obtain ⟨hT, rfl⟩ := xpI_spec e
  obtain ⟨hat, h0⟩ := hJ.obj hT hc9
  refine x_put C hc hj hin ty0 hty hnm hlink (Or.inl hfin) ht hn hfit (by rw [xvals_length]; exact (List.getElem?_eq_some_iff.mp hbk).1) hat hd fun H1 i hat1 hz ho => ?_
  refine k H1 _ ls (hJ.upd ?_ h0 hz ho rfl rfl) h
  refine XP.one hJ.1 (by omega) rfl rfl (fun b hb j' => xup_ne hb) (fun b hb j' => rfl) (fun b hb j' => rfl) hz ho ?_
  rw [xe_obj (σ := xuI σ a j v) (c := c) hT hc9, xvals_setI hbk]
  exact hat1
theorem ww_putR (C : XC G cc own rt nL fr lo) {a c j ix N v : Nat} {τ : XS} {ty : FieldType} {Cn : String} {T : u_T} (hc : xcl[c]? = some (Cn, T, N)) (hj : j < N) (hc9 : c < 20) (hbk : (xbk c)[j]? = some true) (hin : ∀ w ∈ u_ws Cn T N, w ∈ lw_good) (ty0 : Nat → FieldType) (hty : ∀ k, k < N → parseFieldDescriptor (T k).2.2.1 = some (ty0 k)) (hnm : ∀ a, a < N → ∀ b, b < N → a ≠ b → (T a).2.1 ≠ (T b).2.1) (hlink : XLk G own ix (T j).1 (T j).2.1 (T j).2.2.1) (hfin : (T j).2.2.2 = false ∨ ((T j).2.2.2 = true ∧ (gh G).name = "<init>" ∧ (T j).1 = own ∧ Cond.fieldLink own ix (T j).1 (T j).2.1 (T j).2.2.1 ∈ lw_good)) (ht : ty0 j = ty) (hn : ∀ q, narrow ty (.ref q) = .ref q) (hfit : ∀ q, fits ty (.ref q) = true) (hv0 : v ≠ 0) (e : xpR σ a c j v = some τ) (hd : decode cc pc = .ok (.putfield ix, 3)) (k : WW G (pc + 3) lv st τ) : WW G pc lv (.ref (gB G + v) :: .ref (gB G + a) :: st) σ := fun H locs ls hJ h => by
  obtain ⟨hT, rfl⟩ := xpR_spec e
  obtain ⟨hat, h0⟩ := hJ.obj hT hc9
  have hv : narrow ty (.ref (gB G + v)) = .ref (gB G + v) ∧ fits ty (.ref (gB G + v)) = true := ⟨hn _, hfit _⟩
  refine x_put C hc hj hin ty0 hty hnm hlink hfin ht hv.1 hv.2 (by rw [xvals_length]; exact (List.getElem?_eq_some_iff.mp hbk).1) hat hd fun H1 i hat1 hz ho => ?_
  refine k H1 _ ls (hJ.upd ?_ h0 hz ho rfl rfl) h
  refine XP.one hJ.1 (by omega) rfl rfl (fun b hb j' => rfl) (fun b hb j' => xup_ne hb) (fun b hb j' => rfl) hz ho ?_
  rw [xe_obj (σ := xuR σ a j v) (c := c) hT hc9, xvals_setR hbk, xrv_pos hv0]
  exact hat1
/-! arrays written -/
theorem xsI_spec {k a : Nat} {i v : Int32} {τ : XS} (e : xsI σ k a i v = some τ) : xT σ a = k ∧ vp_in i (xlen σ a) ∧ xuI σ a i.toNatClampNeg v = τ := by
  unfold xsI at e
  by_cases h : xT σ a = k ∧ ¬ (i < 0 ∨ xlen σ a ≤ i.toNatClampNeg)
  · rw [if_pos h] at e; exact ⟨h.1, h.2, Option.some.inj e⟩
  · rw [if_neg h] at e; cases e
theorem xsL_spec {a : Nat} {i : Int32} {v : Int64} {τ : XS} (e : xsL σ a i v = some τ) : xT σ a = 23 ∧ vp_in i (xlen σ a) ∧ xuL σ a i.toNatClampNeg v = τ := by
  unfold xsL at e
  by_cases h : xT σ a = 23 ∧ ¬ (i < 0 ∨ xlen σ a ≤ i.toNatClampNeg)
  · rw [if_pos h] at e; exact ⟨h.1, h.2, Option.some.inj e⟩
  · rw [if_neg h] at e; cases e
theorem xsR_spec {k c a v : Nat} {i : Int32} {τ : XS} (e : xsR σ k c a i v = some τ) : xT σ a = k ∧ xT σ v = c ∧ vp_in i (xlen σ a) ∧ xuR σ a i.toNatClampNeg v = τ := by
  unfold xsR at e
  by_cases h : xT σ a = k ∧ xT σ v = c ∧ ¬ (i < 0 ∨ xlen σ a ≤ i.toNatClampNeg)
  · rw [if_pos h] at e; exact ⟨h.1, h.2.1, h.2.2, Option.some.inj e⟩
  · rw [if_neg h] at e; cases e
theorem x_arrI {a c : Nat} {i : Int32} {v : Int32} {H H1 : Heap} {locs : List Loc} {ls : Array Slot} (hJ : XJ G σ H locs) (hT : xT σ a = c) (hc : 20 ≤ c ∧ c < 23) (h0 : a ≠ 0) (e1 : H1[gB G + a]? = some ((vp_cell ((gE G).2.1 c) (xlen σ a, .inl (xI σ a))).setSlot i.toNatClampNeg (.int v))) (hz : H1.size = H.size) (ho : ∀ q, q ≠ gB G + a → H1[q]? = H[q]?) : XJ G (xuI σ a i.toNatClampNeg v) H1 (locs ++ [⟨gB G + a, i.toNatClampNeg⟩]) := by
  refine hJ.upd ?_ h0 hz ho rfl rfl
  refine XP.one hJ.1 (by omega) rfl rfl (fun b hb j' => xup_ne hb) (fun b hb j' => rfl) (fun b hb j' => rfl) hz ho ?_
  have h3 : xe (gE G) (gB G) (xuI σ a i.toNatClampNeg v) a = .inl ((gE G).2.1 c, xlen σ a, .inl (xI (xuI σ a i.toNatClampNeg v) a)) := by
    have hT' : xT (xuI σ a i.toNatClampNeg v) a = c := hT
    unfold xe
    rw [hT', if_neg (by omega), if_neg (by omega), if_pos hc.2]
    rfl
  rw [h3]
  show H1[gB G + a]? = some (vp_cell _ _)
  rw [e1]
  rw [vp_cell_i, vp_cell_i, arrV_store]
  congr 2
  funext q
  show updV _ _ _ q = .int (xup _ _ _ _ a q)
  rw [xup_row]
  by_cases hq : q = i.toNatClampNeg
  · simp [updV, hq]
  · simp [updV, hq]
    rfl
theorem ww_iast (C : XC G cc own rt nL fr lo) {a : Nat} {i v : Int32} {τ : XS} (e : xsI σ 20 a i v = some τ) (hd : decode cc pc = .ok (.iastore, 1)) (k : WW G (pc + 1) lv st τ) : WW G pc lv (.int v :: .int i :: .ref (gB G + a) :: st) σ := fun H locs ls hJ h => by
  obtain ⟨hT, hin, rfl⟩ := xsI_spec e
  obtain ⟨hat, h0⟩ := hJ.arrI hT (by omega)
  refine W.iast C.hx C.hb hat ((C.hK.1.2 0 _ rfl).1 (xlen σ a) (fun j => .int (xI σ a j))) (fun q => by cases q) (by show ¬ (i < 0 ∨ (arrV _ _ _).slots.size ≤ _); rw [arrV_size]; exact hin) rfl rfl hd fun H1 e1 z oq => ?_
  exact k H1 _ ls (x_arrI (ls := ls) hJ hT (by omega) h0 e1 z oq) h
theorem ww_bast (C : XC G cc own rt nL fr lo) {a : Nat} {i v w : Int32} {τ : XS} (hw : narrow .byte (.int w) = .int v) (e : xsI σ 21 a i v = some τ) (hd : decode cc pc = .ok (.bastore, 1)) (k : WW G (pc + 1) lv st τ) : WW G pc lv (.int w :: .int i :: .ref (gB G + a) :: st) σ := fun H locs ls hJ h => by
  obtain ⟨hT, hin, rfl⟩ := xsI_spec e
  obtain ⟨hat, h0⟩ := hJ.arrI hT (by omega)
  refine W.bast C.hx C.hb hat ((C.hK.1.2 1 _ rfl).1 (xlen σ a) (fun j => .int (xI σ a j))) (fun q => by cases q) (by show ¬ (i < 0 ∨ (arrV _ _ _).slots.size ≤ _); rw [arrV_size]; exact hin) rfl rfl hd fun H1 e1 z oq => ?_
  rw [hw] at e1
  exact k H1 _ ls (x_arrI (ls := ls) hJ hT (by omega) h0 e1 z oq) h
theorem ww_zast (C : XC G cc own rt nL fr lo) {a : Nat} {i v w : Int32} {τ : XS} (hw : narrow .boolean (.int w) = .int v) (e : xsI σ 22 a i v = some τ) (hd : decode cc pc = .ok (.bastore, 1)) (k : WW G (pc + 1) lv st τ) : WW G pc lv (.int w :: .int i :: .ref (gB G + a) :: st) σ := fun H locs ls hJ h => by
  obtain ⟨hT, hin, rfl⟩ := xsI_spec e
  obtain ⟨hat, h0⟩ := hJ.arrI hT (by omega)
  refine W.zast C.hx C.hb hat ((C.hK.1.2 2 _ rfl).1 (xlen σ a) (fun j => .int (xI σ a j))) (fun q => by cases q) (by show ¬ (i < 0 ∨ (arrV _ _ _).slots.size ≤ _); rw [arrV_size]; exact hin) rfl rfl hd fun H1 e1 z oq => ?_
  rw [hw] at e1
  exact k H1 _ ls (x_arrI (ls := ls) hJ hT (by omega) h0 e1 z oq) h
theorem ww_last (C : XC G cc own rt nL fr lo) {a : Nat} {i : Int32} {v : Int64} {τ : XS} (e : xsL σ a i v = some τ) (hd : decode cc pc = .ok (.lastore, 1)) (k : WW G (pc + 1) lv st τ) : WW G pc lv (.long v :: .int i :: .ref (gB G + a) :: st) σ := fun H locs ls hJ h => by
  obtain ⟨hT, hin, rfl⟩ := xsL_spec e
  obtain ⟨hat, h0⟩ := hJ.arrL hT
  refine W.last C.hx C.hb hat ((C.hK.1.2 3 _ rfl).1 (xlen σ a) (fun j => .long (xL σ a j))) (fun q => by cases q) (by show ¬ (i < 0 ∨ (arrV _ _ _).slots.size ≤ _); rw [arrV_size]; exact hin) rfl rfl hd fun H1 e1 z oq => ?_
  refine k H1 _ ls (hJ.upd ?_ h0 z oq rfl rfl) h
  refine XP.one hJ.1 (by omega) rfl rfl (fun b hb j' => rfl) (fun b hb j' => rfl) (fun b hb j' => xup_ne hb) z oq ?_
  have h3 : xe (gE G) (gB G) (xuL σ a i.toNatClampNeg v) a = .inl ((gE G).2.1 23, xlen σ a, .inr (.inl (xL (xuL σ a i.toNatClampNeg v) a))) := by
    have hT' : xT (xuL σ a i.toNatClampNeg v) a = 23 := hT
    unfold xe
    rw [hT', if_neg (by omega), if_pos rfl]
    rfl
  rw [h3]
  show H1[gB G + a]? = some (vp_cell _ _)
  rw [e1]
  rw [vp_cell_l, vp_cell_l, arrV_store]
  congr 2
  funext q
  show updV _ _ _ q = .long (xup _ _ _ _ a q)
  rw [xup_row]
  by_cases hq : q = i.toNatClampNeg
  · simp [updV, hq]
  · simp [updV, hq]
    rfl
/-! what is made -/
theorem xnew_ne {k len w b : Nat} (h : b ≠ xn σ + 1) : (xnew σ k len w).1 b = σ.1 b := by unfold xnew; simp [h]
theorem XP.new {E : XD} {hb k len w : Nat} {H H1 : Heap} (h : XP E hb σ H) (hk : k ≠ 99) (hz : H1.size = H.size + 1) (ho : ∀ q, q < H.size → H1[q]? = H[q]?) (hat : va_at E.1 xcl (hb + (xn σ + 1), xe E hb (xnew σ k len w) (xn σ + 1)) H1) : XP E hb (xnew σ k len w) H1 := by
  refine ⟨?_, fun b hb => ?_, fun b b1 b2 => ?_⟩
  · rw [hz, h.1]; rfl
  · have e : xn (xnew σ k len w) = xn σ + 1 := rfl
    rw [e] at hb
    have := h.2.1 b (by omega)
    unfold xT at this ⊢
    rw [xnew_ne (by omega)]; exact this
  · have e : xn (xnew σ k len w) = xn σ + 1 := rfl
    rw [e] at b2
    by_cases hba : b = xn σ + 1
    · subst hba; exact hat
    · have hI : ∀ j, xI (xnew σ k len w) b j = xI σ b j := fun j => by show (if b = xn σ + 1 then 0 else σ.2.1 b j) = _; rw [if_neg hba]; rfl
      have hR : ∀ j, xR (xnew σ k len w) b j = xR σ b j := fun j => by show (if b = xn σ + 1 then 0 else σ.2.2.2.1 b j) = _; rw [if_neg hba]; rfl
      have hL : ∀ j, xL (xnew σ k len w) b j = xL σ b j := fun j => by show (if b = xn σ + 1 then 0 else σ.2.2.1 b j) = _; rw [if_neg hba]; rfl
      rw [xe_congr (xnew_ne hba) hI hR hL]
      have h1 := h.2.2 b b1 (by omega)
      exact h1.kept (ho _ (by have := h.1; show hb + b < H.size; omega))
theorem XJ.new {k len w : Nat} {H H1 : Heap} {locs : List Loc} (hJ : XJ G σ H locs) (hP : XP (gE G) (gB G) (xnew σ k len w) H1) (hz : H1.size = H.size + 1) (ho : ∀ q, q < H.size → H1[q]? = H[q]?) (hl : XLim G (xnew σ k len w)) : XJ G (xnew σ k len w) H1 locs :=
  ⟨hP, ⟨Nat.le_trans hJ.2.1.1 (by omega), fun q h1 h2 => (ho q (Nat.lt_of_lt_of_le h1 hJ.2.1.1)).trans (hJ.2.1.2.1 q h1 h2), hJ.2.1.2.2⟩, hl⟩
theorem XLim.grow {k len w : Nat} (h0 : XLim G σ) (hl : XLim G (xnew σ k len w)) : (xn σ - gn G + 1 = xn (xnew σ k len w) - gn G ∧ xz σ - gz G + w = xz (xnew σ k len w) - gz G) ∧ xn σ - gn G + 1 ≤ (gR G).cells ∧ xz σ - gz G + w ≤ (gR G).slots := by
  obtain ⟨⟨a1, a2⟩, a3, a4⟩ := h0
  obtain ⟨⟨b1, b2⟩, b3, b4⟩ := hl
  have e1 : xn (xnew σ k len w) = xn σ + 1 := rfl
  have e2 : xz (xnew σ k len w) = xz σ + w := rfl
  rw [e1] at b1 b3 ⊢
  rw [e2] at b2 b4 ⊢
  omega
theorem xI_new {k len w j : Nat} : xI (xnew σ k len w) (xn σ + 1) j = 0 := by show (if xn σ + 1 = xn σ + 1 then (0 : Int32) else _) = 0; rw [if_pos rfl]
theorem xR_new {k len w j : Nat} : xR (xnew σ k len w) (xn σ + 1) j = 0 := by show (if xn σ + 1 = xn σ + 1 then (0 : Nat) else _) = 0; rw [if_pos rfl]
theorem xL_new {k len w j : Nat} : xL (xnew σ k len w) (xn σ + 1) j = 0 := by show (if xn σ + 1 = xn σ + 1 then (0 : Int64) else _) = 0; rw [if_pos rfl]
theorem xT_new {k len w : Nat} : xT (xnew σ k len w) (xn σ + 1) = k := by show (if xn σ + 1 = xn σ + 1 then (k, len) else _).1 = k; rw [if_pos rfl]
theorem xlen_new {k len w : Nat} : xlen (xnew σ k len w) (xn σ + 1) = len := by show (if xn σ + 1 = xn σ + 1 then (k, len) else _).2 = len; rw [if_pos rfl]
def xdef : List Bool → List Value
  | [] => []
  | true :: r => .null :: xdef r
  | false :: r => .int 0 :: xdef r
theorem xvals_new {hb k len w : Nat} : ∀ (bs : List Bool) (j : Nat), xvals hb (xnew σ k len w) (xn σ + 1) j bs = xdef bs
  | [], _ => rfl
  | true :: r, j => by simp only [xvals, xdef, xR_new, xvals_new r]; rfl
  | false :: r, j => by simp only [xvals, xdef, xI_new, xvals_new r]
theorem xnO_spec {c w q : Nat} {τ : XS} (e : xnO σ c w = some (q, τ)) : q = xn σ + 1 ∧ τ = xnew σ c 0 w := by
  have e := Option.some.inj e
  exact ⟨(congrArg Prod.fst e).symm, (congrArg Prod.snd e).symm⟩
theorem ww_new (C : XC G cc own rt nL fr lo) {c ix N : Nat} {Cn : String} {T : u_T} (hc : xcl[c]? = some (Cn, T, N)) (hc9 : c < 20) (hin : ∀ w ∈ u_ws Cn T N, w ∈ lw_good) (ty0 : Nat → FieldType) (hty : ∀ k, k < N → parseFieldDescriptor (T k).2.2.1 = some (ty0 k)) (hfs : ∀ j, j < N → defaultValue (ty0 j) = vp_V (xdef (xbk c)) j) (hcl : Cond.classLink own ix Cn ∈ lw_good) (hinst : Cond.instantiable Cn N ∈ lw_good) (hini : Cond.initialized Cn ∈ lw_good) {q : Nat} {τ : XS} (e : xnO σ c N = some (q, τ)) (hl : XLim G σ → XLim G τ) (hd : decode cc pc = .ok (.new ix, 3)) (k : WW G (pc + 3) lv (.ref (gB G + q) :: st) τ) : WW G pc lv st σ := fun H locs ls hJ h => by
  obtain ⟨rfl, rfl⟩ := xnO_spec e
  have hl := hl hJ.2.2
  have hKn := C.hK.1.1 c _ hc
  obtain ⟨⟨e1, e2⟩, r1, r2⟩ := XLim.grow hJ.2.2 hl
  have hsz := hJ.1.1
  refine W.newcK C.hx C.hb C.hown (C.hts _ hcl) (C.hts _ hinst) (C.hts _ hini) rfl hd r1 r2 hKn.2.1 hsz fun H1 kC hkC f1 z1 o1 => ?_
  rw [e1, e2]
  have hP1 : XP (gE G) (gB G) (xnew σ c 0 N) H1 := by
    refine XP.new hJ.1 (by omega) (by rw [z1, hsz]) (fun q hq => o1 q (by rw [← hsz]; exact hq)) ?_
    rw [xe_obj xT_new hc9, xvals_new]
    have f2 : H1[gB G + (xn σ + 1)]? = some (blank ((gE G).1.1 c) kC) := f1
    exact ⟨_, hc, (u_born ty0 C.hts hin hKn hkC f2 hty).to hfs⟩
  have hk := k H1 locs ls (hJ.new hP1 (by rw [z1, hsz]) (fun q hq => o1 q (by rw [← hsz]; exact hq)) hl) h
  exact hk
theorem xnA_spec {k q : Nat} {i : Int32} {τ : XS} (e : xnA σ k i = some (q, τ)) : ¬ i < 0 ∧ i.toNatClampNeg ≤ 67108864 ∧ q = xn σ + 1 ∧ τ = xnew σ k i.toNatClampNeg i.toNatClampNeg := by
  unfold xnA at e
  by_cases h : i < 0 ∨ 67108864 < i.toNatClampNeg
  · rw [if_pos h] at e; cases e
  · rw [if_neg h] at e
    have e := Option.some.inj e
    have e1 := congrArg Prod.fst e
    have e2 := congrArg Prod.snd e
    exact ⟨fun q => h (Or.inl q), by omega, e1.symm, e2.symm⟩
theorem x_newa (C : XC G cc own rt nL fr lo) {c q : Nat} {i : Int32} {τ : XS} {at_ : ArrayType} {ty : FieldType} (hty : newarray.typeOf at_ = ty) (harr : Cond.arrayClass (newarray.typeOf at_) ∈ lw_good) (hc : c ≠ 99) (e : xnA σ c i = some (q, τ)) (hb8 : componentBytes ty ≤ 8) (hl : XLim G σ → XLim G τ) (hd : decode cc pc = .ok (.newarray at_, 2)) (hcell : ∀ (H1 : Heap) (cA : ClassId), H1[gB G + (xn σ + 1)]? = some (arrV cA i.toNatClampNeg (fun _ => defaultValue ty)) → (gs G).vm.findClass ("[" ++ ty.toString) = some cA → va_at (gE G).1 xcl (gB G + (xn σ + 1), xe (gE G) (gB G) (xnew σ c i.toNatClampNeg i.toNatClampNeg) (xn σ + 1)) H1) (k : WW G (pc + 2) lv (.ref (gB G + q) :: st) τ) : WW G pc lv (.int i :: st) σ := fun H locs ls hJ h => by
  subst hty
  obtain ⟨hi, hN, rfl, rfl⟩ := xnA_spec e
  have hl := hl hJ.2.2
  obtain ⟨⟨e1, e2⟩, r1, r2⟩ := XLim.grow hJ.2.2 hl
  have hsz := hJ.1.1
  refine va_newaK C.hx C.hb (C.hts _ harr) rfl hd rfl hi rfl (Nat.le_trans (Nat.mul_le_mul hN hb8) (Nat.le_of_ble_eq_true rfl)) r1 r2 hsz fun H1 cA f1 z1 o1 hAr hNm => ?_
  rw [e1, e2]
  have hP1 : XP (gE G) (gB G) (xnew σ c i.toNatClampNeg i.toNatClampNeg) H1 := by
    refine XP.new hJ.1 hc (by rw [z1, hsz]) (fun q hq => o1 q (by rw [← hsz]; exact hq)) ?_
    exact hcell H1 cA f1 hNm
  have hk := k H1 locs ls (hJ.new hP1 (by rw [z1, hsz]) (fun q hq => o1 q (by rw [← hsz]; exact hq)) hl) h
  exact hk
theorem ww_newI (C : XC G cc own rt nL fr lo) {q : Nat} {i : Int32} {τ : XS} (harr : Cond.arrayClass .int ∈ lw_good) (e : xnA σ 20 i = some (q, τ)) (hl : XLim G σ → XLim G τ) (hd : decode cc pc = .ok (.newarray .int, 2)) (k : WW G (pc + 2) lv (.ref (gB G + q) :: st) τ) : WW G pc lv (.int i :: st) σ := by
  refine x_newa C (at_ := .int) (ty := .int) rfl harr (by decide) e (by decide) hl hd (fun H1 cA f1 hNm => ?_) k
  have hcA : cA = (gE G).2.1 20 := Option.some.inj (hNm.symm.trans (C.hK.1.2 0 _ rfl).2)
  subst hcA
  have h3 : xe (gE G) (gB G) (xnew σ 20 i.toNatClampNeg i.toNatClampNeg) (xn σ + 1) = .inl ((gE G).2.1 20, i.toNatClampNeg, .inl (xI (xnew σ 20 i.toNatClampNeg i.toNatClampNeg) (xn σ + 1))) := by
    unfold xe
    rw [xT_new, xlen_new]
    rfl
  rw [h3]
  show H1[_]? = some (vp_cell _ _)
  rw [f1, vp_cell_i]
  congr 2
  funext j
  rw [xI_new]
  rfl
theorem ww_newB (C : XC G cc own rt nL fr lo) {q : Nat} {i : Int32} {τ : XS} (harr : Cond.arrayClass .byte ∈ lw_good) (e : xnA σ 21 i = some (q, τ)) (hl : XLim G σ → XLim G τ) (hd : decode cc pc = .ok (.newarray .byte, 2)) (k : WW G (pc + 2) lv (.ref (gB G + q) :: st) τ) : WW G pc lv (.int i :: st) σ := by
  refine x_newa C (at_ := .byte) (ty := .byte) rfl harr (by decide) e (by decide) hl hd (fun H1 cA f1 hNm => ?_) k
  have hcA : cA = (gE G).2.1 21 := Option.some.inj (hNm.symm.trans (C.hK.1.2 1 _ rfl).2)
  subst hcA
  have h3 : xe (gE G) (gB G) (xnew σ 21 i.toNatClampNeg i.toNatClampNeg) (xn σ + 1) = .inl ((gE G).2.1 21, i.toNatClampNeg, .inl (xI (xnew σ 21 i.toNatClampNeg i.toNatClampNeg) (xn σ + 1))) := by
    unfold xe
    rw [xT_new, xlen_new]
    rfl
  rw [h3]
  show H1[_]? = some (vp_cell _ _)
  rw [f1, vp_cell_i]
  congr 2
  funext j
  rw [xI_new]
  rfl
theorem ww_newZ (C : XC G cc own rt nL fr lo) {q : Nat} {i : Int32} {τ : XS} (harr : Cond.arrayClass .boolean ∈ lw_good) (e : xnA σ 22 i = some (q, τ)) (hl : XLim G σ → XLim G τ) (hd : decode cc pc = .ok (.newarray .boolean, 2)) (k : WW G (pc + 2) lv (.ref (gB G + q) :: st) τ) : WW G pc lv (.int i :: st) σ := by
  refine x_newa C (at_ := .boolean) (ty := .boolean) rfl harr (by decide) e (by decide) hl hd (fun H1 cA f1 hNm => ?_) k
  have hcA : cA = (gE G).2.1 22 := Option.some.inj (hNm.symm.trans (C.hK.1.2 2 _ rfl).2)
  subst hcA
  have h3 : xe (gE G) (gB G) (xnew σ 22 i.toNatClampNeg i.toNatClampNeg) (xn σ + 1) = .inl ((gE G).2.1 22, i.toNatClampNeg, .inl (xI (xnew σ 22 i.toNatClampNeg i.toNatClampNeg) (xn σ + 1))) := by
    unfold xe
    rw [xT_new, xlen_new]
    rfl
  rw [h3]
  show H1[_]? = some (vp_cell _ _)
  rw [f1, vp_cell_i]
  congr 2
  funext j
  rw [xI_new]
  rfl
theorem ww_newL (C : XC G cc own rt nL fr lo) {q : Nat} {i : Int32} {τ : XS} (harr : Cond.arrayClass .long ∈ lw_good) (e : xnA σ 23 i = some (q, τ)) (hl : XLim G σ → XLim G τ) (hd : decode cc pc = .ok (.newarray .long, 2)) (k : WW G (pc + 2) lv (.ref (gB G + q) :: st) τ) : WW G pc lv (.int i :: st) σ := by
  refine x_newa C (at_ := .long) (ty := .long) rfl harr (by decide) e (by decide) hl hd (fun H1 cA f1 hNm => ?_) k
  have hcA : cA = (gE G).2.1 23 := Option.some.inj (hNm.symm.trans (C.hK.1.2 3 _ rfl).2)
  subst hcA
  have h3 : xe (gE G) (gB G) (xnew σ 23 i.toNatClampNeg i.toNatClampNeg) (xn σ + 1) = .inl ((gE G).2.1 23, i.toNatClampNeg, .inr (.inl (xL (xnew σ 23 i.toNatClampNeg i.toNatClampNeg) (xn σ + 1)))) := by
    unfold xe
    rw [xT_new, xlen_new]
    rfl
  rw [h3]
  show H1[_]? = some (vp_cell _ _)
  rw [f1, vp_cell_l]
  congr 2
  funext j
  rw [xL_new]
  rfl
/-! the end -/
def XQ (E : XD) (hb : Nat) (ro : Option Value) (σ : XS) : Array Value → State → Outcome → State → Prop := fun _ st o t => o = .returned ro ∧ XP E hb σ t.heap ∧ va_F (xA hb) st t
def XEnd (G : XG) (ro : Option Value) (σ : XS) : Prop := gQ G = MQ (gb G) (XQ (gE G) (gB G) ro σ) (ga G) (gs G) (xn σ - gn G) (xz σ - gz G) (xA (gB G))
theorem ww_iret (C : XC G cc own (some .int) nL fr lo) {v : Int32} (hQ : XEnd G (some (.int v)) σ) (hd : decode cc pc = .ok (.ireturn, 1)) : WW G pc lv [.int v] σ := fun H locs ls hJ h => by
  unfold gW; rw [hQ]
  exact W.iret C.hx C.hb C.hr (fun t ht hW => ⟨rfl, by rw [ht]; exact hJ.1, hJ.2.1.F ht⟩) hJ.2.1.2.2 hd C.hlk
theorem ww_zret (C : XC G cc own (some .boolean) nL fr lo) {v : Int32} (hn : narrow .boolean (.int v) = .int v) (hQ : XEnd G (some (.int v)) σ) (hd : decode cc pc = .ok (.ireturn, 1)) : WW G pc lv [.int v] σ := fun H locs ls hJ h => by
  unfold gW; rw [hQ]
  exact W.zret C.hx C.hb C.hr hn (fun t ht hW => ⟨rfl, by rw [ht]; exact hJ.1, hJ.2.1.F ht⟩) hJ.2.1.2.2 hd C.hlk
theorem ww_lret (C : XC G cc own (some .long) nL fr lo) {v : Int64} (hQ : XEnd G (some (.long v)) σ) (hd : decode cc pc = .ok (.lreturn, 1)) : WW G pc lv [.long v] σ := fun H locs ls hJ h => by
  unfold gW; rw [hQ]
  exact W.lret C.hx C.hb C.hr (fun t ht hW => ⟨rfl, by rw [ht]; exact hJ.1, hJ.2.1.F ht⟩) hJ.2.1.2.2 hd C.hlk
theorem ww_vret (C : XC G cc own none nL fr lo) (hQ : XEnd G none σ) (hd : decode cc pc = .ok (.return_, 1)) : WW G pc lv [] σ := fun H locs ls hJ h => by
  unfold gW; rw [hQ]
  exact W.vret C.hx C.hb C.hr (fun t ht hW => ⟨rfl, by rw [ht]; exact hJ.1, hJ.2.1.F ht⟩) hJ.2.1.2.2 hd C.hlk
theorem ww_aret {ft : FieldType} (C : XC G cc own (some ft) nL fr lo) (hft : (∃ n, ft = .object n) ∨ ∃ t, ft = .array t) {r : Nat} (h0 : r ≠ 0) (hQ : XEnd G (some (xrv (gB G) r)) σ) (hd : decode cc pc = .ok (.areturn, 1)) : WW G pc lv [.ref (gB G + r)] σ := fun H locs ls hJ h => by
  unfold gW; rw [hQ, xrv_pos h0]
  exact W.aret C.hx C.hb C.hr hft (Or.inr ⟨_, rfl⟩) (fun t ht hW => ⟨rfl, by rw [ht]; exact hJ.1, hJ.2.1.F ht⟩) hJ.2.1.2.2 hd C.hlk
theorem ww_aretN {ft : FieldType} (C : XC G cc own (some ft) nL fr lo) (hft : (∃ n, ft = .object n) ∨ ∃ t, ft = .array t) (hQ : XEnd G (some (xrv (gB G) 0)) σ) (hd : decode cc pc = .ok (.areturn, 1)) : WW G pc lv [.null] σ := fun H locs ls hJ h => by
  unfold gW; rw [hQ]
  exact W.aret C.hx C.hb C.hr hft (Or.inl rfl) (fun t ht hW => ⟨rfl, by rw [ht]; exact hJ.1, hJ.2.1.F ht⟩) hJ.2.1.2.2 hd C.hlk
/-- a method's meaning, as the machine keeps it -/
def XM (l : Launch) (y : MethodName) (cb : ByteArray) (n : Nat) (ret : Option FieldType) (fr lo : Nat) (E : XD) (hb : Nat) (av : List Value) (σ : XS) (ro : Option Value) (τ : XS) : Prop :=
  Met l y (.code y cb n ret :: lw_good) { frames := fr, cells := xn τ - xn σ, slots := xz τ - xz σ, locals := lo } (va_Pc av (fun U => XP E hb σ U.heap ∧ XK E hb U)) (XQ E hb ro τ) (xn τ - xn σ) (xz τ - xz σ) (xA hb)
theorem xm_of {l : Launch} {y : MethodName} {cb : ByteArray} {n fr lo : Nat} {ret : Option FieldType} {E : XD} {hb : Nat} {av : List Value} {σ τ : XS} {ro : Option Value} (hy : plainName y.cls = true) (hav : (lg_sl av).length ≤ n) (hle : xn σ ≤ xn τ ∧ xz σ ≤ xz τ)
    (body : ∀ G : XG, gl G = l ∧ gE G = E ∧ gB G = hb ∧ (gh G).name = y.name → XC G cb y.cls ret n fr lo → XLim G τ → XEnd G ro τ → WW G 0 (lv_args 0 av) [] σ) : XM l y cb n ret fr lo E hb av σ ro τ := by
  refine Met.ofW (cc := cb) (maxL := n) (ret := ret) hy rfl ?_
  intro p e s m args below meth c s₁ B hml hv
  obtain ⟨rfl, hP, hK⟩ := hv
  have hts : ∀ w ∈ lw_good, w.before av.toArray s = true := fun w hw => atoms_spec B.pre w (List.mem_cons_of_mem _ hw)
  have hown : s.vm.findClass y.cls = some m.cls := findClass_of_methodNamed B.named
  have hl := lv_entry av (n := n) hav
  rw [lg_entry_eq]
  have key := body (p, l, e, (headSpec (Cond.code y cb n ret :: lw_good) { frames := fr, cells := xn τ - xn σ, slots := xz τ - xz σ, locals := lo }).room, s, m, av.toArray, below, meth, c, MQ below (XQ E hb ro τ) av.toArray s (xn τ - xn σ) (xz τ - xz σ) (xA hb), E, hb, n, xn σ, xz σ) ⟨rfl, rfl, rfl, (name_of_methodNamed B.named B.method).1⟩ ⟨⟨rfl, rfl, rfl⟩, B.exec, B.bytes, hml, hown, hts, hK, B.returns, B.notSynchronized⟩ ⟨hle, by show xn τ ≤ xn σ + (xn τ - xn σ); omega, by show xz τ ≤ xz σ + (xz τ - xz σ); omega⟩ rfl
  have h := key s.heap [] _ ⟨hP, va_S.rf, ⟨Nat.le_refl _, Nat.le_refl _⟩, Nat.le_add_right _ _, Nat.le_add_right _ _⟩ hl
  have e1 : xn σ - xn σ = 0 := Nat.sub_self _
  have e2 : xz σ - xz σ = 0 := Nat.sub_self _
  unfold gW at h
  dsimp only [gn, gz] at h
  rw [e1, e2] at h
  exact h
theorem ww_ofrun {τ : XS} {ro : Option Value} {st0 : List Value} {a : Array Value} (hr : ∀ H locs ls, XJ G σ H locs → lv_has ls (gL G) lv → va_Run (gp G) (gl G) (ge G) (gR G) (gs G) (gm G) (ga G) (gb G) (gh G) (gc G) H locs (xn σ - gn G) (xz σ - gz G) (xn τ - xn σ) (xz τ - xz σ) (F0 (gm G) pc ls st0) st (XQ (gE G) (gB G) ro τ a) (xA (gB G))) (hle : xn σ ≤ xn τ ∧ xz σ ≤ xz τ) (hl : XLim G σ → XLim G τ) (k : WW G (pc + 3) lv (ro.toList ++ st) τ) : WW G pc lv st0 σ := by
  intro H locs ls hJ h T hT X
  obtain ⟨v, st₀, t, T', L, h0, X', hL, e1, e2, ⟨hv, hP, hF⟩, go⟩ := hr H locs ls hJ h T hT X
  obtain rfl : v = ro := Outcome.returned.inj hv
  have c1 : xn σ - gn G + (xn τ - xn σ) = xn τ - gn G := by have := hJ.2.2.1.1; omega
  have c2 : xz σ - gz G + (xz τ - xz σ) = xz τ - gz G := by have := hJ.2.2.1.2; omega
  rw [c1, c2] at X'
  have hS : va_S (xA (gB G)) (gs G).heap T'.heap (locs ++ L) := by
    obtain ⟨f1, f2⟩ := hF
    rw [h0] at f1 f2
    refine ⟨Nat.le_trans hJ.2.1.1 (by rw [e1]; exact f1), fun q q1 q2 => ?_, fun q hq => ?_⟩
    · rw [e1, f2 q (Nat.lt_of_lt_of_le q1 hJ.2.1.1) q2]
      exact hJ.2.1.2.1 q q1 q2
    · rcases List.mem_append.mp hq with h9 | h9
      · exact hJ.2.1.2.2 q h9
      · exact hL q h9
  obtain ⟨t2, a1, b1⟩ := k T'.heap (locs ++ L) ls ⟨by rw [e1]; exact hP, hS, hl hJ.2.2⟩ h T' rfl X'
  exact ⟨t2, go t2 a1, b1⟩
theorem x_good {y : MethodName} {cb : ByteArray} {n : Nat} {ret : Option FieldType} (hcode : Cond.code y cb n ret ∈ lw_good) : GoodIn lw_good (.code y cb n ret :: lw_good) := fun w hw => by
  have h1 : w ∈ lw_good := by
    rcases List.mem_cons.mp hw with h | h
    · rw [h]; exact hcode
    · exact h
  exact ⟨h1, good_of_word (List.mem_filter.mp h1).2⟩
def XLm (own : String) (ix : Nat) (y : MethodName) : Prop := Cond.methodLink own ix y ∈ lw_good ∨ ∃ host, Cond.methodLinkNest own ix y host ∈ lw_nest
/-- what a call needs of the tables -/
def XCall (own : String) (ix : Nat) (y : MethodName) (cb : ByteArray) (mL n : Nat) (ret : Option FieldType) : Prop := XLm own ix y ∧ Cond.code y cb mL ret ∈ lw_good ∧ Cond.initialized y.cls ∈ lw_good ∧ y.cls ≠ "java/lang/invoke/MethodHandle" ∧ y.cls ≠ "java/lang/invoke/VarHandle" ∧ (parseMethodDescriptor y.desc).map (fun d => d.parameters.length) = some n
theorem x_blind {E : XD} {hb : Nat} {av : List Value} {σ : XS} : FrameBlind (va_Pc av (fun U => XP E hb σ U.heap ∧ XK E hb U)) := fun a U g mk q => ⟨q.1, q.2.1, q.2.2.same rfl rfl⟩
theorem x_lim {τ : XS} (h0 : XLim G σ) (hle : xn σ ≤ xn τ ∧ xz σ ≤ xz τ) (hl : XLim G τ) : xn σ - gn G + (xn τ - xn σ) ≤ (gR G).cells ∧ xz σ - gz G + (xz τ - xz σ) ≤ (gR G).slots := by
  obtain ⟨⟨a1, a2⟩, a3, a4⟩ := h0
  obtain ⟨⟨b1, b2⟩, b3, b4⟩ := hl
  omega
theorem ww_callV (C : XC G cc own rt nL fr lo) {ix mL n frc loc a c N : Nat} {y : MethodName} {cb : ByteArray} {ret : Option FieldType} {as : List Value} {ro : Option Value} {τ : XS} {T : u_T} (hM : XM (gl G) y cb mL ret frc loc (gE G) (gB G) (.ref (gB G + a) :: as) σ ro τ) (hcc : xcl[c]? = some (y.cls, T, N)) (hc9 : c < 20) (hX : XCall own ix y cb mL n ret) (hinst : Cond.instanceMethod y ∈ lw_good) (hsel : Cond.selects y.cls y y ∈ lw_good) (hT : xT σ a = c) (hn : as.length = n) (hroom : frc + 1 ≤ fr ∧ 8 + (mL + 11) + loc ≤ lo) (hstk : (st.map fun v => v.category).sum ≤ 8) (hle : xn σ ≤ xn τ ∧ xz σ ≤ xz τ) (hl : XLim G σ → XLim G τ) (hd : decode cc pc = .ok (.invokevirtual ix, 3)) (k : WW G (pc + 3) lv (ro.toList ++ st) τ) : WW G pc lv (as.reverse ++ .ref (gB G + a) :: st) σ := by
  obtain ⟨hlk, hcode, hini, hd1, hd2, hd3⟩ := hX
  refine ww_ofrun (a := (.ref (gB G + a) :: as).toArray) (fun H locs ls hJ h => ?_) hle hl k
  obtain ⟨hat, h0⟩ := hJ.obj hT hc9
  have hlen : ls.size = gL G := h.1
  have hroom2 : frc + 1 ≤ (gR G).frames ∧ 8 + (mL + 11) + loc ≤ (gR G).locals := by rw [C.hfr, C.hlo]; exact hroom
  have hp : PreV (gs G) H y.cls (gB G + a) (va_Pc (.ref (gB G + a) :: as) (fun U => XP (gE G) (gB G) σ U.heap ∧ XK (gE G) (gB G) U)) as := ⟨x_blind, va_recv C.hK.1 (va_P.one hat) hcc (q0 := 0) rfl, fun U hU hW => ⟨rfl, by rw [hU]; exact hJ.1, C.hK.warm hW (fun q q1 q2 => by rw [hU]; exact hJ.2.1.2.1 q q1 q2)⟩⟩
  rcases hlk with hlk | ⟨host, hlk⟩
  · exact va_runV (As := as) (rest := st) (C := y.cls) (n := n) ⟨C.hx, C.hb, C.hml, C.hown, C.hts⟩ hM ⟨callB_of n C.hts (x_good hcode) rfl rfl rfl (C.hts _ hini) (C.hts _ hlk) ⟨hd1, hd2, hd3⟩ hroom2, C.hts _ hinst, C.hts _ hsel⟩ hp rfl hn hlen rfl (lv_room hstk) hd (x_lim hJ.2.2 hle (hl hJ.2.2))
  · exact va_runVN (As := as) (rest := st) (C := y.cls) (n := n) ⟨C.hx, C.hb, C.hml, C.hown, C.hts⟩ hM ⟨va_cnB n C.hts (x_good hcode) rfl rfl rfl (C.hK.2.1 _ hlk) (C.hts _ hini) ⟨hd1, hd2, hd3⟩ hroom2, C.hts _ hinst, C.hts _ hsel⟩ hp rfl hn hlen rfl (lv_room hstk) hd (x_lim hJ.2.2 hle (hl hJ.2.2))
theorem ww_callS (C : XC G cc own rt nL fr lo) {ix mL n frc loc : Nat} {y : MethodName} {cb : ByteArray} {ret : Option FieldType} {as : List Value} {ro : Option Value} {τ : XS} (hM : XM (gl G) y cb mL ret frc loc (gE G) (gB G) as σ ro τ) (hX : XCall own ix y cb mL n ret) (hstat : Cond.static y ∈ lw_good) (hn : as.length = n) (hroom : frc + 1 ≤ fr ∧ 8 + (mL + 11) + loc ≤ lo) (hstk : (st.map fun v => v.category).sum ≤ 8) (hle : xn σ ≤ xn τ ∧ xz σ ≤ xz τ) (hl : XLim G σ → XLim G τ) (hd : decode cc pc = .ok (.invokestatic ix, 3)) (k : WW G (pc + 3) lv (ro.toList ++ st) τ) : WW G pc lv (as.reverse ++ st) σ := by
  obtain ⟨hlk, hcode, hini, hd1, hd2, hd3⟩ := hX
  refine ww_ofrun (a := as.toArray) (fun H locs ls hJ h => ?_) hle hl k
  have hlen : ls.size = gL G := h.1
  have hroom2 : frc + 1 ≤ (gR G).frames ∧ 8 + (mL + 11) + loc ≤ (gR G).locals := by rw [C.hfr, C.hlo]; exact hroom
  have hp : PreS (gs G) H (va_Pc as (fun U => XP (gE G) (gB G) σ U.heap ∧ XK (gE G) (gB G) U)) as := ⟨x_blind, fun U hU hW => ⟨rfl, by rw [hU]; exact hJ.1, C.hK.warm hW (fun q q1 q2 => by rw [hU]; exact hJ.2.1.2.1 q q1 q2)⟩⟩
  rcases hlk with hlk | ⟨host, hlk⟩
  · exact va_runS (As := as) (rest := st) (n := n) ⟨C.hx, C.hb, C.hml, C.hown, C.hts⟩ hM ⟨callB_of n C.hts (x_good hcode) rfl rfl rfl (C.hts _ hini) (C.hts _ hlk) ⟨hd1, hd2, hd3⟩ hroom2, C.hts _ hstat⟩ hp rfl hn hlen rfl (lv_room hstk) hd (x_lim hJ.2.2 hle (hl hJ.2.2))
  · exact va_runSN (As := as) (rest := st) (n := n) ⟨C.hx, C.hb, C.hml, C.hown, C.hts⟩ hM ⟨va_cnB n C.hts (x_good hcode) rfl rfl rfl (C.hK.2.1 _ hlk) (C.hts _ hini) ⟨hd1, hd2, hd3⟩ hroom2, C.hts _ hstat, trivial⟩ hp rfl hn hlen rfl (lv_room hstk) hd (x_lim hJ.2.2 hle (hl hJ.2.2))
theorem ww_callI (C : XC G cc own rt nL fr lo) {ix mL n frc loc a : Nat} {y : MethodName} {cb : ByteArray} {as : List Value} {ro : Option Value} {τ : XS} (hM : XM (gl G) y cb mL none frc loc (gE G) (gB G) (.ref (gB G + a) :: as) σ ro τ) (hX : XCall own ix y cb mL n none) (hy1 : y.name = "<init>") (hinst : Cond.instanceMethod y ∈ lw_good) (hn : as.length = n) (hroom : frc + 1 ≤ fr ∧ 8 + (mL + 11) + loc ≤ lo) (hstk : (st.map fun v => v.category).sum ≤ 8) (hle : xn σ ≤ xn τ ∧ xz σ ≤ xz τ) (hl : XLim G σ → XLim G τ) (hd : decode cc pc = .ok (.invokespecial ix, 3)) (k : WW G (pc + 3) lv (ro.toList ++ st) τ) : WW G pc lv (as.reverse ++ .ref (gB G + a) :: st) σ := by
  obtain ⟨hlk, hcode, hini, hd1, hd2, hd3⟩ := hX
  refine ww_ofrun (a := (.ref (gB G + a) :: as).toArray) (fun H locs ls hJ h => ?_) hle hl k
  have hlen : ls.size = gL G := h.1
  have hroom2 : frc + 1 ≤ (gR G).frames ∧ 8 + (mL + 11) + loc ≤ (gR G).locals := by rw [C.hfr, C.hlo]; exact hroom
  have hp : PreS (gs G) H (va_Pc (.ref (gB G + a) :: as) (fun U => XP (gE G) (gB G) σ U.heap ∧ XK (gE G) (gB G) U)) (.ref (gB G + a) :: as) := ⟨x_blind, fun U hU hW => ⟨rfl, by rw [hU]; exact hJ.1, C.hK.warm hW (fun q q1 q2 => by rw [hU]; exact hJ.2.1.2.1 q q1 q2)⟩⟩
  rcases hlk with hlk | ⟨host, hlk⟩
  · exact va_runI (As := as) (rest := st) (n := n) ⟨C.hx, C.hb, C.hml, C.hown, C.hts⟩ hM ⟨callB_of n C.hts (x_good hcode) rfl rfl rfl (C.hts _ hini) (C.hts _ hlk) ⟨hd1, hd2, hd3⟩ hroom2, hy1, C.hts _ hinst⟩ hp rfl hn hlen rfl (lv_room hstk) hd (x_lim hJ.2.2 hle (hl hJ.2.2))
  · exact va_runIN (As := as) (rest := st) (n := n) ⟨C.hx, C.hb, C.hml, C.hown, C.hts⟩ hM ⟨va_cnB n C.hts (x_good hcode) rfl rfl rfl (C.hK.2.1 _ hlk) (C.hts _ hini) ⟨hd1, hd2, hd3⟩ hroom2, hy1, C.hts _ hinst⟩ hp rfl hn hlen rfl (lv_room hstk) hd (x_lim hJ.2.2 hle (hl hJ.2.2))
theorem xsame.lim {τ : XS} (h : xsame σ τ) : XLim G σ → XLim G τ := fun q => by unfold XLim at q ⊢; rw [h.2.1, h.2.2]; exact q
theorem ww_objInit (C : XC G cc own rt nL fr lo) {ix a : Nat} (hlink : Cond.methodLink own ix Lib.objectInit ∈ lw_good) (hinst : Cond.instanceMethod Lib.objectInit ∈ lw_good) (hcode : Cond.code Lib.objectInit ⟨#[0xb1]⟩ 1 none ∈ lw_good) (hroom : 1 ≤ fr ∧ (st.map fun v => v.category).sum + 12 ≤ lo) (hd : decode cc pc = .ok (.invokespecial ix, 3)) (k : WW G (pc + 3) lv st σ) : WW G pc lv (.ref (gB G + a) :: st) σ := fun H locs ls hJ h => by
  have hlen : ls.size = gL G := h.1
  exact W.objInit C.hx C.hb C.hown (C.hts _ hlink) (C.hts _ hinst) (C.hts _ hcode) rfl (by rw [C.hml]; exact hlen) rfl hd (by rw [C.hfr]; exact hroom.1) (by show 2 * 0 + _ + 12 ≤ _; rw [C.hlo]; omega) (k H locs ls hJ h)
theorem ww_table (C : XC G cc own rt nL fr lo) {dflt lo' hi' : Int} {offs : Array Int} {len : Nat} {v : Int32} (hd : decode cc pc = .ok (.tableswitch dflt lo' hi' offs, len)) (kin : ∀ k : Nat, v.toInt = lo' + k → (k : Int) ≤ hi' - lo' → ∃ (tgt : Nat) (off : Int), offs[k]? = some off ∧ (pc : Int) + off = (tgt : Int) ∧ WW G tgt lv st σ) (kout : v.toInt < lo' ∨ hi' < v.toInt → ∃ tgt : Nat, (pc : Int) + dflt = (tgt : Int) ∧ WW G tgt lv st σ) : WW G pc lv (.int v :: st) σ := fun H locs ls hJ h => by
  by_cases ho : v.toInt < lo' ∨ hi' < v.toInt
  · obtain ⟨tgt, e, k⟩ := kout ho
    exact lv_tableOut C.hx C.hb hd ho e (k H locs ls hJ h)
  · obtain ⟨tgt, off, e1, e2, k⟩ := kin (v.toInt - lo').toNat (by omega) (by omega)
    exact lv_tableIn C.hx C.hb hd (by omega) (by omega) e1 e2 (k H locs ls hJ h)
theorem ww_callVi (C : XC G cc own rt nL fr lo) {ix mL n frc loc a c N : Nat} {y : MethodName} {cb : ByteArray} {ret : Option FieldType} {as : List Value} {v : Int32} {τ : XS} {T : u_T} (hM : XM (gl G) y cb mL ret frc loc (gE G) (gB G) (.ref (gB G + a) :: as) σ (some (.int v)) τ) (hcc : xcl[c]? = some (y.cls, T, N)) (hc9 : c < 20) (hX : XCall own ix y cb mL n ret) (hinst : Cond.instanceMethod y ∈ lw_good) (hsel : Cond.selects y.cls y y ∈ lw_good) (hT : xT σ a = c) (hn : as.length = n) (hroom : frc + 1 ≤ fr ∧ 8 + (mL + 11) + loc ≤ lo) (hstk : (st.map fun v => v.category).sum ≤ 8) (hle : xn σ ≤ xn τ ∧ xz σ ≤ xz τ) (hl : XLim G σ → XLim G τ) (hd : decode cc pc = .ok (.invokevirtual ix, 3)) (k : WW G (pc + 3) lv (.int v :: st) τ) : WW G pc lv (as.reverse ++ .ref (gB G + a) :: st) σ := ww_callV C hM hcc hc9 hX hinst hsel hT hn hroom hstk hle hl hd k
theorem ww_callVj (C : XC G cc own rt nL fr lo) {ix mL n frc loc a c N : Nat} {y : MethodName} {cb : ByteArray} {ret : Option FieldType} {as : List Value} {v : Int64} {τ : XS} {T : u_T} (hM : XM (gl G) y cb mL ret frc loc (gE G) (gB G) (.ref (gB G + a) :: as) σ (some (.long v)) τ) (hcc : xcl[c]? = some (y.cls, T, N)) (hc9 : c < 20) (hX : XCall own ix y cb mL n ret) (hinst : Cond.instanceMethod y ∈ lw_good) (hsel : Cond.selects y.cls y y ∈ lw_good) (hT : xT σ a = c) (hn : as.length = n) (hroom : frc + 1 ≤ fr ∧ 8 + (mL + 11) + loc ≤ lo) (hstk : (st.map fun v => v.category).sum ≤ 8) (hle : xn σ ≤ xn τ ∧ xz σ ≤ xz τ) (hl : XLim G σ → XLim G τ) (hd : decode cc pc = .ok (.invokevirtual ix, 3)) (k : WW G (pc + 3) lv (.long v :: st) τ) : WW G pc lv (as.reverse ++ .ref (gB G + a) :: st) σ := ww_callV C hM hcc hc9 hX hinst hsel hT hn hroom hstk hle hl hd k
theorem ww_callVr (C : XC G cc own rt nL fr lo) {ix mL n frc loc a c N : Nat} {y : MethodName} {cb : ByteArray} {ret : Option FieldType} {as : List Value} {v : Nat} {τ : XS} {T : u_T} (hM : XM (gl G) y cb mL ret frc loc (gE G) (gB G) (.ref (gB G + a) :: as) σ (some (xrv (gB G) v)) τ) (hcc : xcl[c]? = some (y.cls, T, N)) (hc9 : c < 20) (hX : XCall own ix y cb mL n ret) (hinst : Cond.instanceMethod y ∈ lw_good) (hsel : Cond.selects y.cls y y ∈ lw_good) (hT : xT σ a = c) (hn : as.length = n) (hroom : frc + 1 ≤ fr ∧ 8 + (mL + 11) + loc ≤ lo) (hstk : (st.map fun v => v.category).sum ≤ 8) (hle : xn σ ≤ xn τ ∧ xz σ ≤ xz τ) (hl : XLim G σ → XLim G τ) (hd : decode cc pc = .ok (.invokevirtual ix, 3)) (k : WW G (pc + 3) lv (xrv (gB G) v :: st) τ) : WW G pc lv (as.reverse ++ .ref (gB G + a) :: st) σ := ww_callV C hM hcc hc9 hX hinst hsel hT hn hroom hstk hle hl hd k
theorem ww_callVv (C : XC G cc own rt nL fr lo) {ix mL n frc loc a c N : Nat} {y : MethodName} {cb : ByteArray} {ret : Option FieldType} {as : List Value}  {τ : XS} {T : u_T} (hM : XM (gl G) y cb mL ret frc loc (gE G) (gB G) (.ref (gB G + a) :: as) σ none τ) (hcc : xcl[c]? = some (y.cls, T, N)) (hc9 : c < 20) (hX : XCall own ix y cb mL n ret) (hinst : Cond.instanceMethod y ∈ lw_good) (hsel : Cond.selects y.cls y y ∈ lw_good) (hT : xT σ a = c) (hn : as.length = n) (hroom : frc + 1 ≤ fr ∧ 8 + (mL + 11) + loc ≤ lo) (hstk : (st.map fun v => v.category).sum ≤ 8) (hle : xn σ ≤ xn τ ∧ xz σ ≤ xz τ) (hl : XLim G σ → XLim G τ) (hd : decode cc pc = .ok (.invokevirtual ix, 3)) (k : WW G (pc + 3) lv st τ) : WW G pc lv (as.reverse ++ .ref (gB G + a) :: st) σ := ww_callV C hM hcc hc9 hX hinst hsel hT hn hroom hstk hle hl hd k
theorem ww_callSi (C : XC G cc own rt nL fr lo) {ix mL n frc loc : Nat} {y : MethodName} {cb : ByteArray} {ret : Option FieldType} {as : List Value} {v : Int32} {τ : XS} (hM : XM (gl G) y cb mL ret frc loc (gE G) (gB G) as σ (some (.int v)) τ) (hX : XCall own ix y cb mL n ret) (hstat : Cond.static y ∈ lw_good) (hn : as.length = n) (hroom : frc + 1 ≤ fr ∧ 8 + (mL + 11) + loc ≤ lo) (hstk : (st.map fun v => v.category).sum ≤ 8) (hle : xn σ ≤ xn τ ∧ xz σ ≤ xz τ) (hl : XLim G σ → XLim G τ) (hd : decode cc pc = .ok (.invokestatic ix, 3)) (k : WW G (pc + 3) lv (.int v :: st) τ) : WW G pc lv (as.reverse ++ st) σ := ww_callS C hM hX hstat hn hroom hstk hle hl hd k
theorem ww_callSj (C : XC G cc own rt nL fr lo) {ix mL n frc loc : Nat} {y : MethodName} {cb : ByteArray} {ret : Option FieldType} {as : List Value} {v : Int64} {τ : XS} (hM : XM (gl G) y cb mL ret frc loc (gE G) (gB G) as σ (some (.long v)) τ) (hX : XCall own ix y cb mL n ret) (hstat : Cond.static y ∈ lw_good) (hn : as.length = n) (hroom : frc + 1 ≤ fr ∧ 8 + (mL + 11) + loc ≤ lo) (hstk : (st.map fun v => v.category).sum ≤ 8) (hle : xn σ ≤ xn τ ∧ xz σ ≤ xz τ) (hl : XLim G σ → XLim G τ) (hd : decode cc pc = .ok (.invokestatic ix, 3)) (k : WW G (pc + 3) lv (.long v :: st) τ) : WW G pc lv (as.reverse ++ st) σ := ww_callS C hM hX hstat hn hroom hstk hle hl hd k
theorem ww_callSr (C : XC G cc own rt nL fr lo) {ix mL n frc loc : Nat} {y : MethodName} {cb : ByteArray} {ret : Option FieldType} {as : List Value} {v : Nat} {τ : XS} (hM : XM (gl G) y cb mL ret frc loc (gE G) (gB G) as σ (some (xrv (gB G) v)) τ) (hX : XCall own ix y cb mL n ret) (hstat : Cond.static y ∈ lw_good) (hn : as.length = n) (hroom : frc + 1 ≤ fr ∧ 8 + (mL + 11) + loc ≤ lo) (hstk : (st.map fun v => v.category).sum ≤ 8) (hle : xn σ ≤ xn τ ∧ xz σ ≤ xz τ) (hl : XLim G σ → XLim G τ) (hd : decode cc pc = .ok (.invokestatic ix, 3)) (k : WW G (pc + 3) lv (xrv (gB G) v :: st) τ) : WW G pc lv (as.reverse ++ st) σ := ww_callS C hM hX hstat hn hroom hstk hle hl hd k
theorem ww_callSv (C : XC G cc own rt nL fr lo) {ix mL n frc loc : Nat} {y : MethodName} {cb : ByteArray} {ret : Option FieldType} {as : List Value}  {τ : XS} (hM : XM (gl G) y cb mL ret frc loc (gE G) (gB G) as σ none τ) (hX : XCall own ix y cb mL n ret) (hstat : Cond.static y ∈ lw_good) (hn : as.length = n) (hroom : frc + 1 ≤ fr ∧ 8 + (mL + 11) + loc ≤ lo) (hstk : (st.map fun v => v.category).sum ≤ 8) (hle : xn σ ≤ xn τ ∧ xz σ ≤ xz τ) (hl : XLim G σ → XLim G τ) (hd : decode cc pc = .ok (.invokestatic ix, 3)) (k : WW G (pc + 3) lv st τ) : WW G pc lv (as.reverse ++ st) σ := ww_callS C hM hX hstat hn hroom hstk hle hl hd k
theorem ww_callIv (C : XC G cc own rt nL fr lo) {ix mL n frc loc a : Nat} {y : MethodName} {cb : ByteArray} {as : List Value}  {τ : XS} (hM : XM (gl G) y cb mL none frc loc (gE G) (gB G) (.ref (gB G + a) :: as) σ none τ) (hX : XCall own ix y cb mL n none) (hy1 : y.name = "<init>") (hinst : Cond.instanceMethod y ∈ lw_good) (hn : as.length = n) (hroom : frc + 1 ≤ fr ∧ 8 + (mL + 11) + loc ≤ lo) (hstk : (st.map fun v => v.category).sum ≤ 8) (hle : xn σ ≤ xn τ ∧ xz σ ≤ xz τ) (hl : XLim G σ → XLim G τ) (hd : decode cc pc = .ok (.invokespecial ix, 3)) (k : WW G (pc + 3) lv st τ) : WW G pc lv (as.reverse ++ .ref (gB G + a) :: st) σ := ww_callI C hM hX hy1 hinst hn hroom hstk hle hl hd k
/-! the JDK's Math, a switch of two keys, a copy, arrays of references -/
def xmax (x y : Int32) : Int32 := if x < y then y else x
def xmin (x y : Int32) : Int32 := if y < x then y else x
def xabs (x : Int32) : Int32 := if 0 ≤ x then x else 0 - x
theorem XLim.now (h : XLim G σ) : xn σ - gn G ≤ (gR G).cells ∧ xz σ - gz G ≤ (gR G).slots := by
  obtain ⟨⟨a1, a2⟩, a3, a4⟩ := h
  omega
theorem ww_mmax (C : XC G cc own rt nL fr lo) {ix : Nat} {x y : Int32} (hl : Cond.methodLink own ix Lib.Math.max.name ∈ lw_good) (hs : Cond.static Lib.Math.max.name ∈ lw_good) (hi : Cond.initialized "java/lang/Math" ∈ lw_good) (hc : Cond.code Lib.Math.max.name Lib.Math.max.code 2 (some .int) ∈ lw_good) (hroom : 1 ≤ fr ∧ (st.map fun v => v.category).sum + 13 ≤ lo) (hd : decode cc pc = .ok (.invokestatic ix, 3)) (k : WW G (pc + 3) lv (.int (xmax x y) :: st) σ) : WW G pc lv (.int y :: .int x :: st) σ := fun H locs ls hJ h => by
  have hlen : ls.size = gL G := h.1
  exact va_mmax C.hx C.hb (by rw [C.hml]; exact hlen.symm) C.hown (C.hts _ hl) (C.hts _ hs) (C.hts _ hi) (C.hts _ hc) (by rw [C.hfr]; exact hroom.1) (by rw [C.hlo]; exact hroom.2) hJ.2.2.now.1 hJ.2.2.now.2 hd (k H locs ls hJ h)
theorem ww_mmin (C : XC G cc own rt nL fr lo) {ix : Nat} {x y : Int32} (hl : Cond.methodLink own ix Lib.Math.min.name ∈ lw_good) (hs : Cond.static Lib.Math.min.name ∈ lw_good) (hi : Cond.initialized "java/lang/Math" ∈ lw_good) (hc : Cond.code Lib.Math.min.name Lib.Math.min.code 2 (some .int) ∈ lw_good) (hroom : 1 ≤ fr ∧ (st.map fun v => v.category).sum + 13 ≤ lo) (hd : decode cc pc = .ok (.invokestatic ix, 3)) (k : WW G (pc + 3) lv (.int (xmin x y) :: st) σ) : WW G pc lv (.int y :: .int x :: st) σ := fun H locs ls hJ h => by
  have hlen : ls.size = gL G := h.1
  exact va_mmin C.hx C.hb (by rw [C.hml]; exact hlen.symm) C.hown (C.hts _ hl) (C.hts _ hs) (C.hts _ hi) (C.hts _ hc) (by rw [C.hfr]; exact hroom.1) (by rw [C.hlo]; exact hroom.2) hJ.2.2.now.1 hJ.2.2.now.2 hd (k H locs ls hJ h)
theorem ww_mabs (C : XC G cc own rt nL fr lo) {ix : Nat} {x : Int32} (hl : Cond.methodLink own ix Lib.Math.abs.name ∈ lw_good) (hs : Cond.static Lib.Math.abs.name ∈ lw_good) (hi : Cond.initialized "java/lang/Math" ∈ lw_good) (hc : Cond.code Lib.Math.abs.name Lib.Math.abs.code 1 (some .int) ∈ lw_good) (hroom : 1 ≤ fr ∧ (st.map fun v => v.category).sum + 13 ≤ lo) (hd : decode cc pc = .ok (.invokestatic ix, 3)) (k : WW G (pc + 3) lv (.int (xabs x) :: st) σ) : WW G pc lv (.int x :: st) σ := fun H locs ls hJ h => by
  have hlen : ls.size = gL G := h.1
  exact va_mabs C.hx C.hb (by rw [C.hml]; exact hlen.symm) C.hown (C.hts _ hl) (C.hts _ hs) (C.hts _ hi) (C.hts _ hc) (by rw [C.hfr]; exact hroom.1) (by rw [C.hlo]; exact hroom.2) hJ.2.2.now.1 hJ.2.2.now.2 hd (k H locs ls hJ h)
theorem xtoInt {v w : Int32} (h : v.toInt = w.toInt) : v = w := Int32.toInt_inj.mp h
theorem ww_look2 (C : XC G cc own rt nL fr lo) {dflt o0 o1 : Int} {t0 t1 td len : Nat} {v : Int32} (hd : decode cc pc = .ok (.lookupswitch dflt #[(0, o0), (1, o1)], len)) (h0 : (pc : Int) + o0 = (t0 : Int)) (h1 : (pc : Int) + o1 = (t1 : Int)) (h2 : (pc : Int) + dflt = (td : Int)) (k0 : v = 0 → WW G t0 lv st σ) (k1 : ¬ v = 0 → v = 1 → WW G t1 lv st σ) (k2 : ¬ v = 0 → ¬ v = 1 → WW G td lv st σ) : WW G pc lv (.int v :: st) σ := fun H locs ls hJ h => by
  have hp : ((#[(0, o0), (1, o1)] : Array (Int × Int)).toList.zip ((#[(0, o0), (1, o1)] : Array (Int × Int)).toList.drop 1)).all (fun (a, next) => a.1 < next.1) = true := rfl
  by_cases q0 : v = 0
  · subst q0
    exact lv_lookup C.hx C.hb hd hp (by simp [Op.lookupswitch.offset]) h0 (k0 rfl H locs ls hJ h)
  · by_cases q1 : v = 1
    · subst q1
      exact lv_lookup C.hx C.hb hd hp (by simp [Op.lookupswitch.offset]) h1 (k1 q0 rfl H locs ls hJ h)
    · have e0 : ¬ (0 : Int) = v.toInt := fun e => q0 (xtoInt (by rw [← e]; rfl))
      have e1 : ¬ (1 : Int) = v.toInt := fun e => q1 (xtoInt (by rw [← e]; rfl))
      exact lv_lookup C.hx C.hb hd hp (by simp [Op.lookupswitch.offset, e0, e1]) h2 (k2 q0 q1 H locs ls hJ h)
def xurI (σ : XS) (b : Nat) (f : Nat → Int32) : XS := (σ.1, fun c j => if c = b then f j else σ.2.1 c j, σ.2.2)
def xcp (σ : XS) (a : Nat) (sp : Int32) (b : Nat) (dp n : Int32) : Option XS := if xT σ a = 20 ∧ xT σ b = 20 ∧ ¬ sp < 0 ∧ ¬ dp < 0 ∧ ¬ n < 0 ∧ sp.toNatClampNeg + n.toNatClampNeg ≤ xlen σ a ∧ dp.toNatClampNeg + n.toNatClampNeg ≤ xlen σ b then some (xurI σ b (va_cpy (xI σ a) (xI σ b) sp.toNatClampNeg dp.toNatClampNeg n.toNatClampNeg)) else none
theorem xcp_spec {a b : Nat} {sp dp n : Int32} {τ : XS} (e : xcp σ a sp b dp n = some τ) : (xT σ a = 20 ∧ xT σ b = 20 ∧ ¬ sp < 0 ∧ ¬ dp < 0 ∧ ¬ n < 0 ∧ sp.toNatClampNeg + n.toNatClampNeg ≤ xlen σ a ∧ dp.toNatClampNeg + n.toNatClampNeg ≤ xlen σ b) ∧ xurI σ b (va_cpy (xI σ a) (xI σ b) sp.toNatClampNeg dp.toNatClampNeg n.toNatClampNeg) = τ := by
  unfold xcp at e
  split at e
  · next h => exact ⟨h, Option.some.inj e⟩
  · cases e
theorem xcp_same {a b : Nat} {sp dp n : Int32} {τ : XS} (e : xcp σ a sp b dp n = some τ) : xsame σ τ := by
  obtain ⟨-, rfl⟩ := xcp_spec e
  exact ⟨rfl, rfl, rfl⟩
theorem ww_copy (C : XC G cc own rt nL fr lo) {ix a b : Nat} {sp dp n : Int32} {τ : XS} (hl : Cond.methodLink own ix arraycopyName ∈ lw_good) (hna : Cond.native arraycopyName ∈ lw_good) (hs : Cond.static arraycopyName ∈ lw_good) (hi : Cond.initialized "java/lang/System" ∈ lw_good) (hroom : 1 ≤ fr ∧ (st.map fun v => v.category).sum + (nativeFrameWords "java/lang/System" "arraycopy" 5 + 11) ≤ lo) (e : xcp σ a sp b dp n = some τ) (hd : decode cc pc = .ok (.invokestatic ix, 3)) (k : WW G (pc + 3) lv st τ) : WW G pc lv (.int n :: .int dp :: .ref (gB G + b) :: .int sp :: .ref (gB G + a) :: st) σ := by
  intro H locs ls hJ h T hT X
  obtain ⟨⟨hTa, hTb, h1, h2, h3, h4, h5⟩, rfl⟩ := xcp_spec e
  obtain ⟨hata, ha0⟩ := hJ.arrI hTa (by omega)
  obtain ⟨hatb, hb0⟩ := hJ.arrI hTb (by omega)
  have nn : ∀ z : Int32, ¬ z < 0 → z.toInt = (z.toNatClampNeg : Int) := by
    intro z hz
    have hz0 : (0 : Int) ≤ z.toInt := by
      have := Int32.not_lt.mp hz
      simpa using Int32.le_iff_toInt_le.mp this
    show z.toInt = ((z.toInt.toNat : Nat) : Int)
    omega
  have hc0 : H[gB G + a]? = some (vp_cell ((gE G).2.1 20) (xlen σ a, .inl (xI σ a))) := hata
  have hc1 : H[gB G + b]? = some (vp_cell ((gE G).2.1 20) (xlen σ b, .inl (xI σ b))) := hatb
  obtain ⟨-, k0, hk0, cm0, hkk0⟩ := (C.hK.1.2 0 _ rfl).1 (xlen σ a) (fun j => .int (xI σ a j))
  obtain ⟨-, k1, hk1, cm1, hkk1⟩ := (C.hK.1.2 0 _ rfl).1 (xlen σ b) (fun j => .int (xI σ b j))
  have hlen : ls.size = gL G := h.1
  obtain ⟨vm', X', step⟩ := X.arraycopy C.hx C.hown (C.hts _ hl) (C.hts _ hna) (C.hts _ hs) (C.hts _ hi) (src := gB G + a) (dst := gB G + b) (cs := vp_cell ((gE G).2.1 20) (xlen σ a, .inl (xI σ a))) (cd := vp_cell ((gE G).2.1 20) (xlen σ b, .inl (xI σ b))) (srcPos := sp) (destPos := dp) (n := n) (by rw [hT]; exact hc0) (by rw [hT]; exact hc1)
    (fun _ h => by cases h) (fun _ h => by cases h) (fun h => by cases h) (fun h => by cases h) hk0 hk1 hkk0 hkk1 (by simp [refKind]) h1 h2 h3
    (by rw [nn sp h1, nn n h3]; show ¬ _ > ((arrV ((gE G).2.1 20) (xlen σ a) (fun j => .int (xI σ a j))).slots.size : Int); rw [arrV_size]; omega)
    (by rw [nn dp h2, nn n h3]; show ¬ _ > ((arrV ((gE G).2.1 20) (xlen σ b) (fun j => .int (xI σ b j))).slots.size : Int); rw [arrV_size]; omega)
    (fun vm₁ _ i hi => by
      have e : (vp_cell ((gE G).2.1 20) (xlen σ a, .inl (xI σ a))).slots.getD (sp.toNatClampNeg + i) .null = .int (xI σ a (sp.toNatClampNeg + i)) := by
        show (arrV ((gE G).2.1 20) (xlen σ a) (fun j => .int (xI σ a j))).slots.getD _ _ = _
        rw [Array.getD_eq_getD_getElem?, arrV_read _ _ (by omega)]
        rfl
      refine ⟨?_, ?_⟩
      · rw [e]
        rfl
      · rw [e]
        exact trivial)
    (g := F0 (gm G) pc ls (.int n :: .int dp :: .ref (gB G + b) :: .int sp :: .ref (gB G + a) :: st)) rfl (by rw [C.hml]; exact hlen) (rest := st) rfl (by rw [C.hb]; exact hd) (by rw [C.hfr]; exact hroom.1) (by show 2 * 0 + _ + _ ≤ _; rw [C.hlo]; omega)
  have e1 : copied (vp_cell ((gE G).2.1 20) (xlen σ a, .inl (xI σ a))) (vp_cell ((gE G).2.1 20) (xlen σ b, .inl (xI σ b))) sp dp n = vp_cell ((gE G).2.1 20) (xlen σ b, .inl (va_cpy (xI σ a) (xI σ b) sp.toNatClampNeg dp.toNatClampNeg n.toNatClampNeg)) := va_copied (fun z => .int z) _ _ (xI σ a) (xI σ b) h4
  rw [e1] at X' step
  have hl : gB G + b < H.size := (Array.getElem?_eq_some_iff.mp hc1).1
  generalize hC : vp_cell ((gE G).2.1 20) (xlen σ b, .inl (va_cpy (xI σ a) (xI σ b) sp.toNatClampNeg dp.toNatClampNeg n.toNatClampNeg)) = cell at X' step
  have hheap : ((T.setVm vm').setCell (gB G + b) cell).heap = H.setIfInBounds (gB G + b) cell := by rw [← hT]; rfl
  have oq : ∀ q : Nat, q ≠ gB G + b → (H.setIfInBounds (gB G + b) cell)[q]? = H[q]? := fun q hq => by simp [Array.getElem?_setIfInBounds, Ne.symm hq]
  have eq1 : (H.setIfInBounds (gB G + b) cell)[gB G + b]? = some cell := by simp [Array.getElem?_setIfInBounds, hl]
  have hz : (H.setIfInBounds (gB G + b) cell).size = H.size := by simp
  have hP1 : XP (gE G) (gB G) (xurI σ b (va_cpy (xI σ a) (xI σ b) sp.toNatClampNeg dp.toNatClampNeg n.toNatClampNeg)) (H.setIfInBounds (gB G + b) cell) := by
    refine XP.one (a := b) hJ.1 (by omega) rfl rfl (fun c hc j' => ?_) (fun c hc j' => rfl) (fun c hc j' => rfl) hz oq ?_
    · show (if c = b then _ else σ.2.1 c j') = _
      rw [if_neg hc]; rfl
    · have hT' : xT (xurI σ b (va_cpy (xI σ a) (xI σ b) sp.toNatClampNeg dp.toNatClampNeg n.toNatClampNeg)) b = 20 := hTb
      have h9 : xe (gE G) (gB G) (xurI σ b (va_cpy (xI σ a) (xI σ b) sp.toNatClampNeg dp.toNatClampNeg n.toNatClampNeg)) b = .inl ((gE G).2.1 20, xlen σ b, .inl (va_cpy (xI σ a) (xI σ b) sp.toNatClampNeg dp.toNatClampNeg n.toNatClampNeg)) := by
        unfold xe
        rw [hT', if_neg (by omega), if_neg (by omega), if_pos (by omega)]
        have : xI (xurI σ b (va_cpy (xI σ a) (xI σ b) sp.toNatClampNeg dp.toNatClampNeg n.toNatClampNeg)) b = va_cpy (xI σ a) (xI σ b) sp.toNatClampNeg dp.toNatClampNeg n.toNatClampNeg := by
          funext j
          show (if b = b then _ else _) = _
          rw [if_pos rfl]
        rw [this]
        rfl
      rw [h9]
      show _ = some (vp_cell _ _)
      rw [hC]
      exact eq1
  obtain ⟨t, a1, b1⟩ := k _ _ ls ⟨hP1, ⟨by rw [hz]; exact hJ.2.1.1, fun q g1 g2 => by
      rw [oq q (fun e => g2 (by rw [e]; show gB G < gB G + b; omega))]
      exact hJ.2.1.2.1 q g1 g2, fun q hq => by
      rcases List.mem_append.mp hq with h | h
      · exact hJ.2.1.2.2 q h
      · obtain ⟨z, -, hz⟩ := List.mem_map.mp h
        rw [← hz]
        show gB G < gB G + b
        omega⟩, hJ.2.2⟩ h _ hheap X'
  exact ⟨t, step t a1, b1⟩
theorem x_aast (C : XC G cc own rt nL fr lo) (q c t0 : Nat) {r : vw_C} {a v : Nat} {i : Int32} {τ : XS} (hq : q = 24 ∨ q = 25) (ht : (xtys (gE G))[t0]? = some ((gE G).2.1 q, .object r.1)) (hc : xcl[c]? = some r) (hc9 : c < 20) (e : xsR σ q c a i v = some τ) (hd : decode cc pc = .ok (.aastore, 1)) (k : WW G (pc + 1) lv st τ) : WW G pc lv (.ref (gB G + v) :: .int i :: .ref (gB G + a) :: st) σ := fun H locs ls hJ h => by
  obtain ⟨hT, hTv, hin, rfl⟩ := xsR_spec e
  obtain ⟨hat, h0⟩ := hJ.arrR hT (by omega)
  obtain ⟨hatv, hv0⟩ := hJ.obj hTv hc9
  have hlt : i.toNatClampNeg < xlen σ a := Nat.not_le.mp fun q => hin (Or.inr q)
  have hi0 : ¬ i < 0 := fun q => hin (Or.inl q)
  obtain ⟨r', hr', cellV, g1, g2, g3, -⟩ := hatv
  have hcls := (C.hK.1.1 c r hc).2
  obtain ⟨kA, comp, k1, k2, k3, -⟩ := (C.hK.1.2 t0 _ ht).2
  have hcomp : comp = (gE G).1.1 c := Option.some.inj (k3.symm.trans hcls.1)
  subst hcomp
  obtain ⟨kC, hkC, -⟩ := hcls.2
  refine W.aast C.hx C.hb hat (fun q h => by cases h) (fun h => by cases h) k1 k2 rfl hkC ⟨hi0, by show _ < (arrV _ _ _).slots.size; rw [arrV_size]; exact hlt⟩ g1 (fun q h => by rw [g3] at h; cases h) (by rw [g2]; exact hkC) (by rw [g2]; exact va_assign hcls) rfl rfl hd fun H1 e1 z oq => ?_
  refine k H1 _ ls (hJ.upd ?_ h0 z oq rfl rfl) h
  refine XP.one hJ.1 (by omega) rfl rfl (fun b hb j' => rfl) (fun b hb j' => xup_ne hb) (fun b hb j' => rfl) z oq ?_
  have h3 : xe (gE G) (gB G) (xuR σ a i.toNatClampNeg v) a = .inl ((gE G).2.1 q, xlen σ a, .inr (.inr (.inr (.inr (fun j => xrf (gB G) (xR (xuR σ a i.toNatClampNeg v) a j)))))) := by
    have hT' : xT (xuR σ a i.toNatClampNeg v) a = q := hT
    unfold xe
    rw [hT', if_neg (by omega), if_neg (by omega), if_neg (by omega)]
    rfl
  rw [h3]
  show H1[gB G + a]? = some (vp_cell _ _)
  rw [e1]
  rw [vp_cell_q, vp_cell_q, arrV_store]
  congr 2
  funext j
  show updV _ _ _ j = va_rf (xrf (gB G) (xup _ _ _ _ a j))
  rw [xup_row]
  by_cases hj : j = i.toNatClampNeg
  · simp only [updV, hj, if_true]
    exact (xrv_pos hv0).symm
  · simp [updV, hj]
    rfl
theorem ww_aast24 (C : XC G cc own rt nL fr lo) {a v : Nat} {i : Int32} {τ : XS} (e : xsR σ 24 6 a i v = some τ) (hd : decode cc pc = .ok (.aastore, 1)) (k : WW G (pc + 1) lv st τ) : WW G pc lv (.ref (gB G + v) :: .int i :: .ref (gB G + a) :: st) σ := x_aast C 24 6 4 (r := (RX6, TX6, 8)) (by decide) rfl rfl (by decide) e hd k
theorem ww_aast25 (C : XC G cc own rt nL fr lo) {a v : Nat} {i : Int32} {τ : XS} (e : xsR σ 25 7 a i v = some τ) (hd : decode cc pc = .ok (.aastore, 1)) (k : WW G (pc + 1) lv st τ) : WW G pc lv (.ref (gB G + v) :: .int i :: .ref (gB G + a) :: st) σ := x_aast C 25 7 5 (r := (RX7, TX7, 4)) (by decide) rfl rfl (by decide) e hd k
theorem x_anew (C : XC G cc own rt nL fr lo) (c t0 : Nat) {ix q : Nat} {Cn : String} {i : Int32} {τ : XS} (hc : c = 24 ∨ c = 25) (ht : (xtys (gE G))[t0]? = some ((gE G).2.1 c, .object Cn)) (hao : va_AO Cn (gs G)) (hcl : Cond.classLink own ix Cn ∈ lw_good) (e : xnA σ c i = some (q, τ)) (hl : XLim G σ → XLim G τ) (hd : decode cc pc = .ok (.anewarray ix, 3)) (k : WW G (pc + 3) lv (.ref (gB G + q) :: st) τ) : WW G pc lv (.int i :: st) σ := fun H locs ls hJ h => by
  obtain ⟨hi, hN, rfl, rfl⟩ := xnA_spec e
  have hl := hl hJ.2.2
  obtain ⟨⟨e1, e2⟩, r1, r2⟩ := XLim.grow hJ.2.2 hl
  have hsz := hJ.1.1
  refine W.anew C.hx C.hb C.hown (C.hts _ hcl) (va_AO.use hao) rfl hd rfl hi (Nat.le_trans (Nat.mul_le_mul hN (Nat.le_refl 4)) (Nat.le_of_ble_eq_true rfl)) r1 r2 fun cA kA comp f1 f2 f3 f4 => ?_
  rw [e1, e2]
  generalize hH1 : H.push ({ cls := cA, slots := Array.replicate i.toNatClampNeg .null, vm := .none } : Cell) = H1
  have z1 : H1.size = H.size + 1 := by rw [← hH1, Array.size_push]
  have g1 : H1[H.size]? = some (arrV cA i.toNatClampNeg (fun _ => .null)) := by rw [← hH1, Array.getElem?_push_size, ← arrV_new]
  have o1 : ∀ q : Nat, q < H.size → H1[q]? = H[q]? := fun q hq => by rw [← hH1, Array.getElem?_push, if_neg (Nat.ne_of_lt hq)]
  obtain ⟨-, -, -, -, -, hNm⟩ := (C.hK.1.2 t0 _ ht).2
  have hcA : cA = (gE G).2.1 c := Option.some.inj (f1.symm.trans hNm)
  subst hcA
  have hP1 : XP (gE G) (gB G) (xnew σ c i.toNatClampNeg i.toNatClampNeg) H1 := by
    refine XP.new hJ.1 (by omega) z1 o1 ?_
    have h3 : xe (gE G) (gB G) (xnew σ c i.toNatClampNeg i.toNatClampNeg) (xn σ + 1) = .inl ((gE G).2.1 c, i.toNatClampNeg, .inr (.inr (.inr (.inr (fun j => xrf (gB G) (xR (xnew σ c i.toNatClampNeg i.toNatClampNeg) (xn σ + 1) j)))))) := by
      unfold xe
      rw [xT_new, xlen_new, if_neg (by omega), if_neg (by omega), if_neg (by omega)]
    rw [h3]
    show H1[gB G + (xn σ + 1)]? = some (vp_cell _ _)
    rw [vp_cell_q]
    have : gB G + (xn σ + 1) = H.size := by omega
    rw [this, g1]
    congr 2
    funext j
    rw [xR_new]
    rfl
  have hk := k H1 locs ls (hJ.new hP1 z1 o1 hl) h
  have : gB G + (xn σ + 1) = H.size := by omega
  rw [this] at hk
  exact hk
theorem ww_anew24 (C : XC G cc own rt nL fr lo) {ix q : Nat} {i : Int32} {τ : XS} (hcl : Cond.classLink own ix RX6 ∈ lw_good) (e : xnA σ 24 i = some (q, τ)) (hl : XLim G σ → XLim G τ) (hd : decode cc pc = .ok (.anewarray ix, 3)) (k : WW G (pc + 3) lv (.ref (gB G + q) :: st) τ) : WW G pc lv (.int i :: st) σ := x_anew C 24 4 (by decide) rfl C.hK.2.2.1.1 hcl e hl hd k
theorem ww_anew25 (C : XC G cc own rt nL fr lo) {ix q : Nat} {i : Int32} {τ : XS} (hcl : Cond.classLink own ix RX7 ∈ lw_good) (e : xnA σ 25 i = some (q, τ)) (hl : XLim G σ → XLim G τ) (hd : decode cc pc = .ok (.anewarray ix, 3)) (k : WW G (pc + 3) lv (.ref (gB G + q) :: st) τ) : WW G pc lv (.int i :: st) σ := x_anew C 25 5 (by decide) rfl C.hK.2.2.1.2 hcl e hl hd k
theorem ww_nn {r : Nat} (h : r ≠ 0) (k : WW G pc lv (.ref (gB G + r) :: st) σ) : WW G pc lv (xrv (gB G) r :: st) σ := by rw [xrv_pos h]; exact k
def XUp (G : XG) (σ : XS) : Prop := xn σ ≤ gn G + (gR G).cells ∧ xz σ ≤ gz G + (gR G).slots
theorem XUp.fin {τ υ : XS} (h2 : xext τ υ) (h3 : XUp G υ) : XUp G τ := ⟨Nat.le_trans h2.1.1 h3.1, Nat.le_trans h2.1.2 h3.2⟩
theorem XLim.mid {τ υ : XS} (h : XLim G σ) (h1 : xext σ τ) (h2 : xext τ υ) (h3 : XUp G υ) : XLim G τ := ⟨⟨Nat.le_trans h.1.1 h1.1.1, Nat.le_trans h.1.2 h1.1.2⟩, XUp.fin h2 h3⟩
theorem xnc1 {α β : Type} {a : α} {b : β} {P : Prop} (e : (Sum.inl a : α ⊕ β) = .inr b) : P := by cases e
theorem xnc2 {α β : Type} {a : α} {b : β} {P : Prop} (e : (Sum.inr b : α ⊕ β) = .inl a) : P := by cases e
end XROWS
