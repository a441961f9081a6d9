/-! reading a changed heap -/
section HEAP
variable {σ : XS} {a b j k : Nat}
theorem hT_uI {v : Int32} : xT (xuI σ a j v) b = xT σ b := rfl
theorem hT_uL {v : Int64} : xT (xuL σ a j v) b = xT σ b := rfl
theorem hT_uR {v : Nat} : xT (xuR σ a j v) b = xT σ b := rfl
theorem hT_ur {f : Nat → Int32} : xT (xurI σ a f) b = xT σ b := rfl
theorem hl_uI {v : Int32} : xlen (xuI σ a j v) b = xlen σ b := rfl
theorem hl_uL {v : Int64} : xlen (xuL σ a j v) b = xlen σ b := rfl
theorem hl_uR {v : Nat} : xlen (xuR σ a j v) b = xlen σ b := rfl
theorem hl_ur {f : Nat → Int32} : xlen (xurI σ a f) b = xlen σ b := rfl
theorem hn_uI {v : Int32} : xn (xuI σ a j v) = xn σ := rfl
theorem hn_uL {v : Int64} : xn (xuL σ a j v) = xn σ := rfl
theorem hn_uR {v : Nat} : xn (xuR σ a j v) = xn σ := rfl
theorem hn_ur {f : Nat → Int32} : xn (xurI σ a f) = xn σ := rfl
theorem hn_new {q len w : Nat} : xn (xnew σ q len w) = xn σ + 1 := rfl
theorem hz_uI {v : Int32} : xz (xuI σ a j v) = xz σ := rfl
theorem hz_uL {v : Int64} : xz (xuL σ a j v) = xz σ := rfl
theorem hz_uR {v : Nat} : xz (xuR σ a j v) = xz σ := rfl
theorem hz_ur {f : Nat → Int32} : xz (xurI σ a f) = xz σ := rfl
theorem hI_uI {v : Int32} : xI (xuI σ a j v) b k = if b = a ∧ k = j then v else xI σ b k := rfl
theorem hI_uL {v : Int64} : xI (xuL σ a j v) b k = xI σ b k := rfl
theorem hI_uR {v : Nat} : xI (xuR σ a j v) b k = xI σ b k := rfl
theorem hI_ur {f : Nat → Int32} : xI (xurI σ a f) b k = if b = a then f k else xI σ b k := rfl
theorem hL_uI {v : Int32} : xL (xuI σ a j v) b k = xL σ b k := rfl
theorem hL_uL {v : Int64} : xL (xuL σ a j v) b k = if b = a ∧ k = j then v else xL σ b k := rfl
theorem hL_uR {v : Nat} : xL (xuR σ a j v) b k = xL σ b k := rfl
theorem hL_ur {f : Nat → Int32} : xL (xurI σ a f) b k = xL σ b k := rfl
theorem hR_uI {v : Int32} : xR (xuI σ a j v) b k = xR σ b k := rfl
theorem hR_uL {v : Int64} : xR (xuL σ a j v) b k = xR σ b k := rfl
theorem hR_uR {v : Nat} : xR (xuR σ a j v) b k = if b = a ∧ k = j then v else xR σ b k := rfl
theorem hR_ur {f : Nat → Int32} : xR (xurI σ a f) b k = xR σ b k := rfl
theorem hT_new {q len w : Nat} : xT (xnew σ q len w) b = if b = xn σ + 1 then q else xT σ b := by
  show (if b = xn σ + 1 then (q, len) else σ.1 b).1 = _
  split <;> rfl
theorem hl_new {q len w : Nat} : xlen (xnew σ q len w) b = if b = xn σ + 1 then len else xlen σ b := by
  show (if b = xn σ + 1 then (q, len) else σ.1 b).2 = _
  split <;> rfl
theorem hI_new {q len w : Nat} : xI (xnew σ q len w) b k = if b = xn σ + 1 then 0 else xI σ b k := rfl
theorem hL_new {q len w : Nat} : xL (xnew σ q len w) b k = if b = xn σ + 1 then 0 else xL σ b k := rfl
theorem hR_new {q len w : Nat} : xR (xnew σ q len w) b k = if b = xn σ + 1 then 0 else xR σ b k := rfl
theorem xgI_ok {c : Nat} (h : xT σ a = c) : xgI σ a c j = some (xI σ a j) := by unfold xgI; rw [if_pos h]
theorem xgR_ok {c : Nat} (h : xT σ a = c) (h0 : xR σ a j ≠ 0) : xgR σ a c j = some (xR σ a j) := by unfold xgR; rw [if_pos ⟨h, h0⟩]
theorem xgR_to {c v : Nat} (h : xT σ a = c) (hv : xR σ a j = v) (h0 : v ≠ 0) : xgR σ a c j = some v := by subst hv; exact xgR_ok h h0
theorem xgN_ok {c : Nat} (h : xT σ a = c) : xgN σ a c j = some (xR σ a j) := by unfold xgN; rw [if_pos h]
theorem xpI_ok {c : Nat} {v : Int32} (h : xT σ a = c) : xpI σ a c j v = some (xuI σ a j v) := by unfold xpI; rw [if_pos h]
theorem xpR_ok {c v : Nat} (h : xT σ a = c) : xpR σ a c j v = some (xuR σ a j v) := by unfold xpR; rw [if_pos h]
theorem xal_ok (h : 20 ≤ xT σ a ∧ xT σ a ≤ 25) : xal σ a = some (nI (xlen σ a)) := by unfold xal; rw [if_pos h]; rfl
theorem xin_ok {i n : Nat} (h : i < n) (hn : n < 2 ^ 31) : ¬ (nI i < 0 ∨ n ≤ (nI i).toNatClampNeg) := by
  rw [nI_clamp (by omega)]
  intro q
  rcases q with q | q
  · exact nI_pos (by omega) q
  · omega
theorem xaI_ok {q i n : Nat} (h : xT σ a = q) (hl : xlen σ a = n) (hi : i < n) (hn : n < 2 ^ 31) : xaI σ q a (nI i) = some (xI σ a i) := by
  unfold xaI
  rw [if_pos ⟨h, by rw [hl]; exact xin_ok hi hn⟩, nI_clamp (by omega)]
theorem xsI_ok {q i n : Nat} {v : Int32} (h : xT σ a = q) (hl : xlen σ a = n) (hi : i < n) (hn : n < 2 ^ 31) : xsI σ q a (nI i) v = some (xuI σ a i v) := by
  unfold xsI
  rw [if_pos ⟨h, by rw [hl]; exact xin_ok hi hn⟩, nI_clamp (by omega)]
theorem xaL_ok {i n : Nat} (h : xT σ a = 23) (hl : xlen σ a = n) (hi : i < n) (hn : n < 2 ^ 31) : xaL σ a (nI i) = some (xL σ a i) := by
  unfold xaL
  rw [if_pos ⟨h, by rw [hl]; exact xin_ok hi hn⟩, nI_clamp (by omega)]
theorem xsL_ok {i n : Nat} {v : Int64} (h : xT σ a = 23) (hl : xlen σ a = n) (hi : i < n) (hn : n < 2 ^ 31) : xsL σ a (nI i) v = some (xuL σ a i v) := by
  unfold xsL
  rw [if_pos ⟨h, by rw [hl]; exact xin_ok hi hn⟩, nI_clamp (by omega)]
theorem xaR_ok {q i n : Nat} (h : xT σ a = q) (hl : xlen σ a = n) (hi : i < n) (hn : n < 2 ^ 31) (h0 : xR σ a i ≠ 0) : xaR σ q a (nI i) = some (xR σ a i) := by
  unfold xaR
  have e : (nI i).toNatClampNeg = i := nI_clamp (by omega)
  rw [if_pos ⟨h, by rw [e]; exact h0, by rw [hl]; exact xin_ok hi hn⟩, e]
theorem xsR_ok {q c i n v : Nat} (h : xT σ a = q) (hv : xT σ v = c) (hl : xlen σ a = n) (hi : i < n) (hn : n < 2 ^ 31) : xsR σ q c a (nI i) v = some (xuR σ a i v) := by
  unfold xsR
  rw [if_pos ⟨h, hv, by rw [hl]; exact xin_ok hi hn⟩, nI_clamp (by omega)]
theorem xnz_ok (h : a ≠ 0) : xnz a = some () := by unfold xnz; rw [if_neg h]
theorem xnA_ok {q n : Nat} (h : n ≤ 67108864) : xnA σ q (nI n) = some (xn σ + 1, xnew σ q n n) := by
  unfold xnA
  have e : (nI n).toNatClampNeg = n := nI_clamp (by omega)
  rw [e, if_neg]
  intro z
  rcases z with z | z
  · exact nI_pos (by omega) z
  · omega
/-- a loop in closed form: the states it goes through -/
theorem xfor {α β : Type} {f : α → Option (α ⊕ β)} (s : Nat → α) (N : Nat) {b : β} (hs : ∀ k, k < N → f (s k) = some (.inl (s (k + 1)))) (he : f (s N) = some (.inr b)) : xloop f (s 0) = some b := by
  have h : ∀ k, k ≤ N → xloop f (s (N - k)) = some b := by
    intro k
    induction k with
    | zero => intro _; exact xloop_end he
    | succ k ih =>
      intro hk
      rw [xloop_step (hs (N - (k + 1)) (by omega)), show N - (k + 1) + 1 = N - k by omega]
      exact ih (by omega)
  have := h N (Nat.le_refl _)
  rwa [Nat.sub_self] at this
/-- the same where something more is known of the states as the loop goes -/
theorem xforI {α β : Type} {f : α → Option (α ⊕ β)} (P : Nat → α → Prop) (N : Nat) {Q : β → Prop} {a0 : α} (h0 : P 0 a0) (hs : ∀ k a, k < N → P k a → ∃ a', f a = some (.inl a') ∧ P (k + 1) a') (he : ∀ a, P N a → ∃ b, f a = some (.inr b) ∧ Q b) : ∃ b, xloop f a0 = some b ∧ Q b := by
  have h : ∀ k a, k ≤ N → P (N - k) a → ∃ b, xloop f a = some b ∧ Q b := by
    intro k
    induction k with
    | zero =>
      intro a _ ha
      obtain ⟨b, e, q⟩ := he a ha
      exact ⟨b, xloop_end e, q⟩
    | succ k ih =>
      intro a hk ha
      obtain ⟨a', e, q⟩ := hs (N - (k + 1)) a (by omega) ha
      rw [xloop_step e]
      rw [show N - (k + 1) + 1 = N - k by omega] at q
      exact ih a' (by omega) q
  exact h N a0 (Nat.le_refl _) (by rw [Nat.sub_self]; exact h0)
end HEAP
