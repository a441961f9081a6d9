/-! the ways down: the model's count -/
section DOWN2
variable {σ : XS} {J : Nat → Nat → Int32} {g : GD} {F : Nat → Int32}
def dnI (g : GD) (F : Nat → Int32) (s : Nat) : Nat := fb_ct (lvP g F) (tK g F s)
theorem lvP_tK (hg : g ∈ gAll) (ho : RO g F) {s : Nat} (hs : s < gSt g) (hl : lW g F s = true) : lvP g F (tK g F s) = true := by
  unfold lvP lC
  refine decide_eq_true (Nat.lt_of_le_of_lt (Nat.zero_le _) (ct_in hs (tE_ok hg ho hl)))
theorem dnI_lt (hg : g ∈ gAll) (ho : RO g F) {s : Nat} (hs : s < gSt g) (hl : lW g F s = true) : dnI g F s < lvN g F := lvl_lt (tK_ok hg ho s).1 (lvP_tK hg ho hs hl)
theorem dnI_m (hg : g ∈ gAll) (ho : RO g F) {s t : Nat} (ht : t < gSt g) (hlt : lW g F t = true) (h : tK g F t < tK g F s) : dnI g F t < dnI g F s := ct_in h (lvP_tK hg ho ht hlt)
theorem dn196 (ho : RO g F) (hK : KNK J g F) (hg : g ∈ gAll) {s i : Nat} (hs : s < gSt g) (hl : lW g F s = true) (hi : i < gSz g) : (J 196 s ≤ J 196 (s ^^^ 2 ^ i)) = (dnT g F s i = false) := by
  have a1 := hK.1 s hs
  have a2 := hK.1 _ (gSt_flip hs hi)
  rw [hl, if_pos rfl] at a1
  rw [lW_flip hi hl] at a2
  have b := eE_b hg ho s
  have cb := sp_b hg ho s hi
  unfold dnT
  by_cases h0 : F (48 + i) = 0
  · rw [decide_eq_true h0, if_pos rfl, eE_flip hg _ hi] at a2
    rw [a1, a2, iI_le (by omega) (by omega) (by omega) (by omega), decide_eq_true h0, Bool.true_and]
    apply propext
    rw [decide_eq_false_iff_not]
    omega
  · rw [decide_eq_false h0, if_neg (by decide)] at a2
    rw [a1, a2, show nI 100000 = iI 100000 from rfl, iI_le (by omega) (by omega) (by omega) (by omega), decide_eq_false h0, Bool.false_and]
    apply propext
    exact ⟨fun _ => rfl, fun _ => by omega⟩
theorem dn73 (hS0 : Shp σ) (hG : GRD J g) (ho : RO g F) (hK : KNK J g F) (hst : gSt g ≤ 1024) {L : Nat → Nat → Int64} {s : Nat} (x1 x2 : Int32) (hs : s < gSt g) (hl : lW g F s = true) (hL : ∀ i, i < gSz g → dnT g F s i = true → L 205 (s ^^^ 2 ^ i) = DNV g F (s ^^^ 2 ^ i)) (hD : DNV g F s ≠ 0) : xloop (f_X12_down_b73 183 x1 x2 (nI s)) ((0 : Int32), xw (xl σ (xup L 205 s 0)) J) = some (.inl (nI (s + 1), xw (xl σ (xup L 205 s (DNV g F s))) J)) := by
  have hg := hG.1
  have h16 := (gAll_b g hg).2.2.1
  have K205 : σ.1 205 = (23, 1024) := xw_K hS0 (by decide) (by decide) (by decide)
  have up2 : ∀ v w : Int64, xup (xup L 205 s v) 205 s w = xup L 205 s w := fun v w => by
    funext a q
    rw [dnL_at, dnL_at, dnL_at]
    by_cases z : a = 205 ∧ q = s
    · rw [if_pos z, if_pos z]
    · rw [if_neg z, if_neg z, if_neg z]
  refine xforE (fun i : Nat => (nI i, xw (xl σ (xup L 205 s (dnS (fun i => if dnT g F s i then DNV g F (s ^^^ 2 ^ i) else 0) i))) J)) (gSz g) rfl (fun i hi => ?_) ?_
  · have hS : Shp (xl σ (xup L 205 s (dnS (fun i => if dnT g F s i then DNV g F (s ^^^ 2 ^ i) else 0) i))) := hS0
    have si := sites_ok (σ := xl σ (xup L 205 s (dnS (fun i => if dnT g F s i then DNV g F (s ^^^ 2 ^ i) else 0) i))) (I := J) hS hG
    have q1 : (nI (gSz g) ≤ nI i) = False := by rw [nn_le (by omega) (by omega)]; exact eq_false (by omega)
    have hf := gSt_flip hs hi
    have cond := dn196 ho hK hg hs hl hi
    have ne : s ^^^ 2 ^ i ≠ s := fun z => by
      have := congrArg (fun x => x.testBit i) z
      simp only [Nat.testBit_xor, Nat.testBit_two_pow] at this
      cases hb : s.testBit i <;> simp [hb] at this
    have hi32 : i < 32 := by omega
    have s5 : s < 65536 := by omega
    have f5 : s ^^^ 2 ^ i < 65536 := by omega
    have s1 : s < 1024 := by omega
    have f1 : s ^^^ 2 ^ i < 1024 := by omega
    have r1 : xup L 205 s (dnS (fun i => if dnT g F s i then DNV g F (s ^^^ 2 ^ i) else 0) i) 205 s = dnS (fun i => if dnT g F s i then DNV g F (s ^^^ 2 ^ i) else 0) i := by rw [dnL_at, if_pos ⟨rfl, rfl⟩]
    have r2 : xup L 205 s (dnS (fun i => if dnT g F s i then DNV g F (s ^^^ 2 ^ i) else 0) i) 205 (s ^^^ 2 ^ i) = L 205 (s ^^^ 2 ^ i) := by rw [dnL_at, if_neg (fun z => ne z.2)]
    simp only [f_X12_down_b73]
    rw [xw_ck, kC183 hS, Option.bind_some, si, Option.bind_some, if_neg (by rw [q1]; exact id), xw_gR, kR183_33 hS, Option.bind_some, nn_one hi32, nn_xor, kA196 hS f5, Option.bind_some, Option.bind_some, kA196 hS s5, Option.bind_some]
    simp only [cond]
    rw [← nI_succ, dnS]
    cases ht : dnT g F s i with
    | false => rw [if_pos rfl, if_neg (show ¬ (false = true) by decide), Int64.add_zero]
    | true => rw [if_neg (by decide), xw_gR, kR183_43 hS, Option.bind_some, xl_aL K205 s1 (by decide), Option.bind_some, Option.bind_some, xl_aL K205 f1 (by decide), Option.bind_some, r1, r2, hL i hi ht, xl_sL K205 s1 (by decide), Option.bind_some, up2, if_pos rfl]
  · obtain ⟨V, hV⟩ : ∃ V, V = dnS (fun i => if dnT g F s i then DNV g F (s ^^^ 2 ^ i) else 0) (gSz g) := ⟨_, rfl⟩
    have hS : Shp (xl σ (xup L 205 s V)) := hS0
    have si := sites_ok (σ := xl σ (xup L 205 s V)) (I := J) hS hG
    have s1 : s < 1024 := by omega
    have r1 : xup L 205 s V 205 s = V := by rw [dnL_at, if_pos ⟨rfl, rfl⟩]
    have hrec := DNV_r hg ho s
    rw [← hV] at hrec
    simp only [f_X12_down_b73]
    rw [← hV, xw_ck, kC183 hS, Option.bind_some, si, Option.bind_some, if_pos (by rw [nn_le (by omega) (by omega)]; exact Nat.le_refl _), xw_gR, kR183_43 hS, Option.bind_some, xl_aL K205 s1 (by decide), Option.bind_some, r1]
    simp only [lg_cmp0]
    cases hu : dnU g F s (gSz g) with
    | true =>
      rw [hu, if_pos rfl] at hrec
      rw [hrec] at hD ⊢
      rw [if_neg hD, nI_succ]
      rfl
    | false =>
      rw [hu, if_neg (by decide)] at hrec
      have no : ∀ n, dnU g F s n = false → dnS (fun i => if dnT g F s i then DNV g F (s ^^^ 2 ^ i) else 0) n = 0 := fun n => by
        induction n with
        | zero => intro _; rfl
        | succ n ih =>
          intro h
          rw [dnU, Bool.or_eq_false_iff] at h
          rw [dnS, ih h.1, h.2]
          rfl
      rw [if_pos (by rw [hV]; exact no _ hu), Option.bind_some, xl_sL K205 s1 (by decide), Option.bind_some, up2, hrec, nI_succ]
      rfl
theorem dn37 (hS0 : Shp σ) (hG : GRD J g) (ho : RO g F) (hK : KNK J g F) (hst : gSt g ≤ 1024) (hD : ∀ s, s < gSt g → lW g F s = true → DNV g F s ≠ 0) (x1 : Int32) {x : Nat} (hx : x < lvN g F) : ∀ n s (L : Nat → Nat → Int64), gSt g - s ≤ n → s ≤ gSt g → (∀ t, t < gSt g → lW g F t = true → (dnI g F t < x ∨ (dnI g F t = x ∧ t < s)) → L 205 t = DNV g F t) → ∃ L' : Nat → Nat → Int64, xloop (f_X12_down_b37 183 x1 (nI x)) (nI s, xw (xl σ L) J) = some (.inl (nI (x + 1), xw (xl σ L') J)) ∧ (∀ a q, a ≠ 205 → L' a q = L a q) ∧ ∀ t, t < gSt g → lW g F t = true → dnI g F t < x + 1 → L' 205 t = DNV g F t := by
  have hg := hG.1
  have h16 := (gAll_b g hg).2.2.1
  have K205 : σ.1 205 = (23, 1024) := xw_K hS0 (by decide) (by decide) (by decide)
  have xb := lvN_b g F
  obtain ⟨kk, hk1, hk2, hk3⟩ := lvl_at hx
  have v198 : J 198 x = iI ((kk : Int) - 144) := by rw [← hk3]; exact hK.2.2.2 kk hk1 hk2
  have stop : ∀ L : Nat → Nat → Int64, (∀ t, t < gSt g → lW g F t = true → (dnI g F t < x ∨ (dnI g F t = x ∧ t < gSt g)) → L 205 t = DNV g F t) → ∃ L' : Nat → Nat → Int64, xloop (f_X12_down_b37 183 x1 (nI x)) (nI (gSt g), xw (xl σ L) J) = some (.inl (nI (x + 1), xw (xl σ L') J)) ∧ (∀ a q, a ≠ 205 → L' a q = L a q) ∧ ∀ t, t < gSt g → lW g F t = true → dnI g F t < x + 1 → L' 205 t = DNV g F t := fun L hL => by
    have hS : Shp (xl σ L) := hS0
    refine ⟨L, xloop_end ?_, fun _ _ _ => rfl, fun t h1 h2 h3 => hL t h1 h2 (by omega)⟩
    simp only [f_X12_down_b37]
    rw [xw_ck, kC183 hS, Option.bind_some, states12_ok hS hG, Option.bind_some, if_pos (by rw [nn_le (by omega) (by omega)]; exact Nat.le_refl _), nI_succ]
    rfl
  intro n
  induction n with
  | zero =>
    intro s L hn hs hL
    have : s = gSt g := by omega
    subst this
    exact stop L hL
  | succ n ih =>
    intro s L hn hs hL
    by_cases z : s = gSt g
    · subst z
      exact stop L hL
    · have hs' : s < gSt g := by omega
      have hS : Shp (xl σ L) := hS0
      have q1 : (nI (gSt g) ≤ nI s) = False := by rw [nn_le (by omega) (by omega)]; exact eq_false (by omega)
      have s5 : s < 65536 := by omega
      have s1 : s < 1024 := by omega
      have x3 : x < 301 := by omega
      have step : f_X12_down_b37 183 x1 (nI x) (nI s, xw (xl σ L) J) = if J 196 s = J 198 x then xloop (f_X12_down_b73 183 x1 (nI x) (nI s)) ((0 : Int32), xw (xl σ (xup L 205 s 0)) J) else some (.inl (nI (s + 1), xw (xl σ L) J)) := by
        simp only [f_X12_down_b37]
        rw [xw_ck, kC183 hS, Option.bind_some, states12_ok hS hG, Option.bind_some, if_neg (by rw [q1]; exact id), xw_gR, kR183_33 hS, Option.bind_some, kA196 hS s5, Option.bind_some, xw_gR, kR183_36 hS, Option.bind_some, kA198 hS x3, Option.bind_some, xw_gR, kR183_43 hS, Option.bind_some, xl_sL K205 s1 (by decide), Option.bind_some, nI_succ]
      have v196 := hK.1 s hs'
      cases hl : lW g F s with
      | false =>
        rw [hl, if_neg (by decide)] at v196
        rw [if_neg (by rw [v196, v198, show nI 100000 = iI 100000 from rfl, iI_eq (by omega) (by omega) (by omega) (by omega)]; omega)] at step
        obtain ⟨L', a1, a2⟩ := ih (s + 1) L (by omega) (by omega) (fun t h1 h2 h3 => hL t h1 h2 (by
          rcases h3 with h3 | h3
          · exact .inl h3
          · refine .inr ⟨h3.1, ?_⟩
            rcases Nat.lt_or_ge t s with y | y
            · exact y
            · have : t = s := by omega
              rw [this, hl] at h2; cases h2))
        exact ⟨L', by rw [← a1]; exact xloop_step step, a2⟩
      | true =>
        rw [hl, if_pos rfl] at v196
        have tk := tK_ok hg ho s
        have eb := eE_b hg ho s
        by_cases hx2 : dnI g F s = x
        · have ek : tK g F s = kk := fb_ct_kth_one (lvP_tK hg ho hs' hl) hk2 (by unfold dnI at hx2; omega)
          have d73 := dn73 (σ := σ) (L := L) hS0 hG ho hK hst x1 (nI x) hs' hl (fun i hi ht => by
            have hlf : lW g F (s ^^^ 2 ^ i) = true := by
              rw [lW_flip hi hl]
              unfold dnT at ht
              simp only [Bool.and_eq_true, decide_eq_true_eq] at ht
              exact decide_eq_true ht.1
            have := dnI_m hg ho (gSt_flip hs' hi) hlf (dnT_lt hg ho hi ht)
            exact hL _ (gSt_flip hs' hi) hlf (.inl (by omega))) (hD s hs' hl)
          rw [if_pos (by rw [v196, v198, ← ek, tk.2]), d73] at step
          obtain ⟨L', a1, a2, a3⟩ := ih (s + 1) (xup L 205 s (DNV g F s)) (by omega) (by omega) (fun t h1 h2 h3 => by
            rw [dnL_at]
            by_cases y : t = s
            · rw [y, if_pos ⟨rfl, rfl⟩]
            · rw [if_neg (fun q => y q.2)]
              exact hL t h1 h2 (by omega))
          exact ⟨L', by rw [← a1]; exact xloop_step step, fun a q h => by rw [a2 a q h, dnL_at, if_neg (fun q => h q.1)], a3⟩
        · have ne : tK g F s ≠ kk := fun y => hx2 (by unfold dnI; rw [y]; exact hk3)
          rw [if_neg (by rw [v196, v198, iI_eq (by omega) (by omega) (by omega) (by omega)]; omega)] at step
          obtain ⟨L', a1, a2⟩ := ih (s + 1) L (by omega) (by omega) (fun t h1 h2 h3 => hL t h1 h2 (by
            rcases h3 with h3 | h3
            · exact .inl h3
            · refine .inr ⟨h3.1, ?_⟩
              rcases Nat.lt_or_ge t s with y | y
              · exact y
              · have : t = s := by omega
                rw [this] at h3; exact absurd h3.1 hx2))
          exact ⟨L', by rw [← a1]; exact xloop_step step, a2⟩
theorem dn27 (hS0 : Shp σ) (hG : GRD J g) (ho : RO g F) (hK : KNK J g F) (hst : gSt g ≤ 1024) (hD : ∀ s, s < gSt g → lW g F s = true → DNV g F s ≠ 0) {b : Nat} (hb : b < gSt g) (hbl : lW g F b = true) : ∀ n x (L : Nat → Nat → Int64), lvN g F - x ≤ n → x ≤ lvN g F → (∀ t, t < gSt g → lW g F t = true → dnI g F t < x → L 205 t = DNV g F t) → ∃ L' : Nat → Nat → Int64, xloop (f_X12_down_b27 183 (nI b)) (nI x, xw (xl σ L) J) = some (DNV g F b, xw (xl σ L') J) ∧ ∀ a q, a ≠ 205 → L' a q = L a q := by
  have hg := hG.1
  have K205 : σ.1 205 = (23, 1024) := xw_K hS0 (by decide) (by decide) (by decide)
  have xb := lvN_b g F
  have stop : ∀ L : Nat → Nat → Int64, (∀ t, t < gSt g → lW g F t = true → dnI g F t < lvN g F → L 205 t = DNV g F t) → ∃ L' : Nat → Nat → Int64, xloop (f_X12_down_b27 183 (nI b)) (nI (lvN g F), xw (xl σ L) J) = some (DNV g F b, xw (xl σ L') J) ∧ ∀ a q, a ≠ 205 → L' a q = L a q := fun L hL => by
    have hS : Shp (xl σ L) := hS0
    have b1 : b < 1024 := by omega
    refine ⟨L, xloop_end ?_, fun _ _ _ => rfl⟩
    simp only [f_X12_down_b27]
    rw [kG183 hS, Option.bind_some, hK.2.2.1, if_pos (by rw [nn_le (by omega) (by omega)]; exact Nat.le_refl _), xw_gR, kR183_43 hS, Option.bind_some, xl_aL K205 b1 (by decide), Option.bind_some, hL b hb hbl (dnI_lt hg ho hb hbl)]
    rfl
  intro n
  induction n with
  | zero =>
    intro x L hn hx hL
    have : x = lvN g F := by omega
    subst this
    exact stop L hL
  | succ n ih =>
    intro x L hn hx hL
    by_cases z : x = lvN g F
    · subst z
      exact stop L hL
    · have hS : Shp (xl σ L) := hS0
      have q1 : (nI (lvN g F) ≤ nI x) = False := by rw [nn_le (by omega) (by omega)]; exact eq_false (by omega)
      obtain ⟨L1, a1, a2, a3⟩ := dn37 (σ := σ) hS0 hG ho hK hst hD (nI b) (show x < lvN g F by omega) (gSt g) 0 L (by omega) (by omega) (fun t h1 h2 h3 => hL t h1 h2 (by omega))
      have a1 : xloop (f_X12_down_b37 183 (nI b) (nI x)) ((0 : Int32), xw (xl σ L) J) = some (.inl (nI (x + 1), xw (xl σ L1) J)) := a1
      obtain ⟨L', c1, c2⟩ := ih (x + 1) L1 (by omega) (by omega) a3
      refine ⟨L', ?_, fun a q h => by rw [c2 a q h]; exact a2 a q h⟩
      rw [← c1]
      refine xloop_step ?_
      simp only [f_X12_down_b27]
      rw [kG183 hS, Option.bind_some, hK.2.2.1, if_neg (by rw [q1]; exact id), a1]
end DOWN2
