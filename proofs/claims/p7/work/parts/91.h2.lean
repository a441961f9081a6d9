/-! the ways down for a law that does not compare them: the model's own count, whatever it is -/
def dwV (g : GD) (F : Nat → Int32) : Nat → Nat → Int64
  | 0, _ => 0
  | k + 1, s => if dnS (fun i => if dnT g F s i then dwV g F k (s ^^^ 2 ^ i) else 0) (gSz g) = 0 then 1 else dnS (fun i => if dnT g F s i then dwV g F k (s ^^^ 2 ^ i) else 0) (gSz g)
def DNW (g : GD) (F : Nat → Int32) (s : Nat) : Int64 := dwV g F 289 s
section DOWNW
variable {σ : XS} {J : Nat → Nat → Int32} {g : GD} {F : Nat → Int32}
theorem dwV_st (hg : g ∈ gAll) (ho : RO g F) : ∀ k s, tK g F s < k → dwV g F (k + 1) s = dwV g F k s
  | 0, s, h => by omega
  | k + 1, s, h => by
    have e : dnS (fun i => if dnT g F s i then dwV g F (k + 1) (s ^^^ 2 ^ i) else 0) (gSz g) = dnS (fun i => if dnT g F s i then dwV g F k (s ^^^ 2 ^ i) else 0) (gSz g) := by
      refine dnS_c _ (fun i hi => ?_)
      by_cases z : dnT g F s i = true
      · rw [if_pos z, if_pos z]
        have := dnT_lt hg ho hi z
        exact dwV_st hg ho k _ (by omega)
      · rw [if_neg z, if_neg z]
    rw [dwV, dwV, e]
theorem DNW_r (hg : g ∈ gAll) (ho : RO g F) (s : Nat) : DNW g F s = if dnS (fun i => if dnT g F s i then DNW g F (s ^^^ 2 ^ i) else 0) (gSz g) = 0 then 1 else dnS (fun i => if dnT g F s i then DNW g F (s ^^^ 2 ^ i) else 0) (gSz g) := by
  have hb := (tK_ok hg ho s).1
  have e : dnS (fun i => if dnT g F s i then DNW g F (s ^^^ 2 ^ i) else 0) (gSz g) = dnS (fun i => if dnT g F s i then dwV g F 288 (s ^^^ 2 ^ i) else 0) (gSz g) := by
    refine dnS_c _ (fun i hi => ?_)
    by_cases z : dnT g F s i = true
    · rw [if_pos z, if_pos z]
      have := dnT_lt hg ho hi z
      exact dwV_st hg ho 288 _ (by omega)
    · rw [if_neg z, if_neg z]
  rw [e]
  rfl
theorem dw73 (hS0 : Shp σ) (hG : GRD J g) (ho : RO g F) (hK : KNK J g F) (hst : gSt g ≤ 1024) {L : Nat → Nat → Int64} {s : Nat} (x1 x2 : Int32) (hs : s < gSt g) (hl : lW g F s = true) (hL : ∀ i, i < gSz g → dnT g F s i = true → L 205 (s ^^^ 2 ^ i) = DNW g F (s ^^^ 2 ^ i)) : xloop (f_X12_down_b73 183 x1 x2 (nI s)) ((0 : Int32), xw (xl σ (xup L 205 s 0)) J) = some (.inl (nI (s + 1), xw (xl σ (xup L 205 s (DNW g F s))) J)) := by
  have hg := hG.1
  have h16 := (gAll_b g hg).2.2.1
  have K205 : σ.1 205 = (23, 1024) := xw_K hS0 (by decide) (by decide) (by decide)
  have up2 : ∀ v w : Int64, xup (xup L 205 s v) 205 s w = xup L 205 s w := fun v w => by
    funext a q
    rw [dnL_at, dnL_at, dnL_at]
    by_cases z : a = 205 ∧ q = s
    · rw [if_pos z, if_pos z]
    · rw [if_neg z, if_neg z, if_neg z]
  refine xforE (fun i : Nat => (nI i, xw (xl σ (xup L 205 s (dnS (fun i => if dnT g F s i then DNW g F (s ^^^ 2 ^ i) else 0) i))) J)) (gSz g) rfl (fun i hi => ?_) ?_
  · have hS : Shp (xl σ (xup L 205 s (dnS (fun i => if dnT g F s i then DNW g F (s ^^^ 2 ^ i) else 0) i))) := hS0
    have si := sites_ok (σ := xl σ (xup L 205 s (dnS (fun i => if dnT g F s i then DNW g F (s ^^^ 2 ^ i) else 0) i))) (I := J) hS hG
    have q1 : (nI (gSz g) ≤ nI i) = False := by rw [nn_le (by omega) (by omega)]; exact eq_false (by omega)
    have hf := gSt_flip hs hi
    have cond := dn196 ho hK hg hs hl hi
    have ne : s ^^^ 2 ^ i ≠ s := fun z => by
      have := congrArg (fun x => x.testBit i) z
      simp only [Nat.testBit_xor, Nat.testBit_two_pow] at this
      cases hb : s.testBit i <;> simp [hb] at this
    have hi32 : i < 32 := by omega
    have s5 : s < 65536 := by omega
    have f5 : s ^^^ 2 ^ i < 65536 := by omega
    have s1 : s < 1024 := by omega
    have f1 : s ^^^ 2 ^ i < 1024 := by omega
    have r1 : xup L 205 s (dnS (fun i => if dnT g F s i then DNW g F (s ^^^ 2 ^ i) else 0) i) 205 s = dnS (fun i => if dnT g F s i then DNW g F (s ^^^ 2 ^ i) else 0) i := by rw [dnL_at, if_pos ⟨rfl, rfl⟩]
    have r2 : xup L 205 s (dnS (fun i => if dnT g F s i then DNW g F (s ^^^ 2 ^ i) else 0) i) 205 (s ^^^ 2 ^ i) = L 205 (s ^^^ 2 ^ i) := by rw [dnL_at, if_neg (fun z => ne z.2)]
    simp only [f_X12_down_b73]
    rw [xw_ck, kC183 hS, Option.bind_some, si, Option.bind_some, if_neg (by rw [q1]; exact id), xw_gR, kR183_33 hS, Option.bind_some, nn_one hi32, nn_xor, kA196 hS f5, Option.bind_some, Option.bind_some, kA196 hS s5, Option.bind_some]
    simp only [cond]
    rw [← nI_succ, dnS]
    cases ht : dnT g F s i with
    | false => rw [if_pos rfl, if_neg (show ¬ (false = true) by decide), Int64.add_zero]
    | true => rw [if_neg (by decide), xw_gR, kR183_43 hS, Option.bind_some, xl_aL K205 s1 (by decide), Option.bind_some, Option.bind_some, xl_aL K205 f1 (by decide), Option.bind_some, r1, r2, hL i hi ht, xl_sL K205 s1 (by decide), Option.bind_some, up2, if_pos rfl]
  · obtain ⟨V, hV⟩ : ∃ V, V = dnS (fun i => if dnT g F s i then DNW g F (s ^^^ 2 ^ i) else 0) (gSz g) := ⟨_, rfl⟩
    have hS : Shp (xl σ (xup L 205 s V)) := hS0
    have si := sites_ok (σ := xl σ (xup L 205 s V)) (I := J) hS hG
    have s1 : s < 1024 := by omega
    have r1 : xup L 205 s V 205 s = V := by rw [dnL_at, if_pos ⟨rfl, rfl⟩]
    have hrec := DNW_r hg ho s
    rw [← hV] at hrec
    simp only [f_X12_down_b73]
    rw [← hV, xw_ck, kC183 hS, Option.bind_some, si, Option.bind_some, if_pos (by rw [nn_le (by omega) (by omega)]; exact Nat.le_refl _), xw_gR, kR183_43 hS, Option.bind_some, xl_aL K205 s1 (by decide), Option.bind_some, r1]
    simp only [lg_cmp0]
    by_cases hz : V = 0
    · rw [if_pos hz] at hrec
      rw [if_pos hz, Option.bind_some, xl_sL K205 s1 (by decide), Option.bind_some, up2, hrec, nI_succ]
      rfl
    · rw [if_neg hz] at hrec
      rw [if_neg hz, hrec, nI_succ]
      rfl
theorem dw37 (hS0 : Shp σ) (hG : GRD J g) (ho : RO g F) (hK : KNK J g F) (hst : gSt g ≤ 1024) (x1 : Int32) {x : Nat} (hx : x < lvN g F) : ∀ n s (L : Nat → Nat → Int64), gSt g - s ≤ n → s ≤ gSt g → (∀ t, t < gSt g → lW g F t = true → (dnI g F t < x ∨ (dnI g F t = x ∧ t < s)) → L 205 t = DNW g F t) → ∃ L' : Nat → Nat → Int64, xloop (f_X12_down_b37 183 x1 (nI x)) (nI s, xw (xl σ L) J) = some (.inl (nI (x + 1), xw (xl σ L') J)) ∧ (∀ a q, a ≠ 205 → L' a q = L a q) ∧ ∀ t, t < gSt g → lW g F t = true → dnI g F t < x + 1 → L' 205 t = DNW g F t := by
  have hg := hG.1
  have h16 := (gAll_b g hg).2.2.1
  have K205 : σ.1 205 = (23, 1024) := xw_K hS0 (by decide) (by decide) (by decide)
  have xb := lvN_b g F
  obtain ⟨kk, hk1, hk2, hk3⟩ := lvl_at hx
  have v198 : J 198 x = iI ((kk : Int) - 144) := by rw [← hk3]; exact hK.2.2.2 kk hk1 hk2
  have stop : ∀ L : Nat → Nat → Int64, (∀ t, t < gSt g → lW g F t = true → (dnI g F t < x ∨ (dnI g F t = x ∧ t < gSt g)) → L 205 t = DNW g F t) → ∃ L' : Nat → Nat → Int64, xloop (f_X12_down_b37 183 x1 (nI x)) (nI (gSt g), xw (xl σ L) J) = some (.inl (nI (x + 1), xw (xl σ L') J)) ∧ (∀ a q, a ≠ 205 → L' a q = L a q) ∧ ∀ t, t < gSt g → lW g F t = true → dnI g F t < x + 1 → L' 205 t = DNW g F t := fun L hL => by
    have hS : Shp (xl σ L) := hS0
    refine ⟨L, xloop_end ?_, fun _ _ _ => rfl, fun t h1 h2 h3 => hL t h1 h2 (by omega)⟩
    simp only [f_X12_down_b37]
    rw [xw_ck, kC183 hS, Option.bind_some, states12_ok hS hG, Option.bind_some, if_pos (by rw [nn_le (by omega) (by omega)]; exact Nat.le_refl _), nI_succ]
    rfl
  intro n
  induction n with
  | zero =>
    intro s L hn hs hL
    have : s = gSt g := by omega
    subst this
    exact stop L hL
  | succ n ih =>
    intro s L hn hs hL
    by_cases z : s = gSt g
    · subst z
      exact stop L hL
    · have hs' : s < gSt g := by omega
      have hS : Shp (xl σ L) := hS0
      have q1 : (nI (gSt g) ≤ nI s) = False := by rw [nn_le (by omega) (by omega)]; exact eq_false (by omega)
      have s5 : s < 65536 := by omega
      have s1 : s < 1024 := by omega
      have x3 : x < 301 := by omega
      have step : f_X12_down_b37 183 x1 (nI x) (nI s, xw (xl σ L) J) = if J 196 s = J 198 x then xloop (f_X12_down_b73 183 x1 (nI x) (nI s)) ((0 : Int32), xw (xl σ (xup L 205 s 0)) J) else some (.inl (nI (s + 1), xw (xl σ L) J)) := by
        simp only [f_X12_down_b37]
        rw [xw_ck, kC183 hS, Option.bind_some, states12_ok hS hG, Option.bind_some, if_neg (by rw [q1]; exact id), xw_gR, kR183_33 hS, Option.bind_some, kA196 hS s5, Option.bind_some, xw_gR, kR183_36 hS, Option.bind_some, kA198 hS x3, Option.bind_some, xw_gR, kR183_43 hS, Option.bind_some, xl_sL K205 s1 (by decide), Option.bind_some, nI_succ]
      have v196 := hK.1 s hs'
      cases hl : lW g F s with
      | false =>
        rw [hl, if_neg (by decide)] at v196
        rw [if_neg (by rw [v196, v198, show nI 100000 = iI 100000 from rfl, iI_eq (by omega) (by omega) (by omega) (by omega)]; omega)] at step
        obtain ⟨L', a1, a2⟩ := ih (s + 1) L (by omega) (by omega) (fun t h1 h2 h3 => hL t h1 h2 (by
          rcases h3 with h3 | h3
          · exact .inl h3
          · refine .inr ⟨h3.1, ?_⟩
            rcases Nat.lt_or_ge t s with y | y
            · exact y
            · have : t = s := by omega
              rw [this, hl] at h2; cases h2))
        exact ⟨L', by rw [← a1]; exact xloop_step step, a2⟩
      | true =>
        rw [hl, if_pos rfl] at v196
        have tk := tK_ok hg ho s
        have eb := eE_b hg ho s
        by_cases hx2 : dnI g F s = x
        · have ek : tK g F s = kk := fb_ct_kth_one (lvP_tK hg ho hs' hl) hk2 (by unfold dnI at hx2; omega)
          have d73 := dw73 (σ := σ) (L := L) hS0 hG ho hK hst x1 (nI x) hs' hl (fun i hi ht => by
            have hlf : lW g F (s ^^^ 2 ^ i) = true := by
              rw [lW_flip hi hl]
              unfold dnT at ht
              simp only [Bool.and_eq_true, decide_eq_true_eq] at ht
              exact decide_eq_true ht.1
            have := dnI_m hg ho (gSt_flip hs' hi) hlf (dnT_lt hg ho hi ht)
            exact hL _ (gSt_flip hs' hi) hlf (.inl (by omega)))
          rw [if_pos (by rw [v196, v198, ← ek, tk.2]), d73] at step
          obtain ⟨L', a1, a2, a3⟩ := ih (s + 1) (xup L 205 s (DNW g F s)) (by omega) (by omega) (fun t h1 h2 h3 => by
            rw [dnL_at]
            by_cases y : t = s
            · rw [y, if_pos ⟨rfl, rfl⟩]
            · rw [if_neg (fun q => y q.2)]
              exact hL t h1 h2 (by omega))
          exact ⟨L', by rw [← a1]; exact xloop_step step, fun a q h => by rw [a2 a q h, dnL_at, if_neg (fun q => h q.1)], a3⟩
        · have ne : tK g F s ≠ kk := fun y => hx2 (by unfold dnI; rw [y]; exact hk3)
          rw [if_neg (by rw [v196, v198, iI_eq (by omega) (by omega) (by omega) (by omega)]; omega)] at step
          obtain ⟨L', a1, a2⟩ := ih (s + 1) L (by omega) (by omega) (fun t h1 h2 h3 => hL t h1 h2 (by
            rcases h3 with h3 | h3
            · exact .inl h3
            · refine .inr ⟨h3.1, ?_⟩
              rcases Nat.lt_or_ge t s with y | y
              · exact y
              · have : t = s := by omega
                rw [this] at h3; exact absurd h3.1 hx2))
          exact ⟨L', by rw [← a1]; exact xloop_step step, a2⟩
theorem dw27 (hS0 : Shp σ) (hG : GRD J g) (ho : RO g F) (hK : KNK J g F) (hst : gSt g ≤ 1024) {b : Nat} (hb : b < gSt g) (hbl : lW g F b = true) : ∀ n x (L : Nat → Nat → Int64), lvN g F - x ≤ n → x ≤ lvN g F → (∀ t, t < gSt g → lW g F t = true → dnI g F t < x → L 205 t = DNW g F t) → ∃ L' : Nat → Nat → Int64, xloop (f_X12_down_b27 183 (nI b)) (nI x, xw (xl σ L) J) = some (DNW g F b, xw (xl σ L') J) ∧ ∀ a q, a ≠ 205 → L' a q = L a q := by
  have hg := hG.1
  have K205 : σ.1 205 = (23, 1024) := xw_K hS0 (by decide) (by decide) (by decide)
  have xb := lvN_b g F
  have stop : ∀ L : Nat → Nat → Int64, (∀ t, t < gSt g → lW g F t = true → dnI g F t < lvN g F → L 205 t = DNW g F t) → ∃ L' : Nat → Nat → Int64, xloop (f_X12_down_b27 183 (nI b)) (nI (lvN g F), xw (xl σ L) J) = some (DNW g F b, xw (xl σ L') J) ∧ ∀ a q, a ≠ 205 → L' a q = L a q := fun L hL => by
    have hS : Shp (xl σ L) := hS0
    have b1 : b < 1024 := by omega
    refine ⟨L, xloop_end ?_, fun _ _ _ => rfl⟩
    simp only [f_X12_down_b27]
    rw [kG183 hS, Option.bind_some, hK.2.2.1, if_pos (by rw [nn_le (by omega) (by omega)]; exact Nat.le_refl _), xw_gR, kR183_43 hS, Option.bind_some, xl_aL K205 b1 (by decide), Option.bind_some, hL b hb hbl (dnI_lt hg ho hb hbl)]
    rfl
  intro n
  induction n with
  | zero =>
    intro x L hn hx hL
    have : x = lvN g F := by omega
    subst this
    exact stop L hL
  | succ n ih =>
    intro x L hn hx hL
    by_cases z : x = lvN g F
    · subst z
      exact stop L hL
    · have hS : Shp (xl σ L) := hS0
      have q1 : (nI (lvN g F) ≤ nI x) = False := by rw [nn_le (by omega) (by omega)]; exact eq_false (by omega)
      obtain ⟨L1, a1, a2, a3⟩ := dw37 (σ := σ) hS0 hG ho hK hst (nI b) (show x < lvN g F by omega) (gSt g) 0 L (by omega) (by omega) (fun t h1 h2 h3 => hL t h1 h2 (by omega))
      have a1 : xloop (f_X12_down_b37 183 (nI b) (nI x)) ((0 : Int32), xw (xl σ L) J) = some (.inl (nI (x + 1), xw (xl σ L1) J)) := a1
      obtain ⟨L', c1, c2⟩ := ih (x + 1) L1 (by omega) (by omega) a3
      refine ⟨L', ?_, fun a q h => by rw [c2 a q h]; exact a2 a q h⟩
      rw [← c1]
      refine xloop_step ?_
      simp only [f_X12_down_b27]
      rw [kG183 hS, Option.bind_some, hK.2.2.1, if_neg (by rw [q1]; exact id), a1]
end DOWNW
theorem op_downW : Op_downW INV := by
  intro n σ hn ⟨g, gT, gP, st, H⟩ x
  have hS := H.shp
  have hG := H.grd
  have hg := hG.1
  have h16 := (gAll_b g hg).2.2.1
  have sm := isSmall_ok (σ := σ) (I := xI σ) hS hG
  have l1 := isLawful11_ok (σ := σ) (I := xI σ) hS hG H.now.1 x
  have l2 := isLawful12_ok (σ := σ) (I := xI σ) hS hG H.now.2.1 x
  have s2 := sites_ok (σ := σ) (I := xI σ) hS hG
  have sm2 := small12 hS hG
  by_cases h10 : gSz g ≤ 10
  · rw [if_pos h10] at sm
    by_cases hb : isB g (xI σ 191) x = true
    · rw [hb, if_pos rfl] at l1
      obtain ⟨b, hb1, rfl, hbl⟩ := isB_t hb
      obtain ⟨τ, c, m, M, o, e1, H1, hT, hO, r1⟩ := terr_ready (by omega) H h10
      obtain ⟨F, hF⟩ : ∃ F, F = xI σ 191 := ⟨_, rfl⟩
      rw [← hF] at hT hO hbl r1
      have ho := hT.2.2.1
      obtain ⟨ib, hib, eb⟩ := hO.2.2.2.2 b hb1 hbl
      obtain ⟨L, e3, u3⟩ := waysDown_ok (σ := τ) hT hO hib ib 0 (xL τ) (by omega) (by omega) (fun j hj => by omega)
      rw [eb] at e3
      have e3 : f_X9_waysDown (xw τ (xI τ)) 174 (nI b) = some (DNV g F b, xw (xl τ L) (xI τ)) := e3
      have H2 : IV n (xl τ L) g gT gP st := H1.longs (fun k => u3 190 k (by omega))
      have r2 : xI (xl τ L) 191 = F := r1
      obtain ⟨H3, hG3, r3, Q, e4, H4, hG4, K4, r4⟩ := terr_both (J' := xI τ) H2 r2 (fun _ _ _ _ => rfl)
      have hS3 : Shp τ := H1.shp
      have hS4 : Shp (xl τ L) := hS3
      obtain ⟨L2, e5, u5⟩ := dw27 (σ := τ) hS3 hG4 ho K4 hT.st hb1 hbl (lvN g F) 0 L (by omega) (by omega) (fun t _ _ h => by omega)
      have e5 : xloop (f_X12_down_b27 183 (nI b)) ((0 : Int32), xw (xl τ L) Q) = some (DNW g F b, xw (xl τ L2) Q) := e5
      have l3 := isLawful12_ok (σ := xl τ L) (I := xI τ) hS4 hG3 (show RO g (xI τ 191) by rw [r1]; exact ho) (nI b)
      rw [r1, isB_n hg hb1, hbl, if_pos rfl] at l3
      refine ⟨DNV g F b, DNW g F b, xw (xl τ L) (xI τ), xw (xl τ L2) Q, ?_, ?_, INV_i (IV.nop (H4.longs (L := L2) (fun k => u5 190 k (by omega))))⟩
      · unfold f_X11_down
        show ((xck σ 1 11).bind fun _ => (f_X11_isSmall (xw σ (xI σ)) 1).bind _) = _
        rw [xck_ok (sT1 hS), Option.bind_some, sm, Option.bind_some, if_neg (by decide), Option.bind_some]
        show ((f_X11_isLawful (xw σ (xI σ)) 1 (nI b)).bind _) = _
        rw [l1, Option.bind_some, if_neg (by decide), Option.bind_some, e1, Option.bind_some]
        dsimp only
        rw [xnz_ok (by decide), Option.bind_some]
        unfold f_X11_down_j23
        rw [xck_ok (sT174 hS3), Option.bind_some]
        show ((f_X9_waysDown (xw τ (xI τ)) 174 (nI b)).bind _) = _
        rw [e3, Option.bind_some]
      · unfold f_X12_down
        rw [xw_ck, kC183 hS4, Option.bind_some, l3, Option.bind_some, if_neg (by decide), Option.bind_some, sites_ok hS4 hG3, Option.bind_some, if_pos (by rw [sm2]; exact h10), Option.bind_some, e4, Option.bind_some, e5]
    · have hb' : isB g (xI σ 191) x = false := Bool.not_eq_true _ ▸ hb
      rw [hb', if_neg (by decide)] at l1 l2
      refine ⟨-100000, -100000, σ, σ, ?_, ?_, g, gT, gP, st, H.nop⟩
      · show f_X11_down (xw σ (xI σ)) 1 x = _
        unfold f_X11_down
        simp (disch := first | assumption | omega) only [Option.bind_some, Option.map_some, xw_gR, xw_gN, xw_al, xw_ck, xw_uI, xw_ur, xup_at, xur_at, if_true, if_false, reduceIte, and_true, true_and, and_false, false_and, not_true_eq_false, not_false_eq_true, Nat.reduceEqDiff, eq_self, Nat.reduceAdd, Nat.reduceMul, kC1, kG1, kP1, kR1_0, kR1_1, kR1_2, kR1_3, kR1_4, kR1_5, kR1_6, kR1_7, kR1_8, kR1_9, kR1_10, kR1_11, kR1_12, kR1_13, kC2, kG2, kP2, kR2_0, kR2_1, kC3, kG3, kP3, kR3_0, kR3_1, kR3_2, kR3_3, kL4, kA4, kS4, kL5, kA5, kS5, kL6, kA6, kS6, kL7, kA7, kS7, kC8, kG8, kP8, kR8_0, kR8_1, kL9, kA9, kS9, kL10, kA10, kS10, kC11, kG11, kP11, kR11_0, kR11_1, kR11_2, kR11_3, kL12, kA12, kS12, kL13, kA13, kS13, kL14, kA14, kS14, kL15, kA15, kS15, kC16, kG16, kP16, kR16_0, kR16_1, kL17, kA17, kS17, kL18, kA18, kS18, kC19, kG19, kP19, kR19_0, kL20, kL141, kL146, kA146, kS146, kL151, kA151, kS151, kL156, kA156, kS156, kC157, kG157, kP157, kR157_0, kR157_1, kL158, kA158, kS158, kL159, kA159, kS159, kC161, kG161, kP161, kR161_0, kR161_1, kL162, kA162, kS162, kL163, kA163, kS163, kC165, kG165, kP165, kR165_0, kR165_1, kR165_2, kR165_3, kL166, kA166, kS166, kL167, kA167, kS167, kL168, kA168, kS168, kL169, kA169, kS169, kC170, kG170, kP170, kR170_0, kR170_1, kR170_2, kL171, kA171, kS171, kL172, kA172, kS172, kL173, kA173, kS173, kC174, kG174, kP174, kR174_0, kR174_1, kR174_2, kR174_3, kR174_4, kL175, kA175, kS175, kL176, kA176, kS176, kL177, kA177, kS177, kL178, kA178, kS178, kL179, kC180, kG180, kP180, kL181, kL182, kA182, kS182, kC183, kG183, kP183, kR183_1, kR183_3, kR183_5, kR183_6, kR183_7, kR183_8, kR183_9, kR183_21, kR183_26, kR183_27, kR183_30, kR183_31, kR183_33, kR183_34, kR183_36, kR183_37, kR183_38, kR183_39, kR183_40, kR183_41, kR183_42, kR183_43, kR183_44, kL184, kA184, kS184, kL185, kA185, kS185, kL186, kA186, kS186, kL187, kA187, kS187, kL188, kA188, kS188, kL189, kL190, kL191, kA191, kS191, kL192, kA192, kS192, kL193, kA193, kS193, kL194, kA194, kS194, kL195, kA195, kS195, kL196, kA196, kS196, kL197, kA197, kS197, kL198, kA198, kS198, kL199, kA199, kS199, kL200, kA200, kS200, kL201, kL202, kA202, kS202, kL203, kA203, kS203, kL204, kA204, kS204, kL205, kL206, kA206, kS206, sm, one0, l1]
        rfl
      · show f_X12_down (xw σ (xI σ)) 183 x = _
        unfold f_X12_down
        simp (disch := first | assumption | omega) only [Option.bind_some, Option.map_some, xw_gR, xw_gN, xw_al, xw_ck, xw_uI, xw_ur, xup_at, xur_at, if_true, if_false, reduceIte, and_true, true_and, and_false, false_and, not_true_eq_false, not_false_eq_true, Nat.reduceEqDiff, eq_self, Nat.reduceAdd, Nat.reduceMul, kC1, kG1, kP1, kR1_0, kR1_1, kR1_2, kR1_3, kR1_4, kR1_5, kR1_6, kR1_7, kR1_8, kR1_9, kR1_10, kR1_11, kR1_12, kR1_13, kC2, kG2, kP2, kR2_0, kR2_1, kC3, kG3, kP3, kR3_0, kR3_1, kR3_2, kR3_3, kL4, kA4, kS4, kL5, kA5, kS5, kL6, kA6, kS6, kL7, kA7, kS7, kC8, kG8, kP8, kR8_0, kR8_1, kL9, kA9, kS9, kL10, kA10, kS10, kC11, kG11, kP11, kR11_0, kR11_1, kR11_2, kR11_3, kL12, kA12, kS12, kL13, kA13, kS13, kL14, kA14, kS14, kL15, kA15, kS15, kC16, kG16, kP16, kR16_0, kR16_1, kL17, kA17, kS17, kL18, kA18, kS18, kC19, kG19, kP19, kR19_0, kL20, kL141, kL146, kA146, kS146, kL151, kA151, kS151, kL156, kA156, kS156, kC157, kG157, kP157, kR157_0, kR157_1, kL158, kA158, kS158, kL159, kA159, kS159, kC161, kG161, kP161, kR161_0, kR161_1, kL162, kA162, kS162, kL163, kA163, kS163, kC165, kG165, kP165, kR165_0, kR165_1, kR165_2, kR165_3, kL166, kA166, kS166, kL167, kA167, kS167, kL168, kA168, kS168, kL169, kA169, kS169, kC170, kG170, kP170, kR170_0, kR170_1, kR170_2, kL171, kA171, kS171, kL172, kA172, kS172, kL173, kA173, kS173, kC174, kG174, kP174, kR174_0, kR174_1, kR174_2, kR174_3, kR174_4, kL175, kA175, kS175, kL176, kA176, kS176, kL177, kA177, kS177, kL178, kA178, kS178, kL179, kC180, kG180, kP180, kL181, kL182, kA182, kS182, kC183, kG183, kP183, kR183_1, kR183_3, kR183_5, kR183_6, kR183_7, kR183_8, kR183_9, kR183_21, kR183_26, kR183_27, kR183_30, kR183_31, kR183_33, kR183_34, kR183_36, kR183_37, kR183_38, kR183_39, kR183_40, kR183_41, kR183_42, kR183_43, kR183_44, kL184, kA184, kS184, kL185, kA185, kS185, kL186, kA186, kS186, kL187, kA187, kS187, kL188, kA188, kS188, kL189, kL190, kL191, kA191, kS191, kL192, kA192, kS192, kL193, kA193, kS193, kL194, kA194, kS194, kL195, kA195, kS195, kL196, kA196, kS196, kL197, kA197, kS197, kL198, kA198, kS198, kL199, kA199, kS199, kL200, kA200, kS200, kL201, kL202, kA202, kS202, kL203, kA203, kS203, kL204, kA204, kS204, kL205, kL206, kA206, kS206, l2]
        rfl
  · rw [if_neg h10] at sm
    refine ⟨-100000, -100000, σ, σ, ?_, ?_, g, gT, gP, st, H.nop⟩
    · show f_X11_down (xw σ (xI σ)) 1 x = _
      unfold f_X11_down
      simp (disch := first | assumption | omega) only [Option.bind_some, Option.map_some, xw_gR, xw_gN, xw_al, xw_ck, xw_uI, xw_ur, xup_at, xur_at, if_true, if_false, reduceIte, and_true, true_and, and_false, false_and, not_true_eq_false, not_false_eq_true, Nat.reduceEqDiff, eq_self, Nat.reduceAdd, Nat.reduceMul, kC1, kG1, kP1, kR1_0, kR1_1, kR1_2, kR1_3, kR1_4, kR1_5, kR1_6, kR1_7, kR1_8, kR1_9, kR1_10, kR1_11, kR1_12, kR1_13, kC2, kG2, kP2, kR2_0, kR2_1, kC3, kG3, kP3, kR3_0, kR3_1, kR3_2, kR3_3, kL4, kA4, kS4, kL5, kA5, kS5, kL6, kA6, kS6, kL7, kA7, kS7, kC8, kG8, kP8, kR8_0, kR8_1, kL9, kA9, kS9, kL10, kA10, kS10, kC11, kG11, kP11, kR11_0, kR11_1, kR11_2, kR11_3, kL12, kA12, kS12, kL13, kA13, kS13, kL14, kA14, kS14, kL15, kA15, kS15, kC16, kG16, kP16, kR16_0, kR16_1, kL17, kA17, kS17, kL18, kA18, kS18, kC19, kG19, kP19, kR19_0, kL20, kL141, kL146, kA146, kS146, kL151, kA151, kS151, kL156, kA156, kS156, kC157, kG157, kP157, kR157_0, kR157_1, kL158, kA158, kS158, kL159, kA159, kS159, kC161, kG161, kP161, kR161_0, kR161_1, kL162, kA162, kS162, kL163, kA163, kS163, kC165, kG165, kP165, kR165_0, kR165_1, kR165_2, kR165_3, kL166, kA166, kS166, kL167, kA167, kS167, kL168, kA168, kS168, kL169, kA169, kS169, kC170, kG170, kP170, kR170_0, kR170_1, kR170_2, kL171, kA171, kS171, kL172, kA172, kS172, kL173, kA173, kS173, kC174, kG174, kP174, kR174_0, kR174_1, kR174_2, kR174_3, kR174_4, kL175, kA175, kS175, kL176, kA176, kS176, kL177, kA177, kS177, kL178, kA178, kS178, kL179, kC180, kG180, kP180, kL181, kL182, kA182, kS182, kC183, kG183, kP183, kR183_1, kR183_3, kR183_5, kR183_6, kR183_7, kR183_8, kR183_9, kR183_21, kR183_26, kR183_27, kR183_30, kR183_31, kR183_33, kR183_34, kR183_36, kR183_37, kR183_38, kR183_39, kR183_40, kR183_41, kR183_42, kR183_43, kR183_44, kL184, kA184, kS184, kL185, kA185, kS185, kL186, kA186, kS186, kL187, kA187, kS187, kL188, kA188, kS188, kL189, kL190, kL191, kA191, kS191, kL192, kA192, kS192, kL193, kA193, kS193, kL194, kA194, kS194, kL195, kA195, kS195, kL196, kA196, kS196, kL197, kA197, kS197, kL198, kA198, kS198, kL199, kA199, kS199, kL200, kA200, kS200, kL201, kL202, kA202, kS202, kL203, kA203, kS203, kL204, kA204, kS204, kL205, kL206, kA206, kS206, sm]
      rfl
    · show f_X12_down (xw σ (xI σ)) 183 x = _
      unfold f_X12_down
      simp (disch := first | assumption | omega) only [Option.bind_some, Option.map_some, xw_gR, xw_gN, xw_al, xw_ck, xw_uI, xw_ur, xup_at, xur_at, if_true, if_false, reduceIte, and_true, true_and, and_false, false_and, not_true_eq_false, not_false_eq_true, Nat.reduceEqDiff, eq_self, Nat.reduceAdd, Nat.reduceMul, kC1, kG1, kP1, kR1_0, kR1_1, kR1_2, kR1_3, kR1_4, kR1_5, kR1_6, kR1_7, kR1_8, kR1_9, kR1_10, kR1_11, kR1_12, kR1_13, kC2, kG2, kP2, kR2_0, kR2_1, kC3, kG3, kP3, kR3_0, kR3_1, kR3_2, kR3_3, kL4, kA4, kS4, kL5, kA5, kS5, kL6, kA6, kS6, kL7, kA7, kS7, kC8, kG8, kP8, kR8_0, kR8_1, kL9, kA9, kS9, kL10, kA10, kS10, kC11, kG11, kP11, kR11_0, kR11_1, kR11_2, kR11_3, kL12, kA12, kS12, kL13, kA13, kS13, kL14, kA14, kS14, kL15, kA15, kS15, kC16, kG16, kP16, kR16_0, kR16_1, kL17, kA17, kS17, kL18, kA18, kS18, kC19, kG19, kP19, kR19_0, kL20, kL141, kL146, kA146, kS146, kL151, kA151, kS151, kL156, kA156, kS156, kC157, kG157, kP157, kR157_0, kR157_1, kL158, kA158, kS158, kL159, kA159, kS159, kC161, kG161, kP161, kR161_0, kR161_1, kL162, kA162, kS162, kL163, kA163, kS163, kC165, kG165, kP165, kR165_0, kR165_1, kR165_2, kR165_3, kL166, kA166, kS166, kL167, kA167, kS167, kL168, kA168, kS168, kL169, kA169, kS169, kC170, kG170, kP170, kR170_0, kR170_1, kR170_2, kL171, kA171, kS171, kL172, kA172, kS172, kL173, kA173, kS173, kC174, kG174, kP174, kR174_0, kR174_1, kR174_2, kR174_3, kR174_4, kL175, kA175, kS175, kL176, kA176, kS176, kL177, kA177, kS177, kL178, kA178, kS178, kL179, kC180, kG180, kP180, kL181, kL182, kA182, kS182, kC183, kG183, kP183, kR183_1, kR183_3, kR183_5, kR183_6, kR183_7, kR183_8, kR183_9, kR183_21, kR183_26, kR183_27, kR183_30, kR183_31, kR183_33, kR183_34, kR183_36, kR183_37, kR183_38, kR183_39, kR183_40, kR183_41, kR183_42, kR183_43, kR183_44, kL184, kA184, kS184, kL185, kA185, kS185, kL186, kA186, kS186, kL187, kA187, kS187, kL188, kA188, kS188, kL189, kL190, kL191, kA191, kS191, kL192, kA192, kS192, kL193, kA193, kS193, kL194, kA194, kS194, kL195, kA195, kS195, kL196, kA196, kS196, kL197, kA197, kS197, kL198, kA198, kS198, kL199, kA199, kS199, kL200, kA200, kS200, kL201, kL202, kA202, kS202, kL203, kA203, kS203, kL204, kA204, kS204, kL205, kL206, kA206, kS206, l2, s2, sm2, h10]
      by_cases hb : isB g (xI σ 191) x = true
      · rw [hb, if_pos rfl, if_neg (by decide)]; rfl
      · rw [if_neg hb, if_pos rfl]; rfl
