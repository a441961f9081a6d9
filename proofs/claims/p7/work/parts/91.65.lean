/-! what each part of the invariant looks at -/
def sTAP (a k : Nat) : Prop := (a = 3 ∧ k = 4) ∨ a = 4 ∨ a = 184 ∨ (a = 183 ∧ k = 2)
def sGRD (a k : Nat) : Prop := (11 ≤ a ∧ a ≤ 15) ∨ (a = 183 ∧ 17 ≤ k ∧ k ≤ 20) ∨ a = 173
def sNOW (a k : Nat) : Prop := (16 ≤ a ∧ a ≤ 18) ∨ a = 191
def sPST (a k : Nat) : Prop := (19 ≤ a ∧ a ≤ 140) ∨ a = 193 ∨ (a = 183 ∧ 28 ≤ k ∧ k ≤ 29)
def sSLT (a k : Nat) : Prop := (142 ≤ a ∧ a ≤ 156) ∨ a = 194 ∨ a = 195
def sCCH (c a k : Nat) : Prop := (165 ≤ a ∧ a ≤ 175) ∨ (a = 157 ∧ k = 5) ∨ a = c
def sKNW (a k : Nat) : Prop := (a = 183 ∧ (k = 32 ∨ k = 35)) ∨ (a = 191 ∧ k < 64) ∨ (196 ≤ a ∧ a ≤ 198)
section FRAME
variable {g : GD} {gT gP gT' gP' : GH} {st st' : Nat} {I I' : Nat → Nat → Int32} {R : Nat → Nat → Nat} {len : Nat → Nat}
theorem TAP_c (h : ∀ a k, sTAP a k → I' a k = I a k) (H : TAP I) : TAP I' := by
  obtain ⟨m, h1, h2, h3, h4⟩ := H
  refine ⟨m, h1, by rw [h _ _ (by unfold sTAP; omega)]; exact h2, by rw [h _ _ (by unfold sTAP; omega)]; exact h3, fun k hk => ?_⟩
  rw [h 184 k (by unfold sTAP; omega), h 4 k (by unfold sTAP; omega)]
  exact h4 k hk
theorem GRD_c (h : ∀ a k, sGRD a k → I' a k = I a k) (H : GRD I g) : GRD I' g := by
  obtain ⟨h0, h1, h2, h3, h4, h5, h6, h7, h8, h9, h10, h11, h12⟩ := H
  have u : ∀ a k, ((11 ≤ a ∧ a ≤ 15) ∨ (a = 183 ∧ 17 ≤ k ∧ k ≤ 20) ∨ a = 173) → I' a k = I a k := h
  refine ⟨h0, ?_, ?_, ?_, ?_, fun t ht => ?_, fun i hi => ?_, fun i j hi hj => ?_, ?_, ?_, ?_, ?_, fun i hi => ?_⟩
  · rw [u _ _ (by omega)]; exact h1
  · rw [u _ _ (by omega)]; exact h2
  · rw [u _ _ (by omega)]; exact h3
  · rw [u _ _ (by omega)]; exact h4
  · rw [u _ _ (by omega)]; exact h5 t ht
  · rw [u _ _ (by omega)]; exact h6 i hi
  · rw [u _ _ (by omega), u _ _ (by omega)]; exact h7 i j hi hj
  · rw [u _ _ (by omega)]; exact h8
  · rw [u _ _ (by omega)]; exact h9
  · rw [u _ _ (by omega)]; exact h10
  · rw [u _ _ (by omega)]; exact h11
  · rw [u _ _ (by omega)]; exact h12 i hi
theorem SR_m (hg : g ∈ gAll) {a a' : Nat} {F F' : Nat → Int32} (h0 : ∀ k, 2 ≤ k → k ≤ 7 → I' a' k = I a k) (h1 : ∀ k, k < 32 → I' (a' + 1) k = I (a + 1) k) (h2 : ∀ k, k < 16 → I' (a' + 2) k = I (a + 2) k) (hF : ∀ k, k < 66 → F' k = F k) (H : SR g I a F) : SR g I' a' F' := by
  obtain ⟨e1, e2, ⟨p, u, e3, e4, e5, e6⟩, e7, e8⟩ := H
  have h16 := (gAll_b g hg).2.2.1
  refine ⟨fun t ht => by rw [h1 t ht, e1 t ht, hF t (by omega)], fun i hi => by rw [h2 i hi, e2 i hi, hF _ (by omega)], ⟨p, u, by rw [h0 2 (by omega) (by omega)]; exact e3, by rw [h0 3 (by omega) (by omega)]; exact e4, fun i => ?_, fun i => ?_⟩, by rw [h0 4 (by omega) (by omega), hF 64 (by omega)]; exact e7, by rw [h0 5 (by omega) (by omega), hF 65 (by omega)]; exact e8⟩
  · by_cases hi : i < gSz g
    · rw [e5, hF (48 + i) (by omega)]
    · rw [e5]; simp [hi]
  · by_cases hi : i < gSz g
    · rw [e6, hF (48 + i) (by omega)]
    · rw [e6]; simp [hi]
theorem LV_m (hg : g ∈ gAll) {a a' : Nat} {F F' : Nat → Int32} (h0 : ∀ k, 2 ≤ k → k ≤ 7 → I' a' k = I a k) (h1 : ∀ k, k < 32 → I' (a' + 1) k = I (a + 1) k) (h2 : ∀ k, k < 16 → I' (a' + 2) k = I (a + 2) k) (hF : ∀ k, k < 66 → F' k = F k)
    (hs : st ≤ st') (hT : ∀ t, t ≤ st → gT' t = gT t) (hP : ∀ t, t ≤ st → gP' t = gP t) (H : LV g gT gP st I a F) : LV g gT' gP' st' I' a' F' := by
  obtain ⟨e1, e2, t, p, e3, e4, e5, e6, e7, e8, e9, e10⟩ := H
  refine ⟨SR_m hg h0 h1 h2 hF e1, RO_congr hg hF e2, t, p, by omega, by omega, by rw [h0 6 (by omega) (by omega)]; exact e5, by rw [h0 7 (by omega) (by omega)]; exact e6, by rw [hT t e3]; exact e7, fun k hk => by rw [hT t e3, hF k (by omega)]; exact e8 k hk, by rw [hP p e4]; exact e9, fun k hk => by rw [hP p e4, hF k (by omega)]; exact e10 k hk⟩
theorem NOW_c (hg : g ∈ gAll) (h : ∀ a k, sNOW a k → I' a k = I a k) (H : LV g gT gP st I 16 (I 191)) : LV g gT gP st I' 16 (I' 191) :=
  have u : ∀ a k, ((16 ≤ a ∧ a ≤ 18) ∨ a = 191) → I' a k = I a k := h
  LV_m hg (fun k _ _ => u _ _ (by omega)) (fun k _ => u _ _ (by omega)) (fun k _ => u _ _ (by omega)) (fun k _ => u _ _ (by omega)) (Nat.le_refl _) (fun _ _ => rfl) (fun _ _ => rfl) H
theorem PST_c (hg : g ∈ gAll) (h : ∀ a k, sPST a k → I' a k = I a k) (hs : st ≤ st') (hT : ∀ t, t ≤ st → gT' t = gT t) (hP : ∀ t, t ≤ st → gP' t = gP t) (H : PST g gT gP st I) : PST g gT' gP' st' I' := by
  have u : ∀ a k, ((19 ≤ a ∧ a ≤ 140) ∨ a = 193 ∨ (a = 183 ∧ 28 ≤ k ∧ k ≤ 29)) → I' a k = I a k := h
  obtain ⟨q, nx, ea, h1, h2, h3, h4, h5, h6, h7, h8⟩ := H
  refine ⟨q, nx, ea, h1, h2, h3, by rw [u _ _ (by omega)]; exact h4, by rw [u _ _ (by omega)]; exact h5, by rw [u _ _ (by omega)]; exact h6, by rw [u _ _ (by omega)]; exact h7, fun i hi => ?_⟩
  exact LV_m hg (fun k _ _ => u _ _ (by omega)) (fun k _ => u _ _ (by omega)) (fun k _ => u _ _ (by omega)) (fun k _ => u _ _ (by omega)) hs hT hP (h8 i hi)
theorem ct_congr {F F' : Nat → Int32} (hg : g ∈ gAll) (h : ∀ k, k < 64 → F' k = F k) : lW g F' = lW g F ∧ eE g (zR F') = eE g (zR F) ∧ lE g F' = lE g F ∧ lC g F' = lC g F ∧ lU g F' = lU g F ∧ lvP g F' = lvP g F ∧ bk g F' = bk g F := by
  have h16 := (gAll_b g hg).2.2.1
  have a : lW g F' = lW g F := by
    funext s
    unfold lW
    rw [Bool.eq_iff_iff, List.all_eq_true, List.all_eq_true]
    constructor
    · intro H i hi
      have := List.mem_range.mp hi
      have q := H i hi
      rw [h (48 + i) (by omega)] at q
      exact q
    · intro H i hi
      have := List.mem_range.mp hi
      have q := H i hi
      rw [h (48 + i) (by omega)]
      exact q
  have b : eE g (zR F') = eE g (zR F) := by
    funext s
    unfold eE
    congr 1
    · apply fb_si_cong
      intro t ht
      unfold eT zR
      split
      · rfl
      · rw [h t (by omega)]
    · apply fb_si_cong
      intro t ht
      unfold eH zR
      rw [h (32 + t) (by omega)]
  have c : lE g F' = lE g F := by funext e s; unfold lE; rw [a, b]
  have d : lC g F' = lC g F := by funext e; unfold lC; rw [c]
  have f : lU g F' = lU g F := by funext e u; unfold lU; rw [c]
  refine ⟨a, b, c, d, f, ?_, ?_⟩
  · funext k; unfold lvP; rw [d]
  · funext s
    unfold bk
    apply fb_ct_cong
    intro t ht
    unfold bkP
    split
    · rfl
    · rw [h t (by omega)]
theorem WAY_c (hg : g ∈ gAll) {a : Nat} {F F' : Nat → Int32} (h : ∀ k, k < 289 → I' a k = I a k) (hF : ∀ k, k < 64 → F' k = F k) (H : WAY I a g F) : WAY I' a g F' := fun k hk => by
  rw [h k hk, (ct_congr hg hF).2.2.2.1]; exact H k hk
theorem SLT_c (hg : g ∈ gAll) (h : ∀ a k, sSLT a k → I' a k = I a k) (hs : st ≤ st') (hT : ∀ t, t ≤ st → gT' t = gT t) (hP : ∀ t, t ≤ st → gP' t = gP t) (H : SLT g gT gP st I) : SLT g gT' gP' st' I' := by
  have u : ∀ a k, ((142 ≤ a ∧ a ≤ 156) ∨ a = 194 ∨ a = 195) → I' a k = I a k := h
  intro i hi
  obtain ⟨f, c, h1, h2, h3, h4, h5, h6, h7⟩ := H i hi
  refine ⟨f, c, h1, h2, by rw [u _ _ (by omega)]; exact h3, by rw [u _ _ (by omega)]; exact h4, by rw [u _ _ (by omega)]; exact h5, fun hf => ?_, fun hf hc => ?_⟩
  · exact LV_m hg (fun k _ _ => u _ _ (by omega)) (fun k _ => u _ _ (by omega)) (fun k _ => u _ _ (by omega)) (fun k _ => u _ _ (by omega)) hs hT hP (h6 hf)
  · exact WAY_c hg (fun k _ => u _ _ (by omega)) (fun k _ => u _ _ (by omega)) (h7 hf hc)
theorem ENK_c {a : Nat} {F : Nat → Int32} (h : ∀ k, I' (R a 4) k = I (R a 4) k) (H : ENK I R len a g F) : ENK I' R len a g F := ⟨H.1, fun s hs => by rw [h]; exact H.2 s hs⟩
theorem LVK_c {F : Nat → Int32} (h : ∀ a k, (165 ≤ a ∧ a ≤ 169) → I' a k = I a k) (H : LVK I g F) : LVK I' g F := by
  obtain ⟨h1, h2, h3, h4, h5⟩ := H
  refine ⟨fun k hk => by rw [h _ _ (by omega)]; exact h1 k hk, fun k s hk hs q1 q2 => by rw [h _ _ (by omega)]; exact h2 k s hk hs q1 q2, fun k u hk hu => by rw [h _ _ (by omega)]; exact h3 k u hk hu, by rw [h _ _ (by omega)]; exact h4, fun k hk q => by rw [h _ _ (by omega)]; exact h5 k hk q⟩
theorem BRK_c {F : Nat → Int32} (h : ∀ k, I' 171 k = I 171 k) (H : BRK I g F) : BRK I' g F := fun m hm => by rw [h]; exact H m hm
theorem TRK_c {F : Nat → Int32} (h : ∀ a k, (174 ≤ a ∧ a ≤ 175) → I' a k = I a k) (H : TRK I R g F) : TRK I' R g F := by
  intro hn
  obtain ⟨h1, h2, h3, M, o, h4, h5, h6, h7⟩ := H hn
  exact ⟨by rw [h _ _ (by omega)]; exact h1, h2, h3, M, o, h4, by rw [h _ _ (by omega)]; exact h5, fun i hi => by rw [h _ _ (by omega)]; exact h6 i hi, h7⟩
theorem CCH_c (h : ∀ a k, sCCH (R 157 4) a k → I' a k = I a k) (hs : st ≤ st') (hT : ∀ t, t ≤ st → gT' t = gT t) (hP : ∀ t, t ≤ st → gP' t = gP t) (H : CCH I R len gT gP st) : CCH I' R len gT' gP' st' := by
  have u : ∀ a k, ((165 ≤ a ∧ a ≤ 175) ∨ (a = 157 ∧ k = 5) ∨ a = R 157 4) → I' a k = I a k := h
  obtain ⟨h1, h2, h3, h4⟩ := H
  refine ⟨?_, ?_, ?_, ?_⟩
  · rw [u 157 5 (by omega)]
    rcases h1 with q | ⟨t, q1, q2, q3⟩
    · exact .inl q
    · exact .inr ⟨t, by omega, q2, by rw [hT t q1]; exact ENK_c (fun k => u _ _ (by omega)) q3⟩
  · rw [u 165 5 (by omega)]
    rcases h2 with q | ⟨t, q1, q2, q3⟩
    · exact .inl q
    · exact .inr ⟨t, by omega, q2, by rw [hP t q1]; exact LVK_c (fun a k _ => u _ _ (by omega)) q3⟩
  · rw [u 170 3 (by omega)]
    rcases h3 with q | ⟨t, q1, q2, q3⟩
    · exact .inl q
    · exact .inr ⟨t, by omega, q2, by rw [hP t q1]; exact BRK_c (fun k => u _ _ (by omega)) q3⟩
  · rw [u 174 10 (by omega)]
    rcases h4 with q | ⟨t, q1, q2, q3⟩
    · exact .inl q
    · exact .inr ⟨t, by omega, q2, by rw [hP t q1]; exact TRK_c (fun a k _ => u _ _ (by omega)) q3⟩
theorem KNK_c (hg : g ∈ gAll) {F F' : Nat → Int32} (h : ∀ a k, ((a = 183 ∧ k = 35) ∨ (196 ≤ a ∧ a ≤ 198)) → I' a k = I a k) (hF : ∀ k, k < 64 → F' k = F k) (H : KNK I g F) : KNK I' g F' := by
  obtain ⟨c1, c2, c3, c4, c5, c6, c7⟩ := ct_congr hg hF
  obtain ⟨h1, h2, h3, h4⟩ := H
  have cN : lvN g F' = lvN g F := by unfold lvN; rw [c6]
  refine ⟨fun s hs => by rw [h _ _ (by omega), c1, c2]; exact h1 s hs, fun e he => by rw [h _ _ (by omega), c4]; exact h2 e he, by rw [h _ _ (by omega), cN]; exact h3, fun k hk q => ?_⟩
  rw [c6] at q ⊢
  rw [h _ _ (by omega)]
  exact h4 k hk q
theorem KNW_c (hg : g ∈ gAll) (h : ∀ a k, sKNW a k → I' a k = I a k) (H : KNW I g) : KNW I' g := by
  have u : ∀ a k, ((a = 183 ∧ (k = 32 ∨ k = 35)) ∨ (a = 191 ∧ k < 64) ∨ (196 ≤ a ∧ a ≤ 198)) → I' a k = I a k := h
  unfold KNW
  rw [u 183 32 (by omega)]
  rcases H with q | ⟨q1, q2⟩
  · exact .inl q
  · exact .inr ⟨q1, KNK_c hg (fun a k _ => u _ _ (by omega)) (fun k _ => u _ _ (by omega)) q2⟩
end FRAME
