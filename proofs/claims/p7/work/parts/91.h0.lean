/-! the ways down: what they are, the class's count -/
def dnS (f : Nat → Int64) : Nat → Int64
  | 0 => 0
  | n + 1 => dnS f n + f n
def dnT (g : GD) (F : Nat → Int32) (s i : Nat) : Bool := decide (F (48 + i) = 0) && decide (eC g (zR F) s i < 0)
def dnU (g : GD) (F : Nat → Int32) (s : Nat) : Nat → Bool
  | 0 => false
  | n + 1 => dnU g F s n || dnT g F s n
def dnV (g : GD) (F : Nat → Int32) : Nat → Nat → Int64
  | 0, _ => 0
  | k + 1, s => if dnU g F s (gSz g) then dnS (fun i => if dnT g F s i then dnV g F k (s ^^^ 2 ^ i) else 0) (gSz g) else 1
def DNV (g : GD) (F : Nat → Int32) (s : Nat) : Int64 := dnV g F 289 s
theorem dnS_c {f f' : Nat → Int64} : ∀ n, (∀ i, i < n → f i = f' i) → dnS f n = dnS f' n
  | 0, _ => rfl
  | n + 1, h => by rw [dnS, dnS, dnS_c n (fun i hi => h i (by omega)), h n (by omega)]
theorem dnL_at {L : Nat → Nat → Int64} {a j b k : Nat} {v : Int64} : xup L a j v b k = if b = a ∧ k = j then v else L b k := by
  unfold xup
  rfl
section DOWN
variable {σ : XS} {J : Nat → Nat → Int32} {g : GD} {F : Nat → Int32} {c m M : Nat} {o : Nat → Nat}
theorem dnT_lt (hg : g ∈ gAll) (ho : RO g F) {s i : Nat} (hi : i < gSz g) (h : dnT g F s i = true) : tK g F (s ^^^ 2 ^ i) < tK g F s := by
  have a := tK_ok hg ho s
  have b := tK_ok hg ho (s ^^^ 2 ^ i)
  rw [eE_flip hg _ hi] at b
  unfold dnT at h
  simp only [Bool.and_eq_true, decide_eq_true_eq] at h
  omega
theorem dnV_st (hg : g ∈ gAll) (ho : RO g F) : ∀ k s, tK g F s < k → dnV g F (k + 1) s = dnV g F k s
  | 0, s, h => by omega
  | k + 1, s, h => by
    rw [dnV, dnV]
    by_cases hu : dnU g F s (gSz g) = true
    · rw [if_pos hu, if_pos hu]
      refine dnS_c _ (fun i hi => ?_)
      by_cases z : dnT g F s i = true
      · rw [if_pos z, if_pos z]
        have := dnT_lt hg ho hi z
        exact dnV_st hg ho k _ (by omega)
      · rw [if_neg z, if_neg z]
    · rw [if_neg hu, if_neg hu]
theorem dnV_r (hg : g ∈ gAll) (ho : RO g F) (k s : Nat) (hk : tK g F s ≤ k) : dnV g F (k + 1) s = if dnU g F s (gSz g) then dnS (fun i => if dnT g F s i then dnV g F (k + 1) (s ^^^ 2 ^ i) else 0) (gSz g) else 1 := by
  rw [show dnV g F (k + 1) s = if dnU g F s (gSz g) then dnS (fun i => if dnT g F s i then dnV g F k (s ^^^ 2 ^ i) else 0) (gSz g) else 1 from rfl]
  by_cases hu : dnU g F s (gSz g) = true
  · rw [if_pos hu, if_pos hu]
    refine dnS_c _ (fun i hi => ?_)
    by_cases z : dnT g F s i = true
    · rw [if_pos z, if_pos z]
      have := dnT_lt hg ho hi z
      exact (dnV_st hg ho k _ (by omega)).symm
    · rw [if_neg z, if_neg z]
  · rw [if_neg hu, if_neg hu]
theorem DNV_r (hg : g ∈ gAll) (ho : RO g F) (s : Nat) : DNV g F s = if dnU g F s (gSz g) then dnS (fun i => if dnT g F s i then DNV g F (s ^^^ 2 ^ i) else 0) (gSz g) else 1 := by
  exact dnV_r hg ho 288 s (by have := (tK_ok hg ho s).1; omega)
theorem ways_ok (h : TC σ J g F c m) {L : Nat → Nat → Int64} {s : Nat} (hs : s < gSt g) (hL : ∀ i, i < gSz g → dnT g F s i = true → L 179 (s ^^^ 2 ^ i) = DNV g F (s ^^^ 2 ^ i)) : f_X9_waysFrom (xw (xl σ L) J) 174 (nI s) = some (DNV g F s) := by
  have hT : TC (xl σ L) J g F c m := h
  have h' := h
  obtain ⟨hS0, hg, ho, h10, hE, hK, hSR, r5, r6, j7⟩ := h'
  have hS : Shp (xl σ L) := hS0
  have hst := h.st
  have K179 : σ.1 179 = (23, 1024) := xw_K hS0 (by decide) (by decide) (by decide)
  unfold f_X9_waysFrom
  refine xforE (fun i : Nat => (dnS (fun i => if dnT g F s i then DNV g F (s ^^^ 2 ^ i) else 0) i, (if dnU g F s i then (0 : Int32) else 1), nI i)) (gSz g) rfl (fun i hi => ?_) ?_
  · simp only [f_X9_waysFrom_b8]
    have hf := gSt_flip hs hi
    have e1 := tEn_ok hT (gSt_pos hf).2
    have e2 := tEn_ok hT (gSt_pos hs).2
    rw [eE_flip hg _ hi] at e1
    have e3 := tCan_ok hT hi
    have hb := eE_b hg ho s
    have hcb := sp_b hg ho s hi
    have q1 : (nI (gSz g) ≤ nI i) = False := by rw [nn_le (by omega) (by omega)]; exact eq_false (by omega)
    have hq : (iI (eE g (zR F) s) ≤ iI (eE g (zR F) s + eC g (zR F) s i)) = (0 ≤ eC g (zR F) s i) := by
      rw [iI_le (by omega) (by omega) (by omega) (by omega)]; apply propext; omega
    have st := isSt_ok (s := s ^^^ 2 ^ i) (by omega)
    have hi32 : i < 32 := by omega
    rw [kG174 hS, Option.bind_some, j7, if_neg (by rw [q1]; exact id), xw_ck, kC174 hS, Option.bind_some, e3, Option.bind_some]
    rw [← nI_succ, dnS, dnU]
    by_cases h0 : F (48 + i) = 0
    · rw [if_pos h0, if_neg (by decide), nn_one hi32, nn_xor, st, Option.bind_some, if_neg (by decide), Option.bind_some, e1, Option.bind_some, Option.bind_some, e2, Option.bind_some]
      simp only [hq]
      by_cases h1 : 0 ≤ eC g (zR F) s i
      · have t0 : dnT g F s i = false := by unfold dnT; rw [decide_eq_false (show ¬ eC g (zR F) s i < 0 by omega), Bool.and_false]
        rw [if_pos h1, t0, Bool.or_false, if_neg (show ¬ (false = true) by decide), Int64.add_zero]
      · have t1 : dnT g F s i = true := by unfold dnT; rw [decide_eq_true h0, decide_eq_true (show eC g (zR F) s i < 0 by omega)]; rfl
        rw [if_neg h1, t1, Bool.or_true, if_pos rfl, if_pos rfl, xw_gR, kR174_4 hS, Option.bind_some, xl_aL K179 (by omega) (by decide), Option.bind_some, hL i hi t1]
    · have t0 : dnT g F s i = false := by unfold dnT; rw [decide_eq_false h0, Bool.false_and]
      rw [if_neg h0, if_pos rfl, t0, Bool.or_false, if_neg (show ¬ (false = true) by decide), Int64.add_zero]
  · simp only [f_X9_waysFrom_b8]
    rw [kG174 hS, Option.bind_some, j7, if_pos (by rw [nn_le (by omega) (by omega)]; exact Nat.le_refl _), DNV_r hg ho]
    cases hu : dnU g F s (gSz g) with
    | true => rw [if_pos rfl, if_pos rfl, if_pos rfl]; rfl
    | false => rw [if_neg (by decide), if_neg (by decide)]; rfl
theorem waysDown_ok (h : TC σ J g F c m) (hO : TO J g F M o) {ib : Nat} (hib : ib < M) : ∀ n i L, ib - i ≤ n → i ≤ ib → (∀ j, j < i → L 179 (o j) = DNV g F (o j)) → ∃ L' : Nat → Nat → Int64, xloop (f_X9_waysDown_b2 174 (nI (o ib))) (nI i, xw (xl σ L) J) = some (DNV g F (o ib), xw (xl σ L') J) ∧ ∀ a q, a ≠ 179 → L' a q = L a q := by
  have h' := h
  obtain ⟨hS0, hg, ho, h10, hE, hK, hSR, r5, r6, j7⟩ := h'
  have hst := h.st
  have K179 : σ.1 179 = (23, 1024) := xw_K hS0 (by decide) (by decide) (by decide)
  obtain ⟨o1, o2, o3, o4, o5⟩ := hO
  intro n
  induction n with
  | zero =>
    intro i L hn hi hL
    have : i = ib := by omega
    subst this
    have hS : Shp (xl σ L) := hS0
    have wf := ways_ok (L := L) h (o3 i hib).2.1 (fun k hk ht => by
      have hf := gSt_flip (o3 i hib).2.1 hk
      have hl : lW g F (o i ^^^ 2 ^ k) = true := by
        rw [lW_flip hk (o3 i hib).2.2]
        unfold dnT at ht
        simp only [Bool.and_eq_true, decide_eq_true_eq] at ht
        exact decide_eq_true ht.1
      obtain ⟨j, hj, ej⟩ := o5 _ hf hl
      rw [← ej]
      refine hL j ?_
      rcases Nat.lt_trichotomy j i with z | z | z
      · exact z
      · subst z
        have := dnT_lt hg ho hk ht
        rw [← ej] at this; omega
      · have := (o4 i j z hj).1
        rw [ej, eE_flip hg _ hk] at this
        unfold dnT at ht
        simp only [Bool.and_eq_true, decide_eq_true_eq] at ht
        omega)
    refine ⟨L, xloop_end ?_, fun _ _ _ => rfl⟩
    have q1 : (nI M ≤ nI i) = False := by rw [nn_le (by omega) (by omega)]; exact eq_false (by omega)
    have q2 : ((1024 : Int32) ≤ nI i) = False := by rw [show (1024 : Int32) = nI 1024 from rfl, nn_le (by omega) (by omega)]; exact eq_false (by omega)
    simp only [f_X9_waysDown_b2]
    rw [kG174 hS, Option.bind_some, o2, if_neg (by rw [q1]; exact id), if_neg (by rw [q2]; exact id), xw_gR, kR174_0 hS, Option.bind_some, kA175 hS (by omega), Option.bind_some, (o3 i hib).1, xw_ck, kC174 hS, Option.bind_some, wf, Option.bind_some, if_pos rfl]
    rfl
  | succ n ih =>
    intro i L hn hi hL
    have hS : Shp (xl σ L) := hS0
    have hiM : i < M := by omega
    have wf := ways_ok (L := L) h (o3 i hiM).2.1 (fun k hk ht => by
      have hf := gSt_flip (o3 i hiM).2.1 hk
      have hl : lW g F (o i ^^^ 2 ^ k) = true := by
        rw [lW_flip hk (o3 i hiM).2.2]
        unfold dnT at ht
        simp only [Bool.and_eq_true, decide_eq_true_eq] at ht
        exact decide_eq_true ht.1
      obtain ⟨j, hj, ej⟩ := o5 _ hf hl
      rw [← ej]
      refine hL j ?_
      rcases Nat.lt_trichotomy j i with z | z | z
      · exact z
      · subst z
        have := dnT_lt hg ho hk ht
        rw [← ej] at this; omega
      · have := (o4 i j z hj).1
        rw [ej, eE_flip hg _ hk] at this
        unfold dnT at ht
        simp only [Bool.and_eq_true, decide_eq_true_eq] at ht
        omega)
    have q1 : (nI M ≤ nI i) = False := by rw [nn_le (by omega) (by omega)]; exact eq_false (by omega)
    have q2 : ((1024 : Int32) ≤ nI i) = False := by rw [show (1024 : Int32) = nI 1024 from rfl, nn_le (by omega) (by omega)]; exact eq_false (by omega)
    have step : f_X9_waysDown_b2 174 (nI (o ib)) (nI i, xw (xl σ L) J) = if nI (o i) = nI (o ib) then some (.inr (DNV g F (o i), xw (xl σ L) J)) else some (.inl (nI (i + 1), xw (xl σ (xup L 179 (o i) (DNV g F (o i)))) J)) := by
      simp only [f_X9_waysDown_b2]
      rw [kG174 hS, Option.bind_some, o2, if_neg (by rw [q1]; exact id), if_neg (by rw [q2]; exact id), xw_gR, kR174_0 hS, Option.bind_some, kA175 hS (by omega), Option.bind_some, (o3 i hiM).1, xw_ck, kC174 hS, Option.bind_some, wf, Option.bind_some, isSt_ok (by have := (o3 i hiM).2.1; omega), Option.bind_some, if_neg (show ¬ (1 : Int32) = 0 by decide), xw_gR, kR174_4 hS, Option.bind_some, xl_sL K179 (by have := (o3 i hiM).2.1; omega) (by decide), Option.bind_some, nI_succ]
      rfl
    by_cases z : i = ib
    · subst z
      rw [if_pos rfl] at step
      exact ⟨L, xloop_end step, fun _ _ _ => rfl⟩
    · have ne : o i ≠ o ib := (o4 i ib (by omega) hib).2
      have b1 := (o3 i hiM).2.1
      have b2 := (o3 ib hib).2.1
      rw [if_neg (by rw [nn_eq (by omega) (by omega)]; exact ne)] at step
      obtain ⟨L', a1, a2⟩ := ih (i + 1) (xup L 179 (o i) (DNV g F (o i))) (by omega) (by omega) (fun j hj => by
        rw [dnL_at]
        by_cases y : j = i
        · rw [y, if_pos ⟨rfl, rfl⟩]
        · rw [if_neg (fun x => (o4 j i (by omega) hiM).2 x.2)]
          exact hL j (by omega))
      exact ⟨L', by rw [← a1]; exact xloop_step step, fun a q h => by rw [a2 a q h, dnL_at, if_neg (fun x => h x.1)]⟩
end DOWN
