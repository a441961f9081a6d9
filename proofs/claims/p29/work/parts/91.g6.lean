section
/-! the model reads -/
section RD
variable {τ : XS} {J J0 : Nat → Nat → Int32} {b : Nat → Int32} {m T w l : Nat}
theorem gone_l (hS : Shp τ) : xloop (f_X12_read_b286 183) ((0 : Int32), xw τ J) = some ((0 : Int32), xw τ (fun a q => if a = 195 ∧ q < 3 then 0 else if a = 183 ∧ q = 32 then 0 else J a q)) := by
  refine xforE (fun i : Nat => (nI i, xw τ (fun a q => if a = 195 ∧ q < i then 0 else J a q))) 3 ?_ (fun i hi => ?_) ?_
  · have : (fun a q => if a = 195 ∧ q < 0 then 0 else J a q) = J := by
      funext a q
      rw [if_neg (by omega)]
    simp only [this]
    rfl
  · have q1 : ((3 : Int32) ≤ nI i) = False := by rw [show (3 : Int32) = nI 3 from rfl, nn_le (by omega) (by omega)]; exact eq_false (by omega)
    have e : xup (fun a q => if a = 195 ∧ q < i then 0 else J a q) 195 i 0 = fun a q => if a = 195 ∧ q < i + 1 then 0 else J a q := by
      funext a q
      rw [xup_at]
      by_cases z : a = 195 ∧ q = i
      · rw [if_pos z, if_pos (by omega)]
      · rw [if_neg z]
        by_cases y : a = 195 ∧ q < i
        · rw [if_pos y, if_pos (by omega)]
        · rw [if_neg y, if_neg (by omega)]
    simp only [f_X12_read_b286]
    rw [if_neg (by rw [q1]; exact id), xw_gR, kR183_31 hS, Option.bind_some, kS195 hS hi, Option.bind_some, e, nI_succ]
  · have e : xup (fun a q => if a = 195 ∧ q < 3 then 0 else J a q) 183 32 0 = fun a q => if a = 195 ∧ q < 3 then 0 else if a = 183 ∧ q = 32 then 0 else J a q := by
      funext a q
      rw [xup_at]
      by_cases z : a = 183 ∧ q = 32
      · rw [if_pos z, if_neg (by omega), if_pos z]
      · rw [if_neg z, if_neg z]
    simp only [f_X12_read_b286]
    rw [if_pos (by decide), kP183 hS, Option.bind_some, e]
    rfl
/-- the bits of the pinned up -/
def upN (F : Nat → Int32) : Nat → Nat
  | 0 => 0
  | k + 1 => if F (48 + k) = 1 then upN F k ||| 2 ^ k else upN F k
theorem upN_bit (F : Nat → Int32) : ∀ n i, (upN F n).testBit i = (decide (i < n) && decide (F (48 + i) = 1))
  | 0, i => by rw [show upN F 0 = 0 from rfl, Nat.zero_testBit]; simp
  | n + 1, i => by
    have ih := upN_bit F n i
    rw [upN]
    by_cases h : F (48 + n) = 1
    · rw [if_pos h, Nat.testBit_or, ih, Nat.testBit_two_pow]
      by_cases z : n = i
      · subst z; simp [h]
      · have e : (i < n + 1) = (i < n) := propext ⟨fun _ => by omega, fun _ => by omega⟩
        simp [z, e]
    · rw [if_neg h, ih]
      by_cases z : n = i
      · subst z; simp [h]
      · have e : (i < n + 1) = (i < n) := propext ⟨fun _ => by omega, fun _ => by omega⟩
        simp [e]
theorem pins_l (hS : Shp τ) (h17 : J 183 17 = nI w) (h18 : J 183 18 = nI l) (hwl : w * l ≤ 16) (h64 : J 191 64 = 0) : ∀ z, xloop (f_X12_read_b286 183) ((0 : Int32), xw τ (xup (xup J 191 64 (nI (upN (J 191) (w * l)))) 183 29 0)) = some z → xloop (f_X12_read_b239 183) ((0 : Int32), xw τ J) = some z := by
  intro z hz
  refine xforE (fun i : Nat => (nI i, xw τ (xup J 191 64 (nI (upN (J 191) i))))) (w * l) ?_ (fun i hi => ?_) ?_
  · have : xup J 191 64 (nI (upN (J 191) 0)) = J := by
      funext a q
      rw [xup_at]
      by_cases z : a = 191 ∧ q = 64
      · rw [if_pos z, z.1, z.2, h64]; rfl
      · rw [if_neg z]
    simp only [this]
    rfl
  · have si : f_X12_sites (xw τ (xup J 191 64 (nI (upN (J 191) i)))) 183 = some (nI (w * l)) := by
      unfold f_X12_sites
      rw [kG183 hS, Option.bind_some, kG183 hS, Option.bind_some, xup_at, if_neg (by omega), xup_at, if_neg (by omega), h17, h18, nn_mul]
    have q1 : (nI (w * l) ≤ nI i) = False := by rw [nn_le (by omega) (by omega)]; exact eq_false (by omega)
    have r1 : (xup J 191 64 (nI (upN (J 191) i))) 191 (48 + i) = J 191 (48 + i) := by rw [xup_at, if_neg (by omega)]
    have r2 : (xup J 191 64 (nI (upN (J 191) i))) 191 64 = nI (upN (J 191) i) := by rw [xup_at, if_pos ⟨rfl, rfl⟩]
    have k48 : 48 + i < 66 := by omega
    have k64 : 64 < 66 := by omega
    simp only [f_X12_read_b239]
    rw [xw_ck, kC183 hS, Option.bind_some, si, Option.bind_some, if_neg (by rw [q1]; exact id), xw_gR, kR183_21 hS, Option.bind_some, show (48 : Int32) = nI 48 from rfl, nn_add, kA191 hS k48, Option.bind_some, r1]
    by_cases h1 : J 191 (48 + i) = 1
    · rw [if_pos h1, Option.bind_some, show (64 : Int32) = nI 64 from rfl, kA191 hS k64, Option.bind_some, r2, nn_one (by omega), fa_or, kS191 hS k64, Option.bind_some, xup2, upN, if_pos h1, nI_succ]
    · rw [if_neg h1, upN, if_neg h1, nI_succ]
  · have si : f_X12_sites (xw τ (xup J 191 64 (nI (upN (J 191) (w * l))))) 183 = some (nI (w * l)) := by
      unfold f_X12_sites
      rw [kG183 hS, Option.bind_some, kG183 hS, Option.bind_some, xup_at, if_neg (by omega), xup_at, if_neg (by omega), h17, h18, nn_mul]
    simp only [f_X12_read_b239]
    rw [xw_ck, kC183 hS, Option.bind_some, si, Option.bind_some, if_pos (by rw [nn_le (by omega) (by omega)]; exact Nat.le_refl _), kP183 hS, Option.bind_some, hz]
    rfl
theorem rows_l (hS : Shp τ) : ∀ z, xloop (f_X12_read_b239 183) ((0 : Int32), xw τ (fun a q => if a = 191 ∧ q = 64 then 0 else if a = 191 ∧ q < 66 then J 192 q else J a q)) = some z → xloop (f_X12_read_b205 183) ((0 : Int32), xw τ J) = some z := by
  intro z hz
  refine xforE (fun i : Nat => (nI i, xw τ (fun a q => if a = 191 ∧ q < i then J 192 q else J a q))) 66 ?_ (fun i hi => ?_) ?_
  · have : (fun a q => if a = 191 ∧ q < 0 then J 192 q else J a q) = J := by
      funext a q
      rw [if_neg (by omega)]
    simp only [this]
    rfl
  · have q1 : ((66 : Int32) ≤ nI i) = False := by rw [show (66 : Int32) = nI 66 from rfl, nn_le (by omega) (by omega)]; exact eq_false (by omega)
    have e : xup (fun a q => if a = 191 ∧ q < i then J 192 q else J a q) 191 i (J 192 i) = fun a q => if a = 191 ∧ q < i + 1 then J 192 q else J a q := by
      funext a q
      rw [xup_at]
      by_cases z : a = 191 ∧ q = i
      · rw [if_pos z, if_pos (by omega), z.2]
      · rw [if_neg z]
        by_cases y : a = 191 ∧ q < i
        · rw [if_pos y, if_pos (by omega)]
        · rw [if_neg y, if_neg (by omega)]
    have r : (if 192 = 191 ∧ i < i then J 192 i else J 192 i) = J 192 i := if_neg (by omega)
    simp only [f_X12_read_b205]
    rw [if_neg (by rw [q1]; exact id), xw_gR, kR183_21 hS, Option.bind_some, xw_gR, kR183_26 hS, Option.bind_some, kA192 hS hi, Option.bind_some, r, kS191 hS hi, Option.bind_some, e, nI_succ]
  · have e : xup (fun a q => if a = 191 ∧ q < 66 then J 192 q else J a q) 191 64 0 = fun a q => if a = 191 ∧ q = 64 then 0 else if a = 191 ∧ q < 66 then J 192 q else J a q := by
      funext a q
      rw [xup_at]
    have k64 : 64 < 66 := by omega
    simp only [f_X12_read_b205]
    rw [if_pos (by decide), xw_gR, kR183_21 hS, Option.bind_some, show (64 : Int32) = nI 64 from rfl, kS191 hS k64, Option.bind_some, e, hz]
    rfl
theorem set_ok (hS : Shp τ) {rA rL : Nat} {p : Int32} (h12 : J 183 12 = 0) (h14 : J 183 14 = 0) (h22 : J 183 22 = nI w) (h23 : J 183 23 = nI l) (h24 : J 183 24 = nI rA) (h25 : J 183 25 = nI rL) (hA : rA < 2) (hL : rL < 2) (hwl : w * l ≤ 16) : ∃ J', f_X12_read_j144 (xw τ J) 183 183 p = some (0, xw τ J') ∧ J' 183 16 = p ∧ J' 183 17 = nI w ∧ J' 183 18 = nI l ∧ J' 183 19 = nI rA ∧ J' 183 20 = nI rL ∧ (∀ k, k < 66 → k ≠ 64 → J' 191 k = J 192 k) ∧ J' 191 64 = nI (upN (J 192) (w * l)) ∧ J' 183 29 = 0 ∧ (∀ i, i < 3 → J' 195 i = 0) ∧ J' 183 32 = 0 ∧ ∀ a q, a ≠ 191 → a ≠ 195 → ¬ (a = 183 ∧ ((16 ≤ q ∧ q ≤ 20) ∨ q = 29 ∨ q = 32)) → J' a q = J a q := by
  obtain ⟨A, hA'⟩ : ∃ A, A = xup (xup (xup (xup (xup J 183 16 p) 183 17 (nI w)) 183 18 (nI l)) 183 19 (nI rA)) 183 20 (nI rL) := ⟨_, rfl⟩
  have uA : ∀ a q, ¬ (a = 183 ∧ 16 ≤ q ∧ q ≤ 20) → A a q = J a q := fun a q h => by rw [hA', xup_at, if_neg (by omega), xup_at, if_neg (by omega), xup_at, if_neg (by omega), xup_at, if_neg (by omega), xup_at, if_neg (by omega)]
  have A16 : A 183 16 = p := by rw [hA', xup_at, if_neg (by omega), xup_at, if_neg (by omega), xup_at, if_neg (by omega), xup_at, if_neg (by omega), xup_at, if_pos ⟨rfl, rfl⟩]
  have A17 : A 183 17 = nI w := by rw [hA', xup_at, if_neg (by omega), xup_at, if_neg (by omega), xup_at, if_neg (by omega), xup_at, if_pos ⟨rfl, rfl⟩]
  have A18 : A 183 18 = nI l := by rw [hA', xup_at, if_neg (by omega), xup_at, if_neg (by omega), xup_at, if_pos ⟨rfl, rfl⟩]
  have A19 : A 183 19 = nI rA := by rw [hA', xup_at, if_neg (by omega), xup_at, if_pos ⟨rfl, rfl⟩]
  have A20 : A 183 20 = nI rL := by rw [hA', xup_at, if_pos ⟨rfl, rfl⟩]
  have bz : ∀ x, x < 2 → xbz (nI x) = some () := fun x hx => by
    unfold xbz
    rcases (show x = 0 ∨ x = 1 by omega) with z | z
    · rw [z, if_pos (.inl rfl)]
    · rw [z, if_pos (.inr rfl)]
  obtain ⟨B, hB⟩ : ∃ B : Nat → Nat → Int32, B = fun a q => if a = 191 ∧ q = 64 then 0 else if a = 191 ∧ q < 66 then A 192 q else A a q := ⟨_, rfl⟩
  have uB : ∀ a q, a ≠ 191 → B a q = A a q := fun a q h => by rw [hB]; show (if a = 191 ∧ q = 64 then (0 : Int32) else if a = 191 ∧ q < 66 then A 192 q else A a q) = _; rw [if_neg (by omega), if_neg (by omega)]
  have B64 : B 191 64 = 0 := by rw [hB]; exact if_pos ⟨rfl, rfl⟩
  have Bk : ∀ k, k < 66 → k ≠ 64 → B 191 k = J 192 k := fun k h1 h2 => by rw [hB]; show (if 191 = 191 ∧ k = 64 then (0 : Int32) else if 191 = 191 ∧ k < 66 then A 192 k else A 191 k) = _; rw [if_neg (by omega), if_pos ⟨rfl, h1⟩]; exact uA _ _ (by omega)
  have up : ∀ n, n ≤ 16 → upN (B 191) n = upN (J 192) n := fun n => by
    induction n with
    | zero => intro _; rfl
    | succ n ih => intro h; rw [upN, upN, ih (by omega), Bk _ (by omega) (by omega)]
  obtain ⟨C, hC⟩ : ∃ C, C = xup (xup B 191 64 (nI (upN (B 191) (w * l)))) 183 29 0 := ⟨_, rfl⟩
  have uC : ∀ a q, ¬ (a = 191 ∧ q = 64) → ¬ (a = 183 ∧ q = 29) → C a q = B a q := fun a q h1 h2 => by rw [hC, xup_at, if_neg h2, xup_at, if_neg h1]
  obtain ⟨D, hD⟩ : ∃ D : Nat → Nat → Int32, D = fun a q => if a = 195 ∧ q < 3 then 0 else if a = 183 ∧ q = 32 then 0 else C a q := ⟨_, rfl⟩
  have uD : ∀ a q, a ≠ 195 → ¬ (a = 183 ∧ q = 32) → D a q = C a q := fun a q h1 h2 => by rw [hD]; show (if a = 195 ∧ q < 3 then (0 : Int32) else if a = 183 ∧ q = 32 then 0 else C a q) = _; rw [if_neg (by omega), if_neg h2]
  have e3 := gone_l (τ := τ) (J := C) hS
  rw [← hD] at e3
  rw [hC] at e3
  have e2 := pins_l hS (by rw [uB _ _ (by omega)]; exact A17) (by rw [uB _ _ (by omega)]; exact A18) hwl B64 _ e3
  rw [hB] at e2
  have e1 := rows_l hS _ e2
  have fr : ∀ a q, a ≠ 191 → a ≠ 195 → ¬ (a = 183 ∧ (q = 29 ∨ q = 32)) → D a q = A a q := fun a q h1 h2 h3 => by rw [uD a q h2 (by omega), uC a q (by omega) (by omega), uB a q h1]
  refine ⟨D, ?_, by rw [fr _ _ (by omega) (by omega) (by omega)]; exact A16, by rw [fr _ _ (by omega) (by omega) (by omega)]; exact A17, by rw [fr _ _ (by omega) (by omega) (by omega)]; exact A18, by rw [fr _ _ (by omega) (by omega) (by omega)]; exact A19, by rw [fr _ _ (by omega) (by omega) (by omega)]; exact A20, fun k h1 h2 => by rw [uD _ _ (by omega) (by omega), uC _ _ (by omega) (by omega)]; exact Bk k h1 h2, ?_, ?_, fun i hi => ?_, ?_, fun a q h1 h2 h3 => by rw [fr a q h1 h2 (by omega)]; exact uA a q (by omega)⟩
  · unfold f_X12_read_j144
    have g1 : xup J 183 16 p 183 12 = 0 := by rw [xup_at, if_neg (by omega)]; exact h12
    have g2 : xup J 183 16 p 183 14 = 0 := by rw [xup_at, if_neg (by omega)]; exact h14
    have g3 : xup J 183 16 p 183 22 = nI w := by rw [xup_at, if_neg (by omega)]; exact h22
    have g4 : xup (xup J 183 16 p) 183 17 (nI w) 183 23 = nI l := by rw [xup_at, if_neg (by omega), xup_at, if_neg (by omega)]; exact h23
    have g5 : xup (xup (xup J 183 16 p) 183 17 (nI w)) 183 18 (nI l) 183 24 = nI rA := by rw [xup_at, if_neg (by omega), xup_at, if_neg (by omega), xup_at, if_neg (by omega)]; exact h24
    have g6 : xup (xup (xup (xup J 183 16 p) 183 17 (nI w)) 183 18 (nI l)) 183 19 (nI rA) 183 25 = nI rL := by rw [xup_at, if_neg (by omega), xup_at, if_neg (by omega), xup_at, if_neg (by omega), xup_at, if_neg (by omega)]; exact h25
    rw [kP183 hS, Option.bind_some, kG183 hS, Option.bind_some, g1, if_pos (by decide), kG183 hS, Option.bind_some, g2, if_pos (by decide), kG183 hS, Option.bind_some, g3, kP183 hS, Option.bind_some, kG183 hS, Option.bind_some, g4, kP183 hS, Option.bind_some, kG183 hS, Option.bind_some, g5, bz rA hA, Option.bind_some, kP183 hS, Option.bind_some, kG183 hS, Option.bind_some, g6, bz rL hL, Option.bind_some, kP183 hS, Option.bind_some, ← hA', e1]
  · rw [uD _ _ (by omega) (by omega), hC, xup_at, if_neg (by omega), xup_at, if_pos ⟨rfl, rfl⟩, up _ hwl]
  · rw [uD _ _ (by omega) (by omega), hC, xup_at, if_pos ⟨rfl, rfl⟩]
  · rw [hD]; exact if_pos ⟨rfl, hi⟩
  · rw [hD]
    show (if 183 = 195 ∧ 32 < 3 then (0 : Int32) else if 183 = 183 ∧ 32 = 32 then 0 else C 183 32) = 0
    rw [if_neg (by omega), if_pos ⟨rfl, rfl⟩]
/-- what the model's reading may touch, whatever it reads -/
def sRM (a q : Nat) : Prop := (185 ≤ a ∧ a ≤ 188) ∨ a = 192 ∨ (a = 183 ∧ (q = 2 ∨ q = 4 ∨ (10 ≤ q ∧ q ≤ 16) ∨ (22 ≤ q ∧ q ≤ 25)))
theorem dl_0 : ∀ k, k < 16 → k ≠ 5 → dl 0 k = none := by decide
theorem dl_1 : ∀ k, k < 16 → k ≠ 2 → dl 1 k = none := by decide
theorem dl_2 : ∀ k, k < 16 → k ≠ 2 → dl 2 k = none := by decide
theorem dl_3 : ∀ k, k < 16 → k ≠ 4 → dl 3 k = none := by decide
theorem read_103 (hS : Shp τ) {N : Nat} (hm : m ≤ 2000) (h10 : J0 183 10 = nI N) (hN : TN J0 b m N) (h14 : J0 183 14 = 0) (hF : GF J0 J) (h : ((∃ n, cutR b m n 0 0) ∧ J 183 12 = 0) ∨ GB J b m) : ∃ r J', f_X12_read_j103 (xw τ J) 183 = some (nI r, xw τ J') ∧ ((((∃ n pl, cutR b m n r pl ∧ 0 < r ∧ r < 3 ∧ J' 183 16 = nI pl) ∨ ∃ T j, cutR b m T 0 0 ∧ fFT b m T = some (r, j) ∧ J' 183 16 = nI (tSt b m j)) ∧ ∀ a q, ¬ (a = 192 ∨ (a = 183 ∧ ((11 ≤ q ∧ q ≤ 16) ∨ (22 ≤ q ∧ q ≤ 25)))) → J' a q = J0 a q) ∨ ∃ T, cutR b m T 0 0 ∧ fFT b m T = none ∧ r = 0 ∧ J' 183 16 = -1 ∧ J' 183 17 = nI (tNu b m 1) ∧ J' 183 18 = nI (tNu b m 2) ∧ J' 183 19 = nI (rgN b m T % 2) ∧ J' 183 20 = nI (rgN b m T / 2) ∧ (∀ i, i < 16 → J' 191 i = iI ((tII b m i T).getD (aLL b m 6 T)) ∧ J' 191 (16 + i) = iI ((tII b m (16 + i) T).getD (aLL b m 7 T)) ∧ J' 191 (32 + i) = iI ((pUU b m i T).getD (aLL b m 8 T)) ∧ J' 191 (48 + i) = nI (pII b m i T)) ∧ (∃ u, J' 191 64 = nI u ∧ ∀ i, u.testBit i = (decide (i < tNu b m 1 * tNu b m 2) && decide (pII b m i T = 1))) ∧ J' 191 65 = nI (sDD b m T) ∧ J' 183 29 = 0 ∧ (∀ i, i < 3 → J' 195 i = 0) ∧ J' 183 32 = 0 ∧ ∀ a q, ¬ (a = 192 ∨ a = 191 ∨ a = 195 ∨ (a = 183 ∧ ((11 ≤ q ∧ q ≤ 20) ∨ (22 ≤ q ∧ q ≤ 25) ∨ q = 29 ∨ q = 32))) → J' a q = J0 a q) := by
  have bad : ∀ (J1 : Nat → Nat → Int32) (r : Nat) (p : Int32), 0 < r → r < 100 → J1 183 12 = nI r → J1 183 13 = p → f_X12_read_j114 (xw τ J1) 183 = some (nI r, xw τ (xup J1 183 16 p)) := fun J1 r p r0 r1 a1 a2 => by
    have q : (nI r ≤ 0) = False := by rw [show (0 : Int32) = nI 0 from rfl, nn_le (by omega) (by omega)]; exact eq_false (by omega)
    have g1 : xup J1 183 16 p 183 12 = nI r := by rw [xup_at, if_neg (by omega)]; exact a1
    unfold f_X12_read_j114
    rw [kG183 hS, Option.bind_some, a1, if_neg (by rw [q]; exact id), kG183 hS, Option.bind_some, a2]
    unfold f_X12_read_j144
    rw [kP183 hS, Option.bind_some, kG183 hS, Option.bind_some, g1, if_neg (by rw [q]; exact id), Option.bind_some]
  rcases h with ⟨⟨T, hT⟩, h12⟩ | ⟨n, r, pl, r0, r3, hc, h12, h13⟩
  · have ok := OKT_of hT
    have T400 := ok.2.1
    have hNT : N = T + 1 := by
      rcases Nat.lt_trichotomy N (T + 1) with z | z | z
      · exfalso
        rcases hN.2.2.2.2 with y | y
        · omega
        · obtain ⟨v, -, v2, -⟩ := ws_pre T 4 ok.1 (N - 1) (by have := hN.2.1; omega)
          exact v2 y
      · exact z
      · exact absurd ok.2.2 (hN.2.2.2.1 T (by omega))
    have hB : MB J b m T := ⟨ok, fun k hk => by
      have := hN.2.2.1 k (by omega)
      rw [hF _ _ (by omega), hF _ _ (by omega), hF _ _ (by omega)]; exact this, by rw [hF _ _ (by omega), h10, hNT], h12, hm⟩
    have j14 : J 183 14 = 0 := by rw [hF _ _ (by omega)]; exact h14
    obtain ⟨G, g1, g2, g3, g4, g5, g6, g7⟩ := means_ok (τ := τ) hS hB j14
    have st : ∀ z, f_X12_read_j114 (xw τ G) 183 = z → f_X12_read_j103 (xw τ J) 183 = z := fun z hz => by
      unfold f_X12_read_j103
      rw [kG183 hS, Option.bind_some, h12, if_pos rfl, xw_ck, kC183 hS, Option.bind_some, g1, Option.bind_some, hz]
    have G12 : G 183 12 = 0 := by rw [g2 _ _ (by omega) (by omega)]; exact h12
    have fG : ∀ a q, ¬ (a = 192 ∨ (a = 183 ∧ ((11 ≤ q ∧ q ≤ 15) ∨ (22 ≤ q ∧ q ≤ 25)))) → G a q = J0 a q := fun a q h => by rw [g2 a q (by omega) (by omega)]; exact hF a q (by omega)
    rcases g7 with ⟨f0, f14, fr⟩ | ⟨x, i, f0, f14, f15⟩
    · have f0' := f0
      unfold fFT at f0'
      have sz := (fF_none T f0').1
      have hg := sz_in (b := b) (m := m) (T := T) sz
      have h16 := (gAll_b _ hg).2.2.1
      have h16 : tNu b m 1 * tNu b m 2 ≤ 16 := h16
      have rb := rgN_b b m T
      obtain ⟨D, d1, d2, d3, d4, d5, d6, d7, d8, d9, d10, d11, d12⟩ := set_ok (τ := τ) (J := G) (p := -1) hS G12 f14 g3 g4 g5 g6 (by omega) (by omega) h16
      refine ⟨0, D, st _ ?_, .inr ⟨T, hT, f0, rfl, d2, d3, d4, d5, d6, fun i hi => ?_, ⟨_, d8, fun i => ?_⟩, ?_, d9, d10, d11, fun a q h => by rw [d12 a q (by omega) (by omega) (by omega)]; exact fG a q (by omega)⟩⟩
      · unfold f_X12_read_j114
        rw [kG183 hS, Option.bind_some, G12, if_pos (by decide), kG183 hS, Option.bind_some, f14, if_pos (by decide), d1]
        rfl
      · rw [d7 _ (by omega) (by omega), d7 _ (by omega) (by omega), d7 _ (by omega) (by omega), d7 _ (by omega) (by omega)]
        exact fr.1 i hi
      · rw [upN_bit]
        by_cases hi : i < tNu b m 1 * tNu b m 2
        · have pb := (pi_b (b := b) (m := m) (T := T) (i := i) f0').1
          rw [(fr.1 i (by omega)).2.2.2]
          have : (nI (pII b m i T) = (1 : Int32)) = (pII b m i T = 1) := nn_eq (b := 1) (by omega) (by decide)
          simp only [this]
        · rw [decide_eq_false hi, Bool.false_and, Bool.false_and]
      · rw [d7 _ (by omega) (by omega)]; exact fr.2.2
    · have f0' := f0
      unfold fFT at f0'
      have xs := ff_in ok f0'
      have q : (nI x ≤ 0) = False := by rw [show (0 : Int32) = nI 0 from rfl, nn_le (by omega) (by omega)]; exact eq_false (by omega)
      refine ⟨x, xup G 183 16 (nI (tSt b m i)), st _ ?_, .inl ⟨.inr ⟨T, i, hT, f0, by rw [xup_at, if_pos ⟨rfl, rfl⟩]⟩, fun a q h => by rw [xup_at, if_neg (by omega)]; exact fG a q (by omega)⟩⟩
      have e1 : xup G 183 16 (nI (tSt b m i)) 183 12 = 0 := by rw [xup_at, if_neg (by omega)]; exact G12
      have e2 : xup G 183 16 (nI (tSt b m i)) 183 14 = nI x := by rw [xup_at, if_neg (by omega)]; exact f14
      unfold f_X12_read_j114
      rw [kG183 hS, Option.bind_some, G12, if_pos (by decide), kG183 hS, Option.bind_some, f14, if_neg (by rw [q]; exact id), kG183 hS, Option.bind_some, f15]
      unfold f_X12_read_j144
      rw [kP183 hS, Option.bind_some, kG183 hS, Option.bind_some, e1, if_pos (by decide), kG183 hS, Option.bind_some, e2, if_neg (by rw [q]; exact id), Option.bind_some]
  · refine ⟨r, xup J 183 16 (nI pl), ?_, .inl ⟨.inl ⟨n, pl, hc, r0, r3, by rw [xup_at, if_pos ⟨rfl, rfl⟩]⟩, fun a q h => by rw [xup_at, if_neg (by omega)]; exact hF a q (by omega)⟩⟩
    unfold f_X12_read_j103
    rw [kG183 hS, Option.bind_some, h12, if_neg (nI_ne0 (by omega) (by omega))]
    exact bad J r _ r0 (by omega) h12 h13
end RD
end
section
/-! both read -/
section RD2
variable {τ : XS} {J : Nat → Nat → Int32} {b : Nat → Int32} {m : Nat}
/-- what both know of a text that is wrong -/
def RBD (b : Nat → Int32) (m r : Nat) (p : Int32) : Prop := (∃ n pl, cutR b m n r pl ∧ 0 < r ∧ r < 3 ∧ p = nI pl) ∨ ∃ T j, cutR b m T 0 0 ∧ fFT b m T = some (r, j) ∧ p = nI (tSt b m j)
def RGD (J' : Nat → Nat → Int32) (b : Nat → Int32) (m T : Nat) : Prop := J' 183 16 = -1 ∧ J' 183 17 = nI (tNu b m 1) ∧ J' 183 18 = nI (tNu b m 2) ∧ J' 183 19 = nI (rgN b m T % 2) ∧ J' 183 20 = nI (rgN b m T / 2) ∧ (∀ i, i < 16 → J' 191 i = iI ((tII b m i T).getD (aLL b m 6 T)) ∧ J' 191 (16 + i) = iI ((tII b m (16 + i) T).getD (aLL b m 7 T)) ∧ J' 191 (32 + i) = iI ((pUU b m i T).getD (aLL b m 8 T)) ∧ J' 191 (48 + i) = nI (pII b m i T)) ∧ (∃ u, J' 191 64 = nI u ∧ ∀ i, u.testBit i = (decide (i < tNu b m 1 * tNu b m 2) && decide (pII b m i T = 1))) ∧ J' 191 65 = nI (sDD b m T) ∧ J' 183 29 = 0 ∧ (∀ i, i < 3 → J' 195 i = 0) ∧ J' 183 32 = 0
theorem read12_ok (hS : Shp τ) (hk : KY (xL τ)) (hm : m ≤ 2000) (h2 : J 183 2 = nI m) (hb : ∀ k, k < m → J 184 k = b k ∧ byB (b k)) : ∃ (L : Nat → Nat → Int64) (r : Nat) (J' : Nat → Nat → Int32), f_X12_read (xw τ J) 183 = some (nI r, xw (xl τ L) J') ∧ (∀ q, L 190 q = xL τ 190 q) ∧ J' 183 2 = 0 ∧ ((RBD b m r (J' 183 16) ∧ ∀ a q, ¬ sRM a q → J' a q = J a q) ∨ ∃ T, cutR b m T 0 0 ∧ fFT b m T = none ∧ r = 0 ∧ RGD J' b m T ∧ ∀ a q, ¬ sRM a q → ¬ (a = 191 ∨ a = 195 ∨ (a = 183 ∧ ((17 ≤ q ∧ q ≤ 20) ∨ q = 29 ∨ q = 32))) → J' a q = J a q) := by
  obtain ⟨B, hB⟩ : ∃ B : Nat → Nat → Nat → Int32, B = fun n a q => if a = 185 ∧ q < n then J 184 q else if a = 183 ∧ q = 4 then nI m else J a q := ⟨_, rfl⟩
  have uB : ∀ n a q, a ≠ 185 → ¬ (a = 183 ∧ q = 4) → B n a q = J a q := fun n a q h1 h3 => by
    rw [hB]; show (if a = 185 ∧ q < n then J 184 q else if a = 183 ∧ q = 4 then nI m else J a q) = _
    rw [if_neg (by omega), if_neg h3]
  have B4 : ∀ n, B n 183 4 = nI m := fun n => by
    rw [hB]; show (if 183 = 185 ∧ 4 < n then J 184 4 else if 183 = 183 ∧ 4 = 4 then nI m else J 183 4) = _
    rw [if_neg (by omega), if_pos ⟨rfl, rfl⟩]
  have B0 : xup J 183 4 (nI m) = B 0 := by
    funext a q
    rw [xup_at, hB]
    show _ = (if a = 185 ∧ q < 0 then J 184 q else if a = 183 ∧ q = 4 then nI m else J a q)
    rw [if_neg (show ¬ (a = 185 ∧ q < 0) by omega)]
  have Bs : ∀ i, xup (B i) 185 i (J 184 i) = B (i + 1) := fun i => by
    funext a q
    rw [xup_at, hB]
    show (if a = 185 ∧ q = i then J 184 i else if a = 185 ∧ q < i then J 184 q else if a = 183 ∧ q = 4 then nI m else J a q) = if a = 185 ∧ q < i + 1 then J 184 q else if a = 183 ∧ q = 4 then nI m else J a q
    by_cases z : a = 185 ∧ q = i
    · rw [if_pos z, if_pos (by omega), z.2]
    · rw [if_neg z]
      by_cases y : a = 185 ∧ q < i
      · rw [if_pos y, if_pos (by omega)]
      · rw [if_neg y, if_neg (show ¬ (a = 185 ∧ q < i + 1) by omega)]
  obtain ⟨C, hC⟩ : ∃ C, C = xup (B m) 183 2 0 := ⟨_, rfl⟩
  have uC : ∀ a q, a ≠ 185 → ¬ (a = 183 ∧ (q = 2 ∨ q = 4)) → C a q = J a q := fun a q h1 h2 => by rw [hC, xup_at, if_neg (by omega)]; exact uB m a q h1 (by omega)
  have C2 : C 183 2 = 0 := by rw [hC, xup_at, if_pos ⟨rfl, rfl⟩]
  have X : TX C b m := by
    refine ⟨hm, by rw [hC, xup_at, if_neg (by omega)]; exact B4 m, fun k hk => ⟨?_, (hb k hk).2⟩⟩
    rw [hC, xup_at, if_neg (by omega), ← (hb k hk).1, hB]
    exact if_pos ⟨rfl, hk⟩
  obtain ⟨L, D, N, d1, d2, d3, d4, d5, d6, d7, d8, uD⟩ := cutsText_ok (τ := τ) hS hk X
  have hS' : Shp (xl τ L) := hS
  obtain ⟨E, hE⟩ : ∃ E, E = xup (xup (xup D 183 11 0) 183 12 0) 183 14 0 := ⟨_, rfl⟩
  have uE : ∀ a q, ¬ (a = 183 ∧ (q = 11 ∨ q = 12 ∨ q = 14)) → E a q = D a q := fun a q h => by rw [hE, xup_at, if_neg (by omega), xup_at, if_neg (by omega), xup_at, if_neg (by omega)]
  have E11 : E 183 11 = 0 := by rw [hE, xup_at, if_neg (by omega), xup_at, if_neg (by omega), xup_at, if_pos ⟨rfl, rfl⟩]
  have E12 : E 183 12 = 0 := by rw [hE, xup_at, if_neg (by omega), xup_at, if_pos ⟨rfl, rfl⟩]
  have E14 : E 183 14 = 0 := by rw [hE, xup_at, if_pos ⟨rfl, rfl⟩]
  have hN : TN E b m N := ⟨d3, d4, fun k hk => by
    have := d6 k hk
    rw [uE _ _ (by omega), uE _ _ (by omega), uE _ _ (by omega)]; exact this, d7, d8⟩
  have s0 : ST E E b m 0 0 := ⟨fun _ _ _ => rfl, .inl ⟨0, Nat.le_refl _, E11, E12, by omega, rfl⟩⟩
  obtain ⟨J1, m1, s1⟩ := must_s (τ := xl τ L) hS' hN s0 (k' := 5) (w' := 1) (by omega) (by omega) (by omega) (by omega) (by decide) dl_0
  obtain ⟨J2, m2, s2⟩ := must_s (τ := xl τ L) hS' hN s1 (k' := 2) (w' := 2) (by omega) (by omega) (by omega) (by omega) (by decide) dl_1
  obtain ⟨J3, m3, s3⟩ := must_s (τ := xl τ L) hS' hN s2 (k' := 2) (w' := 3) (by omega) (by omega) (by omega) (by omega) (by decide) dl_2
  obtain ⟨J4, m4, s4⟩ := must_s (τ := xl τ L) hS' hN s3 (k' := 4) (w' := 4) (by omega) (by omega) (by omega) (by omega) (by decide) dl_3
  obtain ⟨J5, f5, c5, r5⟩ := gram_l (τ := xl τ L) hS' hN 401 (0 + 1 + 1 + 1 + 1) J4 (by omega) s4
  obtain ⟨r, J6, e6, c6⟩ := read_103 (τ := xl τ L) hS' hm (by rw [uE _ _ (by omega)]; exact d5) hN E14 f5 c5
  have m1 : f_X12_must (xw (xl τ L) E) 183 (20 : Int32) = some (xw (xl τ L) J1) := m1
  have m2 : f_X12_must (xw (xl τ L) J1) 183 (2 : Int32) = some (xw (xl τ L) J2) := m2
  have m3 : f_X12_must (xw (xl τ L) J2) 183 (2 : Int32) = some (xw (xl τ L) J3) := m3
  have m4 : f_X12_must (xw (xl τ L) J3) 183 (4 : Int32) = some (xw (xl τ L) J4) := m4
  have e5 := r5 _ e6
  have run : f_X12_read (xw τ J) 183 = some (nI r, xw (xl τ L) J6) := by
    unfold f_X12_read
    rw [kG183 hS, Option.bind_some, h2, kP183 hS, Option.bind_some, B0]
    refine xforE (fun i : Nat => (nI i, xw τ (B i))) m rfl (fun i hi => ?_) ?_
    · have q1 : (nI m ≤ nI i) = False := by rw [nn_le (by omega) (by omega)]; exact eq_false (by omega)
      have i2 : i < 2000 := by omega
      have v : B i 184 i = J 184 i := uB i 184 i (by omega) (by omega)
      have nb : vp_nar .byte (J 184 i) = J 184 i := by
        have := hb i hi
        rw [this.1]
        exact fb_byte this.2.1 this.2.2
      simp only [f_X12_read_b10]
      rw [kG183 hS, Option.bind_some, B4, if_neg (by rw [q1]; exact id), xw_gR, kR183_3 hS, Option.bind_some, xw_gR, kR183_1 hS, Option.bind_some, kA184 hS i2, Option.bind_some, v, nb, kS185 hS i2, Option.bind_some, Bs, nI_succ]
    · simp only [f_X12_read_b10]
      rw [kG183 hS, Option.bind_some, B4, if_pos (by rw [nn_le (by omega) (by omega)]; exact Nat.le_refl _), kP183 hS, Option.bind_some, ← hC, xw_ck, kC183 hS, Option.bind_some, d1, Option.bind_some, kP183 hS', Option.bind_some, kP183 hS', Option.bind_some, kP183 hS', Option.bind_some, ← hE, xw_ck, kC183 hS', Option.bind_some, m1, Option.bind_some, xw_ck, kC183 hS', Option.bind_some, m2, Option.bind_some, xw_ck, kC183 hS', Option.bind_some, m3, Option.bind_some, xw_ck, kC183 hS', Option.bind_some, m4, Option.bind_some, e5]
      rfl
  have uED : ∀ a q, ¬ (185 ≤ a ∧ a ≤ 188) → ¬ (a = 183 ∧ (q = 2 ∨ q = 4 ∨ q = 10 ∨ q = 11 ∨ q = 12 ∨ q = 14)) → E a q = J a q := fun a q h1 h2 => by rw [uE a q (by omega), uD a q (by omega) (by omega)]; exact uC a q (by omega) (by omega)
  have E2 : E 183 2 = 0 := by rw [uE _ _ (by omega), uD _ _ (by omega) (by omega)]; exact C2
  rcases c6 with ⟨c7, u7⟩ | ⟨T, t1, t2, t3, t4, t5, t6, t7, t8, t9, t10, t11, t12, t13, t14, u7⟩
  · refine ⟨L, r, J6, run, d2, by rw [u7 _ _ (by omega)]; exact E2, .inl ⟨c7, fun a q h => ?_⟩⟩
    unfold sRM at h
    rw [u7 a q (by omega)]
    exact uED a q (by omega) (by omega)
  · refine ⟨L, r, J6, run, d2, by rw [u7 _ _ (by omega)]; exact E2, .inr ⟨T, t1, t2, t3, ⟨t4, t5, t6, t7, t8, t9, t10, t11, t12, t13, t14⟩, fun a q h h' => ?_⟩⟩
    unfold sRM at h
    rw [u7 a q (by omega)]
    exact uED a q (by omega) (by omega)
end RD2
end
section
/-! read -/
theorem RBD_one {b : Nat → Int32} {m r r' : Nat} {p p' : Int32} (h : RBD b m r p) (h' : RBD b m r' p') : r = r' ∧ p = p' := by
  rcases h with ⟨n, pl, h1, h2, h3, h4⟩ | ⟨T, j, h1, h2, h3⟩
  · rcases h' with ⟨n', pl', k1, k2, k3, k4⟩ | ⟨T', j', k1, k2, k3⟩
    · obtain ⟨z1, z2, z3⟩ := cutR_one h1 k1
      exact ⟨z2, by rw [h4, k4, z3]⟩
    · obtain ⟨z1, z2, z3⟩ := cutR_one h1 k1
      omega
  · rcases h' with ⟨n', pl', k1, k2, k3, k4⟩ | ⟨T', j', k1, k2, k3⟩
    · obtain ⟨z1, z2, z3⟩ := cutR_one h1 k1
      omega
    · obtain ⟨z1, -, -⟩ := cutR_one h1 k1
      subst z1
      rw [h2] at k2
      cases k2
      exact ⟨rfl, by rw [h3, k3]⟩
theorem RBD_no {b : Nat → Int32} {m r T : Nat} {p : Int32} (h : RBD b m r p) (h1 : cutR b m T 0 0) (h2 : fFT b m T = none) : False := by
  rcases h with ⟨n, pl, k1, k2, k3, k4⟩ | ⟨T', j, k1, k2, k3⟩
  · obtain ⟨z1, z2, z3⟩ := cutR_one h1 k1
    omega
  · obtain ⟨z1, -, -⟩ := cutR_one h1 k1
    subst z1
    rw [h2] at k2
    cases k2
theorem RBD_b {b : Nat → Int32} {m r : Nat} {p : Int32} (h : RBD b m r p) : 0 < r ∧ r < 5 := by
  rcases h with ⟨n, pl, k1, k2, k3, k4⟩ | ⟨T', j, k1, k2, k3⟩
  · omega
  · unfold fFT at k2
    have := ff_in (OKT_of k1) k2
    omega
section RC
variable {σ : XS} {J : Nat → Nat → Int32} {m st : Nat}
def RGC (J' : Nat → Nat → Int32) (b : Nat → Int32) (m T st : Nat) (g : GD) : Prop := J' 1 14 = -1 ∧ (J' 11 4 = nI g.1 ∧ J' 11 5 = nI g.2.1 ∧ J' 11 6 = nI g.2.2 ∧ J' 11 7 = nI (gSz g) ∧ GM J' g 32) ∧ (∀ t, t < 32 → J' 17 t = bdT b m T g.1 g.2.1 g.2.2 t) ∧ (∀ i, i < 16 → J' 18 i = fdT b m T g.1 g.2.1 i) ∧ (∃ p u, J' 16 2 = nI p ∧ J' 16 3 = nI u ∧ J' 16 4 = nI u ∧ (∀ i, p.testBit i = (decide (i < 16) && decide (pII b m i T ≠ 0))) ∧ ∀ i, u.testBit i = (decide (i < 16) && decide (pII b m i T = 1))) ∧ J' 16 5 = nI (sDD b m T) ∧ J' 16 6 = nI (st + 1) ∧ J' 16 7 = nI (st + 1) ∧ J' 1 15 = nI (st + 1) ∧ J' 19 1 = 0 ∧ J' 19 2 = 0 ∧ ∀ i, i < 3 → J' (142 + 5 * i) 2 = 0
theorem read11_ok (hS : Shp σ) (hm : m ≤ 2000) (h4 : J 3 4 = nI m) (hst : J 1 15 = nI st) : ∃ (r : Nat) (J' : Nat → Nat → Int32), f_X11_read (xw σ J) 1 = some (nI r, xw σ J') ∧ J' 3 4 = 0 ∧ ((RBD (J 4) m r (J' 1 14) ∧ ∀ a q, ¬ (a = 2 ∨ (5 ≤ a ∧ a ≤ 10)) → ¬ (a = 3 ∧ 4 ≤ q ∧ q ≤ 9) → ¬ (a = 1 ∧ q = 14) → J' a q = J a q) ∨ ∃ T, cutR (J 4) m T 0 0 ∧ fFT (J 4) m T = none ∧ r = 0 ∧ RGC J' (J 4) m T st (tNu (J 4) m 1, tNu (J 4) m 2, rgN (J 4) m T) ∧ ∀ a q, ¬ (a = 2 ∨ (5 ≤ a ∧ a ≤ 19)) → ¬ (a = 3 ∧ 4 ≤ q ∧ q ≤ 9) → ¬ (a = 1 ∧ (q = 14 ∨ q = 15)) → ¬ ((a = 142 ∨ a = 147 ∨ a = 152) ∧ q = 2) → J' a q = J a q) := by
  obtain ⟨A, e1, uA, hc⟩ := build_ok (σ := σ) hS hm h4
  obtain ⟨B, hB⟩ : ∃ B, B = xup (xup A 3 4 0) 1 14 (A 2 3) := ⟨_, rfl⟩
  have uB : ∀ a q, ¬ (a = 3 ∧ q = 4) → ¬ (a = 1 ∧ q = 14) → B a q = A a q := fun a q h1 h2 => by rw [hB, xup_at, if_neg h2, xup_at, if_neg h1]
  have B14 : B 1 14 = A 2 3 := by rw [hB, xup_at, if_pos ⟨rfl, rfl⟩]
  have B24 : B 3 4 = 0 := by rw [hB, xup_at, if_neg (by omega), xup_at, if_pos ⟨rfl, rfl⟩]
  have k73 : xup A 3 4 0 2 3 = A 2 3 := by rw [xup_at, if_neg (by omega)]
  have run : ∀ z, (if B 2 2 = 0 then ((xck (xw σ B) 1 11).bind fun _ => (f_X11_beginAnew (xw σ B) 1).bind fun σ22 => (xgR σ22 1 11 1).bind fun z24 => (xgI σ22 z24 1 2).bind fun v26 => some (v26, σ22)) else (some 2).bind fun z21 => (xgI (xw σ B) z21 1 2).bind fun v23 => some (v23, xw σ B)) = z → f_X11_read (xw σ J) 1 = z := fun z hz => by
    unfold f_X11_read
    rw [xw_gR, kR1_1 hS, Option.bind_some, xw_ck, kC2 hS, Option.bind_some, e1, Option.bind_some, xw_gR, kR1_0 hS, Option.bind_some, kP3 hS, Option.bind_some, xw_gR, kR1_1 hS, Option.bind_some, kG2 hS, Option.bind_some, k73, kP1 hS, Option.bind_some, ← hB, xw_gR, kR1_1 hS, Option.bind_some, kG2 hS, Option.bind_some]
    exact hz
  have bad : ∀ (r : Nat) (p : Int32), 0 < r → r < 5 → RBD (J 4) m r p → A 2 2 = nI r → A 2 3 = p → ∃ (r : Nat) (J' : Nat → Nat → Int32), f_X11_read (xw σ J) 1 = some (nI r, xw σ J') ∧ J' 3 4 = 0 ∧ ((RBD (J 4) m r (J' 1 14) ∧ ∀ a q, ¬ (a = 2 ∨ (5 ≤ a ∧ a ≤ 10)) → ¬ (a = 3 ∧ 4 ≤ q ∧ q ≤ 9) → ¬ (a = 1 ∧ q = 14) → J' a q = J a q) ∨ ∃ T, cutR (J 4) m T 0 0 ∧ fFT (J 4) m T = none ∧ r = 0 ∧ RGC J' (J 4) m T st (tNu (J 4) m 1, tNu (J 4) m 2, rgN (J 4) m T) ∧ ∀ a q, ¬ (a = 2 ∨ (5 ≤ a ∧ a ≤ 19)) → ¬ (a = 3 ∧ 4 ≤ q ∧ q ≤ 9) → ¬ (a = 1 ∧ (q = 14 ∨ q = 15)) → ¬ ((a = 142 ∨ a = 147 ∨ a = 152) ∧ q = 2) → J' a q = J a q) := fun r p r0 r5 hr a2 a3 => by
    have B2 : B 2 2 = nI r := by rw [uB _ _ (by omega) (by omega)]; exact a2
    refine ⟨r, B, run _ ?_, B24, .inl ⟨by rw [B14, a3]; exact hr, fun a q h1 h2 h3 => by rw [uB a q (by omega) h3]; exact uA a q h1 (by omega)⟩⟩
    rw [B2, if_neg (nI_ne0 (by omega) (by omega)), Option.bind_some, kG2 hS, Option.bind_some, B2]
  rcases hc with ⟨n, r, pl, c1, c2, c3, c4, c5⟩ | ⟨T, c1, ⟨x, j, c2, c3, c4⟩ | ⟨c2, c3⟩⟩
  · exact bad r _ c2 (by omega) (.inl ⟨n, pl, c1, c2, c3, rfl⟩) c4 c5
  · have hr : RBD (J 4) m x (nI (tSt (J 4) m j)) := .inr ⟨T, j, c1, c2, rfl⟩
    exact bad x _ (RBD_b hr).1 (RBD_b hr).2 hr c3 c4
  · obtain ⟨d1, d2, d3, d4, d5, d6, d7, ⟨p, u, d8, d9, d10, d11⟩, d12, d13⟩ := c3
    have c2' := c2
    unfold fFT at c2'
    have hg := sz_in (b := J 4) (m := m) (T := T) (fF_none T c2').1
    have B2 : B 2 2 = 0 := by rw [uB _ _ (by omega) (by omega)]; exact d1
    obtain ⟨C, f1, f2, f3, f4, f5, f6, f7, f8, f9, f10, f11, f12, f13, f14, uC⟩ := anew_ok (σ := σ) (J := B) (st := st) hS hg (by rw [uB _ _ (by omega) (by omega)]; exact d3) (by rw [uB _ _ (by omega) (by omega)]; exact d4) (by rw [uB _ _ (by omega) (by omega)]; exact d5) (by rw [uB _ _ (by omega) (by omega), uA _ _ (by omega) (by omega)]; exact hst)
    refine ⟨0, C, run _ ?_, by rw [uC _ _ (by omega) (by omega) (by omega)]; exact B24, .inr ⟨T, c1, c2, rfl, ⟨?_, f2, fun t ht => ?_, fun i hi => ?_, ⟨p, u, ?_, ?_, ?_, d10, d11⟩, ?_, f9, f10, f11, f12, f13, f14⟩, fun a q h1 h2 h3 h4 => ?_⟩⟩
    · have C2 : C 2 2 = 0 := by rw [uC _ _ (by omega) (by omega) (by omega)]; exact B2
      rw [if_pos B2, xw_ck, kC1 hS, Option.bind_some, f1, Option.bind_some, xw_gR, kR1_1 hS, Option.bind_some, kG2 hS, Option.bind_some, C2]
      rfl
    · rw [uC _ _ (by omega) (by omega) (by omega), B14]; exact d2
    · rw [f3 t ht, uB _ _ (by omega) (by omega)]; exact d6 t ht
    · rw [f4 i hi, uB _ _ (by omega) (by omega)]; exact d7 i hi
    · rw [f5, uB _ _ (by omega) (by omega)]; exact d8
    · rw [f6, uB _ _ (by omega) (by omega)]; exact d9
    · rw [f7, uB _ _ (by omega) (by omega)]; exact d9
    · rw [f8, uB _ _ (by omega) (by omega)]; exact d13
    · rw [uC a q (by omega) (by omega) h4, uB a q (by omega) (by omega)]; exact uA a q (by omega) (by omega)
end RC
theorem rd_now {I : Nat → Nat → Int32} {b : Nat → Int32} {m T st : Nat} {g : GD} {gT gP : GH} (hT : OKT b m T) (hg : g ∈ gAll) (hG : g = (tNu b m 1, tNu b m 2, rgN b m T)) (hF : fFT b m T = none) (h17 : ∀ t, t < 32 → I 17 t = bdT b m T g.1 g.2.1 g.2.2 t) (h18 : ∀ i, i < 16 → I 18 i = fdT b m T g.1 g.2.1 i) (hpu : ∃ p u, I 16 2 = nI p ∧ I 16 3 = nI u ∧ I 16 4 = nI u ∧ (∀ i, p.testBit i = (decide (i < 16) && decide (pII b m i T ≠ 0))) ∧ ∀ i, u.testBit i = (decide (i < 16) && decide (pII b m i T = 1))) (h5 : I 16 5 = nI (sDD b m T)) (h6 : I 16 6 = nI (st + 1)) (h7 : I 16 7 = nI (st + 1))
    (hr : ∀ i, i < 16 → I 191 i = iI ((tII b m i T).getD (aLL b m 6 T)) ∧ I 191 (16 + i) = iI ((tII b m (16 + i) T).getD (aLL b m 7 T)) ∧ I 191 (32 + i) = iI ((pUU b m i T).getD (aLL b m 8 T)) ∧ I 191 (48 + i) = nI (pII b m i T)) (hu : ∃ u, I 191 64 = nI u ∧ ∀ i, u.testBit i = (decide (i < tNu b m 1 * tNu b m 2) && decide (pII b m i T = 1))) (h65 : I 191 65 = nI (sDD b m T)) : LV g (gUp gT (st + 1) g (I 191)) (gUp gP (st + 1) g (I 191)) (st + 1) I 16 (I 191) := by
  have hF' := hF
  unfold fFT at hF'
  have h16 := (gAll_b g hg).2.2.1
  have gs : gSz g = tNu b m 1 * tNu b m 2 := by rw [hG]; rfl
  obtain ⟨u, u1, u2⟩ := hu
  have a6 := al_b (b := b) (m := m) hF' (.inl rfl)
  have a7 := al_b (b := b) (m := m) hF' (.inr (.inl rfl))
  have a8 := al_b (b := b) (m := m) hF' (.inr (.inr rfl))
  have pb : ∀ i, pII b m i T ≤ 2 ∧ (pII b m i T ≠ 0 → i < gSz g) := fun i => by rw [gs]; exact pi_b hF'
  have n0 : ∀ i, (nI (pII b m i T) = (0 : Int32)) = (pII b m i T = 0) := fun i => nn_eq (b := 0) (by have := (pb i).1; omega) (by decide)
  have n1 : ∀ i, (nI (pII b m i T) = (1 : Int32)) = (pII b m i T = 1) := fun i => nn_eq (b := 1) (by have := (pb i).1; omega) (by decide)
  have bnd : ∀ v : Int, -3 ≤ v → v ≤ 3 → -3 ≤ (iI v).toInt ∧ (iI v).toInt ≤ 3 := fun v v1 v2 => by rw [iI_ti (by omega) (by omega)]; exact ⟨v1, v2⟩
  have gd : ∀ (o : Option Int) (d : Int), (∀ v, o = some v → -3 ≤ v ∧ v ≤ 3) → -3 ≤ d → d ≤ 3 → -3 ≤ (iI (o.getD d)).toInt ∧ (iI (o.getD d)).toInt ≤ 3 := fun o d h d1 d2 => by
    cases o with
    | none => exact bnd d d1 d2
    | some v => exact bnd v (h v rfl).1 (h v rfl).2
  refine ⟨⟨fun t ht => ?_, fun i hi => ?_, ?_, ?_, ?_⟩, ⟨fun k hk => ?_, fun i hi => ⟨?_, fun hi2 => ?_⟩, ⟨u, ?_, u1, fun i hi hne => ?_⟩, _, sd_b hT, h65⟩, st + 1, st + 1, Nat.le_refl _, Nat.le_refl _, h6, h7, by rw [gUp_new], fun k _ => by rw [gUp_new], by rw [gUp_new], fun k _ => by rw [gUp_new]⟩
  · rw [h17 t ht]
    unfold bdT
    by_cases z : t < 16
    · rw [(hr t z).1, if_pos z]
    · have e : 16 + (t - 16) = t := by omega
      have := (hr (t - 16) (by omega)).2.1
      rw [e] at this
      rw [this, if_neg z]
  · rw [h18 i hi, (hr i hi).2.2.1]
    unfold fdT
    rfl
  · obtain ⟨p, u', p1, p2, p3, p4, p5⟩ := hpu
    refine ⟨p, u', p1, p2, fun i => ?_, fun i => ?_⟩
    · rw [p4]
      by_cases z : i < gSz g
      · rw [(hr i (by omega)).2.2.2, decide_eq_true z, decide_eq_true (show i < 16 by omega)]
        simp only [ne_eq, n0]
      · have : pII b m i T = 0 := Classical.byContradiction fun x => z ((pb i).2 x)
        rw [decide_eq_false z, this]
        simp
    · rw [p5]
      by_cases z : i < gSz g
      · rw [(hr i (by omega)).2.2.2, decide_eq_true z, decide_eq_true (show i < 16 by omega)]
        simp only [n1]
      · have : pII b m i T = 0 := Classical.byContradiction fun x => z ((pb i).2 x)
        rw [decide_eq_false z, this]
        simp
  · obtain ⟨p, u', p1, p2, p3, p4, p5⟩ := hpu
    have : u' = u := Nat.eq_of_testBit_eq fun i => by
      rw [p5, u2, ← gs]
      by_cases z : i < gSz g
      · rw [decide_eq_true z, decide_eq_true (show i < 16 by omega)]
      · have : pII b m i T = 0 := Classical.byContradiction fun x => z ((pb i).2 x)
        rw [decide_eq_false z, this]
        simp
    rw [p3, u1, this]
  · rw [h5, h65]
  · rcases (show k < 16 ∨ (16 ≤ k ∧ k < 32) ∨ 32 ≤ k by omega) with z | z | z
    · rw [(hr k z).1]
      exact gd _ _ (fun v hv => (ti_b hF' v hv).1) a6.1 a6.2
    · have e : 16 + (k - 16) = k := by omega
      have := (hr (k - 16) (by omega)).2.1
      rw [e] at this
      rw [this]
      exact gd _ _ (fun v hv => (ti_b hF' v hv).1) a7.1 a7.2
    · have e : 32 + (k - 32) = k := by omega
      have := (hr (k - 32) (by omega)).2.2.1
      rw [e] at this
      rw [this]
      exact gd _ _ (fun v hv => (pu_b hF' v hv).1) a8.1 a8.2
  · rw [(hr i hi).2.2.2]
    have := (pb i).1
    rcases (show pII b m i T = 0 ∨ pII b m i T = 1 ∨ pII b m i T = 2 by omega) with z | z | z
    · rw [z]; exact .inl rfl
    · rw [z]; exact .inr (.inl rfl)
    · rw [z]; exact .inr (.inr rfl)
  · have : pII b m i T = 0 := Classical.byContradiction fun x => by have := (pb i).2 x; omega
    rw [(hr i hi).2.2.2, this]
    rfl
  · refine Nat.lt_pow_two_of_testBit _ (fun i hi => ?_)
    rw [u2, ← gs, decide_eq_false (by omega), Bool.false_and]
  · rw [u2, ← gs, decide_eq_true hi, (hr i (by omega)).2.2.2]
    simp only [n1, Bool.true_and]
theorem op_read : Op_read INV := by
  intro n σ hn ⟨g, gT, gP, st, H⟩ _
  have hS := H.shp
  obtain ⟨m, hm, h1, h2, h3⟩ := H.tap
  have hky : KY (xL σ) := by
    obtain ⟨a, b, -, -, -, -, -, -, -, -, -, -, -, k⟩ := H.cel
    exact k
  have hcc : xR σ 157 4 = 160 ∨ 206 < xR σ 157 4 := by
    obtain ⟨_, _, _, _, _, _, q, _⟩ := H.cel
    exact q
  obtain ⟨b, hb⟩ : ∃ b, b = xI σ 4 := ⟨_, rfl⟩
  obtain ⟨r, C, c1, c2, c3⟩ := read11_ok (σ := σ) (J := xI σ) (st := st) hS hm h1 H.sts
  rw [← hb] at c3
  have fC : ∀ a q, 183 ≤ a → a ≤ 206 → C a q = xI σ a q := fun a q ha ha2 => by
    rcases c3 with ⟨-, u⟩ | ⟨T, -, -, -, -, u⟩
    · exact u a q (by omega) (by omega) (by omega)
    · exact u a q (by omega) (by omega) (by omega) (by omega)
  obtain ⟨L, r', D, d1, d2, d3, d4⟩ := read12_ok (τ := σ) (J := C) (b := b) (m := m) hS hky hm (by rw [fC _ _ (by omega) (by omega)]; exact h2) (fun k hk => by rw [fC _ _ (by omega) (by omega), hb]; exact h3 k hk)
  rcases c3 with ⟨c4, u⟩ | ⟨T, c4, c5, c6, c7, u⟩
  · rcases d4 with ⟨d5, v⟩ | ⟨T, d5, d6, -⟩
    · obtain ⟨e1, e2⟩ := RBD_one c4 d5
      subst e1
      refine ⟨nI r, xw σ C, xw (xl σ L) D, c1, d1, ?_⟩
      have fr : ∀ a q, ¬ (a = 2 ∨ (5 ≤ a ∧ a ≤ 10)) → ¬ (a = 3 ∧ 4 ≤ q ∧ q ≤ 9) → ¬ (a = 1 ∧ q = 14) → ¬ sRM a q → D a q = xI σ a q := fun a q k1 k2 k3 k4 => by rw [v a q k4]; exact u a q k1 k2 k3
      have hg := H.grd.1
      have HH : IV (n + 1) (xw σ D) g gT gP st := by
        refine ⟨hS, Nat.le_succ_of_le H.stn, (fr 1 15 (by omega) (by omega) (by omega) (by unfold sRM; omega)).trans H.sts, ⟨0, by omega, ?_, d3, fun k hk => by omega⟩, ?_, GRD_c (fun a k q => fr _ _ (by unfold sGRD at q; omega) (by unfold sGRD at q; omega) (by unfold sGRD at q; omega) (by unfold sGRD at q; unfold sRM; omega)) H.grd,
          NOW_c hg (fun a k q => fr _ _ (by unfold sNOW at q; omega) (by unfold sNOW at q; omega) (by unfold sNOW at q; omega) (by unfold sNOW at q; unfold sRM; omega)) H.now,
          PST_c hg (fun a k q => fr _ _ (by unfold sPST at q; omega) (by unfold sPST at q; omega) (by unfold sPST at q; omega) (by unfold sPST at q; unfold sRM; omega)) (Nat.le_refl _) (fun _ _ => rfl) (fun _ _ => rfl) H.pst,
          SLT_c hg (fun a k q => fr _ _ (by unfold sSLT at q; omega) (by unfold sSLT at q; omega) (by unfold sSLT at q; omega) (by unfold sSLT at q; unfold sRM; omega)) (Nat.le_refl _) (fun _ _ => rfl) (fun _ _ => rfl) H.slt,
          CCH_c (fun a k q => fr _ _ (by unfold sCCH at q; rw [xw_R] at q; omega) (by unfold sCCH at q; rw [xw_R] at q; omega) (by unfold sCCH at q; rw [xw_R] at q; omega) (by unfold sCCH at q; rw [xw_R] at q; unfold sRM; omega)) (Nat.le_refl _) (fun _ _ => rfl) (fun _ _ => rfl) H.cch,
          KNW_c hg (fun a k q => fr _ _ (by unfold sKNW at q; omega) (by unfold sKNW at q; omega) (by unfold sKNW at q; omega) (by unfold sKNW at q; unfold sRM; omega)) H.knw, H.cel⟩
        · show D 3 4 = _
          rw [v 3 4 (by unfold sRM; omega)]; exact c2
        · show D 1 14 = D 183 16
          rw [v 1 14 (by unfold sRM; omega)]; exact e2
      exact INV_i (HH.longs d2)
    · exact absurd d6 (fun z => RBD_no c4 d5 z)
  · rcases d4 with ⟨d5, -⟩ | ⟨T', d5, d6, d7, d8, v⟩
    · exact absurd c5 (fun z => RBD_no d5 c4 z)
    · obtain ⟨e1, -, -⟩ := cutR_one c4 d5
      subst e1
      subst c6
      subst d7
      refine ⟨0, xw σ C, xw (xl σ L) D, c1, d1, ?_⟩
      obtain ⟨p1, p2, p3, p4, p5, p6, p7, p8, p9, p10, p11⟩ := d8
      obtain ⟨q1, ⟨q2, q3, q4, q5, q6⟩, q7, q8, q9, q10, q11, q12, q13, q14, q15, q16⟩ := c7
      obtain ⟨G, hG⟩ : ∃ G : GD, G = (tNu b m 1, tNu b m 2, rgN b m T) := ⟨_, rfl⟩
      have c5' := c5
      unfold fFT at c5'
      have hg : G ∈ gAll := by rw [hG]; exact sz_in (fF_none T c5').1
      rw [← hG] at q2 q3 q4 q5 q6 q7 q8
      have vC : ∀ a q, a < 183 ∨ 206 < a → D a q = C a q := fun a q h => v a q (by unfold sRM; omega) (by omega)
      have fr : ∀ a q, ¬ (a = 2 ∨ (5 ≤ a ∧ a ≤ 19)) → ¬ (a = 3 ∧ 4 ≤ q ∧ q ≤ 9) → ¬ (a = 1 ∧ (q = 14 ∨ q = 15)) → ¬ ((a = 142 ∨ a = 147 ∨ a = 152) ∧ q = 2) → ¬ sRM a q → ¬ (a = 191 ∨ a = 195 ∨ (a = 183 ∧ ((17 ≤ q ∧ q ≤ 20) ∨ q = 29 ∨ q = 32))) → D a q = xI σ a q := fun a q k1 k2 k3 k4 k5 k6 => by rw [v a q k5 k6]; exact u a q k1 k2 k3 k4
      have HH : IV (n + 1) (xw σ D) G (gUp gT (st + 1) G (D 191)) (gUp gP (st + 1) G (D 191)) (st + 1) := by
        refine ⟨hS, Nat.succ_le_succ H.stn, ?_, ⟨0, by omega, ?_, d3, fun k hk => by omega⟩, ?_, ⟨hg, ?_, ?_, ?_, ?_, fun t ht => ?_, fun i hi => ?_, fun i j hi hj => ?_, ?_, ?_, ?_, ?_, fun i hi => ?_⟩, ?_, ?_, fun i hi => ?_, CCH_c (fun a k q => fr _ _ (by unfold sCCH at q; rw [xw_R] at q; omega) (by unfold sCCH at q; rw [xw_R] at q; omega) (by unfold sCCH at q; rw [xw_R] at q; omega) (by unfold sCCH at q; rw [xw_R] at q; omega) (by unfold sCCH at q; rw [xw_R] at q; unfold sRM; omega) (by unfold sCCH at q; rw [xw_R] at q; omega)) (Nat.le_succ _) (fun t ht => gUp_old (by omega)) (fun t ht => gUp_old (by omega)) H.cch, .inl p11, H.cel⟩
        · show D 1 15 = _
          rw [vC _ _ (by omega)]; exact q13
        · show D 3 4 = _
          rw [vC _ _ (by omega)]; exact c2
        · show D 1 14 = D 183 16
          rw [vC _ _ (by omega), q1, p1]
        · show D 11 4 = _
          rw [vC _ _ (by omega)]; exact q2
        · show D 11 5 = _
          rw [vC _ _ (by omega)]; exact q3
        · show D 11 6 = _
          rw [vC _ _ (by omega)]; exact q4
        · show D 11 7 = _
          rw [vC _ _ (by omega)]; exact q5
        · show D 12 t = _
          rw [vC _ _ (by omega)]; exact q6.1 t ht
        · show D 15 i = _
          rw [vC _ _ (by omega)]; exact q6.2.1 i hi
        · show D 13 (4 * i + j) = _ ∧ D 14 (4 * i + j) = _
          rw [vC _ _ (by omega), vC _ _ (by omega)]; exact q6.2.2 i j hi hj
        · show D 183 17 = _
          rw [hG]; exact p2
        · show D 183 18 = _
          rw [hG]; exact p3
        · show D 183 19 = _
          rw [hG]; exact p4
        · show D 183 20 = _
          rw [hG]; exact p5
        · show D 173 i = 0
          rw [fr _ _ (by omega) (by omega) (by omega) (by omega) (by unfold sRM; omega) (by omega)]
          exact H.grd.2.2.2.2.2.2.2.2.2.2.2.2 i hi
        · refine rd_now (b := b) (m := m) (T := T) (OKT_of c4) hg hG c5 (fun t ht => ?_) (fun i hi => ?_) ?_ ?_ ?_ ?_ p6 p7 p8
          · show D 17 t = _
            rw [vC _ _ (by omega)]; exact q7 t ht
          · show D 18 i = _
            rw [vC _ _ (by omega)]; exact q8 i hi
          · obtain ⟨p, w, w1, w2, w3, w4, w5⟩ := q9
            exact ⟨p, w, (vC _ _ (by omega)).trans w1, (vC _ _ (by omega)).trans w2, (vC _ _ (by omega)).trans w3, w4, w5⟩
          · exact (vC _ _ (by omega)).trans q10
          · exact (vC _ _ (by omega)).trans q11
          · exact (vC _ _ (by omega)).trans q12
        · obtain ⟨qq, nx, ea, -, -, hea, -, -, p28, -, -⟩ := H.pst
          refine ⟨0, 0, ea, by omega, by omega, hea, (vC _ _ (by omega)).trans q14, (vC _ _ (by omega)).trans q15, ?_, p9, fun i hi => by omega⟩
          show D 183 28 = _
          rw [fr _ _ (by omega) (by omega) (by omega) (by omega) (by unfold sRM; omega) (by omega)]; exact p28
        · obtain ⟨f, c, -, hc, -, -, k3, -, -⟩ := H.slt i hi
          refine ⟨0, c, by omega, hc, (vC _ _ (by omega)).trans (q16 i hi), p10 i hi, ?_, (fun z => by cases z), (fun z => by cases z)⟩
          show D (142 + 5 * i) 3 = _
          rw [fr _ _ (by omega) (by omega) (by omega) (by omega) (by unfold sRM; omega) (by omega)]; exact k3
      exact INV_i (HH.longs d2)
end
section
/-! the ways down: what they are, the class's count -/
def dnS (f : Nat → Int64) : Nat → Int64
  | 0 => 0
  | n + 1 => dnS f n + f n
def dnT (g : GD) (F : Nat → Int32) (s i : Nat) : Bool := decide (F (48 + i) = 0) && decide (eC g (zR F) s i < 0)
def dnU (g : GD) (F : Nat → Int32) (s : Nat) : Nat → Bool
  | 0 => false
  | n + 1 => dnU g F s n || dnT g F s n
def dnV (g : GD) (F : Nat → Int32) : Nat → Nat → Int64
  | 0, _ => 0
  | k + 1, s => if dnU g F s (gSz g) then dnS (fun i => if dnT g F s i then dnV g F k (s ^^^ 2 ^ i) else 0) (gSz g) else 1
def DNV (g : GD) (F : Nat → Int32) (s : Nat) : Int64 := dnV g F 289 s
theorem dnS_c {f f' : Nat → Int64} : ∀ n, (∀ i, i < n → f i = f' i) → dnS f n = dnS f' n
  | 0, _ => rfl
  | n + 1, h => by rw [dnS, dnS, dnS_c n (fun i hi => h i (by omega)), h n (by omega)]
theorem dnL_at {L : Nat → Nat → Int64} {a j b k : Nat} {v : Int64} : xup L a j v b k = if b = a ∧ k = j then v else L b k := by
  unfold xup
  rfl
section DOWN
variable {σ : XS} {J : Nat → Nat → Int32} {g : GD} {F : Nat → Int32} {c m M : Nat} {o : Nat → Nat}
theorem dnT_lt (hg : g ∈ gAll) (ho : RO g F) {s i : Nat} (hi : i < gSz g) (h : dnT g F s i = true) : tK g F (s ^^^ 2 ^ i) < tK g F s := by
  have a := tK_ok hg ho s
  have b := tK_ok hg ho (s ^^^ 2 ^ i)
  rw [eE_flip hg _ hi] at b
  unfold dnT at h
  simp only [Bool.and_eq_true, decide_eq_true_eq] at h
  omega
theorem dnV_st (hg : g ∈ gAll) (ho : RO g F) : ∀ k s, tK g F s < k → dnV g F (k + 1) s = dnV g F k s
  | 0, s, h => by omega
  | k + 1, s, h => by
    rw [dnV, dnV]
    by_cases hu : dnU g F s (gSz g) = true
    · rw [if_pos hu, if_pos hu]
      refine dnS_c _ (fun i hi => ?_)
      by_cases z : dnT g F s i = true
      · rw [if_pos z, if_pos z]
        have := dnT_lt hg ho hi z
        exact dnV_st hg ho k _ (by omega)
      · rw [if_neg z, if_neg z]
    · rw [if_neg hu, if_neg hu]
theorem dnV_r (hg : g ∈ gAll) (ho : RO g F) (k s : Nat) (hk : tK g F s ≤ k) : dnV g F (k + 1) s = if dnU g F s (gSz g) then dnS (fun i => if dnT g F s i then dnV g F (k + 1) (s ^^^ 2 ^ i) else 0) (gSz g) else 1 := by
  rw [show dnV g F (k + 1) s = if dnU g F s (gSz g) then dnS (fun i => if dnT g F s i then dnV g F k (s ^^^ 2 ^ i) else 0) (gSz g) else 1 from rfl]
  by_cases hu : dnU g F s (gSz g) = true
  · rw [if_pos hu, if_pos hu]
    refine dnS_c _ (fun i hi => ?_)
    by_cases z : dnT g F s i = true
    · rw [if_pos z, if_pos z]
      have := dnT_lt hg ho hi z
      exact (dnV_st hg ho k _ (by omega)).symm
    · rw [if_neg z, if_neg z]
  · rw [if_neg hu, if_neg hu]
theorem DNV_r (hg : g ∈ gAll) (ho : RO g F) (s : Nat) : DNV g F s = if dnU g F s (gSz g) then dnS (fun i => if dnT g F s i then DNV g F (s ^^^ 2 ^ i) else 0) (gSz g) else 1 := by
  exact dnV_r hg ho 288 s (by have := (tK_ok hg ho s).1; omega)
theorem ways_ok (h : TC σ J g F c m) {L : Nat → Nat → Int64} {s : Nat} (hs : s < gSt g) (hL : ∀ i, i < gSz g → dnT g F s i = true → L 179 (s ^^^ 2 ^ i) = DNV g F (s ^^^ 2 ^ i)) : f_X9_waysFrom (xw (xl σ L) J) 174 (nI s) = some (DNV g F s) := by
  have hT : TC (xl σ L) J g F c m := h
  have h' := h
  obtain ⟨hS0, hg, ho, h10, hE, hK, hSR, r5, r6, j7⟩ := h'
  have hS : Shp (xl σ L) := hS0
  have hst := h.st
  have K179 : σ.1 179 = (23, 1024) := xw_K hS0 (by decide) (by decide) (by decide)
  unfold f_X9_waysFrom
  refine xforE (fun i : Nat => (dnS (fun i => if dnT g F s i then DNV g F (s ^^^ 2 ^ i) else 0) i, (if dnU g F s i then (0 : Int32) else 1), nI i)) (gSz g) rfl (fun i hi => ?_) ?_
  · simp only [f_X9_waysFrom_b8]
    have hf := gSt_flip hs hi
    have e1 := tEn_ok hT (gSt_pos hf).2
    have e2 := tEn_ok hT (gSt_pos hs).2
    rw [eE_flip hg _ hi] at e1
    have e3 := tCan_ok hT hi
    have hb := eE_b hg ho s
    have hcb := sp_b hg ho s hi
    have q1 : (nI (gSz g) ≤ nI i) = False := by rw [nn_le (by omega) (by omega)]; exact eq_false (by omega)
    have hq : (iI (eE g (zR F) s) ≤ iI (eE g (zR F) s + eC g (zR F) s i)) = (0 ≤ eC g (zR F) s i) := by
      rw [iI_le (by omega) (by omega) (by omega) (by omega)]; apply propext; omega
    have st := isSt_ok (s := s ^^^ 2 ^ i) (by omega)
    have hi32 : i < 32 := by omega
    rw [kG174 hS, Option.bind_some, j7, if_neg (by rw [q1]; exact id), xw_ck, kC174 hS, Option.bind_some, e3, Option.bind_some]
    rw [← nI_succ, dnS, dnU]
    by_cases h0 : F (48 + i) = 0
    · rw [if_pos h0, if_neg (by decide), nn_one hi32, nn_xor, st, Option.bind_some, if_neg (by decide), Option.bind_some, e1, Option.bind_some, Option.bind_some, e2, Option.bind_some]
      simp only [hq]
      by_cases h1 : 0 ≤ eC g (zR F) s i
      · have t0 : dnT g F s i = false := by unfold dnT; rw [decide_eq_false (show ¬ eC g (zR F) s i < 0 by omega), Bool.and_false]
        rw [if_pos h1, t0, Bool.or_false, if_neg (show ¬ (false = true) by decide), Int64.add_zero]
      · have t1 : dnT g F s i = true := by unfold dnT; rw [decide_eq_true h0, decide_eq_true (show eC g (zR F) s i < 0 by omega)]; rfl
        rw [if_neg h1, t1, Bool.or_true, if_pos rfl, if_pos rfl, xw_gR, kR174_4 hS, Option.bind_some, xl_aL K179 (by omega) (by decide), Option.bind_some, hL i hi t1]
    · have t0 : dnT g F s i = false := by unfold dnT; rw [decide_eq_false h0, Bool.false_and]
      rw [if_neg h0, if_pos rfl, t0, Bool.or_false, if_neg (show ¬ (false = true) by decide), Int64.add_zero]
  · simp only [f_X9_waysFrom_b8]
    rw [kG174 hS, Option.bind_some, j7, if_pos (by rw [nn_le (by omega) (by omega)]; exact Nat.le_refl _), DNV_r hg ho]
    cases hu : dnU g F s (gSz g) with
    | true => rw [if_pos rfl, if_pos rfl, if_pos rfl]; rfl
    | false => rw [if_neg (by decide), if_neg (by decide)]; rfl
theorem waysDown_ok (h : TC σ J g F c m) (hO : TO J g F M o) {ib : Nat} (hib : ib < M) : ∀ n i L, ib - i ≤ n → i ≤ ib → (∀ j, j < i → L 179 (o j) = DNV g F (o j)) → ∃ L' : Nat → Nat → Int64, xloop (f_X9_waysDown_b2 174 (nI (o ib))) (nI i, xw (xl σ L) J) = some (DNV g F (o ib), xw (xl σ L') J) ∧ ∀ a q, a ≠ 179 → L' a q = L a q := by
  have h' := h
  obtain ⟨hS0, hg, ho, h10, hE, hK, hSR, r5, r6, j7⟩ := h'
  have hst := h.st
  have K179 : σ.1 179 = (23, 1024) := xw_K hS0 (by decide) (by decide) (by decide)
  obtain ⟨o1, o2, o3, o4, o5⟩ := hO
  intro n
  induction n with
  | zero =>
    intro i L hn hi hL
    have : i = ib := by omega
    subst this
    have hS : Shp (xl σ L) := hS0
    have wf := ways_ok (L := L) h (o3 i hib).2.1 (fun k hk ht => by
      have hf := gSt_flip (o3 i hib).2.1 hk
      have hl : lW g F (o i ^^^ 2 ^ k) = true := by
        rw [lW_flip hk (o3 i hib).2.2]
        unfold dnT at ht
        simp only [Bool.and_eq_true, decide_eq_true_eq] at ht
        exact decide_eq_true ht.1
      obtain ⟨j, hj, ej⟩ := o5 _ hf hl
      rw [← ej]
      refine hL j ?_
      rcases Nat.lt_trichotomy j i with z | z | z
      · exact z
      · subst z
        have := dnT_lt hg ho hk ht
        rw [← ej] at this; omega
      · have := (o4 i j z hj).1
        rw [ej, eE_flip hg _ hk] at this
        unfold dnT at ht
        simp only [Bool.and_eq_true, decide_eq_true_eq] at ht
        omega)
    refine ⟨L, xloop_end ?_, fun _ _ _ => rfl⟩
    have q1 : (nI M ≤ nI i) = False := by rw [nn_le (by omega) (by omega)]; exact eq_false (by omega)
    have q2 : ((1024 : Int32) ≤ nI i) = False := by rw [show (1024 : Int32) = nI 1024 from rfl, nn_le (by omega) (by omega)]; exact eq_false (by omega)
    simp only [f_X9_waysDown_b2]
    rw [kG174 hS, Option.bind_some, o2, if_neg (by rw [q1]; exact id), if_neg (by rw [q2]; exact id), xw_gR, kR174_0 hS, Option.bind_some, kA175 hS (by omega), Option.bind_some, (o3 i hib).1, xw_ck, kC174 hS, Option.bind_some, wf, Option.bind_some, if_pos rfl]
    rfl
  | succ n ih =>
    intro i L hn hi hL
    have hS : Shp (xl σ L) := hS0
    have hiM : i < M := by omega
    have wf := ways_ok (L := L) h (o3 i hiM).2.1 (fun k hk ht => by
      have hf := gSt_flip (o3 i hiM).2.1 hk
      have hl : lW g F (o i ^^^ 2 ^ k) = true := by
        rw [lW_flip hk (o3 i hiM).2.2]
        unfold dnT at ht
        simp only [Bool.and_eq_true, decide_eq_true_eq] at ht
        exact decide_eq_true ht.1
      obtain ⟨j, hj, ej⟩ := o5 _ hf hl
      rw [← ej]
      refine hL j ?_
      rcases Nat.lt_trichotomy j i with z | z | z
      · exact z
      · subst z
        have := dnT_lt hg ho hk ht
        rw [← ej] at this; omega
      · have := (o4 i j z hj).1
        rw [ej, eE_flip hg _ hk] at this
        unfold dnT at ht
        simp only [Bool.and_eq_true, decide_eq_true_eq] at ht
        omega)
    have q1 : (nI M ≤ nI i) = False := by rw [nn_le (by omega) (by omega)]; exact eq_false (by omega)
    have q2 : ((1024 : Int32) ≤ nI i) = False := by rw [show (1024 : Int32) = nI 1024 from rfl, nn_le (by omega) (by omega)]; exact eq_false (by omega)
    have step : f_X9_waysDown_b2 174 (nI (o ib)) (nI i, xw (xl σ L) J) = if nI (o i) = nI (o ib) then some (.inr (DNV g F (o i), xw (xl σ L) J)) else some (.inl (nI (i + 1), xw (xl σ (xup L 179 (o i) (DNV g F (o i)))) J)) := by
      simp only [f_X9_waysDown_b2]
      rw [kG174 hS, Option.bind_some, o2, if_neg (by rw [q1]; exact id), if_neg (by rw [q2]; exact id), xw_gR, kR174_0 hS, Option.bind_some, kA175 hS (by omega), Option.bind_some, (o3 i hiM).1, xw_ck, kC174 hS, Option.bind_some, wf, Option.bind_some, isSt_ok (by have := (o3 i hiM).2.1; omega), Option.bind_some, if_neg (show ¬ (1 : Int32) = 0 by decide), xw_gR, kR174_4 hS, Option.bind_some, xl_sL K179 (by have := (o3 i hiM).2.1; omega) (by decide), Option.bind_some, nI_succ]
      rfl
    by_cases z : i = ib
    · subst z
      rw [if_pos rfl] at step
      exact ⟨L, xloop_end step, fun _ _ _ => rfl⟩
    · have ne : o i ≠ o ib := (o4 i ib (by omega) hib).2
      have b1 := (o3 i hiM).2.1
      have b2 := (o3 ib hib).2.1
      rw [if_neg (by rw [nn_eq (by omega) (by omega)]; exact ne)] at step
      obtain ⟨L', a1, a2⟩ := ih (i + 1) (xup L 179 (o i) (DNV g F (o i))) (by omega) (by omega) (fun j hj => by
        rw [dnL_at]
        by_cases y : j = i
        · rw [y, if_pos ⟨rfl, rfl⟩]
        · rw [if_neg (fun x => (o4 j i (by omega) hiM).2 x.2)]
          exact hL j (by omega))
      exact ⟨L', by rw [← a1]; exact xloop_step step, fun a q h => by rw [a2 a q h, dnL_at, if_neg (fun x => h x.1)]⟩
end DOWN
end
section
/-! the ways down: the model's count -/
section DOWN2
variable {σ : XS} {J : Nat → Nat → Int32} {g : GD} {F : Nat → Int32}
def dnI (g : GD) (F : Nat → Int32) (s : Nat) : Nat := fb_ct (lvP g F) (tK g F s)
theorem lvP_tK (hg : g ∈ gAll) (ho : RO g F) {s : Nat} (hs : s < gSt g) (hl : lW g F s = true) : lvP g F (tK g F s) = true := by
  unfold lvP lC
  refine decide_eq_true (Nat.lt_of_le_of_lt (Nat.zero_le _) (ct_in hs (tE_ok hg ho hl)))
theorem dnI_lt (hg : g ∈ gAll) (ho : RO g F) {s : Nat} (hs : s < gSt g) (hl : lW g F s = true) : dnI g F s < lvN g F := lvl_lt (tK_ok hg ho s).1 (lvP_tK hg ho hs hl)
theorem dnI_m (hg : g ∈ gAll) (ho : RO g F) {s t : Nat} (ht : t < gSt g) (hlt : lW g F t = true) (h : tK g F t < tK g F s) : dnI g F t < dnI g F s := ct_in h (lvP_tK hg ho ht hlt)
theorem dn196 (ho : RO g F) (hK : KNK J g F) (hg : g ∈ gAll) {s i : Nat} (hs : s < gSt g) (hl : lW g F s = true) (hi : i < gSz g) : (J 196 s ≤ J 196 (s ^^^ 2 ^ i)) = (dnT g F s i = false) := by
  have a1 := hK.1 s hs
  have a2 := hK.1 _ (gSt_flip hs hi)
  rw [hl, if_pos rfl] at a1
  rw [lW_flip hi hl] at a2
  have b := eE_b hg ho s
  have cb := sp_b hg ho s hi
  unfold dnT
  by_cases h0 : F (48 + i) = 0
  · rw [decide_eq_true h0, if_pos rfl, eE_flip hg _ hi] at a2
    rw [a1, a2, iI_le (by omega) (by omega) (by omega) (by omega), decide_eq_true h0, Bool.true_and]
    apply propext
    rw [decide_eq_false_iff_not]
    omega
  · rw [decide_eq_false h0, if_neg (by decide)] at a2
    rw [a1, a2, show nI 100000 = iI 100000 from rfl, iI_le (by omega) (by omega) (by omega) (by omega), decide_eq_false h0, Bool.false_and]
    apply propext
    exact ⟨fun _ => rfl, fun _ => by omega⟩
theorem dn73 (hS0 : Shp σ) (hG : GRD J g) (ho : RO g F) (hK : KNK J g F) (hst : gSt g ≤ 1024) {L : Nat → Nat → Int64} {s : Nat} (x1 x2 : Int32) (hs : s < gSt g) (hl : lW g F s = true) (hL : ∀ i, i < gSz g → dnT g F s i = true → L 205 (s ^^^ 2 ^ i) = DNV g F (s ^^^ 2 ^ i)) (hD : DNV g F s ≠ 0) : xloop (f_X12_down_b73 183 x1 x2 (nI s)) ((0 : Int32), xw (xl σ (xup L 205 s 0)) J) = some (.inl (nI (s + 1), xw (xl σ (xup L 205 s (DNV g F s))) J)) := by
  have hg := hG.1
  have h16 := (gAll_b g hg).2.2.1
  have K205 : σ.1 205 = (23, 1024) := xw_K hS0 (by decide) (by decide) (by decide)
  have up2 : ∀ v w : Int64, xup (xup L 205 s v) 205 s w = xup L 205 s w := fun v w => by
    funext a q
    rw [dnL_at, dnL_at, dnL_at]
    by_cases z : a = 205 ∧ q = s
    · rw [if_pos z, if_pos z]
    · rw [if_neg z, if_neg z, if_neg z]
  refine xforE (fun i : Nat => (nI i, xw (xl σ (xup L 205 s (dnS (fun i => if dnT g F s i then DNV g F (s ^^^ 2 ^ i) else 0) i))) J)) (gSz g) rfl (fun i hi => ?_) ?_
  · have hS : Shp (xl σ (xup L 205 s (dnS (fun i => if dnT g F s i then DNV g F (s ^^^ 2 ^ i) else 0) i))) := hS0
    have si := sites_ok (σ := xl σ (xup L 205 s (dnS (fun i => if dnT g F s i then DNV g F (s ^^^ 2 ^ i) else 0) i))) (I := J) hS hG
    have q1 : (nI (gSz g) ≤ nI i) = False := by rw [nn_le (by omega) (by omega)]; exact eq_false (by omega)
    have hf := gSt_flip hs hi
    have cond := dn196 ho hK hg hs hl hi
    have ne : s ^^^ 2 ^ i ≠ s := fun z => by
      have := congrArg (fun x => x.testBit i) z
      simp only [Nat.testBit_xor, Nat.testBit_two_pow] at this
      cases hb : s.testBit i <;> simp [hb] at this
    have hi32 : i < 32 := by omega
    have s5 : s < 65536 := by omega
    have f5 : s ^^^ 2 ^ i < 65536 := by omega
    have s1 : s < 1024 := by omega
    have f1 : s ^^^ 2 ^ i < 1024 := by omega
    have r1 : xup L 205 s (dnS (fun i => if dnT g F s i then DNV g F (s ^^^ 2 ^ i) else 0) i) 205 s = dnS (fun i => if dnT g F s i then DNV g F (s ^^^ 2 ^ i) else 0) i := by rw [dnL_at, if_pos ⟨rfl, rfl⟩]
    have r2 : xup L 205 s (dnS (fun i => if dnT g F s i then DNV g F (s ^^^ 2 ^ i) else 0) i) 205 (s ^^^ 2 ^ i) = L 205 (s ^^^ 2 ^ i) := by rw [dnL_at, if_neg (fun z => ne z.2)]
    simp only [f_X12_down_b73]
    rw [xw_ck, kC183 hS, Option.bind_some, si, Option.bind_some, if_neg (by rw [q1]; exact id), xw_gR, kR183_33 hS, Option.bind_some, nn_one hi32, nn_xor, kA196 hS f5, Option.bind_some, Option.bind_some, kA196 hS s5, Option.bind_some]
    simp only [cond]
    rw [← nI_succ, dnS]
    cases ht : dnT g F s i with
    | false => rw [if_pos rfl, if_neg (show ¬ (false = true) by decide), Int64.add_zero]
    | true => rw [if_neg (by decide), xw_gR, kR183_43 hS, Option.bind_some, xl_aL K205 s1 (by decide), Option.bind_some, Option.bind_some, xl_aL K205 f1 (by decide), Option.bind_some, r1, r2, hL i hi ht, xl_sL K205 s1 (by decide), Option.bind_some, up2, if_pos rfl]
  · obtain ⟨V, hV⟩ : ∃ V, V = dnS (fun i => if dnT g F s i then DNV g F (s ^^^ 2 ^ i) else 0) (gSz g) := ⟨_, rfl⟩
    have hS : Shp (xl σ (xup L 205 s V)) := hS0
    have si := sites_ok (σ := xl σ (xup L 205 s V)) (I := J) hS hG
    have s1 : s < 1024 := by omega
    have r1 : xup L 205 s V 205 s = V := by rw [dnL_at, if_pos ⟨rfl, rfl⟩]
    have hrec := DNV_r hg ho s
    rw [← hV] at hrec
    simp only [f_X12_down_b73]
    rw [← hV, xw_ck, kC183 hS, Option.bind_some, si, Option.bind_some, if_pos (by rw [nn_le (by omega) (by omega)]; exact Nat.le_refl _), xw_gR, kR183_43 hS, Option.bind_some, xl_aL K205 s1 (by decide), Option.bind_some, r1]
    simp only [lg_cmp0]
    cases hu : dnU g F s (gSz g) with
    | true =>
      rw [hu, if_pos rfl] at hrec
      rw [hrec] at hD ⊢
      rw [if_neg hD, nI_succ]
      rfl
    | false =>
      rw [hu, if_neg (by decide)] at hrec
      have no : ∀ n, dnU g F s n = false → dnS (fun i => if dnT g F s i then DNV g F (s ^^^ 2 ^ i) else 0) n = 0 := fun n => by
        induction n with
        | zero => intro _; rfl
        | succ n ih =>
          intro h
          rw [dnU, Bool.or_eq_false_iff] at h
          rw [dnS, ih h.1, h.2]
          rfl
      rw [if_pos (by rw [hV]; exact no _ hu), Option.bind_some, xl_sL K205 s1 (by decide), Option.bind_some, up2, hrec, nI_succ]
      rfl
theorem dn37 (hS0 : Shp σ) (hG : GRD J g) (ho : RO g F) (hK : KNK J g F) (hst : gSt g ≤ 1024) (hD : ∀ s, s < gSt g → lW g F s = true → DNV g F s ≠ 0) (x1 : Int32) {x : Nat} (hx : x < lvN g F) : ∀ n s (L : Nat → Nat → Int64), gSt g - s ≤ n → s ≤ gSt g → (∀ t, t < gSt g → lW g F t = true → (dnI g F t < x ∨ (dnI g F t = x ∧ t < s)) → L 205 t = DNV g F t) → ∃ L' : Nat → Nat → Int64, xloop (f_X12_down_b37 183 x1 (nI x)) (nI s, xw (xl σ L) J) = some (.inl (nI (x + 1), xw (xl σ L') J)) ∧ (∀ a q, a ≠ 205 → L' a q = L a q) ∧ ∀ t, t < gSt g → lW g F t = true → dnI g F t < x + 1 → L' 205 t = DNV g F t := by
  have hg := hG.1
  have h16 := (gAll_b g hg).2.2.1
  have K205 : σ.1 205 = (23, 1024) := xw_K hS0 (by decide) (by decide) (by decide)
  have xb := lvN_b g F
  obtain ⟨kk, hk1, hk2, hk3⟩ := lvl_at hx
  have v198 : J 198 x = iI ((kk : Int) - 144) := by rw [← hk3]; exact hK.2.2.2 kk hk1 hk2
  have stop : ∀ L : Nat → Nat → Int64, (∀ t, t < gSt g → lW g F t = true → (dnI g F t < x ∨ (dnI g F t = x ∧ t < gSt g)) → L 205 t = DNV g F t) → ∃ L' : Nat → Nat → Int64, xloop (f_X12_down_b37 183 x1 (nI x)) (nI (gSt g), xw (xl σ L) J) = some (.inl (nI (x + 1), xw (xl σ L') J)) ∧ (∀ a q, a ≠ 205 → L' a q = L a q) ∧ ∀ t, t < gSt g → lW g F t = true → dnI g F t < x + 1 → L' 205 t = DNV g F t := fun L hL => by
    have hS : Shp (xl σ L) := hS0
    refine ⟨L, xloop_end ?_, fun _ _ _ => rfl, fun t h1 h2 h3 => hL t h1 h2 (by omega)⟩
    simp only [f_X12_down_b37]
    rw [xw_ck, kC183 hS, Option.bind_some, states12_ok hS hG, Option.bind_some, if_pos (by rw [nn_le (by omega) (by omega)]; exact Nat.le_refl _), nI_succ]
    rfl
  intro n
  induction n with
  | zero =>
    intro s L hn hs hL
    have : s = gSt g := by omega
    subst this
    exact stop L hL
  | succ n ih =>
    intro s L hn hs hL
    by_cases z : s = gSt g
    · subst z
      exact stop L hL
    · have hs' : s < gSt g := by omega
      have hS : Shp (xl σ L) := hS0
      have q1 : (nI (gSt g) ≤ nI s) = False := by rw [nn_le (by omega) (by omega)]; exact eq_false (by omega)
      have s5 : s < 65536 := by omega
      have s1 : s < 1024 := by omega
      have x3 : x < 301 := by omega
      have step : f_X12_down_b37 183 x1 (nI x) (nI s, xw (xl σ L) J) = if J 196 s = J 198 x then xloop (f_X12_down_b73 183 x1 (nI x) (nI s)) ((0 : Int32), xw (xl σ (xup L 205 s 0)) J) else some (.inl (nI (s + 1), xw (xl σ L) J)) := by
        simp only [f_X12_down_b37]
        rw [xw_ck, kC183 hS, Option.bind_some, states12_ok hS hG, Option.bind_some, if_neg (by rw [q1]; exact id), xw_gR, kR183_33 hS, Option.bind_some, kA196 hS s5, Option.bind_some, xw_gR, kR183_36 hS, Option.bind_some, kA198 hS x3, Option.bind_some, xw_gR, kR183_43 hS, Option.bind_some, xl_sL K205 s1 (by decide), Option.bind_some, nI_succ]
      have v196 := hK.1 s hs'
      cases hl : lW g F s with
      | false =>
        rw [hl, if_neg (by decide)] at v196
        rw [if_neg (by rw [v196, v198, show nI 100000 = iI 100000 from rfl, iI_eq (by omega) (by omega) (by omega) (by omega)]; omega)] at step
        obtain ⟨L', a1, a2⟩ := ih (s + 1) L (by omega) (by omega) (fun t h1 h2 h3 => hL t h1 h2 (by
          rcases h3 with h3 | h3
          · exact .inl h3
          · refine .inr ⟨h3.1, ?_⟩
            rcases Nat.lt_or_ge t s with y | y
            · exact y
            · have : t = s := by omega
              rw [this, hl] at h2; cases h2))
        exact ⟨L', by rw [← a1]; exact xloop_step step, a2⟩
      | true =>
        rw [hl, if_pos rfl] at v196
        have tk := tK_ok hg ho s
        have eb := eE_b hg ho s
        by_cases hx2 : dnI g F s = x
        · have ek : tK g F s = kk := fb_ct_kth_one (lvP_tK hg ho hs' hl) hk2 (by unfold dnI at hx2; omega)
          have d73 := dn73 (σ := σ) (L := L) hS0 hG ho hK hst x1 (nI x) hs' hl (fun i hi ht => by
            have hlf : lW g F (s ^^^ 2 ^ i) = true := by
              rw [lW_flip hi hl]
              unfold dnT at ht
              simp only [Bool.and_eq_true, decide_eq_true_eq] at ht
              exact decide_eq_true ht.1
            have := dnI_m hg ho (gSt_flip hs' hi) hlf (dnT_lt hg ho hi ht)
            exact hL _ (gSt_flip hs' hi) hlf (.inl (by omega))) (hD s hs' hl)
          rw [if_pos (by rw [v196, v198, ← ek, tk.2]), d73] at step
          obtain ⟨L', a1, a2, a3⟩ := ih (s + 1) (xup L 205 s (DNV g F s)) (by omega) (by omega) (fun t h1 h2 h3 => by
            rw [dnL_at]
            by_cases y : t = s
            · rw [y, if_pos ⟨rfl, rfl⟩]
            · rw [if_neg (fun q => y q.2)]
              exact hL t h1 h2 (by omega))
          exact ⟨L', by rw [← a1]; exact xloop_step step, fun a q h => by rw [a2 a q h, dnL_at, if_neg (fun q => h q.1)], a3⟩
        · have ne : tK g F s ≠ kk := fun y => hx2 (by unfold dnI; rw [y]; exact hk3)
          rw [if_neg (by rw [v196, v198, iI_eq (by omega) (by omega) (by omega) (by omega)]; omega)] at step
          obtain ⟨L', a1, a2⟩ := ih (s + 1) L (by omega) (by omega) (fun t h1 h2 h3 => hL t h1 h2 (by
            rcases h3 with h3 | h3
            · exact .inl h3
            · refine .inr ⟨h3.1, ?_⟩
              rcases Nat.lt_or_ge t s with y | y
              · exact y
              · have : t = s := by omega
                rw [this] at h3; exact absurd h3.1 hx2))
          exact ⟨L', by rw [← a1]; exact xloop_step step, a2⟩
theorem dn27 (hS0 : Shp σ) (hG : GRD J g) (ho : RO g F) (hK : KNK J g F) (hst : gSt g ≤ 1024) (hD : ∀ s, s < gSt g → lW g F s = true → DNV g F s ≠ 0) {b : Nat} (hb : b < gSt g) (hbl : lW g F b = true) : ∀ n x (L : Nat → Nat → Int64), lvN g F - x ≤ n → x ≤ lvN g F → (∀ t, t < gSt g → lW g F t = true → dnI g F t < x → L 205 t = DNV g F t) → ∃ L' : Nat → Nat → Int64, xloop (f_X12_down_b27 183 (nI b)) (nI x, xw (xl σ L) J) = some (DNV g F b, xw (xl σ L') J) ∧ ∀ a q, a ≠ 205 → L' a q = L a q := by
  have hg := hG.1
  have K205 : σ.1 205 = (23, 1024) := xw_K hS0 (by decide) (by decide) (by decide)
  have xb := lvN_b g F
  have stop : ∀ L : Nat → Nat → Int64, (∀ t, t < gSt g → lW g F t = true → dnI g F t < lvN g F → L 205 t = DNV g F t) → ∃ L' : Nat → Nat → Int64, xloop (f_X12_down_b27 183 (nI b)) (nI (lvN g F), xw (xl σ L) J) = some (DNV g F b, xw (xl σ L') J) ∧ ∀ a q, a ≠ 205 → L' a q = L a q := fun L hL => by
    have hS : Shp (xl σ L) := hS0
    have b1 : b < 1024 := by omega
    refine ⟨L, xloop_end ?_, fun _ _ _ => rfl⟩
    simp only [f_X12_down_b27]
    rw [kG183 hS, Option.bind_some, hK.2.2.1, if_pos (by rw [nn_le (by omega) (by omega)]; exact Nat.le_refl _), xw_gR, kR183_43 hS, Option.bind_some, xl_aL K205 b1 (by decide), Option.bind_some, hL b hb hbl (dnI_lt hg ho hb hbl)]
    rfl
  intro n
  induction n with
  | zero =>
    intro x L hn hx hL
    have : x = lvN g F := by omega
    subst this
    exact stop L hL
  | succ n ih =>
    intro x L hn hx hL
    by_cases z : x = lvN g F
    · subst z
      exact stop L hL
    · have hS : Shp (xl σ L) := hS0
      have q1 : (nI (lvN g F) ≤ nI x) = False := by rw [nn_le (by omega) (by omega)]; exact eq_false (by omega)
      obtain ⟨L1, a1, a2, a3⟩ := dn37 (σ := σ) hS0 hG ho hK hst hD (nI b) (show x < lvN g F by omega) (gSt g) 0 L (by omega) (by omega) (fun t h1 h2 h3 => hL t h1 h2 (by omega))
      have a1 : xloop (f_X12_down_b37 183 (nI b) (nI x)) ((0 : Int32), xw (xl σ L) J) = some (.inl (nI (x + 1), xw (xl σ L1) J)) := a1
      obtain ⟨L', c1, c2⟩ := ih (x + 1) L1 (by omega) (by omega) a3
      refine ⟨L', ?_, fun a q h => by rw [c2 a q h]; exact a2 a q h⟩
      rw [← c1]
      refine xloop_step ?_
      simp only [f_X12_down_b27]
      rw [kG183 hS, Option.bind_some, hK.2.2.1, if_neg (by rw [q1]; exact id), a1]
end DOWN2
end
section
/-! the ways down for a law that does not compare them: the model's own count, whatever it is -/
def dwV (g : GD) (F : Nat → Int32) : Nat → Nat → Int64
  | 0, _ => 0
  | k + 1, s => if dnS (fun i => if dnT g F s i then dwV g F k (s ^^^ 2 ^ i) else 0) (gSz g) = 0 then 1 else dnS (fun i => if dnT g F s i then dwV g F k (s ^^^ 2 ^ i) else 0) (gSz g)
def DNW (g : GD) (F : Nat → Int32) (s : Nat) : Int64 := dwV g F 289 s
section DOWNW
variable {σ : XS} {J : Nat → Nat → Int32} {g : GD} {F : Nat → Int32}
theorem dwV_st (hg : g ∈ gAll) (ho : RO g F) : ∀ k s, tK g F s < k → dwV g F (k + 1) s = dwV g F k s
  | 0, s, h => by omega
  | k + 1, s, h => by
    have e : dnS (fun i => if dnT g F s i then dwV g F (k + 1) (s ^^^ 2 ^ i) else 0) (gSz g) = dnS (fun i => if dnT g F s i then dwV g F k (s ^^^ 2 ^ i) else 0) (gSz g) := by
      refine dnS_c _ (fun i hi => ?_)
      by_cases z : dnT g F s i = true
      · rw [if_pos z, if_pos z]
        have := dnT_lt hg ho hi z
        exact dwV_st hg ho k _ (by omega)
      · rw [if_neg z, if_neg z]
    rw [dwV, dwV, e]
theorem DNW_r (hg : g ∈ gAll) (ho : RO g F) (s : Nat) : DNW g F s = if dnS (fun i => if dnT g F s i then DNW g F (s ^^^ 2 ^ i) else 0) (gSz g) = 0 then 1 else dnS (fun i => if dnT g F s i then DNW g F (s ^^^ 2 ^ i) else 0) (gSz g) := by
  have hb := (tK_ok hg ho s).1
  have e : dnS (fun i => if dnT g F s i then DNW g F (s ^^^ 2 ^ i) else 0) (gSz g) = dnS (fun i => if dnT g F s i then dwV g F 288 (s ^^^ 2 ^ i) else 0) (gSz g) := by
    refine dnS_c _ (fun i hi => ?_)
    by_cases z : dnT g F s i = true
    · rw [if_pos z, if_pos z]
      have := dnT_lt hg ho hi z
      exact dwV_st hg ho 288 _ (by omega)
    · rw [if_neg z, if_neg z]
  rw [e]
  rfl
theorem dw73 (hS0 : Shp σ) (hG : GRD J g) (ho : RO g F) (hK : KNK J g F) (hst : gSt g ≤ 1024) {L : Nat → Nat → Int64} {s : Nat} (x1 x2 : Int32) (hs : s < gSt g) (hl : lW g F s = true) (hL : ∀ i, i < gSz g → dnT g F s i = true → L 205 (s ^^^ 2 ^ i) = DNW g F (s ^^^ 2 ^ i)) : xloop (f_X12_down_b73 183 x1 x2 (nI s)) ((0 : Int32), xw (xl σ (xup L 205 s 0)) J) = some (.inl (nI (s + 1), xw (xl σ (xup L 205 s (DNW g F s))) J)) := by
  have hg := hG.1
  have h16 := (gAll_b g hg).2.2.1
  have K205 : σ.1 205 = (23, 1024) := xw_K hS0 (by decide) (by decide) (by decide)
  have up2 : ∀ v w : Int64, xup (xup L 205 s v) 205 s w = xup L 205 s w := fun v w => by
    funext a q
    rw [dnL_at, dnL_at, dnL_at]
    by_cases z : a = 205 ∧ q = s
    · rw [if_pos z, if_pos z]
    · rw [if_neg z, if_neg z, if_neg z]
  refine xforE (fun i : Nat => (nI i, xw (xl σ (xup L 205 s (dnS (fun i => if dnT g F s i then DNW g F (s ^^^ 2 ^ i) else 0) i))) J)) (gSz g) rfl (fun i hi => ?_) ?_
  · have hS : Shp (xl σ (xup L 205 s (dnS (fun i => if dnT g F s i then DNW g F (s ^^^ 2 ^ i) else 0) i))) := hS0
    have si := sites_ok (σ := xl σ (xup L 205 s (dnS (fun i => if dnT g F s i then DNW g F (s ^^^ 2 ^ i) else 0) i))) (I := J) hS hG
    have q1 : (nI (gSz g) ≤ nI i) = False := by rw [nn_le (by omega) (by omega)]; exact eq_false (by omega)
    have hf := gSt_flip hs hi
    have cond := dn196 ho hK hg hs hl hi
    have ne : s ^^^ 2 ^ i ≠ s := fun z => by
      have := congrArg (fun x => x.testBit i) z
      simp only [Nat.testBit_xor, Nat.testBit_two_pow] at this
      cases hb : s.testBit i <;> simp [hb] at this
    have hi32 : i < 32 := by omega
    have s5 : s < 65536 := by omega
    have f5 : s ^^^ 2 ^ i < 65536 := by omega
    have s1 : s < 1024 := by omega
    have f1 : s ^^^ 2 ^ i < 1024 := by omega
    have r1 : xup L 205 s (dnS (fun i => if dnT g F s i then DNW g F (s ^^^ 2 ^ i) else 0) i) 205 s = dnS (fun i => if dnT g F s i then DNW g F (s ^^^ 2 ^ i) else 0) i := by rw [dnL_at, if_pos ⟨rfl, rfl⟩]
    have r2 : xup L 205 s (dnS (fun i => if dnT g F s i then DNW g F (s ^^^ 2 ^ i) else 0) i) 205 (s ^^^ 2 ^ i) = L 205 (s ^^^ 2 ^ i) := by rw [dnL_at, if_neg (fun z => ne z.2)]
    simp only [f_X12_down_b73]
    rw [xw_ck, kC183 hS, Option.bind_some, si, Option.bind_some, if_neg (by rw [q1]; exact id), xw_gR, kR183_33 hS, Option.bind_some, nn_one hi32, nn_xor, kA196 hS f5, Option.bind_some, Option.bind_some, kA196 hS s5, Option.bind_some]
    simp only [cond]
    rw [← nI_succ, dnS]
    cases ht : dnT g F s i with
    | false => rw [if_pos rfl, if_neg (show ¬ (false = true) by decide), Int64.add_zero]
    | true => rw [if_neg (by decide), xw_gR, kR183_43 hS, Option.bind_some, xl_aL K205 s1 (by decide), Option.bind_some, Option.bind_some, xl_aL K205 f1 (by decide), Option.bind_some, r1, r2, hL i hi ht, xl_sL K205 s1 (by decide), Option.bind_some, up2, if_pos rfl]
  · obtain ⟨V, hV⟩ : ∃ V, V = dnS (fun i => if dnT g F s i then DNW g F (s ^^^ 2 ^ i) else 0) (gSz g) := ⟨_, rfl⟩
    have hS : Shp (xl σ (xup L 205 s V)) := hS0
    have si := sites_ok (σ := xl σ (xup L 205 s V)) (I := J) hS hG
    have s1 : s < 1024 := by omega
    have r1 : xup L 205 s V 205 s = V := by rw [dnL_at, if_pos ⟨rfl, rfl⟩]
    have hrec := DNW_r hg ho s
    rw [← hV] at hrec
    simp only [f_X12_down_b73]
    rw [← hV, xw_ck, kC183 hS, Option.bind_some, si, Option.bind_some, if_pos (by rw [nn_le (by omega) (by omega)]; exact Nat.le_refl _), xw_gR, kR183_43 hS, Option.bind_some, xl_aL K205 s1 (by decide), Option.bind_some, r1]
    simp only [lg_cmp0]
    by_cases hz : V = 0
    · rw [if_pos hz] at hrec
      rw [if_pos hz, Option.bind_some, xl_sL K205 s1 (by decide), Option.bind_some, up2, hrec, nI_succ]
      rfl
    · rw [if_neg hz] at hrec
      rw [if_neg hz, hrec, nI_succ]
      rfl
theorem dw37 (hS0 : Shp σ) (hG : GRD J g) (ho : RO g F) (hK : KNK J g F) (hst : gSt g ≤ 1024) (x1 : Int32) {x : Nat} (hx : x < lvN g F) : ∀ n s (L : Nat → Nat → Int64), gSt g - s ≤ n → s ≤ gSt g → (∀ t, t < gSt g → lW g F t = true → (dnI g F t < x ∨ (dnI g F t = x ∧ t < s)) → L 205 t = DNW g F t) → ∃ L' : Nat → Nat → Int64, xloop (f_X12_down_b37 183 x1 (nI x)) (nI s, xw (xl σ L) J) = some (.inl (nI (x + 1), xw (xl σ L') J)) ∧ (∀ a q, a ≠ 205 → L' a q = L a q) ∧ ∀ t, t < gSt g → lW g F t = true → dnI g F t < x + 1 → L' 205 t = DNW g F t := by
  have hg := hG.1
  have h16 := (gAll_b g hg).2.2.1
  have K205 : σ.1 205 = (23, 1024) := xw_K hS0 (by decide) (by decide) (by decide)
  have xb := lvN_b g F
  obtain ⟨kk, hk1, hk2, hk3⟩ := lvl_at hx
  have v198 : J 198 x = iI ((kk : Int) - 144) := by rw [← hk3]; exact hK.2.2.2 kk hk1 hk2
  have stop : ∀ L : Nat → Nat → Int64, (∀ t, t < gSt g → lW g F t = true → (dnI g F t < x ∨ (dnI g F t = x ∧ t < gSt g)) → L 205 t = DNW g F t) → ∃ L' : Nat → Nat → Int64, xloop (f_X12_down_b37 183 x1 (nI x)) (nI (gSt g), xw (xl σ L) J) = some (.inl (nI (x + 1), xw (xl σ L') J)) ∧ (∀ a q, a ≠ 205 → L' a q = L a q) ∧ ∀ t, t < gSt g → lW g F t = true → dnI g F t < x + 1 → L' 205 t = DNW g F t := fun L hL => by
    have hS : Shp (xl σ L) := hS0
    refine ⟨L, xloop_end ?_, fun _ _ _ => rfl, fun t h1 h2 h3 => hL t h1 h2 (by omega)⟩
    simp only [f_X12_down_b37]
    rw [xw_ck, kC183 hS, Option.bind_some, states12_ok hS hG, Option.bind_some, if_pos (by rw [nn_le (by omega) (by omega)]; exact Nat.le_refl _), nI_succ]
    rfl
  intro n
  induction n with
  | zero =>
    intro s L hn hs hL
    have : s = gSt g := by omega
    subst this
    exact stop L hL
  | succ n ih =>
    intro s L hn hs hL
    by_cases z : s = gSt g
    · subst z
      exact stop L hL
    · have hs' : s < gSt g := by omega
      have hS : Shp (xl σ L) := hS0
      have q1 : (nI (gSt g) ≤ nI s) = False := by rw [nn_le (by omega) (by omega)]; exact eq_false (by omega)
      have s5 : s < 65536 := by omega
      have s1 : s < 1024 := by omega
      have x3 : x < 301 := by omega
      have step : f_X12_down_b37 183 x1 (nI x) (nI s, xw (xl σ L) J) = if J 196 s = J 198 x then xloop (f_X12_down_b73 183 x1 (nI x) (nI s)) ((0 : Int32), xw (xl σ (xup L 205 s 0)) J) else some (.inl (nI (s + 1), xw (xl σ L) J)) := by
        simp only [f_X12_down_b37]
        rw [xw_ck, kC183 hS, Option.bind_some, states12_ok hS hG, Option.bind_some, if_neg (by rw [q1]; exact id), xw_gR, kR183_33 hS, Option.bind_some, kA196 hS s5, Option.bind_some, xw_gR, kR183_36 hS, Option.bind_some, kA198 hS x3, Option.bind_some, xw_gR, kR183_43 hS, Option.bind_some, xl_sL K205 s1 (by decide), Option.bind_some, nI_succ]
      have v196 := hK.1 s hs'
      cases hl : lW g F s with
      | false =>
        rw [hl, if_neg (by decide)] at v196
        rw [if_neg (by rw [v196, v198, show nI 100000 = iI 100000 from rfl, iI_eq (by omega) (by omega) (by omega) (by omega)]; omega)] at step
        obtain ⟨L', a1, a2⟩ := ih (s + 1) L (by omega) (by omega) (fun t h1 h2 h3 => hL t h1 h2 (by
          rcases h3 with h3 | h3
          · exact .inl h3
          · refine .inr ⟨h3.1, ?_⟩
            rcases Nat.lt_or_ge t s with y | y
            · exact y
            · have : t = s := by omega
              rw [this, hl] at h2; cases h2))
        exact ⟨L', by rw [← a1]; exact xloop_step step, a2⟩
      | true =>
        rw [hl, if_pos rfl] at v196
        have tk := tK_ok hg ho s
        have eb := eE_b hg ho s
        by_cases hx2 : dnI g F s = x
        · have ek : tK g F s = kk := fb_ct_kth_one (lvP_tK hg ho hs' hl) hk2 (by unfold dnI at hx2; omega)
          have d73 := dw73 (σ := σ) (L := L) hS0 hG ho hK hst x1 (nI x) hs' hl (fun i hi ht => by
            have hlf : lW g F (s ^^^ 2 ^ i) = true := by
              rw [lW_flip hi hl]
              unfold dnT at ht
              simp only [Bool.and_eq_true, decide_eq_true_eq] at ht
              exact decide_eq_true ht.1
            have := dnI_m hg ho (gSt_flip hs' hi) hlf (dnT_lt hg ho hi ht)
            exact hL _ (gSt_flip hs' hi) hlf (.inl (by omega)))
          rw [if_pos (by rw [v196, v198, ← ek, tk.2]), d73] at step
          obtain ⟨L', a1, a2, a3⟩ := ih (s + 1) (xup L 205 s (DNW g F s)) (by omega) (by omega) (fun t h1 h2 h3 => by
            rw [dnL_at]
            by_cases y : t = s
            · rw [y, if_pos ⟨rfl, rfl⟩]
            · rw [if_neg (fun q => y q.2)]
              exact hL t h1 h2 (by omega))
          exact ⟨L', by rw [← a1]; exact xloop_step step, fun a q h => by rw [a2 a q h, dnL_at, if_neg (fun q => h q.1)], a3⟩
        · have ne : tK g F s ≠ kk := fun y => hx2 (by unfold dnI; rw [y]; exact hk3)
          rw [if_neg (by rw [v196, v198, iI_eq (by omega) (by omega) (by omega) (by omega)]; omega)] at step
          obtain ⟨L', a1, a2⟩ := ih (s + 1) L (by omega) (by omega) (fun t h1 h2 h3 => hL t h1 h2 (by
            rcases h3 with h3 | h3
            · exact .inl h3
            · refine .inr ⟨h3.1, ?_⟩
              rcases Nat.lt_or_ge t s with y | y
              · exact y
              · have : t = s := by omega
                rw [this] at h3; exact absurd h3.1 hx2))
          exact ⟨L', by rw [← a1]; exact xloop_step step, a2⟩
theorem dw27 (hS0 : Shp σ) (hG : GRD J g) (ho : RO g F) (hK : KNK J g F) (hst : gSt g ≤ 1024) {b : Nat} (hb : b < gSt g) (hbl : lW g F b = true) : ∀ n x (L : Nat → Nat → Int64), lvN g F - x ≤ n → x ≤ lvN g F → (∀ t, t < gSt g → lW g F t = true → dnI g F t < x → L 205 t = DNW g F t) → ∃ L' : Nat → Nat → Int64, xloop (f_X12_down_b27 183 (nI b)) (nI x, xw (xl σ L) J) = some (DNW g F b, xw (xl σ L') J) ∧ ∀ a q, a ≠ 205 → L' a q = L a q := by
  have hg := hG.1
  have K205 : σ.1 205 = (23, 1024) := xw_K hS0 (by decide) (by decide) (by decide)
  have xb := lvN_b g F
  have stop : ∀ L : Nat → Nat → Int64, (∀ t, t < gSt g → lW g F t = true → dnI g F t < lvN g F → L 205 t = DNW g F t) → ∃ L' : Nat → Nat → Int64, xloop (f_X12_down_b27 183 (nI b)) (nI (lvN g F), xw (xl σ L) J) = some (DNW g F b, xw (xl σ L') J) ∧ ∀ a q, a ≠ 205 → L' a q = L a q := fun L hL => by
    have hS : Shp (xl σ L) := hS0
    have b1 : b < 1024 := by omega
    refine ⟨L, xloop_end ?_, fun _ _ _ => rfl⟩
    simp only [f_X12_down_b27]
    rw [kG183 hS, Option.bind_some, hK.2.2.1, if_pos (by rw [nn_le (by omega) (by omega)]; exact Nat.le_refl _), xw_gR, kR183_43 hS, Option.bind_some, xl_aL K205 b1 (by decide), Option.bind_some, hL b hb hbl (dnI_lt hg ho hb hbl)]
    rfl
  intro n
  induction n with
  | zero =>
    intro x L hn hx hL
    have : x = lvN g F := by omega
    subst this
    exact stop L hL
  | succ n ih =>
    intro x L hn hx hL
    by_cases z : x = lvN g F
    · subst z
      exact stop L hL
    · have hS : Shp (xl σ L) := hS0
      have q1 : (nI (lvN g F) ≤ nI x) = False := by rw [nn_le (by omega) (by omega)]; exact eq_false (by omega)
      obtain ⟨L1, a1, a2, a3⟩ := dw37 (σ := σ) hS0 hG ho hK hst (nI b) (show x < lvN g F by omega) (gSt g) 0 L (by omega) (by omega) (fun t h1 h2 h3 => hL t h1 h2 (by omega))
      have a1 : xloop (f_X12_down_b37 183 (nI b) (nI x)) ((0 : Int32), xw (xl σ L) J) = some (.inl (nI (x + 1), xw (xl σ L1) J)) := a1
      obtain ⟨L', c1, c2⟩ := ih (x + 1) L1 (by omega) (by omega) a3
      refine ⟨L', ?_, fun a q h => by rw [c2 a q h]; exact a2 a q h⟩
      rw [← c1]
      refine xloop_step ?_
      simp only [f_X12_down_b27]
      rw [kG183 hS, Option.bind_some, hK.2.2.1, if_neg (by rw [q1]; exact id), a1]
end DOWNW
theorem op_downW : Op_downW INV := by
  intro n σ hn ⟨g, gT, gP, st, H⟩ x
  have hS := H.shp
  have hG := H.grd
  have hg := hG.1
  have h16 := (gAll_b g hg).2.2.1
  have sm := isSmall_ok (σ := σ) (I := xI σ) hS hG
  have l1 := isLawful11_ok (σ := σ) (I := xI σ) hS hG H.now.1 x
  have l2 := isLawful12_ok (σ := σ) (I := xI σ) hS hG H.now.2.1 x
  have s2 := sites_ok (σ := σ) (I := xI σ) hS hG
  have sm2 := small12 hS hG
  by_cases h10 : gSz g ≤ 10
  · rw [if_pos h10] at sm
    by_cases hb : isB g (xI σ 191) x = true
    · rw [hb, if_pos rfl] at l1
      obtain ⟨b, hb1, rfl, hbl⟩ := isB_t hb
      obtain ⟨τ, c, m, M, o, e1, H1, hT, hO, r1⟩ := terr_ready (by omega) H h10
      obtain ⟨F, hF⟩ : ∃ F, F = xI σ 191 := ⟨_, rfl⟩
      rw [← hF] at hT hO hbl r1
      have ho := hT.2.2.1
      obtain ⟨ib, hib, eb⟩ := hO.2.2.2.2 b hb1 hbl
      obtain ⟨L, e3, u3⟩ := waysDown_ok (σ := τ) hT hO hib ib 0 (xL τ) (by omega) (by omega) (fun j hj => by omega)
      rw [eb] at e3
      have e3 : f_X9_waysDown (xw τ (xI τ)) 174 (nI b) = some (DNV g F b, xw (xl τ L) (xI τ)) := e3
      have H2 : IV n (xl τ L) g gT gP st := H1.longs (fun k => u3 190 k (by omega))
      have r2 : xI (xl τ L) 191 = F := r1
      obtain ⟨H3, hG3, r3, Q, e4, H4, hG4, K4, r4⟩ := terr_both (J' := xI τ) H2 r2 (fun _ _ _ _ => rfl)
      have hS3 : Shp τ := H1.shp
      have hS4 : Shp (xl τ L) := hS3
      obtain ⟨L2, e5, u5⟩ := dw27 (σ := τ) hS3 hG4 ho K4 hT.st hb1 hbl (lvN g F) 0 L (by omega) (by omega) (fun t _ _ h => by omega)
      have e5 : xloop (f_X12_down_b27 183 (nI b)) ((0 : Int32), xw (xl τ L) Q) = some (DNW g F b, xw (xl τ L2) Q) := e5
      have l3 := isLawful12_ok (σ := xl τ L) (I := xI τ) hS4 hG3 (show RO g (xI τ 191) by rw [r1]; exact ho) (nI b)
      rw [r1, isB_n hg hb1, hbl, if_pos rfl] at l3
      refine ⟨DNV g F b, DNW g F b, xw (xl τ L) (xI τ), xw (xl τ L2) Q, ?_, ?_, INV_i (IV.nop (H4.longs (L := L2) (fun k => u5 190 k (by omega))))⟩
      · unfold f_X11_down
        show ((xck σ 1 11).bind fun _ => (f_X11_isSmall (xw σ (xI σ)) 1).bind _) = _
        rw [xck_ok (sT1 hS), Option.bind_some, sm, Option.bind_some, if_neg (by decide), Option.bind_some]
        show ((f_X11_isLawful (xw σ (xI σ)) 1 (nI b)).bind _) = _
        rw [l1, Option.bind_some, if_neg (by decide), Option.bind_some, e1, Option.bind_some]
        dsimp only
        rw [xnz_ok (by decide), Option.bind_some]
        unfold f_X11_down_j23
        rw [xck_ok (sT174 hS3), Option.bind_some]
        show ((f_X9_waysDown (xw τ (xI τ)) 174 (nI b)).bind _) = _
        rw [e3, Option.bind_some]
      · unfold f_X12_down
        rw [xw_ck, kC183 hS4, Option.bind_some, l3, Option.bind_some, if_neg (by decide), Option.bind_some, sites_ok hS4 hG3, Option.bind_some, if_pos (by rw [sm2]; exact h10), Option.bind_some, e4, Option.bind_some, e5]
    · have hb' : isB g (xI σ 191) x = false := Bool.not_eq_true _ ▸ hb
      rw [hb', if_neg (by decide)] at l1 l2
      refine ⟨-100000, -100000, σ, σ, ?_, ?_, g, gT, gP, st, H.nop⟩
      · show f_X11_down (xw σ (xI σ)) 1 x = _
        unfold f_X11_down
        simp (disch := first | assumption | omega) only [Option.bind_some, Option.map_some, xw_gR, xw_gN, xw_al, xw_ck, xw_uI, xw_ur, xup_at, xur_at, if_true, if_false, reduceIte, and_true, true_and, and_false, false_and, not_true_eq_false, not_false_eq_true, Nat.reduceEqDiff, eq_self, Nat.reduceAdd, Nat.reduceMul, kC1, kG1, kP1, kR1_0, kR1_1, kR1_2, kR1_3, kR1_4, kR1_5, kR1_6, kR1_7, kR1_8, kR1_9, kR1_10, kR1_11, kR1_12, kR1_13, kC2, kG2, kP2, kR2_0, kR2_1, kC3, kG3, kP3, kR3_0, kR3_1, kR3_2, kR3_3, kL4, kA4, kS4, kL5, kA5, kS5, kL6, kA6, kS6, kL7, kA7, kS7, kC8, kG8, kP8, kR8_0, kR8_1, kL9, kA9, kS9, kL10, kA10, kS10, kC11, kG11, kP11, kR11_0, kR11_1, kR11_2, kR11_3, kL12, kA12, kS12, kL13, kA13, kS13, kL14, kA14, kS14, kL15, kA15, kS15, kC16, kG16, kP16, kR16_0, kR16_1, kL17, kA17, kS17, kL18, kA18, kS18, kC19, kG19, kP19, kR19_0, kL20, kL141, kL146, kA146, kS146, kL151, kA151, kS151, kL156, kA156, kS156, kC157, kG157, kP157, kR157_0, kR157_1, kL158, kA158, kS158, kL159, kA159, kS159, kC161, kG161, kP161, kR161_0, kR161_1, kL162, kA162, kS162, kL163, kA163, kS163, kC165, kG165, kP165, kR165_0, kR165_1, kR165_2, kR165_3, kL166, kA166, kS166, kL167, kA167, kS167, kL168, kA168, kS168, kL169, kA169, kS169, kC170, kG170, kP170, kR170_0, kR170_1, kR170_2, kL171, kA171, kS171, kL172, kA172, kS172, kL173, kA173, kS173, kC174, kG174, kP174, kR174_0, kR174_1, kR174_2, kR174_3, kR174_4, kL175, kA175, kS175, kL176, kA176, kS176, kL177, kA177, kS177, kL178, kA178, kS178, kL179, kC180, kG180, kP180, kL181, kL182, kA182, kS182, kC183, kG183, kP183, kR183_1, kR183_3, kR183_5, kR183_6, kR183_7, kR183_8, kR183_9, kR183_21, kR183_26, kR183_27, kR183_30, kR183_31, kR183_33, kR183_34, kR183_36, kR183_37, kR183_38, kR183_39, kR183_40, kR183_41, kR183_42, kR183_43, kR183_44, kL184, kA184, kS184, kL185, kA185, kS185, kL186, kA186, kS186, kL187, kA187, kS187, kL188, kA188, kS188, kL189, kL190, kL191, kA191, kS191, kL192, kA192, kS192, kL193, kA193, kS193, kL194, kA194, kS194, kL195, kA195, kS195, kL196, kA196, kS196, kL197, kA197, kS197, kL198, kA198, kS198, kL199, kA199, kS199, kL200, kA200, kS200, kL201, kL202, kA202, kS202, kL203, kA203, kS203, kL204, kA204, kS204, kL205, kL206, kA206, kS206, sm, one0, l1]
        rfl
      · show f_X12_down (xw σ (xI σ)) 183 x = _
        unfold f_X12_down
        simp (disch := first | assumption | omega) only [Option.bind_some, Option.map_some, xw_gR, xw_gN, xw_al, xw_ck, xw_uI, xw_ur, xup_at, xur_at, if_true, if_false, reduceIte, and_true, true_and, and_false, false_and, not_true_eq_false, not_false_eq_true, Nat.reduceEqDiff, eq_self, Nat.reduceAdd, Nat.reduceMul, kC1, kG1, kP1, kR1_0, kR1_1, kR1_2, kR1_3, kR1_4, kR1_5, kR1_6, kR1_7, kR1_8, kR1_9, kR1_10, kR1_11, kR1_12, kR1_13, kC2, kG2, kP2, kR2_0, kR2_1, kC3, kG3, kP3, kR3_0, kR3_1, kR3_2, kR3_3, kL4, kA4, kS4, kL5, kA5, kS5, kL6, kA6, kS6, kL7, kA7, kS7, kC8, kG8, kP8, kR8_0, kR8_1, kL9, kA9, kS9, kL10, kA10, kS10, kC11, kG11, kP11, kR11_0, kR11_1, kR11_2, kR11_3, kL12, kA12, kS12, kL13, kA13, kS13, kL14, kA14, kS14, kL15, kA15, kS15, kC16, kG16, kP16, kR16_0, kR16_1, kL17, kA17, kS17, kL18, kA18, kS18, kC19, kG19, kP19, kR19_0, kL20, kL141, kL146, kA146, kS146, kL151, kA151, kS151, kL156, kA156, kS156, kC157, kG157, kP157, kR157_0, kR157_1, kL158, kA158, kS158, kL159, kA159, kS159, kC161, kG161, kP161, kR161_0, kR161_1, kL162, kA162, kS162, kL163, kA163, kS163, kC165, kG165, kP165, kR165_0, kR165_1, kR165_2, kR165_3, kL166, kA166, kS166, kL167, kA167, kS167, kL168, kA168, kS168, kL169, kA169, kS169, kC170, kG170, kP170, kR170_0, kR170_1, kR170_2, kL171, kA171, kS171, kL172, kA172, kS172, kL173, kA173, kS173, kC174, kG174, kP174, kR174_0, kR174_1, kR174_2, kR174_3, kR174_4, kL175, kA175, kS175, kL176, kA176, kS176, kL177, kA177, kS177, kL178, kA178, kS178, kL179, kC180, kG180, kP180, kL181, kL182, kA182, kS182, kC183, kG183, kP183, kR183_1, kR183_3, kR183_5, kR183_6, kR183_7, kR183_8, kR183_9, kR183_21, kR183_26, kR183_27, kR183_30, kR183_31, kR183_33, kR183_34, kR183_36, kR183_37, kR183_38, kR183_39, kR183_40, kR183_41, kR183_42, kR183_43, kR183_44, kL184, kA184, kS184, kL185, kA185, kS185, kL186, kA186, kS186, kL187, kA187, kS187, kL188, kA188, kS188, kL189, kL190, kL191, kA191, kS191, kL192, kA192, kS192, kL193, kA193, kS193, kL194, kA194, kS194, kL195, kA195, kS195, kL196, kA196, kS196, kL197, kA197, kS197, kL198, kA198, kS198, kL199, kA199, kS199, kL200, kA200, kS200, kL201, kL202, kA202, kS202, kL203, kA203, kS203, kL204, kA204, kS204, kL205, kL206, kA206, kS206, l2]
        rfl
  · rw [if_neg h10] at sm
    refine ⟨-100000, -100000, σ, σ, ?_, ?_, g, gT, gP, st, H.nop⟩
    · show f_X11_down (xw σ (xI σ)) 1 x = _
      unfold f_X11_down
      simp (disch := first | assumption | omega) only [Option.bind_some, Option.map_some, xw_gR, xw_gN, xw_al, xw_ck, xw_uI, xw_ur, xup_at, xur_at, if_true, if_false, reduceIte, and_true, true_and, and_false, false_and, not_true_eq_false, not_false_eq_true, Nat.reduceEqDiff, eq_self, Nat.reduceAdd, Nat.reduceMul, kC1, kG1, kP1, kR1_0, kR1_1, kR1_2, kR1_3, kR1_4, kR1_5, kR1_6, kR1_7, kR1_8, kR1_9, kR1_10, kR1_11, kR1_12, kR1_13, kC2, kG2, kP2, kR2_0, kR2_1, kC3, kG3, kP3, kR3_0, kR3_1, kR3_2, kR3_3, kL4, kA4, kS4, kL5, kA5, kS5, kL6, kA6, kS6, kL7, kA7, kS7, kC8, kG8, kP8, kR8_0, kR8_1, kL9, kA9, kS9, kL10, kA10, kS10, kC11, kG11, kP11, kR11_0, kR11_1, kR11_2, kR11_3, kL12, kA12, kS12, kL13, kA13, kS13, kL14, kA14, kS14, kL15, kA15, kS15, kC16, kG16, kP16, kR16_0, kR16_1, kL17, kA17, kS17, kL18, kA18, kS18, kC19, kG19, kP19, kR19_0, kL20, kL141, kL146, kA146, kS146, kL151, kA151, kS151, kL156, kA156, kS156, kC157, kG157, kP157, kR157_0, kR157_1, kL158, kA158, kS158, kL159, kA159, kS159, kC161, kG161, kP161, kR161_0, kR161_1, kL162, kA162, kS162, kL163, kA163, kS163, kC165, kG165, kP165, kR165_0, kR165_1, kR165_2, kR165_3, kL166, kA166, kS166, kL167, kA167, kS167, kL168, kA168, kS168, kL169, kA169, kS169, kC170, kG170, kP170, kR170_0, kR170_1, kR170_2, kL171, kA171, kS171, kL172, kA172, kS172, kL173, kA173, kS173, kC174, kG174, kP174, kR174_0, kR174_1, kR174_2, kR174_3, kR174_4, kL175, kA175, kS175, kL176, kA176, kS176, kL177, kA177, kS177, kL178, kA178, kS178, kL179, kC180, kG180, kP180, kL181, kL182, kA182, kS182, kC183, kG183, kP183, kR183_1, kR183_3, kR183_5, kR183_6, kR183_7, kR183_8, kR183_9, kR183_21, kR183_26, kR183_27, kR183_30, kR183_31, kR183_33, kR183_34, kR183_36, kR183_37, kR183_38, kR183_39, kR183_40, kR183_41, kR183_42, kR183_43, kR183_44, kL184, kA184, kS184, kL185, kA185, kS185, kL186, kA186, kS186, kL187, kA187, kS187, kL188, kA188, kS188, kL189, kL190, kL191, kA191, kS191, kL192, kA192, kS192, kL193, kA193, kS193, kL194, kA194, kS194, kL195, kA195, kS195, kL196, kA196, kS196, kL197, kA197, kS197, kL198, kA198, kS198, kL199, kA199, kS199, kL200, kA200, kS200, kL201, kL202, kA202, kS202, kL203, kA203, kS203, kL204, kA204, kS204, kL205, kL206, kA206, kS206, sm]
      rfl
    · show f_X12_down (xw σ (xI σ)) 183 x = _
      unfold f_X12_down
      simp (disch := first | assumption | omega) only [Option.bind_some, Option.map_some, xw_gR, xw_gN, xw_al, xw_ck, xw_uI, xw_ur, xup_at, xur_at, if_true, if_false, reduceIte, and_true, true_and, and_false, false_and, not_true_eq_false, not_false_eq_true, Nat.reduceEqDiff, eq_self, Nat.reduceAdd, Nat.reduceMul, kC1, kG1, kP1, kR1_0, kR1_1, kR1_2, kR1_3, kR1_4, kR1_5, kR1_6, kR1_7, kR1_8, kR1_9, kR1_10, kR1_11, kR1_12, kR1_13, kC2, kG2, kP2, kR2_0, kR2_1, kC3, kG3, kP3, kR3_0, kR3_1, kR3_2, kR3_3, kL4, kA4, kS4, kL5, kA5, kS5, kL6, kA6, kS6, kL7, kA7, kS7, kC8, kG8, kP8, kR8_0, kR8_1, kL9, kA9, kS9, kL10, kA10, kS10, kC11, kG11, kP11, kR11_0, kR11_1, kR11_2, kR11_3, kL12, kA12, kS12, kL13, kA13, kS13, kL14, kA14, kS14, kL15, kA15, kS15, kC16, kG16, kP16, kR16_0, kR16_1, kL17, kA17, kS17, kL18, kA18, kS18, kC19, kG19, kP19, kR19_0, kL20, kL141, kL146, kA146, kS146, kL151, kA151, kS151, kL156, kA156, kS156, kC157, kG157, kP157, kR157_0, kR157_1, kL158, kA158, kS158, kL159, kA159, kS159, kC161, kG161, kP161, kR161_0, kR161_1, kL162, kA162, kS162, kL163, kA163, kS163, kC165, kG165, kP165, kR165_0, kR165_1, kR165_2, kR165_3, kL166, kA166, kS166, kL167, kA167, kS167, kL168, kA168, kS168, kL169, kA169, kS169, kC170, kG170, kP170, kR170_0, kR170_1, kR170_2, kL171, kA171, kS171, kL172, kA172, kS172, kL173, kA173, kS173, kC174, kG174, kP174, kR174_0, kR174_1, kR174_2, kR174_3, kR174_4, kL175, kA175, kS175, kL176, kA176, kS176, kL177, kA177, kS177, kL178, kA178, kS178, kL179, kC180, kG180, kP180, kL181, kL182, kA182, kS182, kC183, kG183, kP183, kR183_1, kR183_3, kR183_5, kR183_6, kR183_7, kR183_8, kR183_9, kR183_21, kR183_26, kR183_27, kR183_30, kR183_31, kR183_33, kR183_34, kR183_36, kR183_37, kR183_38, kR183_39, kR183_40, kR183_41, kR183_42, kR183_43, kR183_44, kL184, kA184, kS184, kL185, kA185, kS185, kL186, kA186, kS186, kL187, kA187, kS187, kL188, kA188, kS188, kL189, kL190, kL191, kA191, kS191, kL192, kA192, kS192, kL193, kA193, kS193, kL194, kA194, kS194, kL195, kA195, kS195, kL196, kA196, kS196, kL197, kA197, kS197, kL198, kA198, kS198, kL199, kA199, kS199, kL200, kA200, kS200, kL201, kL202, kA202, kS202, kL203, kA203, kS203, kL204, kA204, kS204, kL205, kL206, kA206, kS206, l2, s2, sm2, h10]
      by_cases hb : isB g (xI σ 191) x = true
      · rw [hb, if_pos rfl, if_neg (by decide)]; rfl
      · rw [if_neg hb, if_pos rfl]; rfl
end
