/-! the model reads -/
section RD
variable {τ : XS} {J J0 : Nat → Nat → Int32} {b : Nat → Int32} {m T w l : Nat}
theorem gone_l (hS : Shp τ) : xloop (f_X12_read_b286 183) ((0 : Int32), xw τ J) = some ((0 : Int32), xw τ (fun a q => if a = 195 ∧ q < 3 then 0 else if a = 183 ∧ q = 32 then 0 else J a q)) := by
  refine xforE (fun i : Nat => (nI i, xw τ (fun a q => if a = 195 ∧ q < i then 0 else J a q))) 3 ?_ (fun i hi => ?_) ?_
  · have : (fun a q => if a = 195 ∧ q < 0 then 0 else J a q) = J := by
      funext a q
      rw [if_neg (by omega)]
    simp only [this]
    rfl
  · have q1 : ((3 : Int32) ≤ nI i) = False := by rw [show (3 : Int32) = nI 3 from rfl, nn_le (by omega) (by omega)]; exact eq_false (by omega)
    have e : xup (fun a q => if a = 195 ∧ q < i then 0 else J a q) 195 i 0 = fun a q => if a = 195 ∧ q < i + 1 then 0 else J a q := by
      funext a q
      rw [xup_at]
      by_cases z : a = 195 ∧ q = i
      · rw [if_pos z, if_pos (by omega)]
      · rw [if_neg z]
        by_cases y : a = 195 ∧ q < i
        · rw [if_pos y, if_pos (by omega)]
        · rw [if_neg y, if_neg (by omega)]
    simp only [f_X12_read_b286]
    rw [if_neg (by rw [q1]; exact id), xw_gR, kR183_31 hS, Option.bind_some, kS195 hS hi, Option.bind_some, e, nI_succ]
  · have e : xup (fun a q => if a = 195 ∧ q < 3 then 0 else J a q) 183 32 0 = fun a q => if a = 195 ∧ q < 3 then 0 else if a = 183 ∧ q = 32 then 0 else J a q := by
      funext a q
      rw [xup_at]
      by_cases z : a = 183 ∧ q = 32
      · rw [if_pos z, if_neg (by omega), if_pos z]
      · rw [if_neg z, if_neg z]
    simp only [f_X12_read_b286]
    rw [if_pos (by decide), kP183 hS, Option.bind_some, e]
    rfl
/-- the bits of the pinned up -/
def upN (F : Nat → Int32) : Nat → Nat
  | 0 => 0
  | k + 1 => if F (48 + k) = 1 then upN F k ||| 2 ^ k else upN F k
theorem upN_bit (F : Nat → Int32) : ∀ n i, (upN F n).testBit i = (decide (i < n) && decide (F (48 + i) = 1))
  | 0, i => by rw [show upN F 0 = 0 from rfl, Nat.zero_testBit]; simp
  | n + 1, i => by
    have ih := upN_bit F n i
    rw [upN]
    by_cases h : F (48 + n) = 1
    · rw [if_pos h, Nat.testBit_or, ih, Nat.testBit_two_pow]
      by_cases z : n = i
      · subst z; simp [h]
      · have e : (i < n + 1) = (i < n) := propext ⟨fun _ => by omega, fun _ => by omega⟩
        simp [z, e]
    · rw [if_neg h, ih]
      by_cases z : n = i
      · subst z; simp [h]
      · have e : (i < n + 1) = (i < n) := propext ⟨fun _ => by omega, fun _ => by omega⟩
        simp [e]
theorem pins_l (hS : Shp τ) (h17 : J 183 17 = nI w) (h18 : J 183 18 = nI l) (hwl : w * l ≤ 16) (h64 : J 191 64 = 0) : ∀ z, xloop (f_X12_read_b286 183) ((0 : Int32), xw τ (xup (xup J 191 64 (nI (upN (J 191) (w * l)))) 183 29 0)) = some z → xloop (f_X12_read_b239 183) ((0 : Int32), xw τ J) = some z := by
  intro z hz
  refine xforE (fun i : Nat => (nI i, xw τ (xup J 191 64 (nI (upN (J 191) i))))) (w * l) ?_ (fun i hi => ?_) ?_
  · have : xup J 191 64 (nI (upN (J 191) 0)) = J := by
      funext a q
      rw [xup_at]
      by_cases z : a = 191 ∧ q = 64
      · rw [if_pos z, z.1, z.2, h64]; rfl
      · rw [if_neg z]
    simp only [this]
    rfl
  · have si : f_X12_sites (xw τ (xup J 191 64 (nI (upN (J 191) i)))) 183 = some (nI (w * l)) := by
      unfold f_X12_sites
      rw [kG183 hS, Option.bind_some, kG183 hS, Option.bind_some, xup_at, if_neg (by omega), xup_at, if_neg (by omega), h17, h18, nn_mul]
    have q1 : (nI (w * l) ≤ nI i) = False := by rw [nn_le (by omega) (by omega)]; exact eq_false (by omega)
    have r1 : (xup J 191 64 (nI (upN (J 191) i))) 191 (48 + i) = J 191 (48 + i) := by rw [xup_at, if_neg (by omega)]
    have r2 : (xup J 191 64 (nI (upN (J 191) i))) 191 64 = nI (upN (J 191) i) := by rw [xup_at, if_pos ⟨rfl, rfl⟩]
    have k48 : 48 + i < 66 := by omega
    have k64 : 64 < 66 := by omega
    simp only [f_X12_read_b239]
    rw [xw_ck, kC183 hS, Option.bind_some, si, Option.bind_some, if_neg (by rw [q1]; exact id), xw_gR, kR183_21 hS, Option.bind_some, show (48 : Int32) = nI 48 from rfl, nn_add, kA191 hS k48, Option.bind_some, r1]
    by_cases h1 : J 191 (48 + i) = 1
    · rw [if_pos h1, Option.bind_some, show (64 : Int32) = nI 64 from rfl, kA191 hS k64, Option.bind_some, r2, nn_one (by omega), fa_or, kS191 hS k64, Option.bind_some, xup2, upN, if_pos h1, nI_succ]
    · rw [if_neg h1, upN, if_neg h1, nI_succ]
  · have si : f_X12_sites (xw τ (xup J 191 64 (nI (upN (J 191) (w * l))))) 183 = some (nI (w * l)) := by
      unfold f_X12_sites
      rw [kG183 hS, Option.bind_some, kG183 hS, Option.bind_some, xup_at, if_neg (by omega), xup_at, if_neg (by omega), h17, h18, nn_mul]
    simp only [f_X12_read_b239]
    rw [xw_ck, kC183 hS, Option.bind_some, si, Option.bind_some, if_pos (by rw [nn_le (by omega) (by omega)]; exact Nat.le_refl _), kP183 hS, Option.bind_some, hz]
    rfl
theorem rows_l (hS : Shp τ) : ∀ z, xloop (f_X12_read_b239 183) ((0 : Int32), xw τ (fun a q => if a = 191 ∧ q = 64 then 0 else if a = 191 ∧ q < 66 then J 192 q else J a q)) = some z → xloop (f_X12_read_b205 183) ((0 : Int32), xw τ J) = some z := by
  intro z hz
  refine xforE (fun i : Nat => (nI i, xw τ (fun a q => if a = 191 ∧ q < i then J 192 q else J a q))) 66 ?_ (fun i hi => ?_) ?_
  · have : (fun a q => if a = 191 ∧ q < 0 then J 192 q else J a q) = J := by
      funext a q
      rw [if_neg (by omega)]
    simp only [this]
    rfl
  · have q1 : ((66 : Int32) ≤ nI i) = False := by rw [show (66 : Int32) = nI 66 from rfl, nn_le (by omega) (by omega)]; exact eq_false (by omega)
    have e : xup (fun a q => if a = 191 ∧ q < i then J 192 q else J a q) 191 i (J 192 i) = fun a q => if a = 191 ∧ q < i + 1 then J 192 q else J a q := by
      funext a q
      rw [xup_at]
      by_cases z : a = 191 ∧ q = i
      · rw [if_pos z, if_pos (by omega), z.2]
      · rw [if_neg z]
        by_cases y : a = 191 ∧ q < i
        · rw [if_pos y, if_pos (by omega)]
        · rw [if_neg y, if_neg (by omega)]
    have r : (if 192 = 191 ∧ i < i then J 192 i else J 192 i) = J 192 i := if_neg (by omega)
    simp only [f_X12_read_b205]
    rw [if_neg (by rw [q1]; exact id), xw_gR, kR183_21 hS, Option.bind_some, xw_gR, kR183_26 hS, Option.bind_some, kA192 hS hi, Option.bind_some, r, kS191 hS hi, Option.bind_some, e, nI_succ]
  · have e : xup (fun a q => if a = 191 ∧ q < 66 then J 192 q else J a q) 191 64 0 = fun a q => if a = 191 ∧ q = 64 then 0 else if a = 191 ∧ q < 66 then J 192 q else J a q := by
      funext a q
      rw [xup_at]
    have k64 : 64 < 66 := by omega
    simp only [f_X12_read_b205]
    rw [if_pos (by decide), xw_gR, kR183_21 hS, Option.bind_some, show (64 : Int32) = nI 64 from rfl, kS191 hS k64, Option.bind_some, e, hz]
    rfl
theorem set_ok (hS : Shp τ) {rA rL : Nat} {p : Int32} (h12 : J 183 12 = 0) (h14 : J 183 14 = 0) (h22 : J 183 22 = nI w) (h23 : J 183 23 = nI l) (h24 : J 183 24 = nI rA) (h25 : J 183 25 = nI rL) (hA : rA < 2) (hL : rL < 2) (hwl : w * l ≤ 16) : ∃ J', f_X12_read_j144 (xw τ J) 183 183 p = some (0, xw τ J') ∧ J' 183 16 = p ∧ J' 183 17 = nI w ∧ J' 183 18 = nI l ∧ J' 183 19 = nI rA ∧ J' 183 20 = nI rL ∧ (∀ k, k < 66 → k ≠ 64 → J' 191 k = J 192 k) ∧ J' 191 64 = nI (upN (J 192) (w * l)) ∧ J' 183 29 = 0 ∧ (∀ i, i < 3 → J' 195 i = 0) ∧ J' 183 32 = 0 ∧ ∀ a q, a ≠ 191 → a ≠ 195 → ¬ (a = 183 ∧ ((16 ≤ q ∧ q ≤ 20) ∨ q = 29 ∨ q = 32)) → J' a q = J a q := by
  obtain ⟨A, hA'⟩ : ∃ A, A = xup (xup (xup (xup (xup J 183 16 p) 183 17 (nI w)) 183 18 (nI l)) 183 19 (nI rA)) 183 20 (nI rL) := ⟨_, rfl⟩
  have uA : ∀ a q, ¬ (a = 183 ∧ 16 ≤ q ∧ q ≤ 20) → A a q = J a q := fun a q h => by rw [hA', xup_at, if_neg (by omega), xup_at, if_neg (by omega), xup_at, if_neg (by omega), xup_at, if_neg (by omega), xup_at, if_neg (by omega)]
  have A16 : A 183 16 = p := by rw [hA', xup_at, if_neg (by omega), xup_at, if_neg (by omega), xup_at, if_neg (by omega), xup_at, if_neg (by omega), xup_at, if_pos ⟨rfl, rfl⟩]
  have A17 : A 183 17 = nI w := by rw [hA', xup_at, if_neg (by omega), xup_at, if_neg (by omega), xup_at, if_neg (by omega), xup_at, if_pos ⟨rfl, rfl⟩]
  have A18 : A 183 18 = nI l := by rw [hA', xup_at, if_neg (by omega), xup_at, if_neg (by omega), xup_at, if_pos ⟨rfl, rfl⟩]
  have A19 : A 183 19 = nI rA := by rw [hA', xup_at, if_neg (by omega), xup_at, if_pos ⟨rfl, rfl⟩]
  have A20 : A 183 20 = nI rL := by rw [hA', xup_at, if_pos ⟨rfl, rfl⟩]
  have bz : ∀ x, x < 2 → xbz (nI x) = some () := fun x hx => by
    unfold xbz
    rcases (show x = 0 ∨ x = 1 by omega) with z | z
    · rw [z, if_pos (.inl rfl)]
    · rw [z, if_pos (.inr rfl)]
  obtain ⟨B, hB⟩ : ∃ B : Nat → Nat → Int32, B = fun a q => if a = 191 ∧ q = 64 then 0 else if a = 191 ∧ q < 66 then A 192 q else A a q := ⟨_, rfl⟩
  have uB : ∀ a q, a ≠ 191 → B a q = A a q := fun a q h => by rw [hB]; show (if a = 191 ∧ q = 64 then (0 : Int32) else if a = 191 ∧ q < 66 then A 192 q else A a q) = _; rw [if_neg (by omega), if_neg (by omega)]
  have B64 : B 191 64 = 0 := by rw [hB]; exact if_pos ⟨rfl, rfl⟩
  have Bk : ∀ k, k < 66 → k ≠ 64 → B 191 k = J 192 k := fun k h1 h2 => by rw [hB]; show (if 191 = 191 ∧ k = 64 then (0 : Int32) else if 191 = 191 ∧ k < 66 then A 192 k else A 191 k) = _; rw [if_neg (by omega), if_pos ⟨rfl, h1⟩]; exact uA _ _ (by omega)
  have up : ∀ n, n ≤ 16 → upN (B 191) n = upN (J 192) n := fun n => by
    induction n with
    | zero => intro _; rfl
    | succ n ih => intro h; rw [upN, upN, ih (by omega), Bk _ (by omega) (by omega)]
  obtain ⟨C, hC⟩ : ∃ C, C = xup (xup B 191 64 (nI (upN (B 191) (w * l)))) 183 29 0 := ⟨_, rfl⟩
  have uC : ∀ a q, ¬ (a = 191 ∧ q = 64) → ¬ (a = 183 ∧ q = 29) → C a q = B a q := fun a q h1 h2 => by rw [hC, xup_at, if_neg h2, xup_at, if_neg h1]
  obtain ⟨D, hD⟩ : ∃ D : Nat → Nat → Int32, D = fun a q => if a = 195 ∧ q < 3 then 0 else if a = 183 ∧ q = 32 then 0 else C a q := ⟨_, rfl⟩
  have uD : ∀ a q, a ≠ 195 → ¬ (a = 183 ∧ q = 32) → D a q = C a q := fun a q h1 h2 => by rw [hD]; show (if a = 195 ∧ q < 3 then (0 : Int32) else if a = 183 ∧ q = 32 then 0 else C a q) = _; rw [if_neg (by omega), if_neg h2]
  have e3 := gone_l (τ := τ) (J := C) hS
  rw [← hD] at e3
  rw [hC] at e3
  have e2 := pins_l hS (by rw [uB _ _ (by omega)]; exact A17) (by rw [uB _ _ (by omega)]; exact A18) hwl B64 _ e3
  rw [hB] at e2
  have e1 := rows_l hS _ e2
  have fr : ∀ a q, a ≠ 191 → a ≠ 195 → ¬ (a = 183 ∧ (q = 29 ∨ q = 32)) → D a q = A a q := fun a q h1 h2 h3 => by rw [uD a q h2 (by omega), uC a q (by omega) (by omega), uB a q h1]
  refine ⟨D, ?_, by rw [fr _ _ (by omega) (by omega) (by omega)]; exact A16, by rw [fr _ _ (by omega) (by omega) (by omega)]; exact A17, by rw [fr _ _ (by omega) (by omega) (by omega)]; exact A18, by rw [fr _ _ (by omega) (by omega) (by omega)]; exact A19, by rw [fr _ _ (by omega) (by omega) (by omega)]; exact A20, fun k h1 h2 => by rw [uD _ _ (by omega) (by omega), uC _ _ (by omega) (by omega)]; exact Bk k h1 h2, ?_, ?_, fun i hi => ?_, ?_, fun a q h1 h2 h3 => by rw [fr a q h1 h2 (by omega)]; exact uA a q (by omega)⟩
  · unfold f_X12_read_j144
    have g1 : xup J 183 16 p 183 12 = 0 := by rw [xup_at, if_neg (by omega)]; exact h12
    have g2 : xup J 183 16 p 183 14 = 0 := by rw [xup_at, if_neg (by omega)]; exact h14
    have g3 : xup J 183 16 p 183 22 = nI w := by rw [xup_at, if_neg (by omega)]; exact h22
    have g4 : xup (xup J 183 16 p) 183 17 (nI w) 183 23 = nI l := by rw [xup_at, if_neg (by omega), xup_at, if_neg (by omega)]; exact h23
    have g5 : xup (xup (xup J 183 16 p) 183 17 (nI w)) 183 18 (nI l) 183 24 = nI rA := by rw [xup_at, if_neg (by omega), xup_at, if_neg (by omega), xup_at, if_neg (by omega)]; exact h24
    have g6 : xup (xup (xup (xup J 183 16 p) 183 17 (nI w)) 183 18 (nI l)) 183 19 (nI rA) 183 25 = nI rL := by rw [xup_at, if_neg (by omega), xup_at, if_neg (by omega), xup_at, if_neg (by omega), xup_at, if_neg (by omega)]; exact h25
    rw [kP183 hS, Option.bind_some, kG183 hS, Option.bind_some, g1, if_pos (by decide), kG183 hS, Option.bind_some, g2, if_pos (by decide), kG183 hS, Option.bind_some, g3, kP183 hS, Option.bind_some, kG183 hS, Option.bind_some, g4, kP183 hS, Option.bind_some, kG183 hS, Option.bind_some, g5, bz rA hA, Option.bind_some, kP183 hS, Option.bind_some, kG183 hS, Option.bind_some, g6, bz rL hL, Option.bind_some, kP183 hS, Option.bind_some, ← hA', e1]
  · rw [uD _ _ (by omega) (by omega), hC, xup_at, if_neg (by omega), xup_at, if_pos ⟨rfl, rfl⟩, up _ hwl]
  · rw [uD _ _ (by omega) (by omega), hC, xup_at, if_pos ⟨rfl, rfl⟩]
  · rw [hD]; exact if_pos ⟨rfl, hi⟩
  · rw [hD]
    show (if 183 = 195 ∧ 32 < 3 then (0 : Int32) else if 183 = 183 ∧ 32 = 32 then 0 else C 183 32) = 0
    rw [if_neg (by omega), if_pos ⟨rfl, rfl⟩]
/-- what the model's reading may touch, whatever it reads -/
def sRM (a q : Nat) : Prop := (185 ≤ a ∧ a ≤ 188) ∨ a = 192 ∨ (a = 183 ∧ (q = 2 ∨ q = 4 ∨ (10 ≤ q ∧ q ≤ 16) ∨ (22 ≤ q ∧ q ≤ 25)))
theorem dl_0 : ∀ k, k < 16 → k ≠ 5 → dl 0 k = none := by decide
theorem dl_1 : ∀ k, k < 16 → k ≠ 2 → dl 1 k = none := by decide
theorem dl_2 : ∀ k, k < 16 → k ≠ 2 → dl 2 k = none := by decide
theorem dl_3 : ∀ k, k < 16 → k ≠ 4 → dl 3 k = none := by decide
theorem read_103 (hS : Shp τ) {N : Nat} (hm : m ≤ 2000) (h10 : J0 183 10 = nI N) (hN : TN J0 b m N) (h14 : J0 183 14 = 0) (hF : GF J0 J) (h : ((∃ n, cutR b m n 0 0) ∧ J 183 12 = 0) ∨ GB J b m) : ∃ r J', f_X12_read_j103 (xw τ J) 183 = some (nI r, xw τ J') ∧ ((((∃ n pl, cutR b m n r pl ∧ 0 < r ∧ r < 3 ∧ J' 183 16 = nI pl) ∨ ∃ T j, cutR b m T 0 0 ∧ fFT b m T = some (r, j) ∧ J' 183 16 = nI (tSt b m j)) ∧ ∀ a q, ¬ (a = 192 ∨ (a = 183 ∧ ((11 ≤ q ∧ q ≤ 16) ∨ (22 ≤ q ∧ q ≤ 25)))) → J' a q = J0 a q) ∨ ∃ T, cutR b m T 0 0 ∧ fFT b m T = none ∧ r = 0 ∧ J' 183 16 = -1 ∧ J' 183 17 = nI (tNu b m 1) ∧ J' 183 18 = nI (tNu b m 2) ∧ J' 183 19 = nI (rgN b m T % 2) ∧ J' 183 20 = nI (rgN b m T / 2) ∧ (∀ i, i < 16 → J' 191 i = iI ((tII b m i T).getD (aLL b m 6 T)) ∧ J' 191 (16 + i) = iI ((tII b m (16 + i) T).getD (aLL b m 7 T)) ∧ J' 191 (32 + i) = iI ((pUU b m i T).getD (aLL b m 8 T)) ∧ J' 191 (48 + i) = nI (pII b m i T)) ∧ (∃ u, J' 191 64 = nI u ∧ ∀ i, u.testBit i = (decide (i < tNu b m 1 * tNu b m 2) && decide (pII b m i T = 1))) ∧ J' 191 65 = nI (sDD b m T) ∧ J' 183 29 = 0 ∧ (∀ i, i < 3 → J' 195 i = 0) ∧ J' 183 32 = 0 ∧ ∀ a q, ¬ (a = 192 ∨ a = 191 ∨ a = 195 ∨ (a = 183 ∧ ((11 ≤ q ∧ q ≤ 20) ∨ (22 ≤ q ∧ q ≤ 25) ∨ q = 29 ∨ q = 32))) → J' a q = J0 a q) := by
  have bad : ∀ (J1 : Nat → Nat → Int32) (r : Nat) (p : Int32), 0 < r → r < 100 → J1 183 12 = nI r → J1 183 13 = p → f_X12_read_j114 (xw τ J1) 183 = some (nI r, xw τ (xup J1 183 16 p)) := fun J1 r p r0 r1 a1 a2 => by
    have q : (nI r ≤ 0) = False := by rw [show (0 : Int32) = nI 0 from rfl, nn_le (by omega) (by omega)]; exact eq_false (by omega)
    have g1 : xup J1 183 16 p 183 12 = nI r := by rw [xup_at, if_neg (by omega)]; exact a1
    unfold f_X12_read_j114
    rw [kG183 hS, Option.bind_some, a1, if_neg (by rw [q]; exact id), kG183 hS, Option.bind_some, a2]
    unfold f_X12_read_j144
    rw [kP183 hS, Option.bind_some, kG183 hS, Option.bind_some, g1, if_neg (by rw [q]; exact id), Option.bind_some]
  rcases h with ⟨⟨T, hT⟩, h12⟩ | ⟨n, r, pl, r0, r3, hc, h12, h13⟩
  · have ok := OKT_of hT
    have T400 := ok.2.1
    have hNT : N = T + 1 := by
      rcases Nat.lt_trichotomy N (T + 1) with z | z | z
      · exfalso
        rcases hN.2.2.2.2 with y | y
        · omega
        · obtain ⟨v, -, v2, -⟩ := ws_pre T 4 ok.1 (N - 1) (by have := hN.2.1; omega)
          exact v2 y
      · exact z
      · exact absurd ok.2.2 (hN.2.2.2.1 T (by omega))
    have hB : MB J b m T := ⟨ok, fun k hk => by
      have := hN.2.2.1 k (by omega)
      rw [hF _ _ (by omega), hF _ _ (by omega), hF _ _ (by omega)]; exact this, by rw [hF _ _ (by omega), h10, hNT], h12, hm⟩
    have j14 : J 183 14 = 0 := by rw [hF _ _ (by omega)]; exact h14
    obtain ⟨G, g1, g2, g3, g4, g5, g6, g7⟩ := means_ok (τ := τ) hS hB j14
    have st : ∀ z, f_X12_read_j114 (xw τ G) 183 = z → f_X12_read_j103 (xw τ J) 183 = z := fun z hz => by
      unfold f_X12_read_j103
      rw [kG183 hS, Option.bind_some, h12, if_pos rfl, xw_ck, kC183 hS, Option.bind_some, g1, Option.bind_some, hz]
    have G12 : G 183 12 = 0 := by rw [g2 _ _ (by omega) (by omega)]; exact h12
    have fG : ∀ a q, ¬ (a = 192 ∨ (a = 183 ∧ ((11 ≤ q ∧ q ≤ 15) ∨ (22 ≤ q ∧ q ≤ 25)))) → G a q = J0 a q := fun a q h => by rw [g2 a q (by omega) (by omega)]; exact hF a q (by omega)
    rcases g7 with ⟨f0, f14, fr⟩ | ⟨x, i, f0, f14, f15⟩
    · have f0' := f0
      unfold fFT at f0'
      have sz := (fF_none T f0').1
      have hg := sz_in (b := b) (m := m) (T := T) sz
      have h16 := (gAll_b _ hg).2.2.1
      have h16 : tNu b m 1 * tNu b m 2 ≤ 16 := h16
      have rb := rgN_b b m T
      obtain ⟨D, d1, d2, d3, d4, d5, d6, d7, d8, d9, d10, d11, d12⟩ := set_ok (τ := τ) (J := G) (p := -1) hS G12 f14 g3 g4 g5 g6 (by omega) (by omega) h16
      refine ⟨0, D, st _ ?_, .inr ⟨T, hT, f0, rfl, d2, d3, d4, d5, d6, fun i hi => ?_, ⟨_, d8, fun i => ?_⟩, ?_, d9, d10, d11, fun a q h => by rw [d12 a q (by omega) (by omega) (by omega)]; exact fG a q (by omega)⟩⟩
      · unfold f_X12_read_j114
        rw [kG183 hS, Option.bind_some, G12, if_pos (by decide), kG183 hS, Option.bind_some, f14, if_pos (by decide), d1]
        rfl
      · rw [d7 _ (by omega) (by omega), d7 _ (by omega) (by omega), d7 _ (by omega) (by omega), d7 _ (by omega) (by omega)]
        exact fr.1 i hi
      · rw [upN_bit]
        by_cases hi : i < tNu b m 1 * tNu b m 2
        · have pb := (pi_b (b := b) (m := m) (T := T) (i := i) f0').1
          rw [(fr.1 i (by omega)).2.2.2]
          have : (nI (pII b m i T) = (1 : Int32)) = (pII b m i T = 1) := nn_eq (b := 1) (by omega) (by decide)
          simp only [this]
        · rw [decide_eq_false hi, Bool.false_and, Bool.false_and]
      · rw [d7 _ (by omega) (by omega)]; exact fr.2.2
    · have f0' := f0
      unfold fFT at f0'
      have xs := ff_in ok f0'
      have q : (nI x ≤ 0) = False := by rw [show (0 : Int32) = nI 0 from rfl, nn_le (by omega) (by omega)]; exact eq_false (by omega)
      refine ⟨x, xup G 183 16 (nI (tSt b m i)), st _ ?_, .inl ⟨.inr ⟨T, i, hT, f0, by rw [xup_at, if_pos ⟨rfl, rfl⟩]⟩, fun a q h => by rw [xup_at, if_neg (by omega)]; exact fG a q (by omega)⟩⟩
      have e1 : xup G 183 16 (nI (tSt b m i)) 183 12 = 0 := by rw [xup_at, if_neg (by omega)]; exact G12
      have e2 : xup G 183 16 (nI (tSt b m i)) 183 14 = nI x := by rw [xup_at, if_neg (by omega)]; exact f14
      unfold f_X12_read_j114
      rw [kG183 hS, Option.bind_some, G12, if_pos (by decide), kG183 hS, Option.bind_some, f14, if_neg (by rw [q]; exact id), kG183 hS, Option.bind_some, f15]
      unfold f_X12_read_j144
      rw [kP183 hS, Option.bind_some, kG183 hS, Option.bind_some, e1, if_pos (by decide), kG183 hS, Option.bind_some, e2, if_neg (by rw [q]; exact id), Option.bind_some]
  · refine ⟨r, xup J 183 16 (nI pl), ?_, .inl ⟨.inl ⟨n, pl, hc, r0, r3, by rw [xup_at, if_pos ⟨rfl, rfl⟩]⟩, fun a q h => by rw [xup_at, if_neg (by omega)]; exact hF a q (by omega)⟩⟩
    unfold f_X12_read_j103
    rw [kG183 hS, Option.bind_some, h12, if_neg (nI_ne0 (by omega) (by omega))]
    exact bad J r _ r0 (by omega) h12 h13
end RD
