def xs0 : XS := (fun _ => (99, 0), fun _ _ => 0, fun _ _ => 0, fun _ _ => 0, 0, 0)
def xtm : Nat → Term := fun i => Term.string RX8 (xsi i)
def xpx : List (List Nat) := [[35, 36, 37, 38, 39, 40, 41, 42, 43], [44, 45, 46, 47, 48, 49, 50, 51, 52, 53], [55, 56, 57, 58, 59, 60, 61, 62, 63], [66, 67, 68, 69, 70, 71, 72, 73, 74], [78, 79, 80, 81, 82, 83, 84, 85], [90, 91, 92, 93, 94, 95, 96], [102, 103, 104, 105, 106, 107, 108, 109], [116, 117, 118, 119, 120, 121, 122], [130, 131, 132, 133, 134, 135], [144, 145, 146, 147, 148, 149, 150, 151], [161, 162, 163, 164, 165, 166, 167, 168]]
def xpn : List (List Nat) := [[0, 54, 64, 75, 86, 97, 110, 123, 136, 152, 169], [0, 0, 65, 76, 87, 98, 111, 124, 137, 153, 170], [0, 0, 0, 77, 88, 99, 112, 125, 138, 154, 171], [0, 0, 0, 0, 89, 100, 113, 126, 139, 155, 172], [0, 0, 0, 0, 0, 101, 114, 127, 140, 156, 173], [0, 0, 0, 0, 0, 0, 115, 128, 141, 157, 174], [0, 0, 0, 0, 0, 0, 0, 129, 142, 158, 175], [0, 0, 0, 0, 0, 0, 0, 0, 143, 159, 176], [0, 0, 0, 0, 0, 0, 0, 0, 0, 160, 177], [0, 0, 0, 0, 0, 0, 0, 0, 0, 0, 178], [0, 0, 0, 0, 0, 0, 0, 0, 0, 0, 0]]
set_option maxRecDepth 100000 in
theorem xnar_ex : ∀ i, i < 11 → Cond.exactly (xtm i) "java/lang/String" ∈ flatC (Jvm.Cond.and given_1 narrow_1) := fun i hi => List.mem_of_getElem? ((show ∀ i, i < 11 → (flatC (Jvm.Cond.and given_1 narrow_1))[(xpx.getD i []).getD 0 0]? = some (Cond.exactly (xtm i) "java/lang/String") by decide +kernel) i hi)
set_option maxRecDepth 100000 in
theorem xnar_co : ∀ i, i < 11 → Cond.eq (.field (xtm i) "java/lang/String" "coder" "B") (.int 0) ∈ flatC (Jvm.Cond.and given_1 narrow_1) := fun i hi => List.mem_of_getElem? ((show ∀ i, i < 11 → (flatC (Jvm.Cond.and given_1 narrow_1))[(xpx.getD i []).getD 1 0]? = some (Cond.eq (.field (xtm i) "java/lang/String" "coder" "B") (.int 0)) by decide +kernel) i hi)
set_option maxRecDepth 100000 in
theorem xnar_ar : ∀ i, i < 11 → Cond.arrayOf (.field (xtm i) "java/lang/String" "value" "[B") .byte ∈ flatC (Jvm.Cond.and given_1 narrow_1) := fun i hi => List.mem_of_getElem? ((show ∀ i, i < 11 → (flatC (Jvm.Cond.and given_1 narrow_1))[(xpx.getD i []).getD 2 0]? = some (Cond.arrayOf (.field (xtm i) "java/lang/String" "value" "[B") .byte) by decide +kernel) i hi)
set_option maxRecDepth 100000 in
theorem xnar_le : ∀ i, i < 11 → Cond.eq (.length (.field (xtm i) "java/lang/String" "value" "[B")) (.int (Int32.ofNat (xsl.getD i 0))) ∈ flatC (Jvm.Cond.and given_1 narrow_1) := fun i hi => List.mem_of_getElem? ((show ∀ i, i < 11 → (flatC (Jvm.Cond.and given_1 narrow_1))[(xpx.getD i []).getD 3 0]? = some (Cond.eq (.length (.field (xtm i) "java/lang/String" "value" "[B")) (.int (Int32.ofNat (xsl.getD i 0)))) by decide +kernel) i hi)
set_option maxRecDepth 100000 in
theorem xnar_el : ∀ i, i < 11 → ∀ j, j < xsl.getD i 0 → Cond.eq (.elem (.field (xtm i) "java/lang/String" "value" "[B") (.int (Int32.ofNat j))) (.int ((xsb.getD i []).getD j 0)) ∈ flatC (Jvm.Cond.and given_1 narrow_1) := fun i hi j hj => List.mem_of_getElem? ((show ∀ i, i < 11 → ∀ j, j < xsl.getD i 0 → (flatC (Jvm.Cond.and given_1 narrow_1))[(xpx.getD i []).getD (j + 4) 0]? = some (Cond.eq (.elem (.field (xtm i) "java/lang/String" "value" "[B") (.int (Int32.ofNat j))) (.int ((xsb.getD i []).getD j 0))) by decide +kernel) i hi j hj)
set_option maxRecDepth 100000 in
theorem xnar_nn : ∀ i, i < 11 → ∀ j, j < 11 → i < j → (flatC (Jvm.Cond.and given_1 narrow_1))[(xpn.getD i []).getD j 0]? = some (Cond.not (Cond.eq (xtm i) (xtm j))) := by decide +kernel
theorem xnar_ne : ∀ i, i < 11 → ∀ j, j < 11 → i ≠ j → Cond.not (Cond.eq (xtm i) (xtm j)) ∈ flatC (Jvm.Cond.and given_1 narrow_1) ∨ Cond.not (Cond.eq (xtm j) (xtm i)) ∈ flatC (Jvm.Cond.and given_1 narrow_1) := fun i hi j hj hne => by
  rcases Nat.lt_or_gt_of_ne hne with z | z
  · exact Or.inl (List.mem_of_getElem? (xnar_nn i hi j hj z))
  · exact Or.inr (List.mem_of_getElem? (xnar_nn j hj i hi z))
set_option maxRecDepth 100000 in
theorem xnar_cs : Cond.eq (Term.static "java/lang/String" "COMPACT_STRINGS" "Z") (.int 1) ∈ flatC (Jvm.Cond.and given_1 narrow_1) := by decide +kernel
set_option maxRecDepth 100000 in
theorem xnar_si : Cond.isRef (Term.static "jdk/internal/util/Preconditions" "SIOOBE_FORMATTER" "Ljava/util/function/BiFunction;") ∈ flatC (Jvm.Cond.and given_1 narrow_1) := by decide +kernel
theorem qt_ls1 : Cond.laysStatic "java/lang/String" "COMPACT_STRINGS" "Z" ∈ lw_tbl := List.mem_append_right _ (tp_3 (List.mem_of_getElem? (i := 30) rfl))
theorem qt_ls2 : Cond.laysStatic "jdk/internal/util/Preconditions" "SIOOBE_FORMATTER" "Ljava/util/function/BiFunction;" ∈ lw_tbl := List.mem_append_right _ (tp_3 (List.mem_of_getElem? (i := 46) rfl))
theorem qt_ao1 : Cond.arrayOver (.object RX6) ∈ lw_tbl := List.mem_append_right _ (tp_1 (List.mem_of_getElem? (i := 219) rfl))
theorem qt_ao2 : Cond.arrayOver (.object RX7) ∈ lw_tbl := List.mem_append_right _ (tp_1 (List.mem_of_getElem? (i := 233) rfl))
theorem qt_st0 : Cond.stringRef RX8 (xsi 0) (xst 0) ∈ lw_tbl := List.mem_append_right _ (tp_3 (List.mem_of_getElem? (i := 16) rfl))
theorem qt_st1 : Cond.stringRef RX8 (xsi 1) (xst 1) ∈ lw_tbl := List.mem_append_right _ (tp_3 (List.mem_of_getElem? (i := 69) rfl))
theorem qt_st2 : Cond.stringRef RX8 (xsi 2) (xst 2) ∈ lw_tbl := List.mem_append_right _ (tp_3 (List.mem_of_getElem? (i := 70) rfl))
theorem qt_st3 : Cond.stringRef RX8 (xsi 3) (xst 3) ∈ lw_tbl := List.mem_append_right _ (tp_3 (List.mem_of_getElem? (i := 71) rfl))
theorem qt_st4 : Cond.stringRef RX8 (xsi 4) (xst 4) ∈ lw_tbl := List.mem_append_right _ (tp_3 (List.mem_of_getElem? (i := 72) rfl))
theorem qt_st5 : Cond.stringRef RX8 (xsi 5) (xst 5) ∈ lw_tbl := List.mem_append_right _ (tp_3 (List.mem_of_getElem? (i := 73) rfl))
theorem qt_st6 : Cond.stringRef RX8 (xsi 6) (xst 6) ∈ lw_tbl := List.mem_append_right _ (tp_3 (List.mem_of_getElem? (i := 74) rfl))
theorem qt_st7 : Cond.stringRef RX8 (xsi 7) (xst 7) ∈ lw_tbl := List.mem_append_right _ (tp_3 (List.mem_of_getElem? (i := 75) rfl))
theorem qt_st8 : Cond.stringRef RX8 (xsi 8) (xst 8) ∈ lw_tbl := List.mem_append_right _ (tp_3 (List.mem_of_getElem? (i := 76) rfl))
theorem qt_st9 : Cond.stringRef RX8 (xsi 9) (xst 9) ∈ lw_tbl := List.mem_append_right _ (tp_3 (List.mem_of_getElem? (i := 77) rfl))
theorem qt_st10 : Cond.stringRef RX8 (xsi 10) (xst 10) ∈ lw_tbl := List.mem_append_right _ (tp_3 (List.mem_of_getElem? (i := 78) rfl))
theorem qt_st : ∀ i, i < 11 → Cond.stringRef RX8 (xsi i) (xst i) ∈ lw_tbl := fun i hi => by
  rcases (by omega : i = 0 ∨ i = 1 ∨ i = 2 ∨ i = 3 ∨ i = 4 ∨ i = 5 ∨ i = 6 ∨ i = 7 ∨ i = 8 ∨ i = 9 ∨ i = 10) with rfl | rfl | rfl | rfl | rfl | rfl | rfl | rfl | rfl | rfl | rfl
  · exact qt_st0
  · exact qt_st1
  · exact qt_st2
  · exact qt_st3
  · exact qt_st4
  · exact qt_st5
  · exact qt_st6
  · exact qt_st7
  · exact qt_st8
  · exact qt_st9
  · exact qt_st10
theorem xgood_tbl {w : Cond} (h : w ∈ lw_good) : w ∈ lw_tbl := (List.mem_filter.mp h).1
theorem xnest_tbl {w : Cond} (h : w ∈ lw_nest) : w ∈ lw_tbl := (List.mem_filter.mp h).1
theorem xstatic_of {args : Array Value} {s : State} (h : (Cond.eq (Term.static "java/lang/String" "COMPACT_STRINGS" "Z") (.int 1)).before args s = true) : (Term.static "java/lang/String" "COMPACT_STRINGS" "Z").eval args s none [] s = some (.int 1) := by
  obtain ⟨w, h1, h2⟩ := Cond.eq_one (show (Cond.eq (Term.static "java/lang/String" "COMPACT_STRINGS" "Z") (.int 1)).holds args s none s [] = true from h)
  rw [h1]
  have h3 : (Term.int 1).eval args s none [] s = some (.int 1) := rfl
  exact (h2.symm.trans h3)
set_option maxHeartbeats 4000000 in
set_option maxRecDepth 100000 in
/-- the tables and what lies below, at the law's entry -/
theorem xk_start {s : State} {b : Nat} (hts : ∀ w ∈ lw_tbl, w.before #[Value.ref b] s = true) (hgv : (Jvm.Cond.and given_1 narrow_1).before #[Value.ref b] s = true) (hb : Nat) (hhb : s.heap.size = hb + 1) : ∃ E : XD, XK E hb s := by
  have hg : ∀ w ∈ lw_good, w.before #[Value.ref b] s = true := fun w hw => hts w (xgood_tbl hw)
  have hfl := flat_of_before _ hgv
  obtain ⟨c0, i0, hK0⟩ := u_known (C := RX0) (T := TX0) (N := 4) (n := 4) hg inX0 (hg _ q312)
  obtain ⟨c1, i1, hK1⟩ := u_known (C := RX1) (T := TX1) (N := 13) (n := 13) hg inX1 (hg _ q31)
  obtain ⟨c2, i2, hK2⟩ := u_known (C := RX2) (T := TX2) (N := 6) (n := 6) hg inX2 (hg _ q257)
  obtain ⟨c3, i3, hK3⟩ := u_known (C := RX3) (T := TX3) (N := 8) (n := 8) hg inX3 (hg _ q168)
  obtain ⟨c4, i4, hK4⟩ := u_known (C := RX4) (T := TX4) (N := 6) (n := 6) hg inX4 (hg _ q283)
  obtain ⟨c5, i5, hK5⟩ := u_known (C := RX5) (T := TX5) (N := 3) (n := 3) hg inX5 (hg _ q213)
  obtain ⟨c6, i6, hK6⟩ := u_known (C := RX6) (T := TX6) (N := 8) (n := 8) hg inX6 (hg _ q79)
  obtain ⟨c7, i7, hK7⟩ := u_known (C := RX7) (T := TX7) (N := 4) (n := 4) hg inX7 (hg _ q234)
  obtain ⟨c8, i8, hK8⟩ := u_known (C := RX8) (T := TX8) (N := 10) (n := 10) hg inX8 (hg _ q37)
  obtain ⟨c9, i9, hK9⟩ := u_known (C := RX9) (T := TX9) (N := 11) (n := 11) hg inX9 (hg _ q332)
  obtain ⟨c10, i10, hK10⟩ := u_known (C := RX10) (T := TX10) (N := 3) (n := 3) hg inX10 (hg _ q374)
  obtain ⟨c11, i11, hK11⟩ := u_known (C := RX11) (T := TX11) (N := 16) (n := 16) hg inX11 (hg _ q23)
  obtain ⟨c12, i12, hK12⟩ := u_known (C := RX12) (T := TX12) (N := 45) (n := 45) hg inX12 (hg _ q1253)
  obtain ⟨dC, dI, hKc⟩ : ∃ (dC : Nat → ClassId) (dI : Nat → Nat → Nat), ∀ (k : Nat) (q : vw_C), xcl[k]? = some q → u_Kn s q.1 q.2.1 q.2.2 (dC k) (dI k) := by
    refine ⟨fun k => [c0, c1, c2, c3, c4, c5, c6, c7, c8, c9, c10, c11, c12].getD k c0, fun k => [i0, i1, i2, i3, i4, i5, i6, i7, i8, i9, i10, i11, i12].getD k i0, ?_⟩
    intro k q hq
    match k, hq with
    | 0, hq => cases hq; exact hK0
    | 1, hq => cases hq; exact hK1
    | 2, hq => cases hq; exact hK2
    | 3, hq => cases hq; exact hK3
    | 4, hq => cases hq; exact hK4
    | 5, hq => cases hq; exact hK5
    | 6, hq => cases hq; exact hK6
    | 7, hq => cases hq; exact hK7
    | 8, hq => cases hq; exact hK8
    | 9, hq => cases hq; exact hK9
    | 10, hq => cases hq; exact hK10
    | 11, hq => cases hq; exact hK11
    | 12, hq => cases hq; exact hK12
    | k + 13, hq => simp [xcl] at hq
  have arr : ∀ {ty : FieldType}, (Cond.arrayClass ty).before #[Value.ref b] s = true → ∃ cA : ClassId, ArrOfT s cA ty ∧ s.vm.findClass ("[" ++ ty.toString) = some cA := fun {ty} h => by
    obtain ⟨cA, kA, comp, h1, h2, h3⟩ := Cond.arrayClass_spec h
    exact ⟨cA, fun n z => ⟨fun k h => (by cases h), kA, h2, comp, h3⟩, h1⟩
  have arq : ∀ {n : String}, (Cond.arrayOver (.object n)).before #[Value.ref b] s = true → ∃ cA : ClassId, ArrOfT s cA (.object n) ∧ va_RA s cA (.object n) := fun {n} h => by
    obtain ⟨comp, cA, kA, h1, h2, h3, h4, h5⟩ := Cond.arrayOver_spec h
    exact ⟨cA, fun n z => ⟨fun k h => (by cases h), kA, h3, comp, h4⟩, kA, comp, h3, h4, h1, h5⟩
  obtain ⟨a0, ha0, hr0⟩ := arr (hg _ q77)
  obtain ⟨a1, ha1, hr1⟩ := arr (hg _ q76)
  obtain ⟨a2, ha2, hr2⟩ := arr (hg _ q1401)
  obtain ⟨a3, ha3, hr3⟩ := arr (hg _ q372)
  obtain ⟨a4, ha4, hr4⟩ := arq (hts _ qt_ao1)
  obtain ⟨a5, ha5, hr5⟩ := arq (hts _ qt_ao2)
  have hA : ∀ a : Nat, a < s.heap.size → ¬ xA hb a := fun a h q => by
    have : hb < a := q
    omega
  obtain ⟨adK, adV, hS, hev⟩ := vk_Sof (args := #[Value.ref b]) (s := s) (N := 11) (tm := xtm) (len := xsl) (byt := xsb) (A := xA hb) xtxt_small (fun i hi => hfl _ (xnar_ex i hi)) (fun i hi => hfl _ (xnar_co i hi)) (fun i hi => hfl _ (xnar_ar i hi)) (fun i hi => hfl _ (xnar_le i hi)) (fun i hi j hj => hfl _ (xnar_el i hi j hj)) (fun i j hi hj hne => (xnar_ne i hi j hj hne).elim (fun h => Or.inl (hfl _ h)) (fun h => Or.inr (hfl _ h))) hA
  refine ⟨((dC, dI), (fun k => [a0, a1, a2, a3, a4, a5].getD (k - 20) a0), adK, adV), ⟨hKc, ?_⟩, fun w hw => ?_, ⟨va_AO.of (hts _ qt_ao1), va_AO.of (hts _ qt_ao2)⟩, fun i hi => vk_R.of (hts _ (qt_st i hi)) (hev i hi), hS, va_Zof (hts _ qt_ls1) (hg _ q15) (xstatic_of (hfl _ xnar_cs)) hA, va_Zqof (hts _ qt_ls2) (hg _ q17) (hfl _ xnar_si) hA⟩
  · intro k q hq
    match k, hq with
    | 0, hq => cases hq; exact ⟨ha0, hr0⟩
    | 1, hq => cases hq; exact ⟨ha1, hr1⟩
    | 2, hq => cases hq; exact ⟨ha2, hr2⟩
    | 3, hq => cases hq; exact ⟨ha3, hr3⟩
    | 4, hq => cases hq; exact ⟨ha4, hr4⟩
    | 5, hq => cases hq; exact ⟨ha5, hr5⟩
    | k + 6, hq => simp [xtys] at hq
  · have h1 := hts w (xnest_tbl hw)
    have h2 := (List.mem_filter.mp hw).2
    cases w <;> first | exact va_Nw.of rfl h1 | (simp [xisN] at h2)
/-- THE LAW out of its meaning -/
def XLaw : Prop := ∀ (L : Nat) (xs : Nat → Int32), L ≤ 3072 → ∃ τ : XS, f_L_law L xs xs0 = some (1, τ) ∧ xn τ ≤ 600000 ∧ xz τ ≤ 7302250
theorem xroom_c : room_1.cells = 600000 := rfl
theorem xroom_s : room_1.slots = 7302250 := rfl
theorem x_law_G {G : XG} {b L : Nat} {xs : Nat → Int32} {τ : XS} (C : XC G cL_law RL (some .boolean) 4 13 468) (hS : XScr G b L xs) (hQ : gQ G = lw_Z (gb G) #[Value.ref b] (gs G)) (hf : f_L_law L xs xs0 = some (1, τ)) (hn : xn τ ≤ 600000) (hz : xz τ ≤ 7302250) {ls : Array Slot} (hl : lv_has ls (gL G) [(0, .ref b)]) : gW G (gs G).heap [] 0 0 (F0 (gm G) 0 ls []) := by
  have hR := hS.2.2.2.2.2.1
  have h0 := hS.2.2.2.2.2.2.1
  have h1 := hS.2.2.2.2.2.2.2
  have hU : XUp G τ := by
    unfold XUp
    rw [hR, h0, h1, xroom_c, xroom_s, Nat.zero_add, Nat.zero_add]
    exact ⟨hn, hz⟩
  have hX0 : xn xs0 = 0 := rfl
  have hZ0 : xz xs0 = 0 := rfl
  have hLm : XLim G xs0 := by
    unfold XLim
    rw [hX0, hZ0, h0, h1]
    exact ⟨⟨Nat.le_refl _, Nat.le_refl _⟩, Nat.zero_le _, Nat.zero_le _⟩
  have hP : XP (gE G) (gB G) xs0 (gs G).heap := by
    refine ⟨by rw [hX0]; exact hS.2.2.2.2.1, fun _ _ => rfl, fun a q1 q2 => ?_⟩
    rw [hX0] at q2
    omega
  have key := s_L_law_e C hS hf ⟨rfl, hU, hQ⟩ (gs G).heap [] ls ⟨hP, va_S.rf, hLm⟩ hl
  rw [hX0, hZ0, h0, h1] at key
  exact key
theorem x_start (hlaw : XLaw) {p : Program} {e : Env} {s : State} {m : MethodId} {below : List Frame} {meth : Method} {c : Code} (l : Launch) {b L : Nat} {xs : Nat → Int32} (hL : L ≤ 3072) (C0 : lw_At p s m meth c b L xs) : W p l e room_1 s m #[Value.ref b] below meth c s.heap [] 0 0 (lw_Z below #[Value.ref b] s) (entryFrame m ([Value.ref b] : List Value).toArray 4) := by
  obtain ⟨hx, hb, hr, hml, hown, hts, hX, hbl, hlocks, hgv⟩ := id C0
  obtain ⟨τ, hf, hn, hz⟩ := hlaw L xs hL
  have hsz : s.heap.size = (s.heap.size - 1) + 1 := by omega
  obtain ⟨E, hK⟩ := xk_start hts hgv (s.heap.size - 1) hsz
  have hl := lv_entry ([.ref b]) (n := 4) (Nat.le_of_ble_eq_true rfl)
  rw [lg_entry_eq]
  have hbA : ¬ xA (s.heap.size - 1) b := fun q => by have h9 : s.heap.size - 1 < b := q; omega
  exact x_law_G (G := (p, l, e, room_1, s, m, #[Value.ref b], below, meth, c, lw_Z below #[Value.ref b] s, E, s.heap.size - 1, 4, 0, 0)) (b := b) (L := L) (xs := xs) (τ := τ) ⟨⟨rfl, rfl, rfl⟩, hx, hb, hml, hown, fun w hw => hts w (xgood_tbl hw), hK, hr, hlocks⟩ ⟨hX, hbl, hbA, rfl, hsz, rfl, rfl, rfl⟩ rfl hf hn hz hl

