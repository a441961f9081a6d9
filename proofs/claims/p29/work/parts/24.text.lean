/-! the String constants: their length, their signs, by the JDK's own code -/
section XTEXT
variable {G : XG} {cc : ByteArray} {own : String} {rt : Option FieldType} {nL fr lo pc : Nat} {lv : List (Nat × Value)} {st : List Value} {σ : XS}
def xsk (i : Nat) : Option Unit := if i < 11 then some () else none
theorem xsk_spec {i : Nat} {u : Unit} (e : xsk i = some u) : i < 11 := by
  unfold xsk at e
  by_cases h : i < 11
  · exact h
  · rw [if_neg h] at e; cases e
def xsc (i : Nat) (j : Int32) : Option Int32 := if i < 11 ∧ ¬ (j < 0 ∨ xsl.getD i 0 ≤ j.toNatClampNeg) then some ((xsb.getD i []).getD j.toNatClampNeg 0) else none
theorem xsc_spec {i : Nat} {j v : Int32} (e : xsc i j = some v) : i < 11 ∧ vp_in j (xsl.getD i 0) ∧ (xsb.getD i []).getD j.toNatClampNeg 0 = v := by
  unfold xsc at e
  by_cases h : i < 11 ∧ ¬ (j < 0 ∨ xsl.getD i 0 ≤ j.toNatClampNeg)
  · rw [if_pos h] at e; exact ⟨h.1, h.2, Option.some.inj e⟩
  · rw [if_neg h] at e; cases e
abbrev gV (G : XG) : XV (gE G) (gB G) (gs G) → XV (gE G) (gB G) (gs G) := id
theorem XC.hV (C : XC G cc own rt nL fr lo) : XV (gE G) (gB G) (gs G) := C.hK.2.2.2
theorem ww_gets (C : XC G cc own rt nL fr lo) {ix : Nat} {Cn n d : String} {v : Value} (hZ : va_Z Cn n d v (xA (gB G)) (gs G) (gs G).heap) (hlink : Cond.fieldLink own ix Cn n d ∈ lw_good) (hd : decode cc pc = .ok (.getstatic ix, 3)) (k : WW G (pc + 3) lv (v :: st) σ) : WW G pc lv st σ := fun H locs ls hJ h => va_gets C.hx C.hb hZ hJ.2.1 C.hown (C.hts _ hlink) (fun _ h => h) hd (k H locs ls hJ h)
theorem ww_skf (C : XC G cc own rt nL fr lo) {ix q : Nat} {o n d : String} {v : Value} (hE : va_OF o n d v q (xA (gB G)) (gs G) (gs G).heap) (hlink : Cond.fieldLink own ix o n d ∈ lw_good) (hd : decode cc pc = .ok (.getfield ix, 3)) (k : WW G (pc + 3) lv (v :: st) σ) : WW G pc lv (.ref q :: st) σ := fun H locs ls hJ h => vk_getf C.hx C.hb hE hJ.2.1 C.hown (C.hts _ hlink) (fun _ h => h) hd (k H locs ls hJ h)
theorem ww_tlen (C : XC G cc own rt nL fr lo) {ty : FieldType} {t N : Nat} {f : Nat → Value} (hT : va_T ty t N f (xA (gB G)) (gs G) (gs G).heap) (hd : decode cc pc = .ok (.arraylength, 1)) (k : WW G (pc + 1) lv (.int (Int32.ofNat N) :: st) σ) : WW G pc lv (.ref t :: st) σ := fun H locs ls hJ h => va_tlen C.hx C.hb hT hJ.2.1 rfl hd (k H locs ls hJ h)
theorem ww_tb (C : XC G cc own rt nL fr lo) {t N : Nat} {f : Nat → Value} {i : Int32} {v : Value} (hT : va_T .byte t N f (xA (gB G)) (gs G) (gs G).heap) (hin : vp_in i N) (hv : f i.toNatClampNeg = v) (hd : decode cc pc = .ok (.baload, 1)) (k : WW G (pc + 1) lv (v :: st) σ) : WW G pc lv (.int i :: .ref t :: st) σ := fun H locs ls hJ h => va_tb C.hx C.hb hT hJ.2.1 hin hv hd (k H locs ls hJ h)
theorem ww_ldcS (C : XC G cc own rt nL fr lo) {ix q : Nat} {tx : String} (hZ : vk_R own ix tx q (gs G)) (hd : decode cc pc = .ok (.ldc ix, 2)) (k : WW G (pc + 2) lv (.ref q :: st) σ) : WW G pc lv st σ := fun H locs ls hJ h => va_ldcS C.hx C.hb C.hown hZ hd (k H locs ls hJ h)
/-- a String is asked -/
theorem ww_callT (C : XC G cc own rt nL fr lo) {ix mL n frc loc i : Nat} {y : MethodName} {cb : ByteArray} {ret : Option FieldType} {as : List Value} {v : Int32} (hi : i < 11) (hM : XM (gl G) y cb mL ret frc loc (gE G) (gB G) (.ref ((gE G).2.2.1 i) :: as) σ (some (.int v)) σ) (hyc : y.cls = "java/lang/String") (hX : XCall own ix y cb mL n ret) (hinst : Cond.instanceMethod y ∈ lw_good) (hsel : Cond.selects y.cls y y ∈ lw_good) (hn : as.length = n) (hroom : frc + 1 ≤ fr ∧ 8 + (mL + 11) + loc ≤ lo) (hstk : (st.map fun v => v.category).sum ≤ 8) (hd : decode cc pc = .ok (.invokevirtual ix, 3)) (k : WW G (pc + 3) lv (.int v :: st) σ) : WW G pc lv (as.reverse ++ .ref ((gE G).2.2.1 i) :: st) σ := by
  obtain ⟨hlk, hcode, hini, hd1, hd2, hd3⟩ := hX
  refine ww_ofrun (a := (.ref ((gE G).2.2.1 i) :: as : List Value).toArray) (ro := some (.int v)) (fun H locs ls hJ h => ?_) ⟨Nat.le_refl _, Nat.le_refl _⟩ (fun q => q) k
  have hlen : ls.size = gL G := h.1
  have hroom2 : frc + 1 ≤ (gR G).frames ∧ 8 + (mL + 11) + loc ≤ (gR G).locals := by rw [C.hfr, C.hlo]; exact hroom
  have hp : PreV (gs G) H y.cls ((gE G).2.2.1 i) (va_Pc (.ref ((gE G).2.2.1 i) :: as) (fun U => XP (gE G) (gB G) σ U.heap ∧ XK (gE G) (gB G) U)) as := ⟨x_blind, by rw [hyc]; exact vk_recv C.hV.2.1 hi hJ.2.1, fun U hU hW => ⟨rfl, by rw [hU]; exact hJ.1, C.hK.warm hW (fun q q1 q3 => by rw [hU]; exact hJ.2.1.2.1 q q1 q3)⟩⟩
  rcases hlk with hlk | ⟨host, hlk⟩
  · exact va_runV (As := as) (rest := st) (C := y.cls) (n := n) ⟨C.hx, C.hb, C.hml, C.hown, C.hts⟩ hM ⟨callB_of n C.hts (x_good hcode) rfl rfl rfl (C.hts _ hini) (C.hts _ hlk) ⟨hd1, hd2, hd3⟩ hroom2, C.hts _ hinst, C.hts _ hsel⟩ hp rfl hn hlen rfl (lv_room hstk) hd (x_lim hJ.2.2 ⟨Nat.le_refl _, Nat.le_refl _⟩ hJ.2.2)
  · exact va_runVN (As := as) (rest := st) (C := y.cls) (n := n) ⟨C.hx, C.hb, C.hml, C.hown, C.hts⟩ hM ⟨va_cnB n C.hts (x_good hcode) rfl rfl rfl (C.hK.2.1 _ hlk) (C.hts _ hini) ⟨hd1, hd2, hd3⟩ hroom2, C.hts _ hinst, C.hts _ hsel⟩ hp rfl hn hlen rfl (lv_room hstk) hd (x_lim hJ.2.2 ⟨Nat.le_refl _, Nat.le_refl _⟩ hJ.2.2)
theorem ww_byret (C : XC G cc own (some .byte) nL fr lo) {v : Int32} (hn : narrow .byte (.int v) = .int v) (hQ : XEnd G (some (.int v)) σ) (hd : decode cc pc = .ok (.ireturn, 1)) : WW G pc lv [.int v] σ := fun H locs ls hJ h => by
  unfold gW; rw [hQ]
  exact W.zret C.hx C.hb C.hr hn (fun t ht hW => ⟨rfl, by rw [ht]; exact hJ.1, hJ.2.1.F ht⟩) hJ.2.1.2.2 hd C.hlk
theorem ww_cret (C : XC G cc own (some .char) nL fr lo) {v : Int32} (hn : narrow .char (.int v) = .int v) (hQ : XEnd G (some (.int v)) σ) (hd : decode cc pc = .ok (.ireturn, 1)) : WW G pc lv [.int v] σ := fun H locs ls hJ h => by
  unfold gW; rw [hQ]
  exact W.zret C.hx C.hb C.hr hn (fun t ht hW => ⟨rfl, by rw [ht]; exact hJ.1, hJ.2.1.F ht⟩) hJ.2.1.2.2 hd C.hlk
end XTEXT
theorem k_J0_coder {l : Launch} {E : XD} {hb : Nat} {σ : XS} {i : Nat} (hi : i < 11) : XM l yJ0_coder_7d493 cJ0_coder_7d493 1 (some .byte) 0 0 E hb [.ref (E.2.2.1 i)] σ (some (.int 0)) σ := by
  refine xm_of (by decide) (Nat.le_of_ble_eq_true rfl) ⟨Nat.le_refl _, Nat.le_refl _⟩ (fun G hG C hl hQ => ?_)
  obtain ⟨rfl, rfl, rfl, hN⟩ := hG
  refine ww_gets (pc := 0) C C.hV.2.2.1 q509 dJ0_coder_7d493_0 ?_
  refine ww_if_eq (pc := 3) (tgt := 13) C dJ0_coder_7d493_3 (by decide) (fun q => absurd q (by decide)) (fun q => ?_)
  refine ww_aload_n (pc := 6) C 0 dJ0_coder_7d493_6 rfl ?_
  refine ww_skf (pc := 7) C (C.hV.2.1.1 i hi).2.1 q1768 dJ0_coder_7d493_7 ?_
  refine ww_goto (pc := 10) (tgt := 14) C dJ0_coder_7d493_10 (by decide) ?_
  exact ww_byret (pc := 14) C rfl hQ dJ0_coder_7d493_14
theorem k_J0_isLatin1 {l : Launch} {E : XD} {hb : Nat} {σ : XS} {i : Nat} (hi : i < 11) : XM l yJ0_isLatin1_aae02 cJ0_isLatin1_aae02 1 (some .boolean) 0 0 E hb [.ref (E.2.2.1 i)] σ (some (.int 1)) σ := by
  refine xm_of (by decide) (Nat.le_of_ble_eq_true rfl) ⟨Nat.le_refl _, Nat.le_refl _⟩ (fun G hG C hl hQ => ?_)
  obtain ⟨rfl, rfl, rfl, hN⟩ := hG
  refine ww_gets (pc := 0) C C.hV.2.2.1 q509 dJ0_isLatin1_aae02_0 ?_
  refine ww_if_eq (pc := 3) (tgt := 17) C dJ0_isLatin1_aae02_3 (by decide) (fun q => absurd q (by decide)) (fun q => ?_)
  refine ww_aload_n (pc := 6) C 0 dJ0_isLatin1_aae02_6 rfl ?_
  refine ww_skf (pc := 7) C (C.hV.2.1.1 i hi).2.1 q1768 dJ0_isLatin1_aae02_7 ?_
  refine ww_if_ne (pc := 10) (tgt := 17) C dJ0_isLatin1_aae02_10 (by decide) (fun q => absurd rfl q) (fun q => ?_)
  refine ww_iconst (pc := 13) (v := (1 : Int32)) C dJ0_isLatin1_aae02_13 (by decide) ?_
  refine ww_goto (pc := 14) (tgt := 18) C dJ0_isLatin1_aae02_14 (by decide) ?_
  exact ww_zret (pc := 18) C rfl hQ dJ0_isLatin1_aae02_18
theorem xtxt_shr : ∀ i, i < 11 → (Int32.ofNat (xsl.getD i 0)) >>> ((0 : Int32) &&& 31) = Int32.ofNat (xsl.getD i 0) := by decide +kernel
theorem k_J0_length {l : Launch} {E : XD} {hb : Nat} {σ : XS} {i : Nat} (hi : i < 11) : XM l yJ0_length_8abf5 cJ0_length_8abf5 1 (some .int) 1 20 E hb [.ref (E.2.2.1 i)] σ (some (.int (Int32.ofNat (xsl.getD i 0)))) σ := by
  refine xm_of (by decide) (Nat.le_of_ble_eq_true rfl) ⟨Nat.le_refl _, Nat.le_refl _⟩ (fun G hG C hl hQ => ?_)
  obtain ⟨rfl, rfl, rfl, hN⟩ := hG
  refine ww_aload_n (pc := 0) C 0 dJ0_length_8abf5_0 rfl ?_
  refine ww_skf (pc := 1) C (C.hV.2.1.1 i hi).2.2.1 q1767 dJ0_length_8abf5_1 ?_
  refine ww_tlen (pc := 4) C (C.hV.2.1.1 i hi).2.2.2 dJ0_length_8abf5_4 ?_
  refine ww_aload_n (pc := 5) C 0 dJ0_length_8abf5_5 rfl ?_
  refine ww_callT (pc := 6) (as := []) (st := [.int (Int32.ofNat (xsl.getD i 0))]) C hi (k_J0_coder hi) rfl xc_J0_335 q506 q507 rfl (by decide) (xst4 (Nat.le_of_ble_eq_true rfl)) dJ0_length_8abf5_6 ?_
  refine ww_ishr (pc := 9) C dJ0_length_8abf5_9 ?_
  rw [xtxt_shr i hi]
  exact ww_iret (pc := 10) C hQ dJ0_length_8abf5_10
theorem k_J3_checkIndex {l : Launch} {E : XD} {hb : Nat} {σ : XS} {a b : Int32} {v : Value} (hv : v = .null ∨ ∃ t, v = .ref t) (h1 : ¬ a < 0) (h2 : a < b) : XM l yJ3_checkIndex_8e157 cJ3_checkIndex_8e157 3 (some .int) 0 0 E hb [.int a, .int b, v] σ (some (.int a)) σ := by
  refine xm_of (by decide) (by rcases hv with rfl | ⟨t, rfl⟩ <;> exact Nat.le_of_ble_eq_true rfl) ⟨Nat.le_refl _, Nat.le_refl _⟩ (fun G hG C hl hQ => ?_)
  obtain ⟨rfl, rfl, rfl, hN⟩ := hG
  refine ww_iload_n (pc := 0) C 0 dJ3_checkIndex_8e157_0 rfl ?_
  refine ww_if_lt (pc := 1) (tgt := 9) C dJ3_checkIndex_8e157_1 (by decide) (fun q => absurd q h1) (fun q => ?_)
  refine ww_iload_n (pc := 4) C 0 dJ3_checkIndex_8e157_4 rfl ?_
  refine ww_iload_n (pc := 5) C 1 dJ3_checkIndex_8e157_5 rfl ?_
  refine ww_icmp_lt (pc := 6) (tgt := 16) C dJ3_checkIndex_8e157_6 (by decide) (fun q => ?_) (fun q => absurd h2 q)
  refine ww_iload_n (pc := 16) C 0 dJ3_checkIndex_8e157_16 rfl ?_
  exact ww_iret (pc := 17) C hQ dJ3_checkIndex_8e157_17
theorem k_J0_checkIndex {l : Launch} {E : XD} {hb : Nat} {σ : XS} {a b : Int32} (h1 : ¬ a < 0) (h2 : a < b) : XM l yJ0_checkIndex_df160 cJ0_checkIndex_df160 2 none 1 22 E hb [.int a, .int b] σ none σ := by
  refine xm_of (by decide) (Nat.le_of_ble_eq_true rfl) ⟨Nat.le_refl _, Nat.le_refl _⟩ (fun G hG C hl hQ => ?_)
  obtain ⟨rfl, rfl, rfl, hN⟩ := hG
  refine ww_iload_n (pc := 0) C 0 dJ0_checkIndex_df160_0 rfl ?_
  refine ww_iload_n (pc := 1) C 1 dJ0_checkIndex_df160_1 rfl ?_
  obtain ⟨v, hv, hZ⟩ : ∃ v : Value, (v = .null ∨ ∃ t, v = .ref t) ∧ va_Z "jdk/internal/util/Preconditions" "SIOOBE_FORMATTER" "Ljava/util/function/BiFunction;" v (xA (gB G)) (gs G) (gs G).heap := by
    rcases C.hV.2.2.2 with h | ⟨t, h⟩
    · exact ⟨_, Or.inl rfl, h⟩
    · exact ⟨_, Or.inr ⟨_, rfl⟩, h⟩
  refine ww_gets (pc := 2) C hZ q525 dJ0_checkIndex_df160_2 ?_
  refine ww_callSi (pc := 5) (as := [.int a, .int b, v]) (st := []) C (k_J3_checkIndex (l := gl G) (E := gE G) (hb := gB G) (σ := σ) hv h1 h2) xc_J0_1059 q528 rfl (by decide) (xst4 (Nat.le_of_ble_eq_true rfl)) xsame.rf.le xsame.rf.lim dJ0_checkIndex_df160_5 ?_
  refine ww_pop (pc := 8) C dJ0_checkIndex_df160_8 rfl ?_
  exact ww_vret (pc := 9) C hQ dJ0_checkIndex_df160_9
theorem xtxt_ch : ∀ i, i < 11 → ∀ j, j < xsl.getD i 0 → ((((xsb.getD i []).getD j 0 &&& 255).toUInt32 % 65536).toInt32 = (xsb.getD i []).getD j 0) ∧ narrow .char (.int ((xsb.getD i []).getD j 0)) = .int ((xsb.getD i []).getD j 0) := by decide +kernel
theorem xlen_lt {j : Int32} {n : Nat} (h : vp_in j n) (hn : n < 2 ^ 31) : ¬ j < 0 ∧ j < Int32.ofNat n := by
  obtain ⟨k, hk, rfl⟩ := vp_in_of h hn
  exact ⟨nI_pos (by omega), nI_lt hk hn⟩
theorem xtxt_small : ∀ i, i < 11 → xsl.getD i 0 < 2 ^ 31 := by decide +kernel
theorem k_J1_charAt {l : Launch} {E : XD} {hb : Nat} {σ : XS} {i : Nat} {j : Int32} (hi : i < 11) (hj : vp_in j (xsl.getD i 0)) : XM l yJ1_charAt_3b067 cJ1_charAt_3b067 2 (some .char) 2 43 E hb [.ref (E.2.2.2 i), .int j] σ (some (.int ((xsb.getD i []).getD j.toNatClampNeg 0))) σ := by
  refine xm_of (by decide) (Nat.le_of_ble_eq_true rfl) ⟨Nat.le_refl _, Nat.le_refl _⟩ (fun G hG C hl hQ => ?_)
  obtain ⟨rfl, rfl, rfl, hN⟩ := hG
  obtain ⟨c1, c2⟩ := xlen_lt hj (xtxt_small i hi)
  refine ww_iload_n (pc := 0) C 1 dJ1_charAt_3b067_0 rfl ?_
  refine ww_aload_n (pc := 1) C 0 dJ1_charAt_3b067_1 rfl ?_
  refine ww_tlen (pc := 2) C (C.hV.2.1.1 i hi).2.2.2 dJ1_charAt_3b067_2 ?_
  refine ww_callSv (pc := 3) (as := [.int j, .int (Int32.ofNat (xsl.getD i 0))]) (st := []) C (k_J0_checkIndex (l := gl G) (E := gE G) (hb := gB G) (σ := σ) c1 c2) xc_J1_9 q523 rfl (by decide) (xst4 (Nat.le_of_ble_eq_true rfl)) xsame.rf.le xsame.rf.lim dJ1_charAt_3b067_3 ?_
  refine ww_aload_n (pc := 6) C 0 dJ1_charAt_3b067_6 rfl ?_
  refine ww_iload_n (pc := 7) C 1 dJ1_charAt_3b067_7 rfl ?_
  refine ww_tb (pc := 8) (v := .int ((xsb.getD i []).getD j.toNatClampNeg 0)) C (C.hV.2.1.1 i hi).2.2.2 hj rfl dJ1_charAt_3b067_8 ?_
  refine ww_sipush (pc := 9) (v := (255 : Int32)) C dJ1_charAt_3b067_9 (by decide) ?_
  refine ww_iand (pc := 12) C dJ1_charAt_3b067_12 ?_
  have hlt : j.toNatClampNeg < xsl.getD i 0 := Nat.not_le.mp fun q => hj (Or.inr q)
  obtain ⟨t1, t2⟩ := xtxt_ch i hi _ hlt
  refine ww_i2c (pc := 13) C dJ1_charAt_3b067_13 t1 ?_
  exact ww_cret (pc := 14) C t2 hQ dJ1_charAt_3b067_14
theorem k_J0_charAt {l : Launch} {E : XD} {hb : Nat} {σ : XS} {i : Nat} {j : Int32} (hi : i < 11) (hj : vp_in j (xsl.getD i 0)) : XM l yJ0_charAt_5068e cJ0_charAt_5068e 2 (some .char) 3 64 E hb [.ref (E.2.2.1 i), .int j] σ (some (.int ((xsb.getD i []).getD j.toNatClampNeg 0))) σ := by
  refine xm_of (by decide) (Nat.le_of_ble_eq_true rfl) ⟨Nat.le_refl _, Nat.le_refl _⟩ (fun G hG C hl hQ => ?_)
  obtain ⟨rfl, rfl, rfl, hN⟩ := hG
  refine ww_aload_n (pc := 0) C 0 dJ0_charAt_5068e_0 rfl ?_
  refine ww_callT (pc := 1) (as := []) (st := []) C hi (k_J0_isLatin1 hi) rfl xc_J0_492 q516 q517 rfl (by decide) (xst4 (Nat.le_of_ble_eq_true rfl)) dJ0_charAt_5068e_1 ?_
  refine ww_if_eq (pc := 4) (tgt := 16) C dJ0_charAt_5068e_4 (by decide) (fun q => absurd q (by decide)) (fun q => ?_)
  refine ww_aload_n (pc := 7) C 0 dJ0_charAt_5068e_7 rfl ?_
  refine ww_skf (pc := 8) C (C.hV.2.1.1 i hi).2.2.1 q1767 dJ0_charAt_5068e_8 ?_
  refine ww_iload_n (pc := 11) C 1 dJ0_charAt_5068e_11 rfl ?_
  refine ww_callSi (pc := 12) (as := [.ref ((gE G).2.2.2 i), .int j]) (st := []) C (k_J1_charAt (l := gl G) (E := gE G) (hb := gB G) (σ := σ) hi hj) xc_J0_495 q520 rfl (by decide) (xst4 (Nat.le_of_ble_eq_true rfl)) xsame.rf.le xsame.rf.lim dJ0_charAt_5068e_12 ?_
  have hlt : j.toNatClampNeg < xsl.getD i 0 := Nat.not_le.mp fun q => hj (Or.inr q)
  exact ww_cret (pc := 15) C (xtxt_ch i hi _ hlt).2 hQ dJ0_charAt_5068e_15
theorem xsc_k {l : Launch} {E : XD} {hb : Nat} {σ : XS} {i : Nat} {j v : Int32} (e : xsc i j = some v) : XM l yJ0_charAt_5068e cJ0_charAt_5068e 2 (some .char) 3 64 E hb [.ref (E.2.2.1 i), .int j] σ (some (.int v)) σ := by
  obtain ⟨h1, h2, rfl⟩ := xsc_spec e
  exact k_J0_charAt h1 h2
