section
noncomputable def f_X8_isLetter (x0 : Int32) : Option Int32 := if x0 < (97 : Int32) then (some (0 : Int32)) else if (122 : Int32) < x0 then (some (0 : Int32)) else some (1 : Int32)
theorem s_X8_isLetter_e {G : XG} (C : XC G cX8_isLetter RX8 (some .boolean) 1 0 0) {σ : XS} {x0 : Int32} {x : Int32} (hf : f_X8_isLetter x0 = some x) (hk : XEnd G (some (.int x)) σ) : WW G 0 [(0, .int x0)] [] σ := by
  refine ww_iload_n (pc := 0) C 0 dX8_isLetter_0 rfl ?_
  refine ww_bipush (pc := 1) (v := (97 : Int32)) C dX8_isLetter_1 (by decide) ?_
  refine ww_icmp_lt (pc := 3) (tgt := 16) C dX8_isLetter_3 (by decide) (fun q => ?_) (fun q => ?_)
  · have hf := xip q hf
    refine ww_iconst (pc := 16) (v := (0 : Int32)) C dX8_isLetter_16 (by decide) ?_
    have hf := xsj hf
    subst hf
    exact ww_zret (pc := 17) C rfl hk dX8_isLetter_17
  · have hf := xin q hf
    refine ww_iload_n (pc := 6) C 0 dX8_isLetter_6 rfl ?_
    refine ww_bipush (pc := 7) (v := (122 : Int32)) C dX8_isLetter_7 (by decide) ?_
    refine ww_icmp_gt (pc := 9) (tgt := 16) C dX8_isLetter_9 (by decide) (fun q => ?_) (fun q => ?_)
    · have hf := xip q hf
      refine ww_iconst (pc := 16) (v := (0 : Int32)) C dX8_isLetter_16 (by decide) ?_
      have hf := xsj hf
      subst hf
      exact ww_zret (pc := 17) C rfl hk dX8_isLetter_17
    · have hf := xin q hf
      refine ww_iconst (pc := 12) (v := (1 : Int32)) C dX8_isLetter_12 (by decide) ?_
      refine ww_goto (pc := 13) (tgt := 17) C dX8_isLetter_13 (by decide) ?_
      have hf := xsj hf
      subst hf
      exact ww_zret (pc := 17) C rfl hk dX8_isLetter_17
theorem k_X8_isLetter {l : Launch} {E : XD} {hb : Nat} {σ : XS} {x0 : Int32} {x : Int32} (h : f_X8_isLetter x0 = some x) : XM l yX8_isLetter cX8_isLetter 1 (some .boolean) 0 0 E hb [.int x0] σ (some (.int x)) σ := by
  refine xm_of (by decide) (Nat.le_of_ble_eq_true rfl) ⟨Nat.le_refl _, Nat.le_refl _⟩ (fun G hG C hl hQ => ?_)
  obtain ⟨rfl, rfl, rfl, hN⟩ := hG
  exact s_X8_isLetter_e C h hQ
noncomputable def f_X8_skipLetters_b0 (r0 : Nat) : XS → Option ((XS) ⊕ (XS)) := fun a => match a with
  | σ => (xgI σ r0 8 9).bind fun v2 => (xgI σ r0 8 4).bind fun v4 => if v4 ≤ v2 then ((some σ).map .inr) else (xgI σ r0 8 9).bind fun v6 => (xck σ r0 8).bind fun _ => (f_X8_byteAt σ r0 v6).bind fun v9 => (f_X8_isLetter v9).bind fun v11 => if v11 = 0 then ((some σ).map .inr) else (xgI σ r0 8 9).bind fun v13 => (xpI σ r0 8 9 (v13 + (1 : Int32))).bind fun σ15 => some (.inl σ15)
noncomputable def f_X8_skipLetters (σ : XS) (r0 : Nat) : Option XS := xloop (f_X8_skipLetters_b0 r0) σ
theorem m_X8_skipLetters_l0 {r0 : Nat} {a : XS} {x : XS} (hf : xloop (f_X8_skipLetters_b0 r0) a = some x) : xsame a x := by
  refine xloop_ind (P := fun a => xsame a x) (fun a y hf hc he => ?_) hf
  obtain ⟨σ, rfl⟩ : ∃ z, z = a := ⟨_, rfl⟩
  have hy : (∀ a' : XS, y = .inl a' → xsame σ a') ∧ (∀ b1 : XS, y = .inr b1 → xsame σ b1) := by
    have hm := xsame.rf (σ := σ)
    obtain ⟨v2, e1, hf⟩ := xbd hf
    obtain ⟨v4, e3, hf⟩ := xbd hf
    by_cases q : v4 ≤ v2
    · have hf := xip q hf
      obtain ⟨b0, hg, e9⟩ := xmj hf
      subst e9
      have hf := hg
      refine ⟨fun a' e => xnc2 e, fun b e => ?_⟩
      have h9 := Sum.inr.inj e
      subst h9
      have hf := xsj hf
      subst hf
      exact hm
    · have hf := xin q hf
      obtain ⟨v6, e5, hf⟩ := xbd hf
      obtain ⟨_, e7, hf⟩ := xbd hf
      obtain ⟨v9, e8, hf⟩ := xbd hf
      obtain ⟨v11, e10, hf⟩ := xbd hf
      by_cases q : v11 = 0
      · have hf := xip q hf
        obtain ⟨b0, hg, e9⟩ := xmj hf
        subst e9
        have hf := hg
        refine ⟨fun a' e => xnc2 e, fun b e => ?_⟩
        have h9 := Sum.inr.inj e
        subst h9
        have hf := xsj hf
        subst hf
        exact hm
      · have hf := xin q hf
        obtain ⟨v13, e12, hf⟩ := xbd hf
        obtain ⟨σ15, e14, hf⟩ := xbd hf
        have hm := hm.tr (xpI_same e14)
        have hf := xsj hf
        subst hf
        exact ⟨fun a' e => (by have h9 := Sum.inl.inj e; subst h9; exact hm), fun b e => xnc1 e⟩
  cases y with
  | inl a' =>
    have h1 := hc a' rfl
    have hm := hy.1 a' rfl
    exact hm.tr (h1)
  | inr b =>
    have h1 := he b rfl
    subst h1
    exact hy.2 _ rfl
theorem s_X8_skipLetters_l0 {G : XG} (C : XC G cX8_skipLetters RX8 none 1 1 21) {r0 : Nat} {a : XS} {x : XS} (hf : xloop (f_X8_skipLetters_b0 r0) a = some x) (hk : XEnd G none x) : WW G 0 [(0, .ref (gB G + r0))] [] a := by
  refine xloop_ind (P := fun a => WW G 0 [(0, .ref (gB G + r0))] [] a) (fun a y hf hc he => ?_) hf
  obtain ⟨σ, rfl⟩ : ∃ z, z = a := ⟨_, rfl⟩
  have hk : (∀ a' : XS, y = .inl a' → WW G 0 [(0, .ref (gB G + r0))] [] a') ∧ (∀ b1 : XS, y = .inr b1 → XEnd G none b1) := ⟨hc, fun b e => by have h9 := he b e; subst h9; exact hk⟩
  refine ww_aload_n (pc := 0) C 0 dX8_skipLetters_0 rfl ?_
  obtain ⟨v2, e1, hf⟩ := xbd hf
  refine gf_X8_32 (pc := 1) C e1 dX8_skipLetters_1 ?_
  refine ww_aload_n (pc := 4) C 0 dX8_skipLetters_4 rfl ?_
  obtain ⟨v4, e3, hf⟩ := xbd hf
  refine gf_X8_25 (pc := 5) C e3 dX8_skipLetters_5 ?_
  refine ww_icmp_ge (pc := 8) (tgt := 38) C dX8_skipLetters_8 (by decide) (fun q => ?_) (fun q => ?_)
  · have hf := xip q hf
    obtain ⟨b0, hg, e9⟩ := xmj hf
    subst e9
    have hf := hg
    have hk := hk.2 _ rfl
    have hf := xsj hf
    subst hf
    exact ww_vret (pc := 38) C hk dX8_skipLetters_38
  · have hf := xin q hf
    refine ww_aload_n (pc := 11) C 0 dX8_skipLetters_11 rfl ?_
    refine ww_aload_n (pc := 12) C 0 dX8_skipLetters_12 rfl ?_
    obtain ⟨v6, e5, hf⟩ := xbd hf
    refine gf_X8_32 (pc := 13) C e5 dX8_skipLetters_13 ?_
    obtain ⟨_, e7, hf⟩ := xbd hf
    obtain ⟨v9, e8, hf⟩ := xbd hf
    refine ww_callVi (pc := 16) (as := [.int v6]) (st := []) C (k_X8_byteAt (l := gl G) (E := gE G) (hb := gB G) (σ := σ) e8) rfl (by decide) xc_X8_55 q480 qp6 (xck_spec e7) rfl (by decide) (xst4 (Nat.le_of_ble_eq_true rfl)) xsame.rf.le xsame.rf.lim dX8_skipLetters_16 ?_
    obtain ⟨v11, e10, hf⟩ := xbd hf
    refine ww_callSi (pc := 19) (as := [.int v9]) (st := []) C (k_X8_isLetter (l := gl G) (E := gE G) (hb := gB G) (σ := σ) e10) xc_X8_63 q486 rfl (by decide) (xst4 (Nat.le_of_ble_eq_true rfl)) xsame.rf.le xsame.rf.lim dX8_skipLetters_19 ?_
    refine ww_if_eq (pc := 22) (tgt := 38) C dX8_skipLetters_22 (by decide) (fun q => ?_) (fun q => ?_)
    · have hf := xip q hf
      obtain ⟨b0, hg, e9⟩ := xmj hf
      subst e9
      have hf := hg
      have hk := hk.2 _ rfl
      have hf := xsj hf
      subst hf
      exact ww_vret (pc := 38) C hk dX8_skipLetters_38
    · have hf := xin q hf
      refine ww_aload_n (pc := 25) C 0 dX8_skipLetters_25 rfl ?_
      refine ww_dup (pc := 26) C dX8_skipLetters_26 rfl ?_
      obtain ⟨v13, e12, hf⟩ := xbd hf
      refine gf_X8_32 (pc := 27) C e12 dX8_skipLetters_27 ?_
      refine ww_iconst (pc := 30) (v := (1 : Int32)) C dX8_skipLetters_30 (by decide) ?_
      refine ww_iadd (pc := 31) C dX8_skipLetters_31 ?_
      obtain ⟨σ15, e14, hf⟩ := xbd hf
      refine pf_X8_32 (pc := 32) C e14 dX8_skipLetters_32 ?_
      refine ww_goto (pc := 35) (tgt := 0) C dX8_skipLetters_35 (by decide) ?_
      have hf := xsj hf
      subst hf
      refine ww_sub [0] rfl ?_
      exact hk.1 σ15 rfl
theorem s_X8_skipLetters_e {G : XG} (C : XC G cX8_skipLetters RX8 none 1 1 21) {σ : XS} {r0 : Nat} {x : XS} (hf : f_X8_skipLetters σ r0 = some x) (hk : XEnd G none x) : WW G 0 [(0, .ref (gB G + r0))] [] σ := by
  refine ww_sub [0] rfl ?_
  exact s_X8_skipLetters_l0 C (a := σ) hf hk
theorem m_X8_skipLetters {σ : XS} {r0 : Nat} {x : XS} (hf : f_X8_skipLetters σ r0 = some x) : xsame σ x := by
  have hm := xsame.rf (σ := σ)
  exact hm.tr (m_X8_skipLetters_l0 (a := σ) hf)
theorem k_X8_skipLetters {l : Launch} {E : XD} {hb : Nat} {σ : XS} {r0 : Nat} {x : XS} (h : f_X8_skipLetters σ r0 = some x) : XM l yX8_skipLetters cX8_skipLetters 1 none 1 21 E hb [.ref (hb + r0)] σ none x := by
  refine xm_of (by decide) (Nat.le_of_ble_eq_true rfl) (m_X8_skipLetters h).le (fun G hG C hl hQ => ?_)
  obtain ⟨rfl, rfl, rfl, hN⟩ := hG
  exact s_X8_skipLetters_e C h hQ
noncomputable def f_X8_spells_b20 (σ : XS) (r0 : Nat) (s1 : Nat) : Int32 → Option ((Int32) ⊕ (Int32)) := fun a => match a with
  | x2 => (xsk s1).bind fun _ => if (Int32.ofNat (xsl.getD s1 0)) ≤ x2 then ((some (1 : Int32)).map .inr) else (xgI σ r0 8 8).bind fun v3 => (xck σ r0 8).bind fun _ => (f_X8_byteAt σ r0 (v3 + x2)).bind fun v6 => (xsc s1 x2).bind fun v8 => if v6 = v8 then (some (.inl (x2 + (1 : Int32)))) else (some (0 : Int32)).map .inr
noncomputable def f_X8_spells (σ : XS) (r0 : Nat) (s1 : Nat) : Option Int32 := (xgI σ r0 8 9).bind fun v2 => (xgI σ r0 8 8).bind fun v4 => (xsk s1).bind fun _ => if (v2 - v4) = (Int32.ofNat (xsl.getD s1 0)) then (xloop (f_X8_spells_b20 σ r0 s1) (0 : Int32)) else some (0 : Int32)
theorem s_X8_spells_l20 {G : XG} (C : XC G cX8_spells RX8 (some .boolean) 3 4 85) {σ : XS} {r0 : Nat} {s1 : Nat} {a : Int32} {x : Int32} (hf : xloop (f_X8_spells_b20 σ r0 s1) a = some x) (hk : XEnd G (some (.int x)) σ) : WW G 20 [(0, .ref (gB G + r0)), (1, .ref ((gE G).2.2.1 s1)), (2, .int a)] [] σ := by
  refine xloop_ind (P := fun a => WW G 20 [(0, .ref (gB G + r0)), (1, .ref ((gE G).2.2.1 s1)), (2, .int a)] [] σ) (fun a y hf hc he => ?_) hf
  obtain ⟨x2, rfl⟩ : ∃ z, z = a := ⟨_, rfl⟩
  have hk : (∀ a' : Int32, y = .inl a' → WW G 20 [(0, .ref (gB G + r0)), (1, .ref ((gE G).2.2.1 s1)), (2, .int a')] [] σ) ∧ (∀ b1 : Int32, y = .inr b1 → XEnd G (some (.int b1)) σ) := ⟨hc, fun b e => by have h9 := he b e; subst h9; exact hk⟩
  refine ww_iload_n (pc := 20) C 2 dX8_spells_20 rfl ?_
  refine ww_aload_n (pc := 21) C 1 dX8_spells_21 rfl ?_
  obtain ⟨_, e1, hf⟩ := xbd hf
  refine ww_callT (pc := 22) (as := []) (st := [.int x2]) C (xsk_spec e1) (k_J0_length (xsk_spec e1)) rfl xc_X8_105 q502 q503 rfl (by decide) (xst4 (Nat.le_of_ble_eq_true rfl)) dX8_spells_22 ?_
  refine ww_icmp_ge (pc := 25) (tgt := 54) C dX8_spells_25 (by decide) (fun q => ?_) (fun q => ?_)
  · have hf := xip q hf
    obtain ⟨b0, hg, e9⟩ := xmj hf
    subst e9
    have hf := hg
    have hk := hk.2 _ rfl
    refine ww_iconst (pc := 54) (v := (1 : Int32)) C dX8_spells_54 (by decide) ?_
    have hf := xsj hf
    subst hf
    exact ww_zret (pc := 55) C rfl hk dX8_spells_55
  · have hf := xin q hf
    refine ww_aload_n (pc := 28) C 0 dX8_spells_28 rfl ?_
    refine ww_aload_n (pc := 29) C 0 dX8_spells_29 rfl ?_
    obtain ⟨v3, e2, hf⟩ := xbd hf
    refine gf_X8_52 (pc := 30) C e2 dX8_spells_30 ?_
    refine ww_iload_n (pc := 33) C 2 dX8_spells_33 rfl ?_
    refine ww_iadd (pc := 34) C dX8_spells_34 ?_
    obtain ⟨_, e4, hf⟩ := xbd hf
    obtain ⟨v6, e5, hf⟩ := xbd hf
    refine ww_callVi (pc := 35) (as := [.int (v3 + x2)]) (st := []) C (k_X8_byteAt (l := gl G) (E := gE G) (hb := gB G) (σ := σ) e5) rfl (by decide) xc_X8_55 q480 qp6 (xck_spec e4) rfl (by decide) (xst4 (Nat.le_of_ble_eq_true rfl)) xsame.rf.le xsame.rf.lim dX8_spells_35 ?_
    refine ww_aload_n (pc := 38) C 1 dX8_spells_38 rfl ?_
    refine ww_iload_n (pc := 39) C 2 dX8_spells_39 rfl ?_
    obtain ⟨v8, e7, hf⟩ := xbd hf
    refine ww_callT (pc := 40) (as := [.int x2]) (st := [.int v6]) C (xsc_spec e7).1 (xsc_k e7) rfl xc_X8_109 q512 q513 rfl (by decide) (xst4 (Nat.le_of_ble_eq_true rfl)) dX8_spells_40 ?_
    refine ww_icmp_eq (pc := 43) (tgt := 48) C dX8_spells_43 (by decide) (fun q => ?_) (fun q => ?_)
    · have hf := xip q hf
      refine ww_iinc (pc := 48) (v := x2 + (1 : Int32)) (lv' := [(2, .int (x2 + (1 : Int32))), (0, .ref (gB G + r0)), (1, .ref ((gE G).2.2.1 s1))]) C 2 dX8_spells_48 rfl (congrArg (fun z => x2 + z) (show Int32.ofInt (1) = (1 : Int32) by decide)) (by decide) rfl ?_
      refine ww_goto (pc := 51) (tgt := 20) C dX8_spells_51 (by decide) ?_
      have hf := xsj hf
      subst hf
      refine ww_sub [1, 2, 0] rfl ?_
      exact hk.1 (x2 + (1 : Int32)) rfl
    · have hf := xin q hf
      obtain ⟨b0, hg, e9⟩ := xmj hf
      subst e9
      have hf := hg
      have hk := hk.2 _ rfl
      refine ww_iconst (pc := 46) (v := (0 : Int32)) C dX8_spells_46 (by decide) ?_
      have hf := xsj hf
      subst hf
      exact ww_zret (pc := 47) C rfl hk dX8_spells_47
theorem s_X8_spells_e {G : XG} (C : XC G cX8_spells RX8 (some .boolean) 3 4 85) {σ : XS} {r0 : Nat} {s1 : Nat} {x : Int32} (hf : f_X8_spells σ r0 s1 = some x) (hk : XEnd G (some (.int x)) σ) : WW G 0 [(0, .ref (gB G + r0)), (1, .ref ((gE G).2.2.1 s1))] [] σ := by
  refine ww_aload_n (pc := 0) C 0 dX8_spells_0 rfl ?_
  obtain ⟨v2, e1, hf⟩ := xbd hf
  refine gf_X8_32 (pc := 1) C e1 dX8_spells_1 ?_
  refine ww_aload_n (pc := 4) C 0 dX8_spells_4 rfl ?_
  obtain ⟨v4, e3, hf⟩ := xbd hf
  refine gf_X8_52 (pc := 5) C e3 dX8_spells_5 ?_
  refine ww_isub (pc := 8) C dX8_spells_8 ?_
  refine ww_aload_n (pc := 9) C 1 dX8_spells_9 rfl ?_
  obtain ⟨_, e5, hf⟩ := xbd hf
  refine ww_callT (pc := 10) (as := []) (st := [.int (v2 - v4)]) C (xsk_spec e5) (k_J0_length (xsk_spec e5)) rfl xc_X8_105 q502 q503 rfl (by decide) (xst4 (Nat.le_of_ble_eq_true rfl)) dX8_spells_10 ?_
  refine ww_icmp_eq (pc := 13) (tgt := 18) C dX8_spells_13 (by decide) (fun q => ?_) (fun q => ?_)
  · have hf := xip q hf
    refine ww_iconst (pc := 18) (v := (0 : Int32)) C dX8_spells_18 (by decide) ?_
    refine ww_istore_n (pc := 19) (lv' := [(2, .int (0 : Int32)), (0, .ref (gB G + r0)), (1, .ref ((gE G).2.2.1 s1))]) C dX8_spells_19 (by decide) rfl ?_
    refine ww_sub [1, 2, 0] rfl ?_
    exact s_X8_spells_l20 C (a := (0 : Int32)) hf hk
  · have hf := xin q hf
    refine ww_iconst (pc := 16) (v := (0 : Int32)) C dX8_spells_16 (by decide) ?_
    have hf := xsj hf
    subst hf
    exact ww_zret (pc := 17) C rfl hk dX8_spells_17
theorem k_X8_spells {l : Launch} {E : XD} {hb : Nat} {σ : XS} {r0 : Nat} {s1 : Nat} {x : Int32} (h : f_X8_spells σ r0 s1 = some x) : XM l yX8_spells cX8_spells 3 (some .boolean) 4 85 E hb [.ref (hb + r0), .ref (E.2.2.1 s1)] σ (some (.int x)) σ := by
  refine xm_of (by decide) (Nat.le_of_ble_eq_true rfl) ⟨Nat.le_refl _, Nat.le_refl _⟩ (fun G hG C hl hQ => ?_)
  obtain ⟨rfl, rfl, rfl, hN⟩ := hG
  exact s_X8_spells_e C h hQ
noncomputable def f_X8_wordKind (σ : XS) (r0 : Nat) : Option Int32 := (xck σ r0 8).bind fun _ => (f_X8_spells σ r0 0).bind fun v3 => if v3 = 0 then ((xck σ r0 8).bind fun _ => (f_X8_spells σ r0 1).bind fun v6 => if v6 = 0 then ((xck σ r0 8).bind fun _ => (f_X8_spells σ r0 2).bind fun v9 => if v9 = 0 then ((xck σ r0 8).bind fun _ => (f_X8_spells σ r0 3).bind fun v12 => if v12 = 0 then ((xck σ r0 8).bind fun _ => (f_X8_spells σ r0 4).bind fun v15 => if v15 = 0 then ((xck σ r0 8).bind fun _ => (f_X8_spells σ r0 5).bind fun v18 => if v18 = 0 then ((xck σ r0 8).bind fun _ => (f_X8_spells σ r0 6).bind fun v21 => if v21 = 0 then ((xck σ r0 8).bind fun _ => (f_X8_spells σ r0 7).bind fun v24 => if v24 = 0 then ((xck σ r0 8).bind fun _ => (f_X8_spells σ r0 8).bind fun v27 => if v27 = 0 then ((xck σ r0 8).bind fun _ => (f_X8_spells σ r0 9).bind fun v30 => if v30 = 0 then ((xck σ r0 8).bind fun _ => (f_X8_spells σ r0 10).bind fun v33 => if v33 = 0 then (some (1 : Int32)) else some (15 : Int32)) else some (14 : Int32)) else some (13 : Int32)) else some (12 : Int32)) else some (11 : Int32)) else some (10 : Int32)) else some (9 : Int32)) else some (8 : Int32)) else some (7 : Int32)) else some (6 : Int32)) else some (5 : Int32)
theorem s_X8_wordKind_e {G : XG} (C : XC G cX8_wordKind RX8 (some .int) 1 5 107) {σ : XS} {r0 : Nat} {x : Int32} (hf : f_X8_wordKind σ r0 = some x) (hk : XEnd G (some (.int x)) σ) : WW G 0 [(0, .ref (gB G + r0))] [] σ := by
  refine ww_aload_n (pc := 0) C 0 dX8_wordKind_0 rfl ?_
  refine ww_ldcS (pc := 1) C (C.hV.1 0 (by decide)) dX8_wordKind_1 ?_
  obtain ⟨_, e1, hf⟩ := xbd hf
  obtain ⟨v3, e2, hf⟩ := xbd hf
  refine ww_callVi (pc := 3) (as := [.ref ((gE G).2.2.1 0)]) (st := []) C (k_X8_spells (l := gl G) (E := gE G) (hb := gB G) (σ := σ) e2) rfl (by decide) xc_X8_81 q499 qp9 (xck_spec e1) rfl (by decide) (xst4 (Nat.le_of_ble_eq_true rfl)) xsame.rf.le xsame.rf.lim dX8_wordKind_3 ?_
  refine ww_if_eq (pc := 6) (tgt := 11) C dX8_wordKind_6 (by decide) (fun q => ?_) (fun q => ?_)
  · have hf := xip q hf
    refine ww_aload_n (pc := 11) C 0 dX8_wordKind_11 rfl ?_
    refine ww_ldcS (pc := 12) C (C.hV.1 1 (by decide)) dX8_wordKind_12 ?_
    obtain ⟨_, e4, hf⟩ := xbd hf
    obtain ⟨v6, e5, hf⟩ := xbd hf
    refine ww_callVi (pc := 14) (as := [.ref ((gE G).2.2.1 1)]) (st := []) C (k_X8_spells (l := gl G) (E := gE G) (hb := gB G) (σ := σ) e5) rfl (by decide) xc_X8_81 q499 qp9 (xck_spec e4) rfl (by decide) (xst4 (Nat.le_of_ble_eq_true rfl)) xsame.rf.le xsame.rf.lim dX8_wordKind_14 ?_
    refine ww_if_eq (pc := 17) (tgt := 23) C dX8_wordKind_17 (by decide) (fun q => ?_) (fun q => ?_)
    · have hf := xip q hf
      refine ww_aload_n (pc := 23) C 0 dX8_wordKind_23 rfl ?_
      refine ww_ldcS (pc := 24) C (C.hV.1 2 (by decide)) dX8_wordKind_24 ?_
      obtain ⟨_, e7, hf⟩ := xbd hf
      obtain ⟨v9, e8, hf⟩ := xbd hf
      refine ww_callVi (pc := 26) (as := [.ref ((gE G).2.2.1 2)]) (st := []) C (k_X8_spells (l := gl G) (E := gE G) (hb := gB G) (σ := σ) e8) rfl (by decide) xc_X8_81 q499 qp9 (xck_spec e7) rfl (by decide) (xst4 (Nat.le_of_ble_eq_true rfl)) xsame.rf.le xsame.rf.lim dX8_wordKind_26 ?_
      refine ww_if_eq (pc := 29) (tgt := 35) C dX8_wordKind_29 (by decide) (fun q => ?_) (fun q => ?_)
      · have hf := xip q hf
        refine ww_aload_n (pc := 35) C 0 dX8_wordKind_35 rfl ?_
        refine ww_ldcS (pc := 36) C (C.hV.1 3 (by decide)) dX8_wordKind_36 ?_
        obtain ⟨_, e10, hf⟩ := xbd hf
        obtain ⟨v12, e11, hf⟩ := xbd hf
        refine ww_callVi (pc := 38) (as := [.ref ((gE G).2.2.1 3)]) (st := []) C (k_X8_spells (l := gl G) (E := gE G) (hb := gB G) (σ := σ) e11) rfl (by decide) xc_X8_81 q499 qp9 (xck_spec e10) rfl (by decide) (xst4 (Nat.le_of_ble_eq_true rfl)) xsame.rf.le xsame.rf.lim dX8_wordKind_38 ?_
        refine ww_if_eq (pc := 41) (tgt := 47) C dX8_wordKind_41 (by decide) (fun q => ?_) (fun q => ?_)
        · have hf := xip q hf
          refine ww_aload_n (pc := 47) C 0 dX8_wordKind_47 rfl ?_
          refine ww_ldcS (pc := 48) C (C.hV.1 4 (by decide)) dX8_wordKind_48 ?_
          obtain ⟨_, e13, hf⟩ := xbd hf
          obtain ⟨v15, e14, hf⟩ := xbd hf
          refine ww_callVi (pc := 50) (as := [.ref ((gE G).2.2.1 4)]) (st := []) C (k_X8_spells (l := gl G) (E := gE G) (hb := gB G) (σ := σ) e14) rfl (by decide) xc_X8_81 q499 qp9 (xck_spec e13) rfl (by decide) (xst4 (Nat.le_of_ble_eq_true rfl)) xsame.rf.le xsame.rf.lim dX8_wordKind_50 ?_
          refine ww_if_eq (pc := 53) (tgt := 59) C dX8_wordKind_53 (by decide) (fun q => ?_) (fun q => ?_)
          · have hf := xip q hf
            refine ww_aload_n (pc := 59) C 0 dX8_wordKind_59 rfl ?_
            refine ww_ldcS (pc := 60) C (C.hV.1 5 (by decide)) dX8_wordKind_60 ?_
            obtain ⟨_, e16, hf⟩ := xbd hf
            obtain ⟨v18, e17, hf⟩ := xbd hf
            refine ww_callVi (pc := 62) (as := [.ref ((gE G).2.2.1 5)]) (st := []) C (k_X8_spells (l := gl G) (E := gE G) (hb := gB G) (σ := σ) e17) rfl (by decide) xc_X8_81 q499 qp9 (xck_spec e16) rfl (by decide) (xst4 (Nat.le_of_ble_eq_true rfl)) xsame.rf.le xsame.rf.lim dX8_wordKind_62 ?_
            refine ww_if_eq (pc := 65) (tgt := 71) C dX8_wordKind_65 (by decide) (fun q => ?_) (fun q => ?_)
            · have hf := xip q hf
              refine ww_aload_n (pc := 71) C 0 dX8_wordKind_71 rfl ?_
              refine ww_ldcS (pc := 72) C (C.hV.1 6 (by decide)) dX8_wordKind_72 ?_
              obtain ⟨_, e19, hf⟩ := xbd hf
              obtain ⟨v21, e20, hf⟩ := xbd hf
              refine ww_callVi (pc := 74) (as := [.ref ((gE G).2.2.1 6)]) (st := []) C (k_X8_spells (l := gl G) (E := gE G) (hb := gB G) (σ := σ) e20) rfl (by decide) xc_X8_81 q499 qp9 (xck_spec e19) rfl (by decide) (xst4 (Nat.le_of_ble_eq_true rfl)) xsame.rf.le xsame.rf.lim dX8_wordKind_74 ?_
              refine ww_if_eq (pc := 77) (tgt := 83) C dX8_wordKind_77 (by decide) (fun q => ?_) (fun q => ?_)
              · have hf := xip q hf
                refine ww_aload_n (pc := 83) C 0 dX8_wordKind_83 rfl ?_
                refine ww_ldcS (pc := 84) C (C.hV.1 7 (by decide)) dX8_wordKind_84 ?_
                obtain ⟨_, e22, hf⟩ := xbd hf
                obtain ⟨v24, e23, hf⟩ := xbd hf
                refine ww_callVi (pc := 86) (as := [.ref ((gE G).2.2.1 7)]) (st := []) C (k_X8_spells (l := gl G) (E := gE G) (hb := gB G) (σ := σ) e23) rfl (by decide) xc_X8_81 q499 qp9 (xck_spec e22) rfl (by decide) (xst4 (Nat.le_of_ble_eq_true rfl)) xsame.rf.le xsame.rf.lim dX8_wordKind_86 ?_
                refine ww_if_eq (pc := 89) (tgt := 95) C dX8_wordKind_89 (by decide) (fun q => ?_) (fun q => ?_)
                · have hf := xip q hf
                  refine ww_aload_n (pc := 95) C 0 dX8_wordKind_95 rfl ?_
                  refine ww_ldcS (pc := 96) C (C.hV.1 8 (by decide)) dX8_wordKind_96 ?_
                  obtain ⟨_, e25, hf⟩ := xbd hf
                  obtain ⟨v27, e26, hf⟩ := xbd hf
                  refine ww_callVi (pc := 98) (as := [.ref ((gE G).2.2.1 8)]) (st := []) C (k_X8_spells (l := gl G) (E := gE G) (hb := gB G) (σ := σ) e26) rfl (by decide) xc_X8_81 q499 qp9 (xck_spec e25) rfl (by decide) (xst4 (Nat.le_of_ble_eq_true rfl)) xsame.rf.le xsame.rf.lim dX8_wordKind_98 ?_
                  refine ww_if_eq (pc := 101) (tgt := 107) C dX8_wordKind_101 (by decide) (fun q => ?_) (fun q => ?_)
                  · have hf := xip q hf
                    refine ww_aload_n (pc := 107) C 0 dX8_wordKind_107 rfl ?_
                    refine ww_ldcS (pc := 108) C (C.hV.1 9 (by decide)) dX8_wordKind_108 ?_
                    obtain ⟨_, e28, hf⟩ := xbd hf
                    obtain ⟨v30, e29, hf⟩ := xbd hf
                    refine ww_callVi (pc := 110) (as := [.ref ((gE G).2.2.1 9)]) (st := []) C (k_X8_spells (l := gl G) (E := gE G) (hb := gB G) (σ := σ) e29) rfl (by decide) xc_X8_81 q499 qp9 (xck_spec e28) rfl (by decide) (xst4 (Nat.le_of_ble_eq_true rfl)) xsame.rf.le xsame.rf.lim dX8_wordKind_110 ?_
                    refine ww_if_eq (pc := 113) (tgt := 119) C dX8_wordKind_113 (by decide) (fun q => ?_) (fun q => ?_)
                    · have hf := xip q hf
                      refine ww_aload_n (pc := 119) C 0 dX8_wordKind_119 rfl ?_
                      refine ww_ldcS (pc := 120) C (C.hV.1 10 (by decide)) dX8_wordKind_120 ?_
                      obtain ⟨_, e31, hf⟩ := xbd hf
                      obtain ⟨v33, e32, hf⟩ := xbd hf
                      refine ww_callVi (pc := 122) (as := [.ref ((gE G).2.2.1 10)]) (st := []) C (k_X8_spells (l := gl G) (E := gE G) (hb := gB G) (σ := σ) e32) rfl (by decide) xc_X8_81 q499 qp9 (xck_spec e31) rfl (by decide) (xst4 (Nat.le_of_ble_eq_true rfl)) xsame.rf.le xsame.rf.lim dX8_wordKind_122 ?_
                      refine ww_if_eq (pc := 125) (tgt := 131) C dX8_wordKind_125 (by decide) (fun q => ?_) (fun q => ?_)
                      · have hf := xip q hf
                        refine ww_iconst (pc := 131) (v := (1 : Int32)) C dX8_wordKind_131 (by decide) ?_
                        have hf := xsj hf
                        subst hf
                        exact ww_iret (pc := 132) C hk dX8_wordKind_132
                      · have hf := xin q hf
                        refine ww_bipush (pc := 128) (v := (15 : Int32)) C dX8_wordKind_128 (by decide) ?_
                        have hf := xsj hf
                        subst hf
                        exact ww_iret (pc := 130) C hk dX8_wordKind_130
                    · have hf := xin q hf
                      refine ww_bipush (pc := 116) (v := (14 : Int32)) C dX8_wordKind_116 (by decide) ?_
                      have hf := xsj hf
                      subst hf
                      exact ww_iret (pc := 118) C hk dX8_wordKind_118
                  · have hf := xin q hf
                    refine ww_bipush (pc := 104) (v := (13 : Int32)) C dX8_wordKind_104 (by decide) ?_
                    have hf := xsj hf
                    subst hf
                    exact ww_iret (pc := 106) C hk dX8_wordKind_106
                · have hf := xin q hf
                  refine ww_bipush (pc := 92) (v := (12 : Int32)) C dX8_wordKind_92 (by decide) ?_
                  have hf := xsj hf
                  subst hf
                  exact ww_iret (pc := 94) C hk dX8_wordKind_94
              · have hf := xin q hf
                refine ww_bipush (pc := 80) (v := (11 : Int32)) C dX8_wordKind_80 (by decide) ?_
                have hf := xsj hf
                subst hf
                exact ww_iret (pc := 82) C hk dX8_wordKind_82
            · have hf := xin q hf
              refine ww_bipush (pc := 68) (v := (10 : Int32)) C dX8_wordKind_68 (by decide) ?_
              have hf := xsj hf
              subst hf
              exact ww_iret (pc := 70) C hk dX8_wordKind_70
          · have hf := xin q hf
            refine ww_bipush (pc := 56) (v := (9 : Int32)) C dX8_wordKind_56 (by decide) ?_
            have hf := xsj hf
            subst hf
            exact ww_iret (pc := 58) C hk dX8_wordKind_58
        · have hf := xin q hf
          refine ww_bipush (pc := 44) (v := (8 : Int32)) C dX8_wordKind_44 (by decide) ?_
          have hf := xsj hf
          subst hf
          exact ww_iret (pc := 46) C hk dX8_wordKind_46
      · have hf := xin q hf
        refine ww_bipush (pc := 32) (v := (7 : Int32)) C dX8_wordKind_32 (by decide) ?_
        have hf := xsj hf
        subst hf
        exact ww_iret (pc := 34) C hk dX8_wordKind_34
    · have hf := xin q hf
      refine ww_bipush (pc := 20) (v := (6 : Int32)) C dX8_wordKind_20 (by decide) ?_
      have hf := xsj hf
      subst hf
      exact ww_iret (pc := 22) C hk dX8_wordKind_22
  · have hf := xin q hf
    refine ww_iconst (pc := 9) (v := (5 : Int32)) C dX8_wordKind_9 (by decide) ?_
    have hf := xsj hf
    subst hf
    exact ww_iret (pc := 10) C hk dX8_wordKind_10
theorem k_X8_wordKind {l : Launch} {E : XD} {hb : Nat} {σ : XS} {r0 : Nat} {x : Int32} (h : f_X8_wordKind σ r0 = some x) : XM l yX8_wordKind cX8_wordKind 1 (some .int) 5 107 E hb [.ref (hb + r0)] σ (some (.int x)) σ := by
  refine xm_of (by decide) (Nat.le_of_ble_eq_true rfl) ⟨Nat.le_refl _, Nat.le_refl _⟩ (fun G hG C hl hQ => ?_)
  obtain ⟨rfl, rfl, rfl, hN⟩ := hG
  exact s_X8_wordKind_e C h hQ
noncomputable def f_X8_isDigit (x0 : Int32) : Option Int32 := if x0 < (48 : Int32) then (some (0 : Int32)) else if (57 : Int32) < x0 then (some (0 : Int32)) else some (1 : Int32)
theorem s_X8_isDigit_e {G : XG} (C : XC G cX8_isDigit RX8 (some .boolean) 1 0 0) {σ : XS} {x0 : Int32} {x : Int32} (hf : f_X8_isDigit x0 = some x) (hk : XEnd G (some (.int x)) σ) : WW G 0 [(0, .int x0)] [] σ := by
  refine ww_iload_n (pc := 0) C 0 dX8_isDigit_0 rfl ?_
  refine ww_bipush (pc := 1) (v := (48 : Int32)) C dX8_isDigit_1 (by decide) ?_
  refine ww_icmp_lt (pc := 3) (tgt := 16) C dX8_isDigit_3 (by decide) (fun q => ?_) (fun q => ?_)
  · have hf := xip q hf
    refine ww_iconst (pc := 16) (v := (0 : Int32)) C dX8_isDigit_16 (by decide) ?_
    have hf := xsj hf
    subst hf
    exact ww_zret (pc := 17) C rfl hk dX8_isDigit_17
  · have hf := xin q hf
    refine ww_iload_n (pc := 6) C 0 dX8_isDigit_6 rfl ?_
    refine ww_bipush (pc := 7) (v := (57 : Int32)) C dX8_isDigit_7 (by decide) ?_
    refine ww_icmp_gt (pc := 9) (tgt := 16) C dX8_isDigit_9 (by decide) (fun q => ?_) (fun q => ?_)
    · have hf := xip q hf
      refine ww_iconst (pc := 16) (v := (0 : Int32)) C dX8_isDigit_16 (by decide) ?_
      have hf := xsj hf
      subst hf
      exact ww_zret (pc := 17) C rfl hk dX8_isDigit_17
    · have hf := xin q hf
      refine ww_iconst (pc := 12) (v := (1 : Int32)) C dX8_isDigit_12 (by decide) ?_
      refine ww_goto (pc := 13) (tgt := 17) C dX8_isDigit_13 (by decide) ?_
      have hf := xsj hf
      subst hf
      exact ww_zret (pc := 17) C rfl hk dX8_isDigit_17
theorem k_X8_isDigit {l : Launch} {E : XD} {hb : Nat} {σ : XS} {x0 : Int32} {x : Int32} (h : f_X8_isDigit x0 = some x) : XM l yX8_isDigit cX8_isDigit 1 (some .boolean) 0 0 E hb [.int x0] σ (some (.int x)) σ := by
  refine xm_of (by decide) (Nat.le_of_ble_eq_true rfl) ⟨Nat.le_refl _, Nat.le_refl _⟩ (fun G hG C hl hQ => ?_)
  obtain ⟨rfl, rfl, rfl, hN⟩ := hG
  exact s_X8_isDigit_e C h hQ
noncomputable def f_X8_findInt_b70 (r0 : Nat) : Int32 × XS → Option ((Int32 × XS) ⊕ (XS)) := fun a => match a with
  | (x1, σ) => (xgI σ r0 8 6).bind fun v2 => if v2 = (2 : Int32) then ((xgI σ r0 8 9).bind fun v4 => if v4 ≤ x1 then ((some σ).map .inr) else (xgI σ r0 8 7).bind fun v6 => (xck σ r0 8).bind fun _ => (f_X8_byteAt σ r0 x1).bind fun v9 => (xpI σ r0 8 7 (((v6 * (10 : Int32)) + v9) - (48 : Int32))).bind fun σ11 => some (.inl (x1 + (1 : Int32), σ11))) else (some σ).map .inr
noncomputable def f_X8_findInt_j57 (σ : XS) (r0 : Nat) (t0 : Nat) (t1 : Int32) : Option XS := (xpI σ t0 8 6 t1).bind fun σ2 => (xpI σ2 r0 8 7 (0 : Int32)).bind fun σ4 => (xgI σ4 r0 8 8).bind fun v6 => xloop (f_X8_findInt_b70 r0) (v6, σ4)
noncomputable def f_X8_findInt_j38 (σ : XS) (r0 : Nat) : Option XS := (xgI σ r0 8 9).bind fun v2 => (xgI σ r0 8 8).bind fun v4 => if (4 : Int32) < (v2 - v4) then (f_X8_findInt_j57 σ r0 r0 (1 : Int32)) else f_X8_findInt_j57 σ r0 r0 (2 : Int32)
noncomputable def f_X8_findInt_b0 (r0 : Nat) : XS → Option ((XS) ⊕ (XS)) := fun a => match a with
  | σ => (xgI σ r0 8 9).bind fun v2 => (xgI σ r0 8 4).bind fun v4 => if v4 ≤ v2 then ((f_X8_findInt_j38 σ r0).map .inr) else (xgI σ r0 8 9).bind fun v6 => (xck σ r0 8).bind fun _ => (f_X8_byteAt σ r0 v6).bind fun v9 => (f_X8_isDigit v9).bind fun v11 => if v11 = 0 then ((f_X8_findInt_j38 σ r0).map .inr) else (xgI σ r0 8 9).bind fun v13 => (xpI σ r0 8 9 (v13 + (1 : Int32))).bind fun σ15 => some (.inl σ15)
noncomputable def f_X8_findInt (σ : XS) (r0 : Nat) : Option XS := xloop (f_X8_findInt_b0 r0) σ
theorem m_X8_findInt_l70 {r0 : Nat} {a : Int32 × XS} {x : XS} (hf : xloop (f_X8_findInt_b70 r0) a = some x) : xsame a.2 x := by
  refine xloop_ind (P := fun a => xsame a.2 x) (fun a y hf hc he => ?_) hf
  obtain ⟨x1, σ⟩ := a
  have hy : (∀ a' : Int32 × XS, y = .inl a' → xsame σ a'.2) ∧ (∀ b1 : XS, y = .inr b1 → xsame σ b1) := by
    have hm := xsame.rf (σ := σ)
    obtain ⟨v2, e1, hf⟩ := xbd hf
    by_cases q : v2 = (2 : Int32)
    · have hf := xip q hf
      obtain ⟨v4, e3, hf⟩ := xbd hf
      by_cases q : v4 ≤ x1
      · have hf := xip q hf
        obtain ⟨b0, hg, e9⟩ := xmj hf
        subst e9
        have hf := hg
        refine ⟨fun a' e => xnc2 e, fun b e => ?_⟩
        have h9 := Sum.inr.inj e
        subst h9
        have hf := xsj hf
        subst hf
        exact hm
      · have hf := xin q hf
        obtain ⟨v6, e5, hf⟩ := xbd hf
        obtain ⟨_, e7, hf⟩ := xbd hf
        obtain ⟨v9, e8, hf⟩ := xbd hf
        obtain ⟨σ11, e10, hf⟩ := xbd hf
        have hm := hm.tr (xpI_same e10)
        have hf := xsj hf
        subst hf
        exact ⟨fun a' e => (by have h9 := Sum.inl.inj e; subst h9; exact hm), fun b e => xnc1 e⟩
    · have hf := xin q hf
      obtain ⟨b0, hg, e9⟩ := xmj hf
      subst e9
      have hf := hg
      refine ⟨fun a' e => xnc2 e, fun b e => ?_⟩
      have h9 := Sum.inr.inj e
      subst h9
      have hf := xsj hf
      subst hf
      exact hm
  cases y with
  | inl a' =>
    have h1 := hc a' rfl
    have hm := hy.1 a' rfl
    exact hm.tr (h1)
  | inr b =>
    have h1 := he b rfl
    subst h1
    exact hy.2 _ rfl
theorem s_X8_findInt_l70 {G : XG} (C : XC G cX8_findInt RX8 none 2 1 21) {r0 : Nat} {a : Int32 × XS} {x : XS} (hf : xloop (f_X8_findInt_b70 r0) a = some x) (hk : XEnd G none x) : WW G 70 [(0, .ref (gB G + r0)), (1, .int a.1)] [] a.2 := by
  refine xloop_ind (P := fun a => WW G 70 [(0, .ref (gB G + r0)), (1, .int a.1)] [] a.2) (fun a y hf hc he => ?_) hf
  obtain ⟨x1, σ⟩ := a
  have hk : (∀ a' : Int32 × XS, y = .inl a' → WW G 70 [(0, .ref (gB G + r0)), (1, .int a'.1)] [] a'.2) ∧ (∀ b1 : XS, y = .inr b1 → XEnd G none b1) := ⟨hc, fun b e => by have h9 := he b e; subst h9; exact hk⟩
  refine ww_aload_n (pc := 70) C 0 dX8_findInt_70 rfl ?_
  obtain ⟨v2, e1, hf⟩ := xbd hf
  refine gf_X8_39 (pc := 71) C e1 dX8_findInt_71 ?_
  refine ww_iconst (pc := 74) (v := (2 : Int32)) C dX8_findInt_74 (by decide) ?_
  refine ww_icmp_ne (pc := 75) (tgt := 112) C dX8_findInt_75 (by decide) (fun q => ?_) (fun q => ?_)
  · have hf := xin q hf
    obtain ⟨b0, hg, e9⟩ := xmj hf
    subst e9
    have hf := hg
    have hk := hk.2 _ rfl
    have hf := xsj hf
    subst hf
    exact ww_vret (pc := 112) C hk dX8_findInt_112
  · have hf := xip q hf
    refine ww_iload_n (pc := 78) C 1 dX8_findInt_78 rfl ?_
    refine ww_aload_n (pc := 79) C 0 dX8_findInt_79 rfl ?_
    obtain ⟨v4, e3, hf⟩ := xbd hf
    refine gf_X8_32 (pc := 80) C e3 dX8_findInt_80 ?_
    refine ww_icmp_ge (pc := 83) (tgt := 112) C dX8_findInt_83 (by decide) (fun q => ?_) (fun q => ?_)
    · have hf := xip q hf
      obtain ⟨b0, hg, e9⟩ := xmj hf
      subst e9
      have hf := hg
      have hk := hk.2 _ rfl
      have hf := xsj hf
      subst hf
      exact ww_vret (pc := 112) C hk dX8_findInt_112
    · have hf := xin q hf
      refine ww_aload_n (pc := 86) C 0 dX8_findInt_86 rfl ?_
      refine ww_aload_n (pc := 87) C 0 dX8_findInt_87 rfl ?_
      obtain ⟨v6, e5, hf⟩ := xbd hf
      refine gf_X8_49 (pc := 88) C e5 dX8_findInt_88 ?_
      refine ww_bipush (pc := 91) (v := (10 : Int32)) C dX8_findInt_91 (by decide) ?_
      refine ww_imul (pc := 93) C dX8_findInt_93 ?_
      refine ww_aload_n (pc := 94) C 0 dX8_findInt_94 rfl ?_
      refine ww_iload_n (pc := 95) C 1 dX8_findInt_95 rfl ?_
      obtain ⟨_, e7, hf⟩ := xbd hf
      obtain ⟨v9, e8, hf⟩ := xbd hf
      refine ww_callVi (pc := 96) (as := [.int x1]) (st := [.int (v6 * (10 : Int32)), .ref (gB G + r0)]) C (k_X8_byteAt (l := gl G) (E := gE G) (hb := gB G) (σ := σ) e8) rfl (by decide) xc_X8_55 q480 qp6 (xck_spec e7) rfl (by decide) (xst4 (Nat.le_of_ble_eq_true rfl)) xsame.rf.le xsame.rf.lim dX8_findInt_96 ?_
      refine ww_iadd (pc := 99) C dX8_findInt_99 ?_
      refine ww_bipush (pc := 100) (v := (48 : Int32)) C dX8_findInt_100 (by decide) ?_
      refine ww_isub (pc := 102) C dX8_findInt_102 ?_
      obtain ⟨σ11, e10, hf⟩ := xbd hf
      refine pf_X8_49 (pc := 103) C e10 dX8_findInt_103 ?_
      refine ww_iinc (pc := 106) (v := x1 + (1 : Int32)) (lv' := [(1, .int (x1 + (1 : Int32))), (0, .ref (gB G + r0))]) C 1 dX8_findInt_106 rfl (congrArg (fun z => x1 + z) (show Int32.ofInt (1) = (1 : Int32) by decide)) (by decide) rfl ?_
      refine ww_goto (pc := 109) (tgt := 70) C dX8_findInt_109 (by decide) ?_
      have hf := xsj hf
      subst hf
      refine ww_sub [1, 0] rfl ?_
      exact hk.1 (x1 + (1 : Int32), σ11) rfl
theorem s_X8_findInt_j57 {G : XG} (C : XC G cX8_findInt RX8 none 2 1 21) {σ : XS} {r0 : Nat} {t0 : Nat} {t1 : Int32} {x : XS} (hf : f_X8_findInt_j57 σ r0 t0 t1 = some x) (hk : XEnd G none x) : WW G 57 [(0, .ref (gB G + r0))] [.int t1, .ref (gB G + t0)] σ := by
  obtain ⟨σ2, e1, hf⟩ := xbd hf
  refine pf_X8_39 (pc := 57) C e1 dX8_findInt_57 ?_
  refine ww_aload_n (pc := 60) C 0 dX8_findInt_60 rfl ?_
  refine ww_iconst (pc := 61) (v := (0 : Int32)) C dX8_findInt_61 (by decide) ?_
  obtain ⟨σ4, e3, hf⟩ := xbd hf
  refine pf_X8_49 (pc := 62) C e3 dX8_findInt_62 ?_
  refine ww_aload_n (pc := 65) C 0 dX8_findInt_65 rfl ?_
  obtain ⟨v6, e5, hf⟩ := xbd hf
  refine gf_X8_52 (pc := 66) C e5 dX8_findInt_66 ?_
  refine ww_istore_n (pc := 69) (lv' := [(1, .int v6), (0, .ref (gB G + r0))]) C dX8_findInt_69 (by decide) rfl ?_
  refine ww_sub [1, 0] rfl ?_
  exact s_X8_findInt_l70 C (a := (v6, σ4)) hf hk
theorem m_X8_findInt_j57 {σ : XS} {r0 : Nat} {t0 : Nat} {t1 : Int32} {x : XS} (hf : f_X8_findInt_j57 σ r0 t0 t1 = some x) : xsame σ x := by
  have hm := xsame.rf (σ := σ)
  obtain ⟨σ2, e1, hf⟩ := xbd hf
  have hm := hm.tr (xpI_same e1)
  obtain ⟨σ4, e3, hf⟩ := xbd hf
  have hm := hm.tr (xpI_same e3)
  obtain ⟨v6, e5, hf⟩ := xbd hf
  exact hm.tr (m_X8_findInt_l70 (a := (v6, σ4)) hf)
theorem s_X8_findInt_j38 {G : XG} (C : XC G cX8_findInt RX8 none 2 1 21) {σ : XS} {r0 : Nat} {x : XS} (hf : f_X8_findInt_j38 σ r0 = some x) (hk : XEnd G none x) : WW G 38 [(0, .ref (gB G + r0))] [] σ := by
  refine ww_aload_n (pc := 38) C 0 dX8_findInt_38 rfl ?_
  refine ww_aload_n (pc := 39) C 0 dX8_findInt_39 rfl ?_
  obtain ⟨v2, e1, hf⟩ := xbd hf
  refine gf_X8_32 (pc := 40) C e1 dX8_findInt_40 ?_
  refine ww_aload_n (pc := 43) C 0 dX8_findInt_43 rfl ?_
  obtain ⟨v4, e3, hf⟩ := xbd hf
  refine gf_X8_52 (pc := 44) C e3 dX8_findInt_44 ?_
  refine ww_isub (pc := 47) C dX8_findInt_47 ?_
  refine ww_iconst (pc := 48) (v := (4 : Int32)) C dX8_findInt_48 (by decide) ?_
  refine ww_icmp_gt (pc := 49) (tgt := 56) C dX8_findInt_49 (by decide) (fun q => ?_) (fun q => ?_)
  · have hf := xip q hf
    refine ww_iconst (pc := 56) (v := (1 : Int32)) C dX8_findInt_56 (by decide) ?_
    refine ww_sub [0] rfl ?_
    exact s_X8_findInt_j57 C hf hk
  · have hf := xin q hf
    refine ww_iconst (pc := 52) (v := (2 : Int32)) C dX8_findInt_52 (by decide) ?_
    refine ww_goto (pc := 53) (tgt := 57) C dX8_findInt_53 (by decide) ?_
    refine ww_sub [0] rfl ?_
    exact s_X8_findInt_j57 C hf hk
theorem m_X8_findInt_j38 {σ : XS} {r0 : Nat} {x : XS} (hf : f_X8_findInt_j38 σ r0 = some x) : xsame σ x := by
  have hm := xsame.rf (σ := σ)
  obtain ⟨v2, e1, hf⟩ := xbd hf
  obtain ⟨v4, e3, hf⟩ := xbd hf
  by_cases q : (4 : Int32) < (v2 - v4)
  · have hf := xip q hf
    exact hm.tr (m_X8_findInt_j57 hf)
  · have hf := xin q hf
    exact hm.tr (m_X8_findInt_j57 hf)
theorem m_X8_findInt_l0 {r0 : Nat} {a : XS} {x : XS} (hf : xloop (f_X8_findInt_b0 r0) a = some x) : xsame a x := by
  refine xloop_ind (P := fun a => xsame a x) (fun a y hf hc he => ?_) hf
  obtain ⟨σ, rfl⟩ : ∃ z, z = a := ⟨_, rfl⟩
  have hy : (∀ a' : XS, y = .inl a' → xsame σ a') ∧ (∀ b1 : XS, y = .inr b1 → xsame σ b1) := by
    have hm := xsame.rf (σ := σ)
    obtain ⟨v2, e1, hf⟩ := xbd hf
    obtain ⟨v4, e3, hf⟩ := xbd hf
    by_cases q : v4 ≤ v2
    · have hf := xip q hf
      obtain ⟨b0, hg, e9⟩ := xmj hf
      subst e9
      have hf := hg
      refine ⟨fun a' e => xnc2 e, fun b e => ?_⟩
      have h9 := Sum.inr.inj e
      subst h9
      exact hm.tr (m_X8_findInt_j38 hf)
    · have hf := xin q hf
      obtain ⟨v6, e5, hf⟩ := xbd hf
      obtain ⟨_, e7, hf⟩ := xbd hf
      obtain ⟨v9, e8, hf⟩ := xbd hf
      obtain ⟨v11, e10, hf⟩ := xbd hf
      by_cases q : v11 = 0
      · have hf := xip q hf
        obtain ⟨b0, hg, e9⟩ := xmj hf
        subst e9
        have hf := hg
        refine ⟨fun a' e => xnc2 e, fun b e => ?_⟩
        have h9 := Sum.inr.inj e
        subst h9
        exact hm.tr (m_X8_findInt_j38 hf)
      · have hf := xin q hf
        obtain ⟨v13, e12, hf⟩ := xbd hf
        obtain ⟨σ15, e14, hf⟩ := xbd hf
        have hm := hm.tr (xpI_same e14)
        have hf := xsj hf
        subst hf
        exact ⟨fun a' e => (by have h9 := Sum.inl.inj e; subst h9; exact hm), fun b e => xnc1 e⟩
  cases y with
  | inl a' =>
    have h1 := hc a' rfl
    have hm := hy.1 a' rfl
    exact hm.tr (h1)
  | inr b =>
    have h1 := he b rfl
    subst h1
    exact hy.2 _ rfl
theorem s_X8_findInt_l0 {G : XG} (C : XC G cX8_findInt RX8 none 2 1 21) {r0 : Nat} {a : XS} {x : XS} (hf : xloop (f_X8_findInt_b0 r0) a = some x) (hk : XEnd G none x) : WW G 0 [(0, .ref (gB G + r0))] [] a := by
  refine xloop_ind (P := fun a => WW G 0 [(0, .ref (gB G + r0))] [] a) (fun a y hf hc he => ?_) hf
  obtain ⟨σ, rfl⟩ : ∃ z, z = a := ⟨_, rfl⟩
  have hk : (∀ a' : XS, y = .inl a' → WW G 0 [(0, .ref (gB G + r0))] [] a') ∧ (∀ b1 : XS, y = .inr b1 → XEnd G none b1) := ⟨hc, fun b e => by have h9 := he b e; subst h9; exact hk⟩
  refine ww_aload_n (pc := 0) C 0 dX8_findInt_0 rfl ?_
  obtain ⟨v2, e1, hf⟩ := xbd hf
  refine gf_X8_32 (pc := 1) C e1 dX8_findInt_1 ?_
  refine ww_aload_n (pc := 4) C 0 dX8_findInt_4 rfl ?_
  obtain ⟨v4, e3, hf⟩ := xbd hf
  refine gf_X8_25 (pc := 5) C e3 dX8_findInt_5 ?_
  refine ww_icmp_ge (pc := 8) (tgt := 38) C dX8_findInt_8 (by decide) (fun q => ?_) (fun q => ?_)
  · have hf := xip q hf
    obtain ⟨b0, hg, e9⟩ := xmj hf
    subst e9
    have hf := hg
    have hk := hk.2 _ rfl
    refine ww_sub [0] rfl ?_
    exact s_X8_findInt_j38 C hf hk
  · have hf := xin q hf
    refine ww_aload_n (pc := 11) C 0 dX8_findInt_11 rfl ?_
    refine ww_aload_n (pc := 12) C 0 dX8_findInt_12 rfl ?_
    obtain ⟨v6, e5, hf⟩ := xbd hf
    refine gf_X8_32 (pc := 13) C e5 dX8_findInt_13 ?_
    obtain ⟨_, e7, hf⟩ := xbd hf
    obtain ⟨v9, e8, hf⟩ := xbd hf
    refine ww_callVi (pc := 16) (as := [.int v6]) (st := []) C (k_X8_byteAt (l := gl G) (E := gE G) (hb := gB G) (σ := σ) e8) rfl (by decide) xc_X8_55 q480 qp6 (xck_spec e7) rfl (by decide) (xst4 (Nat.le_of_ble_eq_true rfl)) xsame.rf.le xsame.rf.lim dX8_findInt_16 ?_
    obtain ⟨v11, e10, hf⟩ := xbd hf
    refine ww_callSi (pc := 19) (as := [.int v9]) (st := []) C (k_X8_isDigit (l := gl G) (E := gE G) (hb := gB G) (σ := σ) e10) xc_X8_73 q560 rfl (by decide) (xst4 (Nat.le_of_ble_eq_true rfl)) xsame.rf.le xsame.rf.lim dX8_findInt_19 ?_
    refine ww_if_eq (pc := 22) (tgt := 38) C dX8_findInt_22 (by decide) (fun q => ?_) (fun q => ?_)
    · have hf := xip q hf
      obtain ⟨b0, hg, e9⟩ := xmj hf
      subst e9
      have hf := hg
      have hk := hk.2 _ rfl
      refine ww_sub [0] rfl ?_
      exact s_X8_findInt_j38 C hf hk
    · have hf := xin q hf
      refine ww_aload_n (pc := 25) C 0 dX8_findInt_25 rfl ?_
      refine ww_dup (pc := 26) C dX8_findInt_26 rfl ?_
      obtain ⟨v13, e12, hf⟩ := xbd hf
      refine gf_X8_32 (pc := 27) C e12 dX8_findInt_27 ?_
      refine ww_iconst (pc := 30) (v := (1 : Int32)) C dX8_findInt_30 (by decide) ?_
      refine ww_iadd (pc := 31) C dX8_findInt_31 ?_
      obtain ⟨σ15, e14, hf⟩ := xbd hf
      refine pf_X8_32 (pc := 32) C e14 dX8_findInt_32 ?_
      refine ww_goto (pc := 35) (tgt := 0) C dX8_findInt_35 (by decide) ?_
      have hf := xsj hf
      subst hf
      refine ww_sub [0] rfl ?_
      exact hk.1 σ15 rfl
theorem s_X8_findInt_e {G : XG} (C : XC G cX8_findInt RX8 none 2 1 21) {σ : XS} {r0 : Nat} {x : XS} (hf : f_X8_findInt σ r0 = some x) (hk : XEnd G none x) : WW G 0 [(0, .ref (gB G + r0))] [] σ := by
  refine ww_sub [0] rfl ?_
  exact s_X8_findInt_l0 C (a := σ) hf hk
theorem m_X8_findInt {σ : XS} {r0 : Nat} {x : XS} (hf : f_X8_findInt σ r0 = some x) : xsame σ x := by
  have hm := xsame.rf (σ := σ)
  exact hm.tr (m_X8_findInt_l0 (a := σ) hf)
theorem k_X8_findInt {l : Launch} {E : XD} {hb : Nat} {σ : XS} {r0 : Nat} {x : XS} (h : f_X8_findInt σ r0 = some x) : XM l yX8_findInt cX8_findInt 2 none 1 21 E hb [.ref (hb + r0)] σ none x := by
  refine xm_of (by decide) (Nat.le_of_ble_eq_true rfl) (m_X8_findInt h).le (fun G hG C hl hQ => ?_)
  obtain ⟨rfl, rfl, rfl, hN⟩ := hG
  exact s_X8_findInt_e C h hQ
noncomputable def f_X8_findToken_j43 (σ : XS) (r0 : Nat) : Option XS := (xgI σ r0 8 8).bind fun v2 => (xck σ r0 8).bind fun _ => (f_X8_byteAt σ r0 v2).bind fun v5 => (xgI σ r0 8 8).bind fun v7 => (xpI σ r0 8 9 (v7 + (1 : Int32))).bind fun σ9 => (xgI σ9 r0 8 8).bind fun v11 => (xgI σ9 r0 8 4).bind fun v13 => if v11 < v13 then ((f_X8_isLetter v5).bind fun v15 => if v15 = 0 then ((f_X8_isDigit v5).bind fun v17 => if v17 = 0 then (if v5 = (45 : Int32) then ((xpI σ9 r0 8 6 (3 : Int32)).bind fun σ19 => some σ19) else if v5 = (59 : Int32) then ((xpI σ9 r0 8 6 (4 : Int32)).bind fun σ19 => some σ19) else (xpI σ9 r0 8 6 (1 : Int32)).bind fun σ19 => some σ19) else (xck σ9 r0 8).bind fun _ => (f_X8_findInt σ9 r0).bind fun σ20 => some σ20) else (xck σ9 r0 8).bind fun _ => (f_X8_skipLetters σ9 r0).bind fun σ18 => (xck σ18 r0 8).bind fun _ => (f_X8_wordKind σ18 r0).bind fun v21 => (xpI σ18 r0 8 6 v21).bind fun σ23 => some σ23) else (xgI σ9 r0 8 4).bind fun v15 => (xpI σ9 r0 8 9 v15).bind fun σ17 => (xpI σ17 r0 8 6 (0 : Int32)).bind fun σ19 => some σ19
noncomputable def f_X8_findToken_b5 (r0 : Nat) : XS → Option ((XS) ⊕ (XS)) := fun a => match a with
  | σ => (xgI σ r0 8 8).bind fun v2 => (xgI σ r0 8 4).bind fun v4 => if v4 ≤ v2 then ((f_X8_findToken_j43 σ r0).map .inr) else (xgI σ r0 8 8).bind fun v6 => (xck σ r0 8).bind fun _ => (f_X8_byteAt σ r0 v6).bind fun v9 => (f_X8_isBlank v9).bind fun v11 => if v11 = 0 then ((f_X8_findToken_j43 σ r0).map .inr) else (xgI σ r0 8 8).bind fun v13 => (xpI σ r0 8 8 (v13 + (1 : Int32))).bind fun σ15 => some (.inl σ15)
noncomputable def f_X8_findToken (σ : XS) (r0 : Nat) (x1 : Int32) : Option XS := (xpI σ r0 8 8 x1).bind fun σ2 => xloop (f_X8_findToken_b5 r0) σ2
theorem s_X8_findToken_j43 {G : XG} (C : XC G cX8_findToken RX8 none 3 6 127) {σ : XS} {r0 : Nat} {x : XS} (hf : f_X8_findToken_j43 σ r0 = some x) (hk : XEnd G none x) : WW G 43 [(0, .ref (gB G + r0))] [] σ := by
  refine ww_aload_n (pc := 43) C 0 dX8_findToken_43 rfl ?_
  refine ww_aload_n (pc := 44) C 0 dX8_findToken_44 rfl ?_
  obtain ⟨v2, e1, hf⟩ := xbd hf
  refine gf_X8_52 (pc := 45) C e1 dX8_findToken_45 ?_
  obtain ⟨_, e3, hf⟩ := xbd hf
  obtain ⟨v5, e4, hf⟩ := xbd hf
  refine ww_callVi (pc := 48) (as := [.int v2]) (st := []) C (k_X8_byteAt (l := gl G) (E := gE G) (hb := gB G) (σ := σ) e4) rfl (by decide) xc_X8_55 q480 qp6 (xck_spec e3) rfl (by decide) (xst4 (Nat.le_of_ble_eq_true rfl)) xsame.rf.le xsame.rf.lim dX8_findToken_48 ?_
  refine ww_istore_n (pc := 51) (lv' := [(2, .int v5), (0, .ref (gB G + r0))]) C dX8_findToken_51 (by decide) rfl ?_
  refine ww_aload_n (pc := 52) C 1 dX8_findToken_52 rfl ?_
  refine ww_aload_n (pc := 53) C 1 dX8_findToken_53 rfl ?_
  obtain ⟨v7, e6, hf⟩ := xbd hf
  refine gf_X8_52 (pc := 54) C e6 dX8_findToken_54 ?_
  refine ww_iconst (pc := 57) (v := (1 : Int32)) C dX8_findToken_57 (by decide) ?_
  refine ww_iadd (pc := 58) C dX8_findToken_58 ?_
  obtain ⟨σ9, e8, hf⟩ := xbd hf
  refine pf_X8_32 (pc := 59) C e8 dX8_findToken_59 ?_
  refine ww_aload_n (pc := 62) C 1 dX8_findToken_62 rfl ?_
  obtain ⟨v11, e10, hf⟩ := xbd hf
  refine gf_X8_52 (pc := 63) C e10 dX8_findToken_63 ?_
  refine ww_aload_n (pc := 66) C 1 dX8_findToken_66 rfl ?_
  obtain ⟨v13, e12, hf⟩ := xbd hf
  refine gf_X8_25 (pc := 67) C e12 dX8_findToken_67 ?_
  refine ww_icmp_lt (pc := 70) (tgt := 89) C dX8_findToken_70 (by decide) (fun q => ?_) (fun q => ?_)
  · have hf := xip q hf
    refine ww_iload_n (pc := 89) C 0 dX8_findToken_89 rfl ?_
    obtain ⟨v15, e14, hf⟩ := xbd hf
    refine ww_callSi (pc := 90) (as := [.int v5]) (st := []) C (k_X8_isLetter (l := gl G) (E := gE G) (hb := gB G) (σ := σ9) e14) xc_X8_63 q486 rfl (by decide) (xst4 (Nat.le_of_ble_eq_true rfl)) xsame.rf.le xsame.rf.lim dX8_findToken_90 ?_
    refine ww_if_eq (pc := 93) (tgt := 111) C dX8_findToken_93 (by decide) (fun q => ?_) (fun q => ?_)
    · have hf := xip q hf
      refine ww_iload_n (pc := 111) C 0 dX8_findToken_111 rfl ?_
      obtain ⟨v17, e16, hf⟩ := xbd hf
      refine ww_callSi (pc := 112) (as := [.int v5]) (st := []) C (k_X8_isDigit (l := gl G) (E := gE G) (hb := gB G) (σ := σ9) e16) xc_X8_73 q560 rfl (by decide) (xst4 (Nat.le_of_ble_eq_true rfl)) xsame.rf.le xsame.rf.lim dX8_findToken_112 ?_
      refine ww_if_eq (pc := 115) (tgt := 125) C dX8_findToken_115 (by decide) (fun q => ?_) (fun q => ?_)
      · have hf := xip q hf
        refine ww_aload_n (pc := 125) C 1 dX8_findToken_125 rfl ?_
        refine ww_iload_n (pc := 126) C 0 dX8_findToken_126 rfl ?_
        refine ww_bipush (pc := 127) (v := (45 : Int32)) C dX8_findToken_127 (by decide) ?_
        refine ww_icmp_ne (pc := 129) (tgt := 136) C dX8_findToken_129 (by decide) (fun q => ?_) (fun q => ?_)
        · have hf := xin q hf
          refine ww_iload_n (pc := 136) C 0 dX8_findToken_136 rfl ?_
          refine ww_bipush (pc := 137) (v := (59 : Int32)) C dX8_findToken_137 (by decide) ?_
          refine ww_icmp_ne (pc := 139) (tgt := 146) C dX8_findToken_139 (by decide) (fun q => ?_) (fun q => ?_)
          · have hf := xin q hf
            refine ww_iconst (pc := 146) (v := (1 : Int32)) C dX8_findToken_146 (by decide) ?_
            obtain ⟨σ19, e18, hf⟩ := xbd hf
            refine pf_X8_39 (pc := 147) C e18 dX8_findToken_147 ?_
            have hf := xsj hf
            subst hf
            exact ww_vret (pc := 150) C hk dX8_findToken_150
          · have hf := xip q hf
            refine ww_iconst (pc := 142) (v := (4 : Int32)) C dX8_findToken_142 (by decide) ?_
            refine ww_goto (pc := 143) (tgt := 147) C dX8_findToken_143 (by decide) ?_
            obtain ⟨σ19, e18, hf⟩ := xbd hf
            refine pf_X8_39 (pc := 147) C e18 dX8_findToken_147 ?_
            have hf := xsj hf
            subst hf
            exact ww_vret (pc := 150) C hk dX8_findToken_150
        · have hf := xip q hf
          refine ww_iconst (pc := 132) (v := (3 : Int32)) C dX8_findToken_132 (by decide) ?_
          refine ww_goto (pc := 133) (tgt := 147) C dX8_findToken_133 (by decide) ?_
          obtain ⟨σ19, e18, hf⟩ := xbd hf
          refine pf_X8_39 (pc := 147) C e18 dX8_findToken_147 ?_
          have hf := xsj hf
          subst hf
          exact ww_vret (pc := 150) C hk dX8_findToken_150
      · have hf := xin q hf
        refine ww_aload_n (pc := 118) C 1 dX8_findToken_118 rfl ?_
        obtain ⟨_, e18, hf⟩ := xbd hf
        obtain ⟨σ20, e19, hf⟩ := xbd hf
        refine ww_callVv (pc := 119) (as := []) (st := []) C (k_X8_findInt (l := gl G) (E := gE G) (hb := gB G) (σ := σ9) e19) rfl (by decide) xc_X8_76 q564 qp10 (xck_spec e18) rfl (by decide) (xst4 (Nat.le_of_ble_eq_true rfl)) (m_X8_findInt e19).le (m_X8_findInt e19).lim dX8_findToken_119 ?_
        refine ww_goto (pc := 122) (tgt := 150) C dX8_findToken_122 (by decide) ?_
        have hf := xsj hf
        subst hf
        exact ww_vret (pc := 150) C hk dX8_findToken_150
    · have hf := xin q hf
      refine ww_aload_n (pc := 96) C 1 dX8_findToken_96 rfl ?_
      obtain ⟨_, e16, hf⟩ := xbd hf
      obtain ⟨σ18, e17, hf⟩ := xbd hf
      refine ww_callVv (pc := 97) (as := []) (st := []) C (k_X8_skipLetters (l := gl G) (E := gE G) (hb := gB G) (σ := σ9) e17) rfl (by decide) xc_X8_66 q490 qp7 (xck_spec e16) rfl (by decide) (xst4 (Nat.le_of_ble_eq_true rfl)) (m_X8_skipLetters e17).le (m_X8_skipLetters e17).lim dX8_findToken_97 ?_
      refine ww_aload_n (pc := 100) C 1 dX8_findToken_100 rfl ?_
      refine ww_aload_n (pc := 101) C 1 dX8_findToken_101 rfl ?_
      obtain ⟨_, e19, hf⟩ := xbd hf
      obtain ⟨v21, e20, hf⟩ := xbd hf
      refine ww_callVi (pc := 102) (as := []) (st := [.ref (gB G + r0)]) C (k_X8_wordKind (l := gl G) (E := gE G) (hb := gB G) (σ := σ18) e20) rfl (by decide) xc_X8_69 q494 qp8 (xck_spec e19) rfl (by decide) (xst4 (Nat.le_of_ble_eq_true rfl)) xsame.rf.le xsame.rf.lim dX8_findToken_102 ?_
      obtain ⟨σ23, e22, hf⟩ := xbd hf
      refine pf_X8_39 (pc := 105) C e22 dX8_findToken_105 ?_
      refine ww_goto (pc := 108) (tgt := 150) C dX8_findToken_108 (by decide) ?_
      have hf := xsj hf
      subst hf
      exact ww_vret (pc := 150) C hk dX8_findToken_150
  · have hf := xin q hf
    refine ww_aload_n (pc := 73) C 1 dX8_findToken_73 rfl ?_
    refine ww_aload_n (pc := 74) C 1 dX8_findToken_74 rfl ?_
    obtain ⟨v15, e14, hf⟩ := xbd hf
    refine gf_X8_25 (pc := 75) C e14 dX8_findToken_75 ?_
    obtain ⟨σ17, e16, hf⟩ := xbd hf
    refine pf_X8_32 (pc := 78) C e16 dX8_findToken_78 ?_
    refine ww_aload_n (pc := 81) C 1 dX8_findToken_81 rfl ?_
    refine ww_iconst (pc := 82) (v := (0 : Int32)) C dX8_findToken_82 (by decide) ?_
    obtain ⟨σ19, e18, hf⟩ := xbd hf
    refine pf_X8_39 (pc := 83) C e18 dX8_findToken_83 ?_
    refine ww_goto (pc := 86) (tgt := 150) C dX8_findToken_86 (by decide) ?_
    have hf := xsj hf
    subst hf
    exact ww_vret (pc := 150) C hk dX8_findToken_150
theorem m_X8_findToken_j43 {σ : XS} {r0 : Nat} {x : XS} (hf : f_X8_findToken_j43 σ r0 = some x) : xsame σ x := by
  have hm := xsame.rf (σ := σ)
  obtain ⟨v2, e1, hf⟩ := xbd hf
  obtain ⟨_, e3, hf⟩ := xbd hf
  obtain ⟨v5, e4, hf⟩ := xbd hf
  obtain ⟨v7, e6, hf⟩ := xbd hf
  obtain ⟨σ9, e8, hf⟩ := xbd hf
  have hm := hm.tr (xpI_same e8)
  obtain ⟨v11, e10, hf⟩ := xbd hf
  obtain ⟨v13, e12, hf⟩ := xbd hf
  by_cases q : v11 < v13
  · have hf := xip q hf
    obtain ⟨v15, e14, hf⟩ := xbd hf
    by_cases q : v15 = 0
    · have hf := xip q hf
      obtain ⟨v17, e16, hf⟩ := xbd hf
      by_cases q : v17 = 0
      · have hf := xip q hf
        by_cases q : v5 = (45 : Int32)
        · have hf := xip q hf
          obtain ⟨σ19, e18, hf⟩ := xbd hf
          have hm := hm.tr (xpI_same e18)
          have hf := xsj hf
          subst hf
          exact hm
        · have hf := xin q hf
          by_cases q : v5 = (59 : Int32)
          · have hf := xip q hf
            obtain ⟨σ19, e18, hf⟩ := xbd hf
            have hm := hm.tr (xpI_same e18)
            have hf := xsj hf
            subst hf
            exact hm
          · have hf := xin q hf
            obtain ⟨σ19, e18, hf⟩ := xbd hf
            have hm := hm.tr (xpI_same e18)
            have hf := xsj hf
            subst hf
            exact hm
      · have hf := xin q hf
        obtain ⟨_, e18, hf⟩ := xbd hf
        obtain ⟨σ20, e19, hf⟩ := xbd hf
        have hm := hm.tr (m_X8_findInt e19)
        have hf := xsj hf
        subst hf
        exact hm
    · have hf := xin q hf
      obtain ⟨_, e16, hf⟩ := xbd hf
      obtain ⟨σ18, e17, hf⟩ := xbd hf
      have hm := hm.tr (m_X8_skipLetters e17)
      obtain ⟨_, e19, hf⟩ := xbd hf
      obtain ⟨v21, e20, hf⟩ := xbd hf
      obtain ⟨σ23, e22, hf⟩ := xbd hf
      have hm := hm.tr (xpI_same e22)
      have hf := xsj hf
      subst hf
      exact hm
  · have hf := xin q hf
    obtain ⟨v15, e14, hf⟩ := xbd hf
    obtain ⟨σ17, e16, hf⟩ := xbd hf
    have hm := hm.tr (xpI_same e16)
    obtain ⟨σ19, e18, hf⟩ := xbd hf
    have hm := hm.tr (xpI_same e18)
    have hf := xsj hf
    subst hf
    exact hm
theorem m_X8_findToken_l5 {r0 : Nat} {a : XS} {x : XS} (hf : xloop (f_X8_findToken_b5 r0) a = some x) : xsame a x := by
  refine xloop_ind (P := fun a => xsame a x) (fun a y hf hc he => ?_) hf
  obtain ⟨σ, rfl⟩ : ∃ z, z = a := ⟨_, rfl⟩
  have hy : (∀ a' : XS, y = .inl a' → xsame σ a') ∧ (∀ b1 : XS, y = .inr b1 → xsame σ b1) := by
    have hm := xsame.rf (σ := σ)
    obtain ⟨v2, e1, hf⟩ := xbd hf
    obtain ⟨v4, e3, hf⟩ := xbd hf
    by_cases q : v4 ≤ v2
    · have hf := xip q hf
      obtain ⟨b0, hg, e9⟩ := xmj hf
      subst e9
      have hf := hg
      refine ⟨fun a' e => xnc2 e, fun b e => ?_⟩
      have h9 := Sum.inr.inj e
      subst h9
      exact hm.tr (m_X8_findToken_j43 hf)
    · have hf := xin q hf
      obtain ⟨v6, e5, hf⟩ := xbd hf
      obtain ⟨_, e7, hf⟩ := xbd hf
      obtain ⟨v9, e8, hf⟩ := xbd hf
      obtain ⟨v11, e10, hf⟩ := xbd hf
      by_cases q : v11 = 0
      · have hf := xip q hf
        obtain ⟨b0, hg, e9⟩ := xmj hf
        subst e9
        have hf := hg
        refine ⟨fun a' e => xnc2 e, fun b e => ?_⟩
        have h9 := Sum.inr.inj e
        subst h9
        exact hm.tr (m_X8_findToken_j43 hf)
      · have hf := xin q hf
        obtain ⟨v13, e12, hf⟩ := xbd hf
        obtain ⟨σ15, e14, hf⟩ := xbd hf
        have hm := hm.tr (xpI_same e14)
        have hf := xsj hf
        subst hf
        exact ⟨fun a' e => (by have h9 := Sum.inl.inj e; subst h9; exact hm), fun b e => xnc1 e⟩
  cases y with
  | inl a' =>
    have h1 := hc a' rfl
    have hm := hy.1 a' rfl
    exact hm.tr (h1)
  | inr b =>
    have h1 := he b rfl
    subst h1
    exact hy.2 _ rfl
theorem s_X8_findToken_l5 {G : XG} (C : XC G cX8_findToken RX8 none 3 6 127) {r0 : Nat} {a : XS} {x : XS} (hf : xloop (f_X8_findToken_b5 r0) a = some x) (hk : XEnd G none x) : WW G 5 [(0, .ref (gB G + r0))] [] a := by
  refine xloop_ind (P := fun a => WW G 5 [(0, .ref (gB G + r0))] [] a) (fun a y hf hc he => ?_) hf
  obtain ⟨σ, rfl⟩ : ∃ z, z = a := ⟨_, rfl⟩
  have hk : (∀ a' : XS, y = .inl a' → WW G 5 [(0, .ref (gB G + r0))] [] a') ∧ (∀ b1 : XS, y = .inr b1 → XEnd G none b1) := ⟨hc, fun b e => by have h9 := he b e; subst h9; exact hk⟩
  refine ww_aload_n (pc := 5) C 0 dX8_findToken_5 rfl ?_
  obtain ⟨v2, e1, hf⟩ := xbd hf
  refine gf_X8_52 (pc := 6) C e1 dX8_findToken_6 ?_
  refine ww_aload_n (pc := 9) C 0 dX8_findToken_9 rfl ?_
  obtain ⟨v4, e3, hf⟩ := xbd hf
  refine gf_X8_25 (pc := 10) C e3 dX8_findToken_10 ?_
  refine ww_icmp_ge (pc := 13) (tgt := 43) C dX8_findToken_13 (by decide) (fun q => ?_) (fun q => ?_)
  · have hf := xip q hf
    obtain ⟨b0, hg, e9⟩ := xmj hf
    subst e9
    have hf := hg
    have hk := hk.2 _ rfl
    refine ww_sub [0] rfl ?_
    exact s_X8_findToken_j43 C hf hk
  · have hf := xin q hf
    refine ww_aload_n (pc := 16) C 0 dX8_findToken_16 rfl ?_
    refine ww_aload_n (pc := 17) C 0 dX8_findToken_17 rfl ?_
    obtain ⟨v6, e5, hf⟩ := xbd hf
    refine gf_X8_52 (pc := 18) C e5 dX8_findToken_18 ?_
    obtain ⟨_, e7, hf⟩ := xbd hf
    obtain ⟨v9, e8, hf⟩ := xbd hf
    refine ww_callVi (pc := 21) (as := [.int v6]) (st := []) C (k_X8_byteAt (l := gl G) (E := gE G) (hb := gB G) (σ := σ) e8) rfl (by decide) xc_X8_55 q480 qp6 (xck_spec e7) rfl (by decide) (xst4 (Nat.le_of_ble_eq_true rfl)) xsame.rf.le xsame.rf.lim dX8_findToken_21 ?_
    obtain ⟨v11, e10, hf⟩ := xbd hf
    refine ww_callSi (pc := 24) (as := [.int v9]) (st := []) C (k_X8_isBlank (l := gl G) (E := gE G) (hb := gB G) (σ := σ) e10) xc_X8_59 q483 rfl (by decide) (xst4 (Nat.le_of_ble_eq_true rfl)) xsame.rf.le xsame.rf.lim dX8_findToken_24 ?_
    refine ww_if_eq (pc := 27) (tgt := 43) C dX8_findToken_27 (by decide) (fun q => ?_) (fun q => ?_)
    · have hf := xip q hf
      obtain ⟨b0, hg, e9⟩ := xmj hf
      subst e9
      have hf := hg
      have hk := hk.2 _ rfl
      refine ww_sub [0] rfl ?_
      exact s_X8_findToken_j43 C hf hk
    · have hf := xin q hf
      refine ww_aload_n (pc := 30) C 0 dX8_findToken_30 rfl ?_
      refine ww_dup (pc := 31) C dX8_findToken_31 rfl ?_
      obtain ⟨v13, e12, hf⟩ := xbd hf
      refine gf_X8_52 (pc := 32) C e12 dX8_findToken_32 ?_
      refine ww_iconst (pc := 35) (v := (1 : Int32)) C dX8_findToken_35 (by decide) ?_
      refine ww_iadd (pc := 36) C dX8_findToken_36 ?_
      obtain ⟨σ15, e14, hf⟩ := xbd hf
      refine pf_X8_52 (pc := 37) C e14 dX8_findToken_37 ?_
      refine ww_goto (pc := 40) (tgt := 5) C dX8_findToken_40 (by decide) ?_
      have hf := xsj hf
      subst hf
      refine ww_sub [0] rfl ?_
      exact hk.1 σ15 rfl
theorem s_X8_findToken_e {G : XG} (C : XC G cX8_findToken RX8 none 3 6 127) {σ : XS} {r0 : Nat} {x1 : Int32} {x : XS} (hf : f_X8_findToken σ r0 x1 = some x) (hk : XEnd G none x) : WW G 0 [(0, .ref (gB G + r0)), (1, .int x1)] [] σ := by
  refine ww_aload_n (pc := 0) C 0 dX8_findToken_0 rfl ?_
  refine ww_iload_n (pc := 1) C 1 dX8_findToken_1 rfl ?_
  obtain ⟨σ2, e1, hf⟩ := xbd hf
  refine pf_X8_52 (pc := 2) C e1 dX8_findToken_2 ?_
  refine ww_sub [0] rfl ?_
  exact s_X8_findToken_l5 C (a := σ2) hf hk
theorem m_X8_findToken {σ : XS} {r0 : Nat} {x1 : Int32} {x : XS} (hf : f_X8_findToken σ r0 x1 = some x) : xsame σ x := by
  have hm := xsame.rf (σ := σ)
  obtain ⟨σ2, e1, hf⟩ := xbd hf
  have hm := hm.tr (xpI_same e1)
  exact hm.tr (m_X8_findToken_l5 (a := σ2) hf)
theorem k_X8_findToken {l : Launch} {E : XD} {hb : Nat} {σ : XS} {r0 : Nat} {x1 : Int32} {x : XS} (h : f_X8_findToken σ r0 x1 = some x) : XM l yX8_findToken cX8_findToken 3 none 6 127 E hb [.ref (hb + r0), .int x1] σ none x := by
  refine xm_of (by decide) (Nat.le_of_ble_eq_true rfl) (m_X8_findToken h).le (fun G hG C hl hQ => ?_)
  obtain ⟨rfl, rfl, rfl, hN⟩ := hG
  exact s_X8_findToken_e C h hQ
noncomputable def f_X8_wantInTell (x0 : Int32) : Option Int32 := xsw x0 (6) [some (5 : Int32), some (5 : Int32), some (5 : Int32), some (7 : Int32), some (8 : Int32), some (10 : Int32), some (11 : Int32), some (-1 : Int32), some (-1 : Int32), some (13 : Int32)] (some (-1 : Int32))
theorem s_X8_wantInTell_e {G : XG} (C : XC G cX8_wantInTell RX8 (some .int) 1 0 0) {σ : XS} {x0 : Int32} {x : Int32} (hf : f_X8_wantInTell x0 = some x) (hk : XEnd G (some (.int x)) σ) : WW G 0 [(0, .int x0)] [] σ := by
  refine ww_iload_n (pc := 0) C 0 dX8_wantInTell_0 rfl ?_
  refine ww_table (pc := 1) C dX8_wantInTell_1 (fun k hk1 hk2 => ?_) (fun ho => ?_)
  · rcases (by omega : k = 0 ∨ k = 1 ∨ k = 2 ∨ k = 3 ∨ k = 4 ∨ k = 5 ∨ k = 6 ∨ k = 7 ∨ k = 8 ∨ k = 9) with rfl | rfl | rfl | rfl | rfl | rfl | rfl | rfl | rfl | rfl
    · refine ⟨56, 55, rfl, by decide, ?_⟩
      have hf := xsw_in 0 hk1 rfl hf
      refine ww_iconst (pc := 56) (v := (5 : Int32)) C dX8_wantInTell_56 (by decide) ?_
      have hf := xsj hf
      subst hf
      exact ww_iret (pc := 57) C hk dX8_wantInTell_57
    · refine ⟨58, 57, rfl, by decide, ?_⟩
      have hf := xsw_in 1 hk1 rfl hf
      refine ww_iconst (pc := 58) (v := (5 : Int32)) C dX8_wantInTell_58 (by decide) ?_
      have hf := xsj hf
      subst hf
      exact ww_iret (pc := 59) C hk dX8_wantInTell_59
    · refine ⟨60, 59, rfl, by decide, ?_⟩
      have hf := xsw_in 2 hk1 rfl hf
      refine ww_iconst (pc := 60) (v := (5 : Int32)) C dX8_wantInTell_60 (by decide) ?_
      have hf := xsj hf
      subst hf
      exact ww_iret (pc := 61) C hk dX8_wantInTell_61
    · refine ⟨62, 61, rfl, by decide, ?_⟩
      have hf := xsw_in 3 hk1 rfl hf
      refine ww_bipush (pc := 62) (v := (7 : Int32)) C dX8_wantInTell_62 (by decide) ?_
      have hf := xsj hf
      subst hf
      exact ww_iret (pc := 64) C hk dX8_wantInTell_64
    · refine ⟨65, 64, rfl, by decide, ?_⟩
      have hf := xsw_in 4 hk1 rfl hf
      refine ww_bipush (pc := 65) (v := (8 : Int32)) C dX8_wantInTell_65 (by decide) ?_
      have hf := xsj hf
      subst hf
      exact ww_iret (pc := 67) C hk dX8_wantInTell_67
    · refine ⟨68, 67, rfl, by decide, ?_⟩
      have hf := xsw_in 5 hk1 rfl hf
      refine ww_bipush (pc := 68) (v := (10 : Int32)) C dX8_wantInTell_68 (by decide) ?_
      have hf := xsj hf
      subst hf
      exact ww_iret (pc := 70) C hk dX8_wantInTell_70
    · refine ⟨71, 70, rfl, by decide, ?_⟩
      have hf := xsw_in 6 hk1 rfl hf
      refine ww_bipush (pc := 71) (v := (11 : Int32)) C dX8_wantInTell_71 (by decide) ?_
      have hf := xsj hf
      subst hf
      exact ww_iret (pc := 73) C hk dX8_wantInTell_73
    · refine ⟨77, 76, rfl, by decide, ?_⟩
      have hf := xsw_in 7 hk1 rfl hf
      refine ww_iconst (pc := 77) (v := (-1 : Int32)) C dX8_wantInTell_77 (by decide) ?_
      have hf := xsj hf
      subst hf
      exact ww_iret (pc := 78) C hk dX8_wantInTell_78
    · refine ⟨77, 76, rfl, by decide, ?_⟩
      have hf := xsw_in 8 hk1 rfl hf
      refine ww_iconst (pc := 77) (v := (-1 : Int32)) C dX8_wantInTell_77 (by decide) ?_
      have hf := xsj hf
      subst hf
      exact ww_iret (pc := 78) C hk dX8_wantInTell_78
    · refine ⟨74, 73, rfl, by decide, ?_⟩
      have hf := xsw_in 9 hk1 rfl hf
      refine ww_bipush (pc := 74) (v := (13 : Int32)) C dX8_wantInTell_74 (by decide) ?_
      have hf := xsj hf
      subst hf
      exact ww_iret (pc := 76) C hk dX8_wantInTell_76
  · refine ⟨77, by decide, ?_⟩
    have hf := xsw_out ho rfl hf
    refine ww_iconst (pc := 77) (v := (-1 : Int32)) C dX8_wantInTell_77 (by decide) ?_
    have hf := xsj hf
    subst hf
    exact ww_iret (pc := 78) C hk dX8_wantInTell_78
theorem k_X8_wantInTell {l : Launch} {E : XD} {hb : Nat} {σ : XS} {x0 : Int32} {x : Int32} (h : f_X8_wantInTell x0 = some x) : XM l yX8_wantInTell cX8_wantInTell 1 (some .int) 0 0 E hb [.int x0] σ (some (.int x)) σ := by
  refine xm_of (by decide) (Nat.le_of_ble_eq_true rfl) ⟨Nat.le_refl _, Nat.le_refl _⟩ (fun G hG C hl hQ => ?_)
  obtain ⟨rfl, rfl, rfl, hN⟩ := hG
  exact s_X8_wantInTell_e C h hQ
noncomputable def f_X8_wantBehind_j28 (x0 : Int32) (x1 : Int32) (x2 : Int32) (t0 : Int32) : Option Int32 := xsw x0 (0) [if x1 = (5 : Int32) then (some (1 : Int32)) else some (-1 : Int32), if x2 = 0 then (some (-1 : Int32)) else some (2 : Int32), if x2 = 0 then (some (-1 : Int32)) else some (3 : Int32), if x1 = (4 : Int32) then (some (4 : Int32)) else some (-1 : Int32), (f_X8_wantInTell x1).bind fun v2 => some v2, if x1 = (3 : Int32) then (some (6 : Int32)) else if x2 = 0 then (some (-1 : Int32)) else some (3 : Int32), if x2 = 0 then (some (-1 : Int32)) else some (3 : Int32), if t0 = 0 then (some (-1 : Int32)) else some (3 : Int32), if x2 = 0 then (some (-1 : Int32)) else some (9 : Int32), if t0 = 0 then (some (-1 : Int32)) else some (5 : Int32), if x2 = 0 then (some (-1 : Int32)) else some (5 : Int32), if x2 = 0 then (some (-1 : Int32)) else some (12 : Int32), if x1 = (13 : Int32) then (some (3 : Int32)) else if x1 = (14 : Int32) then (some (3 : Int32)) else some (-1 : Int32), if x2 = 0 then (some (-1 : Int32)) else some (3 : Int32)] (some (-1 : Int32))
noncomputable def f_X8_wantBehind_j10 (x0 : Int32) (x1 : Int32) (t0 : Int32) : Option Int32 := if x1 = (6 : Int32) then (f_X8_wantBehind_j28 x0 x1 t0 (1 : Int32)) else if x1 = (7 : Int32) then (f_X8_wantBehind_j28 x0 x1 t0 (1 : Int32)) else f_X8_wantBehind_j28 x0 x1 t0 (0 : Int32)
noncomputable def f_X8_wantBehind (x0 : Int32) (x1 : Int32) : Option Int32 := if x1 = (2 : Int32) then (f_X8_wantBehind_j10 x0 x1 (1 : Int32)) else f_X8_wantBehind_j10 x0 x1 (0 : Int32)
theorem s_X8_wantBehind_j28 {G : XG} (C : XC G cX8_wantBehind RX8 (some .int) 4 1 20) {σ : XS} {x0 : Int32} {x1 : Int32} {x2 : Int32} {t0 : Int32} {x : Int32} (hf : f_X8_wantBehind_j28 x0 x1 x2 t0 = some x) (hk : XEnd G (some (.int x)) σ) : WW G 28 [(0, .int x0), (1, .int x1), (2, .int x2)] [.int t0] σ := by
  refine ww_istore_n (pc := 28) (lv' := [(3, .int t0), (0, .int x0), (1, .int x1), (2, .int x2)]) C dX8_wantBehind_28 (by decide) rfl ?_
  refine ww_iload_n (pc := 29) C 1 dX8_wantBehind_29 rfl ?_
  refine ww_table (pc := 30) C dX8_wantBehind_30 (fun k hk1 hk2 => ?_) (fun ho => ?_)
  · rcases (by omega : k = 0 ∨ k = 1 ∨ k = 2 ∨ k = 3 ∨ k = 4 ∨ k = 5 ∨ k = 6 ∨ k = 7 ∨ k = 8 ∨ k = 9 ∨ k = 10 ∨ k = 11 ∨ k = 12 ∨ k = 13) with rfl | rfl | rfl | rfl | rfl | rfl | rfl | rfl | rfl | rfl | rfl | rfl | rfl | rfl
    · refine ⟨100, 70, rfl, by decide, ?_⟩
      have hf := xsw_in 0 hk1 rfl hf
      refine ww_iload_n (pc := 100) C 2 dX8_wantBehind_100 rfl ?_
      refine ww_iconst (pc := 101) (v := (5 : Int32)) C dX8_wantBehind_101 (by decide) ?_
      refine ww_icmp_ne (pc := 102) (tgt := 109) C dX8_wantBehind_102 (by decide) (fun q => ?_) (fun q => ?_)
      · have hf := xin q hf
        refine ww_iconst (pc := 109) (v := (-1 : Int32)) C dX8_wantBehind_109 (by decide) ?_
        have hf := xsj hf
        subst hf
        exact ww_iret (pc := 110) C hk dX8_wantBehind_110
      · have hf := xip q hf
        refine ww_iconst (pc := 105) (v := (1 : Int32)) C dX8_wantBehind_105 (by decide) ?_
        refine ww_goto (pc := 106) (tgt := 110) C dX8_wantBehind_106 (by decide) ?_
        have hf := xsj hf
        subst hf
        exact ww_iret (pc := 110) C hk dX8_wantBehind_110
    · refine ⟨111, 81, rfl, by decide, ?_⟩
      have hf := xsw_in 1 hk1 rfl hf
      refine ww_iload_n (pc := 111) C 3 dX8_wantBehind_111 rfl ?_
      refine ww_if_eq (pc := 112) (tgt := 119) C dX8_wantBehind_112 (by decide) (fun q => ?_) (fun q => ?_)
      · have hf := xip q hf
        refine ww_iconst (pc := 119) (v := (-1 : Int32)) C dX8_wantBehind_119 (by decide) ?_
        have hf := xsj hf
        subst hf
        exact ww_iret (pc := 120) C hk dX8_wantBehind_120
      · have hf := xin q hf
        refine ww_iconst (pc := 115) (v := (2 : Int32)) C dX8_wantBehind_115 (by decide) ?_
        refine ww_goto (pc := 116) (tgt := 120) C dX8_wantBehind_116 (by decide) ?_
        have hf := xsj hf
        subst hf
        exact ww_iret (pc := 120) C hk dX8_wantBehind_120
    · refine ⟨121, 91, rfl, by decide, ?_⟩
      have hf := xsw_in 2 hk1 rfl hf
      refine ww_iload_n (pc := 121) C 3 dX8_wantBehind_121 rfl ?_
      refine ww_if_eq (pc := 122) (tgt := 129) C dX8_wantBehind_122 (by decide) (fun q => ?_) (fun q => ?_)
      · have hf := xip q hf
        refine ww_iconst (pc := 129) (v := (-1 : Int32)) C dX8_wantBehind_129 (by decide) ?_
        have hf := xsj hf
        subst hf
        exact ww_iret (pc := 130) C hk dX8_wantBehind_130
      · have hf := xin q hf
        refine ww_iconst (pc := 125) (v := (3 : Int32)) C dX8_wantBehind_125 (by decide) ?_
        refine ww_goto (pc := 126) (tgt := 130) C dX8_wantBehind_126 (by decide) ?_
        have hf := xsj hf
        subst hf
        exact ww_iret (pc := 130) C hk dX8_wantBehind_130
    · refine ⟨131, 101, rfl, by decide, ?_⟩
      have hf := xsw_in 3 hk1 rfl hf
      refine ww_iload_n (pc := 131) C 2 dX8_wantBehind_131 rfl ?_
      refine ww_iconst (pc := 132) (v := (4 : Int32)) C dX8_wantBehind_132 (by decide) ?_
      refine ww_icmp_ne (pc := 133) (tgt := 140) C dX8_wantBehind_133 (by decide) (fun q => ?_) (fun q => ?_)
      · have hf := xin q hf
        refine ww_iconst (pc := 140) (v := (-1 : Int32)) C dX8_wantBehind_140 (by decide) ?_
        have hf := xsj hf
        subst hf
        exact ww_iret (pc := 141) C hk dX8_wantBehind_141
      · have hf := xip q hf
        refine ww_iconst (pc := 136) (v := (4 : Int32)) C dX8_wantBehind_136 (by decide) ?_
        refine ww_goto (pc := 137) (tgt := 141) C dX8_wantBehind_137 (by decide) ?_
        have hf := xsj hf
        subst hf
        exact ww_iret (pc := 141) C hk dX8_wantBehind_141
    · refine ⟨142, 112, rfl, by decide, ?_⟩
      have hf := xsw_in 4 hk1 rfl hf
      refine ww_iload_n (pc := 142) C 2 dX8_wantBehind_142 rfl ?_
      obtain ⟨v2, e1, hf⟩ := xbd hf
      refine ww_callSi (pc := 143) (as := [.int x1]) (st := []) C (k_X8_wantInTell (l := gl G) (E := gE G) (hb := gB G) (σ := σ) e1) xc_X8_113 q570 rfl (by decide) (xst4 (Nat.le_of_ble_eq_true rfl)) xsame.rf.le xsame.rf.lim dX8_wantBehind_143 ?_
      have hf := xsj hf
      subst hf
      exact ww_iret (pc := 146) C hk dX8_wantBehind_146
    · refine ⟨147, 117, rfl, by decide, ?_⟩
      have hf := xsw_in 5 hk1 rfl hf
      refine ww_iload_n (pc := 147) C 2 dX8_wantBehind_147 rfl ?_
      refine ww_iconst (pc := 148) (v := (3 : Int32)) C dX8_wantBehind_148 (by decide) ?_
      refine ww_icmp_ne (pc := 149) (tgt := 157) C dX8_wantBehind_149 (by decide) (fun q => ?_) (fun q => ?_)
      · have hf := xin q hf
        refine ww_iload_n (pc := 157) C 3 dX8_wantBehind_157 rfl ?_
        refine ww_if_eq (pc := 158) (tgt := 165) C dX8_wantBehind_158 (by decide) (fun q => ?_) (fun q => ?_)
        · have hf := xip q hf
          refine ww_iconst (pc := 165) (v := (-1 : Int32)) C dX8_wantBehind_165 (by decide) ?_
          have hf := xsj hf
          subst hf
          exact ww_iret (pc := 166) C hk dX8_wantBehind_166
        · have hf := xin q hf
          refine ww_iconst (pc := 161) (v := (3 : Int32)) C dX8_wantBehind_161 (by decide) ?_
          refine ww_goto (pc := 162) (tgt := 166) C dX8_wantBehind_162 (by decide) ?_
          have hf := xsj hf
          subst hf
          exact ww_iret (pc := 166) C hk dX8_wantBehind_166
      · have hf := xip q hf
        refine ww_bipush (pc := 152) (v := (6 : Int32)) C dX8_wantBehind_152 (by decide) ?_
        refine ww_goto (pc := 154) (tgt := 166) C dX8_wantBehind_154 (by decide) ?_
        have hf := xsj hf
        subst hf
        exact ww_iret (pc := 166) C hk dX8_wantBehind_166
    · refine ⟨167, 137, rfl, by decide, ?_⟩
      have hf := xsw_in 6 hk1 rfl hf
      refine ww_iload_n (pc := 167) C 3 dX8_wantBehind_167 rfl ?_
      refine ww_if_eq (pc := 168) (tgt := 175) C dX8_wantBehind_168 (by decide) (fun q => ?_) (fun q => ?_)
      · have hf := xip q hf
        refine ww_iconst (pc := 175) (v := (-1 : Int32)) C dX8_wantBehind_175 (by decide) ?_
        have hf := xsj hf
        subst hf
        exact ww_iret (pc := 176) C hk dX8_wantBehind_176
      · have hf := xin q hf
        refine ww_iconst (pc := 171) (v := (3 : Int32)) C dX8_wantBehind_171 (by decide) ?_
        refine ww_goto (pc := 172) (tgt := 176) C dX8_wantBehind_172 (by decide) ?_
        have hf := xsj hf
        subst hf
        exact ww_iret (pc := 176) C hk dX8_wantBehind_176
    · refine ⟨177, 147, rfl, by decide, ?_⟩
      have hf := xsw_in 7 hk1 rfl hf
      refine ww_iload_n (pc := 177) C 0 dX8_wantBehind_177 rfl ?_
      refine ww_if_eq (pc := 178) (tgt := 185) C dX8_wantBehind_178 (by decide) (fun q => ?_) (fun q => ?_)
      · have hf := xip q hf
        refine ww_iconst (pc := 185) (v := (-1 : Int32)) C dX8_wantBehind_185 (by decide) ?_
        have hf := xsj hf
        subst hf
        exact ww_iret (pc := 186) C hk dX8_wantBehind_186
      · have hf := xin q hf
        refine ww_iconst (pc := 181) (v := (3 : Int32)) C dX8_wantBehind_181 (by decide) ?_
        refine ww_goto (pc := 182) (tgt := 186) C dX8_wantBehind_182 (by decide) ?_
        have hf := xsj hf
        subst hf
        exact ww_iret (pc := 186) C hk dX8_wantBehind_186
    · refine ⟨187, 157, rfl, by decide, ?_⟩
      have hf := xsw_in 8 hk1 rfl hf
      refine ww_iload_n (pc := 187) C 3 dX8_wantBehind_187 rfl ?_
      refine ww_if_eq (pc := 188) (tgt := 196) C dX8_wantBehind_188 (by decide) (fun q => ?_) (fun q => ?_)
      · have hf := xip q hf
        refine ww_iconst (pc := 196) (v := (-1 : Int32)) C dX8_wantBehind_196 (by decide) ?_
        have hf := xsj hf
        subst hf
        exact ww_iret (pc := 197) C hk dX8_wantBehind_197
      · have hf := xin q hf
        refine ww_bipush (pc := 191) (v := (9 : Int32)) C dX8_wantBehind_191 (by decide) ?_
        refine ww_goto (pc := 193) (tgt := 197) C dX8_wantBehind_193 (by decide) ?_
        have hf := xsj hf
        subst hf
        exact ww_iret (pc := 197) C hk dX8_wantBehind_197
    · refine ⟨198, 168, rfl, by decide, ?_⟩
      have hf := xsw_in 9 hk1 rfl hf
      refine ww_iload_n (pc := 198) C 0 dX8_wantBehind_198 rfl ?_
      refine ww_if_eq (pc := 199) (tgt := 206) C dX8_wantBehind_199 (by decide) (fun q => ?_) (fun q => ?_)
      · have hf := xip q hf
        refine ww_iconst (pc := 206) (v := (-1 : Int32)) C dX8_wantBehind_206 (by decide) ?_
        have hf := xsj hf
        subst hf
        exact ww_iret (pc := 207) C hk dX8_wantBehind_207
      · have hf := xin q hf
        refine ww_iconst (pc := 202) (v := (5 : Int32)) C dX8_wantBehind_202 (by decide) ?_
        refine ww_goto (pc := 203) (tgt := 207) C dX8_wantBehind_203 (by decide) ?_
        have hf := xsj hf
        subst hf
        exact ww_iret (pc := 207) C hk dX8_wantBehind_207
    · refine ⟨208, 178, rfl, by decide, ?_⟩
      have hf := xsw_in 10 hk1 rfl hf
      refine ww_iload_n (pc := 208) C 3 dX8_wantBehind_208 rfl ?_
      refine ww_if_eq (pc := 209) (tgt := 216) C dX8_wantBehind_209 (by decide) (fun q => ?_) (fun q => ?_)
      · have hf := xip q hf
        refine ww_iconst (pc := 216) (v := (-1 : Int32)) C dX8_wantBehind_216 (by decide) ?_
        have hf := xsj hf
        subst hf
        exact ww_iret (pc := 217) C hk dX8_wantBehind_217
      · have hf := xin q hf
        refine ww_iconst (pc := 212) (v := (5 : Int32)) C dX8_wantBehind_212 (by decide) ?_
        refine ww_goto (pc := 213) (tgt := 217) C dX8_wantBehind_213 (by decide) ?_
        have hf := xsj hf
        subst hf
        exact ww_iret (pc := 217) C hk dX8_wantBehind_217
    · refine ⟨218, 188, rfl, by decide, ?_⟩
      have hf := xsw_in 11 hk1 rfl hf
      refine ww_iload_n (pc := 218) C 3 dX8_wantBehind_218 rfl ?_
      refine ww_if_eq (pc := 219) (tgt := 227) C dX8_wantBehind_219 (by decide) (fun q => ?_) (fun q => ?_)
      · have hf := xip q hf
        refine ww_iconst (pc := 227) (v := (-1 : Int32)) C dX8_wantBehind_227 (by decide) ?_
        have hf := xsj hf
        subst hf
        exact ww_iret (pc := 228) C hk dX8_wantBehind_228
      · have hf := xin q hf
        refine ww_bipush (pc := 222) (v := (12 : Int32)) C dX8_wantBehind_222 (by decide) ?_
        refine ww_goto (pc := 224) (tgt := 228) C dX8_wantBehind_224 (by decide) ?_
        have hf := xsj hf
        subst hf
        exact ww_iret (pc := 228) C hk dX8_wantBehind_228
    · refine ⟨229, 199, rfl, by decide, ?_⟩
      have hf := xsw_in 12 hk1 rfl hf
      refine ww_iload_n (pc := 229) C 2 dX8_wantBehind_229 rfl ?_
      refine ww_bipush (pc := 230) (v := (13 : Int32)) C dX8_wantBehind_230 (by decide) ?_
      refine ww_icmp_eq (pc := 232) (tgt := 241) C dX8_wantBehind_232 (by decide) (fun q => ?_) (fun q => ?_)
      · have hf := xip q hf
        refine ww_iconst (pc := 241) (v := (3 : Int32)) C dX8_wantBehind_241 (by decide) ?_
        refine ww_goto (pc := 242) (tgt := 246) C dX8_wantBehind_242 (by decide) ?_
        have hf := xsj hf
        subst hf
        exact ww_iret (pc := 246) C hk dX8_wantBehind_246
      · have hf := xin q hf
        refine ww_iload_n (pc := 235) C 2 dX8_wantBehind_235 rfl ?_
        refine ww_bipush (pc := 236) (v := (14 : Int32)) C dX8_wantBehind_236 (by decide) ?_
        refine ww_icmp_ne (pc := 238) (tgt := 245) C dX8_wantBehind_238 (by decide) (fun q => ?_) (fun q => ?_)
        · have hf := xin q hf
          refine ww_iconst (pc := 245) (v := (-1 : Int32)) C dX8_wantBehind_245 (by decide) ?_
          have hf := xsj hf
          subst hf
          exact ww_iret (pc := 246) C hk dX8_wantBehind_246
        · have hf := xip q hf
          refine ww_iconst (pc := 241) (v := (3 : Int32)) C dX8_wantBehind_241 (by decide) ?_
          refine ww_goto (pc := 242) (tgt := 246) C dX8_wantBehind_242 (by decide) ?_
          have hf := xsj hf
          subst hf
          exact ww_iret (pc := 246) C hk dX8_wantBehind_246
    · refine ⟨247, 217, rfl, by decide, ?_⟩
      have hf := xsw_in 13 hk1 rfl hf
      refine ww_iload_n (pc := 247) C 3 dX8_wantBehind_247 rfl ?_
      refine ww_if_eq (pc := 248) (tgt := 255) C dX8_wantBehind_248 (by decide) (fun q => ?_) (fun q => ?_)
      · have hf := xip q hf
        refine ww_iconst (pc := 255) (v := (-1 : Int32)) C dX8_wantBehind_255 (by decide) ?_
        have hf := xsj hf
        subst hf
        exact ww_iret (pc := 256) C hk dX8_wantBehind_256
      · have hf := xin q hf
        refine ww_iconst (pc := 251) (v := (3 : Int32)) C dX8_wantBehind_251 (by decide) ?_
        refine ww_goto (pc := 252) (tgt := 256) C dX8_wantBehind_252 (by decide) ?_
        have hf := xsj hf
        subst hf
        exact ww_iret (pc := 256) C hk dX8_wantBehind_256
  · refine ⟨257, by decide, ?_⟩
    have hf := xsw_out ho rfl hf
    refine ww_iconst (pc := 257) (v := (-1 : Int32)) C dX8_wantBehind_257 (by decide) ?_
    have hf := xsj hf
    subst hf
    exact ww_iret (pc := 258) C hk dX8_wantBehind_258
theorem s_X8_wantBehind_j10 {G : XG} (C : XC G cX8_wantBehind RX8 (some .int) 4 1 20) {σ : XS} {x0 : Int32} {x1 : Int32} {t0 : Int32} {x : Int32} (hf : f_X8_wantBehind_j10 x0 x1 t0 = some x) (hk : XEnd G (some (.int x)) σ) : WW G 10 [(0, .int x0), (1, .int x1)] [.int t0] σ := by
  refine ww_istore_n (pc := 10) (lv' := [(2, .int t0), (0, .int x0), (1, .int x1)]) C dX8_wantBehind_10 (by decide) rfl ?_
  refine ww_iload_n (pc := 11) C 2 dX8_wantBehind_11 rfl ?_
  refine ww_bipush (pc := 12) (v := (6 : Int32)) C dX8_wantBehind_12 (by decide) ?_
  refine ww_icmp_eq (pc := 14) (tgt := 23) C dX8_wantBehind_14 (by decide) (fun q => ?_) (fun q => ?_)
  · have hf := xip q hf
    refine ww_iconst (pc := 23) (v := (1 : Int32)) C dX8_wantBehind_23 (by decide) ?_
    refine ww_goto (pc := 24) (tgt := 28) C dX8_wantBehind_24 (by decide) ?_
    refine ww_sub [1, 2, 0] rfl ?_
    exact s_X8_wantBehind_j28 C hf hk
  · have hf := xin q hf
    refine ww_iload_n (pc := 17) C 2 dX8_wantBehind_17 rfl ?_
    refine ww_bipush (pc := 18) (v := (7 : Int32)) C dX8_wantBehind_18 (by decide) ?_
    refine ww_icmp_ne (pc := 20) (tgt := 27) C dX8_wantBehind_20 (by decide) (fun q => ?_) (fun q => ?_)
    · have hf := xin q hf
      refine ww_iconst (pc := 27) (v := (0 : Int32)) C dX8_wantBehind_27 (by decide) ?_
      refine ww_sub [1, 2, 0] rfl ?_
      exact s_X8_wantBehind_j28 C hf hk
    · have hf := xip q hf
      refine ww_iconst (pc := 23) (v := (1 : Int32)) C dX8_wantBehind_23 (by decide) ?_
      refine ww_goto (pc := 24) (tgt := 28) C dX8_wantBehind_24 (by decide) ?_
      refine ww_sub [1, 2, 0] rfl ?_
      exact s_X8_wantBehind_j28 C hf hk
theorem s_X8_wantBehind_e {G : XG} (C : XC G cX8_wantBehind RX8 (some .int) 4 1 20) {σ : XS} {x0 : Int32} {x1 : Int32} {x : Int32} (hf : f_X8_wantBehind x0 x1 = some x) (hk : XEnd G (some (.int x)) σ) : WW G 0 [(0, .int x0), (1, .int x1)] [] σ := by
  refine ww_iload_n (pc := 0) C 1 dX8_wantBehind_0 rfl ?_
  refine ww_iconst (pc := 1) (v := (2 : Int32)) C dX8_wantBehind_1 (by decide) ?_
  refine ww_icmp_ne (pc := 2) (tgt := 9) C dX8_wantBehind_2 (by decide) (fun q => ?_) (fun q => ?_)
  · have hf := xin q hf
    refine ww_iconst (pc := 9) (v := (0 : Int32)) C dX8_wantBehind_9 (by decide) ?_
    refine ww_sub [0, 1] rfl ?_
    exact s_X8_wantBehind_j10 C hf hk
  · have hf := xip q hf
    refine ww_iconst (pc := 5) (v := (1 : Int32)) C dX8_wantBehind_5 (by decide) ?_
    refine ww_goto (pc := 6) (tgt := 10) C dX8_wantBehind_6 (by decide) ?_
    refine ww_sub [0, 1] rfl ?_
    exact s_X8_wantBehind_j10 C hf hk
theorem k_X8_wantBehind {l : Launch} {E : XD} {hb : Nat} {σ : XS} {x0 : Int32} {x1 : Int32} {x : Int32} (h : f_X8_wantBehind x0 x1 = some x) : XM l yX8_wantBehind cX8_wantBehind 4 (some .int) 1 20 E hb [.int x0, .int x1] σ (some (.int x)) σ := by
  refine xm_of (by decide) (Nat.le_of_ble_eq_true rfl) ⟨Nat.le_refl _, Nat.le_refl _⟩ (fun G hG C hl hQ => ?_)
  obtain ⟨rfl, rfl, rfl, hN⟩ := hG
  exact s_X8_wantBehind_e C h hQ
noncomputable def f_X8_keepToken (σ : XS) (r0 : Nat) : Option XS := (xgI σ r0 8 5).bind fun v2 => if v2 < 0 then (some σ) else (xgI σ r0 8 5).bind fun v4 => if (400 : Int32) ≤ v4 then (some σ) else (xgR σ r0 8 1).bind fun z6 => (xgI σ r0 8 5).bind fun v8 => (xgI σ r0 8 6).bind fun v10 => (xsI σ 20 z6 v8 v10).bind fun σ12 => (xgR σ12 r0 8 2).bind fun z14 => (xgI σ12 r0 8 5).bind fun v16 => (xgI σ12 r0 8 7).bind fun v18 => (xsI σ12 20 z14 v16 v18).bind fun σ20 => (xgR σ20 r0 8 3).bind fun z22 => (xgI σ20 r0 8 5).bind fun v24 => (xgI σ20 r0 8 8).bind fun v26 => (xsI σ20 20 z22 v24 v26).bind fun σ28 => (xgI σ28 r0 8 5).bind fun v30 => (xpI σ28 r0 8 5 (v30 + (1 : Int32))).bind fun σ32 => some σ32
theorem s_X8_keepToken_e {G : XG} (C : XC G cX8_keepToken RX8 none 1 0 0) {σ : XS} {r0 : Nat} {x : XS} (hf : f_X8_keepToken σ r0 = some x) (hk : XEnd G none x) : WW G 0 [(0, .ref (gB G + r0))] [] σ := by
  refine ww_aload_n (pc := 0) C 0 dX8_keepToken_0 rfl ?_
  obtain ⟨v2, e1, hf⟩ := xbd hf
  refine gf_X8_29 (pc := 1) C e1 dX8_keepToken_1 ?_
  refine ww_if_lt (pc := 4) (tgt := 66) C dX8_keepToken_4 (by decide) (fun q => ?_) (fun q => ?_)
  · have hf := xip q hf
    have hf := xsj hf
    subst hf
    exact ww_vret (pc := 66) C hk dX8_keepToken_66
  · have hf := xin q hf
    refine ww_aload_n (pc := 7) C 0 dX8_keepToken_7 rfl ?_
    obtain ⟨v4, e3, hf⟩ := xbd hf
    refine gf_X8_29 (pc := 8) C e3 dX8_keepToken_8 ?_
    refine ww_sipush (pc := 11) (v := (400 : Int32)) C dX8_keepToken_11 (by decide) ?_
    refine ww_icmp_ge (pc := 14) (tgt := 66) C dX8_keepToken_14 (by decide) (fun q => ?_) (fun q => ?_)
    · have hf := xip q hf
      have hf := xsj hf
      subst hf
      exact ww_vret (pc := 66) C hk dX8_keepToken_66
    · have hf := xin q hf
      refine ww_aload_n (pc := 17) C 0 dX8_keepToken_17 rfl ?_
      obtain ⟨z6, e5, hf⟩ := xbd hf
      refine gf_X8_15 (pc := 18) C e5 dX8_keepToken_18 ?_
      refine ww_aload_n (pc := 21) C 0 dX8_keepToken_21 rfl ?_
      obtain ⟨v8, e7, hf⟩ := xbd hf
      refine gf_X8_29 (pc := 22) C e7 dX8_keepToken_22 ?_
      refine ww_aload_n (pc := 25) C 0 dX8_keepToken_25 rfl ?_
      obtain ⟨v10, e9, hf⟩ := xbd hf
      refine gf_X8_39 (pc := 26) C e9 dX8_keepToken_26 ?_
      obtain ⟨σ12, e11, hf⟩ := xbd hf
      refine ww_iast (pc := 29) C e11 dX8_keepToken_29 ?_
      refine ww_aload_n (pc := 30) C 0 dX8_keepToken_30 rfl ?_
      obtain ⟨z14, e13, hf⟩ := xbd hf
      refine gf_X8_19 (pc := 31) C e13 dX8_keepToken_31 ?_
      refine ww_aload_n (pc := 34) C 0 dX8_keepToken_34 rfl ?_
      obtain ⟨v16, e15, hf⟩ := xbd hf
      refine gf_X8_29 (pc := 35) C e15 dX8_keepToken_35 ?_
      refine ww_aload_n (pc := 38) C 0 dX8_keepToken_38 rfl ?_
      obtain ⟨v18, e17, hf⟩ := xbd hf
      refine gf_X8_49 (pc := 39) C e17 dX8_keepToken_39 ?_
      obtain ⟨σ20, e19, hf⟩ := xbd hf
      refine ww_iast (pc := 42) C e19 dX8_keepToken_42 ?_
      refine ww_aload_n (pc := 43) C 0 dX8_keepToken_43 rfl ?_
      obtain ⟨z22, e21, hf⟩ := xbd hf
      refine gf_X8_22 (pc := 44) C e21 dX8_keepToken_44 ?_
      refine ww_aload_n (pc := 47) C 0 dX8_keepToken_47 rfl ?_
      obtain ⟨v24, e23, hf⟩ := xbd hf
      refine gf_X8_29 (pc := 48) C e23 dX8_keepToken_48 ?_
      refine ww_aload_n (pc := 51) C 0 dX8_keepToken_51 rfl ?_
      obtain ⟨v26, e25, hf⟩ := xbd hf
      refine gf_X8_52 (pc := 52) C e25 dX8_keepToken_52 ?_
      obtain ⟨σ28, e27, hf⟩ := xbd hf
      refine ww_iast (pc := 55) C e27 dX8_keepToken_55 ?_
      refine ww_aload_n (pc := 56) C 0 dX8_keepToken_56 rfl ?_
      refine ww_dup (pc := 57) C dX8_keepToken_57 rfl ?_
      obtain ⟨v30, e29, hf⟩ := xbd hf
      refine gf_X8_29 (pc := 58) C e29 dX8_keepToken_58 ?_
      refine ww_iconst (pc := 61) (v := (1 : Int32)) C dX8_keepToken_61 (by decide) ?_
      refine ww_iadd (pc := 62) C dX8_keepToken_62 ?_
      obtain ⟨σ32, e31, hf⟩ := xbd hf
      refine pf_X8_29 (pc := 63) C e31 dX8_keepToken_63 ?_
      have hf := xsj hf
      subst hf
      exact ww_vret (pc := 66) C hk dX8_keepToken_66
theorem m_X8_keepToken {σ : XS} {r0 : Nat} {x : XS} (hf : f_X8_keepToken σ r0 = some x) : xsame σ x := by
  have hm := xsame.rf (σ := σ)
  obtain ⟨v2, e1, hf⟩ := xbd hf
  by_cases q : v2 < 0
  · have hf := xip q hf
    have hf := xsj hf
    subst hf
    exact hm
  · have hf := xin q hf
    obtain ⟨v4, e3, hf⟩ := xbd hf
    by_cases q : (400 : Int32) ≤ v4
    · have hf := xip q hf
      have hf := xsj hf
      subst hf
      exact hm
    · have hf := xin q hf
      obtain ⟨z6, e5, hf⟩ := xbd hf
      obtain ⟨v8, e7, hf⟩ := xbd hf
      obtain ⟨v10, e9, hf⟩ := xbd hf
      obtain ⟨σ12, e11, hf⟩ := xbd hf
      have hm := hm.tr (xsI_same e11)
      obtain ⟨z14, e13, hf⟩ := xbd hf
      obtain ⟨v16, e15, hf⟩ := xbd hf
      obtain ⟨v18, e17, hf⟩ := xbd hf
      obtain ⟨σ20, e19, hf⟩ := xbd hf
      have hm := hm.tr (xsI_same e19)
      obtain ⟨z22, e21, hf⟩ := xbd hf
      obtain ⟨v24, e23, hf⟩ := xbd hf
      obtain ⟨v26, e25, hf⟩ := xbd hf
      obtain ⟨σ28, e27, hf⟩ := xbd hf
      have hm := hm.tr (xsI_same e27)
      obtain ⟨v30, e29, hf⟩ := xbd hf
      obtain ⟨σ32, e31, hf⟩ := xbd hf
      have hm := hm.tr (xpI_same e31)
      have hf := xsj hf
      subst hf
      exact hm
theorem k_X8_keepToken {l : Launch} {E : XD} {hb : Nat} {σ : XS} {r0 : Nat} {x : XS} (h : f_X8_keepToken σ r0 = some x) : XM l yX8_keepToken cX8_keepToken 1 none 0 0 E hb [.ref (hb + r0)] σ none x := by
  refine xm_of (by decide) (Nat.le_of_ble_eq_true rfl) (m_X8_keepToken h).le (fun G hG C hl hQ => ?_)
  obtain ⟨rfl, rfl, rfl, hN⟩ := hG
  exact s_X8_keepToken_e C h hQ
noncomputable def f_X8_cut_b14 (r0 : Nat) : Int32 × Int32 × XS → Option ((Int32 × Int32 × XS) ⊕ (Int32 × XS)) := fun a => match a with
  | (x1, x2, σ) => if (400 : Int32) < x2 then ((some ((2 : Int32), σ)).map .inr) else (xgI σ r0 8 9).bind fun v2 => (xck σ r0 8).bind fun _ => (f_X8_findToken σ r0 v2).bind fun σ5 => (xgI σ5 r0 8 6).bind fun v7 => if v7 = 0 then ((if x1 = (4 : Int32) then (some ((0 : Int32), σ5)) else some ((1 : Int32), σ5)).map .inr) else (xgI σ5 r0 8 6).bind fun v9 => (f_X8_wantBehind x1 v9).bind fun v11 => if v11 = (-1 : Int32) then ((some ((1 : Int32), σ5)).map .inr) else (xck σ5 r0 8).bind fun _ => (f_X8_keepToken σ5 r0).bind fun σ14 => some (.inl (v11, x2 + (1 : Int32), σ14))
noncomputable def f_X8_cut (σ : XS) (r0 : Nat) : Option (Int32 × XS) := (xpI σ r0 8 5 (0 : Int32)).bind fun σ2 => (xpI σ2 r0 8 9 (0 : Int32)).bind fun σ4 => xloop (f_X8_cut_b14 r0) ((0 : Int32), (0 : Int32), σ4)
theorem m_X8_cut_l14 {r0 : Nat} {a : Int32 × Int32 × XS} {x : Int32 × XS} (hf : xloop (f_X8_cut_b14 r0) a = some x) : xsame a.2.2 x.2 := by
  refine xloop_ind (P := fun a => xsame a.2.2 x.2) (fun a y hf hc he => ?_) hf
  obtain ⟨x1, x2, σ⟩ := a
  have hy : (∀ a' : Int32 × Int32 × XS, y = .inl a' → xsame σ a'.2.2) ∧ (∀ b1 : Int32 × XS, y = .inr b1 → xsame σ b1.2) := by
    have hm := xsame.rf (σ := σ)
    by_cases q : (400 : Int32) < x2
    · have hf := xip q hf
      obtain ⟨b0, hg, e9⟩ := xmj hf
      subst e9
      have hf := hg
      refine ⟨fun a' e => xnc2 e, fun b e => ?_⟩
      have h9 := Sum.inr.inj e
      subst h9
      have hf := xsj hf
      subst hf
      exact hm
    · have hf := xin q hf
      obtain ⟨v2, e1, hf⟩ := xbd hf
      obtain ⟨_, e3, hf⟩ := xbd hf
      obtain ⟨σ5, e4, hf⟩ := xbd hf
      have hm := hm.tr (m_X8_findToken e4)
      obtain ⟨v7, e6, hf⟩ := xbd hf
      by_cases q : v7 = 0
      · have hf := xip q hf
        obtain ⟨b0, hg, e9⟩ := xmj hf
        subst e9
        have hf := hg
        refine ⟨fun a' e => xnc2 e, fun b e => ?_⟩
        have h9 := Sum.inr.inj e
        subst h9
        by_cases q : x1 = (4 : Int32)
        · have hf := xip q hf
          have hf := xsj hf
          subst hf
          exact hm
        · have hf := xin q hf
          have hf := xsj hf
          subst hf
          exact hm
      · have hf := xin q hf
        obtain ⟨v9, e8, hf⟩ := xbd hf
        obtain ⟨v11, e10, hf⟩ := xbd hf
        by_cases q : v11 = (-1 : Int32)
        · have hf := xip q hf
          obtain ⟨b0, hg, e9⟩ := xmj hf
          subst e9
          have hf := hg
          refine ⟨fun a' e => xnc2 e, fun b e => ?_⟩
          have h9 := Sum.inr.inj e
          subst h9
          have hf := xsj hf
          subst hf
          exact hm
        · have hf := xin q hf
          obtain ⟨_, e12, hf⟩ := xbd hf
          obtain ⟨σ14, e13, hf⟩ := xbd hf
          have hm := hm.tr (m_X8_keepToken e13)
          have hf := xsj hf
          subst hf
          exact ⟨fun a' e => (by have h9 := Sum.inl.inj e; subst h9; exact hm), fun b e => xnc1 e⟩
  cases y with
  | inl a' =>
    have h1 := hc a' rfl
    have hm := hy.1 a' rfl
    exact hm.tr (h1)
  | inr b =>
    have h1 := he b rfl
    subst h1
    exact hy.2 _ rfl
theorem s_X8_cut_l14 {G : XG} (C : XC G cX8_cut RX8 (some .int) 3 7 149) {r0 : Nat} {a : Int32 × Int32 × XS} {x : Int32 × XS} (hf : xloop (f_X8_cut_b14 r0) a = some x) (hk : XEnd G (some (.int x.1)) x.2) : WW G 14 [(0, .ref (gB G + r0)), (1, .int a.1), (2, .int a.2.1)] [] a.2.2 := by
  refine xloop_ind (P := fun a => WW G 14 [(0, .ref (gB G + r0)), (1, .int a.1), (2, .int a.2.1)] [] a.2.2) (fun a y hf hc he => ?_) hf
  obtain ⟨x1, x2, σ⟩ := a
  have hk : (∀ a' : Int32 × Int32 × XS, y = .inl a' → WW G 14 [(0, .ref (gB G + r0)), (1, .int a'.1), (2, .int a'.2.1)] [] a'.2.2) ∧ (∀ b1 : Int32 × XS, y = .inr b1 → XEnd G (some (.int b1.1)) b1.2) := ⟨hc, fun b e => by have h9 := he b e; subst h9; exact hk⟩
  refine ww_iload_n (pc := 14) C 2 dX8_cut_14 rfl ?_
  refine ww_sipush (pc := 15) (v := (400 : Int32)) C dX8_cut_15 (by decide) ?_
  refine ww_icmp_gt (pc := 18) (tgt := 73) C dX8_cut_18 (by decide) (fun q => ?_) (fun q => ?_)
  · have hf := xip q hf
    obtain ⟨b0, hg, e9⟩ := xmj hf
    subst e9
    have hf := hg
    have hk := hk.2 _ rfl
    refine ww_iconst (pc := 73) (v := (2 : Int32)) C dX8_cut_73 (by decide) ?_
    have hf := xsj hf
    subst hf
    exact ww_iret (pc := 74) C hk dX8_cut_74
  · have hf := xin q hf
    refine ww_aload_n (pc := 21) C 0 dX8_cut_21 rfl ?_
    refine ww_aload_n (pc := 22) C 0 dX8_cut_22 rfl ?_
    obtain ⟨v2, e1, hf⟩ := xbd hf
    refine gf_X8_32 (pc := 23) C e1 dX8_cut_23 ?_
    obtain ⟨_, e3, hf⟩ := xbd hf
    obtain ⟨σ5, e4, hf⟩ := xbd hf
    refine ww_callVv (pc := 26) (as := [.int v2]) (st := []) C (k_X8_findToken (l := gl G) (E := gE G) (hb := gB G) (σ := σ) e4) rfl (by decide) xc_X8_35 q476 qp5 (xck_spec e3) rfl (by decide) (xst4 (Nat.le_of_ble_eq_true rfl)) (m_X8_findToken e4).le (m_X8_findToken e4).lim dX8_cut_26 ?_
    refine ww_aload_n (pc := 29) C 0 dX8_cut_29 rfl ?_
    obtain ⟨v7, e6, hf⟩ := xbd hf
    refine gf_X8_39 (pc := 30) C e6 dX8_cut_30 ?_
    refine ww_if_ne (pc := 33) (tgt := 47) C dX8_cut_33 (by decide) (fun q => ?_) (fun q => ?_)
    · have hf := xin q hf
      refine ww_iload_n (pc := 47) C 1 dX8_cut_47 rfl ?_
      refine ww_aload_n (pc := 48) C 0 dX8_cut_48 rfl ?_
      obtain ⟨v9, e8, hf⟩ := xbd hf
      refine gf_X8_39 (pc := 49) C e8 dX8_cut_49 ?_
      obtain ⟨v11, e10, hf⟩ := xbd hf
      refine ww_callSi (pc := 52) (as := [.int x1, .int v9]) (st := []) C (k_X8_wantBehind (l := gl G) (E := gE G) (hb := gB G) (σ := σ5) e10) xc_X8_42 q567 rfl (by decide) (xst4 (Nat.le_of_ble_eq_true rfl)) xsame.rf.le xsame.rf.lim dX8_cut_52 ?_
      refine ww_istore_n (pc := 55) (lv' := [(1, .int v11), (0, .ref (gB G + r0)), (2, .int x2)]) C dX8_cut_55 (by decide) rfl ?_
      refine ww_iload_n (pc := 56) C 0 dX8_cut_56 rfl ?_
      refine ww_iconst (pc := 57) (v := (-1 : Int32)) C dX8_cut_57 (by decide) ?_
      refine ww_icmp_ne (pc := 58) (tgt := 63) C dX8_cut_58 (by decide) (fun q => ?_) (fun q => ?_)
      · have hf := xin q hf
        refine ww_aload_n (pc := 63) C 1 dX8_cut_63 rfl ?_
        obtain ⟨_, e12, hf⟩ := xbd hf
        obtain ⟨σ14, e13, hf⟩ := xbd hf
        refine ww_callVv (pc := 64) (as := []) (st := []) C (k_X8_keepToken (l := gl G) (E := gE G) (hb := gB G) (σ := σ5) e13) rfl (by decide) xc_X8_46 q574 qp11 (xck_spec e12) rfl (by decide) (xst4 (Nat.le_of_ble_eq_true rfl)) (m_X8_keepToken e13).le (m_X8_keepToken e13).lim dX8_cut_64 ?_
        refine ww_iinc (pc := 67) (v := x2 + (1 : Int32)) (lv' := [(2, .int (x2 + (1 : Int32))), (1, .int v11), (0, .ref (gB G + r0))]) C 2 dX8_cut_67 rfl (congrArg (fun z => x2 + z) (show Int32.ofInt (1) = (1 : Int32) by decide)) (by decide) rfl ?_
        refine ww_goto (pc := 70) (tgt := 14) C dX8_cut_70 (by decide) ?_
        have hf := xsj hf
        subst hf
        refine ww_sub [2, 1, 0] rfl ?_
        exact hk.1 (v11, x2 + (1 : Int32), σ14) rfl
      · have hf := xip q hf
        obtain ⟨b0, hg, e9⟩ := xmj hf
        subst e9
        have hf := hg
        have hk := hk.2 _ rfl
        refine ww_iconst (pc := 61) (v := (1 : Int32)) C dX8_cut_61 (by decide) ?_
        have hf := xsj hf
        subst hf
        exact ww_iret (pc := 62) C hk dX8_cut_62
    · have hf := xip q hf
      obtain ⟨b0, hg, e9⟩ := xmj hf
      subst e9
      have hf := hg
      have hk := hk.2 _ rfl
      refine ww_iload_n (pc := 36) C 1 dX8_cut_36 rfl ?_
      refine ww_iconst (pc := 37) (v := (4 : Int32)) C dX8_cut_37 (by decide) ?_
      refine ww_icmp_ne (pc := 38) (tgt := 45) C dX8_cut_38 (by decide) (fun q => ?_) (fun q => ?_)
      · have hf := xin q hf
        refine ww_iconst (pc := 45) (v := (1 : Int32)) C dX8_cut_45 (by decide) ?_
        have hf := xsj hf
        subst hf
        exact ww_iret (pc := 46) C hk dX8_cut_46
      · have hf := xip q hf
        refine ww_iconst (pc := 41) (v := (0 : Int32)) C dX8_cut_41 (by decide) ?_
        refine ww_goto (pc := 42) (tgt := 46) C dX8_cut_42 (by decide) ?_
        have hf := xsj hf
        subst hf
        exact ww_iret (pc := 46) C hk dX8_cut_46
theorem s_X8_cut_e {G : XG} (C : XC G cX8_cut RX8 (some .int) 3 7 149) {σ : XS} {r0 : Nat} {x : Int32 × XS} (hf : f_X8_cut σ r0 = some x) (hk : XEnd G (some (.int x.1)) x.2) : WW G 0 [(0, .ref (gB G + r0))] [] σ := by
  refine ww_iconst (pc := 0) (v := (0 : Int32)) C dX8_cut_0 (by decide) ?_
  refine ww_istore_n (pc := 1) (lv' := [(1, .int (0 : Int32)), (0, .ref (gB G + r0))]) C dX8_cut_1 (by decide) rfl ?_
  refine ww_aload_n (pc := 2) C 1 dX8_cut_2 rfl ?_
  refine ww_iconst (pc := 3) (v := (0 : Int32)) C dX8_cut_3 (by decide) ?_
  obtain ⟨σ2, e1, hf⟩ := xbd hf
  refine pf_X8_29 (pc := 4) C e1 dX8_cut_4 ?_
  refine ww_aload_n (pc := 7) C 1 dX8_cut_7 rfl ?_
  refine ww_iconst (pc := 8) (v := (0 : Int32)) C dX8_cut_8 (by decide) ?_
  obtain ⟨σ4, e3, hf⟩ := xbd hf
  refine pf_X8_32 (pc := 9) C e3 dX8_cut_9 ?_
  refine ww_iconst (pc := 12) (v := (0 : Int32)) C dX8_cut_12 (by decide) ?_
  refine ww_istore_n (pc := 13) (lv' := [(2, .int (0 : Int32)), (1, .int (0 : Int32)), (0, .ref (gB G + r0))]) C dX8_cut_13 (by decide) rfl ?_
  refine ww_sub [2, 1, 0] rfl ?_
  exact s_X8_cut_l14 C (a := ((0 : Int32), (0 : Int32), σ4)) hf hk
theorem m_X8_cut {σ : XS} {r0 : Nat} {x : Int32 × XS} (hf : f_X8_cut σ r0 = some x) : xsame σ x.2 := by
  have hm := xsame.rf (σ := σ)
  obtain ⟨σ2, e1, hf⟩ := xbd hf
  have hm := hm.tr (xpI_same e1)
  obtain ⟨σ4, e3, hf⟩ := xbd hf
  have hm := hm.tr (xpI_same e3)
  exact hm.tr (m_X8_cut_l14 (a := ((0 : Int32), (0 : Int32), σ4)) hf)
theorem k_X8_cut {l : Launch} {E : XD} {hb : Nat} {σ : XS} {r0 : Nat} {x : Int32 × XS} (h : f_X8_cut σ r0 = some x) : XM l yX8_cut cX8_cut 3 (some .int) 7 149 E hb [.ref (hb + r0)] σ (some (.int x.1)) x.2 := by
  refine xm_of (by decide) (Nat.le_of_ble_eq_true rfl) (m_X8_cut h).le (fun G hG C hl hQ => ?_)
  obtain ⟨rfl, rfl, rfl, hN⟩ := hG
  exact s_X8_cut_e C h hQ
noncomputable def f_X1_blame (σ : XS) (r0 : Nat) (x1 : Int32) (x2 : Int32) : Option XS := (xgI σ r0 1 2).bind fun v2 => if v2 = 0 then ((xpI σ r0 1 2 x1).bind fun σ4 => (xpI σ4 r0 1 3 x2).bind fun σ6 => some σ6) else some σ
theorem s_X1_blame_e {G : XG} (C : XC G cX1_blame RX1 none 3 0 0) {σ : XS} {r0 : Nat} {x1 : Int32} {x2 : Int32} {x : XS} (hf : f_X1_blame σ r0 x1 x2 = some x) (hk : XEnd G none x) : WW G 0 [(0, .ref (gB G + r0)), (1, .int x1), (2, .int x2)] [] σ := by
  refine ww_aload_n (pc := 0) C 0 dX1_blame_0 rfl ?_
  obtain ⟨v2, e1, hf⟩ := xbd hf
  refine gf_X1_46 (pc := 1) C e1 dX1_blame_1 ?_
  refine ww_if_ne (pc := 4) (tgt := 17) C dX1_blame_4 (by decide) (fun q => ?_) (fun q => ?_)
  · have hf := xin q hf
    have hf := xsj hf
    subst hf
    exact ww_vret (pc := 17) C hk dX1_blame_17
  · have hf := xip q hf
    refine ww_aload_n (pc := 7) C 0 dX1_blame_7 rfl ?_
    refine ww_iload_n (pc := 8) C 1 dX1_blame_8 rfl ?_
    obtain ⟨σ4, e3, hf⟩ := xbd hf
    refine pf_X1_46 (pc := 9) C e3 dX1_blame_9 ?_
    refine ww_aload_n (pc := 12) C 0 dX1_blame_12 rfl ?_
    refine ww_iload_n (pc := 13) C 2 dX1_blame_13 rfl ?_
    obtain ⟨σ6, e5, hf⟩ := xbd hf
    refine pf_X1_64 (pc := 14) C e5 dX1_blame_14 ?_
    have hf := xsj hf
    subst hf
    exact ww_vret (pc := 17) C hk dX1_blame_17
theorem m_X1_blame {σ : XS} {r0 : Nat} {x1 : Int32} {x2 : Int32} {x : XS} (hf : f_X1_blame σ r0 x1 x2 = some x) : xsame σ x := by
  have hm := xsame.rf (σ := σ)
  obtain ⟨v2, e1, hf⟩ := xbd hf
  by_cases q : v2 = 0
  · have hf := xip q hf
    obtain ⟨σ4, e3, hf⟩ := xbd hf
    have hm := hm.tr (xpI_same e3)
    obtain ⟨σ6, e5, hf⟩ := xbd hf
    have hm := hm.tr (xpI_same e5)
    have hf := xsj hf
    subst hf
    exact hm
  · have hf := xin q hf
    have hf := xsj hf
    subst hf
    exact hm
theorem k_X1_blame {l : Launch} {E : XD} {hb : Nat} {σ : XS} {r0 : Nat} {x1 : Int32} {x2 : Int32} {x : XS} (h : f_X1_blame σ r0 x1 x2 = some x) : XM l yX1_blame cX1_blame 3 none 0 0 E hb [.ref (hb + r0), .int x1, .int x2] σ none x := by
  refine xm_of (by decide) (Nat.le_of_ble_eq_true rfl) (m_X1_blame h).le (fun G hG C hl hQ => ?_)
  obtain ⟨rfl, rfl, rfl, hN⟩ := hG
  exact s_X1_blame_e C h hQ
noncomputable def f_X8_kindAt (σ : XS) (r0 : Nat) (x1 : Int32) : Option Int32 := if x1 < 0 then (some (0 : Int32)) else (xgI σ r0 8 5).bind fun v2 => if v2 ≤ x1 then (some (0 : Int32)) else (xgR σ r0 8 1).bind fun z4 => (xal σ z4).bind fun v6 => if v6 ≤ x1 then (some (0 : Int32)) else (xgR σ r0 8 1).bind fun z8 => (xaI σ 20 z8 x1).bind fun v10 => some v10
theorem s_X8_kindAt_e {G : XG} (C : XC G cX8_kindAt RX8 (some .int) 2 0 0) {σ : XS} {r0 : Nat} {x1 : Int32} {x : Int32} (hf : f_X8_kindAt σ r0 x1 = some x) (hk : XEnd G (some (.int x)) σ) : WW G 0 [(0, .ref (gB G + r0)), (1, .int x1)] [] σ := by
  refine ww_iload_n (pc := 0) C 1 dX8_kindAt_0 rfl ?_
  refine ww_if_lt (pc := 1) (tgt := 30) C dX8_kindAt_1 (by decide) (fun q => ?_) (fun q => ?_)
  · have hf := xip q hf
    refine ww_iconst (pc := 30) (v := (0 : Int32)) C dX8_kindAt_30 (by decide) ?_
    have hf := xsj hf
    subst hf
    exact ww_iret (pc := 31) C hk dX8_kindAt_31
  · have hf := xin q hf
    refine ww_iload_n (pc := 4) C 1 dX8_kindAt_4 rfl ?_
    refine ww_aload_n (pc := 5) C 0 dX8_kindAt_5 rfl ?_
    obtain ⟨v2, e1, hf⟩ := xbd hf
    refine gf_X8_29 (pc := 6) C e1 dX8_kindAt_6 ?_
    refine ww_icmp_ge (pc := 9) (tgt := 30) C dX8_kindAt_9 (by decide) (fun q => ?_) (fun q => ?_)
    · have hf := xip q hf
      refine ww_iconst (pc := 30) (v := (0 : Int32)) C dX8_kindAt_30 (by decide) ?_
      have hf := xsj hf
      subst hf
      exact ww_iret (pc := 31) C hk dX8_kindAt_31
    · have hf := xin q hf
      refine ww_iload_n (pc := 12) C 1 dX8_kindAt_12 rfl ?_
      refine ww_aload_n (pc := 13) C 0 dX8_kindAt_13 rfl ?_
      obtain ⟨z4, e3, hf⟩ := xbd hf
      refine gf_X8_15 (pc := 14) C e3 dX8_kindAt_14 ?_
      obtain ⟨v6, e5, hf⟩ := xbd hf
      refine ww_alen (pc := 17) C e5 dX8_kindAt_17 ?_
      refine ww_icmp_ge (pc := 18) (tgt := 30) C dX8_kindAt_18 (by decide) (fun q => ?_) (fun q => ?_)
      · have hf := xip q hf
        refine ww_iconst (pc := 30) (v := (0 : Int32)) C dX8_kindAt_30 (by decide) ?_
        have hf := xsj hf
        subst hf
        exact ww_iret (pc := 31) C hk dX8_kindAt_31
      · have hf := xin q hf
        refine ww_aload_n (pc := 21) C 0 dX8_kindAt_21 rfl ?_
        obtain ⟨z8, e7, hf⟩ := xbd hf
        refine gf_X8_15 (pc := 22) C e7 dX8_kindAt_22 ?_
        refine ww_iload_n (pc := 25) C 1 dX8_kindAt_25 rfl ?_
        obtain ⟨v10, e9, hf⟩ := xbd hf
        refine ww_iald (pc := 26) C e9 dX8_kindAt_26 ?_
        refine ww_goto (pc := 27) (tgt := 31) C dX8_kindAt_27 (by decide) ?_
        have hf := xsj hf
        subst hf
        exact ww_iret (pc := 31) C hk dX8_kindAt_31
theorem k_X8_kindAt {l : Launch} {E : XD} {hb : Nat} {σ : XS} {r0 : Nat} {x1 : Int32} {x : Int32} (h : f_X8_kindAt σ r0 x1 = some x) : XM l yX8_kindAt cX8_kindAt 2 (some .int) 0 0 E hb [.ref (hb + r0), .int x1] σ (some (.int x)) σ := by
  refine xm_of (by decide) (Nat.le_of_ble_eq_true rfl) ⟨Nat.le_refl _, Nat.le_refl _⟩ (fun G hG C hl hQ => ?_)
  obtain ⟨rfl, rfl, rfl, hN⟩ := hG
  exact s_X8_kindAt_e C h hQ
noncomputable def f_X1_takeKind (σ : XS) (r0 : Nat) : Option (Int32 × XS) := (xgR σ r0 1 0).bind fun z2 => (xgI σ r0 1 4).bind fun v4 => (xck σ z2 8).bind fun _ => (f_X8_kindAt σ z2 v4).bind fun v7 => (xgI σ r0 1 4).bind fun v9 => (xpI σ r0 1 4 (v9 + (1 : Int32))).bind fun σ11 => some (v7, σ11)
theorem s_X1_takeKind_e {G : XG} (C : XC G cX1_takeKind RX1 (some .int) 2 1 21) {σ : XS} {r0 : Nat} {x : Int32 × XS} (hf : f_X1_takeKind σ r0 = some x) (hk : XEnd G (some (.int x.1)) x.2) : WW G 0 [(0, .ref (gB G + r0))] [] σ := by
  refine ww_aload_n (pc := 0) C 0 dX1_takeKind_0 rfl ?_
  obtain ⟨z2, e1, hf⟩ := xbd hf
  refine gf_X1_12 (pc := 1) C e1 dX1_takeKind_1 ?_
  refine ww_aload_n (pc := 4) C 0 dX1_takeKind_4 rfl ?_
  obtain ⟨v4, e3, hf⟩ := xbd hf
  refine gf_X1_49 (pc := 5) C e3 dX1_takeKind_5 ?_
  obtain ⟨_, e5, hf⟩ := xbd hf
  obtain ⟨v7, e6, hf⟩ := xbd hf
  refine ww_callVi (pc := 8) (as := [.int v4]) (st := []) C (k_X8_kindAt (l := gl G) (E := gE G) (hb := gB G) (σ := σ) e6) rfl (by decide) xc_X1_85 q590 qp15 (xck_spec e5) rfl (by decide) (xst4 (Nat.le_of_ble_eq_true rfl)) xsame.rf.le xsame.rf.lim dX1_takeKind_8 ?_
  refine ww_istore_n (pc := 11) (lv' := [(1, .int v7), (0, .ref (gB G + r0))]) C dX1_takeKind_11 (by decide) rfl ?_
  refine ww_aload_n (pc := 12) C 1 dX1_takeKind_12 rfl ?_
  refine ww_dup (pc := 13) C dX1_takeKind_13 rfl ?_
  obtain ⟨v9, e8, hf⟩ := xbd hf
  refine gf_X1_49 (pc := 14) C e8 dX1_takeKind_14 ?_
  refine ww_iconst (pc := 17) (v := (1 : Int32)) C dX1_takeKind_17 (by decide) ?_
  refine ww_iadd (pc := 18) C dX1_takeKind_18 ?_
  obtain ⟨σ11, e10, hf⟩ := xbd hf
  refine pf_X1_49 (pc := 19) C e10 dX1_takeKind_19 ?_
  refine ww_iload_n (pc := 22) C 0 dX1_takeKind_22 rfl ?_
  have hf := xsj hf
  subst hf
  exact ww_iret (pc := 23) C hk dX1_takeKind_23
theorem m_X1_takeKind {σ : XS} {r0 : Nat} {x : Int32 × XS} (hf : f_X1_takeKind σ r0 = some x) : xsame σ x.2 := by
  have hm := xsame.rf (σ := σ)
  obtain ⟨z2, e1, hf⟩ := xbd hf
  obtain ⟨v4, e3, hf⟩ := xbd hf
  obtain ⟨_, e5, hf⟩ := xbd hf
  obtain ⟨v7, e6, hf⟩ := xbd hf
  obtain ⟨v9, e8, hf⟩ := xbd hf
  obtain ⟨σ11, e10, hf⟩ := xbd hf
  have hm := hm.tr (xpI_same e10)
  have hf := xsj hf
  subst hf
  exact hm
theorem k_X1_takeKind {l : Launch} {E : XD} {hb : Nat} {σ : XS} {r0 : Nat} {x : Int32 × XS} (h : f_X1_takeKind σ r0 = some x) : XM l yX1_takeKind cX1_takeKind 2 (some .int) 1 21 E hb [.ref (hb + r0)] σ (some (.int x.1)) x.2 := by
  refine xm_of (by decide) (Nat.le_of_ble_eq_true rfl) (m_X1_takeKind h).le (fun G hG C hl hQ => ?_)
  obtain ⟨rfl, rfl, rfl, hN⟩ := hG
  exact s_X1_takeKind_e C h hQ
noncomputable def f_X8_numberAt (σ : XS) (r0 : Nat) (x1 : Int32) : Option Int32 := if x1 < 0 then (some (0 : Int32)) else (xgI σ r0 8 5).bind fun v2 => if v2 ≤ x1 then (some (0 : Int32)) else (xgR σ r0 8 2).bind fun z4 => (xal σ z4).bind fun v6 => if v6 ≤ x1 then (some (0 : Int32)) else (xgR σ r0 8 2).bind fun z8 => (xaI σ 20 z8 x1).bind fun v10 => some v10
theorem s_X8_numberAt_e {G : XG} (C : XC G cX8_numberAt RX8 (some .int) 2 0 0) {σ : XS} {r0 : Nat} {x1 : Int32} {x : Int32} (hf : f_X8_numberAt σ r0 x1 = some x) (hk : XEnd G (some (.int x)) σ) : WW G 0 [(0, .ref (gB G + r0)), (1, .int x1)] [] σ := by
  refine ww_iload_n (pc := 0) C 1 dX8_numberAt_0 rfl ?_
  refine ww_if_lt (pc := 1) (tgt := 30) C dX8_numberAt_1 (by decide) (fun q => ?_) (fun q => ?_)
  · have hf := xip q hf
    refine ww_iconst (pc := 30) (v := (0 : Int32)) C dX8_numberAt_30 (by decide) ?_
    have hf := xsj hf
    subst hf
    exact ww_iret (pc := 31) C hk dX8_numberAt_31
  · have hf := xin q hf
    refine ww_iload_n (pc := 4) C 1 dX8_numberAt_4 rfl ?_
    refine ww_aload_n (pc := 5) C 0 dX8_numberAt_5 rfl ?_
    obtain ⟨v2, e1, hf⟩ := xbd hf
    refine gf_X8_29 (pc := 6) C e1 dX8_numberAt_6 ?_
    refine ww_icmp_ge (pc := 9) (tgt := 30) C dX8_numberAt_9 (by decide) (fun q => ?_) (fun q => ?_)
    · have hf := xip q hf
      refine ww_iconst (pc := 30) (v := (0 : Int32)) C dX8_numberAt_30 (by decide) ?_
      have hf := xsj hf
      subst hf
      exact ww_iret (pc := 31) C hk dX8_numberAt_31
    · have hf := xin q hf
      refine ww_iload_n (pc := 12) C 1 dX8_numberAt_12 rfl ?_
      refine ww_aload_n (pc := 13) C 0 dX8_numberAt_13 rfl ?_
      obtain ⟨z4, e3, hf⟩ := xbd hf
      refine gf_X8_19 (pc := 14) C e3 dX8_numberAt_14 ?_
      obtain ⟨v6, e5, hf⟩ := xbd hf
      refine ww_alen (pc := 17) C e5 dX8_numberAt_17 ?_
      refine ww_icmp_ge (pc := 18) (tgt := 30) C dX8_numberAt_18 (by decide) (fun q => ?_) (fun q => ?_)
      · have hf := xip q hf
        refine ww_iconst (pc := 30) (v := (0 : Int32)) C dX8_numberAt_30 (by decide) ?_
        have hf := xsj hf
        subst hf
        exact ww_iret (pc := 31) C hk dX8_numberAt_31
      · have hf := xin q hf
        refine ww_aload_n (pc := 21) C 0 dX8_numberAt_21 rfl ?_
        obtain ⟨z8, e7, hf⟩ := xbd hf
        refine gf_X8_19 (pc := 22) C e7 dX8_numberAt_22 ?_
        refine ww_iload_n (pc := 25) C 1 dX8_numberAt_25 rfl ?_
        obtain ⟨v10, e9, hf⟩ := xbd hf
        refine ww_iald (pc := 26) C e9 dX8_numberAt_26 ?_
        refine ww_goto (pc := 27) (tgt := 31) C dX8_numberAt_27 (by decide) ?_
        have hf := xsj hf
        subst hf
        exact ww_iret (pc := 31) C hk dX8_numberAt_31
theorem k_X8_numberAt {l : Launch} {E : XD} {hb : Nat} {σ : XS} {r0 : Nat} {x1 : Int32} {x : Int32} (h : f_X8_numberAt σ r0 x1 = some x) : XM l yX8_numberAt cX8_numberAt 2 (some .int) 0 0 E hb [.ref (hb + r0), .int x1] σ (some (.int x)) σ := by
  refine xm_of (by decide) (Nat.le_of_ble_eq_true rfl) ⟨Nat.le_refl _, Nat.le_refl _⟩ (fun G hG C hl hQ => ?_)
  obtain ⟨rfl, rfl, rfl, hN⟩ := hG
  exact s_X8_numberAt_e C h hQ
noncomputable def f_X1_takeInt (σ : XS) (r0 : Nat) : Option (Int32 × XS) := (xgR σ r0 1 0).bind fun z2 => (xgI σ r0 1 4).bind fun v4 => (xck σ z2 8).bind fun _ => (f_X8_numberAt σ z2 v4).bind fun v7 => (xgI σ r0 1 4).bind fun v9 => (xpI σ r0 1 4 (v9 + (1 : Int32))).bind fun σ11 => some (v7, σ11)
theorem s_X1_takeInt_e {G : XG} (C : XC G cX1_takeInt RX1 (some .int) 2 1 21) {σ : XS} {r0 : Nat} {x : Int32 × XS} (hf : f_X1_takeInt σ r0 = some x) (hk : XEnd G (some (.int x.1)) x.2) : WW G 0 [(0, .ref (gB G + r0))] [] σ := by
  refine ww_aload_n (pc := 0) C 0 dX1_takeInt_0 rfl ?_
  obtain ⟨z2, e1, hf⟩ := xbd hf
  refine gf_X1_12 (pc := 1) C e1 dX1_takeInt_1 ?_
  refine ww_aload_n (pc := 4) C 0 dX1_takeInt_4 rfl ?_
  obtain ⟨v4, e3, hf⟩ := xbd hf
  refine gf_X1_49 (pc := 5) C e3 dX1_takeInt_5 ?_
  obtain ⟨_, e5, hf⟩ := xbd hf
  obtain ⟨v7, e6, hf⟩ := xbd hf
  refine ww_callVi (pc := 8) (as := [.int v4]) (st := []) C (k_X8_numberAt (l := gl G) (E := gE G) (hb := gB G) (σ := σ) e6) rfl (by decide) xc_X1_89 q598 qp17 (xck_spec e5) rfl (by decide) (xst4 (Nat.le_of_ble_eq_true rfl)) xsame.rf.le xsame.rf.lim dX1_takeInt_8 ?_
  refine ww_istore_n (pc := 11) (lv' := [(1, .int v7), (0, .ref (gB G + r0))]) C dX1_takeInt_11 (by decide) rfl ?_
  refine ww_aload_n (pc := 12) C 1 dX1_takeInt_12 rfl ?_
  refine ww_dup (pc := 13) C dX1_takeInt_13 rfl ?_
  obtain ⟨v9, e8, hf⟩ := xbd hf
  refine gf_X1_49 (pc := 14) C e8 dX1_takeInt_14 ?_
  refine ww_iconst (pc := 17) (v := (1 : Int32)) C dX1_takeInt_17 (by decide) ?_
  refine ww_iadd (pc := 18) C dX1_takeInt_18 ?_
  obtain ⟨σ11, e10, hf⟩ := xbd hf
  refine pf_X1_49 (pc := 19) C e10 dX1_takeInt_19 ?_
  refine ww_iload_n (pc := 22) C 0 dX1_takeInt_22 rfl ?_
  have hf := xsj hf
  subst hf
  exact ww_iret (pc := 23) C hk dX1_takeInt_23
theorem m_X1_takeInt {σ : XS} {r0 : Nat} {x : Int32 × XS} (hf : f_X1_takeInt σ r0 = some x) : xsame σ x.2 := by
  have hm := xsame.rf (σ := σ)
  obtain ⟨z2, e1, hf⟩ := xbd hf
  obtain ⟨v4, e3, hf⟩ := xbd hf
  obtain ⟨_, e5, hf⟩ := xbd hf
  obtain ⟨v7, e6, hf⟩ := xbd hf
  obtain ⟨v9, e8, hf⟩ := xbd hf
  obtain ⟨σ11, e10, hf⟩ := xbd hf
  have hm := hm.tr (xpI_same e10)
  have hf := xsj hf
  subst hf
  exact hm
theorem k_X1_takeInt {l : Launch} {E : XD} {hb : Nat} {σ : XS} {r0 : Nat} {x : Int32 × XS} (h : f_X1_takeInt σ r0 = some x) : XM l yX1_takeInt cX1_takeInt 2 (some .int) 1 21 E hb [.ref (hb + r0)] σ (some (.int x.1)) x.2 := by
  refine xm_of (by decide) (Nat.le_of_ble_eq_true rfl) (m_X1_takeInt h).le (fun G hG C hl hQ => ?_)
  obtain ⟨rfl, rfl, rfl, hN⟩ := hG
  exact s_X1_takeInt_e C h hQ
noncomputable def f_X8_placeAt (σ : XS) (r0 : Nat) (x1 : Int32) : Option Int32 := if x1 < 0 then (some (-1 : Int32)) else (xgI σ r0 8 5).bind fun v2 => if v2 ≤ x1 then (some (-1 : Int32)) else (xgR σ r0 8 3).bind fun z4 => (xal σ z4).bind fun v6 => if v6 ≤ x1 then (some (-1 : Int32)) else (xgR σ r0 8 3).bind fun z8 => (xaI σ 20 z8 x1).bind fun v10 => some v10
theorem s_X8_placeAt_e {G : XG} (C : XC G cX8_placeAt RX8 (some .int) 2 0 0) {σ : XS} {r0 : Nat} {x1 : Int32} {x : Int32} (hf : f_X8_placeAt σ r0 x1 = some x) (hk : XEnd G (some (.int x)) σ) : WW G 0 [(0, .ref (gB G + r0)), (1, .int x1)] [] σ := by
  refine ww_iload_n (pc := 0) C 1 dX8_placeAt_0 rfl ?_
  refine ww_if_lt (pc := 1) (tgt := 30) C dX8_placeAt_1 (by decide) (fun q => ?_) (fun q => ?_)
  · have hf := xip q hf
    refine ww_iconst (pc := 30) (v := (-1 : Int32)) C dX8_placeAt_30 (by decide) ?_
    have hf := xsj hf
    subst hf
    exact ww_iret (pc := 31) C hk dX8_placeAt_31
  · have hf := xin q hf
    refine ww_iload_n (pc := 4) C 1 dX8_placeAt_4 rfl ?_
    refine ww_aload_n (pc := 5) C 0 dX8_placeAt_5 rfl ?_
    obtain ⟨v2, e1, hf⟩ := xbd hf
    refine gf_X8_29 (pc := 6) C e1 dX8_placeAt_6 ?_
    refine ww_icmp_ge (pc := 9) (tgt := 30) C dX8_placeAt_9 (by decide) (fun q => ?_) (fun q => ?_)
    · have hf := xip q hf
      refine ww_iconst (pc := 30) (v := (-1 : Int32)) C dX8_placeAt_30 (by decide) ?_
      have hf := xsj hf
      subst hf
      exact ww_iret (pc := 31) C hk dX8_placeAt_31
    · have hf := xin q hf
      refine ww_iload_n (pc := 12) C 1 dX8_placeAt_12 rfl ?_
      refine ww_aload_n (pc := 13) C 0 dX8_placeAt_13 rfl ?_
      obtain ⟨z4, e3, hf⟩ := xbd hf
      refine gf_X8_22 (pc := 14) C e3 dX8_placeAt_14 ?_
      obtain ⟨v6, e5, hf⟩ := xbd hf
      refine ww_alen (pc := 17) C e5 dX8_placeAt_17 ?_
      refine ww_icmp_ge (pc := 18) (tgt := 30) C dX8_placeAt_18 (by decide) (fun q => ?_) (fun q => ?_)
      · have hf := xip q hf
        refine ww_iconst (pc := 30) (v := (-1 : Int32)) C dX8_placeAt_30 (by decide) ?_
        have hf := xsj hf
        subst hf
        exact ww_iret (pc := 31) C hk dX8_placeAt_31
      · have hf := xin q hf
        refine ww_aload_n (pc := 21) C 0 dX8_placeAt_21 rfl ?_
        obtain ⟨z8, e7, hf⟩ := xbd hf
        refine gf_X8_22 (pc := 22) C e7 dX8_placeAt_22 ?_
        refine ww_iload_n (pc := 25) C 1 dX8_placeAt_25 rfl ?_
        obtain ⟨v10, e9, hf⟩ := xbd hf
        refine ww_iald (pc := 26) C e9 dX8_placeAt_26 ?_
        refine ww_goto (pc := 27) (tgt := 31) C dX8_placeAt_27 (by decide) ?_
        have hf := xsj hf
        subst hf
        exact ww_iret (pc := 31) C hk dX8_placeAt_31
theorem k_X8_placeAt {l : Launch} {E : XD} {hb : Nat} {σ : XS} {r0 : Nat} {x1 : Int32} {x : Int32} (h : f_X8_placeAt σ r0 x1 = some x) : XM l yX8_placeAt cX8_placeAt 2 (some .int) 0 0 E hb [.ref (hb + r0), .int x1] σ (some (.int x)) σ := by
  refine xm_of (by decide) (Nat.le_of_ble_eq_true rfl) ⟨Nat.le_refl _, Nat.le_refl _⟩ (fun G hG C hl hQ => ?_)
  obtain ⟨rfl, rfl, rfl, hN⟩ := hG
  exact s_X8_placeAt_e C h hQ
noncomputable def f_X1_takeSize_j104 (σ : XS) (r0 : Nat) : Option XS := (xck σ r0 1).bind fun _ => (f_X1_takeKind σ r0).bind fun (v4, σ3) => some σ3
noncomputable def f_X1_takeSize_j86 (σ : XS) (r0 : Nat) : Option XS := (xgR σ r0 1 0).bind fun z2 => (xgI σ r0 1 4).bind fun v4 => (xck σ z2 8).bind fun _ => (f_X8_placeAt σ z2 (v4 - (1 : Int32))).bind fun v7 => (xck σ r0 1).bind fun _ => (f_X1_blame σ r0 (3 : Int32) v7).bind fun σ10 => f_X1_takeSize_j104 σ10 r0
noncomputable def f_X1_takeSize_j47 (σ : XS) (r0 : Nat) : Option XS := (xck σ r0 1).bind fun _ => (f_X1_takeInt σ r0).bind fun (v4, σ3) => (xpI σ3 r0 1 6 v4).bind fun σ6 => (xgI σ6 r0 1 6).bind fun v8 => if v8 < (1 : Int32) then (f_X1_takeSize_j86 σ6 r0) else (xgI σ6 r0 1 6).bind fun v10 => if (16 : Int32) < v10 then (f_X1_takeSize_j86 σ6 r0) else (xgI σ6 r0 1 5).bind fun v12 => (xgI σ6 r0 1 6).bind fun v14 => if (v12 * v14) ≤ (16 : Int32) then (f_X1_takeSize_j104 σ6 r0) else f_X1_takeSize_j86 σ6 r0
noncomputable def f_X1_takeSize_j29 (σ : XS) (r0 : Nat) : Option XS := (xgR σ r0 1 0).bind fun z2 => (xgI σ r0 1 4).bind fun v4 => (xck σ z2 8).bind fun _ => (f_X8_placeAt σ z2 (v4 - (1 : Int32))).bind fun v7 => (xck σ r0 1).bind fun _ => (f_X1_blame σ r0 (3 : Int32) v7).bind fun σ10 => f_X1_takeSize_j47 σ10 r0
noncomputable def f_X1_takeSize (σ : XS) (r0 : Nat) : Option XS := (xck σ r0 1).bind fun _ => (f_X1_takeKind σ r0).bind fun (v4, σ3) => (xck σ3 r0 1).bind fun _ => (f_X1_takeInt σ3 r0).bind fun (v8, σ7) => (xpI σ7 r0 1 5 v8).bind fun σ10 => (xgI σ10 r0 1 5).bind fun v12 => if v12 < (1 : Int32) then (f_X1_takeSize_j29 σ10 r0) else (xgI σ10 r0 1 5).bind fun v14 => if v14 ≤ (4 : Int32) then (f_X1_takeSize_j47 σ10 r0) else f_X1_takeSize_j29 σ10 r0
theorem s_X1_takeSize_j104 {G : XG} (C : XC G cX1_takeSize RX1 none 1 2 42) {σ : XS} {r0 : Nat} {x : XS} (hf : f_X1_takeSize_j104 σ r0 = some x) (hk : XEnd G none x) : WW G 104 [(0, .ref (gB G + r0))] [] σ := by
  refine ww_aload_n (pc := 104) C 0 dX1_takeSize_104 rfl ?_
  obtain ⟨_, e1, hf⟩ := xbd hf
  obtain ⟨⟨v4, σ3⟩, e2, hf⟩ := xbd hf
  dsimp only at hf
  refine ww_callVi (pc := 105) (as := []) (st := []) C (k_X1_takeKind (l := gl G) (E := gE G) (hb := gB G) (σ := σ) e2) rfl (by decide) xc_X1_92 q586 qp14 (xck_spec e1) rfl (by decide) (xst4 (Nat.le_of_ble_eq_true rfl)) (m_X1_takeKind e2).le (m_X1_takeKind e2).lim dX1_takeSize_105 ?_
  refine ww_pop (pc := 108) C dX1_takeSize_108 rfl ?_
  have hf := xsj hf
  subst hf
  exact ww_vret (pc := 109) C hk dX1_takeSize_109
theorem m_X1_takeSize_j104 {σ : XS} {r0 : Nat} {x : XS} (hf : f_X1_takeSize_j104 σ r0 = some x) : xsame σ x := by
  have hm := xsame.rf (σ := σ)
  obtain ⟨_, e1, hf⟩ := xbd hf
  obtain ⟨⟨v4, σ3⟩, e2, hf⟩ := xbd hf
  dsimp only at hf
  have hm := hm.tr (m_X1_takeKind e2)
  have hf := xsj hf
  subst hf
  exact hm
theorem s_X1_takeSize_j86 {G : XG} (C : XC G cX1_takeSize RX1 none 1 2 42) {σ : XS} {r0 : Nat} {x : XS} (hf : f_X1_takeSize_j86 σ r0 = some x) (hk : XEnd G none x) : WW G 86 [(0, .ref (gB G + r0))] [] σ := by
  refine ww_aload_n (pc := 86) C 0 dX1_takeSize_86 rfl ?_
  refine ww_iconst (pc := 87) (v := (3 : Int32)) C dX1_takeSize_87 (by decide) ?_
  refine ww_aload_n (pc := 88) C 0 dX1_takeSize_88 rfl ?_
  obtain ⟨z2, e1, hf⟩ := xbd hf
  refine gf_X1_12 (pc := 89) C e1 dX1_takeSize_89 ?_
  refine ww_aload_n (pc := 92) C 0 dX1_takeSize_92 rfl ?_
  obtain ⟨v4, e3, hf⟩ := xbd hf
  refine gf_X1_49 (pc := 93) C e3 dX1_takeSize_93 ?_
  refine ww_iconst (pc := 96) (v := (1 : Int32)) C dX1_takeSize_96 (by decide) ?_
  refine ww_isub (pc := 97) C dX1_takeSize_97 ?_
  obtain ⟨_, e5, hf⟩ := xbd hf
  obtain ⟨v7, e6, hf⟩ := xbd hf
  refine ww_callVi (pc := 98) (as := [.int (v4 - (1 : Int32))]) (st := [.int (3 : Int32), .ref (gB G + r0)]) C (k_X8_placeAt (l := gl G) (E := gE G) (hb := gB G) (σ := σ) e6) rfl (by decide) xc_X1_101 q602 qp18 (xck_spec e5) rfl (by decide) (xst4 (Nat.le_of_ble_eq_true rfl)) xsame.rf.le xsame.rf.lim dX1_takeSize_98 ?_
  obtain ⟨_, e8, hf⟩ := xbd hf
  obtain ⟨σ10, e9, hf⟩ := xbd hf
  refine ww_callVv (pc := 101) (as := [.int (3 : Int32), .int v7]) (st := []) C (k_X1_blame (l := gl G) (E := gE G) (hb := gB G) (σ := σ) e9) rfl (by decide) xc_X1_36 q578 qp12 (xck_spec e8) rfl (by decide) (xst4 (Nat.le_of_ble_eq_true rfl)) (m_X1_blame e9).le (m_X1_blame e9).lim dX1_takeSize_101 ?_
  refine ww_sub [0] rfl ?_
  exact s_X1_takeSize_j104 C hf hk
theorem m_X1_takeSize_j86 {σ : XS} {r0 : Nat} {x : XS} (hf : f_X1_takeSize_j86 σ r0 = some x) : xsame σ x := by
  have hm := xsame.rf (σ := σ)
  obtain ⟨z2, e1, hf⟩ := xbd hf
  obtain ⟨v4, e3, hf⟩ := xbd hf
  obtain ⟨_, e5, hf⟩ := xbd hf
  obtain ⟨v7, e6, hf⟩ := xbd hf
  obtain ⟨_, e8, hf⟩ := xbd hf
  obtain ⟨σ10, e9, hf⟩ := xbd hf
  have hm := hm.tr (m_X1_blame e9)
  exact hm.tr (m_X1_takeSize_j104 hf)
theorem s_X1_takeSize_j47 {G : XG} (C : XC G cX1_takeSize RX1 none 1 2 42) {σ : XS} {r0 : Nat} {x : XS} (hf : f_X1_takeSize_j47 σ r0 = some x) (hk : XEnd G none x) : WW G 47 [(0, .ref (gB G + r0))] [] σ := by
  refine ww_aload_n (pc := 47) C 0 dX1_takeSize_47 rfl ?_
  refine ww_aload_n (pc := 48) C 0 dX1_takeSize_48 rfl ?_
  obtain ⟨_, e1, hf⟩ := xbd hf
  obtain ⟨⟨v4, σ3⟩, e2, hf⟩ := xbd hf
  dsimp only at hf
  refine ww_callVi (pc := 49) (as := []) (st := [.ref (gB G + r0)]) C (k_X1_takeInt (l := gl G) (E := gE G) (hb := gB G) (σ := σ) e2) rfl (by decide) xc_X1_95 q594 qp16 (xck_spec e1) rfl (by decide) (xst4 (Nat.le_of_ble_eq_true rfl)) (m_X1_takeInt e2).le (m_X1_takeInt e2).lim dX1_takeSize_49 ?_
  obtain ⟨σ6, e5, hf⟩ := xbd hf
  refine pf_X1_104 (pc := 52) C e5 dX1_takeSize_52 ?_
  refine ww_aload_n (pc := 55) C 0 dX1_takeSize_55 rfl ?_
  obtain ⟨v8, e7, hf⟩ := xbd hf
  refine gf_X1_104 (pc := 56) C e7 dX1_takeSize_56 ?_
  refine ww_iconst (pc := 59) (v := (1 : Int32)) C dX1_takeSize_59 (by decide) ?_
  refine ww_icmp_lt (pc := 60) (tgt := 86) C dX1_takeSize_60 (by decide) (fun q => ?_) (fun q => ?_)
  · have hf := xip q hf
    refine ww_sub [0] rfl ?_
    exact s_X1_takeSize_j86 C hf hk
  · have hf := xin q hf
    refine ww_aload_n (pc := 63) C 0 dX1_takeSize_63 rfl ?_
    obtain ⟨v10, e9, hf⟩ := xbd hf
    refine gf_X1_104 (pc := 64) C e9 dX1_takeSize_64 ?_
    refine ww_bipush (pc := 67) (v := (16 : Int32)) C dX1_takeSize_67 (by decide) ?_
    refine ww_icmp_gt (pc := 69) (tgt := 86) C dX1_takeSize_69 (by decide) (fun q => ?_) (fun q => ?_)
    · have hf := xip q hf
      refine ww_sub [0] rfl ?_
      exact s_X1_takeSize_j86 C hf hk
    · have hf := xin q hf
      refine ww_aload_n (pc := 72) C 0 dX1_takeSize_72 rfl ?_
      obtain ⟨v12, e11, hf⟩ := xbd hf
      refine gf_X1_98 (pc := 73) C e11 dX1_takeSize_73 ?_
      refine ww_aload_n (pc := 76) C 0 dX1_takeSize_76 rfl ?_
      obtain ⟨v14, e13, hf⟩ := xbd hf
      refine gf_X1_104 (pc := 77) C e13 dX1_takeSize_77 ?_
      refine ww_imul (pc := 80) C dX1_takeSize_80 ?_
      refine ww_bipush (pc := 81) (v := (16 : Int32)) C dX1_takeSize_81 (by decide) ?_
      refine ww_icmp_le (pc := 83) (tgt := 104) C dX1_takeSize_83 (by decide) (fun q => ?_) (fun q => ?_)
      · have hf := xip q hf
        refine ww_sub [0] rfl ?_
        exact s_X1_takeSize_j104 C hf hk
      · have hf := xin q hf
        refine ww_sub [0] rfl ?_
        exact s_X1_takeSize_j86 C hf hk
theorem m_X1_takeSize_j47 {σ : XS} {r0 : Nat} {x : XS} (hf : f_X1_takeSize_j47 σ r0 = some x) : xsame σ x := by
  have hm := xsame.rf (σ := σ)
  obtain ⟨_, e1, hf⟩ := xbd hf
  obtain ⟨⟨v4, σ3⟩, e2, hf⟩ := xbd hf
  dsimp only at hf
  have hm := hm.tr (m_X1_takeInt e2)
  obtain ⟨σ6, e5, hf⟩ := xbd hf
  have hm := hm.tr (xpI_same e5)
  obtain ⟨v8, e7, hf⟩ := xbd hf
  by_cases q : v8 < (1 : Int32)
  · have hf := xip q hf
    exact hm.tr (m_X1_takeSize_j86 hf)
  · have hf := xin q hf
    obtain ⟨v10, e9, hf⟩ := xbd hf
    by_cases q : (16 : Int32) < v10
    · have hf := xip q hf
      exact hm.tr (m_X1_takeSize_j86 hf)
    · have hf := xin q hf
      obtain ⟨v12, e11, hf⟩ := xbd hf
      obtain ⟨v14, e13, hf⟩ := xbd hf
      by_cases q : (v12 * v14) ≤ (16 : Int32)
      · have hf := xip q hf
        exact hm.tr (m_X1_takeSize_j104 hf)
      · have hf := xin q hf
        exact hm.tr (m_X1_takeSize_j86 hf)
theorem s_X1_takeSize_j29 {G : XG} (C : XC G cX1_takeSize RX1 none 1 2 42) {σ : XS} {r0 : Nat} {x : XS} (hf : f_X1_takeSize_j29 σ r0 = some x) (hk : XEnd G none x) : WW G 29 [(0, .ref (gB G + r0))] [] σ := by
  refine ww_aload_n (pc := 29) C 0 dX1_takeSize_29 rfl ?_
  refine ww_iconst (pc := 30) (v := (3 : Int32)) C dX1_takeSize_30 (by decide) ?_
  refine ww_aload_n (pc := 31) C 0 dX1_takeSize_31 rfl ?_
  obtain ⟨z2, e1, hf⟩ := xbd hf
  refine gf_X1_12 (pc := 32) C e1 dX1_takeSize_32 ?_
  refine ww_aload_n (pc := 35) C 0 dX1_takeSize_35 rfl ?_
  obtain ⟨v4, e3, hf⟩ := xbd hf
  refine gf_X1_49 (pc := 36) C e3 dX1_takeSize_36 ?_
  refine ww_iconst (pc := 39) (v := (1 : Int32)) C dX1_takeSize_39 (by decide) ?_
  refine ww_isub (pc := 40) C dX1_takeSize_40 ?_
  obtain ⟨_, e5, hf⟩ := xbd hf
  obtain ⟨v7, e6, hf⟩ := xbd hf
  refine ww_callVi (pc := 41) (as := [.int (v4 - (1 : Int32))]) (st := [.int (3 : Int32), .ref (gB G + r0)]) C (k_X8_placeAt (l := gl G) (E := gE G) (hb := gB G) (σ := σ) e6) rfl (by decide) xc_X1_101 q602 qp18 (xck_spec e5) rfl (by decide) (xst4 (Nat.le_of_ble_eq_true rfl)) xsame.rf.le xsame.rf.lim dX1_takeSize_41 ?_
  obtain ⟨_, e8, hf⟩ := xbd hf
  obtain ⟨σ10, e9, hf⟩ := xbd hf
  refine ww_callVv (pc := 44) (as := [.int (3 : Int32), .int v7]) (st := []) C (k_X1_blame (l := gl G) (E := gE G) (hb := gB G) (σ := σ) e9) rfl (by decide) xc_X1_36 q578 qp12 (xck_spec e8) rfl (by decide) (xst4 (Nat.le_of_ble_eq_true rfl)) (m_X1_blame e9).le (m_X1_blame e9).lim dX1_takeSize_44 ?_
  refine ww_sub [0] rfl ?_
  exact s_X1_takeSize_j47 C hf hk
theorem m_X1_takeSize_j29 {σ : XS} {r0 : Nat} {x : XS} (hf : f_X1_takeSize_j29 σ r0 = some x) : xsame σ x := by
  have hm := xsame.rf (σ := σ)
  obtain ⟨z2, e1, hf⟩ := xbd hf
  obtain ⟨v4, e3, hf⟩ := xbd hf
  obtain ⟨_, e5, hf⟩ := xbd hf
  obtain ⟨v7, e6, hf⟩ := xbd hf
  obtain ⟨_, e8, hf⟩ := xbd hf
  obtain ⟨σ10, e9, hf⟩ := xbd hf
  have hm := hm.tr (m_X1_blame e9)
  exact hm.tr (m_X1_takeSize_j47 hf)
theorem s_X1_takeSize_e {G : XG} (C : XC G cX1_takeSize RX1 none 1 2 42) {σ : XS} {r0 : Nat} {x : XS} (hf : f_X1_takeSize σ r0 = some x) (hk : XEnd G none x) : WW G 0 [(0, .ref (gB G + r0))] [] σ := by
  refine ww_aload_n (pc := 0) C 0 dX1_takeSize_0 rfl ?_
  obtain ⟨_, e1, hf⟩ := xbd hf
  obtain ⟨⟨v4, σ3⟩, e2, hf⟩ := xbd hf
  dsimp only at hf
  refine ww_callVi (pc := 1) (as := []) (st := []) C (k_X1_takeKind (l := gl G) (E := gE G) (hb := gB G) (σ := σ) e2) rfl (by decide) xc_X1_92 q586 qp14 (xck_spec e1) rfl (by decide) (xst4 (Nat.le_of_ble_eq_true rfl)) (m_X1_takeKind e2).le (m_X1_takeKind e2).lim dX1_takeSize_1 ?_
  refine ww_pop (pc := 4) C dX1_takeSize_4 rfl ?_
  refine ww_aload_n (pc := 5) C 0 dX1_takeSize_5 rfl ?_
  refine ww_aload_n (pc := 6) C 0 dX1_takeSize_6 rfl ?_
  obtain ⟨_, e5, hf⟩ := xbd hf
  obtain ⟨⟨v8, σ7⟩, e6, hf⟩ := xbd hf
  dsimp only at hf
  refine ww_callVi (pc := 7) (as := []) (st := [.ref (gB G + r0)]) C (k_X1_takeInt (l := gl G) (E := gE G) (hb := gB G) (σ := σ3) e6) rfl (by decide) xc_X1_95 q594 qp16 (xck_spec e5) rfl (by decide) (xst4 (Nat.le_of_ble_eq_true rfl)) (m_X1_takeInt e6).le (m_X1_takeInt e6).lim dX1_takeSize_7 ?_
  obtain ⟨σ10, e9, hf⟩ := xbd hf
  refine pf_X1_98 (pc := 10) C e9 dX1_takeSize_10 ?_
  refine ww_aload_n (pc := 13) C 0 dX1_takeSize_13 rfl ?_
  obtain ⟨v12, e11, hf⟩ := xbd hf
  refine gf_X1_98 (pc := 14) C e11 dX1_takeSize_14 ?_
  refine ww_iconst (pc := 17) (v := (1 : Int32)) C dX1_takeSize_17 (by decide) ?_
  refine ww_icmp_lt (pc := 18) (tgt := 29) C dX1_takeSize_18 (by decide) (fun q => ?_) (fun q => ?_)
  · have hf := xip q hf
    refine ww_sub [0] rfl ?_
    exact s_X1_takeSize_j29 C hf hk
  · have hf := xin q hf
    refine ww_aload_n (pc := 21) C 0 dX1_takeSize_21 rfl ?_
    obtain ⟨v14, e13, hf⟩ := xbd hf
    refine gf_X1_98 (pc := 22) C e13 dX1_takeSize_22 ?_
    refine ww_iconst (pc := 25) (v := (4 : Int32)) C dX1_takeSize_25 (by decide) ?_
    refine ww_icmp_le (pc := 26) (tgt := 47) C dX1_takeSize_26 (by decide) (fun q => ?_) (fun q => ?_)
    · have hf := xip q hf
      refine ww_sub [0] rfl ?_
      exact s_X1_takeSize_j47 C hf hk
    · have hf := xin q hf
      refine ww_sub [0] rfl ?_
      exact s_X1_takeSize_j29 C hf hk
theorem m_X1_takeSize {σ : XS} {r0 : Nat} {x : XS} (hf : f_X1_takeSize σ r0 = some x) : xsame σ x := by
  have hm := xsame.rf (σ := σ)
  obtain ⟨_, e1, hf⟩ := xbd hf
  obtain ⟨⟨v4, σ3⟩, e2, hf⟩ := xbd hf
  dsimp only at hf
  have hm := hm.tr (m_X1_takeKind e2)
  obtain ⟨_, e5, hf⟩ := xbd hf
  obtain ⟨⟨v8, σ7⟩, e6, hf⟩ := xbd hf
  dsimp only at hf
  have hm := hm.tr (m_X1_takeInt e6)
  obtain ⟨σ10, e9, hf⟩ := xbd hf
  have hm := hm.tr (xpI_same e9)
  obtain ⟨v12, e11, hf⟩ := xbd hf
  by_cases q : v12 < (1 : Int32)
  · have hf := xip q hf
    exact hm.tr (m_X1_takeSize_j29 hf)
  · have hf := xin q hf
    obtain ⟨v14, e13, hf⟩ := xbd hf
    by_cases q : v14 ≤ (4 : Int32)
    · have hf := xip q hf
      exact hm.tr (m_X1_takeSize_j47 hf)
    · have hf := xin q hf
      exact hm.tr (m_X1_takeSize_j29 hf)
theorem k_X1_takeSize {l : Launch} {E : XD} {hb : Nat} {σ : XS} {r0 : Nat} {x : XS} (h : f_X1_takeSize σ r0 = some x) : XM l yX1_takeSize cX1_takeSize 1 none 2 42 E hb [.ref (hb + r0)] σ none x := by
  refine xm_of (by decide) (Nat.le_of_ble_eq_true rfl) (m_X1_takeSize h).le (fun G hG C hl hQ => ?_)
  obtain ⟨rfl, rfl, rfl, hN⟩ := hG
  exact s_X1_takeSize_e C h hQ
noncomputable def f_X1_seeRings_b5 (r0 : Nat) : Int32 × XS → Option ((Int32 × XS) ⊕ (XS)) := fun a => match a with
  | (x1, σ) => (xgR σ r0 1 0).bind fun z2 => (xgI σ z2 8 5).bind fun v4 => if v4 ≤ x1 then ((some σ).map .inr) else (xgR σ r0 1 0).bind fun z6 => (xck σ z6 8).bind fun _ => (f_X8_kindAt σ z6 x1).bind fun v9 => if v9 = (9 : Int32) then ((xgI σ r0 1 7).bind fun v11 => (xgR σ r0 1 0).bind fun z13 => (xck σ z13 8).bind fun _ => (f_X8_kindAt σ z13 (x1 + (1 : Int32))).bind fun v16 => if v16 = (6 : Int32) then ((xpI σ r0 1 7 (v11 ||| (1 : Int32))).bind fun σ18 => some (.inl (x1 + (1 : Int32), σ18))) else (xpI σ r0 1 7 (v11 ||| (2 : Int32))).bind fun σ18 => some (.inl (x1 + (1 : Int32), σ18))) else some (.inl (x1 + (1 : Int32), σ))
noncomputable def f_X1_seeRings (σ : XS) (r0 : Nat) : Option XS := (xgI σ r0 1 4).bind fun v2 => xloop (f_X1_seeRings_b5 r0) (v2, σ)
theorem m_X1_seeRings_l5 {r0 : Nat} {a : Int32 × XS} {x : XS} (hf : xloop (f_X1_seeRings_b5 r0) a = some x) : xsame a.2 x := by
  refine xloop_ind (P := fun a => xsame a.2 x) (fun a y hf hc he => ?_) hf
  obtain ⟨x1, σ⟩ := a
  have hy : (∀ a' : Int32 × XS, y = .inl a' → xsame σ a'.2) ∧ (∀ b1 : XS, y = .inr b1 → xsame σ b1) := by
    have hm := xsame.rf (σ := σ)
    obtain ⟨z2, e1, hf⟩ := xbd hf
    obtain ⟨v4, e3, hf⟩ := xbd hf
    by_cases q : v4 ≤ x1
    · have hf := xip q hf
      obtain ⟨b0, hg, e9⟩ := xmj hf
      subst e9
      have hf := hg
      refine ⟨fun a' e => xnc2 e, fun b e => ?_⟩
      have h9 := Sum.inr.inj e
      subst h9
      have hf := xsj hf
      subst hf
      exact hm
    · have hf := xin q hf
      obtain ⟨z6, e5, hf⟩ := xbd hf
      obtain ⟨_, e7, hf⟩ := xbd hf
      obtain ⟨v9, e8, hf⟩ := xbd hf
      by_cases q : v9 = (9 : Int32)
      · have hf := xip q hf
        obtain ⟨v11, e10, hf⟩ := xbd hf
        obtain ⟨z13, e12, hf⟩ := xbd hf
        obtain ⟨_, e14, hf⟩ := xbd hf
        obtain ⟨v16, e15, hf⟩ := xbd hf
        by_cases q : v16 = (6 : Int32)
        · have hf := xip q hf
          obtain ⟨σ18, e17, hf⟩ := xbd hf
          have hm := hm.tr (xpI_same e17)
          have hf := xsj hf
          subst hf
          exact ⟨fun a' e => (by have h9 := Sum.inl.inj e; subst h9; exact hm), fun b e => xnc1 e⟩
        · have hf := xin q hf
          obtain ⟨σ18, e17, hf⟩ := xbd hf
          have hm := hm.tr (xpI_same e17)
          have hf := xsj hf
          subst hf
          exact ⟨fun a' e => (by have h9 := Sum.inl.inj e; subst h9; exact hm), fun b e => xnc1 e⟩
      · have hf := xin q hf
        have hf := xsj hf
        subst hf
        exact ⟨fun a' e => (by have h9 := Sum.inl.inj e; subst h9; exact hm), fun b e => xnc1 e⟩
  cases y with
  | inl a' =>
    have h1 := hc a' rfl
    have hm := hy.1 a' rfl
    exact hm.tr (h1)
  | inr b =>
    have h1 := he b rfl
    subst h1
    exact hy.2 _ rfl
theorem s_X1_seeRings_l5 {G : XG} (C : XC G cX1_seeRings RX1 none 2 1 21) {r0 : Nat} {a : Int32 × XS} {x : XS} (hf : xloop (f_X1_seeRings_b5 r0) a = some x) (hk : XEnd G none x) : WW G 5 [(0, .ref (gB G + r0)), (1, .int a.1)] [] a.2 := by
  refine xloop_ind (P := fun a => WW G 5 [(0, .ref (gB G + r0)), (1, .int a.1)] [] a.2) (fun a y hf hc he => ?_) hf
  obtain ⟨x1, σ⟩ := a
  have hk : (∀ a' : Int32 × XS, y = .inl a' → WW G 5 [(0, .ref (gB G + r0)), (1, .int a'.1)] [] a'.2) ∧ (∀ b1 : XS, y = .inr b1 → XEnd G none b1) := ⟨hc, fun b e => by have h9 := he b e; subst h9; exact hk⟩
  refine ww_iload_n (pc := 5) C 1 dX1_seeRings_5 rfl ?_
  refine ww_aload_n (pc := 6) C 0 dX1_seeRings_6 rfl ?_
  obtain ⟨z2, e1, hf⟩ := xbd hf
  refine gf_X1_12 (pc := 7) C e1 dX1_seeRings_7 ?_
  obtain ⟨v4, e3, hf⟩ := xbd hf
  refine gf_X1_52 (pc := 10) C e3 dX1_seeRings_10 ?_
  refine ww_icmp_ge (pc := 13) (tgt := 64) C dX1_seeRings_13 (by decide) (fun q => ?_) (fun q => ?_)
  · have hf := xip q hf
    obtain ⟨b0, hg, e9⟩ := xmj hf
    subst e9
    have hf := hg
    have hk := hk.2 _ rfl
    have hf := xsj hf
    subst hf
    exact ww_vret (pc := 64) C hk dX1_seeRings_64
  · have hf := xin q hf
    refine ww_aload_n (pc := 16) C 0 dX1_seeRings_16 rfl ?_
    obtain ⟨z6, e5, hf⟩ := xbd hf
    refine gf_X1_12 (pc := 17) C e5 dX1_seeRings_17 ?_
    refine ww_iload_n (pc := 20) C 1 dX1_seeRings_20 rfl ?_
    obtain ⟨_, e7, hf⟩ := xbd hf
    obtain ⟨v9, e8, hf⟩ := xbd hf
    refine ww_callVi (pc := 21) (as := [.int x1]) (st := []) C (k_X8_kindAt (l := gl G) (E := gE G) (hb := gB G) (σ := σ) e8) rfl (by decide) xc_X1_85 q590 qp15 (xck_spec e7) rfl (by decide) (xst4 (Nat.le_of_ble_eq_true rfl)) xsame.rf.le xsame.rf.lim dX1_seeRings_21 ?_
    refine ww_bipush (pc := 24) (v := (9 : Int32)) C dX1_seeRings_24 (by decide) ?_
    refine ww_icmp_ne (pc := 26) (tgt := 58) C dX1_seeRings_26 (by decide) (fun q => ?_) (fun q => ?_)
    · have hf := xin q hf
      refine ww_iinc (pc := 58) (v := x1 + (1 : Int32)) (lv' := [(1, .int (x1 + (1 : Int32))), (0, .ref (gB G + r0))]) C 1 dX1_seeRings_58 rfl (congrArg (fun z => x1 + z) (show Int32.ofInt (1) = (1 : Int32) by decide)) (by decide) rfl ?_
      refine ww_goto (pc := 61) (tgt := 5) C dX1_seeRings_61 (by decide) ?_
      have hf := xsj hf
      subst hf
      refine ww_sub [1, 0] rfl ?_
      exact hk.1 (x1 + (1 : Int32), σ) rfl
    · have hf := xip q hf
      refine ww_aload_n (pc := 29) C 0 dX1_seeRings_29 rfl ?_
      refine ww_dup (pc := 30) C dX1_seeRings_30 rfl ?_
      obtain ⟨v11, e10, hf⟩ := xbd hf
      refine gf_X1_67 (pc := 31) C e10 dX1_seeRings_31 ?_
      refine ww_aload_n (pc := 34) C 0 dX1_seeRings_34 rfl ?_
      obtain ⟨z13, e12, hf⟩ := xbd hf
      refine gf_X1_12 (pc := 35) C e12 dX1_seeRings_35 ?_
      refine ww_iload_n (pc := 38) C 1 dX1_seeRings_38 rfl ?_
      refine ww_iconst (pc := 39) (v := (1 : Int32)) C dX1_seeRings_39 (by decide) ?_
      refine ww_iadd (pc := 40) C dX1_seeRings_40 ?_
      obtain ⟨_, e14, hf⟩ := xbd hf
      obtain ⟨v16, e15, hf⟩ := xbd hf
      refine ww_callVi (pc := 41) (as := [.int (x1 + (1 : Int32))]) (st := [.int v11, .ref (gB G + r0)]) C (k_X8_kindAt (l := gl G) (E := gE G) (hb := gB G) (σ := σ) e15) rfl (by decide) xc_X1_85 q590 qp15 (xck_spec e14) rfl (by decide) (xst4 (Nat.le_of_ble_eq_true rfl)) xsame.rf.le xsame.rf.lim dX1_seeRings_41 ?_
      refine ww_bipush (pc := 44) (v := (6 : Int32)) C dX1_seeRings_44 (by decide) ?_
      refine ww_icmp_ne (pc := 46) (tgt := 53) C dX1_seeRings_46 (by decide) (fun q => ?_) (fun q => ?_)
      · have hf := xin q hf
        refine ww_iconst (pc := 53) (v := (2 : Int32)) C dX1_seeRings_53 (by decide) ?_
        refine ww_ior (pc := 54) C dX1_seeRings_54 ?_
        obtain ⟨σ18, e17, hf⟩ := xbd hf
        refine pf_X1_67 (pc := 55) C e17 dX1_seeRings_55 ?_
        refine ww_iinc (pc := 58) (v := x1 + (1 : Int32)) (lv' := [(1, .int (x1 + (1 : Int32))), (0, .ref (gB G + r0))]) C 1 dX1_seeRings_58 rfl (congrArg (fun z => x1 + z) (show Int32.ofInt (1) = (1 : Int32) by decide)) (by decide) rfl ?_
        refine ww_goto (pc := 61) (tgt := 5) C dX1_seeRings_61 (by decide) ?_
        have hf := xsj hf
        subst hf
        refine ww_sub [1, 0] rfl ?_
        exact hk.1 (x1 + (1 : Int32), σ18) rfl
      · have hf := xip q hf
        refine ww_iconst (pc := 49) (v := (1 : Int32)) C dX1_seeRings_49 (by decide) ?_
        refine ww_goto (pc := 50) (tgt := 54) C dX1_seeRings_50 (by decide) ?_
        refine ww_ior (pc := 54) C dX1_seeRings_54 ?_
        obtain ⟨σ18, e17, hf⟩ := xbd hf
        refine pf_X1_67 (pc := 55) C e17 dX1_seeRings_55 ?_
        refine ww_iinc (pc := 58) (v := x1 + (1 : Int32)) (lv' := [(1, .int (x1 + (1 : Int32))), (0, .ref (gB G + r0))]) C 1 dX1_seeRings_58 rfl (congrArg (fun z => x1 + z) (show Int32.ofInt (1) = (1 : Int32) by decide)) (by decide) rfl ?_
        refine ww_goto (pc := 61) (tgt := 5) C dX1_seeRings_61 (by decide) ?_
        have hf := xsj hf
        subst hf
        refine ww_sub [1, 0] rfl ?_
        exact hk.1 (x1 + (1 : Int32), σ18) rfl
theorem s_X1_seeRings_e {G : XG} (C : XC G cX1_seeRings RX1 none 2 1 21) {σ : XS} {r0 : Nat} {x : XS} (hf : f_X1_seeRings σ r0 = some x) (hk : XEnd G none x) : WW G 0 [(0, .ref (gB G + r0))] [] σ := by
  refine ww_aload_n (pc := 0) C 0 dX1_seeRings_0 rfl ?_
  obtain ⟨v2, e1, hf⟩ := xbd hf
  refine gf_X1_49 (pc := 1) C e1 dX1_seeRings_1 ?_
  refine ww_istore_n (pc := 4) (lv' := [(1, .int v2), (0, .ref (gB G + r0))]) C dX1_seeRings_4 (by decide) rfl ?_
  refine ww_sub [1, 0] rfl ?_
  exact s_X1_seeRings_l5 C (a := (v2, σ)) hf hk
theorem m_X1_seeRings {σ : XS} {r0 : Nat} {x : XS} (hf : f_X1_seeRings σ r0 = some x) : xsame σ x := by
  have hm := xsame.rf (σ := σ)
  obtain ⟨v2, e1, hf⟩ := xbd hf
  exact hm.tr (m_X1_seeRings_l5 (a := (v2, σ)) hf)
theorem k_X1_seeRings {l : Launch} {E : XD} {hb : Nat} {σ : XS} {r0 : Nat} {x : XS} (h : f_X1_seeRings σ r0 = some x) : XM l yX1_seeRings cX1_seeRings 2 none 1 21 E hb [.ref (hb + r0)] σ none x := by
  refine xm_of (by decide) (Nat.le_of_ble_eq_true rfl) (m_X1_seeRings h).le (fun G hG C hl hQ => ?_)
  obtain ⟨rfl, rfl, rfl, hN⟩ := hG
  exact s_X1_seeRings_e C h hQ
noncomputable def f_X1_takeJ_j58 (σ : XS) (x1 : Int32) (x2 : Int32) : Option (Int32 × XS) := if x1 = 0 then (some (x2, σ)) else some (-x2, σ)
noncomputable def f_X1_takeJ_j30 (σ : XS) (r0 : Nat) (x1 : Int32) : Option (Int32 × XS) := (xck σ r0 1).bind fun _ => (f_X1_takeInt σ r0).bind fun (v4, σ3) => if v4 ≤ (3 : Int32) then (f_X1_takeJ_j58 σ3 x1 v4) else (xgR σ3 r0 1 0).bind fun z6 => (xgI σ3 r0 1 4).bind fun v8 => (xck σ3 z6 8).bind fun _ => (f_X8_placeAt σ3 z6 (v8 - (1 : Int32))).bind fun v11 => (xck σ3 r0 1).bind fun _ => (f_X1_blame σ3 r0 (3 : Int32) v11).bind fun σ14 => f_X1_takeJ_j58 σ14 x1 v4
noncomputable def f_X1_takeJ_j20 (σ : XS) (r0 : Nat) (t0 : Int32) : Option (Int32 × XS) := if t0 = 0 then (f_X1_takeJ_j30 σ r0 t0) else (xck σ r0 1).bind fun _ => (f_X1_takeKind σ r0).bind fun (v4, σ3) => f_X1_takeJ_j30 σ3 r0 t0
noncomputable def f_X1_takeJ (σ : XS) (r0 : Nat) : Option (Int32 × XS) := (xgR σ r0 1 0).bind fun z2 => (xgI σ r0 1 4).bind fun v4 => (xck σ z2 8).bind fun _ => (f_X8_kindAt σ z2 v4).bind fun v7 => if v7 = (3 : Int32) then (f_X1_takeJ_j20 σ r0 (1 : Int32)) else f_X1_takeJ_j20 σ r0 (0 : Int32)
theorem s_X1_takeJ_j58 {G : XG} (C : XC G cX1_takeJ RX1 (some .int) 3 2 42) {σ : XS} {x1 : Int32} {x2 : Int32} {x : Int32 × XS} (hf : f_X1_takeJ_j58 σ x1 x2 = some x) (hk : XEnd G (some (.int x.1)) x.2) : WW G 58 [(1, .int x1), (2, .int x2)] [] σ := by
  refine ww_iload_n (pc := 58) C 0 dX1_takeJ_58 rfl ?_
  refine ww_if_eq (pc := 59) (tgt := 67) C dX1_takeJ_59 (by decide) (fun q => ?_) (fun q => ?_)
  · have hf := xip q hf
    refine ww_iload_n (pc := 67) C 1 dX1_takeJ_67 rfl ?_
    have hf := xsj hf
    subst hf
    exact ww_iret (pc := 68) C hk dX1_takeJ_68
  · have hf := xin q hf
    refine ww_iload_n (pc := 62) C 1 dX1_takeJ_62 rfl ?_
    refine ww_ineg (pc := 63) C dX1_takeJ_63 ?_
    refine ww_goto (pc := 64) (tgt := 68) C dX1_takeJ_64 (by decide) ?_
    have hf := xsj hf
    subst hf
    exact ww_iret (pc := 68) C hk dX1_takeJ_68
theorem m_X1_takeJ_j58 {σ : XS} {x1 : Int32} {x2 : Int32} {x : Int32 × XS} (hf : f_X1_takeJ_j58 σ x1 x2 = some x) : xsame σ x.2 := by
  have hm := xsame.rf (σ := σ)
  by_cases q : x1 = 0
  · have hf := xip q hf
    have hf := xsj hf
    subst hf
    exact hm
  · have hf := xin q hf
    have hf := xsj hf
    subst hf
    exact hm
theorem s_X1_takeJ_j30 {G : XG} (C : XC G cX1_takeJ RX1 (some .int) 3 2 42) {σ : XS} {r0 : Nat} {x1 : Int32} {x : Int32 × XS} (hf : f_X1_takeJ_j30 σ r0 x1 = some x) (hk : XEnd G (some (.int x.1)) x.2) : WW G 30 [(0, .ref (gB G + r0)), (1, .int x1)] [] σ := by
  refine ww_aload_n (pc := 30) C 0 dX1_takeJ_30 rfl ?_
  obtain ⟨_, e1, hf⟩ := xbd hf
  obtain ⟨⟨v4, σ3⟩, e2, hf⟩ := xbd hf
  dsimp only at hf
  refine ww_callVi (pc := 31) (as := []) (st := []) C (k_X1_takeInt (l := gl G) (E := gE G) (hb := gB G) (σ := σ) e2) rfl (by decide) xc_X1_95 q594 qp16 (xck_spec e1) rfl (by decide) (xst4 (Nat.le_of_ble_eq_true rfl)) (m_X1_takeInt e2).le (m_X1_takeInt e2).lim dX1_takeJ_31 ?_
  refine ww_istore_n (pc := 34) (lv' := [(2, .int v4), (0, .ref (gB G + r0)), (1, .int x1)]) C dX1_takeJ_34 (by decide) rfl ?_
  refine ww_iload_n (pc := 35) C 0 dX1_takeJ_35 rfl ?_
  refine ww_iconst (pc := 36) (v := (3 : Int32)) C dX1_takeJ_36 (by decide) ?_
  refine ww_icmp_le (pc := 37) (tgt := 58) C dX1_takeJ_37 (by decide) (fun q => ?_) (fun q => ?_)
  · have hf := xip q hf
    refine ww_sub [2, 0] rfl ?_
    exact s_X1_takeJ_j58 C hf hk
  · have hf := xin q hf
    refine ww_aload_n (pc := 40) C 1 dX1_takeJ_40 rfl ?_
    refine ww_iconst (pc := 41) (v := (3 : Int32)) C dX1_takeJ_41 (by decide) ?_
    refine ww_aload_n (pc := 42) C 1 dX1_takeJ_42 rfl ?_
    obtain ⟨z6, e5, hf⟩ := xbd hf
    refine gf_X1_12 (pc := 43) C e5 dX1_takeJ_43 ?_
    refine ww_aload_n (pc := 46) C 1 dX1_takeJ_46 rfl ?_
    obtain ⟨v8, e7, hf⟩ := xbd hf
    refine gf_X1_49 (pc := 47) C e7 dX1_takeJ_47 ?_
    refine ww_iconst (pc := 50) (v := (1 : Int32)) C dX1_takeJ_50 (by decide) ?_
    refine ww_isub (pc := 51) C dX1_takeJ_51 ?_
    obtain ⟨_, e9, hf⟩ := xbd hf
    obtain ⟨v11, e10, hf⟩ := xbd hf
    refine ww_callVi (pc := 52) (as := [.int (v8 - (1 : Int32))]) (st := [.int (3 : Int32), .ref (gB G + r0)]) C (k_X8_placeAt (l := gl G) (E := gE G) (hb := gB G) (σ := σ3) e10) rfl (by decide) xc_X1_101 q602 qp18 (xck_spec e9) rfl (by decide) (xst4 (Nat.le_of_ble_eq_true rfl)) xsame.rf.le xsame.rf.lim dX1_takeJ_52 ?_
    obtain ⟨_, e12, hf⟩ := xbd hf
    obtain ⟨σ14, e13, hf⟩ := xbd hf
    refine ww_callVv (pc := 55) (as := [.int (3 : Int32), .int v11]) (st := []) C (k_X1_blame (l := gl G) (E := gE G) (hb := gB G) (σ := σ3) e13) rfl (by decide) xc_X1_36 q578 qp12 (xck_spec e12) rfl (by decide) (xst4 (Nat.le_of_ble_eq_true rfl)) (m_X1_blame e13).le (m_X1_blame e13).lim dX1_takeJ_55 ?_
    refine ww_sub [2, 0] rfl ?_
    exact s_X1_takeJ_j58 C hf hk
theorem m_X1_takeJ_j30 {σ : XS} {r0 : Nat} {x1 : Int32} {x : Int32 × XS} (hf : f_X1_takeJ_j30 σ r0 x1 = some x) : xsame σ x.2 := by
  have hm := xsame.rf (σ := σ)
  obtain ⟨_, e1, hf⟩ := xbd hf
  obtain ⟨⟨v4, σ3⟩, e2, hf⟩ := xbd hf
  dsimp only at hf
  have hm := hm.tr (m_X1_takeInt e2)
  by_cases q : v4 ≤ (3 : Int32)
  · have hf := xip q hf
    exact hm.tr (m_X1_takeJ_j58 hf)
  · have hf := xin q hf
    obtain ⟨z6, e5, hf⟩ := xbd hf
    obtain ⟨v8, e7, hf⟩ := xbd hf
    obtain ⟨_, e9, hf⟩ := xbd hf
    obtain ⟨v11, e10, hf⟩ := xbd hf
    obtain ⟨_, e12, hf⟩ := xbd hf
    obtain ⟨σ14, e13, hf⟩ := xbd hf
    have hm := hm.tr (m_X1_blame e13)
    exact hm.tr (m_X1_takeJ_j58 hf)
theorem s_X1_takeJ_j20 {G : XG} (C : XC G cX1_takeJ RX1 (some .int) 3 2 42) {σ : XS} {r0 : Nat} {t0 : Int32} {x : Int32 × XS} (hf : f_X1_takeJ_j20 σ r0 t0 = some x) (hk : XEnd G (some (.int x.1)) x.2) : WW G 20 [(0, .ref (gB G + r0))] [.int t0] σ := by
  refine ww_istore_n (pc := 20) (lv' := [(1, .int t0), (0, .ref (gB G + r0))]) C dX1_takeJ_20 (by decide) rfl ?_
  refine ww_iload_n (pc := 21) C 0 dX1_takeJ_21 rfl ?_
  refine ww_if_eq (pc := 22) (tgt := 30) C dX1_takeJ_22 (by decide) (fun q => ?_) (fun q => ?_)
  · have hf := xip q hf
    refine ww_sub [1, 0] rfl ?_
    exact s_X1_takeJ_j30 C hf hk
  · have hf := xin q hf
    refine ww_aload_n (pc := 25) C 1 dX1_takeJ_25 rfl ?_
    obtain ⟨_, e1, hf⟩ := xbd hf
    obtain ⟨⟨v4, σ3⟩, e2, hf⟩ := xbd hf
    dsimp only at hf
    refine ww_callVi (pc := 26) (as := []) (st := []) C (k_X1_takeKind (l := gl G) (E := gE G) (hb := gB G) (σ := σ) e2) rfl (by decide) xc_X1_92 q586 qp14 (xck_spec e1) rfl (by decide) (xst4 (Nat.le_of_ble_eq_true rfl)) (m_X1_takeKind e2).le (m_X1_takeKind e2).lim dX1_takeJ_26 ?_
    refine ww_pop (pc := 29) C dX1_takeJ_29 rfl ?_
    refine ww_sub [1, 0] rfl ?_
    exact s_X1_takeJ_j30 C hf hk
theorem m_X1_takeJ_j20 {σ : XS} {r0 : Nat} {t0 : Int32} {x : Int32 × XS} (hf : f_X1_takeJ_j20 σ r0 t0 = some x) : xsame σ x.2 := by
  have hm := xsame.rf (σ := σ)
  by_cases q : t0 = 0
  · have hf := xip q hf
    exact hm.tr (m_X1_takeJ_j30 hf)
  · have hf := xin q hf
    obtain ⟨_, e1, hf⟩ := xbd hf
    obtain ⟨⟨v4, σ3⟩, e2, hf⟩ := xbd hf
    dsimp only at hf
    have hm := hm.tr (m_X1_takeKind e2)
    exact hm.tr (m_X1_takeJ_j30 hf)
theorem s_X1_takeJ_e {G : XG} (C : XC G cX1_takeJ RX1 (some .int) 3 2 42) {σ : XS} {r0 : Nat} {x : Int32 × XS} (hf : f_X1_takeJ σ r0 = some x) (hk : XEnd G (some (.int x.1)) x.2) : WW G 0 [(0, .ref (gB G + r0))] [] σ := by
  refine ww_aload_n (pc := 0) C 0 dX1_takeJ_0 rfl ?_
  obtain ⟨z2, e1, hf⟩ := xbd hf
  refine gf_X1_12 (pc := 1) C e1 dX1_takeJ_1 ?_
  refine ww_aload_n (pc := 4) C 0 dX1_takeJ_4 rfl ?_
  obtain ⟨v4, e3, hf⟩ := xbd hf
  refine gf_X1_49 (pc := 5) C e3 dX1_takeJ_5 ?_
  obtain ⟨_, e5, hf⟩ := xbd hf
  obtain ⟨v7, e6, hf⟩ := xbd hf
  refine ww_callVi (pc := 8) (as := [.int v4]) (st := []) C (k_X8_kindAt (l := gl G) (E := gE G) (hb := gB G) (σ := σ) e6) rfl (by decide) xc_X1_85 q590 qp15 (xck_spec e5) rfl (by decide) (xst4 (Nat.le_of_ble_eq_true rfl)) xsame.rf.le xsame.rf.lim dX1_takeJ_8 ?_
  refine ww_iconst (pc := 11) (v := (3 : Int32)) C dX1_takeJ_11 (by decide) ?_
  refine ww_icmp_ne (pc := 12) (tgt := 19) C dX1_takeJ_12 (by decide) (fun q => ?_) (fun q => ?_)
  · have hf := xin q hf
    refine ww_iconst (pc := 19) (v := (0 : Int32)) C dX1_takeJ_19 (by decide) ?_
    refine ww_sub [0] rfl ?_
    exact s_X1_takeJ_j20 C hf hk
  · have hf := xip q hf
    refine ww_iconst (pc := 15) (v := (1 : Int32)) C dX1_takeJ_15 (by decide) ?_
    refine ww_goto (pc := 16) (tgt := 20) C dX1_takeJ_16 (by decide) ?_
    refine ww_sub [0] rfl ?_
    exact s_X1_takeJ_j20 C hf hk
theorem m_X1_takeJ {σ : XS} {r0 : Nat} {x : Int32 × XS} (hf : f_X1_takeJ σ r0 = some x) : xsame σ x.2 := by
  have hm := xsame.rf (σ := σ)
  obtain ⟨z2, e1, hf⟩ := xbd hf
  obtain ⟨v4, e3, hf⟩ := xbd hf
  obtain ⟨_, e5, hf⟩ := xbd hf
  obtain ⟨v7, e6, hf⟩ := xbd hf
  by_cases q : v7 = (3 : Int32)
  · have hf := xip q hf
    exact hm.tr (m_X1_takeJ_j20 hf)
  · have hf := xin q hf
    exact hm.tr (m_X1_takeJ_j20 hf)
theorem k_X1_takeJ {l : Launch} {E : XD} {hb : Nat} {σ : XS} {r0 : Nat} {x : Int32 × XS} (h : f_X1_takeJ σ r0 = some x) : XM l yX1_takeJ cX1_takeJ 3 (some .int) 2 42 E hb [.ref (hb + r0)] σ (some (.int x.1)) x.2 := by
  refine xm_of (by decide) (Nat.le_of_ble_eq_true rfl) (m_X1_takeJ h).le (fun G hG C hl hQ => ?_)
  obtain ⟨rfl, rfl, rfl, hN⟩ := hG
  exact s_X1_takeJ_e C h hQ
noncomputable def f_X1_takeSite (σ : XS) (r0 : Nat) : Option (Int32 × XS) := (xck σ r0 1).bind fun _ => (f_X1_takeInt σ r0).bind fun (v4, σ3) => (xgI σ3 r0 1 5).bind fun v6 => (xgI σ3 r0 1 6).bind fun v8 => if v4 < (v6 * v8) then (some (v4, σ3)) else (xgR σ3 r0 1 0).bind fun z10 => (xgI σ3 r0 1 4).bind fun v12 => (xck σ3 z10 8).bind fun _ => (f_X8_placeAt σ3 z10 (v12 - (1 : Int32))).bind fun v15 => (xck σ3 r0 1).bind fun _ => (f_X1_blame σ3 r0 (4 : Int32) v15).bind fun σ18 => some (v4, σ18)
theorem s_X1_takeSite_e {G : XG} (C : XC G cX1_takeSite RX1 (some .int) 2 2 42) {σ : XS} {r0 : Nat} {x : Int32 × XS} (hf : f_X1_takeSite σ r0 = some x) (hk : XEnd G (some (.int x.1)) x.2) : WW G 0 [(0, .ref (gB G + r0))] [] σ := by
  refine ww_aload_n (pc := 0) C 0 dX1_takeSite_0 rfl ?_
  obtain ⟨_, e1, hf⟩ := xbd hf
  obtain ⟨⟨v4, σ3⟩, e2, hf⟩ := xbd hf
  dsimp only at hf
  refine ww_callVi (pc := 1) (as := []) (st := []) C (k_X1_takeInt (l := gl G) (E := gE G) (hb := gB G) (σ := σ) e2) rfl (by decide) xc_X1_95 q594 qp16 (xck_spec e1) rfl (by decide) (xst4 (Nat.le_of_ble_eq_true rfl)) (m_X1_takeInt e2).le (m_X1_takeInt e2).lim dX1_takeSite_1 ?_
  refine ww_istore_n (pc := 4) (lv' := [(1, .int v4), (0, .ref (gB G + r0))]) C dX1_takeSite_4 (by decide) rfl ?_
  refine ww_iload_n (pc := 5) C 0 dX1_takeSite_5 rfl ?_
  refine ww_aload_n (pc := 6) C 1 dX1_takeSite_6 rfl ?_
  obtain ⟨v6, e5, hf⟩ := xbd hf
  refine gf_X1_98 (pc := 7) C e5 dX1_takeSite_7 ?_
  refine ww_aload_n (pc := 10) C 1 dX1_takeSite_10 rfl ?_
  obtain ⟨v8, e7, hf⟩ := xbd hf
  refine gf_X1_104 (pc := 11) C e7 dX1_takeSite_11 ?_
  refine ww_imul (pc := 14) C dX1_takeSite_14 ?_
  refine ww_icmp_lt (pc := 15) (tgt := 36) C dX1_takeSite_15 (by decide) (fun q => ?_) (fun q => ?_)
  · have hf := xip q hf
    refine ww_iload_n (pc := 36) C 0 dX1_takeSite_36 rfl ?_
    have hf := xsj hf
    subst hf
    exact ww_iret (pc := 37) C hk dX1_takeSite_37
  · have hf := xin q hf
    refine ww_aload_n (pc := 18) C 1 dX1_takeSite_18 rfl ?_
    refine ww_iconst (pc := 19) (v := (4 : Int32)) C dX1_takeSite_19 (by decide) ?_
    refine ww_aload_n (pc := 20) C 1 dX1_takeSite_20 rfl ?_
    obtain ⟨z10, e9, hf⟩ := xbd hf
    refine gf_X1_12 (pc := 21) C e9 dX1_takeSite_21 ?_
    refine ww_aload_n (pc := 24) C 1 dX1_takeSite_24 rfl ?_
    obtain ⟨v12, e11, hf⟩ := xbd hf
    refine gf_X1_49 (pc := 25) C e11 dX1_takeSite_25 ?_
    refine ww_iconst (pc := 28) (v := (1 : Int32)) C dX1_takeSite_28 (by decide) ?_
    refine ww_isub (pc := 29) C dX1_takeSite_29 ?_
    obtain ⟨_, e13, hf⟩ := xbd hf
    obtain ⟨v15, e14, hf⟩ := xbd hf
    refine ww_callVi (pc := 30) (as := [.int (v12 - (1 : Int32))]) (st := [.int (4 : Int32), .ref (gB G + r0)]) C (k_X8_placeAt (l := gl G) (E := gE G) (hb := gB G) (σ := σ3) e14) rfl (by decide) xc_X1_101 q602 qp18 (xck_spec e13) rfl (by decide) (xst4 (Nat.le_of_ble_eq_true rfl)) xsame.rf.le xsame.rf.lim dX1_takeSite_30 ?_
    obtain ⟨_, e16, hf⟩ := xbd hf
    obtain ⟨σ18, e17, hf⟩ := xbd hf
    refine ww_callVv (pc := 33) (as := [.int (4 : Int32), .int v15]) (st := []) C (k_X1_blame (l := gl G) (E := gE G) (hb := gB G) (σ := σ3) e17) rfl (by decide) xc_X1_36 q578 qp12 (xck_spec e16) rfl (by decide) (xst4 (Nat.le_of_ble_eq_true rfl)) (m_X1_blame e17).le (m_X1_blame e17).lim dX1_takeSite_33 ?_
    refine ww_iload_n (pc := 36) C 0 dX1_takeSite_36 rfl ?_
    have hf := xsj hf
    subst hf
    exact ww_iret (pc := 37) C hk dX1_takeSite_37
theorem m_X1_takeSite {σ : XS} {r0 : Nat} {x : Int32 × XS} (hf : f_X1_takeSite σ r0 = some x) : xsame σ x.2 := by
  have hm := xsame.rf (σ := σ)
  obtain ⟨_, e1, hf⟩ := xbd hf
  obtain ⟨⟨v4, σ3⟩, e2, hf⟩ := xbd hf
  dsimp only at hf
  have hm := hm.tr (m_X1_takeInt e2)
  obtain ⟨v6, e5, hf⟩ := xbd hf
  obtain ⟨v8, e7, hf⟩ := xbd hf
  by_cases q : v4 < (v6 * v8)
  · have hf := xip q hf
    have hf := xsj hf
    subst hf
    exact hm
  · have hf := xin q hf
    obtain ⟨z10, e9, hf⟩ := xbd hf
    obtain ⟨v12, e11, hf⟩ := xbd hf
    obtain ⟨_, e13, hf⟩ := xbd hf
    obtain ⟨v15, e14, hf⟩ := xbd hf
    obtain ⟨_, e16, hf⟩ := xbd hf
    obtain ⟨σ18, e17, hf⟩ := xbd hf
    have hm := hm.tr (m_X1_blame e17)
    have hf := xsj hf
    subst hf
    exact hm
theorem k_X1_takeSite {l : Launch} {E : XD} {hb : Nat} {σ : XS} {r0 : Nat} {x : Int32 × XS} (h : f_X1_takeSite σ r0 = some x) : XM l yX1_takeSite cX1_takeSite 2 (some .int) 2 42 E hb [.ref (hb + r0)] σ (some (.int x.1)) x.2 := by
  refine xm_of (by decide) (Nat.le_of_ble_eq_true rfl) (m_X1_takeSite h).le (fun G hG C hl hQ => ?_)
  obtain ⟨rfl, rfl, rfl, hN⟩ := hG
  exact s_X1_takeSite_e C h hQ
noncomputable def f_X1_takeTie_j68 (σ : XS) (r0 : Nat) (x2 : Int32) : Option XS := (xck σ r0 1).bind fun _ => (f_X1_takeJ σ r0).bind fun (v4, σ3) => (xgI σ3 r0 1 2).bind fun v6 => if v6 = 0 then ((xgR σ3 r0 1 1).bind fun z8 => (xck σ3 z8 6).bind fun _ => (f_X6_setBond σ3 z8 x2 v4).bind fun σ11 => (xgI σ11 r0 1 11).bind fun v13 => (xpI σ11 r0 1 11 (v13 ||| ((1 : Int32) <<< (x2 &&& 31)))).bind fun σ15 => some σ15) else some σ3
noncomputable def f_X1_takeTie_j22 (σ : XS) (r0 : Nat) (t0 : Int32) : Option XS := (xgI σ r0 1 2).bind fun v2 => if v2 = 0 then ((xgI σ r0 1 5).bind fun v4 => (xgI σ r0 1 6).bind fun v6 => (xgI σ r0 1 7).bind fun v8 => (f_X3_endOf v4 v6 v8 t0).bind fun v10 => if v10 = (-1 : Int32) then ((xgR σ r0 1 0).bind fun z12 => (xgI σ r0 1 4).bind fun v14 => (xck σ z12 8).bind fun _ => (f_X8_placeAt σ z12 (v14 - (2 : Int32))).bind fun v17 => (xck σ r0 1).bind fun _ => (f_X1_blame σ r0 (4 : Int32) v17).bind fun σ20 => f_X1_takeTie_j68 σ20 r0 t0) else f_X1_takeTie_j68 σ r0 t0) else f_X1_takeTie_j68 σ r0 t0
noncomputable def f_X1_takeTie (σ : XS) (r0 : Nat) : Option XS := (xck σ r0 1).bind fun _ => (f_X1_takeSite σ r0).bind fun (v4, σ3) => (xck σ3 r0 1).bind fun _ => (f_X1_takeKind σ3 r0).bind fun (v8, σ7) => if v8 = (7 : Int32) then (f_X1_takeTie_j22 σ7 r0 ((16 : Int32) + v4)) else f_X1_takeTie_j22 σ7 r0 v4
theorem s_X1_takeTie_j68 {G : XG} (C : XC G cX1_takeTie RX1 none 4 3 64) {σ : XS} {r0 : Nat} {x2 : Int32} {x : XS} (hf : f_X1_takeTie_j68 σ r0 x2 = some x) (hk : XEnd G none x) : WW G 68 [(0, .ref (gB G + r0)), (2, .int x2)] [] σ := by
  refine ww_aload_n (pc := 68) C 0 dX1_takeTie_68 rfl ?_
  obtain ⟨_, e1, hf⟩ := xbd hf
  obtain ⟨⟨v4, σ3⟩, e2, hf⟩ := xbd hf
  dsimp only at hf
  refine ww_callVi (pc := 69) (as := []) (st := []) C (k_X1_takeJ (l := gl G) (E := gE G) (hb := gB G) (σ := σ) e2) rfl (by decide) xc_X1_107 q614 qp21 (xck_spec e1) rfl (by decide) (xst4 (Nat.le_of_ble_eq_true rfl)) (m_X1_takeJ e2).le (m_X1_takeJ e2).lim dX1_takeTie_69 ?_
  refine ww_istore_n (pc := 72) (lv' := [(3, .int v4), (0, .ref (gB G + r0)), (2, .int x2)]) C dX1_takeTie_72 (by decide) rfl ?_
  refine ww_aload_n (pc := 73) C 1 dX1_takeTie_73 rfl ?_
  obtain ⟨v6, e5, hf⟩ := xbd hf
  refine gf_X1_46 (pc := 74) C e5 dX1_takeTie_74 ?_
  refine ww_if_ne (pc := 77) (tgt := 101) C dX1_takeTie_77 (by decide) (fun q => ?_) (fun q => ?_)
  · have hf := xin q hf
    have hf := xsj hf
    subst hf
    exact ww_vret (pc := 101) C hk dX1_takeTie_101
  · have hf := xip q hf
    refine ww_aload_n (pc := 80) C 1 dX1_takeTie_80 rfl ?_
    obtain ⟨z8, e7, hf⟩ := xbd hf
    refine gf_X1_21 (pc := 81) C e7 dX1_takeTie_81 ?_
    refine ww_iload_n (pc := 84) C 2 dX1_takeTie_84 rfl ?_
    refine ww_iload_n (pc := 85) C 0 dX1_takeTie_85 rfl ?_
    obtain ⟨_, e9, hf⟩ := xbd hf
    obtain ⟨σ11, e10, hf⟩ := xbd hf
    refine ww_callVv (pc := 86) (as := [.int x2, .int v4]) (st := []) C (k_X6_setBond (l := gl G) (E := gE G) (hb := gB G) (σ := σ3) e10) rfl (by decide) xc_X1_131 q632 qp24 (xck_spec e9) rfl (by decide) (xst4 (Nat.le_of_ble_eq_true rfl)) (m_X6_setBond e10).le (m_X6_setBond e10).lim dX1_takeTie_86 ?_
    refine ww_aload_n (pc := 89) C 1 dX1_takeTie_89 rfl ?_
    refine ww_dup (pc := 90) C dX1_takeTie_90 rfl ?_
    obtain ⟨v13, e12, hf⟩ := xbd hf
    refine gf_X1_79 (pc := 91) C e12 dX1_takeTie_91 ?_
    refine ww_iconst (pc := 94) (v := (1 : Int32)) C dX1_takeTie_94 (by decide) ?_
    refine ww_iload_n (pc := 95) C 2 dX1_takeTie_95 rfl ?_
    refine ww_ishl (pc := 96) C dX1_takeTie_96 ?_
    refine ww_ior (pc := 97) C dX1_takeTie_97 ?_
    obtain ⟨σ15, e14, hf⟩ := xbd hf
    refine pf_X1_79 (pc := 98) C e14 dX1_takeTie_98 ?_
    have hf := xsj hf
    subst hf
    exact ww_vret (pc := 101) C hk dX1_takeTie_101
theorem m_X1_takeTie_j68 {σ : XS} {r0 : Nat} {x2 : Int32} {x : XS} (hf : f_X1_takeTie_j68 σ r0 x2 = some x) : xsame σ x := by
  have hm := xsame.rf (σ := σ)
  obtain ⟨_, e1, hf⟩ := xbd hf
  obtain ⟨⟨v4, σ3⟩, e2, hf⟩ := xbd hf
  dsimp only at hf
  have hm := hm.tr (m_X1_takeJ e2)
  obtain ⟨v6, e5, hf⟩ := xbd hf
  by_cases q : v6 = 0
  · have hf := xip q hf
    obtain ⟨z8, e7, hf⟩ := xbd hf
    obtain ⟨_, e9, hf⟩ := xbd hf
    obtain ⟨σ11, e10, hf⟩ := xbd hf
    have hm := hm.tr (m_X6_setBond e10)
    obtain ⟨v13, e12, hf⟩ := xbd hf
    obtain ⟨σ15, e14, hf⟩ := xbd hf
    have hm := hm.tr (xpI_same e14)
    have hf := xsj hf
    subst hf
    exact hm
  · have hf := xin q hf
    have hf := xsj hf
    subst hf
    exact hm
theorem s_X1_takeTie_j22 {G : XG} (C : XC G cX1_takeTie RX1 none 4 3 64) {σ : XS} {r0 : Nat} {t0 : Int32} {x : XS} (hf : f_X1_takeTie_j22 σ r0 t0 = some x) (hk : XEnd G none x) : WW G 22 [(0, .ref (gB G + r0))] [.int t0] σ := by
  refine ww_istore_n (pc := 22) (lv' := [(2, .int t0), (0, .ref (gB G + r0))]) C dX1_takeTie_22 (by decide) rfl ?_
  refine ww_aload_n (pc := 23) C 1 dX1_takeTie_23 rfl ?_
  obtain ⟨v2, e1, hf⟩ := xbd hf
  refine gf_X1_46 (pc := 24) C e1 dX1_takeTie_24 ?_
  refine ww_if_ne (pc := 27) (tgt := 68) C dX1_takeTie_27 (by decide) (fun q => ?_) (fun q => ?_)
  · have hf := xin q hf
    refine ww_sub [1, 0] rfl ?_
    exact s_X1_takeTie_j68 C hf hk
  · have hf := xip q hf
    refine ww_aload_n (pc := 30) C 1 dX1_takeTie_30 rfl ?_
    obtain ⟨v4, e3, hf⟩ := xbd hf
    refine gf_X1_98 (pc := 31) C e3 dX1_takeTie_31 ?_
    refine ww_aload_n (pc := 34) C 1 dX1_takeTie_34 rfl ?_
    obtain ⟨v6, e5, hf⟩ := xbd hf
    refine gf_X1_104 (pc := 35) C e5 dX1_takeTie_35 ?_
    refine ww_aload_n (pc := 38) C 1 dX1_takeTie_38 rfl ?_
    obtain ⟨v8, e7, hf⟩ := xbd hf
    refine gf_X1_67 (pc := 39) C e7 dX1_takeTie_39 ?_
    refine ww_iload_n (pc := 42) C 0 dX1_takeTie_42 rfl ?_
    obtain ⟨v10, e9, hf⟩ := xbd hf
    refine ww_callSi (pc := 43) (as := [.int v4, .int v6, .int v8, .int t0]) (st := []) C (k_X3_endOf (l := gl G) (E := gE G) (hb := gB G) (σ := σ) e9) xc_X1_125 q625 rfl (by decide) (xst4 (Nat.le_of_ble_eq_true rfl)) xsame.rf.le xsame.rf.lim dX1_takeTie_43 ?_
    refine ww_iconst (pc := 46) (v := (-1 : Int32)) C dX1_takeTie_46 (by decide) ?_
    refine ww_icmp_ne (pc := 47) (tgt := 68) C dX1_takeTie_47 (by decide) (fun q => ?_) (fun q => ?_)
    · have hf := xin q hf
      refine ww_sub [1, 0] rfl ?_
      exact s_X1_takeTie_j68 C hf hk
    · have hf := xip q hf
      refine ww_aload_n (pc := 50) C 1 dX1_takeTie_50 rfl ?_
      refine ww_iconst (pc := 51) (v := (4 : Int32)) C dX1_takeTie_51 (by decide) ?_
      refine ww_aload_n (pc := 52) C 1 dX1_takeTie_52 rfl ?_
      obtain ⟨z12, e11, hf⟩ := xbd hf
      refine gf_X1_12 (pc := 53) C e11 dX1_takeTie_53 ?_
      refine ww_aload_n (pc := 56) C 1 dX1_takeTie_56 rfl ?_
      obtain ⟨v14, e13, hf⟩ := xbd hf
      refine gf_X1_49 (pc := 57) C e13 dX1_takeTie_57 ?_
      refine ww_iconst (pc := 60) (v := (2 : Int32)) C dX1_takeTie_60 (by decide) ?_
      refine ww_isub (pc := 61) C dX1_takeTie_61 ?_
      obtain ⟨_, e15, hf⟩ := xbd hf
      obtain ⟨v17, e16, hf⟩ := xbd hf
      refine ww_callVi (pc := 62) (as := [.int (v14 - (2 : Int32))]) (st := [.int (4 : Int32), .ref (gB G + r0)]) C (k_X8_placeAt (l := gl G) (E := gE G) (hb := gB G) (σ := σ) e16) rfl (by decide) xc_X1_101 q602 qp18 (xck_spec e15) rfl (by decide) (xst4 (Nat.le_of_ble_eq_true rfl)) xsame.rf.le xsame.rf.lim dX1_takeTie_62 ?_
      obtain ⟨_, e18, hf⟩ := xbd hf
      obtain ⟨σ20, e19, hf⟩ := xbd hf
      refine ww_callVv (pc := 65) (as := [.int (4 : Int32), .int v17]) (st := []) C (k_X1_blame (l := gl G) (E := gE G) (hb := gB G) (σ := σ) e19) rfl (by decide) xc_X1_36 q578 qp12 (xck_spec e18) rfl (by decide) (xst4 (Nat.le_of_ble_eq_true rfl)) (m_X1_blame e19).le (m_X1_blame e19).lim dX1_takeTie_65 ?_
      refine ww_sub [1, 0] rfl ?_
      exact s_X1_takeTie_j68 C hf hk
theorem m_X1_takeTie_j22 {σ : XS} {r0 : Nat} {t0 : Int32} {x : XS} (hf : f_X1_takeTie_j22 σ r0 t0 = some x) : xsame σ x := by
  have hm := xsame.rf (σ := σ)
  obtain ⟨v2, e1, hf⟩ := xbd hf
  by_cases q : v2 = 0
  · have hf := xip q hf
    obtain ⟨v4, e3, hf⟩ := xbd hf
    obtain ⟨v6, e5, hf⟩ := xbd hf
    obtain ⟨v8, e7, hf⟩ := xbd hf
    obtain ⟨v10, e9, hf⟩ := xbd hf
    by_cases q : v10 = (-1 : Int32)
    · have hf := xip q hf
      obtain ⟨z12, e11, hf⟩ := xbd hf
      obtain ⟨v14, e13, hf⟩ := xbd hf
      obtain ⟨_, e15, hf⟩ := xbd hf
      obtain ⟨v17, e16, hf⟩ := xbd hf
      obtain ⟨_, e18, hf⟩ := xbd hf
      obtain ⟨σ20, e19, hf⟩ := xbd hf
      have hm := hm.tr (m_X1_blame e19)
      exact hm.tr (m_X1_takeTie_j68 hf)
    · have hf := xin q hf
      exact hm.tr (m_X1_takeTie_j68 hf)
  · have hf := xin q hf
    exact hm.tr (m_X1_takeTie_j68 hf)
theorem s_X1_takeTie_e {G : XG} (C : XC G cX1_takeTie RX1 none 4 3 64) {σ : XS} {r0 : Nat} {x : XS} (hf : f_X1_takeTie σ r0 = some x) (hk : XEnd G none x) : WW G 0 [(0, .ref (gB G + r0))] [] σ := by
  refine ww_aload_n (pc := 0) C 0 dX1_takeTie_0 rfl ?_
  obtain ⟨_, e1, hf⟩ := xbd hf
  obtain ⟨⟨v4, σ3⟩, e2, hf⟩ := xbd hf
  dsimp only at hf
  refine ww_callVi (pc := 1) (as := []) (st := []) C (k_X1_takeSite (l := gl G) (E := gE G) (hb := gB G) (σ := σ) e2) rfl (by decide) xc_X1_122 q622 qp23 (xck_spec e1) rfl (by decide) (xst4 (Nat.le_of_ble_eq_true rfl)) (m_X1_takeSite e2).le (m_X1_takeSite e2).lim dX1_takeTie_1 ?_
  refine ww_istore_n (pc := 4) (lv' := [(1, .int v4), (0, .ref (gB G + r0))]) C dX1_takeTie_4 (by decide) rfl ?_
  refine ww_aload_n (pc := 5) C 1 dX1_takeTie_5 rfl ?_
  obtain ⟨_, e5, hf⟩ := xbd hf
  obtain ⟨⟨v8, σ7⟩, e6, hf⟩ := xbd hf
  dsimp only at hf
  refine ww_callVi (pc := 6) (as := []) (st := []) C (k_X1_takeKind (l := gl G) (E := gE G) (hb := gB G) (σ := σ3) e6) rfl (by decide) xc_X1_92 q586 qp14 (xck_spec e5) rfl (by decide) (xst4 (Nat.le_of_ble_eq_true rfl)) (m_X1_takeKind e6).le (m_X1_takeKind e6).lim dX1_takeTie_6 ?_
  refine ww_bipush (pc := 9) (v := (7 : Int32)) C dX1_takeTie_9 (by decide) ?_
  refine ww_icmp_ne (pc := 11) (tgt := 21) C dX1_takeTie_11 (by decide) (fun q => ?_) (fun q => ?_)
  · have hf := xin q hf
    refine ww_iload_n (pc := 21) C 0 dX1_takeTie_21 rfl ?_
    refine ww_sub [1] rfl ?_
    exact s_X1_takeTie_j22 C hf hk
  · have hf := xip q hf
    refine ww_bipush (pc := 14) (v := (16 : Int32)) C dX1_takeTie_14 (by decide) ?_
    refine ww_iload_n (pc := 16) C 0 dX1_takeTie_16 rfl ?_
    refine ww_iadd (pc := 17) C dX1_takeTie_17 ?_
    refine ww_goto (pc := 18) (tgt := 22) C dX1_takeTie_18 (by decide) ?_
    refine ww_sub [1] rfl ?_
    exact s_X1_takeTie_j22 C hf hk
theorem m_X1_takeTie {σ : XS} {r0 : Nat} {x : XS} (hf : f_X1_takeTie σ r0 = some x) : xsame σ x := by
  have hm := xsame.rf (σ := σ)
  obtain ⟨_, e1, hf⟩ := xbd hf
  obtain ⟨⟨v4, σ3⟩, e2, hf⟩ := xbd hf
  dsimp only at hf
  have hm := hm.tr (m_X1_takeSite e2)
  obtain ⟨_, e5, hf⟩ := xbd hf
  obtain ⟨⟨v8, σ7⟩, e6, hf⟩ := xbd hf
  dsimp only at hf
  have hm := hm.tr (m_X1_takeKind e6)
  by_cases q : v8 = (7 : Int32)
  · have hf := xip q hf
    exact hm.tr (m_X1_takeTie_j22 hf)
  · have hf := xin q hf
    exact hm.tr (m_X1_takeTie_j22 hf)
theorem k_X1_takeTie {l : Launch} {E : XD} {hb : Nat} {σ : XS} {r0 : Nat} {x : XS} (h : f_X1_takeTie σ r0 = some x) : XM l yX1_takeTie cX1_takeTie 4 none 3 64 E hb [.ref (hb + r0)] σ none x := by
  refine xm_of (by decide) (Nat.le_of_ble_eq_true rfl) (m_X1_takeTie h).le (fun G hG C hl hQ => ?_)
  obtain ⟨rfl, rfl, rfl, hN⟩ := hG
  exact s_X1_takeTie_e C h hQ
noncomputable def f_X1_takePull (σ : XS) (r0 : Nat) : Option XS := (xck σ r0 1).bind fun _ => (f_X1_takeSite σ r0).bind fun (v4, σ3) => (xck σ3 r0 1).bind fun _ => (f_X1_takeJ σ3 r0).bind fun (v8, σ7) => (xgI σ7 r0 1 2).bind fun v10 => if v10 = 0 then ((xgR σ7 r0 1 1).bind fun z12 => (xck σ7 z12 6).bind fun _ => (f_X6_setField σ7 z12 v4 v8).bind fun σ15 => (xgI σ15 r0 1 12).bind fun v17 => (xpI σ15 r0 1 12 (v17 ||| ((1 : Int32) <<< (v4 &&& 31)))).bind fun σ19 => some σ19) else some σ7
theorem s_X1_takePull_e {G : XG} (C : XC G cX1_takePull RX1 none 3 3 64) {σ : XS} {r0 : Nat} {x : XS} (hf : f_X1_takePull σ r0 = some x) (hk : XEnd G none x) : WW G 0 [(0, .ref (gB G + r0))] [] σ := by
  refine ww_aload_n (pc := 0) C 0 dX1_takePull_0 rfl ?_
  obtain ⟨_, e1, hf⟩ := xbd hf
  obtain ⟨⟨v4, σ3⟩, e2, hf⟩ := xbd hf
  dsimp only at hf
  refine ww_callVi (pc := 1) (as := []) (st := []) C (k_X1_takeSite (l := gl G) (E := gE G) (hb := gB G) (σ := σ) e2) rfl (by decide) xc_X1_122 q622 qp23 (xck_spec e1) rfl (by decide) (xst4 (Nat.le_of_ble_eq_true rfl)) (m_X1_takeSite e2).le (m_X1_takeSite e2).lim dX1_takePull_1 ?_
  refine ww_istore_n (pc := 4) (lv' := [(1, .int v4), (0, .ref (gB G + r0))]) C dX1_takePull_4 (by decide) rfl ?_
  refine ww_aload_n (pc := 5) C 1 dX1_takePull_5 rfl ?_
  obtain ⟨_, e5, hf⟩ := xbd hf
  obtain ⟨⟨v8, σ7⟩, e6, hf⟩ := xbd hf
  dsimp only at hf
  refine ww_callVi (pc := 6) (as := []) (st := []) C (k_X1_takeJ (l := gl G) (E := gE G) (hb := gB G) (σ := σ3) e6) rfl (by decide) xc_X1_107 q614 qp21 (xck_spec e5) rfl (by decide) (xst4 (Nat.le_of_ble_eq_true rfl)) (m_X1_takeJ e6).le (m_X1_takeJ e6).lim dX1_takePull_6 ?_
  refine ww_istore_n (pc := 9) (lv' := [(2, .int v8), (1, .int v4), (0, .ref (gB G + r0))]) C dX1_takePull_9 (by decide) rfl ?_
  refine ww_aload_n (pc := 10) C 2 dX1_takePull_10 rfl ?_
  obtain ⟨v10, e9, hf⟩ := xbd hf
  refine gf_X1_46 (pc := 11) C e9 dX1_takePull_11 ?_
  refine ww_if_ne (pc := 14) (tgt := 38) C dX1_takePull_14 (by decide) (fun q => ?_) (fun q => ?_)
  · have hf := xin q hf
    have hf := xsj hf
    subst hf
    exact ww_vret (pc := 38) C hk dX1_takePull_38
  · have hf := xip q hf
    refine ww_aload_n (pc := 17) C 2 dX1_takePull_17 rfl ?_
    obtain ⟨z12, e11, hf⟩ := xbd hf
    refine gf_X1_21 (pc := 18) C e11 dX1_takePull_18 ?_
    refine ww_iload_n (pc := 21) C 1 dX1_takePull_21 rfl ?_
    refine ww_iload_n (pc := 22) C 0 dX1_takePull_22 rfl ?_
    obtain ⟨_, e13, hf⟩ := xbd hf
    obtain ⟨σ15, e14, hf⟩ := xbd hf
    refine ww_callVv (pc := 23) (as := [.int v4, .int v8]) (st := []) C (k_X6_setField (l := gl G) (E := gE G) (hb := gB G) (σ := σ7) e14) rfl (by decide) xc_X1_134 q640 qp26 (xck_spec e13) rfl (by decide) (xst4 (Nat.le_of_ble_eq_true rfl)) (m_X6_setField e14).le (m_X6_setField e14).lim dX1_takePull_23 ?_
    refine ww_aload_n (pc := 26) C 2 dX1_takePull_26 rfl ?_
    refine ww_dup (pc := 27) C dX1_takePull_27 rfl ?_
    obtain ⟨v17, e16, hf⟩ := xbd hf
    refine gf_X1_82 (pc := 28) C e16 dX1_takePull_28 ?_
    refine ww_iconst (pc := 31) (v := (1 : Int32)) C dX1_takePull_31 (by decide) ?_
    refine ww_iload_n (pc := 32) C 1 dX1_takePull_32 rfl ?_
    refine ww_ishl (pc := 33) C dX1_takePull_33 ?_
    refine ww_ior (pc := 34) C dX1_takePull_34 ?_
    obtain ⟨σ19, e18, hf⟩ := xbd hf
    refine pf_X1_82 (pc := 35) C e18 dX1_takePull_35 ?_
    have hf := xsj hf
    subst hf
    exact ww_vret (pc := 38) C hk dX1_takePull_38
theorem m_X1_takePull {σ : XS} {r0 : Nat} {x : XS} (hf : f_X1_takePull σ r0 = some x) : xsame σ x := by
  have hm := xsame.rf (σ := σ)
  obtain ⟨_, e1, hf⟩ := xbd hf
  obtain ⟨⟨v4, σ3⟩, e2, hf⟩ := xbd hf
  dsimp only at hf
  have hm := hm.tr (m_X1_takeSite e2)
  obtain ⟨_, e5, hf⟩ := xbd hf
  obtain ⟨⟨v8, σ7⟩, e6, hf⟩ := xbd hf
  dsimp only at hf
  have hm := hm.tr (m_X1_takeJ e6)
  obtain ⟨v10, e9, hf⟩ := xbd hf
  by_cases q : v10 = 0
  · have hf := xip q hf
    obtain ⟨z12, e11, hf⟩ := xbd hf
    obtain ⟨_, e13, hf⟩ := xbd hf
    obtain ⟨σ15, e14, hf⟩ := xbd hf
    have hm := hm.tr (m_X6_setField e14)
    obtain ⟨v17, e16, hf⟩ := xbd hf
    obtain ⟨σ19, e18, hf⟩ := xbd hf
    have hm := hm.tr (xpI_same e18)
    have hf := xsj hf
    subst hf
    exact hm
  · have hf := xin q hf
    have hf := xsj hf
    subst hf
    exact hm
theorem k_X1_takePull {l : Launch} {E : XD} {hb : Nat} {σ : XS} {r0 : Nat} {x : XS} (h : f_X1_takePull σ r0 = some x) : XM l yX1_takePull cX1_takePull 3 none 3 64 E hb [.ref (hb + r0)] σ none x := by
  refine xm_of (by decide) (Nat.le_of_ble_eq_true rfl) (m_X1_takePull h).le (fun G hG C hl hQ => ?_)
  obtain ⟨rfl, rfl, rfl, hN⟩ := hG
  exact s_X1_takePull_e C h hQ
noncomputable def f_X1_takePin_j19 (σ : XS) (r0 : Nat) (x1 : Int32) (t0 : Int32) : Option XS := (xgI σ r0 1 2).bind fun v2 => if v2 = 0 then ((xgR σ r0 1 1).bind fun z4 => (xck σ z4 6).bind fun _ => (f_X6_setPin σ z4 x1 t0).bind fun σ7 => some σ7) else some σ
noncomputable def f_X1_takePin (σ : XS) (r0 : Nat) : Option XS := (xck σ r0 1).bind fun _ => (f_X1_takeSite σ r0).bind fun (v4, σ3) => (xck σ3 r0 1).bind fun _ => (f_X1_takeKind σ3 r0).bind fun (v8, σ7) => if v8 = (13 : Int32) then (f_X1_takePin_j19 σ7 r0 v4 (1 : Int32)) else f_X1_takePin_j19 σ7 r0 v4 (2 : Int32)
theorem s_X1_takePin_j19 {G : XG} (C : XC G cX1_takePin RX1 none 3 3 63) {σ : XS} {r0 : Nat} {x1 : Int32} {t0 : Int32} {x : XS} (hf : f_X1_takePin_j19 σ r0 x1 t0 = some x) (hk : XEnd G none x) : WW G 19 [(0, .ref (gB G + r0)), (1, .int x1)] [.int t0] σ := by
  refine ww_istore_n (pc := 19) (lv' := [(2, .int t0), (0, .ref (gB G + r0)), (1, .int x1)]) C dX1_takePin_19 (by decide) rfl ?_
  refine ww_aload_n (pc := 20) C 1 dX1_takePin_20 rfl ?_
  obtain ⟨v2, e1, hf⟩ := xbd hf
  refine gf_X1_46 (pc := 21) C e1 dX1_takePin_21 ?_
  refine ww_if_ne (pc := 24) (tgt := 36) C dX1_takePin_24 (by decide) (fun q => ?_) (fun q => ?_)
  · have hf := xin q hf
    have hf := xsj hf
    subst hf
    exact ww_vret (pc := 36) C hk dX1_takePin_36
  · have hf := xip q hf
    refine ww_aload_n (pc := 27) C 1 dX1_takePin_27 rfl ?_
    obtain ⟨z4, e3, hf⟩ := xbd hf
    refine gf_X1_21 (pc := 28) C e3 dX1_takePin_28 ?_
    refine ww_iload_n (pc := 31) C 2 dX1_takePin_31 rfl ?_
    refine ww_iload_n (pc := 32) C 0 dX1_takePin_32 rfl ?_
    obtain ⟨_, e5, hf⟩ := xbd hf
    obtain ⟨σ7, e6, hf⟩ := xbd hf
    refine ww_callVv (pc := 33) (as := [.int x1, .int t0]) (st := []) C (k_X6_setPin (l := gl G) (E := gE G) (hb := gB G) (σ := σ) e6) rfl (by decide) xc_X1_137 q648 qp28 (xck_spec e5) rfl (by decide) (xst4 (Nat.le_of_ble_eq_true rfl)) (m_X6_setPin e6).le (m_X6_setPin e6).lim dX1_takePin_33 ?_
    have hf := xsj hf
    subst hf
    exact ww_vret (pc := 36) C hk dX1_takePin_36
theorem m_X1_takePin_j19 {σ : XS} {r0 : Nat} {x1 : Int32} {t0 : Int32} {x : XS} (hf : f_X1_takePin_j19 σ r0 x1 t0 = some x) : xsame σ x := by
  have hm := xsame.rf (σ := σ)
  obtain ⟨v2, e1, hf⟩ := xbd hf
  by_cases q : v2 = 0
  · have hf := xip q hf
    obtain ⟨z4, e3, hf⟩ := xbd hf
    obtain ⟨_, e5, hf⟩ := xbd hf
    obtain ⟨σ7, e6, hf⟩ := xbd hf
    have hm := hm.tr (m_X6_setPin e6)
    have hf := xsj hf
    subst hf
    exact hm
  · have hf := xin q hf
    have hf := xsj hf
    subst hf
    exact hm
theorem s_X1_takePin_e {G : XG} (C : XC G cX1_takePin RX1 none 3 3 63) {σ : XS} {r0 : Nat} {x : XS} (hf : f_X1_takePin σ r0 = some x) (hk : XEnd G none x) : WW G 0 [(0, .ref (gB G + r0))] [] σ := by
  refine ww_aload_n (pc := 0) C 0 dX1_takePin_0 rfl ?_
  obtain ⟨_, e1, hf⟩ := xbd hf
  obtain ⟨⟨v4, σ3⟩, e2, hf⟩ := xbd hf
  dsimp only at hf
  refine ww_callVi (pc := 1) (as := []) (st := []) C (k_X1_takeSite (l := gl G) (E := gE G) (hb := gB G) (σ := σ) e2) rfl (by decide) xc_X1_122 q622 qp23 (xck_spec e1) rfl (by decide) (xst4 (Nat.le_of_ble_eq_true rfl)) (m_X1_takeSite e2).le (m_X1_takeSite e2).lim dX1_takePin_1 ?_
  refine ww_istore_n (pc := 4) (lv' := [(1, .int v4), (0, .ref (gB G + r0))]) C dX1_takePin_4 (by decide) rfl ?_
  refine ww_aload_n (pc := 5) C 1 dX1_takePin_5 rfl ?_
  obtain ⟨_, e5, hf⟩ := xbd hf
  obtain ⟨⟨v8, σ7⟩, e6, hf⟩ := xbd hf
  dsimp only at hf
  refine ww_callVi (pc := 6) (as := []) (st := []) C (k_X1_takeKind (l := gl G) (E := gE G) (hb := gB G) (σ := σ3) e6) rfl (by decide) xc_X1_92 q586 qp14 (xck_spec e5) rfl (by decide) (xst4 (Nat.le_of_ble_eq_true rfl)) (m_X1_takeKind e6).le (m_X1_takeKind e6).lim dX1_takePin_6 ?_
  refine ww_bipush (pc := 9) (v := (13 : Int32)) C dX1_takePin_9 (by decide) ?_
  refine ww_icmp_ne (pc := 11) (tgt := 18) C dX1_takePin_11 (by decide) (fun q => ?_) (fun q => ?_)
  · have hf := xin q hf
    refine ww_iconst (pc := 18) (v := (2 : Int32)) C dX1_takePin_18 (by decide) ?_
    refine ww_sub [1, 0] rfl ?_
    exact s_X1_takePin_j19 C hf hk
  · have hf := xip q hf
    refine ww_iconst (pc := 14) (v := (1 : Int32)) C dX1_takePin_14 (by decide) ?_
    refine ww_goto (pc := 15) (tgt := 19) C dX1_takePin_15 (by decide) ?_
    refine ww_sub [1, 0] rfl ?_
    exact s_X1_takePin_j19 C hf hk
theorem m_X1_takePin {σ : XS} {r0 : Nat} {x : XS} (hf : f_X1_takePin σ r0 = some x) : xsame σ x := by
  have hm := xsame.rf (σ := σ)
  obtain ⟨_, e1, hf⟩ := xbd hf
  obtain ⟨⟨v4, σ3⟩, e2, hf⟩ := xbd hf
  dsimp only at hf
  have hm := hm.tr (m_X1_takeSite e2)
  obtain ⟨_, e5, hf⟩ := xbd hf
  obtain ⟨⟨v8, σ7⟩, e6, hf⟩ := xbd hf
  dsimp only at hf
  have hm := hm.tr (m_X1_takeKind e6)
  by_cases q : v8 = (13 : Int32)
  · have hf := xip q hf
    exact hm.tr (m_X1_takePin_j19 hf)
  · have hf := xin q hf
    exact hm.tr (m_X1_takePin_j19 hf)
theorem k_X1_takePin {l : Launch} {E : XD} {hb : Nat} {σ : XS} {r0 : Nat} {x : XS} (h : f_X1_takePin σ r0 = some x) : XM l yX1_takePin cX1_takePin 3 none 3 63 E hb [.ref (hb + r0)] σ none x := by
  refine xm_of (by decide) (Nat.le_of_ble_eq_true rfl) (m_X1_takePin h).le (fun G hG C hl hQ => ?_)
  obtain ⟨rfl, rfl, rfl, hN⟩ := hG
  exact s_X1_takePin_e C h hQ
noncomputable def f_X1_takeTell_j133 (σ : XS) (r0 : Nat) : Option XS := (xck σ r0 1).bind fun _ => (f_X1_takeKind σ r0).bind fun (v4, σ3) => some σ3
noncomputable def f_X1_takeTell (σ : XS) (r0 : Nat) : Option XS := (xck σ r0 1).bind fun _ => (f_X1_takeKind σ r0).bind fun (v4, σ3) => xsw v4 (6) [(xck σ3 r0 1).bind fun _ => (f_X1_takeJ σ3 r0).bind fun (v8, σ7) => (xpI σ7 r0 1 8 v8).bind fun σ10 => f_X1_takeTell_j133 σ10 r0, (xck σ3 r0 1).bind fun _ => (f_X1_takeJ σ3 r0).bind fun (v8, σ7) => (xpI σ7 r0 1 9 v8).bind fun σ10 => f_X1_takeTell_j133 σ10 r0, (xck σ3 r0 1).bind fun _ => (f_X1_takeJ σ3 r0).bind fun (v8, σ7) => (xpI σ7 r0 1 10 v8).bind fun σ10 => f_X1_takeTell_j133 σ10 r0, (xck σ3 r0 1).bind fun _ => (f_X1_takeKind σ3 r0).bind fun (v8, σ7) => f_X1_takeTell_j133 σ7 r0, (xck σ3 r0 1).bind fun _ => (f_X1_takeTie σ3 r0).bind fun σ7 => f_X1_takeTell_j133 σ7 r0, (xck σ3 r0 1).bind fun _ => (f_X1_takePull σ3 r0).bind fun σ7 => f_X1_takeTell_j133 σ7 r0, (xck σ3 r0 1).bind fun _ => (f_X1_takePin σ3 r0).bind fun σ7 => f_X1_takeTell_j133 σ7 r0, (xck σ3 r0 1).bind fun _ => (f_X1_takeKind σ3 r0).bind fun (v8, σ7) => f_X1_takeTell_j133 σ7 r0, (xck σ3 r0 1).bind fun _ => (f_X1_takeKind σ3 r0).bind fun (v8, σ7) => f_X1_takeTell_j133 σ7 r0, (xgR σ3 r0 1 1).bind fun z6 => (xck σ3 r0 1).bind fun _ => (f_X1_takeInt σ3 r0).bind fun (v10, σ9) => (xpI σ9 z6 6 5 v10).bind fun σ12 => f_X1_takeTell_j133 σ12 r0] ((xck σ3 r0 1).bind fun _ => (f_X1_takeKind σ3 r0).bind fun (v8, σ7) => f_X1_takeTell_j133 σ7 r0)
theorem s_X1_takeTell_j133 {G : XG} (C : XC G cX1_takeTell RX1 none 1 4 87) {σ : XS} {r0 : Nat} {x : XS} (hf : f_X1_takeTell_j133 σ r0 = some x) (hk : XEnd G none x) : WW G 133 [(0, .ref (gB G + r0))] [] σ := by
  refine ww_aload_n (pc := 133) C 0 dX1_takeTell_133 rfl ?_
  obtain ⟨_, e1, hf⟩ := xbd hf
  obtain ⟨⟨v4, σ3⟩, e2, hf⟩ := xbd hf
  dsimp only at hf
  refine ww_callVi (pc := 134) (as := []) (st := []) C (k_X1_takeKind (l := gl G) (E := gE G) (hb := gB G) (σ := σ) e2) rfl (by decide) xc_X1_92 q586 qp14 (xck_spec e1) rfl (by decide) (xst4 (Nat.le_of_ble_eq_true rfl)) (m_X1_takeKind e2).le (m_X1_takeKind e2).lim dX1_takeTell_134 ?_
  refine ww_pop (pc := 137) C dX1_takeTell_137 rfl ?_
  have hf := xsj hf
  subst hf
  exact ww_vret (pc := 138) C hk dX1_takeTell_138
theorem m_X1_takeTell_j133 {σ : XS} {r0 : Nat} {x : XS} (hf : f_X1_takeTell_j133 σ r0 = some x) : xsame σ x := by
  have hm := xsame.rf (σ := σ)
  obtain ⟨_, e1, hf⟩ := xbd hf
  obtain ⟨⟨v4, σ3⟩, e2, hf⟩ := xbd hf
  dsimp only at hf
  have hm := hm.tr (m_X1_takeKind e2)
  have hf := xsj hf
  subst hf
  exact hm
theorem s_X1_takeTell_e {G : XG} (C : XC G cX1_takeTell RX1 none 1 4 87) {σ : XS} {r0 : Nat} {x : XS} (hf : f_X1_takeTell σ r0 = some x) (hk : XEnd G none x) : WW G 0 [(0, .ref (gB G + r0))] [] σ := by
  refine ww_aload_n (pc := 0) C 0 dX1_takeTell_0 rfl ?_
  obtain ⟨_, e1, hf⟩ := xbd hf
  obtain ⟨⟨v4, σ3⟩, e2, hf⟩ := xbd hf
  dsimp only at hf
  refine ww_callVi (pc := 1) (as := []) (st := []) C (k_X1_takeKind (l := gl G) (E := gE G) (hb := gB G) (σ := σ) e2) rfl (by decide) xc_X1_92 q586 qp14 (xck_spec e1) rfl (by decide) (xst4 (Nat.le_of_ble_eq_true rfl)) (m_X1_takeKind e2).le (m_X1_takeKind e2).lim dX1_takeTell_1 ?_
  refine ww_table (pc := 4) C dX1_takeTell_4 (fun k hk1 hk2 => ?_) (fun ho => ?_)
  · rcases (by omega : k = 0 ∨ k = 1 ∨ k = 2 ∨ k = 3 ∨ k = 4 ∨ k = 5 ∨ k = 6 ∨ k = 7 ∨ k = 8 ∨ k = 9) with rfl | rfl | rfl | rfl | rfl | rfl | rfl | rfl | rfl | rfl
    · refine ⟨60, 56, rfl, by decide, ?_⟩
      have hf := xsw_in 0 hk1 rfl hf
      refine ww_aload_n (pc := 60) C 0 dX1_takeTell_60 rfl ?_
      refine ww_aload_n (pc := 61) C 0 dX1_takeTell_61 rfl ?_
      obtain ⟨_, e5, hf⟩ := xbd hf
      obtain ⟨⟨v8, σ7⟩, e6, hf⟩ := xbd hf
      dsimp only at hf
      refine ww_callVi (pc := 62) (as := []) (st := [.ref (gB G + r0)]) C (k_X1_takeJ (l := gl G) (E := gE G) (hb := gB G) (σ := σ3) e6) rfl (by decide) xc_X1_107 q614 qp21 (xck_spec e5) rfl (by decide) (xst4 (Nat.le_of_ble_eq_true rfl)) (m_X1_takeJ e6).le (m_X1_takeJ e6).lim dX1_takeTell_62 ?_
      obtain ⟨σ10, e9, hf⟩ := xbd hf
      refine pf_X1_70 (pc := 65) C e9 dX1_takeTell_65 ?_
      refine ww_goto (pc := 68) (tgt := 133) C dX1_takeTell_68 (by decide) ?_
      refine ww_sub [0] rfl ?_
      exact s_X1_takeTell_j133 C hf hk
    · refine ⟨71, 67, rfl, by decide, ?_⟩
      have hf := xsw_in 1 hk1 rfl hf
      refine ww_aload_n (pc := 71) C 0 dX1_takeTell_71 rfl ?_
      refine ww_aload_n (pc := 72) C 0 dX1_takeTell_72 rfl ?_
      obtain ⟨_, e5, hf⟩ := xbd hf
      obtain ⟨⟨v8, σ7⟩, e6, hf⟩ := xbd hf
      dsimp only at hf
      refine ww_callVi (pc := 73) (as := []) (st := [.ref (gB G + r0)]) C (k_X1_takeJ (l := gl G) (E := gE G) (hb := gB G) (σ := σ3) e6) rfl (by decide) xc_X1_107 q614 qp21 (xck_spec e5) rfl (by decide) (xst4 (Nat.le_of_ble_eq_true rfl)) (m_X1_takeJ e6).le (m_X1_takeJ e6).lim dX1_takeTell_73 ?_
      obtain ⟨σ10, e9, hf⟩ := xbd hf
      refine pf_X1_73 (pc := 76) C e9 dX1_takeTell_76 ?_
      refine ww_goto (pc := 79) (tgt := 133) C dX1_takeTell_79 (by decide) ?_
      refine ww_sub [0] rfl ?_
      exact s_X1_takeTell_j133 C hf hk
    · refine ⟨82, 78, rfl, by decide, ?_⟩
      have hf := xsw_in 2 hk1 rfl hf
      refine ww_aload_n (pc := 82) C 0 dX1_takeTell_82 rfl ?_
      refine ww_aload_n (pc := 83) C 0 dX1_takeTell_83 rfl ?_
      obtain ⟨_, e5, hf⟩ := xbd hf
      obtain ⟨⟨v8, σ7⟩, e6, hf⟩ := xbd hf
      dsimp only at hf
      refine ww_callVi (pc := 84) (as := []) (st := [.ref (gB G + r0)]) C (k_X1_takeJ (l := gl G) (E := gE G) (hb := gB G) (σ := σ3) e6) rfl (by decide) xc_X1_107 q614 qp21 (xck_spec e5) rfl (by decide) (xst4 (Nat.le_of_ble_eq_true rfl)) (m_X1_takeJ e6).le (m_X1_takeJ e6).lim dX1_takeTell_84 ?_
      obtain ⟨σ10, e9, hf⟩ := xbd hf
      refine pf_X1_76 (pc := 87) C e9 dX1_takeTell_87 ?_
      refine ww_goto (pc := 90) (tgt := 133) C dX1_takeTell_90 (by decide) ?_
      refine ww_sub [0] rfl ?_
      exact s_X1_takeTell_j133 C hf hk
    · refine ⟨128, 124, rfl, by decide, ?_⟩
      have hf := xsw_in 3 hk1 rfl hf
      refine ww_aload_n (pc := 128) C 0 dX1_takeTell_128 rfl ?_
      obtain ⟨_, e5, hf⟩ := xbd hf
      obtain ⟨⟨v8, σ7⟩, e6, hf⟩ := xbd hf
      dsimp only at hf
      refine ww_callVi (pc := 129) (as := []) (st := []) C (k_X1_takeKind (l := gl G) (E := gE G) (hb := gB G) (σ := σ3) e6) rfl (by decide) xc_X1_92 q586 qp14 (xck_spec e5) rfl (by decide) (xst4 (Nat.le_of_ble_eq_true rfl)) (m_X1_takeKind e6).le (m_X1_takeKind e6).lim dX1_takeTell_129 ?_
      refine ww_pop (pc := 132) C dX1_takeTell_132 rfl ?_
      refine ww_sub [0] rfl ?_
      exact s_X1_takeTell_j133 C hf hk
    · refine ⟨93, 89, rfl, by decide, ?_⟩
      have hf := xsw_in 4 hk1 rfl hf
      refine ww_aload_n (pc := 93) C 0 dX1_takeTell_93 rfl ?_
      obtain ⟨_, e5, hf⟩ := xbd hf
      obtain ⟨σ7, e6, hf⟩ := xbd hf
      refine ww_callVv (pc := 94) (as := []) (st := []) C (k_X1_takeTie (l := gl G) (E := gE G) (hb := gB G) (σ := σ3) e6) rfl (by decide) xc_X1_110 q618 qp22 (xck_spec e5) rfl (by decide) (xst4 (Nat.le_of_ble_eq_true rfl)) (m_X1_takeTie e6).le (m_X1_takeTie e6).lim dX1_takeTell_94 ?_
      refine ww_goto (pc := 97) (tgt := 133) C dX1_takeTell_97 (by decide) ?_
      refine ww_sub [0] rfl ?_
      exact s_X1_takeTell_j133 C hf hk
    · refine ⟨100, 96, rfl, by decide, ?_⟩
      have hf := xsw_in 5 hk1 rfl hf
      refine ww_aload_n (pc := 100) C 0 dX1_takeTell_100 rfl ?_
      obtain ⟨_, e5, hf⟩ := xbd hf
      obtain ⟨σ7, e6, hf⟩ := xbd hf
      refine ww_callVv (pc := 101) (as := []) (st := []) C (k_X1_takePull (l := gl G) (E := gE G) (hb := gB G) (σ := σ3) e6) rfl (by decide) xc_X1_113 q636 qp25 (xck_spec e5) rfl (by decide) (xst4 (Nat.le_of_ble_eq_true rfl)) (m_X1_takePull e6).le (m_X1_takePull e6).lim dX1_takeTell_101 ?_
      refine ww_goto (pc := 104) (tgt := 133) C dX1_takeTell_104 (by decide) ?_
      refine ww_sub [0] rfl ?_
      exact s_X1_takeTell_j133 C hf hk
    · refine ⟨107, 103, rfl, by decide, ?_⟩
      have hf := xsw_in 6 hk1 rfl hf
      refine ww_aload_n (pc := 107) C 0 dX1_takeTell_107 rfl ?_
      obtain ⟨_, e5, hf⟩ := xbd hf
      obtain ⟨σ7, e6, hf⟩ := xbd hf
      refine ww_callVv (pc := 108) (as := []) (st := []) C (k_X1_takePin (l := gl G) (E := gE G) (hb := gB G) (σ := σ3) e6) rfl (by decide) xc_X1_116 q644 qp27 (xck_spec e5) rfl (by decide) (xst4 (Nat.le_of_ble_eq_true rfl)) (m_X1_takePin e6).le (m_X1_takePin e6).lim dX1_takeTell_108 ?_
      refine ww_goto (pc := 111) (tgt := 133) C dX1_takeTell_111 (by decide) ?_
      refine ww_sub [0] rfl ?_
      exact s_X1_takeTell_j133 C hf hk
    · refine ⟨128, 124, rfl, by decide, ?_⟩
      have hf := xsw_in 7 hk1 rfl hf
      refine ww_aload_n (pc := 128) C 0 dX1_takeTell_128 rfl ?_
      obtain ⟨_, e5, hf⟩ := xbd hf
      obtain ⟨⟨v8, σ7⟩, e6, hf⟩ := xbd hf
      dsimp only at hf
      refine ww_callVi (pc := 129) (as := []) (st := []) C (k_X1_takeKind (l := gl G) (E := gE G) (hb := gB G) (σ := σ3) e6) rfl (by decide) xc_X1_92 q586 qp14 (xck_spec e5) rfl (by decide) (xst4 (Nat.le_of_ble_eq_true rfl)) (m_X1_takeKind e6).le (m_X1_takeKind e6).lim dX1_takeTell_129 ?_
      refine ww_pop (pc := 132) C dX1_takeTell_132 rfl ?_
      refine ww_sub [0] rfl ?_
      exact s_X1_takeTell_j133 C hf hk
    · refine ⟨128, 124, rfl, by decide, ?_⟩
      have hf := xsw_in 8 hk1 rfl hf
      refine ww_aload_n (pc := 128) C 0 dX1_takeTell_128 rfl ?_
      obtain ⟨_, e5, hf⟩ := xbd hf
      obtain ⟨⟨v8, σ7⟩, e6, hf⟩ := xbd hf
      dsimp only at hf
      refine ww_callVi (pc := 129) (as := []) (st := []) C (k_X1_takeKind (l := gl G) (E := gE G) (hb := gB G) (σ := σ3) e6) rfl (by decide) xc_X1_92 q586 qp14 (xck_spec e5) rfl (by decide) (xst4 (Nat.le_of_ble_eq_true rfl)) (m_X1_takeKind e6).le (m_X1_takeKind e6).lim dX1_takeTell_129 ?_
      refine ww_pop (pc := 132) C dX1_takeTell_132 rfl ?_
      refine ww_sub [0] rfl ?_
      exact s_X1_takeTell_j133 C hf hk
    · refine ⟨114, 110, rfl, by decide, ?_⟩
      have hf := xsw_in 9 hk1 rfl hf
      refine ww_aload_n (pc := 114) C 0 dX1_takeTell_114 rfl ?_
      obtain ⟨z6, e5, hf⟩ := xbd hf
      refine gf_X1_21 (pc := 115) C e5 dX1_takeTell_115 ?_
      refine ww_aload_n (pc := 118) C 0 dX1_takeTell_118 rfl ?_
      obtain ⟨_, e7, hf⟩ := xbd hf
      obtain ⟨⟨v10, σ9⟩, e8, hf⟩ := xbd hf
      dsimp only at hf
      refine ww_callVi (pc := 119) (as := []) (st := [.ref (gB G + z6)]) C (k_X1_takeInt (l := gl G) (E := gE G) (hb := gB G) (σ := σ3) e8) rfl (by decide) xc_X1_95 q594 qp16 (xck_spec e7) rfl (by decide) (xst4 (Nat.le_of_ble_eq_true rfl)) (m_X1_takeInt e8).le (m_X1_takeInt e8).lim dX1_takeTell_119 ?_
      obtain ⟨σ12, e11, hf⟩ := xbd hf
      refine pf_X1_119 (pc := 122) C e11 dX1_takeTell_122 ?_
      refine ww_goto (pc := 125) (tgt := 133) C dX1_takeTell_125 (by decide) ?_
      refine ww_sub [0] rfl ?_
      exact s_X1_takeTell_j133 C hf hk
  · refine ⟨128, by decide, ?_⟩
    have hf := xsw_out ho rfl hf
    refine ww_aload_n (pc := 128) C 0 dX1_takeTell_128 rfl ?_
    obtain ⟨_, e5, hf⟩ := xbd hf
    obtain ⟨⟨v8, σ7⟩, e6, hf⟩ := xbd hf
    dsimp only at hf
    refine ww_callVi (pc := 129) (as := []) (st := []) C (k_X1_takeKind (l := gl G) (E := gE G) (hb := gB G) (σ := σ3) e6) rfl (by decide) xc_X1_92 q586 qp14 (xck_spec e5) rfl (by decide) (xst4 (Nat.le_of_ble_eq_true rfl)) (m_X1_takeKind e6).le (m_X1_takeKind e6).lim dX1_takeTell_129 ?_
    refine ww_pop (pc := 132) C dX1_takeTell_132 rfl ?_
    refine ww_sub [0] rfl ?_
    exact s_X1_takeTell_j133 C hf hk
theorem m_X1_takeTell {σ : XS} {r0 : Nat} {x : XS} (hf : f_X1_takeTell σ r0 = some x) : xsame σ x := by
  have hm := xsame.rf (σ := σ)
  obtain ⟨_, e1, hf⟩ := xbd hf
  obtain ⟨⟨v4, σ3⟩, e2, hf⟩ := xbd hf
  dsimp only at hf
  have hm := hm.tr (m_X1_takeKind e2)
  by_cases ho : (v4).toInt < 6 ∨ 15 < (v4).toInt
  · have hf := xsw_out ho rfl hf
    obtain ⟨_, e5, hf⟩ := xbd hf
    obtain ⟨⟨v8, σ7⟩, e6, hf⟩ := xbd hf
    dsimp only at hf
    have hm := hm.tr (m_X1_takeKind e6)
    exact hm.tr (m_X1_takeTell_j133 hf)
  · rcases (by omega : (v4).toInt = 6 + ((0 : Nat) : Int) ∨ (v4).toInt = 6 + ((1 : Nat) : Int) ∨ (v4).toInt = 6 + ((2 : Nat) : Int) ∨ (v4).toInt = 6 + ((3 : Nat) : Int) ∨ (v4).toInt = 6 + ((4 : Nat) : Int) ∨ (v4).toInt = 6 + ((5 : Nat) : Int) ∨ (v4).toInt = 6 + ((6 : Nat) : Int) ∨ (v4).toInt = 6 + ((7 : Nat) : Int) ∨ (v4).toInt = 6 + ((8 : Nat) : Int) ∨ (v4).toInt = 6 + ((9 : Nat) : Int)) with hk1 | hk1 | hk1 | hk1 | hk1 | hk1 | hk1 | hk1 | hk1 | hk1
    · have hf := xsw_in 0 hk1 rfl hf
      obtain ⟨_, e5, hf⟩ := xbd hf
      obtain ⟨⟨v8, σ7⟩, e6, hf⟩ := xbd hf
      dsimp only at hf
      have hm := hm.tr (m_X1_takeJ e6)
      obtain ⟨σ10, e9, hf⟩ := xbd hf
      have hm := hm.tr (xpI_same e9)
      exact hm.tr (m_X1_takeTell_j133 hf)
    · have hf := xsw_in 1 hk1 rfl hf
      obtain ⟨_, e5, hf⟩ := xbd hf
      obtain ⟨⟨v8, σ7⟩, e6, hf⟩ := xbd hf
      dsimp only at hf
      have hm := hm.tr (m_X1_takeJ e6)
      obtain ⟨σ10, e9, hf⟩ := xbd hf
      have hm := hm.tr (xpI_same e9)
      exact hm.tr (m_X1_takeTell_j133 hf)
    · have hf := xsw_in 2 hk1 rfl hf
      obtain ⟨_, e5, hf⟩ := xbd hf
      obtain ⟨⟨v8, σ7⟩, e6, hf⟩ := xbd hf
      dsimp only at hf
      have hm := hm.tr (m_X1_takeJ e6)
      obtain ⟨σ10, e9, hf⟩ := xbd hf
      have hm := hm.tr (xpI_same e9)
      exact hm.tr (m_X1_takeTell_j133 hf)
    · have hf := xsw_in 3 hk1 rfl hf
      obtain ⟨_, e5, hf⟩ := xbd hf
      obtain ⟨⟨v8, σ7⟩, e6, hf⟩ := xbd hf
      dsimp only at hf
      have hm := hm.tr (m_X1_takeKind e6)
      exact hm.tr (m_X1_takeTell_j133 hf)
    · have hf := xsw_in 4 hk1 rfl hf
      obtain ⟨_, e5, hf⟩ := xbd hf
      obtain ⟨σ7, e6, hf⟩ := xbd hf
      have hm := hm.tr (m_X1_takeTie e6)
      exact hm.tr (m_X1_takeTell_j133 hf)
    · have hf := xsw_in 5 hk1 rfl hf
      obtain ⟨_, e5, hf⟩ := xbd hf
      obtain ⟨σ7, e6, hf⟩ := xbd hf
      have hm := hm.tr (m_X1_takePull e6)
      exact hm.tr (m_X1_takeTell_j133 hf)
    · have hf := xsw_in 6 hk1 rfl hf
      obtain ⟨_, e5, hf⟩ := xbd hf
      obtain ⟨σ7, e6, hf⟩ := xbd hf
      have hm := hm.tr (m_X1_takePin e6)
      exact hm.tr (m_X1_takeTell_j133 hf)
    · have hf := xsw_in 7 hk1 rfl hf
      obtain ⟨_, e5, hf⟩ := xbd hf
      obtain ⟨⟨v8, σ7⟩, e6, hf⟩ := xbd hf
      dsimp only at hf
      have hm := hm.tr (m_X1_takeKind e6)
      exact hm.tr (m_X1_takeTell_j133 hf)
    · have hf := xsw_in 8 hk1 rfl hf
      obtain ⟨_, e5, hf⟩ := xbd hf
      obtain ⟨⟨v8, σ7⟩, e6, hf⟩ := xbd hf
      dsimp only at hf
      have hm := hm.tr (m_X1_takeKind e6)
      exact hm.tr (m_X1_takeTell_j133 hf)
    · have hf := xsw_in 9 hk1 rfl hf
      obtain ⟨z6, e5, hf⟩ := xbd hf
      obtain ⟨_, e7, hf⟩ := xbd hf
      obtain ⟨⟨v10, σ9⟩, e8, hf⟩ := xbd hf
      dsimp only at hf
      have hm := hm.tr (m_X1_takeInt e8)
      obtain ⟨σ12, e11, hf⟩ := xbd hf
      have hm := hm.tr (xpI_same e11)
      exact hm.tr (m_X1_takeTell_j133 hf)
theorem k_X1_takeTell {l : Launch} {E : XD} {hb : Nat} {σ : XS} {r0 : Nat} {x : XS} (h : f_X1_takeTell σ r0 = some x) : XM l yX1_takeTell cX1_takeTell 1 none 4 87 E hb [.ref (hb + r0)] σ none x := by
  refine xm_of (by decide) (Nat.le_of_ble_eq_true rfl) (m_X1_takeTell h).le (fun G hG C hl hQ => ?_)
  obtain ⟨rfl, rfl, rfl, hN⟩ := hG
  exact s_X1_takeTell_e C h hQ
noncomputable def f_X1_giveUntold_b79 (r0 : Nat) : Int32 × XS → Option ((Int32 × XS) ⊕ (XS)) := fun a => match a with
  | (x1, σ) => (xgI σ r0 1 2).bind fun v2 => if v2 = 0 then ((xgI σ r0 1 5).bind fun v4 => (xgI σ r0 1 6).bind fun v6 => if (v4 * v6) ≤ x1 then ((some σ).map .inr) else (xgI σ r0 1 12).bind fun v8 => (f_X11_bitOf v8 x1).bind fun v10 => if v10 = 0 then ((xgR σ r0 1 1).bind fun z12 => (xgI σ r0 1 10).bind fun v14 => (xck σ z12 6).bind fun _ => (f_X6_setField σ z12 x1 v14).bind fun σ17 => some (.inl (x1 + (1 : Int32), σ17))) else some (.inl (x1 + (1 : Int32), σ))) else (some σ).map .inr
noncomputable def f_X1_giveUntold_j68 (σ : XS) (r0 : Nat) (x1 : Int32) (t0 : Nat) (t1 : Int32) (t2 : Int32) : Option ((Int32 × XS) ⊕ (XS)) := (xck σ t0 6).bind fun _ => (f_X6_setBond σ t0 t1 t2).bind fun σ3 => some (.inl (x1 + (1 : Int32), σ3))
noncomputable def f_X1_giveUntold_b2 (r0 : Nat) : Int32 × XS → Option ((Int32 × XS) ⊕ (XS)) := fun a => match a with
  | (x1, σ) => (xgI σ r0 1 2).bind fun v2 => if v2 = 0 then (if (32 : Int32) ≤ x1 then ((xloop (f_X1_giveUntold_b79 r0) ((0 : Int32), σ)).map .inr) else (xgI σ r0 1 11).bind fun v4 => (f_X11_bitOf v4 x1).bind fun v6 => if v6 = 0 then ((xgI σ r0 1 5).bind fun v8 => (xgI σ r0 1 6).bind fun v10 => (xgI σ r0 1 7).bind fun v12 => (f_X3_endOf v8 v10 v12 x1).bind fun v14 => if v14 = (-1 : Int32) then (some (.inl (x1 + (1 : Int32), σ))) else (xgR σ r0 1 1).bind fun z16 => if (16 : Int32) ≤ x1 then ((xgI σ r0 1 9).bind fun v18 => f_X1_giveUntold_j68 σ r0 x1 z16 x1 v18) else (xgI σ r0 1 8).bind fun v18 => f_X1_giveUntold_j68 σ r0 x1 z16 x1 v18) else some (.inl (x1 + (1 : Int32), σ))) else (xloop (f_X1_giveUntold_b79 r0) ((0 : Int32), σ)).map .inr
noncomputable def f_X1_giveUntold (σ : XS) (r0 : Nat) : Option XS := xloop (f_X1_giveUntold_b2 r0) ((0 : Int32), σ)
theorem m_X1_giveUntold_l79 {r0 : Nat} {a : Int32 × XS} {x : XS} (hf : xloop (f_X1_giveUntold_b79 r0) a = some x) : xsame a.2 x := by
  refine xloop_ind (P := fun a => xsame a.2 x) (fun a y hf hc he => ?_) hf
  obtain ⟨x1, σ⟩ := a
  have hy : (∀ a' : Int32 × XS, y = .inl a' → xsame σ a'.2) ∧ (∀ b1 : XS, y = .inr b1 → xsame σ b1) := by
    have hm := xsame.rf (σ := σ)
    obtain ⟨v2, e1, hf⟩ := xbd hf
    by_cases q : v2 = 0
    · have hf := xip q hf
      obtain ⟨v4, e3, hf⟩ := xbd hf
      obtain ⟨v6, e5, hf⟩ := xbd hf
      by_cases q : (v4 * v6) ≤ x1
      · have hf := xip q hf
        obtain ⟨b0, hg, e9⟩ := xmj hf
        subst e9
        have hf := hg
        refine ⟨fun a' e => xnc2 e, fun b e => ?_⟩
        have h9 := Sum.inr.inj e
        subst h9
        have hf := xsj hf
        subst hf
        exact hm
      · have hf := xin q hf
        obtain ⟨v8, e7, hf⟩ := xbd hf
        obtain ⟨v10, e9, hf⟩ := xbd hf
        by_cases q : v10 = 0
        · have hf := xip q hf
          obtain ⟨z12, e11, hf⟩ := xbd hf
          obtain ⟨v14, e13, hf⟩ := xbd hf
          obtain ⟨_, e15, hf⟩ := xbd hf
          obtain ⟨σ17, e16, hf⟩ := xbd hf
          have hm := hm.tr (m_X6_setField e16)
          have hf := xsj hf
          subst hf
          exact ⟨fun a' e => (by have h9 := Sum.inl.inj e; subst h9; exact hm), fun b e => xnc1 e⟩
        · have hf := xin q hf
          have hf := xsj hf
          subst hf
          exact ⟨fun a' e => (by have h9 := Sum.inl.inj e; subst h9; exact hm), fun b e => xnc1 e⟩
    · have hf := xin q hf
      obtain ⟨b0, hg, e9⟩ := xmj hf
      subst e9
      have hf := hg
      refine ⟨fun a' e => xnc2 e, fun b e => ?_⟩
      have h9 := Sum.inr.inj e
      subst h9
      have hf := xsj hf
      subst hf
      exact hm
  cases y with
  | inl a' =>
    have h1 := hc a' rfl
    have hm := hy.1 a' rfl
    exact hm.tr (h1)
  | inr b =>
    have h1 := he b rfl
    subst h1
    exact hy.2 _ rfl
theorem s_X1_giveUntold_l79 {G : XG} (C : XC G cX1_giveUntold RX1 none 2 2 47) {r0 : Nat} {a : Int32 × XS} {x : XS} (hf : xloop (f_X1_giveUntold_b79 r0) a = some x) (hk : XEnd G none x) : WW G 79 [(0, .ref (gB G + r0)), (1, .int a.1)] [] a.2 := by
  refine xloop_ind (P := fun a => WW G 79 [(0, .ref (gB G + r0)), (1, .int a.1)] [] a.2) (fun a y hf hc he => ?_) hf
  obtain ⟨x1, σ⟩ := a
  have hk : (∀ a' : Int32 × XS, y = .inl a' → WW G 79 [(0, .ref (gB G + r0)), (1, .int a'.1)] [] a'.2) ∧ (∀ b1 : XS, y = .inr b1 → XEnd G none b1) := ⟨hc, fun b e => by have h9 := he b e; subst h9; exact hk⟩
  refine ww_aload_n (pc := 79) C 0 dX1_giveUntold_79 rfl ?_
  obtain ⟨v2, e1, hf⟩ := xbd hf
  refine gf_X1_46 (pc := 80) C e1 dX1_giveUntold_80 ?_
  refine ww_if_ne (pc := 83) (tgt := 128) C dX1_giveUntold_83 (by decide) (fun q => ?_) (fun q => ?_)
  · have hf := xin q hf
    obtain ⟨b0, hg, e9⟩ := xmj hf
    subst e9
    have hf := hg
    have hk := hk.2 _ rfl
    have hf := xsj hf
    subst hf
    exact ww_vret (pc := 128) C hk dX1_giveUntold_128
  · have hf := xip q hf
    refine ww_iload_n (pc := 86) C 1 dX1_giveUntold_86 rfl ?_
    refine ww_aload_n (pc := 87) C 0 dX1_giveUntold_87 rfl ?_
    obtain ⟨v4, e3, hf⟩ := xbd hf
    refine gf_X1_98 (pc := 88) C e3 dX1_giveUntold_88 ?_
    refine ww_aload_n (pc := 91) C 0 dX1_giveUntold_91 rfl ?_
    obtain ⟨v6, e5, hf⟩ := xbd hf
    refine gf_X1_104 (pc := 92) C e5 dX1_giveUntold_92 ?_
    refine ww_imul (pc := 95) C dX1_giveUntold_95 ?_
    refine ww_icmp_ge (pc := 96) (tgt := 128) C dX1_giveUntold_96 (by decide) (fun q => ?_) (fun q => ?_)
    · have hf := xip q hf
      obtain ⟨b0, hg, e9⟩ := xmj hf
      subst e9
      have hf := hg
      have hk := hk.2 _ rfl
      have hf := xsj hf
      subst hf
      exact ww_vret (pc := 128) C hk dX1_giveUntold_128
    · have hf := xin q hf
      refine ww_aload_n (pc := 99) C 0 dX1_giveUntold_99 rfl ?_
      obtain ⟨v8, e7, hf⟩ := xbd hf
      refine gf_X1_82 (pc := 100) C e7 dX1_giveUntold_100 ?_
      refine ww_iload_n (pc := 103) C 1 dX1_giveUntold_103 rfl ?_
      obtain ⟨v10, e9, hf⟩ := xbd hf
      refine ww_callSi (pc := 104) (as := [.int v8, .int x1]) (st := []) C (k_X11_bitOf (l := gl G) (E := gE G) (hb := gB G) (σ := σ) e9) xc_X1_140 q655 rfl (by decide) (xst4 (Nat.le_of_ble_eq_true rfl)) xsame.rf.le xsame.rf.lim dX1_giveUntold_104 ?_
      refine ww_if_ne (pc := 107) (tgt := 122) C dX1_giveUntold_107 (by decide) (fun q => ?_) (fun q => ?_)
      · have hf := xin q hf
        refine ww_iinc (pc := 122) (v := x1 + (1 : Int32)) (lv' := [(1, .int (x1 + (1 : Int32))), (0, .ref (gB G + r0))]) C 1 dX1_giveUntold_122 rfl (congrArg (fun z => x1 + z) (show Int32.ofInt (1) = (1 : Int32) by decide)) (by decide) rfl ?_
        refine ww_goto (pc := 125) (tgt := 79) C dX1_giveUntold_125 (by decide) ?_
        have hf := xsj hf
        subst hf
        refine ww_sub [1, 0] rfl ?_
        exact hk.1 (x1 + (1 : Int32), σ) rfl
      · have hf := xip q hf
        refine ww_aload_n (pc := 110) C 0 dX1_giveUntold_110 rfl ?_
        obtain ⟨z12, e11, hf⟩ := xbd hf
        refine gf_X1_21 (pc := 111) C e11 dX1_giveUntold_111 ?_
        refine ww_iload_n (pc := 114) C 1 dX1_giveUntold_114 rfl ?_
        refine ww_aload_n (pc := 115) C 0 dX1_giveUntold_115 rfl ?_
        obtain ⟨v14, e13, hf⟩ := xbd hf
        refine gf_X1_76 (pc := 116) C e13 dX1_giveUntold_116 ?_
        obtain ⟨_, e15, hf⟩ := xbd hf
        obtain ⟨σ17, e16, hf⟩ := xbd hf
        refine ww_callVv (pc := 119) (as := [.int x1, .int v14]) (st := []) C (k_X6_setField (l := gl G) (E := gE G) (hb := gB G) (σ := σ) e16) rfl (by decide) xc_X1_134 q640 qp26 (xck_spec e15) rfl (by decide) (xst4 (Nat.le_of_ble_eq_true rfl)) (m_X6_setField e16).le (m_X6_setField e16).lim dX1_giveUntold_119 ?_
        refine ww_iinc (pc := 122) (v := x1 + (1 : Int32)) (lv' := [(1, .int (x1 + (1 : Int32))), (0, .ref (gB G + r0))]) C 1 dX1_giveUntold_122 rfl (congrArg (fun z => x1 + z) (show Int32.ofInt (1) = (1 : Int32) by decide)) (by decide) rfl ?_
        refine ww_goto (pc := 125) (tgt := 79) C dX1_giveUntold_125 (by decide) ?_
        have hf := xsj hf
        subst hf
        refine ww_sub [1, 0] rfl ?_
        exact hk.1 (x1 + (1 : Int32), σ17) rfl
theorem s_X1_giveUntold_j68 {G : XG} (C : XC G cX1_giveUntold RX1 none 2 2 47) {σ : XS} {r0 : Nat} {x1 : Int32} {t0 : Nat} {t1 : Int32} {t2 : Int32} {x : ((Int32 × XS) ⊕ (XS))} (hf : f_X1_giveUntold_j68 σ r0 x1 t0 t1 t2 = some x) (hk : (∀ a' : Int32 × XS, x = .inl a' → WW G 2 [(0, .ref (gB G + r0)), (1, .int a'.1)] [] a'.2) ∧ (∀ b1 : XS, x = .inr b1 → XEnd G none b1)) : WW G 68 [(0, .ref (gB G + r0)), (1, .int x1)] [.int t2, .int t1, .ref (gB G + t0)] σ := by
  obtain ⟨_, e1, hf⟩ := xbd hf
  obtain ⟨σ3, e2, hf⟩ := xbd hf
  refine ww_callVv (pc := 68) (as := [.int t1, .int t2]) (st := []) C (k_X6_setBond (l := gl G) (E := gE G) (hb := gB G) (σ := σ) e2) rfl (by decide) xc_X1_131 q632 qp24 (xck_spec e1) rfl (by decide) (xst4 (Nat.le_of_ble_eq_true rfl)) (m_X6_setBond e2).le (m_X6_setBond e2).lim dX1_giveUntold_68 ?_
  refine ww_iinc (pc := 71) (v := x1 + (1 : Int32)) (lv' := [(1, .int (x1 + (1 : Int32))), (0, .ref (gB G + r0))]) C 1 dX1_giveUntold_71 rfl (congrArg (fun z => x1 + z) (show Int32.ofInt (1) = (1 : Int32) by decide)) (by decide) rfl ?_
  refine ww_goto (pc := 74) (tgt := 2) C dX1_giveUntold_74 (by decide) ?_
  have hf := xsj hf
  subst hf
  refine ww_sub [1, 0] rfl ?_
  exact hk.1 (x1 + (1 : Int32), σ3) rfl
theorem m_X1_giveUntold_j68 {σ : XS} {r0 : Nat} {x1 : Int32} {t0 : Nat} {t1 : Int32} {t2 : Int32} {x : ((Int32 × XS) ⊕ (XS))} (hf : f_X1_giveUntold_j68 σ r0 x1 t0 t1 t2 = some x) : (∀ a' : Int32 × XS, x = .inl a' → xsame σ a'.2) ∧ (∀ b1 : XS, x = .inr b1 → xsame σ b1) := by
  have hm := xsame.rf (σ := σ)
  obtain ⟨_, e1, hf⟩ := xbd hf
  obtain ⟨σ3, e2, hf⟩ := xbd hf
  have hm := hm.tr (m_X6_setBond e2)
  have hf := xsj hf
  subst hf
  exact ⟨fun a' e => (by have h9 := Sum.inl.inj e; subst h9; exact hm), fun b e => xnc1 e⟩
theorem m_X1_giveUntold_l2 {r0 : Nat} {a : Int32 × XS} {x : XS} (hf : xloop (f_X1_giveUntold_b2 r0) a = some x) : xsame a.2 x := by
  refine xloop_ind (P := fun a => xsame a.2 x) (fun a y hf hc he => ?_) hf
  obtain ⟨x1, σ⟩ := a
  have hy : (∀ a' : Int32 × XS, y = .inl a' → xsame σ a'.2) ∧ (∀ b1 : XS, y = .inr b1 → xsame σ b1) := by
    have hm := xsame.rf (σ := σ)
    obtain ⟨v2, e1, hf⟩ := xbd hf
    by_cases q : v2 = 0
    · have hf := xip q hf
      by_cases q : (32 : Int32) ≤ x1
      · have hf := xip q hf
        obtain ⟨b0, hg, e9⟩ := xmj hf
        subst e9
        have hf := hg
        refine ⟨fun a' e => xnc2 e, fun b e => ?_⟩
        have h9 := Sum.inr.inj e
        subst h9
        exact hm.tr (m_X1_giveUntold_l79 (a := ((0 : Int32), σ)) hf)
      · have hf := xin q hf
        obtain ⟨v4, e3, hf⟩ := xbd hf
        obtain ⟨v6, e5, hf⟩ := xbd hf
        by_cases q : v6 = 0
        · have hf := xip q hf
          obtain ⟨v8, e7, hf⟩ := xbd hf
          obtain ⟨v10, e9, hf⟩ := xbd hf
          obtain ⟨v12, e11, hf⟩ := xbd hf
          obtain ⟨v14, e13, hf⟩ := xbd hf
          by_cases q : v14 = (-1 : Int32)
          · have hf := xip q hf
            have hf := xsj hf
            subst hf
            exact ⟨fun a' e => (by have h9 := Sum.inl.inj e; subst h9; exact hm), fun b e => xnc1 e⟩
          · have hf := xin q hf
            obtain ⟨z16, e15, hf⟩ := xbd hf
            by_cases q : (16 : Int32) ≤ x1
            · have hf := xip q hf
              obtain ⟨v18, e17, hf⟩ := xbd hf
              exact ⟨fun a' e => hm.tr ((m_X1_giveUntold_j68 hf).1 a' e), fun b1 eb1 => hm.tr ((m_X1_giveUntold_j68 hf).2 b1 eb1)⟩
            · have hf := xin q hf
              obtain ⟨v18, e17, hf⟩ := xbd hf
              exact ⟨fun a' e => hm.tr ((m_X1_giveUntold_j68 hf).1 a' e), fun b1 eb1 => hm.tr ((m_X1_giveUntold_j68 hf).2 b1 eb1)⟩
        · have hf := xin q hf
          have hf := xsj hf
          subst hf
          exact ⟨fun a' e => (by have h9 := Sum.inl.inj e; subst h9; exact hm), fun b e => xnc1 e⟩
    · have hf := xin q hf
      obtain ⟨b0, hg, e9⟩ := xmj hf
      subst e9
      have hf := hg
      refine ⟨fun a' e => xnc2 e, fun b e => ?_⟩
      have h9 := Sum.inr.inj e
      subst h9
      exact hm.tr (m_X1_giveUntold_l79 (a := ((0 : Int32), σ)) hf)
  cases y with
  | inl a' =>
    have h1 := hc a' rfl
    have hm := hy.1 a' rfl
    exact hm.tr (h1)
  | inr b =>
    have h1 := he b rfl
    subst h1
    exact hy.2 _ rfl
theorem s_X1_giveUntold_l2 {G : XG} (C : XC G cX1_giveUntold RX1 none 2 2 47) {r0 : Nat} {a : Int32 × XS} {x : XS} (hf : xloop (f_X1_giveUntold_b2 r0) a = some x) (hk : XEnd G none x) : WW G 2 [(0, .ref (gB G + r0)), (1, .int a.1)] [] a.2 := by
  refine xloop_ind (P := fun a => WW G 2 [(0, .ref (gB G + r0)), (1, .int a.1)] [] a.2) (fun a y hf hc he => ?_) hf
  obtain ⟨x1, σ⟩ := a
  have hk : (∀ a' : Int32 × XS, y = .inl a' → WW G 2 [(0, .ref (gB G + r0)), (1, .int a'.1)] [] a'.2) ∧ (∀ b1 : XS, y = .inr b1 → XEnd G none b1) := ⟨hc, fun b e => by have h9 := he b e; subst h9; exact hk⟩
  refine ww_aload_n (pc := 2) C 0 dX1_giveUntold_2 rfl ?_
  obtain ⟨v2, e1, hf⟩ := xbd hf
  refine gf_X1_46 (pc := 3) C e1 dX1_giveUntold_3 ?_
  refine ww_if_ne (pc := 6) (tgt := 77) C dX1_giveUntold_6 (by decide) (fun q => ?_) (fun q => ?_)
  · have hf := xin q hf
    obtain ⟨b0, hg, e9⟩ := xmj hf
    subst e9
    have hf := hg
    have hk := hk.2 _ rfl
    refine ww_iconst (pc := 77) (v := (0 : Int32)) C dX1_giveUntold_77 (by decide) ?_
    refine ww_istore_n (pc := 78) (lv' := [(1, .int (0 : Int32)), (0, .ref (gB G + r0))]) C dX1_giveUntold_78 (by decide) rfl ?_
    refine ww_sub [1, 0] rfl ?_
    exact s_X1_giveUntold_l79 C (a := ((0 : Int32), σ)) hf hk
  · have hf := xip q hf
    refine ww_iload_n (pc := 9) C 1 dX1_giveUntold_9 rfl ?_
    refine ww_bipush (pc := 10) (v := (32 : Int32)) C dX1_giveUntold_10 (by decide) ?_
    refine ww_icmp_ge (pc := 12) (tgt := 77) C dX1_giveUntold_12 (by decide) (fun q => ?_) (fun q => ?_)
    · have hf := xip q hf
      obtain ⟨b0, hg, e9⟩ := xmj hf
      subst e9
      have hf := hg
      have hk := hk.2 _ rfl
      refine ww_iconst (pc := 77) (v := (0 : Int32)) C dX1_giveUntold_77 (by decide) ?_
      refine ww_istore_n (pc := 78) (lv' := [(1, .int (0 : Int32)), (0, .ref (gB G + r0))]) C dX1_giveUntold_78 (by decide) rfl ?_
      refine ww_sub [1, 0] rfl ?_
      exact s_X1_giveUntold_l79 C (a := ((0 : Int32), σ)) hf hk
    · have hf := xin q hf
      refine ww_aload_n (pc := 15) C 0 dX1_giveUntold_15 rfl ?_
      obtain ⟨v4, e3, hf⟩ := xbd hf
      refine gf_X1_79 (pc := 16) C e3 dX1_giveUntold_16 ?_
      refine ww_iload_n (pc := 19) C 1 dX1_giveUntold_19 rfl ?_
      obtain ⟨v6, e5, hf⟩ := xbd hf
      refine ww_callSi (pc := 20) (as := [.int v4, .int x1]) (st := []) C (k_X11_bitOf (l := gl G) (E := gE G) (hb := gB G) (σ := σ) e5) xc_X1_140 q655 rfl (by decide) (xst4 (Nat.le_of_ble_eq_true rfl)) xsame.rf.le xsame.rf.lim dX1_giveUntold_20 ?_
      refine ww_if_ne (pc := 23) (tgt := 71) C dX1_giveUntold_23 (by decide) (fun q => ?_) (fun q => ?_)
      · have hf := xin q hf
        refine ww_iinc (pc := 71) (v := x1 + (1 : Int32)) (lv' := [(1, .int (x1 + (1 : Int32))), (0, .ref (gB G + r0))]) C 1 dX1_giveUntold_71 rfl (congrArg (fun z => x1 + z) (show Int32.ofInt (1) = (1 : Int32) by decide)) (by decide) rfl ?_
        refine ww_goto (pc := 74) (tgt := 2) C dX1_giveUntold_74 (by decide) ?_
        have hf := xsj hf
        subst hf
        refine ww_sub [1, 0] rfl ?_
        exact hk.1 (x1 + (1 : Int32), σ) rfl
      · have hf := xip q hf
        refine ww_aload_n (pc := 26) C 0 dX1_giveUntold_26 rfl ?_
        obtain ⟨v8, e7, hf⟩ := xbd hf
        refine gf_X1_98 (pc := 27) C e7 dX1_giveUntold_27 ?_
        refine ww_aload_n (pc := 30) C 0 dX1_giveUntold_30 rfl ?_
        obtain ⟨v10, e9, hf⟩ := xbd hf
        refine gf_X1_104 (pc := 31) C e9 dX1_giveUntold_31 ?_
        refine ww_aload_n (pc := 34) C 0 dX1_giveUntold_34 rfl ?_
        obtain ⟨v12, e11, hf⟩ := xbd hf
        refine gf_X1_67 (pc := 35) C e11 dX1_giveUntold_35 ?_
        refine ww_iload_n (pc := 38) C 1 dX1_giveUntold_38 rfl ?_
        obtain ⟨v14, e13, hf⟩ := xbd hf
        refine ww_callSi (pc := 39) (as := [.int v8, .int v10, .int v12, .int x1]) (st := []) C (k_X3_endOf (l := gl G) (E := gE G) (hb := gB G) (σ := σ) e13) xc_X1_125 q625 rfl (by decide) (xst4 (Nat.le_of_ble_eq_true rfl)) xsame.rf.le xsame.rf.lim dX1_giveUntold_39 ?_
        refine ww_iconst (pc := 42) (v := (-1 : Int32)) C dX1_giveUntold_42 (by decide) ?_
        refine ww_icmp_eq (pc := 43) (tgt := 71) C dX1_giveUntold_43 (by decide) (fun q => ?_) (fun q => ?_)
        · have hf := xip q hf
          refine ww_iinc (pc := 71) (v := x1 + (1 : Int32)) (lv' := [(1, .int (x1 + (1 : Int32))), (0, .ref (gB G + r0))]) C 1 dX1_giveUntold_71 rfl (congrArg (fun z => x1 + z) (show Int32.ofInt (1) = (1 : Int32) by decide)) (by decide) rfl ?_
          refine ww_goto (pc := 74) (tgt := 2) C dX1_giveUntold_74 (by decide) ?_
          have hf := xsj hf
          subst hf
          refine ww_sub [1, 0] rfl ?_
          exact hk.1 (x1 + (1 : Int32), σ) rfl
        · have hf := xin q hf
          refine ww_aload_n (pc := 46) C 0 dX1_giveUntold_46 rfl ?_
          obtain ⟨z16, e15, hf⟩ := xbd hf
          refine gf_X1_21 (pc := 47) C e15 dX1_giveUntold_47 ?_
          refine ww_iload_n (pc := 50) C 1 dX1_giveUntold_50 rfl ?_
          refine ww_iload_n (pc := 51) C 1 dX1_giveUntold_51 rfl ?_
          refine ww_bipush (pc := 52) (v := (16 : Int32)) C dX1_giveUntold_52 (by decide) ?_
          refine ww_icmp_ge (pc := 54) (tgt := 64) C dX1_giveUntold_54 (by decide) (fun q => ?_) (fun q => ?_)
          · have hf := xip q hf
            refine ww_aload_n (pc := 64) C 0 dX1_giveUntold_64 rfl ?_
            obtain ⟨v18, e17, hf⟩ := xbd hf
            refine gf_X1_73 (pc := 65) C e17 dX1_giveUntold_65 ?_
            refine ww_sub [0, 1] rfl ?_
            exact s_X1_giveUntold_j68 C hf hk
          · have hf := xin q hf
            refine ww_aload_n (pc := 57) C 0 dX1_giveUntold_57 rfl ?_
            obtain ⟨v18, e17, hf⟩ := xbd hf
            refine gf_X1_70 (pc := 58) C e17 dX1_giveUntold_58 ?_
            refine ww_goto (pc := 61) (tgt := 68) C dX1_giveUntold_61 (by decide) ?_
            refine ww_sub [0, 1] rfl ?_
            exact s_X1_giveUntold_j68 C hf hk
theorem s_X1_giveUntold_e {G : XG} (C : XC G cX1_giveUntold RX1 none 2 2 47) {σ : XS} {r0 : Nat} {x : XS} (hf : f_X1_giveUntold σ r0 = some x) (hk : XEnd G none x) : WW G 0 [(0, .ref (gB G + r0))] [] σ := by
  refine ww_iconst (pc := 0) (v := (0 : Int32)) C dX1_giveUntold_0 (by decide) ?_
  refine ww_istore_n (pc := 1) (lv' := [(1, .int (0 : Int32)), (0, .ref (gB G + r0))]) C dX1_giveUntold_1 (by decide) rfl ?_
  refine ww_sub [1, 0] rfl ?_
  exact s_X1_giveUntold_l2 C (a := ((0 : Int32), σ)) hf hk
theorem m_X1_giveUntold {σ : XS} {r0 : Nat} {x : XS} (hf : f_X1_giveUntold σ r0 = some x) : xsame σ x := by
  have hm := xsame.rf (σ := σ)
  exact hm.tr (m_X1_giveUntold_l2 (a := ((0 : Int32), σ)) hf)
theorem k_X1_giveUntold {l : Launch} {E : XD} {hb : Nat} {σ : XS} {r0 : Nat} {x : XS} (h : f_X1_giveUntold σ r0 = some x) : XM l yX1_giveUntold cX1_giveUntold 2 none 2 47 E hb [.ref (hb + r0)] σ none x := by
  refine xm_of (by decide) (Nat.le_of_ble_eq_true rfl) (m_X1_giveUntold h).le (fun G hG C hl hQ => ?_)
  obtain ⟨rfl, rfl, rfl, hN⟩ := hG
  exact s_X1_giveUntold_e C h hQ
noncomputable def f_X1_build_j77 (σ : XS) (r0 : Nat) : Option XS := (xck σ r0 1).bind fun _ => (f_X1_giveUntold σ r0).bind fun σ3 => some σ3
noncomputable def f_X1_build_b39 (r0 : Nat) : Int32 × XS → Option ((Int32 × XS) ⊕ (XS)) := fun a => match a with
  | (x2, σ) => if (400 : Int32) ≤ x2 then ((f_X1_build_j77 σ r0).map .inr) else (xgI σ r0 1 2).bind fun v2 => if v2 = 0 then ((xgI σ r0 1 4).bind fun v4 => (xgR σ r0 1 0).bind fun z6 => (xgI σ z6 8 5).bind fun v8 => if v8 ≤ v4 then ((f_X1_build_j77 σ r0).map .inr) else (xck σ r0 1).bind fun _ => (f_X1_takeTell σ r0).bind fun σ11 => some (.inl (x2 + (1 : Int32), σ11))) else (f_X1_build_j77 σ r0).map .inr
noncomputable def f_X1_build (σ : XS) (r0 : Nat) : Option XS := (xck σ r0 1).bind fun _ => (f_X1_begin σ r0).bind fun σ3 => (xgR σ3 r0 1 0).bind fun z5 => (xck σ3 z5 8).bind fun _ => (f_X8_cut σ3 z5).bind fun (v9, σ8) => if v9 = 0 then ((xck σ8 r0 1).bind fun _ => (f_X1_takeSize σ8 r0).bind fun σ12 => (xck σ12 r0 1).bind fun _ => (f_X1_seeRings σ12 r0).bind fun σ15 => xloop (f_X1_build_b39 r0) ((0 : Int32), σ15)) else (xgR σ8 r0 1 0).bind fun z11 => (xgI σ8 z11 8 8).bind fun v13 => (xck σ8 r0 1).bind fun _ => (f_X1_blame σ8 r0 v9 v13).bind fun σ16 => some σ16
theorem s_X1_build_j77 {G : XG} (C : XC G cX1_build RX1 none 3 8 171) {σ : XS} {r0 : Nat} {x : XS} (hf : f_X1_build_j77 σ r0 = some x) (hk : XEnd G none x) : WW G 77 [(0, .ref (gB G + r0))] [] σ := by
  refine ww_aload_n (pc := 77) C 0 dX1_build_77 rfl ?_
  obtain ⟨_, e1, hf⟩ := xbd hf
  obtain ⟨σ3, e2, hf⟩ := xbd hf
  refine ww_callVv (pc := 78) (as := []) (st := []) C (k_X1_giveUntold (l := gl G) (E := gE G) (hb := gB G) (σ := σ) e2) rfl (by decide) xc_X1_58 q652 qp29 (xck_spec e1) rfl (by decide) (xst4 (Nat.le_of_ble_eq_true rfl)) (m_X1_giveUntold e2).le (m_X1_giveUntold e2).lim dX1_build_78 ?_
  have hf := xsj hf
  subst hf
  exact ww_vret (pc := 81) C hk dX1_build_81
theorem m_X1_build_j77 {σ : XS} {r0 : Nat} {x : XS} (hf : f_X1_build_j77 σ r0 = some x) : xsame σ x := by
  have hm := xsame.rf (σ := σ)
  obtain ⟨_, e1, hf⟩ := xbd hf
  obtain ⟨σ3, e2, hf⟩ := xbd hf
  have hm := hm.tr (m_X1_giveUntold e2)
  have hf := xsj hf
  subst hf
  exact hm
theorem m_X1_build_l39 {r0 : Nat} {a : Int32 × XS} {x : XS} (hf : xloop (f_X1_build_b39 r0) a = some x) : xsame a.2 x := by
  refine xloop_ind (P := fun a => xsame a.2 x) (fun a y hf hc he => ?_) hf
  obtain ⟨x2, σ⟩ := a
  have hy : (∀ a' : Int32 × XS, y = .inl a' → xsame σ a'.2) ∧ (∀ b1 : XS, y = .inr b1 → xsame σ b1) := by
    have hm := xsame.rf (σ := σ)
    by_cases q : (400 : Int32) ≤ x2
    · have hf := xip q hf
      obtain ⟨b0, hg, e9⟩ := xmj hf
      subst e9
      have hf := hg
      refine ⟨fun a' e => xnc2 e, fun b e => ?_⟩
      have h9 := Sum.inr.inj e
      subst h9
      exact hm.tr (m_X1_build_j77 hf)
    · have hf := xin q hf
      obtain ⟨v2, e1, hf⟩ := xbd hf
      by_cases q : v2 = 0
      · have hf := xip q hf
        obtain ⟨v4, e3, hf⟩ := xbd hf
        obtain ⟨z6, e5, hf⟩ := xbd hf
        obtain ⟨v8, e7, hf⟩ := xbd hf
        by_cases q : v8 ≤ v4
        · have hf := xip q hf
          obtain ⟨b0, hg, e9⟩ := xmj hf
          subst e9
          have hf := hg
          refine ⟨fun a' e => xnc2 e, fun b e => ?_⟩
          have h9 := Sum.inr.inj e
          subst h9
          exact hm.tr (m_X1_build_j77 hf)
        · have hf := xin q hf
          obtain ⟨_, e9, hf⟩ := xbd hf
          obtain ⟨σ11, e10, hf⟩ := xbd hf
          have hm := hm.tr (m_X1_takeTell e10)
          have hf := xsj hf
          subst hf
          exact ⟨fun a' e => (by have h9 := Sum.inl.inj e; subst h9; exact hm), fun b e => xnc1 e⟩
      · have hf := xin q hf
        obtain ⟨b0, hg, e9⟩ := xmj hf
        subst e9
        have hf := hg
        refine ⟨fun a' e => xnc2 e, fun b e => ?_⟩
        have h9 := Sum.inr.inj e
        subst h9
        exact hm.tr (m_X1_build_j77 hf)
  cases y with
  | inl a' =>
    have h1 := hc a' rfl
    have hm := hy.1 a' rfl
    exact hm.tr (h1)
  | inr b =>
    have h1 := he b rfl
    subst h1
    exact hy.2 _ rfl
theorem s_X1_build_l39 {G : XG} (C : XC G cX1_build RX1 none 3 8 171) {r0 : Nat} {a : Int32 × XS} {x : XS} (hf : xloop (f_X1_build_b39 r0) a = some x) (hk : XEnd G none x) : WW G 39 [(0, .ref (gB G + r0)), (2, .int a.1)] [] a.2 := by
  refine xloop_ind (P := fun a => WW G 39 [(0, .ref (gB G + r0)), (2, .int a.1)] [] a.2) (fun a y hf hc he => ?_) hf
  obtain ⟨x2, σ⟩ := a
  have hk : (∀ a' : Int32 × XS, y = .inl a' → WW G 39 [(0, .ref (gB G + r0)), (2, .int a'.1)] [] a'.2) ∧ (∀ b1 : XS, y = .inr b1 → XEnd G none b1) := ⟨hc, fun b e => by have h9 := he b e; subst h9; exact hk⟩
  refine ww_iload_n (pc := 39) C 1 dX1_build_39 rfl ?_
  refine ww_sipush (pc := 40) (v := (400 : Int32)) C dX1_build_40 (by decide) ?_
  refine ww_icmp_ge (pc := 43) (tgt := 77) C dX1_build_43 (by decide) (fun q => ?_) (fun q => ?_)
  · have hf := xip q hf
    obtain ⟨b0, hg, e9⟩ := xmj hf
    subst e9
    have hf := hg
    have hk := hk.2 _ rfl
    refine ww_sub [0] rfl ?_
    exact s_X1_build_j77 C hf hk
  · have hf := xin q hf
    refine ww_aload_n (pc := 46) C 0 dX1_build_46 rfl ?_
    obtain ⟨v2, e1, hf⟩ := xbd hf
    refine gf_X1_46 (pc := 47) C e1 dX1_build_47 ?_
    refine ww_if_ne (pc := 50) (tgt := 77) C dX1_build_50 (by decide) (fun q => ?_) (fun q => ?_)
    · have hf := xin q hf
      obtain ⟨b0, hg, e9⟩ := xmj hf
      subst e9
      have hf := hg
      have hk := hk.2 _ rfl
      refine ww_sub [0] rfl ?_
      exact s_X1_build_j77 C hf hk
    · have hf := xip q hf
      refine ww_aload_n (pc := 53) C 0 dX1_build_53 rfl ?_
      obtain ⟨v4, e3, hf⟩ := xbd hf
      refine gf_X1_49 (pc := 54) C e3 dX1_build_54 ?_
      refine ww_aload_n (pc := 57) C 0 dX1_build_57 rfl ?_
      obtain ⟨z6, e5, hf⟩ := xbd hf
      refine gf_X1_12 (pc := 58) C e5 dX1_build_58 ?_
      obtain ⟨v8, e7, hf⟩ := xbd hf
      refine gf_X1_52 (pc := 61) C e7 dX1_build_61 ?_
      refine ww_icmp_ge (pc := 64) (tgt := 77) C dX1_build_64 (by decide) (fun q => ?_) (fun q => ?_)
      · have hf := xip q hf
        obtain ⟨b0, hg, e9⟩ := xmj hf
        subst e9
        have hf := hg
        have hk := hk.2 _ rfl
        refine ww_sub [0] rfl ?_
        exact s_X1_build_j77 C hf hk
      · have hf := xin q hf
        refine ww_aload_n (pc := 67) C 0 dX1_build_67 rfl ?_
        obtain ⟨_, e9, hf⟩ := xbd hf
        obtain ⟨σ11, e10, hf⟩ := xbd hf
        refine ww_callVv (pc := 68) (as := []) (st := []) C (k_X1_takeTell (l := gl G) (E := gE G) (hb := gB G) (σ := σ) e10) rfl (by decide) xc_X1_55 q610 qp20 (xck_spec e9) rfl (by decide) (xst4 (Nat.le_of_ble_eq_true rfl)) (m_X1_takeTell e10).le (m_X1_takeTell e10).lim dX1_build_68 ?_
        refine ww_iinc (pc := 71) (v := x2 + (1 : Int32)) (lv' := [(2, .int (x2 + (1 : Int32))), (0, .ref (gB G + r0))]) C 1 dX1_build_71 rfl (congrArg (fun z => x2 + z) (show Int32.ofInt (1) = (1 : Int32) by decide)) (by decide) rfl ?_
        refine ww_goto (pc := 74) (tgt := 39) C dX1_build_74 (by decide) ?_
        have hf := xsj hf
        subst hf
        refine ww_sub [1, 0] rfl ?_
        exact hk.1 (x2 + (1 : Int32), σ11) rfl
theorem s_X1_build_e {G : XG} (C : XC G cX1_build RX1 none 3 8 171) {σ : XS} {r0 : Nat} {x : XS} (hf : f_X1_build σ r0 = some x) (hk : XEnd G none x) : WW G 0 [(0, .ref (gB G + r0))] [] σ := by
  refine ww_aload_n (pc := 0) C 0 dX1_build_0 rfl ?_
  obtain ⟨_, e1, hf⟩ := xbd hf
  obtain ⟨σ3, e2, hf⟩ := xbd hf
  refine ww_callVv (pc := 1) (as := []) (st := []) C (k_X1_begin (l := gl G) (E := gE G) (hb := gB G) (σ := σ) e2) rfl (by decide) xc_X1_25 q463 qp2 (xck_spec e1) rfl (by decide) (xst4 (Nat.le_of_ble_eq_true rfl)) (m_X1_begin e2).le (m_X1_begin e2).lim dX1_build_1 ?_
  refine ww_aload_n (pc := 4) C 0 dX1_build_4 rfl ?_
  obtain ⟨z5, e4, hf⟩ := xbd hf
  refine gf_X1_12 (pc := 5) C e4 dX1_build_5 ?_
  obtain ⟨_, e6, hf⟩ := xbd hf
  obtain ⟨⟨v9, σ8⟩, e7, hf⟩ := xbd hf
  dsimp only at hf
  refine ww_callVi (pc := 8) (as := []) (st := []) C (k_X8_cut (l := gl G) (E := gE G) (hb := gB G) (σ := σ3) e7) rfl (by decide) xc_X1_28 q472 qp4 (xck_spec e6) rfl (by decide) (xst4 (Nat.le_of_ble_eq_true rfl)) (m_X8_cut e7).le (m_X8_cut e7).lim dX1_build_8 ?_
  refine ww_istore_n (pc := 11) (lv' := [(1, .int v9), (0, .ref (gB G + r0))]) C dX1_build_11 (by decide) rfl ?_
  refine ww_iload_n (pc := 12) C 0 dX1_build_12 rfl ?_
  refine ww_if_eq (pc := 13) (tgt := 29) C dX1_build_13 (by decide) (fun q => ?_) (fun q => ?_)
  · have hf := xip q hf
    refine ww_aload_n (pc := 29) C 1 dX1_build_29 rfl ?_
    obtain ⟨_, e10, hf⟩ := xbd hf
    obtain ⟨σ12, e11, hf⟩ := xbd hf
    refine ww_callVv (pc := 30) (as := []) (st := []) C (k_X1_takeSize (l := gl G) (E := gE G) (hb := gB G) (σ := σ8) e11) rfl (by decide) xc_X1_40 q582 qp13 (xck_spec e10) rfl (by decide) (xst4 (Nat.le_of_ble_eq_true rfl)) (m_X1_takeSize e11).le (m_X1_takeSize e11).lim dX1_build_30 ?_
    refine ww_aload_n (pc := 33) C 1 dX1_build_33 rfl ?_
    obtain ⟨_, e13, hf⟩ := xbd hf
    obtain ⟨σ15, e14, hf⟩ := xbd hf
    refine ww_callVv (pc := 34) (as := []) (st := []) C (k_X1_seeRings (l := gl G) (E := gE G) (hb := gB G) (σ := σ12) e14) rfl (by decide) xc_X1_43 q606 qp19 (xck_spec e13) rfl (by decide) (xst4 (Nat.le_of_ble_eq_true rfl)) (m_X1_seeRings e14).le (m_X1_seeRings e14).lim dX1_build_34 ?_
    refine ww_iconst (pc := 37) (v := (0 : Int32)) C dX1_build_37 (by decide) ?_
    refine ww_istore_n (pc := 38) (lv' := [(2, .int (0 : Int32)), (1, .int v9), (0, .ref (gB G + r0))]) C dX1_build_38 (by decide) rfl ?_
    refine ww_sub [2, 0] rfl ?_
    exact s_X1_build_l39 C (a := ((0 : Int32), σ15)) hf hk
  · have hf := xin q hf
    refine ww_aload_n (pc := 16) C 1 dX1_build_16 rfl ?_
    refine ww_iload_n (pc := 17) C 0 dX1_build_17 rfl ?_
    refine ww_aload_n (pc := 18) C 1 dX1_build_18 rfl ?_
    obtain ⟨z11, e10, hf⟩ := xbd hf
    refine gf_X1_12 (pc := 19) C e10 dX1_build_19 ?_
    obtain ⟨v13, e12, hf⟩ := xbd hf
    refine gf_X1_32 (pc := 22) C e12 dX1_build_22 ?_
    obtain ⟨_, e14, hf⟩ := xbd hf
    obtain ⟨σ16, e15, hf⟩ := xbd hf
    refine ww_callVv (pc := 25) (as := [.int v9, .int v13]) (st := []) C (k_X1_blame (l := gl G) (E := gE G) (hb := gB G) (σ := σ8) e15) rfl (by decide) xc_X1_36 q578 qp12 (xck_spec e14) rfl (by decide) (xst4 (Nat.le_of_ble_eq_true rfl)) (m_X1_blame e15).le (m_X1_blame e15).lim dX1_build_25 ?_
    have hf := xsj hf
    subst hf
    exact ww_vret (pc := 28) C hk dX1_build_28
theorem m_X1_build {σ : XS} {r0 : Nat} {x : XS} (hf : f_X1_build σ r0 = some x) : xsame σ x := by
  have hm := xsame.rf (σ := σ)
  obtain ⟨_, e1, hf⟩ := xbd hf
  obtain ⟨σ3, e2, hf⟩ := xbd hf
  have hm := hm.tr (m_X1_begin e2)
  obtain ⟨z5, e4, hf⟩ := xbd hf
  obtain ⟨_, e6, hf⟩ := xbd hf
  obtain ⟨⟨v9, σ8⟩, e7, hf⟩ := xbd hf
  dsimp only at hf
  have hm := hm.tr (m_X8_cut e7)
  by_cases q : v9 = 0
  · have hf := xip q hf
    obtain ⟨_, e10, hf⟩ := xbd hf
    obtain ⟨σ12, e11, hf⟩ := xbd hf
    have hm := hm.tr (m_X1_takeSize e11)
    obtain ⟨_, e13, hf⟩ := xbd hf
    obtain ⟨σ15, e14, hf⟩ := xbd hf
    have hm := hm.tr (m_X1_seeRings e14)
    exact hm.tr (m_X1_build_l39 (a := ((0 : Int32), σ15)) hf)
  · have hf := xin q hf
    obtain ⟨z11, e10, hf⟩ := xbd hf
    obtain ⟨v13, e12, hf⟩ := xbd hf
    obtain ⟨_, e14, hf⟩ := xbd hf
    obtain ⟨σ16, e15, hf⟩ := xbd hf
    have hm := hm.tr (m_X1_blame e15)
    have hf := xsj hf
    subst hf
    exact hm
theorem k_X1_build {l : Launch} {E : XD} {hb : Nat} {σ : XS} {r0 : Nat} {x : XS} (h : f_X1_build σ r0 = some x) : XM l yX1_build cX1_build 3 none 8 171 E hb [.ref (hb + r0)] σ none x := by
  refine xm_of (by decide) (Nat.le_of_ble_eq_true rfl) (m_X1_build h).le (fun G hG C hl hQ => ?_)
  obtain ⟨rfl, rfl, rfl, hN⟩ := hG
  exact s_X1_build_e C h hQ
end
section
noncomputable def f_X11_read (σ : XS) (r0 : Nat) : Option (Int32 × XS) := (xgR σ r0 11 1).bind fun z2 => (xck σ z2 1).bind fun _ => (f_X1_build σ z2).bind fun σ5 => (xgR σ5 r0 11 0).bind fun z7 => (xpI σ5 z7 8 4 (0 : Int32)).bind fun σ9 => (xgR σ9 r0 11 1).bind fun z11 => (xgI σ9 z11 1 3).bind fun v13 => (xpI σ9 r0 11 14 v13).bind fun σ15 => (xgR σ15 r0 11 1).bind fun z17 => (xgI σ15 z17 1 2).bind fun v19 => if v19 = 0 then ((xck σ15 r0 11).bind fun _ => (f_X11_beginAnew σ15 r0).bind fun σ22 => (xgR σ22 r0 11 1).bind fun z24 => (xgI σ22 z24 1 2).bind fun v26 => some (v26, σ22)) else (xgR σ15 r0 11 1).bind fun z21 => (xgI σ15 z21 1 2).bind fun v23 => some (v23, σ15)
theorem s_X11_read_e {G : XG} (C : XC G cX11_read RX11 (some .int) 1 9 193) {σ : XS} {r0 : Nat} {x : Int32 × XS} (hf : f_X11_read σ r0 = some x) (hk : XEnd G (some (.int x.1)) x.2) : WW G 0 [(0, .ref (gB G + r0))] [] σ := by
  refine ww_aload_n (pc := 0) C 0 dX11_read_0 rfl ?_
  obtain ⟨z2, e1, hf⟩ := xbd hf
  refine gf_X11_12 (pc := 1) C e1 dX11_read_1 ?_
  obtain ⟨_, e3, hf⟩ := xbd hf
  obtain ⟨σ5, e4, hf⟩ := xbd hf
  refine ww_callVv (pc := 4) (as := []) (st := []) C (k_X1_build (l := gl G) (E := gE G) (hb := gB G) (σ := σ) e4) rfl (by decide) xc_X11_111 q459 qp1 (xck_spec e3) rfl (by decide) (xst4 (Nat.le_of_ble_eq_true rfl)) (m_X1_build e4).le (m_X1_build e4).lim dX11_read_4 ?_
  refine ww_aload_n (pc := 7) C 0 dX11_read_7 rfl ?_
  obtain ⟨z7, e6, hf⟩ := xbd hf
  refine gf_X11_20 (pc := 8) C e6 dX11_read_8 ?_
  refine ww_iconst (pc := 11) (v := (0 : Int32)) C dX11_read_11 (by decide) ?_
  obtain ⟨σ9, e8, hf⟩ := xbd hf
  refine pf_X11_102 (pc := 12) C e8 dX11_read_12 ?_
  refine ww_aload_n (pc := 15) C 0 dX11_read_15 rfl ?_
  refine ww_aload_n (pc := 16) C 0 dX11_read_16 rfl ?_
  obtain ⟨z11, e10, hf⟩ := xbd hf
  refine gf_X11_12 (pc := 17) C e10 dX11_read_17 ?_
  obtain ⟨v13, e12, hf⟩ := xbd hf
  refine gf_X11_114 (pc := 20) C e12 dX11_read_20 ?_
  obtain ⟨σ15, e14, hf⟩ := xbd hf
  refine pf_X11_95 (pc := 23) C e14 dX11_read_23 ?_
  refine ww_aload_n (pc := 26) C 0 dX11_read_26 rfl ?_
  obtain ⟨z17, e16, hf⟩ := xbd hf
  refine gf_X11_12 (pc := 27) C e16 dX11_read_27 ?_
  obtain ⟨v19, e18, hf⟩ := xbd hf
  refine gf_X11_115 (pc := 30) C e18 dX11_read_30 ?_
  refine ww_if_ne (pc := 33) (tgt := 40) C dX11_read_33 (by decide) (fun q => ?_) (fun q => ?_)
  · have hf := xin q hf
    refine ww_aload_n (pc := 40) C 0 dX11_read_40 rfl ?_
    obtain ⟨z21, e20, hf⟩ := xbd hf
    refine gf_X11_12 (pc := 41) C e20 dX11_read_41 ?_
    obtain ⟨v23, e22, hf⟩ := xbd hf
    refine gf_X11_115 (pc := 44) C e22 dX11_read_44 ?_
    have hf := xsj hf
    subst hf
    exact ww_iret (pc := 47) C hk dX11_read_47
  · have hf := xip q hf
    refine ww_aload_n (pc := 36) C 0 dX11_read_36 rfl ?_
    obtain ⟨_, e20, hf⟩ := xbd hf
    obtain ⟨σ22, e21, hf⟩ := xbd hf
    refine ww_callVv (pc := 37) (as := []) (st := []) C (k_X11_beginAnew (l := gl G) (E := gE G) (hb := gB G) (σ := σ15) e21) rfl (by decide) xc_X11_118 q659 qp30 (xck_spec e20) rfl (by decide) (xst4 (Nat.le_of_ble_eq_true rfl)) (m_X11_beginAnew e21).le (m_X11_beginAnew e21).lim dX11_read_37 ?_
    refine ww_aload_n (pc := 40) C 0 dX11_read_40 rfl ?_
    obtain ⟨z24, e23, hf⟩ := xbd hf
    refine gf_X11_12 (pc := 41) C e23 dX11_read_41 ?_
    obtain ⟨v26, e25, hf⟩ := xbd hf
    refine gf_X11_115 (pc := 44) C e25 dX11_read_44 ?_
    have hf := xsj hf
    subst hf
    exact ww_iret (pc := 47) C hk dX11_read_47
theorem m_X11_read {σ : XS} {r0 : Nat} {x : Int32 × XS} (hf : f_X11_read σ r0 = some x) : xsame σ x.2 := by
  have hm := xsame.rf (σ := σ)
  obtain ⟨z2, e1, hf⟩ := xbd hf
  obtain ⟨_, e3, hf⟩ := xbd hf
  obtain ⟨σ5, e4, hf⟩ := xbd hf
  have hm := hm.tr (m_X1_build e4)
  obtain ⟨z7, e6, hf⟩ := xbd hf
  obtain ⟨σ9, e8, hf⟩ := xbd hf
  have hm := hm.tr (xpI_same e8)
  obtain ⟨z11, e10, hf⟩ := xbd hf
  obtain ⟨v13, e12, hf⟩ := xbd hf
  obtain ⟨σ15, e14, hf⟩ := xbd hf
  have hm := hm.tr (xpI_same e14)
  obtain ⟨z17, e16, hf⟩ := xbd hf
  obtain ⟨v19, e18, hf⟩ := xbd hf
  by_cases q : v19 = 0
  · have hf := xip q hf
    obtain ⟨_, e20, hf⟩ := xbd hf
    obtain ⟨σ22, e21, hf⟩ := xbd hf
    have hm := hm.tr (m_X11_beginAnew e21)
    obtain ⟨z24, e23, hf⟩ := xbd hf
    obtain ⟨v26, e25, hf⟩ := xbd hf
    have hf := xsj hf
    subst hf
    exact hm
  · have hf := xin q hf
    obtain ⟨z21, e20, hf⟩ := xbd hf
    obtain ⟨v23, e22, hf⟩ := xbd hf
    have hf := xsj hf
    subst hf
    exact hm
theorem k_X11_read {l : Launch} {E : XD} {hb : Nat} {σ : XS} {r0 : Nat} {x : Int32 × XS} (h : f_X11_read σ r0 = some x) : XM l yX11_read cX11_read 1 (some .int) 9 193 E hb [.ref (hb + r0)] σ (some (.int x.1)) x.2 := by
  refine xm_of (by decide) (Nat.le_of_ble_eq_true rfl) (m_X11_read h).le (fun G hG C hl hQ => ?_)
  obtain ⟨rfl, rfl, rfl, hN⟩ := hG
  exact s_X11_read_e C h hQ
noncomputable def f_X11_restore (σ : XS) (r0 : Nat) (x1 : Int32) : Option (Int32 × XS) := (xck σ r0 11).bind fun _ => (f_X11_slotAt σ r0 x1).bind fun z3 => if z3 = 0 then (some ((0 : Int32), σ)) else (xgI σ z3 7 2).bind fun v5 => if v5 = 0 then (some ((0 : Int32), σ)) else (xgR σ r0 11 3).bind fun z7 => (xgR σ z3 7 0).bind fun z9 => (xck σ z7 6).bind fun _ => (f_X6_copyFrom σ z7 z9).bind fun σ12 => (xgR σ12 r0 11 4).bind fun z14 => (xck σ12 z14 5).bind fun _ => (f_X5_forget σ12 z14).bind fun σ17 => some ((1 : Int32), σ17)
theorem s_X11_restore_e {G : XG} (C : XC G cX11_restore RX11 (some .boolean) 3 2 61) {σ : XS} {r0 : Nat} {x1 : Int32} {x : Int32 × XS} (hf : f_X11_restore σ r0 x1 = some x) (hk : XEnd G (some (.int x.1)) x.2) : WW G 0 [(0, .ref (gB G + r0)), (1, .int x1)] [] σ := by
  refine ww_aload_n (pc := 0) C 0 dX11_restore_0 rfl ?_
  refine ww_iload_n (pc := 1) C 1 dX11_restore_1 rfl ?_
  obtain ⟨_, e1, hf⟩ := xbd hf
  obtain ⟨z3, e2, hf⟩ := xbd hf
  refine ww_callVr (pc := 2) (as := [.int x1]) (st := []) C (k_X11_slotAt (l := gl G) (E := gE G) (hb := gB G) (σ := σ) e2) rfl (by decide) xc_X11_307 q1003 qp79 (xck_spec e1) rfl (by decide) (xst4 (Nat.le_of_ble_eq_true rfl)) xsame.rf.le xsame.rf.lim dX11_restore_2 ?_
  refine ww_nul (fun q => ?_) (fun q => ?_)
  · have hf := xip q hf
    refine ww_astore_nN (pc := 5) (lv' := [(2, .null), (0, .ref (gB G + r0)), (1, .int x1)]) C dX11_restore_5 (by decide) rfl ?_
    refine ww_aload_nN (pc := 6) C 0 dX11_restore_6 rfl ?_
    refine ww_ifnullN (pc := 7) (tgt := 17) C dX11_restore_7 (by decide) ?_
    refine ww_iconst (pc := 17) (v := (0 : Int32)) C dX11_restore_17 (by decide) ?_
    have hf := xsj hf
    subst hf
    exact ww_zret (pc := 18) C rfl hk dX11_restore_18
  · have hf := xin q hf
    refine ww_astore_n (pc := 5) (lv' := [(2, .ref (gB G + z3)), (0, .ref (gB G + r0)), (1, .int x1)]) C dX11_restore_5 (by decide) rfl ?_
    refine ww_aload_n (pc := 6) C 0 dX11_restore_6 rfl ?_
    refine ww_ifnull (pc := 7) C dX11_restore_7 ?_
    refine ww_aload_n (pc := 10) C 0 dX11_restore_10 rfl ?_
    obtain ⟨v5, e4, hf⟩ := xbd hf
    refine gf_X11_150 (pc := 11) C e4 dX11_restore_11 ?_
    refine ww_if_ne (pc := 14) (tgt := 19) C dX11_restore_14 (by decide) (fun q => ?_) (fun q => ?_)
    · have hf := xin q hf
      refine ww_aload_n (pc := 19) C 1 dX11_restore_19 rfl ?_
      obtain ⟨z7, e6, hf⟩ := xbd hf
      refine gf_X11_31 (pc := 20) C e6 dX11_restore_20 ?_
      refine ww_aload_n (pc := 23) C 0 dX11_restore_23 rfl ?_
      obtain ⟨z9, e8, hf⟩ := xbd hf
      refine gf_X11_339 (pc := 24) C e8 dX11_restore_24 ?_
      obtain ⟨_, e10, hf⟩ := xbd hf
      obtain ⟨σ12, e11, hf⟩ := xbd hf
      refine ww_callVv (pc := 27) (as := [.ref (gB G + z9)]) (st := []) C (k_X6_copyFrom (l := gl G) (E := gE G) (hb := gB G) (σ := σ) e11) rfl (by decide) xc_X11_137 q672 qp33 (xck_spec e10) rfl (by decide) (xst4 (Nat.le_of_ble_eq_true rfl)) (m_X6_copyFrom e11).le (m_X6_copyFrom e11).lim dX11_restore_27 ?_
      refine ww_aload_n (pc := 30) C 1 dX11_restore_30 rfl ?_
      obtain ⟨z14, e13, hf⟩ := xbd hf
      refine gf_X11_38 (pc := 31) C e13 dX11_restore_31 ?_
      obtain ⟨_, e15, hf⟩ := xbd hf
      obtain ⟨σ17, e16, hf⟩ := xbd hf
      refine ww_callVv (pc := 34) (as := []) (st := []) C (k_X5_forget (l := gl G) (E := gE G) (hb := gB G) (σ := σ12) e16) rfl (by decide) xc_X11_147 q679 qp34 (xck_spec e15) rfl (by decide) (xst4 (Nat.le_of_ble_eq_true rfl)) (m_X5_forget e16).le (m_X5_forget e16).lim dX11_restore_34 ?_
      refine ww_iconst (pc := 37) (v := (1 : Int32)) C dX11_restore_37 (by decide) ?_
      have hf := xsj hf
      subst hf
      exact ww_zret (pc := 38) C rfl hk dX11_restore_38
    · have hf := xip q hf
      refine ww_iconst (pc := 17) (v := (0 : Int32)) C dX11_restore_17 (by decide) ?_
      have hf := xsj hf
      subst hf
      exact ww_zret (pc := 18) C rfl hk dX11_restore_18
theorem m_X11_restore {σ : XS} {r0 : Nat} {x1 : Int32} {x : Int32 × XS} (hf : f_X11_restore σ r0 x1 = some x) : xsame σ x.2 := by
  have hm := xsame.rf (σ := σ)
  obtain ⟨_, e1, hf⟩ := xbd hf
  obtain ⟨z3, e2, hf⟩ := xbd hf
  by_cases q : z3 = 0
  · have hf := xip q hf
    have hf := xsj hf
    subst hf
    exact hm
  · have hf := xin q hf
    obtain ⟨v5, e4, hf⟩ := xbd hf
    by_cases q : v5 = 0
    · have hf := xip q hf
      have hf := xsj hf
      subst hf
      exact hm
    · have hf := xin q hf
      obtain ⟨z7, e6, hf⟩ := xbd hf
      obtain ⟨z9, e8, hf⟩ := xbd hf
      obtain ⟨_, e10, hf⟩ := xbd hf
      obtain ⟨σ12, e11, hf⟩ := xbd hf
      have hm := hm.tr (m_X6_copyFrom e11)
      obtain ⟨z14, e13, hf⟩ := xbd hf
      obtain ⟨_, e15, hf⟩ := xbd hf
      obtain ⟨σ17, e16, hf⟩ := xbd hf
      have hm := hm.tr (m_X5_forget e16)
      have hf := xsj hf
      subst hf
      exact hm
theorem k_X11_restore {l : Launch} {E : XD} {hb : Nat} {σ : XS} {r0 : Nat} {x1 : Int32} {x : Int32 × XS} (h : f_X11_restore σ r0 x1 = some x) : XM l yX11_restore cX11_restore 3 (some .boolean) 2 61 E hb [.ref (hb + r0), .int x1] σ (some (.int x.1)) x.2 := by
  refine xm_of (by decide) (Nat.le_of_ble_eq_true rfl) (m_X11_restore h).le (fun G hG C hl hQ => ?_)
  obtain ⟨rfl, rfl, rfl, hN⟩ := hG
  exact s_X11_restore_e C h hQ
noncomputable def f_X11_rows_b90 (σ : XS) (r0 : Nat) (x3 : Int32) (r4 : Nat) (x6 : Int32) (x8 : Int32) : Int32 × Int32 → Option ((Int32 × Int32) ⊕ (Int32 × XS)) := fun a => match a with
  | (x9, x10) => if x8 ≤ x10 then ((some (x9, σ)).map .inr) else (xgR σ r0 11 3).bind fun z2 => (xgI σ z2 6 2).bind fun v4 => (xgR σ r0 11 3).bind fun z6 => (xgI σ z6 6 3).bind fun v8 => if (x10 &&& v4) = (v8 &&& x6) then ((xck σ r4 2).bind fun _ => (f_X2_of σ r4 x10).bind fun v11 => if v11 = x3 then (some (.inl (x9 + (1 : Int32), x10 + (1 : Int32)))) else some (.inl (x9, x10 + (1 : Int32)))) else some (.inl (x9, x10 + (1 : Int32)))
noncomputable def f_X11_rows_j39 (σ : XS) (r0 : Nat) (x1 : Int32) (x2 : Int32) (x3 : Int32) (t0 : Nat) : Option (Int32 × XS) := (xgR σ r0 11 2).bind fun z2 => (xgI σ z2 3 4).bind fun v4 => (xgR σ r0 11 2).bind fun z6 => (xgI σ z6 3 4).bind fun v8 => xloop (f_X11_rows_b90 σ r0 x3 t0 (((1 : Int32) <<< (((x1 * v4) + v8) &&& 31)) - (1 : Int32)) ((x2 <<< ((x1 * v4) &&& 31)) + ((1 : Int32) <<< ((x1 * v4) &&& 31)))) ((0 : Int32), x2 <<< ((x1 * v4) &&& 31))
noncomputable def f_X11_rows (σ : XS) (r0 : Nat) (x1 : Int32) (x2 : Int32) (x3 : Int32) : Option (Int32 × XS) := if x1 < 0 then (some ((-1 : Int32), σ)) else (xgR σ r0 11 2).bind fun z2 => (xgI σ z2 3 5).bind fun v4 => if v4 ≤ x1 then (some ((-1 : Int32), σ)) else if x2 < 0 then (some ((-1 : Int32), σ)) else (xgR σ r0 11 2).bind fun z6 => (xgI σ z6 3 4).bind fun v8 => if x2 < ((1 : Int32) <<< (v8 &&& 31)) then ((xck σ r0 11).bind fun _ => (f_X11_energiesOfRows σ r0 x1).bind fun (z12, σ11) => (xnz z12).bind fun _ => f_X11_rows_j39 σ11 r0 x1 x2 x3 z12) else some ((-1 : Int32), σ)
theorem m_X11_rows_l90 {σ : XS} {r0 : Nat} {x3 : Int32} {r4 : Nat} {x6 : Int32} {x8 : Int32} {a : Int32 × Int32} {x : Int32 × XS} (hf : xloop (f_X11_rows_b90 σ r0 x3 r4 x6 x8) a = some x) : xext σ x.2 := by
  refine xloop_ind (P := fun a => xext σ x.2) (fun a y hf hc he => ?_) hf
  obtain ⟨x9, x10⟩ := a
  have hy : (∀ a' : Int32 × Int32, y = .inl a' → True) ∧ (∀ b1 : Int32 × XS, y = .inr b1 → xext σ b1.2) := by
    have hm := xext.rf (σ := σ)
    by_cases q : x8 ≤ x10
    · have hf := xip q hf
      obtain ⟨b0, hg, e9⟩ := xmj hf
      subst e9
      have hf := hg
      refine ⟨fun a' e => xnc2 e, fun b e => ?_⟩
      have h9 := Sum.inr.inj e
      subst h9
      have hf := xsj hf
      subst hf
      exact hm
    · have hf := xin q hf
      obtain ⟨z2, e1, hf⟩ := xbd hf
      obtain ⟨v4, e3, hf⟩ := xbd hf
      obtain ⟨z6, e5, hf⟩ := xbd hf
      obtain ⟨v8, e7, hf⟩ := xbd hf
      by_cases q : (x10 &&& v4) = (v8 &&& x6)
      · have hf := xip q hf
        obtain ⟨_, e9, hf⟩ := xbd hf
        obtain ⟨v11, e10, hf⟩ := xbd hf
        by_cases q : v11 = x3
        · have hf := xip q hf
          have hf := xsj hf
          subst hf
          exact ⟨fun a' e => (by have h9 := Sum.inl.inj e; subst h9; exact trivial), fun b e => xnc1 e⟩
        · have hf := xin q hf
          have hf := xsj hf
          subst hf
          exact ⟨fun a' e => (by have h9 := Sum.inl.inj e; subst h9; exact trivial), fun b e => xnc1 e⟩
      · have hf := xin q hf
        have hf := xsj hf
        subst hf
        exact ⟨fun a' e => (by have h9 := Sum.inl.inj e; subst h9; exact trivial), fun b e => xnc1 e⟩
  cases y with
  | inl a' =>
    have h1 := hc a' rfl
    exact h1
  | inr b =>
    have h1 := he b rfl
    subst h1
    exact hy.2 _ rfl
theorem s_X11_rows_l90 {G : XG} (C : XC G cX11_rows RX11 (some .int) 11 5 116) {σ : XS} {r0 : Nat} {x3 : Int32} {r4 : Nat} {x6 : Int32} {x8 : Int32} {a : Int32 × Int32} {x : Int32 × XS} (hf : xloop (f_X11_rows_b90 σ r0 x3 r4 x6 x8) a = some x) (hk : XEnd G (some (.int x.1)) x.2 ∧ XUp G x.2) : WW G 90 [(0, .ref (gB G + r0)), (3, .int x3), (4, .ref (gB G + r4)), (6, .int x6), (8, .int x8), (9, .int a.1), (10, .int a.2)] [] σ := by
  refine xloop_ind (P := fun a => WW G 90 [(0, .ref (gB G + r0)), (3, .int x3), (4, .ref (gB G + r4)), (6, .int x6), (8, .int x8), (9, .int a.1), (10, .int a.2)] [] σ) (fun a y hf hc he => ?_) hf
  obtain ⟨x9, x10⟩ := a
  have hk : (∀ a' : Int32 × Int32, y = .inl a' → WW G 90 [(0, .ref (gB G + r0)), (3, .int x3), (4, .ref (gB G + r4)), (6, .int x6), (8, .int x8), (9, .int a'.1), (10, .int a'.2)] [] σ) ∧ (∀ b1 : Int32 × XS, y = .inr b1 → XEnd G (some (.int b1.1)) b1.2 ∧ XUp G b1.2) := ⟨hc, fun b e => by have h9 := he b e; subst h9; exact hk⟩
  refine ww_iload (pc := 90) C 6 dX11_rows_90 rfl ?_
  refine ww_iload (pc := 92) C 4 dX11_rows_92 rfl ?_
  refine ww_icmp_ge (pc := 94) (tgt := 140) C dX11_rows_94 (by decide) (fun q => ?_) (fun q => ?_)
  · have hf := xip q hf
    obtain ⟨b0, hg, e9⟩ := xmj hf
    subst e9
    have hf := hg
    have hk := hk.2 _ rfl
    refine ww_iload (pc := 140) C 5 dX11_rows_140 rfl ?_
    have hf := xsj hf
    subst hf
    exact ww_iret (pc := 142) C hk.1 dX11_rows_142
  · have hf := xin q hf
    refine ww_iload (pc := 97) C 6 dX11_rows_97 rfl ?_
    refine ww_aload_n (pc := 99) C 0 dX11_rows_99 rfl ?_
    obtain ⟨z2, e1, hf⟩ := xbd hf
    refine gf_X11_31 (pc := 100) C e1 dX11_rows_100 ?_
    obtain ⟨v4, e3, hf⟩ := xbd hf
    refine gf_X11_191 (pc := 103) C e3 dX11_rows_103 ?_
    refine ww_iand (pc := 106) C dX11_rows_106 ?_
    refine ww_aload_n (pc := 107) C 0 dX11_rows_107 rfl ?_
    obtain ⟨z6, e5, hf⟩ := xbd hf
    refine gf_X11_31 (pc := 108) C e5 dX11_rows_108 ?_
    obtain ⟨v8, e7, hf⟩ := xbd hf
    refine gf_X11_141 (pc := 111) C e7 dX11_rows_111 ?_
    refine ww_iload (pc := 114) C 3 dX11_rows_114 rfl ?_
    refine ww_iand (pc := 116) C dX11_rows_116 ?_
    refine ww_icmp_ne (pc := 117) (tgt := 134) C dX11_rows_117 (by decide) (fun q => ?_) (fun q => ?_)
    · have hf := xin q hf
      refine ww_iinc (pc := 134) (v := x10 + (1 : Int32)) (lv' := [(10, .int (x10 + (1 : Int32))), (0, .ref (gB G + r0)), (3, .int x3), (4, .ref (gB G + r4)), (6, .int x6), (8, .int x8), (9, .int x9)]) C 6 dX11_rows_134 rfl (congrArg (fun z => x10 + z) (show Int32.ofInt (1) = (1 : Int32) by decide)) (by decide) rfl ?_
      refine ww_goto (pc := 137) (tgt := 90) C dX11_rows_137 (by decide) ?_
      have hf := xsj hf
      subst hf
      refine ww_sub [1, 2, 3, 4, 5, 6, 0] rfl ?_
      exact hk.1 (x9, x10 + (1 : Int32)) rfl
    · have hf := xip q hf
      refine ww_aload (pc := 120) C 2 dX11_rows_120 rfl ?_
      refine ww_iload (pc := 122) C 6 dX11_rows_122 rfl ?_
      obtain ⟨_, e9, hf⟩ := xbd hf
      obtain ⟨v11, e10, hf⟩ := xbd hf
      refine ww_callVi (pc := 124) (as := [.int x10]) (st := []) C (k_X2_of (l := gl G) (E := gE G) (hb := gB G) (σ := σ) e10) rfl (by decide) xc_X11_298 q880 qp64 (xck_spec e9) rfl (by decide) (xst4 (Nat.le_of_ble_eq_true rfl)) xsame.rf.le xsame.rf.lim dX11_rows_124 ?_
      refine ww_iload_n (pc := 127) C 1 dX11_rows_127 rfl ?_
      refine ww_icmp_ne (pc := 128) (tgt := 134) C dX11_rows_128 (by decide) (fun q => ?_) (fun q => ?_)
      · have hf := xin q hf
        refine ww_iinc (pc := 134) (v := x10 + (1 : Int32)) (lv' := [(10, .int (x10 + (1 : Int32))), (0, .ref (gB G + r0)), (3, .int x3), (4, .ref (gB G + r4)), (6, .int x6), (8, .int x8), (9, .int x9)]) C 6 dX11_rows_134 rfl (congrArg (fun z => x10 + z) (show Int32.ofInt (1) = (1 : Int32) by decide)) (by decide) rfl ?_
        refine ww_goto (pc := 137) (tgt := 90) C dX11_rows_137 (by decide) ?_
        have hf := xsj hf
        subst hf
        refine ww_sub [1, 2, 3, 4, 5, 6, 0] rfl ?_
        exact hk.1 (x9, x10 + (1 : Int32)) rfl
      · have hf := xip q hf
        refine ww_iinc (pc := 131) (v := x9 + (1 : Int32)) (lv' := [(9, .int (x9 + (1 : Int32))), (0, .ref (gB G + r0)), (3, .int x3), (4, .ref (gB G + r4)), (6, .int x6), (8, .int x8), (10, .int x10)]) C 5 dX11_rows_131 rfl (congrArg (fun z => x9 + z) (show Int32.ofInt (1) = (1 : Int32) by decide)) (by decide) rfl ?_
        refine ww_iinc (pc := 134) (v := x10 + (1 : Int32)) (lv' := [(10, .int (x10 + (1 : Int32))), (9, .int (x9 + (1 : Int32))), (0, .ref (gB G + r0)), (3, .int x3), (4, .ref (gB G + r4)), (6, .int x6), (8, .int x8)]) C 6 dX11_rows_134 rfl (congrArg (fun z => x10 + z) (show Int32.ofInt (1) = (1 : Int32) by decide)) (by decide) rfl ?_
        refine ww_goto (pc := 137) (tgt := 90) C dX11_rows_137 (by decide) ?_
        have hf := xsj hf
        subst hf
        refine ww_sub [2, 3, 4, 5, 6, 1, 0] rfl ?_
        exact hk.1 (x9 + (1 : Int32), x10 + (1 : Int32)) rfl
theorem s_X11_rows_j39 {G : XG} (C : XC G cX11_rows RX11 (some .int) 11 5 116) {σ : XS} {r0 : Nat} {x1 : Int32} {x2 : Int32} {x3 : Int32} {t0 : Nat} {x : Int32 × XS} (hf : f_X11_rows_j39 σ r0 x1 x2 x3 t0 = some x) (hk : XEnd G (some (.int x.1)) x.2 ∧ XUp G x.2) : WW G 39 [(0, .ref (gB G + r0)), (1, .int x1), (2, .int x2), (3, .int x3)] [.ref (gB G + t0)] σ := by
  refine ww_astore (pc := 39) (lv' := [(4, .ref (gB G + t0)), (0, .ref (gB G + r0)), (1, .int x1), (2, .int x2), (3, .int x3)]) C dX11_rows_39 (by decide) rfl ?_
  refine ww_iload_n (pc := 41) C 2 dX11_rows_41 rfl ?_
  refine ww_aload_n (pc := 42) C 1 dX11_rows_42 rfl ?_
  obtain ⟨z2, e1, hf⟩ := xbd hf
  refine gf_X11_24 (pc := 43) C e1 dX11_rows_43 ?_
  obtain ⟨v4, e3, hf⟩ := xbd hf
  refine gf_X11_362 (pc := 46) C e3 dX11_rows_46 ?_
  refine ww_imul (pc := 49) C dX11_rows_49 ?_
  refine ww_istore (pc := 50) (lv' := [(5, .int (x1 * v4)), (4, .ref (gB G + t0)), (0, .ref (gB G + r0)), (1, .int x1), (2, .int x2), (3, .int x3)]) C dX11_rows_50 (by decide) rfl ?_
  refine ww_iconst (pc := 52) (v := (1 : Int32)) C dX11_rows_52 (by decide) ?_
  refine ww_iload (pc := 53) C 0 dX11_rows_53 rfl ?_
  refine ww_aload_n (pc := 55) C 2 dX11_rows_55 rfl ?_
  obtain ⟨z6, e5, hf⟩ := xbd hf
  refine gf_X11_24 (pc := 56) C e5 dX11_rows_56 ?_
  obtain ⟨v8, e7, hf⟩ := xbd hf
  refine gf_X11_362 (pc := 59) C e7 dX11_rows_59 ?_
  refine ww_iadd (pc := 62) C dX11_rows_62 ?_
  refine ww_ishl (pc := 63) C dX11_rows_63 ?_
  refine ww_iconst (pc := 64) (v := (1 : Int32)) C dX11_rows_64 (by decide) ?_
  refine ww_isub (pc := 65) C dX11_rows_65 ?_
  refine ww_istore (pc := 66) (lv' := [(6, .int (((1 : Int32) <<< (((x1 * v4) + v8) &&& 31)) - (1 : Int32))), (5, .int (x1 * v4)), (4, .ref (gB G + t0)), (0, .ref (gB G + r0)), (1, .int x1), (2, .int x2), (3, .int x3)]) C dX11_rows_66 (by decide) rfl ?_
  refine ww_iload_n (pc := 68) C 5 dX11_rows_68 rfl ?_
  refine ww_iload (pc := 69) C 1 dX11_rows_69 rfl ?_
  refine ww_ishl (pc := 71) C dX11_rows_71 ?_
  refine ww_istore (pc := 72) (lv' := [(7, .int (x2 <<< ((x1 * v4) &&& 31))), (6, .int (((1 : Int32) <<< (((x1 * v4) + v8) &&& 31)) - (1 : Int32))), (5, .int (x1 * v4)), (4, .ref (gB G + t0)), (0, .ref (gB G + r0)), (1, .int x1), (2, .int x2), (3, .int x3)]) C dX11_rows_72 (by decide) rfl ?_
  refine ww_iload (pc := 74) C 0 dX11_rows_74 rfl ?_
  refine ww_iconst (pc := 76) (v := (1 : Int32)) C dX11_rows_76 (by decide) ?_
  refine ww_iload (pc := 77) C 2 dX11_rows_77 rfl ?_
  refine ww_ishl (pc := 79) C dX11_rows_79 ?_
  refine ww_iadd (pc := 80) C dX11_rows_80 ?_
  refine ww_istore (pc := 81) (lv' := [(8, .int ((x2 <<< ((x1 * v4) &&& 31)) + ((1 : Int32) <<< ((x1 * v4) &&& 31)))), (7, .int (x2 <<< ((x1 * v4) &&& 31))), (6, .int (((1 : Int32) <<< (((x1 * v4) + v8) &&& 31)) - (1 : Int32))), (5, .int (x1 * v4)), (4, .ref (gB G + t0)), (0, .ref (gB G + r0)), (1, .int x1), (2, .int x2), (3, .int x3)]) C dX11_rows_81 (by decide) rfl ?_
  refine ww_iconst (pc := 83) (v := (0 : Int32)) C dX11_rows_83 (by decide) ?_
  refine ww_istore (pc := 84) (lv' := [(9, .int (0 : Int32)), (8, .int ((x2 <<< ((x1 * v4) &&& 31)) + ((1 : Int32) <<< ((x1 * v4) &&& 31)))), (7, .int (x2 <<< ((x1 * v4) &&& 31))), (6, .int (((1 : Int32) <<< (((x1 * v4) + v8) &&& 31)) - (1 : Int32))), (5, .int (x1 * v4)), (4, .ref (gB G + t0)), (0, .ref (gB G + r0)), (1, .int x1), (2, .int x2), (3, .int x3)]) C dX11_rows_84 (by decide) rfl ?_
  refine ww_iload (pc := 86) C 2 dX11_rows_86 rfl ?_
  refine ww_istore (pc := 88) (lv' := [(10, .int (x2 <<< ((x1 * v4) &&& 31))), (9, .int (0 : Int32)), (8, .int ((x2 <<< ((x1 * v4) &&& 31)) + ((1 : Int32) <<< ((x1 * v4) &&& 31)))), (7, .int (x2 <<< ((x1 * v4) &&& 31))), (6, .int (((1 : Int32) <<< (((x1 * v4) + v8) &&& 31)) - (1 : Int32))), (5, .int (x1 * v4)), (4, .ref (gB G + t0)), (0, .ref (gB G + r0)), (1, .int x1), (2, .int x2), (3, .int x3)]) C dX11_rows_88 (by decide) rfl ?_
  refine ww_sub [7, 10, 6, 4, 2, 1, 0] rfl ?_
  exact s_X11_rows_l90 C (a := ((0 : Int32), x2 <<< ((x1 * v4) &&& 31))) hf hk
theorem m_X11_rows_j39 {σ : XS} {r0 : Nat} {x1 : Int32} {x2 : Int32} {x3 : Int32} {t0 : Nat} {x : Int32 × XS} (hf : f_X11_rows_j39 σ r0 x1 x2 x3 t0 = some x) : xext σ x.2 := by
  have hm := xext.rf (σ := σ)
  obtain ⟨z2, e1, hf⟩ := xbd hf
  obtain ⟨v4, e3, hf⟩ := xbd hf
  obtain ⟨z6, e5, hf⟩ := xbd hf
  obtain ⟨v8, e7, hf⟩ := xbd hf
  exact hm.tr (m_X11_rows_l90 (a := ((0 : Int32), x2 <<< ((x1 * v4) &&& 31))) hf)
theorem s_X11_rows_e {G : XG} (C : XC G cX11_rows RX11 (some .int) 11 5 116) {σ : XS} {r0 : Nat} {x1 : Int32} {x2 : Int32} {x3 : Int32} {x : Int32 × XS} (hf : f_X11_rows σ r0 x1 x2 x3 = some x) (hk : XEnd G (some (.int x.1)) x.2 ∧ XUp G x.2) : WW G 0 [(0, .ref (gB G + r0)), (1, .int x1), (2, .int x2), (3, .int x3)] [] σ := by
  refine ww_iload_n (pc := 0) C 1 dX11_rows_0 rfl ?_
  refine ww_if_lt (pc := 1) (tgt := 32) C dX11_rows_1 (by decide) (fun q => ?_) (fun q => ?_)
  · have hf := xip q hf
    refine ww_iconst (pc := 32) (v := (-1 : Int32)) C dX11_rows_32 (by decide) ?_
    have hf := xsj hf
    subst hf
    exact ww_iret (pc := 33) C hk.1 dX11_rows_33
  · have hf := xin q hf
    refine ww_iload_n (pc := 4) C 1 dX11_rows_4 rfl ?_
    refine ww_aload_n (pc := 5) C 0 dX11_rows_5 rfl ?_
    obtain ⟨z2, e1, hf⟩ := xbd hf
    refine gf_X11_24 (pc := 6) C e1 dX11_rows_6 ?_
    obtain ⟨v4, e3, hf⟩ := xbd hf
    refine gf_X11_361 (pc := 9) C e3 dX11_rows_9 ?_
    refine ww_icmp_ge (pc := 12) (tgt := 32) C dX11_rows_12 (by decide) (fun q => ?_) (fun q => ?_)
    · have hf := xip q hf
      refine ww_iconst (pc := 32) (v := (-1 : Int32)) C dX11_rows_32 (by decide) ?_
      have hf := xsj hf
      subst hf
      exact ww_iret (pc := 33) C hk.1 dX11_rows_33
    · have hf := xin q hf
      refine ww_iload_n (pc := 15) C 2 dX11_rows_15 rfl ?_
      refine ww_if_lt (pc := 16) (tgt := 32) C dX11_rows_16 (by decide) (fun q => ?_) (fun q => ?_)
      · have hf := xip q hf
        refine ww_iconst (pc := 32) (v := (-1 : Int32)) C dX11_rows_32 (by decide) ?_
        have hf := xsj hf
        subst hf
        exact ww_iret (pc := 33) C hk.1 dX11_rows_33
      · have hf := xin q hf
        refine ww_iload_n (pc := 19) C 2 dX11_rows_19 rfl ?_
        refine ww_iconst (pc := 20) (v := (1 : Int32)) C dX11_rows_20 (by decide) ?_
        refine ww_aload_n (pc := 21) C 0 dX11_rows_21 rfl ?_
        obtain ⟨z6, e5, hf⟩ := xbd hf
        refine gf_X11_24 (pc := 22) C e5 dX11_rows_22 ?_
        obtain ⟨v8, e7, hf⟩ := xbd hf
        refine gf_X11_362 (pc := 25) C e7 dX11_rows_25 ?_
        refine ww_ishl (pc := 28) C dX11_rows_28 ?_
        refine ww_icmp_lt (pc := 29) (tgt := 34) C dX11_rows_29 (by decide) (fun q => ?_) (fun q => ?_)
        · have hf := xip q hf
          refine ww_aload_n (pc := 34) C 0 dX11_rows_34 rfl ?_
          refine ww_iload_n (pc := 35) C 1 dX11_rows_35 rfl ?_
          obtain ⟨_, e9, hf⟩ := xbd hf
          obtain ⟨⟨z12, σ11⟩, e10, hf⟩ := xbd hf
          dsimp only at hf
          obtain ⟨_, e13, hf⟩ := xbd hf
          refine ww_callVr (pc := 36) (as := [.int x1]) (st := []) C (k_X11_energiesOfRows (l := gl G) (E := gE G) (hb := gB G) (σ := σ) e10) rfl (by decide) xc_X11_363 q1045 qp86 (xck_spec e9) rfl (by decide) (xst4 (Nat.le_of_ble_eq_true rfl)) (m_X11_energiesOfRows e10).1 (fun q => by have hm9 := m_X11_rows_j39 hf; exact XLim.mid q (m_X11_energiesOfRows e10) hm9 hk.2) dX11_rows_36 ?_
          refine ww_nn (xnz_spec e13) ?_
          refine ww_sub [0, 1, 2, 3] rfl ?_
          exact s_X11_rows_j39 C hf hk
        · have hf := xin q hf
          refine ww_iconst (pc := 32) (v := (-1 : Int32)) C dX11_rows_32 (by decide) ?_
          have hf := xsj hf
          subst hf
          exact ww_iret (pc := 33) C hk.1 dX11_rows_33
theorem m_X11_rows {σ : XS} {r0 : Nat} {x1 : Int32} {x2 : Int32} {x3 : Int32} {x : Int32 × XS} (hf : f_X11_rows σ r0 x1 x2 x3 = some x) : xext σ x.2 := by
  have hm := xext.rf (σ := σ)
  by_cases q : x1 < 0
  · have hf := xip q hf
    have hf := xsj hf
    subst hf
    exact hm
  · have hf := xin q hf
    obtain ⟨z2, e1, hf⟩ := xbd hf
    obtain ⟨v4, e3, hf⟩ := xbd hf
    by_cases q : v4 ≤ x1
    · have hf := xip q hf
      have hf := xsj hf
      subst hf
      exact hm
    · have hf := xin q hf
      by_cases q : x2 < 0
      · have hf := xip q hf
        have hf := xsj hf
        subst hf
        exact hm
      · have hf := xin q hf
        obtain ⟨z6, e5, hf⟩ := xbd hf
        obtain ⟨v8, e7, hf⟩ := xbd hf
        by_cases q : x2 < ((1 : Int32) <<< (v8 &&& 31))
        · have hf := xip q hf
          obtain ⟨_, e9, hf⟩ := xbd hf
          obtain ⟨⟨z12, σ11⟩, e10, hf⟩ := xbd hf
          dsimp only at hf
          have hm := hm.tr (m_X11_energiesOfRows e10)
          obtain ⟨_, e13, hf⟩ := xbd hf
          exact hm.tr (m_X11_rows_j39 hf)
        · have hf := xin q hf
          have hf := xsj hf
          subst hf
          exact hm
theorem k_X11_rows {l : Launch} {E : XD} {hb : Nat} {σ : XS} {r0 : Nat} {x1 : Int32} {x2 : Int32} {x3 : Int32} {x : Int32 × XS} (h : f_X11_rows σ r0 x1 x2 x3 = some x) : XM l yX11_rows cX11_rows 11 (some .int) 5 116 E hb [.ref (hb + r0), .int x1, .int x2, .int x3] σ (some (.int x.1)) x.2 := by
  refine xm_of (by decide) (Nat.le_of_ble_eq_true rfl) (m_X11_rows h).1 (fun G hG C hl hQ => ?_)
  obtain ⟨rfl, rfl, rfl, hN⟩ := hG
  exact s_X11_rows_e C h ⟨hQ, hl.2⟩
noncomputable def f_X3_rowOf (σ : XS) (r0 : Nat) (x1 : Int32) : Option Int32 := (xgI σ r0 3 4).bind fun v2 => if v2 ≤ 0 then (some (0 : Int32)) else (xgI σ r0 3 4).bind fun v4 => (xdz v4).bind fun _ => some (x1 / v4)
theorem s_X3_rowOf_e {G : XG} (C : XC G cX3_rowOf RX3 (some .int) 2 0 0) {σ : XS} {r0 : Nat} {x1 : Int32} {x : Int32} (hf : f_X3_rowOf σ r0 x1 = some x) (hk : XEnd G (some (.int x)) σ) : WW G 0 [(0, .ref (gB G + r0)), (1, .int x1)] [] σ := by
  refine ww_aload_n (pc := 0) C 0 dX3_rowOf_0 rfl ?_
  obtain ⟨v2, e1, hf⟩ := xbd hf
  refine gf_X3_30 (pc := 1) C e1 dX3_rowOf_1 ?_
  refine ww_if_le (pc := 4) (tgt := 16) C dX3_rowOf_4 (by decide) (fun q => ?_) (fun q => ?_)
  · have hf := xip q hf
    refine ww_iconst (pc := 16) (v := (0 : Int32)) C dX3_rowOf_16 (by decide) ?_
    have hf := xsj hf
    subst hf
    exact ww_iret (pc := 17) C hk dX3_rowOf_17
  · have hf := xin q hf
    refine ww_iload_n (pc := 7) C 1 dX3_rowOf_7 rfl ?_
    refine ww_aload_n (pc := 8) C 0 dX3_rowOf_8 rfl ?_
    obtain ⟨v4, e3, hf⟩ := xbd hf
    refine gf_X3_30 (pc := 9) C e3 dX3_rowOf_9 ?_
    obtain ⟨_, e5, hf⟩ := xbd hf
    refine ww_idiv (pc := 12) C dX3_rowOf_12 (xdz_spec e5) ?_
    refine ww_goto (pc := 13) (tgt := 17) C dX3_rowOf_13 (by decide) ?_
    have hf := xsj hf
    subst hf
    exact ww_iret (pc := 17) C hk dX3_rowOf_17
theorem k_X3_rowOf {l : Launch} {E : XD} {hb : Nat} {σ : XS} {r0 : Nat} {x1 : Int32} {x : Int32} (h : f_X3_rowOf σ r0 x1 = some x) : XM l yX3_rowOf cX3_rowOf 2 (some .int) 0 0 E hb [.ref (hb + r0), .int x1] σ (some (.int x)) σ := by
  refine xm_of (by decide) (Nat.le_of_ble_eq_true rfl) ⟨Nat.le_refl _, Nat.le_refl _⟩ (fun G hG C hl hQ => ?_)
  obtain ⟨rfl, rfl, rfl, hN⟩ := hG
  exact s_X3_rowOf_e C h hQ
noncomputable def f_X3_columnOf (σ : XS) (r0 : Nat) (x1 : Int32) : Option Int32 := (xgI σ r0 3 4).bind fun v2 => if v2 ≤ 0 then (some (0 : Int32)) else (xgI σ r0 3 4).bind fun v4 => (xdz v4).bind fun _ => some (x1 - x1 / v4 * v4)
theorem s_X3_columnOf_e {G : XG} (C : XC G cX3_columnOf RX3 (some .int) 2 0 0) {σ : XS} {r0 : Nat} {x1 : Int32} {x : Int32} (hf : f_X3_columnOf σ r0 x1 = some x) (hk : XEnd G (some (.int x)) σ) : WW G 0 [(0, .ref (gB G + r0)), (1, .int x1)] [] σ := by
  refine ww_aload_n (pc := 0) C 0 dX3_columnOf_0 rfl ?_
  obtain ⟨v2, e1, hf⟩ := xbd hf
  refine gf_X3_30 (pc := 1) C e1 dX3_columnOf_1 ?_
  refine ww_if_le (pc := 4) (tgt := 16) C dX3_columnOf_4 (by decide) (fun q => ?_) (fun q => ?_)
  · have hf := xip q hf
    refine ww_iconst (pc := 16) (v := (0 : Int32)) C dX3_columnOf_16 (by decide) ?_
    have hf := xsj hf
    subst hf
    exact ww_iret (pc := 17) C hk dX3_columnOf_17
  · have hf := xin q hf
    refine ww_iload_n (pc := 7) C 1 dX3_columnOf_7 rfl ?_
    refine ww_aload_n (pc := 8) C 0 dX3_columnOf_8 rfl ?_
    obtain ⟨v4, e3, hf⟩ := xbd hf
    refine gf_X3_30 (pc := 9) C e3 dX3_columnOf_9 ?_
    obtain ⟨_, e5, hf⟩ := xbd hf
    refine ww_irem (pc := 12) C dX3_columnOf_12 (xdz_spec e5) ?_
    refine ww_goto (pc := 13) (tgt := 17) C dX3_columnOf_13 (by decide) ?_
    have hf := xsj hf
    subst hf
    exact ww_iret (pc := 17) C hk dX3_columnOf_17
theorem k_X3_columnOf {l : Launch} {E : XD} {hb : Nat} {σ : XS} {r0 : Nat} {x1 : Int32} {x : Int32} (h : f_X3_columnOf σ r0 x1 = some x) : XM l yX3_columnOf cX3_columnOf 2 (some .int) 0 0 E hb [.ref (hb + r0), .int x1] σ (some (.int x)) σ := by
  refine xm_of (by decide) (Nat.le_of_ble_eq_true rfl) ⟨Nat.le_refl _, Nat.le_refl _⟩ (fun G hG C hl hQ => ?_)
  obtain ⟨rfl, rfl, rfl, hN⟩ := hG
  exact s_X3_columnOf_e C h hQ
noncomputable def f_X3_tiePlace_j22 (σ : XS) (r0 : Nat) (t0 : Int32) : Option Int32 := (xck σ r0 3).bind fun _ => (f_X3_endAt σ r0 t0).bind fun v3 => if v3 = (-1 : Int32) then (some (-1 : Int32)) else some t0
noncomputable def f_X3_tiePlace (σ : XS) (r0 : Nat) (x1 : Int32) (x2 : Int32) : Option Int32 := (xck σ r0 3).bind fun _ => (f_X3_hasSite σ r0 x1).bind fun v3 => if v3 = 0 then (some (-1 : Int32)) else if x2 = 0 then (f_X3_tiePlace_j22 σ r0 x1) else f_X3_tiePlace_j22 σ r0 ((16 : Int32) + x1)
theorem s_X3_tiePlace_j22 {G : XG} (C : XC G cX3_tiePlace RX3 (some .int) 4 1 21) {σ : XS} {r0 : Nat} {t0 : Int32} {x : Int32} (hf : f_X3_tiePlace_j22 σ r0 t0 = some x) (hk : XEnd G (some (.int x)) σ) : WW G 22 [(0, .ref (gB G + r0))] [.int t0] σ := by
  refine ww_istore_n (pc := 22) (lv' := [(3, .int t0), (0, .ref (gB G + r0))]) C dX3_tiePlace_22 (by decide) rfl ?_
  refine ww_aload_n (pc := 23) C 1 dX3_tiePlace_23 rfl ?_
  refine ww_iload_n (pc := 24) C 0 dX3_tiePlace_24 rfl ?_
  obtain ⟨_, e1, hf⟩ := xbd hf
  obtain ⟨v3, e2, hf⟩ := xbd hf
  refine ww_callVi (pc := 25) (as := [.int t0]) (st := []) C (k_X3_endAt (l := gl G) (E := gE G) (hb := gB G) (σ := σ) e2) rfl (by decide) xc_X3_59 q703 qp38 (xck_spec e1) rfl (by decide) (xst4 (Nat.le_of_ble_eq_true rfl)) xsame.rf.le xsame.rf.lim dX3_tiePlace_25 ?_
  refine ww_iconst (pc := 28) (v := (-1 : Int32)) C dX3_tiePlace_28 (by decide) ?_
  refine ww_icmp_ne (pc := 29) (tgt := 36) C dX3_tiePlace_29 (by decide) (fun q => ?_) (fun q => ?_)
  · have hf := xin q hf
    refine ww_iload_n (pc := 36) C 0 dX3_tiePlace_36 rfl ?_
    have hf := xsj hf
    subst hf
    exact ww_iret (pc := 37) C hk dX3_tiePlace_37
  · have hf := xip q hf
    refine ww_iconst (pc := 32) (v := (-1 : Int32)) C dX3_tiePlace_32 (by decide) ?_
    refine ww_goto (pc := 33) (tgt := 37) C dX3_tiePlace_33 (by decide) ?_
    have hf := xsj hf
    subst hf
    exact ww_iret (pc := 37) C hk dX3_tiePlace_37
theorem s_X3_tiePlace_e {G : XG} (C : XC G cX3_tiePlace RX3 (some .int) 4 1 21) {σ : XS} {r0 : Nat} {x1 : Int32} {x2 : Int32} {x : Int32} (hf : f_X3_tiePlace σ r0 x1 x2 = some x) (hk : XEnd G (some (.int x)) σ) : WW G 0 [(0, .ref (gB G + r0)), (1, .int x1), (2, .int x2)] [] σ := by
  refine ww_aload_n (pc := 0) C 0 dX3_tiePlace_0 rfl ?_
  refine ww_iload_n (pc := 1) C 1 dX3_tiePlace_1 rfl ?_
  obtain ⟨_, e1, hf⟩ := xbd hf
  obtain ⟨v3, e2, hf⟩ := xbd hf
  refine ww_callVi (pc := 2) (as := [.int x1]) (st := []) C (k_X3_hasSite (l := gl G) (E := gE G) (hb := gB G) (σ := σ) e2) rfl (by decide) xc_X3_55 q699 qp37 (xck_spec e1) rfl (by decide) (xst4 (Nat.le_of_ble_eq_true rfl)) xsame.rf.le xsame.rf.lim dX3_tiePlace_2 ?_
  refine ww_if_ne (pc := 5) (tgt := 10) C dX3_tiePlace_5 (by decide) (fun q => ?_) (fun q => ?_)
  · have hf := xin q hf
    refine ww_iload_n (pc := 10) C 2 dX3_tiePlace_10 rfl ?_
    refine ww_if_eq (pc := 11) (tgt := 21) C dX3_tiePlace_11 (by decide) (fun q => ?_) (fun q => ?_)
    · have hf := xip q hf
      refine ww_iload_n (pc := 21) C 1 dX3_tiePlace_21 rfl ?_
      refine ww_sub [0] rfl ?_
      exact s_X3_tiePlace_j22 C hf hk
    · have hf := xin q hf
      refine ww_bipush (pc := 14) (v := (16 : Int32)) C dX3_tiePlace_14 (by decide) ?_
      refine ww_iload_n (pc := 16) C 1 dX3_tiePlace_16 rfl ?_
      refine ww_iadd (pc := 17) C dX3_tiePlace_17 ?_
      refine ww_goto (pc := 18) (tgt := 22) C dX3_tiePlace_18 (by decide) ?_
      refine ww_sub [0] rfl ?_
      exact s_X3_tiePlace_j22 C hf hk
  · have hf := xip q hf
    refine ww_iconst (pc := 8) (v := (-1 : Int32)) C dX3_tiePlace_8 (by decide) ?_
    have hf := xsj hf
    subst hf
    exact ww_iret (pc := 9) C hk dX3_tiePlace_9
theorem k_X3_tiePlace {l : Launch} {E : XD} {hb : Nat} {σ : XS} {r0 : Nat} {x1 : Int32} {x2 : Int32} {x : Int32} (h : f_X3_tiePlace σ r0 x1 x2 = some x) : XM l yX3_tiePlace cX3_tiePlace 4 (some .int) 1 21 E hb [.ref (hb + r0), .int x1, .int x2] σ (some (.int x)) σ := by
  refine xm_of (by decide) (Nat.le_of_ble_eq_true rfl) ⟨Nat.le_refl _, Nat.le_refl _⟩ (fun G hG C hl hQ => ?_)
  obtain ⟨rfl, rfl, rfl, hN⟩ := hG
  exact s_X3_tiePlace_e C h hQ
noncomputable def f_X11_site (σ : XS) (r0 : Nat) (x1 : Int32) (x2 : Int32) : Option Int32 := (xgR σ r0 11 2).bind fun z2 => (xck σ z2 3).bind fun _ => (f_X3_hasSite σ z2 x1).bind fun v5 => if v5 = 0 then (some (-100000 : Int32)) else xsw x2 (0) [(xgR σ r0 11 2).bind fun z7 => (xck σ z7 3).bind fun _ => (f_X3_rowOf σ z7 x1).bind fun v10 => some v10, (xgR σ r0 11 2).bind fun z7 => (xck σ z7 3).bind fun _ => (f_X3_columnOf σ z7 x1).bind fun v10 => some v10, (xgR σ r0 11 3).bind fun z7 => (xck σ z7 6).bind fun _ => (f_X6_fieldAt σ z7 x1).bind fun v10 => some v10, (xgR σ r0 11 3).bind fun z7 => (xck σ z7 6).bind fun _ => (f_X6_pinAt σ z7 x1).bind fun v10 => some v10, (xgR σ r0 11 2).bind fun z7 => (xck σ z7 3).bind fun _ => (f_X3_tiePlace σ z7 x1 (0 : Int32)).bind fun v10 => (xck σ r0 11).bind fun _ => (f_X11_bondOrNoTie σ r0 v10).bind fun v13 => some v13, (xgR σ r0 11 2).bind fun z7 => (xck σ z7 3).bind fun _ => (f_X3_tiePlace σ z7 x1 (1 : Int32)).bind fun v10 => (xck σ r0 11).bind fun _ => (f_X11_bondOrNoTie σ r0 v10).bind fun v13 => some v13, (xgR σ r0 11 3).bind fun z7 => (xgI σ z7 6 4).bind fun v9 => (f_X11_bitOf v9 x1).bind fun v11 => some v11, (xgR σ r0 11 2).bind fun z7 => (xgR σ r0 11 3).bind fun z9 => (xgR σ r0 11 3).bind fun z11 => (xgI σ z11 6 4).bind fun v13 => (xck σ z7 3).bind fun _ => (f_X3_costOfTurn σ z7 z9 v13 x1).bind fun v16 => some v16] (some (-100000 : Int32))
theorem s_X11_site_e {G : XG} (C : XC G cX11_site RX11 (some .int) 3 3 63) {σ : XS} {r0 : Nat} {x1 : Int32} {x2 : Int32} {x : Int32} (hf : f_X11_site σ r0 x1 x2 = some x) (hk : XEnd G (some (.int x)) σ) : WW G 0 [(0, .ref (gB G + r0)), (1, .int x1), (2, .int x2)] [] σ := by
  refine ww_aload_n (pc := 0) C 0 dX11_site_0 rfl ?_
  obtain ⟨z2, e1, hf⟩ := xbd hf
  refine gf_X11_24 (pc := 1) C e1 dX11_site_1 ?_
  refine ww_iload_n (pc := 4) C 1 dX11_site_4 rfl ?_
  obtain ⟨_, e3, hf⟩ := xbd hf
  obtain ⟨v5, e4, hf⟩ := xbd hf
  refine ww_callVi (pc := 5) (as := [.int x1]) (st := []) C (k_X3_hasSite (l := gl G) (E := gE G) (hb := gB G) (σ := σ) e4) rfl (by decide) xc_X11_176 q699 qp37 (xck_spec e3) rfl (by decide) (xst4 (Nat.le_of_ble_eq_true rfl)) xsame.rf.le xsame.rf.lim dX11_site_5 ?_
  refine ww_if_ne (pc := 8) (tgt := 14) C dX11_site_8 (by decide) (fun q => ?_) (fun q => ?_)
  · have hf := xin q hf
    refine ww_iload_n (pc := 14) C 2 dX11_site_14 rfl ?_
    refine ww_table (pc := 15) C dX11_site_15 (fun k hk1 hk2 => ?_) (fun ho => ?_)
    · rcases (by omega : k = 0 ∨ k = 1 ∨ k = 2 ∨ k = 3 ∨ k = 4 ∨ k = 5 ∨ k = 6 ∨ k = 7) with rfl | rfl | rfl | rfl | rfl | rfl | rfl | rfl
      · refine ⟨60, 45, rfl, by decide, ?_⟩
        have hf := xsw_in 0 hk1 rfl hf
        refine ww_aload_n (pc := 60) C 0 dX11_site_60 rfl ?_
        obtain ⟨z7, e6, hf⟩ := xbd hf
        refine gf_X11_24 (pc := 61) C e6 dX11_site_61 ?_
        refine ww_iload_n (pc := 64) C 1 dX11_site_64 rfl ?_
        obtain ⟨_, e8, hf⟩ := xbd hf
        obtain ⟨v10, e9, hf⟩ := xbd hf
        refine ww_callVi (pc := 65) (as := [.int x1]) (st := []) C (k_X3_rowOf (l := gl G) (E := gE G) (hb := gB G) (σ := σ) e9) rfl (by decide) xc_X11_227 q804 qp49 (xck_spec e8) rfl (by decide) (xst4 (Nat.le_of_ble_eq_true rfl)) xsame.rf.le xsame.rf.lim dX11_site_65 ?_
        have hf := xsj hf
        subst hf
        exact ww_iret (pc := 68) C hk dX11_site_68
      · refine ⟨69, 54, rfl, by decide, ?_⟩
        have hf := xsw_in 1 hk1 rfl hf
        refine ww_aload_n (pc := 69) C 0 dX11_site_69 rfl ?_
        obtain ⟨z7, e6, hf⟩ := xbd hf
        refine gf_X11_24 (pc := 70) C e6 dX11_site_70 ?_
        refine ww_iload_n (pc := 73) C 1 dX11_site_73 rfl ?_
        obtain ⟨_, e8, hf⟩ := xbd hf
        obtain ⟨v10, e9, hf⟩ := xbd hf
        refine ww_callVi (pc := 74) (as := [.int x1]) (st := []) C (k_X3_columnOf (l := gl G) (E := gE G) (hb := gB G) (σ := σ) e9) rfl (by decide) xc_X11_230 q808 qp50 (xck_spec e8) rfl (by decide) (xst4 (Nat.le_of_ble_eq_true rfl)) xsame.rf.le xsame.rf.lim dX11_site_74 ?_
        have hf := xsj hf
        subst hf
        exact ww_iret (pc := 77) C hk dX11_site_77
      · refine ⟨78, 63, rfl, by decide, ?_⟩
        have hf := xsw_in 2 hk1 rfl hf
        refine ww_aload_n (pc := 78) C 0 dX11_site_78 rfl ?_
        obtain ⟨z7, e6, hf⟩ := xbd hf
        refine gf_X11_31 (pc := 79) C e6 dX11_site_79 ?_
        refine ww_iload_n (pc := 82) C 1 dX11_site_82 rfl ?_
        obtain ⟨_, e8, hf⟩ := xbd hf
        obtain ⟨v10, e9, hf⟩ := xbd hf
        refine ww_callVi (pc := 83) (as := [.int x1]) (st := []) C (k_X6_fieldAt (l := gl G) (E := gE G) (hb := gB G) (σ := σ) e9) rfl (by decide) xc_X11_179 q728 qp41 (xck_spec e8) rfl (by decide) (xst4 (Nat.le_of_ble_eq_true rfl)) xsame.rf.le xsame.rf.lim dX11_site_83 ?_
        have hf := xsj hf
        subst hf
        exact ww_iret (pc := 86) C hk dX11_site_86
      · refine ⟨87, 72, rfl, by decide, ?_⟩
        have hf := xsw_in 3 hk1 rfl hf
        refine ww_aload_n (pc := 87) C 0 dX11_site_87 rfl ?_
        obtain ⟨z7, e6, hf⟩ := xbd hf
        refine gf_X11_31 (pc := 88) C e6 dX11_site_88 ?_
        refine ww_iload_n (pc := 91) C 1 dX11_site_91 rfl ?_
        obtain ⟨_, e8, hf⟩ := xbd hf
        obtain ⟨v10, e9, hf⟩ := xbd hf
        refine ww_callVi (pc := 92) (as := [.int x1]) (st := []) C (k_X6_pinAt (l := gl G) (E := gE G) (hb := gB G) (σ := σ) e9) rfl (by decide) xc_X11_185 q737 qp42 (xck_spec e8) rfl (by decide) (xst4 (Nat.le_of_ble_eq_true rfl)) xsame.rf.le xsame.rf.lim dX11_site_92 ?_
        have hf := xsj hf
        subst hf
        exact ww_iret (pc := 95) C hk dX11_site_95
      · refine ⟨96, 81, rfl, by decide, ?_⟩
        have hf := xsw_in 4 hk1 rfl hf
        refine ww_aload_n (pc := 96) C 0 dX11_site_96 rfl ?_
        refine ww_aload_n (pc := 97) C 0 dX11_site_97 rfl ?_
        obtain ⟨z7, e6, hf⟩ := xbd hf
        refine gf_X11_24 (pc := 98) C e6 dX11_site_98 ?_
        refine ww_iload_n (pc := 101) C 1 dX11_site_101 rfl ?_
        refine ww_iconst (pc := 102) (v := (0 : Int32)) C dX11_site_102 (by decide) ?_
        obtain ⟨_, e8, hf⟩ := xbd hf
        obtain ⟨v10, e9, hf⟩ := xbd hf
        refine ww_callVi (pc := 103) (as := [.int x1, .int (0 : Int32)]) (st := [.ref (gB G + r0)]) C (k_X3_tiePlace (l := gl G) (E := gE G) (hb := gB G) (σ := σ) e9) rfl (by decide) xc_X11_157 q695 qp36 (xck_spec e8) rfl (by decide) (xst4 (Nat.le_of_ble_eq_true rfl)) xsame.rf.le xsame.rf.lim dX11_site_103 ?_
        obtain ⟨_, e11, hf⟩ := xbd hf
        obtain ⟨v13, e12, hf⟩ := xbd hf
        refine ww_callVi (pc := 106) (as := [.int v10]) (st := []) C (k_X11_bondOrNoTie (l := gl G) (E := gE G) (hb := gB G) (σ := σ) e12) rfl (by decide) xc_X11_233 q812 qp51 (xck_spec e11) rfl (by decide) (xst4 (Nat.le_of_ble_eq_true rfl)) xsame.rf.le xsame.rf.lim dX11_site_106 ?_
        have hf := xsj hf
        subst hf
        exact ww_iret (pc := 109) C hk dX11_site_109
      · refine ⟨110, 95, rfl, by decide, ?_⟩
        have hf := xsw_in 5 hk1 rfl hf
        refine ww_aload_n (pc := 110) C 0 dX11_site_110 rfl ?_
        refine ww_aload_n (pc := 111) C 0 dX11_site_111 rfl ?_
        obtain ⟨z7, e6, hf⟩ := xbd hf
        refine gf_X11_24 (pc := 112) C e6 dX11_site_112 ?_
        refine ww_iload_n (pc := 115) C 1 dX11_site_115 rfl ?_
        refine ww_iconst (pc := 116) (v := (1 : Int32)) C dX11_site_116 (by decide) ?_
        obtain ⟨_, e8, hf⟩ := xbd hf
        obtain ⟨v10, e9, hf⟩ := xbd hf
        refine ww_callVi (pc := 117) (as := [.int x1, .int (1 : Int32)]) (st := [.ref (gB G + r0)]) C (k_X3_tiePlace (l := gl G) (E := gE G) (hb := gB G) (σ := σ) e9) rfl (by decide) xc_X11_157 q695 qp36 (xck_spec e8) rfl (by decide) (xst4 (Nat.le_of_ble_eq_true rfl)) xsame.rf.le xsame.rf.lim dX11_site_117 ?_
        obtain ⟨_, e11, hf⟩ := xbd hf
        obtain ⟨v13, e12, hf⟩ := xbd hf
        refine ww_callVi (pc := 120) (as := [.int v10]) (st := []) C (k_X11_bondOrNoTie (l := gl G) (E := gE G) (hb := gB G) (σ := σ) e12) rfl (by decide) xc_X11_233 q812 qp51 (xck_spec e11) rfl (by decide) (xst4 (Nat.le_of_ble_eq_true rfl)) xsame.rf.le xsame.rf.lim dX11_site_120 ?_
        have hf := xsj hf
        subst hf
        exact ww_iret (pc := 123) C hk dX11_site_123
      · refine ⟨124, 109, rfl, by decide, ?_⟩
        have hf := xsw_in 6 hk1 rfl hf
        refine ww_aload_n (pc := 124) C 0 dX11_site_124 rfl ?_
        obtain ⟨z7, e6, hf⟩ := xbd hf
        refine gf_X11_31 (pc := 125) C e6 dX11_site_125 ?_
        obtain ⟨v9, e8, hf⟩ := xbd hf
        refine gf_X11_144 (pc := 128) C e8 dX11_site_128 ?_
        refine ww_iload_n (pc := 131) C 1 dX11_site_131 rfl ?_
        obtain ⟨v11, e10, hf⟩ := xbd hf
        refine ww_callSi (pc := 132) (as := [.int v9, .int x1]) (st := []) C (k_X11_bitOf (l := gl G) (E := gE G) (hb := gB G) (σ := σ) e10) xc_X11_236 q655 rfl (by decide) (xst4 (Nat.le_of_ble_eq_true rfl)) xsame.rf.le xsame.rf.lim dX11_site_132 ?_
        have hf := xsj hf
        subst hf
        exact ww_iret (pc := 135) C hk dX11_site_135
      · refine ⟨136, 121, rfl, by decide, ?_⟩
        have hf := xsw_in 7 hk1 rfl hf
        refine ww_aload_n (pc := 136) C 0 dX11_site_136 rfl ?_
        obtain ⟨z7, e6, hf⟩ := xbd hf
        refine gf_X11_24 (pc := 137) C e6 dX11_site_137 ?_
        refine ww_aload_n (pc := 140) C 0 dX11_site_140 rfl ?_
        obtain ⟨z9, e8, hf⟩ := xbd hf
        refine gf_X11_31 (pc := 141) C e8 dX11_site_141 ?_
        refine ww_aload_n (pc := 144) C 0 dX11_site_144 rfl ?_
        obtain ⟨z11, e10, hf⟩ := xbd hf
        refine gf_X11_31 (pc := 145) C e10 dX11_site_145 ?_
        obtain ⟨v13, e12, hf⟩ := xbd hf
        refine gf_X11_144 (pc := 148) C e12 dX11_site_148 ?_
        refine ww_iload_n (pc := 151) C 1 dX11_site_151 rfl ?_
        obtain ⟨_, e14, hf⟩ := xbd hf
        obtain ⟨v16, e15, hf⟩ := xbd hf
        refine ww_callVi (pc := 152) (as := [.ref (gB G + z9), .int v13, .int x1]) (st := []) C (k_X3_costOfTurn (l := gl G) (E := gE G) (hb := gB G) (σ := σ) e15) rfl (by decide) xc_X11_240 q783 qp47 (xck_spec e14) rfl (by decide) (xst4 (Nat.le_of_ble_eq_true rfl)) xsame.rf.le xsame.rf.lim dX11_site_152 ?_
        have hf := xsj hf
        subst hf
        exact ww_iret (pc := 155) C hk dX11_site_155
    · refine ⟨156, by decide, ?_⟩
      have hf := xsw_out ho rfl hf
      refine ww_ldc (pc := 156) C q801 dX11_site_156 ?_
      have hf := xsj hf
      subst hf
      exact ww_iret (pc := 158) C hk dX11_site_158
  · have hf := xip q hf
    refine ww_ldc (pc := 11) C q801 dX11_site_11 ?_
    have hf := xsj hf
    subst hf
    exact ww_iret (pc := 13) C hk dX11_site_13
theorem k_X11_site {l : Launch} {E : XD} {hb : Nat} {σ : XS} {r0 : Nat} {x1 : Int32} {x2 : Int32} {x : Int32} (h : f_X11_site σ r0 x1 x2 = some x) : XM l yX11_site cX11_site 3 (some .int) 3 63 E hb [.ref (hb + r0), .int x1, .int x2] σ (some (.int x)) σ := by
  refine xm_of (by decide) (Nat.le_of_ble_eq_true rfl) ⟨Nat.le_refl _, Nat.le_refl _⟩ (fun G hG C hl hQ => ?_)
  obtain ⟨rfl, rfl, rfl, hN⟩ := hG
  exact s_X11_site_e C h hQ
noncomputable def f_X11_square (σ : XS) (r0 : Nat) (x1 : Int32) : Option Int32 := (xgR σ r0 11 2).bind fun z2 => (xck σ z2 3).bind fun _ => (f_X3_hasSite σ z2 x1).bind fun v5 => if v5 = 0 then (some (-1 : Int32)) else (xgR σ r0 11 2).bind fun z7 => (xgR σ r0 11 3).bind fun z9 => (xck σ z7 3).bind fun _ => (f_X3_squareOf σ z7 z9 x1).bind fun v12 => some v12
theorem s_X11_square_e {G : XG} (C : XC G cX11_square RX11 (some .int) 2 2 46) {σ : XS} {r0 : Nat} {x1 : Int32} {x : Int32} (hf : f_X11_square σ r0 x1 = some x) (hk : XEnd G (some (.int x)) σ) : WW G 0 [(0, .ref (gB G + r0)), (1, .int x1)] [] σ := by
  refine ww_aload_n (pc := 0) C 0 dX11_square_0 rfl ?_
  obtain ⟨z2, e1, hf⟩ := xbd hf
  refine gf_X11_24 (pc := 1) C e1 dX11_square_1 ?_
  refine ww_iload_n (pc := 4) C 1 dX11_square_4 rfl ?_
  obtain ⟨_, e3, hf⟩ := xbd hf
  obtain ⟨v5, e4, hf⟩ := xbd hf
  refine ww_callVi (pc := 5) (as := [.int x1]) (st := []) C (k_X3_hasSite (l := gl G) (E := gE G) (hb := gB G) (σ := σ) e4) rfl (by decide) xc_X11_176 q699 qp37 (xck_spec e3) rfl (by decide) (xst4 (Nat.le_of_ble_eq_true rfl)) xsame.rf.le xsame.rf.lim dX11_square_5 ?_
  refine ww_if_ne (pc := 8) (tgt := 13) C dX11_square_8 (by decide) (fun q => ?_) (fun q => ?_)
  · have hf := xin q hf
    refine ww_aload_n (pc := 13) C 0 dX11_square_13 rfl ?_
    obtain ⟨z7, e6, hf⟩ := xbd hf
    refine gf_X11_24 (pc := 14) C e6 dX11_square_14 ?_
    refine ww_aload_n (pc := 17) C 0 dX11_square_17 rfl ?_
    obtain ⟨z9, e8, hf⟩ := xbd hf
    refine gf_X11_31 (pc := 18) C e8 dX11_square_18 ?_
    refine ww_iload_n (pc := 21) C 1 dX11_square_21 rfl ?_
    obtain ⟨_, e10, hf⟩ := xbd hf
    obtain ⟨v12, e11, hf⟩ := xbd hf
    refine ww_callVi (pc := 22) (as := [.ref (gB G + z9), .int x1]) (st := []) C (k_X3_squareOf (l := gl G) (E := gE G) (hb := gB G) (σ := σ) e11) rfl (by decide) xc_X11_244 q822 qp52 (xck_spec e10) rfl (by decide) (xst4 (Nat.le_of_ble_eq_true rfl)) xsame.rf.le xsame.rf.lim dX11_square_22 ?_
    have hf := xsj hf
    subst hf
    exact ww_iret (pc := 25) C hk dX11_square_25
  · have hf := xip q hf
    refine ww_iconst (pc := 11) (v := (-1 : Int32)) C dX11_square_11 (by decide) ?_
    have hf := xsj hf
    subst hf
    exact ww_iret (pc := 12) C hk dX11_square_12
theorem k_X11_square {l : Launch} {E : XD} {hb : Nat} {σ : XS} {r0 : Nat} {x1 : Int32} {x : Int32} (h : f_X11_square σ r0 x1 = some x) : XM l yX11_square cX11_square 2 (some .int) 2 46 E hb [.ref (hb + r0), .int x1] σ (some (.int x)) σ := by
  refine xm_of (by decide) (Nat.le_of_ble_eq_true rfl) ⟨Nat.le_refl _, Nat.le_refl _⟩ (fun G hG C hl hQ => ?_)
  obtain ⟨rfl, rfl, rfl, hN⟩ := hG
  exact s_X11_square_e C h hQ
noncomputable def f_X3_brokenOf_j52 (σ : XS) (r0 : Nat) (r1 : Nat) (x2 : Int32) (x3 : Int32) (x4 : Int32) (t0 : Int32) (t1 : Int32) : Option ((Int32 × Int32) ⊕ (Int32)) := if t0 = t1 then (some (.inl (x3 + (1 : Int32), x4 + (1 : Int32)))) else some (.inl (x3, x4 + (1 : Int32)))
noncomputable def f_X3_brokenOf_b5 (σ : XS) (r0 : Nat) (r1 : Nat) (x2 : Int32) : Int32 × Int32 → Option ((Int32 × Int32) ⊕ (Int32)) := fun a => match a with
  | (x3, x4) => if (32 : Int32) ≤ x4 then ((some x3).map .inr) else (xck σ r1 6).bind fun _ => (f_X6_bondAt σ r1 x4).bind fun v3 => (xck σ r0 3).bind fun _ => (f_X3_endAt σ r0 x4).bind fun v6 => if v6 = (-1 : Int32) then (some (.inl (x3, x4 + (1 : Int32)))) else if v3 = 0 then (some (.inl (x3, x4 + (1 : Int32)))) else (xck σ r0 3).bind fun _ => (f_X3_isAlike σ r0 x2 x4).bind fun v9 => if 0 ≤ v3 then (f_X3_brokenOf_j52 σ r0 r1 x2 x3 x4 v9 (0 : Int32)) else f_X3_brokenOf_j52 σ r0 r1 x2 x3 x4 v9 (1 : Int32)
noncomputable def f_X3_brokenOf (σ : XS) (r0 : Nat) (r1 : Nat) (x2 : Int32) : Option Int32 := xloop (f_X3_brokenOf_b5 σ r0 r1 x2) ((0 : Int32), (0 : Int32))
theorem s_X3_brokenOf_j52 {G : XG} (C : XC G cX3_brokenOf RX3 (some .int) 6 2 43) {σ : XS} {r0 : Nat} {r1 : Nat} {x2 : Int32} {x3 : Int32} {x4 : Int32} {t0 : Int32} {t1 : Int32} {x : ((Int32 × Int32) ⊕ (Int32))} (hf : f_X3_brokenOf_j52 σ r0 r1 x2 x3 x4 t0 t1 = some x) (hk : (∀ a' : Int32 × Int32, x = .inl a' → WW G 5 [(0, .ref (gB G + r0)), (1, .ref (gB G + r1)), (2, .int x2), (3, .int a'.1), (4, .int a'.2)] [] σ) ∧ (∀ b1 : Int32, x = .inr b1 → XEnd G (some (.int b1)) σ)) : WW G 52 [(0, .ref (gB G + r0)), (1, .ref (gB G + r1)), (2, .int x2), (3, .int x3), (4, .int x4)] [.int t1, .int t0] σ := by
  refine ww_icmp_ne (pc := 52) (tgt := 58) C dX3_brokenOf_52 (by decide) (fun q => ?_) (fun q => ?_)
  · have hf := xin q hf
    refine ww_iinc (pc := 58) (v := x4 + (1 : Int32)) (lv' := [(4, .int (x4 + (1 : Int32))), (0, .ref (gB G + r0)), (1, .ref (gB G + r1)), (2, .int x2), (3, .int x3)]) C 4 dX3_brokenOf_58 rfl (congrArg (fun z => x4 + z) (show Int32.ofInt (1) = (1 : Int32) by decide)) (by decide) rfl ?_
    refine ww_goto (pc := 61) (tgt := 5) C dX3_brokenOf_61 (by decide) ?_
    have hf := xsj hf
    subst hf
    refine ww_sub [1, 2, 3, 4, 0] rfl ?_
    exact hk.1 (x3, x4 + (1 : Int32)) rfl
  · have hf := xip q hf
    refine ww_iinc (pc := 55) (v := x3 + (1 : Int32)) (lv' := [(3, .int (x3 + (1 : Int32))), (0, .ref (gB G + r0)), (1, .ref (gB G + r1)), (2, .int x2), (4, .int x4)]) C 3 dX3_brokenOf_55 rfl (congrArg (fun z => x3 + z) (show Int32.ofInt (1) = (1 : Int32) by decide)) (by decide) rfl ?_
    refine ww_iinc (pc := 58) (v := x4 + (1 : Int32)) (lv' := [(4, .int (x4 + (1 : Int32))), (3, .int (x3 + (1 : Int32))), (0, .ref (gB G + r0)), (1, .ref (gB G + r1)), (2, .int x2)]) C 4 dX3_brokenOf_58 rfl (congrArg (fun z => x4 + z) (show Int32.ofInt (1) = (1 : Int32) by decide)) (by decide) rfl ?_
    refine ww_goto (pc := 61) (tgt := 5) C dX3_brokenOf_61 (by decide) ?_
    have hf := xsj hf
    subst hf
    refine ww_sub [2, 3, 4, 1, 0] rfl ?_
    exact hk.1 (x3 + (1 : Int32), x4 + (1 : Int32)) rfl
theorem s_X3_brokenOf_l5 {G : XG} (C : XC G cX3_brokenOf RX3 (some .int) 6 2 43) {σ : XS} {r0 : Nat} {r1 : Nat} {x2 : Int32} {a : Int32 × Int32} {x : Int32} (hf : xloop (f_X3_brokenOf_b5 σ r0 r1 x2) a = some x) (hk : XEnd G (some (.int x)) σ) : WW G 5 [(0, .ref (gB G + r0)), (1, .ref (gB G + r1)), (2, .int x2), (3, .int a.1), (4, .int a.2)] [] σ := by
  refine xloop_ind (P := fun a => WW G 5 [(0, .ref (gB G + r0)), (1, .ref (gB G + r1)), (2, .int x2), (3, .int a.1), (4, .int a.2)] [] σ) (fun a y hf hc he => ?_) hf
  obtain ⟨x3, x4⟩ := a
  have hk : (∀ a' : Int32 × Int32, y = .inl a' → WW G 5 [(0, .ref (gB G + r0)), (1, .ref (gB G + r1)), (2, .int x2), (3, .int a'.1), (4, .int a'.2)] [] σ) ∧ (∀ b1 : Int32, y = .inr b1 → XEnd G (some (.int b1)) σ) := ⟨hc, fun b e => by have h9 := he b e; subst h9; exact hk⟩
  refine ww_iload (pc := 5) C 4 dX3_brokenOf_5 rfl ?_
  refine ww_bipush (pc := 7) (v := (32 : Int32)) C dX3_brokenOf_7 (by decide) ?_
  refine ww_icmp_ge (pc := 9) (tgt := 64) C dX3_brokenOf_9 (by decide) (fun q => ?_) (fun q => ?_)
  · have hf := xip q hf
    obtain ⟨b0, hg, e9⟩ := xmj hf
    subst e9
    have hf := hg
    have hk := hk.2 _ rfl
    refine ww_iload_n (pc := 64) C 3 dX3_brokenOf_64 rfl ?_
    have hf := xsj hf
    subst hf
    exact ww_iret (pc := 65) C hk dX3_brokenOf_65
  · have hf := xin q hf
    refine ww_aload_n (pc := 12) C 1 dX3_brokenOf_12 rfl ?_
    refine ww_iload (pc := 13) C 4 dX3_brokenOf_13 rfl ?_
    obtain ⟨_, e1, hf⟩ := xbd hf
    obtain ⟨v3, e2, hf⟩ := xbd hf
    refine ww_callVi (pc := 15) (as := [.int x4]) (st := []) C (k_X6_bondAt (l := gl G) (E := gE G) (hb := gB G) (σ := σ) e2) rfl (by decide) xc_X3_70 q710 qp39 (xck_spec e1) rfl (by decide) (xst4 (Nat.le_of_ble_eq_true rfl)) xsame.rf.le xsame.rf.lim dX3_brokenOf_15 ?_
    refine ww_istore (pc := 18) (lv' := [(5, .int v3), (0, .ref (gB G + r0)), (1, .ref (gB G + r1)), (2, .int x2), (3, .int x3), (4, .int x4)]) C dX3_brokenOf_18 (by decide) rfl ?_
    refine ww_aload_n (pc := 20) C 1 dX3_brokenOf_20 rfl ?_
    refine ww_iload (pc := 21) C 5 dX3_brokenOf_21 rfl ?_
    obtain ⟨_, e4, hf⟩ := xbd hf
    obtain ⟨v6, e5, hf⟩ := xbd hf
    refine ww_callVi (pc := 23) (as := [.int x4]) (st := []) C (k_X3_endAt (l := gl G) (E := gE G) (hb := gB G) (σ := σ) e5) rfl (by decide) xc_X3_59 q703 qp38 (xck_spec e4) rfl (by decide) (xst4 (Nat.le_of_ble_eq_true rfl)) xsame.rf.le xsame.rf.lim dX3_brokenOf_23 ?_
    refine ww_iconst (pc := 26) (v := (-1 : Int32)) C dX3_brokenOf_26 (by decide) ?_
    refine ww_icmp_eq (pc := 27) (tgt := 58) C dX3_brokenOf_27 (by decide) (fun q => ?_) (fun q => ?_)
    · have hf := xip q hf
      refine ww_iinc (pc := 58) (v := x4 + (1 : Int32)) (lv' := [(4, .int (x4 + (1 : Int32))), (5, .int v3), (0, .ref (gB G + r0)), (1, .ref (gB G + r1)), (2, .int x2), (3, .int x3)]) C 5 dX3_brokenOf_58 rfl (congrArg (fun z => x4 + z) (show Int32.ofInt (1) = (1 : Int32) by decide)) (by decide) rfl ?_
      refine ww_goto (pc := 61) (tgt := 5) C dX3_brokenOf_61 (by decide) ?_
      have hf := xsj hf
      subst hf
      refine ww_sub [2, 3, 4, 5, 0] rfl ?_
      exact hk.1 (x3, x4 + (1 : Int32)) rfl
    · have hf := xin q hf
      refine ww_iload (pc := 30) C 0 dX3_brokenOf_30 rfl ?_
      refine ww_if_eq (pc := 32) (tgt := 58) C dX3_brokenOf_32 (by decide) (fun q => ?_) (fun q => ?_)
      · have hf := xip q hf
        refine ww_iinc (pc := 58) (v := x4 + (1 : Int32)) (lv' := [(4, .int (x4 + (1 : Int32))), (5, .int v3), (0, .ref (gB G + r0)), (1, .ref (gB G + r1)), (2, .int x2), (3, .int x3)]) C 5 dX3_brokenOf_58 rfl (congrArg (fun z => x4 + z) (show Int32.ofInt (1) = (1 : Int32) by decide)) (by decide) rfl ?_
        refine ww_goto (pc := 61) (tgt := 5) C dX3_brokenOf_61 (by decide) ?_
        have hf := xsj hf
        subst hf
        refine ww_sub [2, 3, 4, 5, 0] rfl ?_
        exact hk.1 (x3, x4 + (1 : Int32)) rfl
      · have hf := xin q hf
        refine ww_aload_n (pc := 35) C 1 dX3_brokenOf_35 rfl ?_
        refine ww_iload_n (pc := 36) C 3 dX3_brokenOf_36 rfl ?_
        refine ww_iload (pc := 37) C 5 dX3_brokenOf_37 rfl ?_
        obtain ⟨_, e7, hf⟩ := xbd hf
        obtain ⟨v9, e8, hf⟩ := xbd hf
        refine ww_callVi (pc := 39) (as := [.int x2, .int x4]) (st := []) C (k_X3_isAlike (l := gl G) (E := gE G) (hb := gB G) (σ := σ) e8) rfl (by decide) xc_X3_66 q838 qp55 (xck_spec e7) rfl (by decide) (xst4 (Nat.le_of_ble_eq_true rfl)) xsame.rf.le xsame.rf.lim dX3_brokenOf_39 ?_
        refine ww_iload (pc := 42) C 0 dX3_brokenOf_42 rfl ?_
        refine ww_if_ge (pc := 44) (tgt := 51) C dX3_brokenOf_44 (by decide) (fun q => ?_) (fun q => ?_)
        · have hf := xip q hf
          refine ww_iconst (pc := 51) (v := (0 : Int32)) C dX3_brokenOf_51 (by decide) ?_
          refine ww_sub [1, 2, 3, 4, 5] rfl ?_
          exact s_X3_brokenOf_j52 C hf hk
        · have hf := xin q hf
          refine ww_iconst (pc := 47) (v := (1 : Int32)) C dX3_brokenOf_47 (by decide) ?_
          refine ww_goto (pc := 48) (tgt := 52) C dX3_brokenOf_48 (by decide) ?_
          refine ww_sub [1, 2, 3, 4, 5] rfl ?_
          exact s_X3_brokenOf_j52 C hf hk
theorem s_X3_brokenOf_e {G : XG} (C : XC G cX3_brokenOf RX3 (some .int) 6 2 43) {σ : XS} {r0 : Nat} {r1 : Nat} {x2 : Int32} {x : Int32} (hf : f_X3_brokenOf σ r0 r1 x2 = some x) (hk : XEnd G (some (.int x)) σ) : WW G 0 [(0, .ref (gB G + r0)), (1, .ref (gB G + r1)), (2, .int x2)] [] σ := by
  refine ww_iconst (pc := 0) (v := (0 : Int32)) C dX3_brokenOf_0 (by decide) ?_
  refine ww_istore_n (pc := 1) (lv' := [(3, .int (0 : Int32)), (0, .ref (gB G + r0)), (1, .ref (gB G + r1)), (2, .int x2)]) C dX3_brokenOf_1 (by decide) rfl ?_
  refine ww_iconst (pc := 2) (v := (0 : Int32)) C dX3_brokenOf_2 (by decide) ?_
  refine ww_istore (pc := 3) (lv' := [(4, .int (0 : Int32)), (3, .int (0 : Int32)), (0, .ref (gB G + r0)), (1, .ref (gB G + r1)), (2, .int x2)]) C dX3_brokenOf_3 (by decide) rfl ?_
  refine ww_sub [2, 3, 4, 1, 0] rfl ?_
  exact s_X3_brokenOf_l5 C (a := ((0 : Int32), (0 : Int32))) hf hk
theorem k_X3_brokenOf {l : Launch} {E : XD} {hb : Nat} {σ : XS} {r0 : Nat} {r1 : Nat} {x2 : Int32} {x : Int32} (h : f_X3_brokenOf σ r0 r1 x2 = some x) : XM l yX3_brokenOf cX3_brokenOf 6 (some .int) 2 43 E hb [.ref (hb + r0), .ref (hb + r1), .int x2] σ (some (.int x)) σ := by
  refine xm_of (by decide) (Nat.le_of_ble_eq_true rfl) ⟨Nat.le_refl _, Nat.le_refl _⟩ (fun G hG C hl hQ => ?_)
  obtain ⟨rfl, rfl, rfl, hN⟩ := hG
  exact s_X3_brokenOf_e C h hQ
noncomputable def f_X4_numberOf_b2 (σ : XS) (r0 : Nat) (x1 : Int32) : Int32 → Option ((Int32) ⊕ (Int32)) := fun a => match a with
  | x2 => (xgI σ r0 4 4).bind fun v2 => if v2 ≤ x2 then ((some (-100000 : Int32)).map .inr) else (xgR σ r0 4 3).bind fun z4 => (xal σ z4).bind fun v6 => if v6 ≤ x2 then ((some (-100000 : Int32)).map .inr) else (xgR σ r0 4 3).bind fun z8 => (xaI σ 20 z8 x2).bind fun v10 => if v10 = x1 then ((some x2).map .inr) else some (.inl (x2 + (1 : Int32)))
noncomputable def f_X4_numberOf (σ : XS) (r0 : Nat) (x1 : Int32) : Option Int32 := xloop (f_X4_numberOf_b2 σ r0 x1) (0 : Int32)
theorem s_X4_numberOf_l2 {G : XG} (C : XC G cX4_numberOf RX4 (some .int) 3 0 0) {σ : XS} {r0 : Nat} {x1 : Int32} {a : Int32} {x : Int32} (hf : xloop (f_X4_numberOf_b2 σ r0 x1) a = some x) (hk : XEnd G (some (.int x)) σ) : WW G 2 [(0, .ref (gB G + r0)), (1, .int x1), (2, .int a)] [] σ := by
  refine xloop_ind (P := fun a => WW G 2 [(0, .ref (gB G + r0)), (1, .int x1), (2, .int a)] [] σ) (fun a y hf hc he => ?_) hf
  obtain ⟨x2, rfl⟩ : ∃ z, z = a := ⟨_, rfl⟩
  have hk : (∀ a' : Int32, y = .inl a' → WW G 2 [(0, .ref (gB G + r0)), (1, .int x1), (2, .int a')] [] σ) ∧ (∀ b1 : Int32, y = .inr b1 → XEnd G (some (.int b1)) σ) := ⟨hc, fun b e => by have h9 := he b e; subst h9; exact hk⟩
  refine ww_iload_n (pc := 2) C 2 dX4_numberOf_2 rfl ?_
  refine ww_aload_n (pc := 3) C 0 dX4_numberOf_3 rfl ?_
  obtain ⟨v2, e1, hf⟩ := xbd hf
  refine gf_X4_54 (pc := 4) C e1 dX4_numberOf_4 ?_
  refine ww_icmp_ge (pc := 7) (tgt := 37) C dX4_numberOf_7 (by decide) (fun q => ?_) (fun q => ?_)
  · have hf := xip q hf
    obtain ⟨b0, hg, e9⟩ := xmj hf
    subst e9
    have hf := hg
    have hk := hk.2 _ rfl
    refine ww_ldc (pc := 37) C q923 dX4_numberOf_37 ?_
    have hf := xsj hf
    subst hf
    exact ww_iret (pc := 39) C hk dX4_numberOf_39
  · have hf := xin q hf
    refine ww_iload_n (pc := 10) C 2 dX4_numberOf_10 rfl ?_
    refine ww_aload_n (pc := 11) C 0 dX4_numberOf_11 rfl ?_
    obtain ⟨z4, e3, hf⟩ := xbd hf
    refine gf_X4_21 (pc := 12) C e3 dX4_numberOf_12 ?_
    obtain ⟨v6, e5, hf⟩ := xbd hf
    refine ww_alen (pc := 15) C e5 dX4_numberOf_15 ?_
    refine ww_icmp_ge (pc := 16) (tgt := 37) C dX4_numberOf_16 (by decide) (fun q => ?_) (fun q => ?_)
    · have hf := xip q hf
      obtain ⟨b0, hg, e9⟩ := xmj hf
      subst e9
      have hf := hg
      have hk := hk.2 _ rfl
      refine ww_ldc (pc := 37) C q923 dX4_numberOf_37 ?_
      have hf := xsj hf
      subst hf
      exact ww_iret (pc := 39) C hk dX4_numberOf_39
    · have hf := xin q hf
      refine ww_aload_n (pc := 19) C 0 dX4_numberOf_19 rfl ?_
      obtain ⟨z8, e7, hf⟩ := xbd hf
      refine gf_X4_21 (pc := 20) C e7 dX4_numberOf_20 ?_
      refine ww_iload_n (pc := 23) C 2 dX4_numberOf_23 rfl ?_
      obtain ⟨v10, e9, hf⟩ := xbd hf
      refine ww_iald (pc := 24) C e9 dX4_numberOf_24 ?_
      refine ww_iload_n (pc := 25) C 1 dX4_numberOf_25 rfl ?_
      refine ww_icmp_ne (pc := 26) (tgt := 31) C dX4_numberOf_26 (by decide) (fun q => ?_) (fun q => ?_)
      · have hf := xin q hf
        refine ww_iinc (pc := 31) (v := x2 + (1 : Int32)) (lv' := [(2, .int (x2 + (1 : Int32))), (0, .ref (gB G + r0)), (1, .int x1)]) C 2 dX4_numberOf_31 rfl (congrArg (fun z => x2 + z) (show Int32.ofInt (1) = (1 : Int32) by decide)) (by decide) rfl ?_
        refine ww_goto (pc := 34) (tgt := 2) C dX4_numberOf_34 (by decide) ?_
        have hf := xsj hf
        subst hf
        refine ww_sub [1, 2, 0] rfl ?_
        exact hk.1 (x2 + (1 : Int32)) rfl
      · have hf := xip q hf
        obtain ⟨b0, hg, e9⟩ := xmj hf
        subst e9
        have hf := hg
        have hk := hk.2 _ rfl
        refine ww_iload_n (pc := 29) C 2 dX4_numberOf_29 rfl ?_
        have hf := xsj hf
        subst hf
        exact ww_iret (pc := 30) C hk dX4_numberOf_30
theorem s_X4_numberOf_e {G : XG} (C : XC G cX4_numberOf RX4 (some .int) 3 0 0) {σ : XS} {r0 : Nat} {x1 : Int32} {x : Int32} (hf : f_X4_numberOf σ r0 x1 = some x) (hk : XEnd G (some (.int x)) σ) : WW G 0 [(0, .ref (gB G + r0)), (1, .int x1)] [] σ := by
  refine ww_iconst (pc := 0) (v := (0 : Int32)) C dX4_numberOf_0 (by decide) ?_
  refine ww_istore_n (pc := 1) (lv' := [(2, .int (0 : Int32)), (0, .ref (gB G + r0)), (1, .int x1)]) C dX4_numberOf_1 (by decide) rfl ?_
  refine ww_sub [1, 2, 0] rfl ?_
  exact s_X4_numberOf_l2 C (a := (0 : Int32)) hf hk
theorem k_X4_numberOf {l : Launch} {E : XD} {hb : Nat} {σ : XS} {r0 : Nat} {x1 : Int32} {x : Int32} (h : f_X4_numberOf σ r0 x1 = some x) : XM l yX4_numberOf cX4_numberOf 3 (some .int) 0 0 E hb [.ref (hb + r0), .int x1] σ (some (.int x)) σ := by
  refine xm_of (by decide) (Nat.le_of_ble_eq_true rfl) ⟨Nat.le_refl _, Nat.le_refl _⟩ (fun G hG C hl hQ => ?_)
  obtain ⟨rfl, rfl, rfl, hN⟩ := hG
  exact s_X4_numberOf_e C h hQ
noncomputable def f_X11_state_j152 (σ : XS) (r0 : Nat) (x1 : Int32) (t0 : Nat) : Option (Int32 × XS) := (xgR σ r0 11 2).bind fun z2 => (xgR σ r0 11 3).bind fun z4 => (xck σ z2 3).bind fun _ => (f_X3_energyOf σ z2 z4 x1).bind fun v7 => (xck σ t0 4).bind fun _ => (f_X4_numberOf σ t0 v7).bind fun v10 => some (v10, σ)
noncomputable def f_X11_state (σ : XS) (r0 : Nat) (x1 : Int32) (x2 : Int32) : Option (Int32 × XS) := (xck σ r0 11).bind fun _ => (f_X11_isLawful σ r0 x1).bind fun v3 => if v3 = 0 then (some ((-100000 : Int32), σ)) else xsw x2 (0) [(xgR σ r0 11 2).bind fun z5 => (xgR σ r0 11 3).bind fun z7 => (xck σ z5 3).bind fun _ => (f_X3_energyOf σ z5 z7 x1).bind fun v10 => some (v10, σ), (xgR σ r0 11 2).bind fun z5 => (xgR σ r0 11 3).bind fun z7 => (xck σ z5 3).bind fun _ => (f_X3_brokenOf σ z5 z7 x1).bind fun v10 => some (v10, σ), (xgR σ r0 11 2).bind fun z5 => (xgR σ r0 11 3).bind fun z7 => (xck σ z5 3).bind fun _ => (f_X3_steepest σ z5 z7 x1).bind fun v10 => if v10 = (-1 : Int32) then (some ((1 : Int32), σ)) else some ((0 : Int32), σ), (xgR σ r0 11 11).bind fun z5 => (xgR σ r0 11 2).bind fun z7 => (xgR σ r0 11 3).bind fun z9 => (xck σ z5 10).bind fun _ => (f_X10_fallFrom σ z5 z7 z9 x1).bind fun σ12 => (xgR σ12 r0 11 11).bind fun z14 => (xgI σ12 z14 10 0).bind fun v16 => some (v16, σ12), (xgR σ r0 11 11).bind fun z5 => (xgR σ r0 11 2).bind fun z7 => (xgR σ r0 11 3).bind fun z9 => (xck σ z5 10).bind fun _ => (f_X10_fallFrom σ z5 z7 z9 x1).bind fun σ12 => (xgR σ12 r0 11 11).bind fun z14 => (xgI σ12 z14 10 1).bind fun v16 => some (v16, σ12), (xck σ r0 11).bind fun _ => (f_X11_levelsNow σ r0).bind fun (z7, σ6) => (xnz z7).bind fun _ => f_X11_state_j152 σ6 r0 x1 z7] (some ((-100000 : Int32), σ))
theorem s_X11_state_j152 {G : XG} (C : XC G cX11_state RX11 (some .int) 3 5 115) {σ : XS} {r0 : Nat} {x1 : Int32} {t0 : Nat} {x : Int32 × XS} (hf : f_X11_state_j152 σ r0 x1 t0 = some x) (hk : XEnd G (some (.int x.1)) x.2 ∧ XUp G x.2) : WW G 152 [(0, .ref (gB G + r0)), (1, .int x1)] [.ref (gB G + t0)] σ := by
  refine ww_aload_n (pc := 152) C 0 dX11_state_152 rfl ?_
  obtain ⟨z2, e1, hf⟩ := xbd hf
  refine gf_X11_24 (pc := 153) C e1 dX11_state_153 ?_
  refine ww_aload_n (pc := 156) C 0 dX11_state_156 rfl ?_
  obtain ⟨z4, e3, hf⟩ := xbd hf
  refine gf_X11_31 (pc := 157) C e3 dX11_state_157 ?_
  refine ww_iload_n (pc := 160) C 1 dX11_state_160 rfl ?_
  obtain ⟨_, e5, hf⟩ := xbd hf
  obtain ⟨v7, e6, hf⟩ := xbd hf
  refine ww_callVi (pc := 161) (as := [.ref (gB G + z4), .int x1]) (st := [.ref (gB G + t0)]) C (k_X3_energyOf (l := gl G) (E := gE G) (hb := gB G) (σ := σ) e6) rfl (by decide) xc_X11_387 q1071 qp89 (xck_spec e5) rfl (by decide) (xst4 (Nat.le_of_ble_eq_true rfl)) xsame.rf.le xsame.rf.lim dX11_state_161 ?_
  obtain ⟨_, e8, hf⟩ := xbd hf
  obtain ⟨v10, e9, hf⟩ := xbd hf
  refine ww_callVi (pc := 164) (as := [.int v7]) (st := []) C (k_X4_numberOf (l := gl G) (E := gE G) (hb := gB G) (σ := σ) e9) rfl (by decide) xc_X11_395 q1080 qp91 (xck_spec e8) rfl (by decide) (xst4 (Nat.le_of_ble_eq_true rfl)) xsame.rf.le xsame.rf.lim dX11_state_164 ?_
  have hf := xsj hf
  subst hf
  exact ww_iret (pc := 167) C hk.1 dX11_state_167
theorem m_X11_state_j152 {σ : XS} {r0 : Nat} {x1 : Int32} {t0 : Nat} {x : Int32 × XS} (hf : f_X11_state_j152 σ r0 x1 t0 = some x) : xext σ x.2 := by
  have hm := xext.rf (σ := σ)
  obtain ⟨z2, e1, hf⟩ := xbd hf
  obtain ⟨z4, e3, hf⟩ := xbd hf
  obtain ⟨_, e5, hf⟩ := xbd hf
  obtain ⟨v7, e6, hf⟩ := xbd hf
  obtain ⟨_, e8, hf⟩ := xbd hf
  obtain ⟨v10, e9, hf⟩ := xbd hf
  have hf := xsj hf
  subst hf
  exact hm
theorem s_X11_state_e {G : XG} (C : XC G cX11_state RX11 (some .int) 3 5 115) {σ : XS} {r0 : Nat} {x1 : Int32} {x2 : Int32} {x : Int32 × XS} (hf : f_X11_state σ r0 x1 x2 = some x) (hk : XEnd G (some (.int x.1)) x.2 ∧ XUp G x.2) : WW G 0 [(0, .ref (gB G + r0)), (1, .int x1), (2, .int x2)] [] σ := by
  refine ww_aload_n (pc := 0) C 0 dX11_state_0 rfl ?_
  refine ww_iload_n (pc := 1) C 1 dX11_state_1 rfl ?_
  obtain ⟨_, e1, hf⟩ := xbd hf
  obtain ⟨v3, e2, hf⟩ := xbd hf
  refine ww_callVi (pc := 2) (as := [.int x1]) (st := []) C (k_X11_isLawful (l := gl G) (E := gE G) (hb := gB G) (σ := σ) e2) rfl (by decide) xc_X11_384 q1067 qp88 (xck_spec e1) rfl (by decide) (xst4 (Nat.le_of_ble_eq_true rfl)) xsame.rf.le xsame.rf.lim dX11_state_2 ?_
  refine ww_if_ne (pc := 5) (tgt := 11) C dX11_state_5 (by decide) (fun q => ?_) (fun q => ?_)
  · have hf := xin q hf
    refine ww_iload_n (pc := 11) C 2 dX11_state_11 rfl ?_
    refine ww_table (pc := 12) C dX11_state_12 (fun k hk1 hk2 => ?_) (fun ho => ?_)
    · rcases (by omega : k = 0 ∨ k = 1 ∨ k = 2 ∨ k = 3 ∨ k = 4 ∨ k = 5) with rfl | rfl | rfl | rfl | rfl | rfl
      · refine ⟨52, 40, rfl, by decide, ?_⟩
        have hf := xsw_in 0 hk1 rfl hf
        refine ww_aload_n (pc := 52) C 0 dX11_state_52 rfl ?_
        obtain ⟨z5, e4, hf⟩ := xbd hf
        refine gf_X11_24 (pc := 53) C e4 dX11_state_53 ?_
        refine ww_aload_n (pc := 56) C 0 dX11_state_56 rfl ?_
        obtain ⟨z7, e6, hf⟩ := xbd hf
        refine gf_X11_31 (pc := 57) C e6 dX11_state_57 ?_
        refine ww_iload_n (pc := 60) C 1 dX11_state_60 rfl ?_
        obtain ⟨_, e8, hf⟩ := xbd hf
        obtain ⟨v10, e9, hf⟩ := xbd hf
        refine ww_callVi (pc := 61) (as := [.ref (gB G + z7), .int x1]) (st := []) C (k_X3_energyOf (l := gl G) (E := gE G) (hb := gB G) (σ := σ) e9) rfl (by decide) xc_X11_387 q1071 qp89 (xck_spec e8) rfl (by decide) (xst4 (Nat.le_of_ble_eq_true rfl)) xsame.rf.le xsame.rf.lim dX11_state_61 ?_
        have hf := xsj hf
        subst hf
        exact ww_iret (pc := 64) C hk.1 dX11_state_64
      · refine ⟨65, 53, rfl, by decide, ?_⟩
        have hf := xsw_in 1 hk1 rfl hf
        refine ww_aload_n (pc := 65) C 0 dX11_state_65 rfl ?_
        obtain ⟨z5, e4, hf⟩ := xbd hf
        refine gf_X11_24 (pc := 66) C e4 dX11_state_66 ?_
        refine ww_aload_n (pc := 69) C 0 dX11_state_69 rfl ?_
        obtain ⟨z7, e6, hf⟩ := xbd hf
        refine gf_X11_31 (pc := 70) C e6 dX11_state_70 ?_
        refine ww_iload_n (pc := 73) C 1 dX11_state_73 rfl ?_
        obtain ⟨_, e8, hf⟩ := xbd hf
        obtain ⟨v10, e9, hf⟩ := xbd hf
        refine ww_callVi (pc := 74) (as := [.ref (gB G + z7), .int x1]) (st := []) C (k_X3_brokenOf (l := gl G) (E := gE G) (hb := gB G) (σ := σ) e9) rfl (by decide) xc_X11_389 q1075 qp90 (xck_spec e8) rfl (by decide) (xst4 (Nat.le_of_ble_eq_true rfl)) xsame.rf.le xsame.rf.lim dX11_state_74 ?_
        have hf := xsj hf
        subst hf
        exact ww_iret (pc := 77) C hk.1 dX11_state_77
      · refine ⟨78, 66, rfl, by decide, ?_⟩
        have hf := xsw_in 2 hk1 rfl hf
        refine ww_aload_n (pc := 78) C 0 dX11_state_78 rfl ?_
        obtain ⟨z5, e4, hf⟩ := xbd hf
        refine gf_X11_24 (pc := 79) C e4 dX11_state_79 ?_
        refine ww_aload_n (pc := 82) C 0 dX11_state_82 rfl ?_
        obtain ⟨z7, e6, hf⟩ := xbd hf
        refine gf_X11_31 (pc := 83) C e6 dX11_state_83 ?_
        refine ww_iload_n (pc := 86) C 1 dX11_state_86 rfl ?_
        obtain ⟨_, e8, hf⟩ := xbd hf
        obtain ⟨v10, e9, hf⟩ := xbd hf
        refine ww_callVi (pc := 87) (as := [.ref (gB G + z7), .int x1]) (st := []) C (k_X3_steepest (l := gl G) (E := gE G) (hb := gB G) (σ := σ) e9) rfl (by decide) xc_X11_392 q779 qp46 (xck_spec e8) rfl (by decide) (xst4 (Nat.le_of_ble_eq_true rfl)) xsame.rf.le xsame.rf.lim dX11_state_87 ?_
        refine ww_iconst (pc := 90) (v := (-1 : Int32)) C dX11_state_90 (by decide) ?_
        refine ww_icmp_ne (pc := 91) (tgt := 98) C dX11_state_91 (by decide) (fun q => ?_) (fun q => ?_)
        · have hf := xin q hf
          refine ww_iconst (pc := 98) (v := (0 : Int32)) C dX11_state_98 (by decide) ?_
          have hf := xsj hf
          subst hf
          exact ww_iret (pc := 99) C hk.1 dX11_state_99
        · have hf := xip q hf
          refine ww_iconst (pc := 94) (v := (1 : Int32)) C dX11_state_94 (by decide) ?_
          refine ww_goto (pc := 95) (tgt := 99) C dX11_state_95 (by decide) ?_
          have hf := xsj hf
          subst hf
          exact ww_iret (pc := 99) C hk.1 dX11_state_99
      · refine ⟨100, 88, rfl, by decide, ?_⟩
        have hf := xsw_in 3 hk1 rfl hf
        refine ww_aload_n (pc := 100) C 0 dX11_state_100 rfl ?_
        obtain ⟨z5, e4, hf⟩ := xbd hf
        refine gf_X11_83 (pc := 101) C e4 dX11_state_101 ?_
        refine ww_aload_n (pc := 104) C 0 dX11_state_104 rfl ?_
        obtain ⟨z7, e6, hf⟩ := xbd hf
        refine gf_X11_24 (pc := 105) C e6 dX11_state_105 ?_
        refine ww_aload_n (pc := 108) C 0 dX11_state_108 rfl ?_
        obtain ⟨z9, e8, hf⟩ := xbd hf
        refine gf_X11_31 (pc := 109) C e8 dX11_state_109 ?_
        refine ww_iload_n (pc := 112) C 1 dX11_state_112 rfl ?_
        obtain ⟨_, e10, hf⟩ := xbd hf
        obtain ⟨σ12, e11, hf⟩ := xbd hf
        refine ww_callVv (pc := 113) (as := [.ref (gB G + z7), .ref (gB G + z9), .int x1]) (st := []) C (k_X10_fallFrom (l := gl G) (E := gE G) (hb := gB G) (σ := σ) e11) rfl (by decide) xc_X11_214 q775 qp45 (xck_spec e10) rfl (by decide) (xst4 (Nat.le_of_ble_eq_true rfl)) (m_X10_fallFrom e11).le (m_X10_fallFrom e11).lim dX11_state_113 ?_
        refine ww_aload_n (pc := 116) C 0 dX11_state_116 rfl ?_
        obtain ⟨z14, e13, hf⟩ := xbd hf
        refine gf_X11_83 (pc := 117) C e13 dX11_state_117 ?_
        obtain ⟨v16, e15, hf⟩ := xbd hf
        refine gf_X11_221 (pc := 120) C e15 dX11_state_120 ?_
        have hf := xsj hf
        subst hf
        exact ww_iret (pc := 123) C hk.1 dX11_state_123
      · refine ⟨124, 112, rfl, by decide, ?_⟩
        have hf := xsw_in 4 hk1 rfl hf
        refine ww_aload_n (pc := 124) C 0 dX11_state_124 rfl ?_
        obtain ⟨z5, e4, hf⟩ := xbd hf
        refine gf_X11_83 (pc := 125) C e4 dX11_state_125 ?_
        refine ww_aload_n (pc := 128) C 0 dX11_state_128 rfl ?_
        obtain ⟨z7, e6, hf⟩ := xbd hf
        refine gf_X11_24 (pc := 129) C e6 dX11_state_129 ?_
        refine ww_aload_n (pc := 132) C 0 dX11_state_132 rfl ?_
        obtain ⟨z9, e8, hf⟩ := xbd hf
        refine gf_X11_31 (pc := 133) C e8 dX11_state_133 ?_
        refine ww_iload_n (pc := 136) C 1 dX11_state_136 rfl ?_
        obtain ⟨_, e10, hf⟩ := xbd hf
        obtain ⟨σ12, e11, hf⟩ := xbd hf
        refine ww_callVv (pc := 137) (as := [.ref (gB G + z7), .ref (gB G + z9), .int x1]) (st := []) C (k_X10_fallFrom (l := gl G) (E := gE G) (hb := gB G) (σ := σ) e11) rfl (by decide) xc_X11_214 q775 qp45 (xck_spec e10) rfl (by decide) (xst4 (Nat.le_of_ble_eq_true rfl)) (m_X10_fallFrom e11).le (m_X10_fallFrom e11).lim dX11_state_137 ?_
        refine ww_aload_n (pc := 140) C 0 dX11_state_140 rfl ?_
        obtain ⟨z14, e13, hf⟩ := xbd hf
        refine gf_X11_83 (pc := 141) C e13 dX11_state_141 ?_
        obtain ⟨v16, e15, hf⟩ := xbd hf
        refine gf_X11_218 (pc := 144) C e15 dX11_state_144 ?_
        have hf := xsj hf
        subst hf
        exact ww_iret (pc := 147) C hk.1 dX11_state_147
      · refine ⟨148, 136, rfl, by decide, ?_⟩
        have hf := xsw_in 5 hk1 rfl hf
        refine ww_aload_n (pc := 148) C 0 dX11_state_148 rfl ?_
        obtain ⟨_, e4, hf⟩ := xbd hf
        obtain ⟨⟨z7, σ6⟩, e5, hf⟩ := xbd hf
        dsimp only at hf
        obtain ⟨_, e8, hf⟩ := xbd hf
        refine ww_callVr (pc := 149) (as := []) (st := []) C (k_X11_levelsNow (l := gl G) (E := gE G) (hb := gB G) (σ := σ) e5) rfl (by decide) xc_X11_251 q846 qp56 (xck_spec e4) rfl (by decide) (xst4 (Nat.le_of_ble_eq_true rfl)) (m_X11_levelsNow e5).1 (fun q => by have hm9 := m_X11_state_j152 hf; exact XLim.mid q (m_X11_levelsNow e5) hm9 hk.2) dX11_state_149 ?_
        refine ww_nn (xnz_spec e8) ?_
        refine ww_sub [0, 1] rfl ?_
        exact s_X11_state_j152 C hf hk
    · refine ⟨168, by decide, ?_⟩
      have hf := xsw_out ho rfl hf
      refine ww_ldc (pc := 168) C q801 dX11_state_168 ?_
      have hf := xsj hf
      subst hf
      exact ww_iret (pc := 170) C hk.1 dX11_state_170
  · have hf := xip q hf
    refine ww_ldc (pc := 8) C q801 dX11_state_8 ?_
    have hf := xsj hf
    subst hf
    exact ww_iret (pc := 10) C hk.1 dX11_state_10
theorem m_X11_state {σ : XS} {r0 : Nat} {x1 : Int32} {x2 : Int32} {x : Int32 × XS} (hf : f_X11_state σ r0 x1 x2 = some x) : xext σ x.2 := by
  have hm := xext.rf (σ := σ)
  obtain ⟨_, e1, hf⟩ := xbd hf
  obtain ⟨v3, e2, hf⟩ := xbd hf
  by_cases q : v3 = 0
  · have hf := xip q hf
    have hf := xsj hf
    subst hf
    exact hm
  · have hf := xin q hf
    by_cases ho : (x2).toInt < 0 ∨ 5 < (x2).toInt
    · have hf := xsw_out ho rfl hf
      have hf := xsj hf
      subst hf
      exact hm
    · rcases (by omega : (x2).toInt = 0 + ((0 : Nat) : Int) ∨ (x2).toInt = 0 + ((1 : Nat) : Int) ∨ (x2).toInt = 0 + ((2 : Nat) : Int) ∨ (x2).toInt = 0 + ((3 : Nat) : Int) ∨ (x2).toInt = 0 + ((4 : Nat) : Int) ∨ (x2).toInt = 0 + ((5 : Nat) : Int)) with hk1 | hk1 | hk1 | hk1 | hk1 | hk1
      · have hf := xsw_in 0 hk1 rfl hf
        obtain ⟨z5, e4, hf⟩ := xbd hf
        obtain ⟨z7, e6, hf⟩ := xbd hf
        obtain ⟨_, e8, hf⟩ := xbd hf
        obtain ⟨v10, e9, hf⟩ := xbd hf
        have hf := xsj hf
        subst hf
        exact hm
      · have hf := xsw_in 1 hk1 rfl hf
        obtain ⟨z5, e4, hf⟩ := xbd hf
        obtain ⟨z7, e6, hf⟩ := xbd hf
        obtain ⟨_, e8, hf⟩ := xbd hf
        obtain ⟨v10, e9, hf⟩ := xbd hf
        have hf := xsj hf
        subst hf
        exact hm
      · have hf := xsw_in 2 hk1 rfl hf
        obtain ⟨z5, e4, hf⟩ := xbd hf
        obtain ⟨z7, e6, hf⟩ := xbd hf
        obtain ⟨_, e8, hf⟩ := xbd hf
        obtain ⟨v10, e9, hf⟩ := xbd hf
        by_cases q : v10 = (-1 : Int32)
        · have hf := xip q hf
          have hf := xsj hf
          subst hf
          exact hm
        · have hf := xin q hf
          have hf := xsj hf
          subst hf
          exact hm
      · have hf := xsw_in 3 hk1 rfl hf
        obtain ⟨z5, e4, hf⟩ := xbd hf
        obtain ⟨z7, e6, hf⟩ := xbd hf
        obtain ⟨z9, e8, hf⟩ := xbd hf
        obtain ⟨_, e10, hf⟩ := xbd hf
        obtain ⟨σ12, e11, hf⟩ := xbd hf
        have hm := hm.tr (m_X10_fallFrom e11).ext
        obtain ⟨z14, e13, hf⟩ := xbd hf
        obtain ⟨v16, e15, hf⟩ := xbd hf
        have hf := xsj hf
        subst hf
        exact hm
      · have hf := xsw_in 4 hk1 rfl hf
        obtain ⟨z5, e4, hf⟩ := xbd hf
        obtain ⟨z7, e6, hf⟩ := xbd hf
        obtain ⟨z9, e8, hf⟩ := xbd hf
        obtain ⟨_, e10, hf⟩ := xbd hf
        obtain ⟨σ12, e11, hf⟩ := xbd hf
        have hm := hm.tr (m_X10_fallFrom e11).ext
        obtain ⟨z14, e13, hf⟩ := xbd hf
        obtain ⟨v16, e15, hf⟩ := xbd hf
        have hf := xsj hf
        subst hf
        exact hm
      · have hf := xsw_in 5 hk1 rfl hf
        obtain ⟨_, e4, hf⟩ := xbd hf
        obtain ⟨⟨z7, σ6⟩, e5, hf⟩ := xbd hf
        dsimp only at hf
        have hm := hm.tr (m_X11_levelsNow e5)
        obtain ⟨_, e8, hf⟩ := xbd hf
        exact hm.tr (m_X11_state_j152 hf)
theorem k_X11_state {l : Launch} {E : XD} {hb : Nat} {σ : XS} {r0 : Nat} {x1 : Int32} {x2 : Int32} {x : Int32 × XS} (h : f_X11_state σ r0 x1 x2 = some x) : XM l yX11_state cX11_state 3 (some .int) 5 115 E hb [.ref (hb + r0), .int x1, .int x2] σ (some (.int x.1)) x.2 := by
  refine xm_of (by decide) (Nat.le_of_ble_eq_true rfl) (m_X11_state h).1 (fun G hG C hl hQ => ?_)
  obtain ⟨rfl, rfl, rfl, hN⟩ := hG
  exact s_X11_state_e C h ⟨hQ, hl.2⟩
noncomputable def f_X11_stiff_j151 (σ : XS) (x4 : Int32) (x5 : Int32) (t0 : Int32) : Option (Int32 × XS) := if t0 = 0 then (some (x4 - x5, σ)) else some ((-100000 : Int32), σ)
noncomputable def f_X11_stiff_b56 (σ : XS) (r0 : Nat) (x1 : Int32) (x2 : Int32) (x3 : Int32) : Int32 × Int32 × Int32 → Option ((Int32 × Int32 × Int32) ⊕ (Int32 × XS)) := fun a => match a with
  | (x4, x5, x6) => if x3 ≤ x6 then ((if x5 = (145 : Int32) then (f_X11_stiff_j151 σ x4 x5 (1 : Int32)) else if x4 = (145 : Int32) then (f_X11_stiff_j151 σ x4 x5 (1 : Int32)) else f_X11_stiff_j151 σ x4 x5 (0 : Int32)).map .inr) else (xgR σ r0 11 3).bind fun z2 => (xck σ z2 6).bind fun _ => (f_X6_allows σ z2 x6).bind fun v5 => if v5 = 0 then (some (.inl (x4, x5, x6 + (1 : Int32)))) else (f_X11_bitOf x6 x1).bind fun v7 => (f_X11_bitOf x6 x2).bind fun v9 => if v7 = v9 then ((xgR σ r0 11 6).bind fun z11 => (xck σ z11 2).bind fun _ => (f_X2_of σ z11 x6).bind fun v14 => some (.inl (x4, xmin x5 v14, x6 + (1 : Int32)))) else (xgR σ r0 11 6).bind fun z11 => (xck σ z11 2).bind fun _ => (f_X2_of σ z11 x6).bind fun v14 => some (.inl (xmin x4 v14, x5, x6 + (1 : Int32)))
noncomputable def f_X11_stiff_j34 (σ : XS) (r0 : Nat) (x1 : Int32) (x2 : Int32) (t0 : Nat) : Option (Int32 × XS) := (xgR σ r0 11 2).bind fun z2 => (xck σ z2 3).bind fun _ => (f_X3_states σ z2).bind fun v5 => xloop (f_X11_stiff_b56 σ r0 x1 x2 v5) ((145 : Int32), (145 : Int32), (0 : Int32))
noncomputable def f_X11_stiff (σ : XS) (r0 : Nat) (x1 : Int32) (x2 : Int32) : Option (Int32 × XS) := (xgR σ r0 11 2).bind fun z2 => (xck σ z2 3).bind fun _ => (f_X3_hasSite σ z2 x1).bind fun v5 => if v5 = 0 then (some ((-100000 : Int32), σ)) else (xgR σ r0 11 2).bind fun z7 => (xck σ z7 3).bind fun _ => (f_X3_hasSite σ z7 x2).bind fun v10 => if v10 = 0 then (some ((-100000 : Int32), σ)) else if x1 = x2 then (some ((-100000 : Int32), σ)) else (xck σ r0 11).bind fun _ => (f_X11_energiesNow σ r0).bind fun (z14, σ13) => (xnz z14).bind fun _ => f_X11_stiff_j34 σ13 r0 x1 x2 z14
theorem s_X11_stiff_j151 {G : XG} (C : XC G cX11_stiff RX11 (some .int) 7 4 95) {σ : XS} {x4 : Int32} {x5 : Int32} {t0 : Int32} {x : Int32 × XS} (hf : f_X11_stiff_j151 σ x4 x5 t0 = some x) (hk : XEnd G (some (.int x.1)) x.2 ∧ XUp G x.2) : WW G 151 [(4, .int x4), (5, .int x5)] [.int t0] σ := by
  refine ww_istore (pc := 151) (lv' := [(6, .int t0), (4, .int x4), (5, .int x5)]) C dX11_stiff_151 (by decide) rfl ?_
  refine ww_iload (pc := 153) C 0 dX11_stiff_153 rfl ?_
  refine ww_if_eq (pc := 155) (tgt := 163) C dX11_stiff_155 (by decide) (fun q => ?_) (fun q => ?_)
  · have hf := xip q hf
    refine ww_iload (pc := 163) C 1 dX11_stiff_163 rfl ?_
    refine ww_iload (pc := 165) C 2 dX11_stiff_165 rfl ?_
    refine ww_isub (pc := 167) C dX11_stiff_167 ?_
    have hf := xsj hf
    subst hf
    exact ww_iret (pc := 168) C hk.1 dX11_stiff_168
  · have hf := xin q hf
    refine ww_ldc (pc := 158) C q801 dX11_stiff_158 ?_
    refine ww_goto (pc := 160) (tgt := 168) C dX11_stiff_160 (by decide) ?_
    have hf := xsj hf
    subst hf
    exact ww_iret (pc := 168) C hk.1 dX11_stiff_168
theorem m_X11_stiff_j151 {σ : XS} {x4 : Int32} {x5 : Int32} {t0 : Int32} {x : Int32 × XS} (hf : f_X11_stiff_j151 σ x4 x5 t0 = some x) : xext σ x.2 := by
  have hm := xext.rf (σ := σ)
  by_cases q : t0 = 0
  · have hf := xip q hf
    have hf := xsj hf
    subst hf
    exact hm
  · have hf := xin q hf
    have hf := xsj hf
    subst hf
    exact hm
theorem m_X11_stiff_l56 {σ : XS} {r0 : Nat} {x1 : Int32} {x2 : Int32} {x3 : Int32} {a : Int32 × Int32 × Int32} {x : Int32 × XS} (hf : xloop (f_X11_stiff_b56 σ r0 x1 x2 x3) a = some x) : xext σ x.2 := by
  refine xloop_ind (P := fun a => xext σ x.2) (fun a y hf hc he => ?_) hf
  obtain ⟨x4, x5, x6⟩ := a
  have hy : (∀ a' : Int32 × Int32 × Int32, y = .inl a' → True) ∧ (∀ b1 : Int32 × XS, y = .inr b1 → xext σ b1.2) := by
    have hm := xext.rf (σ := σ)
    by_cases q : x3 ≤ x6
    · have hf := xip q hf
      obtain ⟨b0, hg, e9⟩ := xmj hf
      subst e9
      have hf := hg
      refine ⟨fun a' e => xnc2 e, fun b e => ?_⟩
      have h9 := Sum.inr.inj e
      subst h9
      by_cases q : x5 = (145 : Int32)
      · have hf := xip q hf
        exact hm.tr (m_X11_stiff_j151 hf)
      · have hf := xin q hf
        by_cases q : x4 = (145 : Int32)
        · have hf := xip q hf
          exact hm.tr (m_X11_stiff_j151 hf)
        · have hf := xin q hf
          exact hm.tr (m_X11_stiff_j151 hf)
    · have hf := xin q hf
      obtain ⟨z2, e1, hf⟩ := xbd hf
      obtain ⟨_, e3, hf⟩ := xbd hf
      obtain ⟨v5, e4, hf⟩ := xbd hf
      by_cases q : v5 = 0
      · have hf := xip q hf
        have hf := xsj hf
        subst hf
        exact ⟨fun a' e => (by have h9 := Sum.inl.inj e; subst h9; exact trivial), fun b e => xnc1 e⟩
      · have hf := xin q hf
        obtain ⟨v7, e6, hf⟩ := xbd hf
        obtain ⟨v9, e8, hf⟩ := xbd hf
        by_cases q : v7 = v9
        · have hf := xip q hf
          obtain ⟨z11, e10, hf⟩ := xbd hf
          obtain ⟨_, e12, hf⟩ := xbd hf
          obtain ⟨v14, e13, hf⟩ := xbd hf
          have hf := xsj hf
          subst hf
          exact ⟨fun a' e => (by have h9 := Sum.inl.inj e; subst h9; exact trivial), fun b e => xnc1 e⟩
        · have hf := xin q hf
          obtain ⟨z11, e10, hf⟩ := xbd hf
          obtain ⟨_, e12, hf⟩ := xbd hf
          obtain ⟨v14, e13, hf⟩ := xbd hf
          have hf := xsj hf
          subst hf
          exact ⟨fun a' e => (by have h9 := Sum.inl.inj e; subst h9; exact trivial), fun b e => xnc1 e⟩
  cases y with
  | inl a' =>
    have h1 := hc a' rfl
    exact h1
  | inr b =>
    have h1 := he b rfl
    subst h1
    exact hy.2 _ rfl
theorem s_X11_stiff_l56 {G : XG} (C : XC G cX11_stiff RX11 (some .int) 7 4 95) {σ : XS} {r0 : Nat} {x1 : Int32} {x2 : Int32} {x3 : Int32} {a : Int32 × Int32 × Int32} {x : Int32 × XS} (hf : xloop (f_X11_stiff_b56 σ r0 x1 x2 x3) a = some x) (hk : XEnd G (some (.int x.1)) x.2 ∧ XUp G x.2) : WW G 56 [(0, .ref (gB G + r0)), (1, .int x1), (2, .int x2), (3, .int x3), (4, .int a.1), (5, .int a.2.1), (6, .int a.2.2)] [] σ := by
  refine xloop_ind (P := fun a => WW G 56 [(0, .ref (gB G + r0)), (1, .int x1), (2, .int x2), (3, .int x3), (4, .int a.1), (5, .int a.2.1), (6, .int a.2.2)] [] σ) (fun a y hf hc he => ?_) hf
  obtain ⟨x4, x5, x6⟩ := a
  have hk : (∀ a' : Int32 × Int32 × Int32, y = .inl a' → WW G 56 [(0, .ref (gB G + r0)), (1, .int x1), (2, .int x2), (3, .int x3), (4, .int a'.1), (5, .int a'.2.1), (6, .int a'.2.2)] [] σ) ∧ (∀ b1 : Int32 × XS, y = .inr b1 → XEnd G (some (.int b1.1)) b1.2 ∧ XUp G b1.2) := ⟨hc, fun b e => by have h9 := he b e; subst h9; exact hk⟩
  refine ww_iload (pc := 56) C 6 dX11_stiff_56 rfl ?_
  refine ww_iload_n (pc := 58) C 3 dX11_stiff_58 rfl ?_
  refine ww_icmp_ge (pc := 59) (tgt := 130) C dX11_stiff_59 (by decide) (fun q => ?_) (fun q => ?_)
  · have hf := xip q hf
    obtain ⟨b0, hg, e9⟩ := xmj hf
    subst e9
    have hf := hg
    have hk := hk.2 _ rfl
    refine ww_iload (pc := 130) C 5 dX11_stiff_130 rfl ?_
    refine ww_sipush (pc := 132) (v := (145 : Int32)) C dX11_stiff_132 (by decide) ?_
    refine ww_icmp_eq (pc := 135) (tgt := 146) C dX11_stiff_135 (by decide) (fun q => ?_) (fun q => ?_)
    · have hf := xip q hf
      refine ww_iconst (pc := 146) (v := (1 : Int32)) C dX11_stiff_146 (by decide) ?_
      refine ww_goto (pc := 147) (tgt := 151) C dX11_stiff_147 (by decide) ?_
      refine ww_sub [4, 5] rfl ?_
      exact s_X11_stiff_j151 C hf hk
    · have hf := xin q hf
      refine ww_iload (pc := 138) C 4 dX11_stiff_138 rfl ?_
      refine ww_sipush (pc := 140) (v := (145 : Int32)) C dX11_stiff_140 (by decide) ?_
      refine ww_icmp_ne (pc := 143) (tgt := 150) C dX11_stiff_143 (by decide) (fun q => ?_) (fun q => ?_)
      · have hf := xin q hf
        refine ww_iconst (pc := 150) (v := (0 : Int32)) C dX11_stiff_150 (by decide) ?_
        refine ww_sub [4, 5] rfl ?_
        exact s_X11_stiff_j151 C hf hk
      · have hf := xip q hf
        refine ww_iconst (pc := 146) (v := (1 : Int32)) C dX11_stiff_146 (by decide) ?_
        refine ww_goto (pc := 147) (tgt := 151) C dX11_stiff_147 (by decide) ?_
        refine ww_sub [4, 5] rfl ?_
        exact s_X11_stiff_j151 C hf hk
  · have hf := xin q hf
    refine ww_aload_n (pc := 62) C 0 dX11_stiff_62 rfl ?_
    obtain ⟨z2, e1, hf⟩ := xbd hf
    refine gf_X11_31 (pc := 63) C e1 dX11_stiff_63 ?_
    refine ww_iload (pc := 66) C 6 dX11_stiff_66 rfl ?_
    obtain ⟨_, e3, hf⟩ := xbd hf
    obtain ⟨v5, e4, hf⟩ := xbd hf
    refine ww_callVi (pc := 68) (as := [.int x6]) (st := []) C (k_X6_allows (l := gl G) (E := gE G) (hb := gB G) (σ := σ) e4) rfl (by decide) xc_X11_295 q890 qp65 (xck_spec e3) rfl (by decide) (xst4 (Nat.le_of_ble_eq_true rfl)) xsame.rf.le xsame.rf.lim dX11_stiff_68 ?_
    refine ww_if_eq (pc := 71) (tgt := 124) C dX11_stiff_71 (by decide) (fun q => ?_) (fun q => ?_)
    · have hf := xip q hf
      refine ww_iinc (pc := 124) (v := x6 + (1 : Int32)) (lv' := [(6, .int (x6 + (1 : Int32))), (0, .ref (gB G + r0)), (1, .int x1), (2, .int x2), (3, .int x3), (4, .int x4), (5, .int x5)]) C 6 dX11_stiff_124 rfl (congrArg (fun z => x6 + z) (show Int32.ofInt (1) = (1 : Int32) by decide)) (by decide) rfl ?_
      refine ww_goto (pc := 127) (tgt := 56) C dX11_stiff_127 (by decide) ?_
      have hf := xsj hf
      subst hf
      refine ww_sub [1, 2, 3, 4, 5, 6, 0] rfl ?_
      exact hk.1 (x4, x5, x6 + (1 : Int32)) rfl
    · have hf := xin q hf
      refine ww_iload (pc := 74) C 6 dX11_stiff_74 rfl ?_
      refine ww_iload_n (pc := 76) C 1 dX11_stiff_76 rfl ?_
      obtain ⟨v7, e6, hf⟩ := xbd hf
      refine ww_callSi (pc := 77) (as := [.int x6, .int x1]) (st := []) C (k_X11_bitOf (l := gl G) (E := gE G) (hb := gB G) (σ := σ) e6) xc_X11_236 q655 rfl (by decide) (xst4 (Nat.le_of_ble_eq_true rfl)) xsame.rf.le xsame.rf.lim dX11_stiff_77 ?_
      refine ww_iload (pc := 80) C 6 dX11_stiff_80 rfl ?_
      refine ww_iload_n (pc := 82) C 2 dX11_stiff_82 rfl ?_
      obtain ⟨v9, e8, hf⟩ := xbd hf
      refine ww_callSi (pc := 83) (as := [.int x6, .int x2]) (st := [.int v7]) C (k_X11_bitOf (l := gl G) (E := gE G) (hb := gB G) (σ := σ) e8) xc_X11_236 q655 rfl (by decide) (xst4 (Nat.le_of_ble_eq_true rfl)) xsame.rf.le xsame.rf.lim dX11_stiff_83 ?_
      refine ww_icmp_ne (pc := 86) (tgt := 108) C dX11_stiff_86 (by decide) (fun q => ?_) (fun q => ?_)
      · have hf := xin q hf
        refine ww_iload (pc := 108) C 4 dX11_stiff_108 rfl ?_
        refine ww_aload_n (pc := 110) C 0 dX11_stiff_110 rfl ?_
        obtain ⟨z11, e10, hf⟩ := xbd hf
        refine gf_X11_52 (pc := 111) C e10 dX11_stiff_111 ?_
        refine ww_iload (pc := 114) C 6 dX11_stiff_114 rfl ?_
        obtain ⟨_, e12, hf⟩ := xbd hf
        obtain ⟨v14, e13, hf⟩ := xbd hf
        refine ww_callVi (pc := 116) (as := [.int x6]) (st := [.int x4]) C (k_X2_of (l := gl G) (E := gE G) (hb := gB G) (σ := σ) e13) rfl (by decide) xc_X11_298 q880 qp64 (xck_spec e12) rfl (by decide) (xst4 (Nat.le_of_ble_eq_true rfl)) xsame.rf.le xsame.rf.lim dX11_stiff_116 ?_
        refine ww_mmin (pc := 119) C q1060 q718 q20 qm_mmin ⟨by decide, Nat.le_trans (Nat.add_le_add_right (xst4 (Nat.le_of_ble_eq_true rfl)) 13) (by decide)⟩ dX11_stiff_119 ?_
        refine ww_istore (pc := 122) (lv' := [(4, .int (xmin x4 v14)), (0, .ref (gB G + r0)), (1, .int x1), (2, .int x2), (3, .int x3), (5, .int x5), (6, .int x6)]) C dX11_stiff_122 (by decide) rfl ?_
        refine ww_iinc (pc := 124) (v := x6 + (1 : Int32)) (lv' := [(6, .int (x6 + (1 : Int32))), (4, .int (xmin x4 v14)), (0, .ref (gB G + r0)), (1, .int x1), (2, .int x2), (3, .int x3), (5, .int x5)]) C 6 dX11_stiff_124 rfl (congrArg (fun z => x6 + z) (show Int32.ofInt (1) = (1 : Int32) by decide)) (by decide) rfl ?_
        refine ww_goto (pc := 127) (tgt := 56) C dX11_stiff_127 (by decide) ?_
        have hf := xsj hf
        subst hf
        refine ww_sub [2, 3, 4, 5, 1, 6, 0] rfl ?_
        exact hk.1 (xmin x4 v14, x5, x6 + (1 : Int32)) rfl
      · have hf := xip q hf
        refine ww_iload (pc := 89) C 5 dX11_stiff_89 rfl ?_
        refine ww_aload_n (pc := 91) C 0 dX11_stiff_91 rfl ?_
        obtain ⟨z11, e10, hf⟩ := xbd hf
        refine gf_X11_52 (pc := 92) C e10 dX11_stiff_92 ?_
        refine ww_iload (pc := 95) C 6 dX11_stiff_95 rfl ?_
        obtain ⟨_, e12, hf⟩ := xbd hf
        obtain ⟨v14, e13, hf⟩ := xbd hf
        refine ww_callVi (pc := 97) (as := [.int x6]) (st := [.int x5]) C (k_X2_of (l := gl G) (E := gE G) (hb := gB G) (σ := σ) e13) rfl (by decide) xc_X11_298 q880 qp64 (xck_spec e12) rfl (by decide) (xst4 (Nat.le_of_ble_eq_true rfl)) xsame.rf.le xsame.rf.lim dX11_stiff_97 ?_
        refine ww_mmin (pc := 100) C q1060 q718 q20 qm_mmin ⟨by decide, Nat.le_trans (Nat.add_le_add_right (xst4 (Nat.le_of_ble_eq_true rfl)) 13) (by decide)⟩ dX11_stiff_100 ?_
        refine ww_istore (pc := 103) (lv' := [(5, .int (xmin x5 v14)), (0, .ref (gB G + r0)), (1, .int x1), (2, .int x2), (3, .int x3), (4, .int x4), (6, .int x6)]) C dX11_stiff_103 (by decide) rfl ?_
        refine ww_goto (pc := 105) (tgt := 124) C dX11_stiff_105 (by decide) ?_
        refine ww_iinc (pc := 124) (v := x6 + (1 : Int32)) (lv' := [(6, .int (x6 + (1 : Int32))), (5, .int (xmin x5 v14)), (0, .ref (gB G + r0)), (1, .int x1), (2, .int x2), (3, .int x3), (4, .int x4)]) C 6 dX11_stiff_124 rfl (congrArg (fun z => x6 + z) (show Int32.ofInt (1) = (1 : Int32) by decide)) (by decide) rfl ?_
        refine ww_goto (pc := 127) (tgt := 56) C dX11_stiff_127 (by decide) ?_
        have hf := xsj hf
        subst hf
        refine ww_sub [2, 3, 4, 5, 6, 1, 0] rfl ?_
        exact hk.1 (x4, xmin x5 v14, x6 + (1 : Int32)) rfl
theorem s_X11_stiff_j34 {G : XG} (C : XC G cX11_stiff RX11 (some .int) 7 4 95) {σ : XS} {r0 : Nat} {x1 : Int32} {x2 : Int32} {t0 : Nat} {x : Int32 × XS} (hf : f_X11_stiff_j34 σ r0 x1 x2 t0 = some x) (hk : XEnd G (some (.int x.1)) x.2 ∧ XUp G x.2) : WW G 34 [(0, .ref (gB G + r0)), (1, .int x1), (2, .int x2)] [.ref (gB G + t0)] σ := by
  refine ww_pop (pc := 34) C dX11_stiff_34 rfl ?_
  refine ww_aload_n (pc := 35) C 0 dX11_stiff_35 rfl ?_
  obtain ⟨z2, e1, hf⟩ := xbd hf
  refine gf_X11_24 (pc := 36) C e1 dX11_stiff_36 ?_
  obtain ⟨_, e3, hf⟩ := xbd hf
  obtain ⟨v5, e4, hf⟩ := xbd hf
  refine ww_callVi (pc := 39) (as := []) (st := []) C (k_X3_states (l := gl G) (E := gE G) (hb := gB G) (σ := σ) e4) rfl (by decide) xc_X11_291 q871 qp62 (xck_spec e3) rfl (by decide) (xst4 (Nat.le_of_ble_eq_true rfl)) xsame.rf.le xsame.rf.lim dX11_stiff_39 ?_
  refine ww_istore_n (pc := 42) (lv' := [(3, .int v5), (0, .ref (gB G + r0)), (1, .int x1), (2, .int x2)]) C dX11_stiff_42 (by decide) rfl ?_
  refine ww_sipush (pc := 43) (v := (145 : Int32)) C dX11_stiff_43 (by decide) ?_
  refine ww_istore (pc := 46) (lv' := [(4, .int (145 : Int32)), (3, .int v5), (0, .ref (gB G + r0)), (1, .int x1), (2, .int x2)]) C dX11_stiff_46 (by decide) rfl ?_
  refine ww_sipush (pc := 48) (v := (145 : Int32)) C dX11_stiff_48 (by decide) ?_
  refine ww_istore (pc := 51) (lv' := [(5, .int (145 : Int32)), (4, .int (145 : Int32)), (3, .int v5), (0, .ref (gB G + r0)), (1, .int x1), (2, .int x2)]) C dX11_stiff_51 (by decide) rfl ?_
  refine ww_iconst (pc := 53) (v := (0 : Int32)) C dX11_stiff_53 (by decide) ?_
  refine ww_istore (pc := 54) (lv' := [(6, .int (0 : Int32)), (5, .int (145 : Int32)), (4, .int (145 : Int32)), (3, .int v5), (0, .ref (gB G + r0)), (1, .int x1), (2, .int x2)]) C dX11_stiff_54 (by decide) rfl ?_
  refine ww_sub [4, 5, 6, 3, 2, 1, 0] rfl ?_
  exact s_X11_stiff_l56 C (a := ((145 : Int32), (145 : Int32), (0 : Int32))) hf hk
theorem m_X11_stiff_j34 {σ : XS} {r0 : Nat} {x1 : Int32} {x2 : Int32} {t0 : Nat} {x : Int32 × XS} (hf : f_X11_stiff_j34 σ r0 x1 x2 t0 = some x) : xext σ x.2 := by
  have hm := xext.rf (σ := σ)
  obtain ⟨z2, e1, hf⟩ := xbd hf
  obtain ⟨_, e3, hf⟩ := xbd hf
  obtain ⟨v5, e4, hf⟩ := xbd hf
  exact hm.tr (m_X11_stiff_l56 (a := ((145 : Int32), (145 : Int32), (0 : Int32))) hf)
theorem s_X11_stiff_e {G : XG} (C : XC G cX11_stiff RX11 (some .int) 7 4 95) {σ : XS} {r0 : Nat} {x1 : Int32} {x2 : Int32} {x : Int32 × XS} (hf : f_X11_stiff σ r0 x1 x2 = some x) (hk : XEnd G (some (.int x.1)) x.2 ∧ XUp G x.2) : WW G 0 [(0, .ref (gB G + r0)), (1, .int x1), (2, .int x2)] [] σ := by
  refine ww_aload_n (pc := 0) C 0 dX11_stiff_0 rfl ?_
  obtain ⟨z2, e1, hf⟩ := xbd hf
  refine gf_X11_24 (pc := 1) C e1 dX11_stiff_1 ?_
  refine ww_iload_n (pc := 4) C 1 dX11_stiff_4 rfl ?_
  obtain ⟨_, e3, hf⟩ := xbd hf
  obtain ⟨v5, e4, hf⟩ := xbd hf
  refine ww_callVi (pc := 5) (as := [.int x1]) (st := []) C (k_X3_hasSite (l := gl G) (E := gE G) (hb := gB G) (σ := σ) e4) rfl (by decide) xc_X11_176 q699 qp37 (xck_spec e3) rfl (by decide) (xst4 (Nat.le_of_ble_eq_true rfl)) xsame.rf.le xsame.rf.lim dX11_stiff_5 ?_
  refine ww_if_eq (pc := 8) (tgt := 27) C dX11_stiff_8 (by decide) (fun q => ?_) (fun q => ?_)
  · have hf := xip q hf
    refine ww_ldc (pc := 27) C q801 dX11_stiff_27 ?_
    have hf := xsj hf
    subst hf
    exact ww_iret (pc := 29) C hk.1 dX11_stiff_29
  · have hf := xin q hf
    refine ww_aload_n (pc := 11) C 0 dX11_stiff_11 rfl ?_
    obtain ⟨z7, e6, hf⟩ := xbd hf
    refine gf_X11_24 (pc := 12) C e6 dX11_stiff_12 ?_
    refine ww_iload_n (pc := 15) C 2 dX11_stiff_15 rfl ?_
    obtain ⟨_, e8, hf⟩ := xbd hf
    obtain ⟨v10, e9, hf⟩ := xbd hf
    refine ww_callVi (pc := 16) (as := [.int x2]) (st := []) C (k_X3_hasSite (l := gl G) (E := gE G) (hb := gB G) (σ := σ) e9) rfl (by decide) xc_X11_176 q699 qp37 (xck_spec e8) rfl (by decide) (xst4 (Nat.le_of_ble_eq_true rfl)) xsame.rf.le xsame.rf.lim dX11_stiff_16 ?_
    refine ww_if_eq (pc := 19) (tgt := 27) C dX11_stiff_19 (by decide) (fun q => ?_) (fun q => ?_)
    · have hf := xip q hf
      refine ww_ldc (pc := 27) C q801 dX11_stiff_27 ?_
      have hf := xsj hf
      subst hf
      exact ww_iret (pc := 29) C hk.1 dX11_stiff_29
    · have hf := xin q hf
      refine ww_iload_n (pc := 22) C 1 dX11_stiff_22 rfl ?_
      refine ww_iload_n (pc := 23) C 2 dX11_stiff_23 rfl ?_
      refine ww_icmp_ne (pc := 24) (tgt := 30) C dX11_stiff_24 (by decide) (fun q => ?_) (fun q => ?_)
      · have hf := xin q hf
        refine ww_aload_n (pc := 30) C 0 dX11_stiff_30 rfl ?_
        obtain ⟨_, e11, hf⟩ := xbd hf
        obtain ⟨⟨z14, σ13⟩, e12, hf⟩ := xbd hf
        dsimp only at hf
        obtain ⟨_, e15, hf⟩ := xbd hf
        refine ww_callVr (pc := 31) (as := []) (st := []) C (k_X11_energiesNow (l := gl G) (E := gE G) (hb := gB G) (σ := σ) e12) rfl (by decide) xc_X11_367 q850 qp57 (xck_spec e11) rfl (by decide) (xst4 (Nat.le_of_ble_eq_true rfl)) (m_X11_energiesNow e12).1 (fun q => by have hm9 := m_X11_stiff_j34 hf; exact XLim.mid q (m_X11_energiesNow e12) hm9 hk.2) dX11_stiff_31 ?_
        refine ww_nn (xnz_spec e15) ?_
        refine ww_sub [0, 1, 2] rfl ?_
        exact s_X11_stiff_j34 C hf hk
      · have hf := xip q hf
        refine ww_ldc (pc := 27) C q801 dX11_stiff_27 ?_
        have hf := xsj hf
        subst hf
        exact ww_iret (pc := 29) C hk.1 dX11_stiff_29
theorem m_X11_stiff {σ : XS} {r0 : Nat} {x1 : Int32} {x2 : Int32} {x : Int32 × XS} (hf : f_X11_stiff σ r0 x1 x2 = some x) : xext σ x.2 := by
  have hm := xext.rf (σ := σ)
  obtain ⟨z2, e1, hf⟩ := xbd hf
  obtain ⟨_, e3, hf⟩ := xbd hf
  obtain ⟨v5, e4, hf⟩ := xbd hf
  by_cases q : v5 = 0
  · have hf := xip q hf
    have hf := xsj hf
    subst hf
    exact hm
  · have hf := xin q hf
    obtain ⟨z7, e6, hf⟩ := xbd hf
    obtain ⟨_, e8, hf⟩ := xbd hf
    obtain ⟨v10, e9, hf⟩ := xbd hf
    by_cases q : v10 = 0
    · have hf := xip q hf
      have hf := xsj hf
      subst hf
      exact hm
    · have hf := xin q hf
      by_cases q : x1 = x2
      · have hf := xip q hf
        have hf := xsj hf
        subst hf
        exact hm
      · have hf := xin q hf
        obtain ⟨_, e11, hf⟩ := xbd hf
        obtain ⟨⟨z14, σ13⟩, e12, hf⟩ := xbd hf
        dsimp only at hf
        have hm := hm.tr (m_X11_energiesNow e12)
        obtain ⟨_, e15, hf⟩ := xbd hf
        exact hm.tr (m_X11_stiff_j34 hf)
theorem k_X11_stiff {l : Launch} {E : XD} {hb : Nat} {σ : XS} {r0 : Nat} {x1 : Int32} {x2 : Int32} {x : Int32 × XS} (h : f_X11_stiff σ r0 x1 x2 = some x) : XM l yX11_stiff cX11_stiff 7 (some .int) 4 95 E hb [.ref (hb + r0), .int x1, .int x2] σ (some (.int x.1)) x.2 := by
  refine xm_of (by decide) (Nat.le_of_ble_eq_true rfl) (m_X11_stiff h).1 (fun G hG C hl hQ => ?_)
  obtain ⟨rfl, rfl, rfl, hN⟩ := hG
  exact s_X11_stiff_e C h ⟨hQ, hl.2⟩
noncomputable def f_X2_hasNoneLower_b10 (σ : XS) (r0 : Nat) (x1 : Int32) (x2 : Int32) (x3 : Int32) (x4 : Int32) : Int32 → Option ((Int32) ⊕ (Int32)) := fun a => match a with
  | x5 => if x3 ≤ x5 then ((some (1 : Int32)).map .inr) else if (x2 &&& x5) = 0 then (if (x1 ^^^ x5) < 0 then (some (.inl (x5 + x5))) else (xgR σ r0 2 4).bind fun z2 => (xal σ z2).bind fun v4 => if v4 ≤ (x1 ^^^ x5) then (some (.inl (x5 + x5))) else (xgR σ r0 2 4).bind fun z6 => (xaI σ 20 z6 (x1 ^^^ x5)).bind fun v8 => if x4 ≤ v8 then (some (.inl (x5 + x5))) else (some (0 : Int32)).map .inr) else some (.inl (x5 + x5))
noncomputable def f_X2_hasNoneLower (σ : XS) (r0 : Nat) (x1 : Int32) (x2 : Int32) (x3 : Int32) : Option Int32 := (xck σ r0 2).bind fun _ => (f_X2_of σ r0 x1).bind fun v3 => xloop (f_X2_hasNoneLower_b10 σ r0 x1 x2 x3 v3) (1 : Int32)
theorem s_X2_hasNoneLower_l10 {G : XG} (C : XC G cX2_hasNoneLower RX2 (some .boolean) 7 1 21) {σ : XS} {r0 : Nat} {x1 : Int32} {x2 : Int32} {x3 : Int32} {x4 : Int32} {a : Int32} {x : Int32} (hf : xloop (f_X2_hasNoneLower_b10 σ r0 x1 x2 x3 x4) a = some x) (hk : XEnd G (some (.int x)) σ) : WW G 10 [(0, .ref (gB G + r0)), (1, .int x1), (2, .int x2), (3, .int x3), (4, .int x4), (5, .int a)] [] σ := by
  refine xloop_ind (P := fun a => WW G 10 [(0, .ref (gB G + r0)), (1, .int x1), (2, .int x2), (3, .int x3), (4, .int x4), (5, .int a)] [] σ) (fun a y hf hc he => ?_) hf
  obtain ⟨x5, rfl⟩ : ∃ z, z = a := ⟨_, rfl⟩
  have hk : (∀ a' : Int32, y = .inl a' → WW G 10 [(0, .ref (gB G + r0)), (1, .int x1), (2, .int x2), (3, .int x3), (4, .int x4), (5, .int a')] [] σ) ∧ (∀ b1 : Int32, y = .inr b1 → XEnd G (some (.int b1)) σ) := ⟨hc, fun b e => by have h9 := he b e; subst h9; exact hk⟩
  refine ww_iload (pc := 10) C 5 dX2_hasNoneLower_10 rfl ?_
  refine ww_iload_n (pc := 12) C 3 dX2_hasNoneLower_12 rfl ?_
  refine ww_icmp_ge (pc := 13) (tgt := 68) C dX2_hasNoneLower_13 (by decide) (fun q => ?_) (fun q => ?_)
  · have hf := xip q hf
    obtain ⟨b0, hg, e9⟩ := xmj hf
    subst e9
    have hf := hg
    have hk := hk.2 _ rfl
    refine ww_iconst (pc := 68) (v := (1 : Int32)) C dX2_hasNoneLower_68 (by decide) ?_
    have hf := xsj hf
    subst hf
    exact ww_zret (pc := 69) C rfl hk dX2_hasNoneLower_69
  · have hf := xin q hf
    refine ww_iload_n (pc := 16) C 1 dX2_hasNoneLower_16 rfl ?_
    refine ww_iload (pc := 17) C 5 dX2_hasNoneLower_17 rfl ?_
    refine ww_ixor (pc := 19) C dX2_hasNoneLower_19 ?_
    refine ww_istore (pc := 20) (lv' := [(6, .int (x1 ^^^ x5)), (0, .ref (gB G + r0)), (1, .int x1), (2, .int x2), (3, .int x3), (4, .int x4), (5, .int x5)]) C dX2_hasNoneLower_20 (by decide) rfl ?_
    refine ww_iload_n (pc := 22) C 3 dX2_hasNoneLower_22 rfl ?_
    refine ww_iload (pc := 23) C 6 dX2_hasNoneLower_23 rfl ?_
    refine ww_iand (pc := 25) C dX2_hasNoneLower_25 ?_
    refine ww_if_ne (pc := 26) (tgt := 58) C dX2_hasNoneLower_26 (by decide) (fun q => ?_) (fun q => ?_)
    · have hf := xin q hf
      refine ww_iload (pc := 58) C 6 dX2_hasNoneLower_58 rfl ?_
      refine ww_iload (pc := 60) C 6 dX2_hasNoneLower_60 rfl ?_
      refine ww_iadd (pc := 62) C dX2_hasNoneLower_62 ?_
      refine ww_istore (pc := 63) (lv' := [(5, .int (x5 + x5)), (6, .int (x1 ^^^ x5)), (0, .ref (gB G + r0)), (1, .int x1), (2, .int x2), (3, .int x3), (4, .int x4)]) C dX2_hasNoneLower_63 (by decide) rfl ?_
      refine ww_goto (pc := 65) (tgt := 10) C dX2_hasNoneLower_65 (by decide) ?_
      have hf := xsj hf
      subst hf
      refine ww_sub [2, 3, 4, 5, 6, 0] rfl ?_
      exact hk.1 (x5 + x5) rfl
    · have hf := xip q hf
      refine ww_iload (pc := 29) C 0 dX2_hasNoneLower_29 rfl ?_
      refine ww_if_lt (pc := 31) (tgt := 58) C dX2_hasNoneLower_31 (by decide) (fun q => ?_) (fun q => ?_)
      · have hf := xip q hf
        refine ww_iload (pc := 58) C 6 dX2_hasNoneLower_58 rfl ?_
        refine ww_iload (pc := 60) C 6 dX2_hasNoneLower_60 rfl ?_
        refine ww_iadd (pc := 62) C dX2_hasNoneLower_62 ?_
        refine ww_istore (pc := 63) (lv' := [(5, .int (x5 + x5)), (6, .int (x1 ^^^ x5)), (0, .ref (gB G + r0)), (1, .int x1), (2, .int x2), (3, .int x3), (4, .int x4)]) C dX2_hasNoneLower_63 (by decide) rfl ?_
        refine ww_goto (pc := 65) (tgt := 10) C dX2_hasNoneLower_65 (by decide) ?_
        have hf := xsj hf
        subst hf
        refine ww_sub [2, 3, 4, 5, 6, 0] rfl ?_
        exact hk.1 (x5 + x5) rfl
      · have hf := xin q hf
        refine ww_iload (pc := 34) C 0 dX2_hasNoneLower_34 rfl ?_
        refine ww_aload_n (pc := 36) C 1 dX2_hasNoneLower_36 rfl ?_
        obtain ⟨z2, e1, hf⟩ := xbd hf
        refine gf_X2_18 (pc := 37) C e1 dX2_hasNoneLower_37 ?_
        obtain ⟨v4, e3, hf⟩ := xbd hf
        refine ww_alen (pc := 40) C e3 dX2_hasNoneLower_40 ?_
        refine ww_icmp_ge (pc := 41) (tgt := 58) C dX2_hasNoneLower_41 (by decide) (fun q => ?_) (fun q => ?_)
        · have hf := xip q hf
          refine ww_iload (pc := 58) C 6 dX2_hasNoneLower_58 rfl ?_
          refine ww_iload (pc := 60) C 6 dX2_hasNoneLower_60 rfl ?_
          refine ww_iadd (pc := 62) C dX2_hasNoneLower_62 ?_
          refine ww_istore (pc := 63) (lv' := [(5, .int (x5 + x5)), (6, .int (x1 ^^^ x5)), (0, .ref (gB G + r0)), (1, .int x1), (2, .int x2), (3, .int x3), (4, .int x4)]) C dX2_hasNoneLower_63 (by decide) rfl ?_
          refine ww_goto (pc := 65) (tgt := 10) C dX2_hasNoneLower_65 (by decide) ?_
          have hf := xsj hf
          subst hf
          refine ww_sub [2, 3, 4, 5, 6, 0] rfl ?_
          exact hk.1 (x5 + x5) rfl
        · have hf := xin q hf
          refine ww_aload_n (pc := 44) C 1 dX2_hasNoneLower_44 rfl ?_
          obtain ⟨z6, e5, hf⟩ := xbd hf
          refine gf_X2_18 (pc := 45) C e5 dX2_hasNoneLower_45 ?_
          refine ww_iload (pc := 48) C 0 dX2_hasNoneLower_48 rfl ?_
          obtain ⟨v8, e7, hf⟩ := xbd hf
          refine ww_iald (pc := 50) C e7 dX2_hasNoneLower_50 ?_
          refine ww_iload (pc := 51) C 5 dX2_hasNoneLower_51 rfl ?_
          refine ww_icmp_ge (pc := 53) (tgt := 58) C dX2_hasNoneLower_53 (by decide) (fun q => ?_) (fun q => ?_)
          · have hf := xip q hf
            refine ww_iload (pc := 58) C 6 dX2_hasNoneLower_58 rfl ?_
            refine ww_iload (pc := 60) C 6 dX2_hasNoneLower_60 rfl ?_
            refine ww_iadd (pc := 62) C dX2_hasNoneLower_62 ?_
            refine ww_istore (pc := 63) (lv' := [(5, .int (x5 + x5)), (6, .int (x1 ^^^ x5)), (0, .ref (gB G + r0)), (1, .int x1), (2, .int x2), (3, .int x3), (4, .int x4)]) C dX2_hasNoneLower_63 (by decide) rfl ?_
            refine ww_goto (pc := 65) (tgt := 10) C dX2_hasNoneLower_65 (by decide) ?_
            have hf := xsj hf
            subst hf
            refine ww_sub [2, 3, 4, 5, 6, 0] rfl ?_
            exact hk.1 (x5 + x5) rfl
          · have hf := xin q hf
            obtain ⟨b0, hg, e9⟩ := xmj hf
            subst e9
            have hf := hg
            have hk := hk.2 _ rfl
            refine ww_iconst (pc := 56) (v := (0 : Int32)) C dX2_hasNoneLower_56 (by decide) ?_
            have hf := xsj hf
            subst hf
            exact ww_zret (pc := 57) C rfl hk dX2_hasNoneLower_57
theorem s_X2_hasNoneLower_e {G : XG} (C : XC G cX2_hasNoneLower RX2 (some .boolean) 7 1 21) {σ : XS} {r0 : Nat} {x1 : Int32} {x2 : Int32} {x3 : Int32} {x : Int32} (hf : f_X2_hasNoneLower σ r0 x1 x2 x3 = some x) (hk : XEnd G (some (.int x)) σ) : WW G 0 [(0, .ref (gB G + r0)), (1, .int x1), (2, .int x2), (3, .int x3)] [] σ := by
  refine ww_aload_n (pc := 0) C 0 dX2_hasNoneLower_0 rfl ?_
  refine ww_iload_n (pc := 1) C 1 dX2_hasNoneLower_1 rfl ?_
  obtain ⟨_, e1, hf⟩ := xbd hf
  obtain ⟨v3, e2, hf⟩ := xbd hf
  refine ww_callVi (pc := 2) (as := [.int x1]) (st := []) C (k_X2_of (l := gl G) (E := gE G) (hb := gB G) (σ := σ) e2) rfl (by decide) xc_X2_25 q880 qp64 (xck_spec e1) rfl (by decide) (xst4 (Nat.le_of_ble_eq_true rfl)) xsame.rf.le xsame.rf.lim dX2_hasNoneLower_2 ?_
  refine ww_istore (pc := 5) (lv' := [(4, .int v3), (0, .ref (gB G + r0)), (1, .int x1), (2, .int x2), (3, .int x3)]) C dX2_hasNoneLower_5 (by decide) rfl ?_
  refine ww_iconst (pc := 7) (v := (1 : Int32)) C dX2_hasNoneLower_7 (by decide) ?_
  refine ww_istore (pc := 8) (lv' := [(5, .int (1 : Int32)), (4, .int v3), (0, .ref (gB G + r0)), (1, .int x1), (2, .int x2), (3, .int x3)]) C dX2_hasNoneLower_8 (by decide) rfl ?_
  refine ww_sub [2, 3, 4, 5, 1, 0] rfl ?_
  exact s_X2_hasNoneLower_l10 C (a := (1 : Int32)) hf hk
theorem k_X2_hasNoneLower {l : Launch} {E : XD} {hb : Nat} {σ : XS} {r0 : Nat} {x1 : Int32} {x2 : Int32} {x3 : Int32} {x : Int32} (h : f_X2_hasNoneLower σ r0 x1 x2 x3 = some x) : XM l yX2_hasNoneLower cX2_hasNoneLower 7 (some .boolean) 1 21 E hb [.ref (hb + r0), .int x1, .int x2, .int x3] σ (some (.int x)) σ := by
  refine xm_of (by decide) (Nat.le_of_ble_eq_true rfl) ⟨Nat.le_refl _, Nat.le_refl _⟩ (fun G hG C hl hQ => ?_)
  obtain ⟨rfl, rfl, rfl, hN⟩ := hG
  exact s_X2_hasNoneLower_e C h hQ
noncomputable def f_X11_stuck_j76 (σ : XS) (r0 : Nat) (x1 : Int32) (x3 : Int32) (x4 : Int32) (x5 : Int32) (x6 : Int32) (t0 : Int32) : Option ((Int32 × Int32) ⊕ (Int32 × XS)) := if t0 = 0 then (some (.inl (x5, x6 + (1 : Int32)))) else (xgR σ r0 11 6).bind fun z2 => (xgR σ r0 11 3).bind fun z4 => (xgI σ z4 6 2).bind fun v6 => (xck σ z2 2).bind fun _ => (f_X2_hasNoneLower σ z2 x6 v6 x4).bind fun v9 => if v9 = 0 then (some (.inl (x5, x6 + (1 : Int32)))) else some (.inl (x5 + (1 : Int32), x6 + (1 : Int32)))
noncomputable def f_X11_stuck_b35 (σ : XS) (r0 : Nat) (x1 : Int32) (x3 : Int32) (x4 : Int32) : Int32 × Int32 → Option ((Int32 × Int32) ⊕ (Int32 × XS)) := fun a => match a with
  | (x5, x6) => if x4 ≤ x6 then ((some (x5, σ)).map .inr) else (xgR σ r0 11 3).bind fun z2 => (xck σ z2 6).bind fun _ => (f_X6_allows σ z2 x6).bind fun v5 => if v5 = 0 then (f_X11_stuck_j76 σ r0 x1 x3 x4 x5 x6 (0 : Int32)) else if x1 = 0 then (f_X11_stuck_j76 σ r0 x1 x3 x4 x5 x6 (1 : Int32)) else (xgR σ r0 11 6).bind fun z7 => (xck σ z7 2).bind fun _ => (f_X2_of σ z7 x6).bind fun v10 => if v10 = x3 then (f_X11_stuck_j76 σ r0 x1 x3 x4 x5 x6 (0 : Int32)) else f_X11_stuck_j76 σ r0 x1 x3 x4 x5 x6 (1 : Int32)
noncomputable def f_X11_stuck_j4 (σ : XS) (r0 : Nat) (x1 : Int32) (t0 : Nat) : Option (Int32 × XS) := (xgI σ t0 4 4).bind fun v2 => if v2 = 0 then (some ((0 : Int32), σ)) else (xck σ t0 4).bind fun _ => (f_X4_energyOf σ t0 (0 : Int32)).bind fun v5 => (xgR σ r0 11 2).bind fun z7 => (xck σ z7 3).bind fun _ => (f_X3_states σ z7).bind fun v10 => xloop (f_X11_stuck_b35 σ r0 x1 v5 v10) ((0 : Int32), (0 : Int32))
noncomputable def f_X11_stuck (σ : XS) (r0 : Nat) (x1 : Int32) : Option (Int32 × XS) := (xck σ r0 11).bind fun _ => (f_X11_levelsNow σ r0).bind fun (z4, σ3) => (xnz z4).bind fun _ => f_X11_stuck_j4 σ3 r0 x1 z4
theorem s_X11_stuck_j76 {G : XG} (C : XC G cX11_stuck RX11 (some .int) 8 5 115) {σ : XS} {r0 : Nat} {x1 : Int32} {x3 : Int32} {x4 : Int32} {x5 : Int32} {x6 : Int32} {t0 : Int32} {x : ((Int32 × Int32) ⊕ (Int32 × XS))} (hf : f_X11_stuck_j76 σ r0 x1 x3 x4 x5 x6 t0 = some x) (hk : (∀ a' : Int32 × Int32, x = .inl a' → WW G 35 [(0, .ref (gB G + r0)), (1, .int x1), (3, .int x3), (4, .int x4), (5, .int a'.1), (6, .int a'.2)] [] σ) ∧ (∀ b1 : Int32 × XS, x = .inr b1 → XEnd G (some (.int b1.1)) b1.2 ∧ XUp G b1.2)) : WW G 76 [(0, .ref (gB G + r0)), (1, .int x1), (3, .int x3), (4, .int x4), (5, .int x5), (6, .int x6)] [.int t0] σ := by
  refine ww_istore (pc := 76) (lv' := [(7, .int t0), (0, .ref (gB G + r0)), (1, .int x1), (3, .int x3), (4, .int x4), (5, .int x5), (6, .int x6)]) C dX11_stuck_76 (by decide) rfl ?_
  refine ww_iload (pc := 78) C 0 dX11_stuck_78 rfl ?_
  refine ww_if_eq (pc := 80) (tgt := 107) C dX11_stuck_80 (by decide) (fun q => ?_) (fun q => ?_)
  · have hf := xip q hf
    refine ww_iinc (pc := 107) (v := x6 + (1 : Int32)) (lv' := [(6, .int (x6 + (1 : Int32))), (7, .int t0), (0, .ref (gB G + r0)), (1, .int x1), (3, .int x3), (4, .int x4), (5, .int x5)]) C 6 dX11_stuck_107 rfl (congrArg (fun z => x6 + z) (show Int32.ofInt (1) = (1 : Int32) by decide)) (by decide) rfl ?_
    refine ww_goto (pc := 110) (tgt := 35) C dX11_stuck_110 (by decide) ?_
    have hf := xsj hf
    subst hf
    refine ww_sub [2, 3, 4, 5, 6, 0] rfl ?_
    exact hk.1 (x5, x6 + (1 : Int32)) rfl
  · have hf := xin q hf
    refine ww_aload_n (pc := 83) C 1 dX11_stuck_83 rfl ?_
    obtain ⟨z2, e1, hf⟩ := xbd hf
    refine gf_X11_52 (pc := 84) C e1 dX11_stuck_84 ?_
    refine ww_iload (pc := 87) C 6 dX11_stuck_87 rfl ?_
    refine ww_aload_n (pc := 89) C 1 dX11_stuck_89 rfl ?_
    obtain ⟨z4, e3, hf⟩ := xbd hf
    refine gf_X11_31 (pc := 90) C e3 dX11_stuck_90 ?_
    obtain ⟨v6, e5, hf⟩ := xbd hf
    refine gf_X11_191 (pc := 93) C e5 dX11_stuck_93 ?_
    refine ww_iload (pc := 96) C 4 dX11_stuck_96 rfl ?_
    obtain ⟨_, e7, hf⟩ := xbd hf
    obtain ⟨v9, e8, hf⟩ := xbd hf
    refine ww_callVi (pc := 98) (as := [.int x6, .int v6, .int x4]) (st := []) C (k_X2_hasNoneLower (l := gl G) (E := gE G) (hb := gB G) (σ := σ) e8) rfl (by decide) xc_X11_357 q1036 qp85 (xck_spec e7) rfl (by decide) (xst4 (Nat.le_of_ble_eq_true rfl)) xsame.rf.le xsame.rf.lim dX11_stuck_98 ?_
    refine ww_if_eq (pc := 101) (tgt := 107) C dX11_stuck_101 (by decide) (fun q => ?_) (fun q => ?_)
    · have hf := xip q hf
      refine ww_iinc (pc := 107) (v := x6 + (1 : Int32)) (lv' := [(6, .int (x6 + (1 : Int32))), (7, .int t0), (0, .ref (gB G + r0)), (1, .int x1), (3, .int x3), (4, .int x4), (5, .int x5)]) C 6 dX11_stuck_107 rfl (congrArg (fun z => x6 + z) (show Int32.ofInt (1) = (1 : Int32) by decide)) (by decide) rfl ?_
      refine ww_goto (pc := 110) (tgt := 35) C dX11_stuck_110 (by decide) ?_
      have hf := xsj hf
      subst hf
      refine ww_sub [2, 3, 4, 5, 6, 0] rfl ?_
      exact hk.1 (x5, x6 + (1 : Int32)) rfl
    · have hf := xin q hf
      refine ww_iinc (pc := 104) (v := x5 + (1 : Int32)) (lv' := [(5, .int (x5 + (1 : Int32))), (7, .int t0), (0, .ref (gB G + r0)), (1, .int x1), (3, .int x3), (4, .int x4), (6, .int x6)]) C 5 dX11_stuck_104 rfl (congrArg (fun z => x5 + z) (show Int32.ofInt (1) = (1 : Int32) by decide)) (by decide) rfl ?_
      refine ww_iinc (pc := 107) (v := x6 + (1 : Int32)) (lv' := [(6, .int (x6 + (1 : Int32))), (5, .int (x5 + (1 : Int32))), (7, .int t0), (0, .ref (gB G + r0)), (1, .int x1), (3, .int x3), (4, .int x4)]) C 6 dX11_stuck_107 rfl (congrArg (fun z => x6 + z) (show Int32.ofInt (1) = (1 : Int32) by decide)) (by decide) rfl ?_
      refine ww_goto (pc := 110) (tgt := 35) C dX11_stuck_110 (by decide) ?_
      have hf := xsj hf
      subst hf
      refine ww_sub [3, 4, 5, 6, 1, 0] rfl ?_
      exact hk.1 (x5 + (1 : Int32), x6 + (1 : Int32)) rfl
theorem m_X11_stuck_j76 {σ : XS} {r0 : Nat} {x1 : Int32} {x3 : Int32} {x4 : Int32} {x5 : Int32} {x6 : Int32} {t0 : Int32} {x : ((Int32 × Int32) ⊕ (Int32 × XS))} (hf : f_X11_stuck_j76 σ r0 x1 x3 x4 x5 x6 t0 = some x) : (∀ a' : Int32 × Int32, x = .inl a' → True) ∧ (∀ b1 : Int32 × XS, x = .inr b1 → xext σ b1.2) := by
  have hm := xext.rf (σ := σ)
  by_cases q : t0 = 0
  · have hf := xip q hf
    have hf := xsj hf
    subst hf
    exact ⟨fun a' e => (by have h9 := Sum.inl.inj e; subst h9; exact trivial), fun b e => xnc1 e⟩
  · have hf := xin q hf
    obtain ⟨z2, e1, hf⟩ := xbd hf
    obtain ⟨z4, e3, hf⟩ := xbd hf
    obtain ⟨v6, e5, hf⟩ := xbd hf
    obtain ⟨_, e7, hf⟩ := xbd hf
    obtain ⟨v9, e8, hf⟩ := xbd hf
    by_cases q : v9 = 0
    · have hf := xip q hf
      have hf := xsj hf
      subst hf
      exact ⟨fun a' e => (by have h9 := Sum.inl.inj e; subst h9; exact trivial), fun b e => xnc1 e⟩
    · have hf := xin q hf
      have hf := xsj hf
      subst hf
      exact ⟨fun a' e => (by have h9 := Sum.inl.inj e; subst h9; exact trivial), fun b e => xnc1 e⟩
theorem m_X11_stuck_l35 {σ : XS} {r0 : Nat} {x1 : Int32} {x3 : Int32} {x4 : Int32} {a : Int32 × Int32} {x : Int32 × XS} (hf : xloop (f_X11_stuck_b35 σ r0 x1 x3 x4) a = some x) : xext σ x.2 := by
  refine xloop_ind (P := fun a => xext σ x.2) (fun a y hf hc he => ?_) hf
  obtain ⟨x5, x6⟩ := a
  have hy : (∀ a' : Int32 × Int32, y = .inl a' → True) ∧ (∀ b1 : Int32 × XS, y = .inr b1 → xext σ b1.2) := by
    have hm := xext.rf (σ := σ)
    by_cases q : x4 ≤ x6
    · have hf := xip q hf
      obtain ⟨b0, hg, e9⟩ := xmj hf
      subst e9
      have hf := hg
      refine ⟨fun a' e => xnc2 e, fun b e => ?_⟩
      have h9 := Sum.inr.inj e
      subst h9
      have hf := xsj hf
      subst hf
      exact hm
    · have hf := xin q hf
      obtain ⟨z2, e1, hf⟩ := xbd hf
      obtain ⟨_, e3, hf⟩ := xbd hf
      obtain ⟨v5, e4, hf⟩ := xbd hf
      by_cases q : v5 = 0
      · have hf := xip q hf
        exact ⟨fun _ _ => trivial, fun b1 eb1 => hm.tr ((m_X11_stuck_j76 hf).2 b1 eb1)⟩
      · have hf := xin q hf
        by_cases q : x1 = 0
        · have hf := xip q hf
          exact ⟨fun _ _ => trivial, fun b1 eb1 => hm.tr ((m_X11_stuck_j76 hf).2 b1 eb1)⟩
        · have hf := xin q hf
          obtain ⟨z7, e6, hf⟩ := xbd hf
          obtain ⟨_, e8, hf⟩ := xbd hf
          obtain ⟨v10, e9, hf⟩ := xbd hf
          by_cases q : v10 = x3
          · have hf := xip q hf
            exact ⟨fun _ _ => trivial, fun b1 eb1 => hm.tr ((m_X11_stuck_j76 hf).2 b1 eb1)⟩
          · have hf := xin q hf
            exact ⟨fun _ _ => trivial, fun b1 eb1 => hm.tr ((m_X11_stuck_j76 hf).2 b1 eb1)⟩
  cases y with
  | inl a' =>
    have h1 := hc a' rfl
    exact h1
  | inr b =>
    have h1 := he b rfl
    subst h1
    exact hy.2 _ rfl
theorem s_X11_stuck_l35 {G : XG} (C : XC G cX11_stuck RX11 (some .int) 8 5 115) {σ : XS} {r0 : Nat} {x1 : Int32} {x3 : Int32} {x4 : Int32} {a : Int32 × Int32} {x : Int32 × XS} (hf : xloop (f_X11_stuck_b35 σ r0 x1 x3 x4) a = some x) (hk : XEnd G (some (.int x.1)) x.2 ∧ XUp G x.2) : WW G 35 [(0, .ref (gB G + r0)), (1, .int x1), (3, .int x3), (4, .int x4), (5, .int a.1), (6, .int a.2)] [] σ := by
  refine xloop_ind (P := fun a => WW G 35 [(0, .ref (gB G + r0)), (1, .int x1), (3, .int x3), (4, .int x4), (5, .int a.1), (6, .int a.2)] [] σ) (fun a y hf hc he => ?_) hf
  obtain ⟨x5, x6⟩ := a
  have hk : (∀ a' : Int32 × Int32, y = .inl a' → WW G 35 [(0, .ref (gB G + r0)), (1, .int x1), (3, .int x3), (4, .int x4), (5, .int a'.1), (6, .int a'.2)] [] σ) ∧ (∀ b1 : Int32 × XS, y = .inr b1 → XEnd G (some (.int b1.1)) b1.2 ∧ XUp G b1.2) := ⟨hc, fun b e => by have h9 := he b e; subst h9; exact hk⟩
  refine ww_iload (pc := 35) C 5 dX11_stuck_35 rfl ?_
  refine ww_iload (pc := 37) C 3 dX11_stuck_37 rfl ?_
  refine ww_icmp_ge (pc := 39) (tgt := 113) C dX11_stuck_39 (by decide) (fun q => ?_) (fun q => ?_)
  · have hf := xip q hf
    obtain ⟨b0, hg, e9⟩ := xmj hf
    subst e9
    have hf := hg
    have hk := hk.2 _ rfl
    refine ww_iload (pc := 113) C 4 dX11_stuck_113 rfl ?_
    have hf := xsj hf
    subst hf
    exact ww_iret (pc := 115) C hk.1 dX11_stuck_115
  · have hf := xin q hf
    refine ww_aload_n (pc := 42) C 0 dX11_stuck_42 rfl ?_
    obtain ⟨z2, e1, hf⟩ := xbd hf
    refine gf_X11_31 (pc := 43) C e1 dX11_stuck_43 ?_
    refine ww_iload (pc := 46) C 5 dX11_stuck_46 rfl ?_
    obtain ⟨_, e3, hf⟩ := xbd hf
    obtain ⟨v5, e4, hf⟩ := xbd hf
    refine ww_callVi (pc := 48) (as := [.int x6]) (st := []) C (k_X6_allows (l := gl G) (E := gE G) (hb := gB G) (σ := σ) e4) rfl (by decide) xc_X11_295 q890 qp65 (xck_spec e3) rfl (by decide) (xst4 (Nat.le_of_ble_eq_true rfl)) xsame.rf.le xsame.rf.lim dX11_stuck_48 ?_
    refine ww_if_eq (pc := 51) (tgt := 75) C dX11_stuck_51 (by decide) (fun q => ?_) (fun q => ?_)
    · have hf := xip q hf
      refine ww_iconst (pc := 75) (v := (0 : Int32)) C dX11_stuck_75 (by decide) ?_
      refine ww_sub [0, 1, 2, 3, 4, 5] rfl ?_
      exact s_X11_stuck_j76 C hf hk
    · have hf := xin q hf
      refine ww_iload_n (pc := 54) C 1 dX11_stuck_54 rfl ?_
      refine ww_if_eq (pc := 55) (tgt := 71) C dX11_stuck_55 (by decide) (fun q => ?_) (fun q => ?_)
      · have hf := xip q hf
        refine ww_iconst (pc := 71) (v := (1 : Int32)) C dX11_stuck_71 (by decide) ?_
        refine ww_goto (pc := 72) (tgt := 76) C dX11_stuck_72 (by decide) ?_
        refine ww_sub [0, 1, 2, 3, 4, 5] rfl ?_
        exact s_X11_stuck_j76 C hf hk
      · have hf := xin q hf
        refine ww_aload_n (pc := 58) C 0 dX11_stuck_58 rfl ?_
        obtain ⟨z7, e6, hf⟩ := xbd hf
        refine gf_X11_52 (pc := 59) C e6 dX11_stuck_59 ?_
        refine ww_iload (pc := 62) C 5 dX11_stuck_62 rfl ?_
        obtain ⟨_, e8, hf⟩ := xbd hf
        obtain ⟨v10, e9, hf⟩ := xbd hf
        refine ww_callVi (pc := 64) (as := [.int x6]) (st := []) C (k_X2_of (l := gl G) (E := gE G) (hb := gB G) (σ := σ) e9) rfl (by decide) xc_X11_298 q880 qp64 (xck_spec e8) rfl (by decide) (xst4 (Nat.le_of_ble_eq_true rfl)) xsame.rf.le xsame.rf.lim dX11_stuck_64 ?_
        refine ww_iload_n (pc := 67) C 2 dX11_stuck_67 rfl ?_
        refine ww_icmp_eq (pc := 68) (tgt := 75) C dX11_stuck_68 (by decide) (fun q => ?_) (fun q => ?_)
        · have hf := xip q hf
          refine ww_iconst (pc := 75) (v := (0 : Int32)) C dX11_stuck_75 (by decide) ?_
          refine ww_sub [0, 1, 2, 3, 4, 5] rfl ?_
          exact s_X11_stuck_j76 C hf hk
        · have hf := xin q hf
          refine ww_iconst (pc := 71) (v := (1 : Int32)) C dX11_stuck_71 (by decide) ?_
          refine ww_goto (pc := 72) (tgt := 76) C dX11_stuck_72 (by decide) ?_
          refine ww_sub [0, 1, 2, 3, 4, 5] rfl ?_
          exact s_X11_stuck_j76 C hf hk
theorem s_X11_stuck_j4 {G : XG} (C : XC G cX11_stuck RX11 (some .int) 8 5 115) {σ : XS} {r0 : Nat} {x1 : Int32} {t0 : Nat} {x : Int32 × XS} (hf : f_X11_stuck_j4 σ r0 x1 t0 = some x) (hk : XEnd G (some (.int x.1)) x.2 ∧ XUp G x.2) : WW G 4 [(0, .ref (gB G + r0)), (1, .int x1)] [.ref (gB G + t0)] σ := by
  refine ww_astore_n (pc := 4) (lv' := [(2, .ref (gB G + t0)), (0, .ref (gB G + r0)), (1, .int x1)]) C dX11_stuck_4 (by decide) rfl ?_
  refine ww_aload_n (pc := 5) C 0 dX11_stuck_5 rfl ?_
  obtain ⟨v2, e1, hf⟩ := xbd hf
  refine gf_X11_255 (pc := 6) C e1 dX11_stuck_6 ?_
  refine ww_if_ne (pc := 9) (tgt := 14) C dX11_stuck_9 (by decide) (fun q => ?_) (fun q => ?_)
  · have hf := xin q hf
    refine ww_aload_n (pc := 14) C 0 dX11_stuck_14 rfl ?_
    refine ww_iconst (pc := 15) (v := (0 : Int32)) C dX11_stuck_15 (by decide) ?_
    obtain ⟨_, e3, hf⟩ := xbd hf
    obtain ⟨v5, e4, hf⟩ := xbd hf
    refine ww_callVi (pc := 16) (as := [.int (0 : Int32)]) (st := []) C (k_X4_energyOf (l := gl G) (E := gE G) (hb := gB G) (σ := σ) e4) rfl (by decide) xc_X11_261 q902 qp68 (xck_spec e3) rfl (by decide) (xst4 (Nat.le_of_ble_eq_true rfl)) xsame.rf.le xsame.rf.lim dX11_stuck_16 ?_
    refine ww_istore_n (pc := 19) (lv' := [(3, .int v5), (2, .ref (gB G + t0)), (0, .ref (gB G + r0)), (1, .int x1)]) C dX11_stuck_19 (by decide) rfl ?_
    refine ww_aload_n (pc := 20) C 2 dX11_stuck_20 rfl ?_
    obtain ⟨z7, e6, hf⟩ := xbd hf
    refine gf_X11_24 (pc := 21) C e6 dX11_stuck_21 ?_
    obtain ⟨_, e8, hf⟩ := xbd hf
    obtain ⟨v10, e9, hf⟩ := xbd hf
    refine ww_callVi (pc := 24) (as := []) (st := []) C (k_X3_states (l := gl G) (E := gE G) (hb := gB G) (σ := σ) e9) rfl (by decide) xc_X11_291 q871 qp62 (xck_spec e8) rfl (by decide) (xst4 (Nat.le_of_ble_eq_true rfl)) xsame.rf.le xsame.rf.lim dX11_stuck_24 ?_
    refine ww_istore (pc := 27) (lv' := [(4, .int v10), (3, .int v5), (2, .ref (gB G + t0)), (0, .ref (gB G + r0)), (1, .int x1)]) C dX11_stuck_27 (by decide) rfl ?_
    refine ww_iconst (pc := 29) (v := (0 : Int32)) C dX11_stuck_29 (by decide) ?_
    refine ww_istore (pc := 30) (lv' := [(5, .int (0 : Int32)), (4, .int v10), (3, .int v5), (2, .ref (gB G + t0)), (0, .ref (gB G + r0)), (1, .int x1)]) C dX11_stuck_30 (by decide) rfl ?_
    refine ww_iconst (pc := 32) (v := (0 : Int32)) C dX11_stuck_32 (by decide) ?_
    refine ww_istore (pc := 33) (lv' := [(6, .int (0 : Int32)), (5, .int (0 : Int32)), (4, .int v10), (3, .int v5), (2, .ref (gB G + t0)), (0, .ref (gB G + r0)), (1, .int x1)]) C dX11_stuck_33 (by decide) rfl ?_
    refine ww_sub [5, 6, 3, 2, 1, 0] rfl ?_
    exact s_X11_stuck_l35 C (a := ((0 : Int32), (0 : Int32))) hf hk
  · have hf := xip q hf
    refine ww_iconst (pc := 12) (v := (0 : Int32)) C dX11_stuck_12 (by decide) ?_
    have hf := xsj hf
    subst hf
    exact ww_iret (pc := 13) C hk.1 dX11_stuck_13
theorem m_X11_stuck_j4 {σ : XS} {r0 : Nat} {x1 : Int32} {t0 : Nat} {x : Int32 × XS} (hf : f_X11_stuck_j4 σ r0 x1 t0 = some x) : xext σ x.2 := by
  have hm := xext.rf (σ := σ)
  obtain ⟨v2, e1, hf⟩ := xbd hf
  by_cases q : v2 = 0
  · have hf := xip q hf
    have hf := xsj hf
    subst hf
    exact hm
  · have hf := xin q hf
    obtain ⟨_, e3, hf⟩ := xbd hf
    obtain ⟨v5, e4, hf⟩ := xbd hf
    obtain ⟨z7, e6, hf⟩ := xbd hf
    obtain ⟨_, e8, hf⟩ := xbd hf
    obtain ⟨v10, e9, hf⟩ := xbd hf
    exact hm.tr (m_X11_stuck_l35 (a := ((0 : Int32), (0 : Int32))) hf)
theorem s_X11_stuck_e {G : XG} (C : XC G cX11_stuck RX11 (some .int) 8 5 115) {σ : XS} {r0 : Nat} {x1 : Int32} {x : Int32 × XS} (hf : f_X11_stuck σ r0 x1 = some x) (hk : XEnd G (some (.int x.1)) x.2 ∧ XUp G x.2) : WW G 0 [(0, .ref (gB G + r0)), (1, .int x1)] [] σ := by
  refine ww_aload_n (pc := 0) C 0 dX11_stuck_0 rfl ?_
  obtain ⟨_, e1, hf⟩ := xbd hf
  obtain ⟨⟨z4, σ3⟩, e2, hf⟩ := xbd hf
  dsimp only at hf
  obtain ⟨_, e5, hf⟩ := xbd hf
  refine ww_callVr (pc := 1) (as := []) (st := []) C (k_X11_levelsNow (l := gl G) (E := gE G) (hb := gB G) (σ := σ) e2) rfl (by decide) xc_X11_251 q846 qp56 (xck_spec e1) rfl (by decide) (xst4 (Nat.le_of_ble_eq_true rfl)) (m_X11_levelsNow e2).1 (fun q => by have hm9 := m_X11_stuck_j4 hf; exact XLim.mid q (m_X11_levelsNow e2) hm9 hk.2) dX11_stuck_1 ?_
  refine ww_nn (xnz_spec e5) ?_
  refine ww_sub [0, 1] rfl ?_
  exact s_X11_stuck_j4 C hf hk
theorem m_X11_stuck {σ : XS} {r0 : Nat} {x1 : Int32} {x : Int32 × XS} (hf : f_X11_stuck σ r0 x1 = some x) : xext σ x.2 := by
  have hm := xext.rf (σ := σ)
  obtain ⟨_, e1, hf⟩ := xbd hf
  obtain ⟨⟨z4, σ3⟩, e2, hf⟩ := xbd hf
  dsimp only at hf
  have hm := hm.tr (m_X11_levelsNow e2)
  obtain ⟨_, e5, hf⟩ := xbd hf
  exact hm.tr (m_X11_stuck_j4 hf)
theorem k_X11_stuck {l : Launch} {E : XD} {hb : Nat} {σ : XS} {r0 : Nat} {x1 : Int32} {x : Int32 × XS} (h : f_X11_stuck σ r0 x1 = some x) : XM l yX11_stuck cX11_stuck 8 (some .int) 5 115 E hb [.ref (hb + r0), .int x1] σ (some (.int x.1)) x.2 := by
  refine xm_of (by decide) (Nat.le_of_ble_eq_true rfl) (m_X11_stuck h).1 (fun G hG C hl hQ => ?_)
  obtain ⟨rfl, rfl, rfl, hN⟩ := hG
  exact s_X11_stuck_e C h ⟨hQ, hl.2⟩
noncomputable def f_X11_tie (σ : XS) (r0 : Nat) (x1 : Int32) (x2 : Int32) (x3 : Int32) : Option (Int32 × XS) := (xgR σ r0 11 2).bind fun z2 => (xck σ z2 3).bind fun _ => (f_X3_tiePlace σ z2 x1 x2).bind fun v5 => if v5 = (-1 : Int32) then (some ((0 : Int32), σ)) else (f_X11_isJ x3).bind fun v7 => if v7 = 0 then (some ((0 : Int32), σ)) else (xgR σ r0 11 3).bind fun z9 => (xck σ z9 6).bind fun _ => (f_X6_bondAt σ z9 v5).bind fun v12 => if v12 = x3 then (some ((0 : Int32), σ)) else (xgR σ r0 11 4).bind fun z14 => (xgR σ r0 11 3).bind fun z16 => (xck σ z14 5).bind fun _ => (f_X5_keep σ z14 z16).bind fun σ19 => (xgR σ19 r0 11 3).bind fun z21 => (xck σ19 z21 6).bind fun _ => (f_X6_setBond σ19 z21 v5 x3).bind fun σ24 => (xck σ24 r0 11).bind fun _ => (f_X11_stampTies σ24 r0).bind fun σ27 => some ((1 : Int32), σ27)
theorem s_X11_tie_e {G : XG} (C : XC G cX11_tie RX11 (some .boolean) 5 3 82) {σ : XS} {r0 : Nat} {x1 : Int32} {x2 : Int32} {x3 : Int32} {x : Int32 × XS} (hf : f_X11_tie σ r0 x1 x2 x3 = some x) (hk : XEnd G (some (.int x.1)) x.2) : WW G 0 [(0, .ref (gB G + r0)), (1, .int x1), (2, .int x2), (3, .int x3)] [] σ := by
  refine ww_aload_n (pc := 0) C 0 dX11_tie_0 rfl ?_
  obtain ⟨z2, e1, hf⟩ := xbd hf
  refine gf_X11_24 (pc := 1) C e1 dX11_tie_1 ?_
  refine ww_iload_n (pc := 4) C 1 dX11_tie_4 rfl ?_
  refine ww_iload_n (pc := 5) C 2 dX11_tie_5 rfl ?_
  obtain ⟨_, e3, hf⟩ := xbd hf
  obtain ⟨v5, e4, hf⟩ := xbd hf
  refine ww_callVi (pc := 6) (as := [.int x1, .int x2]) (st := []) C (k_X3_tiePlace (l := gl G) (E := gE G) (hb := gB G) (σ := σ) e4) rfl (by decide) xc_X11_157 q695 qp36 (xck_spec e3) rfl (by decide) (xst4 (Nat.le_of_ble_eq_true rfl)) xsame.rf.le xsame.rf.lim dX11_tie_6 ?_
  refine ww_istore (pc := 9) (lv' := [(4, .int v5), (0, .ref (gB G + r0)), (1, .int x1), (2, .int x2), (3, .int x3)]) C dX11_tie_9 (by decide) rfl ?_
  refine ww_iload (pc := 11) C 0 dX11_tie_11 rfl ?_
  refine ww_iconst (pc := 13) (v := (-1 : Int32)) C dX11_tie_13 (by decide) ?_
  refine ww_icmp_eq (pc := 14) (tgt := 37) C dX11_tie_14 (by decide) (fun q => ?_) (fun q => ?_)
  · have hf := xip q hf
    refine ww_iconst (pc := 37) (v := (0 : Int32)) C dX11_tie_37 (by decide) ?_
    have hf := xsj hf
    subst hf
    exact ww_zret (pc := 38) C rfl hk dX11_tie_38
  · have hf := xin q hf
    refine ww_iload_n (pc := 17) C 4 dX11_tie_17 rfl ?_
    obtain ⟨v7, e6, hf⟩ := xbd hf
    refine ww_callSi (pc := 18) (as := [.int x3]) (st := []) C (k_X11_isJ (l := gl G) (E := gE G) (hb := gB G) (σ := σ) e6) xc_X11_161 q706 rfl (by decide) (xst4 (Nat.le_of_ble_eq_true rfl)) xsame.rf.le xsame.rf.lim dX11_tie_18 ?_
    refine ww_if_eq (pc := 21) (tgt := 37) C dX11_tie_21 (by decide) (fun q => ?_) (fun q => ?_)
    · have hf := xip q hf
      refine ww_iconst (pc := 37) (v := (0 : Int32)) C dX11_tie_37 (by decide) ?_
      have hf := xsj hf
      subst hf
      exact ww_zret (pc := 38) C rfl hk dX11_tie_38
    · have hf := xin q hf
      refine ww_aload_n (pc := 24) C 1 dX11_tie_24 rfl ?_
      obtain ⟨z9, e8, hf⟩ := xbd hf
      refine gf_X11_31 (pc := 25) C e8 dX11_tie_25 ?_
      refine ww_iload (pc := 28) C 0 dX11_tie_28 rfl ?_
      obtain ⟨_, e10, hf⟩ := xbd hf
      obtain ⟨v12, e11, hf⟩ := xbd hf
      refine ww_callVi (pc := 30) (as := [.int v5]) (st := []) C (k_X6_bondAt (l := gl G) (E := gE G) (hb := gB G) (σ := σ) e11) rfl (by decide) xc_X11_165 q710 qp39 (xck_spec e10) rfl (by decide) (xst4 (Nat.le_of_ble_eq_true rfl)) xsame.rf.le xsame.rf.lim dX11_tie_30 ?_
      refine ww_iload_n (pc := 33) C 4 dX11_tie_33 rfl ?_
      refine ww_icmp_ne (pc := 34) (tgt := 39) C dX11_tie_34 (by decide) (fun q => ?_) (fun q => ?_)
      · have hf := xin q hf
        refine ww_aload_n (pc := 39) C 1 dX11_tie_39 rfl ?_
        obtain ⟨z14, e13, hf⟩ := xbd hf
        refine gf_X11_38 (pc := 40) C e13 dX11_tie_40 ?_
        refine ww_aload_n (pc := 43) C 1 dX11_tie_43 rfl ?_
        obtain ⟨z16, e15, hf⟩ := xbd hf
        refine gf_X11_31 (pc := 44) C e15 dX11_tie_44 ?_
        obtain ⟨_, e17, hf⟩ := xbd hf
        obtain ⟨σ19, e18, hf⟩ := xbd hf
        refine ww_callVv (pc := 47) (as := [.ref (gB G + z16)]) (st := []) C (k_X5_keep (l := gl G) (E := gE G) (hb := gB G) (σ := σ) e18) rfl (by decide) xc_X11_169 q714 qp40 (xck_spec e17) rfl (by decide) (xst4 (Nat.le_of_ble_eq_true rfl)) (m_X5_keep e18).le (m_X5_keep e18).lim dX11_tie_47 ?_
        refine ww_aload_n (pc := 50) C 1 dX11_tie_50 rfl ?_
        obtain ⟨z21, e20, hf⟩ := xbd hf
        refine gf_X11_31 (pc := 51) C e20 dX11_tie_51 ?_
        refine ww_iload (pc := 54) C 0 dX11_tie_54 rfl ?_
        refine ww_iload_n (pc := 56) C 4 dX11_tie_56 rfl ?_
        obtain ⟨_, e22, hf⟩ := xbd hf
        obtain ⟨σ24, e23, hf⟩ := xbd hf
        refine ww_callVv (pc := 57) (as := [.int v5, .int x3]) (st := []) C (k_X6_setBond (l := gl G) (E := gE G) (hb := gB G) (σ := σ19) e23) rfl (by decide) xc_X11_172 q632 qp24 (xck_spec e22) rfl (by decide) (xst4 (Nat.le_of_ble_eq_true rfl)) (m_X6_setBond e23).le (m_X6_setBond e23).lim dX11_tie_57 ?_
        refine ww_aload_n (pc := 60) C 1 dX11_tie_60 rfl ?_
        obtain ⟨_, e25, hf⟩ := xbd hf
        obtain ⟨σ27, e26, hf⟩ := xbd hf
        refine ww_callVv (pc := 61) (as := []) (st := []) C (k_X11_stampTies (l := gl G) (E := gE G) (hb := gB G) (σ := σ24) e26) rfl (by decide) xc_X11_154 q683 qp35 (xck_spec e25) rfl (by decide) (xst4 (Nat.le_of_ble_eq_true rfl)) (m_X11_stampTies e26).le (m_X11_stampTies e26).lim dX11_tie_61 ?_
        refine ww_iconst (pc := 64) (v := (1 : Int32)) C dX11_tie_64 (by decide) ?_
        have hf := xsj hf
        subst hf
        exact ww_zret (pc := 65) C rfl hk dX11_tie_65
      · have hf := xip q hf
        refine ww_iconst (pc := 37) (v := (0 : Int32)) C dX11_tie_37 (by decide) ?_
        have hf := xsj hf
        subst hf
        exact ww_zret (pc := 38) C rfl hk dX11_tie_38
theorem m_X11_tie {σ : XS} {r0 : Nat} {x1 : Int32} {x2 : Int32} {x3 : Int32} {x : Int32 × XS} (hf : f_X11_tie σ r0 x1 x2 x3 = some x) : xsame σ x.2 := by
  have hm := xsame.rf (σ := σ)
  obtain ⟨z2, e1, hf⟩ := xbd hf
  obtain ⟨_, e3, hf⟩ := xbd hf
  obtain ⟨v5, e4, hf⟩ := xbd hf
  by_cases q : v5 = (-1 : Int32)
  · have hf := xip q hf
    have hf := xsj hf
    subst hf
    exact hm
  · have hf := xin q hf
    obtain ⟨v7, e6, hf⟩ := xbd hf
    by_cases q : v7 = 0
    · have hf := xip q hf
      have hf := xsj hf
      subst hf
      exact hm
    · have hf := xin q hf
      obtain ⟨z9, e8, hf⟩ := xbd hf
      obtain ⟨_, e10, hf⟩ := xbd hf
      obtain ⟨v12, e11, hf⟩ := xbd hf
      by_cases q : v12 = x3
      · have hf := xip q hf
        have hf := xsj hf
        subst hf
        exact hm
      · have hf := xin q hf
        obtain ⟨z14, e13, hf⟩ := xbd hf
        obtain ⟨z16, e15, hf⟩ := xbd hf
        obtain ⟨_, e17, hf⟩ := xbd hf
        obtain ⟨σ19, e18, hf⟩ := xbd hf
        have hm := hm.tr (m_X5_keep e18)
        obtain ⟨z21, e20, hf⟩ := xbd hf
        obtain ⟨_, e22, hf⟩ := xbd hf
        obtain ⟨σ24, e23, hf⟩ := xbd hf
        have hm := hm.tr (m_X6_setBond e23)
        obtain ⟨_, e25, hf⟩ := xbd hf
        obtain ⟨σ27, e26, hf⟩ := xbd hf
        have hm := hm.tr (m_X11_stampTies e26)
        have hf := xsj hf
        subst hf
        exact hm
theorem k_X11_tie {l : Launch} {E : XD} {hb : Nat} {σ : XS} {r0 : Nat} {x1 : Int32} {x2 : Int32} {x3 : Int32} {x : Int32 × XS} (h : f_X11_tie σ r0 x1 x2 x3 = some x) : XM l yX11_tie cX11_tie 5 (some .boolean) 3 82 E hb [.ref (hb + r0), .int x1, .int x2, .int x3] σ (some (.int x.1)) x.2 := by
  refine xm_of (by decide) (Nat.le_of_ble_eq_true rfl) (m_X11_tie h).le (fun G hG C hl hQ => ?_)
  obtain ⟨rfl, rfl, rfl, hN⟩ := hG
  exact s_X11_tie_e C h hQ
noncomputable def f_X11_turn (σ : XS) (r0 : Nat) (x1 : Int32) : Option (Int32 × XS) := (xgR σ r0 11 2).bind fun z2 => (xck σ z2 3).bind fun _ => (f_X3_hasSite σ z2 x1).bind fun v5 => if v5 = 0 then (some ((0 : Int32), σ)) else (xgR σ r0 11 3).bind fun z7 => (xck σ z7 6).bind fun _ => (f_X6_isPinned σ z7 x1).bind fun v10 => if v10 = 0 then ((xgR σ r0 11 4).bind fun z12 => (xgR σ r0 11 3).bind fun z14 => (xck σ z12 5).bind fun _ => (f_X5_keep σ z12 z14).bind fun σ17 => (xgR σ17 r0 11 3).bind fun z19 => (xgI σ17 z19 6 4).bind fun v21 => (xpI σ17 z19 6 4 (v21 ^^^ ((1 : Int32) <<< (x1 &&& 31)))).bind fun σ23 => some ((1 : Int32), σ23)) else some ((0 : Int32), σ)
theorem s_X11_turn_e {G : XG} (C : XC G cX11_turn RX11 (some .boolean) 2 3 82) {σ : XS} {r0 : Nat} {x1 : Int32} {x : Int32 × XS} (hf : f_X11_turn σ r0 x1 = some x) (hk : XEnd G (some (.int x.1)) x.2) : WW G 0 [(0, .ref (gB G + r0)), (1, .int x1)] [] σ := by
  refine ww_aload_n (pc := 0) C 0 dX11_turn_0 rfl ?_
  obtain ⟨z2, e1, hf⟩ := xbd hf
  refine gf_X11_24 (pc := 1) C e1 dX11_turn_1 ?_
  refine ww_iload_n (pc := 4) C 1 dX11_turn_4 rfl ?_
  obtain ⟨_, e3, hf⟩ := xbd hf
  obtain ⟨v5, e4, hf⟩ := xbd hf
  refine ww_callVi (pc := 5) (as := [.int x1]) (st := []) C (k_X3_hasSite (l := gl G) (E := gE G) (hb := gB G) (σ := σ) e4) rfl (by decide) xc_X11_176 q699 qp37 (xck_spec e3) rfl (by decide) (xst4 (Nat.le_of_ble_eq_true rfl)) xsame.rf.le xsame.rf.lim dX11_turn_5 ?_
  refine ww_if_eq (pc := 8) (tgt := 22) C dX11_turn_8 (by decide) (fun q => ?_) (fun q => ?_)
  · have hf := xip q hf
    refine ww_iconst (pc := 22) (v := (0 : Int32)) C dX11_turn_22 (by decide) ?_
    have hf := xsj hf
    subst hf
    exact ww_zret (pc := 23) C rfl hk dX11_turn_23
  · have hf := xin q hf
    refine ww_aload_n (pc := 11) C 0 dX11_turn_11 rfl ?_
    obtain ⟨z7, e6, hf⟩ := xbd hf
    refine gf_X11_31 (pc := 12) C e6 dX11_turn_12 ?_
    refine ww_iload_n (pc := 15) C 1 dX11_turn_15 rfl ?_
    obtain ⟨_, e8, hf⟩ := xbd hf
    obtain ⟨v10, e9, hf⟩ := xbd hf
    refine ww_callVi (pc := 16) (as := [.int x1]) (st := []) C (k_X6_isPinned (l := gl G) (E := gE G) (hb := gB G) (σ := σ) e9) rfl (by decide) xc_X11_211 q741 qp43 (xck_spec e8) rfl (by decide) (xst4 (Nat.le_of_ble_eq_true rfl)) xsame.rf.le xsame.rf.lim dX11_turn_16 ?_
    refine ww_if_eq (pc := 19) (tgt := 24) C dX11_turn_19 (by decide) (fun q => ?_) (fun q => ?_)
    · have hf := xip q hf
      refine ww_aload_n (pc := 24) C 0 dX11_turn_24 rfl ?_
      obtain ⟨z12, e11, hf⟩ := xbd hf
      refine gf_X11_38 (pc := 25) C e11 dX11_turn_25 ?_
      refine ww_aload_n (pc := 28) C 0 dX11_turn_28 rfl ?_
      obtain ⟨z14, e13, hf⟩ := xbd hf
      refine gf_X11_31 (pc := 29) C e13 dX11_turn_29 ?_
      obtain ⟨_, e15, hf⟩ := xbd hf
      obtain ⟨σ17, e16, hf⟩ := xbd hf
      refine ww_callVv (pc := 32) (as := [.ref (gB G + z14)]) (st := []) C (k_X5_keep (l := gl G) (E := gE G) (hb := gB G) (σ := σ) e16) rfl (by decide) xc_X11_169 q714 qp40 (xck_spec e15) rfl (by decide) (xst4 (Nat.le_of_ble_eq_true rfl)) (m_X5_keep e16).le (m_X5_keep e16).lim dX11_turn_32 ?_
      refine ww_aload_n (pc := 35) C 0 dX11_turn_35 rfl ?_
      obtain ⟨z19, e18, hf⟩ := xbd hf
      refine gf_X11_31 (pc := 36) C e18 dX11_turn_36 ?_
      refine ww_dup (pc := 39) C dX11_turn_39 rfl ?_
      obtain ⟨v21, e20, hf⟩ := xbd hf
      refine gf_X11_144 (pc := 40) C e20 dX11_turn_40 ?_
      refine ww_iconst (pc := 43) (v := (1 : Int32)) C dX11_turn_43 (by decide) ?_
      refine ww_iload_n (pc := 44) C 1 dX11_turn_44 rfl ?_
      refine ww_ishl (pc := 45) C dX11_turn_45 ?_
      refine ww_ixor (pc := 46) C dX11_turn_46 ?_
      obtain ⟨σ23, e22, hf⟩ := xbd hf
      refine pf_X11_144 (pc := 47) C e22 dX11_turn_47 ?_
      refine ww_iconst (pc := 50) (v := (1 : Int32)) C dX11_turn_50 (by decide) ?_
      have hf := xsj hf
      subst hf
      exact ww_zret (pc := 51) C rfl hk dX11_turn_51
    · have hf := xin q hf
      refine ww_iconst (pc := 22) (v := (0 : Int32)) C dX11_turn_22 (by decide) ?_
      have hf := xsj hf
      subst hf
      exact ww_zret (pc := 23) C rfl hk dX11_turn_23
theorem m_X11_turn {σ : XS} {r0 : Nat} {x1 : Int32} {x : Int32 × XS} (hf : f_X11_turn σ r0 x1 = some x) : xsame σ x.2 := by
  have hm := xsame.rf (σ := σ)
  obtain ⟨z2, e1, hf⟩ := xbd hf
  obtain ⟨_, e3, hf⟩ := xbd hf
  obtain ⟨v5, e4, hf⟩ := xbd hf
  by_cases q : v5 = 0
  · have hf := xip q hf
    have hf := xsj hf
    subst hf
    exact hm
  · have hf := xin q hf
    obtain ⟨z7, e6, hf⟩ := xbd hf
    obtain ⟨_, e8, hf⟩ := xbd hf
    obtain ⟨v10, e9, hf⟩ := xbd hf
    by_cases q : v10 = 0
    · have hf := xip q hf
      obtain ⟨z12, e11, hf⟩ := xbd hf
      obtain ⟨z14, e13, hf⟩ := xbd hf
      obtain ⟨_, e15, hf⟩ := xbd hf
      obtain ⟨σ17, e16, hf⟩ := xbd hf
      have hm := hm.tr (m_X5_keep e16)
      obtain ⟨z19, e18, hf⟩ := xbd hf
      obtain ⟨v21, e20, hf⟩ := xbd hf
      obtain ⟨σ23, e22, hf⟩ := xbd hf
      have hm := hm.tr (xpI_same e22)
      have hf := xsj hf
      subst hf
      exact hm
    · have hf := xin q hf
      have hf := xsj hf
      subst hf
      exact hm
theorem k_X11_turn {l : Launch} {E : XD} {hb : Nat} {σ : XS} {r0 : Nat} {x1 : Int32} {x : Int32 × XS} (h : f_X11_turn σ r0 x1 = some x) : XM l yX11_turn cX11_turn 2 (some .boolean) 3 82 E hb [.ref (hb + r0), .int x1] σ (some (.int x.1)) x.2 := by
  refine xm_of (by decide) (Nat.le_of_ble_eq_true rfl) (m_X11_turn h).le (fun G hG C hl hQ => ?_)
  obtain ⟨rfl, rfl, rfl, hN⟩ := hG
  exact s_X11_turn_e C h hQ
noncomputable def f_X5_giveBack_j18 (σ : XS) (r0 : Nat) (r1 : Nat) (t0 : Int32) : Option (Int32 × XS) := (xgI σ r0 5 2).bind fun v2 => if v2 = 0 then (some ((0 : Int32), σ)) else (xgR σ r0 5 0).bind fun z4 => (xal σ z4).bind fun v6 => if t0 < v6 then ((xgR σ r0 5 0).bind fun z8 => (xaR σ 24 z8 t0).bind fun z10 => (xck σ r1 6).bind fun _ => (f_X6_copyFrom σ r1 z10).bind fun σ13 => (xpI σ13 r0 5 1 t0).bind fun σ15 => (xgI σ15 r0 5 2).bind fun v17 => (xpI σ15 r0 5 2 (v17 - (1 : Int32))).bind fun σ19 => some ((1 : Int32), σ19)) else some ((0 : Int32), σ)
noncomputable def f_X5_giveBack (σ : XS) (r0 : Nat) (r1 : Nat) : Option (Int32 × XS) := (xgI σ r0 5 1).bind fun v2 => if v2 ≤ 0 then (f_X5_giveBack_j18 σ r0 r1 (39 : Int32)) else (xgI σ r0 5 1).bind fun v4 => f_X5_giveBack_j18 σ r0 r1 (v4 - (1 : Int32))
theorem s_X5_giveBack_j18 {G : XG} (C : XC G cX5_giveBack RX5 (some .boolean) 3 2 61) {σ : XS} {r0 : Nat} {r1 : Nat} {t0 : Int32} {x : Int32 × XS} (hf : f_X5_giveBack_j18 σ r0 r1 t0 = some x) (hk : XEnd G (some (.int x.1)) x.2) : WW G 18 [(0, .ref (gB G + r0)), (1, .ref (gB G + r1))] [.int t0] σ := by
  refine ww_istore_n (pc := 18) (lv' := [(2, .int t0), (0, .ref (gB G + r0)), (1, .ref (gB G + r1))]) C dX5_giveBack_18 (by decide) rfl ?_
  refine ww_aload_n (pc := 19) C 1 dX5_giveBack_19 rfl ?_
  obtain ⟨v2, e1, hf⟩ := xbd hf
  refine gf_X5_22 (pc := 20) C e1 dX5_giveBack_20 ?_
  refine ww_if_eq (pc := 23) (tgt := 35) C dX5_giveBack_23 (by decide) (fun q => ?_) (fun q => ?_)
  · have hf := xip q hf
    refine ww_iconst (pc := 35) (v := (0 : Int32)) C dX5_giveBack_35 (by decide) ?_
    have hf := xsj hf
    subst hf
    exact ww_zret (pc := 36) C rfl hk dX5_giveBack_36
  · have hf := xin q hf
    refine ww_iload_n (pc := 26) C 0 dX5_giveBack_26 rfl ?_
    refine ww_aload_n (pc := 27) C 1 dX5_giveBack_27 rfl ?_
    obtain ⟨z4, e3, hf⟩ := xbd hf
    refine gf_X5_11 (pc := 28) C e3 dX5_giveBack_28 ?_
    obtain ⟨v6, e5, hf⟩ := xbd hf
    refine ww_alen (pc := 31) C e5 dX5_giveBack_31 ?_
    refine ww_icmp_lt (pc := 32) (tgt := 37) C dX5_giveBack_32 (by decide) (fun q => ?_) (fun q => ?_)
    · have hf := xip q hf
      refine ww_aload_n (pc := 37) C 2 dX5_giveBack_37 rfl ?_
      refine ww_aload_n (pc := 38) C 1 dX5_giveBack_38 rfl ?_
      obtain ⟨z8, e7, hf⟩ := xbd hf
      refine gf_X5_11 (pc := 39) C e7 dX5_giveBack_39 ?_
      refine ww_iload_n (pc := 42) C 0 dX5_giveBack_42 rfl ?_
      obtain ⟨z10, e9, hf⟩ := xbd hf
      refine ww_aald (pc := 43) (by decide) C e9 dX5_giveBack_43 ?_
      obtain ⟨_, e11, hf⟩ := xbd hf
      obtain ⟨σ13, e12, hf⟩ := xbd hf
      refine ww_callVv (pc := 44) (as := [.ref (gB G + z10)]) (st := []) C (k_X6_copyFrom (l := gl G) (E := gE G) (hb := gB G) (σ := σ) e12) rfl (by decide) xc_X5_25 q672 qp33 (xck_spec e11) rfl (by decide) (xst4 (Nat.le_of_ble_eq_true rfl)) (m_X6_copyFrom e12).le (m_X6_copyFrom e12).lim dX5_giveBack_44 ?_
      refine ww_aload_n (pc := 47) C 1 dX5_giveBack_47 rfl ?_
      refine ww_iload_n (pc := 48) C 0 dX5_giveBack_48 rfl ?_
      obtain ⟨σ15, e14, hf⟩ := xbd hf
      refine pf_X5_18 (pc := 49) C e14 dX5_giveBack_49 ?_
      refine ww_aload_n (pc := 52) C 1 dX5_giveBack_52 rfl ?_
      refine ww_dup (pc := 53) C dX5_giveBack_53 rfl ?_
      obtain ⟨v17, e16, hf⟩ := xbd hf
      refine gf_X5_22 (pc := 54) C e16 dX5_giveBack_54 ?_
      refine ww_iconst (pc := 57) (v := (1 : Int32)) C dX5_giveBack_57 (by decide) ?_
      refine ww_isub (pc := 58) C dX5_giveBack_58 ?_
      obtain ⟨σ19, e18, hf⟩ := xbd hf
      refine pf_X5_22 (pc := 59) C e18 dX5_giveBack_59 ?_
      refine ww_iconst (pc := 62) (v := (1 : Int32)) C dX5_giveBack_62 (by decide) ?_
      have hf := xsj hf
      subst hf
      exact ww_zret (pc := 63) C rfl hk dX5_giveBack_63
    · have hf := xin q hf
      refine ww_iconst (pc := 35) (v := (0 : Int32)) C dX5_giveBack_35 (by decide) ?_
      have hf := xsj hf
      subst hf
      exact ww_zret (pc := 36) C rfl hk dX5_giveBack_36
theorem m_X5_giveBack_j18 {σ : XS} {r0 : Nat} {r1 : Nat} {t0 : Int32} {x : Int32 × XS} (hf : f_X5_giveBack_j18 σ r0 r1 t0 = some x) : xsame σ x.2 := by
  have hm := xsame.rf (σ := σ)
  obtain ⟨v2, e1, hf⟩ := xbd hf
  by_cases q : v2 = 0
  · have hf := xip q hf
    have hf := xsj hf
    subst hf
    exact hm
  · have hf := xin q hf
    obtain ⟨z4, e3, hf⟩ := xbd hf
    obtain ⟨v6, e5, hf⟩ := xbd hf
    by_cases q : t0 < v6
    · have hf := xip q hf
      obtain ⟨z8, e7, hf⟩ := xbd hf
      obtain ⟨z10, e9, hf⟩ := xbd hf
      obtain ⟨_, e11, hf⟩ := xbd hf
      obtain ⟨σ13, e12, hf⟩ := xbd hf
      have hm := hm.tr (m_X6_copyFrom e12)
      obtain ⟨σ15, e14, hf⟩ := xbd hf
      have hm := hm.tr (xpI_same e14)
      obtain ⟨v17, e16, hf⟩ := xbd hf
      obtain ⟨σ19, e18, hf⟩ := xbd hf
      have hm := hm.tr (xpI_same e18)
      have hf := xsj hf
      subst hf
      exact hm
    · have hf := xin q hf
      have hf := xsj hf
      subst hf
      exact hm
theorem s_X5_giveBack_e {G : XG} (C : XC G cX5_giveBack RX5 (some .boolean) 3 2 61) {σ : XS} {r0 : Nat} {r1 : Nat} {x : Int32 × XS} (hf : f_X5_giveBack σ r0 r1 = some x) (hk : XEnd G (some (.int x.1)) x.2) : WW G 0 [(0, .ref (gB G + r0)), (1, .ref (gB G + r1))] [] σ := by
  refine ww_aload_n (pc := 0) C 0 dX5_giveBack_0 rfl ?_
  obtain ⟨v2, e1, hf⟩ := xbd hf
  refine gf_X5_18 (pc := 1) C e1 dX5_giveBack_1 ?_
  refine ww_if_le (pc := 4) (tgt := 16) C dX5_giveBack_4 (by decide) (fun q => ?_) (fun q => ?_)
  · have hf := xip q hf
    refine ww_bipush (pc := 16) (v := (39 : Int32)) C dX5_giveBack_16 (by decide) ?_
    refine ww_sub [0, 1] rfl ?_
    exact s_X5_giveBack_j18 C hf hk
  · have hf := xin q hf
    refine ww_aload_n (pc := 7) C 0 dX5_giveBack_7 rfl ?_
    obtain ⟨v4, e3, hf⟩ := xbd hf
    refine gf_X5_18 (pc := 8) C e3 dX5_giveBack_8 ?_
    refine ww_iconst (pc := 11) (v := (1 : Int32)) C dX5_giveBack_11 (by decide) ?_
    refine ww_isub (pc := 12) C dX5_giveBack_12 ?_
    refine ww_goto (pc := 13) (tgt := 18) C dX5_giveBack_13 (by decide) ?_
    refine ww_sub [0, 1] rfl ?_
    exact s_X5_giveBack_j18 C hf hk
theorem m_X5_giveBack {σ : XS} {r0 : Nat} {r1 : Nat} {x : Int32 × XS} (hf : f_X5_giveBack σ r0 r1 = some x) : xsame σ x.2 := by
  have hm := xsame.rf (σ := σ)
  obtain ⟨v2, e1, hf⟩ := xbd hf
  by_cases q : v2 ≤ 0
  · have hf := xip q hf
    exact hm.tr (m_X5_giveBack_j18 hf)
  · have hf := xin q hf
    obtain ⟨v4, e3, hf⟩ := xbd hf
    exact hm.tr (m_X5_giveBack_j18 hf)
theorem k_X5_giveBack {l : Launch} {E : XD} {hb : Nat} {σ : XS} {r0 : Nat} {r1 : Nat} {x : Int32 × XS} (h : f_X5_giveBack σ r0 r1 = some x) : XM l yX5_giveBack cX5_giveBack 3 (some .boolean) 2 61 E hb [.ref (hb + r0), .ref (hb + r1)] σ (some (.int x.1)) x.2 := by
  refine xm_of (by decide) (Nat.le_of_ble_eq_true rfl) (m_X5_giveBack h).le (fun G hG C hl hQ => ?_)
  obtain ⟨rfl, rfl, rfl, hN⟩ := hG
  exact s_X5_giveBack_e C h hQ
noncomputable def f_X11_undo (σ : XS) (r0 : Nat) : Option (Int32 × XS) := (xgR σ r0 11 4).bind fun z2 => (xgR σ r0 11 3).bind fun z4 => (xck σ z2 5).bind fun _ => (f_X5_giveBack σ z2 z4).bind fun (v8, σ7) => (xbz v8).bind fun _ => some (v8, σ7)
theorem s_X11_undo_e {G : XG} (C : XC G cX11_undo RX11 (some .boolean) 1 3 83) {σ : XS} {r0 : Nat} {x : Int32 × XS} (hf : f_X11_undo σ r0 = some x) (hk : XEnd G (some (.int x.1)) x.2) : WW G 0 [(0, .ref (gB G + r0))] [] σ := by
  refine ww_aload_n (pc := 0) C 0 dX11_undo_0 rfl ?_
  obtain ⟨z2, e1, hf⟩ := xbd hf
  refine gf_X11_38 (pc := 1) C e1 dX11_undo_1 ?_
  refine ww_aload_n (pc := 4) C 0 dX11_undo_4 rfl ?_
  obtain ⟨z4, e3, hf⟩ := xbd hf
  refine gf_X11_31 (pc := 5) C e3 dX11_undo_5 ?_
  obtain ⟨_, e5, hf⟩ := xbd hf
  obtain ⟨⟨v8, σ7⟩, e6, hf⟩ := xbd hf
  dsimp only at hf
  refine ww_callVi (pc := 8) (as := [.ref (gB G + z4)]) (st := []) C (k_X5_giveBack (l := gl G) (E := gE G) (hb := gB G) (σ := σ) e6) rfl (by decide) xc_X11_222 q795 qp48 (xck_spec e5) rfl (by decide) (xst4 (Nat.le_of_ble_eq_true rfl)) (m_X5_giveBack e6).le (m_X5_giveBack e6).lim dX11_undo_8 ?_
  obtain ⟨_, e9, hf⟩ := xbd hf
  have hf := xsj hf
  subst hf
  exact ww_zret (pc := 11) C (xbz_nar e9) hk dX11_undo_11
theorem m_X11_undo {σ : XS} {r0 : Nat} {x : Int32 × XS} (hf : f_X11_undo σ r0 = some x) : xsame σ x.2 := by
  have hm := xsame.rf (σ := σ)
  obtain ⟨z2, e1, hf⟩ := xbd hf
  obtain ⟨z4, e3, hf⟩ := xbd hf
  obtain ⟨_, e5, hf⟩ := xbd hf
  obtain ⟨⟨v8, σ7⟩, e6, hf⟩ := xbd hf
  dsimp only at hf
  have hm := hm.tr (m_X5_giveBack e6)
  obtain ⟨_, e9, hf⟩ := xbd hf
  have hf := xsj hf
  subst hf
  exact hm
theorem k_X11_undo {l : Launch} {E : XD} {hb : Nat} {σ : XS} {r0 : Nat} {x : Int32 × XS} (h : f_X11_undo σ r0 = some x) : XM l yX11_undo cX11_undo 1 (some .boolean) 3 83 E hb [.ref (hb + r0)] σ (some (.int x.1)) x.2 := by
  refine xm_of (by decide) (Nat.le_of_ble_eq_true rfl) (m_X11_undo h).le (fun G hG C hl hQ => ?_)
  obtain ⟨rfl, rfl, rfl, hN⟩ := hG
  exact s_X11_undo_e C h hQ
noncomputable def f_X11_value_b39 (σ : XS) (x1 : Int32) (r2 : Nat) : Int64 × Int64 × Int32 → Option ((Int64 × Int64 × Int32) ⊕ (Int32 × XS)) := fun a => match a with
  | (w3, w5, x7) => if (144 : Int32) < x7 then ((some (w3.toInt32, σ)).map .inr) else (xck σ r2 4).bind fun _ => (f_X4_waysOf σ r2 x7).bind fun v3 => some (.inl ((w3 + (v3.toInt64 * w5)) - (w3 + (v3.toInt64 * w5)) / (1000003 : Int64) * (1000003 : Int64), (w5 * x1.toInt64) - (w5 * x1.toInt64) / (1000003 : Int64) * (1000003 : Int64), x7 + (1 : Int32)))
noncomputable def f_X11_value_j17 (σ : XS) (x1 : Int32) (t0 : Nat) : Option (Int32 × XS) := (xgI σ t0 4 4).bind fun v2 => if v2 = 0 then (some ((0 : Int32), σ)) else (xck σ t0 4).bind fun _ => (f_X4_energyOf σ t0 (0 : Int32)).bind fun v5 => xloop (f_X11_value_b39 σ x1 t0) ((0 : Int64), (1 : Int64), v5)
noncomputable def f_X11_value (σ : XS) (r0 : Nat) (x1 : Int32) : Option (Int32 × XS) := if x1 < 0 then (some ((-1 : Int32), σ)) else if x1 < (1000003 : Int32) then ((xck σ r0 11).bind fun _ => (f_X11_levelsNow σ r0).bind fun (z4, σ3) => (xnz z4).bind fun _ => f_X11_value_j17 σ3 x1 z4) else some ((-1 : Int32), σ)
theorem m_X11_value_l39 {σ : XS} {x1 : Int32} {r2 : Nat} {a : Int64 × Int64 × Int32} {x : Int32 × XS} (hf : xloop (f_X11_value_b39 σ x1 r2) a = some x) : xext σ x.2 := by
  refine xloop_ind (P := fun a => xext σ x.2) (fun a y hf hc he => ?_) hf
  obtain ⟨w3, w5, x7⟩ := a
  have hy : (∀ a' : Int64 × Int64 × Int32, y = .inl a' → True) ∧ (∀ b1 : Int32 × XS, y = .inr b1 → xext σ b1.2) := by
    have hm := xext.rf (σ := σ)
    by_cases q : (144 : Int32) < x7
    · have hf := xip q hf
      obtain ⟨b0, hg, e9⟩ := xmj hf
      subst e9
      have hf := hg
      refine ⟨fun a' e => xnc2 e, fun b e => ?_⟩
      have h9 := Sum.inr.inj e
      subst h9
      have hf := xsj hf
      subst hf
      exact hm
    · have hf := xin q hf
      obtain ⟨_, e1, hf⟩ := xbd hf
      obtain ⟨v3, e2, hf⟩ := xbd hf
      have hf := xsj hf
      subst hf
      exact ⟨fun a' e => (by have h9 := Sum.inl.inj e; subst h9; exact trivial), fun b e => xnc1 e⟩
  cases y with
  | inl a' =>
    have h1 := hc a' rfl
    exact h1
  | inr b =>
    have h1 := he b rfl
    subst h1
    exact hy.2 _ rfl
theorem s_X11_value_l39 {G : XG} (C : XC G cX11_value RX11 (some .int) 8 5 115) {σ : XS} {x1 : Int32} {r2 : Nat} {a : Int64 × Int64 × Int32} {x : Int32 × XS} (hf : xloop (f_X11_value_b39 σ x1 r2) a = some x) (hk : XEnd G (some (.int x.1)) x.2 ∧ XUp G x.2) : WW G 39 [(1, .int x1), (2, .ref (gB G + r2)), (3, .long a.1), (5, .long a.2.1), (7, .int a.2.2)] [] σ := by
  refine xloop_ind (P := fun a => WW G 39 [(1, .int x1), (2, .ref (gB G + r2)), (3, .long a.1), (5, .long a.2.1), (7, .int a.2.2)] [] σ) (fun a y hf hc he => ?_) hf
  obtain ⟨w3, w5, x7⟩ := a
  have hk : (∀ a' : Int64 × Int64 × Int32, y = .inl a' → WW G 39 [(1, .int x1), (2, .ref (gB G + r2)), (3, .long a'.1), (5, .long a'.2.1), (7, .int a'.2.2)] [] σ) ∧ (∀ b1 : Int32 × XS, y = .inr b1 → XEnd G (some (.int b1.1)) b1.2 ∧ XUp G b1.2) := ⟨hc, fun b e => by have h9 := he b e; subst h9; exact hk⟩
  refine ww_iload (pc := 39) C 4 dX11_value_39 rfl ?_
  refine ww_sipush (pc := 41) (v := (144 : Int32)) C dX11_value_41 (by decide) ?_
  refine ww_icmp_gt (pc := 44) (tgt := 81) C dX11_value_44 (by decide) (fun q => ?_) (fun q => ?_)
  · have hf := xip q hf
    obtain ⟨b0, hg, e9⟩ := xmj hf
    subst e9
    have hf := hg
    have hk := hk.2 _ rfl
    refine ww_lload_n (pc := 81) C 2 dX11_value_81 rfl ?_
    refine ww_l2i (pc := 82) (v := w3.toInt32) C dX11_value_82 rfl ?_
    have hf := xsj hf
    subst hf
    exact ww_iret (pc := 83) C hk.1 dX11_value_83
  · have hf := xin q hf
    refine ww_lload_n (pc := 47) C 2 dX11_value_47 rfl ?_
    refine ww_aload_n (pc := 48) C 1 dX11_value_48 rfl ?_
    refine ww_iload (pc := 49) C 4 dX11_value_49 rfl ?_
    obtain ⟨_, e1, hf⟩ := xbd hf
    obtain ⟨v3, e2, hf⟩ := xbd hf
    refine ww_callVi (pc := 51) (as := [.int x7]) (st := [.long w3]) C (k_X4_waysOf (l := gl G) (E := gE G) (hb := gB G) (σ := σ) e2) rfl (by decide) xc_X11_264 q906 qp69 (xck_spec e1) rfl (by decide) (xst4 (Nat.le_of_ble_eq_true rfl)) xsame.rf.le xsame.rf.lim dX11_value_51 ?_
    refine ww_i2l (pc := 54) (v := v3.toInt64) C dX11_value_54 rfl ?_
    refine ww_lload (pc := 55) C 3 dX11_value_55 rfl ?_
    refine ww_lmul (pc := 57) C dX11_value_57 ?_
    refine ww_ladd (pc := 58) C dX11_value_58 ?_
    refine ww_ldc2 (pc := 59) C q996 dX11_value_59 ?_
    refine ww_lrem (pc := 62) C dX11_value_62 (by decide) ?_
    refine ww_lstore_n (pc := 63) (lv' := [(3, .long ((w3 + (v3.toInt64 * w5)) - (w3 + (v3.toInt64 * w5)) / (1000003 : Int64) * (1000003 : Int64))), (1, .int x1), (2, .ref (gB G + r2)), (5, .long w5), (7, .int x7)]) C dX11_value_63 (by decide) rfl ?_
    refine ww_lload (pc := 64) C 3 dX11_value_64 rfl ?_
    refine ww_iload_n (pc := 66) C 1 dX11_value_66 rfl ?_
    refine ww_i2l (pc := 67) (v := x1.toInt64) C dX11_value_67 rfl ?_
    refine ww_lmul (pc := 68) C dX11_value_68 ?_
    refine ww_ldc2 (pc := 69) C q996 dX11_value_69 ?_
    refine ww_lrem (pc := 72) C dX11_value_72 (by decide) ?_
    refine ww_lstore (pc := 73) (lv' := [(5, .long ((w5 * x1.toInt64) - (w5 * x1.toInt64) / (1000003 : Int64) * (1000003 : Int64))), (3, .long ((w3 + (v3.toInt64 * w5)) - (w3 + (v3.toInt64 * w5)) / (1000003 : Int64) * (1000003 : Int64))), (1, .int x1), (2, .ref (gB G + r2)), (7, .int x7)]) C dX11_value_73 (by decide) rfl ?_
    refine ww_iinc (pc := 75) (v := x7 + (1 : Int32)) (lv' := [(7, .int (x7 + (1 : Int32))), (5, .long ((w5 * x1.toInt64) - (w5 * x1.toInt64) / (1000003 : Int64) * (1000003 : Int64))), (3, .long ((w3 + (v3.toInt64 * w5)) - (w3 + (v3.toInt64 * w5)) / (1000003 : Int64) * (1000003 : Int64))), (1, .int x1), (2, .ref (gB G + r2))]) C 4 dX11_value_75 rfl (congrArg (fun z => x7 + z) (show Int32.ofInt (1) = (1 : Int32) by decide)) (by decide) rfl ?_
    refine ww_goto (pc := 78) (tgt := 39) C dX11_value_78 (by decide) ?_
    have hf := xsj hf
    subst hf
    refine ww_sub [3, 4, 2, 1, 0] rfl ?_
    exact hk.1 ((w3 + (v3.toInt64 * w5)) - (w3 + (v3.toInt64 * w5)) / (1000003 : Int64) * (1000003 : Int64), (w5 * x1.toInt64) - (w5 * x1.toInt64) / (1000003 : Int64) * (1000003 : Int64), x7 + (1 : Int32)) rfl
theorem s_X11_value_j17 {G : XG} (C : XC G cX11_value RX11 (some .int) 8 5 115) {σ : XS} {x1 : Int32} {t0 : Nat} {x : Int32 × XS} (hf : f_X11_value_j17 σ x1 t0 = some x) (hk : XEnd G (some (.int x.1)) x.2 ∧ XUp G x.2) : WW G 17 [(1, .int x1)] [.ref (gB G + t0)] σ := by
  refine ww_astore_n (pc := 17) (lv' := [(2, .ref (gB G + t0)), (1, .int x1)]) C dX11_value_17 (by decide) rfl ?_
  refine ww_aload_n (pc := 18) C 0 dX11_value_18 rfl ?_
  obtain ⟨v2, e1, hf⟩ := xbd hf
  refine gf_X11_255 (pc := 19) C e1 dX11_value_19 ?_
  refine ww_if_ne (pc := 22) (tgt := 27) C dX11_value_22 (by decide) (fun q => ?_) (fun q => ?_)
  · have hf := xin q hf
    refine ww_lconst (pc := 27) (v := (0 : Int64)) C dX11_value_27 (by decide) ?_
    refine ww_lstore_n (pc := 28) (lv' := [(3, .long (0 : Int64)), (2, .ref (gB G + t0)), (1, .int x1)]) C dX11_value_28 (by decide) rfl ?_
    refine ww_lconst (pc := 29) (v := (1 : Int64)) C dX11_value_29 (by decide) ?_
    refine ww_lstore (pc := 30) (lv' := [(5, .long (1 : Int64)), (3, .long (0 : Int64)), (2, .ref (gB G + t0)), (1, .int x1)]) C dX11_value_30 (by decide) rfl ?_
    refine ww_aload_n (pc := 32) C 2 dX11_value_32 rfl ?_
    refine ww_iconst (pc := 33) (v := (0 : Int32)) C dX11_value_33 (by decide) ?_
    obtain ⟨_, e3, hf⟩ := xbd hf
    obtain ⟨v5, e4, hf⟩ := xbd hf
    refine ww_callVi (pc := 34) (as := [.int (0 : Int32)]) (st := []) C (k_X4_energyOf (l := gl G) (E := gE G) (hb := gB G) (σ := σ) e4) rfl (by decide) xc_X11_261 q902 qp68 (xck_spec e3) rfl (by decide) (xst4 (Nat.le_of_ble_eq_true rfl)) xsame.rf.le xsame.rf.lim dX11_value_34 ?_
    refine ww_istore (pc := 37) (lv' := [(7, .int v5), (5, .long (1 : Int64)), (3, .long (0 : Int64)), (2, .ref (gB G + t0)), (1, .int x1)]) C dX11_value_37 (by decide) rfl ?_
    refine ww_sub [4, 3, 2, 1, 0] rfl ?_
    exact s_X11_value_l39 C (a := ((0 : Int64), (1 : Int64), v5)) hf hk
  · have hf := xip q hf
    refine ww_iconst (pc := 25) (v := (0 : Int32)) C dX11_value_25 (by decide) ?_
    have hf := xsj hf
    subst hf
    exact ww_iret (pc := 26) C hk.1 dX11_value_26
theorem m_X11_value_j17 {σ : XS} {x1 : Int32} {t0 : Nat} {x : Int32 × XS} (hf : f_X11_value_j17 σ x1 t0 = some x) : xext σ x.2 := by
  have hm := xext.rf (σ := σ)
  obtain ⟨v2, e1, hf⟩ := xbd hf
  by_cases q : v2 = 0
  · have hf := xip q hf
    have hf := xsj hf
    subst hf
    exact hm
  · have hf := xin q hf
    obtain ⟨_, e3, hf⟩ := xbd hf
    obtain ⟨v5, e4, hf⟩ := xbd hf
    exact hm.tr (m_X11_value_l39 (a := ((0 : Int64), (1 : Int64), v5)) hf)
theorem s_X11_value_e {G : XG} (C : XC G cX11_value RX11 (some .int) 8 5 115) {σ : XS} {r0 : Nat} {x1 : Int32} {x : Int32 × XS} (hf : f_X11_value σ r0 x1 = some x) (hk : XEnd G (some (.int x.1)) x.2 ∧ XUp G x.2) : WW G 0 [(0, .ref (gB G + r0)), (1, .int x1)] [] σ := by
  refine ww_iload_n (pc := 0) C 1 dX11_value_0 rfl ?_
  refine ww_if_lt (pc := 1) (tgt := 11) C dX11_value_1 (by decide) (fun q => ?_) (fun q => ?_)
  · have hf := xip q hf
    refine ww_iconst (pc := 11) (v := (-1 : Int32)) C dX11_value_11 (by decide) ?_
    have hf := xsj hf
    subst hf
    exact ww_iret (pc := 12) C hk.1 dX11_value_12
  · have hf := xin q hf
    refine ww_iload_n (pc := 4) C 1 dX11_value_4 rfl ?_
    refine ww_ldcw (pc := 5) C q995 dX11_value_5 ?_
    refine ww_icmp_lt (pc := 8) (tgt := 13) C dX11_value_8 (by decide) (fun q => ?_) (fun q => ?_)
    · have hf := xip q hf
      refine ww_aload_n (pc := 13) C 0 dX11_value_13 rfl ?_
      obtain ⟨_, e1, hf⟩ := xbd hf
      obtain ⟨⟨z4, σ3⟩, e2, hf⟩ := xbd hf
      dsimp only at hf
      obtain ⟨_, e5, hf⟩ := xbd hf
      refine ww_callVr (pc := 14) (as := []) (st := []) C (k_X11_levelsNow (l := gl G) (E := gE G) (hb := gB G) (σ := σ) e2) rfl (by decide) xc_X11_251 q846 qp56 (xck_spec e1) rfl (by decide) (xst4 (Nat.le_of_ble_eq_true rfl)) (m_X11_levelsNow e2).1 (fun q => by have hm9 := m_X11_value_j17 hf; exact XLim.mid q (m_X11_levelsNow e2) hm9 hk.2) dX11_value_14 ?_
      refine ww_nn (xnz_spec e5) ?_
      refine ww_sub [1] rfl ?_
      exact s_X11_value_j17 C hf hk
    · have hf := xin q hf
      refine ww_iconst (pc := 11) (v := (-1 : Int32)) C dX11_value_11 (by decide) ?_
      have hf := xsj hf
      subst hf
      exact ww_iret (pc := 12) C hk.1 dX11_value_12
theorem m_X11_value {σ : XS} {r0 : Nat} {x1 : Int32} {x : Int32 × XS} (hf : f_X11_value σ r0 x1 = some x) : xext σ x.2 := by
  have hm := xext.rf (σ := σ)
  by_cases q : x1 < 0
  · have hf := xip q hf
    have hf := xsj hf
    subst hf
    exact hm
  · have hf := xin q hf
    by_cases q : x1 < (1000003 : Int32)
    · have hf := xip q hf
      obtain ⟨_, e1, hf⟩ := xbd hf
      obtain ⟨⟨z4, σ3⟩, e2, hf⟩ := xbd hf
      dsimp only at hf
      have hm := hm.tr (m_X11_levelsNow e2)
      obtain ⟨_, e5, hf⟩ := xbd hf
      exact hm.tr (m_X11_value_j17 hf)
    · have hf := xin q hf
      have hf := xsj hf
      subst hf
      exact hm
theorem k_X11_value {l : Launch} {E : XD} {hb : Nat} {σ : XS} {r0 : Nat} {x1 : Int32} {x : Int32 × XS} (h : f_X11_value σ r0 x1 = some x) : XM l yX11_value cX11_value 8 (some .int) 5 115 E hb [.ref (hb + r0), .int x1] σ (some (.int x.1)) x.2 := by
  refine xm_of (by decide) (Nat.le_of_ble_eq_true rfl) (m_X11_value h).1 (fun G hG C hl hQ => ?_)
  obtain ⟨rfl, rfl, rfl, hN⟩ := hG
  exact s_X11_value_e C h ⟨hQ, hl.2⟩
noncomputable def f_X11_wander (σ : XS) (r0 : Nat) (x1 : Int32) (x2 : Int32) (x3 : Int32) : Option (Int32 × XS) := if x1 < 0 then (some ((-100000 : Int32), σ)) else if (200 : Int32) < x1 then (some ((-100000 : Int32), σ)) else if x2 < 0 then (some ((-100000 : Int32), σ)) else if (100 : Int32) < x2 then (some ((-100000 : Int32), σ)) else (xgR σ r0 11 2).bind fun z2 => (xgI σ z2 3 7).bind fun v4 => if v4 = 0 then (some ((-100000 : Int32), σ)) else (xgR σ r0 11 11).bind fun z6 => (xgR σ r0 11 2).bind fun z8 => (xgR σ r0 11 3).bind fun z10 => (xck σ z6 10).bind fun _ => (f_X10_strollFrom σ z6 z8 z10 x1 x2).bind fun σ13 => xsw x3 (0) [(xgR σ13 r0 11 11).bind fun z15 => (xgI σ13 z15 10 0).bind fun v17 => some (v17, σ13), (xgR σ13 r0 11 11).bind fun z15 => (xgI σ13 z15 10 2).bind fun v17 => some (v17, σ13), (xgR σ13 r0 11 11).bind fun z15 => (xgI σ13 z15 10 1).bind fun v17 => some (v17, σ13)] (some ((-100000 : Int32), σ13))
theorem s_X11_wander_e {G : XG} (C : XC G cX11_wander RX11 (some .int) 4 4 97) {σ : XS} {r0 : Nat} {x1 : Int32} {x2 : Int32} {x3 : Int32} {x : Int32 × XS} (hf : f_X11_wander σ r0 x1 x2 x3 = some x) (hk : XEnd G (some (.int x.1)) x.2) : WW G 0 [(0, .ref (gB G + r0)), (1, .int x1), (2, .int x2), (3, .int x3)] [] σ := by
  refine ww_iload_n (pc := 0) C 1 dX11_wander_0 rfl ?_
  refine ww_if_lt (pc := 1) (tgt := 31) C dX11_wander_1 (by decide) (fun q => ?_) (fun q => ?_)
  · have hf := xip q hf
    refine ww_ldc (pc := 31) C q801 dX11_wander_31 ?_
    have hf := xsj hf
    subst hf
    exact ww_iret (pc := 33) C hk dX11_wander_33
  · have hf := xin q hf
    refine ww_iload_n (pc := 4) C 1 dX11_wander_4 rfl ?_
    refine ww_sipush (pc := 5) (v := (200 : Int32)) C dX11_wander_5 (by decide) ?_
    refine ww_icmp_gt (pc := 8) (tgt := 31) C dX11_wander_8 (by decide) (fun q => ?_) (fun q => ?_)
    · have hf := xip q hf
      refine ww_ldc (pc := 31) C q801 dX11_wander_31 ?_
      have hf := xsj hf
      subst hf
      exact ww_iret (pc := 33) C hk dX11_wander_33
    · have hf := xin q hf
      refine ww_iload_n (pc := 11) C 2 dX11_wander_11 rfl ?_
      refine ww_if_lt (pc := 12) (tgt := 31) C dX11_wander_12 (by decide) (fun q => ?_) (fun q => ?_)
      · have hf := xip q hf
        refine ww_ldc (pc := 31) C q801 dX11_wander_31 ?_
        have hf := xsj hf
        subst hf
        exact ww_iret (pc := 33) C hk dX11_wander_33
      · have hf := xin q hf
        refine ww_iload_n (pc := 15) C 2 dX11_wander_15 rfl ?_
        refine ww_bipush (pc := 16) (v := (100 : Int32)) C dX11_wander_16 (by decide) ?_
        refine ww_icmp_gt (pc := 18) (tgt := 31) C dX11_wander_18 (by decide) (fun q => ?_) (fun q => ?_)
        · have hf := xip q hf
          refine ww_ldc (pc := 31) C q801 dX11_wander_31 ?_
          have hf := xsj hf
          subst hf
          exact ww_iret (pc := 33) C hk dX11_wander_33
        · have hf := xin q hf
          refine ww_aload_n (pc := 21) C 0 dX11_wander_21 rfl ?_
          obtain ⟨z2, e1, hf⟩ := xbd hf
          refine gf_X11_24 (pc := 22) C e1 dX11_wander_22 ?_
          obtain ⟨v4, e3, hf⟩ := xbd hf
          refine gf_X11_197 (pc := 25) C e3 dX11_wander_25 ?_
          refine ww_if_ne (pc := 28) (tgt := 34) C dX11_wander_28 (by decide) (fun q => ?_) (fun q => ?_)
          · have hf := xin q hf
            refine ww_aload_n (pc := 34) C 0 dX11_wander_34 rfl ?_
            obtain ⟨z6, e5, hf⟩ := xbd hf
            refine gf_X11_83 (pc := 35) C e5 dX11_wander_35 ?_
            refine ww_aload_n (pc := 38) C 0 dX11_wander_38 rfl ?_
            obtain ⟨z8, e7, hf⟩ := xbd hf
            refine gf_X11_24 (pc := 39) C e7 dX11_wander_39 ?_
            refine ww_aload_n (pc := 42) C 0 dX11_wander_42 rfl ?_
            obtain ⟨z10, e9, hf⟩ := xbd hf
            refine gf_X11_31 (pc := 43) C e9 dX11_wander_43 ?_
            refine ww_iload_n (pc := 46) C 1 dX11_wander_46 rfl ?_
            refine ww_iload_n (pc := 47) C 2 dX11_wander_47 rfl ?_
            obtain ⟨_, e11, hf⟩ := xbd hf
            obtain ⟨σ13, e12, hf⟩ := xbd hf
            refine ww_callVv (pc := 48) (as := [.ref (gB G + z8), .ref (gB G + z10), .int x1, .int x2]) (st := []) C (k_X10_strollFrom (l := gl G) (E := gE G) (hb := gB G) (σ := σ) e12) rfl (by decide) xc_X11_401 q1096 qp93 (xck_spec e11) rfl (by decide) (xst4 (Nat.le_of_ble_eq_true rfl)) (m_X10_strollFrom e12).le (m_X10_strollFrom e12).lim dX11_wander_48 ?_
            refine ww_iload_n (pc := 51) C 3 dX11_wander_51 rfl ?_
            refine ww_table (pc := 52) C dX11_wander_52 (fun k hk1 hk2 => ?_) (fun ho => ?_)
            · rcases (by omega : k = 0 ∨ k = 1 ∨ k = 2) with rfl | rfl | rfl
              · refine ⟨80, 28, rfl, by decide, ?_⟩
                have hf := xsw_in 0 hk1 rfl hf
                refine ww_aload_n (pc := 80) C 0 dX11_wander_80 rfl ?_
                obtain ⟨z15, e14, hf⟩ := xbd hf
                refine gf_X11_83 (pc := 81) C e14 dX11_wander_81 ?_
                obtain ⟨v17, e16, hf⟩ := xbd hf
                refine gf_X11_221 (pc := 84) C e16 dX11_wander_84 ?_
                have hf := xsj hf
                subst hf
                exact ww_iret (pc := 87) C hk dX11_wander_87
              · refine ⟨88, 36, rfl, by decide, ?_⟩
                have hf := xsw_in 1 hk1 rfl hf
                refine ww_aload_n (pc := 88) C 0 dX11_wander_88 rfl ?_
                obtain ⟨z15, e14, hf⟩ := xbd hf
                refine gf_X11_83 (pc := 89) C e14 dX11_wander_89 ?_
                obtain ⟨v17, e16, hf⟩ := xbd hf
                refine gf_X11_405 (pc := 92) C e16 dX11_wander_92 ?_
                have hf := xsj hf
                subst hf
                exact ww_iret (pc := 95) C hk dX11_wander_95
              · refine ⟨96, 44, rfl, by decide, ?_⟩
                have hf := xsw_in 2 hk1 rfl hf
                refine ww_aload_n (pc := 96) C 0 dX11_wander_96 rfl ?_
                obtain ⟨z15, e14, hf⟩ := xbd hf
                refine gf_X11_83 (pc := 97) C e14 dX11_wander_97 ?_
                obtain ⟨v17, e16, hf⟩ := xbd hf
                refine gf_X11_218 (pc := 100) C e16 dX11_wander_100 ?_
                have hf := xsj hf
                subst hf
                exact ww_iret (pc := 103) C hk dX11_wander_103
            · refine ⟨104, by decide, ?_⟩
              have hf := xsw_out ho rfl hf
              refine ww_ldc (pc := 104) C q801 dX11_wander_104 ?_
              have hf := xsj hf
              subst hf
              exact ww_iret (pc := 106) C hk dX11_wander_106
          · have hf := xip q hf
            refine ww_ldc (pc := 31) C q801 dX11_wander_31 ?_
            have hf := xsj hf
            subst hf
            exact ww_iret (pc := 33) C hk dX11_wander_33
theorem m_X11_wander {σ : XS} {r0 : Nat} {x1 : Int32} {x2 : Int32} {x3 : Int32} {x : Int32 × XS} (hf : f_X11_wander σ r0 x1 x2 x3 = some x) : xsame σ x.2 := by
  have hm := xsame.rf (σ := σ)
  by_cases q : x1 < 0
  · have hf := xip q hf
    have hf := xsj hf
    subst hf
    exact hm
  · have hf := xin q hf
    by_cases q : (200 : Int32) < x1
    · have hf := xip q hf
      have hf := xsj hf
      subst hf
      exact hm
    · have hf := xin q hf
      by_cases q : x2 < 0
      · have hf := xip q hf
        have hf := xsj hf
        subst hf
        exact hm
      · have hf := xin q hf
        by_cases q : (100 : Int32) < x2
        · have hf := xip q hf
          have hf := xsj hf
          subst hf
          exact hm
        · have hf := xin q hf
          obtain ⟨z2, e1, hf⟩ := xbd hf
          obtain ⟨v4, e3, hf⟩ := xbd hf
          by_cases q : v4 = 0
          · have hf := xip q hf
            have hf := xsj hf
            subst hf
            exact hm
          · have hf := xin q hf
            obtain ⟨z6, e5, hf⟩ := xbd hf
            obtain ⟨z8, e7, hf⟩ := xbd hf
            obtain ⟨z10, e9, hf⟩ := xbd hf
            obtain ⟨_, e11, hf⟩ := xbd hf
            obtain ⟨σ13, e12, hf⟩ := xbd hf
            have hm := hm.tr (m_X10_strollFrom e12)
            by_cases ho : (x3).toInt < 0 ∨ 2 < (x3).toInt
            · have hf := xsw_out ho rfl hf
              have hf := xsj hf
              subst hf
              exact hm
            · rcases (by omega : (x3).toInt = 0 + ((0 : Nat) : Int) ∨ (x3).toInt = 0 + ((1 : Nat) : Int) ∨ (x3).toInt = 0 + ((2 : Nat) : Int)) with hk1 | hk1 | hk1
              · have hf := xsw_in 0 hk1 rfl hf
                obtain ⟨z15, e14, hf⟩ := xbd hf
                obtain ⟨v17, e16, hf⟩ := xbd hf
                have hf := xsj hf
                subst hf
                exact hm
              · have hf := xsw_in 1 hk1 rfl hf
                obtain ⟨z15, e14, hf⟩ := xbd hf
                obtain ⟨v17, e16, hf⟩ := xbd hf
                have hf := xsj hf
                subst hf
                exact hm
              · have hf := xsw_in 2 hk1 rfl hf
                obtain ⟨z15, e14, hf⟩ := xbd hf
                obtain ⟨v17, e16, hf⟩ := xbd hf
                have hf := xsj hf
                subst hf
                exact hm
theorem k_X11_wander {l : Launch} {E : XD} {hb : Nat} {σ : XS} {r0 : Nat} {x1 : Int32} {x2 : Int32} {x3 : Int32} {x : Int32 × XS} (h : f_X11_wander σ r0 x1 x2 x3 = some x) : XM l yX11_wander cX11_wander 4 (some .int) 4 97 E hb [.ref (hb + r0), .int x1, .int x2, .int x3] σ (some (.int x.1)) x.2 := by
  refine xm_of (by decide) (Nat.le_of_ble_eq_true rfl) (m_X11_wander h).le (fun G hG C hl hQ => ?_)
  obtain ⟨rfl, rfl, rfl, hN⟩ := hG
  exact s_X11_wander_e C h hQ
noncomputable def f_X12_appends (w0 : Int64) (x2 : Int32) : Option Int64 := if x2 = 0 then (some w0) else some (((27 : Int64) * w0) + (((x2 - (97 : Int32)) + (1 : Int32)).toInt64))
theorem s_X12_appends_e {G : XG} (C : XC G cX12_appends RX12 (some .long) 3 0 0) {σ : XS} {w0 : Int64} {x2 : Int32} {x : Int64} (hf : f_X12_appends w0 x2 = some x) (hk : XEnd G (some (.long x)) σ) : WW G 0 [(0, .long w0), (2, .int x2)] [] σ := by
  refine ww_iload_n (pc := 0) C 1 dX12_appends_0 rfl ?_
  refine ww_if_ne (pc := 1) (tgt := 8) C dX12_appends_1 (by decide) (fun q => ?_) (fun q => ?_)
  · have hf := xin q hf
    refine ww_ldc2 (pc := 8) C q1265 dX12_appends_8 ?_
    refine ww_lload_n (pc := 11) C 0 dX12_appends_11 rfl ?_
    refine ww_lmul (pc := 12) C dX12_appends_12 ?_
    refine ww_iload_n (pc := 13) C 1 dX12_appends_13 rfl ?_
    refine ww_bipush (pc := 14) (v := (97 : Int32)) C dX12_appends_14 (by decide) ?_
    refine ww_isub (pc := 16) C dX12_appends_16 ?_
    refine ww_iconst (pc := 17) (v := (1 : Int32)) C dX12_appends_17 (by decide) ?_
    refine ww_iadd (pc := 18) C dX12_appends_18 ?_
    refine ww_i2l (pc := 19) (v := ((x2 - (97 : Int32)) + (1 : Int32)).toInt64) C dX12_appends_19 rfl ?_
    refine ww_ladd (pc := 20) C dX12_appends_20 ?_
    have hf := xsj hf
    subst hf
    exact ww_lret (pc := 21) C hk dX12_appends_21
  · have hf := xip q hf
    refine ww_lload_n (pc := 4) C 0 dX12_appends_4 rfl ?_
    refine ww_goto (pc := 5) (tgt := 21) C dX12_appends_5 (by decide) ?_
    have hf := xsj hf
    subst hf
    exact ww_lret (pc := 21) C hk dX12_appends_21
theorem k_X12_appends {l : Launch} {E : XD} {hb : Nat} {σ : XS} {w0 : Int64} {x2 : Int32} {x : Int64} (h : f_X12_appends w0 x2 = some x) : XM l yX12_appends cX12_appends 3 (some .long) 0 0 E hb [.long w0, .int x2] σ (some (.long x)) σ := by
  refine xm_of (by decide) (Nat.le_of_ble_eq_true rfl) ⟨Nat.le_refl _, Nat.le_refl _⟩ (fun G hG C hl hQ => ?_)
  obtain ⟨rfl, rfl, rfl, hN⟩ := hG
  exact s_X12_appends_e C h hQ
noncomputable def f_X12_back (σ : XS) (r0 : Nat) (x1 : Int32) : Option (Int32 × XS) := if x1 < 0 then (some ((-1 : Int32), σ)) else (xgI σ r0 12 2).bind fun v2 => if x1 ≤ v2 then ((xgI σ r0 12 2).bind fun v4 => (xpI σ r0 12 2 (v4 - x1)).bind fun σ6 => (xgI σ6 r0 12 2).bind fun v8 => some (v8, σ6)) else some ((-1 : Int32), σ)
theorem s_X12_back_e {G : XG} (C : XC G cX12_back RX12 (some .int) 2 0 0) {σ : XS} {r0 : Nat} {x1 : Int32} {x : Int32 × XS} (hf : f_X12_back σ r0 x1 = some x) (hk : XEnd G (some (.int x.1)) x.2) : WW G 0 [(0, .ref (gB G + r0)), (1, .int x1)] [] σ := by
  refine ww_iload_n (pc := 0) C 1 dX12_back_0 rfl ?_
  refine ww_if_lt (pc := 1) (tgt := 12) C dX12_back_1 (by decide) (fun q => ?_) (fun q => ?_)
  · have hf := xip q hf
    refine ww_iconst (pc := 12) (v := (-1 : Int32)) C dX12_back_12 (by decide) ?_
    have hf := xsj hf
    subst hf
    exact ww_iret (pc := 13) C hk dX12_back_13
  · have hf := xin q hf
    refine ww_iload_n (pc := 4) C 1 dX12_back_4 rfl ?_
    refine ww_aload_n (pc := 5) C 0 dX12_back_5 rfl ?_
    obtain ⟨v2, e1, hf⟩ := xbd hf
    refine gf_X12_94 (pc := 6) C e1 dX12_back_6 ?_
    refine ww_icmp_le (pc := 9) (tgt := 14) C dX12_back_9 (by decide) (fun q => ?_) (fun q => ?_)
    · have hf := xip q hf
      refine ww_aload_n (pc := 14) C 0 dX12_back_14 rfl ?_
      refine ww_dup (pc := 15) C dX12_back_15 rfl ?_
      obtain ⟨v4, e3, hf⟩ := xbd hf
      refine gf_X12_94 (pc := 16) C e3 dX12_back_16 ?_
      refine ww_iload_n (pc := 19) C 1 dX12_back_19 rfl ?_
      refine ww_isub (pc := 20) C dX12_back_20 ?_
      obtain ⟨σ6, e5, hf⟩ := xbd hf
      refine pf_X12_94 (pc := 21) C e5 dX12_back_21 ?_
      refine ww_aload_n (pc := 24) C 0 dX12_back_24 rfl ?_
      obtain ⟨v8, e7, hf⟩ := xbd hf
      refine gf_X12_94 (pc := 25) C e7 dX12_back_25 ?_
      have hf := xsj hf
      subst hf
      exact ww_iret (pc := 28) C hk dX12_back_28
    · have hf := xin q hf
      refine ww_iconst (pc := 12) (v := (-1 : Int32)) C dX12_back_12 (by decide) ?_
      have hf := xsj hf
      subst hf
      exact ww_iret (pc := 13) C hk dX12_back_13
theorem m_X12_back {σ : XS} {r0 : Nat} {x1 : Int32} {x : Int32 × XS} (hf : f_X12_back σ r0 x1 = some x) : xsame σ x.2 := by
  have hm := xsame.rf (σ := σ)
  by_cases q : x1 < 0
  · have hf := xip q hf
    have hf := xsj hf
    subst hf
    exact hm
  · have hf := xin q hf
    obtain ⟨v2, e1, hf⟩ := xbd hf
    by_cases q : x1 ≤ v2
    · have hf := xip q hf
      obtain ⟨v4, e3, hf⟩ := xbd hf
      obtain ⟨σ6, e5, hf⟩ := xbd hf
      have hm := hm.tr (xpI_same e5)
      obtain ⟨v8, e7, hf⟩ := xbd hf
      have hf := xsj hf
      subst hf
      exact hm
    · have hf := xin q hf
      have hf := xsj hf
      subst hf
      exact hm
theorem k_X12_back {l : Launch} {E : XD} {hb : Nat} {σ : XS} {r0 : Nat} {x1 : Int32} {x : Int32 × XS} (h : f_X12_back σ r0 x1 = some x) : XM l yX12_back cX12_back 2 (some .int) 0 0 E hb [.ref (hb + r0), .int x1] σ (some (.int x.1)) x.2 := by
  refine xm_of (by decide) (Nat.le_of_ble_eq_true rfl) (m_X12_back h).le (fun G hG C hl hQ => ?_)
  obtain ⟨rfl, rfl, rfl, hN⟩ := hG
  exact s_X12_back_e C h hQ
noncomputable def f_X12_sites (σ : XS) (r0 : Nat) : Option Int32 := (xgI σ r0 12 17).bind fun v2 => (xgI σ r0 12 18).bind fun v4 => some (v2 * v4)
theorem s_X12_sites_e {G : XG} (C : XC G cX12_sites RX12 (some .int) 1 0 0) {σ : XS} {r0 : Nat} {x : Int32} (hf : f_X12_sites σ r0 = some x) (hk : XEnd G (some (.int x)) σ) : WW G 0 [(0, .ref (gB G + r0))] [] σ := by
  refine ww_aload_n (pc := 0) C 0 dX12_sites_0 rfl ?_
  obtain ⟨v2, e1, hf⟩ := xbd hf
  refine gf_X12_171 (pc := 1) C e1 dX12_sites_1 ?_
  refine ww_aload_n (pc := 4) C 0 dX12_sites_4 rfl ?_
  obtain ⟨v4, e3, hf⟩ := xbd hf
  refine gf_X12_177 (pc := 5) C e3 dX12_sites_5 ?_
  refine ww_imul (pc := 8) C dX12_sites_8 ?_
  have hf := xsj hf
  subst hf
  exact ww_iret (pc := 9) C hk dX12_sites_9
theorem k_X12_sites {l : Launch} {E : XD} {hb : Nat} {σ : XS} {r0 : Nat} {x : Int32} (h : f_X12_sites σ r0 = some x) : XM l yX12_sites cX12_sites 1 (some .int) 0 0 E hb [.ref (hb + r0)] σ (some (.int x)) σ := by
  refine xm_of (by decide) (Nat.le_of_ble_eq_true rfl) ⟨Nat.le_refl _, Nat.le_refl _⟩ (fun G hG C hl hQ => ?_)
  obtain ⟨rfl, rfl, rfl, hN⟩ := hG
  exact s_X12_sites_e C h hQ
noncomputable def f_X12_states (σ : XS) (r0 : Nat) : Option Int32 := (xck σ r0 12).bind fun _ => (f_X12_sites σ r0).bind fun v3 => if v3 = 0 then (some (0 : Int32)) else (xck σ r0 12).bind fun _ => (f_X12_sites σ r0).bind fun v6 => some ((1 : Int32) <<< (v6 &&& 31))
theorem s_X12_states_e {G : XG} (C : XC G cX12_states RX12 (some .int) 1 1 20) {σ : XS} {r0 : Nat} {x : Int32} (hf : f_X12_states σ r0 = some x) (hk : XEnd G (some (.int x)) σ) : WW G 0 [(0, .ref (gB G + r0))] [] σ := by
  refine ww_aload_n (pc := 0) C 0 dX12_states_0 rfl ?_
  obtain ⟨_, e1, hf⟩ := xbd hf
  obtain ⟨v3, e2, hf⟩ := xbd hf
  refine ww_callVi (pc := 1) (as := []) (st := []) C (k_X12_sites (l := gl G) (E := gE G) (hb := gB G) (σ := σ) e2) rfl (by decide) xc_X12_193 q1496 qp136 (xck_spec e1) rfl (by decide) (xst4 (Nat.le_of_ble_eq_true rfl)) xsame.rf.le xsame.rf.lim dX12_states_1 ?_
  refine ww_if_ne (pc := 4) (tgt := 11) C dX12_states_4 (by decide) (fun q => ?_) (fun q => ?_)
  · have hf := xin q hf
    refine ww_iconst (pc := 11) (v := (1 : Int32)) C dX12_states_11 (by decide) ?_
    refine ww_aload_n (pc := 12) C 0 dX12_states_12 rfl ?_
    obtain ⟨_, e4, hf⟩ := xbd hf
    obtain ⟨v6, e5, hf⟩ := xbd hf
    refine ww_callVi (pc := 13) (as := []) (st := [.int (1 : Int32)]) C (k_X12_sites (l := gl G) (E := gE G) (hb := gB G) (σ := σ) e5) rfl (by decide) xc_X12_193 q1496 qp136 (xck_spec e4) rfl (by decide) (xst4 (Nat.le_of_ble_eq_true rfl)) xsame.rf.le xsame.rf.lim dX12_states_13 ?_
    refine ww_ishl (pc := 16) C dX12_states_16 ?_
    have hf := xsj hf
    subst hf
    exact ww_iret (pc := 17) C hk dX12_states_17
  · have hf := xip q hf
    refine ww_iconst (pc := 7) (v := (0 : Int32)) C dX12_states_7 (by decide) ?_
    refine ww_goto (pc := 8) (tgt := 17) C dX12_states_8 (by decide) ?_
    have hf := xsj hf
    subst hf
    exact ww_iret (pc := 17) C hk dX12_states_17
theorem k_X12_states {l : Launch} {E : XD} {hb : Nat} {σ : XS} {r0 : Nat} {x : Int32} (h : f_X12_states σ r0 = some x) : XM l yX12_states cX12_states 1 (some .int) 1 20 E hb [.ref (hb + r0)] σ (some (.int x)) σ := by
  refine xm_of (by decide) (Nat.le_of_ble_eq_true rfl) ⟨Nat.le_refl _, Nat.le_refl _⟩ (fun G hG C hl hQ => ?_)
  obtain ⟨rfl, rfl, rfl, hN⟩ := hG
  exact s_X12_states_e C h hQ
noncomputable def f_X12_in (x0 : Int32) (x1 : Int32) (x2 : Int32) : Option Int32 := if x0 < x1 then (some (0 : Int32)) else if x2 < x0 then (some (0 : Int32)) else some (1 : Int32)
theorem s_X12_in_e {G : XG} (C : XC G cX12_in RX12 (some .boolean) 3 0 0) {σ : XS} {x0 : Int32} {x1 : Int32} {x2 : Int32} {x : Int32} (hf : f_X12_in x0 x1 x2 = some x) (hk : XEnd G (some (.int x)) σ) : WW G 0 [(0, .int x0), (1, .int x1), (2, .int x2)] [] σ := by
  refine ww_iload_n (pc := 0) C 0 dX12_in_0 rfl ?_
  refine ww_iload_n (pc := 1) C 1 dX12_in_1 rfl ?_
  refine ww_icmp_lt (pc := 2) (tgt := 14) C dX12_in_2 (by decide) (fun q => ?_) (fun q => ?_)
  · have hf := xip q hf
    refine ww_iconst (pc := 14) (v := (0 : Int32)) C dX12_in_14 (by decide) ?_
    have hf := xsj hf
    subst hf
    exact ww_zret (pc := 15) C rfl hk dX12_in_15
  · have hf := xin q hf
    refine ww_iload_n (pc := 5) C 0 dX12_in_5 rfl ?_
    refine ww_iload_n (pc := 6) C 2 dX12_in_6 rfl ?_
    refine ww_icmp_gt (pc := 7) (tgt := 14) C dX12_in_7 (by decide) (fun q => ?_) (fun q => ?_)
    · have hf := xip q hf
      refine ww_iconst (pc := 14) (v := (0 : Int32)) C dX12_in_14 (by decide) ?_
      have hf := xsj hf
      subst hf
      exact ww_zret (pc := 15) C rfl hk dX12_in_15
    · have hf := xin q hf
      refine ww_iconst (pc := 10) (v := (1 : Int32)) C dX12_in_10 (by decide) ?_
      refine ww_goto (pc := 11) (tgt := 15) C dX12_in_11 (by decide) ?_
      have hf := xsj hf
      subst hf
      exact ww_zret (pc := 15) C rfl hk dX12_in_15
theorem k_X12_in {l : Launch} {E : XD} {hb : Nat} {σ : XS} {x0 : Int32} {x1 : Int32} {x2 : Int32} {x : Int32} (h : f_X12_in x0 x1 x2 = some x) : XM l yX12_in cX12_in 3 (some .boolean) 0 0 E hb [.int x0, .int x1, .int x2] σ (some (.int x)) σ := by
  refine xm_of (by decide) (Nat.le_of_ble_eq_true rfl) ⟨Nat.le_refl _, Nat.le_refl _⟩ (fun G hG C hl hQ => ?_)
  obtain ⟨rfl, rfl, rfl, hN⟩ := hG
  exact s_X12_in_e C h hQ
noncomputable def f_X12_isLawfulBy_b2 (σ : XS) (r0 : Nat) (x1 : Int32) (x2 : Int32) : Int32 → Option ((Int32) ⊕ (Int32)) := fun a => match a with
  | x3 => if x2 ≤ x3 then ((some (1 : Int32)).map .inr) else (xaI σ 20 r0 ((48 : Int32) + x3)).bind fun v2 => if v2 ≤ 0 then (some (.inl (x3 + (1 : Int32)))) else (xaI σ 20 r0 ((48 : Int32) + x3)).bind fun v4 => if ((x1 >>> (x3 &&& 31)) &&& (1 : Int32)) = ((2 : Int32) - v4) then (some (.inl (x3 + (1 : Int32)))) else (some (0 : Int32)).map .inr
noncomputable def f_X12_isLawfulBy (σ : XS) (r0 : Nat) (x1 : Int32) (x2 : Int32) : Option Int32 := xloop (f_X12_isLawfulBy_b2 σ r0 x1 x2) (0 : Int32)
theorem s_X12_isLawfulBy_l2 {G : XG} (C : XC G cX12_isLawfulBy RX12 (some .boolean) 4 0 0) {σ : XS} {r0 : Nat} {x1 : Int32} {x2 : Int32} {a : Int32} {x : Int32} (hf : xloop (f_X12_isLawfulBy_b2 σ r0 x1 x2) a = some x) (hk : XEnd G (some (.int x)) σ) : WW G 2 [(0, .ref (gB G + r0)), (1, .int x1), (2, .int x2), (3, .int a)] [] σ := by
  refine xloop_ind (P := fun a => WW G 2 [(0, .ref (gB G + r0)), (1, .int x1), (2, .int x2), (3, .int a)] [] σ) (fun a y hf hc he => ?_) hf
  obtain ⟨x3, rfl⟩ : ∃ z, z = a := ⟨_, rfl⟩
  have hk : (∀ a' : Int32, y = .inl a' → WW G 2 [(0, .ref (gB G + r0)), (1, .int x1), (2, .int x2), (3, .int a')] [] σ) ∧ (∀ b1 : Int32, y = .inr b1 → XEnd G (some (.int b1)) σ) := ⟨hc, fun b e => by have h9 := he b e; subst h9; exact hk⟩
  refine ww_iload_n (pc := 2) C 3 dX12_isLawfulBy_2 rfl ?_
  refine ww_iload_n (pc := 3) C 2 dX12_isLawfulBy_3 rfl ?_
  refine ww_icmp_ge (pc := 4) (tgt := 40) C dX12_isLawfulBy_4 (by decide) (fun q => ?_) (fun q => ?_)
  · have hf := xip q hf
    obtain ⟨b0, hg, e9⟩ := xmj hf
    subst e9
    have hf := hg
    have hk := hk.2 _ rfl
    refine ww_iconst (pc := 40) (v := (1 : Int32)) C dX12_isLawfulBy_40 (by decide) ?_
    have hf := xsj hf
    subst hf
    exact ww_zret (pc := 41) C rfl hk dX12_isLawfulBy_41
  · have hf := xin q hf
    refine ww_aload_n (pc := 7) C 0 dX12_isLawfulBy_7 rfl ?_
    refine ww_bipush (pc := 8) (v := (48 : Int32)) C dX12_isLawfulBy_8 (by decide) ?_
    refine ww_iload_n (pc := 10) C 3 dX12_isLawfulBy_10 rfl ?_
    refine ww_iadd (pc := 11) C dX12_isLawfulBy_11 ?_
    obtain ⟨v2, e1, hf⟩ := xbd hf
    refine ww_iald (pc := 12) C e1 dX12_isLawfulBy_12 ?_
    refine ww_if_le (pc := 13) (tgt := 34) C dX12_isLawfulBy_13 (by decide) (fun q => ?_) (fun q => ?_)
    · have hf := xip q hf
      refine ww_iinc (pc := 34) (v := x3 + (1 : Int32)) (lv' := [(3, .int (x3 + (1 : Int32))), (0, .ref (gB G + r0)), (1, .int x1), (2, .int x2)]) C 3 dX12_isLawfulBy_34 rfl (congrArg (fun z => x3 + z) (show Int32.ofInt (1) = (1 : Int32) by decide)) (by decide) rfl ?_
      refine ww_goto (pc := 37) (tgt := 2) C dX12_isLawfulBy_37 (by decide) ?_
      have hf := xsj hf
      subst hf
      refine ww_sub [1, 2, 3, 0] rfl ?_
      exact hk.1 (x3 + (1 : Int32)) rfl
    · have hf := xin q hf
      refine ww_iload_n (pc := 16) C 1 dX12_isLawfulBy_16 rfl ?_
      refine ww_iload_n (pc := 17) C 3 dX12_isLawfulBy_17 rfl ?_
      refine ww_ishr (pc := 18) C dX12_isLawfulBy_18 ?_
      refine ww_iconst (pc := 19) (v := (1 : Int32)) C dX12_isLawfulBy_19 (by decide) ?_
      refine ww_iand (pc := 20) C dX12_isLawfulBy_20 ?_
      refine ww_iconst (pc := 21) (v := (2 : Int32)) C dX12_isLawfulBy_21 (by decide) ?_
      refine ww_aload_n (pc := 22) C 0 dX12_isLawfulBy_22 rfl ?_
      refine ww_bipush (pc := 23) (v := (48 : Int32)) C dX12_isLawfulBy_23 (by decide) ?_
      refine ww_iload_n (pc := 25) C 3 dX12_isLawfulBy_25 rfl ?_
      refine ww_iadd (pc := 26) C dX12_isLawfulBy_26 ?_
      obtain ⟨v4, e3, hf⟩ := xbd hf
      refine ww_iald (pc := 27) C e3 dX12_isLawfulBy_27 ?_
      refine ww_isub (pc := 28) C dX12_isLawfulBy_28 ?_
      refine ww_icmp_eq (pc := 29) (tgt := 34) C dX12_isLawfulBy_29 (by decide) (fun q => ?_) (fun q => ?_)
      · have hf := xip q hf
        refine ww_iinc (pc := 34) (v := x3 + (1 : Int32)) (lv' := [(3, .int (x3 + (1 : Int32))), (0, .ref (gB G + r0)), (1, .int x1), (2, .int x2)]) C 3 dX12_isLawfulBy_34 rfl (congrArg (fun z => x3 + z) (show Int32.ofInt (1) = (1 : Int32) by decide)) (by decide) rfl ?_
        refine ww_goto (pc := 37) (tgt := 2) C dX12_isLawfulBy_37 (by decide) ?_
        have hf := xsj hf
        subst hf
        refine ww_sub [1, 2, 3, 0] rfl ?_
        exact hk.1 (x3 + (1 : Int32)) rfl
      · have hf := xin q hf
        obtain ⟨b0, hg, e9⟩ := xmj hf
        subst e9
        have hf := hg
        have hk := hk.2 _ rfl
        refine ww_iconst (pc := 32) (v := (0 : Int32)) C dX12_isLawfulBy_32 (by decide) ?_
        have hf := xsj hf
        subst hf
        exact ww_zret (pc := 33) C rfl hk dX12_isLawfulBy_33
theorem s_X12_isLawfulBy_e {G : XG} (C : XC G cX12_isLawfulBy RX12 (some .boolean) 4 0 0) {σ : XS} {r0 : Nat} {x1 : Int32} {x2 : Int32} {x : Int32} (hf : f_X12_isLawfulBy σ r0 x1 x2 = some x) (hk : XEnd G (some (.int x)) σ) : WW G 0 [(0, .ref (gB G + r0)), (1, .int x1), (2, .int x2)] [] σ := by
  refine ww_iconst (pc := 0) (v := (0 : Int32)) C dX12_isLawfulBy_0 (by decide) ?_
  refine ww_istore_n (pc := 1) (lv' := [(3, .int (0 : Int32)), (0, .ref (gB G + r0)), (1, .int x1), (2, .int x2)]) C dX12_isLawfulBy_1 (by decide) rfl ?_
  refine ww_sub [1, 2, 3, 0] rfl ?_
  exact s_X12_isLawfulBy_l2 C (a := (0 : Int32)) hf hk
theorem k_X12_isLawfulBy {l : Launch} {E : XD} {hb : Nat} {σ : XS} {r0 : Nat} {x1 : Int32} {x2 : Int32} {x : Int32} (h : f_X12_isLawfulBy σ r0 x1 x2 = some x) : XM l yX12_isLawfulBy cX12_isLawfulBy 4 (some .boolean) 0 0 E hb [.ref (hb + r0), .int x1, .int x2] σ (some (.int x)) σ := by
  refine xm_of (by decide) (Nat.le_of_ble_eq_true rfl) ⟨Nat.le_refl _, Nat.le_refl _⟩ (fun G hG C hl hQ => ?_)
  obtain ⟨rfl, rfl, rfl, hN⟩ := hG
  exact s_X12_isLawfulBy_e C h hQ
noncomputable def f_X12_isLawful (σ : XS) (r0 : Nat) (x1 : Int32) : Option Int32 := (xck σ r0 12).bind fun _ => (f_X12_states σ r0).bind fun v3 => (f_X12_in x1 (0 : Int32) (v3 - (1 : Int32))).bind fun v5 => if v5 = 0 then (some (0 : Int32)) else (xgR σ r0 12 21).bind fun z7 => (xck σ r0 12).bind fun _ => (f_X12_sites σ r0).bind fun v10 => (f_X12_isLawfulBy σ z7 x1 v10).bind fun v12 => if v12 = 0 then (some (0 : Int32)) else some (1 : Int32)
theorem s_X12_isLawful_e {G : XG} (C : XC G cX12_isLawful RX12 (some .boolean) 2 2 40) {σ : XS} {r0 : Nat} {x1 : Int32} {x : Int32} (hf : f_X12_isLawful σ r0 x1 = some x) (hk : XEnd G (some (.int x)) σ) : WW G 0 [(0, .ref (gB G + r0)), (1, .int x1)] [] σ := by
  refine ww_iload_n (pc := 0) C 1 dX12_isLawful_0 rfl ?_
  refine ww_iconst (pc := 1) (v := (0 : Int32)) C dX12_isLawful_1 (by decide) ?_
  refine ww_aload_n (pc := 2) C 0 dX12_isLawful_2 rfl ?_
  obtain ⟨_, e1, hf⟩ := xbd hf
  obtain ⟨v3, e2, hf⟩ := xbd hf
  refine ww_callVi (pc := 3) (as := []) (st := [.int (0 : Int32), .int x1]) C (k_X12_states (l := gl G) (E := gE G) (hb := gB G) (σ := σ) e2) rfl (by decide) xc_X12_270 q1555 qp141 (xck_spec e1) rfl (by decide) (xst4 (Nat.le_of_ble_eq_true rfl)) xsame.rf.le xsame.rf.lim dX12_isLawful_3 ?_
  refine ww_iconst (pc := 6) (v := (1 : Int32)) C dX12_isLawful_6 (by decide) ?_
  refine ww_isub (pc := 7) C dX12_isLawful_7 ?_
  obtain ⟨v5, e4, hf⟩ := xbd hf
  refine ww_callSi (pc := 8) (as := [.int x1, .int (0 : Int32), .int (v3 - (1 : Int32))]) (st := []) C (k_X12_in (l := gl G) (E := gE G) (hb := gB G) (σ := σ) e4) xc_X12_213 q1473 rfl (by decide) (xst4 (Nat.le_of_ble_eq_true rfl)) xsame.rf.le xsame.rf.lim dX12_isLawful_8 ?_
  refine ww_if_eq (pc := 11) (tgt := 33) C dX12_isLawful_11 (by decide) (fun q => ?_) (fun q => ?_)
  · have hf := xip q hf
    refine ww_iconst (pc := 33) (v := (0 : Int32)) C dX12_isLawful_33 (by decide) ?_
    have hf := xsj hf
    subst hf
    exact ww_zret (pc := 34) C rfl hk dX12_isLawful_34
  · have hf := xin q hf
    refine ww_aload_n (pc := 14) C 0 dX12_isLawful_14 rfl ?_
    obtain ⟨z7, e6, hf⟩ := xbd hf
    refine gf_X12_40 (pc := 15) C e6 dX12_isLawful_15 ?_
    refine ww_iload_n (pc := 18) C 1 dX12_isLawful_18 rfl ?_
    refine ww_aload_n (pc := 19) C 0 dX12_isLawful_19 rfl ?_
    obtain ⟨_, e8, hf⟩ := xbd hf
    obtain ⟨v10, e9, hf⟩ := xbd hf
    refine ww_callVi (pc := 20) (as := []) (st := [.int x1, .ref (gB G + z7)]) C (k_X12_sites (l := gl G) (E := gE G) (hb := gB G) (σ := σ) e9) rfl (by decide) xc_X12_193 q1496 qp136 (xck_spec e8) rfl (by decide) (xst4 (Nat.le_of_ble_eq_true rfl)) xsame.rf.le xsame.rf.lim dX12_isLawful_20 ?_
    obtain ⟨v12, e11, hf⟩ := xbd hf
    refine ww_callSi (pc := 23) (as := [.ref (gB G + z7), .int x1, .int v10]) (st := []) C (k_X12_isLawfulBy (l := gl G) (E := gE G) (hb := gB G) (σ := σ) e11) xc_X12_273 q1562 rfl (by decide) (xst4 (Nat.le_of_ble_eq_true rfl)) xsame.rf.le xsame.rf.lim dX12_isLawful_23 ?_
    refine ww_if_eq (pc := 26) (tgt := 33) C dX12_isLawful_26 (by decide) (fun q => ?_) (fun q => ?_)
    · have hf := xip q hf
      refine ww_iconst (pc := 33) (v := (0 : Int32)) C dX12_isLawful_33 (by decide) ?_
      have hf := xsj hf
      subst hf
      exact ww_zret (pc := 34) C rfl hk dX12_isLawful_34
    · have hf := xin q hf
      refine ww_iconst (pc := 29) (v := (1 : Int32)) C dX12_isLawful_29 (by decide) ?_
      refine ww_goto (pc := 30) (tgt := 34) C dX12_isLawful_30 (by decide) ?_
      have hf := xsj hf
      subst hf
      exact ww_zret (pc := 34) C rfl hk dX12_isLawful_34
theorem k_X12_isLawful {l : Launch} {E : XD} {hb : Nat} {σ : XS} {r0 : Nat} {x1 : Int32} {x : Int32} (h : f_X12_isLawful σ r0 x1 = some x) : XM l yX12_isLawful cX12_isLawful 2 (some .boolean) 2 40 E hb [.ref (hb + r0), .int x1] σ (some (.int x)) σ := by
  refine xm_of (by decide) (Nat.le_of_ble_eq_true rfl) ⟨Nat.le_refl _, Nat.le_refl _⟩ (fun G hG C hl hQ => ?_)
  obtain ⟨rfl, rfl, rfl, hN⟩ := hG
  exact s_X12_isLawful_e C h hQ
noncomputable def f_X12_leads (x0 : Int32) (x1 : Int32) (x2 : Int32) (x3 : Int32) (x4 : Int32) : Option Int32 := (xdz x2).bind fun _ => (xdz x2).bind fun _ => if x1 = 0 then (if x2 ≤ ((x0 - x0 / x2 * x2) + (1 : Int32)) then (if x4 = 0 then (some (-1 : Int32)) else if x2 ≤ (2 : Int32) then (some (-1 : Int32)) else some (x2 * (x0 / x2))) else some (x0 + (1 : Int32))) else if x3 ≤ ((x0 / x2) + (1 : Int32)) then (if x4 = 0 then (some (-1 : Int32)) else if x3 ≤ (2 : Int32) then (some (-1 : Int32)) else some (x0 - x0 / x2 * x2)) else some (x0 + x2)
theorem s_X12_leads_e {G : XG} (C : XC G cX12_leads RX12 (some .int) 7 0 0) {σ : XS} {x0 : Int32} {x1 : Int32} {x2 : Int32} {x3 : Int32} {x4 : Int32} {x : Int32} (hf : f_X12_leads x0 x1 x2 x3 x4 = some x) (hk : XEnd G (some (.int x)) σ) : WW G 0 [(0, .int x0), (1, .int x1), (2, .int x2), (3, .int x3), (4, .int x4)] [] σ := by
  refine ww_iload_n (pc := 0) C 0 dX12_leads_0 rfl ?_
  refine ww_iload_n (pc := 1) C 2 dX12_leads_1 rfl ?_
  obtain ⟨_, e1, hf⟩ := xbd hf
  refine ww_idiv (pc := 2) C dX12_leads_2 (xdz_spec e1) ?_
  refine ww_istore (pc := 3) (lv' := [(5, .int (x0 / x2)), (0, .int x0), (1, .int x1), (2, .int x2), (3, .int x3), (4, .int x4)]) C dX12_leads_3 (by decide) rfl ?_
  refine ww_iload_n (pc := 5) C 1 dX12_leads_5 rfl ?_
  refine ww_iload_n (pc := 6) C 3 dX12_leads_6 rfl ?_
  obtain ⟨_, e2, hf⟩ := xbd hf
  refine ww_irem (pc := 7) C dX12_leads_7 (xdz_spec e2) ?_
  refine ww_istore (pc := 8) (lv' := [(6, .int (x0 - x0 / x2 * x2)), (5, .int (x0 / x2)), (0, .int x0), (1, .int x1), (2, .int x2), (3, .int x3), (4, .int x4)]) C dX12_leads_8 (by decide) rfl ?_
  refine ww_iload_n (pc := 10) C 3 dX12_leads_10 rfl ?_
  refine ww_if_eq (pc := 11) (tgt := 45) C dX12_leads_11 (by decide) (fun q => ?_) (fun q => ?_)
  · have hf := xip q hf
    refine ww_iload (pc := 45) C 0 dX12_leads_45 rfl ?_
    refine ww_iconst (pc := 47) (v := (1 : Int32)) C dX12_leads_47 (by decide) ?_
    refine ww_iadd (pc := 48) C dX12_leads_48 ?_
    refine ww_iload_n (pc := 49) C 4 dX12_leads_49 rfl ?_
    refine ww_icmp_ge (pc := 50) (tgt := 59) C dX12_leads_50 (by decide) (fun q => ?_) (fun q => ?_)
    · have hf := xip q hf
      refine ww_iload (pc := 59) C 6 dX12_leads_59 rfl ?_
      refine ww_if_eq (pc := 61) (tgt := 76) C dX12_leads_61 (by decide) (fun q => ?_) (fun q => ?_)
      · have hf := xip q hf
        refine ww_iconst (pc := 76) (v := (-1 : Int32)) C dX12_leads_76 (by decide) ?_
        have hf := xsj hf
        subst hf
        exact ww_iret (pc := 77) C hk dX12_leads_77
      · have hf := xin q hf
        refine ww_iload_n (pc := 64) C 4 dX12_leads_64 rfl ?_
        refine ww_iconst (pc := 65) (v := (2 : Int32)) C dX12_leads_65 (by decide) ?_
        refine ww_icmp_le (pc := 66) (tgt := 76) C dX12_leads_66 (by decide) (fun q => ?_) (fun q => ?_)
        · have hf := xip q hf
          refine ww_iconst (pc := 76) (v := (-1 : Int32)) C dX12_leads_76 (by decide) ?_
          have hf := xsj hf
          subst hf
          exact ww_iret (pc := 77) C hk dX12_leads_77
        · have hf := xin q hf
          refine ww_iload_n (pc := 69) C 4 dX12_leads_69 rfl ?_
          refine ww_iload (pc := 70) C 1 dX12_leads_70 rfl ?_
          refine ww_imul (pc := 72) C dX12_leads_72 ?_
          refine ww_goto (pc := 73) (tgt := 77) C dX12_leads_73 (by decide) ?_
          have hf := xsj hf
          subst hf
          exact ww_iret (pc := 77) C hk dX12_leads_77
    · have hf := xin q hf
      refine ww_iload_n (pc := 53) C 2 dX12_leads_53 rfl ?_
      refine ww_iconst (pc := 54) (v := (1 : Int32)) C dX12_leads_54 (by decide) ?_
      refine ww_iadd (pc := 55) C dX12_leads_55 ?_
      refine ww_goto (pc := 56) (tgt := 77) C dX12_leads_56 (by decide) ?_
      have hf := xsj hf
      subst hf
      exact ww_iret (pc := 77) C hk dX12_leads_77
  · have hf := xin q hf
    refine ww_iload (pc := 14) C 1 dX12_leads_14 rfl ?_
    refine ww_iconst (pc := 16) (v := (1 : Int32)) C dX12_leads_16 (by decide) ?_
    refine ww_iadd (pc := 17) C dX12_leads_17 ?_
    refine ww_iload_n (pc := 18) C 5 dX12_leads_18 rfl ?_
    refine ww_icmp_ge (pc := 19) (tgt := 28) C dX12_leads_19 (by decide) (fun q => ?_) (fun q => ?_)
    · have hf := xip q hf
      refine ww_iload (pc := 28) C 6 dX12_leads_28 rfl ?_
      refine ww_if_eq (pc := 30) (tgt := 43) C dX12_leads_30 (by decide) (fun q => ?_) (fun q => ?_)
      · have hf := xip q hf
        refine ww_iconst (pc := 43) (v := (-1 : Int32)) C dX12_leads_43 (by decide) ?_
        have hf := xsj hf
        subst hf
        exact ww_iret (pc := 44) C hk dX12_leads_44
      · have hf := xin q hf
        refine ww_iload_n (pc := 33) C 5 dX12_leads_33 rfl ?_
        refine ww_iconst (pc := 34) (v := (2 : Int32)) C dX12_leads_34 (by decide) ?_
        refine ww_icmp_le (pc := 35) (tgt := 43) C dX12_leads_35 (by decide) (fun q => ?_) (fun q => ?_)
        · have hf := xip q hf
          refine ww_iconst (pc := 43) (v := (-1 : Int32)) C dX12_leads_43 (by decide) ?_
          have hf := xsj hf
          subst hf
          exact ww_iret (pc := 44) C hk dX12_leads_44
        · have hf := xin q hf
          refine ww_iload (pc := 38) C 0 dX12_leads_38 rfl ?_
          refine ww_goto (pc := 40) (tgt := 44) C dX12_leads_40 (by decide) ?_
          have hf := xsj hf
          subst hf
          exact ww_iret (pc := 44) C hk dX12_leads_44
    · have hf := xin q hf
      refine ww_iload_n (pc := 22) C 2 dX12_leads_22 rfl ?_
      refine ww_iload_n (pc := 23) C 4 dX12_leads_23 rfl ?_
      refine ww_iadd (pc := 24) C dX12_leads_24 ?_
      refine ww_goto (pc := 25) (tgt := 44) C dX12_leads_25 (by decide) ?_
      have hf := xsj hf
      subst hf
      exact ww_iret (pc := 44) C hk dX12_leads_44
theorem k_X12_leads {l : Launch} {E : XD} {hb : Nat} {σ : XS} {x0 : Int32} {x1 : Int32} {x2 : Int32} {x3 : Int32} {x4 : Int32} {x : Int32} (h : f_X12_leads x0 x1 x2 x3 x4 = some x) : XM l yX12_leads cX12_leads 7 (some .int) 0 0 E hb [.int x0, .int x1, .int x2, .int x3, .int x4] σ (some (.int x)) σ := by
  refine xm_of (by decide) (Nat.le_of_ble_eq_true rfl) ⟨Nat.le_refl _, Nat.le_refl _⟩ (fun G hG C hl hQ => ?_)
  obtain ⟨rfl, rfl, rfl, hN⟩ := hG
  exact s_X12_leads_e C h hQ
noncomputable def f_X12_tieTo_j25 (σ : XS) (t0 : Int32) (t1 : Int32) (t2 : Int32) (t3 : Int32) (t4 : Int32) : Option Int32 := (f_X12_leads t0 t1 t2 t3 t4).bind fun v2 => some v2
noncomputable def f_X12_tieTo (σ : XS) (r0 : Nat) (x1 : Int32) (x2 : Int32) : Option Int32 := (xgI σ r0 12 17).bind fun v2 => (xgI σ r0 12 18).bind fun v4 => if x2 = 0 then ((xgI σ r0 12 19).bind fun v6 => f_X12_tieTo_j25 σ x1 x2 v2 v4 v6) else (xgI σ r0 12 20).bind fun v6 => f_X12_tieTo_j25 σ x1 x2 v2 v4 v6
theorem s_X12_tieTo_j25 {G : XG} (C : XC G cX12_tieTo RX12 (some .int) 3 1 26) {σ : XS} {t0 : Int32} {t1 : Int32} {t2 : Int32} {t3 : Int32} {t4 : Int32} {x : Int32} (hf : f_X12_tieTo_j25 σ t0 t1 t2 t3 t4 = some x) (hk : XEnd G (some (.int x)) σ) : WW G 25 [] [.int t4, .int t3, .int t2, .int t1, .int t0] σ := by
  obtain ⟨v2, e1, hf⟩ := xbd hf
  refine ww_callSi (pc := 25) (as := [.int t0, .int t1, .int t2, .int t3, .int t4]) (st := []) C (k_X12_leads (l := gl G) (E := gE G) (hb := gB G) (σ := σ) e1) xc_X12_226 q1492 rfl (by decide) (xst4 (Nat.le_of_ble_eq_true rfl)) xsame.rf.le xsame.rf.lim dX12_tieTo_25 ?_
  have hf := xsj hf
  subst hf
  exact ww_iret (pc := 28) C hk dX12_tieTo_28
theorem s_X12_tieTo_e {G : XG} (C : XC G cX12_tieTo RX12 (some .int) 3 1 26) {σ : XS} {r0 : Nat} {x1 : Int32} {x2 : Int32} {x : Int32} (hf : f_X12_tieTo σ r0 x1 x2 = some x) (hk : XEnd G (some (.int x)) σ) : WW G 0 [(0, .ref (gB G + r0)), (1, .int x1), (2, .int x2)] [] σ := by
  refine ww_iload_n (pc := 0) C 1 dX12_tieTo_0 rfl ?_
  refine ww_iload_n (pc := 1) C 2 dX12_tieTo_1 rfl ?_
  refine ww_aload_n (pc := 2) C 0 dX12_tieTo_2 rfl ?_
  obtain ⟨v2, e1, hf⟩ := xbd hf
  refine gf_X12_171 (pc := 3) C e1 dX12_tieTo_3 ?_
  refine ww_aload_n (pc := 6) C 0 dX12_tieTo_6 rfl ?_
  obtain ⟨v4, e3, hf⟩ := xbd hf
  refine gf_X12_177 (pc := 7) C e3 dX12_tieTo_7 ?_
  refine ww_iload_n (pc := 10) C 2 dX12_tieTo_10 rfl ?_
  refine ww_if_eq (pc := 11) (tgt := 21) C dX12_tieTo_11 (by decide) (fun q => ?_) (fun q => ?_)
  · have hf := xip q hf
    refine ww_aload_n (pc := 21) C 0 dX12_tieTo_21 rfl ?_
    obtain ⟨v6, e5, hf⟩ := xbd hf
    refine gf_X12_184 (pc := 22) C e5 dX12_tieTo_22 ?_
    refine ww_sub [] rfl ?_
    exact s_X12_tieTo_j25 C hf hk
  · have hf := xin q hf
    refine ww_aload_n (pc := 14) C 0 dX12_tieTo_14 rfl ?_
    obtain ⟨v6, e5, hf⟩ := xbd hf
    refine gf_X12_190 (pc := 15) C e5 dX12_tieTo_15 ?_
    refine ww_goto (pc := 18) (tgt := 25) C dX12_tieTo_18 (by decide) ?_
    refine ww_sub [] rfl ?_
    exact s_X12_tieTo_j25 C hf hk
theorem k_X12_tieTo {l : Launch} {E : XD} {hb : Nat} {σ : XS} {r0 : Nat} {x1 : Int32} {x2 : Int32} {x : Int32} (h : f_X12_tieTo σ r0 x1 x2 = some x) : XM l yX12_tieTo cX12_tieTo 3 (some .int) 1 26 E hb [.ref (hb + r0), .int x1, .int x2] σ (some (.int x)) σ := by
  refine xm_of (by decide) (Nat.le_of_ble_eq_true rfl) ⟨Nat.le_refl _, Nat.le_refl _⟩ (fun G hG C hl hQ => ?_)
  obtain ⟨rfl, rfl, rfl, hN⟩ := hG
  exact s_X12_tieTo_e C h hQ
noncomputable def f_X12_energy_j143 (σ : XS) (r0 : Nat) (r1 : Nat) (x2 : Int32) (x3 : Int32) (x4 : Int32) (x5 : Int32) (x6 : Int32) (x7 : Int32) : Option ((Int32 × Int32) ⊕ (Int32)) := if ((x2 >>> (x7 &&& 31)) &&& (1 : Int32)) = x6 then ((xaI σ 20 r1 ((16 : Int32) + x5)).bind fun v2 => some (.inl (x4 + (-v2), x5 + (1 : Int32)))) else (xaI σ 20 r1 ((16 : Int32) + x5)).bind fun v2 => some (.inl (x4 + v2, x5 + (1 : Int32)))
noncomputable def f_X12_energy_j100 (σ : XS) (r0 : Nat) (r1 : Nat) (x2 : Int32) (x3 : Int32) (x4 : Int32) (x5 : Int32) (x6 : Int32) : Option ((Int32 × Int32) ⊕ (Int32)) := (xck σ r0 12).bind fun _ => (f_X12_tieTo σ r0 x5 (1 : Int32)).bind fun v3 => if v3 < 0 then (some (.inl (x4, x5 + (1 : Int32)))) else if v3 ≤ x5 then ((xgI σ r0 12 18).bind fun v5 => if x3 = v5 then (f_X12_energy_j143 σ r0 r1 x2 x3 x4 x5 x6 v3) else some (.inl (x4, x5 + (1 : Int32)))) else (xgI σ r0 12 17).bind fun v5 => if (v5 * x3) ≤ v3 then (some (.inl (x4, x5 + (1 : Int32)))) else f_X12_energy_j143 σ r0 r1 x2 x3 x4 x5 x6 v3
noncomputable def f_X12_energy_j51 (σ : XS) (r0 : Nat) (r1 : Nat) (x2 : Int32) (x3 : Int32) (x5 : Int32) (x6 : Int32) (t0 : Int32) (t1 : Int32) : Option ((Int32 × Int32) ⊕ (Int32)) := (xck σ r0 12).bind fun _ => (f_X12_tieTo σ r0 x5 (0 : Int32)).bind fun v3 => if v3 < 0 then (f_X12_energy_j100 σ r0 r1 x2 x3 (t0 + t1) x5 x6) else if ((x2 >>> (v3 &&& 31)) &&& (1 : Int32)) = x6 then ((xaI σ 20 r1 ((0 : Int32) + x5)).bind fun v5 => f_X12_energy_j100 σ r0 r1 x2 x3 ((t0 + t1) + (-v5)) x5 x6) else (xaI σ 20 r1 ((0 : Int32) + x5)).bind fun v5 => f_X12_energy_j100 σ r0 r1 x2 x3 ((t0 + t1) + v5) x5 x6
noncomputable def f_X12_energy_b6 (σ : XS) (r0 : Nat) (r1 : Nat) (x2 : Int32) (x3 : Int32) : Int32 × Int32 → Option ((Int32 × Int32) ⊕ (Int32)) := fun a => match a with
  | (x4, x5) => (xgI σ r0 12 17).bind fun v2 => if (v2 * x3) ≤ x5 then ((some x4).map .inr) else if ((x2 >>> (x5 &&& 31)) &&& (1 : Int32)) = (1 : Int32) then ((xaI σ 20 r1 ((32 : Int32) + x5)).bind fun v4 => f_X12_energy_j51 σ r0 r1 x2 x3 x5 ((x2 >>> (x5 &&& 31)) &&& (1 : Int32)) x4 (-v4)) else (xaI σ 20 r1 ((32 : Int32) + x5)).bind fun v4 => f_X12_energy_j51 σ r0 r1 x2 x3 x5 ((x2 >>> (x5 &&& 31)) &&& (1 : Int32)) x4 v4
noncomputable def f_X12_energy (σ : XS) (r0 : Nat) (r1 : Nat) (x2 : Int32) (x3 : Int32) : Option Int32 := xloop (f_X12_energy_b6 σ r0 r1 x2 x3) ((0 : Int32), (0 : Int32))
theorem s_X12_energy_j143 {G : XG} (C : XC G cX12_energy RX12 (some .int) 8 2 48) {σ : XS} {r0 : Nat} {r1 : Nat} {x2 : Int32} {x3 : Int32} {x4 : Int32} {x5 : Int32} {x6 : Int32} {x7 : Int32} {x : ((Int32 × Int32) ⊕ (Int32))} (hf : f_X12_energy_j143 σ r0 r1 x2 x3 x4 x5 x6 x7 = some x) (hk : (∀ a' : Int32 × Int32, x = .inl a' → WW G 6 [(0, .ref (gB G + r0)), (1, .ref (gB G + r1)), (2, .int x2), (3, .int x3), (4, .int a'.1), (5, .int a'.2)] [] σ) ∧ (∀ b1 : Int32, x = .inr b1 → XEnd G (some (.int b1)) σ)) : WW G 143 [(0, .ref (gB G + r0)), (1, .ref (gB G + r1)), (2, .int x2), (3, .int x3), (4, .int x4), (5, .int x5), (6, .int x6), (7, .int x7)] [] σ := by
  refine ww_iload (pc := 143) C 4 dX12_energy_143 rfl ?_
  refine ww_iload_n (pc := 145) C 2 dX12_energy_145 rfl ?_
  refine ww_iload (pc := 146) C 7 dX12_energy_146 rfl ?_
  refine ww_ishr (pc := 148) C dX12_energy_148 ?_
  refine ww_iconst (pc := 149) (v := (1 : Int32)) C dX12_energy_149 (by decide) ?_
  refine ww_iand (pc := 150) C dX12_energy_150 ?_
  refine ww_iload (pc := 151) C 6 dX12_energy_151 rfl ?_
  refine ww_icmp_ne (pc := 153) (tgt := 167) C dX12_energy_153 (by decide) (fun q => ?_) (fun q => ?_)
  · have hf := xin q hf
    refine ww_aload_n (pc := 167) C 1 dX12_energy_167 rfl ?_
    refine ww_bipush (pc := 168) (v := (16 : Int32)) C dX12_energy_168 (by decide) ?_
    refine ww_iload (pc := 170) C 5 dX12_energy_170 rfl ?_
    refine ww_iadd (pc := 172) C dX12_energy_172 ?_
    obtain ⟨v2, e1, hf⟩ := xbd hf
    refine ww_iald (pc := 173) C e1 dX12_energy_173 ?_
    refine ww_iadd (pc := 174) C dX12_energy_174 ?_
    refine ww_istore (pc := 175) (lv' := [(4, .int (x4 + v2)), (0, .ref (gB G + r0)), (1, .ref (gB G + r1)), (2, .int x2), (3, .int x3), (5, .int x5), (6, .int x6), (7, .int x7)]) C dX12_energy_175 (by decide) rfl ?_
    refine ww_iinc (pc := 177) (v := x5 + (1 : Int32)) (lv' := [(5, .int (x5 + (1 : Int32))), (4, .int (x4 + v2)), (0, .ref (gB G + r0)), (1, .ref (gB G + r1)), (2, .int x2), (3, .int x3), (6, .int x6), (7, .int x7)]) C 5 dX12_energy_177 rfl (congrArg (fun z => x5 + z) (show Int32.ofInt (1) = (1 : Int32) by decide)) (by decide) rfl ?_
    refine ww_goto (pc := 180) (tgt := 6) C dX12_energy_180 (by decide) ?_
    have hf := xsj hf
    subst hf
    refine ww_sub [2, 3, 4, 5, 1, 0] rfl ?_
    exact hk.1 (x4 + v2, x5 + (1 : Int32)) rfl
  · have hf := xip q hf
    refine ww_aload_n (pc := 156) C 1 dX12_energy_156 rfl ?_
    refine ww_bipush (pc := 157) (v := (16 : Int32)) C dX12_energy_157 (by decide) ?_
    refine ww_iload (pc := 159) C 5 dX12_energy_159 rfl ?_
    refine ww_iadd (pc := 161) C dX12_energy_161 ?_
    obtain ⟨v2, e1, hf⟩ := xbd hf
    refine ww_iald (pc := 162) C e1 dX12_energy_162 ?_
    refine ww_ineg (pc := 163) C dX12_energy_163 ?_
    refine ww_goto (pc := 164) (tgt := 174) C dX12_energy_164 (by decide) ?_
    refine ww_iadd (pc := 174) C dX12_energy_174 ?_
    refine ww_istore (pc := 175) (lv' := [(4, .int (x4 + (-v2))), (0, .ref (gB G + r0)), (1, .ref (gB G + r1)), (2, .int x2), (3, .int x3), (5, .int x5), (6, .int x6), (7, .int x7)]) C dX12_energy_175 (by decide) rfl ?_
    refine ww_iinc (pc := 177) (v := x5 + (1 : Int32)) (lv' := [(5, .int (x5 + (1 : Int32))), (4, .int (x4 + (-v2))), (0, .ref (gB G + r0)), (1, .ref (gB G + r1)), (2, .int x2), (3, .int x3), (6, .int x6), (7, .int x7)]) C 5 dX12_energy_177 rfl (congrArg (fun z => x5 + z) (show Int32.ofInt (1) = (1 : Int32) by decide)) (by decide) rfl ?_
    refine ww_goto (pc := 180) (tgt := 6) C dX12_energy_180 (by decide) ?_
    have hf := xsj hf
    subst hf
    refine ww_sub [2, 3, 4, 5, 1, 0] rfl ?_
    exact hk.1 (x4 + (-v2), x5 + (1 : Int32)) rfl
theorem s_X12_energy_j100 {G : XG} (C : XC G cX12_energy RX12 (some .int) 8 2 48) {σ : XS} {r0 : Nat} {r1 : Nat} {x2 : Int32} {x3 : Int32} {x4 : Int32} {x5 : Int32} {x6 : Int32} {x : ((Int32 × Int32) ⊕ (Int32))} (hf : f_X12_energy_j100 σ r0 r1 x2 x3 x4 x5 x6 = some x) (hk : (∀ a' : Int32 × Int32, x = .inl a' → WW G 6 [(0, .ref (gB G + r0)), (1, .ref (gB G + r1)), (2, .int x2), (3, .int x3), (4, .int a'.1), (5, .int a'.2)] [] σ) ∧ (∀ b1 : Int32, x = .inr b1 → XEnd G (some (.int b1)) σ)) : WW G 100 [(0, .ref (gB G + r0)), (1, .ref (gB G + r1)), (2, .int x2), (3, .int x3), (4, .int x4), (5, .int x5), (6, .int x6)] [] σ := by
  refine ww_aload_n (pc := 100) C 0 dX12_energy_100 rfl ?_
  refine ww_iload (pc := 101) C 5 dX12_energy_101 rfl ?_
  refine ww_iconst (pc := 103) (v := (1 : Int32)) C dX12_energy_103 (by decide) ?_
  obtain ⟨_, e1, hf⟩ := xbd hf
  obtain ⟨v3, e2, hf⟩ := xbd hf
  refine ww_callVi (pc := 104) (as := [.int x5, .int (1 : Int32)]) (st := []) C (k_X12_tieTo (l := gl G) (E := gE G) (hb := gB G) (σ := σ) e2) rfl (by decide) xc_X12_236 q1512 qp138 (xck_spec e1) rfl (by decide) (xst4 (Nat.le_of_ble_eq_true rfl)) xsame.rf.le xsame.rf.lim dX12_energy_104 ?_
  refine ww_istore (pc := 107) (lv' := [(7, .int v3), (0, .ref (gB G + r0)), (1, .ref (gB G + r1)), (2, .int x2), (3, .int x3), (4, .int x4), (5, .int x5), (6, .int x6)]) C dX12_energy_107 (by decide) rfl ?_
  refine ww_iload (pc := 109) C 0 dX12_energy_109 rfl ?_
  refine ww_if_lt (pc := 111) (tgt := 177) C dX12_energy_111 (by decide) (fun q => ?_) (fun q => ?_)
  · have hf := xip q hf
    refine ww_iinc (pc := 177) (v := x5 + (1 : Int32)) (lv' := [(5, .int (x5 + (1 : Int32))), (7, .int v3), (0, .ref (gB G + r0)), (1, .ref (gB G + r1)), (2, .int x2), (3, .int x3), (4, .int x4), (6, .int x6)]) C 6 dX12_energy_177 rfl (congrArg (fun z => x5 + z) (show Int32.ofInt (1) = (1 : Int32) by decide)) (by decide) rfl ?_
    refine ww_goto (pc := 180) (tgt := 6) C dX12_energy_180 (by decide) ?_
    have hf := xsj hf
    subst hf
    refine ww_sub [2, 3, 4, 5, 6, 0] rfl ?_
    exact hk.1 (x4, x5 + (1 : Int32)) rfl
  · have hf := xin q hf
    refine ww_iload (pc := 114) C 0 dX12_energy_114 rfl ?_
    refine ww_iload (pc := 116) C 6 dX12_energy_116 rfl ?_
    refine ww_icmp_le (pc := 118) (tgt := 135) C dX12_energy_118 (by decide) (fun q => ?_) (fun q => ?_)
    · have hf := xip q hf
      refine ww_iload_n (pc := 135) C 4 dX12_energy_135 rfl ?_
      refine ww_aload_n (pc := 136) C 1 dX12_energy_136 rfl ?_
      obtain ⟨v5, e4, hf⟩ := xbd hf
      refine gf_X12_177 (pc := 137) C e4 dX12_energy_137 ?_
      refine ww_icmp_ne (pc := 140) (tgt := 177) C dX12_energy_140 (by decide) (fun q => ?_) (fun q => ?_)
      · have hf := xin q hf
        refine ww_iinc (pc := 177) (v := x5 + (1 : Int32)) (lv' := [(5, .int (x5 + (1 : Int32))), (7, .int v3), (0, .ref (gB G + r0)), (1, .ref (gB G + r1)), (2, .int x2), (3, .int x3), (4, .int x4), (6, .int x6)]) C 6 dX12_energy_177 rfl (congrArg (fun z => x5 + z) (show Int32.ofInt (1) = (1 : Int32) by decide)) (by decide) rfl ?_
        refine ww_goto (pc := 180) (tgt := 6) C dX12_energy_180 (by decide) ?_
        have hf := xsj hf
        subst hf
        refine ww_sub [2, 3, 4, 5, 6, 0] rfl ?_
        exact hk.1 (x4, x5 + (1 : Int32)) rfl
      · have hf := xip q hf
        refine ww_sub [1, 2, 3, 4, 5, 6, 7, 0] rfl ?_
        exact s_X12_energy_j143 C hf hk
    · have hf := xin q hf
      refine ww_iload (pc := 121) C 0 dX12_energy_121 rfl ?_
      refine ww_aload_n (pc := 123) C 1 dX12_energy_123 rfl ?_
      obtain ⟨v5, e4, hf⟩ := xbd hf
      refine gf_X12_171 (pc := 124) C e4 dX12_energy_124 ?_
      refine ww_iload_n (pc := 127) C 4 dX12_energy_127 rfl ?_
      refine ww_imul (pc := 128) C dX12_energy_128 ?_
      refine ww_icmp_ge (pc := 129) (tgt := 177) C dX12_energy_129 (by decide) (fun q => ?_) (fun q => ?_)
      · have hf := xip q hf
        refine ww_iinc (pc := 177) (v := x5 + (1 : Int32)) (lv' := [(5, .int (x5 + (1 : Int32))), (7, .int v3), (0, .ref (gB G + r0)), (1, .ref (gB G + r1)), (2, .int x2), (3, .int x3), (4, .int x4), (6, .int x6)]) C 6 dX12_energy_177 rfl (congrArg (fun z => x5 + z) (show Int32.ofInt (1) = (1 : Int32) by decide)) (by decide) rfl ?_
        refine ww_goto (pc := 180) (tgt := 6) C dX12_energy_180 (by decide) ?_
        have hf := xsj hf
        subst hf
        refine ww_sub [2, 3, 4, 5, 6, 0] rfl ?_
        exact hk.1 (x4, x5 + (1 : Int32)) rfl
      · have hf := xin q hf
        refine ww_goto (pc := 132) (tgt := 143) C dX12_energy_132 (by decide) ?_
        refine ww_sub [1, 2, 3, 4, 5, 6, 7, 0] rfl ?_
        exact s_X12_energy_j143 C hf hk
theorem s_X12_energy_j51 {G : XG} (C : XC G cX12_energy RX12 (some .int) 8 2 48) {σ : XS} {r0 : Nat} {r1 : Nat} {x2 : Int32} {x3 : Int32} {x5 : Int32} {x6 : Int32} {t0 : Int32} {t1 : Int32} {x : ((Int32 × Int32) ⊕ (Int32))} (hf : f_X12_energy_j51 σ r0 r1 x2 x3 x5 x6 t0 t1 = some x) (hk : (∀ a' : Int32 × Int32, x = .inl a' → WW G 6 [(0, .ref (gB G + r0)), (1, .ref (gB G + r1)), (2, .int x2), (3, .int x3), (4, .int a'.1), (5, .int a'.2)] [] σ) ∧ (∀ b1 : Int32, x = .inr b1 → XEnd G (some (.int b1)) σ)) : WW G 51 [(0, .ref (gB G + r0)), (1, .ref (gB G + r1)), (2, .int x2), (3, .int x3), (5, .int x5), (6, .int x6)] [.int t1, .int t0] σ := by
  refine ww_iadd (pc := 51) C dX12_energy_51 ?_
  refine ww_istore (pc := 52) (lv' := [(4, .int (t0 + t1)), (0, .ref (gB G + r0)), (1, .ref (gB G + r1)), (2, .int x2), (3, .int x3), (5, .int x5), (6, .int x6)]) C dX12_energy_52 (by decide) rfl ?_
  refine ww_aload_n (pc := 54) C 1 dX12_energy_54 rfl ?_
  refine ww_iload (pc := 55) C 5 dX12_energy_55 rfl ?_
  refine ww_iconst (pc := 57) (v := (0 : Int32)) C dX12_energy_57 (by decide) ?_
  obtain ⟨_, e1, hf⟩ := xbd hf
  obtain ⟨v3, e2, hf⟩ := xbd hf
  refine ww_callVi (pc := 58) (as := [.int x5, .int (0 : Int32)]) (st := []) C (k_X12_tieTo (l := gl G) (E := gE G) (hb := gB G) (σ := σ) e2) rfl (by decide) xc_X12_236 q1512 qp138 (xck_spec e1) rfl (by decide) (xst4 (Nat.le_of_ble_eq_true rfl)) xsame.rf.le xsame.rf.lim dX12_energy_58 ?_
  refine ww_istore (pc := 61) (lv' := [(7, .int v3), (4, .int (t0 + t1)), (0, .ref (gB G + r0)), (1, .ref (gB G + r1)), (2, .int x2), (3, .int x3), (5, .int x5), (6, .int x6)]) C dX12_energy_61 (by decide) rfl ?_
  refine ww_iload (pc := 63) C 0 dX12_energy_63 rfl ?_
  refine ww_if_lt (pc := 65) (tgt := 100) C dX12_energy_65 (by decide) (fun q => ?_) (fun q => ?_)
  · have hf := xip q hf
    refine ww_sub [2, 3, 4, 5, 1, 6, 7] rfl ?_
    exact s_X12_energy_j100 C hf hk
  · have hf := xin q hf
    refine ww_iload (pc := 68) C 1 dX12_energy_68 rfl ?_
    refine ww_iload_n (pc := 70) C 4 dX12_energy_70 rfl ?_
    refine ww_iload (pc := 71) C 0 dX12_energy_71 rfl ?_
    refine ww_ishr (pc := 73) C dX12_energy_73 ?_
    refine ww_iconst (pc := 74) (v := (1 : Int32)) C dX12_energy_74 (by decide) ?_
    refine ww_iand (pc := 75) C dX12_energy_75 ?_
    refine ww_iload (pc := 76) C 7 dX12_energy_76 rfl ?_
    refine ww_icmp_ne (pc := 78) (tgt := 91) C dX12_energy_78 (by decide) (fun q => ?_) (fun q => ?_)
    · have hf := xin q hf
      refine ww_aload_n (pc := 91) C 3 dX12_energy_91 rfl ?_
      refine ww_iconst (pc := 92) (v := (0 : Int32)) C dX12_energy_92 (by decide) ?_
      refine ww_iload (pc := 93) C 6 dX12_energy_93 rfl ?_
      refine ww_iadd (pc := 95) C dX12_energy_95 ?_
      obtain ⟨v5, e4, hf⟩ := xbd hf
      refine ww_iald (pc := 96) C e4 dX12_energy_96 ?_
      refine ww_iadd (pc := 97) C dX12_energy_97 ?_
      refine ww_istore (pc := 98) (lv' := [(4, .int ((t0 + t1) + v5)), (7, .int v3), (0, .ref (gB G + r0)), (1, .ref (gB G + r1)), (2, .int x2), (3, .int x3), (5, .int x5), (6, .int x6)]) C dX12_energy_98 (by decide) rfl ?_
      refine ww_sub [2, 3, 4, 5, 0, 6, 7] rfl ?_
      exact s_X12_energy_j100 C hf hk
    · have hf := xip q hf
      refine ww_aload_n (pc := 81) C 3 dX12_energy_81 rfl ?_
      refine ww_iconst (pc := 82) (v := (0 : Int32)) C dX12_energy_82 (by decide) ?_
      refine ww_iload (pc := 83) C 6 dX12_energy_83 rfl ?_
      refine ww_iadd (pc := 85) C dX12_energy_85 ?_
      obtain ⟨v5, e4, hf⟩ := xbd hf
      refine ww_iald (pc := 86) C e4 dX12_energy_86 ?_
      refine ww_ineg (pc := 87) C dX12_energy_87 ?_
      refine ww_goto (pc := 88) (tgt := 97) C dX12_energy_88 (by decide) ?_
      refine ww_iadd (pc := 97) C dX12_energy_97 ?_
      refine ww_istore (pc := 98) (lv' := [(4, .int ((t0 + t1) + (-v5))), (7, .int v3), (0, .ref (gB G + r0)), (1, .ref (gB G + r1)), (2, .int x2), (3, .int x3), (5, .int x5), (6, .int x6)]) C dX12_energy_98 (by decide) rfl ?_
      refine ww_sub [2, 3, 4, 5, 0, 6, 7] rfl ?_
      exact s_X12_energy_j100 C hf hk
theorem s_X12_energy_l6 {G : XG} (C : XC G cX12_energy RX12 (some .int) 8 2 48) {σ : XS} {r0 : Nat} {r1 : Nat} {x2 : Int32} {x3 : Int32} {a : Int32 × Int32} {x : Int32} (hf : xloop (f_X12_energy_b6 σ r0 r1 x2 x3) a = some x) (hk : XEnd G (some (.int x)) σ) : WW G 6 [(0, .ref (gB G + r0)), (1, .ref (gB G + r1)), (2, .int x2), (3, .int x3), (4, .int a.1), (5, .int a.2)] [] σ := by
  refine xloop_ind (P := fun a => WW G 6 [(0, .ref (gB G + r0)), (1, .ref (gB G + r1)), (2, .int x2), (3, .int x3), (4, .int a.1), (5, .int a.2)] [] σ) (fun a y hf hc he => ?_) hf
  obtain ⟨x4, x5⟩ := a
  have hk : (∀ a' : Int32 × Int32, y = .inl a' → WW G 6 [(0, .ref (gB G + r0)), (1, .ref (gB G + r1)), (2, .int x2), (3, .int x3), (4, .int a'.1), (5, .int a'.2)] [] σ) ∧ (∀ b1 : Int32, y = .inr b1 → XEnd G (some (.int b1)) σ) := ⟨hc, fun b e => by have h9 := he b e; subst h9; exact hk⟩
  refine ww_iload (pc := 6) C 5 dX12_energy_6 rfl ?_
  refine ww_aload_n (pc := 8) C 0 dX12_energy_8 rfl ?_
  obtain ⟨v2, e1, hf⟩ := xbd hf
  refine gf_X12_171 (pc := 9) C e1 dX12_energy_9 ?_
  refine ww_iload_n (pc := 12) C 3 dX12_energy_12 rfl ?_
  refine ww_imul (pc := 13) C dX12_energy_13 ?_
  refine ww_icmp_ge (pc := 14) (tgt := 183) C dX12_energy_14 (by decide) (fun q => ?_) (fun q => ?_)
  · have hf := xip q hf
    obtain ⟨b0, hg, e9⟩ := xmj hf
    subst e9
    have hf := hg
    have hk := hk.2 _ rfl
    refine ww_iload (pc := 183) C 4 dX12_energy_183 rfl ?_
    have hf := xsj hf
    subst hf
    exact ww_iret (pc := 185) C hk dX12_energy_185
  · have hf := xin q hf
    refine ww_iload_n (pc := 17) C 2 dX12_energy_17 rfl ?_
    refine ww_iload (pc := 18) C 5 dX12_energy_18 rfl ?_
    refine ww_ishr (pc := 20) C dX12_energy_20 ?_
    refine ww_iconst (pc := 21) (v := (1 : Int32)) C dX12_energy_21 (by decide) ?_
    refine ww_iand (pc := 22) C dX12_energy_22 ?_
    refine ww_istore (pc := 23) (lv' := [(6, .int ((x2 >>> (x5 &&& 31)) &&& (1 : Int32))), (0, .ref (gB G + r0)), (1, .ref (gB G + r1)), (2, .int x2), (3, .int x3), (4, .int x4), (5, .int x5)]) C dX12_energy_23 (by decide) rfl ?_
    refine ww_iload (pc := 25) C 5 dX12_energy_25 rfl ?_
    refine ww_iload (pc := 27) C 0 dX12_energy_27 rfl ?_
    refine ww_iconst (pc := 29) (v := (1 : Int32)) C dX12_energy_29 (by decide) ?_
    refine ww_icmp_ne (pc := 30) (tgt := 44) C dX12_energy_30 (by decide) (fun q => ?_) (fun q => ?_)
    · have hf := xin q hf
      refine ww_aload_n (pc := 44) C 2 dX12_energy_44 rfl ?_
      refine ww_bipush (pc := 45) (v := (32 : Int32)) C dX12_energy_45 (by decide) ?_
      refine ww_iload (pc := 47) C 6 dX12_energy_47 rfl ?_
      refine ww_iadd (pc := 49) C dX12_energy_49 ?_
      obtain ⟨v4, e3, hf⟩ := xbd hf
      refine ww_iald (pc := 50) C e3 dX12_energy_50 ?_
      refine ww_sub [1, 2, 3, 4, 6, 0] rfl ?_
      exact s_X12_energy_j51 C hf hk
    · have hf := xip q hf
      refine ww_aload_n (pc := 33) C 2 dX12_energy_33 rfl ?_
      refine ww_bipush (pc := 34) (v := (32 : Int32)) C dX12_energy_34 (by decide) ?_
      refine ww_iload (pc := 36) C 6 dX12_energy_36 rfl ?_
      refine ww_iadd (pc := 38) C dX12_energy_38 ?_
      obtain ⟨v4, e3, hf⟩ := xbd hf
      refine ww_iald (pc := 39) C e3 dX12_energy_39 ?_
      refine ww_ineg (pc := 40) C dX12_energy_40 ?_
      refine ww_goto (pc := 41) (tgt := 51) C dX12_energy_41 (by decide) ?_
      refine ww_sub [1, 2, 3, 4, 6, 0] rfl ?_
      exact s_X12_energy_j51 C hf hk
theorem s_X12_energy_e {G : XG} (C : XC G cX12_energy RX12 (some .int) 8 2 48) {σ : XS} {r0 : Nat} {r1 : Nat} {x2 : Int32} {x3 : Int32} {x : Int32} (hf : f_X12_energy σ r0 r1 x2 x3 = some x) (hk : XEnd G (some (.int x)) σ) : WW G 0 [(0, .ref (gB G + r0)), (1, .ref (gB G + r1)), (2, .int x2), (3, .int x3)] [] σ := by
  refine ww_iconst (pc := 0) (v := (0 : Int32)) C dX12_energy_0 (by decide) ?_
  refine ww_istore (pc := 1) (lv' := [(4, .int (0 : Int32)), (0, .ref (gB G + r0)), (1, .ref (gB G + r1)), (2, .int x2), (3, .int x3)]) C dX12_energy_1 (by decide) rfl ?_
  refine ww_iconst (pc := 3) (v := (0 : Int32)) C dX12_energy_3 (by decide) ?_
  refine ww_istore (pc := 4) (lv' := [(5, .int (0 : Int32)), (4, .int (0 : Int32)), (0, .ref (gB G + r0)), (1, .ref (gB G + r1)), (2, .int x2), (3, .int x3)]) C dX12_energy_4 (by decide) rfl ?_
  refine ww_sub [2, 3, 4, 5, 1, 0] rfl ?_
  exact s_X12_energy_l6 C (a := ((0 : Int32), (0 : Int32))) hf hk
theorem k_X12_energy {l : Launch} {E : XD} {hb : Nat} {σ : XS} {r0 : Nat} {r1 : Nat} {x2 : Int32} {x3 : Int32} {x : Int32} (h : f_X12_energy σ r0 r1 x2 x3 = some x) : XM l yX12_energy cX12_energy 8 (some .int) 2 48 E hb [.ref (hb + r0), .ref (hb + r1), .int x2, .int x3] σ (some (.int x)) σ := by
  refine xm_of (by decide) (Nat.le_of_ble_eq_true rfl) ⟨Nat.le_refl _, Nat.le_refl _⟩ (fun G hG C hl hQ => ?_)
  obtain ⟨rfl, rfl, rfl, hN⟩ := hG
  exact s_X12_energy_e C h hQ
noncomputable def f_X12_knows_b122 (r0 : Nat) : Int32 × XS → Option ((Int32 × XS) ⊕ (XS)) := fun a => match a with
  | (x1, σ) => if (301 : Int32) ≤ x1 then ((some σ).map .inr) else (xgR σ r0 12 34).bind fun z2 => (xaI σ 20 z2 x1).bind fun v4 => if v4 = 0 then (some (.inl (x1 + (1 : Int32), σ))) else (xgR σ r0 12 36).bind fun z6 => (xgI σ r0 12 35).bind fun v8 => (xsI σ 20 z6 v8 (x1 - (150 : Int32))).bind fun σ10 => (xgI σ10 r0 12 35).bind fun v12 => (xpI σ10 r0 12 35 (v12 + (1 : Int32))).bind fun σ14 => some (.inl (x1 + (1 : Int32), σ14))
noncomputable def f_X12_knows_j77 (σ : XS) (r0 : Nat) (x1 : Int32) (t0 : Nat) (t1 : Int32) (t2 : Int32) : Option ((Int32 × XS) ⊕ (XS)) := (xsI σ 20 t0 t1 t2).bind fun σ2 => (xgR σ2 r0 12 33).bind fun z4 => (xaI σ2 20 z4 x1).bind fun v6 => if (100000 : Int32) ≤ v6 then (some (.inl (x1 + (1 : Int32), σ2))) else (xgR σ2 r0 12 34).bind fun z8 => (xgR σ2 r0 12 33).bind fun z10 => (xaI σ2 20 z10 x1).bind fun v12 => (xaI σ2 20 z8 ((150 : Int32) + v12)).bind fun v14 => (xsI σ2 20 z8 ((150 : Int32) + v12) (v14 + (1 : Int32))).bind fun σ16 => some (.inl (x1 + (1 : Int32), σ16))
noncomputable def f_X12_knows_b37 (r0 : Nat) : Int32 × XS → Option ((Int32 × XS) ⊕ (XS)) := fun a => match a with
  | (x1, σ) => (xck σ r0 12).bind fun _ => (f_X12_states σ r0).bind fun v3 => if v3 ≤ x1 then (((xpI σ r0 12 35 (0 : Int32)).bind fun σ5 => xloop (f_X12_knows_b122 r0) ((0 : Int32), σ5)).map .inr) else (xgR σ r0 12 33).bind fun z5 => (xck σ r0 12).bind fun _ => (f_X12_isLawful σ r0 x1).bind fun v8 => if v8 = 0 then (f_X12_knows_j77 σ r0 x1 z5 x1 (100000 : Int32)) else (xgR σ r0 12 21).bind fun z10 => (xgI σ r0 12 18).bind fun v12 => (xck σ r0 12).bind fun _ => (f_X12_energy σ r0 z10 x1 v12).bind fun v15 => f_X12_knows_j77 σ r0 x1 z5 x1 v15
noncomputable def f_X12_knows_b15 (r0 : Nat) : Int32 × XS → Option ((Int32 × XS) ⊕ (XS)) := fun a => match a with
  | (x1, σ) => if (301 : Int32) ≤ x1 then ((xloop (f_X12_knows_b37 r0) ((0 : Int32), σ)).map .inr) else (xgR σ r0 12 34).bind fun z2 => (xsI σ 20 z2 x1 (0 : Int32)).bind fun σ4 => some (.inl (x1 + (1 : Int32), σ4))
noncomputable def f_X12_knows (σ : XS) (r0 : Nat) : Option XS := (xgI σ r0 12 32).bind fun v2 => if v2 = 0 then ((xpI σ r0 12 32 (1 : Int32)).bind fun σ4 => xloop (f_X12_knows_b15 r0) ((0 : Int32), σ4)) else some σ
theorem m_X12_knows_l122 {r0 : Nat} {a : Int32 × XS} {x : XS} (hf : xloop (f_X12_knows_b122 r0) a = some x) : xsame a.2 x := by
  refine xloop_ind (P := fun a => xsame a.2 x) (fun a y hf hc he => ?_) hf
  obtain ⟨x1, σ⟩ := a
  have hy : (∀ a' : Int32 × XS, y = .inl a' → xsame σ a'.2) ∧ (∀ b1 : XS, y = .inr b1 → xsame σ b1) := by
    have hm := xsame.rf (σ := σ)
    by_cases q : (301 : Int32) ≤ x1
    · have hf := xip q hf
      obtain ⟨b0, hg, e9⟩ := xmj hf
      subst e9
      have hf := hg
      refine ⟨fun a' e => xnc2 e, fun b e => ?_⟩
      have h9 := Sum.inr.inj e
      subst h9
      have hf := xsj hf
      subst hf
      exact hm
    · have hf := xin q hf
      obtain ⟨z2, e1, hf⟩ := xbd hf
      obtain ⟨v4, e3, hf⟩ := xbd hf
      by_cases q : v4 = 0
      · have hf := xip q hf
        have hf := xsj hf
        subst hf
        exact ⟨fun a' e => (by have h9 := Sum.inl.inj e; subst h9; exact hm), fun b e => xnc1 e⟩
      · have hf := xin q hf
        obtain ⟨z6, e5, hf⟩ := xbd hf
        obtain ⟨v8, e7, hf⟩ := xbd hf
        obtain ⟨σ10, e9, hf⟩ := xbd hf
        have hm := hm.tr (xsI_same e9)
        obtain ⟨v12, e11, hf⟩ := xbd hf
        obtain ⟨σ14, e13, hf⟩ := xbd hf
        have hm := hm.tr (xpI_same e13)
        have hf := xsj hf
        subst hf
        exact ⟨fun a' e => (by have h9 := Sum.inl.inj e; subst h9; exact hm), fun b e => xnc1 e⟩
  cases y with
  | inl a' =>
    have h1 := hc a' rfl
    have hm := hy.1 a' rfl
    exact hm.tr (h1)
  | inr b =>
    have h1 := he b rfl
    subst h1
    exact hy.2 _ rfl
theorem s_X12_knows_l122 {G : XG} (C : XC G cX12_knows RX12 none 2 3 75) {r0 : Nat} {a : Int32 × XS} {x : XS} (hf : xloop (f_X12_knows_b122 r0) a = some x) (hk : XEnd G none x) : WW G 122 [(0, .ref (gB G + r0)), (1, .int a.1)] [] a.2 := by
  refine xloop_ind (P := fun a => WW G 122 [(0, .ref (gB G + r0)), (1, .int a.1)] [] a.2) (fun a y hf hc he => ?_) hf
  obtain ⟨x1, σ⟩ := a
  have hk : (∀ a' : Int32 × XS, y = .inl a' → WW G 122 [(0, .ref (gB G + r0)), (1, .int a'.1)] [] a'.2) ∧ (∀ b1 : XS, y = .inr b1 → XEnd G none b1) := ⟨hc, fun b e => by have h9 := he b e; subst h9; exact hk⟩
  refine ww_iload_n (pc := 122) C 1 dX12_knows_122 rfl ?_
  refine ww_sipush (pc := 123) (v := (301 : Int32)) C dX12_knows_123 (by decide) ?_
  refine ww_icmp_ge (pc := 126) (tgt := 171) C dX12_knows_126 (by decide) (fun q => ?_) (fun q => ?_)
  · have hf := xip q hf
    obtain ⟨b0, hg, e9⟩ := xmj hf
    subst e9
    have hf := hg
    have hk := hk.2 _ rfl
    have hf := xsj hf
    subst hf
    exact ww_vret (pc := 171) C hk dX12_knows_171
  · have hf := xin q hf
    refine ww_aload_n (pc := 129) C 0 dX12_knows_129 rfl ?_
    obtain ⟨z2, e1, hf⟩ := xbd hf
    refine gf_X12_60 (pc := 130) C e1 dX12_knows_130 ?_
    refine ww_iload_n (pc := 133) C 1 dX12_knows_133 rfl ?_
    obtain ⟨v4, e3, hf⟩ := xbd hf
    refine ww_iald (pc := 134) C e3 dX12_knows_134 ?_
    refine ww_if_ne (pc := 135) (tgt := 141) C dX12_knows_135 (by decide) (fun q => ?_) (fun q => ?_)
    · have hf := xin q hf
      refine ww_aload_n (pc := 141) C 0 dX12_knows_141 rfl ?_
      obtain ⟨z6, e5, hf⟩ := xbd hf
      refine gf_X12_63 (pc := 142) C e5 dX12_knows_142 ?_
      refine ww_aload_n (pc := 145) C 0 dX12_knows_145 rfl ?_
      obtain ⟨v8, e7, hf⟩ := xbd hf
      refine gf_X12_285 (pc := 146) C e7 dX12_knows_146 ?_
      refine ww_iload_n (pc := 149) C 1 dX12_knows_149 rfl ?_
      refine ww_sipush (pc := 150) (v := (150 : Int32)) C dX12_knows_150 (by decide) ?_
      refine ww_isub (pc := 153) C dX12_knows_153 ?_
      obtain ⟨σ10, e9, hf⟩ := xbd hf
      refine ww_iast (pc := 154) C e9 dX12_knows_154 ?_
      refine ww_aload_n (pc := 155) C 0 dX12_knows_155 rfl ?_
      refine ww_dup (pc := 156) C dX12_knows_156 rfl ?_
      obtain ⟨v12, e11, hf⟩ := xbd hf
      refine gf_X12_285 (pc := 157) C e11 dX12_knows_157 ?_
      refine ww_iconst (pc := 160) (v := (1 : Int32)) C dX12_knows_160 (by decide) ?_
      refine ww_iadd (pc := 161) C dX12_knows_161 ?_
      obtain ⟨σ14, e13, hf⟩ := xbd hf
      refine pf_X12_285 (pc := 162) C e13 dX12_knows_162 ?_
      refine ww_iinc (pc := 165) (v := x1 + (1 : Int32)) (lv' := [(1, .int (x1 + (1 : Int32))), (0, .ref (gB G + r0))]) C 1 dX12_knows_165 rfl (congrArg (fun z => x1 + z) (show Int32.ofInt (1) = (1 : Int32) by decide)) (by decide) rfl ?_
      refine ww_goto (pc := 168) (tgt := 122) C dX12_knows_168 (by decide) ?_
      have hf := xsj hf
      subst hf
      refine ww_sub [1, 0] rfl ?_
      exact hk.1 (x1 + (1 : Int32), σ14) rfl
    · have hf := xip q hf
      refine ww_goto (pc := 138) (tgt := 165) C dX12_knows_138 (by decide) ?_
      refine ww_iinc (pc := 165) (v := x1 + (1 : Int32)) (lv' := [(1, .int (x1 + (1 : Int32))), (0, .ref (gB G + r0))]) C 1 dX12_knows_165 rfl (congrArg (fun z => x1 + z) (show Int32.ofInt (1) = (1 : Int32) by decide)) (by decide) rfl ?_
      refine ww_goto (pc := 168) (tgt := 122) C dX12_knows_168 (by decide) ?_
      have hf := xsj hf
      subst hf
      refine ww_sub [1, 0] rfl ?_
      exact hk.1 (x1 + (1 : Int32), σ) rfl
theorem s_X12_knows_j77 {G : XG} (C : XC G cX12_knows RX12 none 2 3 75) {σ : XS} {r0 : Nat} {x1 : Int32} {t0 : Nat} {t1 : Int32} {t2 : Int32} {x : ((Int32 × XS) ⊕ (XS))} (hf : f_X12_knows_j77 σ r0 x1 t0 t1 t2 = some x) (hk : (∀ a' : Int32 × XS, x = .inl a' → WW G 37 [(0, .ref (gB G + r0)), (1, .int a'.1)] [] a'.2) ∧ (∀ b1 : XS, x = .inr b1 → XEnd G none b1)) : WW G 77 [(0, .ref (gB G + r0)), (1, .int x1)] [.int t2, .int t1, .ref (gB G + t0)] σ := by
  obtain ⟨σ2, e1, hf⟩ := xbd hf
  refine ww_iast (pc := 77) C e1 dX12_knows_77 ?_
  refine ww_aload_n (pc := 78) C 0 dX12_knows_78 rfl ?_
  obtain ⟨z4, e3, hf⟩ := xbd hf
  refine gf_X12_57 (pc := 79) C e3 dX12_knows_79 ?_
  refine ww_iload_n (pc := 82) C 1 dX12_knows_82 rfl ?_
  obtain ⟨v6, e5, hf⟩ := xbd hf
  refine ww_iald (pc := 83) C e5 dX12_knows_83 ?_
  refine ww_ldcw (pc := 84) C q1568 dX12_knows_84 ?_
  refine ww_icmp_ge (pc := 87) (tgt := 109) C dX12_knows_87 (by decide) (fun q => ?_) (fun q => ?_)
  · have hf := xip q hf
    refine ww_iinc (pc := 109) (v := x1 + (1 : Int32)) (lv' := [(1, .int (x1 + (1 : Int32))), (0, .ref (gB G + r0))]) C 1 dX12_knows_109 rfl (congrArg (fun z => x1 + z) (show Int32.ofInt (1) = (1 : Int32) by decide)) (by decide) rfl ?_
    refine ww_goto (pc := 112) (tgt := 37) C dX12_knows_112 (by decide) ?_
    have hf := xsj hf
    subst hf
    refine ww_sub [1, 0] rfl ?_
    exact hk.1 (x1 + (1 : Int32), σ2) rfl
  · have hf := xin q hf
    refine ww_aload_n (pc := 90) C 0 dX12_knows_90 rfl ?_
    obtain ⟨z8, e7, hf⟩ := xbd hf
    refine gf_X12_60 (pc := 91) C e7 dX12_knows_91 ?_
    refine ww_sipush (pc := 94) (v := (150 : Int32)) C dX12_knows_94 (by decide) ?_
    refine ww_aload_n (pc := 97) C 0 dX12_knows_97 rfl ?_
    obtain ⟨z10, e9, hf⟩ := xbd hf
    refine gf_X12_57 (pc := 98) C e9 dX12_knows_98 ?_
    refine ww_iload_n (pc := 101) C 1 dX12_knows_101 rfl ?_
    obtain ⟨v12, e11, hf⟩ := xbd hf
    refine ww_iald (pc := 102) C e11 dX12_knows_102 ?_
    refine ww_iadd (pc := 103) C dX12_knows_103 ?_
    refine ww_dup2 (pc := 104) C dX12_knows_104 rfl rfl ?_
    obtain ⟨v14, e13, hf⟩ := xbd hf
    refine ww_iald (pc := 105) C e13 dX12_knows_105 ?_
    refine ww_iconst (pc := 106) (v := (1 : Int32)) C dX12_knows_106 (by decide) ?_
    refine ww_iadd (pc := 107) C dX12_knows_107 ?_
    obtain ⟨σ16, e15, hf⟩ := xbd hf
    refine ww_iast (pc := 108) C e15 dX12_knows_108 ?_
    refine ww_iinc (pc := 109) (v := x1 + (1 : Int32)) (lv' := [(1, .int (x1 + (1 : Int32))), (0, .ref (gB G + r0))]) C 1 dX12_knows_109 rfl (congrArg (fun z => x1 + z) (show Int32.ofInt (1) = (1 : Int32) by decide)) (by decide) rfl ?_
    refine ww_goto (pc := 112) (tgt := 37) C dX12_knows_112 (by decide) ?_
    have hf := xsj hf
    subst hf
    refine ww_sub [1, 0] rfl ?_
    exact hk.1 (x1 + (1 : Int32), σ16) rfl
theorem m_X12_knows_j77 {σ : XS} {r0 : Nat} {x1 : Int32} {t0 : Nat} {t1 : Int32} {t2 : Int32} {x : ((Int32 × XS) ⊕ (XS))} (hf : f_X12_knows_j77 σ r0 x1 t0 t1 t2 = some x) : (∀ a' : Int32 × XS, x = .inl a' → xsame σ a'.2) ∧ (∀ b1 : XS, x = .inr b1 → xsame σ b1) := by
  have hm := xsame.rf (σ := σ)
  obtain ⟨σ2, e1, hf⟩ := xbd hf
  have hm := hm.tr (xsI_same e1)
  obtain ⟨z4, e3, hf⟩ := xbd hf
  obtain ⟨v6, e5, hf⟩ := xbd hf
  by_cases q : (100000 : Int32) ≤ v6
  · have hf := xip q hf
    have hf := xsj hf
    subst hf
    exact ⟨fun a' e => (by have h9 := Sum.inl.inj e; subst h9; exact hm), fun b e => xnc1 e⟩
  · have hf := xin q hf
    obtain ⟨z8, e7, hf⟩ := xbd hf
    obtain ⟨z10, e9, hf⟩ := xbd hf
    obtain ⟨v12, e11, hf⟩ := xbd hf
    obtain ⟨v14, e13, hf⟩ := xbd hf
    obtain ⟨σ16, e15, hf⟩ := xbd hf
    have hm := hm.tr (xsI_same e15)
    have hf := xsj hf
    subst hf
    exact ⟨fun a' e => (by have h9 := Sum.inl.inj e; subst h9; exact hm), fun b e => xnc1 e⟩
theorem m_X12_knows_l37 {r0 : Nat} {a : Int32 × XS} {x : XS} (hf : xloop (f_X12_knows_b37 r0) a = some x) : xsame a.2 x := by
  refine xloop_ind (P := fun a => xsame a.2 x) (fun a y hf hc he => ?_) hf
  obtain ⟨x1, σ⟩ := a
  have hy : (∀ a' : Int32 × XS, y = .inl a' → xsame σ a'.2) ∧ (∀ b1 : XS, y = .inr b1 → xsame σ b1) := by
    have hm := xsame.rf (σ := σ)
    obtain ⟨_, e1, hf⟩ := xbd hf
    obtain ⟨v3, e2, hf⟩ := xbd hf
    by_cases q : v3 ≤ x1
    · have hf := xip q hf
      obtain ⟨b0, hg, e9⟩ := xmj hf
      subst e9
      have hf := hg
      refine ⟨fun a' e => xnc2 e, fun b e => ?_⟩
      have h9 := Sum.inr.inj e
      subst h9
      obtain ⟨σ5, e4, hf⟩ := xbd hf
      have hm := hm.tr (xpI_same e4)
      exact hm.tr (m_X12_knows_l122 (a := ((0 : Int32), σ5)) hf)
    · have hf := xin q hf
      obtain ⟨z5, e4, hf⟩ := xbd hf
      obtain ⟨_, e6, hf⟩ := xbd hf
      obtain ⟨v8, e7, hf⟩ := xbd hf
      by_cases q : v8 = 0
      · have hf := xip q hf
        exact ⟨fun a' e => hm.tr ((m_X12_knows_j77 hf).1 a' e), fun b1 eb1 => hm.tr ((m_X12_knows_j77 hf).2 b1 eb1)⟩
      · have hf := xin q hf
        obtain ⟨z10, e9, hf⟩ := xbd hf
        obtain ⟨v12, e11, hf⟩ := xbd hf
        obtain ⟨_, e13, hf⟩ := xbd hf
        obtain ⟨v15, e14, hf⟩ := xbd hf
        exact ⟨fun a' e => hm.tr ((m_X12_knows_j77 hf).1 a' e), fun b1 eb1 => hm.tr ((m_X12_knows_j77 hf).2 b1 eb1)⟩
  cases y with
  | inl a' =>
    have h1 := hc a' rfl
    have hm := hy.1 a' rfl
    exact hm.tr (h1)
  | inr b =>
    have h1 := he b rfl
    subst h1
    exact hy.2 _ rfl
theorem s_X12_knows_l37 {G : XG} (C : XC G cX12_knows RX12 none 2 3 75) {r0 : Nat} {a : Int32 × XS} {x : XS} (hf : xloop (f_X12_knows_b37 r0) a = some x) (hk : XEnd G none x) : WW G 37 [(0, .ref (gB G + r0)), (1, .int a.1)] [] a.2 := by
  refine xloop_ind (P := fun a => WW G 37 [(0, .ref (gB G + r0)), (1, .int a.1)] [] a.2) (fun a y hf hc he => ?_) hf
  obtain ⟨x1, σ⟩ := a
  have hk : (∀ a' : Int32 × XS, y = .inl a' → WW G 37 [(0, .ref (gB G + r0)), (1, .int a'.1)] [] a'.2) ∧ (∀ b1 : XS, y = .inr b1 → XEnd G none b1) := ⟨hc, fun b e => by have h9 := he b e; subst h9; exact hk⟩
  refine ww_iload_n (pc := 37) C 1 dX12_knows_37 rfl ?_
  refine ww_aload_n (pc := 38) C 0 dX12_knows_38 rfl ?_
  obtain ⟨_, e1, hf⟩ := xbd hf
  obtain ⟨v3, e2, hf⟩ := xbd hf
  refine ww_callVi (pc := 39) (as := []) (st := [.int x1]) C (k_X12_states (l := gl G) (E := gE G) (hb := gB G) (σ := σ) e2) rfl (by decide) xc_X12_270 q1555 qp141 (xck_spec e1) rfl (by decide) (xst4 (Nat.le_of_ble_eq_true rfl)) xsame.rf.le xsame.rf.lim dX12_knows_39 ?_
  refine ww_icmp_ge (pc := 42) (tgt := 115) C dX12_knows_42 (by decide) (fun q => ?_) (fun q => ?_)
  · have hf := xip q hf
    obtain ⟨b0, hg, e9⟩ := xmj hf
    subst e9
    have hf := hg
    have hk := hk.2 _ rfl
    refine ww_aload_n (pc := 115) C 0 dX12_knows_115 rfl ?_
    refine ww_iconst (pc := 116) (v := (0 : Int32)) C dX12_knows_116 (by decide) ?_
    obtain ⟨σ5, e4, hf⟩ := xbd hf
    refine pf_X12_285 (pc := 117) C e4 dX12_knows_117 ?_
    refine ww_iconst (pc := 120) (v := (0 : Int32)) C dX12_knows_120 (by decide) ?_
    refine ww_istore_n (pc := 121) (lv' := [(1, .int (0 : Int32)), (0, .ref (gB G + r0))]) C dX12_knows_121 (by decide) rfl ?_
    refine ww_sub [1, 0] rfl ?_
    exact s_X12_knows_l122 C (a := ((0 : Int32), σ5)) hf hk
  · have hf := xin q hf
    refine ww_aload_n (pc := 45) C 0 dX12_knows_45 rfl ?_
    obtain ⟨z5, e4, hf⟩ := xbd hf
    refine gf_X12_57 (pc := 46) C e4 dX12_knows_46 ?_
    refine ww_iload_n (pc := 49) C 1 dX12_knows_49 rfl ?_
    refine ww_aload_n (pc := 50) C 0 dX12_knows_50 rfl ?_
    refine ww_iload_n (pc := 51) C 1 dX12_knows_51 rfl ?_
    obtain ⟨_, e6, hf⟩ := xbd hf
    obtain ⟨v8, e7, hf⟩ := xbd hf
    refine ww_callVi (pc := 52) (as := [.int x1]) (st := [.int x1, .ref (gB G + z5)]) C (k_X12_isLawful (l := gl G) (E := gE G) (hb := gB G) (σ := σ) e7) rfl (by decide) xc_X12_281 q1559 qp142 (xck_spec e6) rfl (by decide) (xst4 (Nat.le_of_ble_eq_true rfl)) xsame.rf.le xsame.rf.lim dX12_knows_52 ?_
    refine ww_if_eq (pc := 55) (tgt := 74) C dX12_knows_55 (by decide) (fun q => ?_) (fun q => ?_)
    · have hf := xip q hf
      refine ww_ldcw (pc := 74) C q1568 dX12_knows_74 ?_
      refine ww_sub [0, 1] rfl ?_
      exact s_X12_knows_j77 C hf hk
    · have hf := xin q hf
      refine ww_aload_n (pc := 58) C 0 dX12_knows_58 rfl ?_
      refine ww_aload_n (pc := 59) C 0 dX12_knows_59 rfl ?_
      obtain ⟨z10, e9, hf⟩ := xbd hf
      refine gf_X12_40 (pc := 60) C e9 dX12_knows_60 ?_
      refine ww_iload_n (pc := 63) C 1 dX12_knows_63 rfl ?_
      refine ww_aload_n (pc := 64) C 0 dX12_knows_64 rfl ?_
      obtain ⟨v12, e11, hf⟩ := xbd hf
      refine gf_X12_177 (pc := 65) C e11 dX12_knows_65 ?_
      obtain ⟨_, e13, hf⟩ := xbd hf
      obtain ⟨v15, e14, hf⟩ := xbd hf
      refine ww_callVi (pc := 68) (as := [.ref (gB G + z10), .int x1, .int v12]) (st := [.int x1, .ref (gB G + z5)]) C (k_X12_energy (l := gl G) (E := gE G) (hb := gB G) (σ := σ) e14) rfl (by decide) xc_X12_277 q1566 qp143 (xck_spec e13) rfl (by decide) (xst4 (Nat.le_of_ble_eq_true rfl)) xsame.rf.le xsame.rf.lim dX12_knows_68 ?_
      refine ww_goto (pc := 71) (tgt := 77) C dX12_knows_71 (by decide) ?_
      refine ww_sub [0, 1] rfl ?_
      exact s_X12_knows_j77 C hf hk
theorem m_X12_knows_l15 {r0 : Nat} {a : Int32 × XS} {x : XS} (hf : xloop (f_X12_knows_b15 r0) a = some x) : xsame a.2 x := by
  refine xloop_ind (P := fun a => xsame a.2 x) (fun a y hf hc he => ?_) hf
  obtain ⟨x1, σ⟩ := a
  have hy : (∀ a' : Int32 × XS, y = .inl a' → xsame σ a'.2) ∧ (∀ b1 : XS, y = .inr b1 → xsame σ b1) := by
    have hm := xsame.rf (σ := σ)
    by_cases q : (301 : Int32) ≤ x1
    · have hf := xip q hf
      obtain ⟨b0, hg, e9⟩ := xmj hf
      subst e9
      have hf := hg
      refine ⟨fun a' e => xnc2 e, fun b e => ?_⟩
      have h9 := Sum.inr.inj e
      subst h9
      exact hm.tr (m_X12_knows_l37 (a := ((0 : Int32), σ)) hf)
    · have hf := xin q hf
      obtain ⟨z2, e1, hf⟩ := xbd hf
      obtain ⟨σ4, e3, hf⟩ := xbd hf
      have hm := hm.tr (xsI_same e3)
      have hf := xsj hf
      subst hf
      exact ⟨fun a' e => (by have h9 := Sum.inl.inj e; subst h9; exact hm), fun b e => xnc1 e⟩
  cases y with
  | inl a' =>
    have h1 := hc a' rfl
    have hm := hy.1 a' rfl
    exact hm.tr (h1)
  | inr b =>
    have h1 := he b rfl
    subst h1
    exact hy.2 _ rfl
theorem s_X12_knows_l15 {G : XG} (C : XC G cX12_knows RX12 none 2 3 75) {r0 : Nat} {a : Int32 × XS} {x : XS} (hf : xloop (f_X12_knows_b15 r0) a = some x) (hk : XEnd G none x) : WW G 15 [(0, .ref (gB G + r0)), (1, .int a.1)] [] a.2 := by
  refine xloop_ind (P := fun a => WW G 15 [(0, .ref (gB G + r0)), (1, .int a.1)] [] a.2) (fun a y hf hc he => ?_) hf
  obtain ⟨x1, σ⟩ := a
  have hk : (∀ a' : Int32 × XS, y = .inl a' → WW G 15 [(0, .ref (gB G + r0)), (1, .int a'.1)] [] a'.2) ∧ (∀ b1 : XS, y = .inr b1 → XEnd G none b1) := ⟨hc, fun b e => by have h9 := he b e; subst h9; exact hk⟩
  refine ww_iload_n (pc := 15) C 1 dX12_knows_15 rfl ?_
  refine ww_sipush (pc := 16) (v := (301 : Int32)) C dX12_knows_16 (by decide) ?_
  refine ww_icmp_ge (pc := 19) (tgt := 35) C dX12_knows_19 (by decide) (fun q => ?_) (fun q => ?_)
  · have hf := xip q hf
    obtain ⟨b0, hg, e9⟩ := xmj hf
    subst e9
    have hf := hg
    have hk := hk.2 _ rfl
    refine ww_iconst (pc := 35) (v := (0 : Int32)) C dX12_knows_35 (by decide) ?_
    refine ww_istore_n (pc := 36) (lv' := [(1, .int (0 : Int32)), (0, .ref (gB G + r0))]) C dX12_knows_36 (by decide) rfl ?_
    refine ww_sub [1, 0] rfl ?_
    exact s_X12_knows_l37 C (a := ((0 : Int32), σ)) hf hk
  · have hf := xin q hf
    refine ww_aload_n (pc := 22) C 0 dX12_knows_22 rfl ?_
    obtain ⟨z2, e1, hf⟩ := xbd hf
    refine gf_X12_60 (pc := 23) C e1 dX12_knows_23 ?_
    refine ww_iload_n (pc := 26) C 1 dX12_knows_26 rfl ?_
    refine ww_iconst (pc := 27) (v := (0 : Int32)) C dX12_knows_27 (by decide) ?_
    obtain ⟨σ4, e3, hf⟩ := xbd hf
    refine ww_iast (pc := 28) C e3 dX12_knows_28 ?_
    refine ww_iinc (pc := 29) (v := x1 + (1 : Int32)) (lv' := [(1, .int (x1 + (1 : Int32))), (0, .ref (gB G + r0))]) C 1 dX12_knows_29 rfl (congrArg (fun z => x1 + z) (show Int32.ofInt (1) = (1 : Int32) by decide)) (by decide) rfl ?_
    refine ww_goto (pc := 32) (tgt := 15) C dX12_knows_32 (by decide) ?_
    have hf := xsj hf
    subst hf
    refine ww_sub [1, 0] rfl ?_
    exact hk.1 (x1 + (1 : Int32), σ4) rfl
theorem s_X12_knows_e {G : XG} (C : XC G cX12_knows RX12 none 2 3 75) {σ : XS} {r0 : Nat} {x : XS} (hf : f_X12_knows σ r0 = some x) (hk : XEnd G none x) : WW G 0 [(0, .ref (gB G + r0))] [] σ := by
  refine ww_aload_n (pc := 0) C 0 dX12_knows_0 rfl ?_
  obtain ⟨v2, e1, hf⟩ := xbd hf
  refine gf_X12_200 (pc := 1) C e1 dX12_knows_1 ?_
  refine ww_if_eq (pc := 4) (tgt := 8) C dX12_knows_4 (by decide) (fun q => ?_) (fun q => ?_)
  · have hf := xip q hf
    refine ww_aload_n (pc := 8) C 0 dX12_knows_8 rfl ?_
    refine ww_iconst (pc := 9) (v := (1 : Int32)) C dX12_knows_9 (by decide) ?_
    obtain ⟨σ4, e3, hf⟩ := xbd hf
    refine pf_X12_200 (pc := 10) C (Or.inr rfl) e3 dX12_knows_10 ?_
    refine ww_iconst (pc := 13) (v := (0 : Int32)) C dX12_knows_13 (by decide) ?_
    refine ww_istore_n (pc := 14) (lv' := [(1, .int (0 : Int32)), (0, .ref (gB G + r0))]) C dX12_knows_14 (by decide) rfl ?_
    refine ww_sub [1, 0] rfl ?_
    exact s_X12_knows_l15 C (a := ((0 : Int32), σ4)) hf hk
  · have hf := xin q hf
    have hf := xsj hf
    subst hf
    exact ww_vret (pc := 7) C hk dX12_knows_7
theorem m_X12_knows {σ : XS} {r0 : Nat} {x : XS} (hf : f_X12_knows σ r0 = some x) : xsame σ x := by
  have hm := xsame.rf (σ := σ)
  obtain ⟨v2, e1, hf⟩ := xbd hf
  by_cases q : v2 = 0
  · have hf := xip q hf
    obtain ⟨σ4, e3, hf⟩ := xbd hf
    have hm := hm.tr (xpI_same e3)
    exact hm.tr (m_X12_knows_l15 (a := ((0 : Int32), σ4)) hf)
  · have hf := xin q hf
    have hf := xsj hf
    subst hf
    exact hm
theorem k_X12_knows {l : Launch} {E : XD} {hb : Nat} {σ : XS} {r0 : Nat} {x : XS} (h : f_X12_knows σ r0 = some x) : XM l yX12_knows cX12_knows 2 none 3 75 E hb [.ref (hb + r0)] σ none x := by
  refine xm_of (by decide) (Nat.le_of_ble_eq_true rfl) (m_X12_knows h).le (fun G hG C hl hQ => ?_)
  obtain ⟨rfl, rfl, rfl, hN⟩ := hG
  exact s_X12_knows_e C h hQ
noncomputable def f_X12_steepest_b12 (σ : XS) (r0 : Nat) (x1 : Int32) : Int32 × Int32 × Int32 → Option ((Int32 × Int32 × Int32) ⊕ (Int32)) := fun a => match a with
  | (x2, x3, x4) => (xck σ r0 12).bind fun _ => (f_X12_sites σ r0).bind fun v3 => if v3 ≤ x4 then ((some x2).map .inr) else (xgR σ r0 12 33).bind fun z5 => (xaI σ 20 z5 (x1 ^^^ ((1 : Int32) <<< (x4 &&& 31)))).bind fun v7 => if v7 < x3 then (some (.inl (x4, v7, x4 + (1 : Int32)))) else some (.inl (x2, x3, x4 + (1 : Int32)))
noncomputable def f_X12_steepest (σ : XS) (r0 : Nat) (x1 : Int32) : Option Int32 := (xgR σ r0 12 33).bind fun z2 => (xaI σ 20 z2 x1).bind fun v4 => xloop (f_X12_steepest_b12 σ r0 x1) ((-1 : Int32), v4, (0 : Int32))
theorem s_X12_steepest_l12 {G : XG} (C : XC G cX12_steepest RX12 (some .int) 6 1 20) {σ : XS} {r0 : Nat} {x1 : Int32} {a : Int32 × Int32 × Int32} {x : Int32} (hf : xloop (f_X12_steepest_b12 σ r0 x1) a = some x) (hk : XEnd G (some (.int x)) σ) : WW G 12 [(0, .ref (gB G + r0)), (1, .int x1), (2, .int a.1), (3, .int a.2.1), (4, .int a.2.2)] [] σ := by
  refine xloop_ind (P := fun a => WW G 12 [(0, .ref (gB G + r0)), (1, .int x1), (2, .int a.1), (3, .int a.2.1), (4, .int a.2.2)] [] σ) (fun a y hf hc he => ?_) hf
  obtain ⟨x2, x3, x4⟩ := a
  have hk : (∀ a' : Int32 × Int32 × Int32, y = .inl a' → WW G 12 [(0, .ref (gB G + r0)), (1, .int x1), (2, .int a'.1), (3, .int a'.2.1), (4, .int a'.2.2)] [] σ) ∧ (∀ b1 : Int32, y = .inr b1 → XEnd G (some (.int b1)) σ) := ⟨hc, fun b e => by have h9 := he b e; subst h9; exact hk⟩
  refine ww_iload (pc := 12) C 4 dX12_steepest_12 rfl ?_
  refine ww_aload_n (pc := 14) C 0 dX12_steepest_14 rfl ?_
  obtain ⟨_, e1, hf⟩ := xbd hf
  obtain ⟨v3, e2, hf⟩ := xbd hf
  refine ww_callVi (pc := 15) (as := []) (st := [.int x4]) C (k_X12_sites (l := gl G) (E := gE G) (hb := gB G) (σ := σ) e2) rfl (by decide) xc_X12_193 q1496 qp136 (xck_spec e1) rfl (by decide) (xst4 (Nat.le_of_ble_eq_true rfl)) xsame.rf.le xsame.rf.lim dX12_steepest_15 ?_
  refine ww_icmp_ge (pc := 18) (tgt := 55) C dX12_steepest_18 (by decide) (fun q => ?_) (fun q => ?_)
  · have hf := xip q hf
    obtain ⟨b0, hg, e9⟩ := xmj hf
    subst e9
    have hf := hg
    have hk := hk.2 _ rfl
    refine ww_iload_n (pc := 55) C 2 dX12_steepest_55 rfl ?_
    have hf := xsj hf
    subst hf
    exact ww_iret (pc := 56) C hk dX12_steepest_56
  · have hf := xin q hf
    refine ww_aload_n (pc := 21) C 0 dX12_steepest_21 rfl ?_
    obtain ⟨z5, e4, hf⟩ := xbd hf
    refine gf_X12_57 (pc := 22) C e4 dX12_steepest_22 ?_
    refine ww_iload_n (pc := 25) C 1 dX12_steepest_25 rfl ?_
    refine ww_iconst (pc := 26) (v := (1 : Int32)) C dX12_steepest_26 (by decide) ?_
    refine ww_iload (pc := 27) C 4 dX12_steepest_27 rfl ?_
    refine ww_ishl (pc := 29) C dX12_steepest_29 ?_
    refine ww_ixor (pc := 30) C dX12_steepest_30 ?_
    obtain ⟨v7, e6, hf⟩ := xbd hf
    refine ww_iald (pc := 31) C e6 dX12_steepest_31 ?_
    refine ww_istore (pc := 32) (lv' := [(5, .int v7), (0, .ref (gB G + r0)), (1, .int x1), (2, .int x2), (3, .int x3), (4, .int x4)]) C dX12_steepest_32 (by decide) rfl ?_
    refine ww_iload (pc := 34) C 0 dX12_steepest_34 rfl ?_
    refine ww_iload_n (pc := 36) C 4 dX12_steepest_36 rfl ?_
    refine ww_icmp_lt (pc := 37) (tgt := 43) C dX12_steepest_37 (by decide) (fun q => ?_) (fun q => ?_)
    · have hf := xip q hf
      refine ww_iload (pc := 43) C 5 dX12_steepest_43 rfl ?_
      refine ww_istore_n (pc := 45) (lv' := [(2, .int x4), (5, .int v7), (0, .ref (gB G + r0)), (1, .int x1), (3, .int x3), (4, .int x4)]) C dX12_steepest_45 (by decide) rfl ?_
      refine ww_iload (pc := 46) C 1 dX12_steepest_46 rfl ?_
      refine ww_istore_n (pc := 48) (lv' := [(3, .int v7), (2, .int x4), (5, .int v7), (0, .ref (gB G + r0)), (1, .int x1), (4, .int x4)]) C dX12_steepest_48 (by decide) rfl ?_
      refine ww_iinc (pc := 49) (v := x4 + (1 : Int32)) (lv' := [(4, .int (x4 + (1 : Int32))), (3, .int v7), (2, .int x4), (5, .int v7), (0, .ref (gB G + r0)), (1, .int x1)]) C 5 dX12_steepest_49 rfl (congrArg (fun z => x4 + z) (show Int32.ofInt (1) = (1 : Int32) by decide)) (by decide) rfl ?_
      refine ww_goto (pc := 52) (tgt := 12) C dX12_steepest_52 (by decide) ?_
      have hf := xsj hf
      subst hf
      refine ww_sub [4, 5, 2, 1, 0] rfl ?_
      exact hk.1 (x4, v7, x4 + (1 : Int32)) rfl
    · have hf := xin q hf
      refine ww_goto (pc := 40) (tgt := 49) C dX12_steepest_40 (by decide) ?_
      refine ww_iinc (pc := 49) (v := x4 + (1 : Int32)) (lv' := [(4, .int (x4 + (1 : Int32))), (5, .int v7), (0, .ref (gB G + r0)), (1, .int x1), (2, .int x2), (3, .int x3)]) C 5 dX12_steepest_49 rfl (congrArg (fun z => x4 + z) (show Int32.ofInt (1) = (1 : Int32) by decide)) (by decide) rfl ?_
      refine ww_goto (pc := 52) (tgt := 12) C dX12_steepest_52 (by decide) ?_
      have hf := xsj hf
      subst hf
      refine ww_sub [2, 3, 4, 5, 0] rfl ?_
      exact hk.1 (x2, x3, x4 + (1 : Int32)) rfl
theorem s_X12_steepest_e {G : XG} (C : XC G cX12_steepest RX12 (some .int) 6 1 20) {σ : XS} {r0 : Nat} {x1 : Int32} {x : Int32} (hf : f_X12_steepest σ r0 x1 = some x) (hk : XEnd G (some (.int x)) σ) : WW G 0 [(0, .ref (gB G + r0)), (1, .int x1)] [] σ := by
  refine ww_iconst (pc := 0) (v := (-1 : Int32)) C dX12_steepest_0 (by decide) ?_
  refine ww_istore_n (pc := 1) (lv' := [(2, .int (-1 : Int32)), (0, .ref (gB G + r0)), (1, .int x1)]) C dX12_steepest_1 (by decide) rfl ?_
  refine ww_aload_n (pc := 2) C 1 dX12_steepest_2 rfl ?_
  obtain ⟨z2, e1, hf⟩ := xbd hf
  refine gf_X12_57 (pc := 3) C e1 dX12_steepest_3 ?_
  refine ww_iload_n (pc := 6) C 2 dX12_steepest_6 rfl ?_
  obtain ⟨v4, e3, hf⟩ := xbd hf
  refine ww_iald (pc := 7) C e3 dX12_steepest_7 ?_
  refine ww_istore_n (pc := 8) (lv' := [(3, .int v4), (2, .int (-1 : Int32)), (0, .ref (gB G + r0)), (1, .int x1)]) C dX12_steepest_8 (by decide) rfl ?_
  refine ww_iconst (pc := 9) (v := (0 : Int32)) C dX12_steepest_9 (by decide) ?_
  refine ww_istore (pc := 10) (lv' := [(4, .int (0 : Int32)), (3, .int v4), (2, .int (-1 : Int32)), (0, .ref (gB G + r0)), (1, .int x1)]) C dX12_steepest_10 (by decide) rfl ?_
  refine ww_sub [3, 4, 2, 1, 0] rfl ?_
  exact s_X12_steepest_l12 C (a := ((-1 : Int32), v4, (0 : Int32))) hf hk
theorem k_X12_steepest {l : Launch} {E : XD} {hb : Nat} {σ : XS} {r0 : Nat} {x1 : Int32} {x : Int32} (h : f_X12_steepest σ r0 x1 = some x) : XM l yX12_steepest cX12_steepest 6 (some .int) 1 20 E hb [.ref (hb + r0), .int x1] σ (some (.int x)) σ := by
  refine xm_of (by decide) (Nat.le_of_ble_eq_true rfl) ⟨Nat.le_refl _, Nat.le_refl _⟩ (fun G hG C hl hQ => ?_)
  obtain ⟨rfl, rfl, rfl, hN⟩ := hG
  exact s_X12_steepest_e C h hQ
end
