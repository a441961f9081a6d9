noncomputable def f_X8_isLetter (x0 : Int32) : Option Int32 := if x0 < (97 : Int32) then (some (0 : Int32)) else if (122 : Int32) < x0 then (some (0 : Int32)) else some (1 : Int32)
theorem s_X8_isLetter_e {G : XG} (C : XC G cX8_isLetter RX8 (some .boolean) 1 0 0) {σ : XS} {x0 : Int32} {x : Int32} (hf : f_X8_isLetter x0 = some x) (hk : XEnd G (some (.int x)) σ) : WW G 0 [(0, .int x0)] [] σ := by
  refine ww_iload_n (pc := 0) C 0 dX8_isLetter_0 rfl ?_
  refine ww_bipush (pc := 1) (v := (97 : Int32)) C dX8_isLetter_1 (by decide) ?_
  refine ww_icmp_lt (pc := 3) (tgt := 16) C dX8_isLetter_3 (by decide) (fun q => ?_) (fun q => ?_)
  · have hf := xip q hf
    refine ww_iconst (pc := 16) (v := (0 : Int32)) C dX8_isLetter_16 (by decide) ?_
    have hf := xsj hf
    subst hf
    exact ww_zret (pc := 17) C rfl hk dX8_isLetter_17
  · have hf := xin q hf
    refine ww_iload_n (pc := 6) C 0 dX8_isLetter_6 rfl ?_
    refine ww_bipush (pc := 7) (v := (122 : Int32)) C dX8_isLetter_7 (by decide) ?_
    refine ww_icmp_gt (pc := 9) (tgt := 16) C dX8_isLetter_9 (by decide) (fun q => ?_) (fun q => ?_)
    · have hf := xip q hf
      refine ww_iconst (pc := 16) (v := (0 : Int32)) C dX8_isLetter_16 (by decide) ?_
      have hf := xsj hf
      subst hf
      exact ww_zret (pc := 17) C rfl hk dX8_isLetter_17
    · have hf := xin q hf
      refine ww_iconst (pc := 12) (v := (1 : Int32)) C dX8_isLetter_12 (by decide) ?_
      refine ww_goto (pc := 13) (tgt := 17) C dX8_isLetter_13 (by decide) ?_
      have hf := xsj hf
      subst hf
      exact ww_zret (pc := 17) C rfl hk dX8_isLetter_17
theorem k_X8_isLetter {l : Launch} {E : XD} {hb : Nat} {σ : XS} {x0 : Int32} {x : Int32} (h : f_X8_isLetter x0 = some x) : XM l yX8_isLetter cX8_isLetter 1 (some .boolean) 0 0 E hb [.int x0] σ (some (.int x)) σ := by
  refine xm_of (by decide) (Nat.le_of_ble_eq_true rfl) ⟨Nat.le_refl _, Nat.le_refl _⟩ (fun G hG C hl hQ => ?_)
  obtain ⟨rfl, rfl, rfl, hN⟩ := hG
  exact s_X8_isLetter_e C h hQ
noncomputable def f_X8_skipLetters_b0 (r0 : Nat) : XS → Option ((XS) ⊕ (XS)) := fun a => match a with
  | σ => (xgI σ r0 8 9).bind fun v2 => (xgI σ r0 8 4).bind fun v4 => if v4 ≤ v2 then ((some σ).map .inr) else (xgI σ r0 8 9).bind fun v6 => (xck σ r0 8).bind fun _ => (f_X8_byteAt σ r0 v6).bind fun v9 => (f_X8_isLetter v9).bind fun v11 => if v11 = 0 then ((some σ).map .inr) else (xgI σ r0 8 9).bind fun v13 => (xpI σ r0 8 9 (v13 + (1 : Int32))).bind fun σ15 => some (.inl σ15)
noncomputable def f_X8_skipLetters (σ : XS) (r0 : Nat) : Option XS := xloop (f_X8_skipLetters_b0 r0) σ
theorem m_X8_skipLetters_l0 {r0 : Nat} {a : XS} {x : XS} (hf : xloop (f_X8_skipLetters_b0 r0) a = some x) : xsame a x := by
  refine xloop_ind (P := fun a => xsame a x) (fun a y hf hc he => ?_) hf
  obtain ⟨σ, rfl⟩ : ∃ z, z = a := ⟨_, rfl⟩
  have hy : (∀ a' : XS, y = .inl a' → xsame σ a') ∧ (∀ b1 : XS, y = .inr b1 → xsame σ b1) := by
    have hm := xsame.rf (σ := σ)
    obtain ⟨v2, e1, hf⟩ := xbd hf
    obtain ⟨v4, e3, hf⟩ := xbd hf
    by_cases q : v4 ≤ v2
    · have hf := xip q hf
      obtain ⟨b0, hg, e9⟩ := xmj hf
      subst e9
      have hf := hg
      refine ⟨fun a' e => xnc2 e, fun b e => ?_⟩
      have h9 := Sum.inr.inj e
      subst h9
      have hf := xsj hf
      subst hf
      exact hm
    · have hf := xin q hf
      obtain ⟨v6, e5, hf⟩ := xbd hf
      obtain ⟨_, e7, hf⟩ := xbd hf
      obtain ⟨v9, e8, hf⟩ := xbd hf
      obtain ⟨v11, e10, hf⟩ := xbd hf
      by_cases q : v11 = 0
      · have hf := xip q hf
        obtain ⟨b0, hg, e9⟩ := xmj hf
        subst e9
        have hf := hg
        refine ⟨fun a' e => xnc2 e, fun b e => ?_⟩
        have h9 := Sum.inr.inj e
        subst h9
        have hf := xsj hf
        subst hf
        exact hm
      · have hf := xin q hf
        obtain ⟨v13, e12, hf⟩ := xbd hf
        obtain ⟨σ15, e14, hf⟩ := xbd hf
        have hm := hm.tr (xpI_same e14)
        have hf := xsj hf
        subst hf
        exact ⟨fun a' e => (by have h9 := Sum.inl.inj e; subst h9; exact hm), fun b e => xnc1 e⟩
  cases y with
  | inl a' =>
    have h1 := hc a' rfl
    have hm := hy.1 a' rfl
    exact hm.tr (h1)
  | inr b =>
    have h1 := he b rfl
    subst h1
    exact hy.2 _ rfl
theorem s_X8_skipLetters_l0 {G : XG} (C : XC G cX8_skipLetters RX8 none 1 1 21) {r0 : Nat} {a : XS} {x : XS} (hf : xloop (f_X8_skipLetters_b0 r0) a = some x) (hk : XEnd G none x) : WW G 0 [(0, .ref (gB G + r0))] [] a := by
  refine xloop_ind (P := fun a => WW G 0 [(0, .ref (gB G + r0))] [] a) (fun a y hf hc he => ?_) hf
  obtain ⟨σ, rfl⟩ : ∃ z, z = a := ⟨_, rfl⟩
  have hk : (∀ a' : XS, y = .inl a' → WW G 0 [(0, .ref (gB G + r0))] [] a') ∧ (∀ b1 : XS, y = .inr b1 → XEnd G none b1) := ⟨hc, fun b e => by have h9 := he b e; subst h9; exact hk⟩
  refine ww_aload_n (pc := 0) C 0 dX8_skipLetters_0 rfl ?_
  obtain ⟨v2, e1, hf⟩ := xbd hf
  refine gf_X8_32 (pc := 1) C e1 dX8_skipLetters_1 ?_
  refine ww_aload_n (pc := 4) C 0 dX8_skipLetters_4 rfl ?_
  obtain ⟨v4, e3, hf⟩ := xbd hf
  refine gf_X8_25 (pc := 5) C e3 dX8_skipLetters_5 ?_
  refine ww_icmp_ge (pc := 8) (tgt := 38) C dX8_skipLetters_8 (by decide) (fun q => ?_) (fun q => ?_)
  · have hf := xip q hf
    obtain ⟨b0, hg, e9⟩ := xmj hf
    subst e9
    have hf := hg
    have hk := hk.2 _ rfl
    have hf := xsj hf
    subst hf
    exact ww_vret (pc := 38) C hk dX8_skipLetters_38
  · have hf := xin q hf
    refine ww_aload_n (pc := 11) C 0 dX8_skipLetters_11 rfl ?_
    refine ww_aload_n (pc := 12) C 0 dX8_skipLetters_12 rfl ?_
    obtain ⟨v6, e5, hf⟩ := xbd hf
    refine gf_X8_32 (pc := 13) C e5 dX8_skipLetters_13 ?_
    obtain ⟨_, e7, hf⟩ := xbd hf
    obtain ⟨v9, e8, hf⟩ := xbd hf
    refine ww_callVi (pc := 16) (as := [.int v6]) (st := []) C (k_X8_byteAt (l := gl G) (E := gE G) (hb := gB G) (σ := σ) e8) rfl (by decide) xc_X8_55 q480 qp6 (xck_spec e7) rfl (by decide) (xst4 (Nat.le_of_ble_eq_true rfl)) xsame.rf.le xsame.rf.lim dX8_skipLetters_16 ?_
    obtain ⟨v11, e10, hf⟩ := xbd hf
    refine ww_callSi (pc := 19) (as := [.int v9]) (st := []) C (k_X8_isLetter (l := gl G) (E := gE G) (hb := gB G) (σ := σ) e10) xc_X8_63 q486 rfl (by decide) (xst4 (Nat.le_of_ble_eq_true rfl)) xsame.rf.le xsame.rf.lim dX8_skipLetters_19 ?_
    refine ww_if_eq (pc := 22) (tgt := 38) C dX8_skipLetters_22 (by decide) (fun q => ?_) (fun q => ?_)
    · have hf := xip q hf
      obtain ⟨b0, hg, e9⟩ := xmj hf
      subst e9
      have hf := hg
      have hk := hk.2 _ rfl
      have hf := xsj hf
      subst hf
      exact ww_vret (pc := 38) C hk dX8_skipLetters_38
    · have hf := xin q hf
      refine ww_aload_n (pc := 25) C 0 dX8_skipLetters_25 rfl ?_
      refine ww_dup (pc := 26) C dX8_skipLetters_26 rfl ?_
      obtain ⟨v13, e12, hf⟩ := xbd hf
      refine gf_X8_32 (pc := 27) C e12 dX8_skipLetters_27 ?_
      refine ww_iconst (pc := 30) (v := (1 : Int32)) C dX8_skipLetters_30 (by decide) ?_
      refine ww_iadd (pc := 31) C dX8_skipLetters_31 ?_
      obtain ⟨σ15, e14, hf⟩ := xbd hf
      refine pf_X8_32 (pc := 32) C e14 dX8_skipLetters_32 ?_
      refine ww_goto (pc := 35) (tgt := 0) C dX8_skipLetters_35 (by decide) ?_
      have hf := xsj hf
      subst hf
      refine ww_sub [0] rfl ?_
      exact hk.1 σ15 rfl
theorem s_X8_skipLetters_e {G : XG} (C : XC G cX8_skipLetters RX8 none 1 1 21) {σ : XS} {r0 : Nat} {x : XS} (hf : f_X8_skipLetters σ r0 = some x) (hk : XEnd G none x) : WW G 0 [(0, .ref (gB G + r0))] [] σ := by
  refine ww_sub [0] rfl ?_
  exact s_X8_skipLetters_l0 C (a := σ) hf hk
theorem m_X8_skipLetters {σ : XS} {r0 : Nat} {x : XS} (hf : f_X8_skipLetters σ r0 = some x) : xsame σ x := by
  have hm := xsame.rf (σ := σ)
  exact hm.tr (m_X8_skipLetters_l0 (a := σ) hf)
theorem k_X8_skipLetters {l : Launch} {E : XD} {hb : Nat} {σ : XS} {r0 : Nat} {x : XS} (h : f_X8_skipLetters σ r0 = some x) : XM l yX8_skipLetters cX8_skipLetters 1 none 1 21 E hb [.ref (hb + r0)] σ none x := by
  refine xm_of (by decide) (Nat.le_of_ble_eq_true rfl) (m_X8_skipLetters h).le (fun G hG C hl hQ => ?_)
  obtain ⟨rfl, rfl, rfl, hN⟩ := hG
  exact s_X8_skipLetters_e C h hQ
noncomputable def f_X8_spells_b20 (σ : XS) (r0 : Nat) (s1 : Nat) : Int32 → Option ((Int32) ⊕ (Int32)) := fun a => match a with
  | x2 => (xsk s1).bind fun _ => if (Int32.ofNat (xsl.getD s1 0)) ≤ x2 then ((some (1 : Int32)).map .inr) else (xgI σ r0 8 8).bind fun v3 => (xck σ r0 8).bind fun _ => (f_X8_byteAt σ r0 (v3 + x2)).bind fun v6 => (xsc s1 x2).bind fun v8 => if v6 = v8 then (some (.inl (x2 + (1 : Int32)))) else (some (0 : Int32)).map .inr
noncomputable def f_X8_spells (σ : XS) (r0 : Nat) (s1 : Nat) : Option Int32 := (xgI σ r0 8 9).bind fun v2 => (xgI σ r0 8 8).bind fun v4 => (xsk s1).bind fun _ => if (v2 - v4) = (Int32.ofNat (xsl.getD s1 0)) then (xloop (f_X8_spells_b20 σ r0 s1) (0 : Int32)) else some (0 : Int32)
theorem s_X8_spells_l20 {G : XG} (C : XC G cX8_spells RX8 (some .boolean) 3 4 85) {σ : XS} {r0 : Nat} {s1 : Nat} {a : Int32} {x : Int32} (hf : xloop (f_X8_spells_b20 σ r0 s1) a = some x) (hk : XEnd G (some (.int x)) σ) : WW G 20 [(0, .ref (gB G + r0)), (1, .ref ((gE G).2.2.1 s1)), (2, .int a)] [] σ := by
  refine xloop_ind (P := fun a => WW G 20 [(0, .ref (gB G + r0)), (1, .ref ((gE G).2.2.1 s1)), (2, .int a)] [] σ) (fun a y hf hc he => ?_) hf
  obtain ⟨x2, rfl⟩ : ∃ z, z = a := ⟨_, rfl⟩
  have hk : (∀ a' : Int32, y = .inl a' → WW G 20 [(0, .ref (gB G + r0)), (1, .ref ((gE G).2.2.1 s1)), (2, .int a')] [] σ) ∧ (∀ b1 : Int32, y = .inr b1 → XEnd G (some (.int b1)) σ) := ⟨hc, fun b e => by have h9 := he b e; subst h9; exact hk⟩
  refine ww_iload_n (pc := 20) C 2 dX8_spells_20 rfl ?_
  refine ww_aload_n (pc := 21) C 1 dX8_spells_21 rfl ?_
  obtain ⟨_, e1, hf⟩ := xbd hf
  refine ww_callT (pc := 22) (as := []) (st := [.int x2]) C (xsk_spec e1) (k_J0_length (xsk_spec e1)) rfl xc_X8_105 q502 q503 rfl (by decide) (xst4 (Nat.le_of_ble_eq_true rfl)) dX8_spells_22 ?_
  refine ww_icmp_ge (pc := 25) (tgt := 54) C dX8_spells_25 (by decide) (fun q => ?_) (fun q => ?_)
  · have hf := xip q hf
    obtain ⟨b0, hg, e9⟩ := xmj hf
    subst e9
    have hf := hg
    have hk := hk.2 _ rfl
    refine ww_iconst (pc := 54) (v := (1 : Int32)) C dX8_spells_54 (by decide) ?_
    have hf := xsj hf
    subst hf
    exact ww_zret (pc := 55) C rfl hk dX8_spells_55
  · have hf := xin q hf
    refine ww_aload_n (pc := 28) C 0 dX8_spells_28 rfl ?_
    refine ww_aload_n (pc := 29) C 0 dX8_spells_29 rfl ?_
    obtain ⟨v3, e2, hf⟩ := xbd hf
    refine gf_X8_52 (pc := 30) C e2 dX8_spells_30 ?_
    refine ww_iload_n (pc := 33) C 2 dX8_spells_33 rfl ?_
    refine ww_iadd (pc := 34) C dX8_spells_34 ?_
    obtain ⟨_, e4, hf⟩ := xbd hf
    obtain ⟨v6, e5, hf⟩ := xbd hf
    refine ww_callVi (pc := 35) (as := [.int (v3 + x2)]) (st := []) C (k_X8_byteAt (l := gl G) (E := gE G) (hb := gB G) (σ := σ) e5) rfl (by decide) xc_X8_55 q480 qp6 (xck_spec e4) rfl (by decide) (xst4 (Nat.le_of_ble_eq_true rfl)) xsame.rf.le xsame.rf.lim dX8_spells_35 ?_
    refine ww_aload_n (pc := 38) C 1 dX8_spells_38 rfl ?_
    refine ww_iload_n (pc := 39) C 2 dX8_spells_39 rfl ?_
    obtain ⟨v8, e7, hf⟩ := xbd hf
    refine ww_callT (pc := 40) (as := [.int x2]) (st := [.int v6]) C (xsc_spec e7).1 (xsc_k e7) rfl xc_X8_109 q512 q513 rfl (by decide) (xst4 (Nat.le_of_ble_eq_true rfl)) dX8_spells_40 ?_
    refine ww_icmp_eq (pc := 43) (tgt := 48) C dX8_spells_43 (by decide) (fun q => ?_) (fun q => ?_)
    · have hf := xip q hf
      refine ww_iinc (pc := 48) (v := x2 + (1 : Int32)) (lv' := [(2, .int (x2 + (1 : Int32))), (0, .ref (gB G + r0)), (1, .ref ((gE G).2.2.1 s1))]) C 2 dX8_spells_48 rfl (congrArg (fun z => x2 + z) (show Int32.ofInt (1) = (1 : Int32) by decide)) (by decide) rfl ?_
      refine ww_goto (pc := 51) (tgt := 20) C dX8_spells_51 (by decide) ?_
      have hf := xsj hf
      subst hf
      refine ww_sub [1, 2, 0] rfl ?_
      exact hk.1 (x2 + (1 : Int32)) rfl
    · have hf := xin q hf
      obtain ⟨b0, hg, e9⟩ := xmj hf
      subst e9
      have hf := hg
      have hk := hk.2 _ rfl
      refine ww_iconst (pc := 46) (v := (0 : Int32)) C dX8_spells_46 (by decide) ?_
      have hf := xsj hf
      subst hf
      exact ww_zret (pc := 47) C rfl hk dX8_spells_47
theorem s_X8_spells_e {G : XG} (C : XC G cX8_spells RX8 (some .boolean) 3 4 85) {σ : XS} {r0 : Nat} {s1 : Nat} {x : Int32} (hf : f_X8_spells σ r0 s1 = some x) (hk : XEnd G (some (.int x)) σ) : WW G 0 [(0, .ref (gB G + r0)), (1, .ref ((gE G).2.2.1 s1))] [] σ := by
  refine ww_aload_n (pc := 0) C 0 dX8_spells_0 rfl ?_
  obtain ⟨v2, e1, hf⟩ := xbd hf
  refine gf_X8_32 (pc := 1) C e1 dX8_spells_1 ?_
  refine ww_aload_n (pc := 4) C 0 dX8_spells_4 rfl ?_
  obtain ⟨v4, e3, hf⟩ := xbd hf
  refine gf_X8_52 (pc := 5) C e3 dX8_spells_5 ?_
  refine ww_isub (pc := 8) C dX8_spells_8 ?_
  refine ww_aload_n (pc := 9) C 1 dX8_spells_9 rfl ?_
  obtain ⟨_, e5, hf⟩ := xbd hf
  refine ww_callT (pc := 10) (as := []) (st := [.int (v2 - v4)]) C (xsk_spec e5) (k_J0_length (xsk_spec e5)) rfl xc_X8_105 q502 q503 rfl (by decide) (xst4 (Nat.le_of_ble_eq_true rfl)) dX8_spells_10 ?_
  refine ww_icmp_eq (pc := 13) (tgt := 18) C dX8_spells_13 (by decide) (fun q => ?_) (fun q => ?_)
  · have hf := xip q hf
    refine ww_iconst (pc := 18) (v := (0 : Int32)) C dX8_spells_18 (by decide) ?_
    refine ww_istore_n (pc := 19) (lv' := [(2, .int (0 : Int32)), (0, .ref (gB G + r0)), (1, .ref ((gE G).2.2.1 s1))]) C dX8_spells_19 (by decide) rfl ?_
    refine ww_sub [1, 2, 0] rfl ?_
    exact s_X8_spells_l20 C (a := (0 : Int32)) hf hk
  · have hf := xin q hf
    refine ww_iconst (pc := 16) (v := (0 : Int32)) C dX8_spells_16 (by decide) ?_
    have hf := xsj hf
    subst hf
    exact ww_zret (pc := 17) C rfl hk dX8_spells_17
theorem k_X8_spells {l : Launch} {E : XD} {hb : Nat} {σ : XS} {r0 : Nat} {s1 : Nat} {x : Int32} (h : f_X8_spells σ r0 s1 = some x) : XM l yX8_spells cX8_spells 3 (some .boolean) 4 85 E hb [.ref (hb + r0), .ref (E.2.2.1 s1)] σ (some (.int x)) σ := by
  refine xm_of (by decide) (Nat.le_of_ble_eq_true rfl) ⟨Nat.le_refl _, Nat.le_refl _⟩ (fun G hG C hl hQ => ?_)
  obtain ⟨rfl, rfl, rfl, hN⟩ := hG
  exact s_X8_spells_e C h hQ
noncomputable def f_X8_wordKind (σ : XS) (r0 : Nat) : Option Int32 := (xck σ r0 8).bind fun _ => (f_X8_spells σ r0 0).bind fun v3 => if v3 = 0 then ((xck σ r0 8).bind fun _ => (f_X8_spells σ r0 1).bind fun v6 => if v6 = 0 then ((xck σ r0 8).bind fun _ => (f_X8_spells σ r0 2).bind fun v9 => if v9 = 0 then ((xck σ r0 8).bind fun _ => (f_X8_spells σ r0 3).bind fun v12 => if v12 = 0 then ((xck σ r0 8).bind fun _ => (f_X8_spells σ r0 4).bind fun v15 => if v15 = 0 then ((xck σ r0 8).bind fun _ => (f_X8_spells σ r0 5).bind fun v18 => if v18 = 0 then ((xck σ r0 8).bind fun _ => (f_X8_spells σ r0 6).bind fun v21 => if v21 = 0 then ((xck σ r0 8).bind fun _ => (f_X8_spells σ r0 7).bind fun v24 => if v24 = 0 then ((xck σ r0 8).bind fun _ => (f_X8_spells σ r0 8).bind fun v27 => if v27 = 0 then ((xck σ r0 8).bind fun _ => (f_X8_spells σ r0 9).bind fun v30 => if v30 = 0 then ((xck σ r0 8).bind fun _ => (f_X8_spells σ r0 10).bind fun v33 => if v33 = 0 then (some (1 : Int32)) else some (15 : Int32)) else some (14 : Int32)) else some (13 : Int32)) else some (12 : Int32)) else some (11 : Int32)) else some (10 : Int32)) else some (9 : Int32)) else some (8 : Int32)) else some (7 : Int32)) else some (6 : Int32)) else some (5 : Int32)
theorem s_X8_wordKind_e {G : XG} (C : XC G cX8_wordKind RX8 (some .int) 1 5 107) {σ : XS} {r0 : Nat} {x : Int32} (hf : f_X8_wordKind σ r0 = some x) (hk : XEnd G (some (.int x)) σ) : WW G 0 [(0, .ref (gB G + r0))] [] σ := by
  refine ww_aload_n (pc := 0) C 0 dX8_wordKind_0 rfl ?_
  refine ww_ldcS (pc := 1) C (C.hV.1 0 (by decide)) dX8_wordKind_1 ?_
  obtain ⟨_, e1, hf⟩ := xbd hf
  obtain ⟨v3, e2, hf⟩ := xbd hf
  refine ww_callVi (pc := 3) (as := [.ref ((gE G).2.2.1 0)]) (st := []) C (k_X8_spells (l := gl G) (E := gE G) (hb := gB G) (σ := σ) e2) rfl (by decide) xc_X8_81 q499 qp9 (xck_spec e1) rfl (by decide) (xst4 (Nat.le_of_ble_eq_true rfl)) xsame.rf.le xsame.rf.lim dX8_wordKind_3 ?_
  refine ww_if_eq (pc := 6) (tgt := 11) C dX8_wordKind_6 (by decide) (fun q => ?_) (fun q => ?_)
  · have hf := xip q hf
    refine ww_aload_n (pc := 11) C 0 dX8_wordKind_11 rfl ?_
    refine ww_ldcS (pc := 12) C (C.hV.1 1 (by decide)) dX8_wordKind_12 ?_
    obtain ⟨_, e4, hf⟩ := xbd hf
    obtain ⟨v6, e5, hf⟩ := xbd hf
    refine ww_callVi (pc := 14) (as := [.ref ((gE G).2.2.1 1)]) (st := []) C (k_X8_spells (l := gl G) (E := gE G) (hb := gB G) (σ := σ) e5) rfl (by decide) xc_X8_81 q499 qp9 (xck_spec e4) rfl (by decide) (xst4 (Nat.le_of_ble_eq_true rfl)) xsame.rf.le xsame.rf.lim dX8_wordKind_14 ?_
    refine ww_if_eq (pc := 17) (tgt := 23) C dX8_wordKind_17 (by decide) (fun q => ?_) (fun q => ?_)
    · have hf := xip q hf
      refine ww_aload_n (pc := 23) C 0 dX8_wordKind_23 rfl ?_
      refine ww_ldcS (pc := 24) C (C.hV.1 2 (by decide)) dX8_wordKind_24 ?_
      obtain ⟨_, e7, hf⟩ := xbd hf
      obtain ⟨v9, e8, hf⟩ := xbd hf
      refine ww_callVi (pc := 26) (as := [.ref ((gE G).2.2.1 2)]) (st := []) C (k_X8_spells (l := gl G) (E := gE G) (hb := gB G) (σ := σ) e8) rfl (by decide) xc_X8_81 q499 qp9 (xck_spec e7) rfl (by decide) (xst4 (Nat.le_of_ble_eq_true rfl)) xsame.rf.le xsame.rf.lim dX8_wordKind_26 ?_
      refine ww_if_eq (pc := 29) (tgt := 35) C dX8_wordKind_29 (by decide) (fun q => ?_) (fun q => ?_)
      · have hf := xip q hf
        refine ww_aload_n (pc := 35) C 0 dX8_wordKind_35 rfl ?_
        refine ww_ldcS (pc := 36) C (C.hV.1 3 (by decide)) dX8_wordKind_36 ?_
        obtain ⟨_, e10, hf⟩ := xbd hf
        obtain ⟨v12, e11, hf⟩ := xbd hf
        refine ww_callVi (pc := 38) (as := [.ref ((gE G).2.2.1 3)]) (st := []) C (k_X8_spells (l := gl G) (E := gE G) (hb := gB G) (σ := σ) e11) rfl (by decide) xc_X8_81 q499 qp9 (xck_spec e10) rfl (by decide) (xst4 (Nat.le_of_ble_eq_true rfl)) xsame.rf.le xsame.rf.lim dX8_wordKind_38 ?_
        refine ww_if_eq (pc := 41) (tgt := 47) C dX8_wordKind_41 (by decide) (fun q => ?_) (fun q => ?_)
        · have hf := xip q hf
          refine ww_aload_n (pc := 47) C 0 dX8_wordKind_47 rfl ?_
          refine ww_ldcS (pc := 48) C (C.hV.1 4 (by decide)) dX8_wordKind_48 ?_
          obtain ⟨_, e13, hf⟩ := xbd hf
          obtain ⟨v15, e14, hf⟩ := xbd hf
          refine ww_callVi (pc := 50) (as := [.ref ((gE G).2.2.1 4)]) (st := []) C (k_X8_spells (l := gl G) (E := gE G) (hb := gB G) (σ := σ) e14) rfl (by decide) xc_X8_81 q499 qp9 (xck_spec e13) rfl (by decide) (xst4 (Nat.le_of_ble_eq_true rfl)) xsame.rf.le xsame.rf.lim dX8_wordKind_50 ?_
          refine ww_if_eq (pc := 53) (tgt := 59) C dX8_wordKind_53 (by decide) (fun q => ?_) (fun q => ?_)
          · have hf := xip q hf
            refine ww_aload_n (pc := 59) C 0 dX8_wordKind_59 rfl ?_
            refine ww_ldcS (pc := 60) C (C.hV.1 5 (by decide)) dX8_wordKind_60 ?_
            obtain ⟨_, e16, hf⟩ := xbd hf
            obtain ⟨v18, e17, hf⟩ := xbd hf
            refine ww_callVi (pc := 62) (as := [.ref ((gE G).2.2.1 5)]) (st := []) C (k_X8_spells (l := gl G) (E := gE G) (hb := gB G) (σ := σ) e17) rfl (by decide) xc_X8_81 q499 qp9 (xck_spec e16) rfl (by decide) (xst4 (Nat.le_of_ble_eq_true rfl)) xsame.rf.le xsame.rf.lim dX8_wordKind_62 ?_
            refine ww_if_eq (pc := 65) (tgt := 71) C dX8_wordKind_65 (by decide) (fun q => ?_) (fun q => ?_)
            · have hf := xip q hf
              refine ww_aload_n (pc := 71) C 0 dX8_wordKind_71 rfl ?_
              refine ww_ldcS (pc := 72) C (C.hV.1 6 (by decide)) dX8_wordKind_72 ?_
              obtain ⟨_, e19, hf⟩ := xbd hf
              obtain ⟨v21, e20, hf⟩ := xbd hf
              refine ww_callVi (pc := 74) (as := [.ref ((gE G).2.2.1 6)]) (st := []) C (k_X8_spells (l := gl G) (E := gE G) (hb := gB G) (σ := σ) e20) rfl (by decide) xc_X8_81 q499 qp9 (xck_spec e19) rfl (by decide) (xst4 (Nat.le_of_ble_eq_true rfl)) xsame.rf.le xsame.rf.lim dX8_wordKind_74 ?_
              refine ww_if_eq (pc := 77) (tgt := 83) C dX8_wordKind_77 (by decide) (fun q => ?_) (fun q => ?_)
              · have hf := xip q hf
                refine ww_aload_n (pc := 83) C 0 dX8_wordKind_83 rfl ?_
                refine ww_ldcS (pc := 84) C (C.hV.1 7 (by decide)) dX8_wordKind_84 ?_
                obtain ⟨_, e22, hf⟩ := xbd hf
                obtain ⟨v24, e23, hf⟩ := xbd hf
                refine ww_callVi (pc := 86) (as := [.ref ((gE G).2.2.1 7)]) (st := []) C (k_X8_spells (l := gl G) (E := gE G) (hb := gB G) (σ := σ) e23) rfl (by decide) xc_X8_81 q499 qp9 (xck_spec e22) rfl (by decide) (xst4 (Nat.le_of_ble_eq_true rfl)) xsame.rf.le xsame.rf.lim dX8_wordKind_86 ?_
                refine ww_if_eq (pc := 89) (tgt := 95) C dX8_wordKind_89 (by decide) (fun q => ?_) (fun q => ?_)
                · have hf := xip q hf
                  refine ww_aload_n (pc := 95) C 0 dX8_wordKind_95 rfl ?_
                  refine ww_ldcS (pc := 96) C (C.hV.1 8 (by decide)) dX8_wordKind_96 ?_
                  obtain ⟨_, e25, hf⟩ := xbd hf
                  obtain ⟨v27, e26, hf⟩ := xbd hf
                  refine ww_callVi (pc := 98) (as := [.ref ((gE G).2.2.1 8)]) (st := []) C (k_X8_spells (l := gl G) (E := gE G) (hb := gB G) (σ := σ) e26) rfl (by decide) xc_X8_81 q499 qp9 (xck_spec e25) rfl (by decide) (xst4 (Nat.le_of_ble_eq_true rfl)) xsame.rf.le xsame.rf.lim dX8_wordKind_98 ?_
                  refine ww_if_eq (pc := 101) (tgt := 107) C dX8_wordKind_101 (by decide) (fun q => ?_) (fun q => ?_)
                  · have hf := xip q hf
                    refine ww_aload_n (pc := 107) C 0 dX8_wordKind_107 rfl ?_
                    refine ww_ldcS (pc := 108) C (C.hV.1 9 (by decide)) dX8_wordKind_108 ?_
                    obtain ⟨_, e28, hf⟩ := xbd hf
                    obtain ⟨v30, e29, hf⟩ := xbd hf
                    refine ww_callVi (pc := 110) (as := [.ref ((gE G).2.2.1 9)]) (st := []) C (k_X8_spells (l := gl G) (E := gE G) (hb := gB G) (σ := σ) e29) rfl (by decide) xc_X8_81 q499 qp9 (xck_spec e28) rfl (by decide) (xst4 (Nat.le_of_ble_eq_true rfl)) xsame.rf.le xsame.rf.lim dX8_wordKind_110 ?_
                    refine ww_if_eq (pc := 113) (tgt := 119) C dX8_wordKind_113 (by decide) (fun q => ?_) (fun q => ?_)
                    · have hf := xip q hf
                      refine ww_aload_n (pc := 119) C 0 dX8_wordKind_119 rfl ?_
                      refine ww_ldcS (pc := 120) C (C.hV.1 10 (by decide)) dX8_wordKind_120 ?_
                      obtain ⟨_, e31, hf⟩ := xbd hf
                      obtain ⟨v33, e32, hf⟩ := xbd hf
                      refine ww_callVi (pc := 122) (as := [.ref ((gE G).2.2.1 10)]) (st := []) C (k_X8_spells (l := gl G) (E := gE G) (hb := gB G) (σ := σ) e32) rfl (by decide) xc_X8_81 q499 qp9 (xck_spec e31) rfl (by decide) (xst4 (Nat.le_of_ble_eq_true rfl)) xsame.rf.le xsame.rf.lim dX8_wordKind_122 ?_
                      refine ww_if_eq (pc := 125) (tgt := 131) C dX8_wordKind_125 (by decide) (fun q => ?_) (fun q => ?_)
                      · have hf := xip q hf
                        refine ww_iconst (pc := 131) (v := (1 : Int32)) C dX8_wordKind_131 (by decide) ?_
                        have hf := xsj hf
                        subst hf
                        exact ww_iret (pc := 132) C hk dX8_wordKind_132
                      · have hf := xin q hf
                        refine ww_bipush (pc := 128) (v := (15 : Int32)) C dX8_wordKind_128 (by decide) ?_
                        have hf := xsj hf
                        subst hf
                        exact ww_iret (pc := 130) C hk dX8_wordKind_130
                    · have hf := xin q hf
                      refine ww_bipush (pc := 116) (v := (14 : Int32)) C dX8_wordKind_116 (by decide) ?_
                      have hf := xsj hf
                      subst hf
                      exact ww_iret (pc := 118) C hk dX8_wordKind_118
                  · have hf := xin q hf
                    refine ww_bipush (pc := 104) (v := (13 : Int32)) C dX8_wordKind_104 (by decide) ?_
                    have hf := xsj hf
                    subst hf
                    exact ww_iret (pc := 106) C hk dX8_wordKind_106
                · have hf := xin q hf
                  refine ww_bipush (pc := 92) (v := (12 : Int32)) C dX8_wordKind_92 (by decide) ?_
                  have hf := xsj hf
                  subst hf
                  exact ww_iret (pc := 94) C hk dX8_wordKind_94
              · have hf := xin q hf
                refine ww_bipush (pc := 80) (v := (11 : Int32)) C dX8_wordKind_80 (by decide) ?_
                have hf := xsj hf
                subst hf
                exact ww_iret (pc := 82) C hk dX8_wordKind_82
            · have hf := xin q hf
              refine ww_bipush (pc := 68) (v := (10 : Int32)) C dX8_wordKind_68 (by decide) ?_
              have hf := xsj hf
              subst hf
              exact ww_iret (pc := 70) C hk dX8_wordKind_70
          · have hf := xin q hf
            refine ww_bipush (pc := 56) (v := (9 : Int32)) C dX8_wordKind_56 (by decide) ?_
            have hf := xsj hf
            subst hf
            exact ww_iret (pc := 58) C hk dX8_wordKind_58
        · have hf := xin q hf
          refine ww_bipush (pc := 44) (v := (8 : Int32)) C dX8_wordKind_44 (by decide) ?_
          have hf := xsj hf
          subst hf
          exact ww_iret (pc := 46) C hk dX8_wordKind_46
      · have hf := xin q hf
        refine ww_bipush (pc := 32) (v := (7 : Int32)) C dX8_wordKind_32 (by decide) ?_
        have hf := xsj hf
        subst hf
        exact ww_iret (pc := 34) C hk dX8_wordKind_34
    · have hf := xin q hf
      refine ww_bipush (pc := 20) (v := (6 : Int32)) C dX8_wordKind_20 (by decide) ?_
      have hf := xsj hf
      subst hf
      exact ww_iret (pc := 22) C hk dX8_wordKind_22
  · have hf := xin q hf
    refine ww_iconst (pc := 9) (v := (5 : Int32)) C dX8_wordKind_9 (by decide) ?_
    have hf := xsj hf
    subst hf
    exact ww_iret (pc := 10) C hk dX8_wordKind_10
theorem k_X8_wordKind {l : Launch} {E : XD} {hb : Nat} {σ : XS} {r0 : Nat} {x : Int32} (h : f_X8_wordKind σ r0 = some x) : XM l yX8_wordKind cX8_wordKind 1 (some .int) 5 107 E hb [.ref (hb + r0)] σ (some (.int x)) σ := by
  refine xm_of (by decide) (Nat.le_of_ble_eq_true rfl) ⟨Nat.le_refl _, Nat.le_refl _⟩ (fun G hG C hl hQ => ?_)
  obtain ⟨rfl, rfl, rfl, hN⟩ := hG
  exact s_X8_wordKind_e C h hQ
noncomputable def f_X8_isDigit (x0 : Int32) : Option Int32 := if x0 < (48 : Int32) then (some (0 : Int32)) else if (57 : Int32) < x0 then (some (0 : Int32)) else some (1 : Int32)
theorem s_X8_isDigit_e {G : XG} (C : XC G cX8_isDigit RX8 (some .boolean) 1 0 0) {σ : XS} {x0 : Int32} {x : Int32} (hf : f_X8_isDigit x0 = some x) (hk : XEnd G (some (.int x)) σ) : WW G 0 [(0, .int x0)] [] σ := by
  refine ww_iload_n (pc := 0) C 0 dX8_isDigit_0 rfl ?_
  refine ww_bipush (pc := 1) (v := (48 : Int32)) C dX8_isDigit_1 (by decide) ?_
  refine ww_icmp_lt (pc := 3) (tgt := 16) C dX8_isDigit_3 (by decide) (fun q => ?_) (fun q => ?_)
  · have hf := xip q hf
    refine ww_iconst (pc := 16) (v := (0 : Int32)) C dX8_isDigit_16 (by decide) ?_
    have hf := xsj hf
    subst hf
    exact ww_zret (pc := 17) C rfl hk dX8_isDigit_17
  · have hf := xin q hf
    refine ww_iload_n (pc := 6) C 0 dX8_isDigit_6 rfl ?_
    refine ww_bipush (pc := 7) (v := (57 : Int32)) C dX8_isDigit_7 (by decide) ?_
    refine ww_icmp_gt (pc := 9) (tgt := 16) C dX8_isDigit_9 (by decide) (fun q => ?_) (fun q => ?_)
    · have hf := xip q hf
      refine ww_iconst (pc := 16) (v := (0 : Int32)) C dX8_isDigit_16 (by decide) ?_
      have hf := xsj hf
      subst hf
      exact ww_zret (pc := 17) C rfl hk dX8_isDigit_17
    · have hf := xin q hf
      refine ww_iconst (pc := 12) (v := (1 : Int32)) C dX8_isDigit_12 (by decide) ?_
      refine ww_goto (pc := 13) (tgt := 17) C dX8_isDigit_13 (by decide) ?_
      have hf := xsj hf
      subst hf
      exact ww_zret (pc := 17) C rfl hk dX8_isDigit_17
theorem k_X8_isDigit {l : Launch} {E : XD} {hb : Nat} {σ : XS} {x0 : Int32} {x : Int32} (h : f_X8_isDigit x0 = some x) : XM l yX8_isDigit cX8_isDigit 1 (some .boolean) 0 0 E hb [.int x0] σ (some (.int x)) σ := by
  refine xm_of (by decide) (Nat.le_of_ble_eq_true rfl) ⟨Nat.le_refl _, Nat.le_refl _⟩ (fun G hG C hl hQ => ?_)
  obtain ⟨rfl, rfl, rfl, hN⟩ := hG
  exact s_X8_isDigit_e C h hQ
noncomputable def f_X8_findInt_b70 (r0 : Nat) : Int32 × XS → Option ((Int32 × XS) ⊕ (XS)) := fun a => match a with
  | (x1, σ) => (xgI σ r0 8 6).bind fun v2 => if v2 = (2 : Int32) then ((xgI σ r0 8 9).bind fun v4 => if v4 ≤ x1 then ((some σ).map .inr) else (xgI σ r0 8 7).bind fun v6 => (xck σ r0 8).bind fun _ => (f_X8_byteAt σ r0 x1).bind fun v9 => (xpI σ r0 8 7 (((v6 * (10 : Int32)) + v9) - (48 : Int32))).bind fun σ11 => some (.inl (x1 + (1 : Int32), σ11))) else (some σ).map .inr
noncomputable def f_X8_findInt_j57 (σ : XS) (r0 : Nat) (t0 : Nat) (t1 : Int32) : Option XS := (xpI σ t0 8 6 t1).bind fun σ2 => (xpI σ2 r0 8 7 (0 : Int32)).bind fun σ4 => (xgI σ4 r0 8 8).bind fun v6 => xloop (f_X8_findInt_b70 r0) (v6, σ4)
noncomputable def f_X8_findInt_j38 (σ : XS) (r0 : Nat) : Option XS := (xgI σ r0 8 9).bind fun v2 => (xgI σ r0 8 8).bind fun v4 => if (4 : Int32) < (v2 - v4) then (f_X8_findInt_j57 σ r0 r0 (1 : Int32)) else f_X8_findInt_j57 σ r0 r0 (2 : Int32)
noncomputable def f_X8_findInt_b0 (r0 : Nat) : XS → Option ((XS) ⊕ (XS)) := fun a => match a with
  | σ => (xgI σ r0 8 9).bind fun v2 => (xgI σ r0 8 4).bind fun v4 => if v4 ≤ v2 then ((f_X8_findInt_j38 σ r0).map .inr) else (xgI σ r0 8 9).bind fun v6 => (xck σ r0 8).bind fun _ => (f_X8_byteAt σ r0 v6).bind fun v9 => (f_X8_isDigit v9).bind fun v11 => if v11 = 0 then ((f_X8_findInt_j38 σ r0).map .inr) else (xgI σ r0 8 9).bind fun v13 => (xpI σ r0 8 9 (v13 + (1 : Int32))).bind fun σ15 => some (.inl σ15)
noncomputable def f_X8_findInt (σ : XS) (r0 : Nat) : Option XS := xloop (f_X8_findInt_b0 r0) σ
theorem m_X8_findInt_l70 {r0 : Nat} {a : Int32 × XS} {x : XS} (hf : xloop (f_X8_findInt_b70 r0) a = some x) : xsame a.2 x := by
  refine xloop_ind (P := fun a => xsame a.2 x) (fun a y hf hc he => ?_) hf
  obtain ⟨x1, σ⟩ := a
  have hy : (∀ a' : Int32 × XS, y = .inl a' → xsame σ a'.2) ∧ (∀ b1 : XS, y = .inr b1 → xsame σ b1) := by
    have hm := xsame.rf (σ := σ)
    obtain ⟨v2, e1, hf⟩ := xbd hf
    by_cases q : v2 = (2 : Int32)
    · have hf := xip q hf
      obtain ⟨v4, e3, hf⟩ := xbd hf
      by_cases q : v4 ≤ x1
      · have hf := xip q hf
        obtain ⟨b0, hg, e9⟩ := xmj hf
        subst e9
        have hf := hg
        refine ⟨fun a' e => xnc2 e, fun b e => ?_⟩
        have h9 := Sum.inr.inj e
        subst h9
        have hf := xsj hf
        subst hf
        exact hm
      · have hf := xin q hf
        obtain ⟨v6, e5, hf⟩ := xbd hf
        obtain ⟨_, e7, hf⟩ := xbd hf
        obtain ⟨v9, e8, hf⟩ := xbd hf
        obtain ⟨σ11, e10, hf⟩ := xbd hf
        have hm := hm.tr (xpI_same e10)
        have hf := xsj hf
        subst hf
        exact ⟨fun a' e => (by have h9 := Sum.inl.inj e; subst h9; exact hm), fun b e => xnc1 e⟩
    · have hf := xin q hf
      obtain ⟨b0, hg, e9⟩ := xmj hf
      subst e9
      have hf := hg
      refine ⟨fun a' e => xnc2 e, fun b e => ?_⟩
      have h9 := Sum.inr.inj e
      subst h9
      have hf := xsj hf
      subst hf
      exact hm
  cases y with
  | inl a' =>
    have h1 := hc a' rfl
    have hm := hy.1 a' rfl
    exact hm.tr (h1)
  | inr b =>
    have h1 := he b rfl
    subst h1
    exact hy.2 _ rfl
theorem s_X8_findInt_l70 {G : XG} (C : XC G cX8_findInt RX8 none 2 1 21) {r0 : Nat} {a : Int32 × XS} {x : XS} (hf : xloop (f_X8_findInt_b70 r0) a = some x) (hk : XEnd G none x) : WW G 70 [(0, .ref (gB G + r0)), (1, .int a.1)] [] a.2 := by
  refine xloop_ind (P := fun a => WW G 70 [(0, .ref (gB G + r0)), (1, .int a.1)] [] a.2) (fun a y hf hc he => ?_) hf
  obtain ⟨x1, σ⟩ := a
  have hk : (∀ a' : Int32 × XS, y = .inl a' → WW G 70 [(0, .ref (gB G + r0)), (1, .int a'.1)] [] a'.2) ∧ (∀ b1 : XS, y = .inr b1 → XEnd G none b1) := ⟨hc, fun b e => by have h9 := he b e; subst h9; exact hk⟩
  refine ww_aload_n (pc := 70) C 0 dX8_findInt_70 rfl ?_
  obtain ⟨v2, e1, hf⟩ := xbd hf
  refine gf_X8_39 (pc := 71) C e1 dX8_findInt_71 ?_
  refine ww_iconst (pc := 74) (v := (2 : Int32)) C dX8_findInt_74 (by decide) ?_
  refine ww_icmp_ne (pc := 75) (tgt := 112) C dX8_findInt_75 (by decide) (fun q => ?_) (fun q => ?_)
  · have hf := xin q hf
    obtain ⟨b0, hg, e9⟩ := xmj hf
    subst e9
    have hf := hg
    have hk := hk.2 _ rfl
    have hf := xsj hf
    subst hf
    exact ww_vret (pc := 112) C hk dX8_findInt_112
  · have hf := xip q hf
    refine ww_iload_n (pc := 78) C 1 dX8_findInt_78 rfl ?_
    refine ww_aload_n (pc := 79) C 0 dX8_findInt_79 rfl ?_
    obtain ⟨v4, e3, hf⟩ := xbd hf
    refine gf_X8_32 (pc := 80) C e3 dX8_findInt_80 ?_
    refine ww_icmp_ge (pc := 83) (tgt := 112) C dX8_findInt_83 (by decide) (fun q => ?_) (fun q => ?_)
    · have hf := xip q hf
      obtain ⟨b0, hg, e9⟩ := xmj hf
      subst e9
      have hf := hg
      have hk := hk.2 _ rfl
      have hf := xsj hf
      subst hf
      exact ww_vret (pc := 112) C hk dX8_findInt_112
    · have hf := xin q hf
      refine ww_aload_n (pc := 86) C 0 dX8_findInt_86 rfl ?_
      refine ww_aload_n (pc := 87) C 0 dX8_findInt_87 rfl ?_
      obtain ⟨v6, e5, hf⟩ := xbd hf
      refine gf_X8_49 (pc := 88) C e5 dX8_findInt_88 ?_
      refine ww_bipush (pc := 91) (v := (10 : Int32)) C dX8_findInt_91 (by decide) ?_
      refine ww_imul (pc := 93) C dX8_findInt_93 ?_
      refine ww_aload_n (pc := 94) C 0 dX8_findInt_94 rfl ?_
      refine ww_iload_n (pc := 95) C 1 dX8_findInt_95 rfl ?_
      obtain ⟨_, e7, hf⟩ := xbd hf
      obtain ⟨v9, e8, hf⟩ := xbd hf
      refine ww_callVi (pc := 96) (as := [.int x1]) (st := [.int (v6 * (10 : Int32)), .ref (gB G + r0)]) C (k_X8_byteAt (l := gl G) (E := gE G) (hb := gB G) (σ := σ) e8) rfl (by decide) xc_X8_55 q480 qp6 (xck_spec e7) rfl (by decide) (xst4 (Nat.le_of_ble_eq_true rfl)) xsame.rf.le xsame.rf.lim dX8_findInt_96 ?_
      refine ww_iadd (pc := 99) C dX8_findInt_99 ?_
      refine ww_bipush (pc := 100) (v := (48 : Int32)) C dX8_findInt_100 (by decide) ?_
      refine ww_isub (pc := 102) C dX8_findInt_102 ?_
      obtain ⟨σ11, e10, hf⟩ := xbd hf
      refine pf_X8_49 (pc := 103) C e10 dX8_findInt_103 ?_
      refine ww_iinc (pc := 106) (v := x1 + (1 : Int32)) (lv' := [(1, .int (x1 + (1 : Int32))), (0, .ref (gB G + r0))]) C 1 dX8_findInt_106 rfl (congrArg (fun z => x1 + z) (show Int32.ofInt (1) = (1 : Int32) by decide)) (by decide) rfl ?_
      refine ww_goto (pc := 109) (tgt := 70) C dX8_findInt_109 (by decide) ?_
      have hf := xsj hf
      subst hf
      refine ww_sub [1, 0] rfl ?_
      exact hk.1 (x1 + (1 : Int32), σ11) rfl
theorem s_X8_findInt_j57 {G : XG} (C : XC G cX8_findInt RX8 none 2 1 21) {σ : XS} {r0 : Nat} {t0 : Nat} {t1 : Int32} {x : XS} (hf : f_X8_findInt_j57 σ r0 t0 t1 = some x) (hk : XEnd G none x) : WW G 57 [(0, .ref (gB G + r0))] [.int t1, .ref (gB G + t0)] σ := by
  obtain ⟨σ2, e1, hf⟩ := xbd hf
  refine pf_X8_39 (pc := 57) C e1 dX8_findInt_57 ?_
  refine ww_aload_n (pc := 60) C 0 dX8_findInt_60 rfl ?_
  refine ww_iconst (pc := 61) (v := (0 : Int32)) C dX8_findInt_61 (by decide) ?_
  obtain ⟨σ4, e3, hf⟩ := xbd hf
  refine pf_X8_49 (pc := 62) C e3 dX8_findInt_62 ?_
  refine ww_aload_n (pc := 65) C 0 dX8_findInt_65 rfl ?_
  obtain ⟨v6, e5, hf⟩ := xbd hf
  refine gf_X8_52 (pc := 66) C e5 dX8_findInt_66 ?_
  refine ww_istore_n (pc := 69) (lv' := [(1, .int v6), (0, .ref (gB G + r0))]) C dX8_findInt_69 (by decide) rfl ?_
  refine ww_sub [1, 0] rfl ?_
  exact s_X8_findInt_l70 C (a := (v6, σ4)) hf hk
theorem m_X8_findInt_j57 {σ : XS} {r0 : Nat} {t0 : Nat} {t1 : Int32} {x : XS} (hf : f_X8_findInt_j57 σ r0 t0 t1 = some x) : xsame σ x := by
  have hm := xsame.rf (σ := σ)
  obtain ⟨σ2, e1, hf⟩ := xbd hf
  have hm := hm.tr (xpI_same e1)
  obtain ⟨σ4, e3, hf⟩ := xbd hf
  have hm := hm.tr (xpI_same e3)
  obtain ⟨v6, e5, hf⟩ := xbd hf
  exact hm.tr (m_X8_findInt_l70 (a := (v6, σ4)) hf)
theorem s_X8_findInt_j38 {G : XG} (C : XC G cX8_findInt RX8 none 2 1 21) {σ : XS} {r0 : Nat} {x : XS} (hf : f_X8_findInt_j38 σ r0 = some x) (hk : XEnd G none x) : WW G 38 [(0, .ref (gB G + r0))] [] σ := by
  refine ww_aload_n (pc := 38) C 0 dX8_findInt_38 rfl ?_
  refine ww_aload_n (pc := 39) C 0 dX8_findInt_39 rfl ?_
  obtain ⟨v2, e1, hf⟩ := xbd hf
  refine gf_X8_32 (pc := 40) C e1 dX8_findInt_40 ?_
  refine ww_aload_n (pc := 43) C 0 dX8_findInt_43 rfl ?_
  obtain ⟨v4, e3, hf⟩ := xbd hf
  refine gf_X8_52 (pc := 44) C e3 dX8_findInt_44 ?_
  refine ww_isub (pc := 47) C dX8_findInt_47 ?_
  refine ww_iconst (pc := 48) (v := (4 : Int32)) C dX8_findInt_48 (by decide) ?_
  refine ww_icmp_gt (pc := 49) (tgt := 56) C dX8_findInt_49 (by decide) (fun q => ?_) (fun q => ?_)
  · have hf := xip q hf
    refine ww_iconst (pc := 56) (v := (1 : Int32)) C dX8_findInt_56 (by decide) ?_
    refine ww_sub [0] rfl ?_
    exact s_X8_findInt_j57 C hf hk
  · have hf := xin q hf
    refine ww_iconst (pc := 52) (v := (2 : Int32)) C dX8_findInt_52 (by decide) ?_
    refine ww_goto (pc := 53) (tgt := 57) C dX8_findInt_53 (by decide) ?_
    refine ww_sub [0] rfl ?_
    exact s_X8_findInt_j57 C hf hk
theorem m_X8_findInt_j38 {σ : XS} {r0 : Nat} {x : XS} (hf : f_X8_findInt_j38 σ r0 = some x) : xsame σ x := by
  have hm := xsame.rf (σ := σ)
  obtain ⟨v2, e1, hf⟩ := xbd hf
  obtain ⟨v4, e3, hf⟩ := xbd hf
  by_cases q : (4 : Int32) < (v2 - v4)
  · have hf := xip q hf
    exact hm.tr (m_X8_findInt_j57 hf)
  · have hf := xin q hf
    exact hm.tr (m_X8_findInt_j57 hf)
theorem m_X8_findInt_l0 {r0 : Nat} {a : XS} {x : XS} (hf : xloop (f_X8_findInt_b0 r0) a = some x) : xsame a x := by
  refine xloop_ind (P := fun a => xsame a x) (fun a y hf hc he => ?_) hf
  obtain ⟨σ, rfl⟩ : ∃ z, z = a := ⟨_, rfl⟩
  have hy : (∀ a' : XS, y = .inl a' → xsame σ a') ∧ (∀ b1 : XS, y = .inr b1 → xsame σ b1) := by
    have hm := xsame.rf (σ := σ)
    obtain ⟨v2, e1, hf⟩ := xbd hf
    obtain ⟨v4, e3, hf⟩ := xbd hf
    by_cases q : v4 ≤ v2
    · have hf := xip q hf
      obtain ⟨b0, hg, e9⟩ := xmj hf
      subst e9
      have hf := hg
      refine ⟨fun a' e => xnc2 e, fun b e => ?_⟩
      have h9 := Sum.inr.inj e
      subst h9
      exact hm.tr (m_X8_findInt_j38 hf)
    · have hf := xin q hf
      obtain ⟨v6, e5, hf⟩ := xbd hf
      obtain ⟨_, e7, hf⟩ := xbd hf
      obtain ⟨v9, e8, hf⟩ := xbd hf
      obtain ⟨v11, e10, hf⟩ := xbd hf
      by_cases q : v11 = 0
      · have hf := xip q hf
        obtain ⟨b0, hg, e9⟩ := xmj hf
        subst e9
        have hf := hg
        refine ⟨fun a' e => xnc2 e, fun b e => ?_⟩
        have h9 := Sum.inr.inj e
        subst h9
        exact hm.tr (m_X8_findInt_j38 hf)
      · have hf := xin q hf
        obtain ⟨v13, e12, hf⟩ := xbd hf
        obtain ⟨σ15, e14, hf⟩ := xbd hf
        have hm := hm.tr (xpI_same e14)
        have hf := xsj hf
        subst hf
        exact ⟨fun a' e => (by have h9 := Sum.inl.inj e; subst h9; exact hm), fun b e => xnc1 e⟩
  cases y with
  | inl a' =>
    have h1 := hc a' rfl
    have hm := hy.1 a' rfl
    exact hm.tr (h1)
  | inr b =>
    have h1 := he b rfl
    subst h1
    exact hy.2 _ rfl
theorem s_X8_findInt_l0 {G : XG} (C : XC G cX8_findInt RX8 none 2 1 21) {r0 : Nat} {a : XS} {x : XS} (hf : xloop (f_X8_findInt_b0 r0) a = some x) (hk : XEnd G none x) : WW G 0 [(0, .ref (gB G + r0))] [] a := by
  refine xloop_ind (P := fun a => WW G 0 [(0, .ref (gB G + r0))] [] a) (fun a y hf hc he => ?_) hf
  obtain ⟨σ, rfl⟩ : ∃ z, z = a := ⟨_, rfl⟩
  have hk : (∀ a' : XS, y = .inl a' → WW G 0 [(0, .ref (gB G + r0))] [] a') ∧ (∀ b1 : XS, y = .inr b1 → XEnd G none b1) := ⟨hc, fun b e => by have h9 := he b e; subst h9; exact hk⟩
  refine ww_aload_n (pc := 0) C 0 dX8_findInt_0 rfl ?_
  obtain ⟨v2, e1, hf⟩ := xbd hf
  refine gf_X8_32 (pc := 1) C e1 dX8_findInt_1 ?_
  refine ww_aload_n (pc := 4) C 0 dX8_findInt_4 rfl ?_
  obtain ⟨v4, e3, hf⟩ := xbd hf
  refine gf_X8_25 (pc := 5) C e3 dX8_findInt_5 ?_
  refine ww_icmp_ge (pc := 8) (tgt := 38) C dX8_findInt_8 (by decide) (fun q => ?_) (fun q => ?_)
  · have hf := xip q hf
    obtain ⟨b0, hg, e9⟩ := xmj hf
    subst e9
    have hf := hg
    have hk := hk.2 _ rfl
    refine ww_sub [0] rfl ?_
    exact s_X8_findInt_j38 C hf hk
  · have hf := xin q hf
    refine ww_aload_n (pc := 11) C 0 dX8_findInt_11 rfl ?_
    refine ww_aload_n (pc := 12) C 0 dX8_findInt_12 rfl ?_
    obtain ⟨v6, e5, hf⟩ := xbd hf
    refine gf_X8_32 (pc := 13) C e5 dX8_findInt_13 ?_
    obtain ⟨_, e7, hf⟩ := xbd hf
    obtain ⟨v9, e8, hf⟩ := xbd hf
    refine ww_callVi (pc := 16) (as := [.int v6]) (st := []) C (k_X8_byteAt (l := gl G) (E := gE G) (hb := gB G) (σ := σ) e8) rfl (by decide) xc_X8_55 q480 qp6 (xck_spec e7) rfl (by decide) (xst4 (Nat.le_of_ble_eq_true rfl)) xsame.rf.le xsame.rf.lim dX8_findInt_16 ?_
    obtain ⟨v11, e10, hf⟩ := xbd hf
    refine ww_callSi (pc := 19) (as := [.int v9]) (st := []) C (k_X8_isDigit (l := gl G) (E := gE G) (hb := gB G) (σ := σ) e10) xc_X8_73 q560 rfl (by decide) (xst4 (Nat.le_of_ble_eq_true rfl)) xsame.rf.le xsame.rf.lim dX8_findInt_19 ?_
    refine ww_if_eq (pc := 22) (tgt := 38) C dX8_findInt_22 (by decide) (fun q => ?_) (fun q => ?_)
    · have hf := xip q hf
      obtain ⟨b0, hg, e9⟩ := xmj hf
      subst e9
      have hf := hg
      have hk := hk.2 _ rfl
      refine ww_sub [0] rfl ?_
      exact s_X8_findInt_j38 C hf hk
    · have hf := xin q hf
      refine ww_aload_n (pc := 25) C 0 dX8_findInt_25 rfl ?_
      refine ww_dup (pc := 26) C dX8_findInt_26 rfl ?_
      obtain ⟨v13, e12, hf⟩ := xbd hf
      refine gf_X8_32 (pc := 27) C e12 dX8_findInt_27 ?_
      refine ww_iconst (pc := 30) (v := (1 : Int32)) C dX8_findInt_30 (by decide) ?_
      refine ww_iadd (pc := 31) C dX8_findInt_31 ?_
      obtain ⟨σ15, e14, hf⟩ := xbd hf
      refine pf_X8_32 (pc := 32) C e14 dX8_findInt_32 ?_
      refine ww_goto (pc := 35) (tgt := 0) C dX8_findInt_35 (by decide) ?_
      have hf := xsj hf
      subst hf
      refine ww_sub [0] rfl ?_
      exact hk.1 σ15 rfl
theorem s_X8_findInt_e {G : XG} (C : XC G cX8_findInt RX8 none 2 1 21) {σ : XS} {r0 : Nat} {x : XS} (hf : f_X8_findInt σ r0 = some x) (hk : XEnd G none x) : WW G 0 [(0, .ref (gB G + r0))] [] σ := by
  refine ww_sub [0] rfl ?_
  exact s_X8_findInt_l0 C (a := σ) hf hk
theorem m_X8_findInt {σ : XS} {r0 : Nat} {x : XS} (hf : f_X8_findInt σ r0 = some x) : xsame σ x := by
  have hm := xsame.rf (σ := σ)
  exact hm.tr (m_X8_findInt_l0 (a := σ) hf)
theorem k_X8_findInt {l : Launch} {E : XD} {hb : Nat} {σ : XS} {r0 : Nat} {x : XS} (h : f_X8_findInt σ r0 = some x) : XM l yX8_findInt cX8_findInt 2 none 1 21 E hb [.ref (hb + r0)] σ none x := by
  refine xm_of (by decide) (Nat.le_of_ble_eq_true rfl) (m_X8_findInt h).le (fun G hG C hl hQ => ?_)
  obtain ⟨rfl, rfl, rfl, hN⟩ := hG
  exact s_X8_findInt_e C h hQ
noncomputable def f_X8_findToken_j43 (σ : XS) (r0 : Nat) : Option XS := (xgI σ r0 8 8).bind fun v2 => (xck σ r0 8).bind fun _ => (f_X8_byteAt σ r0 v2).bind fun v5 => (xgI σ r0 8 8).bind fun v7 => (xpI σ r0 8 9 (v7 + (1 : Int32))).bind fun σ9 => (xgI σ9 r0 8 8).bind fun v11 => (xgI σ9 r0 8 4).bind fun v13 => if v11 < v13 then ((f_X8_isLetter v5).bind fun v15 => if v15 = 0 then ((f_X8_isDigit v5).bind fun v17 => if v17 = 0 then (if v5 = (45 : Int32) then ((xpI σ9 r0 8 6 (3 : Int32)).bind fun σ19 => some σ19) else if v5 = (59 : Int32) then ((xpI σ9 r0 8 6 (4 : Int32)).bind fun σ19 => some σ19) else (xpI σ9 r0 8 6 (1 : Int32)).bind fun σ19 => some σ19) else (xck σ9 r0 8).bind fun _ => (f_X8_findInt σ9 r0).bind fun σ20 => some σ20) else (xck σ9 r0 8).bind fun _ => (f_X8_skipLetters σ9 r0).bind fun σ18 => (xck σ18 r0 8).bind fun _ => (f_X8_wordKind σ18 r0).bind fun v21 => (xpI σ18 r0 8 6 v21).bind fun σ23 => some σ23) else (xgI σ9 r0 8 4).bind fun v15 => (xpI σ9 r0 8 9 v15).bind fun σ17 => (xpI σ17 r0 8 6 (0 : Int32)).bind fun σ19 => some σ19
noncomputable def f_X8_findToken_b5 (r0 : Nat) : XS → Option ((XS) ⊕ (XS)) := fun a => match a with
  | σ => (xgI σ r0 8 8).bind fun v2 => (xgI σ r0 8 4).bind fun v4 => if v4 ≤ v2 then ((f_X8_findToken_j43 σ r0).map .inr) else (xgI σ r0 8 8).bind fun v6 => (xck σ r0 8).bind fun _ => (f_X8_byteAt σ r0 v6).bind fun v9 => (f_X8_isBlank v9).bind fun v11 => if v11 = 0 then ((f_X8_findToken_j43 σ r0).map .inr) else (xgI σ r0 8 8).bind fun v13 => (xpI σ r0 8 8 (v13 + (1 : Int32))).bind fun σ15 => some (.inl σ15)
noncomputable def f_X8_findToken (σ : XS) (r0 : Nat) (x1 : Int32) : Option XS := (xpI σ r0 8 8 x1).bind fun σ2 => xloop (f_X8_findToken_b5 r0) σ2
theorem s_X8_findToken_j43 {G : XG} (C : XC G cX8_findToken RX8 none 3 6 127) {σ : XS} {r0 : Nat} {x : XS} (hf : f_X8_findToken_j43 σ r0 = some x) (hk : XEnd G none x) : WW G 43 [(0, .ref (gB G + r0))] [] σ := by
  refine ww_aload_n (pc := 43) C 0 dX8_findToken_43 rfl ?_
  refine ww_aload_n (pc := 44) C 0 dX8_findToken_44 rfl ?_
  obtain ⟨v2, e1, hf⟩ := xbd hf
  refine gf_X8_52 (pc := 45) C e1 dX8_findToken_45 ?_
  obtain ⟨_, e3, hf⟩ := xbd hf
  obtain ⟨v5, e4, hf⟩ := xbd hf
  refine ww_callVi (pc := 48) (as := [.int v2]) (st := []) C (k_X8_byteAt (l := gl G) (E := gE G) (hb := gB G) (σ := σ) e4) rfl (by decide) xc_X8_55 q480 qp6 (xck_spec e3) rfl (by decide) (xst4 (Nat.le_of_ble_eq_true rfl)) xsame.rf.le xsame.rf.lim dX8_findToken_48 ?_
  refine ww_istore_n (pc := 51) (lv' := [(2, .int v5), (0, .ref (gB G + r0))]) C dX8_findToken_51 (by decide) rfl ?_
  refine ww_aload_n (pc := 52) C 1 dX8_findToken_52 rfl ?_
  refine ww_aload_n (pc := 53) C 1 dX8_findToken_53 rfl ?_
  obtain ⟨v7, e6, hf⟩ := xbd hf
  refine gf_X8_52 (pc := 54) C e6 dX8_findToken_54 ?_
  refine ww_iconst (pc := 57) (v := (1 : Int32)) C dX8_findToken_57 (by decide) ?_
  refine ww_iadd (pc := 58) C dX8_findToken_58 ?_
  obtain ⟨σ9, e8, hf⟩ := xbd hf
  refine pf_X8_32 (pc := 59) C e8 dX8_findToken_59 ?_
  refine ww_aload_n (pc := 62) C 1 dX8_findToken_62 rfl ?_
  obtain ⟨v11, e10, hf⟩ := xbd hf
  refine gf_X8_52 (pc := 63) C e10 dX8_findToken_63 ?_
  refine ww_aload_n (pc := 66) C 1 dX8_findToken_66 rfl ?_
  obtain ⟨v13, e12, hf⟩ := xbd hf
  refine gf_X8_25 (pc := 67) C e12 dX8_findToken_67 ?_
  refine ww_icmp_lt (pc := 70) (tgt := 89) C dX8_findToken_70 (by decide) (fun q => ?_) (fun q => ?_)
  · have hf := xip q hf
    refine ww_iload_n (pc := 89) C 0 dX8_findToken_89 rfl ?_
    obtain ⟨v15, e14, hf⟩ := xbd hf
    refine ww_callSi (pc := 90) (as := [.int v5]) (st := []) C (k_X8_isLetter (l := gl G) (E := gE G) (hb := gB G) (σ := σ9) e14) xc_X8_63 q486 rfl (by decide) (xst4 (Nat.le_of_ble_eq_true rfl)) xsame.rf.le xsame.rf.lim dX8_findToken_90 ?_
    refine ww_if_eq (pc := 93) (tgt := 111) C dX8_findToken_93 (by decide) (fun q => ?_) (fun q => ?_)
    · have hf := xip q hf
      refine ww_iload_n (pc := 111) C 0 dX8_findToken_111 rfl ?_
      obtain ⟨v17, e16, hf⟩ := xbd hf
      refine ww_callSi (pc := 112) (as := [.int v5]) (st := []) C (k_X8_isDigit (l := gl G) (E := gE G) (hb := gB G) (σ := σ9) e16) xc_X8_73 q560 rfl (by decide) (xst4 (Nat.le_of_ble_eq_true rfl)) xsame.rf.le xsame.rf.lim dX8_findToken_112 ?_
      refine ww_if_eq (pc := 115) (tgt := 125) C dX8_findToken_115 (by decide) (fun q => ?_) (fun q => ?_)
      · have hf := xip q hf
        refine ww_aload_n (pc := 125) C 1 dX8_findToken_125 rfl ?_
        refine ww_iload_n (pc := 126) C 0 dX8_findToken_126 rfl ?_
        refine ww_bipush (pc := 127) (v := (45 : Int32)) C dX8_findToken_127 (by decide) ?_
        refine ww_icmp_ne (pc := 129) (tgt := 136) C dX8_findToken_129 (by decide) (fun q => ?_) (fun q => ?_)
        · have hf := xin q hf
          refine ww_iload_n (pc := 136) C 0 dX8_findToken_136 rfl ?_
          refine ww_bipush (pc := 137) (v := (59 : Int32)) C dX8_findToken_137 (by decide) ?_
          refine ww_icmp_ne (pc := 139) (tgt := 146) C dX8_findToken_139 (by decide) (fun q => ?_) (fun q => ?_)
          · have hf := xin q hf
            refine ww_iconst (pc := 146) (v := (1 : Int32)) C dX8_findToken_146 (by decide) ?_
            obtain ⟨σ19, e18, hf⟩ := xbd hf
            refine pf_X8_39 (pc := 147) C e18 dX8_findToken_147 ?_
            have hf := xsj hf
            subst hf
            exact ww_vret (pc := 150) C hk dX8_findToken_150
          · have hf := xip q hf
            refine ww_iconst (pc := 142) (v := (4 : Int32)) C dX8_findToken_142 (by decide) ?_
            refine ww_goto (pc := 143) (tgt := 147) C dX8_findToken_143 (by decide) ?_
            obtain ⟨σ19, e18, hf⟩ := xbd hf
            refine pf_X8_39 (pc := 147) C e18 dX8_findToken_147 ?_
            have hf := xsj hf
            subst hf
            exact ww_vret (pc := 150) C hk dX8_findToken_150
        · have hf := xip q hf
          refine ww_iconst (pc := 132) (v := (3 : Int32)) C dX8_findToken_132 (by decide) ?_
          refine ww_goto (pc := 133) (tgt := 147) C dX8_findToken_133 (by decide) ?_
          obtain ⟨σ19, e18, hf⟩ := xbd hf
          refine pf_X8_39 (pc := 147) C e18 dX8_findToken_147 ?_
          have hf := xsj hf
          subst hf
          exact ww_vret (pc := 150) C hk dX8_findToken_150
      · have hf := xin q hf
        refine ww_aload_n (pc := 118) C 1 dX8_findToken_118 rfl ?_
        obtain ⟨_, e18, hf⟩ := xbd hf
        obtain ⟨σ20, e19, hf⟩ := xbd hf
        refine ww_callVv (pc := 119) (as := []) (st := []) C (k_X8_findInt (l := gl G) (E := gE G) (hb := gB G) (σ := σ9) e19) rfl (by decide) xc_X8_76 q564 qp10 (xck_spec e18) rfl (by decide) (xst4 (Nat.le_of_ble_eq_true rfl)) (m_X8_findInt e19).le (m_X8_findInt e19).lim dX8_findToken_119 ?_
        refine ww_goto (pc := 122) (tgt := 150) C dX8_findToken_122 (by decide) ?_
        have hf := xsj hf
        subst hf
        exact ww_vret (pc := 150) C hk dX8_findToken_150
    · have hf := xin q hf
      refine ww_aload_n (pc := 96) C 1 dX8_findToken_96 rfl ?_
      obtain ⟨_, e16, hf⟩ := xbd hf
      obtain ⟨σ18, e17, hf⟩ := xbd hf
      refine ww_callVv (pc := 97) (as := []) (st := []) C (k_X8_skipLetters (l := gl G) (E := gE G) (hb := gB G) (σ := σ9) e17) rfl (by decide) xc_X8_66 q490 qp7 (xck_spec e16) rfl (by decide) (xst4 (Nat.le_of_ble_eq_true rfl)) (m_X8_skipLetters e17).le (m_X8_skipLetters e17).lim dX8_findToken_97 ?_
      refine ww_aload_n (pc := 100) C 1 dX8_findToken_100 rfl ?_
      refine ww_aload_n (pc := 101) C 1 dX8_findToken_101 rfl ?_
      obtain ⟨_, e19, hf⟩ := xbd hf
      obtain ⟨v21, e20, hf⟩ := xbd hf
      refine ww_callVi (pc := 102) (as := []) (st := [.ref (gB G + r0)]) C (k_X8_wordKind (l := gl G) (E := gE G) (hb := gB G) (σ := σ18) e20) rfl (by decide) xc_X8_69 q494 qp8 (xck_spec e19) rfl (by decide) (xst4 (Nat.le_of_ble_eq_true rfl)) xsame.rf.le xsame.rf.lim dX8_findToken_102 ?_
      obtain ⟨σ23, e22, hf⟩ := xbd hf
      refine pf_X8_39 (pc := 105) C e22 dX8_findToken_105 ?_
      refine ww_goto (pc := 108) (tgt := 150) C dX8_findToken_108 (by decide) ?_
      have hf := xsj hf
      subst hf
      exact ww_vret (pc := 150) C hk dX8_findToken_150
  · have hf := xin q hf
    refine ww_aload_n (pc := 73) C 1 dX8_findToken_73 rfl ?_
    refine ww_aload_n (pc := 74) C 1 dX8_findToken_74 rfl ?_
    obtain ⟨v15, e14, hf⟩ := xbd hf
    refine gf_X8_25 (pc := 75) C e14 dX8_findToken_75 ?_
    obtain ⟨σ17, e16, hf⟩ := xbd hf
    refine pf_X8_32 (pc := 78) C e16 dX8_findToken_78 ?_
    refine ww_aload_n (pc := 81) C 1 dX8_findToken_81 rfl ?_
    refine ww_iconst (pc := 82) (v := (0 : Int32)) C dX8_findToken_82 (by decide) ?_
    obtain ⟨σ19, e18, hf⟩ := xbd hf
    refine pf_X8_39 (pc := 83) C e18 dX8_findToken_83 ?_
    refine ww_goto (pc := 86) (tgt := 150) C dX8_findToken_86 (by decide) ?_
    have hf := xsj hf
    subst hf
    exact ww_vret (pc := 150) C hk dX8_findToken_150
theorem m_X8_findToken_j43 {σ : XS} {r0 : Nat} {x : XS} (hf : f_X8_findToken_j43 σ r0 = some x) : xsame σ x := by
  have hm := xsame.rf (σ := σ)
  obtain ⟨v2, e1, hf⟩ := xbd hf
  obtain ⟨_, e3, hf⟩ := xbd hf
  obtain ⟨v5, e4, hf⟩ := xbd hf
  obtain ⟨v7, e6, hf⟩ := xbd hf
  obtain ⟨σ9, e8, hf⟩ := xbd hf
  have hm := hm.tr (xpI_same e8)
  obtain ⟨v11, e10, hf⟩ := xbd hf
  obtain ⟨v13, e12, hf⟩ := xbd hf
  by_cases q : v11 < v13
  · have hf := xip q hf
    obtain ⟨v15, e14, hf⟩ := xbd hf
    by_cases q : v15 = 0
    · have hf := xip q hf
      obtain ⟨v17, e16, hf⟩ := xbd hf
      by_cases q : v17 = 0
      · have hf := xip q hf
        by_cases q : v5 = (45 : Int32)
        · have hf := xip q hf
          obtain ⟨σ19, e18, hf⟩ := xbd hf
          have hm := hm.tr (xpI_same e18)
          have hf := xsj hf
          subst hf
          exact hm
        · have hf := xin q hf
          by_cases q : v5 = (59 : Int32)
          · have hf := xip q hf
            obtain ⟨σ19, e18, hf⟩ := xbd hf
            have hm := hm.tr (xpI_same e18)
            have hf := xsj hf
            subst hf
            exact hm
          · have hf := xin q hf
            obtain ⟨σ19, e18, hf⟩ := xbd hf
            have hm := hm.tr (xpI_same e18)
            have hf := xsj hf
            subst hf
            exact hm
      · have hf := xin q hf
        obtain ⟨_, e18, hf⟩ := xbd hf
        obtain ⟨σ20, e19, hf⟩ := xbd hf
        have hm := hm.tr (m_X8_findInt e19)
        have hf := xsj hf
        subst hf
        exact hm
    · have hf := xin q hf
      obtain ⟨_, e16, hf⟩ := xbd hf
      obtain ⟨σ18, e17, hf⟩ := xbd hf
      have hm := hm.tr (m_X8_skipLetters e17)
      obtain ⟨_, e19, hf⟩ := xbd hf
      obtain ⟨v21, e20, hf⟩ := xbd hf
      obtain ⟨σ23, e22, hf⟩ := xbd hf
      have hm := hm.tr (xpI_same e22)
      have hf := xsj hf
      subst hf
      exact hm
  · have hf := xin q hf
    obtain ⟨v15, e14, hf⟩ := xbd hf
    obtain ⟨σ17, e16, hf⟩ := xbd hf
    have hm := hm.tr (xpI_same e16)
    obtain ⟨σ19, e18, hf⟩ := xbd hf
    have hm := hm.tr (xpI_same e18)
    have hf := xsj hf
    subst hf
    exact hm
theorem m_X8_findToken_l5 {r0 : Nat} {a : XS} {x : XS} (hf : xloop (f_X8_findToken_b5 r0) a = some x) : xsame a x := by
  refine xloop_ind (P := fun a => xsame a x) (fun a y hf hc he => ?_) hf
  obtain ⟨σ, rfl⟩ : ∃ z, z = a := ⟨_, rfl⟩
  have hy : (∀ a' : XS, y = .inl a' → xsame σ a') ∧ (∀ b1 : XS, y = .inr b1 → xsame σ b1) := by
    have hm := xsame.rf (σ := σ)
    obtain ⟨v2, e1, hf⟩ := xbd hf
    obtain ⟨v4, e3, hf⟩ := xbd hf
    by_cases q : v4 ≤ v2
    · have hf := xip q hf
      obtain ⟨b0, hg, e9⟩ := xmj hf
      subst e9
      have hf := hg
      refine ⟨fun a' e => xnc2 e, fun b e => ?_⟩
      have h9 := Sum.inr.inj e
      subst h9
      exact hm.tr (m_X8_findToken_j43 hf)
    · have hf := xin q hf
      obtain ⟨v6, e5, hf⟩ := xbd hf
      obtain ⟨_, e7, hf⟩ := xbd hf
      obtain ⟨v9, e8, hf⟩ := xbd hf
      obtain ⟨v11, e10, hf⟩ := xbd hf
      by_cases q : v11 = 0
      · have hf := xip q hf
        obtain ⟨b0, hg, e9⟩ := xmj hf
        subst e9
        have hf := hg
        refine ⟨fun a' e => xnc2 e, fun b e => ?_⟩
        have h9 := Sum.inr.inj e
        subst h9
        exact hm.tr (m_X8_findToken_j43 hf)
      · have hf := xin q hf
        obtain ⟨v13, e12, hf⟩ := xbd hf
        obtain ⟨σ15, e14, hf⟩ := xbd hf
        have hm := hm.tr (xpI_same e14)
        have hf := xsj hf
        subst hf
        exact ⟨fun a' e => (by have h9 := Sum.inl.inj e; subst h9; exact hm), fun b e => xnc1 e⟩
  cases y with
  | inl a' =>
    have h1 := hc a' rfl
    have hm := hy.1 a' rfl
    exact hm.tr (h1)
  | inr b =>
    have h1 := he b rfl
    subst h1
    exact hy.2 _ rfl
theorem s_X8_findToken_l5 {G : XG} (C : XC G cX8_findToken RX8 none 3 6 127) {r0 : Nat} {a : XS} {x : XS} (hf : xloop (f_X8_findToken_b5 r0) a = some x) (hk : XEnd G none x) : WW G 5 [(0, .ref (gB G + r0))] [] a := by
  refine xloop_ind (P := fun a => WW G 5 [(0, .ref (gB G + r0))] [] a) (fun a y hf hc he => ?_) hf
  obtain ⟨σ, rfl⟩ : ∃ z, z = a := ⟨_, rfl⟩
  have hk : (∀ a' : XS, y = .inl a' → WW G 5 [(0, .ref (gB G + r0))] [] a') ∧ (∀ b1 : XS, y = .inr b1 → XEnd G none b1) := ⟨hc, fun b e => by have h9 := he b e; subst h9; exact hk⟩
  refine ww_aload_n (pc := 5) C 0 dX8_findToken_5 rfl ?_
  obtain ⟨v2, e1, hf⟩ := xbd hf
  refine gf_X8_52 (pc := 6) C e1 dX8_findToken_6 ?_
  refine ww_aload_n (pc := 9) C 0 dX8_findToken_9 rfl ?_
  obtain ⟨v4, e3, hf⟩ := xbd hf
  refine gf_X8_25 (pc := 10) C e3 dX8_findToken_10 ?_
  refine ww_icmp_ge (pc := 13) (tgt := 43) C dX8_findToken_13 (by decide) (fun q => ?_) (fun q => ?_)
  · have hf := xip q hf
    obtain ⟨b0, hg, e9⟩ := xmj hf
    subst e9
    have hf := hg
    have hk := hk.2 _ rfl
    refine ww_sub [0] rfl ?_
    exact s_X8_findToken_j43 C hf hk
  · have hf := xin q hf
    refine ww_aload_n (pc := 16) C 0 dX8_findToken_16 rfl ?_
    refine ww_aload_n (pc := 17) C 0 dX8_findToken_17 rfl ?_
    obtain ⟨v6, e5, hf⟩ := xbd hf
    refine gf_X8_52 (pc := 18) C e5 dX8_findToken_18 ?_
    obtain ⟨_, e7, hf⟩ := xbd hf
    obtain ⟨v9, e8, hf⟩ := xbd hf
    refine ww_callVi (pc := 21) (as := [.int v6]) (st := []) C (k_X8_byteAt (l := gl G) (E := gE G) (hb := gB G) (σ := σ) e8) rfl (by decide) xc_X8_55 q480 qp6 (xck_spec e7) rfl (by decide) (xst4 (Nat.le_of_ble_eq_true rfl)) xsame.rf.le xsame.rf.lim dX8_findToken_21 ?_
    obtain ⟨v11, e10, hf⟩ := xbd hf
    refine ww_callSi (pc := 24) (as := [.int v9]) (st := []) C (k_X8_isBlank (l := gl G) (E := gE G) (hb := gB G) (σ := σ) e10) xc_X8_59 q483 rfl (by decide) (xst4 (Nat.le_of_ble_eq_true rfl)) xsame.rf.le xsame.rf.lim dX8_findToken_24 ?_
    refine ww_if_eq (pc := 27) (tgt := 43) C dX8_findToken_27 (by decide) (fun q => ?_) (fun q => ?_)
    · have hf := xip q hf
      obtain ⟨b0, hg, e9⟩ := xmj hf
      subst e9
      have hf := hg
      have hk := hk.2 _ rfl
      refine ww_sub [0] rfl ?_
      exact s_X8_findToken_j43 C hf hk
    · have hf := xin q hf
      refine ww_aload_n (pc := 30) C 0 dX8_findToken_30 rfl ?_
      refine ww_dup (pc := 31) C dX8_findToken_31 rfl ?_
      obtain ⟨v13, e12, hf⟩ := xbd hf
      refine gf_X8_52 (pc := 32) C e12 dX8_findToken_32 ?_
      refine ww_iconst (pc := 35) (v := (1 : Int32)) C dX8_findToken_35 (by decide) ?_
      refine ww_iadd (pc := 36) C dX8_findToken_36 ?_
      obtain ⟨σ15, e14, hf⟩ := xbd hf
      refine pf_X8_52 (pc := 37) C e14 dX8_findToken_37 ?_
      refine ww_goto (pc := 40) (tgt := 5) C dX8_findToken_40 (by decide) ?_
      have hf := xsj hf
      subst hf
      refine ww_sub [0] rfl ?_
      exact hk.1 σ15 rfl
theorem s_X8_findToken_e {G : XG} (C : XC G cX8_findToken RX8 none 3 6 127) {σ : XS} {r0 : Nat} {x1 : Int32} {x : XS} (hf : f_X8_findToken σ r0 x1 = some x) (hk : XEnd G none x) : WW G 0 [(0, .ref (gB G + r0)), (1, .int x1)] [] σ := by
  refine ww_aload_n (pc := 0) C 0 dX8_findToken_0 rfl ?_
  refine ww_iload_n (pc := 1) C 1 dX8_findToken_1 rfl ?_
  obtain ⟨σ2, e1, hf⟩ := xbd hf
  refine pf_X8_52 (pc := 2) C e1 dX8_findToken_2 ?_
  refine ww_sub [0] rfl ?_
  exact s_X8_findToken_l5 C (a := σ2) hf hk
theorem m_X8_findToken {σ : XS} {r0 : Nat} {x1 : Int32} {x : XS} (hf : f_X8_findToken σ r0 x1 = some x) : xsame σ x := by
  have hm := xsame.rf (σ := σ)
  obtain ⟨σ2, e1, hf⟩ := xbd hf
  have hm := hm.tr (xpI_same e1)
  exact hm.tr (m_X8_findToken_l5 (a := σ2) hf)
theorem k_X8_findToken {l : Launch} {E : XD} {hb : Nat} {σ : XS} {r0 : Nat} {x1 : Int32} {x : XS} (h : f_X8_findToken σ r0 x1 = some x) : XM l yX8_findToken cX8_findToken 3 none 6 127 E hb [.ref (hb + r0), .int x1] σ none x := by
  refine xm_of (by decide) (Nat.le_of_ble_eq_true rfl) (m_X8_findToken h).le (fun G hG C hl hQ => ?_)
  obtain ⟨rfl, rfl, rfl, hN⟩ := hG
  exact s_X8_findToken_e C h hQ
noncomputable def f_X8_wantInTell (x0 : Int32) : Option Int32 := xsw x0 (6) [some (5 : Int32), some (5 : Int32), some (5 : Int32), some (7 : Int32), some (8 : Int32), some (10 : Int32), some (11 : Int32), some (-1 : Int32), some (-1 : Int32), some (13 : Int32)] (some (-1 : Int32))
theorem s_X8_wantInTell_e {G : XG} (C : XC G cX8_wantInTell RX8 (some .int) 1 0 0) {σ : XS} {x0 : Int32} {x : Int32} (hf : f_X8_wantInTell x0 = some x) (hk : XEnd G (some (.int x)) σ) : WW G 0 [(0, .int x0)] [] σ := by
  refine ww_iload_n (pc := 0) C 0 dX8_wantInTell_0 rfl ?_
  refine ww_table (pc := 1) C dX8_wantInTell_1 (fun k hk1 hk2 => ?_) (fun ho => ?_)
  · rcases (by omega : k = 0 ∨ k = 1 ∨ k = 2 ∨ k = 3 ∨ k = 4 ∨ k = 5 ∨ k = 6 ∨ k = 7 ∨ k = 8 ∨ k = 9) with rfl | rfl | rfl | rfl | rfl | rfl | rfl | rfl | rfl | rfl
    · refine ⟨56, 55, rfl, by decide, ?_⟩
      have hf := xsw_in 0 hk1 rfl hf
      refine ww_iconst (pc := 56) (v := (5 : Int32)) C dX8_wantInTell_56 (by decide) ?_
      have hf := xsj hf
      subst hf
      exact ww_iret (pc := 57) C hk dX8_wantInTell_57
    · refine ⟨58, 57, rfl, by decide, ?_⟩
      have hf := xsw_in 1 hk1 rfl hf
      refine ww_iconst (pc := 58) (v := (5 : Int32)) C dX8_wantInTell_58 (by decide) ?_
      have hf := xsj hf
      subst hf
      exact ww_iret (pc := 59) C hk dX8_wantInTell_59
    · refine ⟨60, 59, rfl, by decide, ?_⟩
      have hf := xsw_in 2 hk1 rfl hf
      refine ww_iconst (pc := 60) (v := (5 : Int32)) C dX8_wantInTell_60 (by decide) ?_
      have hf := xsj hf
      subst hf
      exact ww_iret (pc := 61) C hk dX8_wantInTell_61
    · refine ⟨62, 61, rfl, by decide, ?_⟩
      have hf := xsw_in 3 hk1 rfl hf
      refine ww_bipush (pc := 62) (v := (7 : Int32)) C dX8_wantInTell_62 (by decide) ?_
      have hf := xsj hf
      subst hf
      exact ww_iret (pc := 64) C hk dX8_wantInTell_64
    · refine ⟨65, 64, rfl, by decide, ?_⟩
      have hf := xsw_in 4 hk1 rfl hf
      refine ww_bipush (pc := 65) (v := (8 : Int32)) C dX8_wantInTell_65 (by decide) ?_
      have hf := xsj hf
      subst hf
      exact ww_iret (pc := 67) C hk dX8_wantInTell_67
    · refine ⟨68, 67, rfl, by decide, ?_⟩
      have hf := xsw_in 5 hk1 rfl hf
      refine ww_bipush (pc := 68) (v := (10 : Int32)) C dX8_wantInTell_68 (by decide) ?_
      have hf := xsj hf
      subst hf
      exact ww_iret (pc := 70) C hk dX8_wantInTell_70
    · refine ⟨71, 70, rfl, by decide, ?_⟩
      have hf := xsw_in 6 hk1 rfl hf
      refine ww_bipush (pc := 71) (v := (11 : Int32)) C dX8_wantInTell_71 (by decide) ?_
      have hf := xsj hf
      subst hf
      exact ww_iret (pc := 73) C hk dX8_wantInTell_73
    · refine ⟨77, 76, rfl, by decide, ?_⟩
      have hf := xsw_in 7 hk1 rfl hf
      refine ww_iconst (pc := 77) (v := (-1 : Int32)) C dX8_wantInTell_77 (by decide) ?_
      have hf := xsj hf
      subst hf
      exact ww_iret (pc := 78) C hk dX8_wantInTell_78
    · refine ⟨77, 76, rfl, by decide, ?_⟩
      have hf := xsw_in 8 hk1 rfl hf
      refine ww_iconst (pc := 77) (v := (-1 : Int32)) C dX8_wantInTell_77 (by decide) ?_
      have hf := xsj hf
      subst hf
      exact ww_iret (pc := 78) C hk dX8_wantInTell_78
    · refine ⟨74, 73, rfl, by decide, ?_⟩
      have hf := xsw_in 9 hk1 rfl hf
      refine ww_bipush (pc := 74) (v := (13 : Int32)) C dX8_wantInTell_74 (by decide) ?_
      have hf := xsj hf
      subst hf
      exact ww_iret (pc := 76) C hk dX8_wantInTell_76
  · refine ⟨77, by decide, ?_⟩
    have hf := xsw_out ho rfl hf
    refine ww_iconst (pc := 77) (v := (-1 : Int32)) C dX8_wantInTell_77 (by decide) ?_
    have hf := xsj hf
    subst hf
    exact ww_iret (pc := 78) C hk dX8_wantInTell_78
theorem k_X8_wantInTell {l : Launch} {E : XD} {hb : Nat} {σ : XS} {x0 : Int32} {x : Int32} (h : f_X8_wantInTell x0 = some x) : XM l yX8_wantInTell cX8_wantInTell 1 (some .int) 0 0 E hb [.int x0] σ (some (.int x)) σ := by
  refine xm_of (by decide) (Nat.le_of_ble_eq_true rfl) ⟨Nat.le_refl _, Nat.le_refl _⟩ (fun G hG C hl hQ => ?_)
  obtain ⟨rfl, rfl, rfl, hN⟩ := hG
  exact s_X8_wantInTell_e C h hQ
noncomputable def f_X8_wantBehind_j28 (x0 : Int32) (x1 : Int32) (x2 : Int32) (t0 : Int32) : Option Int32 := xsw x0 (0) [if x1 = (5 : Int32) then (some (1 : Int32)) else some (-1 : Int32), if x2 = 0 then (some (-1 : Int32)) else some (2 : Int32), if x2 = 0 then (some (-1 : Int32)) else some (3 : Int32), if x1 = (4 : Int32) then (some (4 : Int32)) else some (-1 : Int32), (f_X8_wantInTell x1).bind fun v2 => some v2, if x1 = (3 : Int32) then (some (6 : Int32)) else if x2 = 0 then (some (-1 : Int32)) else some (3 : Int32), if x2 = 0 then (some (-1 : Int32)) else some (3 : Int32), if t0 = 0 then (some (-1 : Int32)) else some (3 : Int32), if x2 = 0 then (some (-1 : Int32)) else some (9 : Int32), if t0 = 0 then (some (-1 : Int32)) else some (5 : Int32), if x2 = 0 then (some (-1 : Int32)) else some (5 : Int32), if x2 = 0 then (some (-1 : Int32)) else some (12 : Int32), if x1 = (13 : Int32) then (some (3 : Int32)) else if x1 = (14 : Int32) then (some (3 : Int32)) else some (-1 : Int32), if x2 = 0 then (some (-1 : Int32)) else some (3 : Int32)] (some (-1 : Int32))
noncomputable def f_X8_wantBehind_j10 (x0 : Int32) (x1 : Int32) (t0 : Int32) : Option Int32 := if x1 = (6 : Int32) then (f_X8_wantBehind_j28 x0 x1 t0 (1 : Int32)) else if x1 = (7 : Int32) then (f_X8_wantBehind_j28 x0 x1 t0 (1 : Int32)) else f_X8_wantBehind_j28 x0 x1 t0 (0 : Int32)
noncomputable def f_X8_wantBehind (x0 : Int32) (x1 : Int32) : Option Int32 := if x1 = (2 : Int32) then (f_X8_wantBehind_j10 x0 x1 (1 : Int32)) else f_X8_wantBehind_j10 x0 x1 (0 : Int32)
theorem s_X8_wantBehind_j28 {G : XG} (C : XC G cX8_wantBehind RX8 (some .int) 4 1 20) {σ : XS} {x0 : Int32} {x1 : Int32} {x2 : Int32} {t0 : Int32} {x : Int32} (hf : f_X8_wantBehind_j28 x0 x1 x2 t0 = some x) (hk : XEnd G (some (.int x)) σ) : WW G 28 [(0, .int x0), (1, .int x1), (2, .int x2)] [.int t0] σ := by
  refine ww_istore_n (pc := 28) (lv' := [(3, .int t0), (0, .int x0), (1, .int x1), (2, .int x2)]) C dX8_wantBehind_28 (by decide) rfl ?_
  refine ww_iload_n (pc := 29) C 1 dX8_wantBehind_29 rfl ?_
  refine ww_table (pc := 30) C dX8_wantBehind_30 (fun k hk1 hk2 => ?_) (fun ho => ?_)
  · rcases (by omega : k = 0 ∨ k = 1 ∨ k = 2 ∨ k = 3 ∨ k = 4 ∨ k = 5 ∨ k = 6 ∨ k = 7 ∨ k = 8 ∨ k = 9 ∨ k = 10 ∨ k = 11 ∨ k = 12 ∨ k = 13) with rfl | rfl | rfl | rfl | rfl | rfl | rfl | rfl | rfl | rfl | rfl | rfl | rfl | rfl
    · refine ⟨100, 70, rfl, by decide, ?_⟩
      have hf := xsw_in 0 hk1 rfl hf
      refine ww_iload_n (pc := 100) C 2 dX8_wantBehind_100 rfl ?_
      refine ww_iconst (pc := 101) (v := (5 : Int32)) C dX8_wantBehind_101 (by decide) ?_
      refine ww_icmp_ne (pc := 102) (tgt := 109) C dX8_wantBehind_102 (by decide) (fun q => ?_) (fun q => ?_)
      · have hf := xin q hf
        refine ww_iconst (pc := 109) (v := (-1 : Int32)) C dX8_wantBehind_109 (by decide) ?_
        have hf := xsj hf
        subst hf
        exact ww_iret (pc := 110) C hk dX8_wantBehind_110
      · have hf := xip q hf
        refine ww_iconst (pc := 105) (v := (1 : Int32)) C dX8_wantBehind_105 (by decide) ?_
        refine ww_goto (pc := 106) (tgt := 110) C dX8_wantBehind_106 (by decide) ?_
        have hf := xsj hf
        subst hf
        exact ww_iret (pc := 110) C hk dX8_wantBehind_110
    · refine ⟨111, 81, rfl, by decide, ?_⟩
      have hf := xsw_in 1 hk1 rfl hf
      refine ww_iload_n (pc := 111) C 3 dX8_wantBehind_111 rfl ?_
      refine ww_if_eq (pc := 112) (tgt := 119) C dX8_wantBehind_112 (by decide) (fun q => ?_) (fun q => ?_)
      · have hf := xip q hf
        refine ww_iconst (pc := 119) (v := (-1 : Int32)) C dX8_wantBehind_119 (by decide) ?_
        have hf := xsj hf
        subst hf
        exact ww_iret (pc := 120) C hk dX8_wantBehind_120
      · have hf := xin q hf
        refine ww_iconst (pc := 115) (v := (2 : Int32)) C dX8_wantBehind_115 (by decide) ?_
        refine ww_goto (pc := 116) (tgt := 120) C dX8_wantBehind_116 (by decide) ?_
        have hf := xsj hf
        subst hf
        exact ww_iret (pc := 120) C hk dX8_wantBehind_120
    · refine ⟨121, 91, rfl, by decide, ?_⟩
      have hf := xsw_in 2 hk1 rfl hf
      refine ww_iload_n (pc := 121) C 3 dX8_wantBehind_121 rfl ?_
      refine ww_if_eq (pc := 122) (tgt := 129) C dX8_wantBehind_122 (by decide) (fun q => ?_) (fun q => ?_)
      · have hf := xip q hf
        refine ww_iconst (pc := 129) (v := (-1 : Int32)) C dX8_wantBehind_129 (by decide) ?_
        have hf := xsj hf
        subst hf
        exact ww_iret (pc := 130) C hk dX8_wantBehind_130
      · have hf := xin q hf
        refine ww_iconst (pc := 125) (v := (3 : Int32)) C dX8_wantBehind_125 (by decide) ?_
        refine ww_goto (pc := 126) (tgt := 130) C dX8_wantBehind_126 (by decide) ?_
        have hf := xsj hf
        subst hf
        exact ww_iret (pc := 130) C hk dX8_wantBehind_130
    · refine ⟨131, 101, rfl, by decide, ?_⟩
      have hf := xsw_in 3 hk1 rfl hf
      refine ww_iload_n (pc := 131) C 2 dX8_wantBehind_131 rfl ?_
      refine ww_iconst (pc := 132) (v := (4 : Int32)) C dX8_wantBehind_132 (by decide) ?_
      refine ww_icmp_ne (pc := 133) (tgt := 140) C dX8_wantBehind_133 (by decide) (fun q => ?_) (fun q => ?_)
      · have hf := xin q hf
        refine ww_iconst (pc := 140) (v := (-1 : Int32)) C dX8_wantBehind_140 (by decide) ?_
        have hf := xsj hf
        subst hf
        exact ww_iret (pc := 141) C hk dX8_wantBehind_141
      · have hf := xip q hf
        refine ww_iconst (pc := 136) (v := (4 : Int32)) C dX8_wantBehind_136 (by decide) ?_
        refine ww_goto (pc := 137) (tgt := 141) C dX8_wantBehind_137 (by decide) ?_
        have hf := xsj hf
        subst hf
        exact ww_iret (pc := 141) C hk dX8_wantBehind_141
    · refine ⟨142, 112, rfl, by decide, ?_⟩
      have hf := xsw_in 4 hk1 rfl hf
      refine ww_iload_n (pc := 142) C 2 dX8_wantBehind_142 rfl ?_
      obtain ⟨v2, e1, hf⟩ := xbd hf
      refine ww_callSi (pc := 143) (as := [.int x1]) (st := []) C (k_X8_wantInTell (l := gl G) (E := gE G) (hb := gB G) (σ := σ) e1) xc_X8_113 q570 rfl (by decide) (xst4 (Nat.le_of_ble_eq_true rfl)) xsame.rf.le xsame.rf.lim dX8_wantBehind_143 ?_
      have hf := xsj hf
      subst hf
      exact ww_iret (pc := 146) C hk dX8_wantBehind_146
    · refine ⟨147, 117, rfl, by decide, ?_⟩
      have hf := xsw_in 5 hk1 rfl hf
      refine ww_iload_n (pc := 147) C 2 dX8_wantBehind_147 rfl ?_
      refine ww_iconst (pc := 148) (v := (3 : Int32)) C dX8_wantBehind_148 (by decide) ?_
      refine ww_icmp_ne (pc := 149) (tgt := 157) C dX8_wantBehind_149 (by decide) (fun q => ?_) (fun q => ?_)
      · have hf := xin q hf
        refine ww_iload_n (pc := 157) C 3 dX8_wantBehind_157 rfl ?_
        refine ww_if_eq (pc := 158) (tgt := 165) C dX8_wantBehind_158 (by decide) (fun q => ?_) (fun q => ?_)
        · have hf := xip q hf
          refine ww_iconst (pc := 165) (v := (-1 : Int32)) C dX8_wantBehind_165 (by decide) ?_
          have hf := xsj hf
          subst hf
          exact ww_iret (pc := 166) C hk dX8_wantBehind_166
        · have hf := xin q hf
          refine ww_iconst (pc := 161) (v := (3 : Int32)) C dX8_wantBehind_161 (by decide) ?_
          refine ww_goto (pc := 162) (tgt := 166) C dX8_wantBehind_162 (by decide) ?_
          have hf := xsj hf
          subst hf
          exact ww_iret (pc := 166) C hk dX8_wantBehind_166
      · have hf := xip q hf
        refine ww_bipush (pc := 152) (v := (6 : Int32)) C dX8_wantBehind_152 (by decide) ?_
        refine ww_goto (pc := 154) (tgt := 166) C dX8_wantBehind_154 (by decide) ?_
        have hf := xsj hf
        subst hf
        exact ww_iret (pc := 166) C hk dX8_wantBehind_166
    · refine ⟨167, 137, rfl, by decide, ?_⟩
      have hf := xsw_in 6 hk1 rfl hf
      refine ww_iload_n (pc := 167) C 3 dX8_wantBehind_167 rfl ?_
      refine ww_if_eq (pc := 168) (tgt := 175) C dX8_wantBehind_168 (by decide) (fun q => ?_) (fun q => ?_)
      · have hf := xip q hf
        refine ww_iconst (pc := 175) (v := (-1 : Int32)) C dX8_wantBehind_175 (by decide) ?_
        have hf := xsj hf
        subst hf
        exact ww_iret (pc := 176) C hk dX8_wantBehind_176
      · have hf := xin q hf
        refine ww_iconst (pc := 171) (v := (3 : Int32)) C dX8_wantBehind_171 (by decide) ?_
        refine ww_goto (pc := 172) (tgt := 176) C dX8_wantBehind_172 (by decide) ?_
        have hf := xsj hf
        subst hf
        exact ww_iret (pc := 176) C hk dX8_wantBehind_176
    · refine ⟨177, 147, rfl, by decide, ?_⟩
      have hf := xsw_in 7 hk1 rfl hf
      refine ww_iload_n (pc := 177) C 0 dX8_wantBehind_177 rfl ?_
      refine ww_if_eq (pc := 178) (tgt := 185) C dX8_wantBehind_178 (by decide) (fun q => ?_) (fun q => ?_)
      · have hf := xip q hf
        refine ww_iconst (pc := 185) (v := (-1 : Int32)) C dX8_wantBehind_185 (by decide) ?_
        have hf := xsj hf
        subst hf
        exact ww_iret (pc := 186) C hk dX8_wantBehind_186
      · have hf := xin q hf
        refine ww_iconst (pc := 181) (v := (3 : Int32)) C dX8_wantBehind_181 (by decide) ?_
        refine ww_goto (pc := 182) (tgt := 186) C dX8_wantBehind_182 (by decide) ?_
        have hf := xsj hf
        subst hf
        exact ww_iret (pc := 186) C hk dX8_wantBehind_186
    · refine ⟨187, 157, rfl, by decide, ?_⟩
      have hf := xsw_in 8 hk1 rfl hf
      refine ww_iload_n (pc := 187) C 3 dX8_wantBehind_187 rfl ?_
      refine ww_if_eq (pc := 188) (tgt := 196) C dX8_wantBehind_188 (by decide) (fun q => ?_) (fun q => ?_)
      · have hf := xip q hf
        refine ww_iconst (pc := 196) (v := (-1 : Int32)) C dX8_wantBehind_196 (by decide) ?_
        have hf := xsj hf
        subst hf
        exact ww_iret (pc := 197) C hk dX8_wantBehind_197
      · have hf := xin q hf
        refine ww_bipush (pc := 191) (v := (9 : Int32)) C dX8_wantBehind_191 (by decide) ?_
        refine ww_goto (pc := 193) (tgt := 197) C dX8_wantBehind_193 (by decide) ?_
        have hf := xsj hf
        subst hf
        exact ww_iret (pc := 197) C hk dX8_wantBehind_197
    · refine ⟨198, 168, rfl, by decide, ?_⟩
      have hf := xsw_in 9 hk1 rfl hf
      refine ww_iload_n (pc := 198) C 0 dX8_wantBehind_198 rfl ?_
      refine ww_if_eq (pc := 199) (tgt := 206) C dX8_wantBehind_199 (by decide) (fun q => ?_) (fun q => ?_)
      · have hf := xip q hf
        refine ww_iconst (pc := 206) (v := (-1 : Int32)) C dX8_wantBehind_206 (by decide) ?_
        have hf := xsj hf
        subst hf
        exact ww_iret (pc := 207) C hk dX8_wantBehind_207
      · have hf := xin q hf
        refine ww_iconst (pc := 202) (v := (5 : Int32)) C dX8_wantBehind_202 (by decide) ?_
        refine ww_goto (pc := 203) (tgt := 207) C dX8_wantBehind_203 (by decide) ?_
        have hf := xsj hf
        subst hf
        exact ww_iret (pc := 207) C hk dX8_wantBehind_207
    · refine ⟨208, 178, rfl, by decide, ?_⟩
      have hf := xsw_in 10 hk1 rfl hf
      refine ww_iload_n (pc := 208) C 3 dX8_wantBehind_208 rfl ?_
      refine ww_if_eq (pc := 209) (tgt := 216) C dX8_wantBehind_209 (by decide) (fun q => ?_) (fun q => ?_)
      · have hf := xip q hf
        refine ww_iconst (pc := 216) (v := (-1 : Int32)) C dX8_wantBehind_216 (by decide) ?_
        have hf := xsj hf
        subst hf
        exact ww_iret (pc := 217) C hk dX8_wantBehind_217
      · have hf := xin q hf
        refine ww_iconst (pc := 212) (v := (5 : Int32)) C dX8_wantBehind_212 (by decide) ?_
        refine ww_goto (pc := 213) (tgt := 217) C dX8_wantBehind_213 (by decide) ?_
        have hf := xsj hf
        subst hf
        exact ww_iret (pc := 217) C hk dX8_wantBehind_217
    · refine ⟨218, 188, rfl, by decide, ?_⟩
      have hf := xsw_in 11 hk1 rfl hf
      refine ww_iload_n (pc := 218) C 3 dX8_wantBehind_218 rfl ?_
      refine ww_if_eq (pc := 219) (tgt := 227) C dX8_wantBehind_219 (by decide) (fun q => ?_) (fun q => ?_)
      · have hf := xip q hf
        refine ww_iconst (pc := 227) (v := (-1 : Int32)) C dX8_wantBehind_227 (by decide) ?_
        have hf := xsj hf
        subst hf
        exact ww_iret (pc := 228) C hk dX8_wantBehind_228
      · have hf := xin q hf
        refine ww_bipush (pc := 222) (v := (12 : Int32)) C dX8_wantBehind_222 (by decide) ?_
        refine ww_goto (pc := 224) (tgt := 228) C dX8_wantBehind_224 (by decide) ?_
        have hf := xsj hf
        subst hf
        exact ww_iret (pc := 228) C hk dX8_wantBehind_228
    · refine ⟨229, 199, rfl, by decide, ?_⟩
      have hf := xsw_in 12 hk1 rfl hf
      refine ww_iload_n (pc := 229) C 2 dX8_wantBehind_229 rfl ?_
      refine ww_bipush (pc := 230) (v := (13 : Int32)) C dX8_wantBehind_230 (by decide) ?_
      refine ww_icmp_eq (pc := 232) (tgt := 241) C dX8_wantBehind_232 (by decide) (fun q => ?_) (fun q => ?_)
      · have hf := xip q hf
        refine ww_iconst (pc := 241) (v := (3 : Int32)) C dX8_wantBehind_241 (by decide) ?_
        refine ww_goto (pc := 242) (tgt := 246) C dX8_wantBehind_242 (by decide) ?_
        have hf := xsj hf
        subst hf
        exact ww_iret (pc := 246) C hk dX8_wantBehind_246
      · have hf := xin q hf
        refine ww_iload_n (pc := 235) C 2 dX8_wantBehind_235 rfl ?_
        refine ww_bipush (pc := 236) (v := (14 : Int32)) C dX8_wantBehind_236 (by decide) ?_
        refine ww_icmp_ne (pc := 238) (tgt := 245) C dX8_wantBehind_238 (by decide) (fun q => ?_) (fun q => ?_)
        · have hf := xin q hf
          refine ww_iconst (pc := 245) (v := (-1 : Int32)) C dX8_wantBehind_245 (by decide) ?_
          have hf := xsj hf
          subst hf
          exact ww_iret (pc := 246) C hk dX8_wantBehind_246
        · have hf := xip q hf
          refine ww_iconst (pc := 241) (v := (3 : Int32)) C dX8_wantBehind_241 (by decide) ?_
          refine ww_goto (pc := 242) (tgt := 246) C dX8_wantBehind_242 (by decide) ?_
          have hf := xsj hf
          subst hf
          exact ww_iret (pc := 246) C hk dX8_wantBehind_246
    · refine ⟨247, 217, rfl, by decide, ?_⟩
      have hf := xsw_in 13 hk1 rfl hf
      refine ww_iload_n (pc := 247) C 3 dX8_wantBehind_247 rfl ?_
      refine ww_if_eq (pc := 248) (tgt := 255) C dX8_wantBehind_248 (by decide) (fun q => ?_) (fun q => ?_)
      · have hf := xip q hf
        refine ww_iconst (pc := 255) (v := (-1 : Int32)) C dX8_wantBehind_255 (by decide) ?_
        have hf := xsj hf
        subst hf
        exact ww_iret (pc := 256) C hk dX8_wantBehind_256
      · have hf := xin q hf
        refine ww_iconst (pc := 251) (v := (3 : Int32)) C dX8_wantBehind_251 (by decide) ?_
        refine ww_goto (pc := 252) (tgt := 256) C dX8_wantBehind_252 (by decide) ?_
        have hf := xsj hf
        subst hf
        exact ww_iret (pc := 256) C hk dX8_wantBehind_256
  · refine ⟨257, by decide, ?_⟩
    have hf := xsw_out ho rfl hf
    refine ww_iconst (pc := 257) (v := (-1 : Int32)) C dX8_wantBehind_257 (by decide) ?_
    have hf := xsj hf
    subst hf
    exact ww_iret (pc := 258) C hk dX8_wantBehind_258
theorem s_X8_wantBehind_j10 {G : XG} (C : XC G cX8_wantBehind RX8 (some .int) 4 1 20) {σ : XS} {x0 : Int32} {x1 : Int32} {t0 : Int32} {x : Int32} (hf : f_X8_wantBehind_j10 x0 x1 t0 = some x) (hk : XEnd G (some (.int x)) σ) : WW G 10 [(0, .int x0), (1, .int x1)] [.int t0] σ := by
  refine ww_istore_n (pc := 10) (lv' := [(2, .int t0), (0, .int x0), (1, .int x1)]) C dX8_wantBehind_10 (by decide) rfl ?_
  refine ww_iload_n (pc := 11) C 2 dX8_wantBehind_11 rfl ?_
  refine ww_bipush (pc := 12) (v := (6 : Int32)) C dX8_wantBehind_12 (by decide) ?_
  refine ww_icmp_eq (pc := 14) (tgt := 23) C dX8_wantBehind_14 (by decide) (fun q => ?_) (fun q => ?_)
  · have hf := xip q hf
    refine ww_iconst (pc := 23) (v := (1 : Int32)) C dX8_wantBehind_23 (by decide) ?_
    refine ww_goto (pc := 24) (tgt := 28) C dX8_wantBehind_24 (by decide) ?_
    refine ww_sub [1, 2, 0] rfl ?_
    exact s_X8_wantBehind_j28 C hf hk
  · have hf := xin q hf
    refine ww_iload_n (pc := 17) C 2 dX8_wantBehind_17 rfl ?_
    refine ww_bipush (pc := 18) (v := (7 : Int32)) C dX8_wantBehind_18 (by decide) ?_
    refine ww_icmp_ne (pc := 20) (tgt := 27) C dX8_wantBehind_20 (by decide) (fun q => ?_) (fun q => ?_)
    · have hf := xin q hf
      refine ww_iconst (pc := 27) (v := (0 : Int32)) C dX8_wantBehind_27 (by decide) ?_
      refine ww_sub [1, 2, 0] rfl ?_
      exact s_X8_wantBehind_j28 C hf hk
    · have hf := xip q hf
      refine ww_iconst (pc := 23) (v := (1 : Int32)) C dX8_wantBehind_23 (by decide) ?_
      refine ww_goto (pc := 24) (tgt := 28) C dX8_wantBehind_24 (by decide) ?_
      refine ww_sub [1, 2, 0] rfl ?_
      exact s_X8_wantBehind_j28 C hf hk
theorem s_X8_wantBehind_e {G : XG} (C : XC G cX8_wantBehind RX8 (some .int) 4 1 20) {σ : XS} {x0 : Int32} {x1 : Int32} {x : Int32} (hf : f_X8_wantBehind x0 x1 = some x) (hk : XEnd G (some (.int x)) σ) : WW G 0 [(0, .int x0), (1, .int x1)] [] σ := by
  refine ww_iload_n (pc := 0) C 1 dX8_wantBehind_0 rfl ?_
  refine ww_iconst (pc := 1) (v := (2 : Int32)) C dX8_wantBehind_1 (by decide) ?_
  refine ww_icmp_ne (pc := 2) (tgt := 9) C dX8_wantBehind_2 (by decide) (fun q => ?_) (fun q => ?_)
  · have hf := xin q hf
    refine ww_iconst (pc := 9) (v := (0 : Int32)) C dX8_wantBehind_9 (by decide) ?_
    refine ww_sub [0, 1] rfl ?_
    exact s_X8_wantBehind_j10 C hf hk
  · have hf := xip q hf
    refine ww_iconst (pc := 5) (v := (1 : Int32)) C dX8_wantBehind_5 (by decide) ?_
    refine ww_goto (pc := 6) (tgt := 10) C dX8_wantBehind_6 (by decide) ?_
    refine ww_sub [0, 1] rfl ?_
    exact s_X8_wantBehind_j10 C hf hk
theorem k_X8_wantBehind {l : Launch} {E : XD} {hb : Nat} {σ : XS} {x0 : Int32} {x1 : Int32} {x : Int32} (h : f_X8_wantBehind x0 x1 = some x) : XM l yX8_wantBehind cX8_wantBehind 4 (some .int) 1 20 E hb [.int x0, .int x1] σ (some (.int x)) σ := by
  refine xm_of (by decide) (Nat.le_of_ble_eq_true rfl) ⟨Nat.le_refl _, Nat.le_refl _⟩ (fun G hG C hl hQ => ?_)
  obtain ⟨rfl, rfl, rfl, hN⟩ := hG
  exact s_X8_wantBehind_e C h hQ
noncomputable def f_X8_keepToken (σ : XS) (r0 : Nat) : Option XS := (xgI σ r0 8 5).bind fun v2 => if v2 < 0 then (some σ) else (xgI σ r0 8 5).bind fun v4 => if (400 : Int32) ≤ v4 then (some σ) else (xgR σ r0 8 1).bind fun z6 => (xgI σ r0 8 5).bind fun v8 => (xgI σ r0 8 6).bind fun v10 => (xsI σ 20 z6 v8 v10).bind fun σ12 => (xgR σ12 r0 8 2).bind fun z14 => (xgI σ12 r0 8 5).bind fun v16 => (xgI σ12 r0 8 7).bind fun v18 => (xsI σ12 20 z14 v16 v18).bind fun σ20 => (xgR σ20 r0 8 3).bind fun z22 => (xgI σ20 r0 8 5).bind fun v24 => (xgI σ20 r0 8 8).bind fun v26 => (xsI σ20 20 z22 v24 v26).bind fun σ28 => (xgI σ28 r0 8 5).bind fun v30 => (xpI σ28 r0 8 5 (v30 + (1 : Int32))).bind fun σ32 => some σ32
theorem s_X8_keepToken_e {G : XG} (C : XC G cX8_keepToken RX8 none 1 0 0) {σ : XS} {r0 : Nat} {x : XS} (hf : f_X8_keepToken σ r0 = some x) (hk : XEnd G none x) : WW G 0 [(0, .ref (gB G + r0))] [] σ := by
  refine ww_aload_n (pc := 0) C 0 dX8_keepToken_0 rfl ?_
  obtain ⟨v2, e1, hf⟩ := xbd hf
  refine gf_X8_29 (pc := 1) C e1 dX8_keepToken_1 ?_
  refine ww_if_lt (pc := 4) (tgt := 66) C dX8_keepToken_4 (by decide) (fun q => ?_) (fun q => ?_)
  · have hf := xip q hf
    have hf := xsj hf
    subst hf
    exact ww_vret (pc := 66) C hk dX8_keepToken_66
  · have hf := xin q hf
    refine ww_aload_n (pc := 7) C 0 dX8_keepToken_7 rfl ?_
    obtain ⟨v4, e3, hf⟩ := xbd hf
    refine gf_X8_29 (pc := 8) C e3 dX8_keepToken_8 ?_
    refine ww_sipush (pc := 11) (v := (400 : Int32)) C dX8_keepToken_11 (by decide) ?_
    refine ww_icmp_ge (pc := 14) (tgt := 66) C dX8_keepToken_14 (by decide) (fun q => ?_) (fun q => ?_)
    · have hf := xip q hf
      have hf := xsj hf
      subst hf
      exact ww_vret (pc := 66) C hk dX8_keepToken_66
    · have hf := xin q hf
      refine ww_aload_n (pc := 17) C 0 dX8_keepToken_17 rfl ?_
      obtain ⟨z6, e5, hf⟩ := xbd hf
      refine gf_X8_15 (pc := 18) C e5 dX8_keepToken_18 ?_
      refine ww_aload_n (pc := 21) C 0 dX8_keepToken_21 rfl ?_
      obtain ⟨v8, e7, hf⟩ := xbd hf
      refine gf_X8_29 (pc := 22) C e7 dX8_keepToken_22 ?_
      refine ww_aload_n (pc := 25) C 0 dX8_keepToken_25 rfl ?_
      obtain ⟨v10, e9, hf⟩ := xbd hf
      refine gf_X8_39 (pc := 26) C e9 dX8_keepToken_26 ?_
      obtain ⟨σ12, e11, hf⟩ := xbd hf
      refine ww_iast (pc := 29) C e11 dX8_keepToken_29 ?_
      refine ww_aload_n (pc := 30) C 0 dX8_keepToken_30 rfl ?_
      obtain ⟨z14, e13, hf⟩ := xbd hf
      refine gf_X8_19 (pc := 31) C e13 dX8_keepToken_31 ?_
      refine ww_aload_n (pc := 34) C 0 dX8_keepToken_34 rfl ?_
      obtain ⟨v16, e15, hf⟩ := xbd hf
      refine gf_X8_29 (pc := 35) C e15 dX8_keepToken_35 ?_
      refine ww_aload_n (pc := 38) C 0 dX8_keepToken_38 rfl ?_
      obtain ⟨v18, e17, hf⟩ := xbd hf
      refine gf_X8_49 (pc := 39) C e17 dX8_keepToken_39 ?_
      obtain ⟨σ20, e19, hf⟩ := xbd hf
      refine ww_iast (pc := 42) C e19 dX8_keepToken_42 ?_
      refine ww_aload_n (pc := 43) C 0 dX8_keepToken_43 rfl ?_
      obtain ⟨z22, e21, hf⟩ := xbd hf
      refine gf_X8_22 (pc := 44) C e21 dX8_keepToken_44 ?_
      refine ww_aload_n (pc := 47) C 0 dX8_keepToken_47 rfl ?_
      obtain ⟨v24, e23, hf⟩ := xbd hf
      refine gf_X8_29 (pc := 48) C e23 dX8_keepToken_48 ?_
      refine ww_aload_n (pc := 51) C 0 dX8_keepToken_51 rfl ?_
      obtain ⟨v26, e25, hf⟩ := xbd hf
      refine gf_X8_52 (pc := 52) C e25 dX8_keepToken_52 ?_
      obtain ⟨σ28, e27, hf⟩ := xbd hf
      refine ww_iast (pc := 55) C e27 dX8_keepToken_55 ?_
      refine ww_aload_n (pc := 56) C 0 dX8_keepToken_56 rfl ?_
      refine ww_dup (pc := 57) C dX8_keepToken_57 rfl ?_
      obtain ⟨v30, e29, hf⟩ := xbd hf
      refine gf_X8_29 (pc := 58) C e29 dX8_keepToken_58 ?_
      refine ww_iconst (pc := 61) (v := (1 : Int32)) C dX8_keepToken_61 (by decide) ?_
      refine ww_iadd (pc := 62) C dX8_keepToken_62 ?_
      obtain ⟨σ32, e31, hf⟩ := xbd hf
      refine pf_X8_29 (pc := 63) C e31 dX8_keepToken_63 ?_
      have hf := xsj hf
      subst hf
      exact ww_vret (pc := 66) C hk dX8_keepToken_66
theorem m_X8_keepToken {σ : XS} {r0 : Nat} {x : XS} (hf : f_X8_keepToken σ r0 = some x) : xsame σ x := by
  have hm := xsame.rf (σ := σ)
  obtain ⟨v2, e1, hf⟩ := xbd hf
  by_cases q : v2 < 0
  · have hf := xip q hf
    have hf := xsj hf
    subst hf
    exact hm
  · have hf := xin q hf
    obtain ⟨v4, e3, hf⟩ := xbd hf
    by_cases q : (400 : Int32) ≤ v4
    · have hf := xip q hf
      have hf := xsj hf
      subst hf
      exact hm
    · have hf := xin q hf
      obtain ⟨z6, e5, hf⟩ := xbd hf
      obtain ⟨v8, e7, hf⟩ := xbd hf
      obtain ⟨v10, e9, hf⟩ := xbd hf
      obtain ⟨σ12, e11, hf⟩ := xbd hf
      have hm := hm.tr (xsI_same e11)
      obtain ⟨z14, e13, hf⟩ := xbd hf
      obtain ⟨v16, e15, hf⟩ := xbd hf
      obtain ⟨v18, e17, hf⟩ := xbd hf
      obtain ⟨σ20, e19, hf⟩ := xbd hf
      have hm := hm.tr (xsI_same e19)
      obtain ⟨z22, e21, hf⟩ := xbd hf
      obtain ⟨v24, e23, hf⟩ := xbd hf
      obtain ⟨v26, e25, hf⟩ := xbd hf
      obtain ⟨σ28, e27, hf⟩ := xbd hf
      have hm := hm.tr (xsI_same e27)
      obtain ⟨v30, e29, hf⟩ := xbd hf
      obtain ⟨σ32, e31, hf⟩ := xbd hf
      have hm := hm.tr (xpI_same e31)
      have hf := xsj hf
      subst hf
      exact hm
theorem k_X8_keepToken {l : Launch} {E : XD} {hb : Nat} {σ : XS} {r0 : Nat} {x : XS} (h : f_X8_keepToken σ r0 = some x) : XM l yX8_keepToken cX8_keepToken 1 none 0 0 E hb [.ref (hb + r0)] σ none x := by
  refine xm_of (by decide) (Nat.le_of_ble_eq_true rfl) (m_X8_keepToken h).le (fun G hG C hl hQ => ?_)
  obtain ⟨rfl, rfl, rfl, hN⟩ := hG
  exact s_X8_keepToken_e C h hQ
noncomputable def f_X8_cut_b14 (r0 : Nat) : Int32 × Int32 × XS → Option ((Int32 × Int32 × XS) ⊕ (Int32 × XS)) := fun a => match a with
  | (x1, x2, σ) => if (400 : Int32) < x2 then ((some ((2 : Int32), σ)).map .inr) else (xgI σ r0 8 9).bind fun v2 => (xck σ r0 8).bind fun _ => (f_X8_findToken σ r0 v2).bind fun σ5 => (xgI σ5 r0 8 6).bind fun v7 => if v7 = 0 then ((if x1 = (4 : Int32) then (some ((0 : Int32), σ5)) else some ((1 : Int32), σ5)).map .inr) else (xgI σ5 r0 8 6).bind fun v9 => (f_X8_wantBehind x1 v9).bind fun v11 => if v11 = (-1 : Int32) then ((some ((1 : Int32), σ5)).map .inr) else (xck σ5 r0 8).bind fun _ => (f_X8_keepToken σ5 r0).bind fun σ14 => some (.inl (v11, x2 + (1 : Int32), σ14))
noncomputable def f_X8_cut (σ : XS) (r0 : Nat) : Option (Int32 × XS) := (xpI σ r0 8 5 (0 : Int32)).bind fun σ2 => (xpI σ2 r0 8 9 (0 : Int32)).bind fun σ4 => xloop (f_X8_cut_b14 r0) ((0 : Int32), (0 : Int32), σ4)
theorem m_X8_cut_l14 {r0 : Nat} {a : Int32 × Int32 × XS} {x : Int32 × XS} (hf : xloop (f_X8_cut_b14 r0) a = some x) : xsame a.2.2 x.2 := by
  refine xloop_ind (P := fun a => xsame a.2.2 x.2) (fun a y hf hc he => ?_) hf
  obtain ⟨x1, x2, σ⟩ := a
  have hy : (∀ a' : Int32 × Int32 × XS, y = .inl a' → xsame σ a'.2.2) ∧ (∀ b1 : Int32 × XS, y = .inr b1 → xsame σ b1.2) := by
    have hm := xsame.rf (σ := σ)
    by_cases q : (400 : Int32) < x2
    · have hf := xip q hf
      obtain ⟨b0, hg, e9⟩ := xmj hf
      subst e9
      have hf := hg
      refine ⟨fun a' e => xnc2 e, fun b e => ?_⟩
      have h9 := Sum.inr.inj e
      subst h9
      have hf := xsj hf
      subst hf
      exact hm
    · have hf := xin q hf
      obtain ⟨v2, e1, hf⟩ := xbd hf
      obtain ⟨_, e3, hf⟩ := xbd hf
      obtain ⟨σ5, e4, hf⟩ := xbd hf
      have hm := hm.tr (m_X8_findToken e4)
      obtain ⟨v7, e6, hf⟩ := xbd hf
      by_cases q : v7 = 0
      · have hf := xip q hf
        obtain ⟨b0, hg, e9⟩ := xmj hf
        subst e9
        have hf := hg
        refine ⟨fun a' e => xnc2 e, fun b e => ?_⟩
        have h9 := Sum.inr.inj e
        subst h9
        by_cases q : x1 = (4 : Int32)
        · have hf := xip q hf
          have hf := xsj hf
          subst hf
          exact hm
        · have hf := xin q hf
          have hf := xsj hf
          subst hf
          exact hm
      · have hf := xin q hf
        obtain ⟨v9, e8, hf⟩ := xbd hf
        obtain ⟨v11, e10, hf⟩ := xbd hf
        by_cases q : v11 = (-1 : Int32)
        · have hf := xip q hf
          obtain ⟨b0, hg, e9⟩ := xmj hf
          subst e9
          have hf := hg
          refine ⟨fun a' e => xnc2 e, fun b e => ?_⟩
          have h9 := Sum.inr.inj e
          subst h9
          have hf := xsj hf
          subst hf
          exact hm
        · have hf := xin q hf
          obtain ⟨_, e12, hf⟩ := xbd hf
          obtain ⟨σ14, e13, hf⟩ := xbd hf
          have hm := hm.tr (m_X8_keepToken e13)
          have hf := xsj hf
          subst hf
          exact ⟨fun a' e => (by have h9 := Sum.inl.inj e; subst h9; exact hm), fun b e => xnc1 e⟩
  cases y with
  | inl a' =>
    have h1 := hc a' rfl
    have hm := hy.1 a' rfl
    exact hm.tr (h1)
  | inr b =>
    have h1 := he b rfl
    subst h1
    exact hy.2 _ rfl
theorem s_X8_cut_l14 {G : XG} (C : XC G cX8_cut RX8 (some .int) 3 7 149) {r0 : Nat} {a : Int32 × Int32 × XS} {x : Int32 × XS} (hf : xloop (f_X8_cut_b14 r0) a = some x) (hk : XEnd G (some (.int x.1)) x.2) : WW G 14 [(0, .ref (gB G + r0)), (1, .int a.1), (2, .int a.2.1)] [] a.2.2 := by
  refine xloop_ind (P := fun a => WW G 14 [(0, .ref (gB G + r0)), (1, .int a.1), (2, .int a.2.1)] [] a.2.2) (fun a y hf hc he => ?_) hf
  obtain ⟨x1, x2, σ⟩ := a
  have hk : (∀ a' : Int32 × Int32 × XS, y = .inl a' → WW G 14 [(0, .ref (gB G + r0)), (1, .int a'.1), (2, .int a'.2.1)] [] a'.2.2) ∧ (∀ b1 : Int32 × XS, y = .inr b1 → XEnd G (some (.int b1.1)) b1.2) := ⟨hc, fun b e => by have h9 := he b e; subst h9; exact hk⟩
  refine ww_iload_n (pc := 14) C 2 dX8_cut_14 rfl ?_
  refine ww_sipush (pc := 15) (v := (400 : Int32)) C dX8_cut_15 (by decide) ?_
  refine ww_icmp_gt (pc := 18) (tgt := 73) C dX8_cut_18 (by decide) (fun q => ?_) (fun q => ?_)
  · have hf := xip q hf
    obtain ⟨b0, hg, e9⟩ := xmj hf
    subst e9
    have hf := hg
    have hk := hk.2 _ rfl
    refine ww_iconst (pc := 73) (v := (2 : Int32)) C dX8_cut_73 (by decide) ?_
    have hf := xsj hf
    subst hf
    exact ww_iret (pc := 74) C hk dX8_cut_74
  · have hf := xin q hf
    refine ww_aload_n (pc := 21) C 0 dX8_cut_21 rfl ?_
    refine ww_aload_n (pc := 22) C 0 dX8_cut_22 rfl ?_
    obtain ⟨v2, e1, hf⟩ := xbd hf
    refine gf_X8_32 (pc := 23) C e1 dX8_cut_23 ?_
    obtain ⟨_, e3, hf⟩ := xbd hf
    obtain ⟨σ5, e4, hf⟩ := xbd hf
    refine ww_callVv (pc := 26) (as := [.int v2]) (st := []) C (k_X8_findToken (l := gl G) (E := gE G) (hb := gB G) (σ := σ) e4) rfl (by decide) xc_X8_35 q476 qp5 (xck_spec e3) rfl (by decide) (xst4 (Nat.le_of_ble_eq_true rfl)) (m_X8_findToken e4).le (m_X8_findToken e4).lim dX8_cut_26 ?_
    refine ww_aload_n (pc := 29) C 0 dX8_cut_29 rfl ?_
    obtain ⟨v7, e6, hf⟩ := xbd hf
    refine gf_X8_39 (pc := 30) C e6 dX8_cut_30 ?_
    refine ww_if_ne (pc := 33) (tgt := 47) C dX8_cut_33 (by decide) (fun q => ?_) (fun q => ?_)
    · have hf := xin q hf
      refine ww_iload_n (pc := 47) C 1 dX8_cut_47 rfl ?_
      refine ww_aload_n (pc := 48) C 0 dX8_cut_48 rfl ?_
      obtain ⟨v9, e8, hf⟩ := xbd hf
      refine gf_X8_39 (pc := 49) C e8 dX8_cut_49 ?_
      obtain ⟨v11, e10, hf⟩ := xbd hf
      refine ww_callSi (pc := 52) (as := [.int x1, .int v9]) (st := []) C (k_X8_wantBehind (l := gl G) (E := gE G) (hb := gB G) (σ := σ5) e10) xc_X8_42 q567 rfl (by decide) (xst4 (Nat.le_of_ble_eq_true rfl)) xsame.rf.le xsame.rf.lim dX8_cut_52 ?_
      refine ww_istore_n (pc := 55) (lv' := [(1, .int v11), (0, .ref (gB G + r0)), (2, .int x2)]) C dX8_cut_55 (by decide) rfl ?_
      refine ww_iload_n (pc := 56) C 0 dX8_cut_56 rfl ?_
      refine ww_iconst (pc := 57) (v := (-1 : Int32)) C dX8_cut_57 (by decide) ?_
      refine ww_icmp_ne (pc := 58) (tgt := 63) C dX8_cut_58 (by decide) (fun q => ?_) (fun q => ?_)
      · have hf := xin q hf
        refine ww_aload_n (pc := 63) C 1 dX8_cut_63 rfl ?_
        obtain ⟨_, e12, hf⟩ := xbd hf
        obtain ⟨σ14, e13, hf⟩ := xbd hf
        refine ww_callVv (pc := 64) (as := []) (st := []) C (k_X8_keepToken (l := gl G) (E := gE G) (hb := gB G) (σ := σ5) e13) rfl (by decide) xc_X8_46 q574 qp11 (xck_spec e12) rfl (by decide) (xst4 (Nat.le_of_ble_eq_true rfl)) (m_X8_keepToken e13).le (m_X8_keepToken e13).lim dX8_cut_64 ?_
        refine ww_iinc (pc := 67) (v := x2 + (1 : Int32)) (lv' := [(2, .int (x2 + (1 : Int32))), (1, .int v11), (0, .ref (gB G + r0))]) C 2 dX8_cut_67 rfl (congrArg (fun z => x2 + z) (show Int32.ofInt (1) = (1 : Int32) by decide)) (by decide) rfl ?_
        refine ww_goto (pc := 70) (tgt := 14) C dX8_cut_70 (by decide) ?_
        have hf := xsj hf
        subst hf
        refine ww_sub [2, 1, 0] rfl ?_
        exact hk.1 (v11, x2 + (1 : Int32), σ14) rfl
      · have hf := xip q hf
        obtain ⟨b0, hg, e9⟩ := xmj hf
        subst e9
        have hf := hg
        have hk := hk.2 _ rfl
        refine ww_iconst (pc := 61) (v := (1 : Int32)) C dX8_cut_61 (by decide) ?_
        have hf := xsj hf
        subst hf
        exact ww_iret (pc := 62) C hk dX8_cut_62
    · have hf := xip q hf
      obtain ⟨b0, hg, e9⟩ := xmj hf
      subst e9
      have hf := hg
      have hk := hk.2 _ rfl
      refine ww_iload_n (pc := 36) C 1 dX8_cut_36 rfl ?_
      refine ww_iconst (pc := 37) (v := (4 : Int32)) C dX8_cut_37 (by decide) ?_
      refine ww_icmp_ne (pc := 38) (tgt := 45) C dX8_cut_38 (by decide) (fun q => ?_) (fun q => ?_)
      · have hf := xin q hf
        refine ww_iconst (pc := 45) (v := (1 : Int32)) C dX8_cut_45 (by decide) ?_
        have hf := xsj hf
        subst hf
        exact ww_iret (pc := 46) C hk dX8_cut_46
      · have hf := xip q hf
        refine ww_iconst (pc := 41) (v := (0 : Int32)) C dX8_cut_41 (by decide) ?_
        refine ww_goto (pc := 42) (tgt := 46) C dX8_cut_42 (by decide) ?_
        have hf := xsj hf
        subst hf
        exact ww_iret (pc := 46) C hk dX8_cut_46
theorem s_X8_cut_e {G : XG} (C : XC G cX8_cut RX8 (some .int) 3 7 149) {σ : XS} {r0 : Nat} {x : Int32 × XS} (hf : f_X8_cut σ r0 = some x) (hk : XEnd G (some (.int x.1)) x.2) : WW G 0 [(0, .ref (gB G + r0))] [] σ := by
  refine ww_iconst (pc := 0) (v := (0 : Int32)) C dX8_cut_0 (by decide) ?_
  refine ww_istore_n (pc := 1) (lv' := [(1, .int (0 : Int32)), (0, .ref (gB G + r0))]) C dX8_cut_1 (by decide) rfl ?_
  refine ww_aload_n (pc := 2) C 1 dX8_cut_2 rfl ?_
  refine ww_iconst (pc := 3) (v := (0 : Int32)) C dX8_cut_3 (by decide) ?_
  obtain ⟨σ2, e1, hf⟩ := xbd hf
  refine pf_X8_29 (pc := 4) C e1 dX8_cut_4 ?_
  refine ww_aload_n (pc := 7) C 1 dX8_cut_7 rfl ?_
  refine ww_iconst (pc := 8) (v := (0 : Int32)) C dX8_cut_8 (by decide) ?_
  obtain ⟨σ4, e3, hf⟩ := xbd hf
  refine pf_X8_32 (pc := 9) C e3 dX8_cut_9 ?_
  refine ww_iconst (pc := 12) (v := (0 : Int32)) C dX8_cut_12 (by decide) ?_
  refine ww_istore_n (pc := 13) (lv' := [(2, .int (0 : Int32)), (1, .int (0 : Int32)), (0, .ref (gB G + r0))]) C dX8_cut_13 (by decide) rfl ?_
  refine ww_sub [2, 1, 0] rfl ?_
  exact s_X8_cut_l14 C (a := ((0 : Int32), (0 : Int32), σ4)) hf hk
theorem m_X8_cut {σ : XS} {r0 : Nat} {x : Int32 × XS} (hf : f_X8_cut σ r0 = some x) : xsame σ x.2 := by
  have hm := xsame.rf (σ := σ)
  obtain ⟨σ2, e1, hf⟩ := xbd hf
  have hm := hm.tr (xpI_same e1)
  obtain ⟨σ4, e3, hf⟩ := xbd hf
  have hm := hm.tr (xpI_same e3)
  exact hm.tr (m_X8_cut_l14 (a := ((0 : Int32), (0 : Int32), σ4)) hf)
theorem k_X8_cut {l : Launch} {E : XD} {hb : Nat} {σ : XS} {r0 : Nat} {x : Int32 × XS} (h : f_X8_cut σ r0 = some x) : XM l yX8_cut cX8_cut 3 (some .int) 7 149 E hb [.ref (hb + r0)] σ (some (.int x.1)) x.2 := by
  refine xm_of (by decide) (Nat.le_of_ble_eq_true rfl) (m_X8_cut h).le (fun G hG C hl hQ => ?_)
  obtain ⟨rfl, rfl, rfl, hN⟩ := hG
  exact s_X8_cut_e C h hQ
noncomputable def f_X1_blame (σ : XS) (r0 : Nat) (x1 : Int32) (x2 : Int32) : Option XS := (xgI σ r0 1 2).bind fun v2 => if v2 = 0 then ((xpI σ r0 1 2 x1).bind fun σ4 => (xpI σ4 r0 1 3 x2).bind fun σ6 => some σ6) else some σ
theorem s_X1_blame_e {G : XG} (C : XC G cX1_blame RX1 none 3 0 0) {σ : XS} {r0 : Nat} {x1 : Int32} {x2 : Int32} {x : XS} (hf : f_X1_blame σ r0 x1 x2 = some x) (hk : XEnd G none x) : WW G 0 [(0, .ref (gB G + r0)), (1, .int x1), (2, .int x2)] [] σ := by
  refine ww_aload_n (pc := 0) C 0 dX1_blame_0 rfl ?_
  obtain ⟨v2, e1, hf⟩ := xbd hf
  refine gf_X1_46 (pc := 1) C e1 dX1_blame_1 ?_
  refine ww_if_ne (pc := 4) (tgt := 17) C dX1_blame_4 (by decide) (fun q => ?_) (fun q => ?_)
  · have hf := xin q hf
    have hf := xsj hf
    subst hf
    exact ww_vret (pc := 17) C hk dX1_blame_17
  · have hf := xip q hf
    refine ww_aload_n (pc := 7) C 0 dX1_blame_7 rfl ?_
    refine ww_iload_n (pc := 8) C 1 dX1_blame_8 rfl ?_
    obtain ⟨σ4, e3, hf⟩ := xbd hf
    refine pf_X1_46 (pc := 9) C e3 dX1_blame_9 ?_
    refine ww_aload_n (pc := 12) C 0 dX1_blame_12 rfl ?_
    refine ww_iload_n (pc := 13) C 2 dX1_blame_13 rfl ?_
    obtain ⟨σ6, e5, hf⟩ := xbd hf
    refine pf_X1_64 (pc := 14) C e5 dX1_blame_14 ?_
    have hf := xsj hf
    subst hf
    exact ww_vret (pc := 17) C hk dX1_blame_17
theorem m_X1_blame {σ : XS} {r0 : Nat} {x1 : Int32} {x2 : Int32} {x : XS} (hf : f_X1_blame σ r0 x1 x2 = some x) : xsame σ x := by
  have hm := xsame.rf (σ := σ)
  obtain ⟨v2, e1, hf⟩ := xbd hf
  by_cases q : v2 = 0
  · have hf := xip q hf
    obtain ⟨σ4, e3, hf⟩ := xbd hf
    have hm := hm.tr (xpI_same e3)
    obtain ⟨σ6, e5, hf⟩ := xbd hf
    have hm := hm.tr (xpI_same e5)
    have hf := xsj hf
    subst hf
    exact hm
  · have hf := xin q hf
    have hf := xsj hf
    subst hf
    exact hm
theorem k_X1_blame {l : Launch} {E : XD} {hb : Nat} {σ : XS} {r0 : Nat} {x1 : Int32} {x2 : Int32} {x : XS} (h : f_X1_blame σ r0 x1 x2 = some x) : XM l yX1_blame cX1_blame 3 none 0 0 E hb [.ref (hb + r0), .int x1, .int x2] σ none x := by
  refine xm_of (by decide) (Nat.le_of_ble_eq_true rfl) (m_X1_blame h).le (fun G hG C hl hQ => ?_)
  obtain ⟨rfl, rfl, rfl, hN⟩ := hG
  exact s_X1_blame_e C h hQ
noncomputable def f_X8_kindAt (σ : XS) (r0 : Nat) (x1 : Int32) : Option Int32 := if x1 < 0 then (some (0 : Int32)) else (xgI σ r0 8 5).bind fun v2 => if v2 ≤ x1 then (some (0 : Int32)) else (xgR σ r0 8 1).bind fun z4 => (xal σ z4).bind fun v6 => if v6 ≤ x1 then (some (0 : Int32)) else (xgR σ r0 8 1).bind fun z8 => (xaI σ 20 z8 x1).bind fun v10 => some v10
theorem s_X8_kindAt_e {G : XG} (C : XC G cX8_kindAt RX8 (some .int) 2 0 0) {σ : XS} {r0 : Nat} {x1 : Int32} {x : Int32} (hf : f_X8_kindAt σ r0 x1 = some x) (hk : XEnd G (some (.int x)) σ) : WW G 0 [(0, .ref (gB G + r0)), (1, .int x1)] [] σ := by
  refine ww_iload_n (pc := 0) C 1 dX8_kindAt_0 rfl ?_
  refine ww_if_lt (pc := 1) (tgt := 30) C dX8_kindAt_1 (by decide) (fun q => ?_) (fun q => ?_)
  · have hf := xip q hf
    refine ww_iconst (pc := 30) (v := (0 : Int32)) C dX8_kindAt_30 (by decide) ?_
    have hf := xsj hf
    subst hf
    exact ww_iret (pc := 31) C hk dX8_kindAt_31
  · have hf := xin q hf
    refine ww_iload_n (pc := 4) C 1 dX8_kindAt_4 rfl ?_
    refine ww_aload_n (pc := 5) C 0 dX8_kindAt_5 rfl ?_
    obtain ⟨v2, e1, hf⟩ := xbd hf
    refine gf_X8_29 (pc := 6) C e1 dX8_kindAt_6 ?_
    refine ww_icmp_ge (pc := 9) (tgt := 30) C dX8_kindAt_9 (by decide) (fun q => ?_) (fun q => ?_)
    · have hf := xip q hf
      refine ww_iconst (pc := 30) (v := (0 : Int32)) C dX8_kindAt_30 (by decide) ?_
      have hf := xsj hf
      subst hf
      exact ww_iret (pc := 31) C hk dX8_kindAt_31
    · have hf := xin q hf
      refine ww_iload_n (pc := 12) C 1 dX8_kindAt_12 rfl ?_
      refine ww_aload_n (pc := 13) C 0 dX8_kindAt_13 rfl ?_
      obtain ⟨z4, e3, hf⟩ := xbd hf
      refine gf_X8_15 (pc := 14) C e3 dX8_kindAt_14 ?_
      obtain ⟨v6, e5, hf⟩ := xbd hf
      refine ww_alen (pc := 17) C e5 dX8_kindAt_17 ?_
      refine ww_icmp_ge (pc := 18) (tgt := 30) C dX8_kindAt_18 (by decide) (fun q => ?_) (fun q => ?_)
      · have hf := xip q hf
        refine ww_iconst (pc := 30) (v := (0 : Int32)) C dX8_kindAt_30 (by decide) ?_
        have hf := xsj hf
        subst hf
        exact ww_iret (pc := 31) C hk dX8_kindAt_31
      · have hf := xin q hf
        refine ww_aload_n (pc := 21) C 0 dX8_kindAt_21 rfl ?_
        obtain ⟨z8, e7, hf⟩ := xbd hf
        refine gf_X8_15 (pc := 22) C e7 dX8_kindAt_22 ?_
        refine ww_iload_n (pc := 25) C 1 dX8_kindAt_25 rfl ?_
        obtain ⟨v10, e9, hf⟩ := xbd hf
        refine ww_iald (pc := 26) C e9 dX8_kindAt_26 ?_
        refine ww_goto (pc := 27) (tgt := 31) C dX8_kindAt_27 (by decide) ?_
        have hf := xsj hf
        subst hf
        exact ww_iret (pc := 31) C hk dX8_kindAt_31
theorem k_X8_kindAt {l : Launch} {E : XD} {hb : Nat} {σ : XS} {r0 : Nat} {x1 : Int32} {x : Int32} (h : f_X8_kindAt σ r0 x1 = some x) : XM l yX8_kindAt cX8_kindAt 2 (some .int) 0 0 E hb [.ref (hb + r0), .int x1] σ (some (.int x)) σ := by
  refine xm_of (by decide) (Nat.le_of_ble_eq_true rfl) ⟨Nat.le_refl _, Nat.le_refl _⟩ (fun G hG C hl hQ => ?_)
  obtain ⟨rfl, rfl, rfl, hN⟩ := hG
  exact s_X8_kindAt_e C h hQ
noncomputable def f_X1_takeKind (σ : XS) (r0 : Nat) : Option (Int32 × XS) := (xgR σ r0 1 0).bind fun z2 => (xgI σ r0 1 4).bind fun v4 => (xck σ z2 8).bind fun _ => (f_X8_kindAt σ z2 v4).bind fun v7 => (xgI σ r0 1 4).bind fun v9 => (xpI σ r0 1 4 (v9 + (1 : Int32))).bind fun σ11 => some (v7, σ11)
theorem s_X1_takeKind_e {G : XG} (C : XC G cX1_takeKind RX1 (some .int) 2 1 21) {σ : XS} {r0 : Nat} {x : Int32 × XS} (hf : f_X1_takeKind σ r0 = some x) (hk : XEnd G (some (.int x.1)) x.2) : WW G 0 [(0, .ref (gB G + r0))] [] σ := by
  refine ww_aload_n (pc := 0) C 0 dX1_takeKind_0 rfl ?_
  obtain ⟨z2, e1, hf⟩ := xbd hf
  refine gf_X1_12 (pc := 1) C e1 dX1_takeKind_1 ?_
  refine ww_aload_n (pc := 4) C 0 dX1_takeKind_4 rfl ?_
  obtain ⟨v4, e3, hf⟩ := xbd hf
  refine gf_X1_49 (pc := 5) C e3 dX1_takeKind_5 ?_
  obtain ⟨_, e5, hf⟩ := xbd hf
  obtain ⟨v7, e6, hf⟩ := xbd hf
  refine ww_callVi (pc := 8) (as := [.int v4]) (st := []) C (k_X8_kindAt (l := gl G) (E := gE G) (hb := gB G) (σ := σ) e6) rfl (by decide) xc_X1_85 q590 qp15 (xck_spec e5) rfl (by decide) (xst4 (Nat.le_of_ble_eq_true rfl)) xsame.rf.le xsame.rf.lim dX1_takeKind_8 ?_
  refine ww_istore_n (pc := 11) (lv' := [(1, .int v7), (0, .ref (gB G + r0))]) C dX1_takeKind_11 (by decide) rfl ?_
  refine ww_aload_n (pc := 12) C 1 dX1_takeKind_12 rfl ?_
  refine ww_dup (pc := 13) C dX1_takeKind_13 rfl ?_
  obtain ⟨v9, e8, hf⟩ := xbd hf
  refine gf_X1_49 (pc := 14) C e8 dX1_takeKind_14 ?_
  refine ww_iconst (pc := 17) (v := (1 : Int32)) C dX1_takeKind_17 (by decide) ?_
  refine ww_iadd (pc := 18) C dX1_takeKind_18 ?_
  obtain ⟨σ11, e10, hf⟩ := xbd hf
  refine pf_X1_49 (pc := 19) C e10 dX1_takeKind_19 ?_
  refine ww_iload_n (pc := 22) C 0 dX1_takeKind_22 rfl ?_
  have hf := xsj hf
  subst hf
  exact ww_iret (pc := 23) C hk dX1_takeKind_23
theorem m_X1_takeKind {σ : XS} {r0 : Nat} {x : Int32 × XS} (hf : f_X1_takeKind σ r0 = some x) : xsame σ x.2 := by
  have hm := xsame.rf (σ := σ)
  obtain ⟨z2, e1, hf⟩ := xbd hf
  obtain ⟨v4, e3, hf⟩ := xbd hf
  obtain ⟨_, e5, hf⟩ := xbd hf
  obtain ⟨v7, e6, hf⟩ := xbd hf
  obtain ⟨v9, e8, hf⟩ := xbd hf
  obtain ⟨σ11, e10, hf⟩ := xbd hf
  have hm := hm.tr (xpI_same e10)
  have hf := xsj hf
  subst hf
  exact hm
theorem k_X1_takeKind {l : Launch} {E : XD} {hb : Nat} {σ : XS} {r0 : Nat} {x : Int32 × XS} (h : f_X1_takeKind σ r0 = some x) : XM l yX1_takeKind cX1_takeKind 2 (some .int) 1 21 E hb [.ref (hb + r0)] σ (some (.int x.1)) x.2 := by
  refine xm_of (by decide) (Nat.le_of_ble_eq_true rfl) (m_X1_takeKind h).le (fun G hG C hl hQ => ?_)
  obtain ⟨rfl, rfl, rfl, hN⟩ := hG
  exact s_X1_takeKind_e C h hQ
noncomputable def f_X8_numberAt (σ : XS) (r0 : Nat) (x1 : Int32) : Option Int32 := if x1 < 0 then (some (0 : Int32)) else (xgI σ r0 8 5).bind fun v2 => if v2 ≤ x1 then (some (0 : Int32)) else (xgR σ r0 8 2).bind fun z4 => (xal σ z4).bind fun v6 => if v6 ≤ x1 then (some (0 : Int32)) else (xgR σ r0 8 2).bind fun z8 => (xaI σ 20 z8 x1).bind fun v10 => some v10
theorem s_X8_numberAt_e {G : XG} (C : XC G cX8_numberAt RX8 (some .int) 2 0 0) {σ : XS} {r0 : Nat} {x1 : Int32} {x : Int32} (hf : f_X8_numberAt σ r0 x1 = some x) (hk : XEnd G (some (.int x)) σ) : WW G 0 [(0, .ref (gB G + r0)), (1, .int x1)] [] σ := by
  refine ww_iload_n (pc := 0) C 1 dX8_numberAt_0 rfl ?_
  refine ww_if_lt (pc := 1) (tgt := 30) C dX8_numberAt_1 (by decide) (fun q => ?_) (fun q => ?_)
  · have hf := xip q hf
    refine ww_iconst (pc := 30) (v := (0 : Int32)) C dX8_numberAt_30 (by decide) ?_
    have hf := xsj hf
    subst hf
    exact ww_iret (pc := 31) C hk dX8_numberAt_31
  · have hf := xin q hf
    refine ww_iload_n (pc := 4) C 1 dX8_numberAt_4 rfl ?_
    refine ww_aload_n (pc := 5) C 0 dX8_numberAt_5 rfl ?_
    obtain ⟨v2, e1, hf⟩ := xbd hf
    refine gf_X8_29 (pc := 6) C e1 dX8_numberAt_6 ?_
    refine ww_icmp_ge (pc := 9) (tgt := 30) C dX8_numberAt_9 (by decide) (fun q => ?_) (fun q => ?_)
    · have hf := xip q hf
      refine ww_iconst (pc := 30) (v := (0 : Int32)) C dX8_numberAt_30 (by decide) ?_
      have hf := xsj hf
      subst hf
      exact ww_iret (pc := 31) C hk dX8_numberAt_31
    · have hf := xin q hf
      refine ww_iload_n (pc := 12) C 1 dX8_numberAt_12 rfl ?_
      refine ww_aload_n (pc := 13) C 0 dX8_numberAt_13 rfl ?_
      obtain ⟨z4, e3, hf⟩ := xbd hf
      refine gf_X8_19 (pc := 14) C e3 dX8_numberAt_14 ?_
      obtain ⟨v6, e5, hf⟩ := xbd hf
      refine ww_alen (pc := 17) C e5 dX8_numberAt_17 ?_
      refine ww_icmp_ge (pc := 18) (tgt := 30) C dX8_numberAt_18 (by decide) (fun q => ?_) (fun q => ?_)
      · have hf := xip q hf
        refine ww_iconst (pc := 30) (v := (0 : Int32)) C dX8_numberAt_30 (by decide) ?_
        have hf := xsj hf
        subst hf
        exact ww_iret (pc := 31) C hk dX8_numberAt_31
      · have hf := xin q hf
        refine ww_aload_n (pc := 21) C 0 dX8_numberAt_21 rfl ?_
        obtain ⟨z8, e7, hf⟩ := xbd hf
        refine gf_X8_19 (pc := 22) C e7 dX8_numberAt_22 ?_
        refine ww_iload_n (pc := 25) C 1 dX8_numberAt_25 rfl ?_
        obtain ⟨v10, e9, hf⟩ := xbd hf
        refine ww_iald (pc := 26) C e9 dX8_numberAt_26 ?_
        refine ww_goto (pc := 27) (tgt := 31) C dX8_numberAt_27 (by decide) ?_
        have hf := xsj hf
        subst hf
        exact ww_iret (pc := 31) C hk dX8_numberAt_31
theorem k_X8_numberAt {l : Launch} {E : XD} {hb : Nat} {σ : XS} {r0 : Nat} {x1 : Int32} {x : Int32} (h : f_X8_numberAt σ r0 x1 = some x) : XM l yX8_numberAt cX8_numberAt 2 (some .int) 0 0 E hb [.ref (hb + r0), .int x1] σ (some (.int x)) σ := by
  refine xm_of (by decide) (Nat.le_of_ble_eq_true rfl) ⟨Nat.le_refl _, Nat.le_refl _⟩ (fun G hG C hl hQ => ?_)
  obtain ⟨rfl, rfl, rfl, hN⟩ := hG
  exact s_X8_numberAt_e C h hQ
noncomputable def f_X1_takeInt (σ : XS) (r0 : Nat) : Option (Int32 × XS) := (xgR σ r0 1 0).bind fun z2 => (xgI σ r0 1 4).bind fun v4 => (xck σ z2 8).bind fun _ => (f_X8_numberAt σ z2 v4).bind fun v7 => (xgI σ r0 1 4).bind fun v9 => (xpI σ r0 1 4 (v9 + (1 : Int32))).bind fun σ11 => some (v7, σ11)
theorem s_X1_takeInt_e {G : XG} (C : XC G cX1_takeInt RX1 (some .int) 2 1 21) {σ : XS} {r0 : Nat} {x : Int32 × XS} (hf : f_X1_takeInt σ r0 = some x) (hk : XEnd G (some (.int x.1)) x.2) : WW G 0 [(0, .ref (gB G + r0))] [] σ := by
  refine ww_aload_n (pc := 0) C 0 dX1_takeInt_0 rfl ?_
  obtain ⟨z2, e1, hf⟩ := xbd hf
  refine gf_X1_12 (pc := 1) C e1 dX1_takeInt_1 ?_
  refine ww_aload_n (pc := 4) C 0 dX1_takeInt_4 rfl ?_
  obtain ⟨v4, e3, hf⟩ := xbd hf
  refine gf_X1_49 (pc := 5) C e3 dX1_takeInt_5 ?_
  obtain ⟨_, e5, hf⟩ := xbd hf
  obtain ⟨v7, e6, hf⟩ := xbd hf
  refine ww_callVi (pc := 8) (as := [.int v4]) (st := []) C (k_X8_numberAt (l := gl G) (E := gE G) (hb := gB G) (σ := σ) e6) rfl (by decide) xc_X1_89 q598 qp17 (xck_spec e5) rfl (by decide) (xst4 (Nat.le_of_ble_eq_true rfl)) xsame.rf.le xsame.rf.lim dX1_takeInt_8 ?_
  refine ww_istore_n (pc := 11) (lv' := [(1, .int v7), (0, .ref (gB G + r0))]) C dX1_takeInt_11 (by decide) rfl ?_
  refine ww_aload_n (pc := 12) C 1 dX1_takeInt_12 rfl ?_
  refine ww_dup (pc := 13) C dX1_takeInt_13 rfl ?_
  obtain ⟨v9, e8, hf⟩ := xbd hf
  refine gf_X1_49 (pc := 14) C e8 dX1_takeInt_14 ?_
  refine ww_iconst (pc := 17) (v := (1 : Int32)) C dX1_takeInt_17 (by decide) ?_
  refine ww_iadd (pc := 18) C dX1_takeInt_18 ?_
  obtain ⟨σ11, e10, hf⟩ := xbd hf
  refine pf_X1_49 (pc := 19) C e10 dX1_takeInt_19 ?_
  refine ww_iload_n (pc := 22) C 0 dX1_takeInt_22 rfl ?_
  have hf := xsj hf
  subst hf
  exact ww_iret (pc := 23) C hk dX1_takeInt_23
theorem m_X1_takeInt {σ : XS} {r0 : Nat} {x : Int32 × XS} (hf : f_X1_takeInt σ r0 = some x) : xsame σ x.2 := by
  have hm := xsame.rf (σ := σ)
  obtain ⟨z2, e1, hf⟩ := xbd hf
  obtain ⟨v4, e3, hf⟩ := xbd hf
  obtain ⟨_, e5, hf⟩ := xbd hf
  obtain ⟨v7, e6, hf⟩ := xbd hf
  obtain ⟨v9, e8, hf⟩ := xbd hf
  obtain ⟨σ11, e10, hf⟩ := xbd hf
  have hm := hm.tr (xpI_same e10)
  have hf := xsj hf
  subst hf
  exact hm
theorem k_X1_takeInt {l : Launch} {E : XD} {hb : Nat} {σ : XS} {r0 : Nat} {x : Int32 × XS} (h : f_X1_takeInt σ r0 = some x) : XM l yX1_takeInt cX1_takeInt 2 (some .int) 1 21 E hb [.ref (hb + r0)] σ (some (.int x.1)) x.2 := by
  refine xm_of (by decide) (Nat.le_of_ble_eq_true rfl) (m_X1_takeInt h).le (fun G hG C hl hQ => ?_)
  obtain ⟨rfl, rfl, rfl, hN⟩ := hG
  exact s_X1_takeInt_e C h hQ
noncomputable def f_X8_placeAt (σ : XS) (r0 : Nat) (x1 : Int32) : Option Int32 := if x1 < 0 then (some (-1 : Int32)) else (xgI σ r0 8 5).bind fun v2 => if v2 ≤ x1 then (some (-1 : Int32)) else (xgR σ r0 8 3).bind fun z4 => (xal σ z4).bind fun v6 => if v6 ≤ x1 then (some (-1 : Int32)) else (xgR σ r0 8 3).bind fun z8 => (xaI σ 20 z8 x1).bind fun v10 => some v10
theorem s_X8_placeAt_e {G : XG} (C : XC G cX8_placeAt RX8 (some .int) 2 0 0) {σ : XS} {r0 : Nat} {x1 : Int32} {x : Int32} (hf : f_X8_placeAt σ r0 x1 = some x) (hk : XEnd G (some (.int x)) σ) : WW G 0 [(0, .ref (gB G + r0)), (1, .int x1)] [] σ := by
  refine ww_iload_n (pc := 0) C 1 dX8_placeAt_0 rfl ?_
  refine ww_if_lt (pc := 1) (tgt := 30) C dX8_placeAt_1 (by decide) (fun q => ?_) (fun q => ?_)
  · have hf := xip q hf
    refine ww_iconst (pc := 30) (v := (-1 : Int32)) C dX8_placeAt_30 (by decide) ?_
    have hf := xsj hf
    subst hf
    exact ww_iret (pc := 31) C hk dX8_placeAt_31
  · have hf := xin q hf
    refine ww_iload_n (pc := 4) C 1 dX8_placeAt_4 rfl ?_
    refine ww_aload_n (pc := 5) C 0 dX8_placeAt_5 rfl ?_
    obtain ⟨v2, e1, hf⟩ := xbd hf
    refine gf_X8_29 (pc := 6) C e1 dX8_placeAt_6 ?_
    refine ww_icmp_ge (pc := 9) (tgt := 30) C dX8_placeAt_9 (by decide) (fun q => ?_) (fun q => ?_)
    · have hf := xip q hf
      refine ww_iconst (pc := 30) (v := (-1 : Int32)) C dX8_placeAt_30 (by decide) ?_
      have hf := xsj hf
      subst hf
      exact ww_iret (pc := 31) C hk dX8_placeAt_31
    · have hf := xin q hf
      refine ww_iload_n (pc := 12) C 1 dX8_placeAt_12 rfl ?_
      refine ww_aload_n (pc := 13) C 0 dX8_placeAt_13 rfl ?_
      obtain ⟨z4, e3, hf⟩ := xbd hf
      refine gf_X8_22 (pc := 14) C e3 dX8_placeAt_14 ?_
      obtain ⟨v6, e5, hf⟩ := xbd hf
      refine ww_alen (pc := 17) C e5 dX8_placeAt_17 ?_
      refine ww_icmp_ge (pc := 18) (tgt := 30) C dX8_placeAt_18 (by decide) (fun q => ?_) (fun q => ?_)
      · have hf := xip q hf
        refine ww_iconst (pc := 30) (v := (-1 : Int32)) C dX8_placeAt_30 (by decide) ?_
        have hf := xsj hf
        subst hf
        exact ww_iret (pc := 31) C hk dX8_placeAt_31
      · have hf := xin q hf
        refine ww_aload_n (pc := 21) C 0 dX8_placeAt_21 rfl ?_
        obtain ⟨z8, e7, hf⟩ := xbd hf
        refine gf_X8_22 (pc := 22) C e7 dX8_placeAt_22 ?_
        refine ww_iload_n (pc := 25) C 1 dX8_placeAt_25 rfl ?_
        obtain ⟨v10, e9, hf⟩ := xbd hf
        refine ww_iald (pc := 26) C e9 dX8_placeAt_26 ?_
        refine ww_goto (pc := 27) (tgt := 31) C dX8_placeAt_27 (by decide) ?_
        have hf := xsj hf
        subst hf
        exact ww_iret (pc := 31) C hk dX8_placeAt_31
theorem k_X8_placeAt {l : Launch} {E : XD} {hb : Nat} {σ : XS} {r0 : Nat} {x1 : Int32} {x : Int32} (h : f_X8_placeAt σ r0 x1 = some x) : XM l yX8_placeAt cX8_placeAt 2 (some .int) 0 0 E hb [.ref (hb + r0), .int x1] σ (some (.int x)) σ := by
  refine xm_of (by decide) (Nat.le_of_ble_eq_true rfl) ⟨Nat.le_refl _, Nat.le_refl _⟩ (fun G hG C hl hQ => ?_)
  obtain ⟨rfl, rfl, rfl, hN⟩ := hG
  exact s_X8_placeAt_e C h hQ
noncomputable def f_X1_takeSize_j104 (σ : XS) (r0 : Nat) : Option XS := (xck σ r0 1).bind fun _ => (f_X1_takeKind σ r0).bind fun (v4, σ3) => some σ3
noncomputable def f_X1_takeSize_j86 (σ : XS) (r0 : Nat) : Option XS := (xgR σ r0 1 0).bind fun z2 => (xgI σ r0 1 4).bind fun v4 => (xck σ z2 8).bind fun _ => (f_X8_placeAt σ z2 (v4 - (1 : Int32))).bind fun v7 => (xck σ r0 1).bind fun _ => (f_X1_blame σ r0 (3 : Int32) v7).bind fun σ10 => f_X1_takeSize_j104 σ10 r0
noncomputable def f_X1_takeSize_j47 (σ : XS) (r0 : Nat) : Option XS := (xck σ r0 1).bind fun _ => (f_X1_takeInt σ r0).bind fun (v4, σ3) => (xpI σ3 r0 1 6 v4).bind fun σ6 => (xgI σ6 r0 1 6).bind fun v8 => if v8 < (1 : Int32) then (f_X1_takeSize_j86 σ6 r0) else (xgI σ6 r0 1 6).bind fun v10 => if (16 : Int32) < v10 then (f_X1_takeSize_j86 σ6 r0) else (xgI σ6 r0 1 5).bind fun v12 => (xgI σ6 r0 1 6).bind fun v14 => if (v12 * v14) ≤ (16 : Int32) then (f_X1_takeSize_j104 σ6 r0) else f_X1_takeSize_j86 σ6 r0
noncomputable def f_X1_takeSize_j29 (σ : XS) (r0 : Nat) : Option XS := (xgR σ r0 1 0).bind fun z2 => (xgI σ r0 1 4).bind fun v4 => (xck σ z2 8).bind fun _ => (f_X8_placeAt σ z2 (v4 - (1 : Int32))).bind fun v7 => (xck σ r0 1).bind fun _ => (f_X1_blame σ r0 (3 : Int32) v7).bind fun σ10 => f_X1_takeSize_j47 σ10 r0
noncomputable def f_X1_takeSize (σ : XS) (r0 : Nat) : Option XS := (xck σ r0 1).bind fun _ => (f_X1_takeKind σ r0).bind fun (v4, σ3) => (xck σ3 r0 1).bind fun _ => (f_X1_takeInt σ3 r0).bind fun (v8, σ7) => (xpI σ7 r0 1 5 v8).bind fun σ10 => (xgI σ10 r0 1 5).bind fun v12 => if v12 < (1 : Int32) then (f_X1_takeSize_j29 σ10 r0) else (xgI σ10 r0 1 5).bind fun v14 => if v14 ≤ (4 : Int32) then (f_X1_takeSize_j47 σ10 r0) else f_X1_takeSize_j29 σ10 r0
theorem s_X1_takeSize_j104 {G : XG} (C : XC G cX1_takeSize RX1 none 1 2 42) {σ : XS} {r0 : Nat} {x : XS} (hf : f_X1_takeSize_j104 σ r0 = some x) (hk : XEnd G none x) : WW G 104 [(0, .ref (gB G + r0))] [] σ := by
  refine ww_aload_n (pc := 104) C 0 dX1_takeSize_104 rfl ?_
  obtain ⟨_, e1, hf⟩ := xbd hf
  obtain ⟨⟨v4, σ3⟩, e2, hf⟩ := xbd hf
  dsimp only at hf
  refine ww_callVi (pc := 105) (as := []) (st := []) C (k_X1_takeKind (l := gl G) (E := gE G) (hb := gB G) (σ := σ) e2) rfl (by decide) xc_X1_92 q586 qp14 (xck_spec e1) rfl (by decide) (xst4 (Nat.le_of_ble_eq_true rfl)) (m_X1_takeKind e2).le (m_X1_takeKind e2).lim dX1_takeSize_105 ?_
  refine ww_pop (pc := 108) C dX1_takeSize_108 rfl ?_
  have hf := xsj hf
  subst hf
  exact ww_vret (pc := 109) C hk dX1_takeSize_109
theorem m_X1_takeSize_j104 {σ : XS} {r0 : Nat} {x : XS} (hf : f_X1_takeSize_j104 σ r0 = some x) : xsame σ x := by
  have hm := xsame.rf (σ := σ)
  obtain ⟨_, e1, hf⟩ := xbd hf
  obtain ⟨⟨v4, σ3⟩, e2, hf⟩ := xbd hf
  dsimp only at hf
  have hm := hm.tr (m_X1_takeKind e2)
  have hf := xsj hf
  subst hf
  exact hm
theorem s_X1_takeSize_j86 {G : XG} (C : XC G cX1_takeSize RX1 none 1 2 42) {σ : XS} {r0 : Nat} {x : XS} (hf : f_X1_takeSize_j86 σ r0 = some x) (hk : XEnd G none x) : WW G 86 [(0, .ref (gB G + r0))] [] σ := by
  refine ww_aload_n (pc := 86) C 0 dX1_takeSize_86 rfl ?_
  refine ww_iconst (pc := 87) (v := (3 : Int32)) C dX1_takeSize_87 (by decide) ?_
  refine ww_aload_n (pc := 88) C 0 dX1_takeSize_88 rfl ?_
  obtain ⟨z2, e1, hf⟩ := xbd hf
  refine gf_X1_12 (pc := 89) C e1 dX1_takeSize_89 ?_
  refine ww_aload_n (pc := 92) C 0 dX1_takeSize_92 rfl ?_
  obtain ⟨v4, e3, hf⟩ := xbd hf
  refine gf_X1_49 (pc := 93) C e3 dX1_takeSize_93 ?_
  refine ww_iconst (pc := 96) (v := (1 : Int32)) C dX1_takeSize_96 (by decide) ?_
  refine ww_isub (pc := 97) C dX1_takeSize_97 ?_
  obtain ⟨_, e5, hf⟩ := xbd hf
  obtain ⟨v7, e6, hf⟩ := xbd hf
  refine ww_callVi (pc := 98) (as := [.int (v4 - (1 : Int32))]) (st := [.int (3 : Int32), .ref (gB G + r0)]) C (k_X8_placeAt (l := gl G) (E := gE G) (hb := gB G) (σ := σ) e6) rfl (by decide) xc_X1_101 q602 qp18 (xck_spec e5) rfl (by decide) (xst4 (Nat.le_of_ble_eq_true rfl)) xsame.rf.le xsame.rf.lim dX1_takeSize_98 ?_
  obtain ⟨_, e8, hf⟩ := xbd hf
  obtain ⟨σ10, e9, hf⟩ := xbd hf
  refine ww_callVv (pc := 101) (as := [.int (3 : Int32), .int v7]) (st := []) C (k_X1_blame (l := gl G) (E := gE G) (hb := gB G) (σ := σ) e9) rfl (by decide) xc_X1_36 q578 qp12 (xck_spec e8) rfl (by decide) (xst4 (Nat.le_of_ble_eq_true rfl)) (m_X1_blame e9).le (m_X1_blame e9).lim dX1_takeSize_101 ?_
  refine ww_sub [0] rfl ?_
  exact s_X1_takeSize_j104 C hf hk
theorem m_X1_takeSize_j86 {σ : XS} {r0 : Nat} {x : XS} (hf : f_X1_takeSize_j86 σ r0 = some x) : xsame σ x := by
  have hm := xsame.rf (σ := σ)
  obtain ⟨z2, e1, hf⟩ := xbd hf
  obtain ⟨v4, e3, hf⟩ := xbd hf
  obtain ⟨_, e5, hf⟩ := xbd hf
  obtain ⟨v7, e6, hf⟩ := xbd hf
  obtain ⟨_, e8, hf⟩ := xbd hf
  obtain ⟨σ10, e9, hf⟩ := xbd hf
  have hm := hm.tr (m_X1_blame e9)
  exact hm.tr (m_X1_takeSize_j104 hf)
theorem s_X1_takeSize_j47 {G : XG} (C : XC G cX1_takeSize RX1 none 1 2 42) {σ : XS} {r0 : Nat} {x : XS} (hf : f_X1_takeSize_j47 σ r0 = some x) (hk : XEnd G none x) : WW G 47 [(0, .ref (gB G + r0))] [] σ := by
  refine ww_aload_n (pc := 47) C 0 dX1_takeSize_47 rfl ?_
  refine ww_aload_n (pc := 48) C 0 dX1_takeSize_48 rfl ?_
  obtain ⟨_, e1, hf⟩ := xbd hf
  obtain ⟨⟨v4, σ3⟩, e2, hf⟩ := xbd hf
  dsimp only at hf
  refine ww_callVi (pc := 49) (as := []) (st := [.ref (gB G + r0)]) C (k_X1_takeInt (l := gl G) (E := gE G) (hb := gB G) (σ := σ) e2) rfl (by decide) xc_X1_95 q594 qp16 (xck_spec e1) rfl (by decide) (xst4 (Nat.le_of_ble_eq_true rfl)) (m_X1_takeInt e2).le (m_X1_takeInt e2).lim dX1_takeSize_49 ?_
  obtain ⟨σ6, e5, hf⟩ := xbd hf
  refine pf_X1_104 (pc := 52) C e5 dX1_takeSize_52 ?_
  refine ww_aload_n (pc := 55) C 0 dX1_takeSize_55 rfl ?_
  obtain ⟨v8, e7, hf⟩ := xbd hf
  refine gf_X1_104 (pc := 56) C e7 dX1_takeSize_56 ?_
  refine ww_iconst (pc := 59) (v := (1 : Int32)) C dX1_takeSize_59 (by decide) ?_
  refine ww_icmp_lt (pc := 60) (tgt := 86) C dX1_takeSize_60 (by decide) (fun q => ?_) (fun q => ?_)
  · have hf := xip q hf
    refine ww_sub [0] rfl ?_
    exact s_X1_takeSize_j86 C hf hk
  · have hf := xin q hf
    refine ww_aload_n (pc := 63) C 0 dX1_takeSize_63 rfl ?_
    obtain ⟨v10, e9, hf⟩ := xbd hf
    refine gf_X1_104 (pc := 64) C e9 dX1_takeSize_64 ?_
    refine ww_bipush (pc := 67) (v := (16 : Int32)) C dX1_takeSize_67 (by decide) ?_
    refine ww_icmp_gt (pc := 69) (tgt := 86) C dX1_takeSize_69 (by decide) (fun q => ?_) (fun q => ?_)
    · have hf := xip q hf
      refine ww_sub [0] rfl ?_
      exact s_X1_takeSize_j86 C hf hk
    · have hf := xin q hf
      refine ww_aload_n (pc := 72) C 0 dX1_takeSize_72 rfl ?_
      obtain ⟨v12, e11, hf⟩ := xbd hf
      refine gf_X1_98 (pc := 73) C e11 dX1_takeSize_73 ?_
      refine ww_aload_n (pc := 76) C 0 dX1_takeSize_76 rfl ?_
      obtain ⟨v14, e13, hf⟩ := xbd hf
      refine gf_X1_104 (pc := 77) C e13 dX1_takeSize_77 ?_
      refine ww_imul (pc := 80) C dX1_takeSize_80 ?_
      refine ww_bipush (pc := 81) (v := (16 : Int32)) C dX1_takeSize_81 (by decide) ?_
      refine ww_icmp_le (pc := 83) (tgt := 104) C dX1_takeSize_83 (by decide) (fun q => ?_) (fun q => ?_)
      · have hf := xip q hf
        refine ww_sub [0] rfl ?_
        exact s_X1_takeSize_j104 C hf hk
      · have hf := xin q hf
        refine ww_sub [0] rfl ?_
        exact s_X1_takeSize_j86 C hf hk
theorem m_X1_takeSize_j47 {σ : XS} {r0 : Nat} {x : XS} (hf : f_X1_takeSize_j47 σ r0 = some x) : xsame σ x := by
  have hm := xsame.rf (σ := σ)
  obtain ⟨_, e1, hf⟩ := xbd hf
  obtain ⟨⟨v4, σ3⟩, e2, hf⟩ := xbd hf
  dsimp only at hf
  have hm := hm.tr (m_X1_takeInt e2)
  obtain ⟨σ6, e5, hf⟩ := xbd hf
  have hm := hm.tr (xpI_same e5)
  obtain ⟨v8, e7, hf⟩ := xbd hf
  by_cases q : v8 < (1 : Int32)
  · have hf := xip q hf
    exact hm.tr (m_X1_takeSize_j86 hf)
  · have hf := xin q hf
    obtain ⟨v10, e9, hf⟩ := xbd hf
    by_cases q : (16 : Int32) < v10
    · have hf := xip q hf
      exact hm.tr (m_X1_takeSize_j86 hf)
    · have hf := xin q hf
      obtain ⟨v12, e11, hf⟩ := xbd hf
      obtain ⟨v14, e13, hf⟩ := xbd hf
      by_cases q : (v12 * v14) ≤ (16 : Int32)
      · have hf := xip q hf
        exact hm.tr (m_X1_takeSize_j104 hf)
      · have hf := xin q hf
        exact hm.tr (m_X1_takeSize_j86 hf)
theorem s_X1_takeSize_j29 {G : XG} (C : XC G cX1_takeSize RX1 none 1 2 42) {σ : XS} {r0 : Nat} {x : XS} (hf : f_X1_takeSize_j29 σ r0 = some x) (hk : XEnd G none x) : WW G 29 [(0, .ref (gB G + r0))] [] σ := by
  refine ww_aload_n (pc := 29) C 0 dX1_takeSize_29 rfl ?_
  refine ww_iconst (pc := 30) (v := (3 : Int32)) C dX1_takeSize_30 (by decide) ?_
  refine ww_aload_n (pc := 31) C 0 dX1_takeSize_31 rfl ?_
  obtain ⟨z2, e1, hf⟩ := xbd hf
  refine gf_X1_12 (pc := 32) C e1 dX1_takeSize_32 ?_
  refine ww_aload_n (pc := 35) C 0 dX1_takeSize_35 rfl ?_
  obtain ⟨v4, e3, hf⟩ := xbd hf
  refine gf_X1_49 (pc := 36) C e3 dX1_takeSize_36 ?_
  refine ww_iconst (pc := 39) (v := (1 : Int32)) C dX1_takeSize_39 (by decide) ?_
  refine ww_isub (pc := 40) C dX1_takeSize_40 ?_
  obtain ⟨_, e5, hf⟩ := xbd hf
  obtain ⟨v7, e6, hf⟩ := xbd hf
  refine ww_callVi (pc := 41) (as := [.int (v4 - (1 : Int32))]) (st := [.int (3 : Int32), .ref (gB G + r0)]) C (k_X8_placeAt (l := gl G) (E := gE G) (hb := gB G) (σ := σ) e6) rfl (by decide) xc_X1_101 q602 qp18 (xck_spec e5) rfl (by decide) (xst4 (Nat.le_of_ble_eq_true rfl)) xsame.rf.le xsame.rf.lim dX1_takeSize_41 ?_
  obtain ⟨_, e8, hf⟩ := xbd hf
  obtain ⟨σ10, e9, hf⟩ := xbd hf
  refine ww_callVv (pc := 44) (as := [.int (3 : Int32), .int v7]) (st := []) C (k_X1_blame (l := gl G) (E := gE G) (hb := gB G) (σ := σ) e9) rfl (by decide) xc_X1_36 q578 qp12 (xck_spec e8) rfl (by decide) (xst4 (Nat.le_of_ble_eq_true rfl)) (m_X1_blame e9).le (m_X1_blame e9).lim dX1_takeSize_44 ?_
  refine ww_sub [0] rfl ?_
  exact s_X1_takeSize_j47 C hf hk
theorem m_X1_takeSize_j29 {σ : XS} {r0 : Nat} {x : XS} (hf : f_X1_takeSize_j29 σ r0 = some x) : xsame σ x := by
  have hm := xsame.rf (σ := σ)
  obtain ⟨z2, e1, hf⟩ := xbd hf
  obtain ⟨v4, e3, hf⟩ := xbd hf
  obtain ⟨_, e5, hf⟩ := xbd hf
  obtain ⟨v7, e6, hf⟩ := xbd hf
  obtain ⟨_, e8, hf⟩ := xbd hf
  obtain ⟨σ10, e9, hf⟩ := xbd hf
  have hm := hm.tr (m_X1_blame e9)
  exact hm.tr (m_X1_takeSize_j47 hf)
theorem s_X1_takeSize_e {G : XG} (C : XC G cX1_takeSize RX1 none 1 2 42) {σ : XS} {r0 : Nat} {x : XS} (hf : f_X1_takeSize σ r0 = some x) (hk : XEnd G none x) : WW G 0 [(0, .ref (gB G + r0))] [] σ := by
  refine ww_aload_n (pc := 0) C 0 dX1_takeSize_0 rfl ?_
  obtain ⟨_, e1, hf⟩ := xbd hf
  obtain ⟨⟨v4, σ3⟩, e2, hf⟩ := xbd hf
  dsimp only at hf
  refine ww_callVi (pc := 1) (as := []) (st := []) C (k_X1_takeKind (l := gl G) (E := gE G) (hb := gB G) (σ := σ) e2) rfl (by decide) xc_X1_92 q586 qp14 (xck_spec e1) rfl (by decide) (xst4 (Nat.le_of_ble_eq_true rfl)) (m_X1_takeKind e2).le (m_X1_takeKind e2).lim dX1_takeSize_1 ?_
  refine ww_pop (pc := 4) C dX1_takeSize_4 rfl ?_
  refine ww_aload_n (pc := 5) C 0 dX1_takeSize_5 rfl ?_
  refine ww_aload_n (pc := 6) C 0 dX1_takeSize_6 rfl ?_
  obtain ⟨_, e5, hf⟩ := xbd hf
  obtain ⟨⟨v8, σ7⟩, e6, hf⟩ := xbd hf
  dsimp only at hf
  refine ww_callVi (pc := 7) (as := []) (st := [.ref (gB G + r0)]) C (k_X1_takeInt (l := gl G) (E := gE G) (hb := gB G) (σ := σ3) e6) rfl (by decide) xc_X1_95 q594 qp16 (xck_spec e5) rfl (by decide) (xst4 (Nat.le_of_ble_eq_true rfl)) (m_X1_takeInt e6).le (m_X1_takeInt e6).lim dX1_takeSize_7 ?_
  obtain ⟨σ10, e9, hf⟩ := xbd hf
  refine pf_X1_98 (pc := 10) C e9 dX1_takeSize_10 ?_
  refine ww_aload_n (pc := 13) C 0 dX1_takeSize_13 rfl ?_
  obtain ⟨v12, e11, hf⟩ := xbd hf
  refine gf_X1_98 (pc := 14) C e11 dX1_takeSize_14 ?_
  refine ww_iconst (pc := 17) (v := (1 : Int32)) C dX1_takeSize_17 (by decide) ?_
  refine ww_icmp_lt (pc := 18) (tgt := 29) C dX1_takeSize_18 (by decide) (fun q => ?_) (fun q => ?_)
  · have hf := xip q hf
    refine ww_sub [0] rfl ?_
    exact s_X1_takeSize_j29 C hf hk
  · have hf := xin q hf
    refine ww_aload_n (pc := 21) C 0 dX1_takeSize_21 rfl ?_
    obtain ⟨v14, e13, hf⟩ := xbd hf
    refine gf_X1_98 (pc := 22) C e13 dX1_takeSize_22 ?_
    refine ww_iconst (pc := 25) (v := (4 : Int32)) C dX1_takeSize_25 (by decide) ?_
    refine ww_icmp_le (pc := 26) (tgt := 47) C dX1_takeSize_26 (by decide) (fun q => ?_) (fun q => ?_)
    · have hf := xip q hf
      refine ww_sub [0] rfl ?_
      exact s_X1_takeSize_j47 C hf hk
    · have hf := xin q hf
      refine ww_sub [0] rfl ?_
      exact s_X1_takeSize_j29 C hf hk
theorem m_X1_takeSize {σ : XS} {r0 : Nat} {x : XS} (hf : f_X1_takeSize σ r0 = some x) : xsame σ x := by
  have hm := xsame.rf (σ := σ)
  obtain ⟨_, e1, hf⟩ := xbd hf
  obtain ⟨⟨v4, σ3⟩, e2, hf⟩ := xbd hf
  dsimp only at hf
  have hm := hm.tr (m_X1_takeKind e2)
  obtain ⟨_, e5, hf⟩ := xbd hf
  obtain ⟨⟨v8, σ7⟩, e6, hf⟩ := xbd hf
  dsimp only at hf
  have hm := hm.tr (m_X1_takeInt e6)
  obtain ⟨σ10, e9, hf⟩ := xbd hf
  have hm := hm.tr (xpI_same e9)
  obtain ⟨v12, e11, hf⟩ := xbd hf
  by_cases q : v12 < (1 : Int32)
  · have hf := xip q hf
    exact hm.tr (m_X1_takeSize_j29 hf)
  · have hf := xin q hf
    obtain ⟨v14, e13, hf⟩ := xbd hf
    by_cases q : v14 ≤ (4 : Int32)
    · have hf := xip q hf
      exact hm.tr (m_X1_takeSize_j47 hf)
    · have hf := xin q hf
      exact hm.tr (m_X1_takeSize_j29 hf)
theorem k_X1_takeSize {l : Launch} {E : XD} {hb : Nat} {σ : XS} {r0 : Nat} {x : XS} (h : f_X1_takeSize σ r0 = some x) : XM l yX1_takeSize cX1_takeSize 1 none 2 42 E hb [.ref (hb + r0)] σ none x := by
  refine xm_of (by decide) (Nat.le_of_ble_eq_true rfl) (m_X1_takeSize h).le (fun G hG C hl hQ => ?_)
  obtain ⟨rfl, rfl, rfl, hN⟩ := hG
  exact s_X1_takeSize_e C h hQ
noncomputable def f_X1_seeRings_b5 (r0 : Nat) : Int32 × XS → Option ((Int32 × XS) ⊕ (XS)) := fun a => match a with
  | (x1, σ) => (xgR σ r0 1 0).bind fun z2 => (xgI σ z2 8 5).bind fun v4 => if v4 ≤ x1 then ((some σ).map .inr) else (xgR σ r0 1 0).bind fun z6 => (xck σ z6 8).bind fun _ => (f_X8_kindAt σ z6 x1).bind fun v9 => if v9 = (9 : Int32) then ((xgI σ r0 1 7).bind fun v11 => (xgR σ r0 1 0).bind fun z13 => (xck σ z13 8).bind fun _ => (f_X8_kindAt σ z13 (x1 + (1 : Int32))).bind fun v16 => if v16 = (6 : Int32) then ((xpI σ r0 1 7 (v11 ||| (1 : Int32))).bind fun σ18 => some (.inl (x1 + (1 : Int32), σ18))) else (xpI σ r0 1 7 (v11 ||| (2 : Int32))).bind fun σ18 => some (.inl (x1 + (1 : Int32), σ18))) else some (.inl (x1 + (1 : Int32), σ))
noncomputable def f_X1_seeRings (σ : XS) (r0 : Nat) : Option XS := (xgI σ r0 1 4).bind fun v2 => xloop (f_X1_seeRings_b5 r0) (v2, σ)
theorem m_X1_seeRings_l5 {r0 : Nat} {a : Int32 × XS} {x : XS} (hf : xloop (f_X1_seeRings_b5 r0) a = some x) : xsame a.2 x := by
  refine xloop_ind (P := fun a => xsame a.2 x) (fun a y hf hc he => ?_) hf
  obtain ⟨x1, σ⟩ := a
  have hy : (∀ a' : Int32 × XS, y = .inl a' → xsame σ a'.2) ∧ (∀ b1 : XS, y = .inr b1 → xsame σ b1) := by
    have hm := xsame.rf (σ := σ)
    obtain ⟨z2, e1, hf⟩ := xbd hf
    obtain ⟨v4, e3, hf⟩ := xbd hf
    by_cases q : v4 ≤ x1
    · have hf := xip q hf
      obtain ⟨b0, hg, e9⟩ := xmj hf
      subst e9
      have hf := hg
      refine ⟨fun a' e => xnc2 e, fun b e => ?_⟩
      have h9 := Sum.inr.inj e
      subst h9
      have hf := xsj hf
      subst hf
      exact hm
    · have hf := xin q hf
      obtain ⟨z6, e5, hf⟩ := xbd hf
      obtain ⟨_, e7, hf⟩ := xbd hf
      obtain ⟨v9, e8, hf⟩ := xbd hf
      by_cases q : v9 = (9 : Int32)
      · have hf := xip q hf
        obtain ⟨v11, e10, hf⟩ := xbd hf
        obtain ⟨z13, e12, hf⟩ := xbd hf
        obtain ⟨_, e14, hf⟩ := xbd hf
        obtain ⟨v16, e15, hf⟩ := xbd hf
        by_cases q : v16 = (6 : Int32)
        · have hf := xip q hf
          obtain ⟨σ18, e17, hf⟩ := xbd hf
          have hm := hm.tr (xpI_same e17)
          have hf := xsj hf
          subst hf
          exact ⟨fun a' e => (by have h9 := Sum.inl.inj e; subst h9; exact hm), fun b e => xnc1 e⟩
        · have hf := xin q hf
          obtain ⟨σ18, e17, hf⟩ := xbd hf
          have hm := hm.tr (xpI_same e17)
          have hf := xsj hf
          subst hf
          exact ⟨fun a' e => (by have h9 := Sum.inl.inj e; subst h9; exact hm), fun b e => xnc1 e⟩
      · have hf := xin q hf
        have hf := xsj hf
        subst hf
        exact ⟨fun a' e => (by have h9 := Sum.inl.inj e; subst h9; exact hm), fun b e => xnc1 e⟩
  cases y with
  | inl a' =>
    have h1 := hc a' rfl
    have hm := hy.1 a' rfl
    exact hm.tr (h1)
  | inr b =>
    have h1 := he b rfl
    subst h1
    exact hy.2 _ rfl
theorem s_X1_seeRings_l5 {G : XG} (C : XC G cX1_seeRings RX1 none 2 1 21) {r0 : Nat} {a : Int32 × XS} {x : XS} (hf : xloop (f_X1_seeRings_b5 r0) a = some x) (hk : XEnd G none x) : WW G 5 [(0, .ref (gB G + r0)), (1, .int a.1)] [] a.2 := by
  refine xloop_ind (P := fun a => WW G 5 [(0, .ref (gB G + r0)), (1, .int a.1)] [] a.2) (fun a y hf hc he => ?_) hf
  obtain ⟨x1, σ⟩ := a
  have hk : (∀ a' : Int32 × XS, y = .inl a' → WW G 5 [(0, .ref (gB G + r0)), (1, .int a'.1)] [] a'.2) ∧ (∀ b1 : XS, y = .inr b1 → XEnd G none b1) := ⟨hc, fun b e => by have h9 := he b e; subst h9; exact hk⟩
  refine ww_iload_n (pc := 5) C 1 dX1_seeRings_5 rfl ?_
  refine ww_aload_n (pc := 6) C 0 dX1_seeRings_6 rfl ?_
  obtain ⟨z2, e1, hf⟩ := xbd hf
  refine gf_X1_12 (pc := 7) C e1 dX1_seeRings_7 ?_
  obtain ⟨v4, e3, hf⟩ := xbd hf
  refine gf_X1_52 (pc := 10) C e3 dX1_seeRings_10 ?_
  refine ww_icmp_ge (pc := 13) (tgt := 64) C dX1_seeRings_13 (by decide) (fun q => ?_) (fun q => ?_)
  · have hf := xip q hf
    obtain ⟨b0, hg, e9⟩ := xmj hf
    subst e9
    have hf := hg
    have hk := hk.2 _ rfl
    have hf := xsj hf
    subst hf
    exact ww_vret (pc := 64) C hk dX1_seeRings_64
  · have hf := xin q hf
    refine ww_aload_n (pc := 16) C 0 dX1_seeRings_16 rfl ?_
    obtain ⟨z6, e5, hf⟩ := xbd hf
    refine gf_X1_12 (pc := 17) C e5 dX1_seeRings_17 ?_
    refine ww_iload_n (pc := 20) C 1 dX1_seeRings_20 rfl ?_
    obtain ⟨_, e7, hf⟩ := xbd hf
    obtain ⟨v9, e8, hf⟩ := xbd hf
    refine ww_callVi (pc := 21) (as := [.int x1]) (st := []) C (k_X8_kindAt (l := gl G) (E := gE G) (hb := gB G) (σ := σ) e8) rfl (by decide) xc_X1_85 q590 qp15 (xck_spec e7) rfl (by decide) (xst4 (Nat.le_of_ble_eq_true rfl)) xsame.rf.le xsame.rf.lim dX1_seeRings_21 ?_
    refine ww_bipush (pc := 24) (v := (9 : Int32)) C dX1_seeRings_24 (by decide) ?_
    refine ww_icmp_ne (pc := 26) (tgt := 58) C dX1_seeRings_26 (by decide) (fun q => ?_) (fun q => ?_)
    · have hf := xin q hf
      refine ww_iinc (pc := 58) (v := x1 + (1 : Int32)) (lv' := [(1, .int (x1 + (1 : Int32))), (0, .ref (gB G + r0))]) C 1 dX1_seeRings_58 rfl (congrArg (fun z => x1 + z) (show Int32.ofInt (1) = (1 : Int32) by decide)) (by decide) rfl ?_
      refine ww_goto (pc := 61) (tgt := 5) C dX1_seeRings_61 (by decide) ?_
      have hf := xsj hf
      subst hf
      refine ww_sub [1, 0] rfl ?_
      exact hk.1 (x1 + (1 : Int32), σ) rfl
    · have hf := xip q hf
      refine ww_aload_n (pc := 29) C 0 dX1_seeRings_29 rfl ?_
      refine ww_dup (pc := 30) C dX1_seeRings_30 rfl ?_
      obtain ⟨v11, e10, hf⟩ := xbd hf
      refine gf_X1_67 (pc := 31) C e10 dX1_seeRings_31 ?_
      refine ww_aload_n (pc := 34) C 0 dX1_seeRings_34 rfl ?_
      obtain ⟨z13, e12, hf⟩ := xbd hf
      refine gf_X1_12 (pc := 35) C e12 dX1_seeRings_35 ?_
      refine ww_iload_n (pc := 38) C 1 dX1_seeRings_38 rfl ?_
      refine ww_iconst (pc := 39) (v := (1 : Int32)) C dX1_seeRings_39 (by decide) ?_
      refine ww_iadd (pc := 40) C dX1_seeRings_40 ?_
      obtain ⟨_, e14, hf⟩ := xbd hf
      obtain ⟨v16, e15, hf⟩ := xbd hf
      refine ww_callVi (pc := 41) (as := [.int (x1 + (1 : Int32))]) (st := [.int v11, .ref (gB G + r0)]) C (k_X8_kindAt (l := gl G) (E := gE G) (hb := gB G) (σ := σ) e15) rfl (by decide) xc_X1_85 q590 qp15 (xck_spec e14) rfl (by decide) (xst4 (Nat.le_of_ble_eq_true rfl)) xsame.rf.le xsame.rf.lim dX1_seeRings_41 ?_
      refine ww_bipush (pc := 44) (v := (6 : Int32)) C dX1_seeRings_44 (by decide) ?_
      refine ww_icmp_ne (pc := 46) (tgt := 53) C dX1_seeRings_46 (by decide) (fun q => ?_) (fun q => ?_)
      · have hf := xin q hf
        refine ww_iconst (pc := 53) (v := (2 : Int32)) C dX1_seeRings_53 (by decide) ?_
        refine ww_ior (pc := 54) C dX1_seeRings_54 ?_
        obtain ⟨σ18, e17, hf⟩ := xbd hf
        refine pf_X1_67 (pc := 55) C e17 dX1_seeRings_55 ?_
        refine ww_iinc (pc := 58) (v := x1 + (1 : Int32)) (lv' := [(1, .int (x1 + (1 : Int32))), (0, .ref (gB G + r0))]) C 1 dX1_seeRings_58 rfl (congrArg (fun z => x1 + z) (show Int32.ofInt (1) = (1 : Int32) by decide)) (by decide) rfl ?_
        refine ww_goto (pc := 61) (tgt := 5) C dX1_seeRings_61 (by decide) ?_
        have hf := xsj hf
        subst hf
        refine ww_sub [1, 0] rfl ?_
        exact hk.1 (x1 + (1 : Int32), σ18) rfl
      · have hf := xip q hf
        refine ww_iconst (pc := 49) (v := (1 : Int32)) C dX1_seeRings_49 (by decide) ?_
        refine ww_goto (pc := 50) (tgt := 54) C dX1_seeRings_50 (by decide) ?_
        refine ww_ior (pc := 54) C dX1_seeRings_54 ?_
        obtain ⟨σ18, e17, hf⟩ := xbd hf
        refine pf_X1_67 (pc := 55) C e17 dX1_seeRings_55 ?_
        refine ww_iinc (pc := 58) (v := x1 + (1 : Int32)) (lv' := [(1, .int (x1 + (1 : Int32))), (0, .ref (gB G + r0))]) C 1 dX1_seeRings_58 rfl (congrArg (fun z => x1 + z) (show Int32.ofInt (1) = (1 : Int32) by decide)) (by decide) rfl ?_
        refine ww_goto (pc := 61) (tgt := 5) C dX1_seeRings_61 (by decide) ?_
        have hf := xsj hf
        subst hf
        refine ww_sub [1, 0] rfl ?_
        exact hk.1 (x1 + (1 : Int32), σ18) rfl
theorem s_X1_seeRings_e {G : XG} (C : XC G cX1_seeRings RX1 none 2 1 21) {σ : XS} {r0 : Nat} {x : XS} (hf : f_X1_seeRings σ r0 = some x) (hk : XEnd G none x) : WW G 0 [(0, .ref (gB G + r0))] [] σ := by
  refine ww_aload_n (pc := 0) C 0 dX1_seeRings_0 rfl ?_
  obtain ⟨v2, e1, hf⟩ := xbd hf
  refine gf_X1_49 (pc := 1) C e1 dX1_seeRings_1 ?_
  refine ww_istore_n (pc := 4) (lv' := [(1, .int v2), (0, .ref (gB G + r0))]) C dX1_seeRings_4 (by decide) rfl ?_
  refine ww_sub [1, 0] rfl ?_
  exact s_X1_seeRings_l5 C (a := (v2, σ)) hf hk
theorem m_X1_seeRings {σ : XS} {r0 : Nat} {x : XS} (hf : f_X1_seeRings σ r0 = some x) : xsame σ x := by
  have hm := xsame.rf (σ := σ)
  obtain ⟨v2, e1, hf⟩ := xbd hf
  exact hm.tr (m_X1_seeRings_l5 (a := (v2, σ)) hf)
theorem k_X1_seeRings {l : Launch} {E : XD} {hb : Nat} {σ : XS} {r0 : Nat} {x : XS} (h : f_X1_seeRings σ r0 = some x) : XM l yX1_seeRings cX1_seeRings 2 none 1 21 E hb [.ref (hb + r0)] σ none x := by
  refine xm_of (by decide) (Nat.le_of_ble_eq_true rfl) (m_X1_seeRings h).le (fun G hG C hl hQ => ?_)
  obtain ⟨rfl, rfl, rfl, hN⟩ := hG
  exact s_X1_seeRings_e C h hQ
noncomputable def f_X1_takeJ_j58 (σ : XS) (x1 : Int32) (x2 : Int32) : Option (Int32 × XS) := if x1 = 0 then (some (x2, σ)) else some (-x2, σ)
noncomputable def f_X1_takeJ_j30 (σ : XS) (r0 : Nat) (x1 : Int32) : Option (Int32 × XS) := (xck σ r0 1).bind fun _ => (f_X1_takeInt σ r0).bind fun (v4, σ3) => if v4 ≤ (3 : Int32) then (f_X1_takeJ_j58 σ3 x1 v4) else (xgR σ3 r0 1 0).bind fun z6 => (xgI σ3 r0 1 4).bind fun v8 => (xck σ3 z6 8).bind fun _ => (f_X8_placeAt σ3 z6 (v8 - (1 : Int32))).bind fun v11 => (xck σ3 r0 1).bind fun _ => (f_X1_blame σ3 r0 (3 : Int32) v11).bind fun σ14 => f_X1_takeJ_j58 σ14 x1 v4
noncomputable def f_X1_takeJ_j20 (σ : XS) (r0 : Nat) (t0 : Int32) : Option (Int32 × XS) := if t0 = 0 then (f_X1_takeJ_j30 σ r0 t0) else (xck σ r0 1).bind fun _ => (f_X1_takeKind σ r0).bind fun (v4, σ3) => f_X1_takeJ_j30 σ3 r0 t0
noncomputable def f_X1_takeJ (σ : XS) (r0 : Nat) : Option (Int32 × XS) := (xgR σ r0 1 0).bind fun z2 => (xgI σ r0 1 4).bind fun v4 => (xck σ z2 8).bind fun _ => (f_X8_kindAt σ z2 v4).bind fun v7 => if v7 = (3 : Int32) then (f_X1_takeJ_j20 σ r0 (1 : Int32)) else f_X1_takeJ_j20 σ r0 (0 : Int32)
theorem s_X1_takeJ_j58 {G : XG} (C : XC G cX1_takeJ RX1 (some .int) 3 2 42) {σ : XS} {x1 : Int32} {x2 : Int32} {x : Int32 × XS} (hf : f_X1_takeJ_j58 σ x1 x2 = some x) (hk : XEnd G (some (.int x.1)) x.2) : WW G 58 [(1, .int x1), (2, .int x2)] [] σ := by
  refine ww_iload_n (pc := 58) C 0 dX1_takeJ_58 rfl ?_
  refine ww_if_eq (pc := 59) (tgt := 67) C dX1_takeJ_59 (by decide) (fun q => ?_) (fun q => ?_)
  · have hf := xip q hf
    refine ww_iload_n (pc := 67) C 1 dX1_takeJ_67 rfl ?_
    have hf := xsj hf
    subst hf
    exact ww_iret (pc := 68) C hk dX1_takeJ_68
  · have hf := xin q hf
    refine ww_iload_n (pc := 62) C 1 dX1_takeJ_62 rfl ?_
    refine ww_ineg (pc := 63) C dX1_takeJ_63 ?_
    refine ww_goto (pc := 64) (tgt := 68) C dX1_takeJ_64 (by decide) ?_
    have hf := xsj hf
    subst hf
    exact ww_iret (pc := 68) C hk dX1_takeJ_68
theorem m_X1_takeJ_j58 {σ : XS} {x1 : Int32} {x2 : Int32} {x : Int32 × XS} (hf : f_X1_takeJ_j58 σ x1 x2 = some x) : xsame σ x.2 := by
  have hm := xsame.rf (σ := σ)
  by_cases q : x1 = 0
  · have hf := xip q hf
    have hf := xsj hf
    subst hf
    exact hm
  · have hf := xin q hf
    have hf := xsj hf
    subst hf
    exact hm
theorem s_X1_takeJ_j30 {G : XG} (C : XC G cX1_takeJ RX1 (some .int) 3 2 42) {σ : XS} {r0 : Nat} {x1 : Int32} {x : Int32 × XS} (hf : f_X1_takeJ_j30 σ r0 x1 = some x) (hk : XEnd G (some (.int x.1)) x.2) : WW G 30 [(0, .ref (gB G + r0)), (1, .int x1)] [] σ := by
  refine ww_aload_n (pc := 30) C 0 dX1_takeJ_30 rfl ?_
  obtain ⟨_, e1, hf⟩ := xbd hf
  obtain ⟨⟨v4, σ3⟩, e2, hf⟩ := xbd hf
  dsimp only at hf
  refine ww_callVi (pc := 31) (as := []) (st := []) C (k_X1_takeInt (l := gl G) (E := gE G) (hb := gB G) (σ := σ) e2) rfl (by decide) xc_X1_95 q594 qp16 (xck_spec e1) rfl (by decide) (xst4 (Nat.le_of_ble_eq_true rfl)) (m_X1_takeInt e2).le (m_X1_takeInt e2).lim dX1_takeJ_31 ?_
  refine ww_istore_n (pc := 34) (lv' := [(2, .int v4), (0, .ref (gB G + r0)), (1, .int x1)]) C dX1_takeJ_34 (by decide) rfl ?_
  refine ww_iload_n (pc := 35) C 0 dX1_takeJ_35 rfl ?_
  refine ww_iconst (pc := 36) (v := (3 : Int32)) C dX1_takeJ_36 (by decide) ?_
  refine ww_icmp_le (pc := 37) (tgt := 58) C dX1_takeJ_37 (by decide) (fun q => ?_) (fun q => ?_)
  · have hf := xip q hf
    refine ww_sub [2, 0] rfl ?_
    exact s_X1_takeJ_j58 C hf hk
  · have hf := xin q hf
    refine ww_aload_n (pc := 40) C 1 dX1_takeJ_40 rfl ?_
    refine ww_iconst (pc := 41) (v := (3 : Int32)) C dX1_takeJ_41 (by decide) ?_
    refine ww_aload_n (pc := 42) C 1 dX1_takeJ_42 rfl ?_
    obtain ⟨z6, e5, hf⟩ := xbd hf
    refine gf_X1_12 (pc := 43) C e5 dX1_takeJ_43 ?_
    refine ww_aload_n (pc := 46) C 1 dX1_takeJ_46 rfl ?_
    obtain ⟨v8, e7, hf⟩ := xbd hf
    refine gf_X1_49 (pc := 47) C e7 dX1_takeJ_47 ?_
    refine ww_iconst (pc := 50) (v := (1 : Int32)) C dX1_takeJ_50 (by decide) ?_
    refine ww_isub (pc := 51) C dX1_takeJ_51 ?_
    obtain ⟨_, e9, hf⟩ := xbd hf
    obtain ⟨v11, e10, hf⟩ := xbd hf
    refine ww_callVi (pc := 52) (as := [.int (v8 - (1 : Int32))]) (st := [.int (3 : Int32), .ref (gB G + r0)]) C (k_X8_placeAt (l := gl G) (E := gE G) (hb := gB G) (σ := σ3) e10) rfl (by decide) xc_X1_101 q602 qp18 (xck_spec e9) rfl (by decide) (xst4 (Nat.le_of_ble_eq_true rfl)) xsame.rf.le xsame.rf.lim dX1_takeJ_52 ?_
    obtain ⟨_, e12, hf⟩ := xbd hf
    obtain ⟨σ14, e13, hf⟩ := xbd hf
    refine ww_callVv (pc := 55) (as := [.int (3 : Int32), .int v11]) (st := []) C (k_X1_blame (l := gl G) (E := gE G) (hb := gB G) (σ := σ3) e13) rfl (by decide) xc_X1_36 q578 qp12 (xck_spec e12) rfl (by decide) (xst4 (Nat.le_of_ble_eq_true rfl)) (m_X1_blame e13).le (m_X1_blame e13).lim dX1_takeJ_55 ?_
    refine ww_sub [2, 0] rfl ?_
    exact s_X1_takeJ_j58 C hf hk
theorem m_X1_takeJ_j30 {σ : XS} {r0 : Nat} {x1 : Int32} {x : Int32 × XS} (hf : f_X1_takeJ_j30 σ r0 x1 = some x) : xsame σ x.2 := by
  have hm := xsame.rf (σ := σ)
  obtain ⟨_, e1, hf⟩ := xbd hf
  obtain ⟨⟨v4, σ3⟩, e2, hf⟩ := xbd hf
  dsimp only at hf
  have hm := hm.tr (m_X1_takeInt e2)
  by_cases q : v4 ≤ (3 : Int32)
  · have hf := xip q hf
    exact hm.tr (m_X1_takeJ_j58 hf)
  · have hf := xin q hf
    obtain ⟨z6, e5, hf⟩ := xbd hf
    obtain ⟨v8, e7, hf⟩ := xbd hf
    obtain ⟨_, e9, hf⟩ := xbd hf
    obtain ⟨v11, e10, hf⟩ := xbd hf
    obtain ⟨_, e12, hf⟩ := xbd hf
    obtain ⟨σ14, e13, hf⟩ := xbd hf
    have hm := hm.tr (m_X1_blame e13)
    exact hm.tr (m_X1_takeJ_j58 hf)
theorem s_X1_takeJ_j20 {G : XG} (C : XC G cX1_takeJ RX1 (some .int) 3 2 42) {σ : XS} {r0 : Nat} {t0 : Int32} {x : Int32 × XS} (hf : f_X1_takeJ_j20 σ r0 t0 = some x) (hk : XEnd G (some (.int x.1)) x.2) : WW G 20 [(0, .ref (gB G + r0))] [.int t0] σ := by
  refine ww_istore_n (pc := 20) (lv' := [(1, .int t0), (0, .ref (gB G + r0))]) C dX1_takeJ_20 (by decide) rfl ?_
  refine ww_iload_n (pc := 21) C 0 dX1_takeJ_21 rfl ?_
  refine ww_if_eq (pc := 22) (tgt := 30) C dX1_takeJ_22 (by decide) (fun q => ?_) (fun q => ?_)
  · have hf := xip q hf
    refine ww_sub [1, 0] rfl ?_
    exact s_X1_takeJ_j30 C hf hk
  · have hf := xin q hf
    refine ww_aload_n (pc := 25) C 1 dX1_takeJ_25 rfl ?_
    obtain ⟨_, e1, hf⟩ := xbd hf
    obtain ⟨⟨v4, σ3⟩, e2, hf⟩ := xbd hf
    dsimp only at hf
    refine ww_callVi (pc := 26) (as := []) (st := []) C (k_X1_takeKind (l := gl G) (E := gE G) (hb := gB G) (σ := σ) e2) rfl (by decide) xc_X1_92 q586 qp14 (xck_spec e1) rfl (by decide) (xst4 (Nat.le_of_ble_eq_true rfl)) (m_X1_takeKind e2).le (m_X1_takeKind e2).lim dX1_takeJ_26 ?_
    refine ww_pop (pc := 29) C dX1_takeJ_29 rfl ?_
    refine ww_sub [1, 0] rfl ?_
    exact s_X1_takeJ_j30 C hf hk
theorem m_X1_takeJ_j20 {σ : XS} {r0 : Nat} {t0 : Int32} {x : Int32 × XS} (hf : f_X1_takeJ_j20 σ r0 t0 = some x) : xsame σ x.2 := by
  have hm := xsame.rf (σ := σ)
  by_cases q : t0 = 0
  · have hf := xip q hf
    exact hm.tr (m_X1_takeJ_j30 hf)
  · have hf := xin q hf
    obtain ⟨_, e1, hf⟩ := xbd hf
    obtain ⟨⟨v4, σ3⟩, e2, hf⟩ := xbd hf
    dsimp only at hf
    have hm := hm.tr (m_X1_takeKind e2)
    exact hm.tr (m_X1_takeJ_j30 hf)
theorem s_X1_takeJ_e {G : XG} (C : XC G cX1_takeJ RX1 (some .int) 3 2 42) {σ : XS} {r0 : Nat} {x : Int32 × XS} (hf : f_X1_takeJ σ r0 = some x) (hk : XEnd G (some (.int x.1)) x.2) : WW G 0 [(0, .ref (gB G + r0))] [] σ := by
  refine ww_aload_n (pc := 0) C 0 dX1_takeJ_0 rfl ?_
  obtain ⟨z2, e1, hf⟩ := xbd hf
  refine gf_X1_12 (pc := 1) C e1 dX1_takeJ_1 ?_
  refine ww_aload_n (pc := 4) C 0 dX1_takeJ_4 rfl ?_
  obtain ⟨v4, e3, hf⟩ := xbd hf
  refine gf_X1_49 (pc := 5) C e3 dX1_takeJ_5 ?_
  obtain ⟨_, e5, hf⟩ := xbd hf
  obtain ⟨v7, e6, hf⟩ := xbd hf
  refine ww_callVi (pc := 8) (as := [.int v4]) (st := []) C (k_X8_kindAt (l := gl G) (E := gE G) (hb := gB G) (σ := σ) e6) rfl (by decide) xc_X1_85 q590 qp15 (xck_spec e5) rfl (by decide) (xst4 (Nat.le_of_ble_eq_true rfl)) xsame.rf.le xsame.rf.lim dX1_takeJ_8 ?_
  refine ww_iconst (pc := 11) (v := (3 : Int32)) C dX1_takeJ_11 (by decide) ?_
  refine ww_icmp_ne (pc := 12) (tgt := 19) C dX1_takeJ_12 (by decide) (fun q => ?_) (fun q => ?_)
  · have hf := xin q hf
    refine ww_iconst (pc := 19) (v := (0 : Int32)) C dX1_takeJ_19 (by decide) ?_
    refine ww_sub [0] rfl ?_
    exact s_X1_takeJ_j20 C hf hk
  · have hf := xip q hf
    refine ww_iconst (pc := 15) (v := (1 : Int32)) C dX1_takeJ_15 (by decide) ?_
    refine ww_goto (pc := 16) (tgt := 20) C dX1_takeJ_16 (by decide) ?_
    refine ww_sub [0] rfl ?_
    exact s_X1_takeJ_j20 C hf hk
theorem m_X1_takeJ {σ : XS} {r0 : Nat} {x : Int32 × XS} (hf : f_X1_takeJ σ r0 = some x) : xsame σ x.2 := by
  have hm := xsame.rf (σ := σ)
  obtain ⟨z2, e1, hf⟩ := xbd hf
  obtain ⟨v4, e3, hf⟩ := xbd hf
  obtain ⟨_, e5, hf⟩ := xbd hf
  obtain ⟨v7, e6, hf⟩ := xbd hf
  by_cases q : v7 = (3 : Int32)
  · have hf := xip q hf
    exact hm.tr (m_X1_takeJ_j20 hf)
  · have hf := xin q hf
    exact hm.tr (m_X1_takeJ_j20 hf)
theorem k_X1_takeJ {l : Launch} {E : XD} {hb : Nat} {σ : XS} {r0 : Nat} {x : Int32 × XS} (h : f_X1_takeJ σ r0 = some x) : XM l yX1_takeJ cX1_takeJ 3 (some .int) 2 42 E hb [.ref (hb + r0)] σ (some (.int x.1)) x.2 := by
  refine xm_of (by decide) (Nat.le_of_ble_eq_true rfl) (m_X1_takeJ h).le (fun G hG C hl hQ => ?_)
  obtain ⟨rfl, rfl, rfl, hN⟩ := hG
  exact s_X1_takeJ_e C h hQ
noncomputable def f_X1_takeSite (σ : XS) (r0 : Nat) : Option (Int32 × XS) := (xck σ r0 1).bind fun _ => (f_X1_takeInt σ r0).bind fun (v4, σ3) => (xgI σ3 r0 1 5).bind fun v6 => (xgI σ3 r0 1 6).bind fun v8 => if v4 < (v6 * v8) then (some (v4, σ3)) else (xgR σ3 r0 1 0).bind fun z10 => (xgI σ3 r0 1 4).bind fun v12 => (xck σ3 z10 8).bind fun _ => (f_X8_placeAt σ3 z10 (v12 - (1 : Int32))).bind fun v15 => (xck σ3 r0 1).bind fun _ => (f_X1_blame σ3 r0 (4 : Int32) v15).bind fun σ18 => some (v4, σ18)
theorem s_X1_takeSite_e {G : XG} (C : XC G cX1_takeSite RX1 (some .int) 2 2 42) {σ : XS} {r0 : Nat} {x : Int32 × XS} (hf : f_X1_takeSite σ r0 = some x) (hk : XEnd G (some (.int x.1)) x.2) : WW G 0 [(0, .ref (gB G + r0))] [] σ := by
  refine ww_aload_n (pc := 0) C 0 dX1_takeSite_0 rfl ?_
  obtain ⟨_, e1, hf⟩ := xbd hf
  obtain ⟨⟨v4, σ3⟩, e2, hf⟩ := xbd hf
  dsimp only at hf
  refine ww_callVi (pc := 1) (as := []) (st := []) C (k_X1_takeInt (l := gl G) (E := gE G) (hb := gB G) (σ := σ) e2) rfl (by decide) xc_X1_95 q594 qp16 (xck_spec e1) rfl (by decide) (xst4 (Nat.le_of_ble_eq_true rfl)) (m_X1_takeInt e2).le (m_X1_takeInt e2).lim dX1_takeSite_1 ?_
  refine ww_istore_n (pc := 4) (lv' := [(1, .int v4), (0, .ref (gB G + r0))]) C dX1_takeSite_4 (by decide) rfl ?_
  refine ww_iload_n (pc := 5) C 0 dX1_takeSite_5 rfl ?_
  refine ww_aload_n (pc := 6) C 1 dX1_takeSite_6 rfl ?_
  obtain ⟨v6, e5, hf⟩ := xbd hf
  refine gf_X1_98 (pc := 7) C e5 dX1_takeSite_7 ?_
  refine ww_aload_n (pc := 10) C 1 dX1_takeSite_10 rfl ?_
  obtain ⟨v8, e7, hf⟩ := xbd hf
  refine gf_X1_104 (pc := 11) C e7 dX1_takeSite_11 ?_
  refine ww_imul (pc := 14) C dX1_takeSite_14 ?_
  refine ww_icmp_lt (pc := 15) (tgt := 36) C dX1_takeSite_15 (by decide) (fun q => ?_) (fun q => ?_)
  · have hf := xip q hf
    refine ww_iload_n (pc := 36) C 0 dX1_takeSite_36 rfl ?_
    have hf := xsj hf
    subst hf
    exact ww_iret (pc := 37) C hk dX1_takeSite_37
  · have hf := xin q hf
    refine ww_aload_n (pc := 18) C 1 dX1_takeSite_18 rfl ?_
    refine ww_iconst (pc := 19) (v := (4 : Int32)) C dX1_takeSite_19 (by decide) ?_
    refine ww_aload_n (pc := 20) C 1 dX1_takeSite_20 rfl ?_
    obtain ⟨z10, e9, hf⟩ := xbd hf
    refine gf_X1_12 (pc := 21) C e9 dX1_takeSite_21 ?_
    refine ww_aload_n (pc := 24) C 1 dX1_takeSite_24 rfl ?_
    obtain ⟨v12, e11, hf⟩ := xbd hf
    refine gf_X1_49 (pc := 25) C e11 dX1_takeSite_25 ?_
    refine ww_iconst (pc := 28) (v := (1 : Int32)) C dX1_takeSite_28 (by decide) ?_
    refine ww_isub (pc := 29) C dX1_takeSite_29 ?_
    obtain ⟨_, e13, hf⟩ := xbd hf
    obtain ⟨v15, e14, hf⟩ := xbd hf
    refine ww_callVi (pc := 30) (as := [.int (v12 - (1 : Int32))]) (st := [.int (4 : Int32), .ref (gB G + r0)]) C (k_X8_placeAt (l := gl G) (E := gE G) (hb := gB G) (σ := σ3) e14) rfl (by decide) xc_X1_101 q602 qp18 (xck_spec e13) rfl (by decide) (xst4 (Nat.le_of_ble_eq_true rfl)) xsame.rf.le xsame.rf.lim dX1_takeSite_30 ?_
    obtain ⟨_, e16, hf⟩ := xbd hf
    obtain ⟨σ18, e17, hf⟩ := xbd hf
    refine ww_callVv (pc := 33) (as := [.int (4 : Int32), .int v15]) (st := []) C (k_X1_blame (l := gl G) (E := gE G) (hb := gB G) (σ := σ3) e17) rfl (by decide) xc_X1_36 q578 qp12 (xck_spec e16) rfl (by decide) (xst4 (Nat.le_of_ble_eq_true rfl)) (m_X1_blame e17).le (m_X1_blame e17).lim dX1_takeSite_33 ?_
    refine ww_iload_n (pc := 36) C 0 dX1_takeSite_36 rfl ?_
    have hf := xsj hf
    subst hf
    exact ww_iret (pc := 37) C hk dX1_takeSite_37
theorem m_X1_takeSite {σ : XS} {r0 : Nat} {x : Int32 × XS} (hf : f_X1_takeSite σ r0 = some x) : xsame σ x.2 := by
  have hm := xsame.rf (σ := σ)
  obtain ⟨_, e1, hf⟩ := xbd hf
  obtain ⟨⟨v4, σ3⟩, e2, hf⟩ := xbd hf
  dsimp only at hf
  have hm := hm.tr (m_X1_takeInt e2)
  obtain ⟨v6, e5, hf⟩ := xbd hf
  obtain ⟨v8, e7, hf⟩ := xbd hf
  by_cases q : v4 < (v6 * v8)
  · have hf := xip q hf
    have hf := xsj hf
    subst hf
    exact hm
  · have hf := xin q hf
    obtain ⟨z10, e9, hf⟩ := xbd hf
    obtain ⟨v12, e11, hf⟩ := xbd hf
    obtain ⟨_, e13, hf⟩ := xbd hf
    obtain ⟨v15, e14, hf⟩ := xbd hf
    obtain ⟨_, e16, hf⟩ := xbd hf
    obtain ⟨σ18, e17, hf⟩ := xbd hf
    have hm := hm.tr (m_X1_blame e17)
    have hf := xsj hf
    subst hf
    exact hm
theorem k_X1_takeSite {l : Launch} {E : XD} {hb : Nat} {σ : XS} {r0 : Nat} {x : Int32 × XS} (h : f_X1_takeSite σ r0 = some x) : XM l yX1_takeSite cX1_takeSite 2 (some .int) 2 42 E hb [.ref (hb + r0)] σ (some (.int x.1)) x.2 := by
  refine xm_of (by decide) (Nat.le_of_ble_eq_true rfl) (m_X1_takeSite h).le (fun G hG C hl hQ => ?_)
  obtain ⟨rfl, rfl, rfl, hN⟩ := hG
  exact s_X1_takeSite_e C h hQ
noncomputable def f_X1_takeTie_j68 (σ : XS) (r0 : Nat) (x2 : Int32) : Option XS := (xck σ r0 1).bind fun _ => (f_X1_takeJ σ r0).bind fun (v4, σ3) => (xgI σ3 r0 1 2).bind fun v6 => if v6 = 0 then ((xgR σ3 r0 1 1).bind fun z8 => (xck σ3 z8 6).bind fun _ => (f_X6_setBond σ3 z8 x2 v4).bind fun σ11 => (xgI σ11 r0 1 11).bind fun v13 => (xpI σ11 r0 1 11 (v13 ||| ((1 : Int32) <<< (x2 &&& 31)))).bind fun σ15 => some σ15) else some σ3
noncomputable def f_X1_takeTie_j22 (σ : XS) (r0 : Nat) (t0 : Int32) : Option XS := (xgI σ r0 1 2).bind fun v2 => if v2 = 0 then ((xgI σ r0 1 5).bind fun v4 => (xgI σ r0 1 6).bind fun v6 => (xgI σ r0 1 7).bind fun v8 => (f_X3_endOf v4 v6 v8 t0).bind fun v10 => if v10 = (-1 : Int32) then ((xgR σ r0 1 0).bind fun z12 => (xgI σ r0 1 4).bind fun v14 => (xck σ z12 8).bind fun _ => (f_X8_placeAt σ z12 (v14 - (2 : Int32))).bind fun v17 => (xck σ r0 1).bind fun _ => (f_X1_blame σ r0 (4 : Int32) v17).bind fun σ20 => f_X1_takeTie_j68 σ20 r0 t0) else f_X1_takeTie_j68 σ r0 t0) else f_X1_takeTie_j68 σ r0 t0
noncomputable def f_X1_takeTie (σ : XS) (r0 : Nat) : Option XS := (xck σ r0 1).bind fun _ => (f_X1_takeSite σ r0).bind fun (v4, σ3) => (xck σ3 r0 1).bind fun _ => (f_X1_takeKind σ3 r0).bind fun (v8, σ7) => if v8 = (7 : Int32) then (f_X1_takeTie_j22 σ7 r0 ((16 : Int32) + v4)) else f_X1_takeTie_j22 σ7 r0 v4
theorem s_X1_takeTie_j68 {G : XG} (C : XC G cX1_takeTie RX1 none 4 3 64) {σ : XS} {r0 : Nat} {x2 : Int32} {x : XS} (hf : f_X1_takeTie_j68 σ r0 x2 = some x) (hk : XEnd G none x) : WW G 68 [(0, .ref (gB G + r0)), (2, .int x2)] [] σ := by
  refine ww_aload_n (pc := 68) C 0 dX1_takeTie_68 rfl ?_
  obtain ⟨_, e1, hf⟩ := xbd hf
  obtain ⟨⟨v4, σ3⟩, e2, hf⟩ := xbd hf
  dsimp only at hf
  refine ww_callVi (pc := 69) (as := []) (st := []) C (k_X1_takeJ (l := gl G) (E := gE G) (hb := gB G) (σ := σ) e2) rfl (by decide) xc_X1_107 q614 qp21 (xck_spec e1) rfl (by decide) (xst4 (Nat.le_of_ble_eq_true rfl)) (m_X1_takeJ e2).le (m_X1_takeJ e2).lim dX1_takeTie_69 ?_
  refine ww_istore_n (pc := 72) (lv' := [(3, .int v4), (0, .ref (gB G + r0)), (2, .int x2)]) C dX1_takeTie_72 (by decide) rfl ?_
  refine ww_aload_n (pc := 73) C 1 dX1_takeTie_73 rfl ?_
  obtain ⟨v6, e5, hf⟩ := xbd hf
  refine gf_X1_46 (pc := 74) C e5 dX1_takeTie_74 ?_
  refine ww_if_ne (pc := 77) (tgt := 101) C dX1_takeTie_77 (by decide) (fun q => ?_) (fun q => ?_)
  · have hf := xin q hf
    have hf := xsj hf
    subst hf
    exact ww_vret (pc := 101) C hk dX1_takeTie_101
  · have hf := xip q hf
    refine ww_aload_n (pc := 80) C 1 dX1_takeTie_80 rfl ?_
    obtain ⟨z8, e7, hf⟩ := xbd hf
    refine gf_X1_21 (pc := 81) C e7 dX1_takeTie_81 ?_
    refine ww_iload_n (pc := 84) C 2 dX1_takeTie_84 rfl ?_
    refine ww_iload_n (pc := 85) C 0 dX1_takeTie_85 rfl ?_
    obtain ⟨_, e9, hf⟩ := xbd hf
    obtain ⟨σ11, e10, hf⟩ := xbd hf
    refine ww_callVv (pc := 86) (as := [.int x2, .int v4]) (st := []) C (k_X6_setBond (l := gl G) (E := gE G) (hb := gB G) (σ := σ3) e10) rfl (by decide) xc_X1_131 q632 qp24 (xck_spec e9) rfl (by decide) (xst4 (Nat.le_of_ble_eq_true rfl)) (m_X6_setBond e10).le (m_X6_setBond e10).lim dX1_takeTie_86 ?_
    refine ww_aload_n (pc := 89) C 1 dX1_takeTie_89 rfl ?_
    refine ww_dup (pc := 90) C dX1_takeTie_90 rfl ?_
    obtain ⟨v13, e12, hf⟩ := xbd hf
    refine gf_X1_79 (pc := 91) C e12 dX1_takeTie_91 ?_
    refine ww_iconst (pc := 94) (v := (1 : Int32)) C dX1_takeTie_94 (by decide) ?_
    refine ww_iload_n (pc := 95) C 2 dX1_takeTie_95 rfl ?_
    refine ww_ishl (pc := 96) C dX1_takeTie_96 ?_
    refine ww_ior (pc := 97) C dX1_takeTie_97 ?_
    obtain ⟨σ15, e14, hf⟩ := xbd hf
    refine pf_X1_79 (pc := 98) C e14 dX1_takeTie_98 ?_
    have hf := xsj hf
    subst hf
    exact ww_vret (pc := 101) C hk dX1_takeTie_101
theorem m_X1_takeTie_j68 {σ : XS} {r0 : Nat} {x2 : Int32} {x : XS} (hf : f_X1_takeTie_j68 σ r0 x2 = some x) : xsame σ x := by
  have hm := xsame.rf (σ := σ)
  obtain ⟨_, e1, hf⟩ := xbd hf
  obtain ⟨⟨v4, σ3⟩, e2, hf⟩ := xbd hf
  dsimp only at hf
  have hm := hm.tr (m_X1_takeJ e2)
  obtain ⟨v6, e5, hf⟩ := xbd hf
  by_cases q : v6 = 0
  · have hf := xip q hf
    obtain ⟨z8, e7, hf⟩ := xbd hf
    obtain ⟨_, e9, hf⟩ := xbd hf
    obtain ⟨σ11, e10, hf⟩ := xbd hf
    have hm := hm.tr (m_X6_setBond e10)
    obtain ⟨v13, e12, hf⟩ := xbd hf
    obtain ⟨σ15, e14, hf⟩ := xbd hf
    have hm := hm.tr (xpI_same e14)
    have hf := xsj hf
    subst hf
    exact hm
  · have hf := xin q hf
    have hf := xsj hf
    subst hf
    exact hm
theorem s_X1_takeTie_j22 {G : XG} (C : XC G cX1_takeTie RX1 none 4 3 64) {σ : XS} {r0 : Nat} {t0 : Int32} {x : XS} (hf : f_X1_takeTie_j22 σ r0 t0 = some x) (hk : XEnd G none x) : WW G 22 [(0, .ref (gB G + r0))] [.int t0] σ := by
  refine ww_istore_n (pc := 22) (lv' := [(2, .int t0), (0, .ref (gB G + r0))]) C dX1_takeTie_22 (by decide) rfl ?_
  refine ww_aload_n (pc := 23) C 1 dX1_takeTie_23 rfl ?_
  obtain ⟨v2, e1, hf⟩ := xbd hf
  refine gf_X1_46 (pc := 24) C e1 dX1_takeTie_24 ?_
  refine ww_if_ne (pc := 27) (tgt := 68) C dX1_takeTie_27 (by decide) (fun q => ?_) (fun q => ?_)
  · have hf := xin q hf
    refine ww_sub [1, 0] rfl ?_
    exact s_X1_takeTie_j68 C hf hk
  · have hf := xip q hf
    refine ww_aload_n (pc := 30) C 1 dX1_takeTie_30 rfl ?_
    obtain ⟨v4, e3, hf⟩ := xbd hf
    refine gf_X1_98 (pc := 31) C e3 dX1_takeTie_31 ?_
    refine ww_aload_n (pc := 34) C 1 dX1_takeTie_34 rfl ?_
    obtain ⟨v6, e5, hf⟩ := xbd hf
    refine gf_X1_104 (pc := 35) C e5 dX1_takeTie_35 ?_
    refine ww_aload_n (pc := 38) C 1 dX1_takeTie_38 rfl ?_
    obtain ⟨v8, e7, hf⟩ := xbd hf
    refine gf_X1_67 (pc := 39) C e7 dX1_takeTie_39 ?_
    refine ww_iload_n (pc := 42) C 0 dX1_takeTie_42 rfl ?_
    obtain ⟨v10, e9, hf⟩ := xbd hf
    refine ww_callSi (pc := 43) (as := [.int v4, .int v6, .int v8, .int t0]) (st := []) C (k_X3_endOf (l := gl G) (E := gE G) (hb := gB G) (σ := σ) e9) xc_X1_125 q625 rfl (by decide) (xst4 (Nat.le_of_ble_eq_true rfl)) xsame.rf.le xsame.rf.lim dX1_takeTie_43 ?_
    refine ww_iconst (pc := 46) (v := (-1 : Int32)) C dX1_takeTie_46 (by decide) ?_
    refine ww_icmp_ne (pc := 47) (tgt := 68) C dX1_takeTie_47 (by decide) (fun q => ?_) (fun q => ?_)
    · have hf := xin q hf
      refine ww_sub [1, 0] rfl ?_
      exact s_X1_takeTie_j68 C hf hk
    · have hf := xip q hf
      refine ww_aload_n (pc := 50) C 1 dX1_takeTie_50 rfl ?_
      refine ww_iconst (pc := 51) (v := (4 : Int32)) C dX1_takeTie_51 (by decide) ?_
      refine ww_aload_n (pc := 52) C 1 dX1_takeTie_52 rfl ?_
      obtain ⟨z12, e11, hf⟩ := xbd hf
      refine gf_X1_12 (pc := 53) C e11 dX1_takeTie_53 ?_
      refine ww_aload_n (pc := 56) C 1 dX1_takeTie_56 rfl ?_
      obtain ⟨v14, e13, hf⟩ := xbd hf
      refine gf_X1_49 (pc := 57) C e13 dX1_takeTie_57 ?_
      refine ww_iconst (pc := 60) (v := (2 : Int32)) C dX1_takeTie_60 (by decide) ?_
      refine ww_isub (pc := 61) C dX1_takeTie_61 ?_
      obtain ⟨_, e15, hf⟩ := xbd hf
      obtain ⟨v17, e16, hf⟩ := xbd hf
      refine ww_callVi (pc := 62) (as := [.int (v14 - (2 : Int32))]) (st := [.int (4 : Int32), .ref (gB G + r0)]) C (k_X8_placeAt (l := gl G) (E := gE G) (hb := gB G) (σ := σ) e16) rfl (by decide) xc_X1_101 q602 qp18 (xck_spec e15) rfl (by decide) (xst4 (Nat.le_of_ble_eq_true rfl)) xsame.rf.le xsame.rf.lim dX1_takeTie_62 ?_
      obtain ⟨_, e18, hf⟩ := xbd hf
      obtain ⟨σ20, e19, hf⟩ := xbd hf
      refine ww_callVv (pc := 65) (as := [.int (4 : Int32), .int v17]) (st := []) C (k_X1_blame (l := gl G) (E := gE G) (hb := gB G) (σ := σ) e19) rfl (by decide) xc_X1_36 q578 qp12 (xck_spec e18) rfl (by decide) (xst4 (Nat.le_of_ble_eq_true rfl)) (m_X1_blame e19).le (m_X1_blame e19).lim dX1_takeTie_65 ?_
      refine ww_sub [1, 0] rfl ?_
      exact s_X1_takeTie_j68 C hf hk
theorem m_X1_takeTie_j22 {σ : XS} {r0 : Nat} {t0 : Int32} {x : XS} (hf : f_X1_takeTie_j22 σ r0 t0 = some x) : xsame σ x := by
  have hm := xsame.rf (σ := σ)
  obtain ⟨v2, e1, hf⟩ := xbd hf
  by_cases q : v2 = 0
  · have hf := xip q hf
    obtain ⟨v4, e3, hf⟩ := xbd hf
    obtain ⟨v6, e5, hf⟩ := xbd hf
    obtain ⟨v8, e7, hf⟩ := xbd hf
    obtain ⟨v10, e9, hf⟩ := xbd hf
    by_cases q : v10 = (-1 : Int32)
    · have hf := xip q hf
      obtain ⟨z12, e11, hf⟩ := xbd hf
      obtain ⟨v14, e13, hf⟩ := xbd hf
      obtain ⟨_, e15, hf⟩ := xbd hf
      obtain ⟨v17, e16, hf⟩ := xbd hf
      obtain ⟨_, e18, hf⟩ := xbd hf
      obtain ⟨σ20, e19, hf⟩ := xbd hf
      have hm := hm.tr (m_X1_blame e19)
      exact hm.tr (m_X1_takeTie_j68 hf)
    · have hf := xin q hf
      exact hm.tr (m_X1_takeTie_j68 hf)
  · have hf := xin q hf
    exact hm.tr (m_X1_takeTie_j68 hf)
theorem s_X1_takeTie_e {G : XG} (C : XC G cX1_takeTie RX1 none 4 3 64) {σ : XS} {r0 : Nat} {x : XS} (hf : f_X1_takeTie σ r0 = some x) (hk : XEnd G none x) : WW G 0 [(0, .ref (gB G + r0))] [] σ := by
  refine ww_aload_n (pc := 0) C 0 dX1_takeTie_0 rfl ?_
  obtain ⟨_, e1, hf⟩ := xbd hf
  obtain ⟨⟨v4, σ3⟩, e2, hf⟩ := xbd hf
  dsimp only at hf
  refine ww_callVi (pc := 1) (as := []) (st := []) C (k_X1_takeSite (l := gl G) (E := gE G) (hb := gB G) (σ := σ) e2) rfl (by decide) xc_X1_122 q622 qp23 (xck_spec e1) rfl (by decide) (xst4 (Nat.le_of_ble_eq_true rfl)) (m_X1_takeSite e2).le (m_X1_takeSite e2).lim dX1_takeTie_1 ?_
  refine ww_istore_n (pc := 4) (lv' := [(1, .int v4), (0, .ref (gB G + r0))]) C dX1_takeTie_4 (by decide) rfl ?_
  refine ww_aload_n (pc := 5) C 1 dX1_takeTie_5 rfl ?_
  obtain ⟨_, e5, hf⟩ := xbd hf
  obtain ⟨⟨v8, σ7⟩, e6, hf⟩ := xbd hf
  dsimp only at hf
  refine ww_callVi (pc := 6) (as := []) (st := []) C (k_X1_takeKind (l := gl G) (E := gE G) (hb := gB G) (σ := σ3) e6) rfl (by decide) xc_X1_92 q586 qp14 (xck_spec e5) rfl (by decide) (xst4 (Nat.le_of_ble_eq_true rfl)) (m_X1_takeKind e6).le (m_X1_takeKind e6).lim dX1_takeTie_6 ?_
  refine ww_bipush (pc := 9) (v := (7 : Int32)) C dX1_takeTie_9 (by decide) ?_
  refine ww_icmp_ne (pc := 11) (tgt := 21) C dX1_takeTie_11 (by decide) (fun q => ?_) (fun q => ?_)
  · have hf := xin q hf
    refine ww_iload_n (pc := 21) C 0 dX1_takeTie_21 rfl ?_
    refine ww_sub [1] rfl ?_
    exact s_X1_takeTie_j22 C hf hk
  · have hf := xip q hf
    refine ww_bipush (pc := 14) (v := (16 : Int32)) C dX1_takeTie_14 (by decide) ?_
    refine ww_iload_n (pc := 16) C 0 dX1_takeTie_16 rfl ?_
    refine ww_iadd (pc := 17) C dX1_takeTie_17 ?_
    refine ww_goto (pc := 18) (tgt := 22) C dX1_takeTie_18 (by decide) ?_
    refine ww_sub [1] rfl ?_
    exact s_X1_takeTie_j22 C hf hk
theorem m_X1_takeTie {σ : XS} {r0 : Nat} {x : XS} (hf : f_X1_takeTie σ r0 = some x) : xsame σ x := by
  have hm := xsame.rf (σ := σ)
  obtain ⟨_, e1, hf⟩ := xbd hf
  obtain ⟨⟨v4, σ3⟩, e2, hf⟩ := xbd hf
  dsimp only at hf
  have hm := hm.tr (m_X1_takeSite e2)
  obtain ⟨_, e5, hf⟩ := xbd hf
  obtain ⟨⟨v8, σ7⟩, e6, hf⟩ := xbd hf
  dsimp only at hf
  have hm := hm.tr (m_X1_takeKind e6)
  by_cases q : v8 = (7 : Int32)
  · have hf := xip q hf
    exact hm.tr (m_X1_takeTie_j22 hf)
  · have hf := xin q hf
    exact hm.tr (m_X1_takeTie_j22 hf)
theorem k_X1_takeTie {l : Launch} {E : XD} {hb : Nat} {σ : XS} {r0 : Nat} {x : XS} (h : f_X1_takeTie σ r0 = some x) : XM l yX1_takeTie cX1_takeTie 4 none 3 64 E hb [.ref (hb + r0)] σ none x := by
  refine xm_of (by decide) (Nat.le_of_ble_eq_true rfl) (m_X1_takeTie h).le (fun G hG C hl hQ => ?_)
  obtain ⟨rfl, rfl, rfl, hN⟩ := hG
  exact s_X1_takeTie_e C h hQ
noncomputable def f_X1_takePull (σ : XS) (r0 : Nat) : Option XS := (xck σ r0 1).bind fun _ => (f_X1_takeSite σ r0).bind fun (v4, σ3) => (xck σ3 r0 1).bind fun _ => (f_X1_takeJ σ3 r0).bind fun (v8, σ7) => (xgI σ7 r0 1 2).bind fun v10 => if v10 = 0 then ((xgR σ7 r0 1 1).bind fun z12 => (xck σ7 z12 6).bind fun _ => (f_X6_setField σ7 z12 v4 v8).bind fun σ15 => (xgI σ15 r0 1 12).bind fun v17 => (xpI σ15 r0 1 12 (v17 ||| ((1 : Int32) <<< (v4 &&& 31)))).bind fun σ19 => some σ19) else some σ7
theorem s_X1_takePull_e {G : XG} (C : XC G cX1_takePull RX1 none 3 3 64) {σ : XS} {r0 : Nat} {x : XS} (hf : f_X1_takePull σ r0 = some x) (hk : XEnd G none x) : WW G 0 [(0, .ref (gB G + r0))] [] σ := by
  refine ww_aload_n (pc := 0) C 0 dX1_takePull_0 rfl ?_
  obtain ⟨_, e1, hf⟩ := xbd hf
  obtain ⟨⟨v4, σ3⟩, e2, hf⟩ := xbd hf
  dsimp only at hf
  refine ww_callVi (pc := 1) (as := []) (st := []) C (k_X1_takeSite (l := gl G) (E := gE G) (hb := gB G) (σ := σ) e2) rfl (by decide) xc_X1_122 q622 qp23 (xck_spec e1) rfl (by decide) (xst4 (Nat.le_of_ble_eq_true rfl)) (m_X1_takeSite e2).le (m_X1_takeSite e2).lim dX1_takePull_1 ?_
  refine ww_istore_n (pc := 4) (lv' := [(1, .int v4), (0, .ref (gB G + r0))]) C dX1_takePull_4 (by decide) rfl ?_
  refine ww_aload_n (pc := 5) C 1 dX1_takePull_5 rfl ?_
  obtain ⟨_, e5, hf⟩ := xbd hf
  obtain ⟨⟨v8, σ7⟩, e6, hf⟩ := xbd hf
  dsimp only at hf
  refine ww_callVi (pc := 6) (as := []) (st := []) C (k_X1_takeJ (l := gl G) (E := gE G) (hb := gB G) (σ := σ3) e6) rfl (by decide) xc_X1_107 q614 qp21 (xck_spec e5) rfl (by decide) (xst4 (Nat.le_of_ble_eq_true rfl)) (m_X1_takeJ e6).le (m_X1_takeJ e6).lim dX1_takePull_6 ?_
  refine ww_istore_n (pc := 9) (lv' := [(2, .int v8), (1, .int v4), (0, .ref (gB G + r0))]) C dX1_takePull_9 (by decide) rfl ?_
  refine ww_aload_n (pc := 10) C 2 dX1_takePull_10 rfl ?_
  obtain ⟨v10, e9, hf⟩ := xbd hf
  refine gf_X1_46 (pc := 11) C e9 dX1_takePull_11 ?_
  refine ww_if_ne (pc := 14) (tgt := 38) C dX1_takePull_14 (by decide) (fun q => ?_) (fun q => ?_)
  · have hf := xin q hf
    have hf := xsj hf
    subst hf
    exact ww_vret (pc := 38) C hk dX1_takePull_38
  · have hf := xip q hf
    refine ww_aload_n (pc := 17) C 2 dX1_takePull_17 rfl ?_
    obtain ⟨z12, e11, hf⟩ := xbd hf
    refine gf_X1_21 (pc := 18) C e11 dX1_takePull_18 ?_
    refine ww_iload_n (pc := 21) C 1 dX1_takePull_21 rfl ?_
    refine ww_iload_n (pc := 22) C 0 dX1_takePull_22 rfl ?_
    obtain ⟨_, e13, hf⟩ := xbd hf
    obtain ⟨σ15, e14, hf⟩ := xbd hf
    refine ww_callVv (pc := 23) (as := [.int v4, .int v8]) (st := []) C (k_X6_setField (l := gl G) (E := gE G) (hb := gB G) (σ := σ7) e14) rfl (by decide) xc_X1_134 q640 qp26 (xck_spec e13) rfl (by decide) (xst4 (Nat.le_of_ble_eq_true rfl)) (m_X6_setField e14).le (m_X6_setField e14).lim dX1_takePull_23 ?_
    refine ww_aload_n (pc := 26) C 2 dX1_takePull_26 rfl ?_
    refine ww_dup (pc := 27) C dX1_takePull_27 rfl ?_
    obtain ⟨v17, e16, hf⟩ := xbd hf
    refine gf_X1_82 (pc := 28) C e16 dX1_takePull_28 ?_
    refine ww_iconst (pc := 31) (v := (1 : Int32)) C dX1_takePull_31 (by decide) ?_
    refine ww_iload_n (pc := 32) C 1 dX1_takePull_32 rfl ?_
    refine ww_ishl (pc := 33) C dX1_takePull_33 ?_
    refine ww_ior (pc := 34) C dX1_takePull_34 ?_
    obtain ⟨σ19, e18, hf⟩ := xbd hf
    refine pf_X1_82 (pc := 35) C e18 dX1_takePull_35 ?_
    have hf := xsj hf
    subst hf
    exact ww_vret (pc := 38) C hk dX1_takePull_38
theorem m_X1_takePull {σ : XS} {r0 : Nat} {x : XS} (hf : f_X1_takePull σ r0 = some x) : xsame σ x := by
  have hm := xsame.rf (σ := σ)
  obtain ⟨_, e1, hf⟩ := xbd hf
  obtain ⟨⟨v4, σ3⟩, e2, hf⟩ := xbd hf
  dsimp only at hf
  have hm := hm.tr (m_X1_takeSite e2)
  obtain ⟨_, e5, hf⟩ := xbd hf
  obtain ⟨⟨v8, σ7⟩, e6, hf⟩ := xbd hf
  dsimp only at hf
  have hm := hm.tr (m_X1_takeJ e6)
  obtain ⟨v10, e9, hf⟩ := xbd hf
  by_cases q : v10 = 0
  · have hf := xip q hf
    obtain ⟨z12, e11, hf⟩ := xbd hf
    obtain ⟨_, e13, hf⟩ := xbd hf
    obtain ⟨σ15, e14, hf⟩ := xbd hf
    have hm := hm.tr (m_X6_setField e14)
    obtain ⟨v17, e16, hf⟩ := xbd hf
    obtain ⟨σ19, e18, hf⟩ := xbd hf
    have hm := hm.tr (xpI_same e18)
    have hf := xsj hf
    subst hf
    exact hm
  · have hf := xin q hf
    have hf := xsj hf
    subst hf
    exact hm
theorem k_X1_takePull {l : Launch} {E : XD} {hb : Nat} {σ : XS} {r0 : Nat} {x : XS} (h : f_X1_takePull σ r0 = some x) : XM l yX1_takePull cX1_takePull 3 none 3 64 E hb [.ref (hb + r0)] σ none x := by
  refine xm_of (by decide) (Nat.le_of_ble_eq_true rfl) (m_X1_takePull h).le (fun G hG C hl hQ => ?_)
  obtain ⟨rfl, rfl, rfl, hN⟩ := hG
  exact s_X1_takePull_e C h hQ
noncomputable def f_X1_takePin_j19 (σ : XS) (r0 : Nat) (x1 : Int32) (t0 : Int32) : Option XS := (xgI σ r0 1 2).bind fun v2 => if v2 = 0 then ((xgR σ r0 1 1).bind fun z4 => (xck σ z4 6).bind fun _ => (f_X6_setPin σ z4 x1 t0).bind fun σ7 => some σ7) else some σ
noncomputable def f_X1_takePin (σ : XS) (r0 : Nat) : Option XS := (xck σ r0 1).bind fun _ => (f_X1_takeSite σ r0).bind fun (v4, σ3) => (xck σ3 r0 1).bind fun _ => (f_X1_takeKind σ3 r0).bind fun (v8, σ7) => if v8 = (13 : Int32) then (f_X1_takePin_j19 σ7 r0 v4 (1 : Int32)) else f_X1_takePin_j19 σ7 r0 v4 (2 : Int32)
theorem s_X1_takePin_j19 {G : XG} (C : XC G cX1_takePin RX1 none 3 3 63) {σ : XS} {r0 : Nat} {x1 : Int32} {t0 : Int32} {x : XS} (hf : f_X1_takePin_j19 σ r0 x1 t0 = some x) (hk : XEnd G none x) : WW G 19 [(0, .ref (gB G + r0)), (1, .int x1)] [.int t0] σ := by
  refine ww_istore_n (pc := 19) (lv' := [(2, .int t0), (0, .ref (gB G + r0)), (1, .int x1)]) C dX1_takePin_19 (by decide) rfl ?_
  refine ww_aload_n (pc := 20) C 1 dX1_takePin_20 rfl ?_
  obtain ⟨v2, e1, hf⟩ := xbd hf
  refine gf_X1_46 (pc := 21) C e1 dX1_takePin_21 ?_
  refine ww_if_ne (pc := 24) (tgt := 36) C dX1_takePin_24 (by decide) (fun q => ?_) (fun q => ?_)
  · have hf := xin q hf
    have hf := xsj hf
    subst hf
    exact ww_vret (pc := 36) C hk dX1_takePin_36
  · have hf := xip q hf
    refine ww_aload_n (pc := 27) C 1 dX1_takePin_27 rfl ?_
    obtain ⟨z4, e3, hf⟩ := xbd hf
    refine gf_X1_21 (pc := 28) C e3 dX1_takePin_28 ?_
    refine ww_iload_n (pc := 31) C 2 dX1_takePin_31 rfl ?_
    refine ww_iload_n (pc := 32) C 0 dX1_takePin_32 rfl ?_
    obtain ⟨_, e5, hf⟩ := xbd hf
    obtain ⟨σ7, e6, hf⟩ := xbd hf
    refine ww_callVv (pc := 33) (as := [.int x1, .int t0]) (st := []) C (k_X6_setPin (l := gl G) (E := gE G) (hb := gB G) (σ := σ) e6) rfl (by decide) xc_X1_137 q648 qp28 (xck_spec e5) rfl (by decide) (xst4 (Nat.le_of_ble_eq_true rfl)) (m_X6_setPin e6).le (m_X6_setPin e6).lim dX1_takePin_33 ?_
    have hf := xsj hf
    subst hf
    exact ww_vret (pc := 36) C hk dX1_takePin_36
theorem m_X1_takePin_j19 {σ : XS} {r0 : Nat} {x1 : Int32} {t0 : Int32} {x : XS} (hf : f_X1_takePin_j19 σ r0 x1 t0 = some x) : xsame σ x := by
  have hm := xsame.rf (σ := σ)
  obtain ⟨v2, e1, hf⟩ := xbd hf
  by_cases q : v2 = 0
  · have hf := xip q hf
    obtain ⟨z4, e3, hf⟩ := xbd hf
    obtain ⟨_, e5, hf⟩ := xbd hf
    obtain ⟨σ7, e6, hf⟩ := xbd hf
    have hm := hm.tr (m_X6_setPin e6)
    have hf := xsj hf
    subst hf
    exact hm
  · have hf := xin q hf
    have hf := xsj hf
    subst hf
    exact hm
theorem s_X1_takePin_e {G : XG} (C : XC G cX1_takePin RX1 none 3 3 63) {σ : XS} {r0 : Nat} {x : XS} (hf : f_X1_takePin σ r0 = some x) (hk : XEnd G none x) : WW G 0 [(0, .ref (gB G + r0))] [] σ := by
  refine ww_aload_n (pc := 0) C 0 dX1_takePin_0 rfl ?_
  obtain ⟨_, e1, hf⟩ := xbd hf
  obtain ⟨⟨v4, σ3⟩, e2, hf⟩ := xbd hf
  dsimp only at hf
  refine ww_callVi (pc := 1) (as := []) (st := []) C (k_X1_takeSite (l := gl G) (E := gE G) (hb := gB G) (σ := σ) e2) rfl (by decide) xc_X1_122 q622 qp23 (xck_spec e1) rfl (by decide) (xst4 (Nat.le_of_ble_eq_true rfl)) (m_X1_takeSite e2).le (m_X1_takeSite e2).lim dX1_takePin_1 ?_
  refine ww_istore_n (pc := 4) (lv' := [(1, .int v4), (0, .ref (gB G + r0))]) C dX1_takePin_4 (by decide) rfl ?_
  refine ww_aload_n (pc := 5) C 1 dX1_takePin_5 rfl ?_
  obtain ⟨_, e5, hf⟩ := xbd hf
  obtain ⟨⟨v8, σ7⟩, e6, hf⟩ := xbd hf
  dsimp only at hf
  refine ww_callVi (pc := 6) (as := []) (st := []) C (k_X1_takeKind (l := gl G) (E := gE G) (hb := gB G) (σ := σ3) e6) rfl (by decide) xc_X1_92 q586 qp14 (xck_spec e5) rfl (by decide) (xst4 (Nat.le_of_ble_eq_true rfl)) (m_X1_takeKind e6).le (m_X1_takeKind e6).lim dX1_takePin_6 ?_
  refine ww_bipush (pc := 9) (v := (13 : Int32)) C dX1_takePin_9 (by decide) ?_
  refine ww_icmp_ne (pc := 11) (tgt := 18) C dX1_takePin_11 (by decide) (fun q => ?_) (fun q => ?_)
  · have hf := xin q hf
    refine ww_iconst (pc := 18) (v := (2 : Int32)) C dX1_takePin_18 (by decide) ?_
    refine ww_sub [1, 0] rfl ?_
    exact s_X1_takePin_j19 C hf hk
  · have hf := xip q hf
    refine ww_iconst (pc := 14) (v := (1 : Int32)) C dX1_takePin_14 (by decide) ?_
    refine ww_goto (pc := 15) (tgt := 19) C dX1_takePin_15 (by decide) ?_
    refine ww_sub [1, 0] rfl ?_
    exact s_X1_takePin_j19 C hf hk
theorem m_X1_takePin {σ : XS} {r0 : Nat} {x : XS} (hf : f_X1_takePin σ r0 = some x) : xsame σ x := by
  have hm := xsame.rf (σ := σ)
  obtain ⟨_, e1, hf⟩ := xbd hf
  obtain ⟨⟨v4, σ3⟩, e2, hf⟩ := xbd hf
  dsimp only at hf
  have hm := hm.tr (m_X1_takeSite e2)
  obtain ⟨_, e5, hf⟩ := xbd hf
  obtain ⟨⟨v8, σ7⟩, e6, hf⟩ := xbd hf
  dsimp only at hf
  have hm := hm.tr (m_X1_takeKind e6)
  by_cases q : v8 = (13 : Int32)
  · have hf := xip q hf
    exact hm.tr (m_X1_takePin_j19 hf)
  · have hf := xin q hf
    exact hm.tr (m_X1_takePin_j19 hf)
theorem k_X1_takePin {l : Launch} {E : XD} {hb : Nat} {σ : XS} {r0 : Nat} {x : XS} (h : f_X1_takePin σ r0 = some x) : XM l yX1_takePin cX1_takePin 3 none 3 63 E hb [.ref (hb + r0)] σ none x := by
  refine xm_of (by decide) (Nat.le_of_ble_eq_true rfl) (m_X1_takePin h).le (fun G hG C hl hQ => ?_)
  obtain ⟨rfl, rfl, rfl, hN⟩ := hG
  exact s_X1_takePin_e C h hQ
noncomputable def f_X1_takeTell_j133 (σ : XS) (r0 : Nat) : Option XS := (xck σ r0 1).bind fun _ => (f_X1_takeKind σ r0).bind fun (v4, σ3) => some σ3
noncomputable def f_X1_takeTell (σ : XS) (r0 : Nat) : Option XS := (xck σ r0 1).bind fun _ => (f_X1_takeKind σ r0).bind fun (v4, σ3) => xsw v4 (6) [(xck σ3 r0 1).bind fun _ => (f_X1_takeJ σ3 r0).bind fun (v8, σ7) => (xpI σ7 r0 1 8 v8).bind fun σ10 => f_X1_takeTell_j133 σ10 r0, (xck σ3 r0 1).bind fun _ => (f_X1_takeJ σ3 r0).bind fun (v8, σ7) => (xpI σ7 r0 1 9 v8).bind fun σ10 => f_X1_takeTell_j133 σ10 r0, (xck σ3 r0 1).bind fun _ => (f_X1_takeJ σ3 r0).bind fun (v8, σ7) => (xpI σ7 r0 1 10 v8).bind fun σ10 => f_X1_takeTell_j133 σ10 r0, (xck σ3 r0 1).bind fun _ => (f_X1_takeKind σ3 r0).bind fun (v8, σ7) => f_X1_takeTell_j133 σ7 r0, (xck σ3 r0 1).bind fun _ => (f_X1_takeTie σ3 r0).bind fun σ7 => f_X1_takeTell_j133 σ7 r0, (xck σ3 r0 1).bind fun _ => (f_X1_takePull σ3 r0).bind fun σ7 => f_X1_takeTell_j133 σ7 r0, (xck σ3 r0 1).bind fun _ => (f_X1_takePin σ3 r0).bind fun σ7 => f_X1_takeTell_j133 σ7 r0, (xck σ3 r0 1).bind fun _ => (f_X1_takeKind σ3 r0).bind fun (v8, σ7) => f_X1_takeTell_j133 σ7 r0, (xck σ3 r0 1).bind fun _ => (f_X1_takeKind σ3 r0).bind fun (v8, σ7) => f_X1_takeTell_j133 σ7 r0, (xgR σ3 r0 1 1).bind fun z6 => (xck σ3 r0 1).bind fun _ => (f_X1_takeInt σ3 r0).bind fun (v10, σ9) => (xpI σ9 z6 6 5 v10).bind fun σ12 => f_X1_takeTell_j133 σ12 r0] ((xck σ3 r0 1).bind fun _ => (f_X1_takeKind σ3 r0).bind fun (v8, σ7) => f_X1_takeTell_j133 σ7 r0)
theorem s_X1_takeTell_j133 {G : XG} (C : XC G cX1_takeTell RX1 none 1 4 87) {σ : XS} {r0 : Nat} {x : XS} (hf : f_X1_takeTell_j133 σ r0 = some x) (hk : XEnd G none x) : WW G 133 [(0, .ref (gB G + r0))] [] σ := by
  refine ww_aload_n (pc := 133) C 0 dX1_takeTell_133 rfl ?_
  obtain ⟨_, e1, hf⟩ := xbd hf
  obtain ⟨⟨v4, σ3⟩, e2, hf⟩ := xbd hf
  dsimp only at hf
  refine ww_callVi (pc := 134) (as := []) (st := []) C (k_X1_takeKind (l := gl G) (E := gE G) (hb := gB G) (σ := σ) e2) rfl (by decide) xc_X1_92 q586 qp14 (xck_spec e1) rfl (by decide) (xst4 (Nat.le_of_ble_eq_true rfl)) (m_X1_takeKind e2).le (m_X1_takeKind e2).lim dX1_takeTell_134 ?_
  refine ww_pop (pc := 137) C dX1_takeTell_137 rfl ?_
  have hf := xsj hf
  subst hf
  exact ww_vret (pc := 138) C hk dX1_takeTell_138
theorem m_X1_takeTell_j133 {σ : XS} {r0 : Nat} {x : XS} (hf : f_X1_takeTell_j133 σ r0 = some x) : xsame σ x := by
  have hm := xsame.rf (σ := σ)
  obtain ⟨_, e1, hf⟩ := xbd hf
  obtain ⟨⟨v4, σ3⟩, e2, hf⟩ := xbd hf
  dsimp only at hf
  have hm := hm.tr (m_X1_takeKind e2)
  have hf := xsj hf
  subst hf
  exact hm
theorem s_X1_takeTell_e {G : XG} (C : XC G cX1_takeTell RX1 none 1 4 87) {σ : XS} {r0 : Nat} {x : XS} (hf : f_X1_takeTell σ r0 = some x) (hk : XEnd G none x) : WW G 0 [(0, .ref (gB G + r0))] [] σ := by
  refine ww_aload_n (pc := 0) C 0 dX1_takeTell_0 rfl ?_
  obtain ⟨_, e1, hf⟩ := xbd hf
  obtain ⟨⟨v4, σ3⟩, e2, hf⟩ := xbd hf
  dsimp only at hf
  refine ww_callVi (pc := 1) (as := []) (st := []) C (k_X1_takeKind (l := gl G) (E := gE G) (hb := gB G) (σ := σ) e2) rfl (by decide) xc_X1_92 q586 qp14 (xck_spec e1) rfl (by decide) (xst4 (Nat.le_of_ble_eq_true rfl)) (m_X1_takeKind e2).le (m_X1_takeKind e2).lim dX1_takeTell_1 ?_
  refine ww_table (pc := 4) C dX1_takeTell_4 (fun k hk1 hk2 => ?_) (fun ho => ?_)
  · rcases (by omega : k = 0 ∨ k = 1 ∨ k = 2 ∨ k = 3 ∨ k = 4 ∨ k = 5 ∨ k = 6 ∨ k = 7 ∨ k = 8 ∨ k = 9) with rfl | rfl | rfl | rfl | rfl | rfl | rfl | rfl | rfl | rfl
    · refine ⟨60, 56, rfl, by decide, ?_⟩
      have hf := xsw_in 0 hk1 rfl hf
      refine ww_aload_n (pc := 60) C 0 dX1_takeTell_60 rfl ?_
      refine ww_aload_n (pc := 61) C 0 dX1_takeTell_61 rfl ?_
      obtain ⟨_, e5, hf⟩ := xbd hf
      obtain ⟨⟨v8, σ7⟩, e6, hf⟩ := xbd hf
      dsimp only at hf
      refine ww_callVi (pc := 62) (as := []) (st := [.ref (gB G + r0)]) C (k_X1_takeJ (l := gl G) (E := gE G) (hb := gB G) (σ := σ3) e6) rfl (by decide) xc_X1_107 q614 qp21 (xck_spec e5) rfl (by decide) (xst4 (Nat.le_of_ble_eq_true rfl)) (m_X1_takeJ e6).le (m_X1_takeJ e6).lim dX1_takeTell_62 ?_
      obtain ⟨σ10, e9, hf⟩ := xbd hf
      refine pf_X1_70 (pc := 65) C e9 dX1_takeTell_65 ?_
      refine ww_goto (pc := 68) (tgt := 133) C dX1_takeTell_68 (by decide) ?_
      refine ww_sub [0] rfl ?_
      exact s_X1_takeTell_j133 C hf hk
    · refine ⟨71, 67, rfl, by decide, ?_⟩
      have hf := xsw_in 1 hk1 rfl hf
      refine ww_aload_n (pc := 71) C 0 dX1_takeTell_71 rfl ?_
      refine ww_aload_n (pc := 72) C 0 dX1_takeTell_72 rfl ?_
      obtain ⟨_, e5, hf⟩ := xbd hf
      obtain ⟨⟨v8, σ7⟩, e6, hf⟩ := xbd hf
      dsimp only at hf
      refine ww_callVi (pc := 73) (as := []) (st := [.ref (gB G + r0)]) C (k_X1_takeJ (l := gl G) (E := gE G) (hb := gB G) (σ := σ3) e6) rfl (by decide) xc_X1_107 q614 qp21 (xck_spec e5) rfl (by decide) (xst4 (Nat.le_of_ble_eq_true rfl)) (m_X1_takeJ e6).le (m_X1_takeJ e6).lim dX1_takeTell_73 ?_
      obtain ⟨σ10, e9, hf⟩ := xbd hf
      refine pf_X1_73 (pc := 76) C e9 dX1_takeTell_76 ?_
      refine ww_goto (pc := 79) (tgt := 133) C dX1_takeTell_79 (by decide) ?_
      refine ww_sub [0] rfl ?_
      exact s_X1_takeTell_j133 C hf hk
    · refine ⟨82, 78, rfl, by decide, ?_⟩
      have hf := xsw_in 2 hk1 rfl hf
      refine ww_aload_n (pc := 82) C 0 dX1_takeTell_82 rfl ?_
      refine ww_aload_n (pc := 83) C 0 dX1_takeTell_83 rfl ?_
      obtain ⟨_, e5, hf⟩ := xbd hf
      obtain ⟨⟨v8, σ7⟩, e6, hf⟩ := xbd hf
      dsimp only at hf
      refine ww_callVi (pc := 84) (as := []) (st := [.ref (gB G + r0)]) C (k_X1_takeJ (l := gl G) (E := gE G) (hb := gB G) (σ := σ3) e6) rfl (by decide) xc_X1_107 q614 qp21 (xck_spec e5) rfl (by decide) (xst4 (Nat.le_of_ble_eq_true rfl)) (m_X1_takeJ e6).le (m_X1_takeJ e6).lim dX1_takeTell_84 ?_
      obtain ⟨σ10, e9, hf⟩ := xbd hf
      refine pf_X1_76 (pc := 87) C e9 dX1_takeTell_87 ?_
      refine ww_goto (pc := 90) (tgt := 133) C dX1_takeTell_90 (by decide) ?_
      refine ww_sub [0] rfl ?_
      exact s_X1_takeTell_j133 C hf hk
    · refine ⟨128, 124, rfl, by decide, ?_⟩
      have hf := xsw_in 3 hk1 rfl hf
      refine ww_aload_n (pc := 128) C 0 dX1_takeTell_128 rfl ?_
      obtain ⟨_, e5, hf⟩ := xbd hf
      obtain ⟨⟨v8, σ7⟩, e6, hf⟩ := xbd hf
      dsimp only at hf
      refine ww_callVi (pc := 129) (as := []) (st := []) C (k_X1_takeKind (l := gl G) (E := gE G) (hb := gB G) (σ := σ3) e6) rfl (by decide) xc_X1_92 q586 qp14 (xck_spec e5) rfl (by decide) (xst4 (Nat.le_of_ble_eq_true rfl)) (m_X1_takeKind e6).le (m_X1_takeKind e6).lim dX1_takeTell_129 ?_
      refine ww_pop (pc := 132) C dX1_takeTell_132 rfl ?_
      refine ww_sub [0] rfl ?_
      exact s_X1_takeTell_j133 C hf hk
    · refine ⟨93, 89, rfl, by decide, ?_⟩
      have hf := xsw_in 4 hk1 rfl hf
      refine ww_aload_n (pc := 93) C 0 dX1_takeTell_93 rfl ?_
      obtain ⟨_, e5, hf⟩ := xbd hf
      obtain ⟨σ7, e6, hf⟩ := xbd hf
      refine ww_callVv (pc := 94) (as := []) (st := []) C (k_X1_takeTie (l := gl G) (E := gE G) (hb := gB G) (σ := σ3) e6) rfl (by decide) xc_X1_110 q618 qp22 (xck_spec e5) rfl (by decide) (xst4 (Nat.le_of_ble_eq_true rfl)) (m_X1_takeTie e6).le (m_X1_takeTie e6).lim dX1_takeTell_94 ?_
      refine ww_goto (pc := 97) (tgt := 133) C dX1_takeTell_97 (by decide) ?_
      refine ww_sub [0] rfl ?_
      exact s_X1_takeTell_j133 C hf hk
    · refine ⟨100, 96, rfl, by decide, ?_⟩
      have hf := xsw_in 5 hk1 rfl hf
      refine ww_aload_n (pc := 100) C 0 dX1_takeTell_100 rfl ?_
      obtain ⟨_, e5, hf⟩ := xbd hf
      obtain ⟨σ7, e6, hf⟩ := xbd hf
      refine ww_callVv (pc := 101) (as := []) (st := []) C (k_X1_takePull (l := gl G) (E := gE G) (hb := gB G) (σ := σ3) e6) rfl (by decide) xc_X1_113 q636 qp25 (xck_spec e5) rfl (by decide) (xst4 (Nat.le_of_ble_eq_true rfl)) (m_X1_takePull e6).le (m_X1_takePull e6).lim dX1_takeTell_101 ?_
      refine ww_goto (pc := 104) (tgt := 133) C dX1_takeTell_104 (by decide) ?_
      refine ww_sub [0] rfl ?_
      exact s_X1_takeTell_j133 C hf hk
    · refine ⟨107, 103, rfl, by decide, ?_⟩
      have hf := xsw_in 6 hk1 rfl hf
      refine ww_aload_n (pc := 107) C 0 dX1_takeTell_107 rfl ?_
      obtain ⟨_, e5, hf⟩ := xbd hf
      obtain ⟨σ7, e6, hf⟩ := xbd hf
      refine ww_callVv (pc := 108) (as := []) (st := []) C (k_X1_takePin (l := gl G) (E := gE G) (hb := gB G) (σ := σ3) e6) rfl (by decide) xc_X1_116 q644 qp27 (xck_spec e5) rfl (by decide) (xst4 (Nat.le_of_ble_eq_true rfl)) (m_X1_takePin e6).le (m_X1_takePin e6).lim dX1_takeTell_108 ?_
      refine ww_goto (pc := 111) (tgt := 133) C dX1_takeTell_111 (by decide) ?_
      refine ww_sub [0] rfl ?_
      exact s_X1_takeTell_j133 C hf hk
    · refine ⟨128, 124, rfl, by decide, ?_⟩
      have hf := xsw_in 7 hk1 rfl hf
      refine ww_aload_n (pc := 128) C 0 dX1_takeTell_128 rfl ?_
      obtain ⟨_, e5, hf⟩ := xbd hf
      obtain ⟨⟨v8, σ7⟩, e6, hf⟩ := xbd hf
      dsimp only at hf
      refine ww_callVi (pc := 129) (as := []) (st := []) C (k_X1_takeKind (l := gl G) (E := gE G) (hb := gB G) (σ := σ3) e6) rfl (by decide) xc_X1_92 q586 qp14 (xck_spec e5) rfl (by decide) (xst4 (Nat.le_of_ble_eq_true rfl)) (m_X1_takeKind e6).le (m_X1_takeKind e6).lim dX1_takeTell_129 ?_
      refine ww_pop (pc := 132) C dX1_takeTell_132 rfl ?_
      refine ww_sub [0] rfl ?_
      exact s_X1_takeTell_j133 C hf hk
    · refine ⟨128, 124, rfl, by decide, ?_⟩
      have hf := xsw_in 8 hk1 rfl hf
      refine ww_aload_n (pc := 128) C 0 dX1_takeTell_128 rfl ?_
      obtain ⟨_, e5, hf⟩ := xbd hf
      obtain ⟨⟨v8, σ7⟩, e6, hf⟩ := xbd hf
      dsimp only at hf
      refine ww_callVi (pc := 129) (as := []) (st := []) C (k_X1_takeKind (l := gl G) (E := gE G) (hb := gB G) (σ := σ3) e6) rfl (by decide) xc_X1_92 q586 qp14 (xck_spec e5) rfl (by decide) (xst4 (Nat.le_of_ble_eq_true rfl)) (m_X1_takeKind e6).le (m_X1_takeKind e6).lim dX1_takeTell_129 ?_
      refine ww_pop (pc := 132) C dX1_takeTell_132 rfl ?_
      refine ww_sub [0] rfl ?_
      exact s_X1_takeTell_j133 C hf hk
    · refine ⟨114, 110, rfl, by decide, ?_⟩
      have hf := xsw_in 9 hk1 rfl hf
      refine ww_aload_n (pc := 114) C 0 dX1_takeTell_114 rfl ?_
      obtain ⟨z6, e5, hf⟩ := xbd hf
      refine gf_X1_21 (pc := 115) C e5 dX1_takeTell_115 ?_
      refine ww_aload_n (pc := 118) C 0 dX1_takeTell_118 rfl ?_
      obtain ⟨_, e7, hf⟩ := xbd hf
      obtain ⟨⟨v10, σ9⟩, e8, hf⟩ := xbd hf
      dsimp only at hf
      refine ww_callVi (pc := 119) (as := []) (st := [.ref (gB G + z6)]) C (k_X1_takeInt (l := gl G) (E := gE G) (hb := gB G) (σ := σ3) e8) rfl (by decide) xc_X1_95 q594 qp16 (xck_spec e7) rfl (by decide) (xst4 (Nat.le_of_ble_eq_true rfl)) (m_X1_takeInt e8).le (m_X1_takeInt e8).lim dX1_takeTell_119 ?_
      obtain ⟨σ12, e11, hf⟩ := xbd hf
      refine pf_X1_119 (pc := 122) C e11 dX1_takeTell_122 ?_
      refine ww_goto (pc := 125) (tgt := 133) C dX1_takeTell_125 (by decide) ?_
      refine ww_sub [0] rfl ?_
      exact s_X1_takeTell_j133 C hf hk
  · refine ⟨128, by decide, ?_⟩
    have hf := xsw_out ho rfl hf
    refine ww_aload_n (pc := 128) C 0 dX1_takeTell_128 rfl ?_
    obtain ⟨_, e5, hf⟩ := xbd hf
    obtain ⟨⟨v8, σ7⟩, e6, hf⟩ := xbd hf
    dsimp only at hf
    refine ww_callVi (pc := 129) (as := []) (st := []) C (k_X1_takeKind (l := gl G) (E := gE G) (hb := gB G) (σ := σ3) e6) rfl (by decide) xc_X1_92 q586 qp14 (xck_spec e5) rfl (by decide) (xst4 (Nat.le_of_ble_eq_true rfl)) (m_X1_takeKind e6).le (m_X1_takeKind e6).lim dX1_takeTell_129 ?_
    refine ww_pop (pc := 132) C dX1_takeTell_132 rfl ?_
    refine ww_sub [0] rfl ?_
    exact s_X1_takeTell_j133 C hf hk
theorem m_X1_takeTell {σ : XS} {r0 : Nat} {x : XS} (hf : f_X1_takeTell σ r0 = some x) : xsame σ x := by
  have hm := xsame.rf (σ := σ)
  obtain ⟨_, e1, hf⟩ := xbd hf
  obtain ⟨⟨v4, σ3⟩, e2, hf⟩ := xbd hf
  dsimp only at hf
  have hm := hm.tr (m_X1_takeKind e2)
  by_cases ho : (v4).toInt < 6 ∨ 15 < (v4).toInt
  · have hf := xsw_out ho rfl hf
    obtain ⟨_, e5, hf⟩ := xbd hf
    obtain ⟨⟨v8, σ7⟩, e6, hf⟩ := xbd hf
    dsimp only at hf
    have hm := hm.tr (m_X1_takeKind e6)
    exact hm.tr (m_X1_takeTell_j133 hf)
  · rcases (by omega : (v4).toInt = 6 + ((0 : Nat) : Int) ∨ (v4).toInt = 6 + ((1 : Nat) : Int) ∨ (v4).toInt = 6 + ((2 : Nat) : Int) ∨ (v4).toInt = 6 + ((3 : Nat) : Int) ∨ (v4).toInt = 6 + ((4 : Nat) : Int) ∨ (v4).toInt = 6 + ((5 : Nat) : Int) ∨ (v4).toInt = 6 + ((6 : Nat) : Int) ∨ (v4).toInt = 6 + ((7 : Nat) : Int) ∨ (v4).toInt = 6 + ((8 : Nat) : Int) ∨ (v4).toInt = 6 + ((9 : Nat) : Int)) with hk1 | hk1 | hk1 | hk1 | hk1 | hk1 | hk1 | hk1 | hk1 | hk1
    · have hf := xsw_in 0 hk1 rfl hf
      obtain ⟨_, e5, hf⟩ := xbd hf
      obtain ⟨⟨v8, σ7⟩, e6, hf⟩ := xbd hf
      dsimp only at hf
      have hm := hm.tr (m_X1_takeJ e6)
      obtain ⟨σ10, e9, hf⟩ := xbd hf
      have hm := hm.tr (xpI_same e9)
      exact hm.tr (m_X1_takeTell_j133 hf)
    · have hf := xsw_in 1 hk1 rfl hf
      obtain ⟨_, e5, hf⟩ := xbd hf
      obtain ⟨⟨v8, σ7⟩, e6, hf⟩ := xbd hf
      dsimp only at hf
      have hm := hm.tr (m_X1_takeJ e6)
      obtain ⟨σ10, e9, hf⟩ := xbd hf
      have hm := hm.tr (xpI_same e9)
      exact hm.tr (m_X1_takeTell_j133 hf)
    · have hf := xsw_in 2 hk1 rfl hf
      obtain ⟨_, e5, hf⟩ := xbd hf
      obtain ⟨⟨v8, σ7⟩, e6, hf⟩ := xbd hf
      dsimp only at hf
      have hm := hm.tr (m_X1_takeJ e6)
      obtain ⟨σ10, e9, hf⟩ := xbd hf
      have hm := hm.tr (xpI_same e9)
      exact hm.tr (m_X1_takeTell_j133 hf)
    · have hf := xsw_in 3 hk1 rfl hf
      obtain ⟨_, e5, hf⟩ := xbd hf
      obtain ⟨⟨v8, σ7⟩, e6, hf⟩ := xbd hf
      dsimp only at hf
      have hm := hm.tr (m_X1_takeKind e6)
      exact hm.tr (m_X1_takeTell_j133 hf)
    · have hf := xsw_in 4 hk1 rfl hf
      obtain ⟨_, e5, hf⟩ := xbd hf
      obtain ⟨σ7, e6, hf⟩ := xbd hf
      have hm := hm.tr (m_X1_takeTie e6)
      exact hm.tr (m_X1_takeTell_j133 hf)
    · have hf := xsw_in 5 hk1 rfl hf
      obtain ⟨_, e5, hf⟩ := xbd hf
      obtain ⟨σ7, e6, hf⟩ := xbd hf
      have hm := hm.tr (m_X1_takePull e6)
      exact hm.tr (m_X1_takeTell_j133 hf)
    · have hf := xsw_in 6 hk1 rfl hf
      obtain ⟨_, e5, hf⟩ := xbd hf
      obtain ⟨σ7, e6, hf⟩ := xbd hf
      have hm := hm.tr (m_X1_takePin e6)
      exact hm.tr (m_X1_takeTell_j133 hf)
    · have hf := xsw_in 7 hk1 rfl hf
      obtain ⟨_, e5, hf⟩ := xbd hf
      obtain ⟨⟨v8, σ7⟩, e6, hf⟩ := xbd hf
      dsimp only at hf
      have hm := hm.tr (m_X1_takeKind e6)
      exact hm.tr (m_X1_takeTell_j133 hf)
    · have hf := xsw_in 8 hk1 rfl hf
      obtain ⟨_, e5, hf⟩ := xbd hf
      obtain ⟨⟨v8, σ7⟩, e6, hf⟩ := xbd hf
      dsimp only at hf
      have hm := hm.tr (m_X1_takeKind e6)
      exact hm.tr (m_X1_takeTell_j133 hf)
    · have hf := xsw_in 9 hk1 rfl hf
      obtain ⟨z6, e5, hf⟩ := xbd hf
      obtain ⟨_, e7, hf⟩ := xbd hf
      obtain ⟨⟨v10, σ9⟩, e8, hf⟩ := xbd hf
      dsimp only at hf
      have hm := hm.tr (m_X1_takeInt e8)
      obtain ⟨σ12, e11, hf⟩ := xbd hf
      have hm := hm.tr (xpI_same e11)
      exact hm.tr (m_X1_takeTell_j133 hf)
theorem k_X1_takeTell {l : Launch} {E : XD} {hb : Nat} {σ : XS} {r0 : Nat} {x : XS} (h : f_X1_takeTell σ r0 = some x) : XM l yX1_takeTell cX1_takeTell 1 none 4 87 E hb [.ref (hb + r0)] σ none x := by
  refine xm_of (by decide) (Nat.le_of_ble_eq_true rfl) (m_X1_takeTell h).le (fun G hG C hl hQ => ?_)
  obtain ⟨rfl, rfl, rfl, hN⟩ := hG
  exact s_X1_takeTell_e C h hQ
noncomputable def f_X1_giveUntold_b79 (r0 : Nat) : Int32 × XS → Option ((Int32 × XS) ⊕ (XS)) := fun a => match a with
  | (x1, σ) => (xgI σ r0 1 2).bind fun v2 => if v2 = 0 then ((xgI σ r0 1 5).bind fun v4 => (xgI σ r0 1 6).bind fun v6 => if (v4 * v6) ≤ x1 then ((some σ).map .inr) else (xgI σ r0 1 12).bind fun v8 => (f_X11_bitOf v8 x1).bind fun v10 => if v10 = 0 then ((xgR σ r0 1 1).bind fun z12 => (xgI σ r0 1 10).bind fun v14 => (xck σ z12 6).bind fun _ => (f_X6_setField σ z12 x1 v14).bind fun σ17 => some (.inl (x1 + (1 : Int32), σ17))) else some (.inl (x1 + (1 : Int32), σ))) else (some σ).map .inr
noncomputable def f_X1_giveUntold_j68 (σ : XS) (r0 : Nat) (x1 : Int32) (t0 : Nat) (t1 : Int32) (t2 : Int32) : Option ((Int32 × XS) ⊕ (XS)) := (xck σ t0 6).bind fun _ => (f_X6_setBond σ t0 t1 t2).bind fun σ3 => some (.inl (x1 + (1 : Int32), σ3))
noncomputable def f_X1_giveUntold_b2 (r0 : Nat) : Int32 × XS → Option ((Int32 × XS) ⊕ (XS)) := fun a => match a with
  | (x1, σ) => (xgI σ r0 1 2).bind fun v2 => if v2 = 0 then (if (32 : Int32) ≤ x1 then ((xloop (f_X1_giveUntold_b79 r0) ((0 : Int32), σ)).map .inr) else (xgI σ r0 1 11).bind fun v4 => (f_X11_bitOf v4 x1).bind fun v6 => if v6 = 0 then ((xgI σ r0 1 5).bind fun v8 => (xgI σ r0 1 6).bind fun v10 => (xgI σ r0 1 7).bind fun v12 => (f_X3_endOf v8 v10 v12 x1).bind fun v14 => if v14 = (-1 : Int32) then (some (.inl (x1 + (1 : Int32), σ))) else (xgR σ r0 1 1).bind fun z16 => if (16 : Int32) ≤ x1 then ((xgI σ r0 1 9).bind fun v18 => f_X1_giveUntold_j68 σ r0 x1 z16 x1 v18) else (xgI σ r0 1 8).bind fun v18 => f_X1_giveUntold_j68 σ r0 x1 z16 x1 v18) else some (.inl (x1 + (1 : Int32), σ))) else (xloop (f_X1_giveUntold_b79 r0) ((0 : Int32), σ)).map .inr
noncomputable def f_X1_giveUntold (σ : XS) (r0 : Nat) : Option XS := xloop (f_X1_giveUntold_b2 r0) ((0 : Int32), σ)
theorem m_X1_giveUntold_l79 {r0 : Nat} {a : Int32 × XS} {x : XS} (hf : xloop (f_X1_giveUntold_b79 r0) a = some x) : xsame a.2 x := by
  refine xloop_ind (P := fun a => xsame a.2 x) (fun a y hf hc he => ?_) hf
  obtain ⟨x1, σ⟩ := a
  have hy : (∀ a' : Int32 × XS, y = .inl a' → xsame σ a'.2) ∧ (∀ b1 : XS, y = .inr b1 → xsame σ b1) := by
    have hm := xsame.rf (σ := σ)
    obtain ⟨v2, e1, hf⟩ := xbd hf
    by_cases q : v2 = 0
    · have hf := xip q hf
      obtain ⟨v4, e3, hf⟩ := xbd hf
      obtain ⟨v6, e5, hf⟩ := xbd hf
      by_cases q : (v4 * v6) ≤ x1
      · have hf := xip q hf
        obtain ⟨b0, hg, e9⟩ := xmj hf
        subst e9
        have hf := hg
        refine ⟨fun a' e => xnc2 e, fun b e => ?_⟩
        have h9 := Sum.inr.inj e
        subst h9
        have hf := xsj hf
        subst hf
        exact hm
      · have hf := xin q hf
        obtain ⟨v8, e7, hf⟩ := xbd hf
        obtain ⟨v10, e9, hf⟩ := xbd hf
        by_cases q : v10 = 0
        · have hf := xip q hf
          obtain ⟨z12, e11, hf⟩ := xbd hf
          obtain ⟨v14, e13, hf⟩ := xbd hf
          obtain ⟨_, e15, hf⟩ := xbd hf
          obtain ⟨σ17, e16, hf⟩ := xbd hf
          have hm := hm.tr (m_X6_setField e16)
          have hf := xsj hf
          subst hf
          exact ⟨fun a' e => (by have h9 := Sum.inl.inj e; subst h9; exact hm), fun b e => xnc1 e⟩
        · have hf := xin q hf
          have hf := xsj hf
          subst hf
          exact ⟨fun a' e => (by have h9 := Sum.inl.inj e; subst h9; exact hm), fun b e => xnc1 e⟩
    · have hf := xin q hf
      obtain ⟨b0, hg, e9⟩ := xmj hf
      subst e9
      have hf := hg
      refine ⟨fun a' e => xnc2 e, fun b e => ?_⟩
      have h9 := Sum.inr.inj e
      subst h9
      have hf := xsj hf
      subst hf
      exact hm
  cases y with
  | inl a' =>
    have h1 := hc a' rfl
    have hm := hy.1 a' rfl
    exact hm.tr (h1)
  | inr b =>
    have h1 := he b rfl
    subst h1
    exact hy.2 _ rfl
theorem s_X1_giveUntold_l79 {G : XG} (C : XC G cX1_giveUntold RX1 none 2 2 47) {r0 : Nat} {a : Int32 × XS} {x : XS} (hf : xloop (f_X1_giveUntold_b79 r0) a = some x) (hk : XEnd G none x) : WW G 79 [(0, .ref (gB G + r0)), (1, .int a.1)] [] a.2 := by
  refine xloop_ind (P := fun a => WW G 79 [(0, .ref (gB G + r0)), (1, .int a.1)] [] a.2) (fun a y hf hc he => ?_) hf
  obtain ⟨x1, σ⟩ := a
  have hk : (∀ a' : Int32 × XS, y = .inl a' → WW G 79 [(0, .ref (gB G + r0)), (1, .int a'.1)] [] a'.2) ∧ (∀ b1 : XS, y = .inr b1 → XEnd G none b1) := ⟨hc, fun b e => by have h9 := he b e; subst h9; exact hk⟩
  refine ww_aload_n (pc := 79) C 0 dX1_giveUntold_79 rfl ?_
  obtain ⟨v2, e1, hf⟩ := xbd hf
  refine gf_X1_46 (pc := 80) C e1 dX1_giveUntold_80 ?_
  refine ww_if_ne (pc := 83) (tgt := 128) C dX1_giveUntold_83 (by decide) (fun q => ?_) (fun q => ?_)
  · have hf := xin q hf
    obtain ⟨b0, hg, e9⟩ := xmj hf
    subst e9
    have hf := hg
    have hk := hk.2 _ rfl
    have hf := xsj hf
    subst hf
    exact ww_vret (pc := 128) C hk dX1_giveUntold_128
  · have hf := xip q hf
    refine ww_iload_n (pc := 86) C 1 dX1_giveUntold_86 rfl ?_
    refine ww_aload_n (pc := 87) C 0 dX1_giveUntold_87 rfl ?_
    obtain ⟨v4, e3, hf⟩ := xbd hf
    refine gf_X1_98 (pc := 88) C e3 dX1_giveUntold_88 ?_
    refine ww_aload_n (pc := 91) C 0 dX1_giveUntold_91 rfl ?_
    obtain ⟨v6, e5, hf⟩ := xbd hf
    refine gf_X1_104 (pc := 92) C e5 dX1_giveUntold_92 ?_
    refine ww_imul (pc := 95) C dX1_giveUntold_95 ?_
    refine ww_icmp_ge (pc := 96) (tgt := 128) C dX1_giveUntold_96 (by decide) (fun q => ?_) (fun q => ?_)
    · have hf := xip q hf
      obtain ⟨b0, hg, e9⟩ := xmj hf
      subst e9
      have hf := hg
      have hk := hk.2 _ rfl
      have hf := xsj hf
      subst hf
      exact ww_vret (pc := 128) C hk dX1_giveUntold_128
    · have hf := xin q hf
      refine ww_aload_n (pc := 99) C 0 dX1_giveUntold_99 rfl ?_
      obtain ⟨v8, e7, hf⟩ := xbd hf
      refine gf_X1_82 (pc := 100) C e7 dX1_giveUntold_100 ?_
      refine ww_iload_n (pc := 103) C 1 dX1_giveUntold_103 rfl ?_
      obtain ⟨v10, e9, hf⟩ := xbd hf
      refine ww_callSi (pc := 104) (as := [.int v8, .int x1]) (st := []) C (k_X11_bitOf (l := gl G) (E := gE G) (hb := gB G) (σ := σ) e9) xc_X1_140 q655 rfl (by decide) (xst4 (Nat.le_of_ble_eq_true rfl)) xsame.rf.le xsame.rf.lim dX1_giveUntold_104 ?_
      refine ww_if_ne (pc := 107) (tgt := 122) C dX1_giveUntold_107 (by decide) (fun q => ?_) (fun q => ?_)
      · have hf := xin q hf
        refine ww_iinc (pc := 122) (v := x1 + (1 : Int32)) (lv' := [(1, .int (x1 + (1 : Int32))), (0, .ref (gB G + r0))]) C 1 dX1_giveUntold_122 rfl (congrArg (fun z => x1 + z) (show Int32.ofInt (1) = (1 : Int32) by decide)) (by decide) rfl ?_
        refine ww_goto (pc := 125) (tgt := 79) C dX1_giveUntold_125 (by decide) ?_
        have hf := xsj hf
        subst hf
        refine ww_sub [1, 0] rfl ?_
        exact hk.1 (x1 + (1 : Int32), σ) rfl
      · have hf := xip q hf
        refine ww_aload_n (pc := 110) C 0 dX1_giveUntold_110 rfl ?_
        obtain ⟨z12, e11, hf⟩ := xbd hf
        refine gf_X1_21 (pc := 111) C e11 dX1_giveUntold_111 ?_
        refine ww_iload_n (pc := 114) C 1 dX1_giveUntold_114 rfl ?_
        refine ww_aload_n (pc := 115) C 0 dX1_giveUntold_115 rfl ?_
        obtain ⟨v14, e13, hf⟩ := xbd hf
        refine gf_X1_76 (pc := 116) C e13 dX1_giveUntold_116 ?_
        obtain ⟨_, e15, hf⟩ := xbd hf
        obtain ⟨σ17, e16, hf⟩ := xbd hf
        refine ww_callVv (pc := 119) (as := [.int x1, .int v14]) (st := []) C (k_X6_setField (l := gl G) (E := gE G) (hb := gB G) (σ := σ) e16) rfl (by decide) xc_X1_134 q640 qp26 (xck_spec e15) rfl (by decide) (xst4 (Nat.le_of_ble_eq_true rfl)) (m_X6_setField e16).le (m_X6_setField e16).lim dX1_giveUntold_119 ?_
        refine ww_iinc (pc := 122) (v := x1 + (1 : Int32)) (lv' := [(1, .int (x1 + (1 : Int32))), (0, .ref (gB G + r0))]) C 1 dX1_giveUntold_122 rfl (congrArg (fun z => x1 + z) (show Int32.ofInt (1) = (1 : Int32) by decide)) (by decide) rfl ?_
        refine ww_goto (pc := 125) (tgt := 79) C dX1_giveUntold_125 (by decide) ?_
        have hf := xsj hf
        subst hf
        refine ww_sub [1, 0] rfl ?_
        exact hk.1 (x1 + (1 : Int32), σ17) rfl
theorem s_X1_giveUntold_j68 {G : XG} (C : XC G cX1_giveUntold RX1 none 2 2 47) {σ : XS} {r0 : Nat} {x1 : Int32} {t0 : Nat} {t1 : Int32} {t2 : Int32} {x : ((Int32 × XS) ⊕ (XS))} (hf : f_X1_giveUntold_j68 σ r0 x1 t0 t1 t2 = some x) (hk : (∀ a' : Int32 × XS, x = .inl a' → WW G 2 [(0, .ref (gB G + r0)), (1, .int a'.1)] [] a'.2) ∧ (∀ b1 : XS, x = .inr b1 → XEnd G none b1)) : WW G 68 [(0, .ref (gB G + r0)), (1, .int x1)] [.int t2, .int t1, .ref (gB G + t0)] σ := by
  obtain ⟨_, e1, hf⟩ := xbd hf
  obtain ⟨σ3, e2, hf⟩ := xbd hf
  refine ww_callVv (pc := 68) (as := [.int t1, .int t2]) (st := []) C (k_X6_setBond (l := gl G) (E := gE G) (hb := gB G) (σ := σ) e2) rfl (by decide) xc_X1_131 q632 qp24 (xck_spec e1) rfl (by decide) (xst4 (Nat.le_of_ble_eq_true rfl)) (m_X6_setBond e2).le (m_X6_setBond e2).lim dX1_giveUntold_68 ?_
  refine ww_iinc (pc := 71) (v := x1 + (1 : Int32)) (lv' := [(1, .int (x1 + (1 : Int32))), (0, .ref (gB G + r0))]) C 1 dX1_giveUntold_71 rfl (congrArg (fun z => x1 + z) (show Int32.ofInt (1) = (1 : Int32) by decide)) (by decide) rfl ?_
  refine ww_goto (pc := 74) (tgt := 2) C dX1_giveUntold_74 (by decide) ?_
  have hf := xsj hf
  subst hf
  refine ww_sub [1, 0] rfl ?_
  exact hk.1 (x1 + (1 : Int32), σ3) rfl
theorem m_X1_giveUntold_j68 {σ : XS} {r0 : Nat} {x1 : Int32} {t0 : Nat} {t1 : Int32} {t2 : Int32} {x : ((Int32 × XS) ⊕ (XS))} (hf : f_X1_giveUntold_j68 σ r0 x1 t0 t1 t2 = some x) : (∀ a' : Int32 × XS, x = .inl a' → xsame σ a'.2) ∧ (∀ b1 : XS, x = .inr b1 → xsame σ b1) := by
  have hm := xsame.rf (σ := σ)
  obtain ⟨_, e1, hf⟩ := xbd hf
  obtain ⟨σ3, e2, hf⟩ := xbd hf
  have hm := hm.tr (m_X6_setBond e2)
  have hf := xsj hf
  subst hf
  exact ⟨fun a' e => (by have h9 := Sum.inl.inj e; subst h9; exact hm), fun b e => xnc1 e⟩
theorem m_X1_giveUntold_l2 {r0 : Nat} {a : Int32 × XS} {x : XS} (hf : xloop (f_X1_giveUntold_b2 r0) a = some x) : xsame a.2 x := by
  refine xloop_ind (P := fun a => xsame a.2 x) (fun a y hf hc he => ?_) hf
  obtain ⟨x1, σ⟩ := a
  have hy : (∀ a' : Int32 × XS, y = .inl a' → xsame σ a'.2) ∧ (∀ b1 : XS, y = .inr b1 → xsame σ b1) := by
    have hm := xsame.rf (σ := σ)
    obtain ⟨v2, e1, hf⟩ := xbd hf
    by_cases q : v2 = 0
    · have hf := xip q hf
      by_cases q : (32 : Int32) ≤ x1
      · have hf := xip q hf
        obtain ⟨b0, hg, e9⟩ := xmj hf
        subst e9
        have hf := hg
        refine ⟨fun a' e => xnc2 e, fun b e => ?_⟩
        have h9 := Sum.inr.inj e
        subst h9
        exact hm.tr (m_X1_giveUntold_l79 (a := ((0 : Int32), σ)) hf)
      · have hf := xin q hf
        obtain ⟨v4, e3, hf⟩ := xbd hf
        obtain ⟨v6, e5, hf⟩ := xbd hf
        by_cases q : v6 = 0
        · have hf := xip q hf
          obtain ⟨v8, e7, hf⟩ := xbd hf
          obtain ⟨v10, e9, hf⟩ := xbd hf
          obtain ⟨v12, e11, hf⟩ := xbd hf
          obtain ⟨v14, e13, hf⟩ := xbd hf
          by_cases q : v14 = (-1 : Int32)
          · have hf := xip q hf
            have hf := xsj hf
            subst hf
            exact ⟨fun a' e => (by have h9 := Sum.inl.inj e; subst h9; exact hm), fun b e => xnc1 e⟩
          · have hf := xin q hf
            obtain ⟨z16, e15, hf⟩ := xbd hf
            by_cases q : (16 : Int32) ≤ x1
            · have hf := xip q hf
              obtain ⟨v18, e17, hf⟩ := xbd hf
              exact ⟨fun a' e => hm.tr ((m_X1_giveUntold_j68 hf).1 a' e), fun b1 eb1 => hm.tr ((m_X1_giveUntold_j68 hf).2 b1 eb1)⟩
            · have hf := xin q hf
              obtain ⟨v18, e17, hf⟩ := xbd hf
              exact ⟨fun a' e => hm.tr ((m_X1_giveUntold_j68 hf).1 a' e), fun b1 eb1 => hm.tr ((m_X1_giveUntold_j68 hf).2 b1 eb1)⟩
        · have hf := xin q hf
          have hf := xsj hf
          subst hf
          exact ⟨fun a' e => (by have h9 := Sum.inl.inj e; subst h9; exact hm), fun b e => xnc1 e⟩
    · have hf := xin q hf
      obtain ⟨b0, hg, e9⟩ := xmj hf
      subst e9
      have hf := hg
      refine ⟨fun a' e => xnc2 e, fun b e => ?_⟩
      have h9 := Sum.inr.inj e
      subst h9
      exact hm.tr (m_X1_giveUntold_l79 (a := ((0 : Int32), σ)) hf)
  cases y with
  | inl a' =>
    have h1 := hc a' rfl
    have hm := hy.1 a' rfl
    exact hm.tr (h1)
  | inr b =>
    have h1 := he b rfl
    subst h1
    exact hy.2 _ rfl
theorem s_X1_giveUntold_l2 {G : XG} (C : XC G cX1_giveUntold RX1 none 2 2 47) {r0 : Nat} {a : Int32 × XS} {x : XS} (hf : xloop (f_X1_giveUntold_b2 r0) a = some x) (hk : XEnd G none x) : WW G 2 [(0, .ref (gB G + r0)), (1, .int a.1)] [] a.2 := by
  refine xloop_ind (P := fun a => WW G 2 [(0, .ref (gB G + r0)), (1, .int a.1)] [] a.2) (fun a y hf hc he => ?_) hf
  obtain ⟨x1, σ⟩ := a
  have hk : (∀ a' : Int32 × XS, y = .inl a' → WW G 2 [(0, .ref (gB G + r0)), (1, .int a'.1)] [] a'.2) ∧ (∀ b1 : XS, y = .inr b1 → XEnd G none b1) := ⟨hc, fun b e => by have h9 := he b e; subst h9; exact hk⟩
  refine ww_aload_n (pc := 2) C 0 dX1_giveUntold_2 rfl ?_
  obtain ⟨v2, e1, hf⟩ := xbd hf
  refine gf_X1_46 (pc := 3) C e1 dX1_giveUntold_3 ?_
  refine ww_if_ne (pc := 6) (tgt := 77) C dX1_giveUntold_6 (by decide) (fun q => ?_) (fun q => ?_)
  · have hf := xin q hf
    obtain ⟨b0, hg, e9⟩ := xmj hf
    subst e9
    have hf := hg
    have hk := hk.2 _ rfl
    refine ww_iconst (pc := 77) (v := (0 : Int32)) C dX1_giveUntold_77 (by decide) ?_
    refine ww_istore_n (pc := 78) (lv' := [(1, .int (0 : Int32)), (0, .ref (gB G + r0))]) C dX1_giveUntold_78 (by decide) rfl ?_
    refine ww_sub [1, 0] rfl ?_
    exact s_X1_giveUntold_l79 C (a := ((0 : Int32), σ)) hf hk
  · have hf := xip q hf
    refine ww_iload_n (pc := 9) C 1 dX1_giveUntold_9 rfl ?_
    refine ww_bipush (pc := 10) (v := (32 : Int32)) C dX1_giveUntold_10 (by decide) ?_
    refine ww_icmp_ge (pc := 12) (tgt := 77) C dX1_giveUntold_12 (by decide) (fun q => ?_) (fun q => ?_)
    · have hf := xip q hf
      obtain ⟨b0, hg, e9⟩ := xmj hf
      subst e9
      have hf := hg
      have hk := hk.2 _ rfl
      refine ww_iconst (pc := 77) (v := (0 : Int32)) C dX1_giveUntold_77 (by decide) ?_
      refine ww_istore_n (pc := 78) (lv' := [(1, .int (0 : Int32)), (0, .ref (gB G + r0))]) C dX1_giveUntold_78 (by decide) rfl ?_
      refine ww_sub [1, 0] rfl ?_
      exact s_X1_giveUntold_l79 C (a := ((0 : Int32), σ)) hf hk
    · have hf := xin q hf
      refine ww_aload_n (pc := 15) C 0 dX1_giveUntold_15 rfl ?_
      obtain ⟨v4, e3, hf⟩ := xbd hf
      refine gf_X1_79 (pc := 16) C e3 dX1_giveUntold_16 ?_
      refine ww_iload_n (pc := 19) C 1 dX1_giveUntold_19 rfl ?_
      obtain ⟨v6, e5, hf⟩ := xbd hf
      refine ww_callSi (pc := 20) (as := [.int v4, .int x1]) (st := []) C (k_X11_bitOf (l := gl G) (E := gE G) (hb := gB G) (σ := σ) e5) xc_X1_140 q655 rfl (by decide) (xst4 (Nat.le_of_ble_eq_true rfl)) xsame.rf.le xsame.rf.lim dX1_giveUntold_20 ?_
      refine ww_if_ne (pc := 23) (tgt := 71) C dX1_giveUntold_23 (by decide) (fun q => ?_) (fun q => ?_)
      · have hf := xin q hf
        refine ww_iinc (pc := 71) (v := x1 + (1 : Int32)) (lv' := [(1, .int (x1 + (1 : Int32))), (0, .ref (gB G + r0))]) C 1 dX1_giveUntold_71 rfl (congrArg (fun z => x1 + z) (show Int32.ofInt (1) = (1 : Int32) by decide)) (by decide) rfl ?_
        refine ww_goto (pc := 74) (tgt := 2) C dX1_giveUntold_74 (by decide) ?_
        have hf := xsj hf
        subst hf
        refine ww_sub [1, 0] rfl ?_
        exact hk.1 (x1 + (1 : Int32), σ) rfl
      · have hf := xip q hf
        refine ww_aload_n (pc := 26) C 0 dX1_giveUntold_26 rfl ?_
        obtain ⟨v8, e7, hf⟩ := xbd hf
        refine gf_X1_98 (pc := 27) C e7 dX1_giveUntold_27 ?_
        refine ww_aload_n (pc := 30) C 0 dX1_giveUntold_30 rfl ?_
        obtain ⟨v10, e9, hf⟩ := xbd hf
        refine gf_X1_104 (pc := 31) C e9 dX1_giveUntold_31 ?_
        refine ww_aload_n (pc := 34) C 0 dX1_giveUntold_34 rfl ?_
        obtain ⟨v12, e11, hf⟩ := xbd hf
        refine gf_X1_67 (pc := 35) C e11 dX1_giveUntold_35 ?_
        refine ww_iload_n (pc := 38) C 1 dX1_giveUntold_38 rfl ?_
        obtain ⟨v14, e13, hf⟩ := xbd hf
        refine ww_callSi (pc := 39) (as := [.int v8, .int v10, .int v12, .int x1]) (st := []) C (k_X3_endOf (l := gl G) (E := gE G) (hb := gB G) (σ := σ) e13) xc_X1_125 q625 rfl (by decide) (xst4 (Nat.le_of_ble_eq_true rfl)) xsame.rf.le xsame.rf.lim dX1_giveUntold_39 ?_
        refine ww_iconst (pc := 42) (v := (-1 : Int32)) C dX1_giveUntold_42 (by decide) ?_
        refine ww_icmp_eq (pc := 43) (tgt := 71) C dX1_giveUntold_43 (by decide) (fun q => ?_) (fun q => ?_)
        · have hf := xip q hf
          refine ww_iinc (pc := 71) (v := x1 + (1 : Int32)) (lv' := [(1, .int (x1 + (1 : Int32))), (0, .ref (gB G + r0))]) C 1 dX1_giveUntold_71 rfl (congrArg (fun z => x1 + z) (show Int32.ofInt (1) = (1 : Int32) by decide)) (by decide) rfl ?_
          refine ww_goto (pc := 74) (tgt := 2) C dX1_giveUntold_74 (by decide) ?_
          have hf := xsj hf
          subst hf
          refine ww_sub [1, 0] rfl ?_
          exact hk.1 (x1 + (1 : Int32), σ) rfl
        · have hf := xin q hf
          refine ww_aload_n (pc := 46) C 0 dX1_giveUntold_46 rfl ?_
          obtain ⟨z16, e15, hf⟩ := xbd hf
          refine gf_X1_21 (pc := 47) C e15 dX1_giveUntold_47 ?_
          refine ww_iload_n (pc := 50) C 1 dX1_giveUntold_50 rfl ?_
          refine ww_iload_n (pc := 51) C 1 dX1_giveUntold_51 rfl ?_
          refine ww_bipush (pc := 52) (v := (16 : Int32)) C dX1_giveUntold_52 (by decide) ?_
          refine ww_icmp_ge (pc := 54) (tgt := 64) C dX1_giveUntold_54 (by decide) (fun q => ?_) (fun q => ?_)
          · have hf := xip q hf
            refine ww_aload_n (pc := 64) C 0 dX1_giveUntold_64 rfl ?_
            obtain ⟨v18, e17, hf⟩ := xbd hf
            refine gf_X1_73 (pc := 65) C e17 dX1_giveUntold_65 ?_
            refine ww_sub [0, 1] rfl ?_
            exact s_X1_giveUntold_j68 C hf hk
          · have hf := xin q hf
            refine ww_aload_n (pc := 57) C 0 dX1_giveUntold_57 rfl ?_
            obtain ⟨v18, e17, hf⟩ := xbd hf
            refine gf_X1_70 (pc := 58) C e17 dX1_giveUntold_58 ?_
            refine ww_goto (pc := 61) (tgt := 68) C dX1_giveUntold_61 (by decide) ?_
            refine ww_sub [0, 1] rfl ?_
            exact s_X1_giveUntold_j68 C hf hk
theorem s_X1_giveUntold_e {G : XG} (C : XC G cX1_giveUntold RX1 none 2 2 47) {σ : XS} {r0 : Nat} {x : XS} (hf : f_X1_giveUntold σ r0 = some x) (hk : XEnd G none x) : WW G 0 [(0, .ref (gB G + r0))] [] σ := by
  refine ww_iconst (pc := 0) (v := (0 : Int32)) C dX1_giveUntold_0 (by decide) ?_
  refine ww_istore_n (pc := 1) (lv' := [(1, .int (0 : Int32)), (0, .ref (gB G + r0))]) C dX1_giveUntold_1 (by decide) rfl ?_
  refine ww_sub [1, 0] rfl ?_
  exact s_X1_giveUntold_l2 C (a := ((0 : Int32), σ)) hf hk
theorem m_X1_giveUntold {σ : XS} {r0 : Nat} {x : XS} (hf : f_X1_giveUntold σ r0 = some x) : xsame σ x := by
  have hm := xsame.rf (σ := σ)
  exact hm.tr (m_X1_giveUntold_l2 (a := ((0 : Int32), σ)) hf)
theorem k_X1_giveUntold {l : Launch} {E : XD} {hb : Nat} {σ : XS} {r0 : Nat} {x : XS} (h : f_X1_giveUntold σ r0 = some x) : XM l yX1_giveUntold cX1_giveUntold 2 none 2 47 E hb [.ref (hb + r0)] σ none x := by
  refine xm_of (by decide) (Nat.le_of_ble_eq_true rfl) (m_X1_giveUntold h).le (fun G hG C hl hQ => ?_)
  obtain ⟨rfl, rfl, rfl, hN⟩ := hG
  exact s_X1_giveUntold_e C h hQ
noncomputable def f_X1_build_j77 (σ : XS) (r0 : Nat) : Option XS := (xck σ r0 1).bind fun _ => (f_X1_giveUntold σ r0).bind fun σ3 => some σ3
noncomputable def f_X1_build_b39 (r0 : Nat) : Int32 × XS → Option ((Int32 × XS) ⊕ (XS)) := fun a => match a with
  | (x2, σ) => if (400 : Int32) ≤ x2 then ((f_X1_build_j77 σ r0).map .inr) else (xgI σ r0 1 2).bind fun v2 => if v2 = 0 then ((xgI σ r0 1 4).bind fun v4 => (xgR σ r0 1 0).bind fun z6 => (xgI σ z6 8 5).bind fun v8 => if v8 ≤ v4 then ((f_X1_build_j77 σ r0).map .inr) else (xck σ r0 1).bind fun _ => (f_X1_takeTell σ r0).bind fun σ11 => some (.inl (x2 + (1 : Int32), σ11))) else (f_X1_build_j77 σ r0).map .inr
noncomputable def f_X1_build (σ : XS) (r0 : Nat) : Option XS := (xck σ r0 1).bind fun _ => (f_X1_begin σ r0).bind fun σ3 => (xgR σ3 r0 1 0).bind fun z5 => (xck σ3 z5 8).bind fun _ => (f_X8_cut σ3 z5).bind fun (v9, σ8) => if v9 = 0 then ((xck σ8 r0 1).bind fun _ => (f_X1_takeSize σ8 r0).bind fun σ12 => (xck σ12 r0 1).bind fun _ => (f_X1_seeRings σ12 r0).bind fun σ15 => xloop (f_X1_build_b39 r0) ((0 : Int32), σ15)) else (xgR σ8 r0 1 0).bind fun z11 => (xgI σ8 z11 8 8).bind fun v13 => (xck σ8 r0 1).bind fun _ => (f_X1_blame σ8 r0 v9 v13).bind fun σ16 => some σ16
theorem s_X1_build_j77 {G : XG} (C : XC G cX1_build RX1 none 3 8 171) {σ : XS} {r0 : Nat} {x : XS} (hf : f_X1_build_j77 σ r0 = some x) (hk : XEnd G none x) : WW G 77 [(0, .ref (gB G + r0))] [] σ := by
  refine ww_aload_n (pc := 77) C 0 dX1_build_77 rfl ?_
  obtain ⟨_, e1, hf⟩ := xbd hf
  obtain ⟨σ3, e2, hf⟩ := xbd hf
  refine ww_callVv (pc := 78) (as := []) (st := []) C (k_X1_giveUntold (l := gl G) (E := gE G) (hb := gB G) (σ := σ) e2) rfl (by decide) xc_X1_58 q652 qp29 (xck_spec e1) rfl (by decide) (xst4 (Nat.le_of_ble_eq_true rfl)) (m_X1_giveUntold e2).le (m_X1_giveUntold e2).lim dX1_build_78 ?_
  have hf := xsj hf
  subst hf
  exact ww_vret (pc := 81) C hk dX1_build_81
theorem m_X1_build_j77 {σ : XS} {r0 : Nat} {x : XS} (hf : f_X1_build_j77 σ r0 = some x) : xsame σ x := by
  have hm := xsame.rf (σ := σ)
  obtain ⟨_, e1, hf⟩ := xbd hf
  obtain ⟨σ3, e2, hf⟩ := xbd hf
  have hm := hm.tr (m_X1_giveUntold e2)
  have hf := xsj hf
  subst hf
  exact hm
theorem m_X1_build_l39 {r0 : Nat} {a : Int32 × XS} {x : XS} (hf : xloop (f_X1_build_b39 r0) a = some x) : xsame a.2 x := by
  refine xloop_ind (P := fun a => xsame a.2 x) (fun a y hf hc he => ?_) hf
  obtain ⟨x2, σ⟩ := a
  have hy : (∀ a' : Int32 × XS, y = .inl a' → xsame σ a'.2) ∧ (∀ b1 : XS, y = .inr b1 → xsame σ b1) := by
    have hm := xsame.rf (σ := σ)
    by_cases q : (400 : Int32) ≤ x2
    · have hf := xip q hf
      obtain ⟨b0, hg, e9⟩ := xmj hf
      subst e9
      have hf := hg
      refine ⟨fun a' e => xnc2 e, fun b e => ?_⟩
      have h9 := Sum.inr.inj e
      subst h9
      exact hm.tr (m_X1_build_j77 hf)
    · have hf := xin q hf
      obtain ⟨v2, e1, hf⟩ := xbd hf
      by_cases q : v2 = 0
      · have hf := xip q hf
        obtain ⟨v4, e3, hf⟩ := xbd hf
        obtain ⟨z6, e5, hf⟩ := xbd hf
        obtain ⟨v8, e7, hf⟩ := xbd hf
        by_cases q : v8 ≤ v4
        · have hf := xip q hf
          obtain ⟨b0, hg, e9⟩ := xmj hf
          subst e9
          have hf := hg
          refine ⟨fun a' e => xnc2 e, fun b e => ?_⟩
          have h9 := Sum.inr.inj e
          subst h9
          exact hm.tr (m_X1_build_j77 hf)
        · have hf := xin q hf
          obtain ⟨_, e9, hf⟩ := xbd hf
          obtain ⟨σ11, e10, hf⟩ := xbd hf
          have hm := hm.tr (m_X1_takeTell e10)
          have hf := xsj hf
          subst hf
          exact ⟨fun a' e => (by have h9 := Sum.inl.inj e; subst h9; exact hm), fun b e => xnc1 e⟩
      · have hf := xin q hf
        obtain ⟨b0, hg, e9⟩ := xmj hf
        subst e9
        have hf := hg
        refine ⟨fun a' e => xnc2 e, fun b e => ?_⟩
        have h9 := Sum.inr.inj e
        subst h9
        exact hm.tr (m_X1_build_j77 hf)
  cases y with
  | inl a' =>
    have h1 := hc a' rfl
    have hm := hy.1 a' rfl
    exact hm.tr (h1)
  | inr b =>
    have h1 := he b rfl
    subst h1
    exact hy.2 _ rfl
theorem s_X1_build_l39 {G : XG} (C : XC G cX1_build RX1 none 3 8 171) {r0 : Nat} {a : Int32 × XS} {x : XS} (hf : xloop (f_X1_build_b39 r0) a = some x) (hk : XEnd G none x) : WW G 39 [(0, .ref (gB G + r0)), (2, .int a.1)] [] a.2 := by
  refine xloop_ind (P := fun a => WW G 39 [(0, .ref (gB G + r0)), (2, .int a.1)] [] a.2) (fun a y hf hc he => ?_) hf
  obtain ⟨x2, σ⟩ := a
  have hk : (∀ a' : Int32 × XS, y = .inl a' → WW G 39 [(0, .ref (gB G + r0)), (2, .int a'.1)] [] a'.2) ∧ (∀ b1 : XS, y = .inr b1 → XEnd G none b1) := ⟨hc, fun b e => by have h9 := he b e; subst h9; exact hk⟩
  refine ww_iload_n (pc := 39) C 1 dX1_build_39 rfl ?_
  refine ww_sipush (pc := 40) (v := (400 : Int32)) C dX1_build_40 (by decide) ?_
  refine ww_icmp_ge (pc := 43) (tgt := 77) C dX1_build_43 (by decide) (fun q => ?_) (fun q => ?_)
  · have hf := xip q hf
    obtain ⟨b0, hg, e9⟩ := xmj hf
    subst e9
    have hf := hg
    have hk := hk.2 _ rfl
    refine ww_sub [0] rfl ?_
    exact s_X1_build_j77 C hf hk
  · have hf := xin q hf
    refine ww_aload_n (pc := 46) C 0 dX1_build_46 rfl ?_
    obtain ⟨v2, e1, hf⟩ := xbd hf
    refine gf_X1_46 (pc := 47) C e1 dX1_build_47 ?_
    refine ww_if_ne (pc := 50) (tgt := 77) C dX1_build_50 (by decide) (fun q => ?_) (fun q => ?_)
    · have hf := xin q hf
      obtain ⟨b0, hg, e9⟩ := xmj hf
      subst e9
      have hf := hg
      have hk := hk.2 _ rfl
      refine ww_sub [0] rfl ?_
      exact s_X1_build_j77 C hf hk
    · have hf := xip q hf
      refine ww_aload_n (pc := 53) C 0 dX1_build_53 rfl ?_
      obtain ⟨v4, e3, hf⟩ := xbd hf
      refine gf_X1_49 (pc := 54) C e3 dX1_build_54 ?_
      refine ww_aload_n (pc := 57) C 0 dX1_build_57 rfl ?_
      obtain ⟨z6, e5, hf⟩ := xbd hf
      refine gf_X1_12 (pc := 58) C e5 dX1_build_58 ?_
      obtain ⟨v8, e7, hf⟩ := xbd hf
      refine gf_X1_52 (pc := 61) C e7 dX1_build_61 ?_
      refine ww_icmp_ge (pc := 64) (tgt := 77) C dX1_build_64 (by decide) (fun q => ?_) (fun q => ?_)
      · have hf := xip q hf
        obtain ⟨b0, hg, e9⟩ := xmj hf
        subst e9
        have hf := hg
        have hk := hk.2 _ rfl
        refine ww_sub [0] rfl ?_
        exact s_X1_build_j77 C hf hk
      · have hf := xin q hf
        refine ww_aload_n (pc := 67) C 0 dX1_build_67 rfl ?_
        obtain ⟨_, e9, hf⟩ := xbd hf
        obtain ⟨σ11, e10, hf⟩ := xbd hf
        refine ww_callVv (pc := 68) (as := []) (st := []) C (k_X1_takeTell (l := gl G) (E := gE G) (hb := gB G) (σ := σ) e10) rfl (by decide) xc_X1_55 q610 qp20 (xck_spec e9) rfl (by decide) (xst4 (Nat.le_of_ble_eq_true rfl)) (m_X1_takeTell e10).le (m_X1_takeTell e10).lim dX1_build_68 ?_
        refine ww_iinc (pc := 71) (v := x2 + (1 : Int32)) (lv' := [(2, .int (x2 + (1 : Int32))), (0, .ref (gB G + r0))]) C 1 dX1_build_71 rfl (congrArg (fun z => x2 + z) (show Int32.ofInt (1) = (1 : Int32) by decide)) (by decide) rfl ?_
        refine ww_goto (pc := 74) (tgt := 39) C dX1_build_74 (by decide) ?_
        have hf := xsj hf
        subst hf
        refine ww_sub [1, 0] rfl ?_
        exact hk.1 (x2 + (1 : Int32), σ11) rfl
theorem s_X1_build_e {G : XG} (C : XC G cX1_build RX1 none 3 8 171) {σ : XS} {r0 : Nat} {x : XS} (hf : f_X1_build σ r0 = some x) (hk : XEnd G none x) : WW G 0 [(0, .ref (gB G + r0))] [] σ := by
  refine ww_aload_n (pc := 0) C 0 dX1_build_0 rfl ?_
  obtain ⟨_, e1, hf⟩ := xbd hf
  obtain ⟨σ3, e2, hf⟩ := xbd hf
  refine ww_callVv (pc := 1) (as := []) (st := []) C (k_X1_begin (l := gl G) (E := gE G) (hb := gB G) (σ := σ) e2) rfl (by decide) xc_X1_25 q463 qp2 (xck_spec e1) rfl (by decide) (xst4 (Nat.le_of_ble_eq_true rfl)) (m_X1_begin e2).le (m_X1_begin e2).lim dX1_build_1 ?_
  refine ww_aload_n (pc := 4) C 0 dX1_build_4 rfl ?_
  obtain ⟨z5, e4, hf⟩ := xbd hf
  refine gf_X1_12 (pc := 5) C e4 dX1_build_5 ?_
  obtain ⟨_, e6, hf⟩ := xbd hf
  obtain ⟨⟨v9, σ8⟩, e7, hf⟩ := xbd hf
  dsimp only at hf
  refine ww_callVi (pc := 8) (as := []) (st := []) C (k_X8_cut (l := gl G) (E := gE G) (hb := gB G) (σ := σ3) e7) rfl (by decide) xc_X1_28 q472 qp4 (xck_spec e6) rfl (by decide) (xst4 (Nat.le_of_ble_eq_true rfl)) (m_X8_cut e7).le (m_X8_cut e7).lim dX1_build_8 ?_
  refine ww_istore_n (pc := 11) (lv' := [(1, .int v9), (0, .ref (gB G + r0))]) C dX1_build_11 (by decide) rfl ?_
  refine ww_iload_n (pc := 12) C 0 dX1_build_12 rfl ?_
  refine ww_if_eq (pc := 13) (tgt := 29) C dX1_build_13 (by decide) (fun q => ?_) (fun q => ?_)
  · have hf := xip q hf
    refine ww_aload_n (pc := 29) C 1 dX1_build_29 rfl ?_
    obtain ⟨_, e10, hf⟩ := xbd hf
    obtain ⟨σ12, e11, hf⟩ := xbd hf
    refine ww_callVv (pc := 30) (as := []) (st := []) C (k_X1_takeSize (l := gl G) (E := gE G) (hb := gB G) (σ := σ8) e11) rfl (by decide) xc_X1_40 q582 qp13 (xck_spec e10) rfl (by decide) (xst4 (Nat.le_of_ble_eq_true rfl)) (m_X1_takeSize e11).le (m_X1_takeSize e11).lim dX1_build_30 ?_
    refine ww_aload_n (pc := 33) C 1 dX1_build_33 rfl ?_
    obtain ⟨_, e13, hf⟩ := xbd hf
    obtain ⟨σ15, e14, hf⟩ := xbd hf
    refine ww_callVv (pc := 34) (as := []) (st := []) C (k_X1_seeRings (l := gl G) (E := gE G) (hb := gB G) (σ := σ12) e14) rfl (by decide) xc_X1_43 q606 qp19 (xck_spec e13) rfl (by decide) (xst4 (Nat.le_of_ble_eq_true rfl)) (m_X1_seeRings e14).le (m_X1_seeRings e14).lim dX1_build_34 ?_
    refine ww_iconst (pc := 37) (v := (0 : Int32)) C dX1_build_37 (by decide) ?_
    refine ww_istore_n (pc := 38) (lv' := [(2, .int (0 : Int32)), (1, .int v9), (0, .ref (gB G + r0))]) C dX1_build_38 (by decide) rfl ?_
    refine ww_sub [2, 0] rfl ?_
    exact s_X1_build_l39 C (a := ((0 : Int32), σ15)) hf hk
  · have hf := xin q hf
    refine ww_aload_n (pc := 16) C 1 dX1_build_16 rfl ?_
    refine ww_iload_n (pc := 17) C 0 dX1_build_17 rfl ?_
    refine ww_aload_n (pc := 18) C 1 dX1_build_18 rfl ?_
    obtain ⟨z11, e10, hf⟩ := xbd hf
    refine gf_X1_12 (pc := 19) C e10 dX1_build_19 ?_
    obtain ⟨v13, e12, hf⟩ := xbd hf
    refine gf_X1_32 (pc := 22) C e12 dX1_build_22 ?_
    obtain ⟨_, e14, hf⟩ := xbd hf
    obtain ⟨σ16, e15, hf⟩ := xbd hf
    refine ww_callVv (pc := 25) (as := [.int v9, .int v13]) (st := []) C (k_X1_blame (l := gl G) (E := gE G) (hb := gB G) (σ := σ8) e15) rfl (by decide) xc_X1_36 q578 qp12 (xck_spec e14) rfl (by decide) (xst4 (Nat.le_of_ble_eq_true rfl)) (m_X1_blame e15).le (m_X1_blame e15).lim dX1_build_25 ?_
    have hf := xsj hf
    subst hf
    exact ww_vret (pc := 28) C hk dX1_build_28
theorem m_X1_build {σ : XS} {r0 : Nat} {x : XS} (hf : f_X1_build σ r0 = some x) : xsame σ x := by
  have hm := xsame.rf (σ := σ)
  obtain ⟨_, e1, hf⟩ := xbd hf
  obtain ⟨σ3, e2, hf⟩ := xbd hf
  have hm := hm.tr (m_X1_begin e2)
  obtain ⟨z5, e4, hf⟩ := xbd hf
  obtain ⟨_, e6, hf⟩ := xbd hf
  obtain ⟨⟨v9, σ8⟩, e7, hf⟩ := xbd hf
  dsimp only at hf
  have hm := hm.tr (m_X8_cut e7)
  by_cases q : v9 = 0
  · have hf := xip q hf
    obtain ⟨_, e10, hf⟩ := xbd hf
    obtain ⟨σ12, e11, hf⟩ := xbd hf
    have hm := hm.tr (m_X1_takeSize e11)
    obtain ⟨_, e13, hf⟩ := xbd hf
    obtain ⟨σ15, e14, hf⟩ := xbd hf
    have hm := hm.tr (m_X1_seeRings e14)
    exact hm.tr (m_X1_build_l39 (a := ((0 : Int32), σ15)) hf)
  · have hf := xin q hf
    obtain ⟨z11, e10, hf⟩ := xbd hf
    obtain ⟨v13, e12, hf⟩ := xbd hf
    obtain ⟨_, e14, hf⟩ := xbd hf
    obtain ⟨σ16, e15, hf⟩ := xbd hf
    have hm := hm.tr (m_X1_blame e15)
    have hf := xsj hf
    subst hf
    exact hm
theorem k_X1_build {l : Launch} {E : XD} {hb : Nat} {σ : XS} {r0 : Nat} {x : XS} (h : f_X1_build σ r0 = some x) : XM l yX1_build cX1_build 3 none 8 171 E hb [.ref (hb + r0)] σ none x := by
  refine xm_of (by decide) (Nat.le_of_ble_eq_true rfl) (m_X1_build h).le (fun G hG C hl hQ => ?_)
  obtain ⟨rfl, rfl, rfl, hN⟩ := hG
  exact s_X1_build_e C h hQ
