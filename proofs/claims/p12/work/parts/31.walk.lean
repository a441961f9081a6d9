noncomputable def f_X9_sort_b96 (r0 : Nat) (r1 : Nat) (r3 : Nat) (x5 : Int32) : Int32 × XS → Option ((Int32 × XS) ⊕ (XS)) := fun a => match a with
  | (x6, σ) => if x5 ≤ x6 then ((some σ).map .inr) else (xck σ r3 6).bind fun _ => (f_X6_allows σ r3 x6).bind fun v3 => if v3 = 0 then (some (.inl (x6 + (1 : Int32), σ))) else (xck σ r1 2).bind fun _ => (f_X2_of σ r1 x6).bind fun v6 => (xck σ r0 9).bind fun _ => (f_X9_putInOrder σ r0 x6 (v6 + (144 : Int32))).bind fun σ9 => some (.inl (x6 + (1 : Int32), σ9))
noncomputable def f_X9_sort_b24 (r0 : Nat) (r1 : Nat) (r2 : Nat) (r3 : Nat) : Int32 × XS → Option ((Int32 × XS) ⊕ (XS)) := fun a => match a with
  | (x5, σ) => if (289 : Int32) ≤ x5 then (((xgI σ r0 9 7).bind fun v2 => if v2 ≤ 0 then (xloop (f_X9_sort_b96 r0 r1 r3 (0 : Int32)) ((0 : Int32), σ)) else (xgI σ r0 9 7).bind fun v4 => if (10 : Int32) < v4 then (xloop (f_X9_sort_b96 r0 r1 r3 (0 : Int32)) ((0 : Int32), σ)) else (xgI σ r0 9 7).bind fun v6 => xloop (f_X9_sort_b96 r0 r1 r3 ((1 : Int32) <<< (v6 &&& 31))) ((0 : Int32), σ)).map .inr) else (xgR σ r0 9 1).bind fun z2 => (xgI σ r0 9 8).bind fun v4 => (xsI σ 20 z2 x5 v4).bind fun σ6 => (xgI σ6 r0 9 8).bind fun v8 => (xgR σ6 r2 4 0).bind fun z10 => (xaI σ6 20 z10 x5).bind fun v12 => (xpI σ6 r0 9 8 (v8 + v12)).bind fun σ14 => some (.inl (x5 + (1 : Int32), σ14))
noncomputable def f_X9_sort (σ : XS) (r0 : Nat) (r1 : Nat) (r2 : Nat) (r3 : Nat) (x4 : Int32) : Option XS := (xnz r1).bind fun _ => (xpR σ r0 9 5 r1).bind fun σ3 => (xnz r3).bind fun _ => (xpR σ3 r0 9 6 r3).bind fun σ6 => (xpI σ6 r0 9 7 x4).bind fun σ8 => (xpI σ8 r0 9 8 (0 : Int32)).bind fun σ10 => xloop (f_X9_sort_b24 r0 r1 r2 r3) ((0 : Int32), σ10)
theorem m_X9_sort_l96 {r0 : Nat} {r1 : Nat} {r3 : Nat} {x5 : Int32} {a : Int32 × XS} {x : XS} (hf : xloop (f_X9_sort_b96 r0 r1 r3 x5) a = some x) : xsame a.2 x := by
  refine xloop_ind (P := fun a => xsame a.2 x) (fun a y hf hc he => ?_) hf
  obtain ⟨x6, σ⟩ := a
  have hy : (∀ a' : Int32 × XS, y = .inl a' → xsame σ a'.2) ∧ (∀ b1 : XS, y = .inr b1 → xsame σ b1) := by
    have hm := xsame.rf (σ := σ)
    by_cases q : x5 ≤ x6
    · have hf := xip q hf
      obtain ⟨b0, hg, e9⟩ := xmj hf
      subst e9
      have hf := hg
      refine ⟨fun a' e => xnc2 e, fun b e => ?_⟩
      have h9 := Sum.inr.inj e
      subst h9
      have hf := xsj hf
      subst hf
      exact hm
    · have hf := xin q hf
      obtain ⟨_, e1, hf⟩ := xbd hf
      obtain ⟨v3, e2, hf⟩ := xbd hf
      by_cases q : v3 = 0
      · have hf := xip q hf
        have hf := xsj hf
        subst hf
        exact ⟨fun a' e => (by have h9 := Sum.inl.inj e; subst h9; exact hm), fun b e => xnc1 e⟩
      · have hf := xin q hf
        obtain ⟨_, e4, hf⟩ := xbd hf
        obtain ⟨v6, e5, hf⟩ := xbd hf
        obtain ⟨_, e7, hf⟩ := xbd hf
        obtain ⟨σ9, e8, hf⟩ := xbd hf
        have hm := hm.tr (m_X9_putInOrder e8)
        have hf := xsj hf
        subst hf
        exact ⟨fun a' e => (by have h9 := Sum.inl.inj e; subst h9; exact hm), fun b e => xnc1 e⟩
  cases y with
  | inl a' =>
    have h1 := hc a' rfl
    have hm := hy.1 a' rfl
    exact hm.tr (h1)
  | inr b =>
    have h1 := he b rfl
    subst h1
    exact hy.2 _ rfl
theorem s_X9_sort_l96 {G : XG} (C : XC G cX9_sort RX9 none 7 1 22) {r0 : Nat} {r1 : Nat} {r3 : Nat} {x5 : Int32} {a : Int32 × XS} {x : XS} (hf : xloop (f_X9_sort_b96 r0 r1 r3 x5) a = some x) (hk : XEnd G none x) : WW G 96 [(0, .ref (gB G + r0)), (1, .ref (gB G + r1)), (3, .ref (gB G + r3)), (5, .int x5), (6, .int a.1)] [] a.2 := by
  refine xloop_ind (P := fun a => WW G 96 [(0, .ref (gB G + r0)), (1, .ref (gB G + r1)), (3, .ref (gB G + r3)), (5, .int x5), (6, .int a.1)] [] a.2) (fun a y hf hc he => ?_) hf
  obtain ⟨x6, σ⟩ := a
  have hk : (∀ a' : Int32 × XS, y = .inl a' → WW G 96 [(0, .ref (gB G + r0)), (1, .ref (gB G + r1)), (3, .ref (gB G + r3)), (5, .int x5), (6, .int a'.1)] [] a'.2) ∧ (∀ b1 : XS, y = .inr b1 → XEnd G none b1) := ⟨hc, fun b e => by have h9 := he b e; subst h9; exact hk⟩
  refine ww_iload (pc := 96) C 4 dX9_sort_96 rfl ?_
  refine ww_iload (pc := 98) C 3 dX9_sort_98 rfl ?_
  refine ww_icmp_ge (pc := 100) (tgt := 134) C dX9_sort_100 (by decide) (fun q => ?_) (fun q => ?_)
  · have hf := xip q hf
    obtain ⟨b0, hg, e9⟩ := xmj hf
    subst e9
    have hf := hg
    have hk := hk.2 _ rfl
    have hf := xsj hf
    subst hf
    exact ww_vret (pc := 134) C hk dX9_sort_134
  · have hf := xin q hf
    refine ww_aload_n (pc := 103) C 2 dX9_sort_103 rfl ?_
    refine ww_iload (pc := 104) C 4 dX9_sort_104 rfl ?_
    obtain ⟨_, e1, hf⟩ := xbd hf
    obtain ⟨v3, e2, hf⟩ := xbd hf
    refine ww_callVi (pc := 106) (as := [.int x6]) (st := []) C (k_X6_allows (l := gl G) (E := gE G) (hb := gB G) (σ := σ) e2) rfl (by decide) xc_X9_50 q890 qp65 (xck_spec e1) rfl (by decide) (xst4 (Nat.le_of_ble_eq_true rfl)) xsame.rf.le xsame.rf.lim dX9_sort_106 ?_
    refine ww_if_eq (pc := 109) (tgt := 128) C dX9_sort_109 (by decide) (fun q => ?_) (fun q => ?_)
    · have hf := xip q hf
      refine ww_iinc (pc := 128) (v := x6 + (1 : Int32)) (lv' := [(6, .int (x6 + (1 : Int32))), (0, .ref (gB G + r0)), (1, .ref (gB G + r1)), (3, .ref (gB G + r3)), (5, .int x5)]) C 4 dX9_sort_128 rfl (congrArg (fun z => x6 + z) (show Int32.ofInt (1) = (1 : Int32) by decide)) (by decide) rfl ?_
      refine ww_goto (pc := 131) (tgt := 96) C dX9_sort_131 (by decide) ?_
      have hf := xsj hf
      subst hf
      refine ww_sub [1, 2, 3, 4, 0] rfl ?_
      exact hk.1 (x6 + (1 : Int32), σ) rfl
    · have hf := xin q hf
      refine ww_aload_n (pc := 112) C 0 dX9_sort_112 rfl ?_
      refine ww_iload (pc := 113) C 4 dX9_sort_113 rfl ?_
      refine ww_aload_n (pc := 115) C 1 dX9_sort_115 rfl ?_
      refine ww_iload (pc := 116) C 4 dX9_sort_116 rfl ?_
      obtain ⟨_, e4, hf⟩ := xbd hf
      obtain ⟨v6, e5, hf⟩ := xbd hf
      refine ww_callVi (pc := 118) (as := [.int x6]) (st := [.int x6, .ref (gB G + r0)]) C (k_X2_of (l := gl G) (E := gE G) (hb := gB G) (σ := σ) e5) rfl (by decide) xc_X9_56 q880 qp64 (xck_spec e4) rfl (by decide) (xst4 (Nat.le_of_ble_eq_true rfl)) xsame.rf.le xsame.rf.lim dX9_sort_118 ?_
      refine ww_sipush (pc := 121) (v := (144 : Int32)) C dX9_sort_121 (by decide) ?_
      refine ww_iadd (pc := 124) C dX9_sort_124 ?_
      obtain ⟨_, e7, hf⟩ := xbd hf
      obtain ⟨σ9, e8, hf⟩ := xbd hf
      refine ww_callVv (pc := 125) (as := [.int x6, .int (v6 + (144 : Int32))]) (st := []) C (k_X9_putInOrder (l := gl G) (E := gE G) (hb := gB G) (σ := σ) e8) rfl (by decide) xc_X9_62 q1124 qp97 (xck_spec e7) rfl (by decide) (xst4 (Nat.le_of_ble_eq_true rfl)) (m_X9_putInOrder e8).le (m_X9_putInOrder e8).lim dX9_sort_125 ?_
      refine ww_iinc (pc := 128) (v := x6 + (1 : Int32)) (lv' := [(6, .int (x6 + (1 : Int32))), (0, .ref (gB G + r0)), (1, .ref (gB G + r1)), (3, .ref (gB G + r3)), (5, .int x5)]) C 4 dX9_sort_128 rfl (congrArg (fun z => x6 + z) (show Int32.ofInt (1) = (1 : Int32) by decide)) (by decide) rfl ?_
      refine ww_goto (pc := 131) (tgt := 96) C dX9_sort_131 (by decide) ?_
      have hf := xsj hf
      subst hf
      refine ww_sub [1, 2, 3, 4, 0] rfl ?_
      exact hk.1 (x6 + (1 : Int32), σ9) rfl
theorem m_X9_sort_l24 {r0 : Nat} {r1 : Nat} {r2 : Nat} {r3 : Nat} {a : Int32 × XS} {x : XS} (hf : xloop (f_X9_sort_b24 r0 r1 r2 r3) a = some x) : xsame a.2 x := by
  refine xloop_ind (P := fun a => xsame a.2 x) (fun a y hf hc he => ?_) hf
  obtain ⟨x5, σ⟩ := a
  have hy : (∀ a' : Int32 × XS, y = .inl a' → xsame σ a'.2) ∧ (∀ b1 : XS, y = .inr b1 → xsame σ b1) := by
    have hm := xsame.rf (σ := σ)
    by_cases q : (289 : Int32) ≤ x5
    · have hf := xip q hf
      obtain ⟨b0, hg, e9⟩ := xmj hf
      subst e9
      have hf := hg
      refine ⟨fun a' e => xnc2 e, fun b e => ?_⟩
      have h9 := Sum.inr.inj e
      subst h9
      obtain ⟨v2, e1, hf⟩ := xbd hf
      by_cases q : v2 ≤ 0
      · have hf := xip q hf
        exact hm.tr (m_X9_sort_l96 (a := ((0 : Int32), σ)) hf)
      · have hf := xin q hf
        obtain ⟨v4, e3, hf⟩ := xbd hf
        by_cases q : (10 : Int32) < v4
        · have hf := xip q hf
          exact hm.tr (m_X9_sort_l96 (a := ((0 : Int32), σ)) hf)
        · have hf := xin q hf
          obtain ⟨v6, e5, hf⟩ := xbd hf
          exact hm.tr (m_X9_sort_l96 (a := ((0 : Int32), σ)) hf)
    · have hf := xin q hf
      obtain ⟨z2, e1, hf⟩ := xbd hf
      obtain ⟨v4, e3, hf⟩ := xbd hf
      obtain ⟨σ6, e5, hf⟩ := xbd hf
      have hm := hm.tr (xsI_same e5)
      obtain ⟨v8, e7, hf⟩ := xbd hf
      obtain ⟨z10, e9, hf⟩ := xbd hf
      obtain ⟨v12, e11, hf⟩ := xbd hf
      obtain ⟨σ14, e13, hf⟩ := xbd hf
      have hm := hm.tr (xpI_same e13)
      have hf := xsj hf
      subst hf
      exact ⟨fun a' e => (by have h9 := Sum.inl.inj e; subst h9; exact hm), fun b e => xnc1 e⟩
  cases y with
  | inl a' =>
    have h1 := hc a' rfl
    have hm := hy.1 a' rfl
    exact hm.tr (h1)
  | inr b =>
    have h1 := he b rfl
    subst h1
    exact hy.2 _ rfl
theorem s_X9_sort_l24 {G : XG} (C : XC G cX9_sort RX9 none 7 1 22) {r0 : Nat} {r1 : Nat} {r2 : Nat} {r3 : Nat} {a : Int32 × XS} {x : XS} (hf : xloop (f_X9_sort_b24 r0 r1 r2 r3) a = some x) (hk : XEnd G none x) : WW G 24 [(0, .ref (gB G + r0)), (1, .ref (gB G + r1)), (2, .ref (gB G + r2)), (3, .ref (gB G + r3)), (5, .int a.1)] [] a.2 := by
  refine xloop_ind (P := fun a => WW G 24 [(0, .ref (gB G + r0)), (1, .ref (gB G + r1)), (2, .ref (gB G + r2)), (3, .ref (gB G + r3)), (5, .int a.1)] [] a.2) (fun a y hf hc he => ?_) hf
  obtain ⟨x5, σ⟩ := a
  have hk : (∀ a' : Int32 × XS, y = .inl a' → WW G 24 [(0, .ref (gB G + r0)), (1, .ref (gB G + r1)), (2, .ref (gB G + r2)), (3, .ref (gB G + r3)), (5, .int a'.1)] [] a'.2) ∧ (∀ b1 : XS, y = .inr b1 → XEnd G none b1) := ⟨hc, fun b e => by have h9 := he b e; subst h9; exact hk⟩
  refine ww_iload (pc := 24) C 4 dX9_sort_24 rfl ?_
  refine ww_sipush (pc := 26) (v := (289 : Int32)) C dX9_sort_26 (by decide) ?_
  refine ww_icmp_ge (pc := 29) (tgt := 65) C dX9_sort_29 (by decide) (fun q => ?_) (fun q => ?_)
  · have hf := xip q hf
    obtain ⟨b0, hg, e9⟩ := xmj hf
    subst e9
    have hf := hg
    have hk := hk.2 _ rfl
    refine ww_aload_n (pc := 65) C 0 dX9_sort_65 rfl ?_
    obtain ⟨v2, e1, hf⟩ := xbd hf
    refine gf_X9_40 (pc := 66) C e1 dX9_sort_66 ?_
    refine ww_if_le (pc := 69) (tgt := 90) C dX9_sort_69 (by decide) (fun q => ?_) (fun q => ?_)
    · have hf := xip q hf
      refine ww_iconst (pc := 90) (v := (0 : Int32)) C dX9_sort_90 (by decide) ?_
      refine ww_istore (pc := 91) (lv' := [(5, .int (0 : Int32)), (0, .ref (gB G + r0)), (1, .ref (gB G + r1)), (2, .ref (gB G + r2)), (3, .ref (gB G + r3))]) C dX9_sort_91 (by decide) rfl ?_
      refine ww_iconst (pc := 93) (v := (0 : Int32)) C dX9_sort_93 (by decide) ?_
      refine ww_istore (pc := 94) (lv' := [(6, .int (0 : Int32)), (5, .int (0 : Int32)), (0, .ref (gB G + r0)), (1, .ref (gB G + r1)), (2, .ref (gB G + r2)), (3, .ref (gB G + r3))]) C dX9_sort_94 (by decide) rfl ?_
      refine ww_sub [2, 3, 5, 1, 0] rfl ?_
      exact s_X9_sort_l96 C (a := ((0 : Int32), σ)) hf hk
    · have hf := xin q hf
      refine ww_aload_n (pc := 72) C 0 dX9_sort_72 rfl ?_
      obtain ⟨v4, e3, hf⟩ := xbd hf
      refine gf_X9_40 (pc := 73) C e3 dX9_sort_73 ?_
      refine ww_bipush (pc := 76) (v := (10 : Int32)) C dX9_sort_76 (by decide) ?_
      refine ww_icmp_gt (pc := 78) (tgt := 90) C dX9_sort_78 (by decide) (fun q => ?_) (fun q => ?_)
      · have hf := xip q hf
        refine ww_iconst (pc := 90) (v := (0 : Int32)) C dX9_sort_90 (by decide) ?_
        refine ww_istore (pc := 91) (lv' := [(5, .int (0 : Int32)), (0, .ref (gB G + r0)), (1, .ref (gB G + r1)), (2, .ref (gB G + r2)), (3, .ref (gB G + r3))]) C dX9_sort_91 (by decide) rfl ?_
        refine ww_iconst (pc := 93) (v := (0 : Int32)) C dX9_sort_93 (by decide) ?_
        refine ww_istore (pc := 94) (lv' := [(6, .int (0 : Int32)), (5, .int (0 : Int32)), (0, .ref (gB G + r0)), (1, .ref (gB G + r1)), (2, .ref (gB G + r2)), (3, .ref (gB G + r3))]) C dX9_sort_94 (by decide) rfl ?_
        refine ww_sub [2, 3, 5, 1, 0] rfl ?_
        exact s_X9_sort_l96 C (a := ((0 : Int32), σ)) hf hk
      · have hf := xin q hf
        refine ww_iconst (pc := 81) (v := (1 : Int32)) C dX9_sort_81 (by decide) ?_
        refine ww_aload_n (pc := 82) C 0 dX9_sort_82 rfl ?_
        obtain ⟨v6, e5, hf⟩ := xbd hf
        refine gf_X9_40 (pc := 83) C e5 dX9_sort_83 ?_
        refine ww_ishl (pc := 86) C dX9_sort_86 ?_
        refine ww_goto (pc := 87) (tgt := 91) C dX9_sort_87 (by decide) ?_
        refine ww_istore (pc := 91) (lv' := [(5, .int ((1 : Int32) <<< (v6 &&& 31))), (0, .ref (gB G + r0)), (1, .ref (gB G + r1)), (2, .ref (gB G + r2)), (3, .ref (gB G + r3))]) C dX9_sort_91 (by decide) rfl ?_
        refine ww_iconst (pc := 93) (v := (0 : Int32)) C dX9_sort_93 (by decide) ?_
        refine ww_istore (pc := 94) (lv' := [(6, .int (0 : Int32)), (5, .int ((1 : Int32) <<< (v6 &&& 31))), (0, .ref (gB G + r0)), (1, .ref (gB G + r1)), (2, .ref (gB G + r2)), (3, .ref (gB G + r3))]) C dX9_sort_94 (by decide) rfl ?_
        refine ww_sub [2, 3, 5, 1, 0] rfl ?_
        exact s_X9_sort_l96 C (a := ((0 : Int32), σ)) hf hk
  · have hf := xin q hf
    refine ww_aload_n (pc := 32) C 0 dX9_sort_32 rfl ?_
    obtain ⟨z2, e1, hf⟩ := xbd hf
    refine gf_X9_15 (pc := 33) C e1 dX9_sort_33 ?_
    refine ww_iload (pc := 36) C 4 dX9_sort_36 rfl ?_
    refine ww_aload_n (pc := 38) C 0 dX9_sort_38 rfl ?_
    obtain ⟨v4, e3, hf⟩ := xbd hf
    refine gf_X9_43 (pc := 39) C e3 dX9_sort_39 ?_
    obtain ⟨σ6, e5, hf⟩ := xbd hf
    refine ww_iast (pc := 42) C e5 dX9_sort_42 ?_
    refine ww_aload_n (pc := 43) C 0 dX9_sort_43 rfl ?_
    refine ww_dup (pc := 44) C dX9_sort_44 rfl ?_
    obtain ⟨v8, e7, hf⟩ := xbd hf
    refine gf_X9_43 (pc := 45) C e7 dX9_sort_45 ?_
    refine ww_aload_n (pc := 48) C 2 dX9_sort_48 rfl ?_
    obtain ⟨z10, e9, hf⟩ := xbd hf
    refine gf_X9_46 (pc := 49) C e9 dX9_sort_49 ?_
    refine ww_iload (pc := 52) C 4 dX9_sort_52 rfl ?_
    obtain ⟨v12, e11, hf⟩ := xbd hf
    refine ww_iald (pc := 54) C e11 dX9_sort_54 ?_
    refine ww_iadd (pc := 55) C dX9_sort_55 ?_
    obtain ⟨σ14, e13, hf⟩ := xbd hf
    refine pf_X9_43 (pc := 56) C e13 dX9_sort_56 ?_
    refine ww_iinc (pc := 59) (v := x5 + (1 : Int32)) (lv' := [(5, .int (x5 + (1 : Int32))), (0, .ref (gB G + r0)), (1, .ref (gB G + r1)), (2, .ref (gB G + r2)), (3, .ref (gB G + r3))]) C 4 dX9_sort_59 rfl (congrArg (fun z => x5 + z) (show Int32.ofInt (1) = (1 : Int32) by decide)) (by decide) rfl ?_
    refine ww_goto (pc := 62) (tgt := 24) C dX9_sort_62 (by decide) ?_
    have hf := xsj hf
    subst hf
    refine ww_sub [1, 2, 3, 4, 0] rfl ?_
    exact hk.1 (x5 + (1 : Int32), σ14) rfl
theorem s_X9_sort_e {G : XG} (C : XC G cX9_sort RX9 none 7 1 22) {σ : XS} {r0 : Nat} {r1 : Nat} {r2 : Nat} {r3 : Nat} {x4 : Int32} {x : XS} (hf : f_X9_sort σ r0 r1 r2 r3 x4 = some x) (hk : XEnd G none x) : WW G 0 [(0, .ref (gB G + r0)), (1, .ref (gB G + r1)), (2, .ref (gB G + r2)), (3, .ref (gB G + r3)), (4, .int x4)] [] σ := by
  refine ww_aload_n (pc := 0) C 0 dX9_sort_0 rfl ?_
  refine ww_aload_n (pc := 1) C 1 dX9_sort_1 rfl ?_
  obtain ⟨_, e1, hf⟩ := xbd hf
  obtain ⟨σ3, e2, hf⟩ := xbd hf
  refine pf_X9_32 (pc := 2) C (xnz_spec e1) e2 dX9_sort_2 ?_
  refine ww_aload_n (pc := 5) C 0 dX9_sort_5 rfl ?_
  refine ww_aload_n (pc := 6) C 3 dX9_sort_6 rfl ?_
  obtain ⟨_, e4, hf⟩ := xbd hf
  obtain ⟨σ6, e5, hf⟩ := xbd hf
  refine pf_X9_36 (pc := 7) C (xnz_spec e4) e5 dX9_sort_7 ?_
  refine ww_aload_n (pc := 10) C 0 dX9_sort_10 rfl ?_
  refine ww_iload (pc := 11) C 4 dX9_sort_11 rfl ?_
  obtain ⟨σ8, e7, hf⟩ := xbd hf
  refine pf_X9_40 (pc := 13) C e7 dX9_sort_13 ?_
  refine ww_aload_n (pc := 16) C 0 dX9_sort_16 rfl ?_
  refine ww_iconst (pc := 17) (v := (0 : Int32)) C dX9_sort_17 (by decide) ?_
  obtain ⟨σ10, e9, hf⟩ := xbd hf
  refine pf_X9_43 (pc := 18) C e9 dX9_sort_18 ?_
  refine ww_iconst (pc := 21) (v := (0 : Int32)) C dX9_sort_21 (by decide) ?_
  refine ww_istore (pc := 22) (lv' := [(5, .int (0 : Int32)), (0, .ref (gB G + r0)), (1, .ref (gB G + r1)), (2, .ref (gB G + r2)), (3, .ref (gB G + r3)), (4, .int x4)]) C dX9_sort_22 (by decide) rfl ?_
  refine ww_sub [1, 2, 3, 4, 0] rfl ?_
  exact s_X9_sort_l24 C (a := ((0 : Int32), σ10)) hf hk
theorem m_X9_sort {σ : XS} {r0 : Nat} {r1 : Nat} {r2 : Nat} {r3 : Nat} {x4 : Int32} {x : XS} (hf : f_X9_sort σ r0 r1 r2 r3 x4 = some x) : xsame σ x := by
  have hm := xsame.rf (σ := σ)
  obtain ⟨_, e1, hf⟩ := xbd hf
  obtain ⟨σ3, e2, hf⟩ := xbd hf
  have hm := hm.tr (xpR_same e2)
  obtain ⟨_, e4, hf⟩ := xbd hf
  obtain ⟨σ6, e5, hf⟩ := xbd hf
  have hm := hm.tr (xpR_same e5)
  obtain ⟨σ8, e7, hf⟩ := xbd hf
  have hm := hm.tr (xpI_same e7)
  obtain ⟨σ10, e9, hf⟩ := xbd hf
  have hm := hm.tr (xpI_same e9)
  exact hm.tr (m_X9_sort_l24 (a := ((0 : Int32), σ10)) hf)
theorem k_X9_sort {l : Launch} {E : XD} {hb : Nat} {σ : XS} {r0 : Nat} {r1 : Nat} {r2 : Nat} {r3 : Nat} {x4 : Int32} {x : XS} (h : f_X9_sort σ r0 r1 r2 r3 x4 = some x) : XM l yX9_sort cX9_sort 7 none 1 22 E hb [.ref (hb + r0), .ref (hb + r1), .ref (hb + r2), .ref (hb + r3), .int x4] σ none x := by
  refine xm_of (by decide) (Nat.le_of_ble_eq_true rfl) (m_X9_sort h).le (fun G hG C hl hQ => ?_)
  obtain ⟨rfl, rfl, rfl, hN⟩ := hG
  exact s_X9_sort_e C h hQ
noncomputable def f_X11_terrainNow_j4 (σ : XS) (r0 : Nat) (t0 : Nat) : Option (Nat × XS) := (xgR σ r0 11 10).bind fun z2 => (xgI σ z2 9 10).bind fun v4 => (xgR σ r0 11 3).bind fun z6 => (xgI σ z6 6 7).bind fun v8 => if v4 = v8 then ((xgR σ r0 11 10).bind fun z10 => (xnz z10).bind fun _ => some (z10, σ)) else (xgR σ r0 11 10).bind fun z10 => (xgR σ r0 11 6).bind fun z12 => (xgR σ r0 11 3).bind fun z14 => (xgR σ r0 11 2).bind fun z16 => (xgI σ z16 3 7).bind fun v18 => (xck σ z10 9).bind fun _ => (f_X9_sort σ z10 z12 t0 z14 v18).bind fun σ21 => (xgR σ21 r0 11 10).bind fun z23 => (xgR σ21 r0 11 3).bind fun z25 => (xgI σ21 z25 6 7).bind fun v27 => (xpI σ21 z23 9 10 v27).bind fun σ29 => (xgR σ29 r0 11 10).bind fun z31 => (xnz z31).bind fun _ => some (z31, σ29)
noncomputable def f_X11_terrainNow (σ : XS) (r0 : Nat) : Option (Nat × XS) := (xck σ r0 11).bind fun _ => (f_X11_levelsNow σ r0).bind fun (z4, σ3) => (xnz z4).bind fun _ => f_X11_terrainNow_j4 σ3 r0 z4
theorem s_X11_terrainNow_j4 {G : XG} (C : XC G cX11_terrainNow RX11 (some (.object "SpinStrip$Terrain")) 2 5 115) {σ : XS} {r0 : Nat} {t0 : Nat} {x : Nat × XS} (hf : f_X11_terrainNow_j4 σ r0 t0 = some x) (hk : XEnd G (some (xrv (gB G) x.1)) x.2 ∧ XUp G x.2) : WW G 4 [(0, .ref (gB G + r0))] [.ref (gB G + t0)] σ := by
  refine ww_astore_n (pc := 4) (lv' := [(1, .ref (gB G + t0)), (0, .ref (gB G + r0))]) C dX11_terrainNow_4 (by decide) rfl ?_
  refine ww_aload_n (pc := 5) C 1 dX11_terrainNow_5 rfl ?_
  obtain ⟨z2, e1, hf⟩ := xbd hf
  refine gf_X11_76 (pc := 6) C e1 dX11_terrainNow_6 ?_
  obtain ⟨v4, e3, hf⟩ := xbd hf
  refine gf_X11_478 (pc := 9) C e3 dX11_terrainNow_9 ?_
  refine ww_aload_n (pc := 12) C 1 dX11_terrainNow_12 rfl ?_
  obtain ⟨z6, e5, hf⟩ := xbd hf
  refine gf_X11_31 (pc := 13) C e5 dX11_terrainNow_13 ?_
  obtain ⟨v8, e7, hf⟩ := xbd hf
  refine gf_X11_463 (pc := 16) C e7 dX11_terrainNow_16 ?_
  refine ww_icmp_eq (pc := 19) (tgt := 59) C dX11_terrainNow_19 (by decide) (fun q => ?_) (fun q => ?_)
  · have hf := xip q hf
    refine ww_aload_n (pc := 59) C 1 dX11_terrainNow_59 rfl ?_
    obtain ⟨z10, e9, hf⟩ := xbd hf
    refine gf_X11_76 (pc := 60) C e9 dX11_terrainNow_60 ?_
    obtain ⟨_, e11, hf⟩ := xbd hf
    have hf := xsj hf
    subst hf
    exact ww_aret (pc := 63) C (Or.inl ⟨_, rfl⟩) (xnz_spec e11) hk.1 dX11_terrainNow_63
  · have hf := xin q hf
    refine ww_aload_n (pc := 22) C 1 dX11_terrainNow_22 rfl ?_
    obtain ⟨z10, e9, hf⟩ := xbd hf
    refine gf_X11_76 (pc := 23) C e9 dX11_terrainNow_23 ?_
    refine ww_aload_n (pc := 26) C 1 dX11_terrainNow_26 rfl ?_
    obtain ⟨z12, e11, hf⟩ := xbd hf
    refine gf_X11_52 (pc := 27) C e11 dX11_terrainNow_27 ?_
    refine ww_aload_n (pc := 30) C 0 dX11_terrainNow_30 rfl ?_
    refine ww_aload_n (pc := 31) C 1 dX11_terrainNow_31 rfl ?_
    obtain ⟨z14, e13, hf⟩ := xbd hf
    refine gf_X11_31 (pc := 32) C e13 dX11_terrainNow_32 ?_
    refine ww_aload_n (pc := 35) C 1 dX11_terrainNow_35 rfl ?_
    obtain ⟨z16, e15, hf⟩ := xbd hf
    refine gf_X11_24 (pc := 36) C e15 dX11_terrainNow_36 ?_
    obtain ⟨v18, e17, hf⟩ := xbd hf
    refine gf_X11_197 (pc := 39) C e17 dX11_terrainNow_39 ?_
    obtain ⟨_, e19, hf⟩ := xbd hf
    obtain ⟨σ21, e20, hf⟩ := xbd hf
    refine ww_callVv (pc := 42) (as := [.ref (gB G + z12), .ref (gB G + t0), .ref (gB G + z14), .int v18]) (st := []) C (k_X9_sort (l := gl G) (E := gE G) (hb := gB G) (σ := σ) e20) rfl (by decide) xc_X11_479 q1118 qp96 (xck_spec e19) rfl (by decide) (xst4 (Nat.le_of_ble_eq_true rfl)) (m_X9_sort e20).le (m_X9_sort e20).lim dX11_terrainNow_42 ?_
    refine ww_aload_n (pc := 45) C 1 dX11_terrainNow_45 rfl ?_
    obtain ⟨z23, e22, hf⟩ := xbd hf
    refine gf_X11_76 (pc := 46) C e22 dX11_terrainNow_46 ?_
    refine ww_aload_n (pc := 49) C 1 dX11_terrainNow_49 rfl ?_
    obtain ⟨z25, e24, hf⟩ := xbd hf
    refine gf_X11_31 (pc := 50) C e24 dX11_terrainNow_50 ?_
    obtain ⟨v27, e26, hf⟩ := xbd hf
    refine gf_X11_463 (pc := 53) C e26 dX11_terrainNow_53 ?_
    obtain ⟨σ29, e28, hf⟩ := xbd hf
    refine pf_X11_478 (pc := 56) C e28 dX11_terrainNow_56 ?_
    refine ww_aload_n (pc := 59) C 1 dX11_terrainNow_59 rfl ?_
    obtain ⟨z31, e30, hf⟩ := xbd hf
    refine gf_X11_76 (pc := 60) C e30 dX11_terrainNow_60 ?_
    obtain ⟨_, e32, hf⟩ := xbd hf
    have hf := xsj hf
    subst hf
    exact ww_aret (pc := 63) C (Or.inl ⟨_, rfl⟩) (xnz_spec e32) hk.1 dX11_terrainNow_63
theorem m_X11_terrainNow_j4 {σ : XS} {r0 : Nat} {t0 : Nat} {x : Nat × XS} (hf : f_X11_terrainNow_j4 σ r0 t0 = some x) : xext σ x.2 := by
  have hm := xext.rf (σ := σ)
  obtain ⟨z2, e1, hf⟩ := xbd hf
  obtain ⟨v4, e3, hf⟩ := xbd hf
  obtain ⟨z6, e5, hf⟩ := xbd hf
  obtain ⟨v8, e7, hf⟩ := xbd hf
  by_cases q : v4 = v8
  · have hf := xip q hf
    obtain ⟨z10, e9, hf⟩ := xbd hf
    obtain ⟨_, e11, hf⟩ := xbd hf
    have hf := xsj hf
    subst hf
    exact hm
  · have hf := xin q hf
    obtain ⟨z10, e9, hf⟩ := xbd hf
    obtain ⟨z12, e11, hf⟩ := xbd hf
    obtain ⟨z14, e13, hf⟩ := xbd hf
    obtain ⟨z16, e15, hf⟩ := xbd hf
    obtain ⟨v18, e17, hf⟩ := xbd hf
    obtain ⟨_, e19, hf⟩ := xbd hf
    obtain ⟨σ21, e20, hf⟩ := xbd hf
    have hm := hm.tr (m_X9_sort e20).ext
    obtain ⟨z23, e22, hf⟩ := xbd hf
    obtain ⟨z25, e24, hf⟩ := xbd hf
    obtain ⟨v27, e26, hf⟩ := xbd hf
    obtain ⟨σ29, e28, hf⟩ := xbd hf
    have hm := hm.tr (xpI_same e28).ext
    obtain ⟨z31, e30, hf⟩ := xbd hf
    obtain ⟨_, e32, hf⟩ := xbd hf
    have hf := xsj hf
    subst hf
    exact hm
theorem s_X11_terrainNow_e {G : XG} (C : XC G cX11_terrainNow RX11 (some (.object "SpinStrip$Terrain")) 2 5 115) {σ : XS} {r0 : Nat} {x : Nat × XS} (hf : f_X11_terrainNow σ r0 = some x) (hk : XEnd G (some (xrv (gB G) x.1)) x.2 ∧ XUp G x.2) : WW G 0 [(0, .ref (gB G + r0))] [] σ := by
  refine ww_aload_n (pc := 0) C 0 dX11_terrainNow_0 rfl ?_
  obtain ⟨_, e1, hf⟩ := xbd hf
  obtain ⟨⟨z4, σ3⟩, e2, hf⟩ := xbd hf
  dsimp only at hf
  obtain ⟨_, e5, hf⟩ := xbd hf
  refine ww_callVr (pc := 1) (as := []) (st := []) C (k_X11_levelsNow (l := gl G) (E := gE G) (hb := gB G) (σ := σ) e2) rfl (by decide) xc_X11_251 q846 qp56 (xck_spec e1) rfl (by decide) (xst4 (Nat.le_of_ble_eq_true rfl)) (m_X11_levelsNow e2).1 (fun q => by have hm9 := m_X11_terrainNow_j4 hf; exact XLim.mid q (m_X11_levelsNow e2) hm9 hk.2) dX11_terrainNow_1 ?_
  refine ww_nn (xnz_spec e5) ?_
  refine ww_sub [0] rfl ?_
  exact s_X11_terrainNow_j4 C hf hk
theorem m_X11_terrainNow {σ : XS} {r0 : Nat} {x : Nat × XS} (hf : f_X11_terrainNow σ r0 = some x) : xext σ x.2 := by
  have hm := xext.rf (σ := σ)
  obtain ⟨_, e1, hf⟩ := xbd hf
  obtain ⟨⟨z4, σ3⟩, e2, hf⟩ := xbd hf
  dsimp only at hf
  have hm := hm.tr (m_X11_levelsNow e2)
  obtain ⟨_, e5, hf⟩ := xbd hf
  exact hm.tr (m_X11_terrainNow_j4 hf)
theorem k_X11_terrainNow {l : Launch} {E : XD} {hb : Nat} {σ : XS} {r0 : Nat} {x : Nat × XS} (h : f_X11_terrainNow σ r0 = some x) : XM l yX11_terrainNow cX11_terrainNow 2 (some (.object "SpinStrip$Terrain")) 5 115 E hb [.ref (hb + r0)] σ (some (xrv (hb) x.1)) x.2 := by
  refine xm_of (by decide) (Nat.le_of_ble_eq_true rfl) (m_X11_terrainNow h).1 (fun G hG C hl hQ => ?_)
  obtain ⟨rfl, rfl, rfl, hN⟩ := hG
  exact s_X11_terrainNow_e C h ⟨hQ, hl.2⟩
noncomputable def f_X9_canTurn (σ : XS) (r0 : Nat) (x1 : Int32) : Option Int32 := (xgN σ r0 9 6).bind fun z2 => if z2 = 0 then (some (0 : Int32)) else (xgN σ r0 9 6).bind fun z4 => if z4 = 0 then (none) else (xck σ z4 6).bind fun _ => (f_X6_isPinned σ z4 x1).bind fun v7 => if v7 = 0 then (some (1 : Int32)) else some (0 : Int32)
theorem s_X9_canTurn_e {G : XG} (C : XC G cX9_canTurn RX9 (some .boolean) 2 2 42) {σ : XS} {r0 : Nat} {x1 : Int32} {x : Int32} (hf : f_X9_canTurn σ r0 x1 = some x) (hk : XEnd G (some (.int x)) σ) : WW G 0 [(0, .ref (gB G + r0)), (1, .int x1)] [] σ := by
  refine ww_aload_n (pc := 0) C 0 dX9_canTurn_0 rfl ?_
  obtain ⟨z2, e1, hf⟩ := xbd hf
  refine gf_X9_36 (pc := 1) C e1 dX9_canTurn_1 ?_
  refine ww_nul (fun q => ?_) (fun q => ?_)
  · have hf := xip q hf
    refine ww_ifnullN (pc := 4) (tgt := 22) C dX9_canTurn_4 (by decide) ?_
    refine ww_iconst (pc := 22) (v := (0 : Int32)) C dX9_canTurn_22 (by decide) ?_
    have hf := xsj hf
    subst hf
    exact ww_zret (pc := 23) C rfl hk dX9_canTurn_23
  · have hf := xin q hf
    refine ww_ifnull (pc := 4) C dX9_canTurn_4 ?_
    refine ww_aload_n (pc := 7) C 0 dX9_canTurn_7 rfl ?_
    obtain ⟨z4, e3, hf⟩ := xbd hf
    refine gf_X9_36 (pc := 8) C e3 dX9_canTurn_8 ?_
    refine ww_nul (fun q => ?_) (fun q => ?_)
    · have hf := xip q hf
      refine ww_iload_n (pc := 11) C 1 dX9_canTurn_11 rfl ?_
      exact absurd hf (fun h => by cases h)
    · have hf := xin q hf
      refine ww_iload_n (pc := 11) C 1 dX9_canTurn_11 rfl ?_
      obtain ⟨_, e5, hf⟩ := xbd hf
      obtain ⟨v7, e6, hf⟩ := xbd hf
      refine ww_callVi (pc := 12) (as := [.int x1]) (st := []) C (k_X6_isPinned (l := gl G) (E := gE G) (hb := gB G) (σ := σ) e6) rfl (by decide) xc_X9_66 q741 qp43 (xck_spec e5) rfl (by decide) (xst4 (Nat.le_of_ble_eq_true rfl)) xsame.rf.le xsame.rf.lim dX9_canTurn_12 ?_
      refine ww_if_ne (pc := 15) (tgt := 22) C dX9_canTurn_15 (by decide) (fun q => ?_) (fun q => ?_)
      · have hf := xin q hf
        refine ww_iconst (pc := 22) (v := (0 : Int32)) C dX9_canTurn_22 (by decide) ?_
        have hf := xsj hf
        subst hf
        exact ww_zret (pc := 23) C rfl hk dX9_canTurn_23
      · have hf := xip q hf
        refine ww_iconst (pc := 18) (v := (1 : Int32)) C dX9_canTurn_18 (by decide) ?_
        refine ww_goto (pc := 19) (tgt := 23) C dX9_canTurn_19 (by decide) ?_
        have hf := xsj hf
        subst hf
        exact ww_zret (pc := 23) C rfl hk dX9_canTurn_23
theorem k_X9_canTurn {l : Launch} {E : XD} {hb : Nat} {σ : XS} {r0 : Nat} {x1 : Int32} {x : Int32} (h : f_X9_canTurn σ r0 x1 = some x) : XM l yX9_canTurn cX9_canTurn 2 (some .boolean) 2 42 E hb [.ref (hb + r0), .int x1] σ (some (.int x)) σ := by
  refine xm_of (by decide) (Nat.le_of_ble_eq_true rfl) ⟨Nat.le_refl _, Nat.le_refl _⟩ (fun G hG C hl hQ => ?_)
  obtain ⟨rfl, rfl, rfl, hN⟩ := hG
  exact s_X9_canTurn_e C h hQ
noncomputable def f_X9_energyOf (σ : XS) (r0 : Nat) (x1 : Int32) : Option Int32 := (xgN σ r0 9 5).bind fun z2 => if z2 = 0 then (some (0 : Int32)) else (xgN σ r0 9 5).bind fun z4 => if z4 = 0 then (none) else (xck σ z4 2).bind fun _ => (f_X2_of σ z4 x1).bind fun v7 => some v7
theorem s_X9_energyOf_e {G : XG} (C : XC G cX9_energyOf RX9 (some .int) 2 1 21) {σ : XS} {r0 : Nat} {x1 : Int32} {x : Int32} (hf : f_X9_energyOf σ r0 x1 = some x) (hk : XEnd G (some (.int x)) σ) : WW G 0 [(0, .ref (gB G + r0)), (1, .int x1)] [] σ := by
  refine ww_aload_n (pc := 0) C 0 dX9_energyOf_0 rfl ?_
  obtain ⟨z2, e1, hf⟩ := xbd hf
  refine gf_X9_32 (pc := 1) C e1 dX9_energyOf_1 ?_
  refine ww_nul (fun q => ?_) (fun q => ?_)
  · have hf := xip q hf
    refine ww_ifnonnullN (pc := 4) C dX9_energyOf_4 ?_
    refine ww_iconst (pc := 7) (v := (0 : Int32)) C dX9_energyOf_7 (by decide) ?_
    refine ww_goto (pc := 8) (tgt := 19) C dX9_energyOf_8 (by decide) ?_
    have hf := xsj hf
    subst hf
    exact ww_iret (pc := 19) C hk dX9_energyOf_19
  · have hf := xin q hf
    refine ww_ifnonnull (pc := 4) (tgt := 11) C dX9_energyOf_4 (by decide) ?_
    refine ww_aload_n (pc := 11) C 0 dX9_energyOf_11 rfl ?_
    obtain ⟨z4, e3, hf⟩ := xbd hf
    refine gf_X9_32 (pc := 12) C e3 dX9_energyOf_12 ?_
    refine ww_nul (fun q => ?_) (fun q => ?_)
    · have hf := xip q hf
      refine ww_iload_n (pc := 15) C 1 dX9_energyOf_15 rfl ?_
      exact absurd hf (fun h => by cases h)
    · have hf := xin q hf
      refine ww_iload_n (pc := 15) C 1 dX9_energyOf_15 rfl ?_
      obtain ⟨_, e5, hf⟩ := xbd hf
      obtain ⟨v7, e6, hf⟩ := xbd hf
      refine ww_callVi (pc := 16) (as := [.int x1]) (st := []) C (k_X2_of (l := gl G) (E := gE G) (hb := gB G) (σ := σ) e6) rfl (by decide) xc_X9_56 q880 qp64 (xck_spec e5) rfl (by decide) (xst4 (Nat.le_of_ble_eq_true rfl)) xsame.rf.le xsame.rf.lim dX9_energyOf_16 ?_
      have hf := xsj hf
      subst hf
      exact ww_iret (pc := 19) C hk dX9_energyOf_19
theorem k_X9_energyOf {l : Launch} {E : XD} {hb : Nat} {σ : XS} {r0 : Nat} {x1 : Int32} {x : Int32} (h : f_X9_energyOf σ r0 x1 = some x) : XM l yX9_energyOf cX9_energyOf 2 (some .int) 1 21 E hb [.ref (hb + r0), .int x1] σ (some (.int x)) σ := by
  refine xm_of (by decide) (Nat.le_of_ble_eq_true rfl) ⟨Nat.le_refl _, Nat.le_refl _⟩ (fun G hG C hl hQ => ?_)
  obtain ⟨rfl, rfl, rfl, hN⟩ := hG
  exact s_X9_energyOf_e C h hQ
noncomputable def f_X9_steepestFrom_b4 (σ : XS) (r0 : Nat) (x1 : Int32) : Int32 × Int32 → Option ((Int32 × Int32) ⊕ (Int32)) := fun a => match a with
  | (x2, x3) => (xgI σ r0 9 7).bind fun v2 => if v2 ≤ x3 then ((some x2).map .inr) else (xck σ r0 9).bind fun _ => (f_X9_canTurn σ r0 x3).bind fun v5 => if v5 = 0 then (some (.inl (x2, x3 + (1 : Int32)))) else (xck σ r0 9).bind fun _ => (f_X9_energyOf σ r0 (x1 ^^^ ((1 : Int32) <<< (x3 &&& 31)))).bind fun v8 => (xck σ r0 9).bind fun _ => (f_X9_energyOf σ r0 x2).bind fun v11 => if v11 ≤ v8 then (some (.inl (x2, x3 + (1 : Int32)))) else some (.inl (x1 ^^^ ((1 : Int32) <<< (x3 &&& 31)), x3 + (1 : Int32)))
noncomputable def f_X9_steepestFrom (σ : XS) (r0 : Nat) (x1 : Int32) : Option Int32 := xloop (f_X9_steepestFrom_b4 σ r0 x1) (x1, (0 : Int32))
theorem s_X9_steepestFrom_l4 {G : XG} (C : XC G cX9_steepestFrom RX9 (some .int) 5 3 63) {σ : XS} {r0 : Nat} {x1 : Int32} {a : Int32 × Int32} {x : Int32} (hf : xloop (f_X9_steepestFrom_b4 σ r0 x1) a = some x) (hk : XEnd G (some (.int x)) σ) : WW G 4 [(0, .ref (gB G + r0)), (1, .int x1), (2, .int a.1), (3, .int a.2)] [] σ := by
  refine xloop_ind (P := fun a => WW G 4 [(0, .ref (gB G + r0)), (1, .int x1), (2, .int a.1), (3, .int a.2)] [] σ) (fun a y hf hc he => ?_) hf
  obtain ⟨x2, x3⟩ := a
  have hk : (∀ a' : Int32 × Int32, y = .inl a' → WW G 4 [(0, .ref (gB G + r0)), (1, .int x1), (2, .int a'.1), (3, .int a'.2)] [] σ) ∧ (∀ b1 : Int32, y = .inr b1 → XEnd G (some (.int b1)) σ) := ⟨hc, fun b e => by have h9 := he b e; subst h9; exact hk⟩
  refine ww_iload_n (pc := 4) C 3 dX9_steepestFrom_4 rfl ?_
  refine ww_aload_n (pc := 5) C 0 dX9_steepestFrom_5 rfl ?_
  obtain ⟨v2, e1, hf⟩ := xbd hf
  refine gf_X9_40 (pc := 6) C e1 dX9_steepestFrom_6 ?_
  refine ww_icmp_ge (pc := 9) (tgt := 50) C dX9_steepestFrom_9 (by decide) (fun q => ?_) (fun q => ?_)
  · have hf := xip q hf
    obtain ⟨b0, hg, e9⟩ := xmj hf
    subst e9
    have hf := hg
    have hk := hk.2 _ rfl
    refine ww_iload_n (pc := 50) C 2 dX9_steepestFrom_50 rfl ?_
    have hf := xsj hf
    subst hf
    exact ww_iret (pc := 51) C hk dX9_steepestFrom_51
  · have hf := xin q hf
    refine ww_iload_n (pc := 12) C 1 dX9_steepestFrom_12 rfl ?_
    refine ww_iconst (pc := 13) (v := (1 : Int32)) C dX9_steepestFrom_13 (by decide) ?_
    refine ww_iload_n (pc := 14) C 3 dX9_steepestFrom_14 rfl ?_
    refine ww_ishl (pc := 15) C dX9_steepestFrom_15 ?_
    refine ww_ixor (pc := 16) C dX9_steepestFrom_16 ?_
    refine ww_istore (pc := 17) (lv' := [(4, .int (x1 ^^^ ((1 : Int32) <<< (x3 &&& 31)))), (0, .ref (gB G + r0)), (1, .int x1), (2, .int x2), (3, .int x3)]) C dX9_steepestFrom_17 (by decide) rfl ?_
    refine ww_aload_n (pc := 19) C 1 dX9_steepestFrom_19 rfl ?_
    refine ww_iload_n (pc := 20) C 4 dX9_steepestFrom_20 rfl ?_
    obtain ⟨_, e3, hf⟩ := xbd hf
    obtain ⟨v5, e4, hf⟩ := xbd hf
    refine ww_callVi (pc := 21) (as := [.int x3]) (st := []) C (k_X9_canTurn (l := gl G) (E := gE G) (hb := gB G) (σ := σ) e4) rfl (by decide) xc_X9_87 q1136 qp100 (xck_spec e3) rfl (by decide) (xst4 (Nat.le_of_ble_eq_true rfl)) xsame.rf.le xsame.rf.lim dX9_steepestFrom_21 ?_
    refine ww_if_eq (pc := 24) (tgt := 44) C dX9_steepestFrom_24 (by decide) (fun q => ?_) (fun q => ?_)
    · have hf := xip q hf
      refine ww_iinc (pc := 44) (v := x3 + (1 : Int32)) (lv' := [(3, .int (x3 + (1 : Int32))), (4, .int (x1 ^^^ ((1 : Int32) <<< (x3 &&& 31)))), (0, .ref (gB G + r0)), (1, .int x1), (2, .int x2)]) C 4 dX9_steepestFrom_44 rfl (congrArg (fun z => x3 + z) (show Int32.ofInt (1) = (1 : Int32) by decide)) (by decide) rfl ?_
      refine ww_goto (pc := 47) (tgt := 4) C dX9_steepestFrom_47 (by decide) ?_
      have hf := xsj hf
      subst hf
      refine ww_sub [2, 3, 4, 0] rfl ?_
      exact hk.1 (x2, x3 + (1 : Int32)) rfl
    · have hf := xin q hf
      refine ww_aload_n (pc := 27) C 1 dX9_steepestFrom_27 rfl ?_
      refine ww_iload (pc := 28) C 0 dX9_steepestFrom_28 rfl ?_
      obtain ⟨_, e6, hf⟩ := xbd hf
      obtain ⟨v8, e7, hf⟩ := xbd hf
      refine ww_callVi (pc := 30) (as := [.int (x1 ^^^ ((1 : Int32) <<< (x3 &&& 31)))]) (st := []) C (k_X9_energyOf (l := gl G) (E := gE G) (hb := gB G) (σ := σ) e7) rfl (by decide) xc_X9_100 q1141 qp101 (xck_spec e6) rfl (by decide) (xst4 (Nat.le_of_ble_eq_true rfl)) xsame.rf.le xsame.rf.lim dX9_steepestFrom_30 ?_
      refine ww_aload_n (pc := 33) C 1 dX9_steepestFrom_33 rfl ?_
      refine ww_iload_n (pc := 34) C 3 dX9_steepestFrom_34 rfl ?_
      obtain ⟨_, e9, hf⟩ := xbd hf
      obtain ⟨v11, e10, hf⟩ := xbd hf
      refine ww_callVi (pc := 35) (as := [.int x2]) (st := [.int v8]) C (k_X9_energyOf (l := gl G) (E := gE G) (hb := gB G) (σ := σ) e10) rfl (by decide) xc_X9_100 q1141 qp101 (xck_spec e9) rfl (by decide) (xst4 (Nat.le_of_ble_eq_true rfl)) xsame.rf.le xsame.rf.lim dX9_steepestFrom_35 ?_
      refine ww_icmp_ge (pc := 38) (tgt := 44) C dX9_steepestFrom_38 (by decide) (fun q => ?_) (fun q => ?_)
      · have hf := xip q hf
        refine ww_iinc (pc := 44) (v := x3 + (1 : Int32)) (lv' := [(3, .int (x3 + (1 : Int32))), (4, .int (x1 ^^^ ((1 : Int32) <<< (x3 &&& 31)))), (0, .ref (gB G + r0)), (1, .int x1), (2, .int x2)]) C 4 dX9_steepestFrom_44 rfl (congrArg (fun z => x3 + z) (show Int32.ofInt (1) = (1 : Int32) by decide)) (by decide) rfl ?_
        refine ww_goto (pc := 47) (tgt := 4) C dX9_steepestFrom_47 (by decide) ?_
        have hf := xsj hf
        subst hf
        refine ww_sub [2, 3, 4, 0] rfl ?_
        exact hk.1 (x2, x3 + (1 : Int32)) rfl
      · have hf := xin q hf
        refine ww_iload (pc := 41) C 0 dX9_steepestFrom_41 rfl ?_
        refine ww_istore_n (pc := 43) (lv' := [(2, .int (x1 ^^^ ((1 : Int32) <<< (x3 &&& 31)))), (4, .int (x1 ^^^ ((1 : Int32) <<< (x3 &&& 31)))), (0, .ref (gB G + r0)), (1, .int x1), (3, .int x3)]) C dX9_steepestFrom_43 (by decide) rfl ?_
        refine ww_iinc (pc := 44) (v := x3 + (1 : Int32)) (lv' := [(3, .int (x3 + (1 : Int32))), (2, .int (x1 ^^^ ((1 : Int32) <<< (x3 &&& 31)))), (4, .int (x1 ^^^ ((1 : Int32) <<< (x3 &&& 31)))), (0, .ref (gB G + r0)), (1, .int x1)]) C 4 dX9_steepestFrom_44 rfl (congrArg (fun z => x3 + z) (show Int32.ofInt (1) = (1 : Int32) by decide)) (by decide) rfl ?_
        refine ww_goto (pc := 47) (tgt := 4) C dX9_steepestFrom_47 (by decide) ?_
        have hf := xsj hf
        subst hf
        refine ww_sub [3, 4, 1, 0] rfl ?_
        exact hk.1 (x1 ^^^ ((1 : Int32) <<< (x3 &&& 31)), x3 + (1 : Int32)) rfl
theorem s_X9_steepestFrom_e {G : XG} (C : XC G cX9_steepestFrom RX9 (some .int) 5 3 63) {σ : XS} {r0 : Nat} {x1 : Int32} {x : Int32} (hf : f_X9_steepestFrom σ r0 x1 = some x) (hk : XEnd G (some (.int x)) σ) : WW G 0 [(0, .ref (gB G + r0)), (1, .int x1)] [] σ := by
  refine ww_iload_n (pc := 0) C 1 dX9_steepestFrom_0 rfl ?_
  refine ww_istore_n (pc := 1) (lv' := [(2, .int x1), (0, .ref (gB G + r0)), (1, .int x1)]) C dX9_steepestFrom_1 (by decide) rfl ?_
  refine ww_iconst (pc := 2) (v := (0 : Int32)) C dX9_steepestFrom_2 (by decide) ?_
  refine ww_istore_n (pc := 3) (lv' := [(3, .int (0 : Int32)), (2, .int x1), (0, .ref (gB G + r0)), (1, .int x1)]) C dX9_steepestFrom_3 (by decide) rfl ?_
  refine ww_sub [2, 3, 1, 0] rfl ?_
  exact s_X9_steepestFrom_l4 C (a := (x1, (0 : Int32))) hf hk
theorem k_X9_steepestFrom {l : Launch} {E : XD} {hb : Nat} {σ : XS} {r0 : Nat} {x1 : Int32} {x : Int32} (h : f_X9_steepestFrom σ r0 x1 = some x) : XM l yX9_steepestFrom cX9_steepestFrom 5 (some .int) 3 63 E hb [.ref (hb + r0), .int x1] σ (some (.int x)) σ := by
  refine xm_of (by decide) (Nat.le_of_ble_eq_true rfl) ⟨Nat.le_refl _, Nat.le_refl _⟩ (fun G hG C hl hQ => ?_)
  obtain ⟨rfl, rfl, rfl, hN⟩ := hG
  exact s_X9_steepestFrom_e C h hQ
noncomputable def f_X9_isState (x0 : Int32) : Option Int32 := if x0 < 0 then (some (0 : Int32)) else if (1024 : Int32) ≤ x0 then (some (0 : Int32)) else some (1 : Int32)
theorem s_X9_isState_e {G : XG} (C : XC G cX9_isState RX9 (some .boolean) 1 0 0) {σ : XS} {x0 : Int32} {x : Int32} (hf : f_X9_isState x0 = some x) (hk : XEnd G (some (.int x)) σ) : WW G 0 [(0, .int x0)] [] σ := by
  refine ww_iload_n (pc := 0) C 0 dX9_isState_0 rfl ?_
  refine ww_if_lt (pc := 1) (tgt := 15) C dX9_isState_1 (by decide) (fun q => ?_) (fun q => ?_)
  · have hf := xip q hf
    refine ww_iconst (pc := 15) (v := (0 : Int32)) C dX9_isState_15 (by decide) ?_
    have hf := xsj hf
    subst hf
    exact ww_zret (pc := 16) C rfl hk dX9_isState_16
  · have hf := xin q hf
    refine ww_iload_n (pc := 4) C 0 dX9_isState_4 rfl ?_
    refine ww_sipush (pc := 5) (v := (1024 : Int32)) C dX9_isState_5 (by decide) ?_
    refine ww_icmp_ge (pc := 8) (tgt := 15) C dX9_isState_8 (by decide) (fun q => ?_) (fun q => ?_)
    · have hf := xip q hf
      refine ww_iconst (pc := 15) (v := (0 : Int32)) C dX9_isState_15 (by decide) ?_
      have hf := xsj hf
      subst hf
      exact ww_zret (pc := 16) C rfl hk dX9_isState_16
    · have hf := xin q hf
      refine ww_iconst (pc := 11) (v := (1 : Int32)) C dX9_isState_11 (by decide) ?_
      refine ww_goto (pc := 12) (tgt := 16) C dX9_isState_12 (by decide) ?_
      have hf := xsj hf
      subst hf
      exact ww_zret (pc := 16) C rfl hk dX9_isState_16
theorem k_X9_isState {l : Launch} {E : XD} {hb : Nat} {σ : XS} {x0 : Int32} {x : Int32} (h : f_X9_isState x0 = some x) : XM l yX9_isState cX9_isState 1 (some .boolean) 0 0 E hb [.int x0] σ (some (.int x)) σ := by
  refine xm_of (by decide) (Nat.le_of_ble_eq_true rfl) ⟨Nat.le_refl _, Nat.le_refl _⟩ (fun G hG C hl hQ => ?_)
  obtain ⟨rfl, rfl, rfl, hN⟩ := hG
  exact s_X9_isState_e C h hQ
noncomputable def f_X9_basinOf_j93 (σ : XS) (r0 : Nat) (x1 : Int32) (x2 : Int32) (x3 : Int32) (x5 : Int32) : Option ((Int32 × Int32 × XS) ⊕ (Int32 × XS)) := if x5 = x1 then (some (.inl (x2 + (1 : Int32), x3 + (1 : Int32), σ))) else some (.inl (x2 + (0 : Int32), x3 + (1 : Int32), σ))
noncomputable def f_X9_basinOf_j66 (σ : XS) (r0 : Nat) (x1 : Int32) (x2 : Int32) (x3 : Int32) (t0 : Int32) : Option ((Int32 × Int32 × XS) ⊕ (Int32 × XS)) := (xgR σ r0 9 0).bind fun z2 => (xaI σ 20 z2 x3).bind fun v4 => (f_X9_isState v4).bind fun v6 => if v6 = 0 then (f_X9_basinOf_j93 σ r0 x1 x2 x3 t0) else (xgR σ r0 9 3).bind fun z8 => (xgR σ r0 9 0).bind fun z10 => (xaI σ 20 z10 x3).bind fun v12 => (xsI σ 20 z8 v12 t0).bind fun σ14 => f_X9_basinOf_j93 σ14 r0 x1 x2 x3 t0
noncomputable def f_X9_basinOf_b4 (r0 : Nat) (x1 : Int32) : Int32 × Int32 × XS → Option ((Int32 × Int32 × XS) ⊕ (Int32 × XS)) := fun a => match a with
  | (x2, x3, σ) => (xgI σ r0 9 8).bind fun v2 => if v2 ≤ x3 then ((some (x2, σ)).map .inr) else if (1024 : Int32) ≤ x3 then ((some (x2, σ)).map .inr) else (xgR σ r0 9 0).bind fun z4 => (xaI σ 20 z4 x3).bind fun v6 => (xck σ r0 9).bind fun _ => (f_X9_steepestFrom σ r0 v6).bind fun v9 => (xgR σ r0 9 0).bind fun z11 => (xaI σ 20 z11 x3).bind fun v13 => if v9 = v13 then ((xgR σ r0 9 0).bind fun z15 => (xaI σ 20 z15 x3).bind fun v17 => f_X9_basinOf_j66 σ r0 x1 x2 x3 v17) else (f_X9_isState v9).bind fun v15 => if v15 = 0 then ((xgR σ r0 9 0).bind fun z17 => (xaI σ 20 z17 x3).bind fun v19 => f_X9_basinOf_j66 σ r0 x1 x2 x3 v19) else (xgR σ r0 9 3).bind fun z17 => (xaI σ 20 z17 v9).bind fun v19 => f_X9_basinOf_j66 σ r0 x1 x2 x3 v19
noncomputable def f_X9_basinOf (σ : XS) (r0 : Nat) (x1 : Int32) : Option (Int32 × XS) := xloop (f_X9_basinOf_b4 r0 x1) ((0 : Int32), (0 : Int32), σ)
theorem s_X9_basinOf_j93 {G : XG} (C : XC G cX9_basinOf RX9 (some .int) 6 4 87) {σ : XS} {r0 : Nat} {x1 : Int32} {x2 : Int32} {x3 : Int32} {x5 : Int32} {x : ((Int32 × Int32 × XS) ⊕ (Int32 × XS))} (hf : f_X9_basinOf_j93 σ r0 x1 x2 x3 x5 = some x) (hk : (∀ a' : Int32 × Int32 × XS, x = .inl a' → WW G 4 [(0, .ref (gB G + r0)), (1, .int x1), (2, .int a'.1), (3, .int a'.2.1)] [] a'.2.2) ∧ (∀ b1 : Int32 × XS, x = .inr b1 → XEnd G (some (.int b1.1)) b1.2)) : WW G 93 [(0, .ref (gB G + r0)), (1, .int x1), (2, .int x2), (3, .int x3), (5, .int x5)] [] σ := by
  refine ww_iload_n (pc := 93) C 2 dX9_basinOf_93 rfl ?_
  refine ww_iload (pc := 94) C 4 dX9_basinOf_94 rfl ?_
  refine ww_iload_n (pc := 96) C 1 dX9_basinOf_96 rfl ?_
  refine ww_icmp_ne (pc := 97) (tgt := 104) C dX9_basinOf_97 (by decide) (fun q => ?_) (fun q => ?_)
  · have hf := xin q hf
    refine ww_iconst (pc := 104) (v := (0 : Int32)) C dX9_basinOf_104 (by decide) ?_
    refine ww_iadd (pc := 105) C dX9_basinOf_105 ?_
    refine ww_istore_n (pc := 106) (lv' := [(2, .int (x2 + (0 : Int32))), (0, .ref (gB G + r0)), (1, .int x1), (3, .int x3), (5, .int x5)]) C dX9_basinOf_106 (by decide) rfl ?_
    refine ww_iinc (pc := 107) (v := x3 + (1 : Int32)) (lv' := [(3, .int (x3 + (1 : Int32))), (2, .int (x2 + (0 : Int32))), (0, .ref (gB G + r0)), (1, .int x1), (5, .int x5)]) C 3 dX9_basinOf_107 rfl (congrArg (fun z => x3 + z) (show Int32.ofInt (1) = (1 : Int32) by decide)) (by decide) rfl ?_
    refine ww_goto (pc := 110) (tgt := 4) C dX9_basinOf_110 (by decide) ?_
    have hf := xsj hf
    subst hf
    refine ww_sub [2, 3, 1, 0] rfl ?_
    exact hk.1 (x2 + (0 : Int32), x3 + (1 : Int32), σ) rfl
  · have hf := xip q hf
    refine ww_iconst (pc := 100) (v := (1 : Int32)) C dX9_basinOf_100 (by decide) ?_
    refine ww_goto (pc := 101) (tgt := 105) C dX9_basinOf_101 (by decide) ?_
    refine ww_iadd (pc := 105) C dX9_basinOf_105 ?_
    refine ww_istore_n (pc := 106) (lv' := [(2, .int (x2 + (1 : Int32))), (0, .ref (gB G + r0)), (1, .int x1), (3, .int x3), (5, .int x5)]) C dX9_basinOf_106 (by decide) rfl ?_
    refine ww_iinc (pc := 107) (v := x3 + (1 : Int32)) (lv' := [(3, .int (x3 + (1 : Int32))), (2, .int (x2 + (1 : Int32))), (0, .ref (gB G + r0)), (1, .int x1), (5, .int x5)]) C 3 dX9_basinOf_107 rfl (congrArg (fun z => x3 + z) (show Int32.ofInt (1) = (1 : Int32) by decide)) (by decide) rfl ?_
    refine ww_goto (pc := 110) (tgt := 4) C dX9_basinOf_110 (by decide) ?_
    have hf := xsj hf
    subst hf
    refine ww_sub [2, 3, 1, 0] rfl ?_
    exact hk.1 (x2 + (1 : Int32), x3 + (1 : Int32), σ) rfl
theorem m_X9_basinOf_j93 {σ : XS} {r0 : Nat} {x1 : Int32} {x2 : Int32} {x3 : Int32} {x5 : Int32} {x : ((Int32 × Int32 × XS) ⊕ (Int32 × XS))} (hf : f_X9_basinOf_j93 σ r0 x1 x2 x3 x5 = some x) : (∀ a' : Int32 × Int32 × XS, x = .inl a' → xsame σ a'.2.2) ∧ (∀ b1 : Int32 × XS, x = .inr b1 → xsame σ b1.2) := by
  have hm := xsame.rf (σ := σ)
  by_cases q : x5 = x1
  · have hf := xip q hf
    have hf := xsj hf
    subst hf
    exact ⟨fun a' e => (by have h9 := Sum.inl.inj e; subst h9; exact hm), fun b e => xnc1 e⟩
  · have hf := xin q hf
    have hf := xsj hf
    subst hf
    exact ⟨fun a' e => (by have h9 := Sum.inl.inj e; subst h9; exact hm), fun b e => xnc1 e⟩
theorem s_X9_basinOf_j66 {G : XG} (C : XC G cX9_basinOf RX9 (some .int) 6 4 87) {σ : XS} {r0 : Nat} {x1 : Int32} {x2 : Int32} {x3 : Int32} {t0 : Int32} {x : ((Int32 × Int32 × XS) ⊕ (Int32 × XS))} (hf : f_X9_basinOf_j66 σ r0 x1 x2 x3 t0 = some x) (hk : (∀ a' : Int32 × Int32 × XS, x = .inl a' → WW G 4 [(0, .ref (gB G + r0)), (1, .int x1), (2, .int a'.1), (3, .int a'.2.1)] [] a'.2.2) ∧ (∀ b1 : Int32 × XS, x = .inr b1 → XEnd G (some (.int b1.1)) b1.2)) : WW G 66 [(0, .ref (gB G + r0)), (1, .int x1), (2, .int x2), (3, .int x3)] [.int t0] σ := by
  refine ww_istore (pc := 66) (lv' := [(5, .int t0), (0, .ref (gB G + r0)), (1, .int x1), (2, .int x2), (3, .int x3)]) C dX9_basinOf_66 (by decide) rfl ?_
  refine ww_aload_n (pc := 68) C 1 dX9_basinOf_68 rfl ?_
  obtain ⟨z2, e1, hf⟩ := xbd hf
  refine gf_X9_9 (pc := 69) C e1 dX9_basinOf_69 ?_
  refine ww_iload_n (pc := 72) C 4 dX9_basinOf_72 rfl ?_
  obtain ⟨v4, e3, hf⟩ := xbd hf
  refine ww_iald (pc := 73) C e3 dX9_basinOf_73 ?_
  obtain ⟨v6, e5, hf⟩ := xbd hf
  refine ww_callSi (pc := 74) (as := [.int v4]) (st := []) C (k_X9_isState (l := gl G) (E := gE G) (hb := gB G) (σ := σ) e5) xc_X9_69 q1144 rfl (by decide) (xst4 (Nat.le_of_ble_eq_true rfl)) xsame.rf.le xsame.rf.lim dX9_basinOf_74 ?_
  refine ww_if_eq (pc := 77) (tgt := 93) C dX9_basinOf_77 (by decide) (fun q => ?_) (fun q => ?_)
  · have hf := xip q hf
    refine ww_sub [1, 2, 3, 4, 0] rfl ?_
    exact s_X9_basinOf_j93 C hf hk
  · have hf := xin q hf
    refine ww_aload_n (pc := 80) C 1 dX9_basinOf_80 rfl ?_
    obtain ⟨z8, e7, hf⟩ := xbd hf
    refine gf_X9_21 (pc := 81) C e7 dX9_basinOf_81 ?_
    refine ww_aload_n (pc := 84) C 1 dX9_basinOf_84 rfl ?_
    obtain ⟨z10, e9, hf⟩ := xbd hf
    refine gf_X9_9 (pc := 85) C e9 dX9_basinOf_85 ?_
    refine ww_iload_n (pc := 88) C 4 dX9_basinOf_88 rfl ?_
    obtain ⟨v12, e11, hf⟩ := xbd hf
    refine ww_iald (pc := 89) C e11 dX9_basinOf_89 ?_
    refine ww_iload (pc := 90) C 0 dX9_basinOf_90 rfl ?_
    obtain ⟨σ14, e13, hf⟩ := xbd hf
    refine ww_iast (pc := 92) C e13 dX9_basinOf_92 ?_
    refine ww_sub [1, 2, 3, 4, 0] rfl ?_
    exact s_X9_basinOf_j93 C hf hk
theorem m_X9_basinOf_j66 {σ : XS} {r0 : Nat} {x1 : Int32} {x2 : Int32} {x3 : Int32} {t0 : Int32} {x : ((Int32 × Int32 × XS) ⊕ (Int32 × XS))} (hf : f_X9_basinOf_j66 σ r0 x1 x2 x3 t0 = some x) : (∀ a' : Int32 × Int32 × XS, x = .inl a' → xsame σ a'.2.2) ∧ (∀ b1 : Int32 × XS, x = .inr b1 → xsame σ b1.2) := by
  have hm := xsame.rf (σ := σ)
  obtain ⟨z2, e1, hf⟩ := xbd hf
  obtain ⟨v4, e3, hf⟩ := xbd hf
  obtain ⟨v6, e5, hf⟩ := xbd hf
  by_cases q : v6 = 0
  · have hf := xip q hf
    exact ⟨fun a' e => hm.tr ((m_X9_basinOf_j93 hf).1 a' e), fun b1 eb1 => hm.tr ((m_X9_basinOf_j93 hf).2 b1 eb1)⟩
  · have hf := xin q hf
    obtain ⟨z8, e7, hf⟩ := xbd hf
    obtain ⟨z10, e9, hf⟩ := xbd hf
    obtain ⟨v12, e11, hf⟩ := xbd hf
    obtain ⟨σ14, e13, hf⟩ := xbd hf
    have hm := hm.tr (xsI_same e13)
    exact ⟨fun a' e => hm.tr ((m_X9_basinOf_j93 hf).1 a' e), fun b1 eb1 => hm.tr ((m_X9_basinOf_j93 hf).2 b1 eb1)⟩
theorem m_X9_basinOf_l4 {r0 : Nat} {x1 : Int32} {a : Int32 × Int32 × XS} {x : Int32 × XS} (hf : xloop (f_X9_basinOf_b4 r0 x1) a = some x) : xsame a.2.2 x.2 := by
  refine xloop_ind (P := fun a => xsame a.2.2 x.2) (fun a y hf hc he => ?_) hf
  obtain ⟨x2, x3, σ⟩ := a
  have hy : (∀ a' : Int32 × Int32 × XS, y = .inl a' → xsame σ a'.2.2) ∧ (∀ b1 : Int32 × XS, y = .inr b1 → xsame σ b1.2) := by
    have hm := xsame.rf (σ := σ)
    obtain ⟨v2, e1, hf⟩ := xbd hf
    by_cases q : v2 ≤ x3
    · have hf := xip q hf
      obtain ⟨b0, hg, e9⟩ := xmj hf
      subst e9
      have hf := hg
      refine ⟨fun a' e => xnc2 e, fun b e => ?_⟩
      have h9 := Sum.inr.inj e
      subst h9
      have hf := xsj hf
      subst hf
      exact hm
    · have hf := xin q hf
      by_cases q : (1024 : Int32) ≤ x3
      · have hf := xip q hf
        obtain ⟨b0, hg, e9⟩ := xmj hf
        subst e9
        have hf := hg
        refine ⟨fun a' e => xnc2 e, fun b e => ?_⟩
        have h9 := Sum.inr.inj e
        subst h9
        have hf := xsj hf
        subst hf
        exact hm
      · have hf := xin q hf
        obtain ⟨z4, e3, hf⟩ := xbd hf
        obtain ⟨v6, e5, hf⟩ := xbd hf
        obtain ⟨_, e7, hf⟩ := xbd hf
        obtain ⟨v9, e8, hf⟩ := xbd hf
        obtain ⟨z11, e10, hf⟩ := xbd hf
        obtain ⟨v13, e12, hf⟩ := xbd hf
        by_cases q : v9 = v13
        · have hf := xip q hf
          obtain ⟨z15, e14, hf⟩ := xbd hf
          obtain ⟨v17, e16, hf⟩ := xbd hf
          exact ⟨fun a' e => hm.tr ((m_X9_basinOf_j66 hf).1 a' e), fun b1 eb1 => hm.tr ((m_X9_basinOf_j66 hf).2 b1 eb1)⟩
        · have hf := xin q hf
          obtain ⟨v15, e14, hf⟩ := xbd hf
          by_cases q : v15 = 0
          · have hf := xip q hf
            obtain ⟨z17, e16, hf⟩ := xbd hf
            obtain ⟨v19, e18, hf⟩ := xbd hf
            exact ⟨fun a' e => hm.tr ((m_X9_basinOf_j66 hf).1 a' e), fun b1 eb1 => hm.tr ((m_X9_basinOf_j66 hf).2 b1 eb1)⟩
          · have hf := xin q hf
            obtain ⟨z17, e16, hf⟩ := xbd hf
            obtain ⟨v19, e18, hf⟩ := xbd hf
            exact ⟨fun a' e => hm.tr ((m_X9_basinOf_j66 hf).1 a' e), fun b1 eb1 => hm.tr ((m_X9_basinOf_j66 hf).2 b1 eb1)⟩
  cases y with
  | inl a' =>
    have h1 := hc a' rfl
    have hm := hy.1 a' rfl
    exact hm.tr (h1)
  | inr b =>
    have h1 := he b rfl
    subst h1
    exact hy.2 _ rfl
theorem s_X9_basinOf_l4 {G : XG} (C : XC G cX9_basinOf RX9 (some .int) 6 4 87) {r0 : Nat} {x1 : Int32} {a : Int32 × Int32 × XS} {x : Int32 × XS} (hf : xloop (f_X9_basinOf_b4 r0 x1) a = some x) (hk : XEnd G (some (.int x.1)) x.2) : WW G 4 [(0, .ref (gB G + r0)), (1, .int x1), (2, .int a.1), (3, .int a.2.1)] [] a.2.2 := by
  refine xloop_ind (P := fun a => WW G 4 [(0, .ref (gB G + r0)), (1, .int x1), (2, .int a.1), (3, .int a.2.1)] [] a.2.2) (fun a y hf hc he => ?_) hf
  obtain ⟨x2, x3, σ⟩ := a
  have hk : (∀ a' : Int32 × Int32 × XS, y = .inl a' → WW G 4 [(0, .ref (gB G + r0)), (1, .int x1), (2, .int a'.1), (3, .int a'.2.1)] [] a'.2.2) ∧ (∀ b1 : Int32 × XS, y = .inr b1 → XEnd G (some (.int b1.1)) b1.2) := ⟨hc, fun b e => by have h9 := he b e; subst h9; exact hk⟩
  refine ww_iload_n (pc := 4) C 3 dX9_basinOf_4 rfl ?_
  refine ww_aload_n (pc := 5) C 0 dX9_basinOf_5 rfl ?_
  obtain ⟨v2, e1, hf⟩ := xbd hf
  refine gf_X9_43 (pc := 6) C e1 dX9_basinOf_6 ?_
  refine ww_icmp_ge (pc := 9) (tgt := 113) C dX9_basinOf_9 (by decide) (fun q => ?_) (fun q => ?_)
  · have hf := xip q hf
    obtain ⟨b0, hg, e9⟩ := xmj hf
    subst e9
    have hf := hg
    have hk := hk.2 _ rfl
    refine ww_iload_n (pc := 113) C 2 dX9_basinOf_113 rfl ?_
    have hf := xsj hf
    subst hf
    exact ww_iret (pc := 114) C hk dX9_basinOf_114
  · have hf := xin q hf
    refine ww_iload_n (pc := 12) C 3 dX9_basinOf_12 rfl ?_
    refine ww_sipush (pc := 13) (v := (1024 : Int32)) C dX9_basinOf_13 (by decide) ?_
    refine ww_icmp_ge (pc := 16) (tgt := 113) C dX9_basinOf_16 (by decide) (fun q => ?_) (fun q => ?_)
    · have hf := xip q hf
      obtain ⟨b0, hg, e9⟩ := xmj hf
      subst e9
      have hf := hg
      have hk := hk.2 _ rfl
      refine ww_iload_n (pc := 113) C 2 dX9_basinOf_113 rfl ?_
      have hf := xsj hf
      subst hf
      exact ww_iret (pc := 114) C hk dX9_basinOf_114
    · have hf := xin q hf
      refine ww_aload_n (pc := 19) C 0 dX9_basinOf_19 rfl ?_
      refine ww_aload_n (pc := 20) C 0 dX9_basinOf_20 rfl ?_
      obtain ⟨z4, e3, hf⟩ := xbd hf
      refine gf_X9_9 (pc := 21) C e3 dX9_basinOf_21 ?_
      refine ww_iload_n (pc := 24) C 3 dX9_basinOf_24 rfl ?_
      obtain ⟨v6, e5, hf⟩ := xbd hf
      refine ww_iald (pc := 25) C e5 dX9_basinOf_25 ?_
      obtain ⟨_, e7, hf⟩ := xbd hf
      obtain ⟨v9, e8, hf⟩ := xbd hf
      refine ww_callVi (pc := 26) (as := [.int v6]) (st := []) C (k_X9_steepestFrom (l := gl G) (E := gE G) (hb := gB G) (σ := σ) e8) rfl (by decide) xc_X9_108 q1132 qp99 (xck_spec e7) rfl (by decide) (xst4 (Nat.le_of_ble_eq_true rfl)) xsame.rf.le xsame.rf.lim dX9_basinOf_26 ?_
      refine ww_istore (pc := 29) (lv' := [(4, .int v9), (0, .ref (gB G + r0)), (1, .int x1), (2, .int x2), (3, .int x3)]) C dX9_basinOf_29 (by decide) rfl ?_
      refine ww_iload (pc := 31) C 0 dX9_basinOf_31 rfl ?_
      refine ww_aload_n (pc := 33) C 1 dX9_basinOf_33 rfl ?_
      obtain ⟨z11, e10, hf⟩ := xbd hf
      refine gf_X9_9 (pc := 34) C e10 dX9_basinOf_34 ?_
      refine ww_iload_n (pc := 37) C 4 dX9_basinOf_37 rfl ?_
      obtain ⟨v13, e12, hf⟩ := xbd hf
      refine ww_iald (pc := 38) C e12 dX9_basinOf_38 ?_
      refine ww_icmp_eq (pc := 39) (tgt := 50) C dX9_basinOf_39 (by decide) (fun q => ?_) (fun q => ?_)
      · have hf := xip q hf
        refine ww_aload_n (pc := 50) C 1 dX9_basinOf_50 rfl ?_
        obtain ⟨z15, e14, hf⟩ := xbd hf
        refine gf_X9_9 (pc := 51) C e14 dX9_basinOf_51 ?_
        refine ww_iload_n (pc := 54) C 4 dX9_basinOf_54 rfl ?_
        obtain ⟨v17, e16, hf⟩ := xbd hf
        refine ww_iald (pc := 55) C e16 dX9_basinOf_55 ?_
        refine ww_goto (pc := 56) (tgt := 66) C dX9_basinOf_56 (by decide) ?_
        refine ww_sub [1, 2, 3, 4] rfl ?_
        exact s_X9_basinOf_j66 C hf hk
      · have hf := xin q hf
        refine ww_iload (pc := 42) C 0 dX9_basinOf_42 rfl ?_
        obtain ⟨v15, e14, hf⟩ := xbd hf
        refine ww_callSi (pc := 44) (as := [.int v9]) (st := []) C (k_X9_isState (l := gl G) (E := gE G) (hb := gB G) (σ := σ) e14) xc_X9_69 q1144 rfl (by decide) (xst4 (Nat.le_of_ble_eq_true rfl)) xsame.rf.le xsame.rf.lim dX9_basinOf_44 ?_
        refine ww_if_ne (pc := 47) (tgt := 59) C dX9_basinOf_47 (by decide) (fun q => ?_) (fun q => ?_)
        · have hf := xin q hf
          refine ww_aload_n (pc := 59) C 1 dX9_basinOf_59 rfl ?_
          obtain ⟨z17, e16, hf⟩ := xbd hf
          refine gf_X9_21 (pc := 60) C e16 dX9_basinOf_60 ?_
          refine ww_iload (pc := 63) C 0 dX9_basinOf_63 rfl ?_
          obtain ⟨v19, e18, hf⟩ := xbd hf
          refine ww_iald (pc := 65) C e18 dX9_basinOf_65 ?_
          refine ww_sub [1, 2, 3, 4] rfl ?_
          exact s_X9_basinOf_j66 C hf hk
        · have hf := xip q hf
          refine ww_aload_n (pc := 50) C 1 dX9_basinOf_50 rfl ?_
          obtain ⟨z17, e16, hf⟩ := xbd hf
          refine gf_X9_9 (pc := 51) C e16 dX9_basinOf_51 ?_
          refine ww_iload_n (pc := 54) C 4 dX9_basinOf_54 rfl ?_
          obtain ⟨v19, e18, hf⟩ := xbd hf
          refine ww_iald (pc := 55) C e18 dX9_basinOf_55 ?_
          refine ww_goto (pc := 56) (tgt := 66) C dX9_basinOf_56 (by decide) ?_
          refine ww_sub [1, 2, 3, 4] rfl ?_
          exact s_X9_basinOf_j66 C hf hk
theorem s_X9_basinOf_e {G : XG} (C : XC G cX9_basinOf RX9 (some .int) 6 4 87) {σ : XS} {r0 : Nat} {x1 : Int32} {x : Int32 × XS} (hf : f_X9_basinOf σ r0 x1 = some x) (hk : XEnd G (some (.int x.1)) x.2) : WW G 0 [(0, .ref (gB G + r0)), (1, .int x1)] [] σ := by
  refine ww_iconst (pc := 0) (v := (0 : Int32)) C dX9_basinOf_0 (by decide) ?_
  refine ww_istore_n (pc := 1) (lv' := [(2, .int (0 : Int32)), (0, .ref (gB G + r0)), (1, .int x1)]) C dX9_basinOf_1 (by decide) rfl ?_
  refine ww_iconst (pc := 2) (v := (0 : Int32)) C dX9_basinOf_2 (by decide) ?_
  refine ww_istore_n (pc := 3) (lv' := [(3, .int (0 : Int32)), (2, .int (0 : Int32)), (0, .ref (gB G + r0)), (1, .int x1)]) C dX9_basinOf_3 (by decide) rfl ?_
  refine ww_sub [2, 3, 1, 0] rfl ?_
  exact s_X9_basinOf_l4 C (a := ((0 : Int32), (0 : Int32), σ)) hf hk
theorem m_X9_basinOf {σ : XS} {r0 : Nat} {x1 : Int32} {x : Int32 × XS} (hf : f_X9_basinOf σ r0 x1 = some x) : xsame σ x.2 := by
  have hm := xsame.rf (σ := σ)
  exact hm.tr (m_X9_basinOf_l4 (a := ((0 : Int32), (0 : Int32), σ)) hf)
theorem k_X9_basinOf {l : Launch} {E : XD} {hb : Nat} {σ : XS} {r0 : Nat} {x1 : Int32} {x : Int32 × XS} (h : f_X9_basinOf σ r0 x1 = some x) : XM l yX9_basinOf cX9_basinOf 6 (some .int) 4 87 E hb [.ref (hb + r0), .int x1] σ (some (.int x.1)) x.2 := by
  refine xm_of (by decide) (Nat.le_of_ble_eq_true rfl) (m_X9_basinOf h).le (fun G hG C hl hQ => ?_)
  obtain ⟨rfl, rfl, rfl, hN⟩ := hG
  exact s_X9_basinOf_e C h hQ
noncomputable def f_X11_basin_j22 (σ : XS) (x1 : Int32) (t0 : Nat) : Option (Int32 × XS) := (xck σ t0 9).bind fun _ => (f_X9_basinOf σ t0 x1).bind fun (v4, σ3) => some (v4, σ3)
noncomputable def f_X11_basin (σ : XS) (r0 : Nat) (x1 : Int32) : Option (Int32 × XS) := (xck σ r0 11).bind fun _ => (f_X11_isSmall σ r0).bind fun v3 => if v3 = 0 then (some ((-100000 : Int32), σ)) else (xck σ r0 11).bind fun _ => (f_X11_isLawful σ r0 x1).bind fun v6 => if v6 = 0 then (some ((-100000 : Int32), σ)) else (xck σ r0 11).bind fun _ => (f_X11_terrainNow σ r0).bind fun (z10, σ9) => (xnz z10).bind fun _ => f_X11_basin_j22 σ9 x1 z10
theorem s_X11_basin_j22 {G : XG} (C : XC G cX11_basin RX11 (some .int) 2 6 136) {σ : XS} {x1 : Int32} {t0 : Nat} {x : Int32 × XS} (hf : f_X11_basin_j22 σ x1 t0 = some x) (hk : XEnd G (some (.int x.1)) x.2 ∧ XUp G x.2) : WW G 22 [(1, .int x1)] [.ref (gB G + t0)] σ := by
  refine ww_iload_n (pc := 22) C 0 dX11_basin_22 rfl ?_
  obtain ⟨_, e1, hf⟩ := xbd hf
  obtain ⟨⟨v4, σ3⟩, e2, hf⟩ := xbd hf
  dsimp only at hf
  refine ww_callVi (pc := 23) (as := [.int x1]) (st := []) C (k_X9_basinOf (l := gl G) (E := gE G) (hb := gB G) (σ := σ) e2) rfl (by decide) xc_X11_416 q1128 qp98 (xck_spec e1) rfl (by decide) (xst4 (Nat.le_of_ble_eq_true rfl)) (m_X9_basinOf e2).le (m_X9_basinOf e2).lim dX11_basin_23 ?_
  have hf := xsj hf
  subst hf
  exact ww_iret (pc := 26) C hk.1 dX11_basin_26
theorem m_X11_basin_j22 {σ : XS} {x1 : Int32} {t0 : Nat} {x : Int32 × XS} (hf : f_X11_basin_j22 σ x1 t0 = some x) : xext σ x.2 := by
  have hm := xext.rf (σ := σ)
  obtain ⟨_, e1, hf⟩ := xbd hf
  obtain ⟨⟨v4, σ3⟩, e2, hf⟩ := xbd hf
  dsimp only at hf
  have hm := hm.tr (m_X9_basinOf e2).ext
  have hf := xsj hf
  subst hf
  exact hm
theorem s_X11_basin_e {G : XG} (C : XC G cX11_basin RX11 (some .int) 2 6 136) {σ : XS} {r0 : Nat} {x1 : Int32} {x : Int32 × XS} (hf : f_X11_basin σ r0 x1 = some x) (hk : XEnd G (some (.int x.1)) x.2 ∧ XUp G x.2) : WW G 0 [(0, .ref (gB G + r0)), (1, .int x1)] [] σ := by
  refine ww_aload_n (pc := 0) C 0 dX11_basin_0 rfl ?_
  obtain ⟨_, e1, hf⟩ := xbd hf
  obtain ⟨v3, e2, hf⟩ := xbd hf
  refine ww_callVi (pc := 1) (as := []) (st := []) C (k_X11_isSmall (l := gl G) (E := gE G) (hb := gB G) (σ := σ) e2) rfl (by decide) xc_X11_408 q1110 qp94 (xck_spec e1) rfl (by decide) (xst4 (Nat.le_of_ble_eq_true rfl)) xsame.rf.le xsame.rf.lim dX11_basin_1 ?_
  refine ww_if_eq (pc := 4) (tgt := 15) C dX11_basin_4 (by decide) (fun q => ?_) (fun q => ?_)
  · have hf := xip q hf
    refine ww_ldc (pc := 15) C q801 dX11_basin_15 ?_
    have hf := xsj hf
    subst hf
    exact ww_iret (pc := 17) C hk.1 dX11_basin_17
  · have hf := xin q hf
    refine ww_aload_n (pc := 7) C 0 dX11_basin_7 rfl ?_
    refine ww_iload_n (pc := 8) C 1 dX11_basin_8 rfl ?_
    obtain ⟨_, e4, hf⟩ := xbd hf
    obtain ⟨v6, e5, hf⟩ := xbd hf
    refine ww_callVi (pc := 9) (as := [.int x1]) (st := []) C (k_X11_isLawful (l := gl G) (E := gE G) (hb := gB G) (σ := σ) e5) rfl (by decide) xc_X11_384 q1067 qp88 (xck_spec e4) rfl (by decide) (xst4 (Nat.le_of_ble_eq_true rfl)) xsame.rf.le xsame.rf.lim dX11_basin_9 ?_
    refine ww_if_ne (pc := 12) (tgt := 18) C dX11_basin_12 (by decide) (fun q => ?_) (fun q => ?_)
    · have hf := xin q hf
      refine ww_aload_n (pc := 18) C 0 dX11_basin_18 rfl ?_
      obtain ⟨_, e7, hf⟩ := xbd hf
      obtain ⟨⟨z10, σ9⟩, e8, hf⟩ := xbd hf
      dsimp only at hf
      obtain ⟨_, e11, hf⟩ := xbd hf
      refine ww_callVr (pc := 19) (as := []) (st := []) C (k_X11_terrainNow (l := gl G) (E := gE G) (hb := gB G) (σ := σ) e8) rfl (by decide) xc_X11_412 q1114 qp95 (xck_spec e7) rfl (by decide) (xst4 (Nat.le_of_ble_eq_true rfl)) (m_X11_terrainNow e8).1 (fun q => by have hm9 := m_X11_basin_j22 hf; exact XLim.mid q (m_X11_terrainNow e8) hm9 hk.2) dX11_basin_19 ?_
      refine ww_nn (xnz_spec e11) ?_
      refine ww_sub [1] rfl ?_
      exact s_X11_basin_j22 C hf hk
    · have hf := xip q hf
      refine ww_ldc (pc := 15) C q801 dX11_basin_15 ?_
      have hf := xsj hf
      subst hf
      exact ww_iret (pc := 17) C hk.1 dX11_basin_17
theorem m_X11_basin {σ : XS} {r0 : Nat} {x1 : Int32} {x : Int32 × XS} (hf : f_X11_basin σ r0 x1 = some x) : xext σ x.2 := by
  have hm := xext.rf (σ := σ)
  obtain ⟨_, e1, hf⟩ := xbd hf
  obtain ⟨v3, e2, hf⟩ := xbd hf
  by_cases q : v3 = 0
  · have hf := xip q hf
    have hf := xsj hf
    subst hf
    exact hm
  · have hf := xin q hf
    obtain ⟨_, e4, hf⟩ := xbd hf
    obtain ⟨v6, e5, hf⟩ := xbd hf
    by_cases q : v6 = 0
    · have hf := xip q hf
      have hf := xsj hf
      subst hf
      exact hm
    · have hf := xin q hf
      obtain ⟨_, e7, hf⟩ := xbd hf
      obtain ⟨⟨z10, σ9⟩, e8, hf⟩ := xbd hf
      dsimp only at hf
      have hm := hm.tr (m_X11_terrainNow e8)
      obtain ⟨_, e11, hf⟩ := xbd hf
      exact hm.tr (m_X11_basin_j22 hf)
theorem k_X11_basin {l : Launch} {E : XD} {hb : Nat} {σ : XS} {r0 : Nat} {x1 : Int32} {x : Int32 × XS} (h : f_X11_basin σ r0 x1 = some x) : XM l yX11_basin cX11_basin 2 (some .int) 6 136 E hb [.ref (hb + r0), .int x1] σ (some (.int x.1)) x.2 := by
  refine xm_of (by decide) (Nat.le_of_ble_eq_true rfl) (m_X11_basin h).1 (fun G hG C hl hQ => ?_)
  obtain ⟨rfl, rfl, rfl, hN⟩ := hG
  exact s_X11_basin_e C h ⟨hQ, hl.2⟩
noncomputable def f_X3_endOf_j107 (x0 : Int32) (x1 : Int32) (x4 : Int32) (x5 : Int32) (x6 : Int32) (t0 : Int32) : Option Int32 := if x1 ≤ (x5 + (1 : Int32)) then (if t0 = 0 then (some (-1 : Int32)) else some x6) else some (x4 + x0)
noncomputable def f_X3_endOf_j60 (x0 : Int32) (x4 : Int32) (x5 : Int32) (x6 : Int32) (t0 : Int32) : Option Int32 := if x0 ≤ (x6 + (1 : Int32)) then (if t0 = 0 then (some (-1 : Int32)) else some (x5 * x0)) else some (x4 + (1 : Int32))
noncomputable def f_X3_endOf (x0 : Int32) (x1 : Int32) (x2 : Int32) (x3 : Int32) : Option Int32 := (f_X3_startOf x3).bind fun v2 => if x0 < (1 : Int32) then (some (-1 : Int32)) else if v2 < 0 then (some (-1 : Int32)) else if v2 < (x0 * x1) then ((xdz x0).bind fun _ => (xdz x0).bind fun _ => if (16 : Int32) ≤ x3 then (if (x2 &&& (2 : Int32)) = 0 then (f_X3_endOf_j107 x0 x1 v2 (v2 / x0) (v2 - v2 / x0 * x0) (0 : Int32)) else if x1 ≤ (2 : Int32) then (f_X3_endOf_j107 x0 x1 v2 (v2 / x0) (v2 - v2 / x0 * x0) (0 : Int32)) else f_X3_endOf_j107 x0 x1 v2 (v2 / x0) (v2 - v2 / x0 * x0) (1 : Int32)) else if (x2 &&& (1 : Int32)) = 0 then (f_X3_endOf_j60 x0 v2 (v2 / x0) (v2 - v2 / x0 * x0) (0 : Int32)) else if x0 ≤ (2 : Int32) then (f_X3_endOf_j60 x0 v2 (v2 / x0) (v2 - v2 / x0 * x0) (0 : Int32)) else f_X3_endOf_j60 x0 v2 (v2 / x0) (v2 - v2 / x0 * x0) (1 : Int32)) else some (-1 : Int32)
theorem s_X3_endOf_j107 {G : XG} (C : XC G cX3_endOf RX3 (some .int) 8 1 20) {σ : XS} {x0 : Int32} {x1 : Int32} {x4 : Int32} {x5 : Int32} {x6 : Int32} {t0 : Int32} {x : Int32} (hf : f_X3_endOf_j107 x0 x1 x4 x5 x6 t0 = some x) (hk : XEnd G (some (.int x)) σ) : WW G 107 [(0, .int x0), (1, .int x1), (4, .int x4), (5, .int x5), (6, .int x6)] [.int t0] σ := by
  refine ww_istore (pc := 107) (lv' := [(7, .int t0), (0, .int x0), (1, .int x1), (4, .int x4), (5, .int x5), (6, .int x6)]) C dX3_endOf_107 (by decide) rfl ?_
  refine ww_iload (pc := 109) C 4 dX3_endOf_109 rfl ?_
  refine ww_iconst (pc := 111) (v := (1 : Int32)) C dX3_endOf_111 (by decide) ?_
  refine ww_iadd (pc := 112) C dX3_endOf_112 ?_
  refine ww_iload_n (pc := 113) C 2 dX3_endOf_113 rfl ?_
  refine ww_icmp_ge (pc := 114) (tgt := 124) C dX3_endOf_114 (by decide) (fun q => ?_) (fun q => ?_)
  · have hf := xip q hf
    refine ww_iload (pc := 124) C 0 dX3_endOf_124 rfl ?_
    refine ww_if_eq (pc := 126) (tgt := 134) C dX3_endOf_126 (by decide) (fun q => ?_) (fun q => ?_)
    · have hf := xip q hf
      refine ww_iconst (pc := 134) (v := (-1 : Int32)) C dX3_endOf_134 (by decide) ?_
      have hf := xsj hf
      subst hf
      exact ww_iret (pc := 135) C hk dX3_endOf_135
    · have hf := xin q hf
      refine ww_iload (pc := 129) C 5 dX3_endOf_129 rfl ?_
      refine ww_goto (pc := 131) (tgt := 135) C dX3_endOf_131 (by decide) ?_
      have hf := xsj hf
      subst hf
      exact ww_iret (pc := 135) C hk dX3_endOf_135
  · have hf := xin q hf
    refine ww_iload (pc := 117) C 3 dX3_endOf_117 rfl ?_
    refine ww_iload_n (pc := 119) C 1 dX3_endOf_119 rfl ?_
    refine ww_iadd (pc := 120) C dX3_endOf_120 ?_
    refine ww_goto (pc := 121) (tgt := 135) C dX3_endOf_121 (by decide) ?_
    have hf := xsj hf
    subst hf
    exact ww_iret (pc := 135) C hk dX3_endOf_135
theorem s_X3_endOf_j60 {G : XG} (C : XC G cX3_endOf RX3 (some .int) 8 1 20) {σ : XS} {x0 : Int32} {x4 : Int32} {x5 : Int32} {x6 : Int32} {t0 : Int32} {x : Int32} (hf : f_X3_endOf_j60 x0 x4 x5 x6 t0 = some x) (hk : XEnd G (some (.int x)) σ) : WW G 60 [(0, .int x0), (4, .int x4), (5, .int x5), (6, .int x6)] [.int t0] σ := by
  refine ww_istore (pc := 60) (lv' := [(7, .int t0), (0, .int x0), (4, .int x4), (5, .int x5), (6, .int x6)]) C dX3_endOf_60 (by decide) rfl ?_
  refine ww_iload (pc := 62) C 4 dX3_endOf_62 rfl ?_
  refine ww_iconst (pc := 64) (v := (1 : Int32)) C dX3_endOf_64 (by decide) ?_
  refine ww_iadd (pc := 65) C dX3_endOf_65 ?_
  refine ww_iload_n (pc := 66) C 1 dX3_endOf_66 rfl ?_
  refine ww_icmp_ge (pc := 67) (tgt := 77) C dX3_endOf_67 (by decide) (fun q => ?_) (fun q => ?_)
  · have hf := xip q hf
    refine ww_iload (pc := 77) C 0 dX3_endOf_77 rfl ?_
    refine ww_if_eq (pc := 79) (tgt := 89) C dX3_endOf_79 (by decide) (fun q => ?_) (fun q => ?_)
    · have hf := xip q hf
      refine ww_iconst (pc := 89) (v := (-1 : Int32)) C dX3_endOf_89 (by decide) ?_
      have hf := xsj hf
      subst hf
      exact ww_iret (pc := 90) C hk dX3_endOf_90
    · have hf := xin q hf
      refine ww_iload (pc := 82) C 3 dX3_endOf_82 rfl ?_
      refine ww_iload_n (pc := 84) C 1 dX3_endOf_84 rfl ?_
      refine ww_imul (pc := 85) C dX3_endOf_85 ?_
      refine ww_goto (pc := 86) (tgt := 90) C dX3_endOf_86 (by decide) ?_
      have hf := xsj hf
      subst hf
      exact ww_iret (pc := 90) C hk dX3_endOf_90
  · have hf := xin q hf
    refine ww_iload (pc := 70) C 2 dX3_endOf_70 rfl ?_
    refine ww_iconst (pc := 72) (v := (1 : Int32)) C dX3_endOf_72 (by decide) ?_
    refine ww_iadd (pc := 73) C dX3_endOf_73 ?_
    refine ww_goto (pc := 74) (tgt := 90) C dX3_endOf_74 (by decide) ?_
    have hf := xsj hf
    subst hf
    exact ww_iret (pc := 90) C hk dX3_endOf_90
theorem s_X3_endOf_e {G : XG} (C : XC G cX3_endOf RX3 (some .int) 8 1 20) {σ : XS} {x0 : Int32} {x1 : Int32} {x2 : Int32} {x3 : Int32} {x : Int32} (hf : f_X3_endOf x0 x1 x2 x3 = some x) (hk : XEnd G (some (.int x)) σ) : WW G 0 [(0, .int x0), (1, .int x1), (2, .int x2), (3, .int x3)] [] σ := by
  refine ww_iload_n (pc := 0) C 3 dX3_endOf_0 rfl ?_
  obtain ⟨v2, e1, hf⟩ := xbd hf
  refine ww_callSi (pc := 1) (as := [.int x3]) (st := []) C (k_X3_startOf (l := gl G) (E := gE G) (hb := gB G) (σ := σ) e1) xc_X3_47 q628 rfl (by decide) (xst4 (Nat.le_of_ble_eq_true rfl)) xsame.rf.le xsame.rf.lim dX3_endOf_1 ?_
  refine ww_istore (pc := 4) (lv' := [(4, .int v2), (0, .int x0), (1, .int x1), (2, .int x2), (3, .int x3)]) C dX3_endOf_4 (by decide) rfl ?_
  refine ww_iload_n (pc := 6) C 1 dX3_endOf_6 rfl ?_
  refine ww_iconst (pc := 7) (v := (1 : Int32)) C dX3_endOf_7 (by decide) ?_
  refine ww_icmp_lt (pc := 8) (tgt := 24) C dX3_endOf_8 (by decide) (fun q => ?_) (fun q => ?_)
  · have hf := xip q hf
    refine ww_iconst (pc := 24) (v := (-1 : Int32)) C dX3_endOf_24 (by decide) ?_
    have hf := xsj hf
    subst hf
    exact ww_iret (pc := 25) C hk dX3_endOf_25
  · have hf := xin q hf
    refine ww_iload (pc := 11) C 0 dX3_endOf_11 rfl ?_
    refine ww_if_lt (pc := 13) (tgt := 24) C dX3_endOf_13 (by decide) (fun q => ?_) (fun q => ?_)
    · have hf := xip q hf
      refine ww_iconst (pc := 24) (v := (-1 : Int32)) C dX3_endOf_24 (by decide) ?_
      have hf := xsj hf
      subst hf
      exact ww_iret (pc := 25) C hk dX3_endOf_25
    · have hf := xin q hf
      refine ww_iload (pc := 16) C 0 dX3_endOf_16 rfl ?_
      refine ww_iload_n (pc := 18) C 1 dX3_endOf_18 rfl ?_
      refine ww_iload_n (pc := 19) C 2 dX3_endOf_19 rfl ?_
      refine ww_imul (pc := 20) C dX3_endOf_20 ?_
      refine ww_icmp_lt (pc := 21) (tgt := 26) C dX3_endOf_21 (by decide) (fun q => ?_) (fun q => ?_)
      · have hf := xip q hf
        refine ww_iload (pc := 26) C 0 dX3_endOf_26 rfl ?_
        refine ww_iload_n (pc := 28) C 1 dX3_endOf_28 rfl ?_
        obtain ⟨_, e3, hf⟩ := xbd hf
        refine ww_idiv (pc := 29) C dX3_endOf_29 (xdz_spec e3) ?_
        refine ww_istore (pc := 30) (lv' := [(5, .int (v2 / x0)), (4, .int v2), (0, .int x0), (1, .int x1), (2, .int x2), (3, .int x3)]) C dX3_endOf_30 (by decide) rfl ?_
        refine ww_iload (pc := 32) C 1 dX3_endOf_32 rfl ?_
        refine ww_iload_n (pc := 34) C 2 dX3_endOf_34 rfl ?_
        obtain ⟨_, e4, hf⟩ := xbd hf
        refine ww_irem (pc := 35) C dX3_endOf_35 (xdz_spec e4) ?_
        refine ww_istore (pc := 36) (lv' := [(6, .int (v2 - v2 / x0 * x0)), (5, .int (v2 / x0)), (4, .int v2), (0, .int x0), (1, .int x1), (2, .int x2), (3, .int x3)]) C dX3_endOf_36 (by decide) rfl ?_
        refine ww_iload_n (pc := 38) C 6 dX3_endOf_38 rfl ?_
        refine ww_bipush (pc := 39) (v := (16 : Int32)) C dX3_endOf_39 (by decide) ?_
        refine ww_icmp_ge (pc := 41) (tgt := 91) C dX3_endOf_41 (by decide) (fun q => ?_) (fun q => ?_)
        · have hf := xip q hf
          refine ww_iload_n (pc := 91) C 5 dX3_endOf_91 rfl ?_
          refine ww_iconst (pc := 92) (v := (2 : Int32)) C dX3_endOf_92 (by decide) ?_
          refine ww_iand (pc := 93) C dX3_endOf_93 ?_
          refine ww_if_eq (pc := 94) (tgt := 106) C dX3_endOf_94 (by decide) (fun q => ?_) (fun q => ?_)
          · have hf := xip q hf
            refine ww_iconst (pc := 106) (v := (0 : Int32)) C dX3_endOf_106 (by decide) ?_
            refine ww_sub [3, 4, 2, 1, 0] rfl ?_
            exact s_X3_endOf_j107 C hf hk
          · have hf := xin q hf
            refine ww_iload_n (pc := 97) C 4 dX3_endOf_97 rfl ?_
            refine ww_iconst (pc := 98) (v := (2 : Int32)) C dX3_endOf_98 (by decide) ?_
            refine ww_icmp_le (pc := 99) (tgt := 106) C dX3_endOf_99 (by decide) (fun q => ?_) (fun q => ?_)
            · have hf := xip q hf
              refine ww_iconst (pc := 106) (v := (0 : Int32)) C dX3_endOf_106 (by decide) ?_
              refine ww_sub [3, 4, 2, 1, 0] rfl ?_
              exact s_X3_endOf_j107 C hf hk
            · have hf := xin q hf
              refine ww_iconst (pc := 102) (v := (1 : Int32)) C dX3_endOf_102 (by decide) ?_
              refine ww_goto (pc := 103) (tgt := 107) C dX3_endOf_103 (by decide) ?_
              refine ww_sub [3, 4, 2, 1, 0] rfl ?_
              exact s_X3_endOf_j107 C hf hk
        · have hf := xin q hf
          refine ww_iload_n (pc := 44) C 5 dX3_endOf_44 rfl ?_
          refine ww_iconst (pc := 45) (v := (1 : Int32)) C dX3_endOf_45 (by decide) ?_
          refine ww_iand (pc := 46) C dX3_endOf_46 ?_
          refine ww_if_eq (pc := 47) (tgt := 59) C dX3_endOf_47 (by decide) (fun q => ?_) (fun q => ?_)
          · have hf := xip q hf
            refine ww_iconst (pc := 59) (v := (0 : Int32)) C dX3_endOf_59 (by decide) ?_
            refine ww_sub [3, 2, 1, 0] rfl ?_
            exact s_X3_endOf_j60 C hf hk
          · have hf := xin q hf
            refine ww_iload_n (pc := 50) C 3 dX3_endOf_50 rfl ?_
            refine ww_iconst (pc := 51) (v := (2 : Int32)) C dX3_endOf_51 (by decide) ?_
            refine ww_icmp_le (pc := 52) (tgt := 59) C dX3_endOf_52 (by decide) (fun q => ?_) (fun q => ?_)
            · have hf := xip q hf
              refine ww_iconst (pc := 59) (v := (0 : Int32)) C dX3_endOf_59 (by decide) ?_
              refine ww_sub [3, 2, 1, 0] rfl ?_
              exact s_X3_endOf_j60 C hf hk
            · have hf := xin q hf
              refine ww_iconst (pc := 55) (v := (1 : Int32)) C dX3_endOf_55 (by decide) ?_
              refine ww_goto (pc := 56) (tgt := 60) C dX3_endOf_56 (by decide) ?_
              refine ww_sub [3, 2, 1, 0] rfl ?_
              exact s_X3_endOf_j60 C hf hk
      · have hf := xin q hf
        refine ww_iconst (pc := 24) (v := (-1 : Int32)) C dX3_endOf_24 (by decide) ?_
        have hf := xsj hf
        subst hf
        exact ww_iret (pc := 25) C hk dX3_endOf_25
theorem k_X3_endOf {l : Launch} {E : XD} {hb : Nat} {σ : XS} {x0 : Int32} {x1 : Int32} {x2 : Int32} {x3 : Int32} {x : Int32} (h : f_X3_endOf x0 x1 x2 x3 = some x) : XM l yX3_endOf cX3_endOf 8 (some .int) 1 20 E hb [.int x0, .int x1, .int x2, .int x3] σ (some (.int x)) σ := by
  refine xm_of (by decide) (Nat.le_of_ble_eq_true rfl) ⟨Nat.le_refl _, Nat.le_refl _⟩ (fun G hG C hl hQ => ?_)
  obtain ⟨rfl, rfl, rfl, hN⟩ := hG
  exact s_X3_endOf_e C h hQ
noncomputable def f_X3_addMate (σ : XS) (r0 : Nat) (x1 : Int32) (x2 : Int32) (x3 : Int32) : Option XS := if x1 < 0 then (some σ) else if (16 : Int32) ≤ x1 then (some σ) else (xgR σ r0 3 3).bind fun z2 => (xaI σ 20 z2 x1).bind fun v4 => if v4 < (4 : Int32) then ((xgR σ r0 3 3).bind fun z6 => (xaI σ 20 z6 x1).bind fun v8 => (xgR σ r0 3 1).bind fun z10 => (xsI σ 20 z10 (((4 : Int32) * x1) + v8) x2).bind fun σ12 => (xgR σ12 r0 3 2).bind fun z14 => (xsI σ12 20 z14 (((4 : Int32) * x1) + v8) x3).bind fun σ16 => (xgR σ16 r0 3 3).bind fun z18 => (xaI σ16 20 z18 x1).bind fun v20 => (xsI σ16 20 z18 x1 (v20 + (1 : Int32))).bind fun σ22 => some σ22) else some σ
theorem s_X3_addMate_e {G : XG} (C : XC G cX3_addMate RX3 none 5 0 0) {σ : XS} {r0 : Nat} {x1 : Int32} {x2 : Int32} {x3 : Int32} {x : XS} (hf : f_X3_addMate σ r0 x1 x2 x3 = some x) (hk : XEnd G none x) : WW G 0 [(0, .ref (gB G + r0)), (1, .int x1), (2, .int x2), (3, .int x3)] [] σ := by
  refine ww_iload_n (pc := 0) C 1 dX3_addMate_0 rfl ?_
  refine ww_if_lt (pc := 1) (tgt := 20) C dX3_addMate_1 (by decide) (fun q => ?_) (fun q => ?_)
  · have hf := xip q hf
    have hf := xsj hf
    subst hf
    exact ww_vret (pc := 20) C hk dX3_addMate_20
  · have hf := xin q hf
    refine ww_iload_n (pc := 4) C 1 dX3_addMate_4 rfl ?_
    refine ww_bipush (pc := 5) (v := (16 : Int32)) C dX3_addMate_5 (by decide) ?_
    refine ww_icmp_ge (pc := 7) (tgt := 20) C dX3_addMate_7 (by decide) (fun q => ?_) (fun q => ?_)
    · have hf := xip q hf
      have hf := xsj hf
      subst hf
      exact ww_vret (pc := 20) C hk dX3_addMate_20
    · have hf := xin q hf
      refine ww_aload_n (pc := 10) C 0 dX3_addMate_10 rfl ?_
      obtain ⟨z2, e1, hf⟩ := xbd hf
      refine gf_X3_21 (pc := 11) C e1 dX3_addMate_11 ?_
      refine ww_iload_n (pc := 14) C 1 dX3_addMate_14 rfl ?_
      obtain ⟨v4, e3, hf⟩ := xbd hf
      refine ww_iald (pc := 15) C e3 dX3_addMate_15 ?_
      refine ww_iconst (pc := 16) (v := (4 : Int32)) C dX3_addMate_16 (by decide) ?_
      refine ww_icmp_lt (pc := 17) (tgt := 21) C dX3_addMate_17 (by decide) (fun q => ?_) (fun q => ?_)
      · have hf := xip q hf
        refine ww_iconst (pc := 21) (v := (4 : Int32)) C dX3_addMate_21 (by decide) ?_
        refine ww_iload_n (pc := 22) C 1 dX3_addMate_22 rfl ?_
        refine ww_imul (pc := 23) C dX3_addMate_23 ?_
        refine ww_aload_n (pc := 24) C 0 dX3_addMate_24 rfl ?_
        obtain ⟨z6, e5, hf⟩ := xbd hf
        refine gf_X3_21 (pc := 25) C e5 dX3_addMate_25 ?_
        refine ww_iload_n (pc := 28) C 1 dX3_addMate_28 rfl ?_
        obtain ⟨v8, e7, hf⟩ := xbd hf
        refine ww_iald (pc := 29) C e7 dX3_addMate_29 ?_
        refine ww_iadd (pc := 30) C dX3_addMate_30 ?_
        refine ww_istore (pc := 31) (lv' := [(4, .int (((4 : Int32) * x1) + v8)), (0, .ref (gB G + r0)), (1, .int x1), (2, .int x2), (3, .int x3)]) C dX3_addMate_31 (by decide) rfl ?_
        refine ww_aload_n (pc := 33) C 1 dX3_addMate_33 rfl ?_
        obtain ⟨z10, e9, hf⟩ := xbd hf
        refine gf_X3_15 (pc := 34) C e9 dX3_addMate_34 ?_
        refine ww_iload (pc := 37) C 0 dX3_addMate_37 rfl ?_
        refine ww_iload_n (pc := 39) C 3 dX3_addMate_39 rfl ?_
        obtain ⟨σ12, e11, hf⟩ := xbd hf
        refine ww_iast (pc := 40) C e11 dX3_addMate_40 ?_
        refine ww_aload_n (pc := 41) C 1 dX3_addMate_41 rfl ?_
        obtain ⟨z14, e13, hf⟩ := xbd hf
        refine gf_X3_18 (pc := 42) C e13 dX3_addMate_42 ?_
        refine ww_iload (pc := 45) C 0 dX3_addMate_45 rfl ?_
        refine ww_iload_n (pc := 47) C 4 dX3_addMate_47 rfl ?_
        obtain ⟨σ16, e15, hf⟩ := xbd hf
        refine ww_iast (pc := 48) C e15 dX3_addMate_48 ?_
        refine ww_aload_n (pc := 49) C 1 dX3_addMate_49 rfl ?_
        obtain ⟨z18, e17, hf⟩ := xbd hf
        refine gf_X3_21 (pc := 50) C e17 dX3_addMate_50 ?_
        refine ww_iload_n (pc := 53) C 2 dX3_addMate_53 rfl ?_
        refine ww_dup2 (pc := 54) C dX3_addMate_54 rfl rfl ?_
        obtain ⟨v20, e19, hf⟩ := xbd hf
        refine ww_iald (pc := 55) C e19 dX3_addMate_55 ?_
        refine ww_iconst (pc := 56) (v := (1 : Int32)) C dX3_addMate_56 (by decide) ?_
        refine ww_iadd (pc := 57) C dX3_addMate_57 ?_
        obtain ⟨σ22, e21, hf⟩ := xbd hf
        refine ww_iast (pc := 58) C e21 dX3_addMate_58 ?_
        have hf := xsj hf
        subst hf
        exact ww_vret (pc := 59) C hk dX3_addMate_59
      · have hf := xin q hf
        have hf := xsj hf
        subst hf
        exact ww_vret (pc := 20) C hk dX3_addMate_20
theorem m_X3_addMate {σ : XS} {r0 : Nat} {x1 : Int32} {x2 : Int32} {x3 : Int32} {x : XS} (hf : f_X3_addMate σ r0 x1 x2 x3 = some x) : xsame σ x := by
  have hm := xsame.rf (σ := σ)
  by_cases q : x1 < 0
  · have hf := xip q hf
    have hf := xsj hf
    subst hf
    exact hm
  · have hf := xin q hf
    by_cases q : (16 : Int32) ≤ x1
    · have hf := xip q hf
      have hf := xsj hf
      subst hf
      exact hm
    · have hf := xin q hf
      obtain ⟨z2, e1, hf⟩ := xbd hf
      obtain ⟨v4, e3, hf⟩ := xbd hf
      by_cases q : v4 < (4 : Int32)
      · have hf := xip q hf
        obtain ⟨z6, e5, hf⟩ := xbd hf
        obtain ⟨v8, e7, hf⟩ := xbd hf
        obtain ⟨z10, e9, hf⟩ := xbd hf
        obtain ⟨σ12, e11, hf⟩ := xbd hf
        have hm := hm.tr (xsI_same e11)
        obtain ⟨z14, e13, hf⟩ := xbd hf
        obtain ⟨σ16, e15, hf⟩ := xbd hf
        have hm := hm.tr (xsI_same e15)
        obtain ⟨z18, e17, hf⟩ := xbd hf
        obtain ⟨v20, e19, hf⟩ := xbd hf
        obtain ⟨σ22, e21, hf⟩ := xbd hf
        have hm := hm.tr (xsI_same e21)
        have hf := xsj hf
        subst hf
        exact hm
      · have hf := xin q hf
        have hf := xsj hf
        subst hf
        exact hm
theorem k_X3_addMate {l : Launch} {E : XD} {hb : Nat} {σ : XS} {r0 : Nat} {x1 : Int32} {x2 : Int32} {x3 : Int32} {x : XS} (h : f_X3_addMate σ r0 x1 x2 x3 = some x) : XM l yX3_addMate cX3_addMate 5 none 0 0 E hb [.ref (hb + r0), .int x1, .int x2, .int x3] σ none x := by
  refine xm_of (by decide) (Nat.le_of_ble_eq_true rfl) (m_X3_addMate h).le (fun G hG C hl hQ => ?_)
  obtain ⟨rfl, rfl, rfl, hN⟩ := hG
  exact s_X3_addMate_e C h hQ
noncomputable def f_X3_lay_b39 (r0 : Nat) : Int32 × XS → Option ((Int32 × XS) ⊕ (XS)) := fun a => match a with
  | (x4, σ) => if (32 : Int32) ≤ x4 then ((some σ).map .inr) else (xgR σ r0 3 0).bind fun z2 => (xgI σ r0 3 4).bind fun v4 => (xgI σ r0 3 5).bind fun v6 => (xgI σ r0 3 6).bind fun v8 => (f_X3_endOf v4 v6 v8 x4).bind fun v10 => (xsI σ 20 z2 x4 v10).bind fun σ12 => (xgR σ12 r0 3 0).bind fun z14 => (xaI σ12 20 z14 x4).bind fun v16 => if v16 = (-1 : Int32) then (some (.inl (x4 + (1 : Int32), σ12))) else (f_X3_startOf x4).bind fun v18 => (xgR σ12 r0 3 0).bind fun z20 => (xaI σ12 20 z20 x4).bind fun v22 => (xck σ12 r0 3).bind fun _ => (f_X3_addMate σ12 r0 v18 v22 x4).bind fun σ25 => (xgR σ25 r0 3 0).bind fun z27 => (xaI σ25 20 z27 x4).bind fun v29 => (f_X3_startOf x4).bind fun v31 => (xck σ25 r0 3).bind fun _ => (f_X3_addMate σ25 r0 v29 v31 x4).bind fun σ34 => some (.inl (x4 + (1 : Int32), σ34))
noncomputable def f_X3_lay (σ : XS) (r0 : Nat) (x1 : Int32) (x2 : Int32) (x3 : Int32) : Option XS := (xpI σ r0 3 4 x1).bind fun σ2 => (xpI σ2 r0 3 5 x2).bind fun σ4 => (xpI σ4 r0 3 6 x3).bind fun σ6 => (xgI σ6 r0 3 4).bind fun v8 => (xgI σ6 r0 3 5).bind fun v10 => (xpI σ6 r0 3 7 (v8 * v10)).bind fun σ12 => (xgR σ12 r0 3 3).bind fun z14 => (f_J7_fill_53178 σ12 z14 (0 : Int32)).bind fun σ16 => xloop (f_X3_lay_b39 r0) ((0 : Int32), σ16)
theorem m_X3_lay_l39 {r0 : Nat} {a : Int32 × XS} {x : XS} (hf : xloop (f_X3_lay_b39 r0) a = some x) : xsame a.2 x := by
  refine xloop_ind (P := fun a => xsame a.2 x) (fun a y hf hc he => ?_) hf
  obtain ⟨x4, σ⟩ := a
  have hy : (∀ a' : Int32 × XS, y = .inl a' → xsame σ a'.2) ∧ (∀ b1 : XS, y = .inr b1 → xsame σ b1) := by
    have hm := xsame.rf (σ := σ)
    by_cases q : (32 : Int32) ≤ x4
    · have hf := xip q hf
      obtain ⟨b0, hg, e9⟩ := xmj hf
      subst e9
      have hf := hg
      refine ⟨fun a' e => xnc2 e, fun b e => ?_⟩
      have h9 := Sum.inr.inj e
      subst h9
      have hf := xsj hf
      subst hf
      exact hm
    · have hf := xin q hf
      obtain ⟨z2, e1, hf⟩ := xbd hf
      obtain ⟨v4, e3, hf⟩ := xbd hf
      obtain ⟨v6, e5, hf⟩ := xbd hf
      obtain ⟨v8, e7, hf⟩ := xbd hf
      obtain ⟨v10, e9, hf⟩ := xbd hf
      obtain ⟨σ12, e11, hf⟩ := xbd hf
      have hm := hm.tr (xsI_same e11)
      obtain ⟨z14, e13, hf⟩ := xbd hf
      obtain ⟨v16, e15, hf⟩ := xbd hf
      by_cases q : v16 = (-1 : Int32)
      · have hf := xip q hf
        have hf := xsj hf
        subst hf
        exact ⟨fun a' e => (by have h9 := Sum.inl.inj e; subst h9; exact hm), fun b e => xnc1 e⟩
      · have hf := xin q hf
        obtain ⟨v18, e17, hf⟩ := xbd hf
        obtain ⟨z20, e19, hf⟩ := xbd hf
        obtain ⟨v22, e21, hf⟩ := xbd hf
        obtain ⟨_, e23, hf⟩ := xbd hf
        obtain ⟨σ25, e24, hf⟩ := xbd hf
        have hm := hm.tr (m_X3_addMate e24)
        obtain ⟨z27, e26, hf⟩ := xbd hf
        obtain ⟨v29, e28, hf⟩ := xbd hf
        obtain ⟨v31, e30, hf⟩ := xbd hf
        obtain ⟨_, e32, hf⟩ := xbd hf
        obtain ⟨σ34, e33, hf⟩ := xbd hf
        have hm := hm.tr (m_X3_addMate e33)
        have hf := xsj hf
        subst hf
        exact ⟨fun a' e => (by have h9 := Sum.inl.inj e; subst h9; exact hm), fun b e => xnc1 e⟩
  cases y with
  | inl a' =>
    have h1 := hc a' rfl
    have hm := hy.1 a' rfl
    exact hm.tr (h1)
  | inr b =>
    have h1 := he b rfl
    subst h1
    exact hy.2 _ rfl
theorem s_X3_lay_l39 {G : XG} (C : XC G cX3_lay RX3 none 5 2 47) {r0 : Nat} {a : Int32 × XS} {x : XS} (hf : xloop (f_X3_lay_b39 r0) a = some x) (hk : XEnd G none x) : WW G 39 [(0, .ref (gB G + r0)), (4, .int a.1)] [] a.2 := by
  refine xloop_ind (P := fun a => WW G 39 [(0, .ref (gB G + r0)), (4, .int a.1)] [] a.2) (fun a y hf hc he => ?_) hf
  obtain ⟨x4, σ⟩ := a
  have hk : (∀ a' : Int32 × XS, y = .inl a' → WW G 39 [(0, .ref (gB G + r0)), (4, .int a'.1)] [] a'.2) ∧ (∀ b1 : XS, y = .inr b1 → XEnd G none b1) := ⟨hc, fun b e => by have h9 := he b e; subst h9; exact hk⟩
  refine ww_iload (pc := 39) C 1 dX3_lay_39 rfl ?_
  refine ww_bipush (pc := 41) (v := (32 : Int32)) C dX3_lay_41 (by decide) ?_
  refine ww_icmp_ge (pc := 43) (tgt := 123) C dX3_lay_43 (by decide) (fun q => ?_) (fun q => ?_)
  · have hf := xip q hf
    obtain ⟨b0, hg, e9⟩ := xmj hf
    subst e9
    have hf := hg
    have hk := hk.2 _ rfl
    have hf := xsj hf
    subst hf
    exact ww_vret (pc := 123) C hk dX3_lay_123
  · have hf := xin q hf
    refine ww_aload_n (pc := 46) C 0 dX3_lay_46 rfl ?_
    obtain ⟨z2, e1, hf⟩ := xbd hf
    refine gf_X3_9 (pc := 47) C e1 dX3_lay_47 ?_
    refine ww_iload (pc := 50) C 1 dX3_lay_50 rfl ?_
    refine ww_aload_n (pc := 52) C 0 dX3_lay_52 rfl ?_
    obtain ⟨v4, e3, hf⟩ := xbd hf
    refine gf_X3_30 (pc := 53) C e3 dX3_lay_53 ?_
    refine ww_aload_n (pc := 56) C 0 dX3_lay_56 rfl ?_
    obtain ⟨v6, e5, hf⟩ := xbd hf
    refine gf_X3_34 (pc := 57) C e5 dX3_lay_57 ?_
    refine ww_aload_n (pc := 60) C 0 dX3_lay_60 rfl ?_
    obtain ⟨v8, e7, hf⟩ := xbd hf
    refine gf_X3_37 (pc := 61) C e7 dX3_lay_61 ?_
    refine ww_iload (pc := 64) C 1 dX3_lay_64 rfl ?_
    obtain ⟨v10, e9, hf⟩ := xbd hf
    refine ww_callSi (pc := 66) (as := [.int v4, .int v6, .int v8, .int x4]) (st := [.int x4, .ref (gB G + z2)]) C (k_X3_endOf (l := gl G) (E := gE G) (hb := gB G) (σ := σ) e9) xc_X3_43 q625 rfl (by decide) (xst4 (Nat.le_of_ble_eq_true rfl)) xsame.rf.le xsame.rf.lim dX3_lay_66 ?_
    obtain ⟨σ12, e11, hf⟩ := xbd hf
    refine ww_iast (pc := 69) C e11 dX3_lay_69 ?_
    refine ww_aload_n (pc := 70) C 0 dX3_lay_70 rfl ?_
    obtain ⟨z14, e13, hf⟩ := xbd hf
    refine gf_X3_9 (pc := 71) C e13 dX3_lay_71 ?_
    refine ww_iload (pc := 74) C 1 dX3_lay_74 rfl ?_
    obtain ⟨v16, e15, hf⟩ := xbd hf
    refine ww_iald (pc := 76) C e15 dX3_lay_76 ?_
    refine ww_iconst (pc := 77) (v := (-1 : Int32)) C dX3_lay_77 (by decide) ?_
    refine ww_icmp_eq (pc := 78) (tgt := 117) C dX3_lay_78 (by decide) (fun q => ?_) (fun q => ?_)
    · have hf := xip q hf
      refine ww_iinc (pc := 117) (v := x4 + (1 : Int32)) (lv' := [(4, .int (x4 + (1 : Int32))), (0, .ref (gB G + r0))]) C 1 dX3_lay_117 rfl (congrArg (fun z => x4 + z) (show Int32.ofInt (1) = (1 : Int32) by decide)) (by decide) rfl ?_
      refine ww_goto (pc := 120) (tgt := 39) C dX3_lay_120 (by decide) ?_
      have hf := xsj hf
      subst hf
      refine ww_sub [1, 0] rfl ?_
      exact hk.1 (x4 + (1 : Int32), σ12) rfl
    · have hf := xin q hf
      refine ww_aload_n (pc := 81) C 0 dX3_lay_81 rfl ?_
      refine ww_iload (pc := 82) C 1 dX3_lay_82 rfl ?_
      obtain ⟨v18, e17, hf⟩ := xbd hf
      refine ww_callSi (pc := 84) (as := [.int x4]) (st := [.ref (gB G + r0)]) C (k_X3_startOf (l := gl G) (E := gE G) (hb := gB G) (σ := σ12) e17) xc_X3_47 q628 rfl (by decide) (xst4 (Nat.le_of_ble_eq_true rfl)) xsame.rf.le xsame.rf.lim dX3_lay_84 ?_
      refine ww_aload_n (pc := 87) C 0 dX3_lay_87 rfl ?_
      obtain ⟨z20, e19, hf⟩ := xbd hf
      refine gf_X3_9 (pc := 88) C e19 dX3_lay_88 ?_
      refine ww_iload (pc := 91) C 1 dX3_lay_91 rfl ?_
      obtain ⟨v22, e21, hf⟩ := xbd hf
      refine ww_iald (pc := 93) C e21 dX3_lay_93 ?_
      refine ww_iload (pc := 94) C 1 dX3_lay_94 rfl ?_
      obtain ⟨_, e23, hf⟩ := xbd hf
      obtain ⟨σ25, e24, hf⟩ := xbd hf
      refine ww_callVv (pc := 96) (as := [.int v18, .int v22, .int x4]) (st := []) C (k_X3_addMate (l := gl G) (E := gE G) (hb := gB G) (σ := σ12) e24) rfl (by decide) xc_X3_51 q668 qp32 (xck_spec e23) rfl (by decide) (xst4 (Nat.le_of_ble_eq_true rfl)) (m_X3_addMate e24).le (m_X3_addMate e24).lim dX3_lay_96 ?_
      refine ww_aload_n (pc := 99) C 0 dX3_lay_99 rfl ?_
      refine ww_aload_n (pc := 100) C 0 dX3_lay_100 rfl ?_
      obtain ⟨z27, e26, hf⟩ := xbd hf
      refine gf_X3_9 (pc := 101) C e26 dX3_lay_101 ?_
      refine ww_iload (pc := 104) C 1 dX3_lay_104 rfl ?_
      obtain ⟨v29, e28, hf⟩ := xbd hf
      refine ww_iald (pc := 106) C e28 dX3_lay_106 ?_
      refine ww_iload (pc := 107) C 1 dX3_lay_107 rfl ?_
      obtain ⟨v31, e30, hf⟩ := xbd hf
      refine ww_callSi (pc := 109) (as := [.int x4]) (st := [.int v29, .ref (gB G + r0)]) C (k_X3_startOf (l := gl G) (E := gE G) (hb := gB G) (σ := σ25) e30) xc_X3_47 q628 rfl (by decide) (xst4 (Nat.le_of_ble_eq_true rfl)) xsame.rf.le xsame.rf.lim dX3_lay_109 ?_
      refine ww_iload (pc := 112) C 1 dX3_lay_112 rfl ?_
      obtain ⟨_, e32, hf⟩ := xbd hf
      obtain ⟨σ34, e33, hf⟩ := xbd hf
      refine ww_callVv (pc := 114) (as := [.int v29, .int v31, .int x4]) (st := []) C (k_X3_addMate (l := gl G) (E := gE G) (hb := gB G) (σ := σ25) e33) rfl (by decide) xc_X3_51 q668 qp32 (xck_spec e32) rfl (by decide) (xst4 (Nat.le_of_ble_eq_true rfl)) (m_X3_addMate e33).le (m_X3_addMate e33).lim dX3_lay_114 ?_
      refine ww_iinc (pc := 117) (v := x4 + (1 : Int32)) (lv' := [(4, .int (x4 + (1 : Int32))), (0, .ref (gB G + r0))]) C 1 dX3_lay_117 rfl (congrArg (fun z => x4 + z) (show Int32.ofInt (1) = (1 : Int32) by decide)) (by decide) rfl ?_
      refine ww_goto (pc := 120) (tgt := 39) C dX3_lay_120 (by decide) ?_
      have hf := xsj hf
      subst hf
      refine ww_sub [1, 0] rfl ?_
      exact hk.1 (x4 + (1 : Int32), σ34) rfl
theorem s_X3_lay_e {G : XG} (C : XC G cX3_lay RX3 none 5 2 47) {σ : XS} {r0 : Nat} {x1 : Int32} {x2 : Int32} {x3 : Int32} {x : XS} (hf : f_X3_lay σ r0 x1 x2 x3 = some x) (hk : XEnd G none x) : WW G 0 [(0, .ref (gB G + r0)), (1, .int x1), (2, .int x2), (3, .int x3)] [] σ := by
  refine ww_aload_n (pc := 0) C 0 dX3_lay_0 rfl ?_
  refine ww_iload_n (pc := 1) C 1 dX3_lay_1 rfl ?_
  obtain ⟨σ2, e1, hf⟩ := xbd hf
  refine pf_X3_30 (pc := 2) C e1 dX3_lay_2 ?_
  refine ww_aload_n (pc := 5) C 0 dX3_lay_5 rfl ?_
  refine ww_iload_n (pc := 6) C 2 dX3_lay_6 rfl ?_
  obtain ⟨σ4, e3, hf⟩ := xbd hf
  refine pf_X3_34 (pc := 7) C e3 dX3_lay_7 ?_
  refine ww_aload_n (pc := 10) C 0 dX3_lay_10 rfl ?_
  refine ww_iload_n (pc := 11) C 3 dX3_lay_11 rfl ?_
  obtain ⟨σ6, e5, hf⟩ := xbd hf
  refine pf_X3_37 (pc := 12) C e5 dX3_lay_12 ?_
  refine ww_aload_n (pc := 15) C 0 dX3_lay_15 rfl ?_
  refine ww_aload_n (pc := 16) C 0 dX3_lay_16 rfl ?_
  obtain ⟨v8, e7, hf⟩ := xbd hf
  refine gf_X3_30 (pc := 17) C e7 dX3_lay_17 ?_
  refine ww_aload_n (pc := 20) C 0 dX3_lay_20 rfl ?_
  obtain ⟨v10, e9, hf⟩ := xbd hf
  refine gf_X3_34 (pc := 21) C e9 dX3_lay_21 ?_
  refine ww_imul (pc := 24) C dX3_lay_24 ?_
  obtain ⟨σ12, e11, hf⟩ := xbd hf
  refine pf_X3_40 (pc := 25) C e11 dX3_lay_25 ?_
  refine ww_aload_n (pc := 28) C 0 dX3_lay_28 rfl ?_
  obtain ⟨z14, e13, hf⟩ := xbd hf
  refine gf_X3_21 (pc := 29) C e13 dX3_lay_29 ?_
  refine ww_iconst (pc := 32) (v := (0 : Int32)) C dX3_lay_32 (by decide) ?_
  obtain ⟨σ16, e15, hf⟩ := xbd hf
  refine ww_callSv (pc := 33) (as := [.ref (gB G + z14), .int (0 : Int32)]) (st := []) C (k_J7_fill_53178 (l := gl G) (E := gE G) (hb := gB G) (σ := σ12) e15) xc_X3_24 q174 rfl (by decide) (xst4 (Nat.le_of_ble_eq_true rfl)) (m_J7_fill_53178 e15).le (m_J7_fill_53178 e15).lim dX3_lay_33 ?_
  refine ww_iconst (pc := 36) (v := (0 : Int32)) C dX3_lay_36 (by decide) ?_
  refine ww_istore (pc := 37) (lv' := [(4, .int (0 : Int32)), (0, .ref (gB G + r0)), (1, .int x1), (2, .int x2), (3, .int x3)]) C dX3_lay_37 (by decide) rfl ?_
  refine ww_sub [1, 0] rfl ?_
  exact s_X3_lay_l39 C (a := ((0 : Int32), σ16)) hf hk
theorem m_X3_lay {σ : XS} {r0 : Nat} {x1 : Int32} {x2 : Int32} {x3 : Int32} {x : XS} (hf : f_X3_lay σ r0 x1 x2 x3 = some x) : xsame σ x := by
  have hm := xsame.rf (σ := σ)
  obtain ⟨σ2, e1, hf⟩ := xbd hf
  have hm := hm.tr (xpI_same e1)
  obtain ⟨σ4, e3, hf⟩ := xbd hf
  have hm := hm.tr (xpI_same e3)
  obtain ⟨σ6, e5, hf⟩ := xbd hf
  have hm := hm.tr (xpI_same e5)
  obtain ⟨v8, e7, hf⟩ := xbd hf
  obtain ⟨v10, e9, hf⟩ := xbd hf
  obtain ⟨σ12, e11, hf⟩ := xbd hf
  have hm := hm.tr (xpI_same e11)
  obtain ⟨z14, e13, hf⟩ := xbd hf
  obtain ⟨σ16, e15, hf⟩ := xbd hf
  have hm := hm.tr (m_J7_fill_53178 e15)
  exact hm.tr (m_X3_lay_l39 (a := ((0 : Int32), σ16)) hf)
theorem k_X3_lay {l : Launch} {E : XD} {hb : Nat} {σ : XS} {r0 : Nat} {x1 : Int32} {x2 : Int32} {x3 : Int32} {x : XS} (h : f_X3_lay σ r0 x1 x2 x3 = some x) : XM l yX3_lay cX3_lay 5 none 2 47 E hb [.ref (hb + r0), .int x1, .int x2, .int x3] σ none x := by
  refine xm_of (by decide) (Nat.le_of_ble_eq_true rfl) (m_X3_lay h).le (fun G hG C hl hQ => ?_)
  obtain ⟨rfl, rfl, rfl, hN⟩ := hG
  exact s_X3_lay_e C h hQ
noncomputable def f_X6_copyFrom (σ : XS) (r0 : Nat) (r1 : Nat) : Option XS := (xgR σ r1 6 0).bind fun z2 => (xgR σ r0 6 0).bind fun z4 => (xcp σ z2 (0 : Int32) z4 (0 : Int32) (32 : Int32)).bind fun σ6 => (xgR σ6 r1 6 1).bind fun z8 => (xgR σ6 r0 6 1).bind fun z10 => (xcp σ6 z8 (0 : Int32) z10 (0 : Int32) (16 : Int32)).bind fun σ12 => (xgI σ12 r1 6 2).bind fun v14 => (xpI σ12 r0 6 2 v14).bind fun σ16 => (xgI σ16 r1 6 3).bind fun v18 => (xpI σ16 r0 6 3 v18).bind fun σ20 => (xgI σ20 r1 6 4).bind fun v22 => (xpI σ20 r0 6 4 v22).bind fun σ24 => (xgI σ24 r1 6 5).bind fun v26 => (xpI σ24 r0 6 5 v26).bind fun σ28 => (xgI σ28 r1 6 6).bind fun v30 => (xpI σ28 r0 6 6 v30).bind fun σ32 => (xgI σ32 r1 6 7).bind fun v34 => (xpI σ32 r0 6 7 v34).bind fun σ36 => some σ36
theorem s_X6_copyFrom_e {G : XG} (C : XC G cX6_copyFrom RX6 none 2 1 40) {σ : XS} {r0 : Nat} {r1 : Nat} {x : XS} (hf : f_X6_copyFrom σ r0 r1 = some x) (hk : XEnd G none x) : WW G 0 [(0, .ref (gB G + r0)), (1, .ref (gB G + r1))] [] σ := by
  refine ww_aload_n (pc := 0) C 1 dX6_copyFrom_0 rfl ?_
  obtain ⟨z2, e1, hf⟩ := xbd hf
  refine gf_X6_9 (pc := 1) C e1 dX6_copyFrom_1 ?_
  refine ww_iconst (pc := 4) (v := (0 : Int32)) C dX6_copyFrom_4 (by decide) ?_
  refine ww_aload_n (pc := 5) C 0 dX6_copyFrom_5 rfl ?_
  obtain ⟨z4, e3, hf⟩ := xbd hf
  refine gf_X6_9 (pc := 6) C e3 dX6_copyFrom_6 ?_
  refine ww_iconst (pc := 9) (v := (0 : Int32)) C dX6_copyFrom_9 (by decide) ?_
  refine ww_bipush (pc := 10) (v := (32 : Int32)) C dX6_copyFrom_10 (by decide) ?_
  obtain ⟨σ6, e5, hf⟩ := xbd hf
  refine ww_copy (pc := 12) C qa_X6_37 qan qas qai ⟨by decide, by decide⟩ e5 dX6_copyFrom_12 ?_
  refine ww_aload_n (pc := 15) C 1 dX6_copyFrom_15 rfl ?_
  obtain ⟨z8, e7, hf⟩ := xbd hf
  refine gf_X6_15 (pc := 16) C e7 dX6_copyFrom_16 ?_
  refine ww_iconst (pc := 19) (v := (0 : Int32)) C dX6_copyFrom_19 (by decide) ?_
  refine ww_aload_n (pc := 20) C 0 dX6_copyFrom_20 rfl ?_
  obtain ⟨z10, e9, hf⟩ := xbd hf
  refine gf_X6_15 (pc := 21) C e9 dX6_copyFrom_21 ?_
  refine ww_iconst (pc := 24) (v := (0 : Int32)) C dX6_copyFrom_24 (by decide) ?_
  refine ww_bipush (pc := 25) (v := (16 : Int32)) C dX6_copyFrom_25 (by decide) ?_
  obtain ⟨σ12, e11, hf⟩ := xbd hf
  refine ww_copy (pc := 27) C qa_X6_37 qan qas qai ⟨by decide, by decide⟩ e11 dX6_copyFrom_27 ?_
  refine ww_aload_n (pc := 30) C 0 dX6_copyFrom_30 rfl ?_
  refine ww_aload_n (pc := 31) C 1 dX6_copyFrom_31 rfl ?_
  obtain ⟨v14, e13, hf⟩ := xbd hf
  refine gf_X6_24 (pc := 32) C e13 dX6_copyFrom_32 ?_
  obtain ⟨σ16, e15, hf⟩ := xbd hf
  refine pf_X6_24 (pc := 35) C e15 dX6_copyFrom_35 ?_
  refine ww_aload_n (pc := 38) C 0 dX6_copyFrom_38 rfl ?_
  refine ww_aload_n (pc := 39) C 1 dX6_copyFrom_39 rfl ?_
  obtain ⟨v18, e17, hf⟩ := xbd hf
  refine gf_X6_28 (pc := 40) C e17 dX6_copyFrom_40 ?_
  obtain ⟨σ20, e19, hf⟩ := xbd hf
  refine pf_X6_28 (pc := 43) C e19 dX6_copyFrom_43 ?_
  refine ww_aload_n (pc := 46) C 0 dX6_copyFrom_46 rfl ?_
  refine ww_aload_n (pc := 47) C 1 dX6_copyFrom_47 rfl ?_
  obtain ⟨v22, e21, hf⟩ := xbd hf
  refine gf_X6_31 (pc := 48) C e21 dX6_copyFrom_48 ?_
  obtain ⟨σ24, e23, hf⟩ := xbd hf
  refine pf_X6_31 (pc := 51) C e23 dX6_copyFrom_51 ?_
  refine ww_aload_n (pc := 54) C 0 dX6_copyFrom_54 rfl ?_
  refine ww_aload_n (pc := 55) C 1 dX6_copyFrom_55 rfl ?_
  obtain ⟨v26, e25, hf⟩ := xbd hf
  refine gf_X6_34 (pc := 56) C e25 dX6_copyFrom_56 ?_
  obtain ⟨σ28, e27, hf⟩ := xbd hf
  refine pf_X6_34 (pc := 59) C e27 dX6_copyFrom_59 ?_
  refine ww_aload_n (pc := 62) C 0 dX6_copyFrom_62 rfl ?_
  refine ww_aload_n (pc := 63) C 1 dX6_copyFrom_63 rfl ?_
  obtain ⟨v30, e29, hf⟩ := xbd hf
  refine gf_X6_43 (pc := 64) C e29 dX6_copyFrom_64 ?_
  obtain ⟨σ32, e31, hf⟩ := xbd hf
  refine pf_X6_43 (pc := 67) C e31 dX6_copyFrom_67 ?_
  refine ww_aload_n (pc := 70) C 0 dX6_copyFrom_70 rfl ?_
  refine ww_aload_n (pc := 71) C 1 dX6_copyFrom_71 rfl ?_
  obtain ⟨v34, e33, hf⟩ := xbd hf
  refine gf_X6_46 (pc := 72) C e33 dX6_copyFrom_72 ?_
  obtain ⟨σ36, e35, hf⟩ := xbd hf
  refine pf_X6_46 (pc := 75) C e35 dX6_copyFrom_75 ?_
  have hf := xsj hf
  subst hf
  exact ww_vret (pc := 78) C hk dX6_copyFrom_78
theorem m_X6_copyFrom {σ : XS} {r0 : Nat} {r1 : Nat} {x : XS} (hf : f_X6_copyFrom σ r0 r1 = some x) : xsame σ x := by
  have hm := xsame.rf (σ := σ)
  obtain ⟨z2, e1, hf⟩ := xbd hf
  obtain ⟨z4, e3, hf⟩ := xbd hf
  obtain ⟨σ6, e5, hf⟩ := xbd hf
  have hm := hm.tr (xcp_same e5)
  obtain ⟨z8, e7, hf⟩ := xbd hf
  obtain ⟨z10, e9, hf⟩ := xbd hf
  obtain ⟨σ12, e11, hf⟩ := xbd hf
  have hm := hm.tr (xcp_same e11)
  obtain ⟨v14, e13, hf⟩ := xbd hf
  obtain ⟨σ16, e15, hf⟩ := xbd hf
  have hm := hm.tr (xpI_same e15)
  obtain ⟨v18, e17, hf⟩ := xbd hf
  obtain ⟨σ20, e19, hf⟩ := xbd hf
  have hm := hm.tr (xpI_same e19)
  obtain ⟨v22, e21, hf⟩ := xbd hf
  obtain ⟨σ24, e23, hf⟩ := xbd hf
  have hm := hm.tr (xpI_same e23)
  obtain ⟨v26, e25, hf⟩ := xbd hf
  obtain ⟨σ28, e27, hf⟩ := xbd hf
  have hm := hm.tr (xpI_same e27)
  obtain ⟨v30, e29, hf⟩ := xbd hf
  obtain ⟨σ32, e31, hf⟩ := xbd hf
  have hm := hm.tr (xpI_same e31)
  obtain ⟨v34, e33, hf⟩ := xbd hf
  obtain ⟨σ36, e35, hf⟩ := xbd hf
  have hm := hm.tr (xpI_same e35)
  have hf := xsj hf
  subst hf
  exact hm
theorem k_X6_copyFrom {l : Launch} {E : XD} {hb : Nat} {σ : XS} {r0 : Nat} {r1 : Nat} {x : XS} (h : f_X6_copyFrom σ r0 r1 = some x) : XM l yX6_copyFrom cX6_copyFrom 2 none 1 40 E hb [.ref (hb + r0), .ref (hb + r1)] σ none x := by
  refine xm_of (by decide) (Nat.le_of_ble_eq_true rfl) (m_X6_copyFrom h).le (fun G hG C hl hQ => ?_)
  obtain ⟨rfl, rfl, rfl, hN⟩ := hG
  exact s_X6_copyFrom_e C h hQ
noncomputable def f_X5_forget (σ : XS) (r0 : Nat) : Option XS := (xpI σ r0 5 1 (0 : Int32)).bind fun σ2 => (xpI σ2 r0 5 2 (0 : Int32)).bind fun σ4 => some σ4
theorem s_X5_forget_e {G : XG} (C : XC G cX5_forget RX5 none 1 0 0) {σ : XS} {r0 : Nat} {x : XS} (hf : f_X5_forget σ r0 = some x) (hk : XEnd G none x) : WW G 0 [(0, .ref (gB G + r0))] [] σ := by
  refine ww_aload_n (pc := 0) C 0 dX5_forget_0 rfl ?_
  refine ww_iconst (pc := 1) (v := (0 : Int32)) C dX5_forget_1 (by decide) ?_
  obtain ⟨σ2, e1, hf⟩ := xbd hf
  refine pf_X5_18 (pc := 2) C e1 dX5_forget_2 ?_
  refine ww_aload_n (pc := 5) C 0 dX5_forget_5 rfl ?_
  refine ww_iconst (pc := 6) (v := (0 : Int32)) C dX5_forget_6 (by decide) ?_
  obtain ⟨σ4, e3, hf⟩ := xbd hf
  refine pf_X5_22 (pc := 7) C e3 dX5_forget_7 ?_
  have hf := xsj hf
  subst hf
  exact ww_vret (pc := 10) C hk dX5_forget_10
theorem m_X5_forget {σ : XS} {r0 : Nat} {x : XS} (hf : f_X5_forget σ r0 = some x) : xsame σ x := by
  have hm := xsame.rf (σ := σ)
  obtain ⟨σ2, e1, hf⟩ := xbd hf
  have hm := hm.tr (xpI_same e1)
  obtain ⟨σ4, e3, hf⟩ := xbd hf
  have hm := hm.tr (xpI_same e3)
  have hf := xsj hf
  subst hf
  exact hm
theorem k_X5_forget {l : Launch} {E : XD} {hb : Nat} {σ : XS} {r0 : Nat} {x : XS} (h : f_X5_forget σ r0 = some x) : XM l yX5_forget cX5_forget 1 none 0 0 E hb [.ref (hb + r0)] σ none x := by
  refine xm_of (by decide) (Nat.le_of_ble_eq_true rfl) (m_X5_forget h).le (fun G hG C hl hQ => ?_)
  obtain ⟨rfl, rfl, rfl, hN⟩ := hG
  exact s_X5_forget_e C h hQ
noncomputable def f_X11_stampTies (σ : XS) (r0 : Nat) : Option XS := (xgI σ r0 11 15).bind fun v2 => (xpI σ r0 11 15 (v2 + (1 : Int32))).bind fun σ4 => (xgR σ4 r0 11 3).bind fun z6 => (xgI σ4 r0 11 15).bind fun v8 => (xpI σ4 z6 6 6 v8).bind fun σ10 => (xgR σ10 r0 11 3).bind fun z12 => (xgI σ10 r0 11 15).bind fun v14 => (xpI σ10 z12 6 7 v14).bind fun σ16 => some σ16
theorem s_X11_stampTies_e {G : XG} (C : XC G cX11_stampTies RX11 none 1 0 0) {σ : XS} {r0 : Nat} {x : XS} (hf : f_X11_stampTies σ r0 = some x) (hk : XEnd G none x) : WW G 0 [(0, .ref (gB G + r0))] [] σ := by
  refine ww_aload_n (pc := 0) C 0 dX11_stampTies_0 rfl ?_
  refine ww_dup (pc := 1) C dX11_stampTies_1 rfl ?_
  obtain ⟨v2, e1, hf⟩ := xbd hf
  refine gf_X11_99 (pc := 2) C e1 dX11_stampTies_2 ?_
  refine ww_iconst (pc := 5) (v := (1 : Int32)) C dX11_stampTies_5 (by decide) ?_
  refine ww_iadd (pc := 6) C dX11_stampTies_6 ?_
  obtain ⟨σ4, e3, hf⟩ := xbd hf
  refine pf_X11_99 (pc := 7) C e3 dX11_stampTies_7 ?_
  refine ww_aload_n (pc := 10) C 0 dX11_stampTies_10 rfl ?_
  obtain ⟨z6, e5, hf⟩ := xbd hf
  refine gf_X11_31 (pc := 11) C e5 dX11_stampTies_11 ?_
  refine ww_aload_n (pc := 14) C 0 dX11_stampTies_14 rfl ?_
  obtain ⟨v8, e7, hf⟩ := xbd hf
  refine gf_X11_99 (pc := 15) C e7 dX11_stampTies_15 ?_
  obtain ⟨σ10, e9, hf⟩ := xbd hf
  refine pf_X11_460 (pc := 18) C e9 dX11_stampTies_18 ?_
  refine ww_aload_n (pc := 21) C 0 dX11_stampTies_21 rfl ?_
  obtain ⟨z12, e11, hf⟩ := xbd hf
  refine gf_X11_31 (pc := 22) C e11 dX11_stampTies_22 ?_
  refine ww_aload_n (pc := 25) C 0 dX11_stampTies_25 rfl ?_
  obtain ⟨v14, e13, hf⟩ := xbd hf
  refine gf_X11_99 (pc := 26) C e13 dX11_stampTies_26 ?_
  obtain ⟨σ16, e15, hf⟩ := xbd hf
  refine pf_X11_463 (pc := 29) C e15 dX11_stampTies_29 ?_
  have hf := xsj hf
  subst hf
  exact ww_vret (pc := 32) C hk dX11_stampTies_32
theorem m_X11_stampTies {σ : XS} {r0 : Nat} {x : XS} (hf : f_X11_stampTies σ r0 = some x) : xsame σ x := by
  have hm := xsame.rf (σ := σ)
  obtain ⟨v2, e1, hf⟩ := xbd hf
  obtain ⟨σ4, e3, hf⟩ := xbd hf
  have hm := hm.tr (xpI_same e3)
  obtain ⟨z6, e5, hf⟩ := xbd hf
  obtain ⟨v8, e7, hf⟩ := xbd hf
  obtain ⟨σ10, e9, hf⟩ := xbd hf
  have hm := hm.tr (xpI_same e9)
  obtain ⟨z12, e11, hf⟩ := xbd hf
  obtain ⟨v14, e13, hf⟩ := xbd hf
  obtain ⟨σ16, e15, hf⟩ := xbd hf
  have hm := hm.tr (xpI_same e15)
  have hf := xsj hf
  subst hf
  exact hm
theorem k_X11_stampTies {l : Launch} {E : XD} {hb : Nat} {σ : XS} {r0 : Nat} {x : XS} (h : f_X11_stampTies σ r0 = some x) : XM l yX11_stampTies cX11_stampTies 1 none 0 0 E hb [.ref (hb + r0)] σ none x := by
  refine xm_of (by decide) (Nat.le_of_ble_eq_true rfl) (m_X11_stampTies h).le (fun G hG C hl hQ => ?_)
  obtain ⟨rfl, rfl, rfl, hN⟩ := hG
  exact s_X11_stampTies_e C h hQ
noncomputable def f_X11_beginAnew_b65 (r0 : Nat) : Int32 × XS → Option ((Int32 × XS) ⊕ (XS)) := fun a => match a with
  | (x1, σ) => (xgR σ r0 11 5).bind fun z2 => (xal σ z2).bind fun v4 => if v4 ≤ x1 then (((xck σ r0 11).bind fun _ => (f_X11_stampTies σ r0).bind fun σ7 => some σ7).map .inr) else (xgR σ r0 11 5).bind fun z6 => (xaR σ 25 z6 x1).bind fun z8 => (xpI σ z8 7 2 (0 : Int32)).bind fun σ10 => some (.inl (x1 + (1 : Int32), σ10))
noncomputable def f_X11_beginAnew (σ : XS) (r0 : Nat) : Option XS := (xgR σ r0 11 2).bind fun z2 => (xgR σ r0 11 1).bind fun z4 => (xgI σ z4 1 5).bind fun v6 => (xgR σ r0 11 1).bind fun z8 => (xgI σ z8 1 6).bind fun v10 => (xgR σ r0 11 1).bind fun z12 => (xgI σ z12 1 7).bind fun v14 => (xck σ z2 3).bind fun _ => (f_X3_lay σ z2 v6 v10 v14).bind fun σ17 => (xgR σ17 r0 11 3).bind fun z19 => (xgR σ17 r0 11 1).bind fun z21 => (xgR σ17 z21 1 1).bind fun z23 => (xck σ17 z19 6).bind fun _ => (f_X6_copyFrom σ17 z19 z23).bind fun σ26 => (xgR σ26 r0 11 3).bind fun z28 => (xgR σ26 r0 11 3).bind fun z30 => (xgI σ26 z30 6 3).bind fun v32 => (xpI σ26 z28 6 4 v32).bind fun σ34 => (xgR σ34 r0 11 4).bind fun z36 => (xck σ34 z36 5).bind fun _ => (f_X5_forget σ34 z36).bind fun σ39 => xloop (f_X11_beginAnew_b65 r0) ((0 : Int32), σ39)
theorem m_X11_beginAnew_l65 {r0 : Nat} {a : Int32 × XS} {x : XS} (hf : xloop (f_X11_beginAnew_b65 r0) a = some x) : xsame a.2 x := by
  refine xloop_ind (P := fun a => xsame a.2 x) (fun a y hf hc he => ?_) hf
  obtain ⟨x1, σ⟩ := a
  have hy : (∀ a' : Int32 × XS, y = .inl a' → xsame σ a'.2) ∧ (∀ b1 : XS, y = .inr b1 → xsame σ b1) := by
    have hm := xsame.rf (σ := σ)
    obtain ⟨z2, e1, hf⟩ := xbd hf
    obtain ⟨v4, e3, hf⟩ := xbd hf
    by_cases q : v4 ≤ x1
    · have hf := xip q hf
      obtain ⟨b0, hg, e9⟩ := xmj hf
      subst e9
      have hf := hg
      refine ⟨fun a' e => xnc2 e, fun b e => ?_⟩
      have h9 := Sum.inr.inj e
      subst h9
      obtain ⟨_, e5, hf⟩ := xbd hf
      obtain ⟨σ7, e6, hf⟩ := xbd hf
      have hm := hm.tr (m_X11_stampTies e6)
      have hf := xsj hf
      subst hf
      exact hm
    · have hf := xin q hf
      obtain ⟨z6, e5, hf⟩ := xbd hf
      obtain ⟨z8, e7, hf⟩ := xbd hf
      obtain ⟨σ10, e9, hf⟩ := xbd hf
      have hm := hm.tr (xpI_same e9)
      have hf := xsj hf
      subst hf
      exact ⟨fun a' e => (by have h9 := Sum.inl.inj e; subst h9; exact hm), fun b e => xnc1 e⟩
  cases y with
  | inl a' =>
    have h1 := hc a' rfl
    have hm := hy.1 a' rfl
    exact hm.tr (h1)
  | inr b =>
    have h1 := he b rfl
    subst h1
    exact hy.2 _ rfl
theorem s_X11_beginAnew_l65 {G : XG} (C : XC G cX11_beginAnew RX11 none 2 3 71) {r0 : Nat} {a : Int32 × XS} {x : XS} (hf : xloop (f_X11_beginAnew_b65 r0) a = some x) (hk : XEnd G none x) : WW G 65 [(0, .ref (gB G + r0)), (1, .int a.1)] [] a.2 := by
  refine xloop_ind (P := fun a => WW G 65 [(0, .ref (gB G + r0)), (1, .int a.1)] [] a.2) (fun a y hf hc he => ?_) hf
  obtain ⟨x1, σ⟩ := a
  have hk : (∀ a' : Int32 × XS, y = .inl a' → WW G 65 [(0, .ref (gB G + r0)), (1, .int a'.1)] [] a'.2) ∧ (∀ b1 : XS, y = .inr b1 → XEnd G none b1) := ⟨hc, fun b e => by have h9 := he b e; subst h9; exact hk⟩
  refine ww_iload_n (pc := 65) C 1 dX11_beginAnew_65 rfl ?_
  refine ww_aload_n (pc := 66) C 0 dX11_beginAnew_66 rfl ?_
  obtain ⟨z2, e1, hf⟩ := xbd hf
  refine gf_X11_44 (pc := 67) C e1 dX11_beginAnew_67 ?_
  obtain ⟨v4, e3, hf⟩ := xbd hf
  refine ww_alen (pc := 70) C e3 dX11_beginAnew_70 ?_
  refine ww_icmp_ge (pc := 71) (tgt := 90) C dX11_beginAnew_71 (by decide) (fun q => ?_) (fun q => ?_)
  · have hf := xip q hf
    obtain ⟨b0, hg, e9⟩ := xmj hf
    subst e9
    have hf := hg
    have hk := hk.2 _ rfl
    refine ww_aload_n (pc := 90) C 0 dX11_beginAnew_90 rfl ?_
    obtain ⟨_, e5, hf⟩ := xbd hf
    obtain ⟨σ7, e6, hf⟩ := xbd hf
    refine ww_callVv (pc := 91) (as := []) (st := []) C (k_X11_stampTies (l := gl G) (E := gE G) (hb := gB G) (σ := σ) e6) rfl (by decide) xc_X11_154 q683 qp35 (xck_spec e5) rfl (by decide) (xst4 (Nat.le_of_ble_eq_true rfl)) (m_X11_stampTies e6).le (m_X11_stampTies e6).lim dX11_beginAnew_91 ?_
    have hf := xsj hf
    subst hf
    exact ww_vret (pc := 94) C hk dX11_beginAnew_94
  · have hf := xin q hf
    refine ww_aload_n (pc := 74) C 0 dX11_beginAnew_74 rfl ?_
    obtain ⟨z6, e5, hf⟩ := xbd hf
    refine gf_X11_44 (pc := 75) C e5 dX11_beginAnew_75 ?_
    refine ww_iload_n (pc := 78) C 1 dX11_beginAnew_78 rfl ?_
    obtain ⟨z8, e7, hf⟩ := xbd hf
    refine ww_aald (pc := 79) (by decide) C e7 dX11_beginAnew_79 ?_
    refine ww_iconst (pc := 80) (v := (0 : Int32)) C dX11_beginAnew_80 (by decide) ?_
    obtain ⟨σ10, e9, hf⟩ := xbd hf
    refine pf_X11_150 (pc := 81) C (Or.inl rfl) e9 dX11_beginAnew_81 ?_
    refine ww_iinc (pc := 84) (v := x1 + (1 : Int32)) (lv' := [(1, .int (x1 + (1 : Int32))), (0, .ref (gB G + r0))]) C 1 dX11_beginAnew_84 rfl (congrArg (fun z => x1 + z) (show Int32.ofInt (1) = (1 : Int32) by decide)) (by decide) rfl ?_
    refine ww_goto (pc := 87) (tgt := 65) C dX11_beginAnew_87 (by decide) ?_
    have hf := xsj hf
    subst hf
    refine ww_sub [1, 0] rfl ?_
    exact hk.1 (x1 + (1 : Int32), σ10) rfl
theorem s_X11_beginAnew_e {G : XG} (C : XC G cX11_beginAnew RX11 none 2 3 71) {σ : XS} {r0 : Nat} {x : XS} (hf : f_X11_beginAnew σ r0 = some x) (hk : XEnd G none x) : WW G 0 [(0, .ref (gB G + r0))] [] σ := by
  refine ww_aload_n (pc := 0) C 0 dX11_beginAnew_0 rfl ?_
  obtain ⟨z2, e1, hf⟩ := xbd hf
  refine gf_X11_24 (pc := 1) C e1 dX11_beginAnew_1 ?_
  refine ww_aload_n (pc := 4) C 0 dX11_beginAnew_4 rfl ?_
  obtain ⟨z4, e3, hf⟩ := xbd hf
  refine gf_X11_12 (pc := 5) C e3 dX11_beginAnew_5 ?_
  obtain ⟨v6, e5, hf⟩ := xbd hf
  refine gf_X11_121 (pc := 8) C e5 dX11_beginAnew_8 ?_
  refine ww_aload_n (pc := 11) C 0 dX11_beginAnew_11 rfl ?_
  obtain ⟨z8, e7, hf⟩ := xbd hf
  refine gf_X11_12 (pc := 12) C e7 dX11_beginAnew_12 ?_
  obtain ⟨v10, e9, hf⟩ := xbd hf
  refine gf_X11_124 (pc := 15) C e9 dX11_beginAnew_15 ?_
  refine ww_aload_n (pc := 18) C 0 dX11_beginAnew_18 rfl ?_
  obtain ⟨z12, e11, hf⟩ := xbd hf
  refine gf_X11_12 (pc := 19) C e11 dX11_beginAnew_19 ?_
  obtain ⟨v14, e13, hf⟩ := xbd hf
  refine gf_X11_127 (pc := 22) C e13 dX11_beginAnew_22 ?_
  obtain ⟨_, e15, hf⟩ := xbd hf
  obtain ⟨σ17, e16, hf⟩ := xbd hf
  refine ww_callVv (pc := 25) (as := [.int v6, .int v10, .int v14]) (st := []) C (k_X3_lay (l := gl G) (E := gE G) (hb := gB G) (σ := σ) e16) rfl (by decide) xc_X11_130 q663 qp31 (xck_spec e15) rfl (by decide) (xst4 (Nat.le_of_ble_eq_true rfl)) (m_X3_lay e16).le (m_X3_lay e16).lim dX11_beginAnew_25 ?_
  refine ww_aload_n (pc := 28) C 0 dX11_beginAnew_28 rfl ?_
  obtain ⟨z19, e18, hf⟩ := xbd hf
  refine gf_X11_31 (pc := 29) C e18 dX11_beginAnew_29 ?_
  refine ww_aload_n (pc := 32) C 0 dX11_beginAnew_32 rfl ?_
  obtain ⟨z21, e20, hf⟩ := xbd hf
  refine gf_X11_12 (pc := 33) C e20 dX11_beginAnew_33 ?_
  obtain ⟨z23, e22, hf⟩ := xbd hf
  refine gf_X11_134 (pc := 36) C e22 dX11_beginAnew_36 ?_
  obtain ⟨_, e24, hf⟩ := xbd hf
  obtain ⟨σ26, e25, hf⟩ := xbd hf
  refine ww_callVv (pc := 39) (as := [.ref (gB G + z23)]) (st := []) C (k_X6_copyFrom (l := gl G) (E := gE G) (hb := gB G) (σ := σ17) e25) rfl (by decide) xc_X11_137 q672 qp33 (xck_spec e24) rfl (by decide) (xst4 (Nat.le_of_ble_eq_true rfl)) (m_X6_copyFrom e25).le (m_X6_copyFrom e25).lim dX11_beginAnew_39 ?_
  refine ww_aload_n (pc := 42) C 0 dX11_beginAnew_42 rfl ?_
  obtain ⟨z28, e27, hf⟩ := xbd hf
  refine gf_X11_31 (pc := 43) C e27 dX11_beginAnew_43 ?_
  refine ww_aload_n (pc := 46) C 0 dX11_beginAnew_46 rfl ?_
  obtain ⟨z30, e29, hf⟩ := xbd hf
  refine gf_X11_31 (pc := 47) C e29 dX11_beginAnew_47 ?_
  obtain ⟨v32, e31, hf⟩ := xbd hf
  refine gf_X11_141 (pc := 50) C e31 dX11_beginAnew_50 ?_
  obtain ⟨σ34, e33, hf⟩ := xbd hf
  refine pf_X11_144 (pc := 53) C e33 dX11_beginAnew_53 ?_
  refine ww_aload_n (pc := 56) C 0 dX11_beginAnew_56 rfl ?_
  obtain ⟨z36, e35, hf⟩ := xbd hf
  refine gf_X11_38 (pc := 57) C e35 dX11_beginAnew_57 ?_
  obtain ⟨_, e37, hf⟩ := xbd hf
  obtain ⟨σ39, e38, hf⟩ := xbd hf
  refine ww_callVv (pc := 60) (as := []) (st := []) C (k_X5_forget (l := gl G) (E := gE G) (hb := gB G) (σ := σ34) e38) rfl (by decide) xc_X11_147 q679 qp34 (xck_spec e37) rfl (by decide) (xst4 (Nat.le_of_ble_eq_true rfl)) (m_X5_forget e38).le (m_X5_forget e38).lim dX11_beginAnew_60 ?_
  refine ww_iconst (pc := 63) (v := (0 : Int32)) C dX11_beginAnew_63 (by decide) ?_
  refine ww_istore_n (pc := 64) (lv' := [(1, .int (0 : Int32)), (0, .ref (gB G + r0))]) C dX11_beginAnew_64 (by decide) rfl ?_
  refine ww_sub [1, 0] rfl ?_
  exact s_X11_beginAnew_l65 C (a := ((0 : Int32), σ39)) hf hk
theorem m_X11_beginAnew {σ : XS} {r0 : Nat} {x : XS} (hf : f_X11_beginAnew σ r0 = some x) : xsame σ x := by
  have hm := xsame.rf (σ := σ)
  obtain ⟨z2, e1, hf⟩ := xbd hf
  obtain ⟨z4, e3, hf⟩ := xbd hf
  obtain ⟨v6, e5, hf⟩ := xbd hf
  obtain ⟨z8, e7, hf⟩ := xbd hf
  obtain ⟨v10, e9, hf⟩ := xbd hf
  obtain ⟨z12, e11, hf⟩ := xbd hf
  obtain ⟨v14, e13, hf⟩ := xbd hf
  obtain ⟨_, e15, hf⟩ := xbd hf
  obtain ⟨σ17, e16, hf⟩ := xbd hf
  have hm := hm.tr (m_X3_lay e16)
  obtain ⟨z19, e18, hf⟩ := xbd hf
  obtain ⟨z21, e20, hf⟩ := xbd hf
  obtain ⟨z23, e22, hf⟩ := xbd hf
  obtain ⟨_, e24, hf⟩ := xbd hf
  obtain ⟨σ26, e25, hf⟩ := xbd hf
  have hm := hm.tr (m_X6_copyFrom e25)
  obtain ⟨z28, e27, hf⟩ := xbd hf
  obtain ⟨z30, e29, hf⟩ := xbd hf
  obtain ⟨v32, e31, hf⟩ := xbd hf
  obtain ⟨σ34, e33, hf⟩ := xbd hf
  have hm := hm.tr (xpI_same e33)
  obtain ⟨z36, e35, hf⟩ := xbd hf
  obtain ⟨_, e37, hf⟩ := xbd hf
  obtain ⟨σ39, e38, hf⟩ := xbd hf
  have hm := hm.tr (m_X5_forget e38)
  exact hm.tr (m_X11_beginAnew_l65 (a := ((0 : Int32), σ39)) hf)
theorem k_X11_beginAnew {l : Launch} {E : XD} {hb : Nat} {σ : XS} {r0 : Nat} {x : XS} (h : f_X11_beginAnew σ r0 = some x) : XM l yX11_beginAnew cX11_beginAnew 2 none 3 71 E hb [.ref (hb + r0)] σ none x := by
  refine xm_of (by decide) (Nat.le_of_ble_eq_true rfl) (m_X11_beginAnew h).le (fun G hG C hl hQ => ?_)
  obtain ⟨rfl, rfl, rfl, hN⟩ := hG
  exact s_X11_beginAnew_e C h hQ
noncomputable def f_X11_bondOrNoTie (σ : XS) (r0 : Nat) (x1 : Int32) : Option Int32 := if x1 = (-1 : Int32) then (some (100 : Int32)) else (xgR σ r0 11 3).bind fun z2 => (xck σ z2 6).bind fun _ => (f_X6_bondAt σ z2 x1).bind fun v5 => some v5
theorem s_X11_bondOrNoTie_e {G : XG} (C : XC G cX11_bondOrNoTie RX11 (some .int) 2 1 21) {σ : XS} {r0 : Nat} {x1 : Int32} {x : Int32} (hf : f_X11_bondOrNoTie σ r0 x1 = some x) (hk : XEnd G (some (.int x)) σ) : WW G 0 [(0, .ref (gB G + r0)), (1, .int x1)] [] σ := by
  refine ww_iload_n (pc := 0) C 1 dX11_bondOrNoTie_0 rfl ?_
  refine ww_iconst (pc := 1) (v := (-1 : Int32)) C dX11_bondOrNoTie_1 (by decide) ?_
  refine ww_icmp_ne (pc := 2) (tgt := 10) C dX11_bondOrNoTie_2 (by decide) (fun q => ?_) (fun q => ?_)
  · have hf := xin q hf
    refine ww_aload_n (pc := 10) C 0 dX11_bondOrNoTie_10 rfl ?_
    obtain ⟨z2, e1, hf⟩ := xbd hf
    refine gf_X11_31 (pc := 11) C e1 dX11_bondOrNoTie_11 ?_
    refine ww_iload_n (pc := 14) C 1 dX11_bondOrNoTie_14 rfl ?_
    obtain ⟨_, e3, hf⟩ := xbd hf
    obtain ⟨v5, e4, hf⟩ := xbd hf
    refine ww_callVi (pc := 15) (as := [.int x1]) (st := []) C (k_X6_bondAt (l := gl G) (E := gE G) (hb := gB G) (σ := σ) e4) rfl (by decide) xc_X11_165 q710 qp39 (xck_spec e3) rfl (by decide) (xst4 (Nat.le_of_ble_eq_true rfl)) xsame.rf.le xsame.rf.lim dX11_bondOrNoTie_15 ?_
    have hf := xsj hf
    subst hf
    exact ww_iret (pc := 18) C hk dX11_bondOrNoTie_18
  · have hf := xip q hf
    refine ww_bipush (pc := 5) (v := (100 : Int32)) C dX11_bondOrNoTie_5 (by decide) ?_
    refine ww_goto (pc := 7) (tgt := 18) C dX11_bondOrNoTie_7 (by decide) ?_
    have hf := xsj hf
    subst hf
    exact ww_iret (pc := 18) C hk dX11_bondOrNoTie_18
theorem k_X11_bondOrNoTie {l : Launch} {E : XD} {hb : Nat} {σ : XS} {r0 : Nat} {x1 : Int32} {x : Int32} (h : f_X11_bondOrNoTie σ r0 x1 = some x) : XM l yX11_bondOrNoTie cX11_bondOrNoTie 2 (some .int) 1 21 E hb [.ref (hb + r0), .int x1] σ (some (.int x)) σ := by
  refine xm_of (by decide) (Nat.le_of_ble_eq_true rfl) ⟨Nat.le_refl _, Nat.le_refl _⟩ (fun G hG C hl hQ => ?_)
  obtain ⟨rfl, rfl, rfl, hN⟩ := hG
  exact s_X11_bondOrNoTie_e C h hQ
noncomputable def f_X4_isEnergy (x0 : Int32) : Option Int32 := if x0 < (-144 : Int32) then (some (0 : Int32)) else if (144 : Int32) < x0 then (some (0 : Int32)) else some (1 : Int32)
theorem s_X4_isEnergy_e {G : XG} (C : XC G cX4_isEnergy RX4 (some .boolean) 1 0 0) {σ : XS} {x0 : Int32} {x : Int32} (hf : f_X4_isEnergy x0 = some x) (hk : XEnd G (some (.int x)) σ) : WW G 0 [(0, .int x0)] [] σ := by
  refine ww_iload_n (pc := 0) C 0 dX4_isEnergy_0 rfl ?_
  refine ww_sipush (pc := 1) (v := (-144 : Int32)) C dX4_isEnergy_1 (by decide) ?_
  refine ww_icmp_lt (pc := 4) (tgt := 18) C dX4_isEnergy_4 (by decide) (fun q => ?_) (fun q => ?_)
  · have hf := xip q hf
    refine ww_iconst (pc := 18) (v := (0 : Int32)) C dX4_isEnergy_18 (by decide) ?_
    have hf := xsj hf
    subst hf
    exact ww_zret (pc := 19) C rfl hk dX4_isEnergy_19
  · have hf := xin q hf
    refine ww_iload_n (pc := 7) C 0 dX4_isEnergy_7 rfl ?_
    refine ww_sipush (pc := 8) (v := (144 : Int32)) C dX4_isEnergy_8 (by decide) ?_
    refine ww_icmp_gt (pc := 11) (tgt := 18) C dX4_isEnergy_11 (by decide) (fun q => ?_) (fun q => ?_)
    · have hf := xip q hf
      refine ww_iconst (pc := 18) (v := (0 : Int32)) C dX4_isEnergy_18 (by decide) ?_
      have hf := xsj hf
      subst hf
      exact ww_zret (pc := 19) C rfl hk dX4_isEnergy_19
    · have hf := xin q hf
      refine ww_iconst (pc := 14) (v := (1 : Int32)) C dX4_isEnergy_14 (by decide) ?_
      refine ww_goto (pc := 15) (tgt := 19) C dX4_isEnergy_15 (by decide) ?_
      have hf := xsj hf
      subst hf
      exact ww_zret (pc := 19) C rfl hk dX4_isEnergy_19
theorem k_X4_isEnergy {l : Launch} {E : XD} {hb : Nat} {σ : XS} {x0 : Int32} {x : Int32} (h : f_X4_isEnergy x0 = some x) : XM l yX4_isEnergy cX4_isEnergy 1 (some .boolean) 0 0 E hb [.int x0] σ (some (.int x)) σ := by
  refine xm_of (by decide) (Nat.le_of_ble_eq_true rfl) ⟨Nat.le_refl _, Nat.le_refl _⟩ (fun G hG C hl hQ => ?_)
  obtain ⟨rfl, rfl, rfl, hN⟩ := hG
  exact s_X4_isEnergy_e C h hQ
noncomputable def f_X4_waysWithUps_j22 (σ : XS) (r0 : Nat) (x1 : Int32) (x2 : Int32) (t0 : Int32) : Option Int32 := if t0 = 0 then (some (0 : Int32)) else (xgR σ r0 4 2).bind fun z2 => (xaI σ 20 z2 (((x1 + (144 : Int32)) * (17 : Int32)) + x2)).bind fun v4 => some v4
noncomputable def f_X4_waysWithUps (σ : XS) (r0 : Nat) (x1 : Int32) (x2 : Int32) : Option Int32 := (f_X4_isEnergy x1).bind fun v2 => if v2 = 0 then (f_X4_waysWithUps_j22 σ r0 x1 x2 (0 : Int32)) else if x2 < 0 then (f_X4_waysWithUps_j22 σ r0 x1 x2 (0 : Int32)) else if (17 : Int32) ≤ x2 then (f_X4_waysWithUps_j22 σ r0 x1 x2 (0 : Int32)) else f_X4_waysWithUps_j22 σ r0 x1 x2 (1 : Int32)
theorem s_X4_waysWithUps_j22 {G : XG} (C : XC G cX4_waysWithUps RX4 (some .int) 4 1 20) {σ : XS} {r0 : Nat} {x1 : Int32} {x2 : Int32} {t0 : Int32} {x : Int32} (hf : f_X4_waysWithUps_j22 σ r0 x1 x2 t0 = some x) (hk : XEnd G (some (.int x)) σ) : WW G 22 [(0, .ref (gB G + r0)), (1, .int x1), (2, .int x2)] [.int t0] σ := by
  refine ww_istore_n (pc := 22) (lv' := [(3, .int t0), (0, .ref (gB G + r0)), (1, .int x1), (2, .int x2)]) C dX4_waysWithUps_22 (by decide) rfl ?_
  refine ww_iload_n (pc := 23) C 0 dX4_waysWithUps_23 rfl ?_
  refine ww_if_eq (pc := 24) (tgt := 45) C dX4_waysWithUps_24 (by decide) (fun q => ?_) (fun q => ?_)
  · have hf := xip q hf
    refine ww_iconst (pc := 45) (v := (0 : Int32)) C dX4_waysWithUps_45 (by decide) ?_
    have hf := xsj hf
    subst hf
    exact ww_iret (pc := 46) C hk dX4_waysWithUps_46
  · have hf := xin q hf
    refine ww_aload_n (pc := 27) C 1 dX4_waysWithUps_27 rfl ?_
    obtain ⟨z2, e1, hf⟩ := xbd hf
    refine gf_X4_18 (pc := 28) C e1 dX4_waysWithUps_28 ?_
    refine ww_iload_n (pc := 31) C 2 dX4_waysWithUps_31 rfl ?_
    refine ww_sipush (pc := 32) (v := (144 : Int32)) C dX4_waysWithUps_32 (by decide) ?_
    refine ww_iadd (pc := 35) C dX4_waysWithUps_35 ?_
    refine ww_bipush (pc := 36) (v := (17 : Int32)) C dX4_waysWithUps_36 (by decide) ?_
    refine ww_imul (pc := 38) C dX4_waysWithUps_38 ?_
    refine ww_iload_n (pc := 39) C 3 dX4_waysWithUps_39 rfl ?_
    refine ww_iadd (pc := 40) C dX4_waysWithUps_40 ?_
    obtain ⟨v4, e3, hf⟩ := xbd hf
    refine ww_iald (pc := 41) C e3 dX4_waysWithUps_41 ?_
    refine ww_goto (pc := 42) (tgt := 46) C dX4_waysWithUps_42 (by decide) ?_
    have hf := xsj hf
    subst hf
    exact ww_iret (pc := 46) C hk dX4_waysWithUps_46
theorem s_X4_waysWithUps_e {G : XG} (C : XC G cX4_waysWithUps RX4 (some .int) 4 1 20) {σ : XS} {r0 : Nat} {x1 : Int32} {x2 : Int32} {x : Int32} (hf : f_X4_waysWithUps σ r0 x1 x2 = some x) (hk : XEnd G (some (.int x)) σ) : WW G 0 [(0, .ref (gB G + r0)), (1, .int x1), (2, .int x2)] [] σ := by
  refine ww_iload_n (pc := 0) C 1 dX4_waysWithUps_0 rfl ?_
  obtain ⟨v2, e1, hf⟩ := xbd hf
  refine ww_callSi (pc := 1) (as := [.int x1]) (st := []) C (k_X4_isEnergy (l := gl G) (E := gE G) (hb := gB G) (σ := σ) e1) xc_X4_58 q909 rfl (by decide) (xst4 (Nat.le_of_ble_eq_true rfl)) xsame.rf.le xsame.rf.lim dX4_waysWithUps_1 ?_
  refine ww_if_eq (pc := 4) (tgt := 21) C dX4_waysWithUps_4 (by decide) (fun q => ?_) (fun q => ?_)
  · have hf := xip q hf
    refine ww_iconst (pc := 21) (v := (0 : Int32)) C dX4_waysWithUps_21 (by decide) ?_
    refine ww_sub [0, 1, 2] rfl ?_
    exact s_X4_waysWithUps_j22 C hf hk
  · have hf := xin q hf
    refine ww_iload_n (pc := 7) C 2 dX4_waysWithUps_7 rfl ?_
    refine ww_if_lt (pc := 8) (tgt := 21) C dX4_waysWithUps_8 (by decide) (fun q => ?_) (fun q => ?_)
    · have hf := xip q hf
      refine ww_iconst (pc := 21) (v := (0 : Int32)) C dX4_waysWithUps_21 (by decide) ?_
      refine ww_sub [0, 1, 2] rfl ?_
      exact s_X4_waysWithUps_j22 C hf hk
    · have hf := xin q hf
      refine ww_iload_n (pc := 11) C 2 dX4_waysWithUps_11 rfl ?_
      refine ww_bipush (pc := 12) (v := (17 : Int32)) C dX4_waysWithUps_12 (by decide) ?_
      refine ww_icmp_ge (pc := 14) (tgt := 21) C dX4_waysWithUps_14 (by decide) (fun q => ?_) (fun q => ?_)
      · have hf := xip q hf
        refine ww_iconst (pc := 21) (v := (0 : Int32)) C dX4_waysWithUps_21 (by decide) ?_
        refine ww_sub [0, 1, 2] rfl ?_
        exact s_X4_waysWithUps_j22 C hf hk
      · have hf := xin q hf
        refine ww_iconst (pc := 17) (v := (1 : Int32)) C dX4_waysWithUps_17 (by decide) ?_
        refine ww_goto (pc := 18) (tgt := 22) C dX4_waysWithUps_18 (by decide) ?_
        refine ww_sub [0, 1, 2] rfl ?_
        exact s_X4_waysWithUps_j22 C hf hk
theorem k_X4_waysWithUps {l : Launch} {E : XD} {hb : Nat} {σ : XS} {r0 : Nat} {x1 : Int32} {x2 : Int32} {x : Int32} (h : f_X4_waysWithUps σ r0 x1 x2 = some x) : XM l yX4_waysWithUps cX4_waysWithUps 4 (some .int) 1 20 E hb [.ref (hb + r0), .int x1, .int x2] σ (some (.int x)) σ := by
  refine xm_of (by decide) (Nat.le_of_ble_eq_true rfl) ⟨Nat.le_refl _, Nat.le_refl _⟩ (fun G hG C hl hQ => ?_)
  obtain ⟨rfl, rfl, rfl, hN⟩ := hG
  exact s_X4_waysWithUps_e C h hQ
noncomputable def f_X11_both_j4 (σ : XS) (x1 : Int32) (x2 : Int32) (t0 : Nat) : Option (Int32 × XS) := (xck σ t0 4).bind fun _ => (f_X4_waysWithUps σ t0 x1 x2).bind fun v3 => some (v3, σ)
noncomputable def f_X11_both (σ : XS) (r0 : Nat) (x1 : Int32) (x2 : Int32) : Option (Int32 × XS) := (xck σ r0 11).bind fun _ => (f_X11_levelsNow σ r0).bind fun (z4, σ3) => (xnz z4).bind fun _ => f_X11_both_j4 σ3 x1 x2 z4
theorem s_X11_both_j4 {G : XG} (C : XC G cX11_both RX11 (some .int) 3 5 115) {σ : XS} {x1 : Int32} {x2 : Int32} {t0 : Nat} {x : Int32 × XS} (hf : f_X11_both_j4 σ x1 x2 t0 = some x) (hk : XEnd G (some (.int x.1)) x.2 ∧ XUp G x.2) : WW G 4 [(1, .int x1), (2, .int x2)] [.ref (gB G + t0)] σ := by
  refine ww_iload_n (pc := 4) C 0 dX11_both_4 rfl ?_
  refine ww_iload_n (pc := 5) C 1 dX11_both_5 rfl ?_
  obtain ⟨_, e1, hf⟩ := xbd hf
  obtain ⟨v3, e2, hf⟩ := xbd hf
  refine ww_callVi (pc := 6) (as := [.int x1, .int x2]) (st := []) C (k_X4_waysWithUps (l := gl G) (E := gE G) (hb := gB G) (σ := σ) e2) rfl (by decide) xc_X11_276 q921 qp72 (xck_spec e1) rfl (by decide) (xst4 (Nat.le_of_ble_eq_true rfl)) xsame.rf.le xsame.rf.lim dX11_both_6 ?_
  have hf := xsj hf
  subst hf
  exact ww_iret (pc := 9) C hk.1 dX11_both_9
theorem m_X11_both_j4 {σ : XS} {x1 : Int32} {x2 : Int32} {t0 : Nat} {x : Int32 × XS} (hf : f_X11_both_j4 σ x1 x2 t0 = some x) : xext σ x.2 := by
  have hm := xext.rf (σ := σ)
  obtain ⟨_, e1, hf⟩ := xbd hf
  obtain ⟨v3, e2, hf⟩ := xbd hf
  have hf := xsj hf
  subst hf
  exact hm
theorem s_X11_both_e {G : XG} (C : XC G cX11_both RX11 (some .int) 3 5 115) {σ : XS} {r0 : Nat} {x1 : Int32} {x2 : Int32} {x : Int32 × XS} (hf : f_X11_both σ r0 x1 x2 = some x) (hk : XEnd G (some (.int x.1)) x.2 ∧ XUp G x.2) : WW G 0 [(0, .ref (gB G + r0)), (1, .int x1), (2, .int x2)] [] σ := by
  refine ww_aload_n (pc := 0) C 0 dX11_both_0 rfl ?_
  obtain ⟨_, e1, hf⟩ := xbd hf
  obtain ⟨⟨z4, σ3⟩, e2, hf⟩ := xbd hf
  dsimp only at hf
  obtain ⟨_, e5, hf⟩ := xbd hf
  refine ww_callVr (pc := 1) (as := []) (st := []) C (k_X11_levelsNow (l := gl G) (E := gE G) (hb := gB G) (σ := σ) e2) rfl (by decide) xc_X11_251 q846 qp56 (xck_spec e1) rfl (by decide) (xst4 (Nat.le_of_ble_eq_true rfl)) (m_X11_levelsNow e2).1 (fun q => by have hm9 := m_X11_both_j4 hf; exact XLim.mid q (m_X11_levelsNow e2) hm9 hk.2) dX11_both_1 ?_
  refine ww_nn (xnz_spec e5) ?_
  refine ww_sub [1, 2] rfl ?_
  exact s_X11_both_j4 C hf hk
theorem m_X11_both {σ : XS} {r0 : Nat} {x1 : Int32} {x2 : Int32} {x : Int32 × XS} (hf : f_X11_both σ r0 x1 x2 = some x) : xext σ x.2 := by
  have hm := xext.rf (σ := σ)
  obtain ⟨_, e1, hf⟩ := xbd hf
  obtain ⟨⟨z4, σ3⟩, e2, hf⟩ := xbd hf
  dsimp only at hf
  have hm := hm.tr (m_X11_levelsNow e2)
  obtain ⟨_, e5, hf⟩ := xbd hf
  exact hm.tr (m_X11_both_j4 hf)
theorem k_X11_both {l : Launch} {E : XD} {hb : Nat} {σ : XS} {r0 : Nat} {x1 : Int32} {x2 : Int32} {x : Int32 × XS} (h : f_X11_both σ r0 x1 x2 = some x) : XM l yX11_both cX11_both 3 (some .int) 5 115 E hb [.ref (hb + r0), .int x1, .int x2] σ (some (.int x.1)) x.2 := by
  refine xm_of (by decide) (Nat.le_of_ble_eq_true rfl) (m_X11_both h).1 (fun G hG C hl hQ => ?_)
  obtain ⟨rfl, rfl, rfl, hN⟩ := hG
  exact s_X11_both_e C h ⟨hQ, hl.2⟩
noncomputable def f_X11_breaksNow_j36 (σ : XS) (r0 : Nat) : Option (Nat × XS) := (xgR σ r0 11 9).bind fun z2 => (xgR σ r0 11 3).bind fun z4 => (xgI σ z4 6 7).bind fun v6 => (xpI σ z2 0 3 v6).bind fun σ8 => (xgR σ8 r0 11 9).bind fun z10 => (xnz z10).bind fun _ => some (z10, σ8)
noncomputable def f_X11_breaksNow (σ : XS) (r0 : Nat) : Option (Nat × XS) := (xgR σ r0 11 9).bind fun z2 => (xgI σ z2 0 3).bind fun v4 => (xgR σ r0 11 3).bind fun z6 => (xgI σ z6 6 7).bind fun v8 => if v4 = v8 then ((xgR σ r0 11 9).bind fun z10 => (xnz z10).bind fun _ => some (z10, σ)) else (xgR σ r0 11 9).bind fun z10 => (xgR σ r0 11 2).bind fun z12 => (xgR σ r0 11 3).bind fun z14 => (xgR σ r0 11 7).bind fun z16 => (xck σ z10 0).bind fun _ => (f_X0_gather σ z10 z12 z14 z16).bind fun σ19 => f_X11_breaksNow_j36 σ19 r0
theorem s_X11_breaksNow_j36 {G : XG} (C : XC G cX11_breaksNow RX11 (some (.object "SpinStrip$Breaks")) 1 4 102) {σ : XS} {r0 : Nat} {x : Nat × XS} (hf : f_X11_breaksNow_j36 σ r0 = some x) (hk : XEnd G (some (xrv (gB G) x.1)) x.2 ∧ XUp G x.2) : WW G 36 [(0, .ref (gB G + r0))] [] σ := by
  refine ww_aload_n (pc := 36) C 0 dX11_breaksNow_36 rfl ?_
  obtain ⟨z2, e1, hf⟩ := xbd hf
  refine gf_X11_69 (pc := 37) C e1 dX11_breaksNow_37 ?_
  refine ww_aload_n (pc := 40) C 0 dX11_breaksNow_40 rfl ?_
  obtain ⟨z4, e3, hf⟩ := xbd hf
  refine gf_X11_31 (pc := 41) C e3 dX11_breaksNow_41 ?_
  obtain ⟨v6, e5, hf⟩ := xbd hf
  refine gf_X11_463 (pc := 44) C e5 dX11_breaksNow_44 ?_
  obtain ⟨σ8, e7, hf⟩ := xbd hf
  refine pf_X11_474 (pc := 47) C e7 dX11_breaksNow_47 ?_
  refine ww_aload_n (pc := 50) C 0 dX11_breaksNow_50 rfl ?_
  obtain ⟨z10, e9, hf⟩ := xbd hf
  refine gf_X11_69 (pc := 51) C e9 dX11_breaksNow_51 ?_
  obtain ⟨_, e11, hf⟩ := xbd hf
  have hf := xsj hf
  subst hf
  exact ww_aret (pc := 54) C (Or.inl ⟨_, rfl⟩) (xnz_spec e11) hk.1 dX11_breaksNow_54
theorem m_X11_breaksNow_j36 {σ : XS} {r0 : Nat} {x : Nat × XS} (hf : f_X11_breaksNow_j36 σ r0 = some x) : xext σ x.2 := by
  have hm := xext.rf (σ := σ)
  obtain ⟨z2, e1, hf⟩ := xbd hf
  obtain ⟨z4, e3, hf⟩ := xbd hf
  obtain ⟨v6, e5, hf⟩ := xbd hf
  obtain ⟨σ8, e7, hf⟩ := xbd hf
  have hm := hm.tr (xpI_same e7).ext
  obtain ⟨z10, e9, hf⟩ := xbd hf
  obtain ⟨_, e11, hf⟩ := xbd hf
  have hf := xsj hf
  subst hf
  exact hm
theorem s_X11_breaksNow_e {G : XG} (C : XC G cX11_breaksNow RX11 (some (.object "SpinStrip$Breaks")) 1 4 102) {σ : XS} {r0 : Nat} {x : Nat × XS} (hf : f_X11_breaksNow σ r0 = some x) (hk : XEnd G (some (xrv (gB G) x.1)) x.2 ∧ XUp G x.2) : WW G 0 [(0, .ref (gB G + r0))] [] σ := by
  refine ww_aload_n (pc := 0) C 0 dX11_breaksNow_0 rfl ?_
  obtain ⟨z2, e1, hf⟩ := xbd hf
  refine gf_X11_69 (pc := 1) C e1 dX11_breaksNow_1 ?_
  obtain ⟨v4, e3, hf⟩ := xbd hf
  refine gf_X11_474 (pc := 4) C e3 dX11_breaksNow_4 ?_
  refine ww_aload_n (pc := 7) C 0 dX11_breaksNow_7 rfl ?_
  obtain ⟨z6, e5, hf⟩ := xbd hf
  refine gf_X11_31 (pc := 8) C e5 dX11_breaksNow_8 ?_
  obtain ⟨v8, e7, hf⟩ := xbd hf
  refine gf_X11_463 (pc := 11) C e7 dX11_breaksNow_11 ?_
  refine ww_icmp_eq (pc := 14) (tgt := 50) C dX11_breaksNow_14 (by decide) (fun q => ?_) (fun q => ?_)
  · have hf := xip q hf
    refine ww_aload_n (pc := 50) C 0 dX11_breaksNow_50 rfl ?_
    obtain ⟨z10, e9, hf⟩ := xbd hf
    refine gf_X11_69 (pc := 51) C e9 dX11_breaksNow_51 ?_
    obtain ⟨_, e11, hf⟩ := xbd hf
    have hf := xsj hf
    subst hf
    exact ww_aret (pc := 54) C (Or.inl ⟨_, rfl⟩) (xnz_spec e11) hk.1 dX11_breaksNow_54
  · have hf := xin q hf
    refine ww_aload_n (pc := 17) C 0 dX11_breaksNow_17 rfl ?_
    obtain ⟨z10, e9, hf⟩ := xbd hf
    refine gf_X11_69 (pc := 18) C e9 dX11_breaksNow_18 ?_
    refine ww_aload_n (pc := 21) C 0 dX11_breaksNow_21 rfl ?_
    obtain ⟨z12, e11, hf⟩ := xbd hf
    refine gf_X11_24 (pc := 22) C e11 dX11_breaksNow_22 ?_
    refine ww_aload_n (pc := 25) C 0 dX11_breaksNow_25 rfl ?_
    obtain ⟨z14, e13, hf⟩ := xbd hf
    refine gf_X11_31 (pc := 26) C e13 dX11_breaksNow_26 ?_
    refine ww_aload_n (pc := 29) C 0 dX11_breaksNow_29 rfl ?_
    obtain ⟨z16, e15, hf⟩ := xbd hf
    refine gf_X11_56 (pc := 30) C e15 dX11_breaksNow_30 ?_
    obtain ⟨_, e17, hf⟩ := xbd hf
    obtain ⟨σ19, e18, hf⟩ := xbd hf
    refine ww_callVv (pc := 33) (as := [.ref (gB G + z12), .ref (gB G + z14), .ref (gB G + z16)]) (st := []) C (k_X0_gather (l := gl G) (E := gE G) (hb := gB G) (σ := σ) e18) rfl (by decide) xc_X11_475 q943 qp75 (xck_spec e17) rfl (by decide) (xst4 (Nat.le_of_ble_eq_true rfl)) (m_X0_gather e18).1 (fun q => by have hm9 := m_X11_breaksNow_j36 hf; exact XLim.mid q (m_X0_gather e18) hm9 hk.2) dX11_breaksNow_33 ?_
    refine ww_sub [0] rfl ?_
    exact s_X11_breaksNow_j36 C hf hk
theorem m_X11_breaksNow {σ : XS} {r0 : Nat} {x : Nat × XS} (hf : f_X11_breaksNow σ r0 = some x) : xext σ x.2 := by
  have hm := xext.rf (σ := σ)
  obtain ⟨z2, e1, hf⟩ := xbd hf
  obtain ⟨v4, e3, hf⟩ := xbd hf
  obtain ⟨z6, e5, hf⟩ := xbd hf
  obtain ⟨v8, e7, hf⟩ := xbd hf
  by_cases q : v4 = v8
  · have hf := xip q hf
    obtain ⟨z10, e9, hf⟩ := xbd hf
    obtain ⟨_, e11, hf⟩ := xbd hf
    have hf := xsj hf
    subst hf
    exact hm
  · have hf := xin q hf
    obtain ⟨z10, e9, hf⟩ := xbd hf
    obtain ⟨z12, e11, hf⟩ := xbd hf
    obtain ⟨z14, e13, hf⟩ := xbd hf
    obtain ⟨z16, e15, hf⟩ := xbd hf
    obtain ⟨_, e17, hf⟩ := xbd hf
    obtain ⟨σ19, e18, hf⟩ := xbd hf
    have hm := hm.tr (m_X0_gather e18)
    exact hm.tr (m_X11_breaksNow_j36 hf)
theorem k_X11_breaksNow {l : Launch} {E : XD} {hb : Nat} {σ : XS} {r0 : Nat} {x : Nat × XS} (h : f_X11_breaksNow σ r0 = some x) : XM l yX11_breaksNow cX11_breaksNow 1 (some (.object "SpinStrip$Breaks")) 4 102 E hb [.ref (hb + r0)] σ (some (xrv (hb) x.1)) x.2 := by
  refine xm_of (by decide) (Nat.le_of_ble_eq_true rfl) (m_X11_breaksNow h).1 (fun G hG C hl hQ => ?_)
  obtain ⟨rfl, rfl, rfl, hN⟩ := hG
  exact s_X11_breaksNow_e C h ⟨hQ, hl.2⟩
noncomputable def f_X11_broken_j4 (σ : XS) (x1 : Int32) (t0 : Nat) : Option (Int32 × XS) := (xck σ t0 0).bind fun _ => (f_X0_waysOf σ t0 x1).bind fun v3 => some (v3, σ)
noncomputable def f_X11_broken (σ : XS) (r0 : Nat) (x1 : Int32) : Option (Int32 × XS) := (xck σ r0 11).bind fun _ => (f_X11_breaksNow σ r0).bind fun (z4, σ3) => (xnz z4).bind fun _ => f_X11_broken_j4 σ3 x1 z4
theorem s_X11_broken_j4 {G : XG} (C : XC G cX11_broken RX11 (some .int) 2 5 122) {σ : XS} {x1 : Int32} {t0 : Nat} {x : Int32 × XS} (hf : f_X11_broken_j4 σ x1 t0 = some x) (hk : XEnd G (some (.int x.1)) x.2 ∧ XUp G x.2) : WW G 4 [(1, .int x1)] [.ref (gB G + t0)] σ := by
  refine ww_iload_n (pc := 4) C 0 dX11_broken_4 rfl ?_
  obtain ⟨_, e1, hf⟩ := xbd hf
  obtain ⟨v3, e2, hf⟩ := xbd hf
  refine ww_callVi (pc := 5) (as := [.int x1]) (st := []) C (k_X0_waysOf (l := gl G) (E := gE G) (hb := gB G) (σ := σ) e2) rfl (by decide) xc_X11_283 q960 qp76 (xck_spec e1) rfl (by decide) (xst4 (Nat.le_of_ble_eq_true rfl)) xsame.rf.le xsame.rf.lim dX11_broken_5 ?_
  have hf := xsj hf
  subst hf
  exact ww_iret (pc := 8) C hk.1 dX11_broken_8
theorem m_X11_broken_j4 {σ : XS} {x1 : Int32} {t0 : Nat} {x : Int32 × XS} (hf : f_X11_broken_j4 σ x1 t0 = some x) : xext σ x.2 := by
  have hm := xext.rf (σ := σ)
  obtain ⟨_, e1, hf⟩ := xbd hf
  obtain ⟨v3, e2, hf⟩ := xbd hf
  have hf := xsj hf
  subst hf
  exact hm
theorem s_X11_broken_e {G : XG} (C : XC G cX11_broken RX11 (some .int) 2 5 122) {σ : XS} {r0 : Nat} {x1 : Int32} {x : Int32 × XS} (hf : f_X11_broken σ r0 x1 = some x) (hk : XEnd G (some (.int x.1)) x.2 ∧ XUp G x.2) : WW G 0 [(0, .ref (gB G + r0)), (1, .int x1)] [] σ := by
  refine ww_aload_n (pc := 0) C 0 dX11_broken_0 rfl ?_
  obtain ⟨_, e1, hf⟩ := xbd hf
  obtain ⟨⟨z4, σ3⟩, e2, hf⟩ := xbd hf
  dsimp only at hf
  obtain ⟨_, e5, hf⟩ := xbd hf
  refine ww_callVr (pc := 1) (as := []) (st := []) C (k_X11_breaksNow (l := gl G) (E := gE G) (hb := gB G) (σ := σ) e2) rfl (by decide) xc_X11_279 q939 qp74 (xck_spec e1) rfl (by decide) (xst4 (Nat.le_of_ble_eq_true rfl)) (m_X11_breaksNow e2).1 (fun q => by have hm9 := m_X11_broken_j4 hf; exact XLim.mid q (m_X11_breaksNow e2) hm9 hk.2) dX11_broken_1 ?_
  refine ww_nn (xnz_spec e5) ?_
  refine ww_sub [1] rfl ?_
  exact s_X11_broken_j4 C hf hk
theorem m_X11_broken {σ : XS} {r0 : Nat} {x1 : Int32} {x : Int32 × XS} (hf : f_X11_broken σ r0 x1 = some x) : xext σ x.2 := by
  have hm := xext.rf (σ := σ)
  obtain ⟨_, e1, hf⟩ := xbd hf
  obtain ⟨⟨z4, σ3⟩, e2, hf⟩ := xbd hf
  dsimp only at hf
  have hm := hm.tr (m_X11_breaksNow e2)
  obtain ⟨_, e5, hf⟩ := xbd hf
  exact hm.tr (m_X11_broken_j4 hf)
theorem k_X11_broken {l : Launch} {E : XD} {hb : Nat} {σ : XS} {r0 : Nat} {x1 : Int32} {x : Int32 × XS} (h : f_X11_broken σ r0 x1 = some x) : XM l yX11_broken cX11_broken 2 (some .int) 5 122 E hb [.ref (hb + r0), .int x1] σ (some (.int x.1)) x.2 := by
  refine xm_of (by decide) (Nat.le_of_ble_eq_true rfl) (m_X11_broken h).1 (fun G hG C hl hQ => ?_)
  obtain ⟨rfl, rfl, rfl, hN⟩ := hG
  exact s_X11_broken_e C h ⟨hQ, hl.2⟩
noncomputable def f_X3_hasSite (σ : XS) (r0 : Nat) (x1 : Int32) : Option Int32 := if x1 < 0 then (some (0 : Int32)) else (xgI σ r0 3 7).bind fun v2 => if v2 ≤ x1 then (some (0 : Int32)) else some (1 : Int32)
theorem s_X3_hasSite_e {G : XG} (C : XC G cX3_hasSite RX3 (some .boolean) 2 0 0) {σ : XS} {r0 : Nat} {x1 : Int32} {x : Int32} (hf : f_X3_hasSite σ r0 x1 = some x) (hk : XEnd G (some (.int x)) σ) : WW G 0 [(0, .ref (gB G + r0)), (1, .int x1)] [] σ := by
  refine ww_iload_n (pc := 0) C 1 dX3_hasSite_0 rfl ?_
  refine ww_if_lt (pc := 1) (tgt := 16) C dX3_hasSite_1 (by decide) (fun q => ?_) (fun q => ?_)
  · have hf := xip q hf
    refine ww_iconst (pc := 16) (v := (0 : Int32)) C dX3_hasSite_16 (by decide) ?_
    have hf := xsj hf
    subst hf
    exact ww_zret (pc := 17) C rfl hk dX3_hasSite_17
  · have hf := xin q hf
    refine ww_iload_n (pc := 4) C 1 dX3_hasSite_4 rfl ?_
    refine ww_aload_n (pc := 5) C 0 dX3_hasSite_5 rfl ?_
    obtain ⟨v2, e1, hf⟩ := xbd hf
    refine gf_X3_40 (pc := 6) C e1 dX3_hasSite_6 ?_
    refine ww_icmp_ge (pc := 9) (tgt := 16) C dX3_hasSite_9 (by decide) (fun q => ?_) (fun q => ?_)
    · have hf := xip q hf
      refine ww_iconst (pc := 16) (v := (0 : Int32)) C dX3_hasSite_16 (by decide) ?_
      have hf := xsj hf
      subst hf
      exact ww_zret (pc := 17) C rfl hk dX3_hasSite_17
    · have hf := xin q hf
      refine ww_iconst (pc := 12) (v := (1 : Int32)) C dX3_hasSite_12 (by decide) ?_
      refine ww_goto (pc := 13) (tgt := 17) C dX3_hasSite_13 (by decide) ?_
      have hf := xsj hf
      subst hf
      exact ww_zret (pc := 17) C rfl hk dX3_hasSite_17
theorem k_X3_hasSite {l : Launch} {E : XD} {hb : Nat} {σ : XS} {r0 : Nat} {x1 : Int32} {x : Int32} (h : f_X3_hasSite σ r0 x1 = some x) : XM l yX3_hasSite cX3_hasSite 2 (some .boolean) 0 0 E hb [.ref (hb + r0), .int x1] σ (some (.int x)) σ := by
  refine xm_of (by decide) (Nat.le_of_ble_eq_true rfl) ⟨Nat.le_refl _, Nat.le_refl _⟩ (fun G hG C hl hQ => ?_)
  obtain ⟨rfl, rfl, rfl, hN⟩ := hG
  exact s_X3_hasSite_e C h hQ
noncomputable def f_X3_grownCluster_b5 (σ : XS) (r0 : Nat) (x1 : Int32) : Int32 × Int32 → Option ((Int32 × Int32) ⊕ (Int32)) := fun a => match a with
  | (x3, x4) => if (32 : Int32) ≤ x4 then ((some x3).map .inr) else (xck σ r0 3).bind fun _ => (f_X3_endAt σ r0 x4).bind fun v3 => if v3 = (-1 : Int32) then (some (.inl (x3, x4 + (1 : Int32)))) else (xck σ r0 3).bind fun _ => (f_X3_isAlike σ r0 x1 x4).bind fun v6 => if v6 = 0 then (some (.inl (x3, x4 + (1 : Int32)))) else (f_X3_startOf x4).bind fun v8 => (xck σ r0 3).bind fun _ => (f_X3_endAt σ r0 x4).bind fun v11 => if (x3 &&& (((1 : Int32) <<< (v8 &&& 31)) ||| ((1 : Int32) <<< (v11 &&& 31)))) = 0 then (some (.inl (x3, x4 + (1 : Int32)))) else some (.inl (x3 ||| (((1 : Int32) <<< (v8 &&& 31)) ||| ((1 : Int32) <<< (v11 &&& 31))), x4 + (1 : Int32)))
noncomputable def f_X3_grownCluster (σ : XS) (r0 : Nat) (x1 : Int32) (x2 : Int32) : Option Int32 := xloop (f_X3_grownCluster_b5 σ r0 x1) (x2, (0 : Int32))
theorem s_X3_grownCluster_l5 {G : XG} (C : XC G cX3_grownCluster RX3 (some .int) 6 2 43) {σ : XS} {r0 : Nat} {x1 : Int32} {a : Int32 × Int32} {x : Int32} (hf : xloop (f_X3_grownCluster_b5 σ r0 x1) a = some x) (hk : XEnd G (some (.int x)) σ) : WW G 5 [(0, .ref (gB G + r0)), (1, .int x1), (3, .int a.1), (4, .int a.2)] [] σ := by
  refine xloop_ind (P := fun a => WW G 5 [(0, .ref (gB G + r0)), (1, .int x1), (3, .int a.1), (4, .int a.2)] [] σ) (fun a y hf hc he => ?_) hf
  obtain ⟨x3, x4⟩ := a
  have hk : (∀ a' : Int32 × Int32, y = .inl a' → WW G 5 [(0, .ref (gB G + r0)), (1, .int x1), (3, .int a'.1), (4, .int a'.2)] [] σ) ∧ (∀ b1 : Int32, y = .inr b1 → XEnd G (some (.int b1)) σ) := ⟨hc, fun b e => by have h9 := he b e; subst h9; exact hk⟩
  refine ww_iload (pc := 5) C 3 dX3_grownCluster_5 rfl ?_
  refine ww_bipush (pc := 7) (v := (32 : Int32)) C dX3_grownCluster_7 (by decide) ?_
  refine ww_icmp_ge (pc := 9) (tgt := 72) C dX3_grownCluster_9 (by decide) (fun q => ?_) (fun q => ?_)
  · have hf := xip q hf
    obtain ⟨b0, hg, e9⟩ := xmj hf
    subst e9
    have hf := hg
    have hk := hk.2 _ rfl
    refine ww_iload_n (pc := 72) C 2 dX3_grownCluster_72 rfl ?_
    have hf := xsj hf
    subst hf
    exact ww_iret (pc := 73) C hk dX3_grownCluster_73
  · have hf := xin q hf
    refine ww_aload_n (pc := 12) C 0 dX3_grownCluster_12 rfl ?_
    refine ww_iload (pc := 13) C 3 dX3_grownCluster_13 rfl ?_
    obtain ⟨_, e1, hf⟩ := xbd hf
    obtain ⟨v3, e2, hf⟩ := xbd hf
    refine ww_callVi (pc := 15) (as := [.int x4]) (st := []) C (k_X3_endAt (l := gl G) (E := gE G) (hb := gB G) (σ := σ) e2) rfl (by decide) xc_X3_59 q703 qp38 (xck_spec e1) rfl (by decide) (xst4 (Nat.le_of_ble_eq_true rfl)) xsame.rf.le xsame.rf.lim dX3_grownCluster_15 ?_
    refine ww_iconst (pc := 18) (v := (-1 : Int32)) C dX3_grownCluster_18 (by decide) ?_
    refine ww_icmp_eq (pc := 19) (tgt := 66) C dX3_grownCluster_19 (by decide) (fun q => ?_) (fun q => ?_)
    · have hf := xip q hf
      refine ww_iinc (pc := 66) (v := x4 + (1 : Int32)) (lv' := [(4, .int (x4 + (1 : Int32))), (0, .ref (gB G + r0)), (1, .int x1), (3, .int x3)]) C 3 dX3_grownCluster_66 rfl (congrArg (fun z => x4 + z) (show Int32.ofInt (1) = (1 : Int32) by decide)) (by decide) rfl ?_
      refine ww_goto (pc := 69) (tgt := 5) C dX3_grownCluster_69 (by decide) ?_
      have hf := xsj hf
      subst hf
      refine ww_sub [1, 2, 3, 0] rfl ?_
      exact hk.1 (x3, x4 + (1 : Int32)) rfl
    · have hf := xin q hf
      refine ww_aload_n (pc := 22) C 0 dX3_grownCluster_22 rfl ?_
      refine ww_iload_n (pc := 23) C 1 dX3_grownCluster_23 rfl ?_
      refine ww_iload (pc := 24) C 3 dX3_grownCluster_24 rfl ?_
      obtain ⟨_, e4, hf⟩ := xbd hf
      obtain ⟨v6, e5, hf⟩ := xbd hf
      refine ww_callVi (pc := 26) (as := [.int x1, .int x4]) (st := []) C (k_X3_isAlike (l := gl G) (E := gE G) (hb := gB G) (σ := σ) e5) rfl (by decide) xc_X3_66 q838 qp55 (xck_spec e4) rfl (by decide) (xst4 (Nat.le_of_ble_eq_true rfl)) xsame.rf.le xsame.rf.lim dX3_grownCluster_26 ?_
      refine ww_if_eq (pc := 29) (tgt := 66) C dX3_grownCluster_29 (by decide) (fun q => ?_) (fun q => ?_)
      · have hf := xip q hf
        refine ww_iinc (pc := 66) (v := x4 + (1 : Int32)) (lv' := [(4, .int (x4 + (1 : Int32))), (0, .ref (gB G + r0)), (1, .int x1), (3, .int x3)]) C 3 dX3_grownCluster_66 rfl (congrArg (fun z => x4 + z) (show Int32.ofInt (1) = (1 : Int32) by decide)) (by decide) rfl ?_
        refine ww_goto (pc := 69) (tgt := 5) C dX3_grownCluster_69 (by decide) ?_
        have hf := xsj hf
        subst hf
        refine ww_sub [1, 2, 3, 0] rfl ?_
        exact hk.1 (x3, x4 + (1 : Int32)) rfl
      · have hf := xin q hf
        refine ww_iconst (pc := 32) (v := (1 : Int32)) C dX3_grownCluster_32 (by decide) ?_
        refine ww_iload (pc := 33) C 3 dX3_grownCluster_33 rfl ?_
        obtain ⟨v8, e7, hf⟩ := xbd hf
        refine ww_callSi (pc := 35) (as := [.int x4]) (st := [.int (1 : Int32)]) C (k_X3_startOf (l := gl G) (E := gE G) (hb := gB G) (σ := σ) e7) xc_X3_47 q628 rfl (by decide) (xst4 (Nat.le_of_ble_eq_true rfl)) xsame.rf.le xsame.rf.lim dX3_grownCluster_35 ?_
        refine ww_ishl (pc := 38) C dX3_grownCluster_38 ?_
        refine ww_iconst (pc := 39) (v := (1 : Int32)) C dX3_grownCluster_39 (by decide) ?_
        refine ww_aload_n (pc := 40) C 0 dX3_grownCluster_40 rfl ?_
        refine ww_iload (pc := 41) C 3 dX3_grownCluster_41 rfl ?_
        obtain ⟨_, e9, hf⟩ := xbd hf
        obtain ⟨v11, e10, hf⟩ := xbd hf
        refine ww_callVi (pc := 43) (as := [.int x4]) (st := [.int (1 : Int32), .int ((1 : Int32) <<< (v8 &&& 31))]) C (k_X3_endAt (l := gl G) (E := gE G) (hb := gB G) (σ := σ) e10) rfl (by decide) xc_X3_59 q703 qp38 (xck_spec e9) rfl (by decide) (xst4 (Nat.le_of_ble_eq_true rfl)) xsame.rf.le xsame.rf.lim dX3_grownCluster_43 ?_
        refine ww_ishl (pc := 46) C dX3_grownCluster_46 ?_
        refine ww_ior (pc := 47) C dX3_grownCluster_47 ?_
        refine ww_istore (pc := 48) (lv' := [(5, .int (((1 : Int32) <<< (v8 &&& 31)) ||| ((1 : Int32) <<< (v11 &&& 31)))), (0, .ref (gB G + r0)), (1, .int x1), (3, .int x3), (4, .int x4)]) C dX3_grownCluster_48 (by decide) rfl ?_
        refine ww_iload_n (pc := 50) C 3 dX3_grownCluster_50 rfl ?_
        refine ww_iload (pc := 51) C 0 dX3_grownCluster_51 rfl ?_
        refine ww_iand (pc := 53) C dX3_grownCluster_53 ?_
        refine ww_if_eq (pc := 54) (tgt := 64) C dX3_grownCluster_54 (by decide) (fun q => ?_) (fun q => ?_)
        · have hf := xip q hf
          refine ww_iload_n (pc := 64) C 3 dX3_grownCluster_64 rfl ?_
          refine ww_istore_n (pc := 65) (lv' := [(3, .int x3), (5, .int (((1 : Int32) <<< (v8 &&& 31)) ||| ((1 : Int32) <<< (v11 &&& 31)))), (0, .ref (gB G + r0)), (1, .int x1), (4, .int x4)]) C dX3_grownCluster_65 (by decide) rfl ?_
          refine ww_iinc (pc := 66) (v := x4 + (1 : Int32)) (lv' := [(4, .int (x4 + (1 : Int32))), (3, .int x3), (5, .int (((1 : Int32) <<< (v8 &&& 31)) ||| ((1 : Int32) <<< (v11 &&& 31)))), (0, .ref (gB G + r0)), (1, .int x1)]) C 4 dX3_grownCluster_66 rfl (congrArg (fun z => x4 + z) (show Int32.ofInt (1) = (1 : Int32) by decide)) (by decide) rfl ?_
          refine ww_goto (pc := 69) (tgt := 5) C dX3_grownCluster_69 (by decide) ?_
          have hf := xsj hf
          subst hf
          refine ww_sub [3, 4, 1, 0] rfl ?_
          exact hk.1 (x3, x4 + (1 : Int32)) rfl
        · have hf := xin q hf
          refine ww_iload_n (pc := 57) C 3 dX3_grownCluster_57 rfl ?_
          refine ww_iload (pc := 58) C 0 dX3_grownCluster_58 rfl ?_
          refine ww_ior (pc := 60) C dX3_grownCluster_60 ?_
          refine ww_goto (pc := 61) (tgt := 65) C dX3_grownCluster_61 (by decide) ?_
          refine ww_istore_n (pc := 65) (lv' := [(3, .int (x3 ||| (((1 : Int32) <<< (v8 &&& 31)) ||| ((1 : Int32) <<< (v11 &&& 31))))), (5, .int (((1 : Int32) <<< (v8 &&& 31)) ||| ((1 : Int32) <<< (v11 &&& 31)))), (0, .ref (gB G + r0)), (1, .int x1), (4, .int x4)]) C dX3_grownCluster_65 (by decide) rfl ?_
          refine ww_iinc (pc := 66) (v := x4 + (1 : Int32)) (lv' := [(4, .int (x4 + (1 : Int32))), (3, .int (x3 ||| (((1 : Int32) <<< (v8 &&& 31)) ||| ((1 : Int32) <<< (v11 &&& 31))))), (5, .int (((1 : Int32) <<< (v8 &&& 31)) ||| ((1 : Int32) <<< (v11 &&& 31)))), (0, .ref (gB G + r0)), (1, .int x1)]) C 4 dX3_grownCluster_66 rfl (congrArg (fun z => x4 + z) (show Int32.ofInt (1) = (1 : Int32) by decide)) (by decide) rfl ?_
          refine ww_goto (pc := 69) (tgt := 5) C dX3_grownCluster_69 (by decide) ?_
          have hf := xsj hf
          subst hf
          refine ww_sub [3, 4, 1, 0] rfl ?_
          exact hk.1 (x3 ||| (((1 : Int32) <<< (v8 &&& 31)) ||| ((1 : Int32) <<< (v11 &&& 31))), x4 + (1 : Int32)) rfl
theorem s_X3_grownCluster_e {G : XG} (C : XC G cX3_grownCluster RX3 (some .int) 6 2 43) {σ : XS} {r0 : Nat} {x1 : Int32} {x2 : Int32} {x : Int32} (hf : f_X3_grownCluster σ r0 x1 x2 = some x) (hk : XEnd G (some (.int x)) σ) : WW G 0 [(0, .ref (gB G + r0)), (1, .int x1), (2, .int x2)] [] σ := by
  refine ww_iload_n (pc := 0) C 2 dX3_grownCluster_0 rfl ?_
  refine ww_istore_n (pc := 1) (lv' := [(3, .int x2), (0, .ref (gB G + r0)), (1, .int x1), (2, .int x2)]) C dX3_grownCluster_1 (by decide) rfl ?_
  refine ww_iconst (pc := 2) (v := (0 : Int32)) C dX3_grownCluster_2 (by decide) ?_
  refine ww_istore (pc := 3) (lv' := [(4, .int (0 : Int32)), (3, .int x2), (0, .ref (gB G + r0)), (1, .int x1), (2, .int x2)]) C dX3_grownCluster_3 (by decide) rfl ?_
  refine ww_sub [2, 3, 1, 0] rfl ?_
  exact s_X3_grownCluster_l5 C (a := (x2, (0 : Int32))) hf hk
theorem k_X3_grownCluster {l : Launch} {E : XD} {hb : Nat} {σ : XS} {r0 : Nat} {x1 : Int32} {x2 : Int32} {x : Int32} (h : f_X3_grownCluster σ r0 x1 x2 = some x) : XM l yX3_grownCluster cX3_grownCluster 6 (some .int) 2 43 E hb [.ref (hb + r0), .int x1, .int x2] σ (some (.int x)) σ := by
  refine xm_of (by decide) (Nat.le_of_ble_eq_true rfl) ⟨Nat.le_refl _, Nat.le_refl _⟩ (fun G hG C hl hQ => ?_)
  obtain ⟨rfl, rfl, rfl, hN⟩ := hG
  exact s_X3_grownCluster_e C h hQ
noncomputable def f_X3_clusterOf_b10 (σ : XS) (r0 : Nat) (x1 : Int32) : Int32 × Int32 × Int32 → Option ((Int32 × Int32 × Int32) ⊕ (Int32)) := fun a => match a with
  | (x3, x4, x5) => if (16 : Int32) ≤ x5 then ((some x3).map .inr) else if x3 = x4 then ((some x3).map .inr) else (xck σ r0 3).bind fun _ => (f_X3_grownCluster σ r0 x1 x3).bind fun v3 => some (.inl (v3, x3, x5 + (1 : Int32)))
noncomputable def f_X3_clusterOf (σ : XS) (r0 : Nat) (x1 : Int32) (x2 : Int32) : Option Int32 := xloop (f_X3_clusterOf_b10 σ r0 x1) ((1 : Int32) <<< (x2 &&& 31), (0 : Int32), (0 : Int32))
theorem s_X3_clusterOf_l10 {G : XG} (C : XC G cX3_clusterOf RX3 (some .int) 6 3 68) {σ : XS} {r0 : Nat} {x1 : Int32} {a : Int32 × Int32 × Int32} {x : Int32} (hf : xloop (f_X3_clusterOf_b10 σ r0 x1) a = some x) (hk : XEnd G (some (.int x)) σ) : WW G 10 [(0, .ref (gB G + r0)), (1, .int x1), (3, .int a.1), (4, .int a.2.1), (5, .int a.2.2)] [] σ := by
  refine xloop_ind (P := fun a => WW G 10 [(0, .ref (gB G + r0)), (1, .int x1), (3, .int a.1), (4, .int a.2.1), (5, .int a.2.2)] [] σ) (fun a y hf hc he => ?_) hf
  obtain ⟨x3, x4, x5⟩ := a
  have hk : (∀ a' : Int32 × Int32 × Int32, y = .inl a' → WW G 10 [(0, .ref (gB G + r0)), (1, .int x1), (3, .int a'.1), (4, .int a'.2.1), (5, .int a'.2.2)] [] σ) ∧ (∀ b1 : Int32, y = .inr b1 → XEnd G (some (.int b1)) σ) := ⟨hc, fun b e => by have h9 := he b e; subst h9; exact hk⟩
  refine ww_iload (pc := 10) C 4 dX3_clusterOf_10 rfl ?_
  refine ww_bipush (pc := 12) (v := (16 : Int32)) C dX3_clusterOf_12 (by decide) ?_
  refine ww_icmp_ge (pc := 14) (tgt := 39) C dX3_clusterOf_14 (by decide) (fun q => ?_) (fun q => ?_)
  · have hf := xip q hf
    obtain ⟨b0, hg, e9⟩ := xmj hf
    subst e9
    have hf := hg
    have hk := hk.2 _ rfl
    refine ww_iload_n (pc := 39) C 2 dX3_clusterOf_39 rfl ?_
    have hf := xsj hf
    subst hf
    exact ww_iret (pc := 40) C hk dX3_clusterOf_40
  · have hf := xin q hf
    refine ww_iload_n (pc := 17) C 2 dX3_clusterOf_17 rfl ?_
    refine ww_iload (pc := 18) C 3 dX3_clusterOf_18 rfl ?_
    refine ww_icmp_eq (pc := 20) (tgt := 39) C dX3_clusterOf_20 (by decide) (fun q => ?_) (fun q => ?_)
    · have hf := xip q hf
      obtain ⟨b0, hg, e9⟩ := xmj hf
      subst e9
      have hf := hg
      have hk := hk.2 _ rfl
      refine ww_iload_n (pc := 39) C 2 dX3_clusterOf_39 rfl ?_
      have hf := xsj hf
      subst hf
      exact ww_iret (pc := 40) C hk dX3_clusterOf_40
    · have hf := xin q hf
      refine ww_iload_n (pc := 23) C 2 dX3_clusterOf_23 rfl ?_
      refine ww_istore (pc := 24) (lv' := [(4, .int x3), (0, .ref (gB G + r0)), (1, .int x1), (3, .int x3), (5, .int x5)]) C dX3_clusterOf_24 (by decide) rfl ?_
      refine ww_aload_n (pc := 26) C 1 dX3_clusterOf_26 rfl ?_
      refine ww_iload_n (pc := 27) C 2 dX3_clusterOf_27 rfl ?_
      refine ww_iload_n (pc := 28) C 3 dX3_clusterOf_28 rfl ?_
      obtain ⟨_, e1, hf⟩ := xbd hf
      obtain ⟨v3, e2, hf⟩ := xbd hf
      refine ww_callVi (pc := 29) (as := [.int x1, .int x3]) (st := []) C (k_X3_grownCluster (l := gl G) (E := gE G) (hb := gB G) (σ := σ) e2) rfl (by decide) xc_X3_89 q834 qp54 (xck_spec e1) rfl (by decide) (xst4 (Nat.le_of_ble_eq_true rfl)) xsame.rf.le xsame.rf.lim dX3_clusterOf_29 ?_
      refine ww_istore_n (pc := 32) (lv' := [(3, .int v3), (4, .int x3), (0, .ref (gB G + r0)), (1, .int x1), (5, .int x5)]) C dX3_clusterOf_32 (by decide) rfl ?_
      refine ww_iinc (pc := 33) (v := x5 + (1 : Int32)) (lv' := [(5, .int (x5 + (1 : Int32))), (3, .int v3), (4, .int x3), (0, .ref (gB G + r0)), (1, .int x1)]) C 4 dX3_clusterOf_33 rfl (congrArg (fun z => x5 + z) (show Int32.ofInt (1) = (1 : Int32) by decide)) (by decide) rfl ?_
      refine ww_goto (pc := 36) (tgt := 10) C dX3_clusterOf_36 (by decide) ?_
      have hf := xsj hf
      subst hf
      refine ww_sub [3, 4, 1, 2, 0] rfl ?_
      exact hk.1 (v3, x3, x5 + (1 : Int32)) rfl
theorem s_X3_clusterOf_e {G : XG} (C : XC G cX3_clusterOf RX3 (some .int) 6 3 68) {σ : XS} {r0 : Nat} {x1 : Int32} {x2 : Int32} {x : Int32} (hf : f_X3_clusterOf σ r0 x1 x2 = some x) (hk : XEnd G (some (.int x)) σ) : WW G 0 [(0, .ref (gB G + r0)), (1, .int x1), (2, .int x2)] [] σ := by
  refine ww_iconst (pc := 0) (v := (1 : Int32)) C dX3_clusterOf_0 (by decide) ?_
  refine ww_iload_n (pc := 1) C 2 dX3_clusterOf_1 rfl ?_
  refine ww_ishl (pc := 2) C dX3_clusterOf_2 ?_
  refine ww_istore_n (pc := 3) (lv' := [(3, .int ((1 : Int32) <<< (x2 &&& 31))), (0, .ref (gB G + r0)), (1, .int x1), (2, .int x2)]) C dX3_clusterOf_3 (by decide) rfl ?_
  refine ww_iconst (pc := 4) (v := (0 : Int32)) C dX3_clusterOf_4 (by decide) ?_
  refine ww_istore (pc := 5) (lv' := [(4, .int (0 : Int32)), (3, .int ((1 : Int32) <<< (x2 &&& 31))), (0, .ref (gB G + r0)), (1, .int x1), (2, .int x2)]) C dX3_clusterOf_5 (by decide) rfl ?_
  refine ww_iconst (pc := 7) (v := (0 : Int32)) C dX3_clusterOf_7 (by decide) ?_
  refine ww_istore (pc := 8) (lv' := [(5, .int (0 : Int32)), (4, .int (0 : Int32)), (3, .int ((1 : Int32) <<< (x2 &&& 31))), (0, .ref (gB G + r0)), (1, .int x1), (2, .int x2)]) C dX3_clusterOf_8 (by decide) rfl ?_
  refine ww_sub [3, 4, 2, 1, 0] rfl ?_
  exact s_X3_clusterOf_l10 C (a := ((1 : Int32) <<< (x2 &&& 31), (0 : Int32), (0 : Int32))) hf hk
theorem k_X3_clusterOf {l : Launch} {E : XD} {hb : Nat} {σ : XS} {r0 : Nat} {x1 : Int32} {x2 : Int32} {x : Int32} (h : f_X3_clusterOf σ r0 x1 x2 = some x) : XM l yX3_clusterOf cX3_clusterOf 6 (some .int) 3 68 E hb [.ref (hb + r0), .int x1, .int x2] σ (some (.int x)) σ := by
  refine xm_of (by decide) (Nat.le_of_ble_eq_true rfl) ⟨Nat.le_refl _, Nat.le_refl _⟩ (fun G hG C hl hQ => ?_)
  obtain ⟨rfl, rfl, rfl, hN⟩ := hG
  exact s_X3_clusterOf_e C h hQ
noncomputable def f_X11_cluster (σ : XS) (r0 : Nat) (x1 : Int32) : Option Int32 := (xgR σ r0 11 2).bind fun z2 => (xck σ z2 3).bind fun _ => (f_X3_hasSite σ z2 x1).bind fun v5 => if v5 = 0 then (some (-1 : Int32)) else (xgR σ r0 11 2).bind fun z7 => (xgR σ r0 11 3).bind fun z9 => (xgI σ z9 6 4).bind fun v11 => (xck σ z7 3).bind fun _ => (f_X3_clusterOf σ z7 v11 x1).bind fun v14 => some v14
theorem s_X11_cluster_e {G : XG} (C : XC G cX11_cluster RX11 (some .int) 2 4 93) {σ : XS} {r0 : Nat} {x1 : Int32} {x : Int32} (hf : f_X11_cluster σ r0 x1 = some x) (hk : XEnd G (some (.int x)) σ) : WW G 0 [(0, .ref (gB G + r0)), (1, .int x1)] [] σ := by
  refine ww_aload_n (pc := 0) C 0 dX11_cluster_0 rfl ?_
  obtain ⟨z2, e1, hf⟩ := xbd hf
  refine gf_X11_24 (pc := 1) C e1 dX11_cluster_1 ?_
  refine ww_iload_n (pc := 4) C 1 dX11_cluster_4 rfl ?_
  obtain ⟨_, e3, hf⟩ := xbd hf
  obtain ⟨v5, e4, hf⟩ := xbd hf
  refine ww_callVi (pc := 5) (as := [.int x1]) (st := []) C (k_X3_hasSite (l := gl G) (E := gE G) (hb := gB G) (σ := σ) e4) rfl (by decide) xc_X11_176 q699 qp37 (xck_spec e3) rfl (by decide) (xst4 (Nat.le_of_ble_eq_true rfl)) xsame.rf.le xsame.rf.lim dX11_cluster_5 ?_
  refine ww_if_ne (pc := 8) (tgt := 13) C dX11_cluster_8 (by decide) (fun q => ?_) (fun q => ?_)
  · have hf := xin q hf
    refine ww_aload_n (pc := 13) C 0 dX11_cluster_13 rfl ?_
    obtain ⟨z7, e6, hf⟩ := xbd hf
    refine gf_X11_24 (pc := 14) C e6 dX11_cluster_14 ?_
    refine ww_aload_n (pc := 17) C 0 dX11_cluster_17 rfl ?_
    obtain ⟨z9, e8, hf⟩ := xbd hf
    refine gf_X11_31 (pc := 18) C e8 dX11_cluster_18 ?_
    obtain ⟨v11, e10, hf⟩ := xbd hf
    refine gf_X11_144 (pc := 21) C e10 dX11_cluster_21 ?_
    refine ww_iload_n (pc := 24) C 1 dX11_cluster_24 rfl ?_
    obtain ⟨_, e12, hf⟩ := xbd hf
    obtain ⟨v14, e13, hf⟩ := xbd hf
    refine ww_callVi (pc := 25) (as := [.int v11, .int x1]) (st := []) C (k_X3_clusterOf (l := gl G) (E := gE G) (hb := gB G) (σ := σ) e13) rfl (by decide) xc_X11_248 q830 qp53 (xck_spec e12) rfl (by decide) (xst4 (Nat.le_of_ble_eq_true rfl)) xsame.rf.le xsame.rf.lim dX11_cluster_25 ?_
    have hf := xsj hf
    subst hf
    exact ww_iret (pc := 28) C hk dX11_cluster_28
  · have hf := xip q hf
    refine ww_iconst (pc := 11) (v := (-1 : Int32)) C dX11_cluster_11 (by decide) ?_
    have hf := xsj hf
    subst hf
    exact ww_iret (pc := 12) C hk dX11_cluster_12
theorem k_X11_cluster {l : Launch} {E : XD} {hb : Nat} {σ : XS} {r0 : Nat} {x1 : Int32} {x : Int32} (h : f_X11_cluster σ r0 x1 = some x) : XM l yX11_cluster cX11_cluster 2 (some .int) 4 93 E hb [.ref (hb + r0), .int x1] σ (some (.int x)) σ := by
  refine xm_of (by decide) (Nat.le_of_ble_eq_true rfl) ⟨Nat.le_refl _, Nat.le_refl _⟩ (fun G hG C hl hQ => ?_)
  obtain ⟨rfl, rfl, rfl, hN⟩ := hG
  exact s_X11_cluster_e C h hQ
noncomputable def f_X11_commonDivisor_b7 : Int32 × Int32 × Int32 → Option ((Int32 × Int32 × Int32) ⊕ (Int32)) := fun a => match a with
  | (x2, x3, x4) => if (64 : Int32) ≤ x4 then ((some x2).map .inr) else if x3 = 0 then ((some x2).map .inr) else (xdz x3).bind fun _ => some (.inl (x3, x2 - x2 / x3 * x3, x4 + (1 : Int32)))
noncomputable def f_X11_commonDivisor (x0 : Int32) (x1 : Int32) : Option Int32 := xloop f_X11_commonDivisor_b7 (x0, x1, (0 : Int32))
theorem s_X11_commonDivisor_l7 {G : XG} (C : XC G cX11_commonDivisor RX11 (some .int) 6 0 0) {σ : XS} {a : Int32 × Int32 × Int32} {x : Int32} (hf : xloop (f_X11_commonDivisor_b7) a = some x) (hk : XEnd G (some (.int x)) σ) : WW G 7 [(2, .int a.1), (3, .int a.2.1), (4, .int a.2.2)] [] σ := by
  refine xloop_ind (P := fun a => WW G 7 [(2, .int a.1), (3, .int a.2.1), (4, .int a.2.2)] [] σ) (fun a y hf hc he => ?_) hf
  obtain ⟨x2, x3, x4⟩ := a
  have hk : (∀ a' : Int32 × Int32 × Int32, y = .inl a' → WW G 7 [(2, .int a'.1), (3, .int a'.2.1), (4, .int a'.2.2)] [] σ) ∧ (∀ b1 : Int32, y = .inr b1 → XEnd G (some (.int b1)) σ) := ⟨hc, fun b e => by have h9 := he b e; subst h9; exact hk⟩
  refine ww_iload (pc := 7) C 2 dX11_commonDivisor_7 rfl ?_
  refine ww_bipush (pc := 9) (v := (64 : Int32)) C dX11_commonDivisor_9 (by decide) ?_
  refine ww_icmp_ge (pc := 11) (tgt := 34) C dX11_commonDivisor_11 (by decide) (fun q => ?_) (fun q => ?_)
  · have hf := xip q hf
    obtain ⟨b0, hg, e9⟩ := xmj hf
    subst e9
    have hf := hg
    have hk := hk.2 _ rfl
    refine ww_iload_n (pc := 34) C 0 dX11_commonDivisor_34 rfl ?_
    have hf := xsj hf
    subst hf
    exact ww_iret (pc := 35) C hk dX11_commonDivisor_35
  · have hf := xin q hf
    refine ww_iload_n (pc := 14) C 1 dX11_commonDivisor_14 rfl ?_
    refine ww_if_eq (pc := 15) (tgt := 34) C dX11_commonDivisor_15 (by decide) (fun q => ?_) (fun q => ?_)
    · have hf := xip q hf
      obtain ⟨b0, hg, e9⟩ := xmj hf
      subst e9
      have hf := hg
      have hk := hk.2 _ rfl
      refine ww_iload_n (pc := 34) C 0 dX11_commonDivisor_34 rfl ?_
      have hf := xsj hf
      subst hf
      exact ww_iret (pc := 35) C hk dX11_commonDivisor_35
    · have hf := xin q hf
      refine ww_iload_n (pc := 18) C 0 dX11_commonDivisor_18 rfl ?_
      refine ww_iload_n (pc := 19) C 1 dX11_commonDivisor_19 rfl ?_
      obtain ⟨_, e1, hf⟩ := xbd hf
      refine ww_irem (pc := 20) C dX11_commonDivisor_20 (xdz_spec e1) ?_
      refine ww_istore (pc := 21) (lv' := [(5, .int (x2 - x2 / x3 * x3)), (2, .int x2), (3, .int x3), (4, .int x4)]) C dX11_commonDivisor_21 (by decide) rfl ?_
      refine ww_iload_n (pc := 23) C 2 dX11_commonDivisor_23 rfl ?_
      refine ww_istore_n (pc := 24) (lv' := [(2, .int x3), (5, .int (x2 - x2 / x3 * x3)), (3, .int x3), (4, .int x4)]) C dX11_commonDivisor_24 (by decide) rfl ?_
      refine ww_iload (pc := 25) C 1 dX11_commonDivisor_25 rfl ?_
      refine ww_istore_n (pc := 27) (lv' := [(3, .int (x2 - x2 / x3 * x3)), (2, .int x3), (5, .int (x2 - x2 / x3 * x3)), (4, .int x4)]) C dX11_commonDivisor_27 (by decide) rfl ?_
      refine ww_iinc (pc := 28) (v := x4 + (1 : Int32)) (lv' := [(4, .int (x4 + (1 : Int32))), (3, .int (x2 - x2 / x3 * x3)), (2, .int x3), (5, .int (x2 - x2 / x3 * x3))]) C 3 dX11_commonDivisor_28 rfl (congrArg (fun z => x4 + z) (show Int32.ofInt (1) = (1 : Int32) by decide)) (by decide) rfl ?_
      refine ww_goto (pc := 31) (tgt := 7) C dX11_commonDivisor_31 (by decide) ?_
      have hf := xsj hf
      subst hf
      refine ww_sub [2, 1, 0] rfl ?_
      exact hk.1 (x3, x2 - x2 / x3 * x3, x4 + (1 : Int32)) rfl
theorem s_X11_commonDivisor_e {G : XG} (C : XC G cX11_commonDivisor RX11 (some .int) 6 0 0) {σ : XS} {x0 : Int32} {x1 : Int32} {x : Int32} (hf : f_X11_commonDivisor x0 x1 = some x) (hk : XEnd G (some (.int x)) σ) : WW G 0 [(0, .int x0), (1, .int x1)] [] σ := by
  refine ww_iload_n (pc := 0) C 0 dX11_commonDivisor_0 rfl ?_
  refine ww_istore_n (pc := 1) (lv' := [(2, .int x0), (0, .int x0), (1, .int x1)]) C dX11_commonDivisor_1 (by decide) rfl ?_
  refine ww_iload_n (pc := 2) C 2 dX11_commonDivisor_2 rfl ?_
  refine ww_istore_n (pc := 3) (lv' := [(3, .int x1), (2, .int x0), (0, .int x0), (1, .int x1)]) C dX11_commonDivisor_3 (by decide) rfl ?_
  refine ww_iconst (pc := 4) (v := (0 : Int32)) C dX11_commonDivisor_4 (by decide) ?_
  refine ww_istore (pc := 5) (lv' := [(4, .int (0 : Int32)), (3, .int x1), (2, .int x0), (0, .int x0), (1, .int x1)]) C dX11_commonDivisor_5 (by decide) rfl ?_
  refine ww_sub [2, 1, 0] rfl ?_
  exact s_X11_commonDivisor_l7 C (a := (x0, x1, (0 : Int32))) hf hk
theorem k_X11_commonDivisor {l : Launch} {E : XD} {hb : Nat} {σ : XS} {x0 : Int32} {x1 : Int32} {x : Int32} (h : f_X11_commonDivisor x0 x1 = some x) : XM l yX11_commonDivisor cX11_commonDivisor 6 (some .int) 0 0 E hb [.int x0, .int x1] σ (some (.int x)) σ := by
  refine xm_of (by decide) (Nat.le_of_ble_eq_true rfl) ⟨Nat.le_refl _, Nat.le_refl _⟩ (fun G hG C hl hQ => ?_)
  obtain ⟨rfl, rfl, rfl, hN⟩ := hG
  exact s_X11_commonDivisor_e C h hQ
noncomputable def f_X11_countStates (σ : XS) (r0 : Nat) : Option Int32 := (xgR σ r0 11 2).bind fun z2 => (xgI σ z2 3 7).bind fun v4 => if v4 = 0 then (some (0 : Int32)) else (xgR σ r0 11 2).bind fun z6 => (xgI σ z6 3 7).bind fun v8 => (xgR σ r0 11 3).bind fun z10 => (xgI σ z10 6 2).bind fun v12 => (f_J6_bitCount_0f7a4 v12).bind fun v14 => some ((1 : Int32) <<< ((v8 - v14) &&& 31))
theorem s_X11_countStates_e {G : XG} (C : XC G cX11_countStates RX11 (some .int) 1 1 20) {σ : XS} {r0 : Nat} {x : Int32} (hf : f_X11_countStates σ r0 = some x) (hk : XEnd G (some (.int x)) σ) : WW G 0 [(0, .ref (gB G + r0))] [] σ := by
  refine ww_aload_n (pc := 0) C 0 dX11_countStates_0 rfl ?_
  obtain ⟨z2, e1, hf⟩ := xbd hf
  refine gf_X11_24 (pc := 1) C e1 dX11_countStates_1 ?_
  obtain ⟨v4, e3, hf⟩ := xbd hf
  refine gf_X11_197 (pc := 4) C e3 dX11_countStates_4 ?_
  refine ww_if_ne (pc := 7) (tgt := 14) C dX11_countStates_7 (by decide) (fun q => ?_) (fun q => ?_)
  · have hf := xin q hf
    refine ww_iconst (pc := 14) (v := (1 : Int32)) C dX11_countStates_14 (by decide) ?_
    refine ww_aload_n (pc := 15) C 0 dX11_countStates_15 rfl ?_
    obtain ⟨z6, e5, hf⟩ := xbd hf
    refine gf_X11_24 (pc := 16) C e5 dX11_countStates_16 ?_
    obtain ⟨v8, e7, hf⟩ := xbd hf
    refine gf_X11_197 (pc := 19) C e7 dX11_countStates_19 ?_
    refine ww_aload_n (pc := 22) C 0 dX11_countStates_22 rfl ?_
    obtain ⟨z10, e9, hf⟩ := xbd hf
    refine gf_X11_31 (pc := 23) C e9 dX11_countStates_23 ?_
    obtain ⟨v12, e11, hf⟩ := xbd hf
    refine gf_X11_191 (pc := 26) C e11 dX11_countStates_26 ?_
    obtain ⟨v14, e13, hf⟩ := xbd hf
    refine ww_callSi (pc := 29) (as := [.int v12]) (st := [.int v8, .int (1 : Int32)]) C (k_J6_bitCount_0f7a4 (l := gl G) (E := gE G) (hb := gB G) (σ := σ) e13) xc_X11_374 q883 rfl (by decide) (xst4 (Nat.le_of_ble_eq_true rfl)) xsame.rf.le xsame.rf.lim dX11_countStates_29 ?_
    refine ww_isub (pc := 32) C dX11_countStates_32 ?_
    refine ww_ishl (pc := 33) C dX11_countStates_33 ?_
    have hf := xsj hf
    subst hf
    exact ww_iret (pc := 34) C hk dX11_countStates_34
  · have hf := xip q hf
    refine ww_iconst (pc := 10) (v := (0 : Int32)) C dX11_countStates_10 (by decide) ?_
    refine ww_goto (pc := 11) (tgt := 34) C dX11_countStates_11 (by decide) ?_
    have hf := xsj hf
    subst hf
    exact ww_iret (pc := 34) C hk dX11_countStates_34
theorem k_X11_countStates {l : Launch} {E : XD} {hb : Nat} {σ : XS} {r0 : Nat} {x : Int32} (h : f_X11_countStates σ r0 = some x) : XM l yX11_countStates cX11_countStates 1 (some .int) 1 20 E hb [.ref (hb + r0)] σ (some (.int x)) σ := by
  refine xm_of (by decide) (Nat.le_of_ble_eq_true rfl) ⟨Nat.le_refl _, Nat.le_refl _⟩ (fun G hG C hl hQ => ?_)
  obtain ⟨rfl, rfl, rfl, hN⟩ := hG
  exact s_X11_countStates_e C h hQ
noncomputable def f_X3_countTies_b4 (σ : XS) (r0 : Nat) : Int32 × Int32 → Option ((Int32 × Int32) ⊕ (Int32)) := fun a => match a with
  | (x1, x2) => if (32 : Int32) ≤ x2 then ((some x1).map .inr) else (xck σ r0 3).bind fun _ => (f_X3_endAt σ r0 x2).bind fun v3 => if v3 = (-1 : Int32) then (some (.inl (x1, x2 + (1 : Int32)))) else some (.inl (x1 + (1 : Int32), x2 + (1 : Int32)))
noncomputable def f_X3_countTies (σ : XS) (r0 : Nat) : Option Int32 := xloop (f_X3_countTies_b4 σ r0) ((0 : Int32), (0 : Int32))
theorem s_X3_countTies_l4 {G : XG} (C : XC G cX3_countTies RX3 (some .int) 3 1 21) {σ : XS} {r0 : Nat} {a : Int32 × Int32} {x : Int32} (hf : xloop (f_X3_countTies_b4 σ r0) a = some x) (hk : XEnd G (some (.int x)) σ) : WW G 4 [(0, .ref (gB G + r0)), (1, .int a.1), (2, .int a.2)] [] σ := by
  refine xloop_ind (P := fun a => WW G 4 [(0, .ref (gB G + r0)), (1, .int a.1), (2, .int a.2)] [] σ) (fun a y hf hc he => ?_) hf
  obtain ⟨x1, x2⟩ := a
  have hk : (∀ a' : Int32 × Int32, y = .inl a' → WW G 4 [(0, .ref (gB G + r0)), (1, .int a'.1), (2, .int a'.2)] [] σ) ∧ (∀ b1 : Int32, y = .inr b1 → XEnd G (some (.int b1)) σ) := ⟨hc, fun b e => by have h9 := he b e; subst h9; exact hk⟩
  refine ww_iload_n (pc := 4) C 2 dX3_countTies_4 rfl ?_
  refine ww_bipush (pc := 5) (v := (32 : Int32)) C dX3_countTies_5 (by decide) ?_
  refine ww_icmp_ge (pc := 7) (tgt := 28) C dX3_countTies_7 (by decide) (fun q => ?_) (fun q => ?_)
  · have hf := xip q hf
    obtain ⟨b0, hg, e9⟩ := xmj hf
    subst e9
    have hf := hg
    have hk := hk.2 _ rfl
    refine ww_iload_n (pc := 28) C 1 dX3_countTies_28 rfl ?_
    have hf := xsj hf
    subst hf
    exact ww_iret (pc := 29) C hk dX3_countTies_29
  · have hf := xin q hf
    refine ww_aload_n (pc := 10) C 0 dX3_countTies_10 rfl ?_
    refine ww_iload_n (pc := 11) C 2 dX3_countTies_11 rfl ?_
    obtain ⟨_, e1, hf⟩ := xbd hf
    obtain ⟨v3, e2, hf⟩ := xbd hf
    refine ww_callVi (pc := 12) (as := [.int x2]) (st := []) C (k_X3_endAt (l := gl G) (E := gE G) (hb := gB G) (σ := σ) e2) rfl (by decide) xc_X3_59 q703 qp38 (xck_spec e1) rfl (by decide) (xst4 (Nat.le_of_ble_eq_true rfl)) xsame.rf.le xsame.rf.lim dX3_countTies_12 ?_
    refine ww_iconst (pc := 15) (v := (-1 : Int32)) C dX3_countTies_15 (by decide) ?_
    refine ww_icmp_eq (pc := 16) (tgt := 22) C dX3_countTies_16 (by decide) (fun q => ?_) (fun q => ?_)
    · have hf := xip q hf
      refine ww_iinc (pc := 22) (v := x2 + (1 : Int32)) (lv' := [(2, .int (x2 + (1 : Int32))), (0, .ref (gB G + r0)), (1, .int x1)]) C 2 dX3_countTies_22 rfl (congrArg (fun z => x2 + z) (show Int32.ofInt (1) = (1 : Int32) by decide)) (by decide) rfl ?_
      refine ww_goto (pc := 25) (tgt := 4) C dX3_countTies_25 (by decide) ?_
      have hf := xsj hf
      subst hf
      refine ww_sub [1, 2, 0] rfl ?_
      exact hk.1 (x1, x2 + (1 : Int32)) rfl
    · have hf := xin q hf
      refine ww_iinc (pc := 19) (v := x1 + (1 : Int32)) (lv' := [(1, .int (x1 + (1 : Int32))), (0, .ref (gB G + r0)), (2, .int x2)]) C 1 dX3_countTies_19 rfl (congrArg (fun z => x1 + z) (show Int32.ofInt (1) = (1 : Int32) by decide)) (by decide) rfl ?_
      refine ww_iinc (pc := 22) (v := x2 + (1 : Int32)) (lv' := [(2, .int (x2 + (1 : Int32))), (1, .int (x1 + (1 : Int32))), (0, .ref (gB G + r0))]) C 2 dX3_countTies_22 rfl (congrArg (fun z => x2 + z) (show Int32.ofInt (1) = (1 : Int32) by decide)) (by decide) rfl ?_
      refine ww_goto (pc := 25) (tgt := 4) C dX3_countTies_25 (by decide) ?_
      have hf := xsj hf
      subst hf
      refine ww_sub [2, 1, 0] rfl ?_
      exact hk.1 (x1 + (1 : Int32), x2 + (1 : Int32)) rfl
theorem s_X3_countTies_e {G : XG} (C : XC G cX3_countTies RX3 (some .int) 3 1 21) {σ : XS} {r0 : Nat} {x : Int32} (hf : f_X3_countTies σ r0 = some x) (hk : XEnd G (some (.int x)) σ) : WW G 0 [(0, .ref (gB G + r0))] [] σ := by
  refine ww_iconst (pc := 0) (v := (0 : Int32)) C dX3_countTies_0 (by decide) ?_
  refine ww_istore_n (pc := 1) (lv' := [(1, .int (0 : Int32)), (0, .ref (gB G + r0))]) C dX3_countTies_1 (by decide) rfl ?_
  refine ww_iconst (pc := 2) (v := (0 : Int32)) C dX3_countTies_2 (by decide) ?_
  refine ww_istore_n (pc := 3) (lv' := [(2, .int (0 : Int32)), (1, .int (0 : Int32)), (0, .ref (gB G + r0))]) C dX3_countTies_3 (by decide) rfl ?_
  refine ww_sub [2, 1, 0] rfl ?_
  exact s_X3_countTies_l4 C (a := ((0 : Int32), (0 : Int32))) hf hk
theorem k_X3_countTies {l : Launch} {E : XD} {hb : Nat} {σ : XS} {r0 : Nat} {x : Int32} (h : f_X3_countTies σ r0 = some x) : XM l yX3_countTies cX3_countTies 3 (some .int) 1 21 E hb [.ref (hb + r0)] σ (some (.int x)) σ := by
  refine xm_of (by decide) (Nat.le_of_ble_eq_true rfl) ⟨Nat.le_refl _, Nat.le_refl _⟩ (fun G hG C hl hQ => ?_)
  obtain ⟨rfl, rfl, rfl, hN⟩ := hG
  exact s_X3_countTies_e C h hQ
noncomputable def f_X11_countFullSlots_b4 (σ : XS) (r0 : Nat) : Int32 × Int32 → Option ((Int32 × Int32) ⊕ (Int32)) := fun a => match a with
  | (x1, x2) => (xgR σ r0 11 5).bind fun z2 => (xal σ z2).bind fun v4 => if v4 ≤ x2 then ((some x1).map .inr) else (xgR σ r0 11 5).bind fun z6 => (xaR σ 25 z6 x2).bind fun z8 => (xgI σ z8 7 2).bind fun v10 => if v10 = 0 then (some (.inl (x1, x2 + (1 : Int32)))) else some (.inl (x1 + (1 : Int32), x2 + (1 : Int32)))
noncomputable def f_X11_countFullSlots (σ : XS) (r0 : Nat) : Option Int32 := xloop (f_X11_countFullSlots_b4 σ r0) ((0 : Int32), (0 : Int32))
theorem s_X11_countFullSlots_l4 {G : XG} (C : XC G cX11_countFullSlots RX11 (some .int) 3 0 0) {σ : XS} {r0 : Nat} {a : Int32 × Int32} {x : Int32} (hf : xloop (f_X11_countFullSlots_b4 σ r0) a = some x) (hk : XEnd G (some (.int x)) σ) : WW G 4 [(0, .ref (gB G + r0)), (1, .int a.1), (2, .int a.2)] [] σ := by
  refine xloop_ind (P := fun a => WW G 4 [(0, .ref (gB G + r0)), (1, .int a.1), (2, .int a.2)] [] σ) (fun a y hf hc he => ?_) hf
  obtain ⟨x1, x2⟩ := a
  have hk : (∀ a' : Int32 × Int32, y = .inl a' → WW G 4 [(0, .ref (gB G + r0)), (1, .int a'.1), (2, .int a'.2)] [] σ) ∧ (∀ b1 : Int32, y = .inr b1 → XEnd G (some (.int b1)) σ) := ⟨hc, fun b e => by have h9 := he b e; subst h9; exact hk⟩
  refine ww_iload_n (pc := 4) C 2 dX11_countFullSlots_4 rfl ?_
  refine ww_aload_n (pc := 5) C 0 dX11_countFullSlots_5 rfl ?_
  obtain ⟨z2, e1, hf⟩ := xbd hf
  refine gf_X11_44 (pc := 6) C e1 dX11_countFullSlots_6 ?_
  obtain ⟨v4, e3, hf⟩ := xbd hf
  refine ww_alen (pc := 9) C e3 dX11_countFullSlots_9 ?_
  refine ww_icmp_ge (pc := 10) (tgt := 34) C dX11_countFullSlots_10 (by decide) (fun q => ?_) (fun q => ?_)
  · have hf := xip q hf
    obtain ⟨b0, hg, e9⟩ := xmj hf
    subst e9
    have hf := hg
    have hk := hk.2 _ rfl
    refine ww_iload_n (pc := 34) C 1 dX11_countFullSlots_34 rfl ?_
    have hf := xsj hf
    subst hf
    exact ww_iret (pc := 35) C hk dX11_countFullSlots_35
  · have hf := xin q hf
    refine ww_aload_n (pc := 13) C 0 dX11_countFullSlots_13 rfl ?_
    obtain ⟨z6, e5, hf⟩ := xbd hf
    refine gf_X11_44 (pc := 14) C e5 dX11_countFullSlots_14 ?_
    refine ww_iload_n (pc := 17) C 2 dX11_countFullSlots_17 rfl ?_
    obtain ⟨z8, e7, hf⟩ := xbd hf
    refine ww_aald (pc := 18) (by decide) C e7 dX11_countFullSlots_18 ?_
    obtain ⟨v10, e9, hf⟩ := xbd hf
    refine gf_X11_150 (pc := 19) C e9 dX11_countFullSlots_19 ?_
    refine ww_if_eq (pc := 22) (tgt := 28) C dX11_countFullSlots_22 (by decide) (fun q => ?_) (fun q => ?_)
    · have hf := xip q hf
      refine ww_iinc (pc := 28) (v := x2 + (1 : Int32)) (lv' := [(2, .int (x2 + (1 : Int32))), (0, .ref (gB G + r0)), (1, .int x1)]) C 2 dX11_countFullSlots_28 rfl (congrArg (fun z => x2 + z) (show Int32.ofInt (1) = (1 : Int32) by decide)) (by decide) rfl ?_
      refine ww_goto (pc := 31) (tgt := 4) C dX11_countFullSlots_31 (by decide) ?_
      have hf := xsj hf
      subst hf
      refine ww_sub [1, 2, 0] rfl ?_
      exact hk.1 (x1, x2 + (1 : Int32)) rfl
    · have hf := xin q hf
      refine ww_iinc (pc := 25) (v := x1 + (1 : Int32)) (lv' := [(1, .int (x1 + (1 : Int32))), (0, .ref (gB G + r0)), (2, .int x2)]) C 1 dX11_countFullSlots_25 rfl (congrArg (fun z => x1 + z) (show Int32.ofInt (1) = (1 : Int32) by decide)) (by decide) rfl ?_
      refine ww_iinc (pc := 28) (v := x2 + (1 : Int32)) (lv' := [(2, .int (x2 + (1 : Int32))), (1, .int (x1 + (1 : Int32))), (0, .ref (gB G + r0))]) C 2 dX11_countFullSlots_28 rfl (congrArg (fun z => x2 + z) (show Int32.ofInt (1) = (1 : Int32) by decide)) (by decide) rfl ?_
      refine ww_goto (pc := 31) (tgt := 4) C dX11_countFullSlots_31 (by decide) ?_
      have hf := xsj hf
      subst hf
      refine ww_sub [2, 1, 0] rfl ?_
      exact hk.1 (x1 + (1 : Int32), x2 + (1 : Int32)) rfl
theorem s_X11_countFullSlots_e {G : XG} (C : XC G cX11_countFullSlots RX11 (some .int) 3 0 0) {σ : XS} {r0 : Nat} {x : Int32} (hf : f_X11_countFullSlots σ r0 = some x) (hk : XEnd G (some (.int x)) σ) : WW G 0 [(0, .ref (gB G + r0))] [] σ := by
  refine ww_iconst (pc := 0) (v := (0 : Int32)) C dX11_countFullSlots_0 (by decide) ?_
  refine ww_istore_n (pc := 1) (lv' := [(1, .int (0 : Int32)), (0, .ref (gB G + r0))]) C dX11_countFullSlots_1 (by decide) rfl ?_
  refine ww_iconst (pc := 2) (v := (0 : Int32)) C dX11_countFullSlots_2 (by decide) ?_
  refine ww_istore_n (pc := 3) (lv' := [(2, .int (0 : Int32)), (1, .int (0 : Int32)), (0, .ref (gB G + r0))]) C dX11_countFullSlots_3 (by decide) rfl ?_
  refine ww_sub [2, 1, 0] rfl ?_
  exact s_X11_countFullSlots_l4 C (a := ((0 : Int32), (0 : Int32))) hf hk
theorem k_X11_countFullSlots {l : Launch} {E : XD} {hb : Nat} {σ : XS} {r0 : Nat} {x : Int32} (h : f_X11_countFullSlots σ r0 = some x) : XM l yX11_countFullSlots cX11_countFullSlots 3 (some .int) 0 0 E hb [.ref (hb + r0)] σ (some (.int x)) σ := by
  refine xm_of (by decide) (Nat.le_of_ble_eq_true rfl) ⟨Nat.le_refl _, Nat.le_refl _⟩ (fun G hG C hl hQ => ?_)
  obtain ⟨rfl, rfl, rfl, hN⟩ := hG
  exact s_X11_countFullSlots_e C h hQ
noncomputable def f_X3_countClusters_b7 (σ : XS) (r0 : Nat) (x1 : Int32) : Int32 × Int32 × Int32 → Option ((Int32 × Int32 × Int32) ⊕ (Int32)) := fun a => match a with
  | (x2, x3, x4) => (xgI σ r0 3 7).bind fun v2 => if v2 ≤ x4 then ((some x3).map .inr) else (f_X11_bitOf x2 x4).bind fun v4 => if v4 = 0 then ((xck σ r0 3).bind fun _ => (f_X3_clusterOf σ r0 x1 x4).bind fun v7 => some (.inl (x2 ||| v7, x3 + (1 : Int32), x4 + (1 : Int32)))) else some (.inl (x2, x3, x4 + (1 : Int32)))
noncomputable def f_X3_countClusters (σ : XS) (r0 : Nat) (x1 : Int32) : Option Int32 := xloop (f_X3_countClusters_b7 σ r0 x1) ((0 : Int32), (0 : Int32), (0 : Int32))
theorem s_X3_countClusters_l7 {G : XG} (C : XC G cX3_countClusters RX3 (some .int) 5 4 93) {σ : XS} {r0 : Nat} {x1 : Int32} {a : Int32 × Int32 × Int32} {x : Int32} (hf : xloop (f_X3_countClusters_b7 σ r0 x1) a = some x) (hk : XEnd G (some (.int x)) σ) : WW G 7 [(0, .ref (gB G + r0)), (1, .int x1), (2, .int a.1), (3, .int a.2.1), (4, .int a.2.2)] [] σ := by
  refine xloop_ind (P := fun a => WW G 7 [(0, .ref (gB G + r0)), (1, .int x1), (2, .int a.1), (3, .int a.2.1), (4, .int a.2.2)] [] σ) (fun a y hf hc he => ?_) hf
  obtain ⟨x2, x3, x4⟩ := a
  have hk : (∀ a' : Int32 × Int32 × Int32, y = .inl a' → WW G 7 [(0, .ref (gB G + r0)), (1, .int x1), (2, .int a'.1), (3, .int a'.2.1), (4, .int a'.2.2)] [] σ) ∧ (∀ b1 : Int32, y = .inr b1 → XEnd G (some (.int b1)) σ) := ⟨hc, fun b e => by have h9 := he b e; subst h9; exact hk⟩
  refine ww_iload (pc := 7) C 4 dX3_countClusters_7 rfl ?_
  refine ww_aload_n (pc := 9) C 0 dX3_countClusters_9 rfl ?_
  obtain ⟨v2, e1, hf⟩ := xbd hf
  refine gf_X3_40 (pc := 10) C e1 dX3_countClusters_10 ?_
  refine ww_icmp_ge (pc := 13) (tgt := 44) C dX3_countClusters_13 (by decide) (fun q => ?_) (fun q => ?_)
  · have hf := xip q hf
    obtain ⟨b0, hg, e9⟩ := xmj hf
    subst e9
    have hf := hg
    have hk := hk.2 _ rfl
    refine ww_iload_n (pc := 44) C 3 dX3_countClusters_44 rfl ?_
    have hf := xsj hf
    subst hf
    exact ww_iret (pc := 45) C hk dX3_countClusters_45
  · have hf := xin q hf
    refine ww_iload_n (pc := 16) C 2 dX3_countClusters_16 rfl ?_
    refine ww_iload (pc := 17) C 4 dX3_countClusters_17 rfl ?_
    obtain ⟨v4, e3, hf⟩ := xbd hf
    refine ww_callSi (pc := 19) (as := [.int x2, .int x4]) (st := []) C (k_X11_bitOf (l := gl G) (E := gE G) (hb := gB G) (σ := σ) e3) xc_X3_62 q655 rfl (by decide) (xst4 (Nat.le_of_ble_eq_true rfl)) xsame.rf.le xsame.rf.lim dX3_countClusters_19 ?_
    refine ww_if_ne (pc := 22) (tgt := 38) C dX3_countClusters_22 (by decide) (fun q => ?_) (fun q => ?_)
    · have hf := xin q hf
      refine ww_iinc (pc := 38) (v := x4 + (1 : Int32)) (lv' := [(4, .int (x4 + (1 : Int32))), (0, .ref (gB G + r0)), (1, .int x1), (2, .int x2), (3, .int x3)]) C 4 dX3_countClusters_38 rfl (congrArg (fun z => x4 + z) (show Int32.ofInt (1) = (1 : Int32) by decide)) (by decide) rfl ?_
      refine ww_goto (pc := 41) (tgt := 7) C dX3_countClusters_41 (by decide) ?_
      have hf := xsj hf
      subst hf
      refine ww_sub [1, 2, 3, 4, 0] rfl ?_
      exact hk.1 (x2, x3, x4 + (1 : Int32)) rfl
    · have hf := xip q hf
      refine ww_iload_n (pc := 25) C 2 dX3_countClusters_25 rfl ?_
      refine ww_aload_n (pc := 26) C 0 dX3_countClusters_26 rfl ?_
      refine ww_iload_n (pc := 27) C 1 dX3_countClusters_27 rfl ?_
      refine ww_iload (pc := 28) C 4 dX3_countClusters_28 rfl ?_
      obtain ⟨_, e5, hf⟩ := xbd hf
      obtain ⟨v7, e6, hf⟩ := xbd hf
      refine ww_callVi (pc := 30) (as := [.int x1, .int x4]) (st := [.int x2]) C (k_X3_clusterOf (l := gl G) (E := gE G) (hb := gB G) (σ := σ) e6) rfl (by decide) xc_X3_92 q830 qp53 (xck_spec e5) rfl (by decide) (xst4 (Nat.le_of_ble_eq_true rfl)) xsame.rf.le xsame.rf.lim dX3_countClusters_30 ?_
      refine ww_ior (pc := 33) C dX3_countClusters_33 ?_
      refine ww_istore_n (pc := 34) (lv' := [(2, .int (x2 ||| v7)), (0, .ref (gB G + r0)), (1, .int x1), (3, .int x3), (4, .int x4)]) C dX3_countClusters_34 (by decide) rfl ?_
      refine ww_iinc (pc := 35) (v := x3 + (1 : Int32)) (lv' := [(3, .int (x3 + (1 : Int32))), (2, .int (x2 ||| v7)), (0, .ref (gB G + r0)), (1, .int x1), (4, .int x4)]) C 3 dX3_countClusters_35 rfl (congrArg (fun z => x3 + z) (show Int32.ofInt (1) = (1 : Int32) by decide)) (by decide) rfl ?_
      refine ww_iinc (pc := 38) (v := x4 + (1 : Int32)) (lv' := [(4, .int (x4 + (1 : Int32))), (3, .int (x3 + (1 : Int32))), (2, .int (x2 ||| v7)), (0, .ref (gB G + r0)), (1, .int x1)]) C 4 dX3_countClusters_38 rfl (congrArg (fun z => x4 + z) (show Int32.ofInt (1) = (1 : Int32) by decide)) (by decide) rfl ?_
      refine ww_goto (pc := 41) (tgt := 7) C dX3_countClusters_41 (by decide) ?_
      have hf := xsj hf
      subst hf
      refine ww_sub [3, 4, 2, 1, 0] rfl ?_
      exact hk.1 (x2 ||| v7, x3 + (1 : Int32), x4 + (1 : Int32)) rfl
theorem s_X3_countClusters_e {G : XG} (C : XC G cX3_countClusters RX3 (some .int) 5 4 93) {σ : XS} {r0 : Nat} {x1 : Int32} {x : Int32} (hf : f_X3_countClusters σ r0 x1 = some x) (hk : XEnd G (some (.int x)) σ) : WW G 0 [(0, .ref (gB G + r0)), (1, .int x1)] [] σ := by
  refine ww_iconst (pc := 0) (v := (0 : Int32)) C dX3_countClusters_0 (by decide) ?_
  refine ww_istore_n (pc := 1) (lv' := [(2, .int (0 : Int32)), (0, .ref (gB G + r0)), (1, .int x1)]) C dX3_countClusters_1 (by decide) rfl ?_
  refine ww_iconst (pc := 2) (v := (0 : Int32)) C dX3_countClusters_2 (by decide) ?_
  refine ww_istore_n (pc := 3) (lv' := [(3, .int (0 : Int32)), (2, .int (0 : Int32)), (0, .ref (gB G + r0)), (1, .int x1)]) C dX3_countClusters_3 (by decide) rfl ?_
  refine ww_iconst (pc := 4) (v := (0 : Int32)) C dX3_countClusters_4 (by decide) ?_
  refine ww_istore (pc := 5) (lv' := [(4, .int (0 : Int32)), (3, .int (0 : Int32)), (2, .int (0 : Int32)), (0, .ref (gB G + r0)), (1, .int x1)]) C dX3_countClusters_5 (by decide) rfl ?_
  refine ww_sub [3, 4, 2, 1, 0] rfl ?_
  exact s_X3_countClusters_l7 C (a := ((0 : Int32), (0 : Int32), (0 : Int32))) hf hk
theorem k_X3_countClusters {l : Launch} {E : XD} {hb : Nat} {σ : XS} {r0 : Nat} {x1 : Int32} {x : Int32} (h : f_X3_countClusters σ r0 x1 = some x) : XM l yX3_countClusters cX3_countClusters 5 (some .int) 4 93 E hb [.ref (hb + r0), .int x1] σ (some (.int x)) σ := by
  refine xm_of (by decide) (Nat.le_of_ble_eq_true rfl) ⟨Nat.le_refl _, Nat.le_refl _⟩ (fun G hG C hl hQ => ?_)
  obtain ⟨rfl, rfl, rfl, hN⟩ := hG
  exact s_X3_countClusters_e C h hQ
noncomputable def f_X3_greatestCluster_b4 (σ : XS) (r0 : Nat) (x1 : Int32) : Int32 × Int32 → Option ((Int32 × Int32) ⊕ (Int32)) := fun a => match a with
  | (x2, x3) => (xgI σ r0 3 7).bind fun v2 => if v2 ≤ x3 then ((some x2).map .inr) else (xck σ r0 3).bind fun _ => (f_X3_clusterOf σ r0 x1 x3).bind fun v5 => (f_J6_bitCount_0f7a4 v5).bind fun v7 => some (.inl (xmax x2 v7, x3 + (1 : Int32)))
noncomputable def f_X3_greatestCluster (σ : XS) (r0 : Nat) (x1 : Int32) : Option Int32 := xloop (f_X3_greatestCluster_b4 σ r0 x1) ((0 : Int32), (0 : Int32))
theorem s_X3_greatestCluster_l4 {G : XG} (C : XC G cX3_greatestCluster RX3 (some .int) 4 4 93) {σ : XS} {r0 : Nat} {x1 : Int32} {a : Int32 × Int32} {x : Int32} (hf : xloop (f_X3_greatestCluster_b4 σ r0 x1) a = some x) (hk : XEnd G (some (.int x)) σ) : WW G 4 [(0, .ref (gB G + r0)), (1, .int x1), (2, .int a.1), (3, .int a.2)] [] σ := by
  refine xloop_ind (P := fun a => WW G 4 [(0, .ref (gB G + r0)), (1, .int x1), (2, .int a.1), (3, .int a.2)] [] σ) (fun a y hf hc he => ?_) hf
  obtain ⟨x2, x3⟩ := a
  have hk : (∀ a' : Int32 × Int32, y = .inl a' → WW G 4 [(0, .ref (gB G + r0)), (1, .int x1), (2, .int a'.1), (3, .int a'.2)] [] σ) ∧ (∀ b1 : Int32, y = .inr b1 → XEnd G (some (.int b1)) σ) := ⟨hc, fun b e => by have h9 := he b e; subst h9; exact hk⟩
  refine ww_iload_n (pc := 4) C 3 dX3_greatestCluster_4 rfl ?_
  refine ww_aload_n (pc := 5) C 0 dX3_greatestCluster_5 rfl ?_
  obtain ⟨v2, e1, hf⟩ := xbd hf
  refine gf_X3_40 (pc := 6) C e1 dX3_greatestCluster_6 ?_
  refine ww_icmp_ge (pc := 9) (tgt := 32) C dX3_greatestCluster_9 (by decide) (fun q => ?_) (fun q => ?_)
  · have hf := xip q hf
    obtain ⟨b0, hg, e9⟩ := xmj hf
    subst e9
    have hf := hg
    have hk := hk.2 _ rfl
    refine ww_iload_n (pc := 32) C 2 dX3_greatestCluster_32 rfl ?_
    have hf := xsj hf
    subst hf
    exact ww_iret (pc := 33) C hk dX3_greatestCluster_33
  · have hf := xin q hf
    refine ww_iload_n (pc := 12) C 2 dX3_greatestCluster_12 rfl ?_
    refine ww_aload_n (pc := 13) C 0 dX3_greatestCluster_13 rfl ?_
    refine ww_iload_n (pc := 14) C 1 dX3_greatestCluster_14 rfl ?_
    refine ww_iload_n (pc := 15) C 3 dX3_greatestCluster_15 rfl ?_
    obtain ⟨_, e3, hf⟩ := xbd hf
    obtain ⟨v5, e4, hf⟩ := xbd hf
    refine ww_callVi (pc := 16) (as := [.int x1, .int x3]) (st := [.int x2]) C (k_X3_clusterOf (l := gl G) (E := gE G) (hb := gB G) (σ := σ) e4) rfl (by decide) xc_X3_92 q830 qp53 (xck_spec e3) rfl (by decide) (xst4 (Nat.le_of_ble_eq_true rfl)) xsame.rf.le xsame.rf.lim dX3_greatestCluster_16 ?_
    obtain ⟨v7, e6, hf⟩ := xbd hf
    refine ww_callSi (pc := 19) (as := [.int v5]) (st := [.int x2]) C (k_J6_bitCount_0f7a4 (l := gl G) (E := gE G) (hb := gB G) (σ := σ) e6) xc_X3_95 q883 rfl (by decide) (xst4 (Nat.le_of_ble_eq_true rfl)) xsame.rf.le xsame.rf.lim dX3_greatestCluster_19 ?_
    refine ww_mmax (pc := 22) C q1240 q1241 q20 qm_mmax ⟨by decide, Nat.le_trans (Nat.add_le_add_right (xst4 (Nat.le_of_ble_eq_true rfl)) 13) (by decide)⟩ dX3_greatestCluster_22 ?_
    refine ww_istore_n (pc := 25) (lv' := [(2, .int (xmax x2 v7)), (0, .ref (gB G + r0)), (1, .int x1), (3, .int x3)]) C dX3_greatestCluster_25 (by decide) rfl ?_
    refine ww_iinc (pc := 26) (v := x3 + (1 : Int32)) (lv' := [(3, .int (x3 + (1 : Int32))), (2, .int (xmax x2 v7)), (0, .ref (gB G + r0)), (1, .int x1)]) C 3 dX3_greatestCluster_26 rfl (congrArg (fun z => x3 + z) (show Int32.ofInt (1) = (1 : Int32) by decide)) (by decide) rfl ?_
    refine ww_goto (pc := 29) (tgt := 4) C dX3_greatestCluster_29 (by decide) ?_
    have hf := xsj hf
    subst hf
    refine ww_sub [2, 3, 1, 0] rfl ?_
    exact hk.1 (xmax x2 v7, x3 + (1 : Int32)) rfl
theorem s_X3_greatestCluster_e {G : XG} (C : XC G cX3_greatestCluster RX3 (some .int) 4 4 93) {σ : XS} {r0 : Nat} {x1 : Int32} {x : Int32} (hf : f_X3_greatestCluster σ r0 x1 = some x) (hk : XEnd G (some (.int x)) σ) : WW G 0 [(0, .ref (gB G + r0)), (1, .int x1)] [] σ := by
  refine ww_iconst (pc := 0) (v := (0 : Int32)) C dX3_greatestCluster_0 (by decide) ?_
  refine ww_istore_n (pc := 1) (lv' := [(2, .int (0 : Int32)), (0, .ref (gB G + r0)), (1, .int x1)]) C dX3_greatestCluster_1 (by decide) rfl ?_
  refine ww_iconst (pc := 2) (v := (0 : Int32)) C dX3_greatestCluster_2 (by decide) ?_
  refine ww_istore_n (pc := 3) (lv' := [(3, .int (0 : Int32)), (2, .int (0 : Int32)), (0, .ref (gB G + r0)), (1, .int x1)]) C dX3_greatestCluster_3 (by decide) rfl ?_
  refine ww_sub [2, 3, 1, 0] rfl ?_
  exact s_X3_greatestCluster_l4 C (a := ((0 : Int32), (0 : Int32))) hf hk
theorem k_X3_greatestCluster {l : Launch} {E : XD} {hb : Nat} {σ : XS} {r0 : Nat} {x1 : Int32} {x : Int32} (h : f_X3_greatestCluster σ r0 x1 = some x) : XM l yX3_greatestCluster cX3_greatestCluster 4 (some .int) 4 93 E hb [.ref (hb + r0), .int x1] σ (some (.int x)) σ := by
  refine xm_of (by decide) (Nat.le_of_ble_eq_true rfl) ⟨Nat.le_refl _, Nat.le_refl _⟩ (fun G hG C hl hQ => ?_)
  obtain ⟨rfl, rfl, rfl, hN⟩ := hG
  exact s_X3_greatestCluster_e C h hQ
noncomputable def f_X3_squareOf (σ : XS) (r0 : Nat) (r1 : Nat) (x2 : Int32) : Option Int32 := (xck σ r0 3).bind fun _ => (f_X3_endAt σ r0 x2).bind fun v3 => (xck σ r0 3).bind fun _ => (f_X3_endAt σ r0 ((16 : Int32) + x2)).bind fun v6 => if v3 = (-1 : Int32) then (some (-2 : Int32)) else if v6 = (-1 : Int32) then (some (-2 : Int32)) else (xck σ r1 6).bind fun _ => (f_X6_bondAt σ r1 x2).bind fun v9 => (xck σ r1 6).bind fun _ => (f_X6_bondAt σ r1 ((16 : Int32) + x2)).bind fun v12 => (xck σ r1 6).bind fun _ => (f_X6_bondAt σ r1 ((16 : Int32) + v3)).bind fun v15 => (xck σ r1 6).bind fun _ => (f_X6_bondAt σ r1 v6).bind fun v18 => if 0 ≤ (((v9 * v12) * v15) * v18) then (some (0 : Int32)) else some (1 : Int32)
theorem s_X3_squareOf_e {G : XG} (C : XC G cX3_squareOf RX3 (some .int) 6 1 21) {σ : XS} {r0 : Nat} {r1 : Nat} {x2 : Int32} {x : Int32} (hf : f_X3_squareOf σ r0 r1 x2 = some x) (hk : XEnd G (some (.int x)) σ) : WW G 0 [(0, .ref (gB G + r0)), (1, .ref (gB G + r1)), (2, .int x2)] [] σ := by
  refine ww_aload_n (pc := 0) C 0 dX3_squareOf_0 rfl ?_
  refine ww_iload_n (pc := 1) C 2 dX3_squareOf_1 rfl ?_
  obtain ⟨_, e1, hf⟩ := xbd hf
  obtain ⟨v3, e2, hf⟩ := xbd hf
  refine ww_callVi (pc := 2) (as := [.int x2]) (st := []) C (k_X3_endAt (l := gl G) (E := gE G) (hb := gB G) (σ := σ) e2) rfl (by decide) xc_X3_59 q703 qp38 (xck_spec e1) rfl (by decide) (xst4 (Nat.le_of_ble_eq_true rfl)) xsame.rf.le xsame.rf.lim dX3_squareOf_2 ?_
  refine ww_istore_n (pc := 5) (lv' := [(3, .int v3), (0, .ref (gB G + r0)), (1, .ref (gB G + r1)), (2, .int x2)]) C dX3_squareOf_5 (by decide) rfl ?_
  refine ww_aload_n (pc := 6) C 1 dX3_squareOf_6 rfl ?_
  refine ww_bipush (pc := 7) (v := (16 : Int32)) C dX3_squareOf_7 (by decide) ?_
  refine ww_iload_n (pc := 9) C 3 dX3_squareOf_9 rfl ?_
  refine ww_iadd (pc := 10) C dX3_squareOf_10 ?_
  obtain ⟨_, e4, hf⟩ := xbd hf
  obtain ⟨v6, e5, hf⟩ := xbd hf
  refine ww_callVi (pc := 11) (as := [.int ((16 : Int32) + x2)]) (st := []) C (k_X3_endAt (l := gl G) (E := gE G) (hb := gB G) (σ := σ) e5) rfl (by decide) xc_X3_59 q703 qp38 (xck_spec e4) rfl (by decide) (xst4 (Nat.le_of_ble_eq_true rfl)) xsame.rf.le xsame.rf.lim dX3_squareOf_11 ?_
  refine ww_istore (pc := 14) (lv' := [(4, .int v6), (3, .int v3), (0, .ref (gB G + r0)), (1, .ref (gB G + r1)), (2, .int x2)]) C dX3_squareOf_14 (by decide) rfl ?_
  refine ww_iload_n (pc := 16) C 1 dX3_squareOf_16 rfl ?_
  refine ww_iconst (pc := 17) (v := (-1 : Int32)) C dX3_squareOf_17 (by decide) ?_
  refine ww_icmp_eq (pc := 18) (tgt := 27) C dX3_squareOf_18 (by decide) (fun q => ?_) (fun q => ?_)
  · have hf := xip q hf
    refine ww_bipush (pc := 27) (v := (-2 : Int32)) C dX3_squareOf_27 (by decide) ?_
    have hf := xsj hf
    subst hf
    exact ww_iret (pc := 29) C hk dX3_squareOf_29
  · have hf := xin q hf
    refine ww_iload (pc := 21) C 0 dX3_squareOf_21 rfl ?_
    refine ww_iconst (pc := 23) (v := (-1 : Int32)) C dX3_squareOf_23 (by decide) ?_
    refine ww_icmp_ne (pc := 24) (tgt := 30) C dX3_squareOf_24 (by decide) (fun q => ?_) (fun q => ?_)
    · have hf := xin q hf
      refine ww_aload_n (pc := 30) C 3 dX3_squareOf_30 rfl ?_
      refine ww_iload_n (pc := 31) C 4 dX3_squareOf_31 rfl ?_
      obtain ⟨_, e7, hf⟩ := xbd hf
      obtain ⟨v9, e8, hf⟩ := xbd hf
      refine ww_callVi (pc := 32) (as := [.int x2]) (st := []) C (k_X6_bondAt (l := gl G) (E := gE G) (hb := gB G) (σ := σ) e8) rfl (by decide) xc_X3_70 q710 qp39 (xck_spec e7) rfl (by decide) (xst4 (Nat.le_of_ble_eq_true rfl)) xsame.rf.le xsame.rf.lim dX3_squareOf_32 ?_
      refine ww_aload_n (pc := 35) C 3 dX3_squareOf_35 rfl ?_
      refine ww_bipush (pc := 36) (v := (16 : Int32)) C dX3_squareOf_36 (by decide) ?_
      refine ww_iload_n (pc := 38) C 4 dX3_squareOf_38 rfl ?_
      refine ww_iadd (pc := 39) C dX3_squareOf_39 ?_
      obtain ⟨_, e10, hf⟩ := xbd hf
      obtain ⟨v12, e11, hf⟩ := xbd hf
      refine ww_callVi (pc := 40) (as := [.int ((16 : Int32) + x2)]) (st := [.int v9]) C (k_X6_bondAt (l := gl G) (E := gE G) (hb := gB G) (σ := σ) e11) rfl (by decide) xc_X3_70 q710 qp39 (xck_spec e10) rfl (by decide) (xst4 (Nat.le_of_ble_eq_true rfl)) xsame.rf.le xsame.rf.lim dX3_squareOf_40 ?_
      refine ww_imul (pc := 43) C dX3_squareOf_43 ?_
      refine ww_aload_n (pc := 44) C 3 dX3_squareOf_44 rfl ?_
      refine ww_bipush (pc := 45) (v := (16 : Int32)) C dX3_squareOf_45 (by decide) ?_
      refine ww_iload_n (pc := 47) C 1 dX3_squareOf_47 rfl ?_
      refine ww_iadd (pc := 48) C dX3_squareOf_48 ?_
      obtain ⟨_, e13, hf⟩ := xbd hf
      obtain ⟨v15, e14, hf⟩ := xbd hf
      refine ww_callVi (pc := 49) (as := [.int ((16 : Int32) + v3)]) (st := [.int (v9 * v12)]) C (k_X6_bondAt (l := gl G) (E := gE G) (hb := gB G) (σ := σ) e14) rfl (by decide) xc_X3_70 q710 qp39 (xck_spec e13) rfl (by decide) (xst4 (Nat.le_of_ble_eq_true rfl)) xsame.rf.le xsame.rf.lim dX3_squareOf_49 ?_
      refine ww_imul (pc := 52) C dX3_squareOf_52 ?_
      refine ww_aload_n (pc := 53) C 3 dX3_squareOf_53 rfl ?_
      refine ww_iload (pc := 54) C 0 dX3_squareOf_54 rfl ?_
      obtain ⟨_, e16, hf⟩ := xbd hf
      obtain ⟨v18, e17, hf⟩ := xbd hf
      refine ww_callVi (pc := 56) (as := [.int v6]) (st := [.int ((v9 * v12) * v15)]) C (k_X6_bondAt (l := gl G) (E := gE G) (hb := gB G) (σ := σ) e17) rfl (by decide) xc_X3_70 q710 qp39 (xck_spec e16) rfl (by decide) (xst4 (Nat.le_of_ble_eq_true rfl)) xsame.rf.le xsame.rf.lim dX3_squareOf_56 ?_
      refine ww_imul (pc := 59) C dX3_squareOf_59 ?_
      refine ww_istore (pc := 60) (lv' := [(5, .int (((v9 * v12) * v15) * v18)), (4, .int v6), (3, .int v3), (0, .ref (gB G + r0)), (1, .ref (gB G + r1)), (2, .int x2)]) C dX3_squareOf_60 (by decide) rfl ?_
      refine ww_iload (pc := 62) C 0 dX3_squareOf_62 rfl ?_
      refine ww_if_ge (pc := 64) (tgt := 71) C dX3_squareOf_64 (by decide) (fun q => ?_) (fun q => ?_)
      · have hf := xip q hf
        refine ww_iconst (pc := 71) (v := (0 : Int32)) C dX3_squareOf_71 (by decide) ?_
        have hf := xsj hf
        subst hf
        exact ww_iret (pc := 72) C hk dX3_squareOf_72
      · have hf := xin q hf
        refine ww_iconst (pc := 67) (v := (1 : Int32)) C dX3_squareOf_67 (by decide) ?_
        refine ww_goto (pc := 68) (tgt := 72) C dX3_squareOf_68 (by decide) ?_
        have hf := xsj hf
        subst hf
        exact ww_iret (pc := 72) C hk dX3_squareOf_72
    · have hf := xip q hf
      refine ww_bipush (pc := 27) (v := (-2 : Int32)) C dX3_squareOf_27 (by decide) ?_
      have hf := xsj hf
      subst hf
      exact ww_iret (pc := 29) C hk dX3_squareOf_29
theorem k_X3_squareOf {l : Launch} {E : XD} {hb : Nat} {σ : XS} {r0 : Nat} {r1 : Nat} {x2 : Int32} {x : Int32} (h : f_X3_squareOf σ r0 r1 x2 = some x) : XM l yX3_squareOf cX3_squareOf 6 (some .int) 1 21 E hb [.ref (hb + r0), .ref (hb + r1), .int x2] σ (some (.int x)) σ := by
  refine xm_of (by decide) (Nat.le_of_ble_eq_true rfl) ⟨Nat.le_refl _, Nat.le_refl _⟩ (fun G hG C hl hQ => ?_)
  obtain ⟨rfl, rfl, rfl, hN⟩ := hG
  exact s_X3_squareOf_e C h hQ
noncomputable def f_X3_countOddSquares_b4 (σ : XS) (r0 : Nat) (r1 : Nat) : Int32 × Int32 → Option ((Int32 × Int32) ⊕ (Int32)) := fun a => match a with
  | (x2, x3) => (xgI σ r0 3 7).bind fun v2 => if v2 ≤ x3 then ((some x2).map .inr) else (xck σ r0 3).bind fun _ => (f_X3_squareOf σ r0 r1 x3).bind fun v5 => if v5 = (1 : Int32) then (some (.inl (x2 + (1 : Int32), x3 + (1 : Int32)))) else some (.inl (x2, x3 + (1 : Int32)))
noncomputable def f_X3_countOddSquares (σ : XS) (r0 : Nat) (r1 : Nat) : Option Int32 := xloop (f_X3_countOddSquares_b4 σ r0 r1) ((0 : Int32), (0 : Int32))
theorem s_X3_countOddSquares_l4 {G : XG} (C : XC G cX3_countOddSquares RX3 (some .int) 4 2 46) {σ : XS} {r0 : Nat} {r1 : Nat} {a : Int32 × Int32} {x : Int32} (hf : xloop (f_X3_countOddSquares_b4 σ r0 r1) a = some x) (hk : XEnd G (some (.int x)) σ) : WW G 4 [(0, .ref (gB G + r0)), (1, .ref (gB G + r1)), (2, .int a.1), (3, .int a.2)] [] σ := by
  refine xloop_ind (P := fun a => WW G 4 [(0, .ref (gB G + r0)), (1, .ref (gB G + r1)), (2, .int a.1), (3, .int a.2)] [] σ) (fun a y hf hc he => ?_) hf
  obtain ⟨x2, x3⟩ := a
  have hk : (∀ a' : Int32 × Int32, y = .inl a' → WW G 4 [(0, .ref (gB G + r0)), (1, .ref (gB G + r1)), (2, .int a'.1), (3, .int a'.2)] [] σ) ∧ (∀ b1 : Int32, y = .inr b1 → XEnd G (some (.int b1)) σ) := ⟨hc, fun b e => by have h9 := he b e; subst h9; exact hk⟩
  refine ww_iload_n (pc := 4) C 3 dX3_countOddSquares_4 rfl ?_
  refine ww_aload_n (pc := 5) C 0 dX3_countOddSquares_5 rfl ?_
  obtain ⟨v2, e1, hf⟩ := xbd hf
  refine gf_X3_40 (pc := 6) C e1 dX3_countOddSquares_6 ?_
  refine ww_icmp_ge (pc := 9) (tgt := 31) C dX3_countOddSquares_9 (by decide) (fun q => ?_) (fun q => ?_)
  · have hf := xip q hf
    obtain ⟨b0, hg, e9⟩ := xmj hf
    subst e9
    have hf := hg
    have hk := hk.2 _ rfl
    refine ww_iload_n (pc := 31) C 2 dX3_countOddSquares_31 rfl ?_
    have hf := xsj hf
    subst hf
    exact ww_iret (pc := 32) C hk dX3_countOddSquares_32
  · have hf := xin q hf
    refine ww_aload_n (pc := 12) C 0 dX3_countOddSquares_12 rfl ?_
    refine ww_aload_n (pc := 13) C 1 dX3_countOddSquares_13 rfl ?_
    refine ww_iload_n (pc := 14) C 3 dX3_countOddSquares_14 rfl ?_
    obtain ⟨_, e3, hf⟩ := xbd hf
    obtain ⟨v5, e4, hf⟩ := xbd hf
    refine ww_callVi (pc := 15) (as := [.ref (gB G + r1), .int x3]) (st := []) C (k_X3_squareOf (l := gl G) (E := gE G) (hb := gB G) (σ := σ) e4) rfl (by decide) xc_X3_85 q822 qp52 (xck_spec e3) rfl (by decide) (xst4 (Nat.le_of_ble_eq_true rfl)) xsame.rf.le xsame.rf.lim dX3_countOddSquares_15 ?_
    refine ww_iconst (pc := 18) (v := (1 : Int32)) C dX3_countOddSquares_18 (by decide) ?_
    refine ww_icmp_ne (pc := 19) (tgt := 25) C dX3_countOddSquares_19 (by decide) (fun q => ?_) (fun q => ?_)
    · have hf := xin q hf
      refine ww_iinc (pc := 25) (v := x3 + (1 : Int32)) (lv' := [(3, .int (x3 + (1 : Int32))), (0, .ref (gB G + r0)), (1, .ref (gB G + r1)), (2, .int x2)]) C 3 dX3_countOddSquares_25 rfl (congrArg (fun z => x3 + z) (show Int32.ofInt (1) = (1 : Int32) by decide)) (by decide) rfl ?_
      refine ww_goto (pc := 28) (tgt := 4) C dX3_countOddSquares_28 (by decide) ?_
      have hf := xsj hf
      subst hf
      refine ww_sub [1, 2, 3, 0] rfl ?_
      exact hk.1 (x2, x3 + (1 : Int32)) rfl
    · have hf := xip q hf
      refine ww_iinc (pc := 22) (v := x2 + (1 : Int32)) (lv' := [(2, .int (x2 + (1 : Int32))), (0, .ref (gB G + r0)), (1, .ref (gB G + r1)), (3, .int x3)]) C 2 dX3_countOddSquares_22 rfl (congrArg (fun z => x2 + z) (show Int32.ofInt (1) = (1 : Int32) by decide)) (by decide) rfl ?_
      refine ww_iinc (pc := 25) (v := x3 + (1 : Int32)) (lv' := [(3, .int (x3 + (1 : Int32))), (2, .int (x2 + (1 : Int32))), (0, .ref (gB G + r0)), (1, .ref (gB G + r1))]) C 3 dX3_countOddSquares_25 rfl (congrArg (fun z => x3 + z) (show Int32.ofInt (1) = (1 : Int32) by decide)) (by decide) rfl ?_
      refine ww_goto (pc := 28) (tgt := 4) C dX3_countOddSquares_28 (by decide) ?_
      have hf := xsj hf
      subst hf
      refine ww_sub [2, 3, 1, 0] rfl ?_
      exact hk.1 (x2 + (1 : Int32), x3 + (1 : Int32)) rfl
theorem s_X3_countOddSquares_e {G : XG} (C : XC G cX3_countOddSquares RX3 (some .int) 4 2 46) {σ : XS} {r0 : Nat} {r1 : Nat} {x : Int32} (hf : f_X3_countOddSquares σ r0 r1 = some x) (hk : XEnd G (some (.int x)) σ) : WW G 0 [(0, .ref (gB G + r0)), (1, .ref (gB G + r1))] [] σ := by
  refine ww_iconst (pc := 0) (v := (0 : Int32)) C dX3_countOddSquares_0 (by decide) ?_
  refine ww_istore_n (pc := 1) (lv' := [(2, .int (0 : Int32)), (0, .ref (gB G + r0)), (1, .ref (gB G + r1))]) C dX3_countOddSquares_1 (by decide) rfl ?_
  refine ww_iconst (pc := 2) (v := (0 : Int32)) C dX3_countOddSquares_2 (by decide) ?_
  refine ww_istore_n (pc := 3) (lv' := [(3, .int (0 : Int32)), (2, .int (0 : Int32)), (0, .ref (gB G + r0)), (1, .ref (gB G + r1))]) C dX3_countOddSquares_3 (by decide) rfl ?_
  refine ww_sub [2, 3, 1, 0] rfl ?_
  exact s_X3_countOddSquares_l4 C (a := ((0 : Int32), (0 : Int32))) hf hk
theorem k_X3_countOddSquares {l : Launch} {E : XD} {hb : Nat} {σ : XS} {r0 : Nat} {r1 : Nat} {x : Int32} (h : f_X3_countOddSquares σ r0 r1 = some x) : XM l yX3_countOddSquares cX3_countOddSquares 4 (some .int) 2 46 E hb [.ref (hb + r0), .ref (hb + r1)] σ (some (.int x)) σ := by
  refine xm_of (by decide) (Nat.le_of_ble_eq_true rfl) ⟨Nat.le_refl _, Nat.le_refl _⟩ (fun G hG C hl hQ => ?_)
  obtain ⟨rfl, rfl, rfl, hN⟩ := hG
  exact s_X3_countOddSquares_e C h hQ
noncomputable def f_X11_count_j192 (σ : XS) (t0 : Nat) : Option (Int32 × XS) := (xck σ t0 0).bind fun _ => (f_X0_fewest σ t0).bind fun v3 => some (v3, σ)
noncomputable def f_X11_count (σ : XS) (r0 : Nat) (x1 : Int32) : Option (Int32 × XS) := xsw x1 (0) [(xgR σ r0 11 2).bind fun z2 => (xgI σ z2 3 4).bind fun v4 => some (v4, σ), (xgR σ r0 11 2).bind fun z2 => (xgI σ z2 3 5).bind fun v4 => some (v4, σ), (xgR σ r0 11 3).bind fun z2 => (xgI σ z2 6 4).bind fun v4 => some (v4, σ), (xck σ r0 11).bind fun _ => (f_X11_countStates σ r0).bind fun v3 => some (v3, σ), (xgR σ r0 11 3).bind fun z2 => (xgI σ z2 6 2).bind fun v4 => some (v4, σ), (xgR σ r0 11 2).bind fun z2 => (xck σ z2 3).bind fun _ => (f_X3_countTies σ z2).bind fun v5 => some (v5, σ), (xgR σ r0 11 0).bind fun z2 => (xgI σ z2 8 4).bind fun v4 => some (v4, σ), (xgR σ r0 11 4).bind fun z2 => (xgI σ z2 5 2).bind fun v4 => some (v4, σ), (xck σ r0 11).bind fun _ => (f_X11_countFullSlots σ r0).bind fun v3 => some (v3, σ), (xgR σ r0 11 3).bind fun z2 => (xgI σ z2 6 5).bind fun v4 => some (v4, σ), (xgR σ r0 11 2).bind fun z2 => (xgR σ r0 11 3).bind fun z4 => (xgI σ z4 6 4).bind fun v6 => (xck σ z2 3).bind fun _ => (f_X3_countClusters σ z2 v6).bind fun v9 => some (v9, σ), (xgR σ r0 11 2).bind fun z2 => (xgR σ r0 11 3).bind fun z4 => (xgI σ z4 6 4).bind fun v6 => (xck σ z2 3).bind fun _ => (f_X3_greatestCluster σ z2 v6).bind fun v9 => some (v9, σ), (xgR σ r0 11 2).bind fun z2 => (xgI σ z2 3 6).bind fun v4 => some (v4, σ), (xck σ r0 11).bind fun _ => (f_X11_breaksNow σ r0).bind fun (z4, σ3) => (xnz z4).bind fun _ => f_X11_count_j192 σ3 z4, (xgR σ r0 11 2).bind fun z2 => (xgR σ r0 11 3).bind fun z4 => (xck σ z2 3).bind fun _ => (f_X3_countOddSquares σ z2 z4).bind fun v7 => some (v7, σ)] (some ((-1 : Int32), σ))
theorem s_X11_count_j192 {G : XG} (C : XC G cX11_count RX11 (some .int) 2 5 122) {σ : XS} {t0 : Nat} {x : Int32 × XS} (hf : f_X11_count_j192 σ t0 = some x) (hk : XEnd G (some (.int x.1)) x.2 ∧ XUp G x.2) : WW G 192 [] [.ref (gB G + t0)] σ := by
  obtain ⟨_, e1, hf⟩ := xbd hf
  obtain ⟨v3, e2, hf⟩ := xbd hf
  refine ww_callVi (pc := 192) (as := []) (st := []) C (k_X0_fewest (l := gl G) (E := gE G) (hb := gB G) (σ := σ) e2) rfl (by decide) xc_X11_453 q1245 qp117 (xck_spec e1) rfl (by decide) (xst4 (Nat.le_of_ble_eq_true rfl)) xsame.rf.le xsame.rf.lim dX11_count_192 ?_
  have hf := xsj hf
  subst hf
  exact ww_iret (pc := 195) C hk.1 dX11_count_195
theorem m_X11_count_j192 {σ : XS} {t0 : Nat} {x : Int32 × XS} (hf : f_X11_count_j192 σ t0 = some x) : xext σ x.2 := by
  have hm := xext.rf (σ := σ)
  obtain ⟨_, e1, hf⟩ := xbd hf
  obtain ⟨v3, e2, hf⟩ := xbd hf
  have hf := xsj hf
  subst hf
  exact hm
theorem s_X11_count_e {G : XG} (C : XC G cX11_count RX11 (some .int) 2 5 122) {σ : XS} {r0 : Nat} {x1 : Int32} {x : Int32 × XS} (hf : f_X11_count σ r0 x1 = some x) (hk : XEnd G (some (.int x.1)) x.2 ∧ XUp G x.2) : WW G 0 [(0, .ref (gB G + r0)), (1, .int x1)] [] σ := by
  refine ww_iload_n (pc := 0) C 1 dX11_count_0 rfl ?_
  refine ww_table (pc := 1) C dX11_count_1 (fun k hk1 hk2 => ?_) (fun ho => ?_)
  · rcases (by omega : k = 0 ∨ k = 1 ∨ k = 2 ∨ k = 3 ∨ k = 4 ∨ k = 5 ∨ k = 6 ∨ k = 7 ∨ k = 8 ∨ k = 9 ∨ k = 10 ∨ k = 11 ∨ k = 12 ∨ k = 13 ∨ k = 14) with rfl | rfl | rfl | rfl | rfl | rfl | rfl | rfl | rfl | rfl | rfl | rfl | rfl | rfl | rfl
    · refine ⟨76, 75, rfl, by decide, ?_⟩
      have hf := xsw_in 0 hk1 rfl hf
      refine ww_aload_n (pc := 76) C 0 dX11_count_76 rfl ?_
      obtain ⟨z2, e1, hf⟩ := xbd hf
      refine gf_X11_24 (pc := 77) C e1 dX11_count_77 ?_
      obtain ⟨v4, e3, hf⟩ := xbd hf
      refine gf_X11_362 (pc := 80) C e3 dX11_count_80 ?_
      have hf := xsj hf
      subst hf
      exact ww_iret (pc := 83) C hk.1 dX11_count_83
    · refine ⟨84, 83, rfl, by decide, ?_⟩
      have hf := xsw_in 1 hk1 rfl hf
      refine ww_aload_n (pc := 84) C 0 dX11_count_84 rfl ?_
      obtain ⟨z2, e1, hf⟩ := xbd hf
      refine gf_X11_24 (pc := 85) C e1 dX11_count_85 ?_
      obtain ⟨v4, e3, hf⟩ := xbd hf
      refine gf_X11_361 (pc := 88) C e3 dX11_count_88 ?_
      have hf := xsj hf
      subst hf
      exact ww_iret (pc := 91) C hk.1 dX11_count_91
    · refine ⟨92, 91, rfl, by decide, ?_⟩
      have hf := xsw_in 2 hk1 rfl hf
      refine ww_aload_n (pc := 92) C 0 dX11_count_92 rfl ?_
      obtain ⟨z2, e1, hf⟩ := xbd hf
      refine gf_X11_31 (pc := 93) C e1 dX11_count_93 ?_
      obtain ⟨v4, e3, hf⟩ := xbd hf
      refine gf_X11_144 (pc := 96) C e3 dX11_count_96 ?_
      have hf := xsj hf
      subst hf
      exact ww_iret (pc := 99) C hk.1 dX11_count_99
    · refine ⟨100, 99, rfl, by decide, ?_⟩
      have hf := xsw_in 3 hk1 rfl hf
      refine ww_aload_n (pc := 100) C 0 dX11_count_100 rfl ?_
      obtain ⟨_, e1, hf⟩ := xbd hf
      obtain ⟨v3, e2, hf⟩ := xbd hf
      refine ww_callVi (pc := 101) (as := []) (st := []) C (k_X11_countStates (l := gl G) (E := gE G) (hb := gB G) (σ := σ) e2) rfl (by decide) xc_X11_433 q1220 qp112 (xck_spec e1) rfl (by decide) (xst4 (Nat.le_of_ble_eq_true rfl)) xsame.rf.le xsame.rf.lim dX11_count_101 ?_
      have hf := xsj hf
      subst hf
      exact ww_iret (pc := 104) C hk.1 dX11_count_104
    · refine ⟨105, 104, rfl, by decide, ?_⟩
      have hf := xsw_in 4 hk1 rfl hf
      refine ww_aload_n (pc := 105) C 0 dX11_count_105 rfl ?_
      obtain ⟨z2, e1, hf⟩ := xbd hf
      refine gf_X11_31 (pc := 106) C e1 dX11_count_106 ?_
      obtain ⟨v4, e3, hf⟩ := xbd hf
      refine gf_X11_191 (pc := 109) C e3 dX11_count_109 ?_
      have hf := xsj hf
      subst hf
      exact ww_iret (pc := 112) C hk.1 dX11_count_112
    · refine ⟨113, 112, rfl, by decide, ?_⟩
      have hf := xsw_in 5 hk1 rfl hf
      refine ww_aload_n (pc := 113) C 0 dX11_count_113 rfl ?_
      obtain ⟨z2, e1, hf⟩ := xbd hf
      refine gf_X11_24 (pc := 114) C e1 dX11_count_114 ?_
      obtain ⟨_, e3, hf⟩ := xbd hf
      obtain ⟨v5, e4, hf⟩ := xbd hf
      refine ww_callVi (pc := 117) (as := []) (st := []) C (k_X3_countTies (l := gl G) (E := gE G) (hb := gB G) (σ := σ) e4) rfl (by decide) xc_X11_436 q1224 qp113 (xck_spec e3) rfl (by decide) (xst4 (Nat.le_of_ble_eq_true rfl)) xsame.rf.le xsame.rf.lim dX11_count_117 ?_
      have hf := xsj hf
      subst hf
      exact ww_iret (pc := 120) C hk.1 dX11_count_120
    · refine ⟨121, 120, rfl, by decide, ?_⟩
      have hf := xsw_in 6 hk1 rfl hf
      refine ww_aload_n (pc := 121) C 0 dX11_count_121 rfl ?_
      obtain ⟨z2, e1, hf⟩ := xbd hf
      refine gf_X11_20 (pc := 122) C e1 dX11_count_122 ?_
      obtain ⟨v4, e3, hf⟩ := xbd hf
      refine gf_X11_102 (pc := 125) C e3 dX11_count_125 ?_
      have hf := xsj hf
      subst hf
      exact ww_iret (pc := 128) C hk.1 dX11_count_128
    · refine ⟨129, 128, rfl, by decide, ?_⟩
      have hf := xsw_in 7 hk1 rfl hf
      refine ww_aload_n (pc := 129) C 0 dX11_count_129 rfl ?_
      obtain ⟨z2, e1, hf⟩ := xbd hf
      refine gf_X11_38 (pc := 130) C e1 dX11_count_130 ?_
      obtain ⟨v4, e3, hf⟩ := xbd hf
      refine gf_X11_439 (pc := 133) C e3 dX11_count_133 ?_
      have hf := xsj hf
      subst hf
      exact ww_iret (pc := 136) C hk.1 dX11_count_136
    · refine ⟨137, 136, rfl, by decide, ?_⟩
      have hf := xsw_in 8 hk1 rfl hf
      refine ww_aload_n (pc := 137) C 0 dX11_count_137 rfl ?_
      obtain ⟨_, e1, hf⟩ := xbd hf
      obtain ⟨v3, e2, hf⟩ := xbd hf
      refine ww_callVi (pc := 138) (as := []) (st := []) C (k_X11_countFullSlots (l := gl G) (E := gE G) (hb := gB G) (σ := σ) e2) rfl (by decide) xc_X11_440 q1228 qp114 (xck_spec e1) rfl (by decide) (xst4 (Nat.le_of_ble_eq_true rfl)) xsame.rf.le xsame.rf.lim dX11_count_138 ?_
      have hf := xsj hf
      subst hf
      exact ww_iret (pc := 141) C hk.1 dX11_count_141
    · refine ⟨142, 141, rfl, by decide, ?_⟩
      have hf := xsw_in 9 hk1 rfl hf
      refine ww_aload_n (pc := 142) C 0 dX11_count_142 rfl ?_
      obtain ⟨z2, e1, hf⟩ := xbd hf
      refine gf_X11_31 (pc := 143) C e1 dX11_count_143 ?_
      obtain ⟨v4, e3, hf⟩ := xbd hf
      refine gf_X11_443 (pc := 146) C e3 dX11_count_146 ?_
      have hf := xsj hf
      subst hf
      exact ww_iret (pc := 149) C hk.1 dX11_count_149
    · refine ⟨150, 149, rfl, by decide, ?_⟩
      have hf := xsw_in 10 hk1 rfl hf
      refine ww_aload_n (pc := 150) C 0 dX11_count_150 rfl ?_
      obtain ⟨z2, e1, hf⟩ := xbd hf
      refine gf_X11_24 (pc := 151) C e1 dX11_count_151 ?_
      refine ww_aload_n (pc := 154) C 0 dX11_count_154 rfl ?_
      obtain ⟨z4, e3, hf⟩ := xbd hf
      refine gf_X11_31 (pc := 155) C e3 dX11_count_155 ?_
      obtain ⟨v6, e5, hf⟩ := xbd hf
      refine gf_X11_144 (pc := 158) C e5 dX11_count_158 ?_
      obtain ⟨_, e7, hf⟩ := xbd hf
      obtain ⟨v9, e8, hf⟩ := xbd hf
      refine ww_callVi (pc := 161) (as := [.int v6]) (st := []) C (k_X3_countClusters (l := gl G) (E := gE G) (hb := gB G) (σ := σ) e8) rfl (by decide) xc_X11_446 q1232 qp115 (xck_spec e7) rfl (by decide) (xst4 (Nat.le_of_ble_eq_true rfl)) xsame.rf.le xsame.rf.lim dX11_count_161 ?_
      have hf := xsj hf
      subst hf
      exact ww_iret (pc := 164) C hk.1 dX11_count_164
    · refine ⟨165, 164, rfl, by decide, ?_⟩
      have hf := xsw_in 11 hk1 rfl hf
      refine ww_aload_n (pc := 165) C 0 dX11_count_165 rfl ?_
      obtain ⟨z2, e1, hf⟩ := xbd hf
      refine gf_X11_24 (pc := 166) C e1 dX11_count_166 ?_
      refine ww_aload_n (pc := 169) C 0 dX11_count_169 rfl ?_
      obtain ⟨z4, e3, hf⟩ := xbd hf
      refine gf_X11_31 (pc := 170) C e3 dX11_count_170 ?_
      obtain ⟨v6, e5, hf⟩ := xbd hf
      refine gf_X11_144 (pc := 173) C e5 dX11_count_173 ?_
      obtain ⟨_, e7, hf⟩ := xbd hf
      obtain ⟨v9, e8, hf⟩ := xbd hf
      refine ww_callVi (pc := 176) (as := [.int v6]) (st := []) C (k_X3_greatestCluster (l := gl G) (E := gE G) (hb := gB G) (σ := σ) e8) rfl (by decide) xc_X11_449 q1237 qp116 (xck_spec e7) rfl (by decide) (xst4 (Nat.le_of_ble_eq_true rfl)) xsame.rf.le xsame.rf.lim dX11_count_176 ?_
      have hf := xsj hf
      subst hf
      exact ww_iret (pc := 179) C hk.1 dX11_count_179
    · refine ⟨180, 179, rfl, by decide, ?_⟩
      have hf := xsw_in 12 hk1 rfl hf
      refine ww_aload_n (pc := 180) C 0 dX11_count_180 rfl ?_
      obtain ⟨z2, e1, hf⟩ := xbd hf
      refine gf_X11_24 (pc := 181) C e1 dX11_count_181 ?_
      obtain ⟨v4, e3, hf⟩ := xbd hf
      refine gf_X11_452 (pc := 184) C e3 dX11_count_184 ?_
      have hf := xsj hf
      subst hf
      exact ww_iret (pc := 187) C hk.1 dX11_count_187
    · refine ⟨188, 187, rfl, by decide, ?_⟩
      have hf := xsw_in 13 hk1 rfl hf
      refine ww_aload_n (pc := 188) C 0 dX11_count_188 rfl ?_
      obtain ⟨_, e1, hf⟩ := xbd hf
      obtain ⟨⟨z4, σ3⟩, e2, hf⟩ := xbd hf
      dsimp only at hf
      obtain ⟨_, e5, hf⟩ := xbd hf
      refine ww_callVr (pc := 189) (as := []) (st := []) C (k_X11_breaksNow (l := gl G) (E := gE G) (hb := gB G) (σ := σ) e2) rfl (by decide) xc_X11_279 q939 qp74 (xck_spec e1) rfl (by decide) (xst4 (Nat.le_of_ble_eq_true rfl)) (m_X11_breaksNow e2).1 (fun q => by have hm9 := m_X11_count_j192 hf; exact XLim.mid q (m_X11_breaksNow e2) hm9 hk.2) dX11_count_189 ?_
      refine ww_nn (xnz_spec e5) ?_
      refine ww_sub [] rfl ?_
      exact s_X11_count_j192 C hf hk
    · refine ⟨196, 195, rfl, by decide, ?_⟩
      have hf := xsw_in 14 hk1 rfl hf
      refine ww_aload_n (pc := 196) C 0 dX11_count_196 rfl ?_
      obtain ⟨z2, e1, hf⟩ := xbd hf
      refine gf_X11_24 (pc := 197) C e1 dX11_count_197 ?_
      refine ww_aload_n (pc := 200) C 0 dX11_count_200 rfl ?_
      obtain ⟨z4, e3, hf⟩ := xbd hf
      refine gf_X11_31 (pc := 201) C e3 dX11_count_201 ?_
      obtain ⟨_, e5, hf⟩ := xbd hf
      obtain ⟨v7, e6, hf⟩ := xbd hf
      refine ww_callVi (pc := 204) (as := [.ref (gB G + z4)]) (st := []) C (k_X3_countOddSquares (l := gl G) (E := gE G) (hb := gB G) (σ := σ) e6) rfl (by decide) xc_X11_456 q1249 qp118 (xck_spec e5) rfl (by decide) (xst4 (Nat.le_of_ble_eq_true rfl)) xsame.rf.le xsame.rf.lim dX11_count_204 ?_
      have hf := xsj hf
      subst hf
      exact ww_iret (pc := 207) C hk.1 dX11_count_207
  · refine ⟨208, by decide, ?_⟩
    have hf := xsw_out ho rfl hf
    refine ww_iconst (pc := 208) (v := (-1 : Int32)) C dX11_count_208 (by decide) ?_
    have hf := xsj hf
    subst hf
    exact ww_iret (pc := 209) C hk.1 dX11_count_209
theorem m_X11_count {σ : XS} {r0 : Nat} {x1 : Int32} {x : Int32 × XS} (hf : f_X11_count σ r0 x1 = some x) : xext σ x.2 := by
  have hm := xext.rf (σ := σ)
  by_cases ho : (x1).toInt < 0 ∨ 14 < (x1).toInt
  · have hf := xsw_out ho rfl hf
    have hf := xsj hf
    subst hf
    exact hm
  · rcases (by omega : (x1).toInt = 0 + ((0 : Nat) : Int) ∨ (x1).toInt = 0 + ((1 : Nat) : Int) ∨ (x1).toInt = 0 + ((2 : Nat) : Int) ∨ (x1).toInt = 0 + ((3 : Nat) : Int) ∨ (x1).toInt = 0 + ((4 : Nat) : Int) ∨ (x1).toInt = 0 + ((5 : Nat) : Int) ∨ (x1).toInt = 0 + ((6 : Nat) : Int) ∨ (x1).toInt = 0 + ((7 : Nat) : Int) ∨ (x1).toInt = 0 + ((8 : Nat) : Int) ∨ (x1).toInt = 0 + ((9 : Nat) : Int) ∨ (x1).toInt = 0 + ((10 : Nat) : Int) ∨ (x1).toInt = 0 + ((11 : Nat) : Int) ∨ (x1).toInt = 0 + ((12 : Nat) : Int) ∨ (x1).toInt = 0 + ((13 : Nat) : Int) ∨ (x1).toInt = 0 + ((14 : Nat) : Int)) with hk1 | hk1 | hk1 | hk1 | hk1 | hk1 | hk1 | hk1 | hk1 | hk1 | hk1 | hk1 | hk1 | hk1 | hk1
    · have hf := xsw_in 0 hk1 rfl hf
      obtain ⟨z2, e1, hf⟩ := xbd hf
      obtain ⟨v4, e3, hf⟩ := xbd hf
      have hf := xsj hf
      subst hf
      exact hm
    · have hf := xsw_in 1 hk1 rfl hf
      obtain ⟨z2, e1, hf⟩ := xbd hf
      obtain ⟨v4, e3, hf⟩ := xbd hf
      have hf := xsj hf
      subst hf
      exact hm
    · have hf := xsw_in 2 hk1 rfl hf
      obtain ⟨z2, e1, hf⟩ := xbd hf
      obtain ⟨v4, e3, hf⟩ := xbd hf
      have hf := xsj hf
      subst hf
      exact hm
    · have hf := xsw_in 3 hk1 rfl hf
      obtain ⟨_, e1, hf⟩ := xbd hf
      obtain ⟨v3, e2, hf⟩ := xbd hf
      have hf := xsj hf
      subst hf
      exact hm
    · have hf := xsw_in 4 hk1 rfl hf
      obtain ⟨z2, e1, hf⟩ := xbd hf
      obtain ⟨v4, e3, hf⟩ := xbd hf
      have hf := xsj hf
      subst hf
      exact hm
    · have hf := xsw_in 5 hk1 rfl hf
      obtain ⟨z2, e1, hf⟩ := xbd hf
      obtain ⟨_, e3, hf⟩ := xbd hf
      obtain ⟨v5, e4, hf⟩ := xbd hf
      have hf := xsj hf
      subst hf
      exact hm
    · have hf := xsw_in 6 hk1 rfl hf
      obtain ⟨z2, e1, hf⟩ := xbd hf
      obtain ⟨v4, e3, hf⟩ := xbd hf
      have hf := xsj hf
      subst hf
      exact hm
    · have hf := xsw_in 7 hk1 rfl hf
      obtain ⟨z2, e1, hf⟩ := xbd hf
      obtain ⟨v4, e3, hf⟩ := xbd hf
      have hf := xsj hf
      subst hf
      exact hm
    · have hf := xsw_in 8 hk1 rfl hf
      obtain ⟨_, e1, hf⟩ := xbd hf
      obtain ⟨v3, e2, hf⟩ := xbd hf
      have hf := xsj hf
      subst hf
      exact hm
    · have hf := xsw_in 9 hk1 rfl hf
      obtain ⟨z2, e1, hf⟩ := xbd hf
      obtain ⟨v4, e3, hf⟩ := xbd hf
      have hf := xsj hf
      subst hf
      exact hm
    · have hf := xsw_in 10 hk1 rfl hf
      obtain ⟨z2, e1, hf⟩ := xbd hf
      obtain ⟨z4, e3, hf⟩ := xbd hf
      obtain ⟨v6, e5, hf⟩ := xbd hf
      obtain ⟨_, e7, hf⟩ := xbd hf
      obtain ⟨v9, e8, hf⟩ := xbd hf
      have hf := xsj hf
      subst hf
      exact hm
    · have hf := xsw_in 11 hk1 rfl hf
      obtain ⟨z2, e1, hf⟩ := xbd hf
      obtain ⟨z4, e3, hf⟩ := xbd hf
      obtain ⟨v6, e5, hf⟩ := xbd hf
      obtain ⟨_, e7, hf⟩ := xbd hf
      obtain ⟨v9, e8, hf⟩ := xbd hf
      have hf := xsj hf
      subst hf
      exact hm
    · have hf := xsw_in 12 hk1 rfl hf
      obtain ⟨z2, e1, hf⟩ := xbd hf
      obtain ⟨v4, e3, hf⟩ := xbd hf
      have hf := xsj hf
      subst hf
      exact hm
    · have hf := xsw_in 13 hk1 rfl hf
      obtain ⟨_, e1, hf⟩ := xbd hf
      obtain ⟨⟨z4, σ3⟩, e2, hf⟩ := xbd hf
      dsimp only at hf
      have hm := hm.tr (m_X11_breaksNow e2)
      obtain ⟨_, e5, hf⟩ := xbd hf
      exact hm.tr (m_X11_count_j192 hf)
    · have hf := xsw_in 14 hk1 rfl hf
      obtain ⟨z2, e1, hf⟩ := xbd hf
      obtain ⟨z4, e3, hf⟩ := xbd hf
      obtain ⟨_, e5, hf⟩ := xbd hf
      obtain ⟨v7, e6, hf⟩ := xbd hf
      have hf := xsj hf
      subst hf
      exact hm
theorem k_X11_count {l : Launch} {E : XD} {hb : Nat} {σ : XS} {r0 : Nat} {x1 : Int32} {x : Int32 × XS} (h : f_X11_count σ r0 x1 = some x) : XM l yX11_count cX11_count 2 (some .int) 5 122 E hb [.ref (hb + r0), .int x1] σ (some (.int x.1)) x.2 := by
  refine xm_of (by decide) (Nat.le_of_ble_eq_true rfl) (m_X11_count h).1 (fun G hG C hl hQ => ?_)
  obtain ⟨rfl, rfl, rfl, hN⟩ := hG
  exact s_X11_count_e C h ⟨hQ, hl.2⟩
noncomputable def f_X11_countAlike_b15 (σ : XS) (r0 : Nat) (x1 : Int32) (x2 : Int32) (x3 : Int32) (x4 : Int32) : Int32 × Int32 → Option ((Int32 × Int32) ⊕ (Int32)) := fun a => match a with
  | (x5, x6) => if x4 ≤ x6 then ((some x5).map .inr) else (xgR σ r0 11 3).bind fun z2 => (xck σ z2 6).bind fun _ => (f_X6_allows σ z2 x6).bind fun v5 => if v5 = 0 then (some (.inl (x5, x6 + (1 : Int32)))) else (xgR σ r0 11 6).bind fun z7 => (xck σ z7 2).bind fun _ => (f_X2_of σ z7 x6).bind fun v10 => if v10 = x3 then ((f_X11_bitOf x6 x1).bind fun v12 => (f_X11_bitOf x6 x2).bind fun v14 => if v12 = v14 then (some (.inl (x5 + (1 : Int32), x6 + (1 : Int32)))) else some (.inl (x5, x6 + (1 : Int32)))) else some (.inl (x5, x6 + (1 : Int32)))
noncomputable def f_X11_countAlike (σ : XS) (r0 : Nat) (x1 : Int32) (x2 : Int32) (x3 : Int32) : Option Int32 := (xgR σ r0 11 2).bind fun z2 => (xck σ z2 3).bind fun _ => (f_X3_states σ z2).bind fun v5 => xloop (f_X11_countAlike_b15 σ r0 x1 x2 x3 v5) ((0 : Int32), (0 : Int32))
theorem s_X11_countAlike_l15 {G : XG} (C : XC G cX11_countAlike RX11 (some .int) 7 1 21) {σ : XS} {r0 : Nat} {x1 : Int32} {x2 : Int32} {x3 : Int32} {x4 : Int32} {a : Int32 × Int32} {x : Int32} (hf : xloop (f_X11_countAlike_b15 σ r0 x1 x2 x3 x4) a = some x) (hk : XEnd G (some (.int x)) σ) : WW G 15 [(0, .ref (gB G + r0)), (1, .int x1), (2, .int x2), (3, .int x3), (4, .int x4), (5, .int a.1), (6, .int a.2)] [] σ := by
  refine xloop_ind (P := fun a => WW G 15 [(0, .ref (gB G + r0)), (1, .int x1), (2, .int x2), (3, .int x3), (4, .int x4), (5, .int a.1), (6, .int a.2)] [] σ) (fun a y hf hc he => ?_) hf
  obtain ⟨x5, x6⟩ := a
  have hk : (∀ a' : Int32 × Int32, y = .inl a' → WW G 15 [(0, .ref (gB G + r0)), (1, .int x1), (2, .int x2), (3, .int x3), (4, .int x4), (5, .int a'.1), (6, .int a'.2)] [] σ) ∧ (∀ b1 : Int32, y = .inr b1 → XEnd G (some (.int b1)) σ) := ⟨hc, fun b e => by have h9 := he b e; subst h9; exact hk⟩
  refine ww_iload (pc := 15) C 6 dX11_countAlike_15 rfl ?_
  refine ww_iload (pc := 17) C 4 dX11_countAlike_17 rfl ?_
  refine ww_icmp_ge (pc := 19) (tgt := 71) C dX11_countAlike_19 (by decide) (fun q => ?_) (fun q => ?_)
  · have hf := xip q hf
    obtain ⟨b0, hg, e9⟩ := xmj hf
    subst e9
    have hf := hg
    have hk := hk.2 _ rfl
    refine ww_iload (pc := 71) C 5 dX11_countAlike_71 rfl ?_
    have hf := xsj hf
    subst hf
    exact ww_iret (pc := 73) C hk dX11_countAlike_73
  · have hf := xin q hf
    refine ww_aload_n (pc := 22) C 0 dX11_countAlike_22 rfl ?_
    obtain ⟨z2, e1, hf⟩ := xbd hf
    refine gf_X11_31 (pc := 23) C e1 dX11_countAlike_23 ?_
    refine ww_iload (pc := 26) C 6 dX11_countAlike_26 rfl ?_
    obtain ⟨_, e3, hf⟩ := xbd hf
    obtain ⟨v5, e4, hf⟩ := xbd hf
    refine ww_callVi (pc := 28) (as := [.int x6]) (st := []) C (k_X6_allows (l := gl G) (E := gE G) (hb := gB G) (σ := σ) e4) rfl (by decide) xc_X11_295 q890 qp65 (xck_spec e3) rfl (by decide) (xst4 (Nat.le_of_ble_eq_true rfl)) xsame.rf.le xsame.rf.lim dX11_countAlike_28 ?_
    refine ww_if_eq (pc := 31) (tgt := 65) C dX11_countAlike_31 (by decide) (fun q => ?_) (fun q => ?_)
    · have hf := xip q hf
      refine ww_iinc (pc := 65) (v := x6 + (1 : Int32)) (lv' := [(6, .int (x6 + (1 : Int32))), (0, .ref (gB G + r0)), (1, .int x1), (2, .int x2), (3, .int x3), (4, .int x4), (5, .int x5)]) C 6 dX11_countAlike_65 rfl (congrArg (fun z => x6 + z) (show Int32.ofInt (1) = (1 : Int32) by decide)) (by decide) rfl ?_
      refine ww_goto (pc := 68) (tgt := 15) C dX11_countAlike_68 (by decide) ?_
      have hf := xsj hf
      subst hf
      refine ww_sub [1, 2, 3, 4, 5, 6, 0] rfl ?_
      exact hk.1 (x5, x6 + (1 : Int32)) rfl
    · have hf := xin q hf
      refine ww_aload_n (pc := 34) C 0 dX11_countAlike_34 rfl ?_
      obtain ⟨z7, e6, hf⟩ := xbd hf
      refine gf_X11_52 (pc := 35) C e6 dX11_countAlike_35 ?_
      refine ww_iload (pc := 38) C 6 dX11_countAlike_38 rfl ?_
      obtain ⟨_, e8, hf⟩ := xbd hf
      obtain ⟨v10, e9, hf⟩ := xbd hf
      refine ww_callVi (pc := 40) (as := [.int x6]) (st := []) C (k_X2_of (l := gl G) (E := gE G) (hb := gB G) (σ := σ) e9) rfl (by decide) xc_X11_298 q880 qp64 (xck_spec e8) rfl (by decide) (xst4 (Nat.le_of_ble_eq_true rfl)) xsame.rf.le xsame.rf.lim dX11_countAlike_40 ?_
      refine ww_iload_n (pc := 43) C 3 dX11_countAlike_43 rfl ?_
      refine ww_icmp_ne (pc := 44) (tgt := 65) C dX11_countAlike_44 (by decide) (fun q => ?_) (fun q => ?_)
      · have hf := xin q hf
        refine ww_iinc (pc := 65) (v := x6 + (1 : Int32)) (lv' := [(6, .int (x6 + (1 : Int32))), (0, .ref (gB G + r0)), (1, .int x1), (2, .int x2), (3, .int x3), (4, .int x4), (5, .int x5)]) C 6 dX11_countAlike_65 rfl (congrArg (fun z => x6 + z) (show Int32.ofInt (1) = (1 : Int32) by decide)) (by decide) rfl ?_
        refine ww_goto (pc := 68) (tgt := 15) C dX11_countAlike_68 (by decide) ?_
        have hf := xsj hf
        subst hf
        refine ww_sub [1, 2, 3, 4, 5, 6, 0] rfl ?_
        exact hk.1 (x5, x6 + (1 : Int32)) rfl
      · have hf := xip q hf
        refine ww_iload (pc := 47) C 6 dX11_countAlike_47 rfl ?_
        refine ww_iload_n (pc := 49) C 1 dX11_countAlike_49 rfl ?_
        obtain ⟨v12, e11, hf⟩ := xbd hf
        refine ww_callSi (pc := 50) (as := [.int x6, .int x1]) (st := []) C (k_X11_bitOf (l := gl G) (E := gE G) (hb := gB G) (σ := σ) e11) xc_X11_236 q655 rfl (by decide) (xst4 (Nat.le_of_ble_eq_true rfl)) xsame.rf.le xsame.rf.lim dX11_countAlike_50 ?_
        refine ww_iload (pc := 53) C 6 dX11_countAlike_53 rfl ?_
        refine ww_iload_n (pc := 55) C 2 dX11_countAlike_55 rfl ?_
        obtain ⟨v14, e13, hf⟩ := xbd hf
        refine ww_callSi (pc := 56) (as := [.int x6, .int x2]) (st := [.int v12]) C (k_X11_bitOf (l := gl G) (E := gE G) (hb := gB G) (σ := σ) e13) xc_X11_236 q655 rfl (by decide) (xst4 (Nat.le_of_ble_eq_true rfl)) xsame.rf.le xsame.rf.lim dX11_countAlike_56 ?_
        refine ww_icmp_ne (pc := 59) (tgt := 65) C dX11_countAlike_59 (by decide) (fun q => ?_) (fun q => ?_)
        · have hf := xin q hf
          refine ww_iinc (pc := 65) (v := x6 + (1 : Int32)) (lv' := [(6, .int (x6 + (1 : Int32))), (0, .ref (gB G + r0)), (1, .int x1), (2, .int x2), (3, .int x3), (4, .int x4), (5, .int x5)]) C 6 dX11_countAlike_65 rfl (congrArg (fun z => x6 + z) (show Int32.ofInt (1) = (1 : Int32) by decide)) (by decide) rfl ?_
          refine ww_goto (pc := 68) (tgt := 15) C dX11_countAlike_68 (by decide) ?_
          have hf := xsj hf
          subst hf
          refine ww_sub [1, 2, 3, 4, 5, 6, 0] rfl ?_
          exact hk.1 (x5, x6 + (1 : Int32)) rfl
        · have hf := xip q hf
          refine ww_iinc (pc := 62) (v := x5 + (1 : Int32)) (lv' := [(5, .int (x5 + (1 : Int32))), (0, .ref (gB G + r0)), (1, .int x1), (2, .int x2), (3, .int x3), (4, .int x4), (6, .int x6)]) C 5 dX11_countAlike_62 rfl (congrArg (fun z => x5 + z) (show Int32.ofInt (1) = (1 : Int32) by decide)) (by decide) rfl ?_
          refine ww_iinc (pc := 65) (v := x6 + (1 : Int32)) (lv' := [(6, .int (x6 + (1 : Int32))), (5, .int (x5 + (1 : Int32))), (0, .ref (gB G + r0)), (1, .int x1), (2, .int x2), (3, .int x3), (4, .int x4)]) C 6 dX11_countAlike_65 rfl (congrArg (fun z => x6 + z) (show Int32.ofInt (1) = (1 : Int32) by decide)) (by decide) rfl ?_
          refine ww_goto (pc := 68) (tgt := 15) C dX11_countAlike_68 (by decide) ?_
          have hf := xsj hf
          subst hf
          refine ww_sub [2, 3, 4, 5, 6, 1, 0] rfl ?_
          exact hk.1 (x5 + (1 : Int32), x6 + (1 : Int32)) rfl
theorem s_X11_countAlike_e {G : XG} (C : XC G cX11_countAlike RX11 (some .int) 7 1 21) {σ : XS} {r0 : Nat} {x1 : Int32} {x2 : Int32} {x3 : Int32} {x : Int32} (hf : f_X11_countAlike σ r0 x1 x2 x3 = some x) (hk : XEnd G (some (.int x)) σ) : WW G 0 [(0, .ref (gB G + r0)), (1, .int x1), (2, .int x2), (3, .int x3)] [] σ := by
  refine ww_aload_n (pc := 0) C 0 dX11_countAlike_0 rfl ?_
  obtain ⟨z2, e1, hf⟩ := xbd hf
  refine gf_X11_24 (pc := 1) C e1 dX11_countAlike_1 ?_
  obtain ⟨_, e3, hf⟩ := xbd hf
  obtain ⟨v5, e4, hf⟩ := xbd hf
  refine ww_callVi (pc := 4) (as := []) (st := []) C (k_X3_states (l := gl G) (E := gE G) (hb := gB G) (σ := σ) e4) rfl (by decide) xc_X11_291 q871 qp62 (xck_spec e3) rfl (by decide) (xst4 (Nat.le_of_ble_eq_true rfl)) xsame.rf.le xsame.rf.lim dX11_countAlike_4 ?_
  refine ww_istore (pc := 7) (lv' := [(4, .int v5), (0, .ref (gB G + r0)), (1, .int x1), (2, .int x2), (3, .int x3)]) C dX11_countAlike_7 (by decide) rfl ?_
  refine ww_iconst (pc := 9) (v := (0 : Int32)) C dX11_countAlike_9 (by decide) ?_
  refine ww_istore (pc := 10) (lv' := [(5, .int (0 : Int32)), (4, .int v5), (0, .ref (gB G + r0)), (1, .int x1), (2, .int x2), (3, .int x3)]) C dX11_countAlike_10 (by decide) rfl ?_
  refine ww_iconst (pc := 12) (v := (0 : Int32)) C dX11_countAlike_12 (by decide) ?_
  refine ww_istore (pc := 13) (lv' := [(6, .int (0 : Int32)), (5, .int (0 : Int32)), (4, .int v5), (0, .ref (gB G + r0)), (1, .int x1), (2, .int x2), (3, .int x3)]) C dX11_countAlike_13 (by decide) rfl ?_
  refine ww_sub [3, 4, 5, 6, 2, 1, 0] rfl ?_
  exact s_X11_countAlike_l15 C (a := ((0 : Int32), (0 : Int32))) hf hk
theorem k_X11_countAlike {l : Launch} {E : XD} {hb : Nat} {σ : XS} {r0 : Nat} {x1 : Int32} {x2 : Int32} {x3 : Int32} {x : Int32} (h : f_X11_countAlike σ r0 x1 x2 x3 = some x) : XM l yX11_countAlike cX11_countAlike 7 (some .int) 1 21 E hb [.ref (hb + r0), .int x1, .int x2, .int x3] σ (some (.int x)) σ := by
  refine xm_of (by decide) (Nat.le_of_ble_eq_true rfl) ⟨Nat.le_refl _, Nat.le_refl _⟩ (fun G hG C hl hQ => ?_)
  obtain ⟨rfl, rfl, rfl, hN⟩ := hG
  exact s_X11_countAlike_e C h hQ
noncomputable def f_X11_countJoinedLevels_b4 (σ : XS) (r0 : Nat) : Int32 × Int32 → Option ((Int32 × Int32) ⊕ (Int32)) := fun a => match a with
  | (x1, x2) => (xgR σ r0 11 12).bind fun z2 => (xal σ z2).bind fun v4 => if v4 ≤ x2 then ((some x1).map .inr) else (xgR σ r0 11 12).bind fun z6 => (xaL σ z6 x2).bind fun v8 => if (lg_cmp v8 (0 : Int64)) = 0 then (some (.inl (x1, x2 + (1 : Int32)))) else some (.inl (x1 + (1 : Int32), x2 + (1 : Int32)))
noncomputable def f_X11_countJoinedLevels (σ : XS) (r0 : Nat) : Option Int32 := xloop (f_X11_countJoinedLevels_b4 σ r0) ((0 : Int32), (0 : Int32))
theorem s_X11_countJoinedLevels_l4 {G : XG} (C : XC G cX11_countJoinedLevels RX11 (some .int) 3 0 0) {σ : XS} {r0 : Nat} {a : Int32 × Int32} {x : Int32} (hf : xloop (f_X11_countJoinedLevels_b4 σ r0) a = some x) (hk : XEnd G (some (.int x)) σ) : WW G 4 [(0, .ref (gB G + r0)), (1, .int a.1), (2, .int a.2)] [] σ := by
  refine xloop_ind (P := fun a => WW G 4 [(0, .ref (gB G + r0)), (1, .int a.1), (2, .int a.2)] [] σ) (fun a y hf hc he => ?_) hf
  obtain ⟨x1, x2⟩ := a
  have hk : (∀ a' : Int32 × Int32, y = .inl a' → WW G 4 [(0, .ref (gB G + r0)), (1, .int a'.1), (2, .int a'.2)] [] σ) ∧ (∀ b1 : Int32, y = .inr b1 → XEnd G (some (.int b1)) σ) := ⟨hc, fun b e => by have h9 := he b e; subst h9; exact hk⟩
  refine ww_iload_n (pc := 4) C 2 dX11_countJoinedLevels_4 rfl ?_
  refine ww_aload_n (pc := 5) C 0 dX11_countJoinedLevels_5 rfl ?_
  obtain ⟨z2, e1, hf⟩ := xbd hf
  refine gf_X11_87 (pc := 6) C e1 dX11_countJoinedLevels_6 ?_
  obtain ⟨v4, e3, hf⟩ := xbd hf
  refine ww_alen (pc := 9) C e3 dX11_countJoinedLevels_9 ?_
  refine ww_icmp_ge (pc := 10) (tgt := 33) C dX11_countJoinedLevels_10 (by decide) (fun q => ?_) (fun q => ?_)
  · have hf := xip q hf
    obtain ⟨b0, hg, e9⟩ := xmj hf
    subst e9
    have hf := hg
    have hk := hk.2 _ rfl
    refine ww_iload_n (pc := 33) C 1 dX11_countJoinedLevels_33 rfl ?_
    have hf := xsj hf
    subst hf
    exact ww_iret (pc := 34) C hk dX11_countJoinedLevels_34
  · have hf := xin q hf
    refine ww_aload_n (pc := 13) C 0 dX11_countJoinedLevels_13 rfl ?_
    obtain ⟨z6, e5, hf⟩ := xbd hf
    refine gf_X11_87 (pc := 14) C e5 dX11_countJoinedLevels_14 ?_
    refine ww_iload_n (pc := 17) C 2 dX11_countJoinedLevels_17 rfl ?_
    obtain ⟨v8, e7, hf⟩ := xbd hf
    refine ww_lald (pc := 18) C e7 dX11_countJoinedLevels_18 ?_
    refine ww_lconst (pc := 19) (v := (0 : Int64)) C dX11_countJoinedLevels_19 (by decide) ?_
    refine ww_lcmp (pc := 20) C dX11_countJoinedLevels_20 ?_
    refine ww_if_eq (pc := 21) (tgt := 27) C dX11_countJoinedLevels_21 (by decide) (fun q => ?_) (fun q => ?_)
    · have hf := xip q hf
      refine ww_iinc (pc := 27) (v := x2 + (1 : Int32)) (lv' := [(2, .int (x2 + (1 : Int32))), (0, .ref (gB G + r0)), (1, .int x1)]) C 2 dX11_countJoinedLevels_27 rfl (congrArg (fun z => x2 + z) (show Int32.ofInt (1) = (1 : Int32) by decide)) (by decide) rfl ?_
      refine ww_goto (pc := 30) (tgt := 4) C dX11_countJoinedLevels_30 (by decide) ?_
      have hf := xsj hf
      subst hf
      refine ww_sub [1, 2, 0] rfl ?_
      exact hk.1 (x1, x2 + (1 : Int32)) rfl
    · have hf := xin q hf
      refine ww_iinc (pc := 24) (v := x1 + (1 : Int32)) (lv' := [(1, .int (x1 + (1 : Int32))), (0, .ref (gB G + r0)), (2, .int x2)]) C 1 dX11_countJoinedLevels_24 rfl (congrArg (fun z => x1 + z) (show Int32.ofInt (1) = (1 : Int32) by decide)) (by decide) rfl ?_
      refine ww_iinc (pc := 27) (v := x2 + (1 : Int32)) (lv' := [(2, .int (x2 + (1 : Int32))), (1, .int (x1 + (1 : Int32))), (0, .ref (gB G + r0))]) C 2 dX11_countJoinedLevels_27 rfl (congrArg (fun z => x2 + z) (show Int32.ofInt (1) = (1 : Int32) by decide)) (by decide) rfl ?_
      refine ww_goto (pc := 30) (tgt := 4) C dX11_countJoinedLevels_30 (by decide) ?_
      have hf := xsj hf
      subst hf
      refine ww_sub [2, 1, 0] rfl ?_
      exact hk.1 (x1 + (1 : Int32), x2 + (1 : Int32)) rfl
theorem s_X11_countJoinedLevels_e {G : XG} (C : XC G cX11_countJoinedLevels RX11 (some .int) 3 0 0) {σ : XS} {r0 : Nat} {x : Int32} (hf : f_X11_countJoinedLevels σ r0 = some x) (hk : XEnd G (some (.int x)) σ) : WW G 0 [(0, .ref (gB G + r0))] [] σ := by
  refine ww_iconst (pc := 0) (v := (0 : Int32)) C dX11_countJoinedLevels_0 (by decide) ?_
  refine ww_istore_n (pc := 1) (lv' := [(1, .int (0 : Int32)), (0, .ref (gB G + r0))]) C dX11_countJoinedLevels_1 (by decide) rfl ?_
  refine ww_iconst (pc := 2) (v := (0 : Int32)) C dX11_countJoinedLevels_2 (by decide) ?_
  refine ww_istore_n (pc := 3) (lv' := [(2, .int (0 : Int32)), (1, .int (0 : Int32)), (0, .ref (gB G + r0))]) C dX11_countJoinedLevels_3 (by decide) rfl ?_
  refine ww_sub [2, 1, 0] rfl ?_
  exact s_X11_countJoinedLevels_l4 C (a := ((0 : Int32), (0 : Int32))) hf hk
theorem k_X11_countJoinedLevels {l : Launch} {E : XD} {hb : Nat} {σ : XS} {r0 : Nat} {x : Int32} (h : f_X11_countJoinedLevels σ r0 = some x) : XM l yX11_countJoinedLevels cX11_countJoinedLevels 3 (some .int) 0 0 E hb [.ref (hb + r0)] σ (some (.int x)) σ := by
  refine xm_of (by decide) (Nat.le_of_ble_eq_true rfl) ⟨Nat.le_refl _, Nat.le_refl _⟩ (fun G hG C hl hQ => ?_)
  obtain ⟨rfl, rfl, rfl, hN⟩ := hG
  exact s_X11_countJoinedLevels_e C h hQ
noncomputable def f_X11_countWays_b17 (r1 : Nat) (r2 : Nat) (r3 : Nat) (x4 : Int32) : Int32 × XS → Option ((Int32 × XS) ⊕ (XS)) := fun a => match a with
  | (x5, σ) => if x4 ≤ x5 then ((some σ).map .inr) else (xck σ r2 2).bind fun _ => (f_X2_of σ r2 x5).bind fun v3 => (xck σ r3 6).bind fun _ => (f_X6_allows σ r3 x5).bind fun v6 => if v6 = 0 then (some (.inl (x5 + (1 : Int32), σ))) else if (v3 + (144 : Int32)) < 0 then (some (.inl (x5 + (1 : Int32), σ))) else (xal σ r1).bind fun v8 => if v8 ≤ (v3 + (144 : Int32)) then (some (.inl (x5 + (1 : Int32), σ))) else (xaI σ 20 r1 (v3 + (144 : Int32))).bind fun v10 => (xsI σ 20 r1 (v3 + (144 : Int32)) (v10 + (1 : Int32))).bind fun σ12 => some (.inl (x5 + (1 : Int32), σ12))
noncomputable def f_X11_countWays (σ : XS) (r0 : Nat) (r1 : Nat) (r2 : Nat) (r3 : Nat) : Option XS := (xgR σ r0 11 2).bind fun z2 => (xck σ z2 3).bind fun _ => (f_X3_states σ z2).bind fun v5 => (f_J7_fill_53178 σ r1 (0 : Int32)).bind fun σ7 => xloop (f_X11_countWays_b17 r1 r2 r3 v5) ((0 : Int32), σ7)
theorem m_X11_countWays_l17 {r1 : Nat} {r2 : Nat} {r3 : Nat} {x4 : Int32} {a : Int32 × XS} {x : XS} (hf : xloop (f_X11_countWays_b17 r1 r2 r3 x4) a = some x) : xsame a.2 x := by
  refine xloop_ind (P := fun a => xsame a.2 x) (fun a y hf hc he => ?_) hf
  obtain ⟨x5, σ⟩ := a
  have hy : (∀ a' : Int32 × XS, y = .inl a' → xsame σ a'.2) ∧ (∀ b1 : XS, y = .inr b1 → xsame σ b1) := by
    have hm := xsame.rf (σ := σ)
    by_cases q : x4 ≤ x5
    · have hf := xip q hf
      obtain ⟨b0, hg, e9⟩ := xmj hf
      subst e9
      have hf := hg
      refine ⟨fun a' e => xnc2 e, fun b e => ?_⟩
      have h9 := Sum.inr.inj e
      subst h9
      have hf := xsj hf
      subst hf
      exact hm
    · have hf := xin q hf
      obtain ⟨_, e1, hf⟩ := xbd hf
      obtain ⟨v3, e2, hf⟩ := xbd hf
      obtain ⟨_, e4, hf⟩ := xbd hf
      obtain ⟨v6, e5, hf⟩ := xbd hf
      by_cases q : v6 = 0
      · have hf := xip q hf
        have hf := xsj hf
        subst hf
        exact ⟨fun a' e => (by have h9 := Sum.inl.inj e; subst h9; exact hm), fun b e => xnc1 e⟩
      · have hf := xin q hf
        by_cases q : (v3 + (144 : Int32)) < 0
        · have hf := xip q hf
          have hf := xsj hf
          subst hf
          exact ⟨fun a' e => (by have h9 := Sum.inl.inj e; subst h9; exact hm), fun b e => xnc1 e⟩
        · have hf := xin q hf
          obtain ⟨v8, e7, hf⟩ := xbd hf
          by_cases q : v8 ≤ (v3 + (144 : Int32))
          · have hf := xip q hf
            have hf := xsj hf
            subst hf
            exact ⟨fun a' e => (by have h9 := Sum.inl.inj e; subst h9; exact hm), fun b e => xnc1 e⟩
          · have hf := xin q hf
            obtain ⟨v10, e9, hf⟩ := xbd hf
            obtain ⟨σ12, e11, hf⟩ := xbd hf
            have hm := hm.tr (xsI_same e11)
            have hf := xsj hf
            subst hf
            exact ⟨fun a' e => (by have h9 := Sum.inl.inj e; subst h9; exact hm), fun b e => xnc1 e⟩
  cases y with
  | inl a' =>
    have h1 := hc a' rfl
    have hm := hy.1 a' rfl
    exact hm.tr (h1)
  | inr b =>
    have h1 := he b rfl
    subst h1
    exact hy.2 _ rfl
theorem s_X11_countWays_l17 {G : XG} (C : XC G cX11_countWays RX11 none 7 1 23) {r1 : Nat} {r2 : Nat} {r3 : Nat} {x4 : Int32} {a : Int32 × XS} {x : XS} (hf : xloop (f_X11_countWays_b17 r1 r2 r3 x4) a = some x) (hk : XEnd G none x) : WW G 17 [(1, .ref (gB G + r1)), (2, .ref (gB G + r2)), (3, .ref (gB G + r3)), (4, .int x4), (5, .int a.1)] [] a.2 := by
  refine xloop_ind (P := fun a => WW G 17 [(1, .ref (gB G + r1)), (2, .ref (gB G + r2)), (3, .ref (gB G + r3)), (4, .int x4), (5, .int a.1)] [] a.2) (fun a y hf hc he => ?_) hf
  obtain ⟨x5, σ⟩ := a
  have hk : (∀ a' : Int32 × XS, y = .inl a' → WW G 17 [(1, .ref (gB G + r1)), (2, .ref (gB G + r2)), (3, .ref (gB G + r3)), (4, .int x4), (5, .int a'.1)] [] a'.2) ∧ (∀ b1 : XS, y = .inr b1 → XEnd G none b1) := ⟨hc, fun b e => by have h9 := he b e; subst h9; exact hk⟩
  refine ww_iload (pc := 17) C 4 dX11_countWays_17 rfl ?_
  refine ww_iload (pc := 19) C 3 dX11_countWays_19 rfl ?_
  refine ww_icmp_ge (pc := 21) (tgt := 71) C dX11_countWays_21 (by decide) (fun q => ?_) (fun q => ?_)
  · have hf := xip q hf
    obtain ⟨b0, hg, e9⟩ := xmj hf
    subst e9
    have hf := hg
    have hk := hk.2 _ rfl
    have hf := xsj hf
    subst hf
    exact ww_vret (pc := 71) C hk dX11_countWays_71
  · have hf := xin q hf
    refine ww_aload_n (pc := 24) C 1 dX11_countWays_24 rfl ?_
    refine ww_iload (pc := 25) C 4 dX11_countWays_25 rfl ?_
    obtain ⟨_, e1, hf⟩ := xbd hf
    obtain ⟨v3, e2, hf⟩ := xbd hf
    refine ww_callVi (pc := 27) (as := [.int x5]) (st := []) C (k_X2_of (l := gl G) (E := gE G) (hb := gB G) (σ := σ) e2) rfl (by decide) xc_X11_298 q880 qp64 (xck_spec e1) rfl (by decide) (xst4 (Nat.le_of_ble_eq_true rfl)) xsame.rf.le xsame.rf.lim dX11_countWays_27 ?_
    refine ww_sipush (pc := 30) (v := (144 : Int32)) C dX11_countWays_30 (by decide) ?_
    refine ww_iadd (pc := 33) C dX11_countWays_33 ?_
    refine ww_istore (pc := 34) (lv' := [(6, .int (v3 + (144 : Int32))), (1, .ref (gB G + r1)), (2, .ref (gB G + r2)), (3, .ref (gB G + r3)), (4, .int x4), (5, .int x5)]) C dX11_countWays_34 (by decide) rfl ?_
    refine ww_aload_n (pc := 36) C 3 dX11_countWays_36 rfl ?_
    refine ww_iload (pc := 37) C 5 dX11_countWays_37 rfl ?_
    obtain ⟨_, e4, hf⟩ := xbd hf
    obtain ⟨v6, e5, hf⟩ := xbd hf
    refine ww_callVi (pc := 39) (as := [.int x5]) (st := []) C (k_X6_allows (l := gl G) (E := gE G) (hb := gB G) (σ := σ) e5) rfl (by decide) xc_X11_295 q890 qp65 (xck_spec e4) rfl (by decide) (xst4 (Nat.le_of_ble_eq_true rfl)) xsame.rf.le xsame.rf.lim dX11_countWays_39 ?_
    refine ww_if_eq (pc := 42) (tgt := 65) C dX11_countWays_42 (by decide) (fun q => ?_) (fun q => ?_)
    · have hf := xip q hf
      refine ww_iinc (pc := 65) (v := x5 + (1 : Int32)) (lv' := [(5, .int (x5 + (1 : Int32))), (6, .int (v3 + (144 : Int32))), (1, .ref (gB G + r1)), (2, .ref (gB G + r2)), (3, .ref (gB G + r3)), (4, .int x4)]) C 5 dX11_countWays_65 rfl (congrArg (fun z => x5 + z) (show Int32.ofInt (1) = (1 : Int32) by decide)) (by decide) rfl ?_
      refine ww_goto (pc := 68) (tgt := 17) C dX11_countWays_68 (by decide) ?_
      have hf := xsj hf
      subst hf
      refine ww_sub [2, 3, 4, 5, 0] rfl ?_
      exact hk.1 (x5 + (1 : Int32), σ) rfl
    · have hf := xin q hf
      refine ww_iload (pc := 45) C 0 dX11_countWays_45 rfl ?_
      refine ww_if_lt (pc := 47) (tgt := 65) C dX11_countWays_47 (by decide) (fun q => ?_) (fun q => ?_)
      · have hf := xip q hf
        refine ww_iinc (pc := 65) (v := x5 + (1 : Int32)) (lv' := [(5, .int (x5 + (1 : Int32))), (6, .int (v3 + (144 : Int32))), (1, .ref (gB G + r1)), (2, .ref (gB G + r2)), (3, .ref (gB G + r3)), (4, .int x4)]) C 5 dX11_countWays_65 rfl (congrArg (fun z => x5 + z) (show Int32.ofInt (1) = (1 : Int32) by decide)) (by decide) rfl ?_
        refine ww_goto (pc := 68) (tgt := 17) C dX11_countWays_68 (by decide) ?_
        have hf := xsj hf
        subst hf
        refine ww_sub [2, 3, 4, 5, 0] rfl ?_
        exact hk.1 (x5 + (1 : Int32), σ) rfl
      · have hf := xin q hf
        refine ww_iload (pc := 50) C 0 dX11_countWays_50 rfl ?_
        refine ww_aload_n (pc := 52) C 1 dX11_countWays_52 rfl ?_
        obtain ⟨v8, e7, hf⟩ := xbd hf
        refine ww_alen (pc := 53) C e7 dX11_countWays_53 ?_
        refine ww_icmp_ge (pc := 54) (tgt := 65) C dX11_countWays_54 (by decide) (fun q => ?_) (fun q => ?_)
        · have hf := xip q hf
          refine ww_iinc (pc := 65) (v := x5 + (1 : Int32)) (lv' := [(5, .int (x5 + (1 : Int32))), (6, .int (v3 + (144 : Int32))), (1, .ref (gB G + r1)), (2, .ref (gB G + r2)), (3, .ref (gB G + r3)), (4, .int x4)]) C 5 dX11_countWays_65 rfl (congrArg (fun z => x5 + z) (show Int32.ofInt (1) = (1 : Int32) by decide)) (by decide) rfl ?_
          refine ww_goto (pc := 68) (tgt := 17) C dX11_countWays_68 (by decide) ?_
          have hf := xsj hf
          subst hf
          refine ww_sub [2, 3, 4, 5, 0] rfl ?_
          exact hk.1 (x5 + (1 : Int32), σ) rfl
        · have hf := xin q hf
          refine ww_aload_n (pc := 57) C 1 dX11_countWays_57 rfl ?_
          refine ww_iload (pc := 58) C 0 dX11_countWays_58 rfl ?_
          refine ww_dup2 (pc := 60) C dX11_countWays_60 rfl rfl ?_
          obtain ⟨v10, e9, hf⟩ := xbd hf
          refine ww_iald (pc := 61) C e9 dX11_countWays_61 ?_
          refine ww_iconst (pc := 62) (v := (1 : Int32)) C dX11_countWays_62 (by decide) ?_
          refine ww_iadd (pc := 63) C dX11_countWays_63 ?_
          obtain ⟨σ12, e11, hf⟩ := xbd hf
          refine ww_iast (pc := 64) C e11 dX11_countWays_64 ?_
          refine ww_iinc (pc := 65) (v := x5 + (1 : Int32)) (lv' := [(5, .int (x5 + (1 : Int32))), (6, .int (v3 + (144 : Int32))), (1, .ref (gB G + r1)), (2, .ref (gB G + r2)), (3, .ref (gB G + r3)), (4, .int x4)]) C 5 dX11_countWays_65 rfl (congrArg (fun z => x5 + z) (show Int32.ofInt (1) = (1 : Int32) by decide)) (by decide) rfl ?_
          refine ww_goto (pc := 68) (tgt := 17) C dX11_countWays_68 (by decide) ?_
          have hf := xsj hf
          subst hf
          refine ww_sub [2, 3, 4, 5, 0] rfl ?_
          exact hk.1 (x5 + (1 : Int32), σ12) rfl
theorem s_X11_countWays_e {G : XG} (C : XC G cX11_countWays RX11 none 7 1 23) {σ : XS} {r0 : Nat} {r1 : Nat} {r2 : Nat} {r3 : Nat} {x : XS} (hf : f_X11_countWays σ r0 r1 r2 r3 = some x) (hk : XEnd G none x) : WW G 0 [(0, .ref (gB G + r0)), (1, .ref (gB G + r1)), (2, .ref (gB G + r2)), (3, .ref (gB G + r3))] [] σ := by
  refine ww_aload_n (pc := 0) C 0 dX11_countWays_0 rfl ?_
  obtain ⟨z2, e1, hf⟩ := xbd hf
  refine gf_X11_24 (pc := 1) C e1 dX11_countWays_1 ?_
  obtain ⟨_, e3, hf⟩ := xbd hf
  obtain ⟨v5, e4, hf⟩ := xbd hf
  refine ww_callVi (pc := 4) (as := []) (st := []) C (k_X3_states (l := gl G) (E := gE G) (hb := gB G) (σ := σ) e4) rfl (by decide) xc_X11_291 q871 qp62 (xck_spec e3) rfl (by decide) (xst4 (Nat.le_of_ble_eq_true rfl)) xsame.rf.le xsame.rf.lim dX11_countWays_4 ?_
  refine ww_istore (pc := 7) (lv' := [(4, .int v5), (0, .ref (gB G + r0)), (1, .ref (gB G + r1)), (2, .ref (gB G + r2)), (3, .ref (gB G + r3))]) C dX11_countWays_7 (by decide) rfl ?_
  refine ww_aload_n (pc := 9) C 2 dX11_countWays_9 rfl ?_
  refine ww_iconst (pc := 10) (v := (0 : Int32)) C dX11_countWays_10 (by decide) ?_
  obtain ⟨σ7, e6, hf⟩ := xbd hf
  refine ww_callSv (pc := 11) (as := [.ref (gB G + r1), .int (0 : Int32)]) (st := []) C (k_J7_fill_53178 (l := gl G) (E := gE G) (hb := gB G) (σ := σ) e6) xc_X11_354 q174 rfl (by decide) (xst4 (Nat.le_of_ble_eq_true rfl)) (m_J7_fill_53178 e6).le (m_J7_fill_53178 e6).lim dX11_countWays_11 ?_
  refine ww_iconst (pc := 14) (v := (0 : Int32)) C dX11_countWays_14 (by decide) ?_
  refine ww_istore (pc := 15) (lv' := [(5, .int (0 : Int32)), (4, .int v5), (0, .ref (gB G + r0)), (1, .ref (gB G + r1)), (2, .ref (gB G + r2)), (3, .ref (gB G + r3))]) C dX11_countWays_15 (by decide) rfl ?_
  refine ww_sub [3, 4, 5, 1, 0] rfl ?_
  exact s_X11_countWays_l17 C (a := ((0 : Int32), σ7)) hf hk
theorem m_X11_countWays {σ : XS} {r0 : Nat} {r1 : Nat} {r2 : Nat} {r3 : Nat} {x : XS} (hf : f_X11_countWays σ r0 r1 r2 r3 = some x) : xsame σ x := by
  have hm := xsame.rf (σ := σ)
  obtain ⟨z2, e1, hf⟩ := xbd hf
  obtain ⟨_, e3, hf⟩ := xbd hf
  obtain ⟨v5, e4, hf⟩ := xbd hf
  obtain ⟨σ7, e6, hf⟩ := xbd hf
  have hm := hm.tr (m_J7_fill_53178 e6)
  exact hm.tr (m_X11_countWays_l17 (a := ((0 : Int32), σ7)) hf)
theorem k_X11_countWays {l : Launch} {E : XD} {hb : Nat} {σ : XS} {r0 : Nat} {r1 : Nat} {r2 : Nat} {r3 : Nat} {x : XS} (h : f_X11_countWays σ r0 r1 r2 r3 = some x) : XM l yX11_countWays cX11_countWays 7 none 1 23 E hb [.ref (hb + r0), .ref (hb + r1), .ref (hb + r2), .ref (hb + r3)] σ none x := by
  refine xm_of (by decide) (Nat.le_of_ble_eq_true rfl) (m_X11_countWays h).le (fun G hG C hl hQ => ?_)
  obtain ⟨rfl, rfl, rfl, hN⟩ := hG
  exact s_X11_countWays_e C h hQ
noncomputable def f_X9_waysFrom_b8 (σ : XS) (r0 : Nat) (x1 : Int32) : Int64 × Int32 × Int32 → Option ((Int64 × Int32 × Int32) ⊕ (Int64)) := fun a => match a with
  | (w2, x4, x5) => (xgI σ r0 9 7).bind fun v2 => if v2 ≤ x5 then ((if x4 = 0 then (some w2) else some (1 : Int64)).map .inr) else (xck σ r0 9).bind fun _ => (f_X9_canTurn σ r0 x5).bind fun v5 => if v5 = 0 then (some (.inl (w2, x4, x5 + (1 : Int32)))) else (f_X9_isState (x1 ^^^ ((1 : Int32) <<< (x5 &&& 31)))).bind fun v7 => if v7 = 0 then (some (.inl (w2, x4, x5 + (1 : Int32)))) else (xck σ r0 9).bind fun _ => (f_X9_energyOf σ r0 (x1 ^^^ ((1 : Int32) <<< (x5 &&& 31)))).bind fun v10 => (xck σ r0 9).bind fun _ => (f_X9_energyOf σ r0 x1).bind fun v13 => if v13 ≤ v10 then (some (.inl (w2, x4, x5 + (1 : Int32)))) else (xgR σ r0 9 4).bind fun z15 => (xaL σ z15 (x1 ^^^ ((1 : Int32) <<< (x5 &&& 31)))).bind fun v17 => some (.inl (w2 + v17, (0 : Int32), x5 + (1 : Int32)))
noncomputable def f_X9_waysFrom (σ : XS) (r0 : Nat) (x1 : Int32) : Option Int64 := xloop (f_X9_waysFrom_b8 σ r0 x1) ((0 : Int64), (1 : Int32), (0 : Int32))
theorem s_X9_waysFrom_l8 {G : XG} (C : XC G cX9_waysFrom RX9 (some .long) 7 3 63) {σ : XS} {r0 : Nat} {x1 : Int32} {a : Int64 × Int32 × Int32} {x : Int64} (hf : xloop (f_X9_waysFrom_b8 σ r0 x1) a = some x) (hk : XEnd G (some (.long x)) σ) : WW G 8 [(0, .ref (gB G + r0)), (1, .int x1), (2, .long a.1), (4, .int a.2.1), (5, .int a.2.2)] [] σ := by
  refine xloop_ind (P := fun a => WW G 8 [(0, .ref (gB G + r0)), (1, .int x1), (2, .long a.1), (4, .int a.2.1), (5, .int a.2.2)] [] σ) (fun a y hf hc he => ?_) hf
  obtain ⟨w2, x4, x5⟩ := a
  have hk : (∀ a' : Int64 × Int32 × Int32, y = .inl a' → WW G 8 [(0, .ref (gB G + r0)), (1, .int x1), (2, .long a'.1), (4, .int a'.2.1), (5, .int a'.2.2)] [] σ) ∧ (∀ b1 : Int64, y = .inr b1 → XEnd G (some (.long b1)) σ) := ⟨hc, fun b e => by have h9 := he b e; subst h9; exact hk⟩
  refine ww_iload (pc := 8) C 4 dX9_waysFrom_8 rfl ?_
  refine ww_aload_n (pc := 10) C 0 dX9_waysFrom_10 rfl ?_
  obtain ⟨v2, e1, hf⟩ := xbd hf
  refine gf_X9_40 (pc := 11) C e1 dX9_waysFrom_11 ?_
  refine ww_icmp_ge (pc := 14) (tgt := 75) C dX9_waysFrom_14 (by decide) (fun q => ?_) (fun q => ?_)
  · have hf := xip q hf
    obtain ⟨b0, hg, e9⟩ := xmj hf
    subst e9
    have hf := hg
    have hk := hk.2 _ rfl
    refine ww_iload (pc := 75) C 3 dX9_waysFrom_75 rfl ?_
    refine ww_if_eq (pc := 77) (tgt := 84) C dX9_waysFrom_77 (by decide) (fun q => ?_) (fun q => ?_)
    · have hf := xip q hf
      refine ww_lload_n (pc := 84) C 2 dX9_waysFrom_84 rfl ?_
      have hf := xsj hf
      subst hf
      exact ww_lret (pc := 85) C hk dX9_waysFrom_85
    · have hf := xin q hf
      refine ww_lconst (pc := 80) (v := (1 : Int64)) C dX9_waysFrom_80 (by decide) ?_
      refine ww_goto (pc := 81) (tgt := 85) C dX9_waysFrom_81 (by decide) ?_
      have hf := xsj hf
      subst hf
      exact ww_lret (pc := 85) C hk dX9_waysFrom_85
  · have hf := xin q hf
    refine ww_iload_n (pc := 17) C 1 dX9_waysFrom_17 rfl ?_
    refine ww_iconst (pc := 18) (v := (1 : Int32)) C dX9_waysFrom_18 (by decide) ?_
    refine ww_iload (pc := 19) C 4 dX9_waysFrom_19 rfl ?_
    refine ww_ishl (pc := 21) C dX9_waysFrom_21 ?_
    refine ww_ixor (pc := 22) C dX9_waysFrom_22 ?_
    refine ww_istore (pc := 23) (lv' := [(6, .int (x1 ^^^ ((1 : Int32) <<< (x5 &&& 31)))), (0, .ref (gB G + r0)), (1, .int x1), (2, .long w2), (4, .int x4), (5, .int x5)]) C dX9_waysFrom_23 (by decide) rfl ?_
    refine ww_aload_n (pc := 25) C 1 dX9_waysFrom_25 rfl ?_
    refine ww_iload (pc := 26) C 5 dX9_waysFrom_26 rfl ?_
    obtain ⟨_, e3, hf⟩ := xbd hf
    obtain ⟨v5, e4, hf⟩ := xbd hf
    refine ww_callVi (pc := 28) (as := [.int x5]) (st := []) C (k_X9_canTurn (l := gl G) (E := gE G) (hb := gB G) (σ := σ) e4) rfl (by decide) xc_X9_87 q1136 qp100 (xck_spec e3) rfl (by decide) (xst4 (Nat.le_of_ble_eq_true rfl)) xsame.rf.le xsame.rf.lim dX9_waysFrom_28 ?_
    refine ww_if_eq (pc := 31) (tgt := 69) C dX9_waysFrom_31 (by decide) (fun q => ?_) (fun q => ?_)
    · have hf := xip q hf
      refine ww_iinc (pc := 69) (v := x5 + (1 : Int32)) (lv' := [(5, .int (x5 + (1 : Int32))), (6, .int (x1 ^^^ ((1 : Int32) <<< (x5 &&& 31)))), (0, .ref (gB G + r0)), (1, .int x1), (2, .long w2), (4, .int x4)]) C 5 dX9_waysFrom_69 rfl (congrArg (fun z => x5 + z) (show Int32.ofInt (1) = (1 : Int32) by decide)) (by decide) rfl ?_
      refine ww_goto (pc := 72) (tgt := 8) C dX9_waysFrom_72 (by decide) ?_
      have hf := xsj hf
      subst hf
      refine ww_sub [2, 3, 4, 5, 0] rfl ?_
      exact hk.1 (w2, x4, x5 + (1 : Int32)) rfl
    · have hf := xin q hf
      refine ww_iload (pc := 34) C 0 dX9_waysFrom_34 rfl ?_
      obtain ⟨v7, e6, hf⟩ := xbd hf
      refine ww_callSi (pc := 36) (as := [.int (x1 ^^^ ((1 : Int32) <<< (x5 &&& 31)))]) (st := []) C (k_X9_isState (l := gl G) (E := gE G) (hb := gB G) (σ := σ) e6) xc_X9_69 q1144 rfl (by decide) (xst4 (Nat.le_of_ble_eq_true rfl)) xsame.rf.le xsame.rf.lim dX9_waysFrom_36 ?_
      refine ww_if_eq (pc := 39) (tgt := 69) C dX9_waysFrom_39 (by decide) (fun q => ?_) (fun q => ?_)
      · have hf := xip q hf
        refine ww_iinc (pc := 69) (v := x5 + (1 : Int32)) (lv' := [(5, .int (x5 + (1 : Int32))), (6, .int (x1 ^^^ ((1 : Int32) <<< (x5 &&& 31)))), (0, .ref (gB G + r0)), (1, .int x1), (2, .long w2), (4, .int x4)]) C 5 dX9_waysFrom_69 rfl (congrArg (fun z => x5 + z) (show Int32.ofInt (1) = (1 : Int32) by decide)) (by decide) rfl ?_
        refine ww_goto (pc := 72) (tgt := 8) C dX9_waysFrom_72 (by decide) ?_
        have hf := xsj hf
        subst hf
        refine ww_sub [2, 3, 4, 5, 0] rfl ?_
        exact hk.1 (w2, x4, x5 + (1 : Int32)) rfl
      · have hf := xin q hf
        refine ww_aload_n (pc := 42) C 1 dX9_waysFrom_42 rfl ?_
        refine ww_iload (pc := 43) C 0 dX9_waysFrom_43 rfl ?_
        obtain ⟨_, e8, hf⟩ := xbd hf
        obtain ⟨v10, e9, hf⟩ := xbd hf
        refine ww_callVi (pc := 45) (as := [.int (x1 ^^^ ((1 : Int32) <<< (x5 &&& 31)))]) (st := []) C (k_X9_energyOf (l := gl G) (E := gE G) (hb := gB G) (σ := σ) e9) rfl (by decide) xc_X9_100 q1141 qp101 (xck_spec e8) rfl (by decide) (xst4 (Nat.le_of_ble_eq_true rfl)) xsame.rf.le xsame.rf.lim dX9_waysFrom_45 ?_
        refine ww_aload_n (pc := 48) C 1 dX9_waysFrom_48 rfl ?_
        refine ww_iload_n (pc := 49) C 2 dX9_waysFrom_49 rfl ?_
        obtain ⟨_, e11, hf⟩ := xbd hf
        obtain ⟨v13, e12, hf⟩ := xbd hf
        refine ww_callVi (pc := 50) (as := [.int x1]) (st := [.int v10]) C (k_X9_energyOf (l := gl G) (E := gE G) (hb := gB G) (σ := σ) e12) rfl (by decide) xc_X9_100 q1141 qp101 (xck_spec e11) rfl (by decide) (xst4 (Nat.le_of_ble_eq_true rfl)) xsame.rf.le xsame.rf.lim dX9_waysFrom_50 ?_
        refine ww_icmp_ge (pc := 53) (tgt := 69) C dX9_waysFrom_53 (by decide) (fun q => ?_) (fun q => ?_)
        · have hf := xip q hf
          refine ww_iinc (pc := 69) (v := x5 + (1 : Int32)) (lv' := [(5, .int (x5 + (1 : Int32))), (6, .int (x1 ^^^ ((1 : Int32) <<< (x5 &&& 31)))), (0, .ref (gB G + r0)), (1, .int x1), (2, .long w2), (4, .int x4)]) C 5 dX9_waysFrom_69 rfl (congrArg (fun z => x5 + z) (show Int32.ofInt (1) = (1 : Int32) by decide)) (by decide) rfl ?_
          refine ww_goto (pc := 72) (tgt := 8) C dX9_waysFrom_72 (by decide) ?_
          have hf := xsj hf
          subst hf
          refine ww_sub [2, 3, 4, 5, 0] rfl ?_
          exact hk.1 (w2, x4, x5 + (1 : Int32)) rfl
        · have hf := xin q hf
          refine ww_lload_n (pc := 56) C 3 dX9_waysFrom_56 rfl ?_
          refine ww_aload_n (pc := 57) C 1 dX9_waysFrom_57 rfl ?_
          obtain ⟨z15, e14, hf⟩ := xbd hf
          refine gf_X9_24 (pc := 58) C e14 dX9_waysFrom_58 ?_
          refine ww_iload (pc := 61) C 0 dX9_waysFrom_61 rfl ?_
          obtain ⟨v17, e16, hf⟩ := xbd hf
          refine ww_lald (pc := 63) C e16 dX9_waysFrom_63 ?_
          refine ww_ladd (pc := 64) C dX9_waysFrom_64 ?_
          refine ww_lstore_n (pc := 65) (lv' := [(2, .long (w2 + v17)), (6, .int (x1 ^^^ ((1 : Int32) <<< (x5 &&& 31)))), (0, .ref (gB G + r0)), (1, .int x1), (4, .int x4), (5, .int x5)]) C dX9_waysFrom_65 (by decide) rfl ?_
          refine ww_iconst (pc := 66) (v := (0 : Int32)) C dX9_waysFrom_66 (by decide) ?_
          refine ww_istore (pc := 67) (lv' := [(4, .int (0 : Int32)), (2, .long (w2 + v17)), (6, .int (x1 ^^^ ((1 : Int32) <<< (x5 &&& 31)))), (0, .ref (gB G + r0)), (1, .int x1), (5, .int x5)]) C dX9_waysFrom_67 (by decide) rfl ?_
          refine ww_iinc (pc := 69) (v := x5 + (1 : Int32)) (lv' := [(5, .int (x5 + (1 : Int32))), (4, .int (0 : Int32)), (2, .long (w2 + v17)), (6, .int (x1 ^^^ ((1 : Int32) <<< (x5 &&& 31)))), (0, .ref (gB G + r0)), (1, .int x1)]) C 5 dX9_waysFrom_69 rfl (congrArg (fun z => x5 + z) (show Int32.ofInt (1) = (1 : Int32) by decide)) (by decide) rfl ?_
          refine ww_goto (pc := 72) (tgt := 8) C dX9_waysFrom_72 (by decide) ?_
          have hf := xsj hf
          subst hf
          refine ww_sub [4, 5, 2, 1, 0] rfl ?_
          exact hk.1 (w2 + v17, (0 : Int32), x5 + (1 : Int32)) rfl
theorem s_X9_waysFrom_e {G : XG} (C : XC G cX9_waysFrom RX9 (some .long) 7 3 63) {σ : XS} {r0 : Nat} {x1 : Int32} {x : Int64} (hf : f_X9_waysFrom σ r0 x1 = some x) (hk : XEnd G (some (.long x)) σ) : WW G 0 [(0, .ref (gB G + r0)), (1, .int x1)] [] σ := by
  refine ww_lconst (pc := 0) (v := (0 : Int64)) C dX9_waysFrom_0 (by decide) ?_
  refine ww_lstore_n (pc := 1) (lv' := [(2, .long (0 : Int64)), (0, .ref (gB G + r0)), (1, .int x1)]) C dX9_waysFrom_1 (by decide) rfl ?_
  refine ww_iconst (pc := 2) (v := (1 : Int32)) C dX9_waysFrom_2 (by decide) ?_
  refine ww_istore (pc := 3) (lv' := [(4, .int (1 : Int32)), (2, .long (0 : Int64)), (0, .ref (gB G + r0)), (1, .int x1)]) C dX9_waysFrom_3 (by decide) rfl ?_
  refine ww_iconst (pc := 5) (v := (0 : Int32)) C dX9_waysFrom_5 (by decide) ?_
  refine ww_istore (pc := 6) (lv' := [(5, .int (0 : Int32)), (4, .int (1 : Int32)), (2, .long (0 : Int64)), (0, .ref (gB G + r0)), (1, .int x1)]) C dX9_waysFrom_6 (by decide) rfl ?_
  refine ww_sub [3, 4, 2, 1, 0] rfl ?_
  exact s_X9_waysFrom_l8 C (a := ((0 : Int64), (1 : Int32), (0 : Int32))) hf hk
theorem k_X9_waysFrom {l : Launch} {E : XD} {hb : Nat} {σ : XS} {r0 : Nat} {x1 : Int32} {x : Int64} (h : f_X9_waysFrom σ r0 x1 = some x) : XM l yX9_waysFrom cX9_waysFrom 7 (some .long) 3 63 E hb [.ref (hb + r0), .int x1] σ (some (.long x)) σ := by
  refine xm_of (by decide) (Nat.le_of_ble_eq_true rfl) ⟨Nat.le_refl _, Nat.le_refl _⟩ (fun G hG C hl hQ => ?_)
  obtain ⟨rfl, rfl, rfl, hN⟩ := hG
  exact s_X9_waysFrom_e C h hQ
