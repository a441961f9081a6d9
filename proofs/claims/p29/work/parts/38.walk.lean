section
noncomputable def f_X12_level (σ : XS) (r0 : Nat) (x1 : Int32) (x2 : Int32) : Option (Int32 × XS) := (xck σ r0 12).bind fun _ => (f_X12_knows σ r0).bind fun σ3 => if x1 = (-1 : Int32) then ((xgI σ3 r0 12 35).bind fun v5 => some (v5, σ3)) else (xgI σ3 r0 12 35).bind fun v5 => (f_X12_in x1 (0 : Int32) (v5 - (1 : Int32))).bind fun v7 => if v7 = 0 then (some ((-100000 : Int32), σ3)) else xsw x2 (0) [(xgR σ3 r0 12 36).bind fun z9 => (xaI σ3 20 z9 x1).bind fun v11 => some (v11, σ3), (xgR σ3 r0 12 34).bind fun z9 => (xgR σ3 r0 12 36).bind fun z11 => (xaI σ3 20 z11 x1).bind fun v13 => (xaI σ3 20 z9 ((150 : Int32) + v13)).bind fun v15 => some (v15, σ3), (xgR σ3 r0 12 36).bind fun z9 => (xaI σ3 20 z9 x1).bind fun v11 => (xck σ3 r0 12).bind fun _ => (f_X12_leastOf σ3 r0 v11).bind fun v14 => some (v14, σ3), (xgR σ3 r0 12 36).bind fun z9 => (xaI σ3 20 z9 x1).bind fun v11 => (xck σ3 r0 12).bind fun _ => (f_X12_upsOf σ3 r0 v11 (1 : Int32)).bind fun v14 => some (v14, σ3), (xgR σ3 r0 12 36).bind fun z9 => (xaI σ3 20 z9 x1).bind fun v11 => (xck σ3 r0 12).bind fun _ => (f_X12_upsOf σ3 r0 v11 (-1 : Int32)).bind fun v14 => some (v14, σ3)] (some ((-100000 : Int32), σ3))
theorem s_X12_level_e {G : XG} (C : XC G cX12_level RX12 (some .int) 3 4 96) {σ : XS} {r0 : Nat} {x1 : Int32} {x2 : Int32} {x : Int32 × XS} (hf : f_X12_level σ r0 x1 x2 = some x) (hk : XEnd G (some (.int x.1)) x.2) : WW G 0 [(0, .ref (gB G + r0)), (1, .int x1), (2, .int x2)] [] σ := by
  refine ww_aload_n (pc := 0) C 0 dX12_level_0 rfl ?_
  obtain ⟨_, e1, hf⟩ := xbd hf
  obtain ⟨σ3, e2, hf⟩ := xbd hf
  refine ww_callVv (pc := 1) (as := []) (st := []) C (k_X12_knows (l := gl G) (E := gE G) (hb := gB G) (σ := σ) e2) rfl (by decide) xc_X12_261 q1551 qp140 (xck_spec e1) rfl (by decide) (xst4 (Nat.le_of_ble_eq_true rfl)) (m_X12_knows e2).le (m_X12_knows e2).lim dX12_level_1 ?_
  refine ww_iload_n (pc := 4) C 1 dX12_level_4 rfl ?_
  refine ww_iconst (pc := 5) (v := (-1 : Int32)) C dX12_level_5 (by decide) ?_
  refine ww_icmp_ne (pc := 6) (tgt := 14) C dX12_level_6 (by decide) (fun q => ?_) (fun q => ?_)
  · have hf := xin q hf
    refine ww_iload_n (pc := 14) C 1 dX12_level_14 rfl ?_
    refine ww_iconst (pc := 15) (v := (0 : Int32)) C dX12_level_15 (by decide) ?_
    refine ww_aload_n (pc := 16) C 0 dX12_level_16 rfl ?_
    obtain ⟨v5, e4, hf⟩ := xbd hf
    refine gf_X12_285 (pc := 17) C e4 dX12_level_17 ?_
    refine ww_iconst (pc := 20) (v := (1 : Int32)) C dX12_level_20 (by decide) ?_
    refine ww_isub (pc := 21) C dX12_level_21 ?_
    obtain ⟨v7, e6, hf⟩ := xbd hf
    refine ww_callSi (pc := 22) (as := [.int x1, .int (0 : Int32), .int (v5 - (1 : Int32))]) (st := []) C (k_X12_in (l := gl G) (E := gE G) (hb := gB G) (σ := σ3) e6) xc_X12_213 q1473 rfl (by decide) (xst4 (Nat.le_of_ble_eq_true rfl)) xsame.rf.le xsame.rf.lim dX12_level_22 ?_
    refine ww_if_ne (pc := 25) (tgt := 32) C dX12_level_25 (by decide) (fun q => ?_) (fun q => ?_)
    · have hf := xin q hf
      refine ww_iload_n (pc := 32) C 2 dX12_level_32 rfl ?_
      refine ww_table (pc := 33) C dX12_level_33 (fun k hk1 hk2 => ?_) (fun ho => ?_)
      · rcases (by omega : k = 0 ∨ k = 1 ∨ k = 2 ∨ k = 3 ∨ k = 4) with rfl | rfl | rfl | rfl | rfl
        · refine ⟨68, 35, rfl, by decide, ?_⟩
          have hf := xsw_in 0 hk1 rfl hf
          refine ww_aload_n (pc := 68) C 0 dX12_level_68 rfl ?_
          obtain ⟨z9, e8, hf⟩ := xbd hf
          refine gf_X12_63 (pc := 69) C e8 dX12_level_69 ?_
          refine ww_iload_n (pc := 72) C 1 dX12_level_72 rfl ?_
          obtain ⟨v11, e10, hf⟩ := xbd hf
          refine ww_iald (pc := 73) C e10 dX12_level_73 ?_
          have hf := xsj hf
          subst hf
          exact ww_iret (pc := 74) C hk dX12_level_74
        · refine ⟨75, 42, rfl, by decide, ?_⟩
          have hf := xsw_in 1 hk1 rfl hf
          refine ww_aload_n (pc := 75) C 0 dX12_level_75 rfl ?_
          obtain ⟨z9, e8, hf⟩ := xbd hf
          refine gf_X12_60 (pc := 76) C e8 dX12_level_76 ?_
          refine ww_sipush (pc := 79) (v := (150 : Int32)) C dX12_level_79 (by decide) ?_
          refine ww_aload_n (pc := 82) C 0 dX12_level_82 rfl ?_
          obtain ⟨z11, e10, hf⟩ := xbd hf
          refine gf_X12_63 (pc := 83) C e10 dX12_level_83 ?_
          refine ww_iload_n (pc := 86) C 1 dX12_level_86 rfl ?_
          obtain ⟨v13, e12, hf⟩ := xbd hf
          refine ww_iald (pc := 87) C e12 dX12_level_87 ?_
          refine ww_iadd (pc := 88) C dX12_level_88 ?_
          obtain ⟨v15, e14, hf⟩ := xbd hf
          refine ww_iald (pc := 89) C e14 dX12_level_89 ?_
          have hf := xsj hf
          subst hf
          exact ww_iret (pc := 90) C hk dX12_level_90
        · refine ⟨91, 58, rfl, by decide, ?_⟩
          have hf := xsw_in 2 hk1 rfl hf
          refine ww_aload_n (pc := 91) C 0 dX12_level_91 rfl ?_
          refine ww_aload_n (pc := 92) C 0 dX12_level_92 rfl ?_
          obtain ⟨z9, e8, hf⟩ := xbd hf
          refine gf_X12_63 (pc := 93) C e8 dX12_level_93 ?_
          refine ww_iload_n (pc := 96) C 1 dX12_level_96 rfl ?_
          obtain ⟨v11, e10, hf⟩ := xbd hf
          refine ww_iald (pc := 97) C e10 dX12_level_97 ?_
          obtain ⟨_, e12, hf⟩ := xbd hf
          obtain ⟨v14, e13, hf⟩ := xbd hf
          refine ww_callVi (pc := 98) (as := [.int v11]) (st := []) C (k_X12_leastOf (l := gl G) (E := gE G) (hb := gB G) (σ := σ3) e13) rfl (by decide) xc_X12_295 q1608 qp148 (xck_spec e12) rfl (by decide) (xst4 (Nat.le_of_ble_eq_true rfl)) xsame.rf.le xsame.rf.lim dX12_level_98 ?_
          have hf := xsj hf
          subst hf
          exact ww_iret (pc := 101) C hk dX12_level_101
        · refine ⟨102, 69, rfl, by decide, ?_⟩
          have hf := xsw_in 3 hk1 rfl hf
          refine ww_aload_n (pc := 102) C 0 dX12_level_102 rfl ?_
          refine ww_aload_n (pc := 103) C 0 dX12_level_103 rfl ?_
          obtain ⟨z9, e8, hf⟩ := xbd hf
          refine gf_X12_63 (pc := 104) C e8 dX12_level_104 ?_
          refine ww_iload_n (pc := 107) C 1 dX12_level_107 rfl ?_
          obtain ⟨v11, e10, hf⟩ := xbd hf
          refine ww_iald (pc := 108) C e10 dX12_level_108 ?_
          refine ww_iconst (pc := 109) (v := (1 : Int32)) C dX12_level_109 (by decide) ?_
          obtain ⟨_, e12, hf⟩ := xbd hf
          obtain ⟨v14, e13, hf⟩ := xbd hf
          refine ww_callVi (pc := 110) (as := [.int v11, .int (1 : Int32)]) (st := []) C (k_X12_upsOf (l := gl G) (E := gE G) (hb := gB G) (σ := σ3) e13) rfl (by decide) xc_X12_298 q1612 qp149 (xck_spec e12) rfl (by decide) (xst4 (Nat.le_of_ble_eq_true rfl)) xsame.rf.le xsame.rf.lim dX12_level_110 ?_
          have hf := xsj hf
          subst hf
          exact ww_iret (pc := 113) C hk dX12_level_113
        · refine ⟨114, 81, rfl, by decide, ?_⟩
          have hf := xsw_in 4 hk1 rfl hf
          refine ww_aload_n (pc := 114) C 0 dX12_level_114 rfl ?_
          refine ww_aload_n (pc := 115) C 0 dX12_level_115 rfl ?_
          obtain ⟨z9, e8, hf⟩ := xbd hf
          refine gf_X12_63 (pc := 116) C e8 dX12_level_116 ?_
          refine ww_iload_n (pc := 119) C 1 dX12_level_119 rfl ?_
          obtain ⟨v11, e10, hf⟩ := xbd hf
          refine ww_iald (pc := 120) C e10 dX12_level_120 ?_
          refine ww_iconst (pc := 121) (v := (-1 : Int32)) C dX12_level_121 (by decide) ?_
          obtain ⟨_, e12, hf⟩ := xbd hf
          obtain ⟨v14, e13, hf⟩ := xbd hf
          refine ww_callVi (pc := 122) (as := [.int v11, .int (-1 : Int32)]) (st := []) C (k_X12_upsOf (l := gl G) (E := gE G) (hb := gB G) (σ := σ3) e13) rfl (by decide) xc_X12_298 q1612 qp149 (xck_spec e12) rfl (by decide) (xst4 (Nat.le_of_ble_eq_true rfl)) xsame.rf.le xsame.rf.lim dX12_level_122 ?_
          have hf := xsj hf
          subst hf
          exact ww_iret (pc := 125) C hk dX12_level_125
      · refine ⟨126, by decide, ?_⟩
        have hf := xsw_out ho rfl hf
        refine ww_ldcw (pc := 126) C q1597 dX12_level_126 ?_
        have hf := xsj hf
        subst hf
        exact ww_iret (pc := 129) C hk dX12_level_129
    · have hf := xip q hf
      refine ww_ldcw (pc := 28) C q1597 dX12_level_28 ?_
      have hf := xsj hf
      subst hf
      exact ww_iret (pc := 31) C hk dX12_level_31
  · have hf := xip q hf
    refine ww_aload_n (pc := 9) C 0 dX12_level_9 rfl ?_
    obtain ⟨v5, e4, hf⟩ := xbd hf
    refine gf_X12_285 (pc := 10) C e4 dX12_level_10 ?_
    have hf := xsj hf
    subst hf
    exact ww_iret (pc := 13) C hk dX12_level_13
theorem m_X12_level {σ : XS} {r0 : Nat} {x1 : Int32} {x2 : Int32} {x : Int32 × XS} (hf : f_X12_level σ r0 x1 x2 = some x) : xsame σ x.2 := by
  have hm := xsame.rf (σ := σ)
  obtain ⟨_, e1, hf⟩ := xbd hf
  obtain ⟨σ3, e2, hf⟩ := xbd hf
  have hm := hm.tr (m_X12_knows e2)
  by_cases q : x1 = (-1 : Int32)
  · have hf := xip q hf
    obtain ⟨v5, e4, hf⟩ := xbd hf
    have hf := xsj hf
    subst hf
    exact hm
  · have hf := xin q hf
    obtain ⟨v5, e4, hf⟩ := xbd hf
    obtain ⟨v7, e6, hf⟩ := xbd hf
    by_cases q : v7 = 0
    · have hf := xip q hf
      have hf := xsj hf
      subst hf
      exact hm
    · have hf := xin q hf
      by_cases ho : (x2).toInt < 0 ∨ 4 < (x2).toInt
      · have hf := xsw_out ho rfl hf
        have hf := xsj hf
        subst hf
        exact hm
      · rcases (by omega : (x2).toInt = 0 + ((0 : Nat) : Int) ∨ (x2).toInt = 0 + ((1 : Nat) : Int) ∨ (x2).toInt = 0 + ((2 : Nat) : Int) ∨ (x2).toInt = 0 + ((3 : Nat) : Int) ∨ (x2).toInt = 0 + ((4 : Nat) : Int)) with hk1 | hk1 | hk1 | hk1 | hk1
        · have hf := xsw_in 0 hk1 rfl hf
          obtain ⟨z9, e8, hf⟩ := xbd hf
          obtain ⟨v11, e10, hf⟩ := xbd hf
          have hf := xsj hf
          subst hf
          exact hm
        · have hf := xsw_in 1 hk1 rfl hf
          obtain ⟨z9, e8, hf⟩ := xbd hf
          obtain ⟨z11, e10, hf⟩ := xbd hf
          obtain ⟨v13, e12, hf⟩ := xbd hf
          obtain ⟨v15, e14, hf⟩ := xbd hf
          have hf := xsj hf
          subst hf
          exact hm
        · have hf := xsw_in 2 hk1 rfl hf
          obtain ⟨z9, e8, hf⟩ := xbd hf
          obtain ⟨v11, e10, hf⟩ := xbd hf
          obtain ⟨_, e12, hf⟩ := xbd hf
          obtain ⟨v14, e13, hf⟩ := xbd hf
          have hf := xsj hf
          subst hf
          exact hm
        · have hf := xsw_in 3 hk1 rfl hf
          obtain ⟨z9, e8, hf⟩ := xbd hf
          obtain ⟨v11, e10, hf⟩ := xbd hf
          obtain ⟨_, e12, hf⟩ := xbd hf
          obtain ⟨v14, e13, hf⟩ := xbd hf
          have hf := xsj hf
          subst hf
          exact hm
        · have hf := xsw_in 4 hk1 rfl hf
          obtain ⟨z9, e8, hf⟩ := xbd hf
          obtain ⟨v11, e10, hf⟩ := xbd hf
          obtain ⟨_, e12, hf⟩ := xbd hf
          obtain ⟨v14, e13, hf⟩ := xbd hf
          have hf := xsj hf
          subst hf
          exact hm
theorem k_X12_level {l : Launch} {E : XD} {hb : Nat} {σ : XS} {r0 : Nat} {x1 : Int32} {x2 : Int32} {x : Int32 × XS} (h : f_X12_level σ r0 x1 x2 = some x) : XM l yX12_level cX12_level 3 (some .int) 4 96 E hb [.ref (hb + r0), .int x1, .int x2] σ (some (.int x.1)) x.2 := by
  refine xm_of (by decide) (Nat.le_of_ble_eq_true rfl) (m_X12_level h).le (fun G hG C hl hQ => ?_)
  obtain ⟨rfl, rfl, rfl, hN⟩ := hG
  exact s_X12_level_e C h hQ
noncomputable def f_X12_levelOf_b2 (σ : XS) (r0 : Nat) (x1 : Int32) : Int32 → Option ((Int32) ⊕ (Int32)) := fun a => match a with
  | x2 => (xgR σ r0 12 36).bind fun z2 => (xaI σ 20 z2 x2).bind fun v4 => (xgR σ r0 12 33).bind fun z6 => (xaI σ 20 z6 x1).bind fun v8 => if v4 = v8 then ((some x2).map .inr) else some (.inl (x2 + (1 : Int32)))
noncomputable def f_X12_levelOf (σ : XS) (r0 : Nat) (x1 : Int32) : Option Int32 := xloop (f_X12_levelOf_b2 σ r0 x1) (0 : Int32)
theorem s_X12_levelOf_l2 {G : XG} (C : XC G cX12_levelOf RX12 (some .int) 3 0 0) {σ : XS} {r0 : Nat} {x1 : Int32} {a : Int32} {x : Int32} (hf : xloop (f_X12_levelOf_b2 σ r0 x1) a = some x) (hk : XEnd G (some (.int x)) σ) : WW G 2 [(0, .ref (gB G + r0)), (1, .int x1), (2, .int a)] [] σ := by
  refine xloop_ind (P := fun a => WW G 2 [(0, .ref (gB G + r0)), (1, .int x1), (2, .int a)] [] σ) (fun a y hf hc he => ?_) hf
  obtain ⟨x2, rfl⟩ : ∃ z, z = a := ⟨_, rfl⟩
  have hk : (∀ a' : Int32, y = .inl a' → WW G 2 [(0, .ref (gB G + r0)), (1, .int x1), (2, .int a')] [] σ) ∧ (∀ b1 : Int32, y = .inr b1 → XEnd G (some (.int b1)) σ) := ⟨hc, fun b e => by have h9 := he b e; subst h9; exact hk⟩
  refine ww_aload_n (pc := 2) C 0 dX12_levelOf_2 rfl ?_
  obtain ⟨z2, e1, hf⟩ := xbd hf
  refine gf_X12_63 (pc := 3) C e1 dX12_levelOf_3 ?_
  refine ww_iload_n (pc := 6) C 2 dX12_levelOf_6 rfl ?_
  obtain ⟨v4, e3, hf⟩ := xbd hf
  refine ww_iald (pc := 7) C e3 dX12_levelOf_7 ?_
  refine ww_aload_n (pc := 8) C 0 dX12_levelOf_8 rfl ?_
  obtain ⟨z6, e5, hf⟩ := xbd hf
  refine gf_X12_57 (pc := 9) C e5 dX12_levelOf_9 ?_
  refine ww_iload_n (pc := 12) C 1 dX12_levelOf_12 rfl ?_
  obtain ⟨v8, e7, hf⟩ := xbd hf
  refine ww_iald (pc := 13) C e7 dX12_levelOf_13 ?_
  refine ww_icmp_eq (pc := 14) (tgt := 23) C dX12_levelOf_14 (by decide) (fun q => ?_) (fun q => ?_)
  · have hf := xip q hf
    obtain ⟨b0, hg, e9⟩ := xmj hf
    subst e9
    have hf := hg
    have hk := hk.2 _ rfl
    refine ww_iload_n (pc := 23) C 2 dX12_levelOf_23 rfl ?_
    have hf := xsj hf
    subst hf
    exact ww_iret (pc := 24) C hk dX12_levelOf_24
  · have hf := xin q hf
    refine ww_iinc (pc := 17) (v := x2 + (1 : Int32)) (lv' := [(2, .int (x2 + (1 : Int32))), (0, .ref (gB G + r0)), (1, .int x1)]) C 2 dX12_levelOf_17 rfl (congrArg (fun z => x2 + z) (show Int32.ofInt (1) = (1 : Int32) by decide)) (by decide) rfl ?_
    refine ww_goto (pc := 20) (tgt := 2) C dX12_levelOf_20 (by decide) ?_
    have hf := xsj hf
    subst hf
    refine ww_sub [1, 2, 0] rfl ?_
    exact hk.1 (x2 + (1 : Int32)) rfl
theorem s_X12_levelOf_e {G : XG} (C : XC G cX12_levelOf RX12 (some .int) 3 0 0) {σ : XS} {r0 : Nat} {x1 : Int32} {x : Int32} (hf : f_X12_levelOf σ r0 x1 = some x) (hk : XEnd G (some (.int x)) σ) : WW G 0 [(0, .ref (gB G + r0)), (1, .int x1)] [] σ := by
  refine ww_iconst (pc := 0) (v := (0 : Int32)) C dX12_levelOf_0 (by decide) ?_
  refine ww_istore_n (pc := 1) (lv' := [(2, .int (0 : Int32)), (0, .ref (gB G + r0)), (1, .int x1)]) C dX12_levelOf_1 (by decide) rfl ?_
  refine ww_sub [1, 2, 0] rfl ?_
  exact s_X12_levelOf_l2 C (a := (0 : Int32)) hf hk
theorem k_X12_levelOf {l : Launch} {E : XD} {hb : Nat} {σ : XS} {r0 : Nat} {x1 : Int32} {x : Int32} (h : f_X12_levelOf σ r0 x1 = some x) : XM l yX12_levelOf cX12_levelOf 3 (some .int) 0 0 E hb [.ref (hb + r0), .int x1] σ (some (.int x)) σ := by
  refine xm_of (by decide) (Nat.le_of_ble_eq_true rfl) ⟨Nat.le_refl _, Nat.le_refl _⟩ (fun G hG C hl hQ => ?_)
  obtain ⟨rfl, rfl, rfl, hN⟩ := hG
  exact s_X12_levelOf_e C h hQ
noncomputable def f_X12_passes (σ : XS) (r0 : Nat) : Option XS := (xgI σ r0 12 11).bind fun v2 => if v2 = (400 : Int32) then ((xck σ r0 12).bind fun _ => (f_X12_fail σ r0 (2 : Int32)).bind fun σ5 => some σ5) else (xgI σ r0 12 11).bind fun v4 => (xpI σ r0 12 11 (v4 + (1 : Int32))).bind fun σ6 => some σ6
theorem s_X12_passes_e {G : XG} (C : XC G cX12_passes RX12 none 1 1 21) {σ : XS} {r0 : Nat} {x : XS} (hf : f_X12_passes σ r0 = some x) (hk : XEnd G none x) : WW G 0 [(0, .ref (gB G + r0))] [] σ := by
  refine ww_aload_n (pc := 0) C 0 dX12_passes_0 rfl ?_
  obtain ⟨v2, e1, hf⟩ := xbd hf
  refine gf_X12_135 (pc := 1) C e1 dX12_passes_1 ?_
  refine ww_sipush (pc := 4) (v := (400 : Int32)) C dX12_passes_4 (by decide) ?_
  refine ww_icmp_ne (pc := 7) (tgt := 18) C dX12_passes_7 (by decide) (fun q => ?_) (fun q => ?_)
  · have hf := xin q hf
    refine ww_aload_n (pc := 18) C 0 dX12_passes_18 rfl ?_
    refine ww_dup (pc := 19) C dX12_passes_19 rfl ?_
    obtain ⟨v4, e3, hf⟩ := xbd hf
    refine gf_X12_135 (pc := 20) C e3 dX12_passes_20 ?_
    refine ww_iconst (pc := 23) (v := (1 : Int32)) C dX12_passes_23 (by decide) ?_
    refine ww_iadd (pc := 24) C dX12_passes_24 ?_
    obtain ⟨σ6, e5, hf⟩ := xbd hf
    refine pf_X12_135 (pc := 25) C e5 dX12_passes_25 ?_
    have hf := xsj hf
    subst hf
    exact ww_vret (pc := 28) C hk dX12_passes_28
  · have hf := xip q hf
    refine ww_aload_n (pc := 10) C 0 dX12_passes_10 rfl ?_
    refine ww_iconst (pc := 11) (v := (2 : Int32)) C dX12_passes_11 (by decide) ?_
    obtain ⟨_, e3, hf⟩ := xbd hf
    obtain ⟨σ5, e4, hf⟩ := xbd hf
    refine ww_callVv (pc := 12) (as := [.int (2 : Int32)]) (st := []) C (k_X12_fail (l := gl G) (E := gE G) (hb := gB G) (σ := σ) e4) rfl (by decide) xc_X12_147 q1454 qp127 (xck_spec e3) rfl (by decide) (xst4 (Nat.le_of_ble_eq_true rfl)) (m_X12_fail e4).le (m_X12_fail e4).lim dX12_passes_12 ?_
    refine ww_goto (pc := 15) (tgt := 28) C dX12_passes_15 (by decide) ?_
    have hf := xsj hf
    subst hf
    exact ww_vret (pc := 28) C hk dX12_passes_28
theorem m_X12_passes {σ : XS} {r0 : Nat} {x : XS} (hf : f_X12_passes σ r0 = some x) : xsame σ x := by
  have hm := xsame.rf (σ := σ)
  obtain ⟨v2, e1, hf⟩ := xbd hf
  by_cases q : v2 = (400 : Int32)
  · have hf := xip q hf
    obtain ⟨_, e3, hf⟩ := xbd hf
    obtain ⟨σ5, e4, hf⟩ := xbd hf
    have hm := hm.tr (m_X12_fail e4)
    have hf := xsj hf
    subst hf
    exact hm
  · have hf := xin q hf
    obtain ⟨v4, e3, hf⟩ := xbd hf
    obtain ⟨σ6, e5, hf⟩ := xbd hf
    have hm := hm.tr (xpI_same e5)
    have hf := xsj hf
    subst hf
    exact hm
theorem k_X12_passes {l : Launch} {E : XD} {hb : Nat} {σ : XS} {r0 : Nat} {x : XS} (h : f_X12_passes σ r0 = some x) : XM l yX12_passes cX12_passes 1 none 1 21 E hb [.ref (hb + r0)] σ none x := by
  refine xm_of (by decide) (Nat.le_of_ble_eq_true rfl) (m_X12_passes h).le (fun G hG C hl hQ => ?_)
  obtain ⟨rfl, rfl, rfl, hN⟩ := hG
  exact s_X12_passes_e C h hQ
noncomputable def f_X12_must (σ : XS) (r0 : Nat) (x1 : Int32) : Option XS := (xck σ r0 12).bind fun _ => (f_X12_is σ r0 x1).bind fun v3 => if v3 = 0 then ((xck σ r0 12).bind fun _ => (f_X12_fail σ r0 (1 : Int32)).bind fun σ6 => some σ6) else (xck σ r0 12).bind fun _ => (f_X12_passes σ r0).bind fun σ6 => some σ6
theorem s_X12_must_e {G : XG} (C : XC G cX12_must RX12 none 2 2 41) {σ : XS} {r0 : Nat} {x1 : Int32} {x : XS} (hf : f_X12_must σ r0 x1 = some x) (hk : XEnd G none x) : WW G 0 [(0, .ref (gB G + r0)), (1, .int x1)] [] σ := by
  refine ww_aload_n (pc := 0) C 0 dX12_must_0 rfl ?_
  refine ww_iload_n (pc := 1) C 1 dX12_must_1 rfl ?_
  obtain ⟨_, e1, hf⟩ := xbd hf
  obtain ⟨v3, e2, hf⟩ := xbd hf
  refine ww_callVi (pc := 2) (as := [.int x1]) (st := []) C (k_X12_is (l := gl G) (E := gE G) (hb := gB G) (σ := σ) e2) rfl (by decide) xc_X12_150 q1446 qp125 (xck_spec e1) rfl (by decide) (xst4 (Nat.le_of_ble_eq_true rfl)) xsame.rf.le xsame.rf.lim dX12_must_2 ?_
  refine ww_if_eq (pc := 5) (tgt := 15) C dX12_must_5 (by decide) (fun q => ?_) (fun q => ?_)
  · have hf := xip q hf
    refine ww_aload_n (pc := 15) C 0 dX12_must_15 rfl ?_
    refine ww_iconst (pc := 16) (v := (1 : Int32)) C dX12_must_16 (by decide) ?_
    obtain ⟨_, e4, hf⟩ := xbd hf
    obtain ⟨σ6, e5, hf⟩ := xbd hf
    refine ww_callVv (pc := 17) (as := [.int (1 : Int32)]) (st := []) C (k_X12_fail (l := gl G) (E := gE G) (hb := gB G) (σ := σ) e5) rfl (by decide) xc_X12_147 q1454 qp127 (xck_spec e4) rfl (by decide) (xst4 (Nat.le_of_ble_eq_true rfl)) (m_X12_fail e5).le (m_X12_fail e5).lim dX12_must_17 ?_
    have hf := xsj hf
    subst hf
    exact ww_vret (pc := 20) C hk dX12_must_20
  · have hf := xin q hf
    refine ww_aload_n (pc := 8) C 0 dX12_must_8 rfl ?_
    obtain ⟨_, e4, hf⟩ := xbd hf
    obtain ⟨σ6, e5, hf⟩ := xbd hf
    refine ww_callVv (pc := 9) (as := []) (st := []) C (k_X12_passes (l := gl G) (E := gE G) (hb := gB G) (σ := σ) e5) rfl (by decide) xc_X12_153 q1450 qp126 (xck_spec e4) rfl (by decide) (xst4 (Nat.le_of_ble_eq_true rfl)) (m_X12_passes e5).le (m_X12_passes e5).lim dX12_must_9 ?_
    refine ww_goto (pc := 12) (tgt := 20) C dX12_must_12 (by decide) ?_
    have hf := xsj hf
    subst hf
    exact ww_vret (pc := 20) C hk dX12_must_20
theorem m_X12_must {σ : XS} {r0 : Nat} {x1 : Int32} {x : XS} (hf : f_X12_must σ r0 x1 = some x) : xsame σ x := by
  have hm := xsame.rf (σ := σ)
  obtain ⟨_, e1, hf⟩ := xbd hf
  obtain ⟨v3, e2, hf⟩ := xbd hf
  by_cases q : v3 = 0
  · have hf := xip q hf
    obtain ⟨_, e4, hf⟩ := xbd hf
    obtain ⟨σ6, e5, hf⟩ := xbd hf
    have hm := hm.tr (m_X12_fail e5)
    have hf := xsj hf
    subst hf
    exact hm
  · have hf := xin q hf
    obtain ⟨_, e4, hf⟩ := xbd hf
    obtain ⟨σ6, e5, hf⟩ := xbd hf
    have hm := hm.tr (m_X12_passes e5)
    have hf := xsj hf
    subst hf
    exact hm
theorem k_X12_must {l : Launch} {E : XD} {hb : Nat} {σ : XS} {r0 : Nat} {x1 : Int32} {x : XS} (h : f_X12_must σ r0 x1 = some x) : XM l yX12_must cX12_must 2 none 2 41 E hb [.ref (hb + r0), .int x1] σ none x := by
  refine xm_of (by decide) (Nat.le_of_ble_eq_true rfl) (m_X12_must h).le (fun G hG C hl hQ => ?_)
  obtain ⟨rfl, rfl, rfl, hN⟩ := hG
  exact s_X12_must_e C h hQ
noncomputable def f_X12_mustJ_j12 (σ : XS) (r0 : Nat) : Option XS := (xck σ r0 12).bind fun _ => (f_X12_must σ r0 (2 : Int32)).bind fun σ3 => some σ3
noncomputable def f_X12_mustJ (σ : XS) (r0 : Nat) : Option XS := (xck σ r0 12).bind fun _ => (f_X12_is σ r0 (5 : Int32)).bind fun v3 => if v3 = 0 then (f_X12_mustJ_j12 σ r0) else (xck σ r0 12).bind fun _ => (f_X12_passes σ r0).bind fun σ6 => f_X12_mustJ_j12 σ6 r0
theorem s_X12_mustJ_j12 {G : XG} (C : XC G cX12_mustJ RX12 none 1 3 62) {σ : XS} {r0 : Nat} {x : XS} (hf : f_X12_mustJ_j12 σ r0 = some x) (hk : XEnd G none x) : WW G 12 [(0, .ref (gB G + r0))] [] σ := by
  refine ww_aload_n (pc := 12) C 0 dX12_mustJ_12 rfl ?_
  refine ww_iconst (pc := 13) (v := (2 : Int32)) C dX12_mustJ_13 (by decide) ?_
  obtain ⟨_, e1, hf⟩ := xbd hf
  obtain ⟨σ3, e2, hf⟩ := xbd hf
  refine ww_callVv (pc := 14) (as := [.int (2 : Int32)]) (st := []) C (k_X12_must (l := gl G) (E := gE G) (hb := gB G) (σ := σ) e2) rfl (by decide) xc_X12_159 q1442 qp124 (xck_spec e1) rfl (by decide) (xst4 (Nat.le_of_ble_eq_true rfl)) (m_X12_must e2).le (m_X12_must e2).lim dX12_mustJ_14 ?_
  have hf := xsj hf
  subst hf
  exact ww_vret (pc := 17) C hk dX12_mustJ_17
theorem m_X12_mustJ_j12 {σ : XS} {r0 : Nat} {x : XS} (hf : f_X12_mustJ_j12 σ r0 = some x) : xsame σ x := by
  have hm := xsame.rf (σ := σ)
  obtain ⟨_, e1, hf⟩ := xbd hf
  obtain ⟨σ3, e2, hf⟩ := xbd hf
  have hm := hm.tr (m_X12_must e2)
  have hf := xsj hf
  subst hf
  exact hm
theorem s_X12_mustJ_e {G : XG} (C : XC G cX12_mustJ RX12 none 1 3 62) {σ : XS} {r0 : Nat} {x : XS} (hf : f_X12_mustJ σ r0 = some x) (hk : XEnd G none x) : WW G 0 [(0, .ref (gB G + r0))] [] σ := by
  refine ww_aload_n (pc := 0) C 0 dX12_mustJ_0 rfl ?_
  refine ww_iconst (pc := 1) (v := (5 : Int32)) C dX12_mustJ_1 (by decide) ?_
  obtain ⟨_, e1, hf⟩ := xbd hf
  obtain ⟨v3, e2, hf⟩ := xbd hf
  refine ww_callVi (pc := 2) (as := [.int (5 : Int32)]) (st := []) C (k_X12_is (l := gl G) (E := gE G) (hb := gB G) (σ := σ) e2) rfl (by decide) xc_X12_150 q1446 qp125 (xck_spec e1) rfl (by decide) (xst4 (Nat.le_of_ble_eq_true rfl)) xsame.rf.le xsame.rf.lim dX12_mustJ_2 ?_
  refine ww_if_eq (pc := 5) (tgt := 12) C dX12_mustJ_5 (by decide) (fun q => ?_) (fun q => ?_)
  · have hf := xip q hf
    refine ww_sub [0] rfl ?_
    exact s_X12_mustJ_j12 C hf hk
  · have hf := xin q hf
    refine ww_aload_n (pc := 8) C 0 dX12_mustJ_8 rfl ?_
    obtain ⟨_, e4, hf⟩ := xbd hf
    obtain ⟨σ6, e5, hf⟩ := xbd hf
    refine ww_callVv (pc := 9) (as := []) (st := []) C (k_X12_passes (l := gl G) (E := gE G) (hb := gB G) (σ := σ) e5) rfl (by decide) xc_X12_153 q1450 qp126 (xck_spec e4) rfl (by decide) (xst4 (Nat.le_of_ble_eq_true rfl)) (m_X12_passes e5).le (m_X12_passes e5).lim dX12_mustJ_9 ?_
    refine ww_sub [0] rfl ?_
    exact s_X12_mustJ_j12 C hf hk
theorem m_X12_mustJ {σ : XS} {r0 : Nat} {x : XS} (hf : f_X12_mustJ σ r0 = some x) : xsame σ x := by
  have hm := xsame.rf (σ := σ)
  obtain ⟨_, e1, hf⟩ := xbd hf
  obtain ⟨v3, e2, hf⟩ := xbd hf
  by_cases q : v3 = 0
  · have hf := xip q hf
    exact hm.tr (m_X12_mustJ_j12 hf)
  · have hf := xin q hf
    obtain ⟨_, e4, hf⟩ := xbd hf
    obtain ⟨σ6, e5, hf⟩ := xbd hf
    have hm := hm.tr (m_X12_passes e5)
    exact hm.tr (m_X12_mustJ_j12 hf)
theorem k_X12_mustJ {l : Launch} {E : XD} {hb : Nat} {σ : XS} {r0 : Nat} {x : XS} (h : f_X12_mustJ σ r0 = some x) : XM l yX12_mustJ cX12_mustJ 1 none 3 62 E hb [.ref (hb + r0)] σ none x := by
  refine xm_of (by decide) (Nat.le_of_ble_eq_true rfl) (m_X12_mustJ h).le (fun G hG C hl hQ => ?_)
  obtain ⟨rfl, rfl, rfl, hN⟩ := hG
  exact s_X12_mustJ_e C h hQ
noncomputable def f_X12_mustWay (σ : XS) (r0 : Nat) : Option XS := (xck σ r0 12).bind fun _ => (f_X12_is σ r0 (21 : Int32)).bind fun v3 => if v3 = 0 then ((xck σ r0 12).bind fun _ => (f_X12_must σ r0 (22 : Int32)).bind fun σ6 => some σ6) else (xck σ r0 12).bind fun _ => (f_X12_passes σ r0).bind fun σ6 => some σ6
theorem s_X12_mustWay_e {G : XG} (C : XC G cX12_mustWay RX12 none 1 3 62) {σ : XS} {r0 : Nat} {x : XS} (hf : f_X12_mustWay σ r0 = some x) (hk : XEnd G none x) : WW G 0 [(0, .ref (gB G + r0))] [] σ := by
  refine ww_aload_n (pc := 0) C 0 dX12_mustWay_0 rfl ?_
  refine ww_bipush (pc := 1) (v := (21 : Int32)) C dX12_mustWay_1 (by decide) ?_
  obtain ⟨_, e1, hf⟩ := xbd hf
  obtain ⟨v3, e2, hf⟩ := xbd hf
  refine ww_callVi (pc := 3) (as := [.int (21 : Int32)]) (st := []) C (k_X12_is (l := gl G) (E := gE G) (hb := gB G) (σ := σ) e2) rfl (by decide) xc_X12_150 q1446 qp125 (xck_spec e1) rfl (by decide) (xst4 (Nat.le_of_ble_eq_true rfl)) xsame.rf.le xsame.rf.lim dX12_mustWay_3 ?_
  refine ww_if_eq (pc := 6) (tgt := 16) C dX12_mustWay_6 (by decide) (fun q => ?_) (fun q => ?_)
  · have hf := xip q hf
    refine ww_aload_n (pc := 16) C 0 dX12_mustWay_16 rfl ?_
    refine ww_bipush (pc := 17) (v := (22 : Int32)) C dX12_mustWay_17 (by decide) ?_
    obtain ⟨_, e4, hf⟩ := xbd hf
    obtain ⟨σ6, e5, hf⟩ := xbd hf
    refine ww_callVv (pc := 19) (as := [.int (22 : Int32)]) (st := []) C (k_X12_must (l := gl G) (E := gE G) (hb := gB G) (σ := σ) e5) rfl (by decide) xc_X12_159 q1442 qp124 (xck_spec e4) rfl (by decide) (xst4 (Nat.le_of_ble_eq_true rfl)) (m_X12_must e5).le (m_X12_must e5).lim dX12_mustWay_19 ?_
    have hf := xsj hf
    subst hf
    exact ww_vret (pc := 22) C hk dX12_mustWay_22
  · have hf := xin q hf
    refine ww_aload_n (pc := 9) C 0 dX12_mustWay_9 rfl ?_
    obtain ⟨_, e4, hf⟩ := xbd hf
    obtain ⟨σ6, e5, hf⟩ := xbd hf
    refine ww_callVv (pc := 10) (as := []) (st := []) C (k_X12_passes (l := gl G) (E := gE G) (hb := gB G) (σ := σ) e5) rfl (by decide) xc_X12_153 q1450 qp126 (xck_spec e4) rfl (by decide) (xst4 (Nat.le_of_ble_eq_true rfl)) (m_X12_passes e5).le (m_X12_passes e5).lim dX12_mustWay_10 ?_
    refine ww_goto (pc := 13) (tgt := 22) C dX12_mustWay_13 (by decide) ?_
    have hf := xsj hf
    subst hf
    exact ww_vret (pc := 22) C hk dX12_mustWay_22
theorem m_X12_mustWay {σ : XS} {r0 : Nat} {x : XS} (hf : f_X12_mustWay σ r0 = some x) : xsame σ x := by
  have hm := xsame.rf (σ := σ)
  obtain ⟨_, e1, hf⟩ := xbd hf
  obtain ⟨v3, e2, hf⟩ := xbd hf
  by_cases q : v3 = 0
  · have hf := xip q hf
    obtain ⟨_, e4, hf⟩ := xbd hf
    obtain ⟨σ6, e5, hf⟩ := xbd hf
    have hm := hm.tr (m_X12_must e5)
    have hf := xsj hf
    subst hf
    exact hm
  · have hf := xin q hf
    obtain ⟨_, e4, hf⟩ := xbd hf
    obtain ⟨σ6, e5, hf⟩ := xbd hf
    have hm := hm.tr (m_X12_passes e5)
    have hf := xsj hf
    subst hf
    exact hm
theorem k_X12_mustWay {l : Launch} {E : XD} {hb : Nat} {σ : XS} {r0 : Nat} {x : XS} (h : f_X12_mustWay σ r0 = some x) : XM l yX12_mustWay cX12_mustWay 1 none 3 62 E hb [.ref (hb + r0)] σ none x := by
  refine xm_of (by decide) (Nat.le_of_ble_eq_true rfl) (m_X12_mustWay h).le (fun G hG C hl hQ => ?_)
  obtain ⟨rfl, rfl, rfl, hN⟩ := hG
  exact s_X12_mustWay_e C h hQ
noncomputable def f_X12_line_j174 (σ : XS) (r0 : Nat) : Option XS := (xck σ r0 12).bind fun _ => (f_X12_must σ r0 (4 : Int32)).bind fun σ3 => some σ3
noncomputable def f_X12_line (σ : XS) (r0 : Nat) : Option XS := (xgR σ r0 12 5).bind fun z2 => (xgI σ r0 12 11).bind fun v4 => (xaI σ 20 z2 v4).bind fun v6 => xsw v6 (21) [(xck σ r0 12).bind fun _ => (f_X12_passes σ r0).bind fun σ9 => (xck σ9 r0 12).bind fun _ => (f_X12_mustJ σ9 r0).bind fun σ12 => f_X12_line_j174 σ12 r0, (xck σ r0 12).bind fun _ => (f_X12_passes σ r0).bind fun σ9 => (xck σ9 r0 12).bind fun _ => (f_X12_mustJ σ9 r0).bind fun σ12 => f_X12_line_j174 σ12 r0, (xck σ r0 12).bind fun _ => (f_X12_passes σ r0).bind fun σ9 => (xck σ9 r0 12).bind fun _ => (f_X12_mustJ σ9 r0).bind fun σ12 => f_X12_line_j174 σ12 r0, (xck σ r0 12).bind fun _ => (f_X12_passes σ r0).bind fun σ9 => (xck σ9 r0 12).bind fun _ => (f_X12_mustWay σ9 r0).bind fun σ12 => f_X12_line_j174 σ12 r0, (xck σ r0 12).bind fun _ => (f_X12_passes σ r0).bind fun σ9 => (xck σ9 r0 12).bind fun _ => (f_X12_must σ9 r0 (2 : Int32)).bind fun σ12 => (xck σ12 r0 12).bind fun _ => (f_X12_mustWay σ12 r0).bind fun σ15 => (xck σ15 r0 12).bind fun _ => (f_X12_mustJ σ15 r0).bind fun σ18 => f_X12_line_j174 σ18 r0, (xck σ r0 12).bind fun _ => (f_X12_passes σ r0).bind fun σ9 => (xck σ9 r0 12).bind fun _ => (f_X12_must σ9 r0 (2 : Int32)).bind fun σ12 => (xck σ12 r0 12).bind fun _ => (f_X12_mustJ σ12 r0).bind fun σ15 => f_X12_line_j174 σ15 r0, (xck σ r0 12).bind fun _ => (f_X12_passes σ r0).bind fun σ9 => (xck σ9 r0 12).bind fun _ => (f_X12_must σ9 r0 (2 : Int32)).bind fun σ12 => (xck σ12 r0 12).bind fun _ => (f_X12_is σ12 r0 (28 : Int32)).bind fun v15 => if v15 = 0 then ((xck σ12 r0 12).bind fun _ => (f_X12_must σ12 r0 (29 : Int32)).bind fun σ18 => f_X12_line_j174 σ18 r0) else (xck σ12 r0 12).bind fun _ => (f_X12_passes σ12 r0).bind fun σ18 => f_X12_line_j174 σ18 r0, (xck σ r0 12).bind fun _ => (f_X12_fail σ r0 (1 : Int32)).bind fun σ9 => some σ9, (xck σ r0 12).bind fun _ => (f_X12_fail σ r0 (1 : Int32)).bind fun σ9 => some σ9, (xck σ r0 12).bind fun _ => (f_X12_passes σ r0).bind fun σ9 => (xck σ9 r0 12).bind fun _ => (f_X12_must σ9 r0 (2 : Int32)).bind fun σ12 => f_X12_line_j174 σ12 r0] ((xck σ r0 12).bind fun _ => (f_X12_fail σ r0 (1 : Int32)).bind fun σ9 => some σ9)
theorem s_X12_line_j174 {G : XG} (C : XC G cX12_line RX12 none 2 4 82) {σ : XS} {r0 : Nat} {x : XS} (hf : f_X12_line_j174 σ r0 = some x) (hk : XEnd G none x) : WW G 174 [(0, .ref (gB G + r0))] [] σ := by
  refine ww_aload_n (pc := 174) C 0 dX12_line_174 rfl ?_
  refine ww_iconst (pc := 175) (v := (4 : Int32)) C dX12_line_175 (by decide) ?_
  obtain ⟨_, e1, hf⟩ := xbd hf
  obtain ⟨σ3, e2, hf⟩ := xbd hf
  refine ww_callVv (pc := 176) (as := [.int (4 : Int32)]) (st := []) C (k_X12_must (l := gl G) (E := gE G) (hb := gB G) (σ := σ) e2) rfl (by decide) xc_X12_159 q1442 qp124 (xck_spec e1) rfl (by decide) (xst4 (Nat.le_of_ble_eq_true rfl)) (m_X12_must e2).le (m_X12_must e2).lim dX12_line_176 ?_
  have hf := xsj hf
  subst hf
  exact ww_vret (pc := 179) C hk dX12_line_179
theorem m_X12_line_j174 {σ : XS} {r0 : Nat} {x : XS} (hf : f_X12_line_j174 σ r0 = some x) : xsame σ x := by
  have hm := xsame.rf (σ := σ)
  obtain ⟨_, e1, hf⟩ := xbd hf
  obtain ⟨σ3, e2, hf⟩ := xbd hf
  have hm := hm.tr (m_X12_must e2)
  have hf := xsj hf
  subst hf
  exact hm
theorem s_X12_line_e {G : XG} (C : XC G cX12_line RX12 none 2 4 82) {σ : XS} {r0 : Nat} {x : XS} (hf : f_X12_line σ r0 = some x) (hk : XEnd G none x) : WW G 0 [(0, .ref (gB G + r0))] [] σ := by
  refine ww_aload_n (pc := 0) C 0 dX12_line_0 rfl ?_
  obtain ⟨z2, e1, hf⟩ := xbd hf
  refine gf_X12_20 (pc := 1) C e1 dX12_line_1 ?_
  refine ww_aload_n (pc := 4) C 0 dX12_line_4 rfl ?_
  obtain ⟨v4, e3, hf⟩ := xbd hf
  refine gf_X12_135 (pc := 5) C e3 dX12_line_5 ?_
  obtain ⟨v6, e5, hf⟩ := xbd hf
  refine ww_iald (pc := 8) C e5 dX12_line_8 ?_
  refine ww_istore_n (pc := 9) (lv' := [(1, .int v6), (0, .ref (gB G + r0))]) C dX12_line_9 (by decide) rfl ?_
  refine ww_iload_n (pc := 10) C 0 dX12_line_10 rfl ?_
  refine ww_table (pc := 11) C dX12_line_11 (fun k hk1 hk2 => ?_) (fun ho => ?_)
  · rcases (by omega : k = 0 ∨ k = 1 ∨ k = 2 ∨ k = 3 ∨ k = 4 ∨ k = 5 ∨ k = 6 ∨ k = 7 ∨ k = 8 ∨ k = 9) with rfl | rfl | rfl | rfl | rfl | rfl | rfl | rfl | rfl | rfl
    · refine ⟨64, 53, rfl, by decide, ?_⟩
      have hf := xsw_in 0 hk1 rfl hf
      refine ww_aload_n (pc := 64) C 1 dX12_line_64 rfl ?_
      obtain ⟨_, e7, hf⟩ := xbd hf
      obtain ⟨σ9, e8, hf⟩ := xbd hf
      refine ww_callVv (pc := 65) (as := []) (st := []) C (k_X12_passes (l := gl G) (E := gE G) (hb := gB G) (σ := σ) e8) rfl (by decide) xc_X12_153 q1450 qp126 (xck_spec e7) rfl (by decide) (xst4 (Nat.le_of_ble_eq_true rfl)) (m_X12_passes e8).le (m_X12_passes e8).lim dX12_line_65 ?_
      refine ww_aload_n (pc := 68) C 1 dX12_line_68 rfl ?_
      obtain ⟨_, e10, hf⟩ := xbd hf
      obtain ⟨σ12, e11, hf⟩ := xbd hf
      refine ww_callVv (pc := 69) (as := []) (st := []) C (k_X12_mustJ (l := gl G) (E := gE G) (hb := gB G) (σ := σ9) e11) rfl (by decide) xc_X12_203 q1462 qp129 (xck_spec e10) rfl (by decide) (xst4 (Nat.le_of_ble_eq_true rfl)) (m_X12_mustJ e11).le (m_X12_mustJ e11).lim dX12_line_69 ?_
      refine ww_goto (pc := 72) (tgt := 174) C dX12_line_72 (by decide) ?_
      refine ww_sub [1] rfl ?_
      exact s_X12_line_j174 C hf hk
    · refine ⟨64, 53, rfl, by decide, ?_⟩
      have hf := xsw_in 1 hk1 rfl hf
      refine ww_aload_n (pc := 64) C 1 dX12_line_64 rfl ?_
      obtain ⟨_, e7, hf⟩ := xbd hf
      obtain ⟨σ9, e8, hf⟩ := xbd hf
      refine ww_callVv (pc := 65) (as := []) (st := []) C (k_X12_passes (l := gl G) (E := gE G) (hb := gB G) (σ := σ) e8) rfl (by decide) xc_X12_153 q1450 qp126 (xck_spec e7) rfl (by decide) (xst4 (Nat.le_of_ble_eq_true rfl)) (m_X12_passes e8).le (m_X12_passes e8).lim dX12_line_65 ?_
      refine ww_aload_n (pc := 68) C 1 dX12_line_68 rfl ?_
      obtain ⟨_, e10, hf⟩ := xbd hf
      obtain ⟨σ12, e11, hf⟩ := xbd hf
      refine ww_callVv (pc := 69) (as := []) (st := []) C (k_X12_mustJ (l := gl G) (E := gE G) (hb := gB G) (σ := σ9) e11) rfl (by decide) xc_X12_203 q1462 qp129 (xck_spec e10) rfl (by decide) (xst4 (Nat.le_of_ble_eq_true rfl)) (m_X12_mustJ e11).le (m_X12_mustJ e11).lim dX12_line_69 ?_
      refine ww_goto (pc := 72) (tgt := 174) C dX12_line_72 (by decide) ?_
      refine ww_sub [1] rfl ?_
      exact s_X12_line_j174 C hf hk
    · refine ⟨64, 53, rfl, by decide, ?_⟩
      have hf := xsw_in 2 hk1 rfl hf
      refine ww_aload_n (pc := 64) C 1 dX12_line_64 rfl ?_
      obtain ⟨_, e7, hf⟩ := xbd hf
      obtain ⟨σ9, e8, hf⟩ := xbd hf
      refine ww_callVv (pc := 65) (as := []) (st := []) C (k_X12_passes (l := gl G) (E := gE G) (hb := gB G) (σ := σ) e8) rfl (by decide) xc_X12_153 q1450 qp126 (xck_spec e7) rfl (by decide) (xst4 (Nat.le_of_ble_eq_true rfl)) (m_X12_passes e8).le (m_X12_passes e8).lim dX12_line_65 ?_
      refine ww_aload_n (pc := 68) C 1 dX12_line_68 rfl ?_
      obtain ⟨_, e10, hf⟩ := xbd hf
      obtain ⟨σ12, e11, hf⟩ := xbd hf
      refine ww_callVv (pc := 69) (as := []) (st := []) C (k_X12_mustJ (l := gl G) (E := gE G) (hb := gB G) (σ := σ9) e11) rfl (by decide) xc_X12_203 q1462 qp129 (xck_spec e10) rfl (by decide) (xst4 (Nat.le_of_ble_eq_true rfl)) (m_X12_mustJ e11).le (m_X12_mustJ e11).lim dX12_line_69 ?_
      refine ww_goto (pc := 72) (tgt := 174) C dX12_line_72 (by decide) ?_
      refine ww_sub [1] rfl ?_
      exact s_X12_line_j174 C hf hk
    · refine ⟨75, 64, rfl, by decide, ?_⟩
      have hf := xsw_in 3 hk1 rfl hf
      refine ww_aload_n (pc := 75) C 1 dX12_line_75 rfl ?_
      obtain ⟨_, e7, hf⟩ := xbd hf
      obtain ⟨σ9, e8, hf⟩ := xbd hf
      refine ww_callVv (pc := 76) (as := []) (st := []) C (k_X12_passes (l := gl G) (E := gE G) (hb := gB G) (σ := σ) e8) rfl (by decide) xc_X12_153 q1450 qp126 (xck_spec e7) rfl (by decide) (xst4 (Nat.le_of_ble_eq_true rfl)) (m_X12_passes e8).le (m_X12_passes e8).lim dX12_line_76 ?_
      refine ww_aload_n (pc := 79) C 1 dX12_line_79 rfl ?_
      obtain ⟨_, e10, hf⟩ := xbd hf
      obtain ⟨σ12, e11, hf⟩ := xbd hf
      refine ww_callVv (pc := 80) (as := []) (st := []) C (k_X12_mustWay (l := gl G) (E := gE G) (hb := gB G) (σ := σ9) e11) rfl (by decide) xc_X12_206 q1466 qp130 (xck_spec e10) rfl (by decide) (xst4 (Nat.le_of_ble_eq_true rfl)) (m_X12_mustWay e11).le (m_X12_mustWay e11).lim dX12_line_80 ?_
      refine ww_goto (pc := 83) (tgt := 174) C dX12_line_83 (by decide) ?_
      refine ww_sub [1] rfl ?_
      exact s_X12_line_j174 C hf hk
    · refine ⟨86, 75, rfl, by decide, ?_⟩
      have hf := xsw_in 4 hk1 rfl hf
      refine ww_aload_n (pc := 86) C 1 dX12_line_86 rfl ?_
      obtain ⟨_, e7, hf⟩ := xbd hf
      obtain ⟨σ9, e8, hf⟩ := xbd hf
      refine ww_callVv (pc := 87) (as := []) (st := []) C (k_X12_passes (l := gl G) (E := gE G) (hb := gB G) (σ := σ) e8) rfl (by decide) xc_X12_153 q1450 qp126 (xck_spec e7) rfl (by decide) (xst4 (Nat.le_of_ble_eq_true rfl)) (m_X12_passes e8).le (m_X12_passes e8).lim dX12_line_87 ?_
      refine ww_aload_n (pc := 90) C 1 dX12_line_90 rfl ?_
      refine ww_iconst (pc := 91) (v := (2 : Int32)) C dX12_line_91 (by decide) ?_
      obtain ⟨_, e10, hf⟩ := xbd hf
      obtain ⟨σ12, e11, hf⟩ := xbd hf
      refine ww_callVv (pc := 92) (as := [.int (2 : Int32)]) (st := []) C (k_X12_must (l := gl G) (E := gE G) (hb := gB G) (σ := σ9) e11) rfl (by decide) xc_X12_159 q1442 qp124 (xck_spec e10) rfl (by decide) (xst4 (Nat.le_of_ble_eq_true rfl)) (m_X12_must e11).le (m_X12_must e11).lim dX12_line_92 ?_
      refine ww_aload_n (pc := 95) C 1 dX12_line_95 rfl ?_
      obtain ⟨_, e13, hf⟩ := xbd hf
      obtain ⟨σ15, e14, hf⟩ := xbd hf
      refine ww_callVv (pc := 96) (as := []) (st := []) C (k_X12_mustWay (l := gl G) (E := gE G) (hb := gB G) (σ := σ12) e14) rfl (by decide) xc_X12_206 q1466 qp130 (xck_spec e13) rfl (by decide) (xst4 (Nat.le_of_ble_eq_true rfl)) (m_X12_mustWay e14).le (m_X12_mustWay e14).lim dX12_line_96 ?_
      refine ww_aload_n (pc := 99) C 1 dX12_line_99 rfl ?_
      obtain ⟨_, e16, hf⟩ := xbd hf
      obtain ⟨σ18, e17, hf⟩ := xbd hf
      refine ww_callVv (pc := 100) (as := []) (st := []) C (k_X12_mustJ (l := gl G) (E := gE G) (hb := gB G) (σ := σ15) e17) rfl (by decide) xc_X12_203 q1462 qp129 (xck_spec e16) rfl (by decide) (xst4 (Nat.le_of_ble_eq_true rfl)) (m_X12_mustJ e17).le (m_X12_mustJ e17).lim dX12_line_100 ?_
      refine ww_goto (pc := 103) (tgt := 174) C dX12_line_103 (by decide) ?_
      refine ww_sub [1] rfl ?_
      exact s_X12_line_j174 C hf hk
    · refine ⟨106, 95, rfl, by decide, ?_⟩
      have hf := xsw_in 5 hk1 rfl hf
      refine ww_aload_n (pc := 106) C 1 dX12_line_106 rfl ?_
      obtain ⟨_, e7, hf⟩ := xbd hf
      obtain ⟨σ9, e8, hf⟩ := xbd hf
      refine ww_callVv (pc := 107) (as := []) (st := []) C (k_X12_passes (l := gl G) (E := gE G) (hb := gB G) (σ := σ) e8) rfl (by decide) xc_X12_153 q1450 qp126 (xck_spec e7) rfl (by decide) (xst4 (Nat.le_of_ble_eq_true rfl)) (m_X12_passes e8).le (m_X12_passes e8).lim dX12_line_107 ?_
      refine ww_aload_n (pc := 110) C 1 dX12_line_110 rfl ?_
      refine ww_iconst (pc := 111) (v := (2 : Int32)) C dX12_line_111 (by decide) ?_
      obtain ⟨_, e10, hf⟩ := xbd hf
      obtain ⟨σ12, e11, hf⟩ := xbd hf
      refine ww_callVv (pc := 112) (as := [.int (2 : Int32)]) (st := []) C (k_X12_must (l := gl G) (E := gE G) (hb := gB G) (σ := σ9) e11) rfl (by decide) xc_X12_159 q1442 qp124 (xck_spec e10) rfl (by decide) (xst4 (Nat.le_of_ble_eq_true rfl)) (m_X12_must e11).le (m_X12_must e11).lim dX12_line_112 ?_
      refine ww_aload_n (pc := 115) C 1 dX12_line_115 rfl ?_
      obtain ⟨_, e13, hf⟩ := xbd hf
      obtain ⟨σ15, e14, hf⟩ := xbd hf
      refine ww_callVv (pc := 116) (as := []) (st := []) C (k_X12_mustJ (l := gl G) (E := gE G) (hb := gB G) (σ := σ12) e14) rfl (by decide) xc_X12_203 q1462 qp129 (xck_spec e13) rfl (by decide) (xst4 (Nat.le_of_ble_eq_true rfl)) (m_X12_mustJ e14).le (m_X12_mustJ e14).lim dX12_line_116 ?_
      refine ww_goto (pc := 119) (tgt := 174) C dX12_line_119 (by decide) ?_
      refine ww_sub [1] rfl ?_
      exact s_X12_line_j174 C hf hk
    · refine ⟨122, 111, rfl, by decide, ?_⟩
      have hf := xsw_in 6 hk1 rfl hf
      refine ww_aload_n (pc := 122) C 1 dX12_line_122 rfl ?_
      obtain ⟨_, e7, hf⟩ := xbd hf
      obtain ⟨σ9, e8, hf⟩ := xbd hf
      refine ww_callVv (pc := 123) (as := []) (st := []) C (k_X12_passes (l := gl G) (E := gE G) (hb := gB G) (σ := σ) e8) rfl (by decide) xc_X12_153 q1450 qp126 (xck_spec e7) rfl (by decide) (xst4 (Nat.le_of_ble_eq_true rfl)) (m_X12_passes e8).le (m_X12_passes e8).lim dX12_line_123 ?_
      refine ww_aload_n (pc := 126) C 1 dX12_line_126 rfl ?_
      refine ww_iconst (pc := 127) (v := (2 : Int32)) C dX12_line_127 (by decide) ?_
      obtain ⟨_, e10, hf⟩ := xbd hf
      obtain ⟨σ12, e11, hf⟩ := xbd hf
      refine ww_callVv (pc := 128) (as := [.int (2 : Int32)]) (st := []) C (k_X12_must (l := gl G) (E := gE G) (hb := gB G) (σ := σ9) e11) rfl (by decide) xc_X12_159 q1442 qp124 (xck_spec e10) rfl (by decide) (xst4 (Nat.le_of_ble_eq_true rfl)) (m_X12_must e11).le (m_X12_must e11).lim dX12_line_128 ?_
      refine ww_aload_n (pc := 131) C 1 dX12_line_131 rfl ?_
      refine ww_bipush (pc := 132) (v := (28 : Int32)) C dX12_line_132 (by decide) ?_
      obtain ⟨_, e13, hf⟩ := xbd hf
      obtain ⟨v15, e14, hf⟩ := xbd hf
      refine ww_callVi (pc := 134) (as := [.int (28 : Int32)]) (st := []) C (k_X12_is (l := gl G) (E := gE G) (hb := gB G) (σ := σ12) e14) rfl (by decide) xc_X12_150 q1446 qp125 (xck_spec e13) rfl (by decide) (xst4 (Nat.le_of_ble_eq_true rfl)) xsame.rf.le xsame.rf.lim dX12_line_134 ?_
      refine ww_if_eq (pc := 137) (tgt := 147) C dX12_line_137 (by decide) (fun q => ?_) (fun q => ?_)
      · have hf := xip q hf
        refine ww_aload_n (pc := 147) C 1 dX12_line_147 rfl ?_
        refine ww_bipush (pc := 148) (v := (29 : Int32)) C dX12_line_148 (by decide) ?_
        obtain ⟨_, e16, hf⟩ := xbd hf
        obtain ⟨σ18, e17, hf⟩ := xbd hf
        refine ww_callVv (pc := 150) (as := [.int (29 : Int32)]) (st := []) C (k_X12_must (l := gl G) (E := gE G) (hb := gB G) (σ := σ12) e17) rfl (by decide) xc_X12_159 q1442 qp124 (xck_spec e16) rfl (by decide) (xst4 (Nat.le_of_ble_eq_true rfl)) (m_X12_must e17).le (m_X12_must e17).lim dX12_line_150 ?_
        refine ww_goto (pc := 153) (tgt := 174) C dX12_line_153 (by decide) ?_
        refine ww_sub [1] rfl ?_
        exact s_X12_line_j174 C hf hk
      · have hf := xin q hf
        refine ww_aload_n (pc := 140) C 1 dX12_line_140 rfl ?_
        obtain ⟨_, e16, hf⟩ := xbd hf
        obtain ⟨σ18, e17, hf⟩ := xbd hf
        refine ww_callVv (pc := 141) (as := []) (st := []) C (k_X12_passes (l := gl G) (E := gE G) (hb := gB G) (σ := σ12) e17) rfl (by decide) xc_X12_153 q1450 qp126 (xck_spec e16) rfl (by decide) (xst4 (Nat.le_of_ble_eq_true rfl)) (m_X12_passes e17).le (m_X12_passes e17).lim dX12_line_141 ?_
        refine ww_goto (pc := 144) (tgt := 174) C dX12_line_144 (by decide) ?_
        refine ww_sub [1] rfl ?_
        exact s_X12_line_j174 C hf hk
    · refine ⟨168, 157, rfl, by decide, ?_⟩
      have hf := xsw_in 7 hk1 rfl hf
      refine ww_aload_n (pc := 168) C 1 dX12_line_168 rfl ?_
      refine ww_iconst (pc := 169) (v := (1 : Int32)) C dX12_line_169 (by decide) ?_
      obtain ⟨_, e7, hf⟩ := xbd hf
      obtain ⟨σ9, e8, hf⟩ := xbd hf
      refine ww_callVv (pc := 170) (as := [.int (1 : Int32)]) (st := []) C (k_X12_fail (l := gl G) (E := gE G) (hb := gB G) (σ := σ) e8) rfl (by decide) xc_X12_147 q1454 qp127 (xck_spec e7) rfl (by decide) (xst4 (Nat.le_of_ble_eq_true rfl)) (m_X12_fail e8).le (m_X12_fail e8).lim dX12_line_170 ?_
      have hf := xsj hf
      subst hf
      exact ww_vret (pc := 173) C hk dX12_line_173
    · refine ⟨168, 157, rfl, by decide, ?_⟩
      have hf := xsw_in 8 hk1 rfl hf
      refine ww_aload_n (pc := 168) C 1 dX12_line_168 rfl ?_
      refine ww_iconst (pc := 169) (v := (1 : Int32)) C dX12_line_169 (by decide) ?_
      obtain ⟨_, e7, hf⟩ := xbd hf
      obtain ⟨σ9, e8, hf⟩ := xbd hf
      refine ww_callVv (pc := 170) (as := [.int (1 : Int32)]) (st := []) C (k_X12_fail (l := gl G) (E := gE G) (hb := gB G) (σ := σ) e8) rfl (by decide) xc_X12_147 q1454 qp127 (xck_spec e7) rfl (by decide) (xst4 (Nat.le_of_ble_eq_true rfl)) (m_X12_fail e8).le (m_X12_fail e8).lim dX12_line_170 ?_
      have hf := xsj hf
      subst hf
      exact ww_vret (pc := 173) C hk dX12_line_173
    · refine ⟨156, 145, rfl, by decide, ?_⟩
      have hf := xsw_in 9 hk1 rfl hf
      refine ww_aload_n (pc := 156) C 1 dX12_line_156 rfl ?_
      obtain ⟨_, e7, hf⟩ := xbd hf
      obtain ⟨σ9, e8, hf⟩ := xbd hf
      refine ww_callVv (pc := 157) (as := []) (st := []) C (k_X12_passes (l := gl G) (E := gE G) (hb := gB G) (σ := σ) e8) rfl (by decide) xc_X12_153 q1450 qp126 (xck_spec e7) rfl (by decide) (xst4 (Nat.le_of_ble_eq_true rfl)) (m_X12_passes e8).le (m_X12_passes e8).lim dX12_line_157 ?_
      refine ww_aload_n (pc := 160) C 1 dX12_line_160 rfl ?_
      refine ww_iconst (pc := 161) (v := (2 : Int32)) C dX12_line_161 (by decide) ?_
      obtain ⟨_, e10, hf⟩ := xbd hf
      obtain ⟨σ12, e11, hf⟩ := xbd hf
      refine ww_callVv (pc := 162) (as := [.int (2 : Int32)]) (st := []) C (k_X12_must (l := gl G) (E := gE G) (hb := gB G) (σ := σ9) e11) rfl (by decide) xc_X12_159 q1442 qp124 (xck_spec e10) rfl (by decide) (xst4 (Nat.le_of_ble_eq_true rfl)) (m_X12_must e11).le (m_X12_must e11).lim dX12_line_162 ?_
      refine ww_goto (pc := 165) (tgt := 174) C dX12_line_165 (by decide) ?_
      refine ww_sub [1] rfl ?_
      exact s_X12_line_j174 C hf hk
  · refine ⟨168, by decide, ?_⟩
    have hf := xsw_out ho rfl hf
    refine ww_aload_n (pc := 168) C 1 dX12_line_168 rfl ?_
    refine ww_iconst (pc := 169) (v := (1 : Int32)) C dX12_line_169 (by decide) ?_
    obtain ⟨_, e7, hf⟩ := xbd hf
    obtain ⟨σ9, e8, hf⟩ := xbd hf
    refine ww_callVv (pc := 170) (as := [.int (1 : Int32)]) (st := []) C (k_X12_fail (l := gl G) (E := gE G) (hb := gB G) (σ := σ) e8) rfl (by decide) xc_X12_147 q1454 qp127 (xck_spec e7) rfl (by decide) (xst4 (Nat.le_of_ble_eq_true rfl)) (m_X12_fail e8).le (m_X12_fail e8).lim dX12_line_170 ?_
    have hf := xsj hf
    subst hf
    exact ww_vret (pc := 173) C hk dX12_line_173
theorem m_X12_line {σ : XS} {r0 : Nat} {x : XS} (hf : f_X12_line σ r0 = some x) : xsame σ x := by
  have hm := xsame.rf (σ := σ)
  obtain ⟨z2, e1, hf⟩ := xbd hf
  obtain ⟨v4, e3, hf⟩ := xbd hf
  obtain ⟨v6, e5, hf⟩ := xbd hf
  by_cases ho : (v6).toInt < 21 ∨ 30 < (v6).toInt
  · have hf := xsw_out ho rfl hf
    obtain ⟨_, e7, hf⟩ := xbd hf
    obtain ⟨σ9, e8, hf⟩ := xbd hf
    have hm := hm.tr (m_X12_fail e8)
    have hf := xsj hf
    subst hf
    exact hm
  · rcases (by omega : (v6).toInt = 21 + ((0 : Nat) : Int) ∨ (v6).toInt = 21 + ((1 : Nat) : Int) ∨ (v6).toInt = 21 + ((2 : Nat) : Int) ∨ (v6).toInt = 21 + ((3 : Nat) : Int) ∨ (v6).toInt = 21 + ((4 : Nat) : Int) ∨ (v6).toInt = 21 + ((5 : Nat) : Int) ∨ (v6).toInt = 21 + ((6 : Nat) : Int) ∨ (v6).toInt = 21 + ((7 : Nat) : Int) ∨ (v6).toInt = 21 + ((8 : Nat) : Int) ∨ (v6).toInt = 21 + ((9 : Nat) : Int)) with hk1 | hk1 | hk1 | hk1 | hk1 | hk1 | hk1 | hk1 | hk1 | hk1
    · have hf := xsw_in 0 hk1 rfl hf
      obtain ⟨_, e7, hf⟩ := xbd hf
      obtain ⟨σ9, e8, hf⟩ := xbd hf
      have hm := hm.tr (m_X12_passes e8)
      obtain ⟨_, e10, hf⟩ := xbd hf
      obtain ⟨σ12, e11, hf⟩ := xbd hf
      have hm := hm.tr (m_X12_mustJ e11)
      exact hm.tr (m_X12_line_j174 hf)
    · have hf := xsw_in 1 hk1 rfl hf
      obtain ⟨_, e7, hf⟩ := xbd hf
      obtain ⟨σ9, e8, hf⟩ := xbd hf
      have hm := hm.tr (m_X12_passes e8)
      obtain ⟨_, e10, hf⟩ := xbd hf
      obtain ⟨σ12, e11, hf⟩ := xbd hf
      have hm := hm.tr (m_X12_mustJ e11)
      exact hm.tr (m_X12_line_j174 hf)
    · have hf := xsw_in 2 hk1 rfl hf
      obtain ⟨_, e7, hf⟩ := xbd hf
      obtain ⟨σ9, e8, hf⟩ := xbd hf
      have hm := hm.tr (m_X12_passes e8)
      obtain ⟨_, e10, hf⟩ := xbd hf
      obtain ⟨σ12, e11, hf⟩ := xbd hf
      have hm := hm.tr (m_X12_mustJ e11)
      exact hm.tr (m_X12_line_j174 hf)
    · have hf := xsw_in 3 hk1 rfl hf
      obtain ⟨_, e7, hf⟩ := xbd hf
      obtain ⟨σ9, e8, hf⟩ := xbd hf
      have hm := hm.tr (m_X12_passes e8)
      obtain ⟨_, e10, hf⟩ := xbd hf
      obtain ⟨σ12, e11, hf⟩ := xbd hf
      have hm := hm.tr (m_X12_mustWay e11)
      exact hm.tr (m_X12_line_j174 hf)
    · have hf := xsw_in 4 hk1 rfl hf
      obtain ⟨_, e7, hf⟩ := xbd hf
      obtain ⟨σ9, e8, hf⟩ := xbd hf
      have hm := hm.tr (m_X12_passes e8)
      obtain ⟨_, e10, hf⟩ := xbd hf
      obtain ⟨σ12, e11, hf⟩ := xbd hf
      have hm := hm.tr (m_X12_must e11)
      obtain ⟨_, e13, hf⟩ := xbd hf
      obtain ⟨σ15, e14, hf⟩ := xbd hf
      have hm := hm.tr (m_X12_mustWay e14)
      obtain ⟨_, e16, hf⟩ := xbd hf
      obtain ⟨σ18, e17, hf⟩ := xbd hf
      have hm := hm.tr (m_X12_mustJ e17)
      exact hm.tr (m_X12_line_j174 hf)
    · have hf := xsw_in 5 hk1 rfl hf
      obtain ⟨_, e7, hf⟩ := xbd hf
      obtain ⟨σ9, e8, hf⟩ := xbd hf
      have hm := hm.tr (m_X12_passes e8)
      obtain ⟨_, e10, hf⟩ := xbd hf
      obtain ⟨σ12, e11, hf⟩ := xbd hf
      have hm := hm.tr (m_X12_must e11)
      obtain ⟨_, e13, hf⟩ := xbd hf
      obtain ⟨σ15, e14, hf⟩ := xbd hf
      have hm := hm.tr (m_X12_mustJ e14)
      exact hm.tr (m_X12_line_j174 hf)
    · have hf := xsw_in 6 hk1 rfl hf
      obtain ⟨_, e7, hf⟩ := xbd hf
      obtain ⟨σ9, e8, hf⟩ := xbd hf
      have hm := hm.tr (m_X12_passes e8)
      obtain ⟨_, e10, hf⟩ := xbd hf
      obtain ⟨σ12, e11, hf⟩ := xbd hf
      have hm := hm.tr (m_X12_must e11)
      obtain ⟨_, e13, hf⟩ := xbd hf
      obtain ⟨v15, e14, hf⟩ := xbd hf
      by_cases q : v15 = 0
      · have hf := xip q hf
        obtain ⟨_, e16, hf⟩ := xbd hf
        obtain ⟨σ18, e17, hf⟩ := xbd hf
        have hm := hm.tr (m_X12_must e17)
        exact hm.tr (m_X12_line_j174 hf)
      · have hf := xin q hf
        obtain ⟨_, e16, hf⟩ := xbd hf
        obtain ⟨σ18, e17, hf⟩ := xbd hf
        have hm := hm.tr (m_X12_passes e17)
        exact hm.tr (m_X12_line_j174 hf)
    · have hf := xsw_in 7 hk1 rfl hf
      obtain ⟨_, e7, hf⟩ := xbd hf
      obtain ⟨σ9, e8, hf⟩ := xbd hf
      have hm := hm.tr (m_X12_fail e8)
      have hf := xsj hf
      subst hf
      exact hm
    · have hf := xsw_in 8 hk1 rfl hf
      obtain ⟨_, e7, hf⟩ := xbd hf
      obtain ⟨σ9, e8, hf⟩ := xbd hf
      have hm := hm.tr (m_X12_fail e8)
      have hf := xsj hf
      subst hf
      exact hm
    · have hf := xsw_in 9 hk1 rfl hf
      obtain ⟨_, e7, hf⟩ := xbd hf
      obtain ⟨σ9, e8, hf⟩ := xbd hf
      have hm := hm.tr (m_X12_passes e8)
      obtain ⟨_, e10, hf⟩ := xbd hf
      obtain ⟨σ12, e11, hf⟩ := xbd hf
      have hm := hm.tr (m_X12_must e11)
      exact hm.tr (m_X12_line_j174 hf)
theorem k_X12_line {l : Launch} {E : XD} {hb : Nat} {σ : XS} {r0 : Nat} {x : XS} (h : f_X12_line σ r0 = some x) : XM l yX12_line cX12_line 2 none 4 82 E hb [.ref (hb + r0)] σ none x := by
  refine xm_of (by decide) (Nat.le_of_ble_eq_true rfl) (m_X12_line h).le (fun G hG C hl hQ => ?_)
  obtain ⟨rfl, rfl, rfl, hN⟩ := hG
  exact s_X12_line_e C h hQ
noncomputable def f_X12_part_b14 (x0 : Int32) (x1 : Int32) (x2 : Int32) : Int32 × Int32 → Option ((Int32 × Int32) ⊕ (Int32)) := fun a => match a with
  | (x3, x4) => if x4 ≤ 0 then ((if x2 = 0 then ((xdz x3).bind fun _ => some (x0 / x3)) else (xdz x3).bind fun _ => some (x1 / x3)).map .inr) else (xdz x4).bind fun _ => some (.inl (x4, x3 - x3 / x4 * x4))
noncomputable def f_X12_part (x0 : Int32) (x1 : Int32) (x2 : Int32) : Option Int32 := if 0 ≤ x0 then (xloop (f_X12_part_b14 x0 x1 x2) (x0, x1)) else xloop (f_X12_part_b14 x0 x1 x2) (-x0, x1)
theorem s_X12_part_l14 {G : XG} (C : XC G cX12_part RX12 (some .int) 6 0 0) {σ : XS} {x0 : Int32} {x1 : Int32} {x2 : Int32} {a : Int32 × Int32} {x : Int32} (hf : xloop (f_X12_part_b14 x0 x1 x2) a = some x) (hk : XEnd G (some (.int x)) σ) : WW G 14 [(0, .int x0), (1, .int x1), (2, .int x2), (3, .int a.1), (4, .int a.2)] [] σ := by
  refine xloop_ind (P := fun a => WW G 14 [(0, .int x0), (1, .int x1), (2, .int x2), (3, .int a.1), (4, .int a.2)] [] σ) (fun a y hf hc he => ?_) hf
  obtain ⟨x3, x4⟩ := a
  have hk : (∀ a' : Int32 × Int32, y = .inl a' → WW G 14 [(0, .int x0), (1, .int x1), (2, .int x2), (3, .int a'.1), (4, .int a'.2)] [] σ) ∧ (∀ b1 : Int32, y = .inr b1 → XEnd G (some (.int b1)) σ) := ⟨hc, fun b e => by have h9 := he b e; subst h9; exact hk⟩
  refine ww_iload (pc := 14) C 4 dX12_part_14 rfl ?_
  refine ww_if_le (pc := 16) (tgt := 35) C dX12_part_16 (by decide) (fun q => ?_) (fun q => ?_)
  · have hf := xip q hf
    obtain ⟨b0, hg, e9⟩ := xmj hf
    subst e9
    have hf := hg
    have hk := hk.2 _ rfl
    refine ww_iload_n (pc := 35) C 2 dX12_part_35 rfl ?_
    refine ww_if_ne (pc := 36) (tgt := 43) C dX12_part_36 (by decide) (fun q => ?_) (fun q => ?_)
    · have hf := xin q hf
      refine ww_iload_n (pc := 43) C 1 dX12_part_43 rfl ?_
      refine ww_iload_n (pc := 44) C 3 dX12_part_44 rfl ?_
      obtain ⟨_, e1, hf⟩ := xbd hf
      refine ww_idiv (pc := 45) C dX12_part_45 (xdz_spec e1) ?_
      have hf := xsj hf
      subst hf
      exact ww_iret (pc := 46) C hk dX12_part_46
    · have hf := xip q hf
      refine ww_iload_n (pc := 39) C 0 dX12_part_39 rfl ?_
      refine ww_goto (pc := 40) (tgt := 44) C dX12_part_40 (by decide) ?_
      refine ww_iload_n (pc := 44) C 3 dX12_part_44 rfl ?_
      obtain ⟨_, e1, hf⟩ := xbd hf
      refine ww_idiv (pc := 45) C dX12_part_45 (xdz_spec e1) ?_
      have hf := xsj hf
      subst hf
      exact ww_iret (pc := 46) C hk dX12_part_46
  · have hf := xin q hf
    refine ww_iload_n (pc := 19) C 3 dX12_part_19 rfl ?_
    refine ww_iload (pc := 20) C 4 dX12_part_20 rfl ?_
    obtain ⟨_, e1, hf⟩ := xbd hf
    refine ww_irem (pc := 22) C dX12_part_22 (xdz_spec e1) ?_
    refine ww_istore (pc := 23) (lv' := [(5, .int (x3 - x3 / x4 * x4)), (0, .int x0), (1, .int x1), (2, .int x2), (3, .int x3), (4, .int x4)]) C dX12_part_23 (by decide) rfl ?_
    refine ww_iload (pc := 25) C 5 dX12_part_25 rfl ?_
    refine ww_istore_n (pc := 27) (lv' := [(3, .int x4), (5, .int (x3 - x3 / x4 * x4)), (0, .int x0), (1, .int x1), (2, .int x2), (4, .int x4)]) C dX12_part_27 (by decide) rfl ?_
    refine ww_iload (pc := 28) C 1 dX12_part_28 rfl ?_
    refine ww_istore (pc := 30) (lv' := [(4, .int (x3 - x3 / x4 * x4)), (3, .int x4), (5, .int (x3 - x3 / x4 * x4)), (0, .int x0), (1, .int x1), (2, .int x2)]) C dX12_part_30 (by decide) rfl ?_
    refine ww_goto (pc := 32) (tgt := 14) C dX12_part_32 (by decide) ?_
    have hf := xsj hf
    subst hf
    refine ww_sub [3, 4, 5, 1, 0] rfl ?_
    exact hk.1 (x4, x3 - x3 / x4 * x4) rfl
theorem s_X12_part_e {G : XG} (C : XC G cX12_part RX12 (some .int) 6 0 0) {σ : XS} {x0 : Int32} {x1 : Int32} {x2 : Int32} {x : Int32} (hf : f_X12_part x0 x1 x2 = some x) (hk : XEnd G (some (.int x)) σ) : WW G 0 [(0, .int x0), (1, .int x1), (2, .int x2)] [] σ := by
  refine ww_iload_n (pc := 0) C 0 dX12_part_0 rfl ?_
  refine ww_if_ge (pc := 1) (tgt := 9) C dX12_part_1 (by decide) (fun q => ?_) (fun q => ?_)
  · have hf := xip q hf
    refine ww_iload_n (pc := 9) C 0 dX12_part_9 rfl ?_
    refine ww_istore_n (pc := 10) (lv' := [(3, .int x0), (0, .int x0), (1, .int x1), (2, .int x2)]) C dX12_part_10 (by decide) rfl ?_
    refine ww_iload_n (pc := 11) C 2 dX12_part_11 rfl ?_
    refine ww_istore (pc := 12) (lv' := [(4, .int x1), (3, .int x0), (0, .int x0), (1, .int x1), (2, .int x2)]) C dX12_part_12 (by decide) rfl ?_
    refine ww_sub [2, 3, 4, 1, 0] rfl ?_
    exact s_X12_part_l14 C (a := (x0, x1)) hf hk
  · have hf := xin q hf
    refine ww_iload_n (pc := 4) C 0 dX12_part_4 rfl ?_
    refine ww_ineg (pc := 5) C dX12_part_5 ?_
    refine ww_goto (pc := 6) (tgt := 10) C dX12_part_6 (by decide) ?_
    refine ww_istore_n (pc := 10) (lv' := [(3, .int (-x0)), (0, .int x0), (1, .int x1), (2, .int x2)]) C dX12_part_10 (by decide) rfl ?_
    refine ww_iload_n (pc := 11) C 2 dX12_part_11 rfl ?_
    refine ww_istore (pc := 12) (lv' := [(4, .int x1), (3, .int (-x0)), (0, .int x0), (1, .int x1), (2, .int x2)]) C dX12_part_12 (by decide) rfl ?_
    refine ww_sub [2, 3, 4, 1, 0] rfl ?_
    exact s_X12_part_l14 C (a := (-x0, x1)) hf hk
theorem k_X12_part {l : Launch} {E : XD} {hb : Nat} {σ : XS} {x0 : Int32} {x1 : Int32} {x2 : Int32} {x : Int32} (h : f_X12_part x0 x1 x2 = some x) : XM l yX12_part cX12_part 6 (some .int) 0 0 E hb [.int x0, .int x1, .int x2] σ (some (.int x)) σ := by
  refine xm_of (by decide) (Nat.le_of_ble_eq_true rfl) ⟨Nat.le_refl _, Nat.le_refl _⟩ (fun G hG C hl hQ => ?_)
  obtain ⟨rfl, rfl, rfl, hN⟩ := hG
  exact s_X12_part_e C h hQ
noncomputable def f_X12_mean_b36 (σ : XS) (r0 : Nat) (x1 : Int32) (x2 : Int32) : Int32 × Int32 → Option ((Int32 × Int32) ⊕ (Int32 × XS)) := fun a => match a with
  | (x3, x4) => (xck σ r0 12).bind fun _ => (f_X12_states σ r0).bind fun v3 => if v3 ≤ x4 then (((xgR σ r0 12 34).bind fun z5 => (xgR σ r0 12 36).bind fun z7 => (xaI σ 20 z7 x1).bind fun v9 => (xaI σ 20 z5 ((150 : Int32) + v9)).bind fun v11 => (f_X12_part x3 v11 x2).bind fun v13 => some (v13, σ)).map .inr) else (xgR σ r0 12 33).bind fun z5 => (xaI σ 20 z5 x4).bind fun v7 => (xgR σ r0 12 36).bind fun z9 => (xaI σ 20 z9 x1).bind fun v11 => if v7 = v11 then ((f_X12_bitsOf x4).bind fun v13 => some (.inl (x3 + v13, x4 + (1 : Int32)))) else some (.inl (x3, x4 + (1 : Int32)))
noncomputable def f_X12_mean (σ : XS) (r0 : Nat) (x1 : Int32) (x2 : Int32) : Option (Int32 × XS) := (xck σ r0 12).bind fun _ => (f_X12_knows σ r0).bind fun σ3 => (xgI σ3 r0 12 35).bind fun v5 => (f_X12_in x1 (0 : Int32) (v5 - (1 : Int32))).bind fun v7 => if v7 = 0 then (some ((-100000 : Int32), σ3)) else (f_X12_in x2 (0 : Int32) (1 : Int32)).bind fun v9 => if v9 = 0 then (some ((-100000 : Int32), σ3)) else xloop (f_X12_mean_b36 σ3 r0 x1 x2) ((0 : Int32), (0 : Int32))
theorem m_X12_mean_l36 {σ : XS} {r0 : Nat} {x1 : Int32} {x2 : Int32} {a : Int32 × Int32} {x : Int32 × XS} (hf : xloop (f_X12_mean_b36 σ r0 x1 x2) a = some x) : xsame σ x.2 := by
  refine xloop_ind (P := fun a => xsame σ x.2) (fun a y hf hc he => ?_) hf
  obtain ⟨x3, x4⟩ := a
  have hy : (∀ a' : Int32 × Int32, y = .inl a' → True) ∧ (∀ b1 : Int32 × XS, y = .inr b1 → xsame σ b1.2) := by
    have hm := xsame.rf (σ := σ)
    obtain ⟨_, e1, hf⟩ := xbd hf
    obtain ⟨v3, e2, hf⟩ := xbd hf
    by_cases q : v3 ≤ x4
    · have hf := xip q hf
      obtain ⟨b0, hg, e9⟩ := xmj hf
      subst e9
      have hf := hg
      refine ⟨fun a' e => xnc2 e, fun b e => ?_⟩
      have h9 := Sum.inr.inj e
      subst h9
      obtain ⟨z5, e4, hf⟩ := xbd hf
      obtain ⟨z7, e6, hf⟩ := xbd hf
      obtain ⟨v9, e8, hf⟩ := xbd hf
      obtain ⟨v11, e10, hf⟩ := xbd hf
      obtain ⟨v13, e12, hf⟩ := xbd hf
      have hf := xsj hf
      subst hf
      exact hm
    · have hf := xin q hf
      obtain ⟨z5, e4, hf⟩ := xbd hf
      obtain ⟨v7, e6, hf⟩ := xbd hf
      obtain ⟨z9, e8, hf⟩ := xbd hf
      obtain ⟨v11, e10, hf⟩ := xbd hf
      by_cases q : v7 = v11
      · have hf := xip q hf
        obtain ⟨v13, e12, hf⟩ := xbd hf
        have hf := xsj hf
        subst hf
        exact ⟨fun a' e => (by have h9 := Sum.inl.inj e; subst h9; exact trivial), fun b e => xnc1 e⟩
      · have hf := xin q hf
        have hf := xsj hf
        subst hf
        exact ⟨fun a' e => (by have h9 := Sum.inl.inj e; subst h9; exact trivial), fun b e => xnc1 e⟩
  cases y with
  | inl a' =>
    have h1 := hc a' rfl
    exact h1
  | inr b =>
    have h1 := he b rfl
    subst h1
    exact hy.2 _ rfl
theorem s_X12_mean_l36 {G : XG} (C : XC G cX12_mean RX12 (some .int) 5 4 96) {σ : XS} {r0 : Nat} {x1 : Int32} {x2 : Int32} {a : Int32 × Int32} {x : Int32 × XS} (hf : xloop (f_X12_mean_b36 σ r0 x1 x2) a = some x) (hk : XEnd G (some (.int x.1)) x.2) : WW G 36 [(0, .ref (gB G + r0)), (1, .int x1), (2, .int x2), (3, .int a.1), (4, .int a.2)] [] σ := by
  refine xloop_ind (P := fun a => WW G 36 [(0, .ref (gB G + r0)), (1, .int x1), (2, .int x2), (3, .int a.1), (4, .int a.2)] [] σ) (fun a y hf hc he => ?_) hf
  obtain ⟨x3, x4⟩ := a
  have hk : (∀ a' : Int32 × Int32, y = .inl a' → WW G 36 [(0, .ref (gB G + r0)), (1, .int x1), (2, .int x2), (3, .int a'.1), (4, .int a'.2)] [] σ) ∧ (∀ b1 : Int32 × XS, y = .inr b1 → XEnd G (some (.int b1.1)) b1.2) := ⟨hc, fun b e => by have h9 := he b e; subst h9; exact hk⟩
  refine ww_iload (pc := 36) C 4 dX12_mean_36 rfl ?_
  refine ww_aload_n (pc := 38) C 0 dX12_mean_38 rfl ?_
  obtain ⟨_, e1, hf⟩ := xbd hf
  obtain ⟨v3, e2, hf⟩ := xbd hf
  refine ww_callVi (pc := 39) (as := []) (st := [.int x4]) C (k_X12_states (l := gl G) (E := gE G) (hb := gB G) (σ := σ) e2) rfl (by decide) xc_X12_270 q1555 qp141 (xck_spec e1) rfl (by decide) (xst4 (Nat.le_of_ble_eq_true rfl)) xsame.rf.le xsame.rf.lim dX12_mean_39 ?_
  refine ww_icmp_ge (pc := 42) (tgt := 75) C dX12_mean_42 (by decide) (fun q => ?_) (fun q => ?_)
  · have hf := xip q hf
    obtain ⟨b0, hg, e9⟩ := xmj hf
    subst e9
    have hf := hg
    have hk := hk.2 _ rfl
    refine ww_iload_n (pc := 75) C 3 dX12_mean_75 rfl ?_
    refine ww_aload_n (pc := 76) C 0 dX12_mean_76 rfl ?_
    obtain ⟨z5, e4, hf⟩ := xbd hf
    refine gf_X12_60 (pc := 77) C e4 dX12_mean_77 ?_
    refine ww_sipush (pc := 80) (v := (150 : Int32)) C dX12_mean_80 (by decide) ?_
    refine ww_aload_n (pc := 83) C 0 dX12_mean_83 rfl ?_
    obtain ⟨z7, e6, hf⟩ := xbd hf
    refine gf_X12_63 (pc := 84) C e6 dX12_mean_84 ?_
    refine ww_iload_n (pc := 87) C 1 dX12_mean_87 rfl ?_
    obtain ⟨v9, e8, hf⟩ := xbd hf
    refine ww_iald (pc := 88) C e8 dX12_mean_88 ?_
    refine ww_iadd (pc := 89) C dX12_mean_89 ?_
    obtain ⟨v11, e10, hf⟩ := xbd hf
    refine ww_iald (pc := 90) C e10 dX12_mean_90 ?_
    refine ww_iload_n (pc := 91) C 2 dX12_mean_91 rfl ?_
    obtain ⟨v13, e12, hf⟩ := xbd hf
    refine ww_callSi (pc := 92) (as := [.int x3, .int v11, .int x2]) (st := []) C (k_X12_part (l := gl G) (E := gE G) (hb := gB G) (σ := σ) e12) xc_X12_308 q1641 rfl (by decide) (xst4 (Nat.le_of_ble_eq_true rfl)) xsame.rf.le xsame.rf.lim dX12_mean_92 ?_
    have hf := xsj hf
    subst hf
    exact ww_iret (pc := 95) C hk dX12_mean_95
  · have hf := xin q hf
    refine ww_aload_n (pc := 45) C 0 dX12_mean_45 rfl ?_
    obtain ⟨z5, e4, hf⟩ := xbd hf
    refine gf_X12_57 (pc := 46) C e4 dX12_mean_46 ?_
    refine ww_iload (pc := 49) C 4 dX12_mean_49 rfl ?_
    obtain ⟨v7, e6, hf⟩ := xbd hf
    refine ww_iald (pc := 51) C e6 dX12_mean_51 ?_
    refine ww_aload_n (pc := 52) C 0 dX12_mean_52 rfl ?_
    obtain ⟨z9, e8, hf⟩ := xbd hf
    refine gf_X12_63 (pc := 53) C e8 dX12_mean_53 ?_
    refine ww_iload_n (pc := 56) C 1 dX12_mean_56 rfl ?_
    obtain ⟨v11, e10, hf⟩ := xbd hf
    refine ww_iald (pc := 57) C e10 dX12_mean_57 ?_
    refine ww_icmp_ne (pc := 58) (tgt := 69) C dX12_mean_58 (by decide) (fun q => ?_) (fun q => ?_)
    · have hf := xin q hf
      refine ww_iinc (pc := 69) (v := x4 + (1 : Int32)) (lv' := [(4, .int (x4 + (1 : Int32))), (0, .ref (gB G + r0)), (1, .int x1), (2, .int x2), (3, .int x3)]) C 4 dX12_mean_69 rfl (congrArg (fun z => x4 + z) (show Int32.ofInt (1) = (1 : Int32) by decide)) (by decide) rfl ?_
      refine ww_goto (pc := 72) (tgt := 36) C dX12_mean_72 (by decide) ?_
      have hf := xsj hf
      subst hf
      refine ww_sub [1, 2, 3, 4, 0] rfl ?_
      exact hk.1 (x3, x4 + (1 : Int32)) rfl
    · have hf := xip q hf
      refine ww_iload_n (pc := 61) C 3 dX12_mean_61 rfl ?_
      refine ww_iload (pc := 62) C 4 dX12_mean_62 rfl ?_
      obtain ⟨v13, e12, hf⟩ := xbd hf
      refine ww_callSi (pc := 64) (as := [.int x4]) (st := [.int x3]) C (k_X12_bitsOf (l := gl G) (E := gE G) (hb := gB G) (σ := σ) e12) xc_X12_292 q1615 rfl (by decide) (xst4 (Nat.le_of_ble_eq_true rfl)) xsame.rf.le xsame.rf.lim dX12_mean_64 ?_
      refine ww_iadd (pc := 67) C dX12_mean_67 ?_
      refine ww_istore_n (pc := 68) (lv' := [(3, .int (x3 + v13)), (0, .ref (gB G + r0)), (1, .int x1), (2, .int x2), (4, .int x4)]) C dX12_mean_68 (by decide) rfl ?_
      refine ww_iinc (pc := 69) (v := x4 + (1 : Int32)) (lv' := [(4, .int (x4 + (1 : Int32))), (3, .int (x3 + v13)), (0, .ref (gB G + r0)), (1, .int x1), (2, .int x2)]) C 4 dX12_mean_69 rfl (congrArg (fun z => x4 + z) (show Int32.ofInt (1) = (1 : Int32) by decide)) (by decide) rfl ?_
      refine ww_goto (pc := 72) (tgt := 36) C dX12_mean_72 (by decide) ?_
      have hf := xsj hf
      subst hf
      refine ww_sub [2, 3, 4, 1, 0] rfl ?_
      exact hk.1 (x3 + v13, x4 + (1 : Int32)) rfl
theorem s_X12_mean_e {G : XG} (C : XC G cX12_mean RX12 (some .int) 5 4 96) {σ : XS} {r0 : Nat} {x1 : Int32} {x2 : Int32} {x : Int32 × XS} (hf : f_X12_mean σ r0 x1 x2 = some x) (hk : XEnd G (some (.int x.1)) x.2) : WW G 0 [(0, .ref (gB G + r0)), (1, .int x1), (2, .int x2)] [] σ := by
  refine ww_aload_n (pc := 0) C 0 dX12_mean_0 rfl ?_
  obtain ⟨_, e1, hf⟩ := xbd hf
  obtain ⟨σ3, e2, hf⟩ := xbd hf
  refine ww_callVv (pc := 1) (as := []) (st := []) C (k_X12_knows (l := gl G) (E := gE G) (hb := gB G) (σ := σ) e2) rfl (by decide) xc_X12_261 q1551 qp140 (xck_spec e1) rfl (by decide) (xst4 (Nat.le_of_ble_eq_true rfl)) (m_X12_knows e2).le (m_X12_knows e2).lim dX12_mean_1 ?_
  refine ww_iload_n (pc := 4) C 1 dX12_mean_4 rfl ?_
  refine ww_iconst (pc := 5) (v := (0 : Int32)) C dX12_mean_5 (by decide) ?_
  refine ww_aload_n (pc := 6) C 0 dX12_mean_6 rfl ?_
  obtain ⟨v5, e4, hf⟩ := xbd hf
  refine gf_X12_285 (pc := 7) C e4 dX12_mean_7 ?_
  refine ww_iconst (pc := 10) (v := (1 : Int32)) C dX12_mean_10 (by decide) ?_
  refine ww_isub (pc := 11) C dX12_mean_11 ?_
  obtain ⟨v7, e6, hf⟩ := xbd hf
  refine ww_callSi (pc := 12) (as := [.int x1, .int (0 : Int32), .int (v5 - (1 : Int32))]) (st := []) C (k_X12_in (l := gl G) (E := gE G) (hb := gB G) (σ := σ3) e6) xc_X12_213 q1473 rfl (by decide) (xst4 (Nat.le_of_ble_eq_true rfl)) xsame.rf.le xsame.rf.lim dX12_mean_12 ?_
  refine ww_if_eq (pc := 15) (tgt := 27) C dX12_mean_15 (by decide) (fun q => ?_) (fun q => ?_)
  · have hf := xip q hf
    refine ww_ldcw (pc := 27) C q1597 dX12_mean_27 ?_
    have hf := xsj hf
    subst hf
    exact ww_iret (pc := 30) C hk dX12_mean_30
  · have hf := xin q hf
    refine ww_iload_n (pc := 18) C 2 dX12_mean_18 rfl ?_
    refine ww_iconst (pc := 19) (v := (0 : Int32)) C dX12_mean_19 (by decide) ?_
    refine ww_iconst (pc := 20) (v := (1 : Int32)) C dX12_mean_20 (by decide) ?_
    obtain ⟨v9, e8, hf⟩ := xbd hf
    refine ww_callSi (pc := 21) (as := [.int x2, .int (0 : Int32), .int (1 : Int32)]) (st := []) C (k_X12_in (l := gl G) (E := gE G) (hb := gB G) (σ := σ3) e8) xc_X12_213 q1473 rfl (by decide) (xst4 (Nat.le_of_ble_eq_true rfl)) xsame.rf.le xsame.rf.lim dX12_mean_21 ?_
    refine ww_if_ne (pc := 24) (tgt := 31) C dX12_mean_24 (by decide) (fun q => ?_) (fun q => ?_)
    · have hf := xin q hf
      refine ww_iconst (pc := 31) (v := (0 : Int32)) C dX12_mean_31 (by decide) ?_
      refine ww_istore_n (pc := 32) (lv' := [(3, .int (0 : Int32)), (0, .ref (gB G + r0)), (1, .int x1), (2, .int x2)]) C dX12_mean_32 (by decide) rfl ?_
      refine ww_iconst (pc := 33) (v := (0 : Int32)) C dX12_mean_33 (by decide) ?_
      refine ww_istore (pc := 34) (lv' := [(4, .int (0 : Int32)), (3, .int (0 : Int32)), (0, .ref (gB G + r0)), (1, .int x1), (2, .int x2)]) C dX12_mean_34 (by decide) rfl ?_
      refine ww_sub [2, 3, 4, 1, 0] rfl ?_
      exact s_X12_mean_l36 C (a := ((0 : Int32), (0 : Int32))) hf hk
    · have hf := xip q hf
      refine ww_ldcw (pc := 27) C q1597 dX12_mean_27 ?_
      have hf := xsj hf
      subst hf
      exact ww_iret (pc := 30) C hk dX12_mean_30
theorem m_X12_mean {σ : XS} {r0 : Nat} {x1 : Int32} {x2 : Int32} {x : Int32 × XS} (hf : f_X12_mean σ r0 x1 x2 = some x) : xsame σ x.2 := by
  have hm := xsame.rf (σ := σ)
  obtain ⟨_, e1, hf⟩ := xbd hf
  obtain ⟨σ3, e2, hf⟩ := xbd hf
  have hm := hm.tr (m_X12_knows e2)
  obtain ⟨v5, e4, hf⟩ := xbd hf
  obtain ⟨v7, e6, hf⟩ := xbd hf
  by_cases q : v7 = 0
  · have hf := xip q hf
    have hf := xsj hf
    subst hf
    exact hm
  · have hf := xin q hf
    obtain ⟨v9, e8, hf⟩ := xbd hf
    by_cases q : v9 = 0
    · have hf := xip q hf
      have hf := xsj hf
      subst hf
      exact hm
    · have hf := xin q hf
      exact hm.tr (m_X12_mean_l36 (a := ((0 : Int32), (0 : Int32))) hf)
theorem k_X12_mean {l : Launch} {E : XD} {hb : Nat} {σ : XS} {r0 : Nat} {x1 : Int32} {x2 : Int32} {x : Int32 × XS} (h : f_X12_mean σ r0 x1 x2 = some x) : XM l yX12_mean cX12_mean 5 (some .int) 4 96 E hb [.ref (hb + r0), .int x1, .int x2] σ (some (.int x.1)) x.2 := by
  refine xm_of (by decide) (Nat.le_of_ble_eq_true rfl) (m_X12_mean h).le (fun G hG C hl hQ => ?_)
  obtain ⟨rfl, rfl, rfl, hN⟩ := hG
  exact s_X12_mean_e C h hQ
noncomputable def f_X12_meansAll_b105 (r0 : Nat) (x2 : Int32) (x3 : Int32) : Int32 × XS → Option ((Int32 × XS) ⊕ (XS)) := fun a => match a with
  | (x4, σ) => if (16 : Int32) ≤ x4 then ((some σ).map .inr) else (xgR σ r0 12 26).bind fun z2 => (xsI σ 20 z2 (x2 + x4) x3).bind fun σ4 => some (.inl (x4 + (1 : Int32), σ4))
noncomputable def f_X12_meansAll_j93 (σ : XS) (r0 : Nat) (x1 : Int32) (t0 : Int32) : Option XS := (xck σ r0 12).bind fun _ => (f_X12_jAt σ r0 (x1 + (1 : Int32))).bind fun (v4, σ3) => xloop (f_X12_meansAll_b105 r0 t0 v4) ((0 : Int32), σ3)
noncomputable def f_X12_meansAll_j60 (σ : XS) (r0 : Nat) (x1 : Int32) : Option XS := (xgR σ r0 12 5).bind fun z2 => (xaI σ 20 z2 x1).bind fun v4 => if v4 = (21 : Int32) then (f_X12_meansAll_j93 σ r0 x1 (0 : Int32)) else (xgR σ r0 12 5).bind fun z6 => (xaI σ 20 z6 x1).bind fun v8 => if v8 = (22 : Int32) then (f_X12_meansAll_j93 σ r0 x1 (16 : Int32)) else f_X12_meansAll_j93 σ r0 x1 (32 : Int32)
noncomputable def f_X12_meansAll_j26 (σ : XS) (r0 : Nat) (x1 : Int32) : Option XS := (xgR σ r0 12 5).bind fun z2 => (xaI σ 20 z2 x1).bind fun v4 => if v4 = (21 : Int32) then (f_X12_meansAll_j60 σ r0 x1) else (xgR σ r0 12 5).bind fun z6 => (xaI σ 20 z6 x1).bind fun v8 => if v8 = (22 : Int32) then (f_X12_meansAll_j60 σ r0 x1) else (xgR σ r0 12 5).bind fun z10 => (xaI σ 20 z10 x1).bind fun v12 => if v12 = (23 : Int32) then (f_X12_meansAll_j60 σ r0 x1) else some σ
noncomputable def f_X12_meansAll (σ : XS) (r0 : Nat) (x1 : Int32) : Option XS := (xgR σ r0 12 5).bind fun z2 => (xaI σ 20 z2 x1).bind fun v4 => if v4 = (30 : Int32) then ((xgR σ r0 12 26).bind fun z6 => (xgR σ r0 12 7).bind fun z8 => (xaI σ 20 z8 (x1 + (1 : Int32))).bind fun v10 => (xsI σ 20 z6 (65 : Int32) v10).bind fun σ12 => f_X12_meansAll_j26 σ12 r0 x1) else f_X12_meansAll_j26 σ r0 x1
theorem m_X12_meansAll_l105 {r0 : Nat} {x2 : Int32} {x3 : Int32} {a : Int32 × XS} {x : XS} (hf : xloop (f_X12_meansAll_b105 r0 x2 x3) a = some x) : xsame a.2 x := by
  refine xloop_ind (P := fun a => xsame a.2 x) (fun a y hf hc he => ?_) hf
  obtain ⟨x4, σ⟩ := a
  have hy : (∀ a' : Int32 × XS, y = .inl a' → xsame σ a'.2) ∧ (∀ b1 : XS, y = .inr b1 → xsame σ b1) := by
    have hm := xsame.rf (σ := σ)
    by_cases q : (16 : Int32) ≤ x4
    · have hf := xip q hf
      obtain ⟨b0, hg, e9⟩ := xmj hf
      subst e9
      have hf := hg
      refine ⟨fun a' e => xnc2 e, fun b e => ?_⟩
      have h9 := Sum.inr.inj e
      subst h9
      have hf := xsj hf
      subst hf
      exact hm
    · have hf := xin q hf
      obtain ⟨z2, e1, hf⟩ := xbd hf
      obtain ⟨σ4, e3, hf⟩ := xbd hf
      have hm := hm.tr (xsI_same e3)
      have hf := xsj hf
      subst hf
      exact ⟨fun a' e => (by have h9 := Sum.inl.inj e; subst h9; exact hm), fun b e => xnc1 e⟩
  cases y with
  | inl a' =>
    have h1 := hc a' rfl
    have hm := hy.1 a' rfl
    exact hm.tr (h1)
  | inr b =>
    have h1 := he b rfl
    subst h1
    exact hy.2 _ rfl
theorem s_X12_meansAll_l105 {G : XG} (C : XC G cX12_meansAll RX12 none 5 2 45) {r0 : Nat} {x2 : Int32} {x3 : Int32} {a : Int32 × XS} {x : XS} (hf : xloop (f_X12_meansAll_b105 r0 x2 x3) a = some x) (hk : XEnd G none x) : WW G 105 [(0, .ref (gB G + r0)), (2, .int x2), (3, .int x3), (4, .int a.1)] [] a.2 := by
  refine xloop_ind (P := fun a => WW G 105 [(0, .ref (gB G + r0)), (2, .int x2), (3, .int x3), (4, .int a.1)] [] a.2) (fun a y hf hc he => ?_) hf
  obtain ⟨x4, σ⟩ := a
  have hk : (∀ a' : Int32 × XS, y = .inl a' → WW G 105 [(0, .ref (gB G + r0)), (2, .int x2), (3, .int x3), (4, .int a'.1)] [] a'.2) ∧ (∀ b1 : XS, y = .inr b1 → XEnd G none b1) := ⟨hc, fun b e => by have h9 := he b e; subst h9; exact hk⟩
  refine ww_iload (pc := 105) C 3 dX12_meansAll_105 rfl ?_
  refine ww_bipush (pc := 107) (v := (16 : Int32)) C dX12_meansAll_107 (by decide) ?_
  refine ww_icmp_ge (pc := 109) (tgt := 128) C dX12_meansAll_109 (by decide) (fun q => ?_) (fun q => ?_)
  · have hf := xip q hf
    obtain ⟨b0, hg, e9⟩ := xmj hf
    subst e9
    have hf := hg
    have hk := hk.2 _ rfl
    have hf := xsj hf
    subst hf
    exact ww_vret (pc := 128) C hk dX12_meansAll_128
  · have hf := xin q hf
    refine ww_aload_n (pc := 112) C 0 dX12_meansAll_112 rfl ?_
    obtain ⟨z2, e1, hf⟩ := xbd hf
    refine gf_X12_43 (pc := 113) C e1 dX12_meansAll_113 ?_
    refine ww_iload_n (pc := 116) C 1 dX12_meansAll_116 rfl ?_
    refine ww_iload (pc := 117) C 3 dX12_meansAll_117 rfl ?_
    refine ww_iadd (pc := 119) C dX12_meansAll_119 ?_
    refine ww_iload_n (pc := 120) C 2 dX12_meansAll_120 rfl ?_
    obtain ⟨σ4, e3, hf⟩ := xbd hf
    refine ww_iast (pc := 121) C e3 dX12_meansAll_121 ?_
    refine ww_iinc (pc := 122) (v := x4 + (1 : Int32)) (lv' := [(4, .int (x4 + (1 : Int32))), (0, .ref (gB G + r0)), (2, .int x2), (3, .int x3)]) C 3 dX12_meansAll_122 rfl (congrArg (fun z => x4 + z) (show Int32.ofInt (1) = (1 : Int32) by decide)) (by decide) rfl ?_
    refine ww_goto (pc := 125) (tgt := 105) C dX12_meansAll_125 (by decide) ?_
    have hf := xsj hf
    subst hf
    refine ww_sub [1, 2, 3, 0] rfl ?_
    exact hk.1 (x4 + (1 : Int32), σ4) rfl
theorem s_X12_meansAll_j93 {G : XG} (C : XC G cX12_meansAll RX12 none 5 2 45) {σ : XS} {r0 : Nat} {x1 : Int32} {t0 : Int32} {x : XS} (hf : f_X12_meansAll_j93 σ r0 x1 t0 = some x) (hk : XEnd G none x) : WW G 93 [(0, .ref (gB G + r0)), (1, .int x1)] [.int t0] σ := by
  refine ww_istore_n (pc := 93) (lv' := [(2, .int t0), (0, .ref (gB G + r0)), (1, .int x1)]) C dX12_meansAll_93 (by decide) rfl ?_
  refine ww_aload_n (pc := 94) C 1 dX12_meansAll_94 rfl ?_
  refine ww_iload_n (pc := 95) C 2 dX12_meansAll_95 rfl ?_
  refine ww_iconst (pc := 96) (v := (1 : Int32)) C dX12_meansAll_96 (by decide) ?_
  refine ww_iadd (pc := 97) C dX12_meansAll_97 ?_
  obtain ⟨_, e1, hf⟩ := xbd hf
  obtain ⟨⟨v4, σ3⟩, e2, hf⟩ := xbd hf
  dsimp only at hf
  refine ww_callVi (pc := 98) (as := [.int (x1 + (1 : Int32))]) (st := []) C (k_X12_jAt (l := gl G) (E := gE G) (hb := gB G) (σ := σ) e2) rfl (by decide) xc_X12_223 q1485 qp134 (xck_spec e1) rfl (by decide) (xst4 (Nat.le_of_ble_eq_true rfl)) (m_X12_jAt e2).le (m_X12_jAt e2).lim dX12_meansAll_98 ?_
  refine ww_istore_n (pc := 101) (lv' := [(3, .int v4), (2, .int t0), (0, .ref (gB G + r0)), (1, .int x1)]) C dX12_meansAll_101 (by decide) rfl ?_
  refine ww_iconst (pc := 102) (v := (0 : Int32)) C dX12_meansAll_102 (by decide) ?_
  refine ww_istore (pc := 103) (lv' := [(4, .int (0 : Int32)), (3, .int v4), (2, .int t0), (0, .ref (gB G + r0)), (1, .int x1)]) C dX12_meansAll_103 (by decide) rfl ?_
  refine ww_sub [3, 2, 1, 0] rfl ?_
  exact s_X12_meansAll_l105 C (a := ((0 : Int32), σ3)) hf hk
theorem m_X12_meansAll_j93 {σ : XS} {r0 : Nat} {x1 : Int32} {t0 : Int32} {x : XS} (hf : f_X12_meansAll_j93 σ r0 x1 t0 = some x) : xsame σ x := by
  have hm := xsame.rf (σ := σ)
  obtain ⟨_, e1, hf⟩ := xbd hf
  obtain ⟨⟨v4, σ3⟩, e2, hf⟩ := xbd hf
  dsimp only at hf
  have hm := hm.tr (m_X12_jAt e2)
  exact hm.tr (m_X12_meansAll_l105 (a := ((0 : Int32), σ3)) hf)
theorem s_X12_meansAll_j60 {G : XG} (C : XC G cX12_meansAll RX12 none 5 2 45) {σ : XS} {r0 : Nat} {x1 : Int32} {x : XS} (hf : f_X12_meansAll_j60 σ r0 x1 = some x) (hk : XEnd G none x) : WW G 60 [(0, .ref (gB G + r0)), (1, .int x1)] [] σ := by
  refine ww_aload_n (pc := 60) C 0 dX12_meansAll_60 rfl ?_
  obtain ⟨z2, e1, hf⟩ := xbd hf
  refine gf_X12_20 (pc := 61) C e1 dX12_meansAll_61 ?_
  refine ww_iload_n (pc := 64) C 1 dX12_meansAll_64 rfl ?_
  obtain ⟨v4, e3, hf⟩ := xbd hf
  refine ww_iald (pc := 65) C e3 dX12_meansAll_65 ?_
  refine ww_bipush (pc := 66) (v := (21 : Int32)) C dX12_meansAll_66 (by decide) ?_
  refine ww_icmp_ne (pc := 68) (tgt := 75) C dX12_meansAll_68 (by decide) (fun q => ?_) (fun q => ?_)
  · have hf := xin q hf
    refine ww_aload_n (pc := 75) C 0 dX12_meansAll_75 rfl ?_
    obtain ⟨z6, e5, hf⟩ := xbd hf
    refine gf_X12_20 (pc := 76) C e5 dX12_meansAll_76 ?_
    refine ww_iload_n (pc := 79) C 1 dX12_meansAll_79 rfl ?_
    obtain ⟨v8, e7, hf⟩ := xbd hf
    refine ww_iald (pc := 80) C e7 dX12_meansAll_80 ?_
    refine ww_bipush (pc := 81) (v := (22 : Int32)) C dX12_meansAll_81 (by decide) ?_
    refine ww_icmp_ne (pc := 83) (tgt := 91) C dX12_meansAll_83 (by decide) (fun q => ?_) (fun q => ?_)
    · have hf := xin q hf
      refine ww_bipush (pc := 91) (v := (32 : Int32)) C dX12_meansAll_91 (by decide) ?_
      refine ww_sub [0, 1] rfl ?_
      exact s_X12_meansAll_j93 C hf hk
    · have hf := xip q hf
      refine ww_bipush (pc := 86) (v := (16 : Int32)) C dX12_meansAll_86 (by decide) ?_
      refine ww_goto (pc := 88) (tgt := 93) C dX12_meansAll_88 (by decide) ?_
      refine ww_sub [0, 1] rfl ?_
      exact s_X12_meansAll_j93 C hf hk
  · have hf := xip q hf
    refine ww_iconst (pc := 71) (v := (0 : Int32)) C dX12_meansAll_71 (by decide) ?_
    refine ww_goto (pc := 72) (tgt := 93) C dX12_meansAll_72 (by decide) ?_
    refine ww_sub [0, 1] rfl ?_
    exact s_X12_meansAll_j93 C hf hk
theorem m_X12_meansAll_j60 {σ : XS} {r0 : Nat} {x1 : Int32} {x : XS} (hf : f_X12_meansAll_j60 σ r0 x1 = some x) : xsame σ x := by
  have hm := xsame.rf (σ := σ)
  obtain ⟨z2, e1, hf⟩ := xbd hf
  obtain ⟨v4, e3, hf⟩ := xbd hf
  by_cases q : v4 = (21 : Int32)
  · have hf := xip q hf
    exact hm.tr (m_X12_meansAll_j93 hf)
  · have hf := xin q hf
    obtain ⟨z6, e5, hf⟩ := xbd hf
    obtain ⟨v8, e7, hf⟩ := xbd hf
    by_cases q : v8 = (22 : Int32)
    · have hf := xip q hf
      exact hm.tr (m_X12_meansAll_j93 hf)
    · have hf := xin q hf
      exact hm.tr (m_X12_meansAll_j93 hf)
theorem s_X12_meansAll_j26 {G : XG} (C : XC G cX12_meansAll RX12 none 5 2 45) {σ : XS} {r0 : Nat} {x1 : Int32} {x : XS} (hf : f_X12_meansAll_j26 σ r0 x1 = some x) (hk : XEnd G none x) : WW G 26 [(0, .ref (gB G + r0)), (1, .int x1)] [] σ := by
  refine ww_aload_n (pc := 26) C 0 dX12_meansAll_26 rfl ?_
  obtain ⟨z2, e1, hf⟩ := xbd hf
  refine gf_X12_20 (pc := 27) C e1 dX12_meansAll_27 ?_
  refine ww_iload_n (pc := 30) C 1 dX12_meansAll_30 rfl ?_
  obtain ⟨v4, e3, hf⟩ := xbd hf
  refine ww_iald (pc := 31) C e3 dX12_meansAll_31 ?_
  refine ww_bipush (pc := 32) (v := (21 : Int32)) C dX12_meansAll_32 (by decide) ?_
  refine ww_icmp_eq (pc := 34) (tgt := 60) C dX12_meansAll_34 (by decide) (fun q => ?_) (fun q => ?_)
  · have hf := xip q hf
    refine ww_sub [0, 1] rfl ?_
    exact s_X12_meansAll_j60 C hf hk
  · have hf := xin q hf
    refine ww_aload_n (pc := 37) C 0 dX12_meansAll_37 rfl ?_
    obtain ⟨z6, e5, hf⟩ := xbd hf
    refine gf_X12_20 (pc := 38) C e5 dX12_meansAll_38 ?_
    refine ww_iload_n (pc := 41) C 1 dX12_meansAll_41 rfl ?_
    obtain ⟨v8, e7, hf⟩ := xbd hf
    refine ww_iald (pc := 42) C e7 dX12_meansAll_42 ?_
    refine ww_bipush (pc := 43) (v := (22 : Int32)) C dX12_meansAll_43 (by decide) ?_
    refine ww_icmp_eq (pc := 45) (tgt := 60) C dX12_meansAll_45 (by decide) (fun q => ?_) (fun q => ?_)
    · have hf := xip q hf
      refine ww_sub [0, 1] rfl ?_
      exact s_X12_meansAll_j60 C hf hk
    · have hf := xin q hf
      refine ww_aload_n (pc := 48) C 0 dX12_meansAll_48 rfl ?_
      obtain ⟨z10, e9, hf⟩ := xbd hf
      refine gf_X12_20 (pc := 49) C e9 dX12_meansAll_49 ?_
      refine ww_iload_n (pc := 52) C 1 dX12_meansAll_52 rfl ?_
      obtain ⟨v12, e11, hf⟩ := xbd hf
      refine ww_iald (pc := 53) C e11 dX12_meansAll_53 ?_
      refine ww_bipush (pc := 54) (v := (23 : Int32)) C dX12_meansAll_54 (by decide) ?_
      refine ww_icmp_eq (pc := 56) (tgt := 60) C dX12_meansAll_56 (by decide) (fun q => ?_) (fun q => ?_)
      · have hf := xip q hf
        refine ww_sub [0, 1] rfl ?_
        exact s_X12_meansAll_j60 C hf hk
      · have hf := xin q hf
        have hf := xsj hf
        subst hf
        exact ww_vret (pc := 59) C hk dX12_meansAll_59
theorem m_X12_meansAll_j26 {σ : XS} {r0 : Nat} {x1 : Int32} {x : XS} (hf : f_X12_meansAll_j26 σ r0 x1 = some x) : xsame σ x := by
  have hm := xsame.rf (σ := σ)
  obtain ⟨z2, e1, hf⟩ := xbd hf
  obtain ⟨v4, e3, hf⟩ := xbd hf
  by_cases q : v4 = (21 : Int32)
  · have hf := xip q hf
    exact hm.tr (m_X12_meansAll_j60 hf)
  · have hf := xin q hf
    obtain ⟨z6, e5, hf⟩ := xbd hf
    obtain ⟨v8, e7, hf⟩ := xbd hf
    by_cases q : v8 = (22 : Int32)
    · have hf := xip q hf
      exact hm.tr (m_X12_meansAll_j60 hf)
    · have hf := xin q hf
      obtain ⟨z10, e9, hf⟩ := xbd hf
      obtain ⟨v12, e11, hf⟩ := xbd hf
      by_cases q : v12 = (23 : Int32)
      · have hf := xip q hf
        exact hm.tr (m_X12_meansAll_j60 hf)
      · have hf := xin q hf
        have hf := xsj hf
        subst hf
        exact hm
theorem s_X12_meansAll_e {G : XG} (C : XC G cX12_meansAll RX12 none 5 2 45) {σ : XS} {r0 : Nat} {x1 : Int32} {x : XS} (hf : f_X12_meansAll σ r0 x1 = some x) (hk : XEnd G none x) : WW G 0 [(0, .ref (gB G + r0)), (1, .int x1)] [] σ := by
  refine ww_aload_n (pc := 0) C 0 dX12_meansAll_0 rfl ?_
  obtain ⟨z2, e1, hf⟩ := xbd hf
  refine gf_X12_20 (pc := 1) C e1 dX12_meansAll_1 ?_
  refine ww_iload_n (pc := 4) C 1 dX12_meansAll_4 rfl ?_
  obtain ⟨v4, e3, hf⟩ := xbd hf
  refine ww_iald (pc := 5) C e3 dX12_meansAll_5 ?_
  refine ww_bipush (pc := 6) (v := (30 : Int32)) C dX12_meansAll_6 (by decide) ?_
  refine ww_icmp_ne (pc := 8) (tgt := 26) C dX12_meansAll_8 (by decide) (fun q => ?_) (fun q => ?_)
  · have hf := xin q hf
    refine ww_sub [0, 1] rfl ?_
    exact s_X12_meansAll_j26 C hf hk
  · have hf := xip q hf
    refine ww_aload_n (pc := 11) C 0 dX12_meansAll_11 rfl ?_
    obtain ⟨z6, e5, hf⟩ := xbd hf
    refine gf_X12_43 (pc := 12) C e5 dX12_meansAll_12 ?_
    refine ww_bipush (pc := 15) (v := (65 : Int32)) C dX12_meansAll_15 (by decide) ?_
    refine ww_aload_n (pc := 17) C 0 dX12_meansAll_17 rfl ?_
    obtain ⟨z8, e7, hf⟩ := xbd hf
    refine gf_X12_27 (pc := 18) C e7 dX12_meansAll_18 ?_
    refine ww_iload_n (pc := 21) C 1 dX12_meansAll_21 rfl ?_
    refine ww_iconst (pc := 22) (v := (1 : Int32)) C dX12_meansAll_22 (by decide) ?_
    refine ww_iadd (pc := 23) C dX12_meansAll_23 ?_
    obtain ⟨v10, e9, hf⟩ := xbd hf
    refine ww_iald (pc := 24) C e9 dX12_meansAll_24 ?_
    obtain ⟨σ12, e11, hf⟩ := xbd hf
    refine ww_iast (pc := 25) C e11 dX12_meansAll_25 ?_
    refine ww_sub [0, 1] rfl ?_
    exact s_X12_meansAll_j26 C hf hk
theorem m_X12_meansAll {σ : XS} {r0 : Nat} {x1 : Int32} {x : XS} (hf : f_X12_meansAll σ r0 x1 = some x) : xsame σ x := by
  have hm := xsame.rf (σ := σ)
  obtain ⟨z2, e1, hf⟩ := xbd hf
  obtain ⟨v4, e3, hf⟩ := xbd hf
  by_cases q : v4 = (30 : Int32)
  · have hf := xip q hf
    obtain ⟨z6, e5, hf⟩ := xbd hf
    obtain ⟨z8, e7, hf⟩ := xbd hf
    obtain ⟨v10, e9, hf⟩ := xbd hf
    obtain ⟨σ12, e11, hf⟩ := xbd hf
    have hm := hm.tr (xsI_same e11)
    exact hm.tr (m_X12_meansAll_j26 hf)
  · have hf := xin q hf
    exact hm.tr (m_X12_meansAll_j26 hf)
theorem k_X12_meansAll {l : Launch} {E : XD} {hb : Nat} {σ : XS} {r0 : Nat} {x1 : Int32} {x : XS} (h : f_X12_meansAll σ r0 x1 = some x) : XM l yX12_meansAll cX12_meansAll 5 none 2 45 E hb [.ref (hb + r0), .int x1] σ none x := by
  refine xm_of (by decide) (Nat.le_of_ble_eq_true rfl) (m_X12_meansAll h).le (fun G hG C hl hQ => ?_)
  obtain ⟨rfl, rfl, rfl, hN⟩ := hG
  exact s_X12_meansAll_e C h hQ
noncomputable def f_X12_meansOne_j200 (σ : XS) (r0 : Nat) (x2 : Int32) (x3 : Int32) (x4 : Int32) (x5 : Int32) (t0 : Nat) (t1 : Int32) : Option XS := (xck σ t0 12).bind fun _ => (f_X12_jAt σ t0 t1).bind fun (v4, σ3) => if x4 = 0 then (some σ3) else (xgR σ3 r0 12 26).bind fun z6 => if x2 = (26 : Int32) then ((xsI σ3 20 z6 ((32 : Int32) + x3) v4).bind fun σ8 => some σ8) else if x5 = 0 then ((xsI σ3 20 z6 ((0 : Int32) + x3) v4).bind fun σ8 => some σ8) else (xsI σ3 20 z6 ((16 : Int32) + x3) v4).bind fun σ8 => some σ8
noncomputable def f_X12_meansOne_j145 (σ : XS) (r0 : Nat) (x1 : Int32) (x2 : Int32) (x3 : Int32) (x4 : Int32) (x5 : Int32) : Option XS := if x2 = (27 : Int32) then (if x4 = 0 then (some σ) else (xgR σ r0 12 26).bind fun z2 => (xgR σ r0 12 5).bind fun z4 => (xaI σ 20 z4 (x1 + (2 : Int32))).bind fun v6 => if v6 = (28 : Int32) then ((xsI σ 20 z2 ((48 : Int32) + x3) (1 : Int32)).bind fun σ8 => some σ8) else (xsI σ 20 z2 ((48 : Int32) + x3) (2 : Int32)).bind fun σ8 => some σ8) else if x2 = (25 : Int32) then (f_X12_meansOne_j200 σ r0 x2 x3 x4 x5 r0 (x1 + (3 : Int32))) else f_X12_meansOne_j200 σ r0 x2 x3 x4 x5 r0 (x1 + (2 : Int32))
noncomputable def f_X12_meansOne_j134 (σ : XS) (r0 : Nat) (x1 : Int32) (x2 : Int32) (x3 : Int32) (x5 : Int32) : Option XS := (xck σ r0 12).bind fun _ => (f_X12_wrong σ r0 (4 : Int32) (x1 + (1 : Int32))).bind fun σ3 => f_X12_meansOne_j145 σ3 r0 x1 x2 x3 (0 : Int32) x5
noncomputable def f_X12_meansOne_j128 (σ : XS) (r0 : Nat) (x1 : Int32) (x2 : Int32) (x3 : Int32) (x4 : Int32) (x5 : Int32) (t0 : Int32) (t1 : Int32) (t2 : Int32) (t3 : Int32) (t4 : Int32) : Option XS := (f_X12_leads t0 t1 t2 t3 t4).bind fun v2 => if 0 ≤ v2 then (f_X12_meansOne_j145 σ r0 x1 x2 x3 x4 x5) else f_X12_meansOne_j134 σ r0 x1 x2 x3 x5
noncomputable def f_X12_meansOne_j80 (σ : XS) (r0 : Nat) (x1 : Int32) (x2 : Int32) (x3 : Int32) (x4 : Int32) (t0 : Int32) : Option XS := (xgI σ r0 12 22).bind fun v2 => (xgI σ r0 12 23).bind fun v4 => if (v2 * v4) ≤ x3 then (f_X12_meansOne_j134 σ r0 x1 x2 x3 t0) else if x2 = (25 : Int32) then ((xgI σ r0 12 22).bind fun v6 => (xgI σ r0 12 23).bind fun v8 => if t0 = 0 then ((xgI σ r0 12 24).bind fun v10 => f_X12_meansOne_j128 σ r0 x1 x2 x3 x4 t0 x3 t0 v6 v8 v10) else (xgI σ r0 12 25).bind fun v10 => f_X12_meansOne_j128 σ r0 x1 x2 x3 x4 t0 x3 t0 v6 v8 v10) else f_X12_meansOne_j145 σ r0 x1 x2 x3 x4 t0
noncomputable def f_X12_meansOne_j60 (σ : XS) (r0 : Nat) (x1 : Int32) (x2 : Int32) (x3 : Int32) (t0 : Int32) : Option XS := (xgR σ r0 12 5).bind fun z2 => (xaI σ 20 z2 (x1 + (2 : Int32))).bind fun v4 => if v4 = (22 : Int32) then (f_X12_meansOne_j80 σ r0 x1 x2 x3 t0 (1 : Int32)) else f_X12_meansOne_j80 σ r0 x1 x2 x3 t0 (0 : Int32)
noncomputable def f_X12_meansOne_j26 (σ : XS) (r0 : Nat) (x1 : Int32) (x2 : Int32) : Option XS := (xgR σ r0 12 7).bind fun z2 => (xaI σ 20 z2 (x1 + (1 : Int32))).bind fun v4 => (xgI σ r0 12 22).bind fun v6 => (xgI σ r0 12 23).bind fun v8 => if (v6 * v8) ≤ v4 then (f_X12_meansOne_j60 σ r0 x1 x2 v4 (0 : Int32)) else (xgI σ r0 12 14).bind fun v10 => if v10 = 0 then (f_X12_meansOne_j60 σ r0 x1 x2 v4 (1 : Int32)) else f_X12_meansOne_j60 σ r0 x1 x2 v4 (0 : Int32)
noncomputable def f_X12_meansOne (σ : XS) (r0 : Nat) (x1 : Int32) : Option XS := (xgR σ r0 12 5).bind fun z2 => (xaI σ 20 z2 x1).bind fun v4 => if v4 = (25 : Int32) then (f_X12_meansOne_j26 σ r0 x1 v4) else if v4 = (26 : Int32) then (f_X12_meansOne_j26 σ r0 x1 v4) else if v4 = (27 : Int32) then (f_X12_meansOne_j26 σ r0 x1 v4) else some σ
theorem s_X12_meansOne_j200 {G : XG} (C : XC G cX12_meansOne RX12 none 7 2 45) {σ : XS} {r0 : Nat} {x2 : Int32} {x3 : Int32} {x4 : Int32} {x5 : Int32} {t0 : Nat} {t1 : Int32} {x : XS} (hf : f_X12_meansOne_j200 σ r0 x2 x3 x4 x5 t0 t1 = some x) (hk : XEnd G none x) : WW G 200 [(0, .ref (gB G + r0)), (2, .int x2), (3, .int x3), (4, .int x4), (5, .int x5)] [.int t1, .ref (gB G + t0)] σ := by
  obtain ⟨_, e1, hf⟩ := xbd hf
  obtain ⟨⟨v4, σ3⟩, e2, hf⟩ := xbd hf
  dsimp only at hf
  refine ww_callVi (pc := 200) (as := [.int t1]) (st := []) C (k_X12_jAt (l := gl G) (E := gE G) (hb := gB G) (σ := σ) e2) rfl (by decide) xc_X12_223 q1485 qp134 (xck_spec e1) rfl (by decide) (xst4 (Nat.le_of_ble_eq_true rfl)) (m_X12_jAt e2).le (m_X12_jAt e2).lim dX12_meansOne_200 ?_
  refine ww_istore (pc := 203) (lv' := [(6, .int v4), (0, .ref (gB G + r0)), (2, .int x2), (3, .int x3), (4, .int x4), (5, .int x5)]) C dX12_meansOne_203 (by decide) rfl ?_
  refine ww_iload (pc := 205) C 4 dX12_meansOne_205 rfl ?_
  refine ww_if_eq (pc := 207) (tgt := 241) C dX12_meansOne_207 (by decide) (fun q => ?_) (fun q => ?_)
  · have hf := xip q hf
    have hf := xsj hf
    subst hf
    exact ww_vret (pc := 241) C hk dX12_meansOne_241
  · have hf := xin q hf
    refine ww_aload_n (pc := 210) C 1 dX12_meansOne_210 rfl ?_
    obtain ⟨z6, e5, hf⟩ := xbd hf
    refine gf_X12_43 (pc := 211) C e5 dX12_meansOne_211 ?_
    refine ww_iload_n (pc := 214) C 2 dX12_meansOne_214 rfl ?_
    refine ww_bipush (pc := 215) (v := (26 : Int32)) C dX12_meansOne_215 (by decide) ?_
    refine ww_icmp_ne (pc := 217) (tgt := 225) C dX12_meansOne_217 (by decide) (fun q => ?_) (fun q => ?_)
    · have hf := xin q hf
      refine ww_iload (pc := 225) C 5 dX12_meansOne_225 rfl ?_
      refine ww_if_eq (pc := 227) (tgt := 235) C dX12_meansOne_227 (by decide) (fun q => ?_) (fun q => ?_)
      · have hf := xip q hf
        refine ww_iconst (pc := 235) (v := (0 : Int32)) C dX12_meansOne_235 (by decide) ?_
        refine ww_iload_n (pc := 236) C 3 dX12_meansOne_236 rfl ?_
        refine ww_iadd (pc := 237) C dX12_meansOne_237 ?_
        refine ww_iload (pc := 238) C 0 dX12_meansOne_238 rfl ?_
        obtain ⟨σ8, e7, hf⟩ := xbd hf
        refine ww_iast (pc := 240) C e7 dX12_meansOne_240 ?_
        have hf := xsj hf
        subst hf
        exact ww_vret (pc := 241) C hk dX12_meansOne_241
      · have hf := xin q hf
        refine ww_bipush (pc := 230) (v := (16 : Int32)) C dX12_meansOne_230 (by decide) ?_
        refine ww_goto (pc := 232) (tgt := 236) C dX12_meansOne_232 (by decide) ?_
        refine ww_iload_n (pc := 236) C 3 dX12_meansOne_236 rfl ?_
        refine ww_iadd (pc := 237) C dX12_meansOne_237 ?_
        refine ww_iload (pc := 238) C 0 dX12_meansOne_238 rfl ?_
        obtain ⟨σ8, e7, hf⟩ := xbd hf
        refine ww_iast (pc := 240) C e7 dX12_meansOne_240 ?_
        have hf := xsj hf
        subst hf
        exact ww_vret (pc := 241) C hk dX12_meansOne_241
    · have hf := xip q hf
      refine ww_bipush (pc := 220) (v := (32 : Int32)) C dX12_meansOne_220 (by decide) ?_
      refine ww_goto (pc := 222) (tgt := 236) C dX12_meansOne_222 (by decide) ?_
      refine ww_iload_n (pc := 236) C 3 dX12_meansOne_236 rfl ?_
      refine ww_iadd (pc := 237) C dX12_meansOne_237 ?_
      refine ww_iload (pc := 238) C 0 dX12_meansOne_238 rfl ?_
      obtain ⟨σ8, e7, hf⟩ := xbd hf
      refine ww_iast (pc := 240) C e7 dX12_meansOne_240 ?_
      have hf := xsj hf
      subst hf
      exact ww_vret (pc := 241) C hk dX12_meansOne_241
theorem m_X12_meansOne_j200 {σ : XS} {r0 : Nat} {x2 : Int32} {x3 : Int32} {x4 : Int32} {x5 : Int32} {t0 : Nat} {t1 : Int32} {x : XS} (hf : f_X12_meansOne_j200 σ r0 x2 x3 x4 x5 t0 t1 = some x) : xsame σ x := by
  have hm := xsame.rf (σ := σ)
  obtain ⟨_, e1, hf⟩ := xbd hf
  obtain ⟨⟨v4, σ3⟩, e2, hf⟩ := xbd hf
  dsimp only at hf
  have hm := hm.tr (m_X12_jAt e2)
  by_cases q : x4 = 0
  · have hf := xip q hf
    have hf := xsj hf
    subst hf
    exact hm
  · have hf := xin q hf
    obtain ⟨z6, e5, hf⟩ := xbd hf
    by_cases q : x2 = (26 : Int32)
    · have hf := xip q hf
      obtain ⟨σ8, e7, hf⟩ := xbd hf
      have hm := hm.tr (xsI_same e7)
      have hf := xsj hf
      subst hf
      exact hm
    · have hf := xin q hf
      by_cases q : x5 = 0
      · have hf := xip q hf
        obtain ⟨σ8, e7, hf⟩ := xbd hf
        have hm := hm.tr (xsI_same e7)
        have hf := xsj hf
        subst hf
        exact hm
      · have hf := xin q hf
        obtain ⟨σ8, e7, hf⟩ := xbd hf
        have hm := hm.tr (xsI_same e7)
        have hf := xsj hf
        subst hf
        exact hm
theorem s_X12_meansOne_j145 {G : XG} (C : XC G cX12_meansOne RX12 none 7 2 45) {σ : XS} {r0 : Nat} {x1 : Int32} {x2 : Int32} {x3 : Int32} {x4 : Int32} {x5 : Int32} {x : XS} (hf : f_X12_meansOne_j145 σ r0 x1 x2 x3 x4 x5 = some x) (hk : XEnd G none x) : WW G 145 [(0, .ref (gB G + r0)), (1, .int x1), (2, .int x2), (3, .int x3), (4, .int x4), (5, .int x5)] [] σ := by
  refine ww_iload_n (pc := 145) C 2 dX12_meansOne_145 rfl ?_
  refine ww_bipush (pc := 146) (v := (27 : Int32)) C dX12_meansOne_146 (by decide) ?_
  refine ww_icmp_ne (pc := 148) (tgt := 184) C dX12_meansOne_148 (by decide) (fun q => ?_) (fun q => ?_)
  · have hf := xin q hf
    refine ww_aload_n (pc := 184) C 0 dX12_meansOne_184 rfl ?_
    refine ww_iload_n (pc := 185) C 2 dX12_meansOne_185 rfl ?_
    refine ww_bipush (pc := 186) (v := (25 : Int32)) C dX12_meansOne_186 (by decide) ?_
    refine ww_icmp_ne (pc := 188) (tgt := 197) C dX12_meansOne_188 (by decide) (fun q => ?_) (fun q => ?_)
    · have hf := xin q hf
      refine ww_iload_n (pc := 197) C 1 dX12_meansOne_197 rfl ?_
      refine ww_iconst (pc := 198) (v := (2 : Int32)) C dX12_meansOne_198 (by decide) ?_
      refine ww_iadd (pc := 199) C dX12_meansOne_199 ?_
      refine ww_sub [0, 2, 3, 4, 5] rfl ?_
      exact s_X12_meansOne_j200 C hf hk
    · have hf := xip q hf
      refine ww_iload_n (pc := 191) C 1 dX12_meansOne_191 rfl ?_
      refine ww_iconst (pc := 192) (v := (3 : Int32)) C dX12_meansOne_192 (by decide) ?_
      refine ww_iadd (pc := 193) C dX12_meansOne_193 ?_
      refine ww_goto (pc := 194) (tgt := 200) C dX12_meansOne_194 (by decide) ?_
      refine ww_sub [0, 2, 3, 4, 5] rfl ?_
      exact s_X12_meansOne_j200 C hf hk
  · have hf := xip q hf
    refine ww_iload (pc := 151) C 4 dX12_meansOne_151 rfl ?_
    refine ww_if_eq (pc := 153) (tgt := 183) C dX12_meansOne_153 (by decide) (fun q => ?_) (fun q => ?_)
    · have hf := xip q hf
      have hf := xsj hf
      subst hf
      exact ww_vret (pc := 183) C hk dX12_meansOne_183
    · have hf := xin q hf
      refine ww_aload_n (pc := 156) C 0 dX12_meansOne_156 rfl ?_
      obtain ⟨z2, e1, hf⟩ := xbd hf
      refine gf_X12_43 (pc := 157) C e1 dX12_meansOne_157 ?_
      refine ww_bipush (pc := 160) (v := (48 : Int32)) C dX12_meansOne_160 (by decide) ?_
      refine ww_iload_n (pc := 162) C 3 dX12_meansOne_162 rfl ?_
      refine ww_iadd (pc := 163) C dX12_meansOne_163 ?_
      refine ww_aload_n (pc := 164) C 0 dX12_meansOne_164 rfl ?_
      obtain ⟨z4, e3, hf⟩ := xbd hf
      refine gf_X12_20 (pc := 165) C e3 dX12_meansOne_165 ?_
      refine ww_iload_n (pc := 168) C 1 dX12_meansOne_168 rfl ?_
      refine ww_iconst (pc := 169) (v := (2 : Int32)) C dX12_meansOne_169 (by decide) ?_
      refine ww_iadd (pc := 170) C dX12_meansOne_170 ?_
      obtain ⟨v6, e5, hf⟩ := xbd hf
      refine ww_iald (pc := 171) C e5 dX12_meansOne_171 ?_
      refine ww_bipush (pc := 172) (v := (28 : Int32)) C dX12_meansOne_172 (by decide) ?_
      refine ww_icmp_ne (pc := 174) (tgt := 181) C dX12_meansOne_174 (by decide) (fun q => ?_) (fun q => ?_)
      · have hf := xin q hf
        refine ww_iconst (pc := 181) (v := (2 : Int32)) C dX12_meansOne_181 (by decide) ?_
        obtain ⟨σ8, e7, hf⟩ := xbd hf
        refine ww_iast (pc := 182) C e7 dX12_meansOne_182 ?_
        have hf := xsj hf
        subst hf
        exact ww_vret (pc := 183) C hk dX12_meansOne_183
      · have hf := xip q hf
        refine ww_iconst (pc := 177) (v := (1 : Int32)) C dX12_meansOne_177 (by decide) ?_
        refine ww_goto (pc := 178) (tgt := 182) C dX12_meansOne_178 (by decide) ?_
        obtain ⟨σ8, e7, hf⟩ := xbd hf
        refine ww_iast (pc := 182) C e7 dX12_meansOne_182 ?_
        have hf := xsj hf
        subst hf
        exact ww_vret (pc := 183) C hk dX12_meansOne_183
theorem m_X12_meansOne_j145 {σ : XS} {r0 : Nat} {x1 : Int32} {x2 : Int32} {x3 : Int32} {x4 : Int32} {x5 : Int32} {x : XS} (hf : f_X12_meansOne_j145 σ r0 x1 x2 x3 x4 x5 = some x) : xsame σ x := by
  have hm := xsame.rf (σ := σ)
  by_cases q : x2 = (27 : Int32)
  · have hf := xip q hf
    by_cases q : x4 = 0
    · have hf := xip q hf
      have hf := xsj hf
      subst hf
      exact hm
    · have hf := xin q hf
      obtain ⟨z2, e1, hf⟩ := xbd hf
      obtain ⟨z4, e3, hf⟩ := xbd hf
      obtain ⟨v6, e5, hf⟩ := xbd hf
      by_cases q : v6 = (28 : Int32)
      · have hf := xip q hf
        obtain ⟨σ8, e7, hf⟩ := xbd hf
        have hm := hm.tr (xsI_same e7)
        have hf := xsj hf
        subst hf
        exact hm
      · have hf := xin q hf
        obtain ⟨σ8, e7, hf⟩ := xbd hf
        have hm := hm.tr (xsI_same e7)
        have hf := xsj hf
        subst hf
        exact hm
  · have hf := xin q hf
    by_cases q : x2 = (25 : Int32)
    · have hf := xip q hf
      exact hm.tr (m_X12_meansOne_j200 hf)
    · have hf := xin q hf
      exact hm.tr (m_X12_meansOne_j200 hf)
theorem s_X12_meansOne_j134 {G : XG} (C : XC G cX12_meansOne RX12 none 7 2 45) {σ : XS} {r0 : Nat} {x1 : Int32} {x2 : Int32} {x3 : Int32} {x5 : Int32} {x : XS} (hf : f_X12_meansOne_j134 σ r0 x1 x2 x3 x5 = some x) (hk : XEnd G none x) : WW G 134 [(0, .ref (gB G + r0)), (1, .int x1), (2, .int x2), (3, .int x3), (5, .int x5)] [] σ := by
  refine ww_aload_n (pc := 134) C 0 dX12_meansOne_134 rfl ?_
  refine ww_iconst (pc := 135) (v := (4 : Int32)) C dX12_meansOne_135 (by decide) ?_
  refine ww_iload_n (pc := 136) C 1 dX12_meansOne_136 rfl ?_
  refine ww_iconst (pc := 137) (v := (1 : Int32)) C dX12_meansOne_137 (by decide) ?_
  refine ww_iadd (pc := 138) C dX12_meansOne_138 ?_
  obtain ⟨_, e1, hf⟩ := xbd hf
  obtain ⟨σ3, e2, hf⟩ := xbd hf
  refine ww_callVv (pc := 139) (as := [.int (4 : Int32), .int (x1 + (1 : Int32))]) (st := []) C (k_X12_wrong (l := gl G) (E := gE G) (hb := gB G) (σ := σ) e2) rfl (by decide) xc_X12_209 q1477 qp132 (xck_spec e1) rfl (by decide) (xst4 (Nat.le_of_ble_eq_true rfl)) (m_X12_wrong e2).le (m_X12_wrong e2).lim dX12_meansOne_139 ?_
  refine ww_iconst (pc := 142) (v := (0 : Int32)) C dX12_meansOne_142 (by decide) ?_
  refine ww_istore (pc := 143) (lv' := [(4, .int (0 : Int32)), (0, .ref (gB G + r0)), (1, .int x1), (2, .int x2), (3, .int x3), (5, .int x5)]) C dX12_meansOne_143 (by decide) rfl ?_
  refine ww_sub [1, 2, 3, 4, 0, 5] rfl ?_
  exact s_X12_meansOne_j145 C hf hk
theorem m_X12_meansOne_j134 {σ : XS} {r0 : Nat} {x1 : Int32} {x2 : Int32} {x3 : Int32} {x5 : Int32} {x : XS} (hf : f_X12_meansOne_j134 σ r0 x1 x2 x3 x5 = some x) : xsame σ x := by
  have hm := xsame.rf (σ := σ)
  obtain ⟨_, e1, hf⟩ := xbd hf
  obtain ⟨σ3, e2, hf⟩ := xbd hf
  have hm := hm.tr (m_X12_wrong e2)
  exact hm.tr (m_X12_meansOne_j145 hf)
theorem s_X12_meansOne_j128 {G : XG} (C : XC G cX12_meansOne RX12 none 7 2 45) {σ : XS} {r0 : Nat} {x1 : Int32} {x2 : Int32} {x3 : Int32} {x4 : Int32} {x5 : Int32} {t0 : Int32} {t1 : Int32} {t2 : Int32} {t3 : Int32} {t4 : Int32} {x : XS} (hf : f_X12_meansOne_j128 σ r0 x1 x2 x3 x4 x5 t0 t1 t2 t3 t4 = some x) (hk : XEnd G none x) : WW G 128 [(0, .ref (gB G + r0)), (1, .int x1), (2, .int x2), (3, .int x3), (4, .int x4), (5, .int x5)] [.int t4, .int t3, .int t2, .int t1, .int t0] σ := by
  obtain ⟨v2, e1, hf⟩ := xbd hf
  refine ww_callSi (pc := 128) (as := [.int t0, .int t1, .int t2, .int t3, .int t4]) (st := []) C (k_X12_leads (l := gl G) (E := gE G) (hb := gB G) (σ := σ) e1) xc_X12_226 q1492 rfl (by decide) (xst4 (Nat.le_of_ble_eq_true rfl)) xsame.rf.le xsame.rf.lim dX12_meansOne_128 ?_
  refine ww_if_ge (pc := 131) (tgt := 145) C dX12_meansOne_131 (by decide) (fun q => ?_) (fun q => ?_)
  · have hf := xip q hf
    refine ww_sub [0, 1, 2, 3, 4, 5] rfl ?_
    exact s_X12_meansOne_j145 C hf hk
  · have hf := xin q hf
    refine ww_sub [0, 1, 2, 3, 5] rfl ?_
    exact s_X12_meansOne_j134 C hf hk
theorem m_X12_meansOne_j128 {σ : XS} {r0 : Nat} {x1 : Int32} {x2 : Int32} {x3 : Int32} {x4 : Int32} {x5 : Int32} {t0 : Int32} {t1 : Int32} {t2 : Int32} {t3 : Int32} {t4 : Int32} {x : XS} (hf : f_X12_meansOne_j128 σ r0 x1 x2 x3 x4 x5 t0 t1 t2 t3 t4 = some x) : xsame σ x := by
  have hm := xsame.rf (σ := σ)
  obtain ⟨v2, e1, hf⟩ := xbd hf
  by_cases q : 0 ≤ v2
  · have hf := xip q hf
    exact hm.tr (m_X12_meansOne_j145 hf)
  · have hf := xin q hf
    exact hm.tr (m_X12_meansOne_j134 hf)
theorem s_X12_meansOne_j80 {G : XG} (C : XC G cX12_meansOne RX12 none 7 2 45) {σ : XS} {r0 : Nat} {x1 : Int32} {x2 : Int32} {x3 : Int32} {x4 : Int32} {t0 : Int32} {x : XS} (hf : f_X12_meansOne_j80 σ r0 x1 x2 x3 x4 t0 = some x) (hk : XEnd G none x) : WW G 80 [(0, .ref (gB G + r0)), (1, .int x1), (2, .int x2), (3, .int x3), (4, .int x4)] [.int t0] σ := by
  refine ww_istore (pc := 80) (lv' := [(5, .int t0), (0, .ref (gB G + r0)), (1, .int x1), (2, .int x2), (3, .int x3), (4, .int x4)]) C dX12_meansOne_80 (by decide) rfl ?_
  refine ww_iload_n (pc := 82) C 4 dX12_meansOne_82 rfl ?_
  refine ww_aload_n (pc := 83) C 1 dX12_meansOne_83 rfl ?_
  obtain ⟨v2, e1, hf⟩ := xbd hf
  refine gf_X12_168 (pc := 84) C e1 dX12_meansOne_84 ?_
  refine ww_aload_n (pc := 87) C 1 dX12_meansOne_87 rfl ?_
  obtain ⟨v4, e3, hf⟩ := xbd hf
  refine gf_X12_174 (pc := 88) C e3 dX12_meansOne_88 ?_
  refine ww_imul (pc := 91) C dX12_meansOne_91 ?_
  refine ww_icmp_ge (pc := 92) (tgt := 134) C dX12_meansOne_92 (by decide) (fun q => ?_) (fun q => ?_)
  · have hf := xip q hf
    refine ww_sub [1, 2, 3, 4, 0] rfl ?_
    exact s_X12_meansOne_j134 C hf hk
  · have hf := xin q hf
    refine ww_iload_n (pc := 95) C 3 dX12_meansOne_95 rfl ?_
    refine ww_bipush (pc := 96) (v := (25 : Int32)) C dX12_meansOne_96 (by decide) ?_
    refine ww_icmp_ne (pc := 98) (tgt := 145) C dX12_meansOne_98 (by decide) (fun q => ?_) (fun q => ?_)
    · have hf := xin q hf
      refine ww_sub [1, 2, 3, 4, 5, 0] rfl ?_
      exact s_X12_meansOne_j145 C hf hk
    · have hf := xip q hf
      refine ww_iload_n (pc := 101) C 4 dX12_meansOne_101 rfl ?_
      refine ww_iload (pc := 102) C 0 dX12_meansOne_102 rfl ?_
      refine ww_aload_n (pc := 104) C 1 dX12_meansOne_104 rfl ?_
      obtain ⟨v6, e5, hf⟩ := xbd hf
      refine gf_X12_168 (pc := 105) C e5 dX12_meansOne_105 ?_
      refine ww_aload_n (pc := 108) C 1 dX12_meansOne_108 rfl ?_
      obtain ⟨v8, e7, hf⟩ := xbd hf
      refine gf_X12_174 (pc := 109) C e7 dX12_meansOne_109 ?_
      refine ww_iload (pc := 112) C 0 dX12_meansOne_112 rfl ?_
      refine ww_if_eq (pc := 114) (tgt := 124) C dX12_meansOne_114 (by decide) (fun q => ?_) (fun q => ?_)
      · have hf := xip q hf
        refine ww_aload_n (pc := 124) C 1 dX12_meansOne_124 rfl ?_
        obtain ⟨v10, e9, hf⟩ := xbd hf
        refine gf_X12_180 (pc := 125) C e9 dX12_meansOne_125 ?_
        refine ww_sub [1, 2, 3, 4, 5, 0] rfl ?_
        exact s_X12_meansOne_j128 C hf hk
      · have hf := xin q hf
        refine ww_aload_n (pc := 117) C 1 dX12_meansOne_117 rfl ?_
        obtain ⟨v10, e9, hf⟩ := xbd hf
        refine gf_X12_187 (pc := 118) C e9 dX12_meansOne_118 ?_
        refine ww_goto (pc := 121) (tgt := 128) C dX12_meansOne_121 (by decide) ?_
        refine ww_sub [1, 2, 3, 4, 5, 0] rfl ?_
        exact s_X12_meansOne_j128 C hf hk
theorem m_X12_meansOne_j80 {σ : XS} {r0 : Nat} {x1 : Int32} {x2 : Int32} {x3 : Int32} {x4 : Int32} {t0 : Int32} {x : XS} (hf : f_X12_meansOne_j80 σ r0 x1 x2 x3 x4 t0 = some x) : xsame σ x := by
  have hm := xsame.rf (σ := σ)
  obtain ⟨v2, e1, hf⟩ := xbd hf
  obtain ⟨v4, e3, hf⟩ := xbd hf
  by_cases q : (v2 * v4) ≤ x3
  · have hf := xip q hf
    exact hm.tr (m_X12_meansOne_j134 hf)
  · have hf := xin q hf
    by_cases q : x2 = (25 : Int32)
    · have hf := xip q hf
      obtain ⟨v6, e5, hf⟩ := xbd hf
      obtain ⟨v8, e7, hf⟩ := xbd hf
      by_cases q : t0 = 0
      · have hf := xip q hf
        obtain ⟨v10, e9, hf⟩ := xbd hf
        exact hm.tr (m_X12_meansOne_j128 hf)
      · have hf := xin q hf
        obtain ⟨v10, e9, hf⟩ := xbd hf
        exact hm.tr (m_X12_meansOne_j128 hf)
    · have hf := xin q hf
      exact hm.tr (m_X12_meansOne_j145 hf)
theorem s_X12_meansOne_j60 {G : XG} (C : XC G cX12_meansOne RX12 none 7 2 45) {σ : XS} {r0 : Nat} {x1 : Int32} {x2 : Int32} {x3 : Int32} {t0 : Int32} {x : XS} (hf : f_X12_meansOne_j60 σ r0 x1 x2 x3 t0 = some x) (hk : XEnd G none x) : WW G 60 [(0, .ref (gB G + r0)), (1, .int x1), (2, .int x2), (3, .int x3)] [.int t0] σ := by
  refine ww_istore (pc := 60) (lv' := [(4, .int t0), (0, .ref (gB G + r0)), (1, .int x1), (2, .int x2), (3, .int x3)]) C dX12_meansOne_60 (by decide) rfl ?_
  refine ww_aload_n (pc := 62) C 1 dX12_meansOne_62 rfl ?_
  obtain ⟨z2, e1, hf⟩ := xbd hf
  refine gf_X12_20 (pc := 63) C e1 dX12_meansOne_63 ?_
  refine ww_iload_n (pc := 66) C 2 dX12_meansOne_66 rfl ?_
  refine ww_iconst (pc := 67) (v := (2 : Int32)) C dX12_meansOne_67 (by decide) ?_
  refine ww_iadd (pc := 68) C dX12_meansOne_68 ?_
  obtain ⟨v4, e3, hf⟩ := xbd hf
  refine ww_iald (pc := 69) C e3 dX12_meansOne_69 ?_
  refine ww_bipush (pc := 70) (v := (22 : Int32)) C dX12_meansOne_70 (by decide) ?_
  refine ww_icmp_ne (pc := 72) (tgt := 79) C dX12_meansOne_72 (by decide) (fun q => ?_) (fun q => ?_)
  · have hf := xin q hf
    refine ww_iconst (pc := 79) (v := (0 : Int32)) C dX12_meansOne_79 (by decide) ?_
    refine ww_sub [1, 2, 3, 4, 0] rfl ?_
    exact s_X12_meansOne_j80 C hf hk
  · have hf := xip q hf
    refine ww_iconst (pc := 75) (v := (1 : Int32)) C dX12_meansOne_75 (by decide) ?_
    refine ww_goto (pc := 76) (tgt := 80) C dX12_meansOne_76 (by decide) ?_
    refine ww_sub [1, 2, 3, 4, 0] rfl ?_
    exact s_X12_meansOne_j80 C hf hk
theorem m_X12_meansOne_j60 {σ : XS} {r0 : Nat} {x1 : Int32} {x2 : Int32} {x3 : Int32} {t0 : Int32} {x : XS} (hf : f_X12_meansOne_j60 σ r0 x1 x2 x3 t0 = some x) : xsame σ x := by
  have hm := xsame.rf (σ := σ)
  obtain ⟨z2, e1, hf⟩ := xbd hf
  obtain ⟨v4, e3, hf⟩ := xbd hf
  by_cases q : v4 = (22 : Int32)
  · have hf := xip q hf
    exact hm.tr (m_X12_meansOne_j80 hf)
  · have hf := xin q hf
    exact hm.tr (m_X12_meansOne_j80 hf)
theorem s_X12_meansOne_j26 {G : XG} (C : XC G cX12_meansOne RX12 none 7 2 45) {σ : XS} {r0 : Nat} {x1 : Int32} {x2 : Int32} {x : XS} (hf : f_X12_meansOne_j26 σ r0 x1 x2 = some x) (hk : XEnd G none x) : WW G 26 [(0, .ref (gB G + r0)), (1, .int x1), (2, .int x2)] [] σ := by
  refine ww_aload_n (pc := 26) C 0 dX12_meansOne_26 rfl ?_
  obtain ⟨z2, e1, hf⟩ := xbd hf
  refine gf_X12_27 (pc := 27) C e1 dX12_meansOne_27 ?_
  refine ww_iload_n (pc := 30) C 1 dX12_meansOne_30 rfl ?_
  refine ww_iconst (pc := 31) (v := (1 : Int32)) C dX12_meansOne_31 (by decide) ?_
  refine ww_iadd (pc := 32) C dX12_meansOne_32 ?_
  obtain ⟨v4, e3, hf⟩ := xbd hf
  refine ww_iald (pc := 33) C e3 dX12_meansOne_33 ?_
  refine ww_istore_n (pc := 34) (lv' := [(3, .int v4), (0, .ref (gB G + r0)), (1, .int x1), (2, .int x2)]) C dX12_meansOne_34 (by decide) rfl ?_
  refine ww_iload_n (pc := 35) C 0 dX12_meansOne_35 rfl ?_
  refine ww_aload_n (pc := 36) C 1 dX12_meansOne_36 rfl ?_
  obtain ⟨v6, e5, hf⟩ := xbd hf
  refine gf_X12_168 (pc := 37) C e5 dX12_meansOne_37 ?_
  refine ww_aload_n (pc := 40) C 1 dX12_meansOne_40 rfl ?_
  obtain ⟨v8, e7, hf⟩ := xbd hf
  refine gf_X12_174 (pc := 41) C e7 dX12_meansOne_41 ?_
  refine ww_imul (pc := 44) C dX12_meansOne_44 ?_
  refine ww_icmp_ge (pc := 45) (tgt := 59) C dX12_meansOne_45 (by decide) (fun q => ?_) (fun q => ?_)
  · have hf := xip q hf
    refine ww_iconst (pc := 59) (v := (0 : Int32)) C dX12_meansOne_59 (by decide) ?_
    refine ww_sub [1, 2, 3, 0] rfl ?_
    exact s_X12_meansOne_j60 C hf hk
  · have hf := xin q hf
    refine ww_aload_n (pc := 48) C 1 dX12_meansOne_48 rfl ?_
    obtain ⟨v10, e9, hf⟩ := xbd hf
    refine gf_X12_141 (pc := 49) C e9 dX12_meansOne_49 ?_
    refine ww_if_ne (pc := 52) (tgt := 59) C dX12_meansOne_52 (by decide) (fun q => ?_) (fun q => ?_)
    · have hf := xin q hf
      refine ww_iconst (pc := 59) (v := (0 : Int32)) C dX12_meansOne_59 (by decide) ?_
      refine ww_sub [1, 2, 3, 0] rfl ?_
      exact s_X12_meansOne_j60 C hf hk
    · have hf := xip q hf
      refine ww_iconst (pc := 55) (v := (1 : Int32)) C dX12_meansOne_55 (by decide) ?_
      refine ww_goto (pc := 56) (tgt := 60) C dX12_meansOne_56 (by decide) ?_
      refine ww_sub [1, 2, 3, 0] rfl ?_
      exact s_X12_meansOne_j60 C hf hk
theorem m_X12_meansOne_j26 {σ : XS} {r0 : Nat} {x1 : Int32} {x2 : Int32} {x : XS} (hf : f_X12_meansOne_j26 σ r0 x1 x2 = some x) : xsame σ x := by
  have hm := xsame.rf (σ := σ)
  obtain ⟨z2, e1, hf⟩ := xbd hf
  obtain ⟨v4, e3, hf⟩ := xbd hf
  obtain ⟨v6, e5, hf⟩ := xbd hf
  obtain ⟨v8, e7, hf⟩ := xbd hf
  by_cases q : (v6 * v8) ≤ v4
  · have hf := xip q hf
    exact hm.tr (m_X12_meansOne_j60 hf)
  · have hf := xin q hf
    obtain ⟨v10, e9, hf⟩ := xbd hf
    by_cases q : v10 = 0
    · have hf := xip q hf
      exact hm.tr (m_X12_meansOne_j60 hf)
    · have hf := xin q hf
      exact hm.tr (m_X12_meansOne_j60 hf)
theorem s_X12_meansOne_e {G : XG} (C : XC G cX12_meansOne RX12 none 7 2 45) {σ : XS} {r0 : Nat} {x1 : Int32} {x : XS} (hf : f_X12_meansOne σ r0 x1 = some x) (hk : XEnd G none x) : WW G 0 [(0, .ref (gB G + r0)), (1, .int x1)] [] σ := by
  refine ww_aload_n (pc := 0) C 0 dX12_meansOne_0 rfl ?_
  obtain ⟨z2, e1, hf⟩ := xbd hf
  refine gf_X12_20 (pc := 1) C e1 dX12_meansOne_1 ?_
  refine ww_iload_n (pc := 4) C 1 dX12_meansOne_4 rfl ?_
  obtain ⟨v4, e3, hf⟩ := xbd hf
  refine ww_iald (pc := 5) C e3 dX12_meansOne_5 ?_
  refine ww_istore_n (pc := 6) (lv' := [(2, .int v4), (0, .ref (gB G + r0)), (1, .int x1)]) C dX12_meansOne_6 (by decide) rfl ?_
  refine ww_iload_n (pc := 7) C 0 dX12_meansOne_7 rfl ?_
  refine ww_bipush (pc := 8) (v := (25 : Int32)) C dX12_meansOne_8 (by decide) ?_
  refine ww_icmp_eq (pc := 10) (tgt := 26) C dX12_meansOne_10 (by decide) (fun q => ?_) (fun q => ?_)
  · have hf := xip q hf
    refine ww_sub [1, 2, 0] rfl ?_
    exact s_X12_meansOne_j26 C hf hk
  · have hf := xin q hf
    refine ww_iload_n (pc := 13) C 0 dX12_meansOne_13 rfl ?_
    refine ww_bipush (pc := 14) (v := (26 : Int32)) C dX12_meansOne_14 (by decide) ?_
    refine ww_icmp_eq (pc := 16) (tgt := 26) C dX12_meansOne_16 (by decide) (fun q => ?_) (fun q => ?_)
    · have hf := xip q hf
      refine ww_sub [1, 2, 0] rfl ?_
      exact s_X12_meansOne_j26 C hf hk
    · have hf := xin q hf
      refine ww_iload_n (pc := 19) C 0 dX12_meansOne_19 rfl ?_
      refine ww_bipush (pc := 20) (v := (27 : Int32)) C dX12_meansOne_20 (by decide) ?_
      refine ww_icmp_eq (pc := 22) (tgt := 26) C dX12_meansOne_22 (by decide) (fun q => ?_) (fun q => ?_)
      · have hf := xip q hf
        refine ww_sub [1, 2, 0] rfl ?_
        exact s_X12_meansOne_j26 C hf hk
      · have hf := xin q hf
        have hf := xsj hf
        subst hf
        exact ww_vret (pc := 25) C hk dX12_meansOne_25
theorem m_X12_meansOne {σ : XS} {r0 : Nat} {x1 : Int32} {x : XS} (hf : f_X12_meansOne σ r0 x1 = some x) : xsame σ x := by
  have hm := xsame.rf (σ := σ)
  obtain ⟨z2, e1, hf⟩ := xbd hf
  obtain ⟨v4, e3, hf⟩ := xbd hf
  by_cases q : v4 = (25 : Int32)
  · have hf := xip q hf
    exact hm.tr (m_X12_meansOne_j26 hf)
  · have hf := xin q hf
    by_cases q : v4 = (26 : Int32)
    · have hf := xip q hf
      exact hm.tr (m_X12_meansOne_j26 hf)
    · have hf := xin q hf
      by_cases q : v4 = (27 : Int32)
      · have hf := xip q hf
        exact hm.tr (m_X12_meansOne_j26 hf)
      · have hf := xin q hf
        have hf := xsj hf
        subst hf
        exact hm
theorem k_X12_meansOne {l : Launch} {E : XD} {hb : Nat} {σ : XS} {r0 : Nat} {x1 : Int32} {x : XS} (h : f_X12_meansOne σ r0 x1 = some x) : XM l yX12_meansOne cX12_meansOne 7 none 2 45 E hb [.ref (hb + r0), .int x1] σ none x := by
  refine xm_of (by decide) (Nat.le_of_ble_eq_true rfl) (m_X12_meansOne h).le (fun G hG C hl hQ => ?_)
  obtain ⟨rfl, rfl, rfl, hN⟩ := hG
  exact s_X12_meansOne_e C h hQ
noncomputable def f_X12_means_b211 (r0 : Nat) : Int32 × XS → Option ((Int32 × XS) ⊕ (XS)) := fun a => match a with
  | (x1, σ) => (xgI σ r0 12 10).bind fun v2 => if v2 ≤ x1 then ((some σ).map .inr) else (xgR σ r0 12 5).bind fun z4 => (xaI σ 20 z4 (x1 - (1 : Int32))).bind fun v6 => if v6 = (4 : Int32) then ((xck σ r0 12).bind fun _ => (f_X12_meansOne σ r0 x1).bind fun σ9 => some (.inl (x1 + (1 : Int32), σ9))) else some (.inl (x1 + (1 : Int32), σ))
noncomputable def f_X12_means_b178 (r0 : Nat) : Int32 × XS → Option ((Int32 × XS) ⊕ (XS)) := fun a => match a with
  | (x1, σ) => (xgI σ r0 12 10).bind fun v2 => if v2 ≤ x1 then ((xloop (f_X12_means_b211 r0) ((4 : Int32), σ)).map .inr) else (xgR σ r0 12 5).bind fun z4 => (xaI σ 20 z4 (x1 - (1 : Int32))).bind fun v6 => if v6 = (4 : Int32) then ((xck σ r0 12).bind fun _ => (f_X12_meansAll σ r0 x1).bind fun σ9 => some (.inl (x1 + (1 : Int32), σ9))) else some (.inl (x1 + (1 : Int32), σ))
noncomputable def f_X12_means_j141 (σ : XS) (r0 : Nat) (x1 : Int32) : Option ((Int32 × XS) ⊕ (XS)) := (xgR σ r0 12 5).bind fun z2 => (xaI σ 20 z2 x1).bind fun v4 => if v4 = (24 : Int32) then ((xgR σ r0 12 5).bind fun z6 => (xaI σ 20 z6 (x1 + (1 : Int32))).bind fun v8 => if v8 = (22 : Int32) then ((xpI σ r0 12 25 (1 : Int32)).bind fun σ10 => some (.inl (x1 + (1 : Int32), σ10))) else some (.inl (x1 + (1 : Int32), σ))) else some (.inl (x1 + (1 : Int32), σ))
noncomputable def f_X12_means_b104 (r0 : Nat) : Int32 × XS → Option ((Int32 × XS) ⊕ (XS)) := fun a => match a with
  | (x1, σ) => (xgI σ r0 12 10).bind fun v2 => if v2 ≤ x1 then ((xloop (f_X12_means_b178 r0) ((4 : Int32), σ)).map .inr) else (xgR σ r0 12 5).bind fun z4 => (xaI σ 20 z4 x1).bind fun v6 => if v6 = (24 : Int32) then ((xgR σ r0 12 5).bind fun z8 => (xaI σ 20 z8 (x1 + (1 : Int32))).bind fun v10 => if v10 = (21 : Int32) then ((xpI σ r0 12 24 (1 : Int32)).bind fun σ12 => f_X12_means_j141 σ12 r0 x1) else f_X12_means_j141 σ r0 x1) else f_X12_means_j141 σ r0 x1
noncomputable def f_X12_means_b83 (r0 : Nat) : Int32 × XS → Option ((Int32 × XS) ⊕ (XS)) := fun a => match a with
  | (x1, σ) => if (66 : Int32) ≤ x1 then ((xloop (f_X12_means_b104 r0) ((0 : Int32), σ)).map .inr) else (xgR σ r0 12 26).bind fun z2 => (xsI σ 20 z2 x1 (0 : Int32)).bind fun σ4 => some (.inl (x1 + (1 : Int32), σ4))
noncomputable def f_X12_means_j75 (σ : XS) (r0 : Nat) : Option XS := (xck σ r0 12).bind fun _ => (f_X12_wrong σ r0 (3 : Int32) (2 : Int32)).bind fun σ3 => xloop (f_X12_means_b83 r0) ((0 : Int32), σ3)
noncomputable def f_X12_means_j48 (σ : XS) (r0 : Nat) : Option XS := (xgI σ r0 12 23).bind fun v2 => (f_X12_in v2 (1 : Int32) (16 : Int32)).bind fun v4 => if v4 = 0 then (f_X12_means_j75 σ r0) else (xgI σ r0 12 22).bind fun v6 => (xgI σ r0 12 23).bind fun v8 => if (v6 * v8) ≤ (16 : Int32) then (xloop (f_X12_means_b83 r0) ((0 : Int32), σ)) else f_X12_means_j75 σ r0
noncomputable def f_X12_means (σ : XS) (r0 : Nat) : Option XS := (xgR σ r0 12 7).bind fun z2 => (xaI σ 20 z2 (1 : Int32)).bind fun v4 => (xpI σ r0 12 22 v4).bind fun σ6 => (xgR σ6 r0 12 7).bind fun z8 => (xaI σ6 20 z8 (2 : Int32)).bind fun v10 => (xpI σ6 r0 12 23 v10).bind fun σ12 => (xpI σ12 r0 12 24 (0 : Int32)).bind fun σ14 => (xpI σ14 r0 12 25 (0 : Int32)).bind fun σ16 => (xgI σ16 r0 12 22).bind fun v18 => (f_X12_in v18 (1 : Int32) (4 : Int32)).bind fun v20 => if v20 = 0 then ((xck σ16 r0 12).bind fun _ => (f_X12_wrong σ16 r0 (3 : Int32) (1 : Int32)).bind fun σ23 => f_X12_means_j48 σ23 r0) else f_X12_means_j48 σ16 r0
theorem m_X12_means_l211 {r0 : Nat} {a : Int32 × XS} {x : XS} (hf : xloop (f_X12_means_b211 r0) a = some x) : xsame a.2 x := by
  refine xloop_ind (P := fun a => xsame a.2 x) (fun a y hf hc he => ?_) hf
  obtain ⟨x1, σ⟩ := a
  have hy : (∀ a' : Int32 × XS, y = .inl a' → xsame σ a'.2) ∧ (∀ b1 : XS, y = .inr b1 → xsame σ b1) := by
    have hm := xsame.rf (σ := σ)
    obtain ⟨v2, e1, hf⟩ := xbd hf
    by_cases q : v2 ≤ x1
    · have hf := xip q hf
      obtain ⟨b0, hg, e9⟩ := xmj hf
      subst e9
      have hf := hg
      refine ⟨fun a' e => xnc2 e, fun b e => ?_⟩
      have h9 := Sum.inr.inj e
      subst h9
      have hf := xsj hf
      subst hf
      exact hm
    · have hf := xin q hf
      obtain ⟨z4, e3, hf⟩ := xbd hf
      obtain ⟨v6, e5, hf⟩ := xbd hf
      by_cases q : v6 = (4 : Int32)
      · have hf := xip q hf
        obtain ⟨_, e7, hf⟩ := xbd hf
        obtain ⟨σ9, e8, hf⟩ := xbd hf
        have hm := hm.tr (m_X12_meansOne e8)
        have hf := xsj hf
        subst hf
        exact ⟨fun a' e => (by have h9 := Sum.inl.inj e; subst h9; exact hm), fun b e => xnc1 e⟩
      · have hf := xin q hf
        have hf := xsj hf
        subst hf
        exact ⟨fun a' e => (by have h9 := Sum.inl.inj e; subst h9; exact hm), fun b e => xnc1 e⟩
  cases y with
  | inl a' =>
    have h1 := hc a' rfl
    have hm := hy.1 a' rfl
    exact hm.tr (h1)
  | inr b =>
    have h1 := he b rfl
    subst h1
    exact hy.2 _ rfl
theorem s_X12_means_l211 {G : XG} (C : XC G cX12_means RX12 none 2 3 71) {r0 : Nat} {a : Int32 × XS} {x : XS} (hf : xloop (f_X12_means_b211 r0) a = some x) (hk : XEnd G none x) : WW G 211 [(0, .ref (gB G + r0)), (1, .int a.1)] [] a.2 := by
  refine xloop_ind (P := fun a => WW G 211 [(0, .ref (gB G + r0)), (1, .int a.1)] [] a.2) (fun a y hf hc he => ?_) hf
  obtain ⟨x1, σ⟩ := a
  have hk : (∀ a' : Int32 × XS, y = .inl a' → WW G 211 [(0, .ref (gB G + r0)), (1, .int a'.1)] [] a'.2) ∧ (∀ b1 : XS, y = .inr b1 → XEnd G none b1) := ⟨hc, fun b e => by have h9 := he b e; subst h9; exact hk⟩
  refine ww_iload_n (pc := 211) C 1 dX12_means_211 rfl ?_
  refine ww_aload_n (pc := 212) C 0 dX12_means_212 rfl ?_
  obtain ⟨v2, e1, hf⟩ := xbd hf
  refine gf_X12_110 (pc := 213) C e1 dX12_means_213 ?_
  refine ww_icmp_ge (pc := 216) (tgt := 242) C dX12_means_216 (by decide) (fun q => ?_) (fun q => ?_)
  · have hf := xip q hf
    obtain ⟨b0, hg, e9⟩ := xmj hf
    subst e9
    have hf := hg
    have hk := hk.2 _ rfl
    have hf := xsj hf
    subst hf
    exact ww_vret (pc := 242) C hk dX12_means_242
  · have hf := xin q hf
    refine ww_aload_n (pc := 219) C 0 dX12_means_219 rfl ?_
    obtain ⟨z4, e3, hf⟩ := xbd hf
    refine gf_X12_20 (pc := 220) C e3 dX12_means_220 ?_
    refine ww_iload_n (pc := 223) C 1 dX12_means_223 rfl ?_
    refine ww_iconst (pc := 224) (v := (1 : Int32)) C dX12_means_224 (by decide) ?_
    refine ww_isub (pc := 225) C dX12_means_225 ?_
    obtain ⟨v6, e5, hf⟩ := xbd hf
    refine ww_iald (pc := 226) C e5 dX12_means_226 ?_
    refine ww_iconst (pc := 227) (v := (4 : Int32)) C dX12_means_227 (by decide) ?_
    refine ww_icmp_ne (pc := 228) (tgt := 236) C dX12_means_228 (by decide) (fun q => ?_) (fun q => ?_)
    · have hf := xin q hf
      refine ww_iinc (pc := 236) (v := x1 + (1 : Int32)) (lv' := [(1, .int (x1 + (1 : Int32))), (0, .ref (gB G + r0))]) C 1 dX12_means_236 rfl (congrArg (fun z => x1 + z) (show Int32.ofInt (1) = (1 : Int32) by decide)) (by decide) rfl ?_
      refine ww_goto (pc := 239) (tgt := 211) C dX12_means_239 (by decide) ?_
      have hf := xsj hf
      subst hf
      refine ww_sub [1, 0] rfl ?_
      exact hk.1 (x1 + (1 : Int32), σ) rfl
    · have hf := xip q hf
      refine ww_aload_n (pc := 231) C 0 dX12_means_231 rfl ?_
      refine ww_iload_n (pc := 232) C 1 dX12_means_232 rfl ?_
      obtain ⟨_, e7, hf⟩ := xbd hf
      obtain ⟨σ9, e8, hf⟩ := xbd hf
      refine ww_callVv (pc := 233) (as := [.int x1]) (st := []) C (k_X12_meansOne (l := gl G) (E := gE G) (hb := gB G) (σ := σ) e8) rfl (by decide) xc_X12_220 q1489 qp135 (xck_spec e7) rfl (by decide) (xst4 (Nat.le_of_ble_eq_true rfl)) (m_X12_meansOne e8).le (m_X12_meansOne e8).lim dX12_means_233 ?_
      refine ww_iinc (pc := 236) (v := x1 + (1 : Int32)) (lv' := [(1, .int (x1 + (1 : Int32))), (0, .ref (gB G + r0))]) C 1 dX12_means_236 rfl (congrArg (fun z => x1 + z) (show Int32.ofInt (1) = (1 : Int32) by decide)) (by decide) rfl ?_
      refine ww_goto (pc := 239) (tgt := 211) C dX12_means_239 (by decide) ?_
      have hf := xsj hf
      subst hf
      refine ww_sub [1, 0] rfl ?_
      exact hk.1 (x1 + (1 : Int32), σ9) rfl
theorem m_X12_means_l178 {r0 : Nat} {a : Int32 × XS} {x : XS} (hf : xloop (f_X12_means_b178 r0) a = some x) : xsame a.2 x := by
  refine xloop_ind (P := fun a => xsame a.2 x) (fun a y hf hc he => ?_) hf
  obtain ⟨x1, σ⟩ := a
  have hy : (∀ a' : Int32 × XS, y = .inl a' → xsame σ a'.2) ∧ (∀ b1 : XS, y = .inr b1 → xsame σ b1) := by
    have hm := xsame.rf (σ := σ)
    obtain ⟨v2, e1, hf⟩ := xbd hf
    by_cases q : v2 ≤ x1
    · have hf := xip q hf
      obtain ⟨b0, hg, e9⟩ := xmj hf
      subst e9
      have hf := hg
      refine ⟨fun a' e => xnc2 e, fun b e => ?_⟩
      have h9 := Sum.inr.inj e
      subst h9
      exact hm.tr (m_X12_means_l211 (a := ((4 : Int32), σ)) hf)
    · have hf := xin q hf
      obtain ⟨z4, e3, hf⟩ := xbd hf
      obtain ⟨v6, e5, hf⟩ := xbd hf
      by_cases q : v6 = (4 : Int32)
      · have hf := xip q hf
        obtain ⟨_, e7, hf⟩ := xbd hf
        obtain ⟨σ9, e8, hf⟩ := xbd hf
        have hm := hm.tr (m_X12_meansAll e8)
        have hf := xsj hf
        subst hf
        exact ⟨fun a' e => (by have h9 := Sum.inl.inj e; subst h9; exact hm), fun b e => xnc1 e⟩
      · have hf := xin q hf
        have hf := xsj hf
        subst hf
        exact ⟨fun a' e => (by have h9 := Sum.inl.inj e; subst h9; exact hm), fun b e => xnc1 e⟩
  cases y with
  | inl a' =>
    have h1 := hc a' rfl
    have hm := hy.1 a' rfl
    exact hm.tr (h1)
  | inr b =>
    have h1 := he b rfl
    subst h1
    exact hy.2 _ rfl
theorem s_X12_means_l178 {G : XG} (C : XC G cX12_means RX12 none 2 3 71) {r0 : Nat} {a : Int32 × XS} {x : XS} (hf : xloop (f_X12_means_b178 r0) a = some x) (hk : XEnd G none x) : WW G 178 [(0, .ref (gB G + r0)), (1, .int a.1)] [] a.2 := by
  refine xloop_ind (P := fun a => WW G 178 [(0, .ref (gB G + r0)), (1, .int a.1)] [] a.2) (fun a y hf hc he => ?_) hf
  obtain ⟨x1, σ⟩ := a
  have hk : (∀ a' : Int32 × XS, y = .inl a' → WW G 178 [(0, .ref (gB G + r0)), (1, .int a'.1)] [] a'.2) ∧ (∀ b1 : XS, y = .inr b1 → XEnd G none b1) := ⟨hc, fun b e => by have h9 := he b e; subst h9; exact hk⟩
  refine ww_iload_n (pc := 178) C 1 dX12_means_178 rfl ?_
  refine ww_aload_n (pc := 179) C 0 dX12_means_179 rfl ?_
  obtain ⟨v2, e1, hf⟩ := xbd hf
  refine gf_X12_110 (pc := 180) C e1 dX12_means_180 ?_
  refine ww_icmp_ge (pc := 183) (tgt := 209) C dX12_means_183 (by decide) (fun q => ?_) (fun q => ?_)
  · have hf := xip q hf
    obtain ⟨b0, hg, e9⟩ := xmj hf
    subst e9
    have hf := hg
    have hk := hk.2 _ rfl
    refine ww_iconst (pc := 209) (v := (4 : Int32)) C dX12_means_209 (by decide) ?_
    refine ww_istore_n (pc := 210) (lv' := [(1, .int (4 : Int32)), (0, .ref (gB G + r0))]) C dX12_means_210 (by decide) rfl ?_
    refine ww_sub [1, 0] rfl ?_
    exact s_X12_means_l211 C (a := ((4 : Int32), σ)) hf hk
  · have hf := xin q hf
    refine ww_aload_n (pc := 186) C 0 dX12_means_186 rfl ?_
    obtain ⟨z4, e3, hf⟩ := xbd hf
    refine gf_X12_20 (pc := 187) C e3 dX12_means_187 ?_
    refine ww_iload_n (pc := 190) C 1 dX12_means_190 rfl ?_
    refine ww_iconst (pc := 191) (v := (1 : Int32)) C dX12_means_191 (by decide) ?_
    refine ww_isub (pc := 192) C dX12_means_192 ?_
    obtain ⟨v6, e5, hf⟩ := xbd hf
    refine ww_iald (pc := 193) C e5 dX12_means_193 ?_
    refine ww_iconst (pc := 194) (v := (4 : Int32)) C dX12_means_194 (by decide) ?_
    refine ww_icmp_ne (pc := 195) (tgt := 203) C dX12_means_195 (by decide) (fun q => ?_) (fun q => ?_)
    · have hf := xin q hf
      refine ww_iinc (pc := 203) (v := x1 + (1 : Int32)) (lv' := [(1, .int (x1 + (1 : Int32))), (0, .ref (gB G + r0))]) C 1 dX12_means_203 rfl (congrArg (fun z => x1 + z) (show Int32.ofInt (1) = (1 : Int32) by decide)) (by decide) rfl ?_
      refine ww_goto (pc := 206) (tgt := 178) C dX12_means_206 (by decide) ?_
      have hf := xsj hf
      subst hf
      refine ww_sub [1, 0] rfl ?_
      exact hk.1 (x1 + (1 : Int32), σ) rfl
    · have hf := xip q hf
      refine ww_aload_n (pc := 198) C 0 dX12_means_198 rfl ?_
      refine ww_iload_n (pc := 199) C 1 dX12_means_199 rfl ?_
      obtain ⟨_, e7, hf⟩ := xbd hf
      obtain ⟨σ9, e8, hf⟩ := xbd hf
      refine ww_callVv (pc := 200) (as := [.int x1]) (st := []) C (k_X12_meansAll (l := gl G) (E := gE G) (hb := gB G) (σ := σ) e8) rfl (by decide) xc_X12_217 q1481 qp133 (xck_spec e7) rfl (by decide) (xst4 (Nat.le_of_ble_eq_true rfl)) (m_X12_meansAll e8).le (m_X12_meansAll e8).lim dX12_means_200 ?_
      refine ww_iinc (pc := 203) (v := x1 + (1 : Int32)) (lv' := [(1, .int (x1 + (1 : Int32))), (0, .ref (gB G + r0))]) C 1 dX12_means_203 rfl (congrArg (fun z => x1 + z) (show Int32.ofInt (1) = (1 : Int32) by decide)) (by decide) rfl ?_
      refine ww_goto (pc := 206) (tgt := 178) C dX12_means_206 (by decide) ?_
      have hf := xsj hf
      subst hf
      refine ww_sub [1, 0] rfl ?_
      exact hk.1 (x1 + (1 : Int32), σ9) rfl
theorem s_X12_means_j141 {G : XG} (C : XC G cX12_means RX12 none 2 3 71) {σ : XS} {r0 : Nat} {x1 : Int32} {x : ((Int32 × XS) ⊕ (XS))} (hf : f_X12_means_j141 σ r0 x1 = some x) (hk : (∀ a' : Int32 × XS, x = .inl a' → WW G 104 [(0, .ref (gB G + r0)), (1, .int a'.1)] [] a'.2) ∧ (∀ b1 : XS, x = .inr b1 → XEnd G none b1)) : WW G 141 [(0, .ref (gB G + r0)), (1, .int x1)] [] σ := by
  refine ww_aload_n (pc := 141) C 0 dX12_means_141 rfl ?_
  obtain ⟨z2, e1, hf⟩ := xbd hf
  refine gf_X12_20 (pc := 142) C e1 dX12_means_142 ?_
  refine ww_iload_n (pc := 145) C 1 dX12_means_145 rfl ?_
  obtain ⟨v4, e3, hf⟩ := xbd hf
  refine ww_iald (pc := 146) C e3 dX12_means_146 ?_
  refine ww_bipush (pc := 147) (v := (24 : Int32)) C dX12_means_147 (by decide) ?_
  refine ww_icmp_ne (pc := 149) (tgt := 170) C dX12_means_149 (by decide) (fun q => ?_) (fun q => ?_)
  · have hf := xin q hf
    refine ww_iinc (pc := 170) (v := x1 + (1 : Int32)) (lv' := [(1, .int (x1 + (1 : Int32))), (0, .ref (gB G + r0))]) C 1 dX12_means_170 rfl (congrArg (fun z => x1 + z) (show Int32.ofInt (1) = (1 : Int32) by decide)) (by decide) rfl ?_
    refine ww_goto (pc := 173) (tgt := 104) C dX12_means_173 (by decide) ?_
    have hf := xsj hf
    subst hf
    refine ww_sub [1, 0] rfl ?_
    exact hk.1 (x1 + (1 : Int32), σ) rfl
  · have hf := xip q hf
    refine ww_aload_n (pc := 152) C 0 dX12_means_152 rfl ?_
    obtain ⟨z6, e5, hf⟩ := xbd hf
    refine gf_X12_20 (pc := 153) C e5 dX12_means_153 ?_
    refine ww_iload_n (pc := 156) C 1 dX12_means_156 rfl ?_
    refine ww_iconst (pc := 157) (v := (1 : Int32)) C dX12_means_157 (by decide) ?_
    refine ww_iadd (pc := 158) C dX12_means_158 ?_
    obtain ⟨v8, e7, hf⟩ := xbd hf
    refine ww_iald (pc := 159) C e7 dX12_means_159 ?_
    refine ww_bipush (pc := 160) (v := (22 : Int32)) C dX12_means_160 (by decide) ?_
    refine ww_icmp_ne (pc := 162) (tgt := 170) C dX12_means_162 (by decide) (fun q => ?_) (fun q => ?_)
    · have hf := xin q hf
      refine ww_iinc (pc := 170) (v := x1 + (1 : Int32)) (lv' := [(1, .int (x1 + (1 : Int32))), (0, .ref (gB G + r0))]) C 1 dX12_means_170 rfl (congrArg (fun z => x1 + z) (show Int32.ofInt (1) = (1 : Int32) by decide)) (by decide) rfl ?_
      refine ww_goto (pc := 173) (tgt := 104) C dX12_means_173 (by decide) ?_
      have hf := xsj hf
      subst hf
      refine ww_sub [1, 0] rfl ?_
      exact hk.1 (x1 + (1 : Int32), σ) rfl
    · have hf := xip q hf
      refine ww_aload_n (pc := 165) C 0 dX12_means_165 rfl ?_
      refine ww_iconst (pc := 166) (v := (1 : Int32)) C dX12_means_166 (by decide) ?_
      obtain ⟨σ10, e9, hf⟩ := xbd hf
      refine pf_X12_187 (pc := 167) C (Or.inr rfl) e9 dX12_means_167 ?_
      refine ww_iinc (pc := 170) (v := x1 + (1 : Int32)) (lv' := [(1, .int (x1 + (1 : Int32))), (0, .ref (gB G + r0))]) C 1 dX12_means_170 rfl (congrArg (fun z => x1 + z) (show Int32.ofInt (1) = (1 : Int32) by decide)) (by decide) rfl ?_
      refine ww_goto (pc := 173) (tgt := 104) C dX12_means_173 (by decide) ?_
      have hf := xsj hf
      subst hf
      refine ww_sub [1, 0] rfl ?_
      exact hk.1 (x1 + (1 : Int32), σ10) rfl
theorem m_X12_means_j141 {σ : XS} {r0 : Nat} {x1 : Int32} {x : ((Int32 × XS) ⊕ (XS))} (hf : f_X12_means_j141 σ r0 x1 = some x) : (∀ a' : Int32 × XS, x = .inl a' → xsame σ a'.2) ∧ (∀ b1 : XS, x = .inr b1 → xsame σ b1) := by
  have hm := xsame.rf (σ := σ)
  obtain ⟨z2, e1, hf⟩ := xbd hf
  obtain ⟨v4, e3, hf⟩ := xbd hf
  by_cases q : v4 = (24 : Int32)
  · have hf := xip q hf
    obtain ⟨z6, e5, hf⟩ := xbd hf
    obtain ⟨v8, e7, hf⟩ := xbd hf
    by_cases q : v8 = (22 : Int32)
    · have hf := xip q hf
      obtain ⟨σ10, e9, hf⟩ := xbd hf
      have hm := hm.tr (xpI_same e9)
      have hf := xsj hf
      subst hf
      exact ⟨fun a' e => (by have h9 := Sum.inl.inj e; subst h9; exact hm), fun b e => xnc1 e⟩
    · have hf := xin q hf
      have hf := xsj hf
      subst hf
      exact ⟨fun a' e => (by have h9 := Sum.inl.inj e; subst h9; exact hm), fun b e => xnc1 e⟩
  · have hf := xin q hf
    have hf := xsj hf
    subst hf
    exact ⟨fun a' e => (by have h9 := Sum.inl.inj e; subst h9; exact hm), fun b e => xnc1 e⟩
theorem m_X12_means_l104 {r0 : Nat} {a : Int32 × XS} {x : XS} (hf : xloop (f_X12_means_b104 r0) a = some x) : xsame a.2 x := by
  refine xloop_ind (P := fun a => xsame a.2 x) (fun a y hf hc he => ?_) hf
  obtain ⟨x1, σ⟩ := a
  have hy : (∀ a' : Int32 × XS, y = .inl a' → xsame σ a'.2) ∧ (∀ b1 : XS, y = .inr b1 → xsame σ b1) := by
    have hm := xsame.rf (σ := σ)
    obtain ⟨v2, e1, hf⟩ := xbd hf
    by_cases q : v2 ≤ x1
    · have hf := xip q hf
      obtain ⟨b0, hg, e9⟩ := xmj hf
      subst e9
      have hf := hg
      refine ⟨fun a' e => xnc2 e, fun b e => ?_⟩
      have h9 := Sum.inr.inj e
      subst h9
      exact hm.tr (m_X12_means_l178 (a := ((4 : Int32), σ)) hf)
    · have hf := xin q hf
      obtain ⟨z4, e3, hf⟩ := xbd hf
      obtain ⟨v6, e5, hf⟩ := xbd hf
      by_cases q : v6 = (24 : Int32)
      · have hf := xip q hf
        obtain ⟨z8, e7, hf⟩ := xbd hf
        obtain ⟨v10, e9, hf⟩ := xbd hf
        by_cases q : v10 = (21 : Int32)
        · have hf := xip q hf
          obtain ⟨σ12, e11, hf⟩ := xbd hf
          have hm := hm.tr (xpI_same e11)
          exact ⟨fun a' e => hm.tr ((m_X12_means_j141 hf).1 a' e), fun b1 eb1 => hm.tr ((m_X12_means_j141 hf).2 b1 eb1)⟩
        · have hf := xin q hf
          exact ⟨fun a' e => hm.tr ((m_X12_means_j141 hf).1 a' e), fun b1 eb1 => hm.tr ((m_X12_means_j141 hf).2 b1 eb1)⟩
      · have hf := xin q hf
        exact ⟨fun a' e => hm.tr ((m_X12_means_j141 hf).1 a' e), fun b1 eb1 => hm.tr ((m_X12_means_j141 hf).2 b1 eb1)⟩
  cases y with
  | inl a' =>
    have h1 := hc a' rfl
    have hm := hy.1 a' rfl
    exact hm.tr (h1)
  | inr b =>
    have h1 := he b rfl
    subst h1
    exact hy.2 _ rfl
theorem s_X12_means_l104 {G : XG} (C : XC G cX12_means RX12 none 2 3 71) {r0 : Nat} {a : Int32 × XS} {x : XS} (hf : xloop (f_X12_means_b104 r0) a = some x) (hk : XEnd G none x) : WW G 104 [(0, .ref (gB G + r0)), (1, .int a.1)] [] a.2 := by
  refine xloop_ind (P := fun a => WW G 104 [(0, .ref (gB G + r0)), (1, .int a.1)] [] a.2) (fun a y hf hc he => ?_) hf
  obtain ⟨x1, σ⟩ := a
  have hk : (∀ a' : Int32 × XS, y = .inl a' → WW G 104 [(0, .ref (gB G + r0)), (1, .int a'.1)] [] a'.2) ∧ (∀ b1 : XS, y = .inr b1 → XEnd G none b1) := ⟨hc, fun b e => by have h9 := he b e; subst h9; exact hk⟩
  refine ww_iload_n (pc := 104) C 1 dX12_means_104 rfl ?_
  refine ww_aload_n (pc := 105) C 0 dX12_means_105 rfl ?_
  obtain ⟨v2, e1, hf⟩ := xbd hf
  refine gf_X12_110 (pc := 106) C e1 dX12_means_106 ?_
  refine ww_icmp_ge (pc := 109) (tgt := 176) C dX12_means_109 (by decide) (fun q => ?_) (fun q => ?_)
  · have hf := xip q hf
    obtain ⟨b0, hg, e9⟩ := xmj hf
    subst e9
    have hf := hg
    have hk := hk.2 _ rfl
    refine ww_iconst (pc := 176) (v := (4 : Int32)) C dX12_means_176 (by decide) ?_
    refine ww_istore_n (pc := 177) (lv' := [(1, .int (4 : Int32)), (0, .ref (gB G + r0))]) C dX12_means_177 (by decide) rfl ?_
    refine ww_sub [1, 0] rfl ?_
    exact s_X12_means_l178 C (a := ((4 : Int32), σ)) hf hk
  · have hf := xin q hf
    refine ww_aload_n (pc := 112) C 0 dX12_means_112 rfl ?_
    obtain ⟨z4, e3, hf⟩ := xbd hf
    refine gf_X12_20 (pc := 113) C e3 dX12_means_113 ?_
    refine ww_iload_n (pc := 116) C 1 dX12_means_116 rfl ?_
    obtain ⟨v6, e5, hf⟩ := xbd hf
    refine ww_iald (pc := 117) C e5 dX12_means_117 ?_
    refine ww_bipush (pc := 118) (v := (24 : Int32)) C dX12_means_118 (by decide) ?_
    refine ww_icmp_ne (pc := 120) (tgt := 141) C dX12_means_120 (by decide) (fun q => ?_) (fun q => ?_)
    · have hf := xin q hf
      refine ww_sub [0, 1] rfl ?_
      exact s_X12_means_j141 C hf hk
    · have hf := xip q hf
      refine ww_aload_n (pc := 123) C 0 dX12_means_123 rfl ?_
      obtain ⟨z8, e7, hf⟩ := xbd hf
      refine gf_X12_20 (pc := 124) C e7 dX12_means_124 ?_
      refine ww_iload_n (pc := 127) C 1 dX12_means_127 rfl ?_
      refine ww_iconst (pc := 128) (v := (1 : Int32)) C dX12_means_128 (by decide) ?_
      refine ww_iadd (pc := 129) C dX12_means_129 ?_
      obtain ⟨v10, e9, hf⟩ := xbd hf
      refine ww_iald (pc := 130) C e9 dX12_means_130 ?_
      refine ww_bipush (pc := 131) (v := (21 : Int32)) C dX12_means_131 (by decide) ?_
      refine ww_icmp_ne (pc := 133) (tgt := 141) C dX12_means_133 (by decide) (fun q => ?_) (fun q => ?_)
      · have hf := xin q hf
        refine ww_sub [0, 1] rfl ?_
        exact s_X12_means_j141 C hf hk
      · have hf := xip q hf
        refine ww_aload_n (pc := 136) C 0 dX12_means_136 rfl ?_
        refine ww_iconst (pc := 137) (v := (1 : Int32)) C dX12_means_137 (by decide) ?_
        obtain ⟨σ12, e11, hf⟩ := xbd hf
        refine pf_X12_180 (pc := 138) C (Or.inr rfl) e11 dX12_means_138 ?_
        refine ww_sub [0, 1] rfl ?_
        exact s_X12_means_j141 C hf hk
theorem m_X12_means_l83 {r0 : Nat} {a : Int32 × XS} {x : XS} (hf : xloop (f_X12_means_b83 r0) a = some x) : xsame a.2 x := by
  refine xloop_ind (P := fun a => xsame a.2 x) (fun a y hf hc he => ?_) hf
  obtain ⟨x1, σ⟩ := a
  have hy : (∀ a' : Int32 × XS, y = .inl a' → xsame σ a'.2) ∧ (∀ b1 : XS, y = .inr b1 → xsame σ b1) := by
    have hm := xsame.rf (σ := σ)
    by_cases q : (66 : Int32) ≤ x1
    · have hf := xip q hf
      obtain ⟨b0, hg, e9⟩ := xmj hf
      subst e9
      have hf := hg
      refine ⟨fun a' e => xnc2 e, fun b e => ?_⟩
      have h9 := Sum.inr.inj e
      subst h9
      exact hm.tr (m_X12_means_l104 (a := ((0 : Int32), σ)) hf)
    · have hf := xin q hf
      obtain ⟨z2, e1, hf⟩ := xbd hf
      obtain ⟨σ4, e3, hf⟩ := xbd hf
      have hm := hm.tr (xsI_same e3)
      have hf := xsj hf
      subst hf
      exact ⟨fun a' e => (by have h9 := Sum.inl.inj e; subst h9; exact hm), fun b e => xnc1 e⟩
  cases y with
  | inl a' =>
    have h1 := hc a' rfl
    have hm := hy.1 a' rfl
    exact hm.tr (h1)
  | inr b =>
    have h1 := he b rfl
    subst h1
    exact hy.2 _ rfl
theorem s_X12_means_l83 {G : XG} (C : XC G cX12_means RX12 none 2 3 71) {r0 : Nat} {a : Int32 × XS} {x : XS} (hf : xloop (f_X12_means_b83 r0) a = some x) (hk : XEnd G none x) : WW G 83 [(0, .ref (gB G + r0)), (1, .int a.1)] [] a.2 := by
  refine xloop_ind (P := fun a => WW G 83 [(0, .ref (gB G + r0)), (1, .int a.1)] [] a.2) (fun a y hf hc he => ?_) hf
  obtain ⟨x1, σ⟩ := a
  have hk : (∀ a' : Int32 × XS, y = .inl a' → WW G 83 [(0, .ref (gB G + r0)), (1, .int a'.1)] [] a'.2) ∧ (∀ b1 : XS, y = .inr b1 → XEnd G none b1) := ⟨hc, fun b e => by have h9 := he b e; subst h9; exact hk⟩
  refine ww_iload_n (pc := 83) C 1 dX12_means_83 rfl ?_
  refine ww_bipush (pc := 84) (v := (66 : Int32)) C dX12_means_84 (by decide) ?_
  refine ww_icmp_ge (pc := 86) (tgt := 102) C dX12_means_86 (by decide) (fun q => ?_) (fun q => ?_)
  · have hf := xip q hf
    obtain ⟨b0, hg, e9⟩ := xmj hf
    subst e9
    have hf := hg
    have hk := hk.2 _ rfl
    refine ww_iconst (pc := 102) (v := (0 : Int32)) C dX12_means_102 (by decide) ?_
    refine ww_istore_n (pc := 103) (lv' := [(1, .int (0 : Int32)), (0, .ref (gB G + r0))]) C dX12_means_103 (by decide) rfl ?_
    refine ww_sub [1, 0] rfl ?_
    exact s_X12_means_l104 C (a := ((0 : Int32), σ)) hf hk
  · have hf := xin q hf
    refine ww_aload_n (pc := 89) C 0 dX12_means_89 rfl ?_
    obtain ⟨z2, e1, hf⟩ := xbd hf
    refine gf_X12_43 (pc := 90) C e1 dX12_means_90 ?_
    refine ww_iload_n (pc := 93) C 1 dX12_means_93 rfl ?_
    refine ww_iconst (pc := 94) (v := (0 : Int32)) C dX12_means_94 (by decide) ?_
    obtain ⟨σ4, e3, hf⟩ := xbd hf
    refine ww_iast (pc := 95) C e3 dX12_means_95 ?_
    refine ww_iinc (pc := 96) (v := x1 + (1 : Int32)) (lv' := [(1, .int (x1 + (1 : Int32))), (0, .ref (gB G + r0))]) C 1 dX12_means_96 rfl (congrArg (fun z => x1 + z) (show Int32.ofInt (1) = (1 : Int32) by decide)) (by decide) rfl ?_
    refine ww_goto (pc := 99) (tgt := 83) C dX12_means_99 (by decide) ?_
    have hf := xsj hf
    subst hf
    refine ww_sub [1, 0] rfl ?_
    exact hk.1 (x1 + (1 : Int32), σ4) rfl
theorem s_X12_means_j75 {G : XG} (C : XC G cX12_means RX12 none 2 3 71) {σ : XS} {r0 : Nat} {x : XS} (hf : f_X12_means_j75 σ r0 = some x) (hk : XEnd G none x) : WW G 75 [(0, .ref (gB G + r0))] [] σ := by
  refine ww_aload_n (pc := 75) C 0 dX12_means_75 rfl ?_
  refine ww_iconst (pc := 76) (v := (3 : Int32)) C dX12_means_76 (by decide) ?_
  refine ww_iconst (pc := 77) (v := (2 : Int32)) C dX12_means_77 (by decide) ?_
  obtain ⟨_, e1, hf⟩ := xbd hf
  obtain ⟨σ3, e2, hf⟩ := xbd hf
  refine ww_callVv (pc := 78) (as := [.int (3 : Int32), .int (2 : Int32)]) (st := []) C (k_X12_wrong (l := gl G) (E := gE G) (hb := gB G) (σ := σ) e2) rfl (by decide) xc_X12_209 q1477 qp132 (xck_spec e1) rfl (by decide) (xst4 (Nat.le_of_ble_eq_true rfl)) (m_X12_wrong e2).le (m_X12_wrong e2).lim dX12_means_78 ?_
  refine ww_iconst (pc := 81) (v := (0 : Int32)) C dX12_means_81 (by decide) ?_
  refine ww_istore_n (pc := 82) (lv' := [(1, .int (0 : Int32)), (0, .ref (gB G + r0))]) C dX12_means_82 (by decide) rfl ?_
  refine ww_sub [1, 0] rfl ?_
  exact s_X12_means_l83 C (a := ((0 : Int32), σ3)) hf hk
theorem m_X12_means_j75 {σ : XS} {r0 : Nat} {x : XS} (hf : f_X12_means_j75 σ r0 = some x) : xsame σ x := by
  have hm := xsame.rf (σ := σ)
  obtain ⟨_, e1, hf⟩ := xbd hf
  obtain ⟨σ3, e2, hf⟩ := xbd hf
  have hm := hm.tr (m_X12_wrong e2)
  exact hm.tr (m_X12_means_l83 (a := ((0 : Int32), σ3)) hf)
theorem s_X12_means_j48 {G : XG} (C : XC G cX12_means RX12 none 2 3 71) {σ : XS} {r0 : Nat} {x : XS} (hf : f_X12_means_j48 σ r0 = some x) (hk : XEnd G none x) : WW G 48 [(0, .ref (gB G + r0))] [] σ := by
  refine ww_aload_n (pc := 48) C 0 dX12_means_48 rfl ?_
  obtain ⟨v2, e1, hf⟩ := xbd hf
  refine gf_X12_174 (pc := 49) C e1 dX12_means_49 ?_
  refine ww_iconst (pc := 52) (v := (1 : Int32)) C dX12_means_52 (by decide) ?_
  refine ww_bipush (pc := 53) (v := (16 : Int32)) C dX12_means_53 (by decide) ?_
  obtain ⟨v4, e3, hf⟩ := xbd hf
  refine ww_callSi (pc := 55) (as := [.int v2, .int (1 : Int32), .int (16 : Int32)]) (st := []) C (k_X12_in (l := gl G) (E := gE G) (hb := gB G) (σ := σ) e3) xc_X12_213 q1473 rfl (by decide) (xst4 (Nat.le_of_ble_eq_true rfl)) xsame.rf.le xsame.rf.lim dX12_means_55 ?_
  refine ww_if_eq (pc := 58) (tgt := 75) C dX12_means_58 (by decide) (fun q => ?_) (fun q => ?_)
  · have hf := xip q hf
    refine ww_sub [0] rfl ?_
    exact s_X12_means_j75 C hf hk
  · have hf := xin q hf
    refine ww_aload_n (pc := 61) C 0 dX12_means_61 rfl ?_
    obtain ⟨v6, e5, hf⟩ := xbd hf
    refine gf_X12_168 (pc := 62) C e5 dX12_means_62 ?_
    refine ww_aload_n (pc := 65) C 0 dX12_means_65 rfl ?_
    obtain ⟨v8, e7, hf⟩ := xbd hf
    refine gf_X12_174 (pc := 66) C e7 dX12_means_66 ?_
    refine ww_imul (pc := 69) C dX12_means_69 ?_
    refine ww_bipush (pc := 70) (v := (16 : Int32)) C dX12_means_70 (by decide) ?_
    refine ww_icmp_le (pc := 72) (tgt := 81) C dX12_means_72 (by decide) (fun q => ?_) (fun q => ?_)
    · have hf := xip q hf
      refine ww_iconst (pc := 81) (v := (0 : Int32)) C dX12_means_81 (by decide) ?_
      refine ww_istore_n (pc := 82) (lv' := [(1, .int (0 : Int32)), (0, .ref (gB G + r0))]) C dX12_means_82 (by decide) rfl ?_
      refine ww_sub [1, 0] rfl ?_
      exact s_X12_means_l83 C (a := ((0 : Int32), σ)) hf hk
    · have hf := xin q hf
      refine ww_sub [0] rfl ?_
      exact s_X12_means_j75 C hf hk
theorem m_X12_means_j48 {σ : XS} {r0 : Nat} {x : XS} (hf : f_X12_means_j48 σ r0 = some x) : xsame σ x := by
  have hm := xsame.rf (σ := σ)
  obtain ⟨v2, e1, hf⟩ := xbd hf
  obtain ⟨v4, e3, hf⟩ := xbd hf
  by_cases q : v4 = 0
  · have hf := xip q hf
    exact hm.tr (m_X12_means_j75 hf)
  · have hf := xin q hf
    obtain ⟨v6, e5, hf⟩ := xbd hf
    obtain ⟨v8, e7, hf⟩ := xbd hf
    by_cases q : (v6 * v8) ≤ (16 : Int32)
    · have hf := xip q hf
      exact hm.tr (m_X12_means_l83 (a := ((0 : Int32), σ)) hf)
    · have hf := xin q hf
      exact hm.tr (m_X12_means_j75 hf)
theorem s_X12_means_e {G : XG} (C : XC G cX12_means RX12 none 2 3 71) {σ : XS} {r0 : Nat} {x : XS} (hf : f_X12_means σ r0 = some x) (hk : XEnd G none x) : WW G 0 [(0, .ref (gB G + r0))] [] σ := by
  refine ww_aload_n (pc := 0) C 0 dX12_means_0 rfl ?_
  refine ww_aload_n (pc := 1) C 0 dX12_means_1 rfl ?_
  obtain ⟨z2, e1, hf⟩ := xbd hf
  refine gf_X12_27 (pc := 2) C e1 dX12_means_2 ?_
  refine ww_iconst (pc := 5) (v := (1 : Int32)) C dX12_means_5 (by decide) ?_
  obtain ⟨v4, e3, hf⟩ := xbd hf
  refine ww_iald (pc := 6) C e3 dX12_means_6 ?_
  obtain ⟨σ6, e5, hf⟩ := xbd hf
  refine pf_X12_168 (pc := 7) C e5 dX12_means_7 ?_
  refine ww_aload_n (pc := 10) C 0 dX12_means_10 rfl ?_
  refine ww_aload_n (pc := 11) C 0 dX12_means_11 rfl ?_
  obtain ⟨z8, e7, hf⟩ := xbd hf
  refine gf_X12_27 (pc := 12) C e7 dX12_means_12 ?_
  refine ww_iconst (pc := 15) (v := (2 : Int32)) C dX12_means_15 (by decide) ?_
  obtain ⟨v10, e9, hf⟩ := xbd hf
  refine ww_iald (pc := 16) C e9 dX12_means_16 ?_
  obtain ⟨σ12, e11, hf⟩ := xbd hf
  refine pf_X12_174 (pc := 17) C e11 dX12_means_17 ?_
  refine ww_aload_n (pc := 20) C 0 dX12_means_20 rfl ?_
  refine ww_iconst (pc := 21) (v := (0 : Int32)) C dX12_means_21 (by decide) ?_
  obtain ⟨σ14, e13, hf⟩ := xbd hf
  refine pf_X12_180 (pc := 22) C (Or.inl rfl) e13 dX12_means_22 ?_
  refine ww_aload_n (pc := 25) C 0 dX12_means_25 rfl ?_
  refine ww_iconst (pc := 26) (v := (0 : Int32)) C dX12_means_26 (by decide) ?_
  obtain ⟨σ16, e15, hf⟩ := xbd hf
  refine pf_X12_187 (pc := 27) C (Or.inl rfl) e15 dX12_means_27 ?_
  refine ww_aload_n (pc := 30) C 0 dX12_means_30 rfl ?_
  obtain ⟨v18, e17, hf⟩ := xbd hf
  refine gf_X12_168 (pc := 31) C e17 dX12_means_31 ?_
  refine ww_iconst (pc := 34) (v := (1 : Int32)) C dX12_means_34 (by decide) ?_
  refine ww_iconst (pc := 35) (v := (4 : Int32)) C dX12_means_35 (by decide) ?_
  obtain ⟨v20, e19, hf⟩ := xbd hf
  refine ww_callSi (pc := 36) (as := [.int v18, .int (1 : Int32), .int (4 : Int32)]) (st := []) C (k_X12_in (l := gl G) (E := gE G) (hb := gB G) (σ := σ16) e19) xc_X12_213 q1473 rfl (by decide) (xst4 (Nat.le_of_ble_eq_true rfl)) xsame.rf.le xsame.rf.lim dX12_means_36 ?_
  refine ww_if_ne (pc := 39) (tgt := 48) C dX12_means_39 (by decide) (fun q => ?_) (fun q => ?_)
  · have hf := xin q hf
    refine ww_sub [0] rfl ?_
    exact s_X12_means_j48 C hf hk
  · have hf := xip q hf
    refine ww_aload_n (pc := 42) C 0 dX12_means_42 rfl ?_
    refine ww_iconst (pc := 43) (v := (3 : Int32)) C dX12_means_43 (by decide) ?_
    refine ww_iconst (pc := 44) (v := (1 : Int32)) C dX12_means_44 (by decide) ?_
    obtain ⟨_, e21, hf⟩ := xbd hf
    obtain ⟨σ23, e22, hf⟩ := xbd hf
    refine ww_callVv (pc := 45) (as := [.int (3 : Int32), .int (1 : Int32)]) (st := []) C (k_X12_wrong (l := gl G) (E := gE G) (hb := gB G) (σ := σ16) e22) rfl (by decide) xc_X12_209 q1477 qp132 (xck_spec e21) rfl (by decide) (xst4 (Nat.le_of_ble_eq_true rfl)) (m_X12_wrong e22).le (m_X12_wrong e22).lim dX12_means_45 ?_
    refine ww_sub [0] rfl ?_
    exact s_X12_means_j48 C hf hk
theorem m_X12_means {σ : XS} {r0 : Nat} {x : XS} (hf : f_X12_means σ r0 = some x) : xsame σ x := by
  have hm := xsame.rf (σ := σ)
  obtain ⟨z2, e1, hf⟩ := xbd hf
  obtain ⟨v4, e3, hf⟩ := xbd hf
  obtain ⟨σ6, e5, hf⟩ := xbd hf
  have hm := hm.tr (xpI_same e5)
  obtain ⟨z8, e7, hf⟩ := xbd hf
  obtain ⟨v10, e9, hf⟩ := xbd hf
  obtain ⟨σ12, e11, hf⟩ := xbd hf
  have hm := hm.tr (xpI_same e11)
  obtain ⟨σ14, e13, hf⟩ := xbd hf
  have hm := hm.tr (xpI_same e13)
  obtain ⟨σ16, e15, hf⟩ := xbd hf
  have hm := hm.tr (xpI_same e15)
  obtain ⟨v18, e17, hf⟩ := xbd hf
  obtain ⟨v20, e19, hf⟩ := xbd hf
  by_cases q : v20 = 0
  · have hf := xip q hf
    obtain ⟨_, e21, hf⟩ := xbd hf
    obtain ⟨σ23, e22, hf⟩ := xbd hf
    have hm := hm.tr (m_X12_wrong e22)
    exact hm.tr (m_X12_means_j48 hf)
  · have hf := xin q hf
    exact hm.tr (m_X12_means_j48 hf)
theorem k_X12_means {l : Launch} {E : XD} {hb : Nat} {σ : XS} {r0 : Nat} {x : XS} (h : f_X12_means σ r0 = some x) : XM l yX12_means cX12_means 2 none 3 71 E hb [.ref (hb + r0)] σ none x := by
  refine xm_of (by decide) (Nat.le_of_ble_eq_true rfl) (m_X12_means h).le (fun G hG C hl hQ => ?_)
  obtain ⟨rfl, rfl, rfl, hN⟩ := hG
  exact s_X12_means_e C h hQ
noncomputable def f_X12_nearest_b30 (σ : XS) (r0 : Nat) (x1 : Int32) (x2 : Int32) : Int32 × Int32 → Option ((Int32 × Int32) ⊕ (Int32 × XS)) := fun a => match a with
  | (x3, x4) => (xck σ r0 12).bind fun _ => (f_X12_states σ r0).bind fun v3 => if v3 ≤ x4 then ((if x2 = 0 then (some (x3, σ)) else (f_X12_bitsOf (x3 ^^^ x1)).bind fun v5 => some (v5, σ)).map .inr) else (xgR σ r0 12 33).bind fun z5 => (xaI σ 20 z5 x4).bind fun v7 => (xgR σ r0 12 36).bind fun z9 => (xaI σ 20 z9 (0 : Int32)).bind fun v11 => if v7 = v11 then (if x3 < 0 then (some (.inl (x4, x4 + (1 : Int32)))) else (f_X12_bitsOf (x4 ^^^ x1)).bind fun v13 => (f_X12_bitsOf (x3 ^^^ x1)).bind fun v15 => if v15 ≤ v13 then (some (.inl (x3, x4 + (1 : Int32)))) else some (.inl (x4, x4 + (1 : Int32)))) else some (.inl (x3, x4 + (1 : Int32)))
noncomputable def f_X12_nearest (σ : XS) (r0 : Nat) (x1 : Int32) (x2 : Int32) : Option (Int32 × XS) := (xck σ r0 12).bind fun _ => (f_X12_isLawful σ r0 x1).bind fun v3 => if v3 = 0 then (some ((-100000 : Int32), σ)) else (f_X12_in x2 (0 : Int32) (1 : Int32)).bind fun v5 => if v5 = 0 then (some ((-100000 : Int32), σ)) else (xck σ r0 12).bind fun _ => (f_X12_knows σ r0).bind fun σ8 => xloop (f_X12_nearest_b30 σ8 r0 x1 x2) ((-1 : Int32), (0 : Int32))
theorem m_X12_nearest_l30 {σ : XS} {r0 : Nat} {x1 : Int32} {x2 : Int32} {a : Int32 × Int32} {x : Int32 × XS} (hf : xloop (f_X12_nearest_b30 σ r0 x1 x2) a = some x) : xsame σ x.2 := by
  refine xloop_ind (P := fun a => xsame σ x.2) (fun a y hf hc he => ?_) hf
  obtain ⟨x3, x4⟩ := a
  have hy : (∀ a' : Int32 × Int32, y = .inl a' → True) ∧ (∀ b1 : Int32 × XS, y = .inr b1 → xsame σ b1.2) := by
    have hm := xsame.rf (σ := σ)
    obtain ⟨_, e1, hf⟩ := xbd hf
    obtain ⟨v3, e2, hf⟩ := xbd hf
    by_cases q : v3 ≤ x4
    · have hf := xip q hf
      obtain ⟨b0, hg, e9⟩ := xmj hf
      subst e9
      have hf := hg
      refine ⟨fun a' e => xnc2 e, fun b e => ?_⟩
      have h9 := Sum.inr.inj e
      subst h9
      by_cases q : x2 = 0
      · have hf := xip q hf
        have hf := xsj hf
        subst hf
        exact hm
      · have hf := xin q hf
        obtain ⟨v5, e4, hf⟩ := xbd hf
        have hf := xsj hf
        subst hf
        exact hm
    · have hf := xin q hf
      obtain ⟨z5, e4, hf⟩ := xbd hf
      obtain ⟨v7, e6, hf⟩ := xbd hf
      obtain ⟨z9, e8, hf⟩ := xbd hf
      obtain ⟨v11, e10, hf⟩ := xbd hf
      by_cases q : v7 = v11
      · have hf := xip q hf
        by_cases q : x3 < 0
        · have hf := xip q hf
          have hf := xsj hf
          subst hf
          exact ⟨fun a' e => (by have h9 := Sum.inl.inj e; subst h9; exact trivial), fun b e => xnc1 e⟩
        · have hf := xin q hf
          obtain ⟨v13, e12, hf⟩ := xbd hf
          obtain ⟨v15, e14, hf⟩ := xbd hf
          by_cases q : v15 ≤ v13
          · have hf := xip q hf
            have hf := xsj hf
            subst hf
            exact ⟨fun a' e => (by have h9 := Sum.inl.inj e; subst h9; exact trivial), fun b e => xnc1 e⟩
          · have hf := xin q hf
            have hf := xsj hf
            subst hf
            exact ⟨fun a' e => (by have h9 := Sum.inl.inj e; subst h9; exact trivial), fun b e => xnc1 e⟩
      · have hf := xin q hf
        have hf := xsj hf
        subst hf
        exact ⟨fun a' e => (by have h9 := Sum.inl.inj e; subst h9; exact trivial), fun b e => xnc1 e⟩
  cases y with
  | inl a' =>
    have h1 := hc a' rfl
    exact h1
  | inr b =>
    have h1 := he b rfl
    subst h1
    exact hy.2 _ rfl
theorem s_X12_nearest_l30 {G : XG} (C : XC G cX12_nearest RX12 (some .int) 5 4 96) {σ : XS} {r0 : Nat} {x1 : Int32} {x2 : Int32} {a : Int32 × Int32} {x : Int32 × XS} (hf : xloop (f_X12_nearest_b30 σ r0 x1 x2) a = some x) (hk : XEnd G (some (.int x.1)) x.2) : WW G 30 [(0, .ref (gB G + r0)), (1, .int x1), (2, .int x2), (3, .int a.1), (4, .int a.2)] [] σ := by
  refine xloop_ind (P := fun a => WW G 30 [(0, .ref (gB G + r0)), (1, .int x1), (2, .int x2), (3, .int a.1), (4, .int a.2)] [] σ) (fun a y hf hc he => ?_) hf
  obtain ⟨x3, x4⟩ := a
  have hk : (∀ a' : Int32 × Int32, y = .inl a' → WW G 30 [(0, .ref (gB G + r0)), (1, .int x1), (2, .int x2), (3, .int a'.1), (4, .int a'.2)] [] σ) ∧ (∀ b1 : Int32 × XS, y = .inr b1 → XEnd G (some (.int b1.1)) b1.2) := ⟨hc, fun b e => by have h9 := he b e; subst h9; exact hk⟩
  refine ww_iload (pc := 30) C 4 dX12_nearest_30 rfl ?_
  refine ww_aload_n (pc := 32) C 0 dX12_nearest_32 rfl ?_
  obtain ⟨_, e1, hf⟩ := xbd hf
  obtain ⟨v3, e2, hf⟩ := xbd hf
  refine ww_callVi (pc := 33) (as := []) (st := [.int x4]) C (k_X12_states (l := gl G) (E := gE G) (hb := gB G) (σ := σ) e2) rfl (by decide) xc_X12_270 q1555 qp141 (xck_spec e1) rfl (by decide) (xst4 (Nat.le_of_ble_eq_true rfl)) xsame.rf.le xsame.rf.lim dX12_nearest_33 ?_
  refine ww_icmp_ge (pc := 36) (tgt := 87) C dX12_nearest_36 (by decide) (fun q => ?_) (fun q => ?_)
  · have hf := xip q hf
    obtain ⟨b0, hg, e9⟩ := xmj hf
    subst e9
    have hf := hg
    have hk := hk.2 _ rfl
    refine ww_iload_n (pc := 87) C 2 dX12_nearest_87 rfl ?_
    refine ww_if_ne (pc := 88) (tgt := 95) C dX12_nearest_88 (by decide) (fun q => ?_) (fun q => ?_)
    · have hf := xin q hf
      refine ww_iload_n (pc := 95) C 3 dX12_nearest_95 rfl ?_
      refine ww_iload_n (pc := 96) C 1 dX12_nearest_96 rfl ?_
      refine ww_ixor (pc := 97) C dX12_nearest_97 ?_
      obtain ⟨v5, e4, hf⟩ := xbd hf
      refine ww_callSi (pc := 98) (as := [.int (x3 ^^^ x1)]) (st := []) C (k_X12_bitsOf (l := gl G) (E := gE G) (hb := gB G) (σ := σ) e4) xc_X12_292 q1615 rfl (by decide) (xst4 (Nat.le_of_ble_eq_true rfl)) xsame.rf.le xsame.rf.lim dX12_nearest_98 ?_
      have hf := xsj hf
      subst hf
      exact ww_iret (pc := 101) C hk dX12_nearest_101
    · have hf := xip q hf
      refine ww_iload_n (pc := 91) C 3 dX12_nearest_91 rfl ?_
      refine ww_goto (pc := 92) (tgt := 101) C dX12_nearest_92 (by decide) ?_
      have hf := xsj hf
      subst hf
      exact ww_iret (pc := 101) C hk dX12_nearest_101
  · have hf := xin q hf
    refine ww_aload_n (pc := 39) C 0 dX12_nearest_39 rfl ?_
    obtain ⟨z5, e4, hf⟩ := xbd hf
    refine gf_X12_57 (pc := 40) C e4 dX12_nearest_40 ?_
    refine ww_iload (pc := 43) C 4 dX12_nearest_43 rfl ?_
    obtain ⟨v7, e6, hf⟩ := xbd hf
    refine ww_iald (pc := 45) C e6 dX12_nearest_45 ?_
    refine ww_aload_n (pc := 46) C 0 dX12_nearest_46 rfl ?_
    obtain ⟨z9, e8, hf⟩ := xbd hf
    refine gf_X12_63 (pc := 47) C e8 dX12_nearest_47 ?_
    refine ww_iconst (pc := 50) (v := (0 : Int32)) C dX12_nearest_50 (by decide) ?_
    obtain ⟨v11, e10, hf⟩ := xbd hf
    refine ww_iald (pc := 51) C e10 dX12_nearest_51 ?_
    refine ww_icmp_eq (pc := 52) (tgt := 58) C dX12_nearest_52 (by decide) (fun q => ?_) (fun q => ?_)
    · have hf := xip q hf
      refine ww_iload_n (pc := 58) C 3 dX12_nearest_58 rfl ?_
      refine ww_if_lt (pc := 59) (tgt := 78) C dX12_nearest_59 (by decide) (fun q => ?_) (fun q => ?_)
      · have hf := xip q hf
        refine ww_iload (pc := 78) C 4 dX12_nearest_78 rfl ?_
        refine ww_istore_n (pc := 80) (lv' := [(3, .int x4), (0, .ref (gB G + r0)), (1, .int x1), (2, .int x2), (4, .int x4)]) C dX12_nearest_80 (by decide) rfl ?_
        refine ww_iinc (pc := 81) (v := x4 + (1 : Int32)) (lv' := [(4, .int (x4 + (1 : Int32))), (3, .int x4), (0, .ref (gB G + r0)), (1, .int x1), (2, .int x2)]) C 4 dX12_nearest_81 rfl (congrArg (fun z => x4 + z) (show Int32.ofInt (1) = (1 : Int32) by decide)) (by decide) rfl ?_
        refine ww_goto (pc := 84) (tgt := 30) C dX12_nearest_84 (by decide) ?_
        have hf := xsj hf
        subst hf
        refine ww_sub [2, 3, 4, 1, 0] rfl ?_
        exact hk.1 (x4, x4 + (1 : Int32)) rfl
      · have hf := xin q hf
        refine ww_iload (pc := 62) C 4 dX12_nearest_62 rfl ?_
        refine ww_iload_n (pc := 64) C 1 dX12_nearest_64 rfl ?_
        refine ww_ixor (pc := 65) C dX12_nearest_65 ?_
        obtain ⟨v13, e12, hf⟩ := xbd hf
        refine ww_callSi (pc := 66) (as := [.int (x4 ^^^ x1)]) (st := []) C (k_X12_bitsOf (l := gl G) (E := gE G) (hb := gB G) (σ := σ) e12) xc_X12_292 q1615 rfl (by decide) (xst4 (Nat.le_of_ble_eq_true rfl)) xsame.rf.le xsame.rf.lim dX12_nearest_66 ?_
        refine ww_iload_n (pc := 69) C 3 dX12_nearest_69 rfl ?_
        refine ww_iload_n (pc := 70) C 1 dX12_nearest_70 rfl ?_
        refine ww_ixor (pc := 71) C dX12_nearest_71 ?_
        obtain ⟨v15, e14, hf⟩ := xbd hf
        refine ww_callSi (pc := 72) (as := [.int (x3 ^^^ x1)]) (st := [.int v13]) C (k_X12_bitsOf (l := gl G) (E := gE G) (hb := gB G) (σ := σ) e14) xc_X12_292 q1615 rfl (by decide) (xst4 (Nat.le_of_ble_eq_true rfl)) xsame.rf.le xsame.rf.lim dX12_nearest_72 ?_
        refine ww_icmp_ge (pc := 75) (tgt := 81) C dX12_nearest_75 (by decide) (fun q => ?_) (fun q => ?_)
        · have hf := xip q hf
          refine ww_iinc (pc := 81) (v := x4 + (1 : Int32)) (lv' := [(4, .int (x4 + (1 : Int32))), (0, .ref (gB G + r0)), (1, .int x1), (2, .int x2), (3, .int x3)]) C 4 dX12_nearest_81 rfl (congrArg (fun z => x4 + z) (show Int32.ofInt (1) = (1 : Int32) by decide)) (by decide) rfl ?_
          refine ww_goto (pc := 84) (tgt := 30) C dX12_nearest_84 (by decide) ?_
          have hf := xsj hf
          subst hf
          refine ww_sub [1, 2, 3, 4, 0] rfl ?_
          exact hk.1 (x3, x4 + (1 : Int32)) rfl
        · have hf := xin q hf
          refine ww_iload (pc := 78) C 4 dX12_nearest_78 rfl ?_
          refine ww_istore_n (pc := 80) (lv' := [(3, .int x4), (0, .ref (gB G + r0)), (1, .int x1), (2, .int x2), (4, .int x4)]) C dX12_nearest_80 (by decide) rfl ?_
          refine ww_iinc (pc := 81) (v := x4 + (1 : Int32)) (lv' := [(4, .int (x4 + (1 : Int32))), (3, .int x4), (0, .ref (gB G + r0)), (1, .int x1), (2, .int x2)]) C 4 dX12_nearest_81 rfl (congrArg (fun z => x4 + z) (show Int32.ofInt (1) = (1 : Int32) by decide)) (by decide) rfl ?_
          refine ww_goto (pc := 84) (tgt := 30) C dX12_nearest_84 (by decide) ?_
          have hf := xsj hf
          subst hf
          refine ww_sub [2, 3, 4, 1, 0] rfl ?_
          exact hk.1 (x4, x4 + (1 : Int32)) rfl
    · have hf := xin q hf
      refine ww_goto (pc := 55) (tgt := 81) C dX12_nearest_55 (by decide) ?_
      refine ww_iinc (pc := 81) (v := x4 + (1 : Int32)) (lv' := [(4, .int (x4 + (1 : Int32))), (0, .ref (gB G + r0)), (1, .int x1), (2, .int x2), (3, .int x3)]) C 4 dX12_nearest_81 rfl (congrArg (fun z => x4 + z) (show Int32.ofInt (1) = (1 : Int32) by decide)) (by decide) rfl ?_
      refine ww_goto (pc := 84) (tgt := 30) C dX12_nearest_84 (by decide) ?_
      have hf := xsj hf
      subst hf
      refine ww_sub [1, 2, 3, 4, 0] rfl ?_
      exact hk.1 (x3, x4 + (1 : Int32)) rfl
theorem s_X12_nearest_e {G : XG} (C : XC G cX12_nearest RX12 (some .int) 5 4 96) {σ : XS} {r0 : Nat} {x1 : Int32} {x2 : Int32} {x : Int32 × XS} (hf : f_X12_nearest σ r0 x1 x2 = some x) (hk : XEnd G (some (.int x.1)) x.2) : WW G 0 [(0, .ref (gB G + r0)), (1, .int x1), (2, .int x2)] [] σ := by
  refine ww_aload_n (pc := 0) C 0 dX12_nearest_0 rfl ?_
  refine ww_iload_n (pc := 1) C 1 dX12_nearest_1 rfl ?_
  obtain ⟨_, e1, hf⟩ := xbd hf
  obtain ⟨v3, e2, hf⟩ := xbd hf
  refine ww_callVi (pc := 2) (as := [.int x1]) (st := []) C (k_X12_isLawful (l := gl G) (E := gE G) (hb := gB G) (σ := σ) e2) rfl (by decide) xc_X12_281 q1559 qp142 (xck_spec e1) rfl (by decide) (xst4 (Nat.le_of_ble_eq_true rfl)) xsame.rf.le xsame.rf.lim dX12_nearest_2 ?_
  refine ww_if_eq (pc := 5) (tgt := 17) C dX12_nearest_5 (by decide) (fun q => ?_) (fun q => ?_)
  · have hf := xip q hf
    refine ww_ldcw (pc := 17) C q1597 dX12_nearest_17 ?_
    have hf := xsj hf
    subst hf
    exact ww_iret (pc := 20) C hk dX12_nearest_20
  · have hf := xin q hf
    refine ww_iload_n (pc := 8) C 2 dX12_nearest_8 rfl ?_
    refine ww_iconst (pc := 9) (v := (0 : Int32)) C dX12_nearest_9 (by decide) ?_
    refine ww_iconst (pc := 10) (v := (1 : Int32)) C dX12_nearest_10 (by decide) ?_
    obtain ⟨v5, e4, hf⟩ := xbd hf
    refine ww_callSi (pc := 11) (as := [.int x2, .int (0 : Int32), .int (1 : Int32)]) (st := []) C (k_X12_in (l := gl G) (E := gE G) (hb := gB G) (σ := σ) e4) xc_X12_213 q1473 rfl (by decide) (xst4 (Nat.le_of_ble_eq_true rfl)) xsame.rf.le xsame.rf.lim dX12_nearest_11 ?_
    refine ww_if_ne (pc := 14) (tgt := 21) C dX12_nearest_14 (by decide) (fun q => ?_) (fun q => ?_)
    · have hf := xin q hf
      refine ww_aload_n (pc := 21) C 0 dX12_nearest_21 rfl ?_
      obtain ⟨_, e6, hf⟩ := xbd hf
      obtain ⟨σ8, e7, hf⟩ := xbd hf
      refine ww_callVv (pc := 22) (as := []) (st := []) C (k_X12_knows (l := gl G) (E := gE G) (hb := gB G) (σ := σ) e7) rfl (by decide) xc_X12_261 q1551 qp140 (xck_spec e6) rfl (by decide) (xst4 (Nat.le_of_ble_eq_true rfl)) (m_X12_knows e7).le (m_X12_knows e7).lim dX12_nearest_22 ?_
      refine ww_iconst (pc := 25) (v := (-1 : Int32)) C dX12_nearest_25 (by decide) ?_
      refine ww_istore_n (pc := 26) (lv' := [(3, .int (-1 : Int32)), (0, .ref (gB G + r0)), (1, .int x1), (2, .int x2)]) C dX12_nearest_26 (by decide) rfl ?_
      refine ww_iconst (pc := 27) (v := (0 : Int32)) C dX12_nearest_27 (by decide) ?_
      refine ww_istore (pc := 28) (lv' := [(4, .int (0 : Int32)), (3, .int (-1 : Int32)), (0, .ref (gB G + r0)), (1, .int x1), (2, .int x2)]) C dX12_nearest_28 (by decide) rfl ?_
      refine ww_sub [2, 3, 4, 1, 0] rfl ?_
      exact s_X12_nearest_l30 C (a := ((-1 : Int32), (0 : Int32))) hf hk
    · have hf := xip q hf
      refine ww_ldcw (pc := 17) C q1597 dX12_nearest_17 ?_
      have hf := xsj hf
      subst hf
      exact ww_iret (pc := 20) C hk dX12_nearest_20
theorem m_X12_nearest {σ : XS} {r0 : Nat} {x1 : Int32} {x2 : Int32} {x : Int32 × XS} (hf : f_X12_nearest σ r0 x1 x2 = some x) : xsame σ x.2 := by
  have hm := xsame.rf (σ := σ)
  obtain ⟨_, e1, hf⟩ := xbd hf
  obtain ⟨v3, e2, hf⟩ := xbd hf
  by_cases q : v3 = 0
  · have hf := xip q hf
    have hf := xsj hf
    subst hf
    exact hm
  · have hf := xin q hf
    obtain ⟨v5, e4, hf⟩ := xbd hf
    by_cases q : v5 = 0
    · have hf := xip q hf
      have hf := xsj hf
      subst hf
      exact hm
    · have hf := xin q hf
      obtain ⟨_, e6, hf⟩ := xbd hf
      obtain ⟨σ8, e7, hf⟩ := xbd hf
      have hm := hm.tr (m_X12_knows e7)
      exact hm.tr (m_X12_nearest_l30 (a := ((-1 : Int32), (0 : Int32))) hf)
theorem k_X12_nearest {l : Launch} {E : XD} {hb : Nat} {σ : XS} {r0 : Nat} {x1 : Int32} {x2 : Int32} {x : Int32 × XS} (h : f_X12_nearest σ r0 x1 x2 = some x) : XM l yX12_nearest cX12_nearest 5 (some .int) 4 96 E hb [.ref (hb + r0), .int x1, .int x2] σ (some (.int x.1)) x.2 := by
  refine xm_of (by decide) (Nat.le_of_ble_eq_true rfl) (m_X12_nearest h).le (fun G hG C hl hQ => ?_)
  obtain ⟨rfl, rfl, rfl, hN⟩ := hG
  exact s_X12_nearest_e C h hQ
noncomputable def f_X12_overlap_b75 (σ : XS) (r0 : Nat) (x1 : Int32) (x2 : Int32) (x4 : Int32) : Int32 × Int32 → Option ((Int32 × Int32) ⊕ ((Int32 × Int32 × Int32 × XS) ⊕ (Int32 × XS))) := fun a => match a with
  | (x3, x5) => if x2 ≤ x5 then (((xgR σ r0 12 44).bind fun z2 => (xsI σ 20 z2 x2 x4).bind fun σ4 => some (.inl (x2 + (1 : Int32), x3, x4 + (1 : Int32), σ4))).map .inr) else (xgR σ r0 12 44).bind fun z2 => (xaI σ 20 z2 x5).bind fun v4 => (f_X12_bitsOf (x4 ^^^ v4)).bind fun v6 => if v6 = x1 then (some (.inl (x3 + (1 : Int32), x5 + (1 : Int32)))) else some (.inl (x3, x5 + (1 : Int32)))
noncomputable def f_X12_overlap_b44 (r0 : Nat) (x1 : Int32) : Int32 × Int32 × Int32 × XS → Option ((Int32 × Int32 × Int32 × XS) ⊕ (Int32 × XS)) := fun a => match a with
  | (x2, x3, x4, σ) => (xck σ r0 12).bind fun _ => (f_X12_states σ r0).bind fun v3 => if v3 ≤ x4 then ((some (x3, σ)).map .inr) else (xgR σ r0 12 33).bind fun z5 => (xaI σ 20 z5 x4).bind fun v7 => (xgR σ r0 12 36).bind fun z9 => (xaI σ 20 z9 (0 : Int32)).bind fun v11 => if v7 = v11 then (xloop (f_X12_overlap_b75 σ r0 x1 x2 x4) (x3, (0 : Int32))) else some (.inl (x2, x3, x4 + (1 : Int32), σ))
noncomputable def f_X12_overlap (σ : XS) (r0 : Nat) (x1 : Int32) : Option (Int32 × XS) := (xck σ r0 12).bind fun _ => (f_X12_knows σ r0).bind fun σ3 => (xgI σ3 r0 12 35).bind fun v5 => if v5 = 0 then (some ((0 : Int32), σ3)) else (xgR σ3 r0 12 34).bind fun z7 => (xgR σ3 r0 12 36).bind fun z9 => (xaI σ3 20 z9 (0 : Int32)).bind fun v11 => (xaI σ3 20 z7 ((150 : Int32) + v11)).bind fun v13 => if v13 ≤ (256 : Int32) then (xloop (f_X12_overlap_b44 r0 x1) ((0 : Int32), (0 : Int32), (0 : Int32), σ3)) else some ((-2 : Int32), σ3)
theorem m_X12_overlap_l75 {σ : XS} {r0 : Nat} {x1 : Int32} {x2 : Int32} {x4 : Int32} {a : Int32 × Int32} {x : ((Int32 × Int32 × Int32 × XS) ⊕ (Int32 × XS))} (hf : xloop (f_X12_overlap_b75 σ r0 x1 x2 x4) a = some x) : (∀ a' : Int32 × Int32 × Int32 × XS, x = .inl a' → xsame σ a'.2.2.2) ∧ (∀ b1 : Int32 × XS, x = .inr b1 → xsame σ b1.2) := by
  refine xloop_ind (P := fun a => (∀ a' : Int32 × Int32 × Int32 × XS, x = .inl a' → xsame σ a'.2.2.2) ∧ (∀ b1 : Int32 × XS, x = .inr b1 → xsame σ b1.2)) (fun a y hf hc he => ?_) hf
  obtain ⟨x3, x5⟩ := a
  have hy : (∀ a' : Int32 × Int32, y = .inl a' → True) ∧ (∀ b2 : ((Int32 × Int32 × Int32 × XS) ⊕ (Int32 × XS)), y = .inr b2 → (∀ a' : Int32 × Int32 × Int32 × XS, b2 = .inl a' → xsame σ a'.2.2.2) ∧ (∀ b1 : Int32 × XS, b2 = .inr b1 → xsame σ b1.2)) := by
    have hm := xsame.rf (σ := σ)
    by_cases q : x2 ≤ x5
    · have hf := xip q hf
      obtain ⟨b0, hg, e9⟩ := xmj hf
      subst e9
      have hf := hg
      refine ⟨fun a' e => xnc2 e, fun b e => ?_⟩
      have h9 := Sum.inr.inj e
      subst h9
      obtain ⟨z2, e1, hf⟩ := xbd hf
      obtain ⟨σ4, e3, hf⟩ := xbd hf
      have hm := hm.tr (xsI_same e3)
      have hf := xsj hf
      subst hf
      exact ⟨fun a' e => (by have h9 := Sum.inl.inj e; subst h9; exact hm), fun b e => xnc1 e⟩
    · have hf := xin q hf
      obtain ⟨z2, e1, hf⟩ := xbd hf
      obtain ⟨v4, e3, hf⟩ := xbd hf
      obtain ⟨v6, e5, hf⟩ := xbd hf
      by_cases q : v6 = x1
      · have hf := xip q hf
        have hf := xsj hf
        subst hf
        exact ⟨fun a' e => (by have h9 := Sum.inl.inj e; subst h9; exact trivial), fun b e => xnc1 e⟩
      · have hf := xin q hf
        have hf := xsj hf
        subst hf
        exact ⟨fun a' e => (by have h9 := Sum.inl.inj e; subst h9; exact trivial), fun b e => xnc1 e⟩
  cases y with
  | inl a' =>
    have h1 := hc a' rfl
    exact h1
  | inr b =>
    have h1 := he b rfl
    subst h1
    exact hy.2 _ rfl
theorem s_X12_overlap_l75 {G : XG} (C : XC G cX12_overlap RX12 (some .int) 6 4 96) {σ : XS} {r0 : Nat} {x1 : Int32} {x2 : Int32} {x4 : Int32} {a : Int32 × Int32} {x : ((Int32 × Int32 × Int32 × XS) ⊕ (Int32 × XS))} (hf : xloop (f_X12_overlap_b75 σ r0 x1 x2 x4) a = some x) (hk : (∀ a' : Int32 × Int32 × Int32 × XS, x = .inl a' → WW G 44 [(0, .ref (gB G + r0)), (1, .int x1), (2, .int a'.1), (3, .int a'.2.1), (4, .int a'.2.2.1)] [] a'.2.2.2) ∧ (∀ b1 : Int32 × XS, x = .inr b1 → XEnd G (some (.int b1.1)) b1.2)) : WW G 75 [(0, .ref (gB G + r0)), (1, .int x1), (2, .int x2), (3, .int a.1), (4, .int x4), (5, .int a.2)] [] σ := by
  refine xloop_ind (P := fun a => WW G 75 [(0, .ref (gB G + r0)), (1, .int x1), (2, .int x2), (3, .int a.1), (4, .int x4), (5, .int a.2)] [] σ) (fun a y hf hc he => ?_) hf
  obtain ⟨x3, x5⟩ := a
  have hk : (∀ a' : Int32 × Int32, y = .inl a' → WW G 75 [(0, .ref (gB G + r0)), (1, .int x1), (2, .int x2), (3, .int a'.1), (4, .int x4), (5, .int a'.2)] [] σ) ∧ (∀ b2 : ((Int32 × Int32 × Int32 × XS) ⊕ (Int32 × XS)), y = .inr b2 → (∀ a' : Int32 × Int32 × Int32 × XS, b2 = .inl a' → WW G 44 [(0, .ref (gB G + r0)), (1, .int x1), (2, .int a'.1), (3, .int a'.2.1), (4, .int a'.2.2.1)] [] a'.2.2.2) ∧ (∀ b1 : Int32 × XS, b2 = .inr b1 → XEnd G (some (.int b1.1)) b1.2)) := ⟨hc, fun b e => by have h9 := he b e; subst h9; exact hk⟩
  refine ww_iload (pc := 75) C 5 dX12_overlap_75 rfl ?_
  refine ww_iload_n (pc := 77) C 2 dX12_overlap_77 rfl ?_
  refine ww_icmp_ge (pc := 78) (tgt := 107) C dX12_overlap_78 (by decide) (fun q => ?_) (fun q => ?_)
  · have hf := xip q hf
    obtain ⟨b0, hg, e9⟩ := xmj hf
    subst e9
    have hf := hg
    have hk := hk.2 _ rfl
    refine ww_aload_n (pc := 107) C 0 dX12_overlap_107 rfl ?_
    obtain ⟨z2, e1, hf⟩ := xbd hf
    refine gf_X12_87 (pc := 108) C e1 dX12_overlap_108 ?_
    refine ww_iload_n (pc := 111) C 2 dX12_overlap_111 rfl ?_
    refine ww_iload (pc := 112) C 4 dX12_overlap_112 rfl ?_
    obtain ⟨σ4, e3, hf⟩ := xbd hf
    refine ww_iast (pc := 114) C e3 dX12_overlap_114 ?_
    refine ww_iinc (pc := 115) (v := x2 + (1 : Int32)) (lv' := [(2, .int (x2 + (1 : Int32))), (0, .ref (gB G + r0)), (1, .int x1), (3, .int x3), (4, .int x4), (5, .int x5)]) C 2 dX12_overlap_115 rfl (congrArg (fun z => x2 + z) (show Int32.ofInt (1) = (1 : Int32) by decide)) (by decide) rfl ?_
    refine ww_iinc (pc := 118) (v := x4 + (1 : Int32)) (lv' := [(4, .int (x4 + (1 : Int32))), (2, .int (x2 + (1 : Int32))), (0, .ref (gB G + r0)), (1, .int x1), (3, .int x3), (5, .int x5)]) C 4 dX12_overlap_118 rfl (congrArg (fun z => x4 + z) (show Int32.ofInt (1) = (1 : Int32) by decide)) (by decide) rfl ?_
    refine ww_goto (pc := 121) (tgt := 44) C dX12_overlap_121 (by decide) ?_
    have hf := xsj hf
    subst hf
    refine ww_sub [2, 3, 1, 4, 0] rfl ?_
    exact hk.1 (x2 + (1 : Int32), x3, x4 + (1 : Int32), σ4) rfl
  · have hf := xin q hf
    refine ww_iload (pc := 81) C 4 dX12_overlap_81 rfl ?_
    refine ww_aload_n (pc := 83) C 0 dX12_overlap_83 rfl ?_
    obtain ⟨z2, e1, hf⟩ := xbd hf
    refine gf_X12_87 (pc := 84) C e1 dX12_overlap_84 ?_
    refine ww_iload (pc := 87) C 5 dX12_overlap_87 rfl ?_
    obtain ⟨v4, e3, hf⟩ := xbd hf
    refine ww_iald (pc := 89) C e3 dX12_overlap_89 ?_
    refine ww_ixor (pc := 90) C dX12_overlap_90 ?_
    obtain ⟨v6, e5, hf⟩ := xbd hf
    refine ww_callSi (pc := 91) (as := [.int (x4 ^^^ v4)]) (st := []) C (k_X12_bitsOf (l := gl G) (E := gE G) (hb := gB G) (σ := σ) e5) xc_X12_292 q1615 rfl (by decide) (xst4 (Nat.le_of_ble_eq_true rfl)) xsame.rf.le xsame.rf.lim dX12_overlap_91 ?_
    refine ww_iload_n (pc := 94) C 1 dX12_overlap_94 rfl ?_
    refine ww_icmp_ne (pc := 95) (tgt := 101) C dX12_overlap_95 (by decide) (fun q => ?_) (fun q => ?_)
    · have hf := xin q hf
      refine ww_iinc (pc := 101) (v := x5 + (1 : Int32)) (lv' := [(5, .int (x5 + (1 : Int32))), (0, .ref (gB G + r0)), (1, .int x1), (2, .int x2), (3, .int x3), (4, .int x4)]) C 5 dX12_overlap_101 rfl (congrArg (fun z => x5 + z) (show Int32.ofInt (1) = (1 : Int32) by decide)) (by decide) rfl ?_
      refine ww_goto (pc := 104) (tgt := 75) C dX12_overlap_104 (by decide) ?_
      have hf := xsj hf
      subst hf
      refine ww_sub [1, 2, 3, 4, 5, 0] rfl ?_
      exact hk.1 (x3, x5 + (1 : Int32)) rfl
    · have hf := xip q hf
      refine ww_iinc (pc := 98) (v := x3 + (1 : Int32)) (lv' := [(3, .int (x3 + (1 : Int32))), (0, .ref (gB G + r0)), (1, .int x1), (2, .int x2), (4, .int x4), (5, .int x5)]) C 3 dX12_overlap_98 rfl (congrArg (fun z => x3 + z) (show Int32.ofInt (1) = (1 : Int32) by decide)) (by decide) rfl ?_
      refine ww_iinc (pc := 101) (v := x5 + (1 : Int32)) (lv' := [(5, .int (x5 + (1 : Int32))), (3, .int (x3 + (1 : Int32))), (0, .ref (gB G + r0)), (1, .int x1), (2, .int x2), (4, .int x4)]) C 5 dX12_overlap_101 rfl (congrArg (fun z => x5 + z) (show Int32.ofInt (1) = (1 : Int32) by decide)) (by decide) rfl ?_
      refine ww_goto (pc := 104) (tgt := 75) C dX12_overlap_104 (by decide) ?_
      have hf := xsj hf
      subst hf
      refine ww_sub [2, 3, 4, 1, 5, 0] rfl ?_
      exact hk.1 (x3 + (1 : Int32), x5 + (1 : Int32)) rfl
theorem m_X12_overlap_l44 {r0 : Nat} {x1 : Int32} {a : Int32 × Int32 × Int32 × XS} {x : Int32 × XS} (hf : xloop (f_X12_overlap_b44 r0 x1) a = some x) : xsame a.2.2.2 x.2 := by
  refine xloop_ind (P := fun a => xsame a.2.2.2 x.2) (fun a y hf hc he => ?_) hf
  obtain ⟨x2, x3, x4, σ⟩ := a
  have hy : (∀ a' : Int32 × Int32 × Int32 × XS, y = .inl a' → xsame σ a'.2.2.2) ∧ (∀ b1 : Int32 × XS, y = .inr b1 → xsame σ b1.2) := by
    have hm := xsame.rf (σ := σ)
    obtain ⟨_, e1, hf⟩ := xbd hf
    obtain ⟨v3, e2, hf⟩ := xbd hf
    by_cases q : v3 ≤ x4
    · have hf := xip q hf
      obtain ⟨b0, hg, e9⟩ := xmj hf
      subst e9
      have hf := hg
      refine ⟨fun a' e => xnc2 e, fun b e => ?_⟩
      have h9 := Sum.inr.inj e
      subst h9
      have hf := xsj hf
      subst hf
      exact hm
    · have hf := xin q hf
      obtain ⟨z5, e4, hf⟩ := xbd hf
      obtain ⟨v7, e6, hf⟩ := xbd hf
      obtain ⟨z9, e8, hf⟩ := xbd hf
      obtain ⟨v11, e10, hf⟩ := xbd hf
      by_cases q : v7 = v11
      · have hf := xip q hf
        exact ⟨fun a' e => hm.tr ((m_X12_overlap_l75 (a := (x3, (0 : Int32))) hf).1 a' e), fun b1 eb1 => hm.tr ((m_X12_overlap_l75 (a := (x3, (0 : Int32))) hf).2 b1 eb1)⟩
      · have hf := xin q hf
        have hf := xsj hf
        subst hf
        exact ⟨fun a' e => (by have h9 := Sum.inl.inj e; subst h9; exact hm), fun b e => xnc1 e⟩
  cases y with
  | inl a' =>
    have h1 := hc a' rfl
    have hm := hy.1 a' rfl
    exact hm.tr (h1)
  | inr b =>
    have h1 := he b rfl
    subst h1
    exact hy.2 _ rfl
theorem s_X12_overlap_l44 {G : XG} (C : XC G cX12_overlap RX12 (some .int) 6 4 96) {r0 : Nat} {x1 : Int32} {a : Int32 × Int32 × Int32 × XS} {x : Int32 × XS} (hf : xloop (f_X12_overlap_b44 r0 x1) a = some x) (hk : XEnd G (some (.int x.1)) x.2) : WW G 44 [(0, .ref (gB G + r0)), (1, .int x1), (2, .int a.1), (3, .int a.2.1), (4, .int a.2.2.1)] [] a.2.2.2 := by
  refine xloop_ind (P := fun a => WW G 44 [(0, .ref (gB G + r0)), (1, .int x1), (2, .int a.1), (3, .int a.2.1), (4, .int a.2.2.1)] [] a.2.2.2) (fun a y hf hc he => ?_) hf
  obtain ⟨x2, x3, x4, σ⟩ := a
  have hk : (∀ a' : Int32 × Int32 × Int32 × XS, y = .inl a' → WW G 44 [(0, .ref (gB G + r0)), (1, .int x1), (2, .int a'.1), (3, .int a'.2.1), (4, .int a'.2.2.1)] [] a'.2.2.2) ∧ (∀ b1 : Int32 × XS, y = .inr b1 → XEnd G (some (.int b1.1)) b1.2) := ⟨hc, fun b e => by have h9 := he b e; subst h9; exact hk⟩
  refine ww_iload (pc := 44) C 4 dX12_overlap_44 rfl ?_
  refine ww_aload_n (pc := 46) C 0 dX12_overlap_46 rfl ?_
  obtain ⟨_, e1, hf⟩ := xbd hf
  obtain ⟨v3, e2, hf⟩ := xbd hf
  refine ww_callVi (pc := 47) (as := []) (st := [.int x4]) C (k_X12_states (l := gl G) (E := gE G) (hb := gB G) (σ := σ) e2) rfl (by decide) xc_X12_270 q1555 qp141 (xck_spec e1) rfl (by decide) (xst4 (Nat.le_of_ble_eq_true rfl)) xsame.rf.le xsame.rf.lim dX12_overlap_47 ?_
  refine ww_icmp_ge (pc := 50) (tgt := 124) C dX12_overlap_50 (by decide) (fun q => ?_) (fun q => ?_)
  · have hf := xip q hf
    obtain ⟨b0, hg, e9⟩ := xmj hf
    subst e9
    have hf := hg
    have hk := hk.2 _ rfl
    refine ww_iload_n (pc := 124) C 3 dX12_overlap_124 rfl ?_
    have hf := xsj hf
    subst hf
    exact ww_iret (pc := 125) C hk dX12_overlap_125
  · have hf := xin q hf
    refine ww_aload_n (pc := 53) C 0 dX12_overlap_53 rfl ?_
    obtain ⟨z5, e4, hf⟩ := xbd hf
    refine gf_X12_57 (pc := 54) C e4 dX12_overlap_54 ?_
    refine ww_iload (pc := 57) C 4 dX12_overlap_57 rfl ?_
    obtain ⟨v7, e6, hf⟩ := xbd hf
    refine ww_iald (pc := 59) C e6 dX12_overlap_59 ?_
    refine ww_aload_n (pc := 60) C 0 dX12_overlap_60 rfl ?_
    obtain ⟨z9, e8, hf⟩ := xbd hf
    refine gf_X12_63 (pc := 61) C e8 dX12_overlap_61 ?_
    refine ww_iconst (pc := 64) (v := (0 : Int32)) C dX12_overlap_64 (by decide) ?_
    obtain ⟨v11, e10, hf⟩ := xbd hf
    refine ww_iald (pc := 65) C e10 dX12_overlap_65 ?_
    refine ww_icmp_eq (pc := 66) (tgt := 72) C dX12_overlap_66 (by decide) (fun q => ?_) (fun q => ?_)
    · have hf := xip q hf
      refine ww_iconst (pc := 72) (v := (0 : Int32)) C dX12_overlap_72 (by decide) ?_
      refine ww_istore (pc := 73) (lv' := [(5, .int (0 : Int32)), (0, .ref (gB G + r0)), (1, .int x1), (2, .int x2), (3, .int x3), (4, .int x4)]) C dX12_overlap_73 (by decide) rfl ?_
      refine ww_sub [1, 2, 3, 4, 5, 0] rfl ?_
      exact s_X12_overlap_l75 C (a := (x3, (0 : Int32))) hf hk
    · have hf := xin q hf
      refine ww_goto (pc := 69) (tgt := 118) C dX12_overlap_69 (by decide) ?_
      refine ww_iinc (pc := 118) (v := x4 + (1 : Int32)) (lv' := [(4, .int (x4 + (1 : Int32))), (0, .ref (gB G + r0)), (1, .int x1), (2, .int x2), (3, .int x3)]) C 4 dX12_overlap_118 rfl (congrArg (fun z => x4 + z) (show Int32.ofInt (1) = (1 : Int32) by decide)) (by decide) rfl ?_
      refine ww_goto (pc := 121) (tgt := 44) C dX12_overlap_121 (by decide) ?_
      have hf := xsj hf
      subst hf
      refine ww_sub [1, 2, 3, 4, 0] rfl ?_
      exact hk.1 (x2, x3, x4 + (1 : Int32), σ) rfl
theorem s_X12_overlap_e {G : XG} (C : XC G cX12_overlap RX12 (some .int) 6 4 96) {σ : XS} {r0 : Nat} {x1 : Int32} {x : Int32 × XS} (hf : f_X12_overlap σ r0 x1 = some x) (hk : XEnd G (some (.int x.1)) x.2) : WW G 0 [(0, .ref (gB G + r0)), (1, .int x1)] [] σ := by
  refine ww_aload_n (pc := 0) C 0 dX12_overlap_0 rfl ?_
  obtain ⟨_, e1, hf⟩ := xbd hf
  obtain ⟨σ3, e2, hf⟩ := xbd hf
  refine ww_callVv (pc := 1) (as := []) (st := []) C (k_X12_knows (l := gl G) (E := gE G) (hb := gB G) (σ := σ) e2) rfl (by decide) xc_X12_261 q1551 qp140 (xck_spec e1) rfl (by decide) (xst4 (Nat.le_of_ble_eq_true rfl)) (m_X12_knows e2).le (m_X12_knows e2).lim dX12_overlap_1 ?_
  refine ww_aload_n (pc := 4) C 0 dX12_overlap_4 rfl ?_
  obtain ⟨v5, e4, hf⟩ := xbd hf
  refine gf_X12_285 (pc := 5) C e4 dX12_overlap_5 ?_
  refine ww_if_ne (pc := 8) (tgt := 13) C dX12_overlap_8 (by decide) (fun q => ?_) (fun q => ?_)
  · have hf := xin q hf
    refine ww_aload_n (pc := 13) C 0 dX12_overlap_13 rfl ?_
    obtain ⟨z7, e6, hf⟩ := xbd hf
    refine gf_X12_60 (pc := 14) C e6 dX12_overlap_14 ?_
    refine ww_sipush (pc := 17) (v := (150 : Int32)) C dX12_overlap_17 (by decide) ?_
    refine ww_aload_n (pc := 20) C 0 dX12_overlap_20 rfl ?_
    obtain ⟨z9, e8, hf⟩ := xbd hf
    refine gf_X12_63 (pc := 21) C e8 dX12_overlap_21 ?_
    refine ww_iconst (pc := 24) (v := (0 : Int32)) C dX12_overlap_24 (by decide) ?_
    obtain ⟨v11, e10, hf⟩ := xbd hf
    refine ww_iald (pc := 25) C e10 dX12_overlap_25 ?_
    refine ww_iadd (pc := 26) C dX12_overlap_26 ?_
    obtain ⟨v13, e12, hf⟩ := xbd hf
    refine ww_iald (pc := 27) C e12 dX12_overlap_27 ?_
    refine ww_sipush (pc := 28) (v := (256 : Int32)) C dX12_overlap_28 (by decide) ?_
    refine ww_icmp_le (pc := 31) (tgt := 37) C dX12_overlap_31 (by decide) (fun q => ?_) (fun q => ?_)
    · have hf := xip q hf
      refine ww_iconst (pc := 37) (v := (0 : Int32)) C dX12_overlap_37 (by decide) ?_
      refine ww_istore_n (pc := 38) (lv' := [(2, .int (0 : Int32)), (0, .ref (gB G + r0)), (1, .int x1)]) C dX12_overlap_38 (by decide) rfl ?_
      refine ww_iconst (pc := 39) (v := (0 : Int32)) C dX12_overlap_39 (by decide) ?_
      refine ww_istore_n (pc := 40) (lv' := [(3, .int (0 : Int32)), (2, .int (0 : Int32)), (0, .ref (gB G + r0)), (1, .int x1)]) C dX12_overlap_40 (by decide) rfl ?_
      refine ww_iconst (pc := 41) (v := (0 : Int32)) C dX12_overlap_41 (by decide) ?_
      refine ww_istore (pc := 42) (lv' := [(4, .int (0 : Int32)), (3, .int (0 : Int32)), (2, .int (0 : Int32)), (0, .ref (gB G + r0)), (1, .int x1)]) C dX12_overlap_42 (by decide) rfl ?_
      refine ww_sub [3, 4, 2, 1, 0] rfl ?_
      exact s_X12_overlap_l44 C (a := ((0 : Int32), (0 : Int32), (0 : Int32), σ3)) hf hk
    · have hf := xin q hf
      refine ww_bipush (pc := 34) (v := (-2 : Int32)) C dX12_overlap_34 (by decide) ?_
      have hf := xsj hf
      subst hf
      exact ww_iret (pc := 36) C hk dX12_overlap_36
  · have hf := xip q hf
    refine ww_iconst (pc := 11) (v := (0 : Int32)) C dX12_overlap_11 (by decide) ?_
    have hf := xsj hf
    subst hf
    exact ww_iret (pc := 12) C hk dX12_overlap_12
theorem m_X12_overlap {σ : XS} {r0 : Nat} {x1 : Int32} {x : Int32 × XS} (hf : f_X12_overlap σ r0 x1 = some x) : xsame σ x.2 := by
  have hm := xsame.rf (σ := σ)
  obtain ⟨_, e1, hf⟩ := xbd hf
  obtain ⟨σ3, e2, hf⟩ := xbd hf
  have hm := hm.tr (m_X12_knows e2)
  obtain ⟨v5, e4, hf⟩ := xbd hf
  by_cases q : v5 = 0
  · have hf := xip q hf
    have hf := xsj hf
    subst hf
    exact hm
  · have hf := xin q hf
    obtain ⟨z7, e6, hf⟩ := xbd hf
    obtain ⟨z9, e8, hf⟩ := xbd hf
    obtain ⟨v11, e10, hf⟩ := xbd hf
    obtain ⟨v13, e12, hf⟩ := xbd hf
    by_cases q : v13 ≤ (256 : Int32)
    · have hf := xip q hf
      exact hm.tr (m_X12_overlap_l44 (a := ((0 : Int32), (0 : Int32), (0 : Int32), σ3)) hf)
    · have hf := xin q hf
      have hf := xsj hf
      subst hf
      exact hm
theorem k_X12_overlap {l : Launch} {E : XD} {hb : Nat} {σ : XS} {r0 : Nat} {x1 : Int32} {x : Int32 × XS} (h : f_X12_overlap σ r0 x1 = some x) : XM l yX12_overlap cX12_overlap 6 (some .int) 4 96 E hb [.ref (hb + r0), .int x1] σ (some (.int x.1)) x.2 := by
  refine xm_of (by decide) (Nat.le_of_ble_eq_true rfl) (m_X12_overlap h).le (fun G hG C hl hQ => ?_)
  obtain ⟨rfl, rfl, rfl, hN⟩ := hG
  exact s_X12_overlap_e C h hQ
noncomputable def f_X12_pair_b54 (σ : XS) (r0 : Nat) (x1 : Int32) (x2 : Int32) (x3 : Int32) (x4 : Int32) : Int32 × Int32 → Option ((Int32 × Int32) ⊕ (Int32 × XS)) := fun a => match a with
  | (x5, x6) => (xck σ r0 12).bind fun _ => (f_X12_states σ r0).bind fun v3 => if v3 ≤ x6 then (((xgR σ r0 12 34).bind fun z5 => (xgR σ r0 12 36).bind fun z7 => (xaI σ 20 z7 x3).bind fun v9 => (xaI σ 20 z5 ((150 : Int32) + v9)).bind fun v11 => (f_X12_part x5 v11 x4).bind fun v13 => some (v13, σ)).map .inr) else (xgR σ r0 12 33).bind fun z5 => (xaI σ 20 z5 x6).bind fun v7 => (xgR σ r0 12 36).bind fun z9 => (xaI σ 20 z9 x3).bind fun v11 => if v7 = v11 then ((f_X12_has x6 x1).bind fun v13 => (f_X12_has x6 x2).bind fun v15 => if v13 = v15 then (some (.inl (x5 + (1 : Int32), x6 + (1 : Int32)))) else some (.inl (x5 + (-1 : Int32), x6 + (1 : Int32)))) else some (.inl (x5, x6 + (1 : Int32)))
noncomputable def f_X12_pair (σ : XS) (r0 : Nat) (x1 : Int32) (x2 : Int32) (x3 : Int32) (x4 : Int32) : Option (Int32 × XS) := (xck σ r0 12).bind fun _ => (f_X12_knows σ r0).bind fun σ3 => (xck σ3 r0 12).bind fun _ => (f_X12_isSite σ3 r0 x1).bind fun v6 => if v6 = 0 then (some ((-100000 : Int32), σ3)) else (xck σ3 r0 12).bind fun _ => (f_X12_isSite σ3 r0 x2).bind fun v9 => if v9 = 0 then (some ((-100000 : Int32), σ3)) else (xgI σ3 r0 12 35).bind fun v11 => (f_X12_in x3 (0 : Int32) (v11 - (1 : Int32))).bind fun v13 => if v13 = 0 then (some ((-100000 : Int32), σ3)) else (f_X12_in x4 (0 : Int32) (1 : Int32)).bind fun v15 => if v15 = 0 then (some ((-100000 : Int32), σ3)) else xloop (f_X12_pair_b54 σ3 r0 x1 x2 x3 x4) ((0 : Int32), (0 : Int32))
theorem m_X12_pair_l54 {σ : XS} {r0 : Nat} {x1 : Int32} {x2 : Int32} {x3 : Int32} {x4 : Int32} {a : Int32 × Int32} {x : Int32 × XS} (hf : xloop (f_X12_pair_b54 σ r0 x1 x2 x3 x4) a = some x) : xsame σ x.2 := by
  refine xloop_ind (P := fun a => xsame σ x.2) (fun a y hf hc he => ?_) hf
  obtain ⟨x5, x6⟩ := a
  have hy : (∀ a' : Int32 × Int32, y = .inl a' → True) ∧ (∀ b1 : Int32 × XS, y = .inr b1 → xsame σ b1.2) := by
    have hm := xsame.rf (σ := σ)
    obtain ⟨_, e1, hf⟩ := xbd hf
    obtain ⟨v3, e2, hf⟩ := xbd hf
    by_cases q : v3 ≤ x6
    · have hf := xip q hf
      obtain ⟨b0, hg, e9⟩ := xmj hf
      subst e9
      have hf := hg
      refine ⟨fun a' e => xnc2 e, fun b e => ?_⟩
      have h9 := Sum.inr.inj e
      subst h9
      obtain ⟨z5, e4, hf⟩ := xbd hf
      obtain ⟨z7, e6, hf⟩ := xbd hf
      obtain ⟨v9, e8, hf⟩ := xbd hf
      obtain ⟨v11, e10, hf⟩ := xbd hf
      obtain ⟨v13, e12, hf⟩ := xbd hf
      have hf := xsj hf
      subst hf
      exact hm
    · have hf := xin q hf
      obtain ⟨z5, e4, hf⟩ := xbd hf
      obtain ⟨v7, e6, hf⟩ := xbd hf
      obtain ⟨z9, e8, hf⟩ := xbd hf
      obtain ⟨v11, e10, hf⟩ := xbd hf
      by_cases q : v7 = v11
      · have hf := xip q hf
        obtain ⟨v13, e12, hf⟩ := xbd hf
        obtain ⟨v15, e14, hf⟩ := xbd hf
        by_cases q : v13 = v15
        · have hf := xip q hf
          have hf := xsj hf
          subst hf
          exact ⟨fun a' e => (by have h9 := Sum.inl.inj e; subst h9; exact trivial), fun b e => xnc1 e⟩
        · have hf := xin q hf
          have hf := xsj hf
          subst hf
          exact ⟨fun a' e => (by have h9 := Sum.inl.inj e; subst h9; exact trivial), fun b e => xnc1 e⟩
      · have hf := xin q hf
        have hf := xsj hf
        subst hf
        exact ⟨fun a' e => (by have h9 := Sum.inl.inj e; subst h9; exact trivial), fun b e => xnc1 e⟩
  cases y with
  | inl a' =>
    have h1 := hc a' rfl
    exact h1
  | inr b =>
    have h1 := he b rfl
    subst h1
    exact hy.2 _ rfl
theorem s_X12_pair_l54 {G : XG} (C : XC G cX12_pair RX12 (some .int) 7 4 96) {σ : XS} {r0 : Nat} {x1 : Int32} {x2 : Int32} {x3 : Int32} {x4 : Int32} {a : Int32 × Int32} {x : Int32 × XS} (hf : xloop (f_X12_pair_b54 σ r0 x1 x2 x3 x4) a = some x) (hk : XEnd G (some (.int x.1)) x.2) : WW G 54 [(0, .ref (gB G + r0)), (1, .int x1), (2, .int x2), (3, .int x3), (4, .int x4), (5, .int a.1), (6, .int a.2)] [] σ := by
  refine xloop_ind (P := fun a => WW G 54 [(0, .ref (gB G + r0)), (1, .int x1), (2, .int x2), (3, .int x3), (4, .int x4), (5, .int a.1), (6, .int a.2)] [] σ) (fun a y hf hc he => ?_) hf
  obtain ⟨x5, x6⟩ := a
  have hk : (∀ a' : Int32 × Int32, y = .inl a' → WW G 54 [(0, .ref (gB G + r0)), (1, .int x1), (2, .int x2), (3, .int x3), (4, .int x4), (5, .int a'.1), (6, .int a'.2)] [] σ) ∧ (∀ b1 : Int32 × XS, y = .inr b1 → XEnd G (some (.int b1.1)) b1.2) := ⟨hc, fun b e => by have h9 := he b e; subst h9; exact hk⟩
  refine ww_iload (pc := 54) C 6 dX12_pair_54 rfl ?_
  refine ww_aload_n (pc := 56) C 0 dX12_pair_56 rfl ?_
  obtain ⟨_, e1, hf⟩ := xbd hf
  obtain ⟨v3, e2, hf⟩ := xbd hf
  refine ww_callVi (pc := 57) (as := []) (st := [.int x6]) C (k_X12_states (l := gl G) (E := gE G) (hb := gB G) (σ := σ) e2) rfl (by decide) xc_X12_270 q1555 qp141 (xck_spec e1) rfl (by decide) (xst4 (Nat.le_of_ble_eq_true rfl)) xsame.rf.le xsame.rf.lim dX12_pair_57 ?_
  refine ww_icmp_ge (pc := 60) (tgt := 110) C dX12_pair_60 (by decide) (fun q => ?_) (fun q => ?_)
  · have hf := xip q hf
    obtain ⟨b0, hg, e9⟩ := xmj hf
    subst e9
    have hf := hg
    have hk := hk.2 _ rfl
    refine ww_iload (pc := 110) C 5 dX12_pair_110 rfl ?_
    refine ww_aload_n (pc := 112) C 0 dX12_pair_112 rfl ?_
    obtain ⟨z5, e4, hf⟩ := xbd hf
    refine gf_X12_60 (pc := 113) C e4 dX12_pair_113 ?_
    refine ww_sipush (pc := 116) (v := (150 : Int32)) C dX12_pair_116 (by decide) ?_
    refine ww_aload_n (pc := 119) C 0 dX12_pair_119 rfl ?_
    obtain ⟨z7, e6, hf⟩ := xbd hf
    refine gf_X12_63 (pc := 120) C e6 dX12_pair_120 ?_
    refine ww_iload_n (pc := 123) C 3 dX12_pair_123 rfl ?_
    obtain ⟨v9, e8, hf⟩ := xbd hf
    refine ww_iald (pc := 124) C e8 dX12_pair_124 ?_
    refine ww_iadd (pc := 125) C dX12_pair_125 ?_
    obtain ⟨v11, e10, hf⟩ := xbd hf
    refine ww_iald (pc := 126) C e10 dX12_pair_126 ?_
    refine ww_iload (pc := 127) C 4 dX12_pair_127 rfl ?_
    obtain ⟨v13, e12, hf⟩ := xbd hf
    refine ww_callSi (pc := 129) (as := [.int x5, .int v11, .int x4]) (st := []) C (k_X12_part (l := gl G) (E := gE G) (hb := gB G) (σ := σ) e12) xc_X12_308 q1641 rfl (by decide) (xst4 (Nat.le_of_ble_eq_true rfl)) xsame.rf.le xsame.rf.lim dX12_pair_129 ?_
    have hf := xsj hf
    subst hf
    exact ww_iret (pc := 132) C hk dX12_pair_132
  · have hf := xin q hf
    refine ww_aload_n (pc := 63) C 0 dX12_pair_63 rfl ?_
    obtain ⟨z5, e4, hf⟩ := xbd hf
    refine gf_X12_57 (pc := 64) C e4 dX12_pair_64 ?_
    refine ww_iload (pc := 67) C 6 dX12_pair_67 rfl ?_
    obtain ⟨v7, e6, hf⟩ := xbd hf
    refine ww_iald (pc := 69) C e6 dX12_pair_69 ?_
    refine ww_aload_n (pc := 70) C 0 dX12_pair_70 rfl ?_
    obtain ⟨z9, e8, hf⟩ := xbd hf
    refine gf_X12_63 (pc := 71) C e8 dX12_pair_71 ?_
    refine ww_iload_n (pc := 74) C 3 dX12_pair_74 rfl ?_
    obtain ⟨v11, e10, hf⟩ := xbd hf
    refine ww_iald (pc := 75) C e10 dX12_pair_75 ?_
    refine ww_icmp_ne (pc := 76) (tgt := 104) C dX12_pair_76 (by decide) (fun q => ?_) (fun q => ?_)
    · have hf := xin q hf
      refine ww_iinc (pc := 104) (v := x6 + (1 : Int32)) (lv' := [(6, .int (x6 + (1 : Int32))), (0, .ref (gB G + r0)), (1, .int x1), (2, .int x2), (3, .int x3), (4, .int x4), (5, .int x5)]) C 6 dX12_pair_104 rfl (congrArg (fun z => x6 + z) (show Int32.ofInt (1) = (1 : Int32) by decide)) (by decide) rfl ?_
      refine ww_goto (pc := 107) (tgt := 54) C dX12_pair_107 (by decide) ?_
      have hf := xsj hf
      subst hf
      refine ww_sub [1, 2, 3, 4, 5, 6, 0] rfl ?_
      exact hk.1 (x5, x6 + (1 : Int32)) rfl
    · have hf := xip q hf
      refine ww_iload (pc := 79) C 5 dX12_pair_79 rfl ?_
      refine ww_iload (pc := 81) C 6 dX12_pair_81 rfl ?_
      refine ww_iload_n (pc := 83) C 1 dX12_pair_83 rfl ?_
      obtain ⟨v13, e12, hf⟩ := xbd hf
      refine ww_callSi (pc := 84) (as := [.int x6, .int x1]) (st := [.int x5]) C (k_X12_has (l := gl G) (E := gE G) (hb := gB G) (σ := σ) e12) xc_X12_301 q1630 rfl (by decide) (xst4 (Nat.le_of_ble_eq_true rfl)) xsame.rf.le xsame.rf.lim dX12_pair_84 ?_
      refine ww_iload (pc := 87) C 6 dX12_pair_87 rfl ?_
      refine ww_iload_n (pc := 89) C 2 dX12_pair_89 rfl ?_
      obtain ⟨v15, e14, hf⟩ := xbd hf
      refine ww_callSi (pc := 90) (as := [.int x6, .int x2]) (st := [.int v13, .int x5]) C (k_X12_has (l := gl G) (E := gE G) (hb := gB G) (σ := σ) e14) xc_X12_301 q1630 rfl (by decide) (xst4 (Nat.le_of_ble_eq_true rfl)) xsame.rf.le xsame.rf.lim dX12_pair_90 ?_
      refine ww_icmp_ne (pc := 93) (tgt := 100) C dX12_pair_93 (by decide) (fun q => ?_) (fun q => ?_)
      · have hf := xin q hf
        refine ww_iconst (pc := 100) (v := (-1 : Int32)) C dX12_pair_100 (by decide) ?_
        refine ww_iadd (pc := 101) C dX12_pair_101 ?_
        refine ww_istore (pc := 102) (lv' := [(5, .int (x5 + (-1 : Int32))), (0, .ref (gB G + r0)), (1, .int x1), (2, .int x2), (3, .int x3), (4, .int x4), (6, .int x6)]) C dX12_pair_102 (by decide) rfl ?_
        refine ww_iinc (pc := 104) (v := x6 + (1 : Int32)) (lv' := [(6, .int (x6 + (1 : Int32))), (5, .int (x5 + (-1 : Int32))), (0, .ref (gB G + r0)), (1, .int x1), (2, .int x2), (3, .int x3), (4, .int x4)]) C 6 dX12_pair_104 rfl (congrArg (fun z => x6 + z) (show Int32.ofInt (1) = (1 : Int32) by decide)) (by decide) rfl ?_
        refine ww_goto (pc := 107) (tgt := 54) C dX12_pair_107 (by decide) ?_
        have hf := xsj hf
        subst hf
        refine ww_sub [2, 3, 4, 5, 6, 1, 0] rfl ?_
        exact hk.1 (x5 + (-1 : Int32), x6 + (1 : Int32)) rfl
      · have hf := xip q hf
        refine ww_iconst (pc := 96) (v := (1 : Int32)) C dX12_pair_96 (by decide) ?_
        refine ww_goto (pc := 97) (tgt := 101) C dX12_pair_97 (by decide) ?_
        refine ww_iadd (pc := 101) C dX12_pair_101 ?_
        refine ww_istore (pc := 102) (lv' := [(5, .int (x5 + (1 : Int32))), (0, .ref (gB G + r0)), (1, .int x1), (2, .int x2), (3, .int x3), (4, .int x4), (6, .int x6)]) C dX12_pair_102 (by decide) rfl ?_
        refine ww_iinc (pc := 104) (v := x6 + (1 : Int32)) (lv' := [(6, .int (x6 + (1 : Int32))), (5, .int (x5 + (1 : Int32))), (0, .ref (gB G + r0)), (1, .int x1), (2, .int x2), (3, .int x3), (4, .int x4)]) C 6 dX12_pair_104 rfl (congrArg (fun z => x6 + z) (show Int32.ofInt (1) = (1 : Int32) by decide)) (by decide) rfl ?_
        refine ww_goto (pc := 107) (tgt := 54) C dX12_pair_107 (by decide) ?_
        have hf := xsj hf
        subst hf
        refine ww_sub [2, 3, 4, 5, 6, 1, 0] rfl ?_
        exact hk.1 (x5 + (1 : Int32), x6 + (1 : Int32)) rfl
theorem s_X12_pair_e {G : XG} (C : XC G cX12_pair RX12 (some .int) 7 4 96) {σ : XS} {r0 : Nat} {x1 : Int32} {x2 : Int32} {x3 : Int32} {x4 : Int32} {x : Int32 × XS} (hf : f_X12_pair σ r0 x1 x2 x3 x4 = some x) (hk : XEnd G (some (.int x.1)) x.2) : WW G 0 [(0, .ref (gB G + r0)), (1, .int x1), (2, .int x2), (3, .int x3), (4, .int x4)] [] σ := by
  refine ww_aload_n (pc := 0) C 0 dX12_pair_0 rfl ?_
  obtain ⟨_, e1, hf⟩ := xbd hf
  obtain ⟨σ3, e2, hf⟩ := xbd hf
  refine ww_callVv (pc := 1) (as := []) (st := []) C (k_X12_knows (l := gl G) (E := gE G) (hb := gB G) (σ := σ) e2) rfl (by decide) xc_X12_261 q1551 qp140 (xck_spec e1) rfl (by decide) (xst4 (Nat.le_of_ble_eq_true rfl)) (m_X12_knows e2).le (m_X12_knows e2).lim dX12_pair_1 ?_
  refine ww_aload_n (pc := 4) C 0 dX12_pair_4 rfl ?_
  refine ww_iload_n (pc := 5) C 1 dX12_pair_5 rfl ?_
  obtain ⟨_, e4, hf⟩ := xbd hf
  obtain ⟨v6, e5, hf⟩ := xbd hf
  refine ww_callVi (pc := 6) (as := [.int x1]) (st := []) C (k_X12_isSite (l := gl G) (E := gE G) (hb := gB G) (σ := σ3) e5) rfl (by decide) xc_X12_233 q1508 qp137 (xck_spec e4) rfl (by decide) (xst4 (Nat.le_of_ble_eq_true rfl)) xsame.rf.le xsame.rf.lim dX12_pair_6 ?_
  refine ww_if_eq (pc := 9) (tgt := 44) C dX12_pair_9 (by decide) (fun q => ?_) (fun q => ?_)
  · have hf := xip q hf
    refine ww_ldcw (pc := 44) C q1597 dX12_pair_44 ?_
    have hf := xsj hf
    subst hf
    exact ww_iret (pc := 47) C hk dX12_pair_47
  · have hf := xin q hf
    refine ww_aload_n (pc := 12) C 0 dX12_pair_12 rfl ?_
    refine ww_iload_n (pc := 13) C 2 dX12_pair_13 rfl ?_
    obtain ⟨_, e7, hf⟩ := xbd hf
    obtain ⟨v9, e8, hf⟩ := xbd hf
    refine ww_callVi (pc := 14) (as := [.int x2]) (st := []) C (k_X12_isSite (l := gl G) (E := gE G) (hb := gB G) (σ := σ3) e8) rfl (by decide) xc_X12_233 q1508 qp137 (xck_spec e7) rfl (by decide) (xst4 (Nat.le_of_ble_eq_true rfl)) xsame.rf.le xsame.rf.lim dX12_pair_14 ?_
    refine ww_if_eq (pc := 17) (tgt := 44) C dX12_pair_17 (by decide) (fun q => ?_) (fun q => ?_)
    · have hf := xip q hf
      refine ww_ldcw (pc := 44) C q1597 dX12_pair_44 ?_
      have hf := xsj hf
      subst hf
      exact ww_iret (pc := 47) C hk dX12_pair_47
    · have hf := xin q hf
      refine ww_iload_n (pc := 20) C 3 dX12_pair_20 rfl ?_
      refine ww_iconst (pc := 21) (v := (0 : Int32)) C dX12_pair_21 (by decide) ?_
      refine ww_aload_n (pc := 22) C 0 dX12_pair_22 rfl ?_
      obtain ⟨v11, e10, hf⟩ := xbd hf
      refine gf_X12_285 (pc := 23) C e10 dX12_pair_23 ?_
      refine ww_iconst (pc := 26) (v := (1 : Int32)) C dX12_pair_26 (by decide) ?_
      refine ww_isub (pc := 27) C dX12_pair_27 ?_
      obtain ⟨v13, e12, hf⟩ := xbd hf
      refine ww_callSi (pc := 28) (as := [.int x3, .int (0 : Int32), .int (v11 - (1 : Int32))]) (st := []) C (k_X12_in (l := gl G) (E := gE G) (hb := gB G) (σ := σ3) e12) xc_X12_213 q1473 rfl (by decide) (xst4 (Nat.le_of_ble_eq_true rfl)) xsame.rf.le xsame.rf.lim dX12_pair_28 ?_
      refine ww_if_eq (pc := 31) (tgt := 44) C dX12_pair_31 (by decide) (fun q => ?_) (fun q => ?_)
      · have hf := xip q hf
        refine ww_ldcw (pc := 44) C q1597 dX12_pair_44 ?_
        have hf := xsj hf
        subst hf
        exact ww_iret (pc := 47) C hk dX12_pair_47
      · have hf := xin q hf
        refine ww_iload (pc := 34) C 4 dX12_pair_34 rfl ?_
        refine ww_iconst (pc := 36) (v := (0 : Int32)) C dX12_pair_36 (by decide) ?_
        refine ww_iconst (pc := 37) (v := (1 : Int32)) C dX12_pair_37 (by decide) ?_
        obtain ⟨v15, e14, hf⟩ := xbd hf
        refine ww_callSi (pc := 38) (as := [.int x4, .int (0 : Int32), .int (1 : Int32)]) (st := []) C (k_X12_in (l := gl G) (E := gE G) (hb := gB G) (σ := σ3) e14) xc_X12_213 q1473 rfl (by decide) (xst4 (Nat.le_of_ble_eq_true rfl)) xsame.rf.le xsame.rf.lim dX12_pair_38 ?_
        refine ww_if_ne (pc := 41) (tgt := 48) C dX12_pair_41 (by decide) (fun q => ?_) (fun q => ?_)
        · have hf := xin q hf
          refine ww_iconst (pc := 48) (v := (0 : Int32)) C dX12_pair_48 (by decide) ?_
          refine ww_istore (pc := 49) (lv' := [(5, .int (0 : Int32)), (0, .ref (gB G + r0)), (1, .int x1), (2, .int x2), (3, .int x3), (4, .int x4)]) C dX12_pair_49 (by decide) rfl ?_
          refine ww_iconst (pc := 51) (v := (0 : Int32)) C dX12_pair_51 (by decide) ?_
          refine ww_istore (pc := 52) (lv' := [(6, .int (0 : Int32)), (5, .int (0 : Int32)), (0, .ref (gB G + r0)), (1, .int x1), (2, .int x2), (3, .int x3), (4, .int x4)]) C dX12_pair_52 (by decide) rfl ?_
          refine ww_sub [2, 3, 4, 5, 6, 1, 0] rfl ?_
          exact s_X12_pair_l54 C (a := ((0 : Int32), (0 : Int32))) hf hk
        · have hf := xip q hf
          refine ww_ldcw (pc := 44) C q1597 dX12_pair_44 ?_
          have hf := xsj hf
          subst hf
          exact ww_iret (pc := 47) C hk dX12_pair_47
theorem m_X12_pair {σ : XS} {r0 : Nat} {x1 : Int32} {x2 : Int32} {x3 : Int32} {x4 : Int32} {x : Int32 × XS} (hf : f_X12_pair σ r0 x1 x2 x3 x4 = some x) : xsame σ x.2 := by
  have hm := xsame.rf (σ := σ)
  obtain ⟨_, e1, hf⟩ := xbd hf
  obtain ⟨σ3, e2, hf⟩ := xbd hf
  have hm := hm.tr (m_X12_knows e2)
  obtain ⟨_, e4, hf⟩ := xbd hf
  obtain ⟨v6, e5, hf⟩ := xbd hf
  by_cases q : v6 = 0
  · have hf := xip q hf
    have hf := xsj hf
    subst hf
    exact hm
  · have hf := xin q hf
    obtain ⟨_, e7, hf⟩ := xbd hf
    obtain ⟨v9, e8, hf⟩ := xbd hf
    by_cases q : v9 = 0
    · have hf := xip q hf
      have hf := xsj hf
      subst hf
      exact hm
    · have hf := xin q hf
      obtain ⟨v11, e10, hf⟩ := xbd hf
      obtain ⟨v13, e12, hf⟩ := xbd hf
      by_cases q : v13 = 0
      · have hf := xip q hf
        have hf := xsj hf
        subst hf
        exact hm
      · have hf := xin q hf
        obtain ⟨v15, e14, hf⟩ := xbd hf
        by_cases q : v15 = 0
        · have hf := xip q hf
          have hf := xsj hf
          subst hf
          exact hm
        · have hf := xin q hf
          exact hm.tr (m_X12_pair_l54 (a := ((0 : Int32), (0 : Int32))) hf)
theorem k_X12_pair {l : Launch} {E : XD} {hb : Nat} {σ : XS} {r0 : Nat} {x1 : Int32} {x2 : Int32} {x3 : Int32} {x4 : Int32} {x : Int32 × XS} (h : f_X12_pair σ r0 x1 x2 x3 x4 = some x) : XM l yX12_pair cX12_pair 7 (some .int) 4 96 E hb [.ref (hb + r0), .int x1, .int x2, .int x3, .int x4] σ (some (.int x.1)) x.2 := by
  refine xm_of (by decide) (Nat.le_of_ble_eq_true rfl) (m_X12_pair h).le (fun G hG C hl hQ => ?_)
  obtain ⟨rfl, rfl, rfl, hN⟩ := hG
  exact s_X12_pair_e C h hQ
noncomputable def f_X12_pass_b35 (r0 : Nat) (x1 : Int32) (x2 : Int32) : Int32 × XS → Option ((Int32 × XS) ⊕ (Int32 × XS)) := fun a => match a with
  | (x3, σ) => (xck σ r0 12).bind fun _ => (f_X12_states σ r0).bind fun v3 => if v3 ≤ x3 then (((xck σ r0 12).bind fun _ => (f_X12_laysHills σ r0).bind fun σ6 => (xgR σ6 r0 12 40).bind fun z8 => (xaI σ6 20 z8 x1).bind fun v10 => some (v10, σ6)).map .inr) else (xgR σ r0 12 40).bind fun z5 => if x3 = x2 then ((xgR σ r0 12 33).bind fun z7 => (xaI σ 20 z7 x3).bind fun v9 => (xsI σ 20 z5 x3 v9).bind fun σ11 => some (.inl (x3 + (1 : Int32), σ11))) else (xsI σ 20 z5 x3 (100000 : Int32)).bind fun σ7 => some (.inl (x3 + (1 : Int32), σ7))
noncomputable def f_X12_pass (σ : XS) (r0 : Nat) (x1 : Int32) (x2 : Int32) : Option (Int32 × XS) := (xck σ r0 12).bind fun _ => (f_X12_isLawful σ r0 x1).bind fun v3 => if v3 = 0 then (some ((-100000 : Int32), σ)) else (xck σ r0 12).bind fun _ => (f_X12_isLawful σ r0 x2).bind fun v6 => if v6 = 0 then (some ((-100000 : Int32), σ)) else (xck σ r0 12).bind fun _ => (f_X12_sites σ r0).bind fun v9 => if v9 ≤ (10 : Int32) then ((xck σ r0 12).bind fun _ => (f_X12_knows σ r0).bind fun σ12 => xloop (f_X12_pass_b35 r0 x1 x2) ((0 : Int32), σ12)) else some ((-100000 : Int32), σ)
theorem m_X12_pass_l35 {r0 : Nat} {x1 : Int32} {x2 : Int32} {a : Int32 × XS} {x : Int32 × XS} (hf : xloop (f_X12_pass_b35 r0 x1 x2) a = some x) : xsame a.2 x.2 := by
  refine xloop_ind (P := fun a => xsame a.2 x.2) (fun a y hf hc he => ?_) hf
  obtain ⟨x3, σ⟩ := a
  have hy : (∀ a' : Int32 × XS, y = .inl a' → xsame σ a'.2) ∧ (∀ b1 : Int32 × XS, y = .inr b1 → xsame σ b1.2) := by
    have hm := xsame.rf (σ := σ)
    obtain ⟨_, e1, hf⟩ := xbd hf
    obtain ⟨v3, e2, hf⟩ := xbd hf
    by_cases q : v3 ≤ x3
    · have hf := xip q hf
      obtain ⟨b0, hg, e9⟩ := xmj hf
      subst e9
      have hf := hg
      refine ⟨fun a' e => xnc2 e, fun b e => ?_⟩
      have h9 := Sum.inr.inj e
      subst h9
      obtain ⟨_, e4, hf⟩ := xbd hf
      obtain ⟨σ6, e5, hf⟩ := xbd hf
      have hm := hm.tr (m_X12_laysHills e5)
      obtain ⟨z8, e7, hf⟩ := xbd hf
      obtain ⟨v10, e9, hf⟩ := xbd hf
      have hf := xsj hf
      subst hf
      exact hm
    · have hf := xin q hf
      obtain ⟨z5, e4, hf⟩ := xbd hf
      by_cases q : x3 = x2
      · have hf := xip q hf
        obtain ⟨z7, e6, hf⟩ := xbd hf
        obtain ⟨v9, e8, hf⟩ := xbd hf
        obtain ⟨σ11, e10, hf⟩ := xbd hf
        have hm := hm.tr (xsI_same e10)
        have hf := xsj hf
        subst hf
        exact ⟨fun a' e => (by have h9 := Sum.inl.inj e; subst h9; exact hm), fun b e => xnc1 e⟩
      · have hf := xin q hf
        obtain ⟨σ7, e6, hf⟩ := xbd hf
        have hm := hm.tr (xsI_same e6)
        have hf := xsj hf
        subst hf
        exact ⟨fun a' e => (by have h9 := Sum.inl.inj e; subst h9; exact hm), fun b e => xnc1 e⟩
  cases y with
  | inl a' =>
    have h1 := hc a' rfl
    have hm := hy.1 a' rfl
    exact hm.tr (h1)
  | inr b =>
    have h1 := he b rfl
    subst h1
    exact hy.2 _ rfl
theorem s_X12_pass_l35 {G : XG} (C : XC G cX12_pass RX12 (some .int) 4 4 96) {r0 : Nat} {x1 : Int32} {x2 : Int32} {a : Int32 × XS} {x : Int32 × XS} (hf : xloop (f_X12_pass_b35 r0 x1 x2) a = some x) (hk : XEnd G (some (.int x.1)) x.2) : WW G 35 [(0, .ref (gB G + r0)), (1, .int x1), (2, .int x2), (3, .int a.1)] [] a.2 := by
  refine xloop_ind (P := fun a => WW G 35 [(0, .ref (gB G + r0)), (1, .int x1), (2, .int x2), (3, .int a.1)] [] a.2) (fun a y hf hc he => ?_) hf
  obtain ⟨x3, σ⟩ := a
  have hk : (∀ a' : Int32 × XS, y = .inl a' → WW G 35 [(0, .ref (gB G + r0)), (1, .int x1), (2, .int x2), (3, .int a'.1)] [] a'.2) ∧ (∀ b1 : Int32 × XS, y = .inr b1 → XEnd G (some (.int b1.1)) b1.2) := ⟨hc, fun b e => by have h9 := he b e; subst h9; exact hk⟩
  refine ww_iload_n (pc := 35) C 3 dX12_pass_35 rfl ?_
  refine ww_aload_n (pc := 36) C 0 dX12_pass_36 rfl ?_
  obtain ⟨_, e1, hf⟩ := xbd hf
  obtain ⟨v3, e2, hf⟩ := xbd hf
  refine ww_callVi (pc := 37) (as := []) (st := [.int x3]) C (k_X12_states (l := gl G) (E := gE G) (hb := gB G) (σ := σ) e2) rfl (by decide) xc_X12_270 q1555 qp141 (xck_spec e1) rfl (by decide) (xst4 (Nat.le_of_ble_eq_true rfl)) xsame.rf.le xsame.rf.lim dX12_pass_37 ?_
  refine ww_icmp_ge (pc := 40) (tgt := 72) C dX12_pass_40 (by decide) (fun q => ?_) (fun q => ?_)
  · have hf := xip q hf
    obtain ⟨b0, hg, e9⟩ := xmj hf
    subst e9
    have hf := hg
    have hk := hk.2 _ rfl
    refine ww_aload_n (pc := 72) C 0 dX12_pass_72 rfl ?_
    obtain ⟨_, e4, hf⟩ := xbd hf
    obtain ⟨σ6, e5, hf⟩ := xbd hf
    refine ww_callVv (pc := 73) (as := []) (st := []) C (k_X12_laysHills (l := gl G) (E := gE G) (hb := gB G) (σ := σ) e5) rfl (by decide) xc_X12_327 q1684 qp153 (xck_spec e4) rfl (by decide) (xst4 (Nat.le_of_ble_eq_true rfl)) (m_X12_laysHills e5).le (m_X12_laysHills e5).lim dX12_pass_73 ?_
    refine ww_aload_n (pc := 76) C 0 dX12_pass_76 rfl ?_
    obtain ⟨z8, e7, hf⟩ := xbd hf
    refine gf_X12_75 (pc := 77) C e7 dX12_pass_77 ?_
    refine ww_iload_n (pc := 80) C 1 dX12_pass_80 rfl ?_
    obtain ⟨v10, e9, hf⟩ := xbd hf
    refine ww_iald (pc := 81) C e9 dX12_pass_81 ?_
    have hf := xsj hf
    subst hf
    exact ww_iret (pc := 82) C hk dX12_pass_82
  · have hf := xin q hf
    refine ww_aload_n (pc := 43) C 0 dX12_pass_43 rfl ?_
    obtain ⟨z5, e4, hf⟩ := xbd hf
    refine gf_X12_75 (pc := 44) C e4 dX12_pass_44 ?_
    refine ww_iload_n (pc := 47) C 3 dX12_pass_47 rfl ?_
    refine ww_iload_n (pc := 48) C 3 dX12_pass_48 rfl ?_
    refine ww_iload_n (pc := 49) C 2 dX12_pass_49 rfl ?_
    refine ww_icmp_ne (pc := 50) (tgt := 62) C dX12_pass_50 (by decide) (fun q => ?_) (fun q => ?_)
    · have hf := xin q hf
      refine ww_ldcw (pc := 62) C q1568 dX12_pass_62 ?_
      obtain ⟨σ7, e6, hf⟩ := xbd hf
      refine ww_iast (pc := 65) C e6 dX12_pass_65 ?_
      refine ww_iinc (pc := 66) (v := x3 + (1 : Int32)) (lv' := [(3, .int (x3 + (1 : Int32))), (0, .ref (gB G + r0)), (1, .int x1), (2, .int x2)]) C 3 dX12_pass_66 rfl (congrArg (fun z => x3 + z) (show Int32.ofInt (1) = (1 : Int32) by decide)) (by decide) rfl ?_
      refine ww_goto (pc := 69) (tgt := 35) C dX12_pass_69 (by decide) ?_
      have hf := xsj hf
      subst hf
      refine ww_sub [1, 2, 3, 0] rfl ?_
      exact hk.1 (x3 + (1 : Int32), σ7) rfl
    · have hf := xip q hf
      refine ww_aload_n (pc := 53) C 0 dX12_pass_53 rfl ?_
      obtain ⟨z7, e6, hf⟩ := xbd hf
      refine gf_X12_57 (pc := 54) C e6 dX12_pass_54 ?_
      refine ww_iload_n (pc := 57) C 3 dX12_pass_57 rfl ?_
      obtain ⟨v9, e8, hf⟩ := xbd hf
      refine ww_iald (pc := 58) C e8 dX12_pass_58 ?_
      refine ww_goto (pc := 59) (tgt := 65) C dX12_pass_59 (by decide) ?_
      obtain ⟨σ11, e10, hf⟩ := xbd hf
      refine ww_iast (pc := 65) C e10 dX12_pass_65 ?_
      refine ww_iinc (pc := 66) (v := x3 + (1 : Int32)) (lv' := [(3, .int (x3 + (1 : Int32))), (0, .ref (gB G + r0)), (1, .int x1), (2, .int x2)]) C 3 dX12_pass_66 rfl (congrArg (fun z => x3 + z) (show Int32.ofInt (1) = (1 : Int32) by decide)) (by decide) rfl ?_
      refine ww_goto (pc := 69) (tgt := 35) C dX12_pass_69 (by decide) ?_
      have hf := xsj hf
      subst hf
      refine ww_sub [1, 2, 3, 0] rfl ?_
      exact hk.1 (x3 + (1 : Int32), σ11) rfl
theorem s_X12_pass_e {G : XG} (C : XC G cX12_pass RX12 (some .int) 4 4 96) {σ : XS} {r0 : Nat} {x1 : Int32} {x2 : Int32} {x : Int32 × XS} (hf : f_X12_pass σ r0 x1 x2 = some x) (hk : XEnd G (some (.int x.1)) x.2) : WW G 0 [(0, .ref (gB G + r0)), (1, .int x1), (2, .int x2)] [] σ := by
  refine ww_aload_n (pc := 0) C 0 dX12_pass_0 rfl ?_
  refine ww_iload_n (pc := 1) C 1 dX12_pass_1 rfl ?_
  obtain ⟨_, e1, hf⟩ := xbd hf
  obtain ⟨v3, e2, hf⟩ := xbd hf
  refine ww_callVi (pc := 2) (as := [.int x1]) (st := []) C (k_X12_isLawful (l := gl G) (E := gE G) (hb := gB G) (σ := σ) e2) rfl (by decide) xc_X12_281 q1559 qp142 (xck_spec e1) rfl (by decide) (xst4 (Nat.le_of_ble_eq_true rfl)) xsame.rf.le xsame.rf.lim dX12_pass_2 ?_
  refine ww_if_eq (pc := 5) (tgt := 25) C dX12_pass_5 (by decide) (fun q => ?_) (fun q => ?_)
  · have hf := xip q hf
    refine ww_ldcw (pc := 25) C q1597 dX12_pass_25 ?_
    have hf := xsj hf
    subst hf
    exact ww_iret (pc := 28) C hk dX12_pass_28
  · have hf := xin q hf
    refine ww_aload_n (pc := 8) C 0 dX12_pass_8 rfl ?_
    refine ww_iload_n (pc := 9) C 2 dX12_pass_9 rfl ?_
    obtain ⟨_, e4, hf⟩ := xbd hf
    obtain ⟨v6, e5, hf⟩ := xbd hf
    refine ww_callVi (pc := 10) (as := [.int x2]) (st := []) C (k_X12_isLawful (l := gl G) (E := gE G) (hb := gB G) (σ := σ) e5) rfl (by decide) xc_X12_281 q1559 qp142 (xck_spec e4) rfl (by decide) (xst4 (Nat.le_of_ble_eq_true rfl)) xsame.rf.le xsame.rf.lim dX12_pass_10 ?_
    refine ww_if_eq (pc := 13) (tgt := 25) C dX12_pass_13 (by decide) (fun q => ?_) (fun q => ?_)
    · have hf := xip q hf
      refine ww_ldcw (pc := 25) C q1597 dX12_pass_25 ?_
      have hf := xsj hf
      subst hf
      exact ww_iret (pc := 28) C hk dX12_pass_28
    · have hf := xin q hf
      refine ww_aload_n (pc := 16) C 0 dX12_pass_16 rfl ?_
      obtain ⟨_, e7, hf⟩ := xbd hf
      obtain ⟨v9, e8, hf⟩ := xbd hf
      refine ww_callVi (pc := 17) (as := []) (st := []) C (k_X12_sites (l := gl G) (E := gE G) (hb := gB G) (σ := σ) e8) rfl (by decide) xc_X12_193 q1496 qp136 (xck_spec e7) rfl (by decide) (xst4 (Nat.le_of_ble_eq_true rfl)) xsame.rf.le xsame.rf.lim dX12_pass_17 ?_
      refine ww_bipush (pc := 20) (v := (10 : Int32)) C dX12_pass_20 (by decide) ?_
      refine ww_icmp_le (pc := 22) (tgt := 29) C dX12_pass_22 (by decide) (fun q => ?_) (fun q => ?_)
      · have hf := xip q hf
        refine ww_aload_n (pc := 29) C 0 dX12_pass_29 rfl ?_
        obtain ⟨_, e10, hf⟩ := xbd hf
        obtain ⟨σ12, e11, hf⟩ := xbd hf
        refine ww_callVv (pc := 30) (as := []) (st := []) C (k_X12_knows (l := gl G) (E := gE G) (hb := gB G) (σ := σ) e11) rfl (by decide) xc_X12_261 q1551 qp140 (xck_spec e10) rfl (by decide) (xst4 (Nat.le_of_ble_eq_true rfl)) (m_X12_knows e11).le (m_X12_knows e11).lim dX12_pass_30 ?_
        refine ww_iconst (pc := 33) (v := (0 : Int32)) C dX12_pass_33 (by decide) ?_
        refine ww_istore_n (pc := 34) (lv' := [(3, .int (0 : Int32)), (0, .ref (gB G + r0)), (1, .int x1), (2, .int x2)]) C dX12_pass_34 (by decide) rfl ?_
        refine ww_sub [1, 2, 3, 0] rfl ?_
        exact s_X12_pass_l35 C (a := ((0 : Int32), σ12)) hf hk
      · have hf := xin q hf
        refine ww_ldcw (pc := 25) C q1597 dX12_pass_25 ?_
        have hf := xsj hf
        subst hf
        exact ww_iret (pc := 28) C hk dX12_pass_28
theorem m_X12_pass {σ : XS} {r0 : Nat} {x1 : Int32} {x2 : Int32} {x : Int32 × XS} (hf : f_X12_pass σ r0 x1 x2 = some x) : xsame σ x.2 := by
  have hm := xsame.rf (σ := σ)
  obtain ⟨_, e1, hf⟩ := xbd hf
  obtain ⟨v3, e2, hf⟩ := xbd hf
  by_cases q : v3 = 0
  · have hf := xip q hf
    have hf := xsj hf
    subst hf
    exact hm
  · have hf := xin q hf
    obtain ⟨_, e4, hf⟩ := xbd hf
    obtain ⟨v6, e5, hf⟩ := xbd hf
    by_cases q : v6 = 0
    · have hf := xip q hf
      have hf := xsj hf
      subst hf
      exact hm
    · have hf := xin q hf
      obtain ⟨_, e7, hf⟩ := xbd hf
      obtain ⟨v9, e8, hf⟩ := xbd hf
      by_cases q : v9 ≤ (10 : Int32)
      · have hf := xip q hf
        obtain ⟨_, e10, hf⟩ := xbd hf
        obtain ⟨σ12, e11, hf⟩ := xbd hf
        have hm := hm.tr (m_X12_knows e11)
        exact hm.tr (m_X12_pass_l35 (a := ((0 : Int32), σ12)) hf)
      · have hf := xin q hf
        have hf := xsj hf
        subst hf
        exact hm
theorem k_X12_pass {l : Launch} {E : XD} {hb : Nat} {σ : XS} {r0 : Nat} {x1 : Int32} {x2 : Int32} {x : Int32 × XS} (h : f_X12_pass σ r0 x1 x2 = some x) : XM l yX12_pass cX12_pass 4 (some .int) 4 96 E hb [.ref (hb + r0), .int x1, .int x2] σ (some (.int x.1)) x.2 := by
  refine xm_of (by decide) (Nat.le_of_ble_eq_true rfl) (m_X12_pass h).le (fun G hG C hl hQ => ?_)
  obtain ⟨rfl, rfl, rfl, hN⟩ := hG
  exact s_X12_pass_e C h hQ
noncomputable def f_X12_pin_j64 (σ : XS) (r0 : Nat) (x1 : Int32) (x2 : Int32) : Option (Int32 × XS) := if x2 = (2 : Int32) then ((xgR σ r0 12 21).bind fun z2 => (xaI σ 20 z2 (64 : Int32)).bind fun v4 => (xsI σ 20 z2 (64 : Int32) (v4 &&& (((1 : Int32) <<< (x1 &&& 31)) ^^^ (-1 : Int32)))).bind fun σ6 => (xpI σ6 r0 12 32 (0 : Int32)).bind fun σ8 => some ((1 : Int32), σ8)) else (xpI σ r0 12 32 (0 : Int32)).bind fun σ2 => some ((1 : Int32), σ2)
noncomputable def f_X12_pin (σ : XS) (r0 : Nat) (x1 : Int32) (x2 : Int32) : Option (Int32 × XS) := (xck σ r0 12).bind fun _ => (f_X12_isSite σ r0 x1).bind fun v3 => if v3 = 0 then (some ((0 : Int32), σ)) else (f_X12_in x2 (0 : Int32) (2 : Int32)).bind fun v5 => if v5 = 0 then (some ((0 : Int32), σ)) else (xgR σ r0 12 21).bind fun z7 => (xaI σ 20 z7 ((48 : Int32) + x1)).bind fun v9 => if v9 = x2 then (some ((0 : Int32), σ)) else (xck σ r0 12).bind fun _ => (f_X12_marks σ r0).bind fun σ12 => (xgR σ12 r0 12 21).bind fun z14 => (xsI σ12 20 z14 ((48 : Int32) + x1) x2).bind fun σ16 => if x2 = (1 : Int32) then ((xgR σ16 r0 12 21).bind fun z18 => (xaI σ16 20 z18 (64 : Int32)).bind fun v20 => (xsI σ16 20 z18 (64 : Int32) (v20 ||| ((1 : Int32) <<< (x1 &&& 31)))).bind fun σ22 => f_X12_pin_j64 σ22 r0 x1 x2) else f_X12_pin_j64 σ16 r0 x1 x2
theorem s_X12_pin_j64 {G : XG} (C : XC G cX12_pin RX12 (some .boolean) 3 2 43) {σ : XS} {r0 : Nat} {x1 : Int32} {x2 : Int32} {x : Int32 × XS} (hf : f_X12_pin_j64 σ r0 x1 x2 = some x) (hk : XEnd G (some (.int x.1)) x.2) : WW G 64 [(0, .ref (gB G + r0)), (1, .int x1), (2, .int x2)] [] σ := by
  refine ww_iload_n (pc := 64) C 2 dX12_pin_64 rfl ?_
  refine ww_iconst (pc := 65) (v := (2 : Int32)) C dX12_pin_65 (by decide) ?_
  refine ww_icmp_ne (pc := 66) (tgt := 84) C dX12_pin_66 (by decide) (fun q => ?_) (fun q => ?_)
  · have hf := xin q hf
    refine ww_aload_n (pc := 84) C 0 dX12_pin_84 rfl ?_
    refine ww_iconst (pc := 85) (v := (0 : Int32)) C dX12_pin_85 (by decide) ?_
    obtain ⟨σ2, e1, hf⟩ := xbd hf
    refine pf_X12_200 (pc := 86) C (Or.inl rfl) e1 dX12_pin_86 ?_
    refine ww_iconst (pc := 89) (v := (1 : Int32)) C dX12_pin_89 (by decide) ?_
    have hf := xsj hf
    subst hf
    exact ww_zret (pc := 90) C rfl hk dX12_pin_90
  · have hf := xip q hf
    refine ww_aload_n (pc := 69) C 0 dX12_pin_69 rfl ?_
    obtain ⟨z2, e1, hf⟩ := xbd hf
    refine gf_X12_40 (pc := 70) C e1 dX12_pin_70 ?_
    refine ww_bipush (pc := 73) (v := (64 : Int32)) C dX12_pin_73 (by decide) ?_
    refine ww_dup2 (pc := 75) C dX12_pin_75 rfl rfl ?_
    obtain ⟨v4, e3, hf⟩ := xbd hf
    refine ww_iald (pc := 76) C e3 dX12_pin_76 ?_
    refine ww_iconst (pc := 77) (v := (1 : Int32)) C dX12_pin_77 (by decide) ?_
    refine ww_iload_n (pc := 78) C 1 dX12_pin_78 rfl ?_
    refine ww_ishl (pc := 79) C dX12_pin_79 ?_
    refine ww_iconst (pc := 80) (v := (-1 : Int32)) C dX12_pin_80 (by decide) ?_
    refine ww_ixor (pc := 81) C dX12_pin_81 ?_
    refine ww_iand (pc := 82) C dX12_pin_82 ?_
    obtain ⟨σ6, e5, hf⟩ := xbd hf
    refine ww_iast (pc := 83) C e5 dX12_pin_83 ?_
    refine ww_aload_n (pc := 84) C 0 dX12_pin_84 rfl ?_
    refine ww_iconst (pc := 85) (v := (0 : Int32)) C dX12_pin_85 (by decide) ?_
    obtain ⟨σ8, e7, hf⟩ := xbd hf
    refine pf_X12_200 (pc := 86) C (Or.inl rfl) e7 dX12_pin_86 ?_
    refine ww_iconst (pc := 89) (v := (1 : Int32)) C dX12_pin_89 (by decide) ?_
    have hf := xsj hf
    subst hf
    exact ww_zret (pc := 90) C rfl hk dX12_pin_90
theorem m_X12_pin_j64 {σ : XS} {r0 : Nat} {x1 : Int32} {x2 : Int32} {x : Int32 × XS} (hf : f_X12_pin_j64 σ r0 x1 x2 = some x) : xsame σ x.2 := by
  have hm := xsame.rf (σ := σ)
  by_cases q : x2 = (2 : Int32)
  · have hf := xip q hf
    obtain ⟨z2, e1, hf⟩ := xbd hf
    obtain ⟨v4, e3, hf⟩ := xbd hf
    obtain ⟨σ6, e5, hf⟩ := xbd hf
    have hm := hm.tr (xsI_same e5)
    obtain ⟨σ8, e7, hf⟩ := xbd hf
    have hm := hm.tr (xpI_same e7)
    have hf := xsj hf
    subst hf
    exact hm
  · have hf := xin q hf
    obtain ⟨σ2, e1, hf⟩ := xbd hf
    have hm := hm.tr (xpI_same e1)
    have hf := xsj hf
    subst hf
    exact hm
theorem s_X12_pin_e {G : XG} (C : XC G cX12_pin RX12 (some .boolean) 3 2 43) {σ : XS} {r0 : Nat} {x1 : Int32} {x2 : Int32} {x : Int32 × XS} (hf : f_X12_pin σ r0 x1 x2 = some x) (hk : XEnd G (some (.int x.1)) x.2) : WW G 0 [(0, .ref (gB G + r0)), (1, .int x1), (2, .int x2)] [] σ := by
  refine ww_aload_n (pc := 0) C 0 dX12_pin_0 rfl ?_
  refine ww_iload_n (pc := 1) C 1 dX12_pin_1 rfl ?_
  obtain ⟨_, e1, hf⟩ := xbd hf
  obtain ⟨v3, e2, hf⟩ := xbd hf
  refine ww_callVi (pc := 2) (as := [.int x1]) (st := []) C (k_X12_isSite (l := gl G) (E := gE G) (hb := gB G) (σ := σ) e2) rfl (by decide) xc_X12_233 q1508 qp137 (xck_spec e1) rfl (by decide) (xst4 (Nat.le_of_ble_eq_true rfl)) xsame.rf.le xsame.rf.lim dX12_pin_2 ?_
  refine ww_if_eq (pc := 5) (tgt := 30) C dX12_pin_5 (by decide) (fun q => ?_) (fun q => ?_)
  · have hf := xip q hf
    refine ww_iconst (pc := 30) (v := (0 : Int32)) C dX12_pin_30 (by decide) ?_
    have hf := xsj hf
    subst hf
    exact ww_zret (pc := 31) C rfl hk dX12_pin_31
  · have hf := xin q hf
    refine ww_iload_n (pc := 8) C 2 dX12_pin_8 rfl ?_
    refine ww_iconst (pc := 9) (v := (0 : Int32)) C dX12_pin_9 (by decide) ?_
    refine ww_iconst (pc := 10) (v := (2 : Int32)) C dX12_pin_10 (by decide) ?_
    obtain ⟨v5, e4, hf⟩ := xbd hf
    refine ww_callSi (pc := 11) (as := [.int x2, .int (0 : Int32), .int (2 : Int32)]) (st := []) C (k_X12_in (l := gl G) (E := gE G) (hb := gB G) (σ := σ) e4) xc_X12_213 q1473 rfl (by decide) (xst4 (Nat.le_of_ble_eq_true rfl)) xsame.rf.le xsame.rf.lim dX12_pin_11 ?_
    refine ww_if_eq (pc := 14) (tgt := 30) C dX12_pin_14 (by decide) (fun q => ?_) (fun q => ?_)
    · have hf := xip q hf
      refine ww_iconst (pc := 30) (v := (0 : Int32)) C dX12_pin_30 (by decide) ?_
      have hf := xsj hf
      subst hf
      exact ww_zret (pc := 31) C rfl hk dX12_pin_31
    · have hf := xin q hf
      refine ww_aload_n (pc := 17) C 0 dX12_pin_17 rfl ?_
      obtain ⟨z7, e6, hf⟩ := xbd hf
      refine gf_X12_40 (pc := 18) C e6 dX12_pin_18 ?_
      refine ww_bipush (pc := 21) (v := (48 : Int32)) C dX12_pin_21 (by decide) ?_
      refine ww_iload_n (pc := 23) C 1 dX12_pin_23 rfl ?_
      refine ww_iadd (pc := 24) C dX12_pin_24 ?_
      obtain ⟨v9, e8, hf⟩ := xbd hf
      refine ww_iald (pc := 25) C e8 dX12_pin_25 ?_
      refine ww_iload_n (pc := 26) C 2 dX12_pin_26 rfl ?_
      refine ww_icmp_ne (pc := 27) (tgt := 32) C dX12_pin_27 (by decide) (fun q => ?_) (fun q => ?_)
      · have hf := xin q hf
        refine ww_aload_n (pc := 32) C 0 dX12_pin_32 rfl ?_
        obtain ⟨_, e10, hf⟩ := xbd hf
        obtain ⟨σ12, e11, hf⟩ := xbd hf
        refine ww_callVv (pc := 33) (as := []) (st := []) C (k_X12_marks (l := gl G) (E := gE G) (hb := gB G) (σ := σ) e11) rfl (by decide) xc_X12_244 q1519 qp139 (xck_spec e10) rfl (by decide) (xst4 (Nat.le_of_ble_eq_true rfl)) (m_X12_marks e11).le (m_X12_marks e11).lim dX12_pin_33 ?_
        refine ww_aload_n (pc := 36) C 0 dX12_pin_36 rfl ?_
        obtain ⟨z14, e13, hf⟩ := xbd hf
        refine gf_X12_40 (pc := 37) C e13 dX12_pin_37 ?_
        refine ww_bipush (pc := 40) (v := (48 : Int32)) C dX12_pin_40 (by decide) ?_
        refine ww_iload_n (pc := 42) C 1 dX12_pin_42 rfl ?_
        refine ww_iadd (pc := 43) C dX12_pin_43 ?_
        refine ww_iload_n (pc := 44) C 2 dX12_pin_44 rfl ?_
        obtain ⟨σ16, e15, hf⟩ := xbd hf
        refine ww_iast (pc := 45) C e15 dX12_pin_45 ?_
        refine ww_iload_n (pc := 46) C 2 dX12_pin_46 rfl ?_
        refine ww_iconst (pc := 47) (v := (1 : Int32)) C dX12_pin_47 (by decide) ?_
        refine ww_icmp_ne (pc := 48) (tgt := 64) C dX12_pin_48 (by decide) (fun q => ?_) (fun q => ?_)
        · have hf := xin q hf
          refine ww_sub [0, 1, 2] rfl ?_
          exact s_X12_pin_j64 C hf hk
        · have hf := xip q hf
          refine ww_aload_n (pc := 51) C 0 dX12_pin_51 rfl ?_
          obtain ⟨z18, e17, hf⟩ := xbd hf
          refine gf_X12_40 (pc := 52) C e17 dX12_pin_52 ?_
          refine ww_bipush (pc := 55) (v := (64 : Int32)) C dX12_pin_55 (by decide) ?_
          refine ww_dup2 (pc := 57) C dX12_pin_57 rfl rfl ?_
          obtain ⟨v20, e19, hf⟩ := xbd hf
          refine ww_iald (pc := 58) C e19 dX12_pin_58 ?_
          refine ww_iconst (pc := 59) (v := (1 : Int32)) C dX12_pin_59 (by decide) ?_
          refine ww_iload_n (pc := 60) C 1 dX12_pin_60 rfl ?_
          refine ww_ishl (pc := 61) C dX12_pin_61 ?_
          refine ww_ior (pc := 62) C dX12_pin_62 ?_
          obtain ⟨σ22, e21, hf⟩ := xbd hf
          refine ww_iast (pc := 63) C e21 dX12_pin_63 ?_
          refine ww_sub [0, 1, 2] rfl ?_
          exact s_X12_pin_j64 C hf hk
      · have hf := xip q hf
        refine ww_iconst (pc := 30) (v := (0 : Int32)) C dX12_pin_30 (by decide) ?_
        have hf := xsj hf
        subst hf
        exact ww_zret (pc := 31) C rfl hk dX12_pin_31
theorem m_X12_pin {σ : XS} {r0 : Nat} {x1 : Int32} {x2 : Int32} {x : Int32 × XS} (hf : f_X12_pin σ r0 x1 x2 = some x) : xsame σ x.2 := by
  have hm := xsame.rf (σ := σ)
  obtain ⟨_, e1, hf⟩ := xbd hf
  obtain ⟨v3, e2, hf⟩ := xbd hf
  by_cases q : v3 = 0
  · have hf := xip q hf
    have hf := xsj hf
    subst hf
    exact hm
  · have hf := xin q hf
    obtain ⟨v5, e4, hf⟩ := xbd hf
    by_cases q : v5 = 0
    · have hf := xip q hf
      have hf := xsj hf
      subst hf
      exact hm
    · have hf := xin q hf
      obtain ⟨z7, e6, hf⟩ := xbd hf
      obtain ⟨v9, e8, hf⟩ := xbd hf
      by_cases q : v9 = x2
      · have hf := xip q hf
        have hf := xsj hf
        subst hf
        exact hm
      · have hf := xin q hf
        obtain ⟨_, e10, hf⟩ := xbd hf
        obtain ⟨σ12, e11, hf⟩ := xbd hf
        have hm := hm.tr (m_X12_marks e11)
        obtain ⟨z14, e13, hf⟩ := xbd hf
        obtain ⟨σ16, e15, hf⟩ := xbd hf
        have hm := hm.tr (xsI_same e15)
        by_cases q : x2 = (1 : Int32)
        · have hf := xip q hf
          obtain ⟨z18, e17, hf⟩ := xbd hf
          obtain ⟨v20, e19, hf⟩ := xbd hf
          obtain ⟨σ22, e21, hf⟩ := xbd hf
          have hm := hm.tr (xsI_same e21)
          exact hm.tr (m_X12_pin_j64 hf)
        · have hf := xin q hf
          exact hm.tr (m_X12_pin_j64 hf)
theorem k_X12_pin {l : Launch} {E : XD} {hb : Nat} {σ : XS} {r0 : Nat} {x1 : Int32} {x2 : Int32} {x : Int32 × XS} (h : f_X12_pin σ r0 x1 x2 = some x) : XM l yX12_pin cX12_pin 3 (some .boolean) 2 43 E hb [.ref (hb + r0), .int x1, .int x2] σ (some (.int x.1)) x.2 := by
  refine xm_of (by decide) (Nat.le_of_ble_eq_true rfl) (m_X12_pin h).le (fun G hG C hl hQ => ?_)
  obtain ⟨rfl, rfl, rfl, hN⟩ := hG
  exact s_X12_pin_e C h hQ
noncomputable def f_X12_place (σ : XS) (r0 : Nat) : Option Int32 := (xgI σ r0 12 16).bind fun v2 => some v2
theorem s_X12_place_e {G : XG} (C : XC G cX12_place RX12 (some .int) 1 0 0) {σ : XS} {r0 : Nat} {x : Int32} (hf : f_X12_place σ r0 = some x) (hk : XEnd G (some (.int x)) σ) : WW G 0 [(0, .ref (gB G + r0))] [] σ := by
  refine ww_aload_n (pc := 0) C 0 dX12_place_0 rfl ?_
  obtain ⟨v2, e1, hf⟩ := xbd hf
  refine gf_X12_37 (pc := 1) C e1 dX12_place_1 ?_
  have hf := xsj hf
  subst hf
  exact ww_iret (pc := 4) C hk dX12_place_4
theorem k_X12_place {l : Launch} {E : XD} {hb : Nat} {σ : XS} {r0 : Nat} {x : Int32} (h : f_X12_place σ r0 = some x) : XM l yX12_place cX12_place 1 (some .int) 0 0 E hb [.ref (hb + r0)] σ (some (.int x)) σ := by
  refine xm_of (by decide) (Nat.le_of_ble_eq_true rfl) ⟨Nat.le_refl _, Nat.le_refl _⟩ (fun G hG C hl hQ => ?_)
  obtain ⟨rfl, rfl, rfl, hN⟩ := hG
  exact s_X12_place_e C h hQ
noncomputable def f_X12_pull (σ : XS) (r0 : Nat) (x1 : Int32) (x2 : Int32) : Option (Int32 × XS) := (xck σ r0 12).bind fun _ => (f_X12_isSite σ r0 x1).bind fun v3 => if v3 = 0 then (some ((0 : Int32), σ)) else (f_X12_in x2 (-3 : Int32) (3 : Int32)).bind fun v5 => if v5 = 0 then (some ((0 : Int32), σ)) else (xgR σ r0 12 21).bind fun z7 => (xaI σ 20 z7 ((32 : Int32) + x1)).bind fun v9 => if v9 = x2 then (some ((0 : Int32), σ)) else (xck σ r0 12).bind fun _ => (f_X12_marks σ r0).bind fun σ12 => (xgR σ12 r0 12 21).bind fun z14 => (xsI σ12 20 z14 ((32 : Int32) + x1) x2).bind fun σ16 => (xpI σ16 r0 12 32 (0 : Int32)).bind fun σ18 => some ((1 : Int32), σ18)
theorem s_X12_pull_e {G : XG} (C : XC G cX12_pull RX12 (some .boolean) 3 2 43) {σ : XS} {r0 : Nat} {x1 : Int32} {x2 : Int32} {x : Int32 × XS} (hf : f_X12_pull σ r0 x1 x2 = some x) (hk : XEnd G (some (.int x.1)) x.2) : WW G 0 [(0, .ref (gB G + r0)), (1, .int x1), (2, .int x2)] [] σ := by
  refine ww_aload_n (pc := 0) C 0 dX12_pull_0 rfl ?_
  refine ww_iload_n (pc := 1) C 1 dX12_pull_1 rfl ?_
  obtain ⟨_, e1, hf⟩ := xbd hf
  obtain ⟨v3, e2, hf⟩ := xbd hf
  refine ww_callVi (pc := 2) (as := [.int x1]) (st := []) C (k_X12_isSite (l := gl G) (E := gE G) (hb := gB G) (σ := σ) e2) rfl (by decide) xc_X12_233 q1508 qp137 (xck_spec e1) rfl (by decide) (xst4 (Nat.le_of_ble_eq_true rfl)) xsame.rf.le xsame.rf.lim dX12_pull_2 ?_
  refine ww_if_eq (pc := 5) (tgt := 31) C dX12_pull_5 (by decide) (fun q => ?_) (fun q => ?_)
  · have hf := xip q hf
    refine ww_iconst (pc := 31) (v := (0 : Int32)) C dX12_pull_31 (by decide) ?_
    have hf := xsj hf
    subst hf
    exact ww_zret (pc := 32) C rfl hk dX12_pull_32
  · have hf := xin q hf
    refine ww_iload_n (pc := 8) C 2 dX12_pull_8 rfl ?_
    refine ww_bipush (pc := 9) (v := (-3 : Int32)) C dX12_pull_9 (by decide) ?_
    refine ww_iconst (pc := 11) (v := (3 : Int32)) C dX12_pull_11 (by decide) ?_
    obtain ⟨v5, e4, hf⟩ := xbd hf
    refine ww_callSi (pc := 12) (as := [.int x2, .int (-3 : Int32), .int (3 : Int32)]) (st := []) C (k_X12_in (l := gl G) (E := gE G) (hb := gB G) (σ := σ) e4) xc_X12_213 q1473 rfl (by decide) (xst4 (Nat.le_of_ble_eq_true rfl)) xsame.rf.le xsame.rf.lim dX12_pull_12 ?_
    refine ww_if_eq (pc := 15) (tgt := 31) C dX12_pull_15 (by decide) (fun q => ?_) (fun q => ?_)
    · have hf := xip q hf
      refine ww_iconst (pc := 31) (v := (0 : Int32)) C dX12_pull_31 (by decide) ?_
      have hf := xsj hf
      subst hf
      exact ww_zret (pc := 32) C rfl hk dX12_pull_32
    · have hf := xin q hf
      refine ww_aload_n (pc := 18) C 0 dX12_pull_18 rfl ?_
      obtain ⟨z7, e6, hf⟩ := xbd hf
      refine gf_X12_40 (pc := 19) C e6 dX12_pull_19 ?_
      refine ww_bipush (pc := 22) (v := (32 : Int32)) C dX12_pull_22 (by decide) ?_
      refine ww_iload_n (pc := 24) C 1 dX12_pull_24 rfl ?_
      refine ww_iadd (pc := 25) C dX12_pull_25 ?_
      obtain ⟨v9, e8, hf⟩ := xbd hf
      refine ww_iald (pc := 26) C e8 dX12_pull_26 ?_
      refine ww_iload_n (pc := 27) C 2 dX12_pull_27 rfl ?_
      refine ww_icmp_ne (pc := 28) (tgt := 33) C dX12_pull_28 (by decide) (fun q => ?_) (fun q => ?_)
      · have hf := xin q hf
        refine ww_aload_n (pc := 33) C 0 dX12_pull_33 rfl ?_
        obtain ⟨_, e10, hf⟩ := xbd hf
        obtain ⟨σ12, e11, hf⟩ := xbd hf
        refine ww_callVv (pc := 34) (as := []) (st := []) C (k_X12_marks (l := gl G) (E := gE G) (hb := gB G) (σ := σ) e11) rfl (by decide) xc_X12_244 q1519 qp139 (xck_spec e10) rfl (by decide) (xst4 (Nat.le_of_ble_eq_true rfl)) (m_X12_marks e11).le (m_X12_marks e11).lim dX12_pull_34 ?_
        refine ww_aload_n (pc := 37) C 0 dX12_pull_37 rfl ?_
        obtain ⟨z14, e13, hf⟩ := xbd hf
        refine gf_X12_40 (pc := 38) C e13 dX12_pull_38 ?_
        refine ww_bipush (pc := 41) (v := (32 : Int32)) C dX12_pull_41 (by decide) ?_
        refine ww_iload_n (pc := 43) C 1 dX12_pull_43 rfl ?_
        refine ww_iadd (pc := 44) C dX12_pull_44 ?_
        refine ww_iload_n (pc := 45) C 2 dX12_pull_45 rfl ?_
        obtain ⟨σ16, e15, hf⟩ := xbd hf
        refine ww_iast (pc := 46) C e15 dX12_pull_46 ?_
        refine ww_aload_n (pc := 47) C 0 dX12_pull_47 rfl ?_
        refine ww_iconst (pc := 48) (v := (0 : Int32)) C dX12_pull_48 (by decide) ?_
        obtain ⟨σ18, e17, hf⟩ := xbd hf
        refine pf_X12_200 (pc := 49) C (Or.inl rfl) e17 dX12_pull_49 ?_
        refine ww_iconst (pc := 52) (v := (1 : Int32)) C dX12_pull_52 (by decide) ?_
        have hf := xsj hf
        subst hf
        exact ww_zret (pc := 53) C rfl hk dX12_pull_53
      · have hf := xip q hf
        refine ww_iconst (pc := 31) (v := (0 : Int32)) C dX12_pull_31 (by decide) ?_
        have hf := xsj hf
        subst hf
        exact ww_zret (pc := 32) C rfl hk dX12_pull_32
theorem m_X12_pull {σ : XS} {r0 : Nat} {x1 : Int32} {x2 : Int32} {x : Int32 × XS} (hf : f_X12_pull σ r0 x1 x2 = some x) : xsame σ x.2 := by
  have hm := xsame.rf (σ := σ)
  obtain ⟨_, e1, hf⟩ := xbd hf
  obtain ⟨v3, e2, hf⟩ := xbd hf
  by_cases q : v3 = 0
  · have hf := xip q hf
    have hf := xsj hf
    subst hf
    exact hm
  · have hf := xin q hf
    obtain ⟨v5, e4, hf⟩ := xbd hf
    by_cases q : v5 = 0
    · have hf := xip q hf
      have hf := xsj hf
      subst hf
      exact hm
    · have hf := xin q hf
      obtain ⟨z7, e6, hf⟩ := xbd hf
      obtain ⟨v9, e8, hf⟩ := xbd hf
      by_cases q : v9 = x2
      · have hf := xip q hf
        have hf := xsj hf
        subst hf
        exact hm
      · have hf := xin q hf
        obtain ⟨_, e10, hf⟩ := xbd hf
        obtain ⟨σ12, e11, hf⟩ := xbd hf
        have hm := hm.tr (m_X12_marks e11)
        obtain ⟨z14, e13, hf⟩ := xbd hf
        obtain ⟨σ16, e15, hf⟩ := xbd hf
        have hm := hm.tr (xsI_same e15)
        obtain ⟨σ18, e17, hf⟩ := xbd hf
        have hm := hm.tr (xpI_same e17)
        have hf := xsj hf
        subst hf
        exact hm
theorem k_X12_pull {l : Launch} {E : XD} {hb : Nat} {σ : XS} {r0 : Nat} {x1 : Int32} {x2 : Int32} {x : Int32 × XS} (h : f_X12_pull σ r0 x1 x2 = some x) : XM l yX12_pull cX12_pull 3 (some .boolean) 2 43 E hb [.ref (hb + r0), .int x1, .int x2] σ (some (.int x.1)) x.2 := by
  refine xm_of (by decide) (Nat.le_of_ble_eq_true rfl) (m_X12_pull h).le (fun G hG C hl hQ => ?_)
  obtain ⟨rfl, rfl, rfl, hN⟩ := hG
  exact s_X12_pull_e C h hQ
end
section
noncomputable def f_X12_read_b286 (r0 : Nat) : Int32 × XS → Option ((Int32 × XS) ⊕ (Int32 × XS)) := fun a => match a with
  | (x1, σ) => if (3 : Int32) ≤ x1 then (((xpI σ r0 12 32 (0 : Int32)).bind fun σ2 => some ((0 : Int32), σ2)).map .inr) else (xgR σ r0 12 31).bind fun z2 => (xsI σ 22 z2 x1 (0 : Int32)).bind fun σ4 => some (.inl (x1 + (1 : Int32), σ4))
noncomputable def f_X12_read_b239 (r0 : Nat) : Int32 × XS → Option ((Int32 × XS) ⊕ (Int32 × XS)) := fun a => match a with
  | (x1, σ) => (xck σ r0 12).bind fun _ => (f_X12_sites σ r0).bind fun v3 => if v3 ≤ x1 then (((xpI σ r0 12 29 (0 : Int32)).bind fun σ5 => xloop (f_X12_read_b286 r0) ((0 : Int32), σ5)).map .inr) else (xgR σ r0 12 21).bind fun z5 => (xaI σ 20 z5 ((48 : Int32) + x1)).bind fun v7 => if v7 = (1 : Int32) then ((xgR σ r0 12 21).bind fun z9 => (xaI σ 20 z9 (64 : Int32)).bind fun v11 => (xsI σ 20 z9 (64 : Int32) (v11 ||| ((1 : Int32) <<< (x1 &&& 31)))).bind fun σ13 => some (.inl (x1 + (1 : Int32), σ13))) else some (.inl (x1 + (1 : Int32), σ))
noncomputable def f_X12_read_b205 (r0 : Nat) : Int32 × XS → Option ((Int32 × XS) ⊕ (Int32 × XS)) := fun a => match a with
  | (x1, σ) => if (66 : Int32) ≤ x1 then (((xgR σ r0 12 21).bind fun z2 => (xsI σ 20 z2 (64 : Int32) (0 : Int32)).bind fun σ4 => xloop (f_X12_read_b239 r0) ((0 : Int32), σ4)).map .inr) else (xgR σ r0 12 21).bind fun z2 => (xgR σ r0 12 26).bind fun z4 => (xaI σ 20 z4 x1).bind fun v6 => (xsI σ 20 z2 x1 v6).bind fun σ8 => some (.inl (x1 + (1 : Int32), σ8))
noncomputable def f_X12_read_j144 (σ : XS) (r0 : Nat) (t0 : Nat) (t1 : Int32) : Option (Int32 × XS) := (xpI σ t0 12 16 t1).bind fun σ2 => (xgI σ2 r0 12 12).bind fun v4 => if v4 ≤ 0 then ((xgI σ2 r0 12 14).bind fun v6 => if v6 ≤ 0 then ((xgI σ2 r0 12 22).bind fun v8 => (xpI σ2 r0 12 17 v8).bind fun σ10 => (xgI σ10 r0 12 23).bind fun v12 => (xpI σ10 r0 12 18 v12).bind fun σ14 => (xgI σ14 r0 12 24).bind fun v16 => (xbz v16).bind fun _ => (xpI σ14 r0 12 19 v16).bind fun σ19 => (xgI σ19 r0 12 25).bind fun v21 => (xbz v21).bind fun _ => (xpI σ19 r0 12 20 v21).bind fun σ24 => xloop (f_X12_read_b205 r0) ((0 : Int32), σ24)) else (xgI σ2 r0 12 14).bind fun v8 => some (v8, σ2)) else (xgI σ2 r0 12 12).bind fun v6 => some (v6, σ2)
noncomputable def f_X12_read_j114 (σ : XS) (r0 : Nat) : Option (Int32 × XS) := (xgI σ r0 12 12).bind fun v2 => if v2 ≤ 0 then ((xgI σ r0 12 14).bind fun v4 => if v4 ≤ 0 then (f_X12_read_j144 σ r0 r0 (-1 : Int32)) else (xgI σ r0 12 15).bind fun v6 => f_X12_read_j144 σ r0 r0 v6) else (xgI σ r0 12 13).bind fun v4 => f_X12_read_j144 σ r0 r0 v4
noncomputable def f_X12_read_j103 (σ : XS) (r0 : Nat) : Option (Int32 × XS) := (xgI σ r0 12 12).bind fun v2 => if v2 = 0 then ((xck σ r0 12).bind fun _ => (f_X12_means σ r0).bind fun σ5 => f_X12_read_j114 σ5 r0) else f_X12_read_j114 σ r0
noncomputable def f_X12_read_b81 (r0 : Nat) : XS → Option ((XS) ⊕ (Int32 × XS)) := fun a => match a with
  | σ => (xgI σ r0 12 12).bind fun v2 => if v2 = 0 then ((xck σ r0 12).bind fun _ => (f_X12_is σ r0 (0 : Int32)).bind fun v5 => if v5 = 0 then ((xck σ r0 12).bind fun _ => (f_X12_line σ r0).bind fun σ8 => some (.inl σ8)) else (f_X12_read_j103 σ r0).map .inr) else (f_X12_read_j103 σ r0).map .inr
noncomputable def f_X12_read_b10 (r0 : Nat) : Int32 × XS → Option ((Int32 × XS) ⊕ (Int32 × XS)) := fun a => match a with
  | (x1, σ) => (xgI σ r0 12 4).bind fun v2 => if v2 ≤ x1 then (((xpI σ r0 12 2 (0 : Int32)).bind fun σ4 => (xck σ4 r0 12).bind fun _ => (f_X12_cutsText σ4 r0).bind fun σ7 => (xpI σ7 r0 12 11 (0 : Int32)).bind fun σ9 => (xpI σ9 r0 12 12 (0 : Int32)).bind fun σ11 => (xpI σ11 r0 12 14 (0 : Int32)).bind fun σ13 => (xck σ13 r0 12).bind fun _ => (f_X12_must σ13 r0 (20 : Int32)).bind fun σ16 => (xck σ16 r0 12).bind fun _ => (f_X12_must σ16 r0 (2 : Int32)).bind fun σ19 => (xck σ19 r0 12).bind fun _ => (f_X12_must σ19 r0 (2 : Int32)).bind fun σ22 => (xck σ22 r0 12).bind fun _ => (f_X12_must σ22 r0 (4 : Int32)).bind fun σ25 => xloop (f_X12_read_b81 r0) σ25).map .inr) else (xgR σ r0 12 3).bind fun z4 => (xgR σ r0 12 1).bind fun z6 => (xaI σ 21 z6 x1).bind fun v8 => (xsI σ 21 z4 x1 (vp_nar .byte v8)).bind fun σ10 => some (.inl (x1 + (1 : Int32), σ10))
noncomputable def f_X12_read (σ : XS) (r0 : Nat) : Option (Int32 × XS) := (xgI σ r0 12 2).bind fun v2 => (xpI σ r0 12 4 v2).bind fun σ4 => xloop (f_X12_read_b10 r0) ((0 : Int32), σ4)
theorem m_X12_read_l286 {r0 : Nat} {a : Int32 × XS} {x : Int32 × XS} (hf : xloop (f_X12_read_b286 r0) a = some x) : xsame a.2 x.2 := by
  refine xloop_ind (P := fun a => xsame a.2 x.2) (fun a y hf hc he => ?_) hf
  obtain ⟨x1, σ⟩ := a
  have hy : (∀ a' : Int32 × XS, y = .inl a' → xsame σ a'.2) ∧ (∀ b1 : Int32 × XS, y = .inr b1 → xsame σ b1.2) := by
    have hm := xsame.rf (σ := σ)
    by_cases q : (3 : Int32) ≤ x1
    · have hf := xip q hf
      obtain ⟨b0, hg, e9⟩ := xmj hf
      subst e9
      have hf := hg
      refine ⟨fun a' e => xnc2 e, fun b e => ?_⟩
      have h9 := Sum.inr.inj e
      subst h9
      obtain ⟨σ2, e1, hf⟩ := xbd hf
      have hm := hm.tr (xpI_same e1)
      have hf := xsj hf
      subst hf
      exact hm
    · have hf := xin q hf
      obtain ⟨z2, e1, hf⟩ := xbd hf
      obtain ⟨σ4, e3, hf⟩ := xbd hf
      have hm := hm.tr (xsI_same e3)
      have hf := xsj hf
      subst hf
      exact ⟨fun a' e => (by have h9 := Sum.inl.inj e; subst h9; exact hm), fun b e => xnc1 e⟩
  cases y with
  | inl a' =>
    have h1 := hc a' rfl
    have hm := hy.1 a' rfl
    exact hm.tr (h1)
  | inr b =>
    have h1 := he b rfl
    subst h1
    exact hy.2 _ rfl
theorem s_X12_read_l286 {G : XG} (C : XC G cX12_read RX12 (some .int) 2 5 103) {r0 : Nat} {a : Int32 × XS} {x : Int32 × XS} (hf : xloop (f_X12_read_b286 r0) a = some x) (hk : XEnd G (some (.int x.1)) x.2) : WW G 286 [(0, .ref (gB G + r0)), (1, .int a.1)] [] a.2 := by
  refine xloop_ind (P := fun a => WW G 286 [(0, .ref (gB G + r0)), (1, .int a.1)] [] a.2) (fun a y hf hc he => ?_) hf
  obtain ⟨x1, σ⟩ := a
  have hk : (∀ a' : Int32 × XS, y = .inl a' → WW G 286 [(0, .ref (gB G + r0)), (1, .int a'.1)] [] a'.2) ∧ (∀ b1 : Int32 × XS, y = .inr b1 → XEnd G (some (.int b1.1)) b1.2) := ⟨hc, fun b e => by have h9 := he b e; subst h9; exact hk⟩
  refine ww_iload_n (pc := 286) C 1 dX12_read_286 rfl ?_
  refine ww_iconst (pc := 287) (v := (3 : Int32)) C dX12_read_287 (by decide) ?_
  refine ww_icmp_ge (pc := 288) (tgt := 304) C dX12_read_288 (by decide) (fun q => ?_) (fun q => ?_)
  · have hf := xip q hf
    obtain ⟨b0, hg, e9⟩ := xmj hf
    subst e9
    have hf := hg
    have hk := hk.2 _ rfl
    refine ww_aload_n (pc := 304) C 0 dX12_read_304 rfl ?_
    refine ww_iconst (pc := 305) (v := (0 : Int32)) C dX12_read_305 (by decide) ?_
    obtain ⟨σ2, e1, hf⟩ := xbd hf
    refine pf_X12_200 (pc := 306) C (Or.inl rfl) e1 dX12_read_306 ?_
    refine ww_iconst (pc := 309) (v := (0 : Int32)) C dX12_read_309 (by decide) ?_
    have hf := xsj hf
    subst hf
    exact ww_iret (pc := 310) C hk dX12_read_310
  · have hf := xin q hf
    refine ww_aload_n (pc := 291) C 0 dX12_read_291 rfl ?_
    obtain ⟨z2, e1, hf⟩ := xbd hf
    refine gf_X12_52 (pc := 292) C e1 dX12_read_292 ?_
    refine ww_iload_n (pc := 295) C 1 dX12_read_295 rfl ?_
    refine ww_iconst (pc := 296) (v := (0 : Int32)) C dX12_read_296 (by decide) ?_
    obtain ⟨σ4, e3, hf⟩ := xbd hf
    refine ww_zast (pc := 297) C rfl e3 dX12_read_297 ?_
    refine ww_iinc (pc := 298) (v := x1 + (1 : Int32)) (lv' := [(1, .int (x1 + (1 : Int32))), (0, .ref (gB G + r0))]) C 1 dX12_read_298 rfl (congrArg (fun z => x1 + z) (show Int32.ofInt (1) = (1 : Int32) by decide)) (by decide) rfl ?_
    refine ww_goto (pc := 301) (tgt := 286) C dX12_read_301 (by decide) ?_
    have hf := xsj hf
    subst hf
    refine ww_sub [1, 0] rfl ?_
    exact hk.1 (x1 + (1 : Int32), σ4) rfl
theorem m_X12_read_l239 {r0 : Nat} {a : Int32 × XS} {x : Int32 × XS} (hf : xloop (f_X12_read_b239 r0) a = some x) : xsame a.2 x.2 := by
  refine xloop_ind (P := fun a => xsame a.2 x.2) (fun a y hf hc he => ?_) hf
  obtain ⟨x1, σ⟩ := a
  have hy : (∀ a' : Int32 × XS, y = .inl a' → xsame σ a'.2) ∧ (∀ b1 : Int32 × XS, y = .inr b1 → xsame σ b1.2) := by
    have hm := xsame.rf (σ := σ)
    obtain ⟨_, e1, hf⟩ := xbd hf
    obtain ⟨v3, e2, hf⟩ := xbd hf
    by_cases q : v3 ≤ x1
    · have hf := xip q hf
      obtain ⟨b0, hg, e9⟩ := xmj hf
      subst e9
      have hf := hg
      refine ⟨fun a' e => xnc2 e, fun b e => ?_⟩
      have h9 := Sum.inr.inj e
      subst h9
      obtain ⟨σ5, e4, hf⟩ := xbd hf
      have hm := hm.tr (xpI_same e4)
      exact hm.tr (m_X12_read_l286 (a := ((0 : Int32), σ5)) hf)
    · have hf := xin q hf
      obtain ⟨z5, e4, hf⟩ := xbd hf
      obtain ⟨v7, e6, hf⟩ := xbd hf
      by_cases q : v7 = (1 : Int32)
      · have hf := xip q hf
        obtain ⟨z9, e8, hf⟩ := xbd hf
        obtain ⟨v11, e10, hf⟩ := xbd hf
        obtain ⟨σ13, e12, hf⟩ := xbd hf
        have hm := hm.tr (xsI_same e12)
        have hf := xsj hf
        subst hf
        exact ⟨fun a' e => (by have h9 := Sum.inl.inj e; subst h9; exact hm), fun b e => xnc1 e⟩
      · have hf := xin q hf
        have hf := xsj hf
        subst hf
        exact ⟨fun a' e => (by have h9 := Sum.inl.inj e; subst h9; exact hm), fun b e => xnc1 e⟩
  cases y with
  | inl a' =>
    have h1 := hc a' rfl
    have hm := hy.1 a' rfl
    exact hm.tr (h1)
  | inr b =>
    have h1 := he b rfl
    subst h1
    exact hy.2 _ rfl
theorem s_X12_read_l239 {G : XG} (C : XC G cX12_read RX12 (some .int) 2 5 103) {r0 : Nat} {a : Int32 × XS} {x : Int32 × XS} (hf : xloop (f_X12_read_b239 r0) a = some x) (hk : XEnd G (some (.int x.1)) x.2) : WW G 239 [(0, .ref (gB G + r0)), (1, .int a.1)] [] a.2 := by
  refine xloop_ind (P := fun a => WW G 239 [(0, .ref (gB G + r0)), (1, .int a.1)] [] a.2) (fun a y hf hc he => ?_) hf
  obtain ⟨x1, σ⟩ := a
  have hk : (∀ a' : Int32 × XS, y = .inl a' → WW G 239 [(0, .ref (gB G + r0)), (1, .int a'.1)] [] a'.2) ∧ (∀ b1 : Int32 × XS, y = .inr b1 → XEnd G (some (.int b1.1)) b1.2) := ⟨hc, fun b e => by have h9 := he b e; subst h9; exact hk⟩
  refine ww_iload_n (pc := 239) C 1 dX12_read_239 rfl ?_
  refine ww_aload_n (pc := 240) C 0 dX12_read_240 rfl ?_
  obtain ⟨_, e1, hf⟩ := xbd hf
  obtain ⟨v3, e2, hf⟩ := xbd hf
  refine ww_callVi (pc := 241) (as := []) (st := [.int x1]) C (k_X12_sites (l := gl G) (E := gE G) (hb := gB G) (σ := σ) e2) rfl (by decide) xc_X12_193 q1496 qp136 (xck_spec e1) rfl (by decide) (xst4 (Nat.le_of_ble_eq_true rfl)) xsame.rf.le xsame.rf.lim dX12_read_241 ?_
  refine ww_icmp_ge (pc := 244) (tgt := 279) C dX12_read_244 (by decide) (fun q => ?_) (fun q => ?_)
  · have hf := xip q hf
    obtain ⟨b0, hg, e9⟩ := xmj hf
    subst e9
    have hf := hg
    have hk := hk.2 _ rfl
    refine ww_aload_n (pc := 279) C 0 dX12_read_279 rfl ?_
    refine ww_iconst (pc := 280) (v := (0 : Int32)) C dX12_read_280 (by decide) ?_
    obtain ⟨σ5, e4, hf⟩ := xbd hf
    refine pf_X12_197 (pc := 281) C e4 dX12_read_281 ?_
    refine ww_iconst (pc := 284) (v := (0 : Int32)) C dX12_read_284 (by decide) ?_
    refine ww_istore_n (pc := 285) (lv' := [(1, .int (0 : Int32)), (0, .ref (gB G + r0))]) C dX12_read_285 (by decide) rfl ?_
    refine ww_sub [1, 0] rfl ?_
    exact s_X12_read_l286 C (a := ((0 : Int32), σ5)) hf hk
  · have hf := xin q hf
    refine ww_aload_n (pc := 247) C 0 dX12_read_247 rfl ?_
    obtain ⟨z5, e4, hf⟩ := xbd hf
    refine gf_X12_40 (pc := 248) C e4 dX12_read_248 ?_
    refine ww_bipush (pc := 251) (v := (48 : Int32)) C dX12_read_251 (by decide) ?_
    refine ww_iload_n (pc := 253) C 1 dX12_read_253 rfl ?_
    refine ww_iadd (pc := 254) C dX12_read_254 ?_
    obtain ⟨v7, e6, hf⟩ := xbd hf
    refine ww_iald (pc := 255) C e6 dX12_read_255 ?_
    refine ww_iconst (pc := 256) (v := (1 : Int32)) C dX12_read_256 (by decide) ?_
    refine ww_icmp_ne (pc := 257) (tgt := 273) C dX12_read_257 (by decide) (fun q => ?_) (fun q => ?_)
    · have hf := xin q hf
      refine ww_iinc (pc := 273) (v := x1 + (1 : Int32)) (lv' := [(1, .int (x1 + (1 : Int32))), (0, .ref (gB G + r0))]) C 1 dX12_read_273 rfl (congrArg (fun z => x1 + z) (show Int32.ofInt (1) = (1 : Int32) by decide)) (by decide) rfl ?_
      refine ww_goto (pc := 276) (tgt := 239) C dX12_read_276 (by decide) ?_
      have hf := xsj hf
      subst hf
      refine ww_sub [1, 0] rfl ?_
      exact hk.1 (x1 + (1 : Int32), σ) rfl
    · have hf := xip q hf
      refine ww_aload_n (pc := 260) C 0 dX12_read_260 rfl ?_
      obtain ⟨z9, e8, hf⟩ := xbd hf
      refine gf_X12_40 (pc := 261) C e8 dX12_read_261 ?_
      refine ww_bipush (pc := 264) (v := (64 : Int32)) C dX12_read_264 (by decide) ?_
      refine ww_dup2 (pc := 266) C dX12_read_266 rfl rfl ?_
      obtain ⟨v11, e10, hf⟩ := xbd hf
      refine ww_iald (pc := 267) C e10 dX12_read_267 ?_
      refine ww_iconst (pc := 268) (v := (1 : Int32)) C dX12_read_268 (by decide) ?_
      refine ww_iload_n (pc := 269) C 1 dX12_read_269 rfl ?_
      refine ww_ishl (pc := 270) C dX12_read_270 ?_
      refine ww_ior (pc := 271) C dX12_read_271 ?_
      obtain ⟨σ13, e12, hf⟩ := xbd hf
      refine ww_iast (pc := 272) C e12 dX12_read_272 ?_
      refine ww_iinc (pc := 273) (v := x1 + (1 : Int32)) (lv' := [(1, .int (x1 + (1 : Int32))), (0, .ref (gB G + r0))]) C 1 dX12_read_273 rfl (congrArg (fun z => x1 + z) (show Int32.ofInt (1) = (1 : Int32) by decide)) (by decide) rfl ?_
      refine ww_goto (pc := 276) (tgt := 239) C dX12_read_276 (by decide) ?_
      have hf := xsj hf
      subst hf
      refine ww_sub [1, 0] rfl ?_
      exact hk.1 (x1 + (1 : Int32), σ13) rfl
theorem m_X12_read_l205 {r0 : Nat} {a : Int32 × XS} {x : Int32 × XS} (hf : xloop (f_X12_read_b205 r0) a = some x) : xsame a.2 x.2 := by
  refine xloop_ind (P := fun a => xsame a.2 x.2) (fun a y hf hc he => ?_) hf
  obtain ⟨x1, σ⟩ := a
  have hy : (∀ a' : Int32 × XS, y = .inl a' → xsame σ a'.2) ∧ (∀ b1 : Int32 × XS, y = .inr b1 → xsame σ b1.2) := by
    have hm := xsame.rf (σ := σ)
    by_cases q : (66 : Int32) ≤ x1
    · have hf := xip q hf
      obtain ⟨b0, hg, e9⟩ := xmj hf
      subst e9
      have hf := hg
      refine ⟨fun a' e => xnc2 e, fun b e => ?_⟩
      have h9 := Sum.inr.inj e
      subst h9
      obtain ⟨z2, e1, hf⟩ := xbd hf
      obtain ⟨σ4, e3, hf⟩ := xbd hf
      have hm := hm.tr (xsI_same e3)
      exact hm.tr (m_X12_read_l239 (a := ((0 : Int32), σ4)) hf)
    · have hf := xin q hf
      obtain ⟨z2, e1, hf⟩ := xbd hf
      obtain ⟨z4, e3, hf⟩ := xbd hf
      obtain ⟨v6, e5, hf⟩ := xbd hf
      obtain ⟨σ8, e7, hf⟩ := xbd hf
      have hm := hm.tr (xsI_same e7)
      have hf := xsj hf
      subst hf
      exact ⟨fun a' e => (by have h9 := Sum.inl.inj e; subst h9; exact hm), fun b e => xnc1 e⟩
  cases y with
  | inl a' =>
    have h1 := hc a' rfl
    have hm := hy.1 a' rfl
    exact hm.tr (h1)
  | inr b =>
    have h1 := he b rfl
    subst h1
    exact hy.2 _ rfl
theorem s_X12_read_l205 {G : XG} (C : XC G cX12_read RX12 (some .int) 2 5 103) {r0 : Nat} {a : Int32 × XS} {x : Int32 × XS} (hf : xloop (f_X12_read_b205 r0) a = some x) (hk : XEnd G (some (.int x.1)) x.2) : WW G 205 [(0, .ref (gB G + r0)), (1, .int a.1)] [] a.2 := by
  refine xloop_ind (P := fun a => WW G 205 [(0, .ref (gB G + r0)), (1, .int a.1)] [] a.2) (fun a y hf hc he => ?_) hf
  obtain ⟨x1, σ⟩ := a
  have hk : (∀ a' : Int32 × XS, y = .inl a' → WW G 205 [(0, .ref (gB G + r0)), (1, .int a'.1)] [] a'.2) ∧ (∀ b1 : Int32 × XS, y = .inr b1 → XEnd G (some (.int b1.1)) b1.2) := ⟨hc, fun b e => by have h9 := he b e; subst h9; exact hk⟩
  refine ww_iload_n (pc := 205) C 1 dX12_read_205 rfl ?_
  refine ww_bipush (pc := 206) (v := (66 : Int32)) C dX12_read_206 (by decide) ?_
  refine ww_icmp_ge (pc := 208) (tgt := 229) C dX12_read_208 (by decide) (fun q => ?_) (fun q => ?_)
  · have hf := xip q hf
    obtain ⟨b0, hg, e9⟩ := xmj hf
    subst e9
    have hf := hg
    have hk := hk.2 _ rfl
    refine ww_aload_n (pc := 229) C 0 dX12_read_229 rfl ?_
    obtain ⟨z2, e1, hf⟩ := xbd hf
    refine gf_X12_40 (pc := 230) C e1 dX12_read_230 ?_
    refine ww_bipush (pc := 233) (v := (64 : Int32)) C dX12_read_233 (by decide) ?_
    refine ww_iconst (pc := 235) (v := (0 : Int32)) C dX12_read_235 (by decide) ?_
    obtain ⟨σ4, e3, hf⟩ := xbd hf
    refine ww_iast (pc := 236) C e3 dX12_read_236 ?_
    refine ww_iconst (pc := 237) (v := (0 : Int32)) C dX12_read_237 (by decide) ?_
    refine ww_istore_n (pc := 238) (lv' := [(1, .int (0 : Int32)), (0, .ref (gB G + r0))]) C dX12_read_238 (by decide) rfl ?_
    refine ww_sub [1, 0] rfl ?_
    exact s_X12_read_l239 C (a := ((0 : Int32), σ4)) hf hk
  · have hf := xin q hf
    refine ww_aload_n (pc := 211) C 0 dX12_read_211 rfl ?_
    obtain ⟨z2, e1, hf⟩ := xbd hf
    refine gf_X12_40 (pc := 212) C e1 dX12_read_212 ?_
    refine ww_iload_n (pc := 215) C 1 dX12_read_215 rfl ?_
    refine ww_aload_n (pc := 216) C 0 dX12_read_216 rfl ?_
    obtain ⟨z4, e3, hf⟩ := xbd hf
    refine gf_X12_43 (pc := 217) C e3 dX12_read_217 ?_
    refine ww_iload_n (pc := 220) C 1 dX12_read_220 rfl ?_
    obtain ⟨v6, e5, hf⟩ := xbd hf
    refine ww_iald (pc := 221) C e5 dX12_read_221 ?_
    obtain ⟨σ8, e7, hf⟩ := xbd hf
    refine ww_iast (pc := 222) C e7 dX12_read_222 ?_
    refine ww_iinc (pc := 223) (v := x1 + (1 : Int32)) (lv' := [(1, .int (x1 + (1 : Int32))), (0, .ref (gB G + r0))]) C 1 dX12_read_223 rfl (congrArg (fun z => x1 + z) (show Int32.ofInt (1) = (1 : Int32) by decide)) (by decide) rfl ?_
    refine ww_goto (pc := 226) (tgt := 205) C dX12_read_226 (by decide) ?_
    have hf := xsj hf
    subst hf
    refine ww_sub [1, 0] rfl ?_
    exact hk.1 (x1 + (1 : Int32), σ8) rfl
theorem s_X12_read_j144 {G : XG} (C : XC G cX12_read RX12 (some .int) 2 5 103) {σ : XS} {r0 : Nat} {t0 : Nat} {t1 : Int32} {x : Int32 × XS} (hf : f_X12_read_j144 σ r0 t0 t1 = some x) (hk : XEnd G (some (.int x.1)) x.2) : WW G 144 [(0, .ref (gB G + r0))] [.int t1, .ref (gB G + t0)] σ := by
  obtain ⟨σ2, e1, hf⟩ := xbd hf
  refine pf_X12_37 (pc := 144) C e1 dX12_read_144 ?_
  refine ww_aload_n (pc := 147) C 0 dX12_read_147 rfl ?_
  obtain ⟨v4, e3, hf⟩ := xbd hf
  refine gf_X12_132 (pc := 148) C e3 dX12_read_148 ?_
  refine ww_if_le (pc := 151) (tgt := 159) C dX12_read_151 (by decide) (fun q => ?_) (fun q => ?_)
  · have hf := xip q hf
    refine ww_aload_n (pc := 159) C 0 dX12_read_159 rfl ?_
    obtain ⟨v6, e5, hf⟩ := xbd hf
    refine gf_X12_141 (pc := 160) C e5 dX12_read_160 ?_
    refine ww_if_le (pc := 163) (tgt := 171) C dX12_read_163 (by decide) (fun q => ?_) (fun q => ?_)
    · have hf := xip q hf
      refine ww_aload_n (pc := 171) C 0 dX12_read_171 rfl ?_
      refine ww_aload_n (pc := 172) C 0 dX12_read_172 rfl ?_
      obtain ⟨v8, e7, hf⟩ := xbd hf
      refine gf_X12_168 (pc := 173) C e7 dX12_read_173 ?_
      obtain ⟨σ10, e9, hf⟩ := xbd hf
      refine pf_X12_171 (pc := 176) C e9 dX12_read_176 ?_
      refine ww_aload_n (pc := 179) C 0 dX12_read_179 rfl ?_
      refine ww_aload_n (pc := 180) C 0 dX12_read_180 rfl ?_
      obtain ⟨v12, e11, hf⟩ := xbd hf
      refine gf_X12_174 (pc := 181) C e11 dX12_read_181 ?_
      obtain ⟨σ14, e13, hf⟩ := xbd hf
      refine pf_X12_177 (pc := 184) C e13 dX12_read_184 ?_
      refine ww_aload_n (pc := 187) C 0 dX12_read_187 rfl ?_
      refine ww_aload_n (pc := 188) C 0 dX12_read_188 rfl ?_
      obtain ⟨v16, e15, hf⟩ := xbd hf
      refine gf_X12_180 (pc := 189) C e15 dX12_read_189 ?_
      obtain ⟨_, e17, hf⟩ := xbd hf
      obtain ⟨σ19, e18, hf⟩ := xbd hf
      refine pf_X12_184 (pc := 192) C (xbz_spec e17) e18 dX12_read_192 ?_
      refine ww_aload_n (pc := 195) C 0 dX12_read_195 rfl ?_
      refine ww_aload_n (pc := 196) C 0 dX12_read_196 rfl ?_
      obtain ⟨v21, e20, hf⟩ := xbd hf
      refine gf_X12_187 (pc := 197) C e20 dX12_read_197 ?_
      obtain ⟨_, e22, hf⟩ := xbd hf
      obtain ⟨σ24, e23, hf⟩ := xbd hf
      refine pf_X12_190 (pc := 200) C (xbz_spec e22) e23 dX12_read_200 ?_
      refine ww_iconst (pc := 203) (v := (0 : Int32)) C dX12_read_203 (by decide) ?_
      refine ww_istore_n (pc := 204) (lv' := [(1, .int (0 : Int32)), (0, .ref (gB G + r0))]) C dX12_read_204 (by decide) rfl ?_
      refine ww_sub [1, 0] rfl ?_
      exact s_X12_read_l205 C (a := ((0 : Int32), σ24)) hf hk
    · have hf := xin q hf
      refine ww_aload_n (pc := 166) C 0 dX12_read_166 rfl ?_
      obtain ⟨v8, e7, hf⟩ := xbd hf
      refine gf_X12_141 (pc := 167) C e7 dX12_read_167 ?_
      have hf := xsj hf
      subst hf
      exact ww_iret (pc := 170) C hk dX12_read_170
  · have hf := xin q hf
    refine ww_aload_n (pc := 154) C 0 dX12_read_154 rfl ?_
    obtain ⟨v6, e5, hf⟩ := xbd hf
    refine gf_X12_132 (pc := 155) C e5 dX12_read_155 ?_
    have hf := xsj hf
    subst hf
    exact ww_iret (pc := 158) C hk dX12_read_158
theorem m_X12_read_j144 {σ : XS} {r0 : Nat} {t0 : Nat} {t1 : Int32} {x : Int32 × XS} (hf : f_X12_read_j144 σ r0 t0 t1 = some x) : xsame σ x.2 := by
  have hm := xsame.rf (σ := σ)
  obtain ⟨σ2, e1, hf⟩ := xbd hf
  have hm := hm.tr (xpI_same e1)
  obtain ⟨v4, e3, hf⟩ := xbd hf
  by_cases q : v4 ≤ 0
  · have hf := xip q hf
    obtain ⟨v6, e5, hf⟩ := xbd hf
    by_cases q : v6 ≤ 0
    · have hf := xip q hf
      obtain ⟨v8, e7, hf⟩ := xbd hf
      obtain ⟨σ10, e9, hf⟩ := xbd hf
      have hm := hm.tr (xpI_same e9)
      obtain ⟨v12, e11, hf⟩ := xbd hf
      obtain ⟨σ14, e13, hf⟩ := xbd hf
      have hm := hm.tr (xpI_same e13)
      obtain ⟨v16, e15, hf⟩ := xbd hf
      obtain ⟨_, e17, hf⟩ := xbd hf
      obtain ⟨σ19, e18, hf⟩ := xbd hf
      have hm := hm.tr (xpI_same e18)
      obtain ⟨v21, e20, hf⟩ := xbd hf
      obtain ⟨_, e22, hf⟩ := xbd hf
      obtain ⟨σ24, e23, hf⟩ := xbd hf
      have hm := hm.tr (xpI_same e23)
      exact hm.tr (m_X12_read_l205 (a := ((0 : Int32), σ24)) hf)
    · have hf := xin q hf
      obtain ⟨v8, e7, hf⟩ := xbd hf
      have hf := xsj hf
      subst hf
      exact hm
  · have hf := xin q hf
    obtain ⟨v6, e5, hf⟩ := xbd hf
    have hf := xsj hf
    subst hf
    exact hm
theorem s_X12_read_j114 {G : XG} (C : XC G cX12_read RX12 (some .int) 2 5 103) {σ : XS} {r0 : Nat} {x : Int32 × XS} (hf : f_X12_read_j114 σ r0 = some x) (hk : XEnd G (some (.int x.1)) x.2) : WW G 114 [(0, .ref (gB G + r0))] [] σ := by
  refine ww_aload_n (pc := 114) C 0 dX12_read_114 rfl ?_
  refine ww_aload_n (pc := 115) C 0 dX12_read_115 rfl ?_
  obtain ⟨v2, e1, hf⟩ := xbd hf
  refine gf_X12_132 (pc := 116) C e1 dX12_read_116 ?_
  refine ww_if_le (pc := 119) (tgt := 129) C dX12_read_119 (by decide) (fun q => ?_) (fun q => ?_)
  · have hf := xip q hf
    refine ww_aload_n (pc := 129) C 0 dX12_read_129 rfl ?_
    obtain ⟨v4, e3, hf⟩ := xbd hf
    refine gf_X12_141 (pc := 130) C e3 dX12_read_130 ?_
    refine ww_if_le (pc := 133) (tgt := 143) C dX12_read_133 (by decide) (fun q => ?_) (fun q => ?_)
    · have hf := xip q hf
      refine ww_iconst (pc := 143) (v := (-1 : Int32)) C dX12_read_143 (by decide) ?_
      refine ww_sub [0] rfl ?_
      exact s_X12_read_j144 C hf hk
    · have hf := xin q hf
      refine ww_aload_n (pc := 136) C 0 dX12_read_136 rfl ?_
      obtain ⟨v6, e5, hf⟩ := xbd hf
      refine gf_X12_144 (pc := 137) C e5 dX12_read_137 ?_
      refine ww_goto (pc := 140) (tgt := 144) C dX12_read_140 (by decide) ?_
      refine ww_sub [0] rfl ?_
      exact s_X12_read_j144 C hf hk
  · have hf := xin q hf
    refine ww_aload_n (pc := 122) C 0 dX12_read_122 rfl ?_
    obtain ⟨v4, e3, hf⟩ := xbd hf
    refine gf_X12_138 (pc := 123) C e3 dX12_read_123 ?_
    refine ww_goto (pc := 126) (tgt := 144) C dX12_read_126 (by decide) ?_
    refine ww_sub [0] rfl ?_
    exact s_X12_read_j144 C hf hk
theorem m_X12_read_j114 {σ : XS} {r0 : Nat} {x : Int32 × XS} (hf : f_X12_read_j114 σ r0 = some x) : xsame σ x.2 := by
  have hm := xsame.rf (σ := σ)
  obtain ⟨v2, e1, hf⟩ := xbd hf
  by_cases q : v2 ≤ 0
  · have hf := xip q hf
    obtain ⟨v4, e3, hf⟩ := xbd hf
    by_cases q : v4 ≤ 0
    · have hf := xip q hf
      exact hm.tr (m_X12_read_j144 hf)
    · have hf := xin q hf
      obtain ⟨v6, e5, hf⟩ := xbd hf
      exact hm.tr (m_X12_read_j144 hf)
  · have hf := xin q hf
    obtain ⟨v4, e3, hf⟩ := xbd hf
    exact hm.tr (m_X12_read_j144 hf)
theorem s_X12_read_j103 {G : XG} (C : XC G cX12_read RX12 (some .int) 2 5 103) {σ : XS} {r0 : Nat} {x : Int32 × XS} (hf : f_X12_read_j103 σ r0 = some x) (hk : XEnd G (some (.int x.1)) x.2) : WW G 103 [(0, .ref (gB G + r0))] [] σ := by
  refine ww_aload_n (pc := 103) C 0 dX12_read_103 rfl ?_
  obtain ⟨v2, e1, hf⟩ := xbd hf
  refine gf_X12_132 (pc := 104) C e1 dX12_read_104 ?_
  refine ww_if_ne (pc := 107) (tgt := 114) C dX12_read_107 (by decide) (fun q => ?_) (fun q => ?_)
  · have hf := xin q hf
    refine ww_sub [0] rfl ?_
    exact s_X12_read_j114 C hf hk
  · have hf := xip q hf
    refine ww_aload_n (pc := 110) C 0 dX12_read_110 rfl ?_
    obtain ⟨_, e3, hf⟩ := xbd hf
    obtain ⟨σ5, e4, hf⟩ := xbd hf
    refine ww_callVv (pc := 111) (as := []) (st := []) C (k_X12_means (l := gl G) (E := gE G) (hb := gB G) (σ := σ) e4) rfl (by decide) xc_X12_165 q1470 qp131 (xck_spec e3) rfl (by decide) (xst4 (Nat.le_of_ble_eq_true rfl)) (m_X12_means e4).le (m_X12_means e4).lim dX12_read_111 ?_
    refine ww_sub [0] rfl ?_
    exact s_X12_read_j114 C hf hk
theorem m_X12_read_j103 {σ : XS} {r0 : Nat} {x : Int32 × XS} (hf : f_X12_read_j103 σ r0 = some x) : xsame σ x.2 := by
  have hm := xsame.rf (σ := σ)
  obtain ⟨v2, e1, hf⟩ := xbd hf
  by_cases q : v2 = 0
  · have hf := xip q hf
    obtain ⟨_, e3, hf⟩ := xbd hf
    obtain ⟨σ5, e4, hf⟩ := xbd hf
    have hm := hm.tr (m_X12_means e4)
    exact hm.tr (m_X12_read_j114 hf)
  · have hf := xin q hf
    exact hm.tr (m_X12_read_j114 hf)
theorem m_X12_read_l81 {r0 : Nat} {a : XS} {x : Int32 × XS} (hf : xloop (f_X12_read_b81 r0) a = some x) : xsame a x.2 := by
  refine xloop_ind (P := fun a => xsame a x.2) (fun a y hf hc he => ?_) hf
  obtain ⟨σ, rfl⟩ : ∃ z, z = a := ⟨_, rfl⟩
  have hy : (∀ a' : XS, y = .inl a' → xsame σ a') ∧ (∀ b1 : Int32 × XS, y = .inr b1 → xsame σ b1.2) := by
    have hm := xsame.rf (σ := σ)
    obtain ⟨v2, e1, hf⟩ := xbd hf
    by_cases q : v2 = 0
    · have hf := xip q hf
      obtain ⟨_, e3, hf⟩ := xbd hf
      obtain ⟨v5, e4, hf⟩ := xbd hf
      by_cases q : v5 = 0
      · have hf := xip q hf
        obtain ⟨_, e6, hf⟩ := xbd hf
        obtain ⟨σ8, e7, hf⟩ := xbd hf
        have hm := hm.tr (m_X12_line e7)
        have hf := xsj hf
        subst hf
        exact ⟨fun a' e => (by have h9 := Sum.inl.inj e; subst h9; exact hm), fun b e => xnc1 e⟩
      · have hf := xin q hf
        obtain ⟨b0, hg, e9⟩ := xmj hf
        subst e9
        have hf := hg
        refine ⟨fun a' e => xnc2 e, fun b e => ?_⟩
        have h9 := Sum.inr.inj e
        subst h9
        exact hm.tr (m_X12_read_j103 hf)
    · have hf := xin q hf
      obtain ⟨b0, hg, e9⟩ := xmj hf
      subst e9
      have hf := hg
      refine ⟨fun a' e => xnc2 e, fun b e => ?_⟩
      have h9 := Sum.inr.inj e
      subst h9
      exact hm.tr (m_X12_read_j103 hf)
  cases y with
  | inl a' =>
    have h1 := hc a' rfl
    have hm := hy.1 a' rfl
    exact hm.tr (h1)
  | inr b =>
    have h1 := he b rfl
    subst h1
    exact hy.2 _ rfl
theorem s_X12_read_l81 {G : XG} (C : XC G cX12_read RX12 (some .int) 2 5 103) {r0 : Nat} {a : XS} {x : Int32 × XS} (hf : xloop (f_X12_read_b81 r0) a = some x) (hk : XEnd G (some (.int x.1)) x.2) : WW G 81 [(0, .ref (gB G + r0))] [] a := by
  refine xloop_ind (P := fun a => WW G 81 [(0, .ref (gB G + r0))] [] a) (fun a y hf hc he => ?_) hf
  obtain ⟨σ, rfl⟩ : ∃ z, z = a := ⟨_, rfl⟩
  have hk : (∀ a' : XS, y = .inl a' → WW G 81 [(0, .ref (gB G + r0))] [] a') ∧ (∀ b1 : Int32 × XS, y = .inr b1 → XEnd G (some (.int b1.1)) b1.2) := ⟨hc, fun b e => by have h9 := he b e; subst h9; exact hk⟩
  refine ww_aload_n (pc := 81) C 0 dX12_read_81 rfl ?_
  obtain ⟨v2, e1, hf⟩ := xbd hf
  refine gf_X12_132 (pc := 82) C e1 dX12_read_82 ?_
  refine ww_if_ne (pc := 85) (tgt := 103) C dX12_read_85 (by decide) (fun q => ?_) (fun q => ?_)
  · have hf := xin q hf
    obtain ⟨b0, hg, e9⟩ := xmj hf
    subst e9
    have hf := hg
    have hk := hk.2 _ rfl
    refine ww_sub [0] rfl ?_
    exact s_X12_read_j103 C hf hk
  · have hf := xip q hf
    refine ww_aload_n (pc := 88) C 0 dX12_read_88 rfl ?_
    refine ww_iconst (pc := 89) (v := (0 : Int32)) C dX12_read_89 (by decide) ?_
    obtain ⟨_, e3, hf⟩ := xbd hf
    obtain ⟨v5, e4, hf⟩ := xbd hf
    refine ww_callVi (pc := 90) (as := [.int (0 : Int32)]) (st := []) C (k_X12_is (l := gl G) (E := gE G) (hb := gB G) (σ := σ) e4) rfl (by decide) xc_X12_150 q1446 qp125 (xck_spec e3) rfl (by decide) (xst4 (Nat.le_of_ble_eq_true rfl)) xsame.rf.le xsame.rf.lim dX12_read_90 ?_
    refine ww_if_ne (pc := 93) (tgt := 103) C dX12_read_93 (by decide) (fun q => ?_) (fun q => ?_)
    · have hf := xin q hf
      obtain ⟨b0, hg, e9⟩ := xmj hf
      subst e9
      have hf := hg
      have hk := hk.2 _ rfl
      refine ww_sub [0] rfl ?_
      exact s_X12_read_j103 C hf hk
    · have hf := xip q hf
      refine ww_aload_n (pc := 96) C 0 dX12_read_96 rfl ?_
      obtain ⟨_, e6, hf⟩ := xbd hf
      obtain ⟨σ8, e7, hf⟩ := xbd hf
      refine ww_callVv (pc := 97) (as := []) (st := []) C (k_X12_line (l := gl G) (E := gE G) (hb := gB G) (σ := σ) e7) rfl (by decide) xc_X12_162 q1458 qp128 (xck_spec e6) rfl (by decide) (xst4 (Nat.le_of_ble_eq_true rfl)) (m_X12_line e7).le (m_X12_line e7).lim dX12_read_97 ?_
      refine ww_goto (pc := 100) (tgt := 81) C dX12_read_100 (by decide) ?_
      have hf := xsj hf
      subst hf
      refine ww_sub [0] rfl ?_
      exact hk.1 σ8 rfl
theorem m_X12_read_l10 {r0 : Nat} {a : Int32 × XS} {x : Int32 × XS} (hf : xloop (f_X12_read_b10 r0) a = some x) : xsame a.2 x.2 := by
  refine xloop_ind (P := fun a => xsame a.2 x.2) (fun a y hf hc he => ?_) hf
  obtain ⟨x1, σ⟩ := a
  have hy : (∀ a' : Int32 × XS, y = .inl a' → xsame σ a'.2) ∧ (∀ b1 : Int32 × XS, y = .inr b1 → xsame σ b1.2) := by
    have hm := xsame.rf (σ := σ)
    obtain ⟨v2, e1, hf⟩ := xbd hf
    by_cases q : v2 ≤ x1
    · have hf := xip q hf
      obtain ⟨b0, hg, e9⟩ := xmj hf
      subst e9
      have hf := hg
      refine ⟨fun a' e => xnc2 e, fun b e => ?_⟩
      have h9 := Sum.inr.inj e
      subst h9
      obtain ⟨σ4, e3, hf⟩ := xbd hf
      have hm := hm.tr (xpI_same e3)
      obtain ⟨_, e5, hf⟩ := xbd hf
      obtain ⟨σ7, e6, hf⟩ := xbd hf
      have hm := hm.tr (m_X12_cutsText e6)
      obtain ⟨σ9, e8, hf⟩ := xbd hf
      have hm := hm.tr (xpI_same e8)
      obtain ⟨σ11, e10, hf⟩ := xbd hf
      have hm := hm.tr (xpI_same e10)
      obtain ⟨σ13, e12, hf⟩ := xbd hf
      have hm := hm.tr (xpI_same e12)
      obtain ⟨_, e14, hf⟩ := xbd hf
      obtain ⟨σ16, e15, hf⟩ := xbd hf
      have hm := hm.tr (m_X12_must e15)
      obtain ⟨_, e17, hf⟩ := xbd hf
      obtain ⟨σ19, e18, hf⟩ := xbd hf
      have hm := hm.tr (m_X12_must e18)
      obtain ⟨_, e20, hf⟩ := xbd hf
      obtain ⟨σ22, e21, hf⟩ := xbd hf
      have hm := hm.tr (m_X12_must e21)
      obtain ⟨_, e23, hf⟩ := xbd hf
      obtain ⟨σ25, e24, hf⟩ := xbd hf
      have hm := hm.tr (m_X12_must e24)
      exact hm.tr (m_X12_read_l81 (a := σ25) hf)
    · have hf := xin q hf
      obtain ⟨z4, e3, hf⟩ := xbd hf
      obtain ⟨z6, e5, hf⟩ := xbd hf
      obtain ⟨v8, e7, hf⟩ := xbd hf
      obtain ⟨σ10, e9, hf⟩ := xbd hf
      have hm := hm.tr (xsI_same e9)
      have hf := xsj hf
      subst hf
      exact ⟨fun a' e => (by have h9 := Sum.inl.inj e; subst h9; exact hm), fun b e => xnc1 e⟩
  cases y with
  | inl a' =>
    have h1 := hc a' rfl
    have hm := hy.1 a' rfl
    exact hm.tr (h1)
  | inr b =>
    have h1 := he b rfl
    subst h1
    exact hy.2 _ rfl
theorem s_X12_read_l10 {G : XG} (C : XC G cX12_read RX12 (some .int) 2 5 103) {r0 : Nat} {a : Int32 × XS} {x : Int32 × XS} (hf : xloop (f_X12_read_b10 r0) a = some x) (hk : XEnd G (some (.int x.1)) x.2) : WW G 10 [(0, .ref (gB G + r0)), (1, .int a.1)] [] a.2 := by
  refine xloop_ind (P := fun a => WW G 10 [(0, .ref (gB G + r0)), (1, .int a.1)] [] a.2) (fun a y hf hc he => ?_) hf
  obtain ⟨x1, σ⟩ := a
  have hk : (∀ a' : Int32 × XS, y = .inl a' → WW G 10 [(0, .ref (gB G + r0)), (1, .int a'.1)] [] a'.2) ∧ (∀ b1 : Int32 × XS, y = .inr b1 → XEnd G (some (.int b1.1)) b1.2) := ⟨hc, fun b e => by have h9 := he b e; subst h9; exact hk⟩
  refine ww_iload_n (pc := 10) C 1 dX12_read_10 rfl ?_
  refine ww_aload_n (pc := 11) C 0 dX12_read_11 rfl ?_
  obtain ⟨v2, e1, hf⟩ := xbd hf
  refine gf_X12_101 (pc := 12) C e1 dX12_read_12 ?_
  refine ww_icmp_ge (pc := 15) (tgt := 36) C dX12_read_15 (by decide) (fun q => ?_) (fun q => ?_)
  · have hf := xip q hf
    obtain ⟨b0, hg, e9⟩ := xmj hf
    subst e9
    have hf := hg
    have hk := hk.2 _ rfl
    refine ww_aload_n (pc := 36) C 0 dX12_read_36 rfl ?_
    refine ww_iconst (pc := 37) (v := (0 : Int32)) C dX12_read_37 (by decide) ?_
    obtain ⟨σ4, e3, hf⟩ := xbd hf
    refine pf_X12_94 (pc := 38) C e3 dX12_read_38 ?_
    refine ww_aload_n (pc := 41) C 0 dX12_read_41 rfl ?_
    obtain ⟨_, e5, hf⟩ := xbd hf
    obtain ⟨σ7, e6, hf⟩ := xbd hf
    refine ww_callVv (pc := 42) (as := []) (st := []) C (k_X12_cutsText (l := gl G) (E := gE G) (hb := gB G) (σ := σ4) e6) rfl (by decide) xc_X12_156 q1420 qp120 (xck_spec e5) rfl (by decide) (xst4 (Nat.le_of_ble_eq_true rfl)) (m_X12_cutsText e6).le (m_X12_cutsText e6).lim dX12_read_42 ?_
    refine ww_aload_n (pc := 45) C 0 dX12_read_45 rfl ?_
    refine ww_iconst (pc := 46) (v := (0 : Int32)) C dX12_read_46 (by decide) ?_
    obtain ⟨σ9, e8, hf⟩ := xbd hf
    refine pf_X12_135 (pc := 47) C e8 dX12_read_47 ?_
    refine ww_aload_n (pc := 50) C 0 dX12_read_50 rfl ?_
    refine ww_iconst (pc := 51) (v := (0 : Int32)) C dX12_read_51 (by decide) ?_
    obtain ⟨σ11, e10, hf⟩ := xbd hf
    refine pf_X12_132 (pc := 52) C e10 dX12_read_52 ?_
    refine ww_aload_n (pc := 55) C 0 dX12_read_55 rfl ?_
    refine ww_iconst (pc := 56) (v := (0 : Int32)) C dX12_read_56 (by decide) ?_
    obtain ⟨σ13, e12, hf⟩ := xbd hf
    refine pf_X12_141 (pc := 57) C e12 dX12_read_57 ?_
    refine ww_aload_n (pc := 60) C 0 dX12_read_60 rfl ?_
    refine ww_bipush (pc := 61) (v := (20 : Int32)) C dX12_read_61 (by decide) ?_
    obtain ⟨_, e14, hf⟩ := xbd hf
    obtain ⟨σ16, e15, hf⟩ := xbd hf
    refine ww_callVv (pc := 63) (as := [.int (20 : Int32)]) (st := []) C (k_X12_must (l := gl G) (E := gE G) (hb := gB G) (σ := σ13) e15) rfl (by decide) xc_X12_159 q1442 qp124 (xck_spec e14) rfl (by decide) (xst4 (Nat.le_of_ble_eq_true rfl)) (m_X12_must e15).le (m_X12_must e15).lim dX12_read_63 ?_
    refine ww_aload_n (pc := 66) C 0 dX12_read_66 rfl ?_
    refine ww_iconst (pc := 67) (v := (2 : Int32)) C dX12_read_67 (by decide) ?_
    obtain ⟨_, e17, hf⟩ := xbd hf
    obtain ⟨σ19, e18, hf⟩ := xbd hf
    refine ww_callVv (pc := 68) (as := [.int (2 : Int32)]) (st := []) C (k_X12_must (l := gl G) (E := gE G) (hb := gB G) (σ := σ16) e18) rfl (by decide) xc_X12_159 q1442 qp124 (xck_spec e17) rfl (by decide) (xst4 (Nat.le_of_ble_eq_true rfl)) (m_X12_must e18).le (m_X12_must e18).lim dX12_read_68 ?_
    refine ww_aload_n (pc := 71) C 0 dX12_read_71 rfl ?_
    refine ww_iconst (pc := 72) (v := (2 : Int32)) C dX12_read_72 (by decide) ?_
    obtain ⟨_, e20, hf⟩ := xbd hf
    obtain ⟨σ22, e21, hf⟩ := xbd hf
    refine ww_callVv (pc := 73) (as := [.int (2 : Int32)]) (st := []) C (k_X12_must (l := gl G) (E := gE G) (hb := gB G) (σ := σ19) e21) rfl (by decide) xc_X12_159 q1442 qp124 (xck_spec e20) rfl (by decide) (xst4 (Nat.le_of_ble_eq_true rfl)) (m_X12_must e21).le (m_X12_must e21).lim dX12_read_73 ?_
    refine ww_aload_n (pc := 76) C 0 dX12_read_76 rfl ?_
    refine ww_iconst (pc := 77) (v := (4 : Int32)) C dX12_read_77 (by decide) ?_
    obtain ⟨_, e23, hf⟩ := xbd hf
    obtain ⟨σ25, e24, hf⟩ := xbd hf
    refine ww_callVv (pc := 78) (as := [.int (4 : Int32)]) (st := []) C (k_X12_must (l := gl G) (E := gE G) (hb := gB G) (σ := σ22) e24) rfl (by decide) xc_X12_159 q1442 qp124 (xck_spec e23) rfl (by decide) (xst4 (Nat.le_of_ble_eq_true rfl)) (m_X12_must e24).le (m_X12_must e24).lim dX12_read_78 ?_
    refine ww_sub [0] rfl ?_
    exact s_X12_read_l81 C (a := σ25) hf hk
  · have hf := xin q hf
    refine ww_aload_n (pc := 18) C 0 dX12_read_18 rfl ?_
    obtain ⟨z4, e3, hf⟩ := xbd hf
    refine gf_X12_17 (pc := 19) C e3 dX12_read_19 ?_
    refine ww_iload_n (pc := 22) C 1 dX12_read_22 rfl ?_
    refine ww_aload_n (pc := 23) C 0 dX12_read_23 rfl ?_
    obtain ⟨z6, e5, hf⟩ := xbd hf
    refine gf_X12_13 (pc := 24) C e5 dX12_read_24 ?_
    refine ww_iload_n (pc := 27) C 1 dX12_read_27 rfl ?_
    obtain ⟨v8, e7, hf⟩ := xbd hf
    refine ww_bald (pc := 28) C e7 dX12_read_28 ?_
    obtain ⟨σ10, e9, hf⟩ := xbd hf
    refine ww_bast (pc := 29) C rfl e9 dX12_read_29 ?_
    refine ww_iinc (pc := 30) (v := x1 + (1 : Int32)) (lv' := [(1, .int (x1 + (1 : Int32))), (0, .ref (gB G + r0))]) C 1 dX12_read_30 rfl (congrArg (fun z => x1 + z) (show Int32.ofInt (1) = (1 : Int32) by decide)) (by decide) rfl ?_
    refine ww_goto (pc := 33) (tgt := 10) C dX12_read_33 (by decide) ?_
    have hf := xsj hf
    subst hf
    refine ww_sub [1, 0] rfl ?_
    exact hk.1 (x1 + (1 : Int32), σ10) rfl
theorem s_X12_read_e {G : XG} (C : XC G cX12_read RX12 (some .int) 2 5 103) {σ : XS} {r0 : Nat} {x : Int32 × XS} (hf : f_X12_read σ r0 = some x) (hk : XEnd G (some (.int x.1)) x.2) : WW G 0 [(0, .ref (gB G + r0))] [] σ := by
  refine ww_aload_n (pc := 0) C 0 dX12_read_0 rfl ?_
  refine ww_aload_n (pc := 1) C 0 dX12_read_1 rfl ?_
  obtain ⟨v2, e1, hf⟩ := xbd hf
  refine gf_X12_94 (pc := 2) C e1 dX12_read_2 ?_
  obtain ⟨σ4, e3, hf⟩ := xbd hf
  refine pf_X12_101 (pc := 5) C e3 dX12_read_5 ?_
  refine ww_iconst (pc := 8) (v := (0 : Int32)) C dX12_read_8 (by decide) ?_
  refine ww_istore_n (pc := 9) (lv' := [(1, .int (0 : Int32)), (0, .ref (gB G + r0))]) C dX12_read_9 (by decide) rfl ?_
  refine ww_sub [1, 0] rfl ?_
  exact s_X12_read_l10 C (a := ((0 : Int32), σ4)) hf hk
theorem m_X12_read {σ : XS} {r0 : Nat} {x : Int32 × XS} (hf : f_X12_read σ r0 = some x) : xsame σ x.2 := by
  have hm := xsame.rf (σ := σ)
  obtain ⟨v2, e1, hf⟩ := xbd hf
  obtain ⟨σ4, e3, hf⟩ := xbd hf
  have hm := hm.tr (xpI_same e3)
  exact hm.tr (m_X12_read_l10 (a := ((0 : Int32), σ4)) hf)
theorem k_X12_read {l : Launch} {E : XD} {hb : Nat} {σ : XS} {r0 : Nat} {x : Int32 × XS} (h : f_X12_read σ r0 = some x) : XM l yX12_read cX12_read 2 (some .int) 5 103 E hb [.ref (hb + r0)] σ (some (.int x.1)) x.2 := by
  refine xm_of (by decide) (Nat.le_of_ble_eq_true rfl) (m_X12_read h).le (fun G hG C hl hQ => ?_)
  obtain ⟨rfl, rfl, rfl, hN⟩ := hG
  exact s_X12_read_e C h hQ
noncomputable def f_X12_restore_b22 (r0 : Nat) (x1 : Int32) : Int32 × XS → Option ((Int32 × XS) ⊕ (Int32 × XS)) := fun a => match a with
  | (x2, σ) => if (66 : Int32) ≤ x2 then (((xpI σ r0 12 29 (0 : Int32)).bind fun σ2 => (xpI σ2 r0 12 32 (0 : Int32)).bind fun σ4 => some ((1 : Int32), σ4)).map .inr) else (xgR σ r0 12 21).bind fun z2 => (xgR σ r0 12 30).bind fun z4 => (xaI σ 20 z4 (((66 : Int32) * x1) + x2)).bind fun v6 => (xsI σ 20 z2 x2 v6).bind fun σ8 => some (.inl (x2 + (1 : Int32), σ8))
noncomputable def f_X12_restore (σ : XS) (r0 : Nat) (x1 : Int32) : Option (Int32 × XS) := (f_X12_in x1 (0 : Int32) (2 : Int32)).bind fun v2 => if v2 = 0 then (some ((0 : Int32), σ)) else (xgR σ r0 12 31).bind fun z4 => (xaI σ 22 z4 x1).bind fun v6 => if v6 = 0 then (some ((0 : Int32), σ)) else xloop (f_X12_restore_b22 r0 x1) ((0 : Int32), σ)
theorem m_X12_restore_l22 {r0 : Nat} {x1 : Int32} {a : Int32 × XS} {x : Int32 × XS} (hf : xloop (f_X12_restore_b22 r0 x1) a = some x) : xsame a.2 x.2 := by
  refine xloop_ind (P := fun a => xsame a.2 x.2) (fun a y hf hc he => ?_) hf
  obtain ⟨x2, σ⟩ := a
  have hy : (∀ a' : Int32 × XS, y = .inl a' → xsame σ a'.2) ∧ (∀ b1 : Int32 × XS, y = .inr b1 → xsame σ b1.2) := by
    have hm := xsame.rf (σ := σ)
    by_cases q : (66 : Int32) ≤ x2
    · have hf := xip q hf
      obtain ⟨b0, hg, e9⟩ := xmj hf
      subst e9
      have hf := hg
      refine ⟨fun a' e => xnc2 e, fun b e => ?_⟩
      have h9 := Sum.inr.inj e
      subst h9
      obtain ⟨σ2, e1, hf⟩ := xbd hf
      have hm := hm.tr (xpI_same e1)
      obtain ⟨σ4, e3, hf⟩ := xbd hf
      have hm := hm.tr (xpI_same e3)
      have hf := xsj hf
      subst hf
      exact hm
    · have hf := xin q hf
      obtain ⟨z2, e1, hf⟩ := xbd hf
      obtain ⟨z4, e3, hf⟩ := xbd hf
      obtain ⟨v6, e5, hf⟩ := xbd hf
      obtain ⟨σ8, e7, hf⟩ := xbd hf
      have hm := hm.tr (xsI_same e7)
      have hf := xsj hf
      subst hf
      exact ⟨fun a' e => (by have h9 := Sum.inl.inj e; subst h9; exact hm), fun b e => xnc1 e⟩
  cases y with
  | inl a' =>
    have h1 := hc a' rfl
    have hm := hy.1 a' rfl
    exact hm.tr (h1)
  | inr b =>
    have h1 := he b rfl
    subst h1
    exact hy.2 _ rfl
theorem s_X12_restore_l22 {G : XG} (C : XC G cX12_restore RX12 (some .boolean) 3 1 22) {r0 : Nat} {x1 : Int32} {a : Int32 × XS} {x : Int32 × XS} (hf : xloop (f_X12_restore_b22 r0 x1) a = some x) (hk : XEnd G (some (.int x.1)) x.2) : WW G 22 [(0, .ref (gB G + r0)), (1, .int x1), (2, .int a.1)] [] a.2 := by
  refine xloop_ind (P := fun a => WW G 22 [(0, .ref (gB G + r0)), (1, .int x1), (2, .int a.1)] [] a.2) (fun a y hf hc he => ?_) hf
  obtain ⟨x2, σ⟩ := a
  have hk : (∀ a' : Int32 × XS, y = .inl a' → WW G 22 [(0, .ref (gB G + r0)), (1, .int x1), (2, .int a'.1)] [] a'.2) ∧ (∀ b1 : Int32 × XS, y = .inr b1 → XEnd G (some (.int b1.1)) b1.2) := ⟨hc, fun b e => by have h9 := he b e; subst h9; exact hk⟩
  refine ww_iload_n (pc := 22) C 2 dX12_restore_22 rfl ?_
  refine ww_bipush (pc := 23) (v := (66 : Int32)) C dX12_restore_23 (by decide) ?_
  refine ww_icmp_ge (pc := 25) (tgt := 51) C dX12_restore_25 (by decide) (fun q => ?_) (fun q => ?_)
  · have hf := xip q hf
    obtain ⟨b0, hg, e9⟩ := xmj hf
    subst e9
    have hf := hg
    have hk := hk.2 _ rfl
    refine ww_aload_n (pc := 51) C 0 dX12_restore_51 rfl ?_
    refine ww_iconst (pc := 52) (v := (0 : Int32)) C dX12_restore_52 (by decide) ?_
    obtain ⟨σ2, e1, hf⟩ := xbd hf
    refine pf_X12_197 (pc := 53) C e1 dX12_restore_53 ?_
    refine ww_aload_n (pc := 56) C 0 dX12_restore_56 rfl ?_
    refine ww_iconst (pc := 57) (v := (0 : Int32)) C dX12_restore_57 (by decide) ?_
    obtain ⟨σ4, e3, hf⟩ := xbd hf
    refine pf_X12_200 (pc := 58) C (Or.inl rfl) e3 dX12_restore_58 ?_
    refine ww_iconst (pc := 61) (v := (1 : Int32)) C dX12_restore_61 (by decide) ?_
    have hf := xsj hf
    subst hf
    exact ww_zret (pc := 62) C rfl hk dX12_restore_62
  · have hf := xin q hf
    refine ww_aload_n (pc := 28) C 0 dX12_restore_28 rfl ?_
    obtain ⟨z2, e1, hf⟩ := xbd hf
    refine gf_X12_40 (pc := 29) C e1 dX12_restore_29 ?_
    refine ww_iload_n (pc := 32) C 2 dX12_restore_32 rfl ?_
    refine ww_aload_n (pc := 33) C 0 dX12_restore_33 rfl ?_
    obtain ⟨z4, e3, hf⟩ := xbd hf
    refine gf_X12_49 (pc := 34) C e3 dX12_restore_34 ?_
    refine ww_bipush (pc := 37) (v := (66 : Int32)) C dX12_restore_37 (by decide) ?_
    refine ww_iload_n (pc := 39) C 1 dX12_restore_39 rfl ?_
    refine ww_imul (pc := 40) C dX12_restore_40 ?_
    refine ww_iload_n (pc := 41) C 2 dX12_restore_41 rfl ?_
    refine ww_iadd (pc := 42) C dX12_restore_42 ?_
    obtain ⟨v6, e5, hf⟩ := xbd hf
    refine ww_iald (pc := 43) C e5 dX12_restore_43 ?_
    obtain ⟨σ8, e7, hf⟩ := xbd hf
    refine ww_iast (pc := 44) C e7 dX12_restore_44 ?_
    refine ww_iinc (pc := 45) (v := x2 + (1 : Int32)) (lv' := [(2, .int (x2 + (1 : Int32))), (0, .ref (gB G + r0)), (1, .int x1)]) C 2 dX12_restore_45 rfl (congrArg (fun z => x2 + z) (show Int32.ofInt (1) = (1 : Int32) by decide)) (by decide) rfl ?_
    refine ww_goto (pc := 48) (tgt := 22) C dX12_restore_48 (by decide) ?_
    have hf := xsj hf
    subst hf
    refine ww_sub [1, 2, 0] rfl ?_
    exact hk.1 (x2 + (1 : Int32), σ8) rfl
theorem s_X12_restore_e {G : XG} (C : XC G cX12_restore RX12 (some .boolean) 3 1 22) {σ : XS} {r0 : Nat} {x1 : Int32} {x : Int32 × XS} (hf : f_X12_restore σ r0 x1 = some x) (hk : XEnd G (some (.int x.1)) x.2) : WW G 0 [(0, .ref (gB G + r0)), (1, .int x1)] [] σ := by
  refine ww_iload_n (pc := 0) C 1 dX12_restore_0 rfl ?_
  refine ww_iconst (pc := 1) (v := (0 : Int32)) C dX12_restore_1 (by decide) ?_
  refine ww_iconst (pc := 2) (v := (2 : Int32)) C dX12_restore_2 (by decide) ?_
  obtain ⟨v2, e1, hf⟩ := xbd hf
  refine ww_callSi (pc := 3) (as := [.int x1, .int (0 : Int32), .int (2 : Int32)]) (st := []) C (k_X12_in (l := gl G) (E := gE G) (hb := gB G) (σ := σ) e1) xc_X12_213 q1473 rfl (by decide) (xst4 (Nat.le_of_ble_eq_true rfl)) xsame.rf.le xsame.rf.lim dX12_restore_3 ?_
  refine ww_if_eq (pc := 6) (tgt := 18) C dX12_restore_6 (by decide) (fun q => ?_) (fun q => ?_)
  · have hf := xip q hf
    refine ww_iconst (pc := 18) (v := (0 : Int32)) C dX12_restore_18 (by decide) ?_
    have hf := xsj hf
    subst hf
    exact ww_zret (pc := 19) C rfl hk dX12_restore_19
  · have hf := xin q hf
    refine ww_aload_n (pc := 9) C 0 dX12_restore_9 rfl ?_
    obtain ⟨z4, e3, hf⟩ := xbd hf
    refine gf_X12_52 (pc := 10) C e3 dX12_restore_10 ?_
    refine ww_iload_n (pc := 13) C 1 dX12_restore_13 rfl ?_
    obtain ⟨v6, e5, hf⟩ := xbd hf
    refine ww_zald (pc := 14) C e5 dX12_restore_14 ?_
    refine ww_if_ne (pc := 15) (tgt := 20) C dX12_restore_15 (by decide) (fun q => ?_) (fun q => ?_)
    · have hf := xin q hf
      refine ww_iconst (pc := 20) (v := (0 : Int32)) C dX12_restore_20 (by decide) ?_
      refine ww_istore_n (pc := 21) (lv' := [(2, .int (0 : Int32)), (0, .ref (gB G + r0)), (1, .int x1)]) C dX12_restore_21 (by decide) rfl ?_
      refine ww_sub [1, 2, 0] rfl ?_
      exact s_X12_restore_l22 C (a := ((0 : Int32), σ)) hf hk
    · have hf := xip q hf
      refine ww_iconst (pc := 18) (v := (0 : Int32)) C dX12_restore_18 (by decide) ?_
      have hf := xsj hf
      subst hf
      exact ww_zret (pc := 19) C rfl hk dX12_restore_19
theorem m_X12_restore {σ : XS} {r0 : Nat} {x1 : Int32} {x : Int32 × XS} (hf : f_X12_restore σ r0 x1 = some x) : xsame σ x.2 := by
  have hm := xsame.rf (σ := σ)
  obtain ⟨v2, e1, hf⟩ := xbd hf
  by_cases q : v2 = 0
  · have hf := xip q hf
    have hf := xsj hf
    subst hf
    exact hm
  · have hf := xin q hf
    obtain ⟨z4, e3, hf⟩ := xbd hf
    obtain ⟨v6, e5, hf⟩ := xbd hf
    by_cases q : v6 = 0
    · have hf := xip q hf
      have hf := xsj hf
      subst hf
      exact hm
    · have hf := xin q hf
      exact hm.tr (m_X12_restore_l22 (a := ((0 : Int32), σ)) hf)
theorem k_X12_restore {l : Launch} {E : XD} {hb : Nat} {σ : XS} {r0 : Nat} {x1 : Int32} {x : Int32 × XS} (h : f_X12_restore σ r0 x1 = some x) : XM l yX12_restore cX12_restore 3 (some .boolean) 1 22 E hb [.ref (hb + r0), .int x1] σ (some (.int x.1)) x.2 := by
  refine xm_of (by decide) (Nat.le_of_ble_eq_true rfl) (m_X12_restore h).le (fun G hG C hl hQ => ?_)
  obtain ⟨rfl, rfl, rfl, hN⟩ := hG
  exact s_X12_restore_e C h hQ
noncomputable def f_X12_rows_b46 (σ : XS) (r0 : Nat) (x1 : Int32) (x2 : Int32) (x3 : Int32) (x5 : Int32) : Int32 × Int32 → Option ((Int32 × Int32) ⊕ (Int32)) := fun a => match a with
  | (x4, x6) => if ((1 : Int32) <<< (x5 &&& 31)) ≤ x6 then ((some x4).map .inr) else (xgR σ r0 12 21).bind fun z2 => (xgI σ r0 12 17).bind fun v4 => (f_X12_isLawfulBy σ z2 (x6 ||| (x2 <<< (x5 &&& 31))) (x5 + v4)).bind fun v6 => if v6 = 0 then (some (.inl (x4, x6 + (1 : Int32)))) else (xgR σ r0 12 21).bind fun z8 => (xck σ r0 12).bind fun _ => (f_X12_energy σ r0 z8 (x6 ||| (x2 <<< (x5 &&& 31))) (x1 + (1 : Int32))).bind fun v11 => if v11 = x3 then (some (.inl (x4 + (1 : Int32), x6 + (1 : Int32)))) else some (.inl (x4, x6 + (1 : Int32)))
noncomputable def f_X12_rows (σ : XS) (r0 : Nat) (x1 : Int32) (x2 : Int32) (x3 : Int32) : Option Int32 := (xgI σ r0 12 18).bind fun v2 => (f_X12_in x1 (0 : Int32) (v2 - (1 : Int32))).bind fun v4 => if v4 = 0 then (some (-1 : Int32)) else (xgI σ r0 12 17).bind fun v6 => (f_X12_in x2 (0 : Int32) (((1 : Int32) <<< (v6 &&& 31)) - (1 : Int32))).bind fun v8 => if v8 = 0 then (some (-1 : Int32)) else (xgI σ r0 12 17).bind fun v10 => xloop (f_X12_rows_b46 σ r0 x1 x2 x3 (v10 * x1)) ((0 : Int32), (0 : Int32))
theorem s_X12_rows_l46 {G : XG} (C : XC G cX12_rows RX12 (some .int) 8 3 75) {σ : XS} {r0 : Nat} {x1 : Int32} {x2 : Int32} {x3 : Int32} {x5 : Int32} {a : Int32 × Int32} {x : Int32} (hf : xloop (f_X12_rows_b46 σ r0 x1 x2 x3 x5) a = some x) (hk : XEnd G (some (.int x)) σ) : WW G 46 [(0, .ref (gB G + r0)), (1, .int x1), (2, .int x2), (3, .int x3), (4, .int a.1), (5, .int x5), (6, .int a.2)] [] σ := by
  refine xloop_ind (P := fun a => WW G 46 [(0, .ref (gB G + r0)), (1, .int x1), (2, .int x2), (3, .int x3), (4, .int a.1), (5, .int x5), (6, .int a.2)] [] σ) (fun a y hf hc he => ?_) hf
  obtain ⟨x4, x6⟩ := a
  have hk : (∀ a' : Int32 × Int32, y = .inl a' → WW G 46 [(0, .ref (gB G + r0)), (1, .int x1), (2, .int x2), (3, .int x3), (4, .int a'.1), (5, .int x5), (6, .int a'.2)] [] σ) ∧ (∀ b1 : Int32, y = .inr b1 → XEnd G (some (.int b1)) σ) := ⟨hc, fun b e => by have h9 := he b e; subst h9; exact hk⟩
  refine ww_iload (pc := 46) C 6 dX12_rows_46 rfl ?_
  refine ww_iconst (pc := 48) (v := (1 : Int32)) C dX12_rows_48 (by decide) ?_
  refine ww_iload (pc := 49) C 5 dX12_rows_49 rfl ?_
  refine ww_ishl (pc := 51) C dX12_rows_51 ?_
  refine ww_icmp_ge (pc := 52) (tgt := 109) C dX12_rows_52 (by decide) (fun q => ?_) (fun q => ?_)
  · have hf := xip q hf
    obtain ⟨b0, hg, e9⟩ := xmj hf
    subst e9
    have hf := hg
    have hk := hk.2 _ rfl
    refine ww_iload (pc := 109) C 4 dX12_rows_109 rfl ?_
    have hf := xsj hf
    subst hf
    exact ww_iret (pc := 111) C hk dX12_rows_111
  · have hf := xin q hf
    refine ww_iload (pc := 55) C 6 dX12_rows_55 rfl ?_
    refine ww_iload_n (pc := 57) C 2 dX12_rows_57 rfl ?_
    refine ww_iload (pc := 58) C 5 dX12_rows_58 rfl ?_
    refine ww_ishl (pc := 60) C dX12_rows_60 ?_
    refine ww_ior (pc := 61) C dX12_rows_61 ?_
    refine ww_istore (pc := 62) (lv' := [(7, .int (x6 ||| (x2 <<< (x5 &&& 31)))), (0, .ref (gB G + r0)), (1, .int x1), (2, .int x2), (3, .int x3), (4, .int x4), (5, .int x5), (6, .int x6)]) C dX12_rows_62 (by decide) rfl ?_
    refine ww_aload_n (pc := 64) C 1 dX12_rows_64 rfl ?_
    obtain ⟨z2, e1, hf⟩ := xbd hf
    refine gf_X12_40 (pc := 65) C e1 dX12_rows_65 ?_
    refine ww_iload (pc := 68) C 0 dX12_rows_68 rfl ?_
    refine ww_iload (pc := 70) C 6 dX12_rows_70 rfl ?_
    refine ww_aload_n (pc := 72) C 1 dX12_rows_72 rfl ?_
    obtain ⟨v4, e3, hf⟩ := xbd hf
    refine gf_X12_171 (pc := 73) C e3 dX12_rows_73 ?_
    refine ww_iadd (pc := 76) C dX12_rows_76 ?_
    obtain ⟨v6, e5, hf⟩ := xbd hf
    refine ww_callSi (pc := 77) (as := [.ref (gB G + z2), .int (x6 ||| (x2 <<< (x5 &&& 31))), .int (x5 + v4)]) (st := []) C (k_X12_isLawfulBy (l := gl G) (E := gE G) (hb := gB G) (σ := σ) e5) xc_X12_273 q1562 rfl (by decide) (xst4 (Nat.le_of_ble_eq_true rfl)) xsame.rf.le xsame.rf.lim dX12_rows_77 ?_
    refine ww_if_eq (pc := 80) (tgt := 103) C dX12_rows_80 (by decide) (fun q => ?_) (fun q => ?_)
    · have hf := xip q hf
      refine ww_iinc (pc := 103) (v := x6 + (1 : Int32)) (lv' := [(6, .int (x6 + (1 : Int32))), (7, .int (x6 ||| (x2 <<< (x5 &&& 31)))), (0, .ref (gB G + r0)), (1, .int x1), (2, .int x2), (3, .int x3), (4, .int x4), (5, .int x5)]) C 7 dX12_rows_103 rfl (congrArg (fun z => x6 + z) (show Int32.ofInt (1) = (1 : Int32) by decide)) (by decide) rfl ?_
      refine ww_goto (pc := 106) (tgt := 46) C dX12_rows_106 (by decide) ?_
      have hf := xsj hf
      subst hf
      refine ww_sub [2, 3, 4, 5, 6, 7, 0] rfl ?_
      exact hk.1 (x4, x6 + (1 : Int32)) rfl
    · have hf := xin q hf
      refine ww_aload_n (pc := 83) C 1 dX12_rows_83 rfl ?_
      refine ww_aload_n (pc := 84) C 1 dX12_rows_84 rfl ?_
      obtain ⟨z8, e7, hf⟩ := xbd hf
      refine gf_X12_40 (pc := 85) C e7 dX12_rows_85 ?_
      refine ww_iload (pc := 88) C 0 dX12_rows_88 rfl ?_
      refine ww_iload_n (pc := 90) C 2 dX12_rows_90 rfl ?_
      refine ww_iconst (pc := 91) (v := (1 : Int32)) C dX12_rows_91 (by decide) ?_
      refine ww_iadd (pc := 92) C dX12_rows_92 ?_
      obtain ⟨_, e9, hf⟩ := xbd hf
      obtain ⟨v11, e10, hf⟩ := xbd hf
      refine ww_callVi (pc := 93) (as := [.ref (gB G + z8), .int (x6 ||| (x2 <<< (x5 &&& 31))), .int (x1 + (1 : Int32))]) (st := []) C (k_X12_energy (l := gl G) (E := gE G) (hb := gB G) (σ := σ) e10) rfl (by decide) xc_X12_277 q1566 qp143 (xck_spec e9) rfl (by decide) (xst4 (Nat.le_of_ble_eq_true rfl)) xsame.rf.le xsame.rf.lim dX12_rows_93 ?_
      refine ww_iload_n (pc := 96) C 4 dX12_rows_96 rfl ?_
      refine ww_icmp_ne (pc := 97) (tgt := 103) C dX12_rows_97 (by decide) (fun q => ?_) (fun q => ?_)
      · have hf := xin q hf
        refine ww_iinc (pc := 103) (v := x6 + (1 : Int32)) (lv' := [(6, .int (x6 + (1 : Int32))), (7, .int (x6 ||| (x2 <<< (x5 &&& 31)))), (0, .ref (gB G + r0)), (1, .int x1), (2, .int x2), (3, .int x3), (4, .int x4), (5, .int x5)]) C 7 dX12_rows_103 rfl (congrArg (fun z => x6 + z) (show Int32.ofInt (1) = (1 : Int32) by decide)) (by decide) rfl ?_
        refine ww_goto (pc := 106) (tgt := 46) C dX12_rows_106 (by decide) ?_
        have hf := xsj hf
        subst hf
        refine ww_sub [2, 3, 4, 5, 6, 7, 0] rfl ?_
        exact hk.1 (x4, x6 + (1 : Int32)) rfl
      · have hf := xip q hf
        refine ww_iinc (pc := 100) (v := x4 + (1 : Int32)) (lv' := [(4, .int (x4 + (1 : Int32))), (7, .int (x6 ||| (x2 <<< (x5 &&& 31)))), (0, .ref (gB G + r0)), (1, .int x1), (2, .int x2), (3, .int x3), (5, .int x5), (6, .int x6)]) C 5 dX12_rows_100 rfl (congrArg (fun z => x4 + z) (show Int32.ofInt (1) = (1 : Int32) by decide)) (by decide) rfl ?_
        refine ww_iinc (pc := 103) (v := x6 + (1 : Int32)) (lv' := [(6, .int (x6 + (1 : Int32))), (4, .int (x4 + (1 : Int32))), (7, .int (x6 ||| (x2 <<< (x5 &&& 31)))), (0, .ref (gB G + r0)), (1, .int x1), (2, .int x2), (3, .int x3), (5, .int x5)]) C 7 dX12_rows_103 rfl (congrArg (fun z => x6 + z) (show Int32.ofInt (1) = (1 : Int32) by decide)) (by decide) rfl ?_
        refine ww_goto (pc := 106) (tgt := 46) C dX12_rows_106 (by decide) ?_
        have hf := xsj hf
        subst hf
        refine ww_sub [3, 4, 5, 6, 1, 7, 0] rfl ?_
        exact hk.1 (x4 + (1 : Int32), x6 + (1 : Int32)) rfl
theorem s_X12_rows_e {G : XG} (C : XC G cX12_rows RX12 (some .int) 8 3 75) {σ : XS} {r0 : Nat} {x1 : Int32} {x2 : Int32} {x3 : Int32} {x : Int32} (hf : f_X12_rows σ r0 x1 x2 x3 = some x) (hk : XEnd G (some (.int x)) σ) : WW G 0 [(0, .ref (gB G + r0)), (1, .int x1), (2, .int x2), (3, .int x3)] [] σ := by
  refine ww_iload_n (pc := 0) C 1 dX12_rows_0 rfl ?_
  refine ww_iconst (pc := 1) (v := (0 : Int32)) C dX12_rows_1 (by decide) ?_
  refine ww_aload_n (pc := 2) C 0 dX12_rows_2 rfl ?_
  obtain ⟨v2, e1, hf⟩ := xbd hf
  refine gf_X12_177 (pc := 3) C e1 dX12_rows_3 ?_
  refine ww_iconst (pc := 6) (v := (1 : Int32)) C dX12_rows_6 (by decide) ?_
  refine ww_isub (pc := 7) C dX12_rows_7 ?_
  obtain ⟨v4, e3, hf⟩ := xbd hf
  refine ww_callSi (pc := 8) (as := [.int x1, .int (0 : Int32), .int (v2 - (1 : Int32))]) (st := []) C (k_X12_in (l := gl G) (E := gE G) (hb := gB G) (σ := σ) e3) xc_X12_213 q1473 rfl (by decide) (xst4 (Nat.le_of_ble_eq_true rfl)) xsame.rf.le xsame.rf.lim dX12_rows_8 ?_
  refine ww_if_eq (pc := 11) (tgt := 30) C dX12_rows_11 (by decide) (fun q => ?_) (fun q => ?_)
  · have hf := xip q hf
    refine ww_iconst (pc := 30) (v := (-1 : Int32)) C dX12_rows_30 (by decide) ?_
    have hf := xsj hf
    subst hf
    exact ww_iret (pc := 31) C hk dX12_rows_31
  · have hf := xin q hf
    refine ww_iload_n (pc := 14) C 2 dX12_rows_14 rfl ?_
    refine ww_iconst (pc := 15) (v := (0 : Int32)) C dX12_rows_15 (by decide) ?_
    refine ww_iconst (pc := 16) (v := (1 : Int32)) C dX12_rows_16 (by decide) ?_
    refine ww_aload_n (pc := 17) C 0 dX12_rows_17 rfl ?_
    obtain ⟨v6, e5, hf⟩ := xbd hf
    refine gf_X12_171 (pc := 18) C e5 dX12_rows_18 ?_
    refine ww_ishl (pc := 21) C dX12_rows_21 ?_
    refine ww_iconst (pc := 22) (v := (1 : Int32)) C dX12_rows_22 (by decide) ?_
    refine ww_isub (pc := 23) C dX12_rows_23 ?_
    obtain ⟨v8, e7, hf⟩ := xbd hf
    refine ww_callSi (pc := 24) (as := [.int x2, .int (0 : Int32), .int (((1 : Int32) <<< (v6 &&& 31)) - (1 : Int32))]) (st := []) C (k_X12_in (l := gl G) (E := gE G) (hb := gB G) (σ := σ) e7) xc_X12_213 q1473 rfl (by decide) (xst4 (Nat.le_of_ble_eq_true rfl)) xsame.rf.le xsame.rf.lim dX12_rows_24 ?_
    refine ww_if_ne (pc := 27) (tgt := 32) C dX12_rows_27 (by decide) (fun q => ?_) (fun q => ?_)
    · have hf := xin q hf
      refine ww_iconst (pc := 32) (v := (0 : Int32)) C dX12_rows_32 (by decide) ?_
      refine ww_istore (pc := 33) (lv' := [(4, .int (0 : Int32)), (0, .ref (gB G + r0)), (1, .int x1), (2, .int x2), (3, .int x3)]) C dX12_rows_33 (by decide) rfl ?_
      refine ww_aload_n (pc := 35) C 1 dX12_rows_35 rfl ?_
      obtain ⟨v10, e9, hf⟩ := xbd hf
      refine gf_X12_171 (pc := 36) C e9 dX12_rows_36 ?_
      refine ww_iload_n (pc := 39) C 2 dX12_rows_39 rfl ?_
      refine ww_imul (pc := 40) C dX12_rows_40 ?_
      refine ww_istore (pc := 41) (lv' := [(5, .int (v10 * x1)), (4, .int (0 : Int32)), (0, .ref (gB G + r0)), (1, .int x1), (2, .int x2), (3, .int x3)]) C dX12_rows_41 (by decide) rfl ?_
      refine ww_iconst (pc := 43) (v := (0 : Int32)) C dX12_rows_43 (by decide) ?_
      refine ww_istore (pc := 44) (lv' := [(6, .int (0 : Int32)), (5, .int (v10 * x1)), (4, .int (0 : Int32)), (0, .ref (gB G + r0)), (1, .int x1), (2, .int x2), (3, .int x3)]) C dX12_rows_44 (by decide) rfl ?_
      refine ww_sub [3, 4, 5, 6, 2, 1, 0] rfl ?_
      exact s_X12_rows_l46 C (a := ((0 : Int32), (0 : Int32))) hf hk
    · have hf := xip q hf
      refine ww_iconst (pc := 30) (v := (-1 : Int32)) C dX12_rows_30 (by decide) ?_
      have hf := xsj hf
      subst hf
      exact ww_iret (pc := 31) C hk dX12_rows_31
theorem k_X12_rows {l : Launch} {E : XD} {hb : Nat} {σ : XS} {r0 : Nat} {x1 : Int32} {x2 : Int32} {x3 : Int32} {x : Int32} (h : f_X12_rows σ r0 x1 x2 x3 = some x) : XM l yX12_rows cX12_rows 8 (some .int) 3 75 E hb [.ref (hb + r0), .int x1, .int x2, .int x3] σ (some (.int x)) σ := by
  refine xm_of (by decide) (Nat.le_of_ble_eq_true rfl) ⟨Nat.le_refl _, Nat.le_refl _⟩ (fun G hG C hl hQ => ?_)
  obtain ⟨rfl, rfl, rfl, hN⟩ := hG
  exact s_X12_rows_e C h hQ
noncomputable def f_X12_site (σ : XS) (r0 : Nat) (x1 : Int32) (x2 : Int32) : Option Int32 := (xck σ r0 12).bind fun _ => (f_X12_isSite σ r0 x1).bind fun v3 => if v3 = 0 then (some (-100000 : Int32)) else xsw x2 (0) [(xgI σ r0 12 17).bind fun v5 => (xdz v5).bind fun _ => some (x1 / v5), (xgI σ r0 12 17).bind fun v5 => (xdz v5).bind fun _ => some (x1 - x1 / v5 * v5), (xgR σ r0 12 21).bind fun z5 => (xaI σ 20 z5 ((32 : Int32) + x1)).bind fun v7 => some v7, (xgR σ r0 12 21).bind fun z5 => (xaI σ 20 z5 ((48 : Int32) + x1)).bind fun v7 => some v7, (xck σ r0 12).bind fun _ => (f_X12_tieTo σ r0 x1 (0 : Int32)).bind fun v6 => if 0 ≤ v6 then ((xgR σ r0 12 21).bind fun z8 => (xaI σ 20 z8 ((0 : Int32) + x1)).bind fun v10 => some v10) else some (100 : Int32), (xck σ r0 12).bind fun _ => (f_X12_tieTo σ r0 x1 (1 : Int32)).bind fun v6 => if 0 ≤ v6 then ((xgR σ r0 12 21).bind fun z8 => (xaI σ 20 z8 ((16 : Int32) + x1)).bind fun v10 => some v10) else some (100 : Int32), (xgR σ r0 12 21).bind fun z5 => (xaI σ 20 z5 (64 : Int32)).bind fun v7 => some ((v7 >>> (x1 &&& 31)) &&& (1 : Int32)), (xgR σ r0 12 21).bind fun z5 => (xaI σ 20 z5 (64 : Int32)).bind fun v7 => (xck σ r0 12).bind fun _ => (f_X12_costOf σ r0 v7 x1).bind fun v10 => some v10] (some (-100000 : Int32))
theorem s_X12_site_e {G : XG} (C : XC G cX12_site RX12 (some .int) 3 4 97) {σ : XS} {r0 : Nat} {x1 : Int32} {x2 : Int32} {x : Int32} (hf : f_X12_site σ r0 x1 x2 = some x) (hk : XEnd G (some (.int x)) σ) : WW G 0 [(0, .ref (gB G + r0)), (1, .int x1), (2, .int x2)] [] σ := by
  refine ww_aload_n (pc := 0) C 0 dX12_site_0 rfl ?_
  refine ww_iload_n (pc := 1) C 1 dX12_site_1 rfl ?_
  obtain ⟨_, e1, hf⟩ := xbd hf
  obtain ⟨v3, e2, hf⟩ := xbd hf
  refine ww_callVi (pc := 2) (as := [.int x1]) (st := []) C (k_X12_isSite (l := gl G) (E := gE G) (hb := gB G) (σ := σ) e2) rfl (by decide) xc_X12_233 q1508 qp137 (xck_spec e1) rfl (by decide) (xst4 (Nat.le_of_ble_eq_true rfl)) xsame.rf.le xsame.rf.lim dX12_site_2 ?_
  refine ww_if_ne (pc := 5) (tgt := 12) C dX12_site_5 (by decide) (fun q => ?_) (fun q => ?_)
  · have hf := xin q hf
    refine ww_iload_n (pc := 12) C 2 dX12_site_12 rfl ?_
    refine ww_table (pc := 13) C dX12_site_13 (fun k hk1 hk2 => ?_) (fun ho => ?_)
    · rcases (by omega : k = 0 ∨ k = 1 ∨ k = 2 ∨ k = 3 ∨ k = 4 ∨ k = 5 ∨ k = 6 ∨ k = 7) with rfl | rfl | rfl | rfl | rfl | rfl | rfl | rfl
      · refine ⟨60, 47, rfl, by decide, ?_⟩
        have hf := xsw_in 0 hk1 rfl hf
        refine ww_iload_n (pc := 60) C 1 dX12_site_60 rfl ?_
        refine ww_aload_n (pc := 61) C 0 dX12_site_61 rfl ?_
        obtain ⟨v5, e4, hf⟩ := xbd hf
        refine gf_X12_171 (pc := 62) C e4 dX12_site_62 ?_
        obtain ⟨_, e6, hf⟩ := xbd hf
        refine ww_idiv (pc := 65) C dX12_site_65 (xdz_spec e6) ?_
        have hf := xsj hf
        subst hf
        exact ww_iret (pc := 66) C hk dX12_site_66
      · refine ⟨67, 54, rfl, by decide, ?_⟩
        have hf := xsw_in 1 hk1 rfl hf
        refine ww_iload_n (pc := 67) C 1 dX12_site_67 rfl ?_
        refine ww_aload_n (pc := 68) C 0 dX12_site_68 rfl ?_
        obtain ⟨v5, e4, hf⟩ := xbd hf
        refine gf_X12_171 (pc := 69) C e4 dX12_site_69 ?_
        obtain ⟨_, e6, hf⟩ := xbd hf
        refine ww_irem (pc := 72) C dX12_site_72 (xdz_spec e6) ?_
        have hf := xsj hf
        subst hf
        exact ww_iret (pc := 73) C hk dX12_site_73
      · refine ⟨74, 61, rfl, by decide, ?_⟩
        have hf := xsw_in 2 hk1 rfl hf
        refine ww_aload_n (pc := 74) C 0 dX12_site_74 rfl ?_
        obtain ⟨z5, e4, hf⟩ := xbd hf
        refine gf_X12_40 (pc := 75) C e4 dX12_site_75 ?_
        refine ww_bipush (pc := 78) (v := (32 : Int32)) C dX12_site_78 (by decide) ?_
        refine ww_iload_n (pc := 80) C 1 dX12_site_80 rfl ?_
        refine ww_iadd (pc := 81) C dX12_site_81 ?_
        obtain ⟨v7, e6, hf⟩ := xbd hf
        refine ww_iald (pc := 82) C e6 dX12_site_82 ?_
        have hf := xsj hf
        subst hf
        exact ww_iret (pc := 83) C hk dX12_site_83
      · refine ⟨84, 71, rfl, by decide, ?_⟩
        have hf := xsw_in 3 hk1 rfl hf
        refine ww_aload_n (pc := 84) C 0 dX12_site_84 rfl ?_
        obtain ⟨z5, e4, hf⟩ := xbd hf
        refine gf_X12_40 (pc := 85) C e4 dX12_site_85 ?_
        refine ww_bipush (pc := 88) (v := (48 : Int32)) C dX12_site_88 (by decide) ?_
        refine ww_iload_n (pc := 90) C 1 dX12_site_90 rfl ?_
        refine ww_iadd (pc := 91) C dX12_site_91 ?_
        obtain ⟨v7, e6, hf⟩ := xbd hf
        refine ww_iald (pc := 92) C e6 dX12_site_92 ?_
        have hf := xsj hf
        subst hf
        exact ww_iret (pc := 93) C hk dX12_site_93
      · refine ⟨94, 81, rfl, by decide, ?_⟩
        have hf := xsw_in 4 hk1 rfl hf
        refine ww_aload_n (pc := 94) C 0 dX12_site_94 rfl ?_
        refine ww_iload_n (pc := 95) C 1 dX12_site_95 rfl ?_
        refine ww_iconst (pc := 96) (v := (0 : Int32)) C dX12_site_96 (by decide) ?_
        obtain ⟨_, e4, hf⟩ := xbd hf
        obtain ⟨v6, e5, hf⟩ := xbd hf
        refine ww_callVi (pc := 97) (as := [.int x1, .int (0 : Int32)]) (st := []) C (k_X12_tieTo (l := gl G) (E := gE G) (hb := gB G) (σ := σ) e5) rfl (by decide) xc_X12_236 q1512 qp138 (xck_spec e4) rfl (by decide) (xst4 (Nat.le_of_ble_eq_true rfl)) xsame.rf.le xsame.rf.lim dX12_site_97 ?_
        refine ww_if_ge (pc := 100) (tgt := 108) C dX12_site_100 (by decide) (fun q => ?_) (fun q => ?_)
        · have hf := xip q hf
          refine ww_aload_n (pc := 108) C 0 dX12_site_108 rfl ?_
          obtain ⟨z8, e7, hf⟩ := xbd hf
          refine gf_X12_40 (pc := 109) C e7 dX12_site_109 ?_
          refine ww_iconst (pc := 112) (v := (0 : Int32)) C dX12_site_112 (by decide) ?_
          refine ww_iload_n (pc := 113) C 1 dX12_site_113 rfl ?_
          refine ww_iadd (pc := 114) C dX12_site_114 ?_
          obtain ⟨v10, e9, hf⟩ := xbd hf
          refine ww_iald (pc := 115) C e9 dX12_site_115 ?_
          have hf := xsj hf
          subst hf
          exact ww_iret (pc := 116) C hk dX12_site_116
        · have hf := xin q hf
          refine ww_bipush (pc := 103) (v := (100 : Int32)) C dX12_site_103 (by decide) ?_
          refine ww_goto (pc := 105) (tgt := 116) C dX12_site_105 (by decide) ?_
          have hf := xsj hf
          subst hf
          exact ww_iret (pc := 116) C hk dX12_site_116
      · refine ⟨117, 104, rfl, by decide, ?_⟩
        have hf := xsw_in 5 hk1 rfl hf
        refine ww_aload_n (pc := 117) C 0 dX12_site_117 rfl ?_
        refine ww_iload_n (pc := 118) C 1 dX12_site_118 rfl ?_
        refine ww_iconst (pc := 119) (v := (1 : Int32)) C dX12_site_119 (by decide) ?_
        obtain ⟨_, e4, hf⟩ := xbd hf
        obtain ⟨v6, e5, hf⟩ := xbd hf
        refine ww_callVi (pc := 120) (as := [.int x1, .int (1 : Int32)]) (st := []) C (k_X12_tieTo (l := gl G) (E := gE G) (hb := gB G) (σ := σ) e5) rfl (by decide) xc_X12_236 q1512 qp138 (xck_spec e4) rfl (by decide) (xst4 (Nat.le_of_ble_eq_true rfl)) xsame.rf.le xsame.rf.lim dX12_site_120 ?_
        refine ww_if_ge (pc := 123) (tgt := 131) C dX12_site_123 (by decide) (fun q => ?_) (fun q => ?_)
        · have hf := xip q hf
          refine ww_aload_n (pc := 131) C 0 dX12_site_131 rfl ?_
          obtain ⟨z8, e7, hf⟩ := xbd hf
          refine gf_X12_40 (pc := 132) C e7 dX12_site_132 ?_
          refine ww_bipush (pc := 135) (v := (16 : Int32)) C dX12_site_135 (by decide) ?_
          refine ww_iload_n (pc := 137) C 1 dX12_site_137 rfl ?_
          refine ww_iadd (pc := 138) C dX12_site_138 ?_
          obtain ⟨v10, e9, hf⟩ := xbd hf
          refine ww_iald (pc := 139) C e9 dX12_site_139 ?_
          have hf := xsj hf
          subst hf
          exact ww_iret (pc := 140) C hk dX12_site_140
        · have hf := xin q hf
          refine ww_bipush (pc := 126) (v := (100 : Int32)) C dX12_site_126 (by decide) ?_
          refine ww_goto (pc := 128) (tgt := 140) C dX12_site_128 (by decide) ?_
          have hf := xsj hf
          subst hf
          exact ww_iret (pc := 140) C hk dX12_site_140
      · refine ⟨141, 128, rfl, by decide, ?_⟩
        have hf := xsw_in 6 hk1 rfl hf
        refine ww_aload_n (pc := 141) C 0 dX12_site_141 rfl ?_
        obtain ⟨z5, e4, hf⟩ := xbd hf
        refine gf_X12_40 (pc := 142) C e4 dX12_site_142 ?_
        refine ww_bipush (pc := 145) (v := (64 : Int32)) C dX12_site_145 (by decide) ?_
        obtain ⟨v7, e6, hf⟩ := xbd hf
        refine ww_iald (pc := 147) C e6 dX12_site_147 ?_
        refine ww_iload_n (pc := 148) C 1 dX12_site_148 rfl ?_
        refine ww_ishr (pc := 149) C dX12_site_149 ?_
        refine ww_iconst (pc := 150) (v := (1 : Int32)) C dX12_site_150 (by decide) ?_
        refine ww_iand (pc := 151) C dX12_site_151 ?_
        have hf := xsj hf
        subst hf
        exact ww_iret (pc := 152) C hk dX12_site_152
      · refine ⟨153, 140, rfl, by decide, ?_⟩
        have hf := xsw_in 7 hk1 rfl hf
        refine ww_aload_n (pc := 153) C 0 dX12_site_153 rfl ?_
        refine ww_aload_n (pc := 154) C 0 dX12_site_154 rfl ?_
        obtain ⟨z5, e4, hf⟩ := xbd hf
        refine gf_X12_40 (pc := 155) C e4 dX12_site_155 ?_
        refine ww_bipush (pc := 158) (v := (64 : Int32)) C dX12_site_158 (by decide) ?_
        obtain ⟨v7, e6, hf⟩ := xbd hf
        refine ww_iald (pc := 160) C e6 dX12_site_160 ?_
        refine ww_iload_n (pc := 161) C 1 dX12_site_161 rfl ?_
        obtain ⟨_, e8, hf⟩ := xbd hf
        obtain ⟨v10, e9, hf⟩ := xbd hf
        refine ww_callVi (pc := 162) (as := [.int v7, .int x1]) (st := []) C (k_X12_costOf (l := gl G) (E := gE G) (hb := gB G) (σ := σ) e9) rfl (by decide) xc_X12_289 q1600 qp147 (xck_spec e8) rfl (by decide) (xst4 (Nat.le_of_ble_eq_true rfl)) xsame.rf.le xsame.rf.lim dX12_site_162 ?_
        have hf := xsj hf
        subst hf
        exact ww_iret (pc := 165) C hk dX12_site_165
    · refine ⟨166, by decide, ?_⟩
      have hf := xsw_out ho rfl hf
      refine ww_ldcw (pc := 166) C q1597 dX12_site_166 ?_
      have hf := xsj hf
      subst hf
      exact ww_iret (pc := 169) C hk dX12_site_169
  · have hf := xip q hf
    refine ww_ldcw (pc := 8) C q1597 dX12_site_8 ?_
    have hf := xsj hf
    subst hf
    exact ww_iret (pc := 11) C hk dX12_site_11
theorem k_X12_site {l : Launch} {E : XD} {hb : Nat} {σ : XS} {r0 : Nat} {x1 : Int32} {x2 : Int32} {x : Int32} (h : f_X12_site σ r0 x1 x2 = some x) : XM l yX12_site cX12_site 3 (some .int) 4 97 E hb [.ref (hb + r0), .int x1, .int x2] σ (some (.int x)) σ := by
  refine xm_of (by decide) (Nat.le_of_ble_eq_true rfl) ⟨Nat.le_refl _, Nat.le_refl _⟩ (fun G hG C hl hQ => ?_)
  obtain ⟨rfl, rfl, rfl, hN⟩ := hG
  exact s_X12_site_e C h hQ
noncomputable def f_X12_square (σ : XS) (r0 : Nat) (x1 : Int32) : Option Int32 := (xck σ r0 12).bind fun _ => (f_X12_isSite σ r0 x1).bind fun v3 => if v3 = 0 then (some (-1 : Int32)) else (xck σ r0 12).bind fun _ => (f_X12_oddOf σ r0 x1).bind fun v6 => some v6
theorem s_X12_square_e {G : XG} (C : XC G cX12_square RX12 (some .int) 2 3 72) {σ : XS} {r0 : Nat} {x1 : Int32} {x : Int32} (hf : f_X12_square σ r0 x1 = some x) (hk : XEnd G (some (.int x)) σ) : WW G 0 [(0, .ref (gB G + r0)), (1, .int x1)] [] σ := by
  refine ww_aload_n (pc := 0) C 0 dX12_square_0 rfl ?_
  refine ww_iload_n (pc := 1) C 1 dX12_square_1 rfl ?_
  obtain ⟨_, e1, hf⟩ := xbd hf
  obtain ⟨v3, e2, hf⟩ := xbd hf
  refine ww_callVi (pc := 2) (as := [.int x1]) (st := []) C (k_X12_isSite (l := gl G) (E := gE G) (hb := gB G) (σ := σ) e2) rfl (by decide) xc_X12_233 q1508 qp137 (xck_spec e1) rfl (by decide) (xst4 (Nat.le_of_ble_eq_true rfl)) xsame.rf.le xsame.rf.lim dX12_square_2 ?_
  refine ww_if_eq (pc := 5) (tgt := 16) C dX12_square_5 (by decide) (fun q => ?_) (fun q => ?_)
  · have hf := xip q hf
    refine ww_iconst (pc := 16) (v := (-1 : Int32)) C dX12_square_16 (by decide) ?_
    have hf := xsj hf
    subst hf
    exact ww_iret (pc := 17) C hk dX12_square_17
  · have hf := xin q hf
    refine ww_aload_n (pc := 8) C 0 dX12_square_8 rfl ?_
    refine ww_iload_n (pc := 9) C 1 dX12_square_9 rfl ?_
    obtain ⟨_, e4, hf⟩ := xbd hf
    obtain ⟨v6, e5, hf⟩ := xbd hf
    refine ww_callVi (pc := 10) (as := [.int x1]) (st := []) C (k_X12_oddOf (l := gl G) (E := gE G) (hb := gB G) (σ := σ) e5) rfl (by decide) xc_X12_330 q1720 qp154 (xck_spec e4) rfl (by decide) (xst4 (Nat.le_of_ble_eq_true rfl)) xsame.rf.le xsame.rf.lim dX12_square_10 ?_
    refine ww_goto (pc := 13) (tgt := 17) C dX12_square_13 (by decide) ?_
    have hf := xsj hf
    subst hf
    exact ww_iret (pc := 17) C hk dX12_square_17
theorem k_X12_square {l : Launch} {E : XD} {hb : Nat} {σ : XS} {r0 : Nat} {x1 : Int32} {x : Int32} (h : f_X12_square σ r0 x1 = some x) : XM l yX12_square cX12_square 2 (some .int) 3 72 E hb [.ref (hb + r0), .int x1] σ (some (.int x)) σ := by
  refine xm_of (by decide) (Nat.le_of_ble_eq_true rfl) ⟨Nat.le_refl _, Nat.le_refl _⟩ (fun G hG C hl hQ => ?_)
  obtain ⟨rfl, rfl, rfl, hN⟩ := hG
  exact s_X12_square_e C h hQ
noncomputable def f_X12_state (σ : XS) (r0 : Nat) (x1 : Int32) (x2 : Int32) : Option (Int32 × XS) := (xck σ r0 12).bind fun _ => (f_X12_isLawful σ r0 x1).bind fun v3 => if v3 = 0 then (some ((-100000 : Int32), σ)) else (xck σ r0 12).bind fun _ => (f_X12_knows σ r0).bind fun σ6 => xsw x2 (0) [(xgR σ6 r0 12 33).bind fun z8 => (xaI σ6 20 z8 x1).bind fun v10 => some (v10, σ6), (xck σ6 r0 12).bind fun _ => (f_X12_brokenOf σ6 r0 x1).bind fun v9 => some (v9, σ6), (xck σ6 r0 12).bind fun _ => (f_X12_steepest σ6 r0 x1).bind fun v9 => if 0 ≤ v9 then (some ((0 : Int32), σ6)) else some ((1 : Int32), σ6), (xck σ6 r0 12).bind fun _ => (f_X12_fallEnd σ6 r0 x1).bind fun v9 => some (v9, σ6), (xck σ6 r0 12).bind fun _ => (f_X12_fallTurns σ6 r0 x1).bind fun v9 => some (v9, σ6), (xck σ6 r0 12).bind fun _ => (f_X12_levelOf σ6 r0 x1).bind fun v9 => some (v9, σ6)] (some ((-100000 : Int32), σ6))
theorem s_X12_state_e {G : XG} (C : XC G cX12_state RX12 (some .int) 3 4 96) {σ : XS} {r0 : Nat} {x1 : Int32} {x2 : Int32} {x : Int32 × XS} (hf : f_X12_state σ r0 x1 x2 = some x) (hk : XEnd G (some (.int x.1)) x.2) : WW G 0 [(0, .ref (gB G + r0)), (1, .int x1), (2, .int x2)] [] σ := by
  refine ww_aload_n (pc := 0) C 0 dX12_state_0 rfl ?_
  refine ww_iload_n (pc := 1) C 1 dX12_state_1 rfl ?_
  obtain ⟨_, e1, hf⟩ := xbd hf
  obtain ⟨v3, e2, hf⟩ := xbd hf
  refine ww_callVi (pc := 2) (as := [.int x1]) (st := []) C (k_X12_isLawful (l := gl G) (E := gE G) (hb := gB G) (σ := σ) e2) rfl (by decide) xc_X12_281 q1559 qp142 (xck_spec e1) rfl (by decide) (xst4 (Nat.le_of_ble_eq_true rfl)) xsame.rf.le xsame.rf.lim dX12_state_2 ?_
  refine ww_if_ne (pc := 5) (tgt := 12) C dX12_state_5 (by decide) (fun q => ?_) (fun q => ?_)
  · have hf := xin q hf
    refine ww_aload_n (pc := 12) C 0 dX12_state_12 rfl ?_
    obtain ⟨_, e4, hf⟩ := xbd hf
    obtain ⟨σ6, e5, hf⟩ := xbd hf
    refine ww_callVv (pc := 13) (as := []) (st := []) C (k_X12_knows (l := gl G) (E := gE G) (hb := gB G) (σ := σ) e5) rfl (by decide) xc_X12_261 q1551 qp140 (xck_spec e4) rfl (by decide) (xst4 (Nat.le_of_ble_eq_true rfl)) (m_X12_knows e5).le (m_X12_knows e5).lim dX12_state_13 ?_
    refine ww_iload_n (pc := 16) C 2 dX12_state_16 rfl ?_
    refine ww_table (pc := 17) C dX12_state_17 (fun k hk1 hk2 => ?_) (fun ho => ?_)
    · rcases (by omega : k = 0 ∨ k = 1 ∨ k = 2 ∨ k = 3 ∨ k = 4 ∨ k = 5) with rfl | rfl | rfl | rfl | rfl | rfl
      · refine ⟨56, 39, rfl, by decide, ?_⟩
        have hf := xsw_in 0 hk1 rfl hf
        refine ww_aload_n (pc := 56) C 0 dX12_state_56 rfl ?_
        obtain ⟨z8, e7, hf⟩ := xbd hf
        refine gf_X12_57 (pc := 57) C e7 dX12_state_57 ?_
        refine ww_iload_n (pc := 60) C 1 dX12_state_60 rfl ?_
        obtain ⟨v10, e9, hf⟩ := xbd hf
        refine ww_iald (pc := 61) C e9 dX12_state_61 ?_
        have hf := xsj hf
        subst hf
        exact ww_iret (pc := 62) C hk dX12_state_62
      · refine ⟨63, 46, rfl, by decide, ?_⟩
        have hf := xsw_in 1 hk1 rfl hf
        refine ww_aload_n (pc := 63) C 0 dX12_state_63 rfl ?_
        refine ww_iload_n (pc := 64) C 1 dX12_state_64 rfl ?_
        obtain ⟨_, e7, hf⟩ := xbd hf
        obtain ⟨v9, e8, hf⟩ := xbd hf
        refine ww_callVi (pc := 65) (as := [.int x1]) (st := []) C (k_X12_brokenOf (l := gl G) (E := gE G) (hb := gB G) (σ := σ6) e8) rfl (by decide) xc_X12_305 q1627 qp150 (xck_spec e7) rfl (by decide) (xst4 (Nat.le_of_ble_eq_true rfl)) xsame.rf.le xsame.rf.lim dX12_state_65 ?_
        have hf := xsj hf
        subst hf
        exact ww_iret (pc := 68) C hk dX12_state_68
      · refine ⟨69, 52, rfl, by decide, ?_⟩
        have hf := xsw_in 2 hk1 rfl hf
        refine ww_aload_n (pc := 69) C 0 dX12_state_69 rfl ?_
        refine ww_iload_n (pc := 70) C 1 dX12_state_70 rfl ?_
        obtain ⟨_, e7, hf⟩ := xbd hf
        obtain ⟨v9, e8, hf⟩ := xbd hf
        refine ww_callVi (pc := 71) (as := [.int x1]) (st := []) C (k_X12_steepest (l := gl G) (E := gE G) (hb := gB G) (σ := σ6) e8) rfl (by decide) xc_X12_321 q1575 qp145 (xck_spec e7) rfl (by decide) (xst4 (Nat.le_of_ble_eq_true rfl)) xsame.rf.le xsame.rf.lim dX12_state_71 ?_
        refine ww_if_ge (pc := 74) (tgt := 81) C dX12_state_74 (by decide) (fun q => ?_) (fun q => ?_)
        · have hf := xip q hf
          refine ww_iconst (pc := 81) (v := (0 : Int32)) C dX12_state_81 (by decide) ?_
          have hf := xsj hf
          subst hf
          exact ww_iret (pc := 82) C hk dX12_state_82
        · have hf := xin q hf
          refine ww_iconst (pc := 77) (v := (1 : Int32)) C dX12_state_77 (by decide) ?_
          refine ww_goto (pc := 78) (tgt := 82) C dX12_state_78 (by decide) ?_
          have hf := xsj hf
          subst hf
          exact ww_iret (pc := 82) C hk dX12_state_82
      · refine ⟨83, 66, rfl, by decide, ?_⟩
        have hf := xsw_in 3 hk1 rfl hf
        refine ww_aload_n (pc := 83) C 0 dX12_state_83 rfl ?_
        refine ww_iload_n (pc := 84) C 1 dX12_state_84 rfl ?_
        obtain ⟨_, e7, hf⟩ := xbd hf
        obtain ⟨v9, e8, hf⟩ := xbd hf
        refine ww_callVi (pc := 85) (as := [.int x1]) (st := []) C (k_X12_fallEnd (l := gl G) (E := gE G) (hb := gB G) (σ := σ6) e8) rfl (by decide) xc_X12_267 q1579 qp146 (xck_spec e7) rfl (by decide) (xst4 (Nat.le_of_ble_eq_true rfl)) xsame.rf.le xsame.rf.lim dX12_state_85 ?_
        have hf := xsj hf
        subst hf
        exact ww_iret (pc := 88) C hk dX12_state_88
      · refine ⟨89, 72, rfl, by decide, ?_⟩
        have hf := xsw_in 4 hk1 rfl hf
        refine ww_aload_n (pc := 89) C 0 dX12_state_89 rfl ?_
        refine ww_iload_n (pc := 90) C 1 dX12_state_90 rfl ?_
        obtain ⟨_, e7, hf⟩ := xbd hf
        obtain ⟨v9, e8, hf⟩ := xbd hf
        refine ww_callVi (pc := 91) (as := [.int x1]) (st := []) C (k_X12_fallTurns (l := gl G) (E := gE G) (hb := gB G) (σ := σ6) e8) rfl (by decide) xc_X12_264 q1571 qp144 (xck_spec e7) rfl (by decide) (xst4 (Nat.le_of_ble_eq_true rfl)) xsame.rf.le xsame.rf.lim dX12_state_91 ?_
        have hf := xsj hf
        subst hf
        exact ww_iret (pc := 94) C hk dX12_state_94
      · refine ⟨95, 78, rfl, by decide, ?_⟩
        have hf := xsw_in 5 hk1 rfl hf
        refine ww_aload_n (pc := 95) C 0 dX12_state_95 rfl ?_
        refine ww_iload_n (pc := 96) C 1 dX12_state_96 rfl ?_
        obtain ⟨_, e7, hf⟩ := xbd hf
        obtain ⟨v9, e8, hf⟩ := xbd hf
        refine ww_callVi (pc := 97) (as := [.int x1]) (st := []) C (k_X12_levelOf (l := gl G) (E := gE G) (hb := gB G) (σ := σ6) e8) rfl (by decide) xc_X12_324 q1668 qp152 (xck_spec e7) rfl (by decide) (xst4 (Nat.le_of_ble_eq_true rfl)) xsame.rf.le xsame.rf.lim dX12_state_97 ?_
        have hf := xsj hf
        subst hf
        exact ww_iret (pc := 100) C hk dX12_state_100
    · refine ⟨101, by decide, ?_⟩
      have hf := xsw_out ho rfl hf
      refine ww_ldcw (pc := 101) C q1597 dX12_state_101 ?_
      have hf := xsj hf
      subst hf
      exact ww_iret (pc := 104) C hk dX12_state_104
  · have hf := xip q hf
    refine ww_ldcw (pc := 8) C q1597 dX12_state_8 ?_
    have hf := xsj hf
    subst hf
    exact ww_iret (pc := 11) C hk dX12_state_11
theorem m_X12_state {σ : XS} {r0 : Nat} {x1 : Int32} {x2 : Int32} {x : Int32 × XS} (hf : f_X12_state σ r0 x1 x2 = some x) : xsame σ x.2 := by
  have hm := xsame.rf (σ := σ)
  obtain ⟨_, e1, hf⟩ := xbd hf
  obtain ⟨v3, e2, hf⟩ := xbd hf
  by_cases q : v3 = 0
  · have hf := xip q hf
    have hf := xsj hf
    subst hf
    exact hm
  · have hf := xin q hf
    obtain ⟨_, e4, hf⟩ := xbd hf
    obtain ⟨σ6, e5, hf⟩ := xbd hf
    have hm := hm.tr (m_X12_knows e5)
    by_cases ho : (x2).toInt < 0 ∨ 5 < (x2).toInt
    · have hf := xsw_out ho rfl hf
      have hf := xsj hf
      subst hf
      exact hm
    · rcases (by omega : (x2).toInt = 0 + ((0 : Nat) : Int) ∨ (x2).toInt = 0 + ((1 : Nat) : Int) ∨ (x2).toInt = 0 + ((2 : Nat) : Int) ∨ (x2).toInt = 0 + ((3 : Nat) : Int) ∨ (x2).toInt = 0 + ((4 : Nat) : Int) ∨ (x2).toInt = 0 + ((5 : Nat) : Int)) with hk1 | hk1 | hk1 | hk1 | hk1 | hk1
      · have hf := xsw_in 0 hk1 rfl hf
        obtain ⟨z8, e7, hf⟩ := xbd hf
        obtain ⟨v10, e9, hf⟩ := xbd hf
        have hf := xsj hf
        subst hf
        exact hm
      · have hf := xsw_in 1 hk1 rfl hf
        obtain ⟨_, e7, hf⟩ := xbd hf
        obtain ⟨v9, e8, hf⟩ := xbd hf
        have hf := xsj hf
        subst hf
        exact hm
      · have hf := xsw_in 2 hk1 rfl hf
        obtain ⟨_, e7, hf⟩ := xbd hf
        obtain ⟨v9, e8, hf⟩ := xbd hf
        by_cases q : 0 ≤ v9
        · have hf := xip q hf
          have hf := xsj hf
          subst hf
          exact hm
        · have hf := xin q hf
          have hf := xsj hf
          subst hf
          exact hm
      · have hf := xsw_in 3 hk1 rfl hf
        obtain ⟨_, e7, hf⟩ := xbd hf
        obtain ⟨v9, e8, hf⟩ := xbd hf
        have hf := xsj hf
        subst hf
        exact hm
      · have hf := xsw_in 4 hk1 rfl hf
        obtain ⟨_, e7, hf⟩ := xbd hf
        obtain ⟨v9, e8, hf⟩ := xbd hf
        have hf := xsj hf
        subst hf
        exact hm
      · have hf := xsw_in 5 hk1 rfl hf
        obtain ⟨_, e7, hf⟩ := xbd hf
        obtain ⟨v9, e8, hf⟩ := xbd hf
        have hf := xsj hf
        subst hf
        exact hm
theorem k_X12_state {l : Launch} {E : XD} {hb : Nat} {σ : XS} {r0 : Nat} {x1 : Int32} {x2 : Int32} {x : Int32 × XS} (h : f_X12_state σ r0 x1 x2 = some x) : XM l yX12_state cX12_state 3 (some .int) 4 96 E hb [.ref (hb + r0), .int x1, .int x2] σ (some (.int x.1)) x.2 := by
  refine xm_of (by decide) (Nat.le_of_ble_eq_true rfl) (m_X12_state h).le (fun G hG C hl hQ => ?_)
  obtain ⟨rfl, rfl, rfl, hN⟩ := hG
  exact s_X12_state_e C h hQ
noncomputable def f_X12_stiff_b41 (σ : XS) (r0 : Nat) (x1 : Int32) (x2 : Int32) : Int32 × Int32 × Int32 → Option ((Int32 × Int32 × Int32) ⊕ (Int32 × XS)) := fun a => match a with
  | (x3, x4, x5) => (xck σ r0 12).bind fun _ => (f_X12_states σ r0).bind fun v3 => if v3 ≤ x5 then ((if x3 = (100000 : Int32) then (some ((-100000 : Int32), σ)) else if x4 = (100000 : Int32) then (some ((-100000 : Int32), σ)) else some (x4 - x3, σ)).map .inr) else (f_X12_has x5 x1).bind fun v5 => (f_X12_has x5 x2).bind fun v7 => if v5 = v7 then ((xgR σ r0 12 33).bind fun z9 => (xaI σ 20 z9 x5).bind fun v11 => if x3 ≤ v11 then (some (.inl (x3, x4, x5 + (1 : Int32)))) else (xgR σ r0 12 33).bind fun z13 => (xaI σ 20 z13 x5).bind fun v15 => some (.inl (v15, x4, x5 + (1 : Int32)))) else (xgR σ r0 12 33).bind fun z9 => (xaI σ 20 z9 x5).bind fun v11 => if x4 ≤ v11 then (some (.inl (x3, x4, x5 + (1 : Int32)))) else (xgR σ r0 12 33).bind fun z13 => (xaI σ 20 z13 x5).bind fun v15 => some (.inl (x3, v15, x5 + (1 : Int32)))
noncomputable def f_X12_stiff (σ : XS) (r0 : Nat) (x1 : Int32) (x2 : Int32) : Option (Int32 × XS) := (xck σ r0 12).bind fun _ => (f_X12_isSite σ r0 x1).bind fun v3 => if v3 = 0 then (some ((-100000 : Int32), σ)) else (xck σ r0 12).bind fun _ => (f_X12_isSite σ r0 x2).bind fun v6 => if v6 = 0 then (some ((-100000 : Int32), σ)) else if x1 = x2 then (some ((-100000 : Int32), σ)) else (xck σ r0 12).bind fun _ => (f_X12_knows σ r0).bind fun σ9 => xloop (f_X12_stiff_b41 σ9 r0 x1 x2) ((100000 : Int32), (100000 : Int32), (0 : Int32))
theorem m_X12_stiff_l41 {σ : XS} {r0 : Nat} {x1 : Int32} {x2 : Int32} {a : Int32 × Int32 × Int32} {x : Int32 × XS} (hf : xloop (f_X12_stiff_b41 σ r0 x1 x2) a = some x) : xsame σ x.2 := by
  refine xloop_ind (P := fun a => xsame σ x.2) (fun a y hf hc he => ?_) hf
  obtain ⟨x3, x4, x5⟩ := a
  have hy : (∀ a' : Int32 × Int32 × Int32, y = .inl a' → True) ∧ (∀ b1 : Int32 × XS, y = .inr b1 → xsame σ b1.2) := by
    have hm := xsame.rf (σ := σ)
    obtain ⟨_, e1, hf⟩ := xbd hf
    obtain ⟨v3, e2, hf⟩ := xbd hf
    by_cases q : v3 ≤ x5
    · have hf := xip q hf
      obtain ⟨b0, hg, e9⟩ := xmj hf
      subst e9
      have hf := hg
      refine ⟨fun a' e => xnc2 e, fun b e => ?_⟩
      have h9 := Sum.inr.inj e
      subst h9
      by_cases q : x3 = (100000 : Int32)
      · have hf := xip q hf
        have hf := xsj hf
        subst hf
        exact hm
      · have hf := xin q hf
        by_cases q : x4 = (100000 : Int32)
        · have hf := xip q hf
          have hf := xsj hf
          subst hf
          exact hm
        · have hf := xin q hf
          have hf := xsj hf
          subst hf
          exact hm
    · have hf := xin q hf
      obtain ⟨v5, e4, hf⟩ := xbd hf
      obtain ⟨v7, e6, hf⟩ := xbd hf
      by_cases q : v5 = v7
      · have hf := xip q hf
        obtain ⟨z9, e8, hf⟩ := xbd hf
        obtain ⟨v11, e10, hf⟩ := xbd hf
        by_cases q : x3 ≤ v11
        · have hf := xip q hf
          have hf := xsj hf
          subst hf
          exact ⟨fun a' e => (by have h9 := Sum.inl.inj e; subst h9; exact trivial), fun b e => xnc1 e⟩
        · have hf := xin q hf
          obtain ⟨z13, e12, hf⟩ := xbd hf
          obtain ⟨v15, e14, hf⟩ := xbd hf
          have hf := xsj hf
          subst hf
          exact ⟨fun a' e => (by have h9 := Sum.inl.inj e; subst h9; exact trivial), fun b e => xnc1 e⟩
      · have hf := xin q hf
        obtain ⟨z9, e8, hf⟩ := xbd hf
        obtain ⟨v11, e10, hf⟩ := xbd hf
        by_cases q : x4 ≤ v11
        · have hf := xip q hf
          have hf := xsj hf
          subst hf
          exact ⟨fun a' e => (by have h9 := Sum.inl.inj e; subst h9; exact trivial), fun b e => xnc1 e⟩
        · have hf := xin q hf
          obtain ⟨z13, e12, hf⟩ := xbd hf
          obtain ⟨v15, e14, hf⟩ := xbd hf
          have hf := xsj hf
          subst hf
          exact ⟨fun a' e => (by have h9 := Sum.inl.inj e; subst h9; exact trivial), fun b e => xnc1 e⟩
  cases y with
  | inl a' =>
    have h1 := hc a' rfl
    exact h1
  | inr b =>
    have h1 := he b rfl
    subst h1
    exact hy.2 _ rfl
theorem s_X12_stiff_l41 {G : XG} (C : XC G cX12_stiff RX12 (some .int) 6 4 96) {σ : XS} {r0 : Nat} {x1 : Int32} {x2 : Int32} {a : Int32 × Int32 × Int32} {x : Int32 × XS} (hf : xloop (f_X12_stiff_b41 σ r0 x1 x2) a = some x) (hk : XEnd G (some (.int x.1)) x.2) : WW G 41 [(0, .ref (gB G + r0)), (1, .int x1), (2, .int x2), (3, .int a.1), (4, .int a.2.1), (5, .int a.2.2)] [] σ := by
  refine xloop_ind (P := fun a => WW G 41 [(0, .ref (gB G + r0)), (1, .int x1), (2, .int x2), (3, .int a.1), (4, .int a.2.1), (5, .int a.2.2)] [] σ) (fun a y hf hc he => ?_) hf
  obtain ⟨x3, x4, x5⟩ := a
  have hk : (∀ a' : Int32 × Int32 × Int32, y = .inl a' → WW G 41 [(0, .ref (gB G + r0)), (1, .int x1), (2, .int x2), (3, .int a'.1), (4, .int a'.2.1), (5, .int a'.2.2)] [] σ) ∧ (∀ b1 : Int32 × XS, y = .inr b1 → XEnd G (some (.int b1.1)) b1.2) := ⟨hc, fun b e => by have h9 := he b e; subst h9; exact hk⟩
  refine ww_iload (pc := 41) C 5 dX12_stiff_41 rfl ?_
  refine ww_aload_n (pc := 43) C 0 dX12_stiff_43 rfl ?_
  obtain ⟨_, e1, hf⟩ := xbd hf
  obtain ⟨v3, e2, hf⟩ := xbd hf
  refine ww_callVi (pc := 44) (as := []) (st := [.int x5]) C (k_X12_states (l := gl G) (E := gE G) (hb := gB G) (σ := σ) e2) rfl (by decide) xc_X12_270 q1555 qp141 (xck_spec e1) rfl (by decide) (xst4 (Nat.le_of_ble_eq_true rfl)) xsame.rf.le xsame.rf.lim dX12_stiff_44 ?_
  refine ww_icmp_ge (pc := 47) (tgt := 114) C dX12_stiff_47 (by decide) (fun q => ?_) (fun q => ?_)
  · have hf := xip q hf
    obtain ⟨b0, hg, e9⟩ := xmj hf
    subst e9
    have hf := hg
    have hk := hk.2 _ rfl
    refine ww_iload_n (pc := 114) C 3 dX12_stiff_114 rfl ?_
    refine ww_ldcw (pc := 115) C q1568 dX12_stiff_115 ?_
    refine ww_icmp_eq (pc := 118) (tgt := 129) C dX12_stiff_118 (by decide) (fun q => ?_) (fun q => ?_)
    · have hf := xip q hf
      refine ww_ldcw (pc := 129) C q1597 dX12_stiff_129 ?_
      refine ww_goto (pc := 132) (tgt := 139) C dX12_stiff_132 (by decide) ?_
      have hf := xsj hf
      subst hf
      exact ww_iret (pc := 139) C hk dX12_stiff_139
    · have hf := xin q hf
      refine ww_iload (pc := 121) C 4 dX12_stiff_121 rfl ?_
      refine ww_ldcw (pc := 123) C q1568 dX12_stiff_123 ?_
      refine ww_icmp_ne (pc := 126) (tgt := 135) C dX12_stiff_126 (by decide) (fun q => ?_) (fun q => ?_)
      · have hf := xin q hf
        refine ww_iload (pc := 135) C 4 dX12_stiff_135 rfl ?_
        refine ww_iload_n (pc := 137) C 3 dX12_stiff_137 rfl ?_
        refine ww_isub (pc := 138) C dX12_stiff_138 ?_
        have hf := xsj hf
        subst hf
        exact ww_iret (pc := 139) C hk dX12_stiff_139
      · have hf := xip q hf
        refine ww_ldcw (pc := 129) C q1597 dX12_stiff_129 ?_
        refine ww_goto (pc := 132) (tgt := 139) C dX12_stiff_132 (by decide) ?_
        have hf := xsj hf
        subst hf
        exact ww_iret (pc := 139) C hk dX12_stiff_139
  · have hf := xin q hf
    refine ww_iload (pc := 50) C 5 dX12_stiff_50 rfl ?_
    refine ww_iload_n (pc := 52) C 1 dX12_stiff_52 rfl ?_
    obtain ⟨v5, e4, hf⟩ := xbd hf
    refine ww_callSi (pc := 53) (as := [.int x5, .int x1]) (st := []) C (k_X12_has (l := gl G) (E := gE G) (hb := gB G) (σ := σ) e4) xc_X12_301 q1630 rfl (by decide) (xst4 (Nat.le_of_ble_eq_true rfl)) xsame.rf.le xsame.rf.lim dX12_stiff_53 ?_
    refine ww_iload (pc := 56) C 5 dX12_stiff_56 rfl ?_
    refine ww_iload_n (pc := 58) C 2 dX12_stiff_58 rfl ?_
    obtain ⟨v7, e6, hf⟩ := xbd hf
    refine ww_callSi (pc := 59) (as := [.int x5, .int x2]) (st := [.int v5]) C (k_X12_has (l := gl G) (E := gE G) (hb := gB G) (σ := σ) e6) xc_X12_301 q1630 rfl (by decide) (xst4 (Nat.le_of_ble_eq_true rfl)) xsame.rf.le xsame.rf.lim dX12_stiff_59 ?_
    refine ww_icmp_ne (pc := 62) (tgt := 87) C dX12_stiff_62 (by decide) (fun q => ?_) (fun q => ?_)
    · have hf := xin q hf
      refine ww_aload_n (pc := 87) C 0 dX12_stiff_87 rfl ?_
      obtain ⟨z9, e8, hf⟩ := xbd hf
      refine gf_X12_57 (pc := 88) C e8 dX12_stiff_88 ?_
      refine ww_iload (pc := 91) C 5 dX12_stiff_91 rfl ?_
      obtain ⟨v11, e10, hf⟩ := xbd hf
      refine ww_iald (pc := 93) C e10 dX12_stiff_93 ?_
      refine ww_iload (pc := 94) C 4 dX12_stiff_94 rfl ?_
      refine ww_icmp_ge (pc := 96) (tgt := 108) C dX12_stiff_96 (by decide) (fun q => ?_) (fun q => ?_)
      · have hf := xip q hf
        refine ww_iinc (pc := 108) (v := x5 + (1 : Int32)) (lv' := [(5, .int (x5 + (1 : Int32))), (0, .ref (gB G + r0)), (1, .int x1), (2, .int x2), (3, .int x3), (4, .int x4)]) C 5 dX12_stiff_108 rfl (congrArg (fun z => x5 + z) (show Int32.ofInt (1) = (1 : Int32) by decide)) (by decide) rfl ?_
        refine ww_goto (pc := 111) (tgt := 41) C dX12_stiff_111 (by decide) ?_
        have hf := xsj hf
        subst hf
        refine ww_sub [1, 2, 3, 4, 5, 0] rfl ?_
        exact hk.1 (x3, x4, x5 + (1 : Int32)) rfl
      · have hf := xin q hf
        refine ww_aload_n (pc := 99) C 0 dX12_stiff_99 rfl ?_
        obtain ⟨z13, e12, hf⟩ := xbd hf
        refine gf_X12_57 (pc := 100) C e12 dX12_stiff_100 ?_
        refine ww_iload (pc := 103) C 5 dX12_stiff_103 rfl ?_
        obtain ⟨v15, e14, hf⟩ := xbd hf
        refine ww_iald (pc := 105) C e14 dX12_stiff_105 ?_
        refine ww_istore (pc := 106) (lv' := [(4, .int v15), (0, .ref (gB G + r0)), (1, .int x1), (2, .int x2), (3, .int x3), (5, .int x5)]) C dX12_stiff_106 (by decide) rfl ?_
        refine ww_iinc (pc := 108) (v := x5 + (1 : Int32)) (lv' := [(5, .int (x5 + (1 : Int32))), (4, .int v15), (0, .ref (gB G + r0)), (1, .int x1), (2, .int x2), (3, .int x3)]) C 5 dX12_stiff_108 rfl (congrArg (fun z => x5 + z) (show Int32.ofInt (1) = (1 : Int32) by decide)) (by decide) rfl ?_
        refine ww_goto (pc := 111) (tgt := 41) C dX12_stiff_111 (by decide) ?_
        have hf := xsj hf
        subst hf
        refine ww_sub [2, 3, 4, 5, 1, 0] rfl ?_
        exact hk.1 (x3, v15, x5 + (1 : Int32)) rfl
    · have hf := xip q hf
      refine ww_aload_n (pc := 65) C 0 dX12_stiff_65 rfl ?_
      obtain ⟨z9, e8, hf⟩ := xbd hf
      refine gf_X12_57 (pc := 66) C e8 dX12_stiff_66 ?_
      refine ww_iload (pc := 69) C 5 dX12_stiff_69 rfl ?_
      obtain ⟨v11, e10, hf⟩ := xbd hf
      refine ww_iald (pc := 71) C e10 dX12_stiff_71 ?_
      refine ww_iload_n (pc := 72) C 3 dX12_stiff_72 rfl ?_
      refine ww_icmp_ge (pc := 73) (tgt := 108) C dX12_stiff_73 (by decide) (fun q => ?_) (fun q => ?_)
      · have hf := xip q hf
        refine ww_iinc (pc := 108) (v := x5 + (1 : Int32)) (lv' := [(5, .int (x5 + (1 : Int32))), (0, .ref (gB G + r0)), (1, .int x1), (2, .int x2), (3, .int x3), (4, .int x4)]) C 5 dX12_stiff_108 rfl (congrArg (fun z => x5 + z) (show Int32.ofInt (1) = (1 : Int32) by decide)) (by decide) rfl ?_
        refine ww_goto (pc := 111) (tgt := 41) C dX12_stiff_111 (by decide) ?_
        have hf := xsj hf
        subst hf
        refine ww_sub [1, 2, 3, 4, 5, 0] rfl ?_
        exact hk.1 (x3, x4, x5 + (1 : Int32)) rfl
      · have hf := xin q hf
        refine ww_aload_n (pc := 76) C 0 dX12_stiff_76 rfl ?_
        obtain ⟨z13, e12, hf⟩ := xbd hf
        refine gf_X12_57 (pc := 77) C e12 dX12_stiff_77 ?_
        refine ww_iload (pc := 80) C 5 dX12_stiff_80 rfl ?_
        obtain ⟨v15, e14, hf⟩ := xbd hf
        refine ww_iald (pc := 82) C e14 dX12_stiff_82 ?_
        refine ww_istore_n (pc := 83) (lv' := [(3, .int v15), (0, .ref (gB G + r0)), (1, .int x1), (2, .int x2), (4, .int x4), (5, .int x5)]) C dX12_stiff_83 (by decide) rfl ?_
        refine ww_goto (pc := 84) (tgt := 108) C dX12_stiff_84 (by decide) ?_
        refine ww_iinc (pc := 108) (v := x5 + (1 : Int32)) (lv' := [(5, .int (x5 + (1 : Int32))), (3, .int v15), (0, .ref (gB G + r0)), (1, .int x1), (2, .int x2), (4, .int x4)]) C 5 dX12_stiff_108 rfl (congrArg (fun z => x5 + z) (show Int32.ofInt (1) = (1 : Int32) by decide)) (by decide) rfl ?_
        refine ww_goto (pc := 111) (tgt := 41) C dX12_stiff_111 (by decide) ?_
        have hf := xsj hf
        subst hf
        refine ww_sub [2, 3, 4, 1, 5, 0] rfl ?_
        exact hk.1 (v15, x4, x5 + (1 : Int32)) rfl
theorem s_X12_stiff_e {G : XG} (C : XC G cX12_stiff RX12 (some .int) 6 4 96) {σ : XS} {r0 : Nat} {x1 : Int32} {x2 : Int32} {x : Int32 × XS} (hf : f_X12_stiff σ r0 x1 x2 = some x) (hk : XEnd G (some (.int x.1)) x.2) : WW G 0 [(0, .ref (gB G + r0)), (1, .int x1), (2, .int x2)] [] σ := by
  refine ww_aload_n (pc := 0) C 0 dX12_stiff_0 rfl ?_
  refine ww_iload_n (pc := 1) C 1 dX12_stiff_1 rfl ?_
  obtain ⟨_, e1, hf⟩ := xbd hf
  obtain ⟨v3, e2, hf⟩ := xbd hf
  refine ww_callVi (pc := 2) (as := [.int x1]) (st := []) C (k_X12_isSite (l := gl G) (E := gE G) (hb := gB G) (σ := σ) e2) rfl (by decide) xc_X12_233 q1508 qp137 (xck_spec e1) rfl (by decide) (xst4 (Nat.le_of_ble_eq_true rfl)) xsame.rf.le xsame.rf.lim dX12_stiff_2 ?_
  refine ww_if_eq (pc := 5) (tgt := 21) C dX12_stiff_5 (by decide) (fun q => ?_) (fun q => ?_)
  · have hf := xip q hf
    refine ww_ldcw (pc := 21) C q1597 dX12_stiff_21 ?_
    have hf := xsj hf
    subst hf
    exact ww_iret (pc := 24) C hk dX12_stiff_24
  · have hf := xin q hf
    refine ww_aload_n (pc := 8) C 0 dX12_stiff_8 rfl ?_
    refine ww_iload_n (pc := 9) C 2 dX12_stiff_9 rfl ?_
    obtain ⟨_, e4, hf⟩ := xbd hf
    obtain ⟨v6, e5, hf⟩ := xbd hf
    refine ww_callVi (pc := 10) (as := [.int x2]) (st := []) C (k_X12_isSite (l := gl G) (E := gE G) (hb := gB G) (σ := σ) e5) rfl (by decide) xc_X12_233 q1508 qp137 (xck_spec e4) rfl (by decide) (xst4 (Nat.le_of_ble_eq_true rfl)) xsame.rf.le xsame.rf.lim dX12_stiff_10 ?_
    refine ww_if_eq (pc := 13) (tgt := 21) C dX12_stiff_13 (by decide) (fun q => ?_) (fun q => ?_)
    · have hf := xip q hf
      refine ww_ldcw (pc := 21) C q1597 dX12_stiff_21 ?_
      have hf := xsj hf
      subst hf
      exact ww_iret (pc := 24) C hk dX12_stiff_24
    · have hf := xin q hf
      refine ww_iload_n (pc := 16) C 1 dX12_stiff_16 rfl ?_
      refine ww_iload_n (pc := 17) C 2 dX12_stiff_17 rfl ?_
      refine ww_icmp_ne (pc := 18) (tgt := 25) C dX12_stiff_18 (by decide) (fun q => ?_) (fun q => ?_)
      · have hf := xin q hf
        refine ww_aload_n (pc := 25) C 0 dX12_stiff_25 rfl ?_
        obtain ⟨_, e7, hf⟩ := xbd hf
        obtain ⟨σ9, e8, hf⟩ := xbd hf
        refine ww_callVv (pc := 26) (as := []) (st := []) C (k_X12_knows (l := gl G) (E := gE G) (hb := gB G) (σ := σ) e8) rfl (by decide) xc_X12_261 q1551 qp140 (xck_spec e7) rfl (by decide) (xst4 (Nat.le_of_ble_eq_true rfl)) (m_X12_knows e8).le (m_X12_knows e8).lim dX12_stiff_26 ?_
        refine ww_ldcw (pc := 29) C q1568 dX12_stiff_29 ?_
        refine ww_istore_n (pc := 32) (lv' := [(3, .int (100000 : Int32)), (0, .ref (gB G + r0)), (1, .int x1), (2, .int x2)]) C dX12_stiff_32 (by decide) rfl ?_
        refine ww_ldcw (pc := 33) C q1568 dX12_stiff_33 ?_
        refine ww_istore (pc := 36) (lv' := [(4, .int (100000 : Int32)), (3, .int (100000 : Int32)), (0, .ref (gB G + r0)), (1, .int x1), (2, .int x2)]) C dX12_stiff_36 (by decide) rfl ?_
        refine ww_iconst (pc := 38) (v := (0 : Int32)) C dX12_stiff_38 (by decide) ?_
        refine ww_istore (pc := 39) (lv' := [(5, .int (0 : Int32)), (4, .int (100000 : Int32)), (3, .int (100000 : Int32)), (0, .ref (gB G + r0)), (1, .int x1), (2, .int x2)]) C dX12_stiff_39 (by decide) rfl ?_
        refine ww_sub [3, 4, 5, 2, 1, 0] rfl ?_
        exact s_X12_stiff_l41 C (a := ((100000 : Int32), (100000 : Int32), (0 : Int32))) hf hk
      · have hf := xip q hf
        refine ww_ldcw (pc := 21) C q1597 dX12_stiff_21 ?_
        have hf := xsj hf
        subst hf
        exact ww_iret (pc := 24) C hk dX12_stiff_24
theorem m_X12_stiff {σ : XS} {r0 : Nat} {x1 : Int32} {x2 : Int32} {x : Int32 × XS} (hf : f_X12_stiff σ r0 x1 x2 = some x) : xsame σ x.2 := by
  have hm := xsame.rf (σ := σ)
  obtain ⟨_, e1, hf⟩ := xbd hf
  obtain ⟨v3, e2, hf⟩ := xbd hf
  by_cases q : v3 = 0
  · have hf := xip q hf
    have hf := xsj hf
    subst hf
    exact hm
  · have hf := xin q hf
    obtain ⟨_, e4, hf⟩ := xbd hf
    obtain ⟨v6, e5, hf⟩ := xbd hf
    by_cases q : v6 = 0
    · have hf := xip q hf
      have hf := xsj hf
      subst hf
      exact hm
    · have hf := xin q hf
      by_cases q : x1 = x2
      · have hf := xip q hf
        have hf := xsj hf
        subst hf
        exact hm
      · have hf := xin q hf
        obtain ⟨_, e7, hf⟩ := xbd hf
        obtain ⟨σ9, e8, hf⟩ := xbd hf
        have hm := hm.tr (m_X12_knows e8)
        exact hm.tr (m_X12_stiff_l41 (a := ((100000 : Int32), (100000 : Int32), (0 : Int32))) hf)
theorem k_X12_stiff {l : Launch} {E : XD} {hb : Nat} {σ : XS} {r0 : Nat} {x1 : Int32} {x2 : Int32} {x : Int32 × XS} (h : f_X12_stiff σ r0 x1 x2 = some x) : XM l yX12_stiff cX12_stiff 6 (some .int) 4 96 E hb [.ref (hb + r0), .int x1, .int x2] σ (some (.int x.1)) x.2 := by
  refine xm_of (by decide) (Nat.le_of_ble_eq_true rfl) (m_X12_stiff h).le (fun G hG C hl hQ => ?_)
  obtain ⟨rfl, rfl, rfl, hN⟩ := hG
  exact s_X12_stiff_e C h hQ
noncomputable def f_X12_stuck_j47 (σ : XS) (r0 : Nat) (x1 : Int32) (x2 : Int32) (x3 : Int32) : Option ((Int32 × Int32) ⊕ (Int32 × XS)) := (xck σ r0 12).bind fun _ => (f_X12_steepest σ r0 x3).bind fun v3 => if 0 ≤ v3 then (some (.inl (x2, x3 + (1 : Int32)))) else some (.inl (x2 + (1 : Int32), x3 + (1 : Int32)))
noncomputable def f_X12_stuck_b8 (σ : XS) (r0 : Nat) (x1 : Int32) : Int32 × Int32 → Option ((Int32 × Int32) ⊕ (Int32 × XS)) := fun a => match a with
  | (x2, x3) => (xck σ r0 12).bind fun _ => (f_X12_states σ r0).bind fun v3 => if v3 ≤ x3 then ((some (x2, σ)).map .inr) else (xgR σ r0 12 33).bind fun z5 => (xaI σ 20 z5 x3).bind fun v7 => if (100000 : Int32) ≤ v7 then (some (.inl (x2, x3 + (1 : Int32)))) else if x1 = 0 then (f_X12_stuck_j47 σ r0 x1 x2 x3) else (xgR σ r0 12 33).bind fun z9 => (xaI σ 20 z9 x3).bind fun v11 => (xgR σ r0 12 36).bind fun z13 => (xaI σ 20 z13 (0 : Int32)).bind fun v15 => if v11 ≤ v15 then (some (.inl (x2, x3 + (1 : Int32)))) else f_X12_stuck_j47 σ r0 x1 x2 x3
noncomputable def f_X12_stuck (σ : XS) (r0 : Nat) (x1 : Int32) : Option (Int32 × XS) := (xck σ r0 12).bind fun _ => (f_X12_knows σ r0).bind fun σ3 => xloop (f_X12_stuck_b8 σ3 r0 x1) ((0 : Int32), (0 : Int32))
theorem s_X12_stuck_j47 {G : XG} (C : XC G cX12_stuck RX12 (some .int) 4 4 96) {σ : XS} {r0 : Nat} {x1 : Int32} {x2 : Int32} {x3 : Int32} {x : ((Int32 × Int32) ⊕ (Int32 × XS))} (hf : f_X12_stuck_j47 σ r0 x1 x2 x3 = some x) (hk : (∀ a' : Int32 × Int32, x = .inl a' → WW G 8 [(0, .ref (gB G + r0)), (1, .int x1), (2, .int a'.1), (3, .int a'.2)] [] σ) ∧ (∀ b1 : Int32 × XS, x = .inr b1 → XEnd G (some (.int b1.1)) b1.2)) : WW G 47 [(0, .ref (gB G + r0)), (1, .int x1), (2, .int x2), (3, .int x3)] [] σ := by
  refine ww_aload_n (pc := 47) C 0 dX12_stuck_47 rfl ?_
  refine ww_iload_n (pc := 48) C 3 dX12_stuck_48 rfl ?_
  obtain ⟨_, e1, hf⟩ := xbd hf
  obtain ⟨v3, e2, hf⟩ := xbd hf
  refine ww_callVi (pc := 49) (as := [.int x3]) (st := []) C (k_X12_steepest (l := gl G) (E := gE G) (hb := gB G) (σ := σ) e2) rfl (by decide) xc_X12_321 q1575 qp145 (xck_spec e1) rfl (by decide) (xst4 (Nat.le_of_ble_eq_true rfl)) xsame.rf.le xsame.rf.lim dX12_stuck_49 ?_
  refine ww_if_ge (pc := 52) (tgt := 58) C dX12_stuck_52 (by decide) (fun q => ?_) (fun q => ?_)
  · have hf := xip q hf
    refine ww_iinc (pc := 58) (v := x3 + (1 : Int32)) (lv' := [(3, .int (x3 + (1 : Int32))), (0, .ref (gB G + r0)), (1, .int x1), (2, .int x2)]) C 3 dX12_stuck_58 rfl (congrArg (fun z => x3 + z) (show Int32.ofInt (1) = (1 : Int32) by decide)) (by decide) rfl ?_
    refine ww_goto (pc := 61) (tgt := 8) C dX12_stuck_61 (by decide) ?_
    have hf := xsj hf
    subst hf
    refine ww_sub [1, 2, 3, 0] rfl ?_
    exact hk.1 (x2, x3 + (1 : Int32)) rfl
  · have hf := xin q hf
    refine ww_iinc (pc := 55) (v := x2 + (1 : Int32)) (lv' := [(2, .int (x2 + (1 : Int32))), (0, .ref (gB G + r0)), (1, .int x1), (3, .int x3)]) C 2 dX12_stuck_55 rfl (congrArg (fun z => x2 + z) (show Int32.ofInt (1) = (1 : Int32) by decide)) (by decide) rfl ?_
    refine ww_iinc (pc := 58) (v := x3 + (1 : Int32)) (lv' := [(3, .int (x3 + (1 : Int32))), (2, .int (x2 + (1 : Int32))), (0, .ref (gB G + r0)), (1, .int x1)]) C 3 dX12_stuck_58 rfl (congrArg (fun z => x3 + z) (show Int32.ofInt (1) = (1 : Int32) by decide)) (by decide) rfl ?_
    refine ww_goto (pc := 61) (tgt := 8) C dX12_stuck_61 (by decide) ?_
    have hf := xsj hf
    subst hf
    refine ww_sub [2, 3, 1, 0] rfl ?_
    exact hk.1 (x2 + (1 : Int32), x3 + (1 : Int32)) rfl
theorem m_X12_stuck_j47 {σ : XS} {r0 : Nat} {x1 : Int32} {x2 : Int32} {x3 : Int32} {x : ((Int32 × Int32) ⊕ (Int32 × XS))} (hf : f_X12_stuck_j47 σ r0 x1 x2 x3 = some x) : (∀ a' : Int32 × Int32, x = .inl a' → True) ∧ (∀ b1 : Int32 × XS, x = .inr b1 → xsame σ b1.2) := by
  have hm := xsame.rf (σ := σ)
  obtain ⟨_, e1, hf⟩ := xbd hf
  obtain ⟨v3, e2, hf⟩ := xbd hf
  by_cases q : 0 ≤ v3
  · have hf := xip q hf
    have hf := xsj hf
    subst hf
    exact ⟨fun a' e => (by have h9 := Sum.inl.inj e; subst h9; exact trivial), fun b e => xnc1 e⟩
  · have hf := xin q hf
    have hf := xsj hf
    subst hf
    exact ⟨fun a' e => (by have h9 := Sum.inl.inj e; subst h9; exact trivial), fun b e => xnc1 e⟩
theorem m_X12_stuck_l8 {σ : XS} {r0 : Nat} {x1 : Int32} {a : Int32 × Int32} {x : Int32 × XS} (hf : xloop (f_X12_stuck_b8 σ r0 x1) a = some x) : xsame σ x.2 := by
  refine xloop_ind (P := fun a => xsame σ x.2) (fun a y hf hc he => ?_) hf
  obtain ⟨x2, x3⟩ := a
  have hy : (∀ a' : Int32 × Int32, y = .inl a' → True) ∧ (∀ b1 : Int32 × XS, y = .inr b1 → xsame σ b1.2) := by
    have hm := xsame.rf (σ := σ)
    obtain ⟨_, e1, hf⟩ := xbd hf
    obtain ⟨v3, e2, hf⟩ := xbd hf
    by_cases q : v3 ≤ x3
    · have hf := xip q hf
      obtain ⟨b0, hg, e9⟩ := xmj hf
      subst e9
      have hf := hg
      refine ⟨fun a' e => xnc2 e, fun b e => ?_⟩
      have h9 := Sum.inr.inj e
      subst h9
      have hf := xsj hf
      subst hf
      exact hm
    · have hf := xin q hf
      obtain ⟨z5, e4, hf⟩ := xbd hf
      obtain ⟨v7, e6, hf⟩ := xbd hf
      by_cases q : (100000 : Int32) ≤ v7
      · have hf := xip q hf
        have hf := xsj hf
        subst hf
        exact ⟨fun a' e => (by have h9 := Sum.inl.inj e; subst h9; exact trivial), fun b e => xnc1 e⟩
      · have hf := xin q hf
        by_cases q : x1 = 0
        · have hf := xip q hf
          exact ⟨fun _ _ => trivial, fun b1 eb1 => hm.tr ((m_X12_stuck_j47 hf).2 b1 eb1)⟩
        · have hf := xin q hf
          obtain ⟨z9, e8, hf⟩ := xbd hf
          obtain ⟨v11, e10, hf⟩ := xbd hf
          obtain ⟨z13, e12, hf⟩ := xbd hf
          obtain ⟨v15, e14, hf⟩ := xbd hf
          by_cases q : v11 ≤ v15
          · have hf := xip q hf
            have hf := xsj hf
            subst hf
            exact ⟨fun a' e => (by have h9 := Sum.inl.inj e; subst h9; exact trivial), fun b e => xnc1 e⟩
          · have hf := xin q hf
            exact ⟨fun _ _ => trivial, fun b1 eb1 => hm.tr ((m_X12_stuck_j47 hf).2 b1 eb1)⟩
  cases y with
  | inl a' =>
    have h1 := hc a' rfl
    exact h1
  | inr b =>
    have h1 := he b rfl
    subst h1
    exact hy.2 _ rfl
theorem s_X12_stuck_l8 {G : XG} (C : XC G cX12_stuck RX12 (some .int) 4 4 96) {σ : XS} {r0 : Nat} {x1 : Int32} {a : Int32 × Int32} {x : Int32 × XS} (hf : xloop (f_X12_stuck_b8 σ r0 x1) a = some x) (hk : XEnd G (some (.int x.1)) x.2) : WW G 8 [(0, .ref (gB G + r0)), (1, .int x1), (2, .int a.1), (3, .int a.2)] [] σ := by
  refine xloop_ind (P := fun a => WW G 8 [(0, .ref (gB G + r0)), (1, .int x1), (2, .int a.1), (3, .int a.2)] [] σ) (fun a y hf hc he => ?_) hf
  obtain ⟨x2, x3⟩ := a
  have hk : (∀ a' : Int32 × Int32, y = .inl a' → WW G 8 [(0, .ref (gB G + r0)), (1, .int x1), (2, .int a'.1), (3, .int a'.2)] [] σ) ∧ (∀ b1 : Int32 × XS, y = .inr b1 → XEnd G (some (.int b1.1)) b1.2) := ⟨hc, fun b e => by have h9 := he b e; subst h9; exact hk⟩
  refine ww_iload_n (pc := 8) C 3 dX12_stuck_8 rfl ?_
  refine ww_aload_n (pc := 9) C 0 dX12_stuck_9 rfl ?_
  obtain ⟨_, e1, hf⟩ := xbd hf
  obtain ⟨v3, e2, hf⟩ := xbd hf
  refine ww_callVi (pc := 10) (as := []) (st := [.int x3]) C (k_X12_states (l := gl G) (E := gE G) (hb := gB G) (σ := σ) e2) rfl (by decide) xc_X12_270 q1555 qp141 (xck_spec e1) rfl (by decide) (xst4 (Nat.le_of_ble_eq_true rfl)) xsame.rf.le xsame.rf.lim dX12_stuck_10 ?_
  refine ww_icmp_ge (pc := 13) (tgt := 64) C dX12_stuck_13 (by decide) (fun q => ?_) (fun q => ?_)
  · have hf := xip q hf
    obtain ⟨b0, hg, e9⟩ := xmj hf
    subst e9
    have hf := hg
    have hk := hk.2 _ rfl
    refine ww_iload_n (pc := 64) C 2 dX12_stuck_64 rfl ?_
    have hf := xsj hf
    subst hf
    exact ww_iret (pc := 65) C hk dX12_stuck_65
  · have hf := xin q hf
    refine ww_aload_n (pc := 16) C 0 dX12_stuck_16 rfl ?_
    obtain ⟨z5, e4, hf⟩ := xbd hf
    refine gf_X12_57 (pc := 17) C e4 dX12_stuck_17 ?_
    refine ww_iload_n (pc := 20) C 3 dX12_stuck_20 rfl ?_
    obtain ⟨v7, e6, hf⟩ := xbd hf
    refine ww_iald (pc := 21) C e6 dX12_stuck_21 ?_
    refine ww_ldcw (pc := 22) C q1568 dX12_stuck_22 ?_
    refine ww_icmp_ge (pc := 25) (tgt := 58) C dX12_stuck_25 (by decide) (fun q => ?_) (fun q => ?_)
    · have hf := xip q hf
      refine ww_iinc (pc := 58) (v := x3 + (1 : Int32)) (lv' := [(3, .int (x3 + (1 : Int32))), (0, .ref (gB G + r0)), (1, .int x1), (2, .int x2)]) C 3 dX12_stuck_58 rfl (congrArg (fun z => x3 + z) (show Int32.ofInt (1) = (1 : Int32) by decide)) (by decide) rfl ?_
      refine ww_goto (pc := 61) (tgt := 8) C dX12_stuck_61 (by decide) ?_
      have hf := xsj hf
      subst hf
      refine ww_sub [1, 2, 3, 0] rfl ?_
      exact hk.1 (x2, x3 + (1 : Int32)) rfl
    · have hf := xin q hf
      refine ww_iload_n (pc := 28) C 1 dX12_stuck_28 rfl ?_
      refine ww_if_eq (pc := 29) (tgt := 47) C dX12_stuck_29 (by decide) (fun q => ?_) (fun q => ?_)
      · have hf := xip q hf
        refine ww_sub [0, 1, 2, 3] rfl ?_
        exact s_X12_stuck_j47 C hf hk
      · have hf := xin q hf
        refine ww_aload_n (pc := 32) C 0 dX12_stuck_32 rfl ?_
        obtain ⟨z9, e8, hf⟩ := xbd hf
        refine gf_X12_57 (pc := 33) C e8 dX12_stuck_33 ?_
        refine ww_iload_n (pc := 36) C 3 dX12_stuck_36 rfl ?_
        obtain ⟨v11, e10, hf⟩ := xbd hf
        refine ww_iald (pc := 37) C e10 dX12_stuck_37 ?_
        refine ww_aload_n (pc := 38) C 0 dX12_stuck_38 rfl ?_
        obtain ⟨z13, e12, hf⟩ := xbd hf
        refine gf_X12_63 (pc := 39) C e12 dX12_stuck_39 ?_
        refine ww_iconst (pc := 42) (v := (0 : Int32)) C dX12_stuck_42 (by decide) ?_
        obtain ⟨v15, e14, hf⟩ := xbd hf
        refine ww_iald (pc := 43) C e14 dX12_stuck_43 ?_
        refine ww_icmp_le (pc := 44) (tgt := 58) C dX12_stuck_44 (by decide) (fun q => ?_) (fun q => ?_)
        · have hf := xip q hf
          refine ww_iinc (pc := 58) (v := x3 + (1 : Int32)) (lv' := [(3, .int (x3 + (1 : Int32))), (0, .ref (gB G + r0)), (1, .int x1), (2, .int x2)]) C 3 dX12_stuck_58 rfl (congrArg (fun z => x3 + z) (show Int32.ofInt (1) = (1 : Int32) by decide)) (by decide) rfl ?_
          refine ww_goto (pc := 61) (tgt := 8) C dX12_stuck_61 (by decide) ?_
          have hf := xsj hf
          subst hf
          refine ww_sub [1, 2, 3, 0] rfl ?_
          exact hk.1 (x2, x3 + (1 : Int32)) rfl
        · have hf := xin q hf
          refine ww_sub [0, 1, 2, 3] rfl ?_
          exact s_X12_stuck_j47 C hf hk
theorem s_X12_stuck_e {G : XG} (C : XC G cX12_stuck RX12 (some .int) 4 4 96) {σ : XS} {r0 : Nat} {x1 : Int32} {x : Int32 × XS} (hf : f_X12_stuck σ r0 x1 = some x) (hk : XEnd G (some (.int x.1)) x.2) : WW G 0 [(0, .ref (gB G + r0)), (1, .int x1)] [] σ := by
  refine ww_aload_n (pc := 0) C 0 dX12_stuck_0 rfl ?_
  obtain ⟨_, e1, hf⟩ := xbd hf
  obtain ⟨σ3, e2, hf⟩ := xbd hf
  refine ww_callVv (pc := 1) (as := []) (st := []) C (k_X12_knows (l := gl G) (E := gE G) (hb := gB G) (σ := σ) e2) rfl (by decide) xc_X12_261 q1551 qp140 (xck_spec e1) rfl (by decide) (xst4 (Nat.le_of_ble_eq_true rfl)) (m_X12_knows e2).le (m_X12_knows e2).lim dX12_stuck_1 ?_
  refine ww_iconst (pc := 4) (v := (0 : Int32)) C dX12_stuck_4 (by decide) ?_
  refine ww_istore_n (pc := 5) (lv' := [(2, .int (0 : Int32)), (0, .ref (gB G + r0)), (1, .int x1)]) C dX12_stuck_5 (by decide) rfl ?_
  refine ww_iconst (pc := 6) (v := (0 : Int32)) C dX12_stuck_6 (by decide) ?_
  refine ww_istore_n (pc := 7) (lv' := [(3, .int (0 : Int32)), (2, .int (0 : Int32)), (0, .ref (gB G + r0)), (1, .int x1)]) C dX12_stuck_7 (by decide) rfl ?_
  refine ww_sub [2, 3, 1, 0] rfl ?_
  exact s_X12_stuck_l8 C (a := ((0 : Int32), (0 : Int32))) hf hk
theorem m_X12_stuck {σ : XS} {r0 : Nat} {x1 : Int32} {x : Int32 × XS} (hf : f_X12_stuck σ r0 x1 = some x) : xsame σ x.2 := by
  have hm := xsame.rf (σ := σ)
  obtain ⟨_, e1, hf⟩ := xbd hf
  obtain ⟨σ3, e2, hf⟩ := xbd hf
  have hm := hm.tr (m_X12_knows e2)
  exact hm.tr (m_X12_stuck_l8 (a := ((0 : Int32), (0 : Int32))) hf)
theorem k_X12_stuck {l : Launch} {E : XD} {hb : Nat} {σ : XS} {r0 : Nat} {x1 : Int32} {x : Int32 × XS} (h : f_X12_stuck σ r0 x1 = some x) : XM l yX12_stuck cX12_stuck 4 (some .int) 4 96 E hb [.ref (hb + r0), .int x1] σ (some (.int x.1)) x.2 := by
  refine xm_of (by decide) (Nat.le_of_ble_eq_true rfl) (m_X12_stuck h).le (fun G hG C hl hQ => ?_)
  obtain ⟨rfl, rfl, rfl, hN⟩ := hG
  exact s_X12_stuck_e C h hQ
noncomputable def f_X12_tie_j60 (σ : XS) (r0 : Nat) (x1 : Int32) (x3 : Int32) (t0 : Nat) (t1 : Int32) : Option (Int32 × XS) := (xsI σ 20 t0 (t1 + x1) x3).bind fun σ2 => (xpI σ2 r0 12 32 (0 : Int32)).bind fun σ4 => some ((1 : Int32), σ4)
noncomputable def f_X12_tie (σ : XS) (r0 : Nat) (x1 : Int32) (x2 : Int32) (x3 : Int32) : Option (Int32 × XS) := (xck σ r0 12).bind fun _ => (f_X12_isSite σ r0 x1).bind fun v3 => if v3 = 0 then (some ((0 : Int32), σ)) else (f_X12_in x3 (-3 : Int32) (3 : Int32)).bind fun v5 => if v5 = 0 then (some ((0 : Int32), σ)) else (xck σ r0 12).bind fun _ => (f_X12_tieTo σ r0 x1 x2).bind fun v8 => if v8 < 0 then (some ((0 : Int32), σ)) else (xgR σ r0 12 21).bind fun z10 => (f_X12_jOf σ z10 x1 x2).bind fun v12 => if v12 = x3 then (some ((0 : Int32), σ)) else (xck σ r0 12).bind fun _ => (f_X12_marks σ r0).bind fun σ15 => (xgR σ15 r0 12 21).bind fun z17 => if x2 = 0 then (f_X12_tie_j60 σ15 r0 x1 x3 z17 (0 : Int32)) else f_X12_tie_j60 σ15 r0 x1 x3 z17 (16 : Int32)
theorem s_X12_tie_j60 {G : XG} (C : XC G cX12_tie RX12 (some .boolean) 4 2 48) {σ : XS} {r0 : Nat} {x1 : Int32} {x3 : Int32} {t0 : Nat} {t1 : Int32} {x : Int32 × XS} (hf : f_X12_tie_j60 σ r0 x1 x3 t0 t1 = some x) (hk : XEnd G (some (.int x.1)) x.2) : WW G 60 [(0, .ref (gB G + r0)), (1, .int x1), (3, .int x3)] [.int t1, .ref (gB G + t0)] σ := by
  refine ww_iload_n (pc := 60) C 1 dX12_tie_60 rfl ?_
  refine ww_iadd (pc := 61) C dX12_tie_61 ?_
  refine ww_iload_n (pc := 62) C 2 dX12_tie_62 rfl ?_
  obtain ⟨σ2, e1, hf⟩ := xbd hf
  refine ww_iast (pc := 63) C e1 dX12_tie_63 ?_
  refine ww_aload_n (pc := 64) C 0 dX12_tie_64 rfl ?_
  refine ww_iconst (pc := 65) (v := (0 : Int32)) C dX12_tie_65 (by decide) ?_
  obtain ⟨σ4, e3, hf⟩ := xbd hf
  refine pf_X12_200 (pc := 66) C (Or.inl rfl) e3 dX12_tie_66 ?_
  refine ww_iconst (pc := 69) (v := (1 : Int32)) C dX12_tie_69 (by decide) ?_
  have hf := xsj hf
  subst hf
  exact ww_zret (pc := 70) C rfl hk dX12_tie_70
theorem m_X12_tie_j60 {σ : XS} {r0 : Nat} {x1 : Int32} {x3 : Int32} {t0 : Nat} {t1 : Int32} {x : Int32 × XS} (hf : f_X12_tie_j60 σ r0 x1 x3 t0 t1 = some x) : xsame σ x.2 := by
  have hm := xsame.rf (σ := σ)
  obtain ⟨σ2, e1, hf⟩ := xbd hf
  have hm := hm.tr (xsI_same e1)
  obtain ⟨σ4, e3, hf⟩ := xbd hf
  have hm := hm.tr (xpI_same e3)
  have hf := xsj hf
  subst hf
  exact hm
theorem s_X12_tie_e {G : XG} (C : XC G cX12_tie RX12 (some .boolean) 4 2 48) {σ : XS} {r0 : Nat} {x1 : Int32} {x2 : Int32} {x3 : Int32} {x : Int32 × XS} (hf : f_X12_tie σ r0 x1 x2 x3 = some x) (hk : XEnd G (some (.int x.1)) x.2) : WW G 0 [(0, .ref (gB G + r0)), (1, .int x1), (2, .int x2), (3, .int x3)] [] σ := by
  refine ww_aload_n (pc := 0) C 0 dX12_tie_0 rfl ?_
  refine ww_iload_n (pc := 1) C 1 dX12_tie_1 rfl ?_
  obtain ⟨_, e1, hf⟩ := xbd hf
  obtain ⟨v3, e2, hf⟩ := xbd hf
  refine ww_callVi (pc := 2) (as := [.int x1]) (st := []) C (k_X12_isSite (l := gl G) (E := gE G) (hb := gB G) (σ := σ) e2) rfl (by decide) xc_X12_233 q1508 qp137 (xck_spec e1) rfl (by decide) (xst4 (Nat.le_of_ble_eq_true rfl)) xsame.rf.le xsame.rf.lim dX12_tie_2 ?_
  refine ww_if_eq (pc := 5) (tgt := 40) C dX12_tie_5 (by decide) (fun q => ?_) (fun q => ?_)
  · have hf := xip q hf
    refine ww_iconst (pc := 40) (v := (0 : Int32)) C dX12_tie_40 (by decide) ?_
    have hf := xsj hf
    subst hf
    exact ww_zret (pc := 41) C rfl hk dX12_tie_41
  · have hf := xin q hf
    refine ww_iload_n (pc := 8) C 3 dX12_tie_8 rfl ?_
    refine ww_bipush (pc := 9) (v := (-3 : Int32)) C dX12_tie_9 (by decide) ?_
    refine ww_iconst (pc := 11) (v := (3 : Int32)) C dX12_tie_11 (by decide) ?_
    obtain ⟨v5, e4, hf⟩ := xbd hf
    refine ww_callSi (pc := 12) (as := [.int x3, .int (-3 : Int32), .int (3 : Int32)]) (st := []) C (k_X12_in (l := gl G) (E := gE G) (hb := gB G) (σ := σ) e4) xc_X12_213 q1473 rfl (by decide) (xst4 (Nat.le_of_ble_eq_true rfl)) xsame.rf.le xsame.rf.lim dX12_tie_12 ?_
    refine ww_if_eq (pc := 15) (tgt := 40) C dX12_tie_15 (by decide) (fun q => ?_) (fun q => ?_)
    · have hf := xip q hf
      refine ww_iconst (pc := 40) (v := (0 : Int32)) C dX12_tie_40 (by decide) ?_
      have hf := xsj hf
      subst hf
      exact ww_zret (pc := 41) C rfl hk dX12_tie_41
    · have hf := xin q hf
      refine ww_aload_n (pc := 18) C 0 dX12_tie_18 rfl ?_
      refine ww_iload_n (pc := 19) C 1 dX12_tie_19 rfl ?_
      refine ww_iload_n (pc := 20) C 2 dX12_tie_20 rfl ?_
      obtain ⟨_, e6, hf⟩ := xbd hf
      obtain ⟨v8, e7, hf⟩ := xbd hf
      refine ww_callVi (pc := 21) (as := [.int x1, .int x2]) (st := []) C (k_X12_tieTo (l := gl G) (E := gE G) (hb := gB G) (σ := σ) e7) rfl (by decide) xc_X12_236 q1512 qp138 (xck_spec e6) rfl (by decide) (xst4 (Nat.le_of_ble_eq_true rfl)) xsame.rf.le xsame.rf.lim dX12_tie_21 ?_
      refine ww_if_lt (pc := 24) (tgt := 40) C dX12_tie_24 (by decide) (fun q => ?_) (fun q => ?_)
      · have hf := xip q hf
        refine ww_iconst (pc := 40) (v := (0 : Int32)) C dX12_tie_40 (by decide) ?_
        have hf := xsj hf
        subst hf
        exact ww_zret (pc := 41) C rfl hk dX12_tie_41
      · have hf := xin q hf
        refine ww_aload_n (pc := 27) C 0 dX12_tie_27 rfl ?_
        obtain ⟨z10, e9, hf⟩ := xbd hf
        refine gf_X12_40 (pc := 28) C e9 dX12_tie_28 ?_
        refine ww_iload_n (pc := 31) C 1 dX12_tie_31 rfl ?_
        refine ww_iload_n (pc := 32) C 2 dX12_tie_32 rfl ?_
        obtain ⟨v12, e11, hf⟩ := xbd hf
        refine ww_callSi (pc := 33) (as := [.ref (gB G + z10), .int x1, .int x2]) (st := []) C (k_X12_jOf (l := gl G) (E := gE G) (hb := gB G) (σ := σ) e11) xc_X12_240 q1515 rfl (by decide) (xst4 (Nat.le_of_ble_eq_true rfl)) xsame.rf.le xsame.rf.lim dX12_tie_33 ?_
        refine ww_iload_n (pc := 36) C 3 dX12_tie_36 rfl ?_
        refine ww_icmp_ne (pc := 37) (tgt := 42) C dX12_tie_37 (by decide) (fun q => ?_) (fun q => ?_)
        · have hf := xin q hf
          refine ww_aload_n (pc := 42) C 0 dX12_tie_42 rfl ?_
          obtain ⟨_, e13, hf⟩ := xbd hf
          obtain ⟨σ15, e14, hf⟩ := xbd hf
          refine ww_callVv (pc := 43) (as := []) (st := []) C (k_X12_marks (l := gl G) (E := gE G) (hb := gB G) (σ := σ) e14) rfl (by decide) xc_X12_244 q1519 qp139 (xck_spec e13) rfl (by decide) (xst4 (Nat.le_of_ble_eq_true rfl)) (m_X12_marks e14).le (m_X12_marks e14).lim dX12_tie_43 ?_
          refine ww_aload_n (pc := 46) C 0 dX12_tie_46 rfl ?_
          obtain ⟨z17, e16, hf⟩ := xbd hf
          refine gf_X12_40 (pc := 47) C e16 dX12_tie_47 ?_
          refine ww_iload_n (pc := 50) C 2 dX12_tie_50 rfl ?_
          refine ww_if_eq (pc := 51) (tgt := 59) C dX12_tie_51 (by decide) (fun q => ?_) (fun q => ?_)
          · have hf := xip q hf
            refine ww_iconst (pc := 59) (v := (0 : Int32)) C dX12_tie_59 (by decide) ?_
            refine ww_sub [0, 1, 3] rfl ?_
            exact s_X12_tie_j60 C hf hk
          · have hf := xin q hf
            refine ww_bipush (pc := 54) (v := (16 : Int32)) C dX12_tie_54 (by decide) ?_
            refine ww_goto (pc := 56) (tgt := 60) C dX12_tie_56 (by decide) ?_
            refine ww_sub [0, 1, 3] rfl ?_
            exact s_X12_tie_j60 C hf hk
        · have hf := xip q hf
          refine ww_iconst (pc := 40) (v := (0 : Int32)) C dX12_tie_40 (by decide) ?_
          have hf := xsj hf
          subst hf
          exact ww_zret (pc := 41) C rfl hk dX12_tie_41
theorem m_X12_tie {σ : XS} {r0 : Nat} {x1 : Int32} {x2 : Int32} {x3 : Int32} {x : Int32 × XS} (hf : f_X12_tie σ r0 x1 x2 x3 = some x) : xsame σ x.2 := by
  have hm := xsame.rf (σ := σ)
  obtain ⟨_, e1, hf⟩ := xbd hf
  obtain ⟨v3, e2, hf⟩ := xbd hf
  by_cases q : v3 = 0
  · have hf := xip q hf
    have hf := xsj hf
    subst hf
    exact hm
  · have hf := xin q hf
    obtain ⟨v5, e4, hf⟩ := xbd hf
    by_cases q : v5 = 0
    · have hf := xip q hf
      have hf := xsj hf
      subst hf
      exact hm
    · have hf := xin q hf
      obtain ⟨_, e6, hf⟩ := xbd hf
      obtain ⟨v8, e7, hf⟩ := xbd hf
      by_cases q : v8 < 0
      · have hf := xip q hf
        have hf := xsj hf
        subst hf
        exact hm
      · have hf := xin q hf
        obtain ⟨z10, e9, hf⟩ := xbd hf
        obtain ⟨v12, e11, hf⟩ := xbd hf
        by_cases q : v12 = x3
        · have hf := xip q hf
          have hf := xsj hf
          subst hf
          exact hm
        · have hf := xin q hf
          obtain ⟨_, e13, hf⟩ := xbd hf
          obtain ⟨σ15, e14, hf⟩ := xbd hf
          have hm := hm.tr (m_X12_marks e14)
          obtain ⟨z17, e16, hf⟩ := xbd hf
          by_cases q : x2 = 0
          · have hf := xip q hf
            exact hm.tr (m_X12_tie_j60 hf)
          · have hf := xin q hf
            exact hm.tr (m_X12_tie_j60 hf)
theorem k_X12_tie {l : Launch} {E : XD} {hb : Nat} {σ : XS} {r0 : Nat} {x1 : Int32} {x2 : Int32} {x3 : Int32} {x : Int32 × XS} (h : f_X12_tie σ r0 x1 x2 x3 = some x) : XM l yX12_tie cX12_tie 4 (some .boolean) 2 48 E hb [.ref (hb + r0), .int x1, .int x2, .int x3] σ (some (.int x.1)) x.2 := by
  refine xm_of (by decide) (Nat.le_of_ble_eq_true rfl) (m_X12_tie h).le (fun G hG C hl hQ => ?_)
  obtain ⟨rfl, rfl, rfl, hN⟩ := hG
  exact s_X12_tie_e C h hQ
noncomputable def f_X12_turn (σ : XS) (r0 : Nat) (x1 : Int32) : Option (Int32 × XS) := (xck σ r0 12).bind fun _ => (f_X12_isSite σ r0 x1).bind fun v3 => if v3 = 0 then (some ((0 : Int32), σ)) else (xgR σ r0 12 21).bind fun z5 => (xaI σ 20 z5 ((48 : Int32) + x1)).bind fun v7 => if v7 ≤ 0 then ((xck σ r0 12).bind fun _ => (f_X12_marks σ r0).bind fun σ10 => (xgR σ10 r0 12 21).bind fun z12 => (xaI σ10 20 z12 (64 : Int32)).bind fun v14 => (xsI σ10 20 z12 (64 : Int32) (v14 ^^^ ((1 : Int32) <<< (x1 &&& 31)))).bind fun σ16 => some ((1 : Int32), σ16)) else some ((0 : Int32), σ)
theorem s_X12_turn_e {G : XG} (C : XC G cX12_turn RX12 (some .boolean) 2 2 43) {σ : XS} {r0 : Nat} {x1 : Int32} {x : Int32 × XS} (hf : f_X12_turn σ r0 x1 = some x) (hk : XEnd G (some (.int x.1)) x.2) : WW G 0 [(0, .ref (gB G + r0)), (1, .int x1)] [] σ := by
  refine ww_aload_n (pc := 0) C 0 dX12_turn_0 rfl ?_
  refine ww_iload_n (pc := 1) C 1 dX12_turn_1 rfl ?_
  obtain ⟨_, e1, hf⟩ := xbd hf
  obtain ⟨v3, e2, hf⟩ := xbd hf
  refine ww_callVi (pc := 2) (as := [.int x1]) (st := []) C (k_X12_isSite (l := gl G) (E := gE G) (hb := gB G) (σ := σ) e2) rfl (by decide) xc_X12_233 q1508 qp137 (xck_spec e1) rfl (by decide) (xst4 (Nat.le_of_ble_eq_true rfl)) xsame.rf.le xsame.rf.lim dX12_turn_2 ?_
  refine ww_if_eq (pc := 5) (tgt := 20) C dX12_turn_5 (by decide) (fun q => ?_) (fun q => ?_)
  · have hf := xip q hf
    refine ww_iconst (pc := 20) (v := (0 : Int32)) C dX12_turn_20 (by decide) ?_
    have hf := xsj hf
    subst hf
    exact ww_zret (pc := 21) C rfl hk dX12_turn_21
  · have hf := xin q hf
    refine ww_aload_n (pc := 8) C 0 dX12_turn_8 rfl ?_
    obtain ⟨z5, e4, hf⟩ := xbd hf
    refine gf_X12_40 (pc := 9) C e4 dX12_turn_9 ?_
    refine ww_bipush (pc := 12) (v := (48 : Int32)) C dX12_turn_12 (by decide) ?_
    refine ww_iload_n (pc := 14) C 1 dX12_turn_14 rfl ?_
    refine ww_iadd (pc := 15) C dX12_turn_15 ?_
    obtain ⟨v7, e6, hf⟩ := xbd hf
    refine ww_iald (pc := 16) C e6 dX12_turn_16 ?_
    refine ww_if_le (pc := 17) (tgt := 22) C dX12_turn_17 (by decide) (fun q => ?_) (fun q => ?_)
    · have hf := xip q hf
      refine ww_aload_n (pc := 22) C 0 dX12_turn_22 rfl ?_
      obtain ⟨_, e8, hf⟩ := xbd hf
      obtain ⟨σ10, e9, hf⟩ := xbd hf
      refine ww_callVv (pc := 23) (as := []) (st := []) C (k_X12_marks (l := gl G) (E := gE G) (hb := gB G) (σ := σ) e9) rfl (by decide) xc_X12_244 q1519 qp139 (xck_spec e8) rfl (by decide) (xst4 (Nat.le_of_ble_eq_true rfl)) (m_X12_marks e9).le (m_X12_marks e9).lim dX12_turn_23 ?_
      refine ww_aload_n (pc := 26) C 0 dX12_turn_26 rfl ?_
      obtain ⟨z12, e11, hf⟩ := xbd hf
      refine gf_X12_40 (pc := 27) C e11 dX12_turn_27 ?_
      refine ww_bipush (pc := 30) (v := (64 : Int32)) C dX12_turn_30 (by decide) ?_
      refine ww_dup2 (pc := 32) C dX12_turn_32 rfl rfl ?_
      obtain ⟨v14, e13, hf⟩ := xbd hf
      refine ww_iald (pc := 33) C e13 dX12_turn_33 ?_
      refine ww_iconst (pc := 34) (v := (1 : Int32)) C dX12_turn_34 (by decide) ?_
      refine ww_iload_n (pc := 35) C 1 dX12_turn_35 rfl ?_
      refine ww_ishl (pc := 36) C dX12_turn_36 ?_
      refine ww_ixor (pc := 37) C dX12_turn_37 ?_
      obtain ⟨σ16, e15, hf⟩ := xbd hf
      refine ww_iast (pc := 38) C e15 dX12_turn_38 ?_
      refine ww_iconst (pc := 39) (v := (1 : Int32)) C dX12_turn_39 (by decide) ?_
      have hf := xsj hf
      subst hf
      exact ww_zret (pc := 40) C rfl hk dX12_turn_40
    · have hf := xin q hf
      refine ww_iconst (pc := 20) (v := (0 : Int32)) C dX12_turn_20 (by decide) ?_
      have hf := xsj hf
      subst hf
      exact ww_zret (pc := 21) C rfl hk dX12_turn_21
theorem m_X12_turn {σ : XS} {r0 : Nat} {x1 : Int32} {x : Int32 × XS} (hf : f_X12_turn σ r0 x1 = some x) : xsame σ x.2 := by
  have hm := xsame.rf (σ := σ)
  obtain ⟨_, e1, hf⟩ := xbd hf
  obtain ⟨v3, e2, hf⟩ := xbd hf
  by_cases q : v3 = 0
  · have hf := xip q hf
    have hf := xsj hf
    subst hf
    exact hm
  · have hf := xin q hf
    obtain ⟨z5, e4, hf⟩ := xbd hf
    obtain ⟨v7, e6, hf⟩ := xbd hf
    by_cases q : v7 ≤ 0
    · have hf := xip q hf
      obtain ⟨_, e8, hf⟩ := xbd hf
      obtain ⟨σ10, e9, hf⟩ := xbd hf
      have hm := hm.tr (m_X12_marks e9)
      obtain ⟨z12, e11, hf⟩ := xbd hf
      obtain ⟨v14, e13, hf⟩ := xbd hf
      obtain ⟨σ16, e15, hf⟩ := xbd hf
      have hm := hm.tr (xsI_same e15)
      have hf := xsj hf
      subst hf
      exact hm
    · have hf := xin q hf
      have hf := xsj hf
      subst hf
      exact hm
theorem k_X12_turn {l : Launch} {E : XD} {hb : Nat} {σ : XS} {r0 : Nat} {x1 : Int32} {x : Int32 × XS} (h : f_X12_turn σ r0 x1 = some x) : XM l yX12_turn cX12_turn 2 (some .boolean) 2 43 E hb [.ref (hb + r0), .int x1] σ (some (.int x.1)) x.2 := by
  refine xm_of (by decide) (Nat.le_of_ble_eq_true rfl) (m_X12_turn h).le (fun G hG C hl hQ => ?_)
  obtain ⟨rfl, rfl, rfl, hN⟩ := hG
  exact s_X12_turn_e C h hQ
noncomputable def f_X12_undo_b37 (r0 : Nat) (x1 : Int32) : Int32 × XS → Option ((Int32 × XS) ⊕ (Int32 × XS)) := fun a => match a with
  | (x2, σ) => if (66 : Int32) ≤ x2 then (((xpI σ r0 12 32 (0 : Int32)).bind fun σ2 => some ((1 : Int32), σ2)).map .inr) else (xgR σ r0 12 21).bind fun z2 => (xgR σ r0 12 27).bind fun z4 => (xaI σ 20 z4 (x1 + x2)).bind fun v6 => (xsI σ 20 z2 x2 v6).bind fun σ8 => some (.inl (x2 + (1 : Int32), σ8))
noncomputable def f_X12_undo (σ : XS) (r0 : Nat) : Option (Int32 × XS) := (xgI σ r0 12 29).bind fun v2 => if v2 = 0 then (some ((0 : Int32), σ)) else (xgI σ r0 12 29).bind fun v4 => (xpI σ r0 12 29 (v4 - (1 : Int32))).bind fun σ6 => (xgI σ6 r0 12 28).bind fun v8 => (xgI σ6 r0 12 29).bind fun v10 => xloop (f_X12_undo_b37 r0 ((66 : Int32) * ((v8 + v10) - (v8 + v10) / (40 : Int32) * (40 : Int32)))) ((0 : Int32), σ6)
theorem m_X12_undo_l37 {r0 : Nat} {x1 : Int32} {a : Int32 × XS} {x : Int32 × XS} (hf : xloop (f_X12_undo_b37 r0 x1) a = some x) : xsame a.2 x.2 := by
  refine xloop_ind (P := fun a => xsame a.2 x.2) (fun a y hf hc he => ?_) hf
  obtain ⟨x2, σ⟩ := a
  have hy : (∀ a' : Int32 × XS, y = .inl a' → xsame σ a'.2) ∧ (∀ b1 : Int32 × XS, y = .inr b1 → xsame σ b1.2) := by
    have hm := xsame.rf (σ := σ)
    by_cases q : (66 : Int32) ≤ x2
    · have hf := xip q hf
      obtain ⟨b0, hg, e9⟩ := xmj hf
      subst e9
      have hf := hg
      refine ⟨fun a' e => xnc2 e, fun b e => ?_⟩
      have h9 := Sum.inr.inj e
      subst h9
      obtain ⟨σ2, e1, hf⟩ := xbd hf
      have hm := hm.tr (xpI_same e1)
      have hf := xsj hf
      subst hf
      exact hm
    · have hf := xin q hf
      obtain ⟨z2, e1, hf⟩ := xbd hf
      obtain ⟨z4, e3, hf⟩ := xbd hf
      obtain ⟨v6, e5, hf⟩ := xbd hf
      obtain ⟨σ8, e7, hf⟩ := xbd hf
      have hm := hm.tr (xsI_same e7)
      have hf := xsj hf
      subst hf
      exact ⟨fun a' e => (by have h9 := Sum.inl.inj e; subst h9; exact hm), fun b e => xnc1 e⟩
  cases y with
  | inl a' =>
    have h1 := hc a' rfl
    have hm := hy.1 a' rfl
    exact hm.tr (h1)
  | inr b =>
    have h1 := he b rfl
    subst h1
    exact hy.2 _ rfl
theorem s_X12_undo_l37 {G : XG} (C : XC G cX12_undo RX12 (some .boolean) 3 0 0) {r0 : Nat} {x1 : Int32} {a : Int32 × XS} {x : Int32 × XS} (hf : xloop (f_X12_undo_b37 r0 x1) a = some x) (hk : XEnd G (some (.int x.1)) x.2) : WW G 37 [(0, .ref (gB G + r0)), (1, .int x1), (2, .int a.1)] [] a.2 := by
  refine xloop_ind (P := fun a => WW G 37 [(0, .ref (gB G + r0)), (1, .int x1), (2, .int a.1)] [] a.2) (fun a y hf hc he => ?_) hf
  obtain ⟨x2, σ⟩ := a
  have hk : (∀ a' : Int32 × XS, y = .inl a' → WW G 37 [(0, .ref (gB G + r0)), (1, .int x1), (2, .int a'.1)] [] a'.2) ∧ (∀ b1 : Int32 × XS, y = .inr b1 → XEnd G (some (.int b1.1)) b1.2) := ⟨hc, fun b e => by have h9 := he b e; subst h9; exact hk⟩
  refine ww_iload_n (pc := 37) C 2 dX12_undo_37 rfl ?_
  refine ww_bipush (pc := 38) (v := (66 : Int32)) C dX12_undo_38 (by decide) ?_
  refine ww_icmp_ge (pc := 40) (tgt := 63) C dX12_undo_40 (by decide) (fun q => ?_) (fun q => ?_)
  · have hf := xip q hf
    obtain ⟨b0, hg, e9⟩ := xmj hf
    subst e9
    have hf := hg
    have hk := hk.2 _ rfl
    refine ww_aload_n (pc := 63) C 0 dX12_undo_63 rfl ?_
    refine ww_iconst (pc := 64) (v := (0 : Int32)) C dX12_undo_64 (by decide) ?_
    obtain ⟨σ2, e1, hf⟩ := xbd hf
    refine pf_X12_200 (pc := 65) C (Or.inl rfl) e1 dX12_undo_65 ?_
    refine ww_iconst (pc := 68) (v := (1 : Int32)) C dX12_undo_68 (by decide) ?_
    have hf := xsj hf
    subst hf
    exact ww_zret (pc := 69) C rfl hk dX12_undo_69
  · have hf := xin q hf
    refine ww_aload_n (pc := 43) C 0 dX12_undo_43 rfl ?_
    obtain ⟨z2, e1, hf⟩ := xbd hf
    refine gf_X12_40 (pc := 44) C e1 dX12_undo_44 ?_
    refine ww_iload_n (pc := 47) C 2 dX12_undo_47 rfl ?_
    refine ww_aload_n (pc := 48) C 0 dX12_undo_48 rfl ?_
    obtain ⟨z4, e3, hf⟩ := xbd hf
    refine gf_X12_46 (pc := 49) C e3 dX12_undo_49 ?_
    refine ww_iload_n (pc := 52) C 1 dX12_undo_52 rfl ?_
    refine ww_iload_n (pc := 53) C 2 dX12_undo_53 rfl ?_
    refine ww_iadd (pc := 54) C dX12_undo_54 ?_
    obtain ⟨v6, e5, hf⟩ := xbd hf
    refine ww_iald (pc := 55) C e5 dX12_undo_55 ?_
    obtain ⟨σ8, e7, hf⟩ := xbd hf
    refine ww_iast (pc := 56) C e7 dX12_undo_56 ?_
    refine ww_iinc (pc := 57) (v := x2 + (1 : Int32)) (lv' := [(2, .int (x2 + (1 : Int32))), (0, .ref (gB G + r0)), (1, .int x1)]) C 2 dX12_undo_57 rfl (congrArg (fun z => x2 + z) (show Int32.ofInt (1) = (1 : Int32) by decide)) (by decide) rfl ?_
    refine ww_goto (pc := 60) (tgt := 37) C dX12_undo_60 (by decide) ?_
    have hf := xsj hf
    subst hf
    refine ww_sub [1, 2, 0] rfl ?_
    exact hk.1 (x2 + (1 : Int32), σ8) rfl
theorem s_X12_undo_e {G : XG} (C : XC G cX12_undo RX12 (some .boolean) 3 0 0) {σ : XS} {r0 : Nat} {x : Int32 × XS} (hf : f_X12_undo σ r0 = some x) (hk : XEnd G (some (.int x.1)) x.2) : WW G 0 [(0, .ref (gB G + r0))] [] σ := by
  refine ww_aload_n (pc := 0) C 0 dX12_undo_0 rfl ?_
  obtain ⟨v2, e1, hf⟩ := xbd hf
  refine gf_X12_197 (pc := 1) C e1 dX12_undo_1 ?_
  refine ww_if_ne (pc := 4) (tgt := 9) C dX12_undo_4 (by decide) (fun q => ?_) (fun q => ?_)
  · have hf := xin q hf
    refine ww_aload_n (pc := 9) C 0 dX12_undo_9 rfl ?_
    refine ww_dup (pc := 10) C dX12_undo_10 rfl ?_
    obtain ⟨v4, e3, hf⟩ := xbd hf
    refine gf_X12_197 (pc := 11) C e3 dX12_undo_11 ?_
    refine ww_iconst (pc := 14) (v := (1 : Int32)) C dX12_undo_14 (by decide) ?_
    refine ww_isub (pc := 15) C dX12_undo_15 ?_
    obtain ⟨σ6, e5, hf⟩ := xbd hf
    refine pf_X12_197 (pc := 16) C e5 dX12_undo_16 ?_
    refine ww_bipush (pc := 19) (v := (66 : Int32)) C dX12_undo_19 (by decide) ?_
    refine ww_aload_n (pc := 21) C 0 dX12_undo_21 rfl ?_
    obtain ⟨v8, e7, hf⟩ := xbd hf
    refine gf_X12_230 (pc := 22) C e7 dX12_undo_22 ?_
    refine ww_aload_n (pc := 25) C 0 dX12_undo_25 rfl ?_
    obtain ⟨v10, e9, hf⟩ := xbd hf
    refine gf_X12_197 (pc := 26) C e9 dX12_undo_26 ?_
    refine ww_iadd (pc := 29) C dX12_undo_29 ?_
    refine ww_bipush (pc := 30) (v := (40 : Int32)) C dX12_undo_30 (by decide) ?_
    refine ww_irem (pc := 32) C dX12_undo_32 (by decide) ?_
    refine ww_imul (pc := 33) C dX12_undo_33 ?_
    refine ww_istore_n (pc := 34) (lv' := [(1, .int ((66 : Int32) * ((v8 + v10) - (v8 + v10) / (40 : Int32) * (40 : Int32)))), (0, .ref (gB G + r0))]) C dX12_undo_34 (by decide) rfl ?_
    refine ww_iconst (pc := 35) (v := (0 : Int32)) C dX12_undo_35 (by decide) ?_
    refine ww_istore_n (pc := 36) (lv' := [(2, .int (0 : Int32)), (1, .int ((66 : Int32) * ((v8 + v10) - (v8 + v10) / (40 : Int32) * (40 : Int32)))), (0, .ref (gB G + r0))]) C dX12_undo_36 (by decide) rfl ?_
    refine ww_sub [2, 1, 0] rfl ?_
    exact s_X12_undo_l37 C (a := ((0 : Int32), σ6)) hf hk
  · have hf := xip q hf
    refine ww_iconst (pc := 7) (v := (0 : Int32)) C dX12_undo_7 (by decide) ?_
    have hf := xsj hf
    subst hf
    exact ww_zret (pc := 8) C rfl hk dX12_undo_8
theorem m_X12_undo {σ : XS} {r0 : Nat} {x : Int32 × XS} (hf : f_X12_undo σ r0 = some x) : xsame σ x.2 := by
  have hm := xsame.rf (σ := σ)
  obtain ⟨v2, e1, hf⟩ := xbd hf
  by_cases q : v2 = 0
  · have hf := xip q hf
    have hf := xsj hf
    subst hf
    exact hm
  · have hf := xin q hf
    obtain ⟨v4, e3, hf⟩ := xbd hf
    obtain ⟨σ6, e5, hf⟩ := xbd hf
    have hm := hm.tr (xpI_same e5)
    obtain ⟨v8, e7, hf⟩ := xbd hf
    obtain ⟨v10, e9, hf⟩ := xbd hf
    exact hm.tr (m_X12_undo_l37 (a := ((0 : Int32), σ6)) hf)
theorem k_X12_undo {l : Launch} {E : XD} {hb : Nat} {σ : XS} {r0 : Nat} {x : Int32 × XS} (h : f_X12_undo σ r0 = some x) : XM l yX12_undo cX12_undo 3 (some .boolean) 0 0 E hb [.ref (hb + r0)] σ (some (.int x.1)) x.2 := by
  refine xm_of (by decide) (Nat.le_of_ble_eq_true rfl) (m_X12_undo h).le (fun G hG C hl hQ => ?_)
  obtain ⟨rfl, rfl, rfl, hN⟩ := hG
  exact s_X12_undo_e C h hQ
noncomputable def f_X12_value_j90 (σ : XS) (r0 : Nat) (x1 : Int32) (w2 : Int64) (w4 : Int64) (x6 : Int32) (x7 : Int32) : Option ((Int64 × Int64 × Int32 × Int32) ⊕ (Int32 × XS)) := some (.inl (w2, (w4 * x1.toInt64) - (w4 * x1.toInt64) / (1000003 : Int64) * (1000003 : Int64), x6, x7 + (1 : Int32)))
noncomputable def f_X12_value_b44 (σ : XS) (r0 : Nat) (x1 : Int32) : Int64 × Int64 × Int32 × Int32 → Option ((Int64 × Int64 × Int32 × Int32) ⊕ (Int32 × XS)) := fun a => match a with
  | (w2, w4, x6, x7) => (xgI σ r0 12 35).bind fun v2 => if v2 ≤ x6 then ((some (w2.toInt32, σ)).map .inr) else (xgR σ r0 12 36).bind fun z4 => (xaI σ 20 z4 x6).bind fun v6 => if x7 = v6 then ((xgR σ r0 12 34).bind fun z8 => (xaI σ 20 z8 ((150 : Int32) + x7)).bind fun v10 => f_X12_value_j90 σ r0 x1 ((w2 + (w4 * v10.toInt64)) - (w2 + (w4 * v10.toInt64)) / (1000003 : Int64) * (1000003 : Int64)) w4 (x6 + (1 : Int32)) x7) else f_X12_value_j90 σ r0 x1 w2 w4 x6 x7
noncomputable def f_X12_value (σ : XS) (r0 : Nat) (x1 : Int32) : Option (Int32 × XS) := (f_X12_in x1 (0 : Int32) (1000002 : Int32)).bind fun v2 => if v2 = 0 then (some ((-1 : Int32), σ)) else (xck σ r0 12).bind fun _ => (f_X12_knows σ r0).bind fun σ5 => (xgI σ5 r0 12 35).bind fun v7 => if v7 = 0 then (xloop (f_X12_value_b44 σ5 r0 x1) ((0 : Int64), (1 : Int64), (0 : Int32), (0 : Int32))) else (xgR σ5 r0 12 36).bind fun z9 => (xaI σ5 20 z9 (0 : Int32)).bind fun v11 => xloop (f_X12_value_b44 σ5 r0 x1) ((0 : Int64), (1 : Int64), (0 : Int32), v11)
theorem s_X12_value_j90 {G : XG} (C : XC G cX12_value RX12 (some .int) 8 4 96) {σ : XS} {r0 : Nat} {x1 : Int32} {w2 : Int64} {w4 : Int64} {x6 : Int32} {x7 : Int32} {x : ((Int64 × Int64 × Int32 × Int32) ⊕ (Int32 × XS))} (hf : f_X12_value_j90 σ r0 x1 w2 w4 x6 x7 = some x) (hk : (∀ a' : Int64 × Int64 × Int32 × Int32, x = .inl a' → WW G 44 [(0, .ref (gB G + r0)), (1, .int x1), (2, .long a'.1), (4, .long a'.2.1), (6, .int a'.2.2.1), (7, .int a'.2.2.2)] [] σ) ∧ (∀ b1 : Int32 × XS, x = .inr b1 → XEnd G (some (.int b1.1)) b1.2)) : WW G 90 [(0, .ref (gB G + r0)), (1, .int x1), (2, .long w2), (4, .long w4), (6, .int x6), (7, .int x7)] [] σ := by
  refine ww_lload (pc := 90) C 3 dX12_value_90 rfl ?_
  refine ww_iload_n (pc := 92) C 1 dX12_value_92 rfl ?_
  refine ww_i2l (pc := 93) (v := x1.toInt64) C dX12_value_93 rfl ?_
  refine ww_lmul (pc := 94) C dX12_value_94 ?_
  refine ww_ldc2 (pc := 95) C q1652 dX12_value_95 ?_
  refine ww_lrem (pc := 98) C dX12_value_98 (by decide) ?_
  refine ww_lstore (pc := 99) (lv' := [(4, .long ((w4 * x1.toInt64) - (w4 * x1.toInt64) / (1000003 : Int64) * (1000003 : Int64))), (0, .ref (gB G + r0)), (1, .int x1), (2, .long w2), (6, .int x6), (7, .int x7)]) C dX12_value_99 (by decide) rfl ?_
  refine ww_iinc (pc := 101) (v := x7 + (1 : Int32)) (lv' := [(7, .int (x7 + (1 : Int32))), (4, .long ((w4 * x1.toInt64) - (w4 * x1.toInt64) / (1000003 : Int64) * (1000003 : Int64))), (0, .ref (gB G + r0)), (1, .int x1), (2, .long w2), (6, .int x6)]) C 5 dX12_value_101 rfl (congrArg (fun z => x7 + z) (show Int32.ofInt (1) = (1 : Int32) by decide)) (by decide) rfl ?_
  refine ww_goto (pc := 104) (tgt := 44) C dX12_value_104 (by decide) ?_
  have hf := xsj hf
  subst hf
  refine ww_sub [2, 3, 4, 1, 5, 0] rfl ?_
  exact hk.1 (w2, (w4 * x1.toInt64) - (w4 * x1.toInt64) / (1000003 : Int64) * (1000003 : Int64), x6, x7 + (1 : Int32)) rfl
theorem m_X12_value_j90 {σ : XS} {r0 : Nat} {x1 : Int32} {w2 : Int64} {w4 : Int64} {x6 : Int32} {x7 : Int32} {x : ((Int64 × Int64 × Int32 × Int32) ⊕ (Int32 × XS))} (hf : f_X12_value_j90 σ r0 x1 w2 w4 x6 x7 = some x) : (∀ a' : Int64 × Int64 × Int32 × Int32, x = .inl a' → True) ∧ (∀ b1 : Int32 × XS, x = .inr b1 → xsame σ b1.2) := by
  have hm := xsame.rf (σ := σ)
  have hf := xsj hf
  subst hf
  exact ⟨fun a' e => (by have h9 := Sum.inl.inj e; subst h9; exact trivial), fun b e => xnc1 e⟩
theorem m_X12_value_l44 {σ : XS} {r0 : Nat} {x1 : Int32} {a : Int64 × Int64 × Int32 × Int32} {x : Int32 × XS} (hf : xloop (f_X12_value_b44 σ r0 x1) a = some x) : xsame σ x.2 := by
  refine xloop_ind (P := fun a => xsame σ x.2) (fun a y hf hc he => ?_) hf
  obtain ⟨w2, w4, x6, x7⟩ := a
  have hy : (∀ a' : Int64 × Int64 × Int32 × Int32, y = .inl a' → True) ∧ (∀ b1 : Int32 × XS, y = .inr b1 → xsame σ b1.2) := by
    have hm := xsame.rf (σ := σ)
    obtain ⟨v2, e1, hf⟩ := xbd hf
    by_cases q : v2 ≤ x6
    · have hf := xip q hf
      obtain ⟨b0, hg, e9⟩ := xmj hf
      subst e9
      have hf := hg
      refine ⟨fun a' e => xnc2 e, fun b e => ?_⟩
      have h9 := Sum.inr.inj e
      subst h9
      have hf := xsj hf
      subst hf
      exact hm
    · have hf := xin q hf
      obtain ⟨z4, e3, hf⟩ := xbd hf
      obtain ⟨v6, e5, hf⟩ := xbd hf
      by_cases q : x7 = v6
      · have hf := xip q hf
        obtain ⟨z8, e7, hf⟩ := xbd hf
        obtain ⟨v10, e9, hf⟩ := xbd hf
        exact ⟨fun _ _ => trivial, fun b1 eb1 => hm.tr ((m_X12_value_j90 hf).2 b1 eb1)⟩
      · have hf := xin q hf
        exact ⟨fun _ _ => trivial, fun b1 eb1 => hm.tr ((m_X12_value_j90 hf).2 b1 eb1)⟩
  cases y with
  | inl a' =>
    have h1 := hc a' rfl
    exact h1
  | inr b =>
    have h1 := he b rfl
    subst h1
    exact hy.2 _ rfl
theorem s_X12_value_l44 {G : XG} (C : XC G cX12_value RX12 (some .int) 8 4 96) {σ : XS} {r0 : Nat} {x1 : Int32} {a : Int64 × Int64 × Int32 × Int32} {x : Int32 × XS} (hf : xloop (f_X12_value_b44 σ r0 x1) a = some x) (hk : XEnd G (some (.int x.1)) x.2) : WW G 44 [(0, .ref (gB G + r0)), (1, .int x1), (2, .long a.1), (4, .long a.2.1), (6, .int a.2.2.1), (7, .int a.2.2.2)] [] σ := by
  refine xloop_ind (P := fun a => WW G 44 [(0, .ref (gB G + r0)), (1, .int x1), (2, .long a.1), (4, .long a.2.1), (6, .int a.2.2.1), (7, .int a.2.2.2)] [] σ) (fun a y hf hc he => ?_) hf
  obtain ⟨w2, w4, x6, x7⟩ := a
  have hk : (∀ a' : Int64 × Int64 × Int32 × Int32, y = .inl a' → WW G 44 [(0, .ref (gB G + r0)), (1, .int x1), (2, .long a'.1), (4, .long a'.2.1), (6, .int a'.2.2.1), (7, .int a'.2.2.2)] [] σ) ∧ (∀ b1 : Int32 × XS, y = .inr b1 → XEnd G (some (.int b1.1)) b1.2) := ⟨hc, fun b e => by have h9 := he b e; subst h9; exact hk⟩
  refine ww_iload (pc := 44) C 4 dX12_value_44 rfl ?_
  refine ww_aload_n (pc := 46) C 0 dX12_value_46 rfl ?_
  obtain ⟨v2, e1, hf⟩ := xbd hf
  refine gf_X12_285 (pc := 47) C e1 dX12_value_47 ?_
  refine ww_icmp_ge (pc := 50) (tgt := 107) C dX12_value_50 (by decide) (fun q => ?_) (fun q => ?_)
  · have hf := xip q hf
    obtain ⟨b0, hg, e9⟩ := xmj hf
    subst e9
    have hf := hg
    have hk := hk.2 _ rfl
    refine ww_lload_n (pc := 107) C 2 dX12_value_107 rfl ?_
    refine ww_l2i (pc := 108) (v := w2.toInt32) C dX12_value_108 rfl ?_
    have hf := xsj hf
    subst hf
    exact ww_iret (pc := 109) C hk dX12_value_109
  · have hf := xin q hf
    refine ww_iload (pc := 53) C 5 dX12_value_53 rfl ?_
    refine ww_aload_n (pc := 55) C 0 dX12_value_55 rfl ?_
    obtain ⟨z4, e3, hf⟩ := xbd hf
    refine gf_X12_63 (pc := 56) C e3 dX12_value_56 ?_
    refine ww_iload (pc := 59) C 4 dX12_value_59 rfl ?_
    obtain ⟨v6, e5, hf⟩ := xbd hf
    refine ww_iald (pc := 61) C e5 dX12_value_61 ?_
    refine ww_icmp_ne (pc := 62) (tgt := 90) C dX12_value_62 (by decide) (fun q => ?_) (fun q => ?_)
    · have hf := xin q hf
      refine ww_sub [0, 1, 2, 3, 4, 5] rfl ?_
      exact s_X12_value_j90 C hf hk
    · have hf := xip q hf
      refine ww_lload_n (pc := 65) C 2 dX12_value_65 rfl ?_
      refine ww_lload (pc := 66) C 3 dX12_value_66 rfl ?_
      refine ww_aload_n (pc := 68) C 0 dX12_value_68 rfl ?_
      obtain ⟨z8, e7, hf⟩ := xbd hf
      refine gf_X12_60 (pc := 69) C e7 dX12_value_69 ?_
      refine ww_sipush (pc := 72) (v := (150 : Int32)) C dX12_value_72 (by decide) ?_
      refine ww_iload (pc := 75) C 5 dX12_value_75 rfl ?_
      refine ww_iadd (pc := 77) C dX12_value_77 ?_
      obtain ⟨v10, e9, hf⟩ := xbd hf
      refine ww_iald (pc := 78) C e9 dX12_value_78 ?_
      refine ww_i2l (pc := 79) (v := v10.toInt64) C dX12_value_79 rfl ?_
      refine ww_lmul (pc := 80) C dX12_value_80 ?_
      refine ww_ladd (pc := 81) C dX12_value_81 ?_
      refine ww_ldc2 (pc := 82) C q1652 dX12_value_82 ?_
      refine ww_lrem (pc := 85) C dX12_value_85 (by decide) ?_
      refine ww_lstore_n (pc := 86) (lv' := [(2, .long ((w2 + (w4 * v10.toInt64)) - (w2 + (w4 * v10.toInt64)) / (1000003 : Int64) * (1000003 : Int64))), (0, .ref (gB G + r0)), (1, .int x1), (4, .long w4), (6, .int x6), (7, .int x7)]) C dX12_value_86 (by decide) rfl ?_
      refine ww_iinc (pc := 87) (v := x6 + (1 : Int32)) (lv' := [(6, .int (x6 + (1 : Int32))), (2, .long ((w2 + (w4 * v10.toInt64)) - (w2 + (w4 * v10.toInt64)) / (1000003 : Int64) * (1000003 : Int64))), (0, .ref (gB G + r0)), (1, .int x1), (4, .long w4), (7, .int x7)]) C 4 dX12_value_87 rfl (congrArg (fun z => x6 + z) (show Int32.ofInt (1) = (1 : Int32) by decide)) (by decide) rfl ?_
      refine ww_sub [2, 3, 1, 4, 0, 5] rfl ?_
      exact s_X12_value_j90 C hf hk
theorem s_X12_value_e {G : XG} (C : XC G cX12_value RX12 (some .int) 8 4 96) {σ : XS} {r0 : Nat} {x1 : Int32} {x : Int32 × XS} (hf : f_X12_value σ r0 x1 = some x) (hk : XEnd G (some (.int x.1)) x.2) : WW G 0 [(0, .ref (gB G + r0)), (1, .int x1)] [] σ := by
  refine ww_iload_n (pc := 0) C 1 dX12_value_0 rfl ?_
  refine ww_iconst (pc := 1) (v := (0 : Int32)) C dX12_value_1 (by decide) ?_
  refine ww_ldcw (pc := 2) C q1651 dX12_value_2 ?_
  obtain ⟨v2, e1, hf⟩ := xbd hf
  refine ww_callSi (pc := 5) (as := [.int x1, .int (0 : Int32), .int (1000002 : Int32)]) (st := []) C (k_X12_in (l := gl G) (E := gE G) (hb := gB G) (σ := σ) e1) xc_X12_213 q1473 rfl (by decide) (xst4 (Nat.le_of_ble_eq_true rfl)) xsame.rf.le xsame.rf.lim dX12_value_5 ?_
  refine ww_if_ne (pc := 8) (tgt := 13) C dX12_value_8 (by decide) (fun q => ?_) (fun q => ?_)
  · have hf := xin q hf
    refine ww_aload_n (pc := 13) C 0 dX12_value_13 rfl ?_
    obtain ⟨_, e3, hf⟩ := xbd hf
    obtain ⟨σ5, e4, hf⟩ := xbd hf
    refine ww_callVv (pc := 14) (as := []) (st := []) C (k_X12_knows (l := gl G) (E := gE G) (hb := gB G) (σ := σ) e4) rfl (by decide) xc_X12_261 q1551 qp140 (xck_spec e3) rfl (by decide) (xst4 (Nat.le_of_ble_eq_true rfl)) (m_X12_knows e4).le (m_X12_knows e4).lim dX12_value_14 ?_
    refine ww_lconst (pc := 17) (v := (0 : Int64)) C dX12_value_17 (by decide) ?_
    refine ww_lstore_n (pc := 18) (lv' := [(2, .long (0 : Int64)), (0, .ref (gB G + r0)), (1, .int x1)]) C dX12_value_18 (by decide) rfl ?_
    refine ww_lconst (pc := 19) (v := (1 : Int64)) C dX12_value_19 (by decide) ?_
    refine ww_lstore (pc := 20) (lv' := [(4, .long (1 : Int64)), (2, .long (0 : Int64)), (0, .ref (gB G + r0)), (1, .int x1)]) C dX12_value_20 (by decide) rfl ?_
    refine ww_iconst (pc := 22) (v := (0 : Int32)) C dX12_value_22 (by decide) ?_
    refine ww_istore (pc := 23) (lv' := [(6, .int (0 : Int32)), (4, .long (1 : Int64)), (2, .long (0 : Int64)), (0, .ref (gB G + r0)), (1, .int x1)]) C dX12_value_23 (by decide) rfl ?_
    refine ww_aload_n (pc := 25) C 3 dX12_value_25 rfl ?_
    obtain ⟨v7, e6, hf⟩ := xbd hf
    refine gf_X12_285 (pc := 26) C e6 dX12_value_26 ?_
    refine ww_if_ne (pc := 29) (tgt := 36) C dX12_value_29 (by decide) (fun q => ?_) (fun q => ?_)
    · have hf := xin q hf
      refine ww_aload_n (pc := 36) C 3 dX12_value_36 rfl ?_
      obtain ⟨z9, e8, hf⟩ := xbd hf
      refine gf_X12_63 (pc := 37) C e8 dX12_value_37 ?_
      refine ww_iconst (pc := 40) (v := (0 : Int32)) C dX12_value_40 (by decide) ?_
      obtain ⟨v11, e10, hf⟩ := xbd hf
      refine ww_iald (pc := 41) C e10 dX12_value_41 ?_
      refine ww_istore (pc := 42) (lv' := [(7, .int v11), (6, .int (0 : Int32)), (4, .long (1 : Int64)), (2, .long (0 : Int64)), (0, .ref (gB G + r0)), (1, .int x1)]) C dX12_value_42 (by decide) rfl ?_
      refine ww_sub [4, 5, 3, 2, 1, 0] rfl ?_
      exact s_X12_value_l44 C (a := ((0 : Int64), (1 : Int64), (0 : Int32), v11)) hf hk
    · have hf := xip q hf
      refine ww_iconst (pc := 32) (v := (0 : Int32)) C dX12_value_32 (by decide) ?_
      refine ww_goto (pc := 33) (tgt := 42) C dX12_value_33 (by decide) ?_
      refine ww_istore (pc := 42) (lv' := [(7, .int (0 : Int32)), (6, .int (0 : Int32)), (4, .long (1 : Int64)), (2, .long (0 : Int64)), (0, .ref (gB G + r0)), (1, .int x1)]) C dX12_value_42 (by decide) rfl ?_
      refine ww_sub [4, 5, 3, 2, 1, 0] rfl ?_
      exact s_X12_value_l44 C (a := ((0 : Int64), (1 : Int64), (0 : Int32), (0 : Int32))) hf hk
  · have hf := xip q hf
    refine ww_iconst (pc := 11) (v := (-1 : Int32)) C dX12_value_11 (by decide) ?_
    have hf := xsj hf
    subst hf
    exact ww_iret (pc := 12) C hk dX12_value_12
theorem m_X12_value {σ : XS} {r0 : Nat} {x1 : Int32} {x : Int32 × XS} (hf : f_X12_value σ r0 x1 = some x) : xsame σ x.2 := by
  have hm := xsame.rf (σ := σ)
  obtain ⟨v2, e1, hf⟩ := xbd hf
  by_cases q : v2 = 0
  · have hf := xip q hf
    have hf := xsj hf
    subst hf
    exact hm
  · have hf := xin q hf
    obtain ⟨_, e3, hf⟩ := xbd hf
    obtain ⟨σ5, e4, hf⟩ := xbd hf
    have hm := hm.tr (m_X12_knows e4)
    obtain ⟨v7, e6, hf⟩ := xbd hf
    by_cases q : v7 = 0
    · have hf := xip q hf
      exact hm.tr (m_X12_value_l44 (a := ((0 : Int64), (1 : Int64), (0 : Int32), (0 : Int32))) hf)
    · have hf := xin q hf
      obtain ⟨z9, e8, hf⟩ := xbd hf
      obtain ⟨v11, e10, hf⟩ := xbd hf
      exact hm.tr (m_X12_value_l44 (a := ((0 : Int64), (1 : Int64), (0 : Int32), v11)) hf)
theorem k_X12_value {l : Launch} {E : XD} {hb : Nat} {σ : XS} {r0 : Nat} {x1 : Int32} {x : Int32 × XS} (h : f_X12_value σ r0 x1 = some x) : XM l yX12_value cX12_value 8 (some .int) 4 96 E hb [.ref (hb + r0), .int x1] σ (some (.int x.1)) x.2 := by
  refine xm_of (by decide) (Nat.le_of_ble_eq_true rfl) (m_X12_value h).le (fun G hG C hl hQ => ?_)
  obtain ⟨rfl, rfl, rfl, hN⟩ := hG
  exact s_X12_value_e C h hQ
noncomputable def f_X12_wander_b79 (σ : XS) (r0 : Nat) (x1 : Int32) (x2 : Int32) (x3 : Int32) : Int64 × Int32 × Int32 × Int32 × Int32 → Option ((Int64 × Int32 × Int32 × Int32 × Int32) ⊕ (Int32 × XS)) := fun a => match a with
  | (w4, x6, x7, x8, x9) => if x1 ≤ x9 then ((if x3 = 0 then (some (x6, σ)) else if x3 = (1 : Int32) then (some (x7, σ)) else some (x8, σ)).map .inr) else (f_X12_nextOf w4).bind fun v2 => (xck σ r0 12).bind fun _ => (f_X12_sites σ r0).bind fun v5 => (xdZ v5.toInt64).bind fun _ => (f_X12_nextOf v2).bind fun v8 => (xgR σ r0 12 21).bind fun z10 => (xaI σ 20 z10 ((48 : Int32) + (((v2 / (65536 : Int64)) - (v2 / (65536 : Int64)) / v5.toInt64 * v5.toInt64).toInt32))).bind fun v12 => if 0 < v12 then (some (.inl (v8, x6, x7, x8, x9 + (1 : Int32)))) else (xck σ r0 12).bind fun _ => (f_X12_costOf σ r0 x6 (((v2 / (65536 : Int64)) - (v2 / (65536 : Int64)) / v5.toInt64 * v5.toInt64).toInt32)).bind fun v15 => if (((v8 / (65536 : Int64)) - (v8 / (65536 : Int64)) / (100 : Int64) * (100 : Int64)).toInt32) < ((100 : Int32) - (x2 * v15)) then ((xgR σ r0 12 33).bind fun z17 => (xaI σ 20 z17 (x6 ^^^ ((1 : Int32) <<< ((((v2 / (65536 : Int64)) - (v2 / (65536 : Int64)) / v5.toInt64 * v5.toInt64).toInt32) &&& 31)))).bind fun v19 => if x7 ≤ v19 then (some (.inl (v8, x6 ^^^ ((1 : Int32) <<< ((((v2 / (65536 : Int64)) - (v2 / (65536 : Int64)) / v5.toInt64 * v5.toInt64).toInt32) &&& 31)), x7, x8 + (1 : Int32), x9 + (1 : Int32)))) else (xgR σ r0 12 33).bind fun z21 => (xaI σ 20 z21 (x6 ^^^ ((1 : Int32) <<< ((((v2 / (65536 : Int64)) - (v2 / (65536 : Int64)) / v5.toInt64 * v5.toInt64).toInt32) &&& 31)))).bind fun v23 => some (.inl (v8, x6 ^^^ ((1 : Int32) <<< ((((v2 / (65536 : Int64)) - (v2 / (65536 : Int64)) / v5.toInt64 * v5.toInt64).toInt32) &&& 31)), v23, x8 + (1 : Int32), x9 + (1 : Int32)))) else some (.inl (v8, x6, x7, x8, x9 + (1 : Int32)))
noncomputable def f_X12_wander (σ : XS) (r0 : Nat) (x1 : Int32) (x2 : Int32) (x3 : Int32) : Option (Int32 × XS) := (xck σ r0 12).bind fun _ => (f_X12_sites σ r0).bind fun v3 => if v3 = 0 then (some ((-100000 : Int32), σ)) else (f_X12_in x1 (0 : Int32) (200 : Int32)).bind fun v5 => if v5 = 0 then (some ((-100000 : Int32), σ)) else (f_X12_in x2 (0 : Int32) (100 : Int32)).bind fun v7 => if v7 = 0 then (some ((-100000 : Int32), σ)) else (f_X12_in x3 (0 : Int32) (2 : Int32)).bind fun v9 => if v9 = 0 then (some ((-100000 : Int32), σ)) else (xck σ r0 12).bind fun _ => (f_X12_knows σ r0).bind fun σ12 => (xgR σ12 r0 12 21).bind fun z14 => (xaI σ12 20 z14 (65 : Int32)).bind fun v16 => (xgR σ12 r0 12 21).bind fun z18 => (xaI σ12 20 z18 (64 : Int32)).bind fun v20 => (xgR σ12 r0 12 33).bind fun z22 => (xaI σ12 20 z22 v20).bind fun v24 => xloop (f_X12_wander_b79 σ12 r0 x1 x2 x3) (v16.toInt64, v20, v24, (0 : Int32), (0 : Int32))
theorem m_X12_wander_l79 {σ : XS} {r0 : Nat} {x1 : Int32} {x2 : Int32} {x3 : Int32} {a : Int64 × Int32 × Int32 × Int32 × Int32} {x : Int32 × XS} (hf : xloop (f_X12_wander_b79 σ r0 x1 x2 x3) a = some x) : xsame σ x.2 := by
  refine xloop_ind (P := fun a => xsame σ x.2) (fun a y hf hc he => ?_) hf
  obtain ⟨w4, x6, x7, x8, x9⟩ := a
  have hy : (∀ a' : Int64 × Int32 × Int32 × Int32 × Int32, y = .inl a' → True) ∧ (∀ b1 : Int32 × XS, y = .inr b1 → xsame σ b1.2) := by
    have hm := xsame.rf (σ := σ)
    by_cases q : x1 ≤ x9
    · have hf := xip q hf
      obtain ⟨b0, hg, e9⟩ := xmj hf
      subst e9
      have hf := hg
      refine ⟨fun a' e => xnc2 e, fun b e => ?_⟩
      have h9 := Sum.inr.inj e
      subst h9
      by_cases q : x3 = 0
      · have hf := xip q hf
        have hf := xsj hf
        subst hf
        exact hm
      · have hf := xin q hf
        by_cases q : x3 = (1 : Int32)
        · have hf := xip q hf
          have hf := xsj hf
          subst hf
          exact hm
        · have hf := xin q hf
          have hf := xsj hf
          subst hf
          exact hm
    · have hf := xin q hf
      obtain ⟨v2, e1, hf⟩ := xbd hf
      obtain ⟨_, e3, hf⟩ := xbd hf
      obtain ⟨v5, e4, hf⟩ := xbd hf
      obtain ⟨_, e6, hf⟩ := xbd hf
      obtain ⟨v8, e7, hf⟩ := xbd hf
      obtain ⟨z10, e9, hf⟩ := xbd hf
      obtain ⟨v12, e11, hf⟩ := xbd hf
      by_cases q : 0 < v12
      · have hf := xip q hf
        have hf := xsj hf
        subst hf
        exact ⟨fun a' e => (by have h9 := Sum.inl.inj e; subst h9; exact trivial), fun b e => xnc1 e⟩
      · have hf := xin q hf
        obtain ⟨_, e13, hf⟩ := xbd hf
        obtain ⟨v15, e14, hf⟩ := xbd hf
        by_cases q : (((v8 / (65536 : Int64)) - (v8 / (65536 : Int64)) / (100 : Int64) * (100 : Int64)).toInt32) < ((100 : Int32) - (x2 * v15))
        · have hf := xip q hf
          obtain ⟨z17, e16, hf⟩ := xbd hf
          obtain ⟨v19, e18, hf⟩ := xbd hf
          by_cases q : x7 ≤ v19
          · have hf := xip q hf
            have hf := xsj hf
            subst hf
            exact ⟨fun a' e => (by have h9 := Sum.inl.inj e; subst h9; exact trivial), fun b e => xnc1 e⟩
          · have hf := xin q hf
            obtain ⟨z21, e20, hf⟩ := xbd hf
            obtain ⟨v23, e22, hf⟩ := xbd hf
            have hf := xsj hf
            subst hf
            exact ⟨fun a' e => (by have h9 := Sum.inl.inj e; subst h9; exact trivial), fun b e => xnc1 e⟩
        · have hf := xin q hf
          have hf := xsj hf
          subst hf
          exact ⟨fun a' e => (by have h9 := Sum.inl.inj e; subst h9; exact trivial), fun b e => xnc1 e⟩
  cases y with
  | inl a' =>
    have h1 := hc a' rfl
    exact h1
  | inr b =>
    have h1 := he b rfl
    subst h1
    exact hy.2 _ rfl
theorem s_X12_wander_l79 {G : XG} (C : XC G cX12_wander RX12 (some .int) 12 4 97) {σ : XS} {r0 : Nat} {x1 : Int32} {x2 : Int32} {x3 : Int32} {a : Int64 × Int32 × Int32 × Int32 × Int32} {x : Int32 × XS} (hf : xloop (f_X12_wander_b79 σ r0 x1 x2 x3) a = some x) (hk : XEnd G (some (.int x.1)) x.2) : WW G 79 [(0, .ref (gB G + r0)), (1, .int x1), (2, .int x2), (3, .int x3), (4, .long a.1), (6, .int a.2.1), (7, .int a.2.2.1), (8, .int a.2.2.2.1), (9, .int a.2.2.2.2)] [] σ := by
  refine xloop_ind (P := fun a => WW G 79 [(0, .ref (gB G + r0)), (1, .int x1), (2, .int x2), (3, .int x3), (4, .long a.1), (6, .int a.2.1), (7, .int a.2.2.1), (8, .int a.2.2.2.1), (9, .int a.2.2.2.2)] [] σ) (fun a y hf hc he => ?_) hf
  obtain ⟨w4, x6, x7, x8, x9⟩ := a
  have hk : (∀ a' : Int64 × Int32 × Int32 × Int32 × Int32, y = .inl a' → WW G 79 [(0, .ref (gB G + r0)), (1, .int x1), (2, .int x2), (3, .int x3), (4, .long a'.1), (6, .int a'.2.1), (7, .int a'.2.2.1), (8, .int a'.2.2.2.1), (9, .int a'.2.2.2.2)] [] σ) ∧ (∀ b1 : Int32 × XS, y = .inr b1 → XEnd G (some (.int b1.1)) b1.2) := ⟨hc, fun b e => by have h9 := he b e; subst h9; exact hk⟩
  refine ww_iload (pc := 79) C 8 dX12_wander_79 rfl ?_
  refine ww_iload_n (pc := 81) C 1 dX12_wander_81 rfl ?_
  refine ww_icmp_ge (pc := 82) (tgt := 200) C dX12_wander_82 (by decide) (fun q => ?_) (fun q => ?_)
  · have hf := xip q hf
    obtain ⟨b0, hg, e9⟩ := xmj hf
    subst e9
    have hf := hg
    have hk := hk.2 _ rfl
    refine ww_iload_n (pc := 200) C 3 dX12_wander_200 rfl ?_
    refine ww_if_ne (pc := 201) (tgt := 209) C dX12_wander_201 (by decide) (fun q => ?_) (fun q => ?_)
    · have hf := xin q hf
      refine ww_iload_n (pc := 209) C 3 dX12_wander_209 rfl ?_
      refine ww_iconst (pc := 210) (v := (1 : Int32)) C dX12_wander_210 (by decide) ?_
      refine ww_icmp_ne (pc := 211) (tgt := 219) C dX12_wander_211 (by decide) (fun q => ?_) (fun q => ?_)
      · have hf := xin q hf
        refine ww_iload (pc := 219) C 7 dX12_wander_219 rfl ?_
        have hf := xsj hf
        subst hf
        exact ww_iret (pc := 221) C hk dX12_wander_221
      · have hf := xip q hf
        refine ww_iload (pc := 214) C 6 dX12_wander_214 rfl ?_
        refine ww_goto (pc := 216) (tgt := 221) C dX12_wander_216 (by decide) ?_
        have hf := xsj hf
        subst hf
        exact ww_iret (pc := 221) C hk dX12_wander_221
    · have hf := xip q hf
      refine ww_iload (pc := 204) C 5 dX12_wander_204 rfl ?_
      refine ww_goto (pc := 206) (tgt := 221) C dX12_wander_206 (by decide) ?_
      have hf := xsj hf
      subst hf
      exact ww_iret (pc := 221) C hk dX12_wander_221
  · have hf := xin q hf
    refine ww_lload (pc := 85) C 4 dX12_wander_85 rfl ?_
    obtain ⟨v2, e1, hf⟩ := xbd hf
    refine ww_callSj (pc := 87) (as := [.long w4]) (st := []) C (k_X12_nextOf (l := gl G) (E := gE G) (hb := gB G) (σ := σ) e1) xc_X12_253 q1534 rfl (by decide) (xst4 (Nat.le_of_ble_eq_true rfl)) xsame.rf.le xsame.rf.lim dX12_wander_87 ?_
    refine ww_lstore (pc := 90) (lv' := [(4, .long v2), (0, .ref (gB G + r0)), (1, .int x1), (2, .int x2), (3, .int x3), (6, .int x6), (7, .int x7), (8, .int x8), (9, .int x9)]) C dX12_wander_90 (by decide) rfl ?_
    refine ww_lload (pc := 92) C 0 dX12_wander_92 rfl ?_
    refine ww_ldc2 (pc := 94) C q1539 dX12_wander_94 ?_
    refine ww_ldiv (pc := 97) C dX12_wander_97 (by decide) ?_
    refine ww_aload_n (pc := 98) C 1 dX12_wander_98 rfl ?_
    obtain ⟨_, e3, hf⟩ := xbd hf
    obtain ⟨v5, e4, hf⟩ := xbd hf
    refine ww_callVi (pc := 99) (as := []) (st := [.long (v2 / (65536 : Int64))]) C (k_X12_sites (l := gl G) (E := gE G) (hb := gB G) (σ := σ) e4) rfl (by decide) xc_X12_193 q1496 qp136 (xck_spec e3) rfl (by decide) (xst4 (Nat.le_of_ble_eq_true rfl)) xsame.rf.le xsame.rf.lim dX12_wander_99 ?_
    refine ww_i2l (pc := 102) (v := v5.toInt64) C dX12_wander_102 rfl ?_
    obtain ⟨_, e6, hf⟩ := xbd hf
    refine ww_lrem (pc := 103) C dX12_wander_103 (xdZ_spec e6) ?_
    refine ww_l2i (pc := 104) (v := ((v2 / (65536 : Int64)) - (v2 / (65536 : Int64)) / v5.toInt64 * v5.toInt64).toInt32) C dX12_wander_104 rfl ?_
    refine ww_istore (pc := 105) (lv' := [(10, .int (((v2 / (65536 : Int64)) - (v2 / (65536 : Int64)) / v5.toInt64 * v5.toInt64).toInt32)), (4, .long v2), (0, .ref (gB G + r0)), (1, .int x1), (2, .int x2), (3, .int x3), (6, .int x6), (7, .int x7), (8, .int x8), (9, .int x9)]) C dX12_wander_105 (by decide) rfl ?_
    refine ww_lload (pc := 107) C 1 dX12_wander_107 rfl ?_
    obtain ⟨v8, e7, hf⟩ := xbd hf
    refine ww_callSj (pc := 109) (as := [.long v2]) (st := []) C (k_X12_nextOf (l := gl G) (E := gE G) (hb := gB G) (σ := σ) e7) xc_X12_253 q1534 rfl (by decide) (xst4 (Nat.le_of_ble_eq_true rfl)) xsame.rf.le xsame.rf.lim dX12_wander_109 ?_
    refine ww_lstore (pc := 112) (lv' := [(4, .long v8), (10, .int (((v2 / (65536 : Int64)) - (v2 / (65536 : Int64)) / v5.toInt64 * v5.toInt64).toInt32)), (0, .ref (gB G + r0)), (1, .int x1), (2, .int x2), (3, .int x3), (6, .int x6), (7, .int x7), (8, .int x8), (9, .int x9)]) C dX12_wander_112 (by decide) rfl ?_
    refine ww_lload (pc := 114) C 0 dX12_wander_114 rfl ?_
    refine ww_ldc2 (pc := 116) C q1539 dX12_wander_116 ?_
    refine ww_ldiv (pc := 119) C dX12_wander_119 (by decide) ?_
    refine ww_ldc2 (pc := 120) C q1734 dX12_wander_120 ?_
    refine ww_lrem (pc := 123) C dX12_wander_123 (by decide) ?_
    refine ww_l2i (pc := 124) (v := ((v8 / (65536 : Int64)) - (v8 / (65536 : Int64)) / (100 : Int64) * (100 : Int64)).toInt32) C dX12_wander_124 rfl ?_
    refine ww_istore (pc := 125) (lv' := [(11, .int (((v8 / (65536 : Int64)) - (v8 / (65536 : Int64)) / (100 : Int64) * (100 : Int64)).toInt32)), (4, .long v8), (10, .int (((v2 / (65536 : Int64)) - (v2 / (65536 : Int64)) / v5.toInt64 * v5.toInt64).toInt32)), (0, .ref (gB G + r0)), (1, .int x1), (2, .int x2), (3, .int x3), (6, .int x6), (7, .int x7), (8, .int x8), (9, .int x9)]) C dX12_wander_125 (by decide) rfl ?_
    refine ww_aload_n (pc := 127) C 3 dX12_wander_127 rfl ?_
    obtain ⟨z10, e9, hf⟩ := xbd hf
    refine gf_X12_40 (pc := 128) C e9 dX12_wander_128 ?_
    refine ww_bipush (pc := 131) (v := (48 : Int32)) C dX12_wander_131 (by decide) ?_
    refine ww_iload (pc := 133) C 2 dX12_wander_133 rfl ?_
    refine ww_iadd (pc := 135) C dX12_wander_135 ?_
    obtain ⟨v12, e11, hf⟩ := xbd hf
    refine ww_iald (pc := 136) C e11 dX12_wander_136 ?_
    refine ww_if_gt (pc := 137) (tgt := 194) C dX12_wander_137 (by decide) (fun q => ?_) (fun q => ?_)
    · have hf := xip q hf
      refine ww_iinc (pc := 194) (v := x9 + (1 : Int32)) (lv' := [(9, .int (x9 + (1 : Int32))), (11, .int (((v8 / (65536 : Int64)) - (v8 / (65536 : Int64)) / (100 : Int64) * (100 : Int64)).toInt32)), (4, .long v8), (10, .int (((v2 / (65536 : Int64)) - (v2 / (65536 : Int64)) / v5.toInt64 * v5.toInt64).toInt32)), (0, .ref (gB G + r0)), (1, .int x1), (2, .int x2), (3, .int x3), (6, .int x6), (7, .int x7), (8, .int x8)]) C 10 dX12_wander_194 rfl (congrArg (fun z => x9 + z) (show Int32.ofInt (1) = (1 : Int32) by decide)) (by decide) rfl ?_
      refine ww_goto (pc := 197) (tgt := 79) C dX12_wander_197 (by decide) ?_
      have hf := xsj hf
      subst hf
      refine ww_sub [4, 5, 6, 7, 2, 8, 9, 10, 0] rfl ?_
      exact hk.1 (v8, x6, x7, x8, x9 + (1 : Int32)) rfl
    · have hf := xin q hf
      refine ww_iload (pc := 140) C 0 dX12_wander_140 rfl ?_
      refine ww_bipush (pc := 142) (v := (100 : Int32)) C dX12_wander_142 (by decide) ?_
      refine ww_iload_n (pc := 144) C 5 dX12_wander_144 rfl ?_
      refine ww_aload_n (pc := 145) C 3 dX12_wander_145 rfl ?_
      refine ww_iload (pc := 146) C 7 dX12_wander_146 rfl ?_
      refine ww_iload (pc := 148) C 2 dX12_wander_148 rfl ?_
      obtain ⟨_, e13, hf⟩ := xbd hf
      obtain ⟨v15, e14, hf⟩ := xbd hf
      refine ww_callVi (pc := 150) (as := [.int x6, .int (((v2 / (65536 : Int64)) - (v2 / (65536 : Int64)) / v5.toInt64 * v5.toInt64).toInt32)]) (st := [.int x2, .int (100 : Int32), .int (((v8 / (65536 : Int64)) - (v8 / (65536 : Int64)) / (100 : Int64) * (100 : Int64)).toInt32)]) C (k_X12_costOf (l := gl G) (E := gE G) (hb := gB G) (σ := σ) e14) rfl (by decide) xc_X12_289 q1600 qp147 (xck_spec e13) rfl (by decide) (xst4 (Nat.le_of_ble_eq_true rfl)) xsame.rf.le xsame.rf.lim dX12_wander_150 ?_
      refine ww_imul (pc := 153) C dX12_wander_153 ?_
      refine ww_isub (pc := 154) C dX12_wander_154 ?_
      refine ww_icmp_lt (pc := 155) (tgt := 161) C dX12_wander_155 (by decide) (fun q => ?_) (fun q => ?_)
      · have hf := xip q hf
        refine ww_iload (pc := 161) C 7 dX12_wander_161 rfl ?_
        refine ww_iconst (pc := 163) (v := (1 : Int32)) C dX12_wander_163 (by decide) ?_
        refine ww_iload (pc := 164) C 2 dX12_wander_164 rfl ?_
        refine ww_ishl (pc := 166) C dX12_wander_166 ?_
        refine ww_ixor (pc := 167) C dX12_wander_167 ?_
        refine ww_istore (pc := 168) (lv' := [(6, .int (x6 ^^^ ((1 : Int32) <<< ((((v2 / (65536 : Int64)) - (v2 / (65536 : Int64)) / v5.toInt64 * v5.toInt64).toInt32) &&& 31)))), (11, .int (((v8 / (65536 : Int64)) - (v8 / (65536 : Int64)) / (100 : Int64) * (100 : Int64)).toInt32)), (4, .long v8), (10, .int (((v2 / (65536 : Int64)) - (v2 / (65536 : Int64)) / v5.toInt64 * v5.toInt64).toInt32)), (0, .ref (gB G + r0)), (1, .int x1), (2, .int x2), (3, .int x3), (7, .int x7), (8, .int x8), (9, .int x9)]) C dX12_wander_168 (by decide) rfl ?_
        refine ww_iinc (pc := 170) (v := x8 + (1 : Int32)) (lv' := [(8, .int (x8 + (1 : Int32))), (6, .int (x6 ^^^ ((1 : Int32) <<< ((((v2 / (65536 : Int64)) - (v2 / (65536 : Int64)) / v5.toInt64 * v5.toInt64).toInt32) &&& 31)))), (11, .int (((v8 / (65536 : Int64)) - (v8 / (65536 : Int64)) / (100 : Int64) * (100 : Int64)).toInt32)), (4, .long v8), (10, .int (((v2 / (65536 : Int64)) - (v2 / (65536 : Int64)) / v5.toInt64 * v5.toInt64).toInt32)), (0, .ref (gB G + r0)), (1, .int x1), (2, .int x2), (3, .int x3), (7, .int x7), (9, .int x9)]) C 9 dX12_wander_170 rfl (congrArg (fun z => x8 + z) (show Int32.ofInt (1) = (1 : Int32) by decide)) (by decide) rfl ?_
        refine ww_aload_n (pc := 173) C 5 dX12_wander_173 rfl ?_
        obtain ⟨z17, e16, hf⟩ := xbd hf
        refine gf_X12_57 (pc := 174) C e16 dX12_wander_174 ?_
        refine ww_iload (pc := 177) C 1 dX12_wander_177 rfl ?_
        obtain ⟨v19, e18, hf⟩ := xbd hf
        refine ww_iald (pc := 179) C e18 dX12_wander_179 ?_
        refine ww_iload (pc := 180) C 9 dX12_wander_180 rfl ?_
        refine ww_icmp_ge (pc := 182) (tgt := 194) C dX12_wander_182 (by decide) (fun q => ?_) (fun q => ?_)
        · have hf := xip q hf
          refine ww_iinc (pc := 194) (v := x9 + (1 : Int32)) (lv' := [(9, .int (x9 + (1 : Int32))), (8, .int (x8 + (1 : Int32))), (6, .int (x6 ^^^ ((1 : Int32) <<< ((((v2 / (65536 : Int64)) - (v2 / (65536 : Int64)) / v5.toInt64 * v5.toInt64).toInt32) &&& 31)))), (11, .int (((v8 / (65536 : Int64)) - (v8 / (65536 : Int64)) / (100 : Int64) * (100 : Int64)).toInt32)), (4, .long v8), (10, .int (((v2 / (65536 : Int64)) - (v2 / (65536 : Int64)) / v5.toInt64 * v5.toInt64).toInt32)), (0, .ref (gB G + r0)), (1, .int x1), (2, .int x2), (3, .int x3), (7, .int x7)]) C 10 dX12_wander_194 rfl (congrArg (fun z => x9 + z) (show Int32.ofInt (1) = (1 : Int32) by decide)) (by decide) rfl ?_
          refine ww_goto (pc := 197) (tgt := 79) C dX12_wander_197 (by decide) ?_
          have hf := xsj hf
          subst hf
          refine ww_sub [6, 7, 8, 9, 4, 2, 10, 1, 0] rfl ?_
          exact hk.1 (v8, x6 ^^^ ((1 : Int32) <<< ((((v2 / (65536 : Int64)) - (v2 / (65536 : Int64)) / v5.toInt64 * v5.toInt64).toInt32) &&& 31)), x7, x8 + (1 : Int32), x9 + (1 : Int32)) rfl
        · have hf := xin q hf
          refine ww_aload_n (pc := 185) C 5 dX12_wander_185 rfl ?_
          obtain ⟨z21, e20, hf⟩ := xbd hf
          refine gf_X12_57 (pc := 186) C e20 dX12_wander_186 ?_
          refine ww_iload (pc := 189) C 1 dX12_wander_189 rfl ?_
          obtain ⟨v23, e22, hf⟩ := xbd hf
          refine ww_iald (pc := 191) C e22 dX12_wander_191 ?_
          refine ww_istore (pc := 192) (lv' := [(7, .int v23), (8, .int (x8 + (1 : Int32))), (6, .int (x6 ^^^ ((1 : Int32) <<< ((((v2 / (65536 : Int64)) - (v2 / (65536 : Int64)) / v5.toInt64 * v5.toInt64).toInt32) &&& 31)))), (11, .int (((v8 / (65536 : Int64)) - (v8 / (65536 : Int64)) / (100 : Int64) * (100 : Int64)).toInt32)), (4, .long v8), (10, .int (((v2 / (65536 : Int64)) - (v2 / (65536 : Int64)) / v5.toInt64 * v5.toInt64).toInt32)), (0, .ref (gB G + r0)), (1, .int x1), (2, .int x2), (3, .int x3), (9, .int x9)]) C dX12_wander_192 (by decide) rfl ?_
          refine ww_iinc (pc := 194) (v := x9 + (1 : Int32)) (lv' := [(9, .int (x9 + (1 : Int32))), (7, .int v23), (8, .int (x8 + (1 : Int32))), (6, .int (x6 ^^^ ((1 : Int32) <<< ((((v2 / (65536 : Int64)) - (v2 / (65536 : Int64)) / v5.toInt64 * v5.toInt64).toInt32) &&& 31)))), (11, .int (((v8 / (65536 : Int64)) - (v8 / (65536 : Int64)) / (100 : Int64) * (100 : Int64)).toInt32)), (4, .long v8), (10, .int (((v2 / (65536 : Int64)) - (v2 / (65536 : Int64)) / v5.toInt64 * v5.toInt64).toInt32)), (0, .ref (gB G + r0)), (1, .int x1), (2, .int x2), (3, .int x3)]) C 10 dX12_wander_194 rfl (congrArg (fun z => x9 + z) (show Int32.ofInt (1) = (1 : Int32) by decide)) (by decide) rfl ?_
          refine ww_goto (pc := 197) (tgt := 79) C dX12_wander_197 (by decide) ?_
          have hf := xsj hf
          subst hf
          refine ww_sub [7, 8, 9, 10, 5, 3, 1, 2, 0] rfl ?_
          exact hk.1 (v8, x6 ^^^ ((1 : Int32) <<< ((((v2 / (65536 : Int64)) - (v2 / (65536 : Int64)) / v5.toInt64 * v5.toInt64).toInt32) &&& 31)), v23, x8 + (1 : Int32), x9 + (1 : Int32)) rfl
      · have hf := xin q hf
        refine ww_goto (pc := 158) (tgt := 194) C dX12_wander_158 (by decide) ?_
        refine ww_iinc (pc := 194) (v := x9 + (1 : Int32)) (lv' := [(9, .int (x9 + (1 : Int32))), (11, .int (((v8 / (65536 : Int64)) - (v8 / (65536 : Int64)) / (100 : Int64) * (100 : Int64)).toInt32)), (4, .long v8), (10, .int (((v2 / (65536 : Int64)) - (v2 / (65536 : Int64)) / v5.toInt64 * v5.toInt64).toInt32)), (0, .ref (gB G + r0)), (1, .int x1), (2, .int x2), (3, .int x3), (6, .int x6), (7, .int x7), (8, .int x8)]) C 10 dX12_wander_194 rfl (congrArg (fun z => x9 + z) (show Int32.ofInt (1) = (1 : Int32) by decide)) (by decide) rfl ?_
        refine ww_goto (pc := 197) (tgt := 79) C dX12_wander_197 (by decide) ?_
        have hf := xsj hf
        subst hf
        refine ww_sub [4, 5, 6, 7, 2, 8, 9, 10, 0] rfl ?_
        exact hk.1 (v8, x6, x7, x8, x9 + (1 : Int32)) rfl
theorem s_X12_wander_e {G : XG} (C : XC G cX12_wander RX12 (some .int) 12 4 97) {σ : XS} {r0 : Nat} {x1 : Int32} {x2 : Int32} {x3 : Int32} {x : Int32 × XS} (hf : f_X12_wander σ r0 x1 x2 x3 = some x) (hk : XEnd G (some (.int x.1)) x.2) : WW G 0 [(0, .ref (gB G + r0)), (1, .int x1), (2, .int x2), (3, .int x3)] [] σ := by
  refine ww_aload_n (pc := 0) C 0 dX12_wander_0 rfl ?_
  obtain ⟨_, e1, hf⟩ := xbd hf
  obtain ⟨v3, e2, hf⟩ := xbd hf
  refine ww_callVi (pc := 1) (as := []) (st := []) C (k_X12_sites (l := gl G) (E := gE G) (hb := gB G) (σ := σ) e2) rfl (by decide) xc_X12_193 q1496 qp136 (xck_spec e1) rfl (by decide) (xst4 (Nat.le_of_ble_eq_true rfl)) xsame.rf.le xsame.rf.lim dX12_wander_1 ?_
  refine ww_if_eq (pc := 4) (tgt := 37) C dX12_wander_4 (by decide) (fun q => ?_) (fun q => ?_)
  · have hf := xip q hf
    refine ww_ldcw (pc := 37) C q1597 dX12_wander_37 ?_
    have hf := xsj hf
    subst hf
    exact ww_iret (pc := 40) C hk dX12_wander_40
  · have hf := xin q hf
    refine ww_iload_n (pc := 7) C 1 dX12_wander_7 rfl ?_
    refine ww_iconst (pc := 8) (v := (0 : Int32)) C dX12_wander_8 (by decide) ?_
    refine ww_sipush (pc := 9) (v := (200 : Int32)) C dX12_wander_9 (by decide) ?_
    obtain ⟨v5, e4, hf⟩ := xbd hf
    refine ww_callSi (pc := 12) (as := [.int x1, .int (0 : Int32), .int (200 : Int32)]) (st := []) C (k_X12_in (l := gl G) (E := gE G) (hb := gB G) (σ := σ) e4) xc_X12_213 q1473 rfl (by decide) (xst4 (Nat.le_of_ble_eq_true rfl)) xsame.rf.le xsame.rf.lim dX12_wander_12 ?_
    refine ww_if_eq (pc := 15) (tgt := 37) C dX12_wander_15 (by decide) (fun q => ?_) (fun q => ?_)
    · have hf := xip q hf
      refine ww_ldcw (pc := 37) C q1597 dX12_wander_37 ?_
      have hf := xsj hf
      subst hf
      exact ww_iret (pc := 40) C hk dX12_wander_40
    · have hf := xin q hf
      refine ww_iload_n (pc := 18) C 2 dX12_wander_18 rfl ?_
      refine ww_iconst (pc := 19) (v := (0 : Int32)) C dX12_wander_19 (by decide) ?_
      refine ww_bipush (pc := 20) (v := (100 : Int32)) C dX12_wander_20 (by decide) ?_
      obtain ⟨v7, e6, hf⟩ := xbd hf
      refine ww_callSi (pc := 22) (as := [.int x2, .int (0 : Int32), .int (100 : Int32)]) (st := []) C (k_X12_in (l := gl G) (E := gE G) (hb := gB G) (σ := σ) e6) xc_X12_213 q1473 rfl (by decide) (xst4 (Nat.le_of_ble_eq_true rfl)) xsame.rf.le xsame.rf.lim dX12_wander_22 ?_
      refine ww_if_eq (pc := 25) (tgt := 37) C dX12_wander_25 (by decide) (fun q => ?_) (fun q => ?_)
      · have hf := xip q hf
        refine ww_ldcw (pc := 37) C q1597 dX12_wander_37 ?_
        have hf := xsj hf
        subst hf
        exact ww_iret (pc := 40) C hk dX12_wander_40
      · have hf := xin q hf
        refine ww_iload_n (pc := 28) C 3 dX12_wander_28 rfl ?_
        refine ww_iconst (pc := 29) (v := (0 : Int32)) C dX12_wander_29 (by decide) ?_
        refine ww_iconst (pc := 30) (v := (2 : Int32)) C dX12_wander_30 (by decide) ?_
        obtain ⟨v9, e8, hf⟩ := xbd hf
        refine ww_callSi (pc := 31) (as := [.int x3, .int (0 : Int32), .int (2 : Int32)]) (st := []) C (k_X12_in (l := gl G) (E := gE G) (hb := gB G) (σ := σ) e8) xc_X12_213 q1473 rfl (by decide) (xst4 (Nat.le_of_ble_eq_true rfl)) xsame.rf.le xsame.rf.lim dX12_wander_31 ?_
        refine ww_if_ne (pc := 34) (tgt := 41) C dX12_wander_34 (by decide) (fun q => ?_) (fun q => ?_)
        · have hf := xin q hf
          refine ww_aload_n (pc := 41) C 0 dX12_wander_41 rfl ?_
          obtain ⟨_, e10, hf⟩ := xbd hf
          obtain ⟨σ12, e11, hf⟩ := xbd hf
          refine ww_callVv (pc := 42) (as := []) (st := []) C (k_X12_knows (l := gl G) (E := gE G) (hb := gB G) (σ := σ) e11) rfl (by decide) xc_X12_261 q1551 qp140 (xck_spec e10) rfl (by decide) (xst4 (Nat.le_of_ble_eq_true rfl)) (m_X12_knows e11).le (m_X12_knows e11).lim dX12_wander_42 ?_
          refine ww_aload_n (pc := 45) C 0 dX12_wander_45 rfl ?_
          obtain ⟨z14, e13, hf⟩ := xbd hf
          refine gf_X12_40 (pc := 46) C e13 dX12_wander_46 ?_
          refine ww_bipush (pc := 49) (v := (65 : Int32)) C dX12_wander_49 (by decide) ?_
          obtain ⟨v16, e15, hf⟩ := xbd hf
          refine ww_iald (pc := 51) C e15 dX12_wander_51 ?_
          refine ww_i2l (pc := 52) (v := v16.toInt64) C dX12_wander_52 rfl ?_
          refine ww_lstore (pc := 53) (lv' := [(4, .long v16.toInt64), (0, .ref (gB G + r0)), (1, .int x1), (2, .int x2), (3, .int x3)]) C dX12_wander_53 (by decide) rfl ?_
          refine ww_aload_n (pc := 55) C 1 dX12_wander_55 rfl ?_
          obtain ⟨z18, e17, hf⟩ := xbd hf
          refine gf_X12_40 (pc := 56) C e17 dX12_wander_56 ?_
          refine ww_bipush (pc := 59) (v := (64 : Int32)) C dX12_wander_59 (by decide) ?_
          obtain ⟨v20, e19, hf⟩ := xbd hf
          refine ww_iald (pc := 61) C e19 dX12_wander_61 ?_
          refine ww_istore (pc := 62) (lv' := [(6, .int v20), (4, .long v16.toInt64), (0, .ref (gB G + r0)), (1, .int x1), (2, .int x2), (3, .int x3)]) C dX12_wander_62 (by decide) rfl ?_
          refine ww_aload_n (pc := 64) C 2 dX12_wander_64 rfl ?_
          obtain ⟨z22, e21, hf⟩ := xbd hf
          refine gf_X12_57 (pc := 65) C e21 dX12_wander_65 ?_
          refine ww_iload (pc := 68) C 0 dX12_wander_68 rfl ?_
          obtain ⟨v24, e23, hf⟩ := xbd hf
          refine ww_iald (pc := 70) C e23 dX12_wander_70 ?_
          refine ww_istore (pc := 71) (lv' := [(7, .int v24), (6, .int v20), (4, .long v16.toInt64), (0, .ref (gB G + r0)), (1, .int x1), (2, .int x2), (3, .int x3)]) C dX12_wander_71 (by decide) rfl ?_
          refine ww_iconst (pc := 73) (v := (0 : Int32)) C dX12_wander_73 (by decide) ?_
          refine ww_istore (pc := 74) (lv' := [(8, .int (0 : Int32)), (7, .int v24), (6, .int v20), (4, .long v16.toInt64), (0, .ref (gB G + r0)), (1, .int x1), (2, .int x2), (3, .int x3)]) C dX12_wander_74 (by decide) rfl ?_
          refine ww_iconst (pc := 76) (v := (0 : Int32)) C dX12_wander_76 (by decide) ?_
          refine ww_istore (pc := 77) (lv' := [(9, .int (0 : Int32)), (8, .int (0 : Int32)), (7, .int v24), (6, .int v20), (4, .long v16.toInt64), (0, .ref (gB G + r0)), (1, .int x1), (2, .int x2), (3, .int x3)]) C dX12_wander_77 (by decide) rfl ?_
          refine ww_sub [5, 6, 7, 8, 4, 3, 2, 1, 0] rfl ?_
          exact s_X12_wander_l79 C (a := (v16.toInt64, v20, v24, (0 : Int32), (0 : Int32))) hf hk
        · have hf := xip q hf
          refine ww_ldcw (pc := 37) C q1597 dX12_wander_37 ?_
          have hf := xsj hf
          subst hf
          exact ww_iret (pc := 40) C hk dX12_wander_40
theorem m_X12_wander {σ : XS} {r0 : Nat} {x1 : Int32} {x2 : Int32} {x3 : Int32} {x : Int32 × XS} (hf : f_X12_wander σ r0 x1 x2 x3 = some x) : xsame σ x.2 := by
  have hm := xsame.rf (σ := σ)
  obtain ⟨_, e1, hf⟩ := xbd hf
  obtain ⟨v3, e2, hf⟩ := xbd hf
  by_cases q : v3 = 0
  · have hf := xip q hf
    have hf := xsj hf
    subst hf
    exact hm
  · have hf := xin q hf
    obtain ⟨v5, e4, hf⟩ := xbd hf
    by_cases q : v5 = 0
    · have hf := xip q hf
      have hf := xsj hf
      subst hf
      exact hm
    · have hf := xin q hf
      obtain ⟨v7, e6, hf⟩ := xbd hf
      by_cases q : v7 = 0
      · have hf := xip q hf
        have hf := xsj hf
        subst hf
        exact hm
      · have hf := xin q hf
        obtain ⟨v9, e8, hf⟩ := xbd hf
        by_cases q : v9 = 0
        · have hf := xip q hf
          have hf := xsj hf
          subst hf
          exact hm
        · have hf := xin q hf
          obtain ⟨_, e10, hf⟩ := xbd hf
          obtain ⟨σ12, e11, hf⟩ := xbd hf
          have hm := hm.tr (m_X12_knows e11)
          obtain ⟨z14, e13, hf⟩ := xbd hf
          obtain ⟨v16, e15, hf⟩ := xbd hf
          obtain ⟨z18, e17, hf⟩ := xbd hf
          obtain ⟨v20, e19, hf⟩ := xbd hf
          obtain ⟨z22, e21, hf⟩ := xbd hf
          obtain ⟨v24, e23, hf⟩ := xbd hf
          exact hm.tr (m_X12_wander_l79 (a := (v16.toInt64, v20, v24, (0 : Int32), (0 : Int32))) hf)
theorem k_X12_wander {l : Launch} {E : XD} {hb : Nat} {σ : XS} {r0 : Nat} {x1 : Int32} {x2 : Int32} {x3 : Int32} {x : Int32 × XS} (h : f_X12_wander σ r0 x1 x2 x3 = some x) : XM l yX12_wander cX12_wander 12 (some .int) 4 97 E hb [.ref (hb + r0), .int x1, .int x2, .int x3] σ (some (.int x.1)) x.2 := by
  refine xm_of (by decide) (Nat.le_of_ble_eq_true rfl) (m_X12_wander h).le (fun G hG C hl hQ => ?_)
  obtain ⟨rfl, rfl, rfl, hN⟩ := hG
  exact s_X12_wander_e C h hQ
end
section
noncomputable def f_L_law_j355 (L : Nat) (xs : Nat → Int32) (σ : XS) (r1 : Nat) (r2 : Nat) (x3 : Int32) (t0 : Nat) (t1 : Int32) (t2 : Int32) : Option ((Int32 × XS) ⊕ (Int32 × XS)) := (xsq L xs (x3 + (3 : Int32))).bind fun v2 => (xck σ t0 12).bind fun _ => (f_X12_tie σ t0 t1 t2 v2).bind fun (v6, σ5) => some (.inl (x3 + (6 : Int32), σ5))
noncomputable def f_L_law_j327 (L : Nat) (xs : Nat → Int32) (σ : XS) (r1 : Nat) (r2 : Nat) (x3 : Int32) (t0 : Nat) (t1 : Int32) (t2 : Int32) : Option ((Int32 × XS) ⊕ (Int32 × XS)) := (xsq L xs (x3 + (3 : Int32))).bind fun v2 => (xck σ t0 11).bind fun _ => (f_X11_tie σ t0 t1 t2 v2).bind fun (v6, σ5) => (xsq L xs (x3 + (1 : Int32))).bind fun v8 => (xsq L xs (x3 + (2 : Int32))).bind fun v10 => if v10 = 0 then (f_L_law_j355 L xs σ5 r1 r2 x3 r2 v8 (0 : Int32)) else f_L_law_j355 L xs σ5 r1 r2 x3 r2 v8 (1 : Int32)
noncomputable def f_L_law_j552 (L : Nat) (xs : Nat → Int32) (σ : XS) (r1 : Nat) (r2 : Nat) (x3 : Int32) (t0 : Int32) : Option ((Int32 × XS) ⊕ (Int32 × XS)) := (xsq L xs (x3 + (1 : Int32))).bind fun v2 => (xsq L xs (x3 + (2 : Int32))).bind fun v4 => (xck σ r2 12).bind fun _ => (f_X12_level σ r2 v2 v4).bind fun (v8, σ7) => some (.inl (x3 + (6 : Int32), σ7))
noncomputable def f_L_law_j585 (L : Nat) (xs : Nat → Int32) (σ : XS) (r1 : Nat) (r2 : Nat) (x3 : Int32) (t0 : Int32) : Option ((Int32 × XS) ⊕ (Int32 × XS)) := (xsq L xs (x3 + (1 : Int32))).bind fun v2 => (xsq L xs (x3 + (2 : Int32))).bind fun v4 => (xck σ r2 12).bind fun _ => (f_X12_both σ r2 v2 v4).bind fun (v8, σ7) => some (.inl (x3 + (6 : Int32), σ7))
noncomputable def f_L_law_j613 (L : Nat) (xs : Nat → Int32) (σ : XS) (r1 : Nat) (r2 : Nat) (x3 : Int32) (t0 : Int32) : Option ((Int32 × XS) ⊕ (Int32 × XS)) := (xsq L xs (x3 + (1 : Int32))).bind fun v2 => (xck σ r2 12).bind fun _ => (f_X12_broken σ r2 v2).bind fun (v6, σ5) => some (.inl (x3 + (6 : Int32), σ5))
noncomputable def f_L_law_j636 (L : Nat) (xs : Nat → Int32) (σ : XS) (r1 : Nat) (r2 : Nat) (x3 : Int32) (t0 : Int32) : Option ((Int32 × XS) ⊕ (Int32 × XS)) := (xsq L xs (x3 + (1 : Int32))).bind fun v2 => (xck σ r2 12).bind fun _ => (f_X12_ground σ r2 v2).bind fun (v6, σ5) => some (.inl (x3 + (6 : Int32), σ5))
noncomputable def f_L_law_j674 (L : Nat) (xs : Nat → Int32) (σ : XS) (r1 : Nat) (r2 : Nat) (x3 : Int32) (t0 : Int32) : Option ((Int32 × XS) ⊕ (Int32 × XS)) := (xsq L xs (x3 + (1 : Int32))).bind fun v2 => (xsq L xs (x3 + (2 : Int32))).bind fun v4 => (xsq L xs (x3 + (3 : Int32))).bind fun v6 => (xsq L xs (x3 + (4 : Int32))).bind fun v8 => (xck σ r2 12).bind fun _ => (f_X12_pair σ r2 v2 v4 v6 v8).bind fun (v12, σ11) => some (.inl (x3 + (6 : Int32), σ11))
noncomputable def f_L_law_j717 (L : Nat) (xs : Nat → Int32) (σ : XS) (r1 : Nat) (r2 : Nat) (x3 : Int32) (t0 : Int32) : Option ((Int32 × XS) ⊕ (Int32 × XS)) := (xsq L xs (x3 + (1 : Int32))).bind fun v2 => (xsq L xs (x3 + (2 : Int32))).bind fun v4 => (xck σ r2 12).bind fun _ => (f_X12_mean σ r2 v2 v4).bind fun (v8, σ7) => some (.inl (x3 + (6 : Int32), σ7))
noncomputable def f_L_law_j745 (L : Nat) (xs : Nat → Int32) (σ : XS) (r1 : Nat) (r2 : Nat) (x3 : Int32) (t0 : Int32) : Option ((Int32 × XS) ⊕ (Int32 × XS)) := (xsq L xs (x3 + (1 : Int32))).bind fun v2 => (xck σ r2 12).bind fun _ => (f_X12_value σ r2 v2).bind fun (v6, σ5) => some (.inl (x3 + (6 : Int32), σ5))
noncomputable def f_L_law_j778 (L : Nat) (xs : Nat → Int32) (σ : XS) (r1 : Nat) (r2 : Nat) (x3 : Int32) (t0 : Int64) : Option ((Int32 × XS) ⊕ (Int32 × XS)) := (xsq L xs (x3 + (1 : Int32))).bind fun v2 => (xsq L xs (x3 + (2 : Int32))).bind fun v4 => (xsq L xs (x3 + (3 : Int32))).bind fun v6 => (xck σ r2 12).bind fun _ => (f_X12_joined σ r2 v2 v4 v6).bind fun (v10, σ9) => some (.inl (x3 + (6 : Int32), σ9))
noncomputable def f_L_law_j816 (L : Nat) (xs : Nat → Int32) (σ : XS) (r1 : Nat) (r2 : Nat) (x3 : Int32) (t0 : Int32) : Option ((Int32 × XS) ⊕ (Int32 × XS)) := (xsq L xs (x3 + (1 : Int32))).bind fun v2 => (xsq L xs (x3 + (2 : Int32))).bind fun v4 => (xck σ r2 12).bind fun _ => (f_X12_state σ r2 v2 v4).bind fun (v8, σ7) => some (.inl (x3 + (6 : Int32), σ7))
noncomputable def f_L_law_j867 (L : Nat) (xs : Nat → Int32) (σ : XS) (r1 : Nat) (r2 : Nat) (x3 : Int32) (t0 : Nat) (t1 : Int32) : Option ((Int32 × XS) ⊕ (Int32 × XS)) := (xck σ t0 12).bind fun _ => (f_X12_stuck σ t0 t1).bind fun (v4, σ3) => some (.inl (x3 + (6 : Int32), σ3))
noncomputable def f_L_law_j852 (L : Nat) (xs : Nat → Int32) (σ : XS) (r1 : Nat) (r2 : Nat) (x3 : Int32) (t0 : Int32) : Option ((Int32 × XS) ⊕ (Int32 × XS)) := (xsq L xs (x3 + (1 : Int32))).bind fun v2 => if v2 = 0 then (f_L_law_j867 L xs σ r1 r2 x3 r2 (0 : Int32)) else f_L_law_j867 L xs σ r1 r2 x3 r2 (1 : Int32)
noncomputable def f_L_law_j849 (L : Nat) (xs : Nat → Int32) (σ : XS) (r1 : Nat) (r2 : Nat) (x3 : Int32) (t0 : Nat) (t1 : Int32) : Option ((Int32 × XS) ⊕ (Int32 × XS)) := (xck σ t0 11).bind fun _ => (f_X11_stuck σ t0 t1).bind fun (v4, σ3) => f_L_law_j852 L xs σ3 r1 r2 x3 v4
noncomputable def f_L_law_j893 (L : Nat) (xs : Nat → Int32) (σ : XS) (r1 : Nat) (r2 : Nat) (x3 : Int32) (t0 : Int32) : Option ((Int32 × XS) ⊕ (Int32 × XS)) := (xsq L xs (x3 + (1 : Int32))).bind fun v2 => (xsq L xs (x3 + (2 : Int32))).bind fun v4 => (xsq L xs (x3 + (3 : Int32))).bind fun v6 => (xck σ r2 12).bind fun _ => (f_X12_rows σ r2 v2 v4 v6).bind fun v9 => some (.inl (x3 + (6 : Int32), σ))
noncomputable def f_L_law_j949 (L : Nat) (xs : Nat → Int32) (σ : XS) (r1 : Nat) (r2 : Nat) (x3 : Int32) (t0 : Int32) : Option ((Int32 × XS) ⊕ (Int32 × XS)) := (xsq L xs (x3 + (1 : Int32))).bind fun v2 => (xck σ r2 12).bind fun _ => (f_X12_overlap σ r2 v2).bind fun (v6, σ5) => some (.inl (x3 + (6 : Int32), σ5))
noncomputable def f_L_law_j972 (L : Nat) (xs : Nat → Int32) (σ : XS) (r1 : Nat) (r2 : Nat) (x3 : Int32) (t0 : Int32) : Option ((Int32 × XS) ⊕ (Int32 × XS)) := (xsq L xs (x3 + (1 : Int32))).bind fun v2 => (xck σ r2 12).bind fun _ => (f_X12_basin σ r2 v2).bind fun (v6, σ5) => some (.inl (x3 + (6 : Int32), σ5))
noncomputable def f_L_law_j1000 (L : Nat) (xs : Nat → Int32) (σ : XS) (r1 : Nat) (r2 : Nat) (x3 : Int32) (t0 : Int32) : Option ((Int32 × XS) ⊕ (Int32 × XS)) := (xsq L xs (x3 + (1 : Int32))).bind fun v2 => (xsq L xs (x3 + (2 : Int32))).bind fun v4 => (xck σ r2 12).bind fun _ => (f_X12_stiff σ r2 v2 v4).bind fun (v8, σ7) => some (.inl (x3 + (6 : Int32), σ7))
noncomputable def f_L_law_j1028 (L : Nat) (xs : Nat → Int32) (σ : XS) (r1 : Nat) (r2 : Nat) (x3 : Int32) (t0 : Int32) : Option ((Int32 × XS) ⊕ (Int32 × XS)) := (xsq L xs (x3 + (1 : Int32))).bind fun v2 => (xck σ r2 12).bind fun _ => (f_X12_hill σ r2 v2).bind fun (v6, σ5) => if t0 = v6 then (some (.inl (x3 + (6 : Int32), σ5))) else (some ((0 : Int32), σ5)).map .inr
noncomputable def f_L_law_j1056 (L : Nat) (xs : Nat → Int32) (σ : XS) (r1 : Nat) (r2 : Nat) (x3 : Int32) (t0 : Int32) : Option ((Int32 × XS) ⊕ (Int32 × XS)) := (xsq L xs (x3 + (1 : Int32))).bind fun v2 => (xsq L xs (x3 + (2 : Int32))).bind fun v4 => (xck σ r2 12).bind fun _ => (f_X12_pass σ r2 v2 v4).bind fun (v8, σ7) => some (.inl (x3 + (6 : Int32), σ7))
noncomputable def f_L_law_j1084 (L : Nat) (xs : Nat → Int32) (σ : XS) (r1 : Nat) (r2 : Nat) (x3 : Int32) (t0 : Int32) : Option ((Int32 × XS) ⊕ (Int32 × XS)) := (xsq L xs (x3 + (1 : Int32))).bind fun v2 => (xck σ r2 12).bind fun _ => (f_X12_lakes σ r2 v2).bind fun (v6, σ5) => some (.inl (x3 + (6 : Int32), σ5))
noncomputable def f_L_law_j1107 (L : Nat) (xs : Nat → Int32) (σ : XS) (r1 : Nat) (r2 : Nat) (x3 : Int32) (t0 : Int64) : Option ((Int32 × XS) ⊕ (Int32 × XS)) := (xsq L xs (x3 + (1 : Int32))).bind fun v2 => (xck σ r2 12).bind fun _ => (f_X12_down σ r2 v2).bind fun (v6, σ5) => some (.inl (x3 + (6 : Int32), σ5))
noncomputable def f_L_law_j1135 (L : Nat) (xs : Nat → Int32) (σ : XS) (r1 : Nat) (r2 : Nat) (x3 : Int32) (t0 : Int32) : Option ((Int32 × XS) ⊕ (Int32 × XS)) := (xsq L xs (x3 + (1 : Int32))).bind fun v2 => (xsq L xs (x3 + (2 : Int32))).bind fun v4 => (xck σ r2 12).bind fun _ => (f_X12_nearest σ r2 v2 v4).bind fun (v8, σ7) => some (.inl (x3 + (6 : Int32), σ7))
noncomputable def f_L_law_j1275 (L : Nat) (xs : Nat → Int32) (σ : XS) (r1 : Nat) (r2 : Nat) (x3 : Int32) (t0 : Int32) : Option ((Int32 × XS) ⊕ (Int32 × XS)) := (xsq L xs (x3 + (1 : Int32))).bind fun v2 => (xck σ r2 12).bind fun _ => (f_X12_count σ r2 v2).bind fun v5 => some (.inl (x3 + (6 : Int32), σ))
noncomputable def f_L_law_b18 (L : Nat) (xs : Nat → Int32) (r1 : Nat) (r2 : Nat) : Int32 × XS → Option ((Int32 × XS) ⊕ (Int32 × XS)) := fun a => match a with
  | (x3, σ) => if ((Int32.ofNat L) - (6 : Int32)) < x3 then ((some ((1 : Int32), σ)).map .inr) else (xsq L xs x3).bind fun v2 => xsw (v2 &&& (63 : Int32)) (0) [(xsq L xs (x3 + (1 : Int32))).bind fun v4 => (xsq L xs (x3 + (2 : Int32))).bind fun v6 => (xsq L xs (x3 + (3 : Int32))).bind fun v8 => (xsq L xs (x3 + (4 : Int32))).bind fun v10 => (xsq L xs (x3 + (5 : Int32))).bind fun v12 => (xck σ r1 11).bind fun _ => (f_X11_feed σ r1 v4 v6 v8 v10 v12).bind fun (v16, σ15) => (xsq L xs (x3 + (1 : Int32))).bind fun v18 => (xsq L xs (x3 + (2 : Int32))).bind fun v20 => (xsq L xs (x3 + (3 : Int32))).bind fun v22 => (xsq L xs (x3 + (4 : Int32))).bind fun v24 => (xsq L xs (x3 + (5 : Int32))).bind fun v26 => (xck σ15 r2 12).bind fun _ => (f_X12_feed σ15 r2 v18 v20 v22 v24 v26).bind fun (v30, σ29) => some (.inl (x3 + (6 : Int32), σ29)), (xsq L xs (x3 + (1 : Int32))).bind fun v4 => (xck σ r1 11).bind fun _ => (f_X11_back σ r1 v4).bind fun (v8, σ7) => (xsq L xs (x3 + (1 : Int32))).bind fun v10 => (xck σ7 r2 12).bind fun _ => (f_X12_back σ7 r2 v10).bind fun (v14, σ13) => some (.inl (x3 + (6 : Int32), σ13)), (xck σ r1 11).bind fun _ => (f_X11_read σ r1).bind fun (v6, σ5) => (xck σ5 r2 12).bind fun _ => (f_X12_read σ5 r2).bind fun (v10, σ9) => some (.inl (x3 + (6 : Int32), σ9)), (xck σ r1 11).bind fun _ => (f_X11_place σ r1).bind fun v5 => (xck σ r2 12).bind fun _ => (f_X12_place σ r2).bind fun v8 => some (.inl (x3 + (6 : Int32), σ)), (xsq L xs (x3 + (1 : Int32))).bind fun v4 => (xsq L xs (x3 + (2 : Int32))).bind fun v6 => if v6 = 0 then (f_L_law_j327 L xs σ r1 r2 x3 r1 v4 (0 : Int32)) else f_L_law_j327 L xs σ r1 r2 x3 r1 v4 (1 : Int32), (xsq L xs (x3 + (1 : Int32))).bind fun v4 => (xsq L xs (x3 + (2 : Int32))).bind fun v6 => (xck σ r1 11).bind fun _ => (f_X11_pull σ r1 v4 v6).bind fun (v10, σ9) => (xsq L xs (x3 + (1 : Int32))).bind fun v12 => (xsq L xs (x3 + (2 : Int32))).bind fun v14 => (xck σ9 r2 12).bind fun _ => (f_X12_pull σ9 r2 v12 v14).bind fun (v18, σ17) => some (.inl (x3 + (6 : Int32), σ17)), (xsq L xs (x3 + (1 : Int32))).bind fun v4 => (xsq L xs (x3 + (2 : Int32))).bind fun v6 => (xck σ r1 11).bind fun _ => (f_X11_pin σ r1 v4 v6).bind fun (v10, σ9) => (xsq L xs (x3 + (1 : Int32))).bind fun v12 => (xsq L xs (x3 + (2 : Int32))).bind fun v14 => (xck σ9 r2 12).bind fun _ => (f_X12_pin σ9 r2 v12 v14).bind fun (v18, σ17) => some (.inl (x3 + (6 : Int32), σ17)), (xsq L xs (x3 + (1 : Int32))).bind fun v4 => (xck σ r1 11).bind fun _ => (f_X11_glass σ r1 v4).bind fun (v8, σ7) => (xsq L xs (x3 + (1 : Int32))).bind fun v10 => (xck σ7 r2 12).bind fun _ => (f_X12_glass σ7 r2 v10).bind fun (v14, σ13) => some (.inl (x3 + (6 : Int32), σ13)), (xsq L xs (x3 + (1 : Int32))).bind fun v4 => (xck σ r1 11).bind fun _ => (f_X11_turn σ r1 v4).bind fun (v8, σ7) => (xsq L xs (x3 + (1 : Int32))).bind fun v10 => (xck σ7 r2 12).bind fun _ => (f_X12_turn σ7 r2 v10).bind fun (v14, σ13) => some (.inl (x3 + (6 : Int32), σ13)), (xck σ r1 11).bind fun _ => (f_X11_fall σ r1).bind fun (v6, σ5) => (xck σ5 r2 12).bind fun _ => (f_X12_fall σ5 r2).bind fun (v10, σ9) => some (.inl (x3 + (6 : Int32), σ9)), (xck σ r1 11).bind fun _ => (f_X11_undo σ r1).bind fun (v6, σ5) => (xck σ5 r2 12).bind fun _ => (f_X12_undo σ5 r2).bind fun (v10, σ9) => some (.inl (x3 + (6 : Int32), σ9)), (xsq L xs (x3 + (1 : Int32))).bind fun v4 => (xsq L xs (x3 + (2 : Int32))).bind fun v6 => (xck σ r1 11).bind fun _ => (f_X11_site σ r1 v4 v6).bind fun v9 => (xsq L xs (x3 + (1 : Int32))).bind fun v11 => (xsq L xs (x3 + (2 : Int32))).bind fun v13 => (xck σ r2 12).bind fun _ => (f_X12_site σ r2 v11 v13).bind fun v16 => some (.inl (x3 + (6 : Int32), σ)), (xsq L xs (x3 + (1 : Int32))).bind fun v4 => (xsq L xs (x3 + (2 : Int32))).bind fun v6 => (xck σ r1 11).bind fun _ => (f_X11_level σ r1 v4 v6).bind fun (v10, σ9) => f_L_law_j552 L xs σ9 r1 r2 x3 v10, (xsq L xs (x3 + (1 : Int32))).bind fun v4 => (xsq L xs (x3 + (2 : Int32))).bind fun v6 => (xck σ r1 11).bind fun _ => (f_X11_both σ r1 v4 v6).bind fun (v10, σ9) => f_L_law_j585 L xs σ9 r1 r2 x3 v10, (xsq L xs (x3 + (1 : Int32))).bind fun v4 => (xck σ r1 11).bind fun _ => (f_X11_broken σ r1 v4).bind fun (v8, σ7) => f_L_law_j613 L xs σ7 r1 r2 x3 v8, (xsq L xs (x3 + (1 : Int32))).bind fun v4 => (xck σ r1 11).bind fun _ => (f_X11_ground σ r1 v4).bind fun (v8, σ7) => f_L_law_j636 L xs σ7 r1 r2 x3 v8, (xsq L xs (x3 + (1 : Int32))).bind fun v4 => (xsq L xs (x3 + (2 : Int32))).bind fun v6 => (xsq L xs (x3 + (3 : Int32))).bind fun v8 => (xsq L xs (x3 + (4 : Int32))).bind fun v10 => (xck σ r1 11).bind fun _ => (f_X11_pair σ r1 v4 v6 v8 v10).bind fun (v14, σ13) => f_L_law_j674 L xs σ13 r1 r2 x3 v14, (xsq L xs (x3 + (1 : Int32))).bind fun v4 => (xsq L xs (x3 + (2 : Int32))).bind fun v6 => (xck σ r1 11).bind fun _ => (f_X11_mean σ r1 v4 v6).bind fun (v10, σ9) => f_L_law_j717 L xs σ9 r1 r2 x3 v10, (xsq L xs (x3 + (1 : Int32))).bind fun v4 => (xck σ r1 11).bind fun _ => (f_X11_value σ r1 v4).bind fun (v8, σ7) => f_L_law_j745 L xs σ7 r1 r2 x3 v8, (xsq L xs (x3 + (1 : Int32))).bind fun v4 => (xsq L xs (x3 + (2 : Int32))).bind fun v6 => (xsq L xs (x3 + (3 : Int32))).bind fun v8 => (xck σ r1 11).bind fun _ => (f_X11_joined σ r1 v4 v6 v8).bind fun (v12, σ11) => f_L_law_j778 L xs σ11 r1 r2 x3 v12, (xsq L xs (x3 + (1 : Int32))).bind fun v4 => (xsq L xs (x3 + (2 : Int32))).bind fun v6 => (xck σ r1 11).bind fun _ => (f_X11_state σ r1 v4 v6).bind fun (v10, σ9) => f_L_law_j816 L xs σ9 r1 r2 x3 v10, (xsq L xs (x3 + (1 : Int32))).bind fun v4 => if v4 = 0 then (f_L_law_j849 L xs σ r1 r2 x3 r1 (0 : Int32)) else f_L_law_j849 L xs σ r1 r2 x3 r1 (1 : Int32), (xsq L xs (x3 + (1 : Int32))).bind fun v4 => (xsq L xs (x3 + (2 : Int32))).bind fun v6 => (xsq L xs (x3 + (3 : Int32))).bind fun v8 => (xck σ r1 11).bind fun _ => (f_X11_rows σ r1 v4 v6 v8).bind fun (v12, σ11) => f_L_law_j893 L xs σ11 r1 r2 x3 v12, (xsq L xs (x3 + (1 : Int32))).bind fun v4 => (xck σ r1 11).bind fun _ => (f_X11_square σ r1 v4).bind fun v7 => (xsq L xs (x3 + (1 : Int32))).bind fun v9 => (xck σ r2 12).bind fun _ => (f_X12_square σ r2 v9).bind fun v12 => some (.inl (x3 + (6 : Int32), σ)), (xsq L xs (x3 + (1 : Int32))).bind fun v4 => (xck σ r1 11).bind fun _ => (f_X11_overlap σ r1 v4).bind fun (v8, σ7) => f_L_law_j949 L xs σ7 r1 r2 x3 v8, (xsq L xs (x3 + (1 : Int32))).bind fun v4 => (xck σ r1 11).bind fun _ => (f_X11_basin σ r1 v4).bind fun (v8, σ7) => f_L_law_j972 L xs σ7 r1 r2 x3 v8, (xsq L xs (x3 + (1 : Int32))).bind fun v4 => (xsq L xs (x3 + (2 : Int32))).bind fun v6 => (xck σ r1 11).bind fun _ => (f_X11_stiff σ r1 v4 v6).bind fun (v10, σ9) => f_L_law_j1000 L xs σ9 r1 r2 x3 v10, (xsq L xs (x3 + (1 : Int32))).bind fun v4 => (xck σ r1 11).bind fun _ => (f_X11_hill σ r1 v4).bind fun (v8, σ7) => f_L_law_j1028 L xs σ7 r1 r2 x3 v8, (xsq L xs (x3 + (1 : Int32))).bind fun v4 => (xsq L xs (x3 + (2 : Int32))).bind fun v6 => (xck σ r1 11).bind fun _ => (f_X11_pass σ r1 v4 v6).bind fun (v10, σ9) => f_L_law_j1056 L xs σ9 r1 r2 x3 v10, (xsq L xs (x3 + (1 : Int32))).bind fun v4 => (xck σ r1 11).bind fun _ => (f_X11_lakes σ r1 v4).bind fun (v8, σ7) => f_L_law_j1084 L xs σ7 r1 r2 x3 v8, (xsq L xs (x3 + (1 : Int32))).bind fun v4 => (xck σ r1 11).bind fun _ => (f_X11_down σ r1 v4).bind fun (v8, σ7) => f_L_law_j1107 L xs σ7 r1 r2 x3 v8, (xsq L xs (x3 + (1 : Int32))).bind fun v4 => (xsq L xs (x3 + (2 : Int32))).bind fun v6 => (xck σ r1 11).bind fun _ => (f_X11_nearest σ r1 v4 v6).bind fun (v10, σ9) => f_L_law_j1135 L xs σ9 r1 r2 x3 v10, (xsq L xs (x3 + (1 : Int32))).bind fun v4 => (xck σ r1 11).bind fun _ => (f_X11_cluster σ r1 v4).bind fun v7 => (xsq L xs (x3 + (1 : Int32))).bind fun v9 => (xck σ r2 12).bind fun _ => (f_X12_cluster σ r2 v9).bind fun v12 => some (.inl (x3 + (6 : Int32), σ)), (xsq L xs (x3 + (1 : Int32))).bind fun v4 => (xsq L xs (x3 + (2 : Int32))).bind fun v6 => (xsq L xs (x3 + (3 : Int32))).bind fun v8 => (xck σ r1 11).bind fun _ => (f_X11_wander σ r1 v4 v6 v8).bind fun (v12, σ11) => (xsq L xs (x3 + (1 : Int32))).bind fun v14 => (xsq L xs (x3 + (2 : Int32))).bind fun v16 => (xsq L xs (x3 + (3 : Int32))).bind fun v18 => (xck σ11 r2 12).bind fun _ => (f_X12_wander σ11 r2 v14 v16 v18).bind fun (v22, σ21) => some (.inl (x3 + (6 : Int32), σ21)), (xsq L xs (x3 + (1 : Int32))).bind fun v4 => (xck σ r1 11).bind fun _ => (f_X11_hold σ r1 v4).bind fun (v8, σ7) => (xsq L xs (x3 + (1 : Int32))).bind fun v10 => (xck σ7 r2 12).bind fun _ => (f_X12_hold σ7 r2 v10).bind fun (v14, σ13) => some (.inl (x3 + (6 : Int32), σ13)), (xsq L xs (x3 + (1 : Int32))).bind fun v4 => (xck σ r1 11).bind fun _ => (f_X11_restore σ r1 v4).bind fun (v8, σ7) => (xsq L xs (x3 + (1 : Int32))).bind fun v10 => (xck σ7 r2 12).bind fun _ => (f_X12_restore σ7 r2 v10).bind fun (v14, σ13) => some (.inl (x3 + (6 : Int32), σ13)), (xsq L xs (x3 + (1 : Int32))).bind fun v4 => (xck σ r1 11).bind fun _ => (f_X11_count σ r1 v4).bind fun (v8, σ7) => f_L_law_j1275 L xs σ7 r1 r2 x3 v8] (some (.inl (x3 + (6 : Int32), σ)))
noncomputable def f_L_law_j15 (L : Nat) (xs : Nat → Int32) (σ : XS) (r1 : Nat) (t0 : Nat) : Option (Int32 × XS) := xloop (f_L_law_b18 L xs r1 t0) ((0 : Int32), σ)
noncomputable def f_L_law_j11 (L : Nat) (xs : Nat → Int32) (σ : XS) (r1 : Nat) (t0 : Nat) : Option (Int32 × XS) := (xck σ t0 12).bind fun _ => (f_X12_init σ t0).bind fun σ3 => f_L_law_j15 L xs σ3 r1 t0
noncomputable def f_L_law_j7 (L : Nat) (xs : Nat → Int32) (σ : XS) (t0 : Nat) : Option (Int32 × XS) := (xnO σ 12 45).bind fun (z2, σ3) => f_L_law_j11 L xs σ3 t0 z2
noncomputable def f_L_law_j3 (L : Nat) (xs : Nat → Int32) (σ : XS) (t0 : Nat) : Option (Int32 × XS) := (xck σ t0 11).bind fun _ => (f_X11_init σ t0).bind fun σ3 => f_L_law_j7 L xs σ3 t0
noncomputable def f_L_law (L : Nat) (xs : Nat → Int32) (σ : XS) : Option (Int32 × XS) := (xnO σ 11 16).bind fun (z2, σ3) => f_L_law_j3 L xs σ3 z2
theorem s_L_law_j355 {G : XG} (C : XC G cL_law RL (some .boolean) 4 13 468) {b L : Nat} {xs : Nat → Int32} (hS : XScr G b L xs) {σ : XS} {r1 : Nat} {r2 : Nat} {x3 : Int32} {t0 : Nat} {t1 : Int32} {t2 : Int32} {x : ((Int32 × XS) ⊕ (Int32 × XS))} (hf : f_L_law_j355 L xs σ r1 r2 x3 t0 t1 t2 = some x) (hk : (∀ a' : Int32 × XS, x = .inl a' → XUp G a'.2 ∧ WW G 18 [(0, .ref b), (1, .ref (gB G + r1)), (2, .ref (gB G + r2)), (3, .int a'.1)] [] a'.2) ∧ (∀ b1 : Int32 × XS, x = .inr b1 → XEndL G b b1)) : WW G 355 [(0, .ref b), (1, .ref (gB G + r1)), (2, .ref (gB G + r2)), (3, .int x3)] [.int t2, .int t1, .ref (gB G + t0)] σ := by
  refine ww_aload_n (pc := 355) C 0 dL_law_355 rfl ?_
  refine ww_iload_n (pc := 356) C 3 dL_law_356 rfl ?_
  refine ww_iconst (pc := 357) (v := (3 : Int32)) C dL_law_357 (by decide) ?_
  refine ww_iadd (pc := 358) C dL_law_358 ?_
  obtain ⟨v2, e1, hf⟩ := xbd hf
  refine ww_sld (pc := 359) C hS e1 dL_law_359 ?_
  obtain ⟨_, e3, hf⟩ := xbd hf
  obtain ⟨⟨v6, σ5⟩, e4, hf⟩ := xbd hf
  dsimp only at hf
  refine ww_callVi (pc := 360) (as := [.int t1, .int t2, .int v2]) (st := []) C (k_X12_tie (l := gl G) (E := gE G) (hb := gB G) (σ := σ) e4) rfl (by decide) xc_L_36 q1503 q1504 (xck_spec e3) rfl (by decide) (xst4 (Nat.le_of_ble_eq_true rfl)) (m_X12_tie e4).le (m_X12_tie e4).lim dL_law_360 ?_
  refine ww_pop (pc := 363) C dL_law_363 rfl ?_
  refine ww_goto (pc := 364) (tgt := 1289) C dL_law_364 (by decide) ?_
  refine ww_iinc (pc := 1289) (v := x3 + (6 : Int32)) (lv' := [(3, .int (x3 + (6 : Int32))), (0, .ref b), (1, .ref (gB G + r1)), (2, .ref (gB G + r2))]) C 3 dL_law_1289 rfl (congrArg (fun z => x3 + z) (show Int32.ofInt (6) = (6 : Int32) by decide)) (by decide) rfl ?_
  refine ww_goto (pc := 1292) (tgt := 18) C dL_law_1292 (by decide) ?_
  have hf := xsj hf
  subst hf
  refine ww_sub [1, 2, 3, 0] rfl ?_
  exact (hk.1 (x3 + (6 : Int32), σ5) rfl).2
theorem m_L_law_j355 {L : Nat} {xs : Nat → Int32} {σ : XS} {r1 : Nat} {r2 : Nat} {x3 : Int32} {t0 : Nat} {t1 : Int32} {t2 : Int32} {x : ((Int32 × XS) ⊕ (Int32 × XS))} (hf : f_L_law_j355 L xs σ r1 r2 x3 t0 t1 t2 = some x) : (∀ a' : Int32 × XS, x = .inl a' → xext σ a'.2) ∧ (∀ b1 : Int32 × XS, x = .inr b1 → xext σ b1.2) := by
  have hm := xext.rf (σ := σ)
  obtain ⟨v2, e1, hf⟩ := xbd hf
  obtain ⟨_, e3, hf⟩ := xbd hf
  obtain ⟨⟨v6, σ5⟩, e4, hf⟩ := xbd hf
  dsimp only at hf
  have hm := hm.tr (m_X12_tie e4).ext
  have hf := xsj hf
  subst hf
  exact ⟨fun a' e => (by have h9 := Sum.inl.inj e; subst h9; exact hm), fun b e => xnc1 e⟩
theorem s_L_law_j327 {G : XG} (C : XC G cL_law RL (some .boolean) 4 13 468) {b L : Nat} {xs : Nat → Int32} (hS : XScr G b L xs) {σ : XS} {r1 : Nat} {r2 : Nat} {x3 : Int32} {t0 : Nat} {t1 : Int32} {t2 : Int32} {x : ((Int32 × XS) ⊕ (Int32 × XS))} (hf : f_L_law_j327 L xs σ r1 r2 x3 t0 t1 t2 = some x) (hk : (∀ a' : Int32 × XS, x = .inl a' → XUp G a'.2 ∧ WW G 18 [(0, .ref b), (1, .ref (gB G + r1)), (2, .ref (gB G + r2)), (3, .int a'.1)] [] a'.2) ∧ (∀ b1 : Int32 × XS, x = .inr b1 → XEndL G b b1)) : WW G 327 [(0, .ref b), (1, .ref (gB G + r1)), (2, .ref (gB G + r2)), (3, .int x3)] [.int t2, .int t1, .ref (gB G + t0)] σ := by
  refine ww_aload_n (pc := 327) C 0 dL_law_327 rfl ?_
  refine ww_iload_n (pc := 328) C 3 dL_law_328 rfl ?_
  refine ww_iconst (pc := 329) (v := (3 : Int32)) C dL_law_329 (by decide) ?_
  refine ww_iadd (pc := 330) C dL_law_330 ?_
  obtain ⟨v2, e1, hf⟩ := xbd hf
  refine ww_sld (pc := 331) C hS e1 dL_law_331 ?_
  obtain ⟨_, e3, hf⟩ := xbd hf
  obtain ⟨⟨v6, σ5⟩, e4, hf⟩ := xbd hf
  dsimp only at hf
  refine ww_callVi (pc := 332) (as := [.int t1, .int t2, .int v2]) (st := []) C (k_X11_tie (l := gl G) (E := gE G) (hb := gB G) (σ := σ) e4) rfl (by decide) xc_L_32 q690 q691 (xck_spec e3) rfl (by decide) (xst4 (Nat.le_of_ble_eq_true rfl)) (m_X11_tie e4).le (m_X11_tie e4).lim dL_law_332 ?_
  refine ww_pop (pc := 335) C dL_law_335 rfl ?_
  refine ww_aload_n (pc := 336) C 2 dL_law_336 rfl ?_
  refine ww_aload_n (pc := 337) C 0 dL_law_337 rfl ?_
  refine ww_iload_n (pc := 338) C 3 dL_law_338 rfl ?_
  refine ww_iconst (pc := 339) (v := (1 : Int32)) C dL_law_339 (by decide) ?_
  refine ww_iadd (pc := 340) C dL_law_340 ?_
  obtain ⟨v8, e7, hf⟩ := xbd hf
  refine ww_sld (pc := 341) C hS e7 dL_law_341 ?_
  refine ww_aload_n (pc := 342) C 0 dL_law_342 rfl ?_
  refine ww_iload_n (pc := 343) C 3 dL_law_343 rfl ?_
  refine ww_iconst (pc := 344) (v := (2 : Int32)) C dL_law_344 (by decide) ?_
  refine ww_iadd (pc := 345) C dL_law_345 ?_
  obtain ⟨v10, e9, hf⟩ := xbd hf
  refine ww_sld (pc := 346) C hS e9 dL_law_346 ?_
  refine ww_if_eq (pc := 347) (tgt := 354) C dL_law_347 (by decide) (fun q => ?_) (fun q => ?_)
  · have hf := xip q hf
    refine ww_iconst (pc := 354) (v := (0 : Int32)) C dL_law_354 (by decide) ?_
    refine ww_sub [0, 1, 2, 3] rfl ?_
    exact s_L_law_j355 C hS hf hk
  · have hf := xin q hf
    refine ww_iconst (pc := 350) (v := (1 : Int32)) C dL_law_350 (by decide) ?_
    refine ww_goto (pc := 351) (tgt := 355) C dL_law_351 (by decide) ?_
    refine ww_sub [0, 1, 2, 3] rfl ?_
    exact s_L_law_j355 C hS hf hk
theorem m_L_law_j327 {L : Nat} {xs : Nat → Int32} {σ : XS} {r1 : Nat} {r2 : Nat} {x3 : Int32} {t0 : Nat} {t1 : Int32} {t2 : Int32} {x : ((Int32 × XS) ⊕ (Int32 × XS))} (hf : f_L_law_j327 L xs σ r1 r2 x3 t0 t1 t2 = some x) : (∀ a' : Int32 × XS, x = .inl a' → xext σ a'.2) ∧ (∀ b1 : Int32 × XS, x = .inr b1 → xext σ b1.2) := by
  have hm := xext.rf (σ := σ)
  obtain ⟨v2, e1, hf⟩ := xbd hf
  obtain ⟨_, e3, hf⟩ := xbd hf
  obtain ⟨⟨v6, σ5⟩, e4, hf⟩ := xbd hf
  dsimp only at hf
  have hm := hm.tr (m_X11_tie e4).ext
  obtain ⟨v8, e7, hf⟩ := xbd hf
  obtain ⟨v10, e9, hf⟩ := xbd hf
  by_cases q : v10 = 0
  · have hf := xip q hf
    exact ⟨fun a' e => hm.tr ((m_L_law_j355 hf).1 a' e), fun b1 eb1 => hm.tr ((m_L_law_j355 hf).2 b1 eb1)⟩
  · have hf := xin q hf
    exact ⟨fun a' e => hm.tr ((m_L_law_j355 hf).1 a' e), fun b1 eb1 => hm.tr ((m_L_law_j355 hf).2 b1 eb1)⟩
theorem s_L_law_j552 {G : XG} (C : XC G cL_law RL (some .boolean) 4 13 468) {b L : Nat} {xs : Nat → Int32} (hS : XScr G b L xs) {σ : XS} {r1 : Nat} {r2 : Nat} {x3 : Int32} {t0 : Int32} {x : ((Int32 × XS) ⊕ (Int32 × XS))} (hf : f_L_law_j552 L xs σ r1 r2 x3 t0 = some x) (hk : (∀ a' : Int32 × XS, x = .inl a' → XUp G a'.2 ∧ WW G 18 [(0, .ref b), (1, .ref (gB G + r1)), (2, .ref (gB G + r2)), (3, .int a'.1)] [] a'.2) ∧ (∀ b1 : Int32 × XS, x = .inr b1 → XEndL G b b1)) : WW G 552 [(0, .ref b), (1, .ref (gB G + r1)), (2, .ref (gB G + r2)), (3, .int x3)] [.int t0] σ := by
  refine ww_pop (pc := 552) C dL_law_552 rfl ?_
  refine ww_aload_n (pc := 553) C 2 dL_law_553 rfl ?_
  refine ww_aload_n (pc := 554) C 0 dL_law_554 rfl ?_
  refine ww_iload_n (pc := 555) C 3 dL_law_555 rfl ?_
  refine ww_iconst (pc := 556) (v := (1 : Int32)) C dL_law_556 (by decide) ?_
  refine ww_iadd (pc := 557) C dL_law_557 ?_
  obtain ⟨v2, e1, hf⟩ := xbd hf
  refine ww_sld (pc := 558) C hS e1 dL_law_558 ?_
  refine ww_aload_n (pc := 559) C 0 dL_law_559 rfl ?_
  refine ww_iload_n (pc := 560) C 3 dL_law_560 rfl ?_
  refine ww_iconst (pc := 561) (v := (2 : Int32)) C dL_law_561 (by decide) ?_
  refine ww_iadd (pc := 562) C dL_law_562 ?_
  obtain ⟨v4, e3, hf⟩ := xbd hf
  refine ww_sld (pc := 563) C hS e3 dL_law_563 ?_
  obtain ⟨_, e5, hf⟩ := xbd hf
  obtain ⟨⟨v8, σ7⟩, e6, hf⟩ := xbd hf
  dsimp only at hf
  refine ww_callVi (pc := 564) (as := [.int v2, .int v4]) (st := []) C (k_X12_level (l := gl G) (E := gE G) (hb := gB G) (σ := σ) e6) rfl (by decide) xc_L_72 q1603 q1604 (xck_spec e5) rfl (by decide) (xst4 (Nat.le_of_ble_eq_true rfl)) (m_X12_level e6).le (m_X12_level e6).lim dL_law_564 ?_
  refine ww_pop (pc := 567) C dL_law_567 rfl ?_
  refine ww_goto (pc := 568) (tgt := 1289) C dL_law_568 (by decide) ?_
  refine ww_iinc (pc := 1289) (v := x3 + (6 : Int32)) (lv' := [(3, .int (x3 + (6 : Int32))), (0, .ref b), (1, .ref (gB G + r1)), (2, .ref (gB G + r2))]) C 3 dL_law_1289 rfl (congrArg (fun z => x3 + z) (show Int32.ofInt (6) = (6 : Int32) by decide)) (by decide) rfl ?_
  refine ww_goto (pc := 1292) (tgt := 18) C dL_law_1292 (by decide) ?_
  have hf := xsj hf
  subst hf
  refine ww_sub [1, 2, 3, 0] rfl ?_
  exact (hk.1 (x3 + (6 : Int32), σ7) rfl).2
theorem m_L_law_j552 {L : Nat} {xs : Nat → Int32} {σ : XS} {r1 : Nat} {r2 : Nat} {x3 : Int32} {t0 : Int32} {x : ((Int32 × XS) ⊕ (Int32 × XS))} (hf : f_L_law_j552 L xs σ r1 r2 x3 t0 = some x) : (∀ a' : Int32 × XS, x = .inl a' → xext σ a'.2) ∧ (∀ b1 : Int32 × XS, x = .inr b1 → xext σ b1.2) := by
  have hm := xext.rf (σ := σ)
  obtain ⟨v2, e1, hf⟩ := xbd hf
  obtain ⟨v4, e3, hf⟩ := xbd hf
  obtain ⟨_, e5, hf⟩ := xbd hf
  obtain ⟨⟨v8, σ7⟩, e6, hf⟩ := xbd hf
  dsimp only at hf
  have hm := hm.tr (m_X12_level e6).ext
  have hf := xsj hf
  subst hf
  exact ⟨fun a' e => (by have h9 := Sum.inl.inj e; subst h9; exact hm), fun b e => xnc1 e⟩
theorem s_L_law_j585 {G : XG} (C : XC G cL_law RL (some .boolean) 4 13 468) {b L : Nat} {xs : Nat → Int32} (hS : XScr G b L xs) {σ : XS} {r1 : Nat} {r2 : Nat} {x3 : Int32} {t0 : Int32} {x : ((Int32 × XS) ⊕ (Int32 × XS))} (hf : f_L_law_j585 L xs σ r1 r2 x3 t0 = some x) (hk : (∀ a' : Int32 × XS, x = .inl a' → XUp G a'.2 ∧ WW G 18 [(0, .ref b), (1, .ref (gB G + r1)), (2, .ref (gB G + r2)), (3, .int a'.1)] [] a'.2) ∧ (∀ b1 : Int32 × XS, x = .inr b1 → XEndL G b b1)) : WW G 585 [(0, .ref b), (1, .ref (gB G + r1)), (2, .ref (gB G + r2)), (3, .int x3)] [.int t0] σ := by
  refine ww_pop (pc := 585) C dL_law_585 rfl ?_
  refine ww_aload_n (pc := 586) C 2 dL_law_586 rfl ?_
  refine ww_aload_n (pc := 587) C 0 dL_law_587 rfl ?_
  refine ww_iload_n (pc := 588) C 3 dL_law_588 rfl ?_
  refine ww_iconst (pc := 589) (v := (1 : Int32)) C dL_law_589 (by decide) ?_
  refine ww_iadd (pc := 590) C dL_law_590 ?_
  obtain ⟨v2, e1, hf⟩ := xbd hf
  refine ww_sld (pc := 591) C hS e1 dL_law_591 ?_
  refine ww_aload_n (pc := 592) C 0 dL_law_592 rfl ?_
  refine ww_iload_n (pc := 593) C 3 dL_law_593 rfl ?_
  refine ww_iconst (pc := 594) (v := (2 : Int32)) C dL_law_594 (by decide) ?_
  refine ww_iadd (pc := 595) C dL_law_595 ?_
  obtain ⟨v4, e3, hf⟩ := xbd hf
  refine ww_sld (pc := 596) C hS e3 dL_law_596 ?_
  obtain ⟨_, e5, hf⟩ := xbd hf
  obtain ⟨⟨v8, σ7⟩, e6, hf⟩ := xbd hf
  dsimp only at hf
  refine ww_callVi (pc := 597) (as := [.int v2, .int v4]) (st := []) C (k_X12_both (l := gl G) (E := gE G) (hb := gB G) (σ := σ) e6) rfl (by decide) xc_L_76 q1618 q1619 (xck_spec e5) rfl (by decide) (xst4 (Nat.le_of_ble_eq_true rfl)) (m_X12_both e6).le (m_X12_both e6).lim dL_law_597 ?_
  refine ww_pop (pc := 600) C dL_law_600 rfl ?_
  refine ww_goto (pc := 601) (tgt := 1289) C dL_law_601 (by decide) ?_
  refine ww_iinc (pc := 1289) (v := x3 + (6 : Int32)) (lv' := [(3, .int (x3 + (6 : Int32))), (0, .ref b), (1, .ref (gB G + r1)), (2, .ref (gB G + r2))]) C 3 dL_law_1289 rfl (congrArg (fun z => x3 + z) (show Int32.ofInt (6) = (6 : Int32) by decide)) (by decide) rfl ?_
  refine ww_goto (pc := 1292) (tgt := 18) C dL_law_1292 (by decide) ?_
  have hf := xsj hf
  subst hf
  refine ww_sub [1, 2, 3, 0] rfl ?_
  exact (hk.1 (x3 + (6 : Int32), σ7) rfl).2
theorem m_L_law_j585 {L : Nat} {xs : Nat → Int32} {σ : XS} {r1 : Nat} {r2 : Nat} {x3 : Int32} {t0 : Int32} {x : ((Int32 × XS) ⊕ (Int32 × XS))} (hf : f_L_law_j585 L xs σ r1 r2 x3 t0 = some x) : (∀ a' : Int32 × XS, x = .inl a' → xext σ a'.2) ∧ (∀ b1 : Int32 × XS, x = .inr b1 → xext σ b1.2) := by
  have hm := xext.rf (σ := σ)
  obtain ⟨v2, e1, hf⟩ := xbd hf
  obtain ⟨v4, e3, hf⟩ := xbd hf
  obtain ⟨_, e5, hf⟩ := xbd hf
  obtain ⟨⟨v8, σ7⟩, e6, hf⟩ := xbd hf
  dsimp only at hf
  have hm := hm.tr (m_X12_both e6).ext
  have hf := xsj hf
  subst hf
  exact ⟨fun a' e => (by have h9 := Sum.inl.inj e; subst h9; exact hm), fun b e => xnc1 e⟩
theorem s_L_law_j613 {G : XG} (C : XC G cL_law RL (some .boolean) 4 13 468) {b L : Nat} {xs : Nat → Int32} (hS : XScr G b L xs) {σ : XS} {r1 : Nat} {r2 : Nat} {x3 : Int32} {t0 : Int32} {x : ((Int32 × XS) ⊕ (Int32 × XS))} (hf : f_L_law_j613 L xs σ r1 r2 x3 t0 = some x) (hk : (∀ a' : Int32 × XS, x = .inl a' → XUp G a'.2 ∧ WW G 18 [(0, .ref b), (1, .ref (gB G + r1)), (2, .ref (gB G + r2)), (3, .int a'.1)] [] a'.2) ∧ (∀ b1 : Int32 × XS, x = .inr b1 → XEndL G b b1)) : WW G 613 [(0, .ref b), (1, .ref (gB G + r1)), (2, .ref (gB G + r2)), (3, .int x3)] [.int t0] σ := by
  refine ww_pop (pc := 613) C dL_law_613 rfl ?_
  refine ww_aload_n (pc := 614) C 2 dL_law_614 rfl ?_
  refine ww_aload_n (pc := 615) C 0 dL_law_615 rfl ?_
  refine ww_iload_n (pc := 616) C 3 dL_law_616 rfl ?_
  refine ww_iconst (pc := 617) (v := (1 : Int32)) C dL_law_617 (by decide) ?_
  refine ww_iadd (pc := 618) C dL_law_618 ?_
  obtain ⟨v2, e1, hf⟩ := xbd hf
  refine ww_sld (pc := 619) C hS e1 dL_law_619 ?_
  obtain ⟨_, e3, hf⟩ := xbd hf
  obtain ⟨⟨v6, σ5⟩, e4, hf⟩ := xbd hf
  dsimp only at hf
  refine ww_callVi (pc := 620) (as := [.int v2]) (st := []) C (k_X12_broken (l := gl G) (E := gE G) (hb := gB G) (σ := σ) e4) rfl (by decide) xc_L_80 q1622 q1623 (xck_spec e3) rfl (by decide) (xst4 (Nat.le_of_ble_eq_true rfl)) (m_X12_broken e4).le (m_X12_broken e4).lim dL_law_620 ?_
  refine ww_pop (pc := 623) C dL_law_623 rfl ?_
  refine ww_goto (pc := 624) (tgt := 1289) C dL_law_624 (by decide) ?_
  refine ww_iinc (pc := 1289) (v := x3 + (6 : Int32)) (lv' := [(3, .int (x3 + (6 : Int32))), (0, .ref b), (1, .ref (gB G + r1)), (2, .ref (gB G + r2))]) C 3 dL_law_1289 rfl (congrArg (fun z => x3 + z) (show Int32.ofInt (6) = (6 : Int32) by decide)) (by decide) rfl ?_
  refine ww_goto (pc := 1292) (tgt := 18) C dL_law_1292 (by decide) ?_
  have hf := xsj hf
  subst hf
  refine ww_sub [1, 2, 3, 0] rfl ?_
  exact (hk.1 (x3 + (6 : Int32), σ5) rfl).2
theorem m_L_law_j613 {L : Nat} {xs : Nat → Int32} {σ : XS} {r1 : Nat} {r2 : Nat} {x3 : Int32} {t0 : Int32} {x : ((Int32 × XS) ⊕ (Int32 × XS))} (hf : f_L_law_j613 L xs σ r1 r2 x3 t0 = some x) : (∀ a' : Int32 × XS, x = .inl a' → xext σ a'.2) ∧ (∀ b1 : Int32 × XS, x = .inr b1 → xext σ b1.2) := by
  have hm := xext.rf (σ := σ)
  obtain ⟨v2, e1, hf⟩ := xbd hf
  obtain ⟨_, e3, hf⟩ := xbd hf
  obtain ⟨⟨v6, σ5⟩, e4, hf⟩ := xbd hf
  dsimp only at hf
  have hm := hm.tr (m_X12_broken e4).ext
  have hf := xsj hf
  subst hf
  exact ⟨fun a' e => (by have h9 := Sum.inl.inj e; subst h9; exact hm), fun b e => xnc1 e⟩
theorem s_L_law_j636 {G : XG} (C : XC G cL_law RL (some .boolean) 4 13 468) {b L : Nat} {xs : Nat → Int32} (hS : XScr G b L xs) {σ : XS} {r1 : Nat} {r2 : Nat} {x3 : Int32} {t0 : Int32} {x : ((Int32 × XS) ⊕ (Int32 × XS))} (hf : f_L_law_j636 L xs σ r1 r2 x3 t0 = some x) (hk : (∀ a' : Int32 × XS, x = .inl a' → XUp G a'.2 ∧ WW G 18 [(0, .ref b), (1, .ref (gB G + r1)), (2, .ref (gB G + r2)), (3, .int a'.1)] [] a'.2) ∧ (∀ b1 : Int32 × XS, x = .inr b1 → XEndL G b b1)) : WW G 636 [(0, .ref b), (1, .ref (gB G + r1)), (2, .ref (gB G + r2)), (3, .int x3)] [.int t0] σ := by
  refine ww_pop (pc := 636) C dL_law_636 rfl ?_
  refine ww_aload_n (pc := 637) C 2 dL_law_637 rfl ?_
  refine ww_aload_n (pc := 638) C 0 dL_law_638 rfl ?_
  refine ww_iload_n (pc := 639) C 3 dL_law_639 rfl ?_
  refine ww_iconst (pc := 640) (v := (1 : Int32)) C dL_law_640 (by decide) ?_
  refine ww_iadd (pc := 641) C dL_law_641 ?_
  obtain ⟨v2, e1, hf⟩ := xbd hf
  refine ww_sld (pc := 642) C hS e1 dL_law_642 ?_
  obtain ⟨_, e3, hf⟩ := xbd hf
  obtain ⟨⟨v6, σ5⟩, e4, hf⟩ := xbd hf
  dsimp only at hf
  refine ww_callVi (pc := 643) (as := [.int v2]) (st := []) C (k_X12_ground (l := gl G) (E := gE G) (hb := gB G) (σ := σ) e4) rfl (by decide) xc_L_84 q1633 q1634 (xck_spec e3) rfl (by decide) (xst4 (Nat.le_of_ble_eq_true rfl)) (m_X12_ground e4).le (m_X12_ground e4).lim dL_law_643 ?_
  refine ww_pop (pc := 646) C dL_law_646 rfl ?_
  refine ww_goto (pc := 647) (tgt := 1289) C dL_law_647 (by decide) ?_
  refine ww_iinc (pc := 1289) (v := x3 + (6 : Int32)) (lv' := [(3, .int (x3 + (6 : Int32))), (0, .ref b), (1, .ref (gB G + r1)), (2, .ref (gB G + r2))]) C 3 dL_law_1289 rfl (congrArg (fun z => x3 + z) (show Int32.ofInt (6) = (6 : Int32) by decide)) (by decide) rfl ?_
  refine ww_goto (pc := 1292) (tgt := 18) C dL_law_1292 (by decide) ?_
  have hf := xsj hf
  subst hf
  refine ww_sub [1, 2, 3, 0] rfl ?_
  exact (hk.1 (x3 + (6 : Int32), σ5) rfl).2
theorem m_L_law_j636 {L : Nat} {xs : Nat → Int32} {σ : XS} {r1 : Nat} {r2 : Nat} {x3 : Int32} {t0 : Int32} {x : ((Int32 × XS) ⊕ (Int32 × XS))} (hf : f_L_law_j636 L xs σ r1 r2 x3 t0 = some x) : (∀ a' : Int32 × XS, x = .inl a' → xext σ a'.2) ∧ (∀ b1 : Int32 × XS, x = .inr b1 → xext σ b1.2) := by
  have hm := xext.rf (σ := σ)
  obtain ⟨v2, e1, hf⟩ := xbd hf
  obtain ⟨_, e3, hf⟩ := xbd hf
  obtain ⟨⟨v6, σ5⟩, e4, hf⟩ := xbd hf
  dsimp only at hf
  have hm := hm.tr (m_X12_ground e4).ext
  have hf := xsj hf
  subst hf
  exact ⟨fun a' e => (by have h9 := Sum.inl.inj e; subst h9; exact hm), fun b e => xnc1 e⟩
theorem s_L_law_j674 {G : XG} (C : XC G cL_law RL (some .boolean) 4 13 468) {b L : Nat} {xs : Nat → Int32} (hS : XScr G b L xs) {σ : XS} {r1 : Nat} {r2 : Nat} {x3 : Int32} {t0 : Int32} {x : ((Int32 × XS) ⊕ (Int32 × XS))} (hf : f_L_law_j674 L xs σ r1 r2 x3 t0 = some x) (hk : (∀ a' : Int32 × XS, x = .inl a' → XUp G a'.2 ∧ WW G 18 [(0, .ref b), (1, .ref (gB G + r1)), (2, .ref (gB G + r2)), (3, .int a'.1)] [] a'.2) ∧ (∀ b1 : Int32 × XS, x = .inr b1 → XEndL G b b1)) : WW G 674 [(0, .ref b), (1, .ref (gB G + r1)), (2, .ref (gB G + r2)), (3, .int x3)] [.int t0] σ := by
  refine ww_pop (pc := 674) C dL_law_674 rfl ?_
  refine ww_aload_n (pc := 675) C 2 dL_law_675 rfl ?_
  refine ww_aload_n (pc := 676) C 0 dL_law_676 rfl ?_
  refine ww_iload_n (pc := 677) C 3 dL_law_677 rfl ?_
  refine ww_iconst (pc := 678) (v := (1 : Int32)) C dL_law_678 (by decide) ?_
  refine ww_iadd (pc := 679) C dL_law_679 ?_
  obtain ⟨v2, e1, hf⟩ := xbd hf
  refine ww_sld (pc := 680) C hS e1 dL_law_680 ?_
  refine ww_aload_n (pc := 681) C 0 dL_law_681 rfl ?_
  refine ww_iload_n (pc := 682) C 3 dL_law_682 rfl ?_
  refine ww_iconst (pc := 683) (v := (2 : Int32)) C dL_law_683 (by decide) ?_
  refine ww_iadd (pc := 684) C dL_law_684 ?_
  obtain ⟨v4, e3, hf⟩ := xbd hf
  refine ww_sld (pc := 685) C hS e3 dL_law_685 ?_
  refine ww_aload_n (pc := 686) C 0 dL_law_686 rfl ?_
  refine ww_iload_n (pc := 687) C 3 dL_law_687 rfl ?_
  refine ww_iconst (pc := 688) (v := (3 : Int32)) C dL_law_688 (by decide) ?_
  refine ww_iadd (pc := 689) C dL_law_689 ?_
  obtain ⟨v6, e5, hf⟩ := xbd hf
  refine ww_sld (pc := 690) C hS e5 dL_law_690 ?_
  refine ww_aload_n (pc := 691) C 0 dL_law_691 rfl ?_
  refine ww_iload_n (pc := 692) C 3 dL_law_692 rfl ?_
  refine ww_iconst (pc := 693) (v := (4 : Int32)) C dL_law_693 (by decide) ?_
  refine ww_iadd (pc := 694) C dL_law_694 ?_
  obtain ⟨v8, e7, hf⟩ := xbd hf
  refine ww_sld (pc := 695) C hS e7 dL_law_695 ?_
  obtain ⟨_, e9, hf⟩ := xbd hf
  obtain ⟨⟨v12, σ11⟩, e10, hf⟩ := xbd hf
  dsimp only at hf
  refine ww_callVi (pc := 696) (as := [.int v2, .int v4, .int v6, .int v8]) (st := []) C (k_X12_pair (l := gl G) (E := gE G) (hb := gB G) (σ := σ) e10) rfl (by decide) xc_L_89 q1637 q1638 (xck_spec e9) rfl (by decide) (xst4 (Nat.le_of_ble_eq_true rfl)) (m_X12_pair e10).le (m_X12_pair e10).lim dL_law_696 ?_
  refine ww_pop (pc := 699) C dL_law_699 rfl ?_
  refine ww_goto (pc := 700) (tgt := 1289) C dL_law_700 (by decide) ?_
  refine ww_iinc (pc := 1289) (v := x3 + (6 : Int32)) (lv' := [(3, .int (x3 + (6 : Int32))), (0, .ref b), (1, .ref (gB G + r1)), (2, .ref (gB G + r2))]) C 3 dL_law_1289 rfl (congrArg (fun z => x3 + z) (show Int32.ofInt (6) = (6 : Int32) by decide)) (by decide) rfl ?_
  refine ww_goto (pc := 1292) (tgt := 18) C dL_law_1292 (by decide) ?_
  have hf := xsj hf
  subst hf
  refine ww_sub [1, 2, 3, 0] rfl ?_
  exact (hk.1 (x3 + (6 : Int32), σ11) rfl).2
theorem m_L_law_j674 {L : Nat} {xs : Nat → Int32} {σ : XS} {r1 : Nat} {r2 : Nat} {x3 : Int32} {t0 : Int32} {x : ((Int32 × XS) ⊕ (Int32 × XS))} (hf : f_L_law_j674 L xs σ r1 r2 x3 t0 = some x) : (∀ a' : Int32 × XS, x = .inl a' → xext σ a'.2) ∧ (∀ b1 : Int32 × XS, x = .inr b1 → xext σ b1.2) := by
  have hm := xext.rf (σ := σ)
  obtain ⟨v2, e1, hf⟩ := xbd hf
  obtain ⟨v4, e3, hf⟩ := xbd hf
  obtain ⟨v6, e5, hf⟩ := xbd hf
  obtain ⟨v8, e7, hf⟩ := xbd hf
  obtain ⟨_, e9, hf⟩ := xbd hf
  obtain ⟨⟨v12, σ11⟩, e10, hf⟩ := xbd hf
  dsimp only at hf
  have hm := hm.tr (m_X12_pair e10).ext
  have hf := xsj hf
  subst hf
  exact ⟨fun a' e => (by have h9 := Sum.inl.inj e; subst h9; exact hm), fun b e => xnc1 e⟩
theorem s_L_law_j717 {G : XG} (C : XC G cL_law RL (some .boolean) 4 13 468) {b L : Nat} {xs : Nat → Int32} (hS : XScr G b L xs) {σ : XS} {r1 : Nat} {r2 : Nat} {x3 : Int32} {t0 : Int32} {x : ((Int32 × XS) ⊕ (Int32 × XS))} (hf : f_L_law_j717 L xs σ r1 r2 x3 t0 = some x) (hk : (∀ a' : Int32 × XS, x = .inl a' → XUp G a'.2 ∧ WW G 18 [(0, .ref b), (1, .ref (gB G + r1)), (2, .ref (gB G + r2)), (3, .int a'.1)] [] a'.2) ∧ (∀ b1 : Int32 × XS, x = .inr b1 → XEndL G b b1)) : WW G 717 [(0, .ref b), (1, .ref (gB G + r1)), (2, .ref (gB G + r2)), (3, .int x3)] [.int t0] σ := by
  refine ww_pop (pc := 717) C dL_law_717 rfl ?_
  refine ww_aload_n (pc := 718) C 2 dL_law_718 rfl ?_
  refine ww_aload_n (pc := 719) C 0 dL_law_719 rfl ?_
  refine ww_iload_n (pc := 720) C 3 dL_law_720 rfl ?_
  refine ww_iconst (pc := 721) (v := (1 : Int32)) C dL_law_721 (by decide) ?_
  refine ww_iadd (pc := 722) C dL_law_722 ?_
  obtain ⟨v2, e1, hf⟩ := xbd hf
  refine ww_sld (pc := 723) C hS e1 dL_law_723 ?_
  refine ww_aload_n (pc := 724) C 0 dL_law_724 rfl ?_
  refine ww_iload_n (pc := 725) C 3 dL_law_725 rfl ?_
  refine ww_iconst (pc := 726) (v := (2 : Int32)) C dL_law_726 (by decide) ?_
  refine ww_iadd (pc := 727) C dL_law_727 ?_
  obtain ⟨v4, e3, hf⟩ := xbd hf
  refine ww_sld (pc := 728) C hS e3 dL_law_728 ?_
  obtain ⟨_, e5, hf⟩ := xbd hf
  obtain ⟨⟨v8, σ7⟩, e6, hf⟩ := xbd hf
  dsimp only at hf
  refine ww_callVi (pc := 729) (as := [.int v2, .int v4]) (st := []) C (k_X12_mean (l := gl G) (E := gE G) (hb := gB G) (σ := σ) e6) rfl (by decide) xc_L_93 q1644 q1645 (xck_spec e5) rfl (by decide) (xst4 (Nat.le_of_ble_eq_true rfl)) (m_X12_mean e6).le (m_X12_mean e6).lim dL_law_729 ?_
  refine ww_pop (pc := 732) C dL_law_732 rfl ?_
  refine ww_goto (pc := 733) (tgt := 1289) C dL_law_733 (by decide) ?_
  refine ww_iinc (pc := 1289) (v := x3 + (6 : Int32)) (lv' := [(3, .int (x3 + (6 : Int32))), (0, .ref b), (1, .ref (gB G + r1)), (2, .ref (gB G + r2))]) C 3 dL_law_1289 rfl (congrArg (fun z => x3 + z) (show Int32.ofInt (6) = (6 : Int32) by decide)) (by decide) rfl ?_
  refine ww_goto (pc := 1292) (tgt := 18) C dL_law_1292 (by decide) ?_
  have hf := xsj hf
  subst hf
  refine ww_sub [1, 2, 3, 0] rfl ?_
  exact (hk.1 (x3 + (6 : Int32), σ7) rfl).2
theorem m_L_law_j717 {L : Nat} {xs : Nat → Int32} {σ : XS} {r1 : Nat} {r2 : Nat} {x3 : Int32} {t0 : Int32} {x : ((Int32 × XS) ⊕ (Int32 × XS))} (hf : f_L_law_j717 L xs σ r1 r2 x3 t0 = some x) : (∀ a' : Int32 × XS, x = .inl a' → xext σ a'.2) ∧ (∀ b1 : Int32 × XS, x = .inr b1 → xext σ b1.2) := by
  have hm := xext.rf (σ := σ)
  obtain ⟨v2, e1, hf⟩ := xbd hf
  obtain ⟨v4, e3, hf⟩ := xbd hf
  obtain ⟨_, e5, hf⟩ := xbd hf
  obtain ⟨⟨v8, σ7⟩, e6, hf⟩ := xbd hf
  dsimp only at hf
  have hm := hm.tr (m_X12_mean e6).ext
  have hf := xsj hf
  subst hf
  exact ⟨fun a' e => (by have h9 := Sum.inl.inj e; subst h9; exact hm), fun b e => xnc1 e⟩
theorem s_L_law_j745 {G : XG} (C : XC G cL_law RL (some .boolean) 4 13 468) {b L : Nat} {xs : Nat → Int32} (hS : XScr G b L xs) {σ : XS} {r1 : Nat} {r2 : Nat} {x3 : Int32} {t0 : Int32} {x : ((Int32 × XS) ⊕ (Int32 × XS))} (hf : f_L_law_j745 L xs σ r1 r2 x3 t0 = some x) (hk : (∀ a' : Int32 × XS, x = .inl a' → XUp G a'.2 ∧ WW G 18 [(0, .ref b), (1, .ref (gB G + r1)), (2, .ref (gB G + r2)), (3, .int a'.1)] [] a'.2) ∧ (∀ b1 : Int32 × XS, x = .inr b1 → XEndL G b b1)) : WW G 745 [(0, .ref b), (1, .ref (gB G + r1)), (2, .ref (gB G + r2)), (3, .int x3)] [.int t0] σ := by
  refine ww_pop (pc := 745) C dL_law_745 rfl ?_
  refine ww_aload_n (pc := 746) C 2 dL_law_746 rfl ?_
  refine ww_aload_n (pc := 747) C 0 dL_law_747 rfl ?_
  refine ww_iload_n (pc := 748) C 3 dL_law_748 rfl ?_
  refine ww_iconst (pc := 749) (v := (1 : Int32)) C dL_law_749 (by decide) ?_
  refine ww_iadd (pc := 750) C dL_law_750 ?_
  obtain ⟨v2, e1, hf⟩ := xbd hf
  refine ww_sld (pc := 751) C hS e1 dL_law_751 ?_
  obtain ⟨_, e3, hf⟩ := xbd hf
  obtain ⟨⟨v6, σ5⟩, e4, hf⟩ := xbd hf
  dsimp only at hf
  refine ww_callVi (pc := 752) (as := [.int v2]) (st := []) C (k_X12_value (l := gl G) (E := gE G) (hb := gB G) (σ := σ) e4) rfl (by decide) xc_L_97 q1648 q1649 (xck_spec e3) rfl (by decide) (xst4 (Nat.le_of_ble_eq_true rfl)) (m_X12_value e4).le (m_X12_value e4).lim dL_law_752 ?_
  refine ww_pop (pc := 755) C dL_law_755 rfl ?_
  refine ww_goto (pc := 756) (tgt := 1289) C dL_law_756 (by decide) ?_
  refine ww_iinc (pc := 1289) (v := x3 + (6 : Int32)) (lv' := [(3, .int (x3 + (6 : Int32))), (0, .ref b), (1, .ref (gB G + r1)), (2, .ref (gB G + r2))]) C 3 dL_law_1289 rfl (congrArg (fun z => x3 + z) (show Int32.ofInt (6) = (6 : Int32) by decide)) (by decide) rfl ?_
  refine ww_goto (pc := 1292) (tgt := 18) C dL_law_1292 (by decide) ?_
  have hf := xsj hf
  subst hf
  refine ww_sub [1, 2, 3, 0] rfl ?_
  exact (hk.1 (x3 + (6 : Int32), σ5) rfl).2
theorem m_L_law_j745 {L : Nat} {xs : Nat → Int32} {σ : XS} {r1 : Nat} {r2 : Nat} {x3 : Int32} {t0 : Int32} {x : ((Int32 × XS) ⊕ (Int32 × XS))} (hf : f_L_law_j745 L xs σ r1 r2 x3 t0 = some x) : (∀ a' : Int32 × XS, x = .inl a' → xext σ a'.2) ∧ (∀ b1 : Int32 × XS, x = .inr b1 → xext σ b1.2) := by
  have hm := xext.rf (σ := σ)
  obtain ⟨v2, e1, hf⟩ := xbd hf
  obtain ⟨_, e3, hf⟩ := xbd hf
  obtain ⟨⟨v6, σ5⟩, e4, hf⟩ := xbd hf
  dsimp only at hf
  have hm := hm.tr (m_X12_value e4).ext
  have hf := xsj hf
  subst hf
  exact ⟨fun a' e => (by have h9 := Sum.inl.inj e; subst h9; exact hm), fun b e => xnc1 e⟩
theorem s_L_law_j778 {G : XG} (C : XC G cL_law RL (some .boolean) 4 13 468) {b L : Nat} {xs : Nat → Int32} (hS : XScr G b L xs) {σ : XS} {r1 : Nat} {r2 : Nat} {x3 : Int32} {t0 : Int64} {x : ((Int32 × XS) ⊕ (Int32 × XS))} (hf : f_L_law_j778 L xs σ r1 r2 x3 t0 = some x) (hk : (∀ a' : Int32 × XS, x = .inl a' → XUp G a'.2 ∧ WW G 18 [(0, .ref b), (1, .ref (gB G + r1)), (2, .ref (gB G + r2)), (3, .int a'.1)] [] a'.2) ∧ (∀ b1 : Int32 × XS, x = .inr b1 → XEndL G b b1)) : WW G 778 [(0, .ref b), (1, .ref (gB G + r1)), (2, .ref (gB G + r2)), (3, .int x3)] [.long t0] σ := by
  refine ww_pop2 (pc := 778) C dL_law_778 rfl ?_
  refine ww_aload_n (pc := 779) C 2 dL_law_779 rfl ?_
  refine ww_aload_n (pc := 780) C 0 dL_law_780 rfl ?_
  refine ww_iload_n (pc := 781) C 3 dL_law_781 rfl ?_
  refine ww_iconst (pc := 782) (v := (1 : Int32)) C dL_law_782 (by decide) ?_
  refine ww_iadd (pc := 783) C dL_law_783 ?_
  obtain ⟨v2, e1, hf⟩ := xbd hf
  refine ww_sld (pc := 784) C hS e1 dL_law_784 ?_
  refine ww_aload_n (pc := 785) C 0 dL_law_785 rfl ?_
  refine ww_iload_n (pc := 786) C 3 dL_law_786 rfl ?_
  refine ww_iconst (pc := 787) (v := (2 : Int32)) C dL_law_787 (by decide) ?_
  refine ww_iadd (pc := 788) C dL_law_788 ?_
  obtain ⟨v4, e3, hf⟩ := xbd hf
  refine ww_sld (pc := 789) C hS e3 dL_law_789 ?_
  refine ww_aload_n (pc := 790) C 0 dL_law_790 rfl ?_
  refine ww_iload_n (pc := 791) C 3 dL_law_791 rfl ?_
  refine ww_iconst (pc := 792) (v := (3 : Int32)) C dL_law_792 (by decide) ?_
  refine ww_iadd (pc := 793) C dL_law_793 ?_
  obtain ⟨v6, e5, hf⟩ := xbd hf
  refine ww_sld (pc := 794) C hS e5 dL_law_794 ?_
  obtain ⟨_, e7, hf⟩ := xbd hf
  obtain ⟨⟨v10, σ9⟩, e8, hf⟩ := xbd hf
  dsimp only at hf
  refine ww_callVj (pc := 795) (as := [.int v2, .int v4, .int v6]) (st := []) C (k_X12_joined (l := gl G) (E := gE G) (hb := gB G) (σ := σ) e8) rfl (by decide) xc_L_102 q1654 q1655 (xck_spec e7) rfl (by decide) (xst4 (Nat.le_of_ble_eq_true rfl)) (m_X12_joined e8).le (m_X12_joined e8).lim dL_law_795 ?_
  refine ww_pop2 (pc := 798) C dL_law_798 rfl ?_
  refine ww_goto (pc := 799) (tgt := 1289) C dL_law_799 (by decide) ?_
  refine ww_iinc (pc := 1289) (v := x3 + (6 : Int32)) (lv' := [(3, .int (x3 + (6 : Int32))), (0, .ref b), (1, .ref (gB G + r1)), (2, .ref (gB G + r2))]) C 3 dL_law_1289 rfl (congrArg (fun z => x3 + z) (show Int32.ofInt (6) = (6 : Int32) by decide)) (by decide) rfl ?_
  refine ww_goto (pc := 1292) (tgt := 18) C dL_law_1292 (by decide) ?_
  have hf := xsj hf
  subst hf
  refine ww_sub [1, 2, 3, 0] rfl ?_
  exact (hk.1 (x3 + (6 : Int32), σ9) rfl).2
theorem m_L_law_j778 {L : Nat} {xs : Nat → Int32} {σ : XS} {r1 : Nat} {r2 : Nat} {x3 : Int32} {t0 : Int64} {x : ((Int32 × XS) ⊕ (Int32 × XS))} (hf : f_L_law_j778 L xs σ r1 r2 x3 t0 = some x) : (∀ a' : Int32 × XS, x = .inl a' → xext σ a'.2) ∧ (∀ b1 : Int32 × XS, x = .inr b1 → xext σ b1.2) := by
  have hm := xext.rf (σ := σ)
  obtain ⟨v2, e1, hf⟩ := xbd hf
  obtain ⟨v4, e3, hf⟩ := xbd hf
  obtain ⟨v6, e5, hf⟩ := xbd hf
  obtain ⟨_, e7, hf⟩ := xbd hf
  obtain ⟨⟨v10, σ9⟩, e8, hf⟩ := xbd hf
  dsimp only at hf
  have hm := hm.tr (m_X12_joined e8).ext
  have hf := xsj hf
  subst hf
  exact ⟨fun a' e => (by have h9 := Sum.inl.inj e; subst h9; exact hm), fun b e => xnc1 e⟩
theorem s_L_law_j816 {G : XG} (C : XC G cL_law RL (some .boolean) 4 13 468) {b L : Nat} {xs : Nat → Int32} (hS : XScr G b L xs) {σ : XS} {r1 : Nat} {r2 : Nat} {x3 : Int32} {t0 : Int32} {x : ((Int32 × XS) ⊕ (Int32 × XS))} (hf : f_L_law_j816 L xs σ r1 r2 x3 t0 = some x) (hk : (∀ a' : Int32 × XS, x = .inl a' → XUp G a'.2 ∧ WW G 18 [(0, .ref b), (1, .ref (gB G + r1)), (2, .ref (gB G + r2)), (3, .int a'.1)] [] a'.2) ∧ (∀ b1 : Int32 × XS, x = .inr b1 → XEndL G b b1)) : WW G 816 [(0, .ref b), (1, .ref (gB G + r1)), (2, .ref (gB G + r2)), (3, .int x3)] [.int t0] σ := by
  refine ww_pop (pc := 816) C dL_law_816 rfl ?_
  refine ww_aload_n (pc := 817) C 2 dL_law_817 rfl ?_
  refine ww_aload_n (pc := 818) C 0 dL_law_818 rfl ?_
  refine ww_iload_n (pc := 819) C 3 dL_law_819 rfl ?_
  refine ww_iconst (pc := 820) (v := (1 : Int32)) C dL_law_820 (by decide) ?_
  refine ww_iadd (pc := 821) C dL_law_821 ?_
  obtain ⟨v2, e1, hf⟩ := xbd hf
  refine ww_sld (pc := 822) C hS e1 dL_law_822 ?_
  refine ww_aload_n (pc := 823) C 0 dL_law_823 rfl ?_
  refine ww_iload_n (pc := 824) C 3 dL_law_824 rfl ?_
  refine ww_iconst (pc := 825) (v := (2 : Int32)) C dL_law_825 (by decide) ?_
  refine ww_iadd (pc := 826) C dL_law_826 ?_
  obtain ⟨v4, e3, hf⟩ := xbd hf
  refine ww_sld (pc := 827) C hS e3 dL_law_827 ?_
  obtain ⟨_, e5, hf⟩ := xbd hf
  obtain ⟨⟨v8, σ7⟩, e6, hf⟩ := xbd hf
  dsimp only at hf
  refine ww_callVi (pc := 828) (as := [.int v2, .int v4]) (st := []) C (k_X12_state (l := gl G) (E := gE G) (hb := gB G) (σ := σ) e6) rfl (by decide) xc_L_106 q1663 q1664 (xck_spec e5) rfl (by decide) (xst4 (Nat.le_of_ble_eq_true rfl)) (m_X12_state e6).le (m_X12_state e6).lim dL_law_828 ?_
  refine ww_pop (pc := 831) C dL_law_831 rfl ?_
  refine ww_goto (pc := 832) (tgt := 1289) C dL_law_832 (by decide) ?_
  refine ww_iinc (pc := 1289) (v := x3 + (6 : Int32)) (lv' := [(3, .int (x3 + (6 : Int32))), (0, .ref b), (1, .ref (gB G + r1)), (2, .ref (gB G + r2))]) C 3 dL_law_1289 rfl (congrArg (fun z => x3 + z) (show Int32.ofInt (6) = (6 : Int32) by decide)) (by decide) rfl ?_
  refine ww_goto (pc := 1292) (tgt := 18) C dL_law_1292 (by decide) ?_
  have hf := xsj hf
  subst hf
  refine ww_sub [1, 2, 3, 0] rfl ?_
  exact (hk.1 (x3 + (6 : Int32), σ7) rfl).2
theorem m_L_law_j816 {L : Nat} {xs : Nat → Int32} {σ : XS} {r1 : Nat} {r2 : Nat} {x3 : Int32} {t0 : Int32} {x : ((Int32 × XS) ⊕ (Int32 × XS))} (hf : f_L_law_j816 L xs σ r1 r2 x3 t0 = some x) : (∀ a' : Int32 × XS, x = .inl a' → xext σ a'.2) ∧ (∀ b1 : Int32 × XS, x = .inr b1 → xext σ b1.2) := by
  have hm := xext.rf (σ := σ)
  obtain ⟨v2, e1, hf⟩ := xbd hf
  obtain ⟨v4, e3, hf⟩ := xbd hf
  obtain ⟨_, e5, hf⟩ := xbd hf
  obtain ⟨⟨v8, σ7⟩, e6, hf⟩ := xbd hf
  dsimp only at hf
  have hm := hm.tr (m_X12_state e6).ext
  have hf := xsj hf
  subst hf
  exact ⟨fun a' e => (by have h9 := Sum.inl.inj e; subst h9; exact hm), fun b e => xnc1 e⟩
theorem s_L_law_j867 {G : XG} (C : XC G cL_law RL (some .boolean) 4 13 468) {b L : Nat} {xs : Nat → Int32} (hS : XScr G b L xs) {σ : XS} {r1 : Nat} {r2 : Nat} {x3 : Int32} {t0 : Nat} {t1 : Int32} {x : ((Int32 × XS) ⊕ (Int32 × XS))} (hf : f_L_law_j867 L xs σ r1 r2 x3 t0 t1 = some x) (hk : (∀ a' : Int32 × XS, x = .inl a' → XUp G a'.2 ∧ WW G 18 [(0, .ref b), (1, .ref (gB G + r1)), (2, .ref (gB G + r2)), (3, .int a'.1)] [] a'.2) ∧ (∀ b1 : Int32 × XS, x = .inr b1 → XEndL G b b1)) : WW G 867 [(0, .ref b), (1, .ref (gB G + r1)), (2, .ref (gB G + r2)), (3, .int x3)] [.int t1, .ref (gB G + t0)] σ := by
  obtain ⟨_, e1, hf⟩ := xbd hf
  obtain ⟨⟨v4, σ3⟩, e2, hf⟩ := xbd hf
  dsimp only at hf
  refine ww_callVi (pc := 867) (as := [.int t1]) (st := []) C (k_X12_stuck (l := gl G) (E := gE G) (hb := gB G) (σ := σ) e2) rfl (by decide) xc_L_111 q1671 q1672 (xck_spec e1) rfl (by decide) (xst4 (Nat.le_of_ble_eq_true rfl)) (m_X12_stuck e2).le (m_X12_stuck e2).lim dL_law_867 ?_
  refine ww_pop (pc := 870) C dL_law_870 rfl ?_
  refine ww_goto (pc := 871) (tgt := 1289) C dL_law_871 (by decide) ?_
  refine ww_iinc (pc := 1289) (v := x3 + (6 : Int32)) (lv' := [(3, .int (x3 + (6 : Int32))), (0, .ref b), (1, .ref (gB G + r1)), (2, .ref (gB G + r2))]) C 3 dL_law_1289 rfl (congrArg (fun z => x3 + z) (show Int32.ofInt (6) = (6 : Int32) by decide)) (by decide) rfl ?_
  refine ww_goto (pc := 1292) (tgt := 18) C dL_law_1292 (by decide) ?_
  have hf := xsj hf
  subst hf
  refine ww_sub [1, 2, 3, 0] rfl ?_
  exact (hk.1 (x3 + (6 : Int32), σ3) rfl).2
theorem m_L_law_j867 {L : Nat} {xs : Nat → Int32} {σ : XS} {r1 : Nat} {r2 : Nat} {x3 : Int32} {t0 : Nat} {t1 : Int32} {x : ((Int32 × XS) ⊕ (Int32 × XS))} (hf : f_L_law_j867 L xs σ r1 r2 x3 t0 t1 = some x) : (∀ a' : Int32 × XS, x = .inl a' → xext σ a'.2) ∧ (∀ b1 : Int32 × XS, x = .inr b1 → xext σ b1.2) := by
  have hm := xext.rf (σ := σ)
  obtain ⟨_, e1, hf⟩ := xbd hf
  obtain ⟨⟨v4, σ3⟩, e2, hf⟩ := xbd hf
  dsimp only at hf
  have hm := hm.tr (m_X12_stuck e2).ext
  have hf := xsj hf
  subst hf
  exact ⟨fun a' e => (by have h9 := Sum.inl.inj e; subst h9; exact hm), fun b e => xnc1 e⟩
theorem s_L_law_j852 {G : XG} (C : XC G cL_law RL (some .boolean) 4 13 468) {b L : Nat} {xs : Nat → Int32} (hS : XScr G b L xs) {σ : XS} {r1 : Nat} {r2 : Nat} {x3 : Int32} {t0 : Int32} {x : ((Int32 × XS) ⊕ (Int32 × XS))} (hf : f_L_law_j852 L xs σ r1 r2 x3 t0 = some x) (hk : (∀ a' : Int32 × XS, x = .inl a' → XUp G a'.2 ∧ WW G 18 [(0, .ref b), (1, .ref (gB G + r1)), (2, .ref (gB G + r2)), (3, .int a'.1)] [] a'.2) ∧ (∀ b1 : Int32 × XS, x = .inr b1 → XEndL G b b1)) : WW G 852 [(0, .ref b), (1, .ref (gB G + r1)), (2, .ref (gB G + r2)), (3, .int x3)] [.int t0] σ := by
  refine ww_pop (pc := 852) C dL_law_852 rfl ?_
  refine ww_aload_n (pc := 853) C 2 dL_law_853 rfl ?_
  refine ww_aload_n (pc := 854) C 0 dL_law_854 rfl ?_
  refine ww_iload_n (pc := 855) C 3 dL_law_855 rfl ?_
  refine ww_iconst (pc := 856) (v := (1 : Int32)) C dL_law_856 (by decide) ?_
  refine ww_iadd (pc := 857) C dL_law_857 ?_
  obtain ⟨v2, e1, hf⟩ := xbd hf
  refine ww_sld (pc := 858) C hS e1 dL_law_858 ?_
  refine ww_if_eq (pc := 859) (tgt := 866) C dL_law_859 (by decide) (fun q => ?_) (fun q => ?_)
  · have hf := xip q hf
    refine ww_iconst (pc := 866) (v := (0 : Int32)) C dL_law_866 (by decide) ?_
    refine ww_sub [0, 1, 2, 3] rfl ?_
    exact s_L_law_j867 C hS hf hk
  · have hf := xin q hf
    refine ww_iconst (pc := 862) (v := (1 : Int32)) C dL_law_862 (by decide) ?_
    refine ww_goto (pc := 863) (tgt := 867) C dL_law_863 (by decide) ?_
    refine ww_sub [0, 1, 2, 3] rfl ?_
    exact s_L_law_j867 C hS hf hk
theorem m_L_law_j852 {L : Nat} {xs : Nat → Int32} {σ : XS} {r1 : Nat} {r2 : Nat} {x3 : Int32} {t0 : Int32} {x : ((Int32 × XS) ⊕ (Int32 × XS))} (hf : f_L_law_j852 L xs σ r1 r2 x3 t0 = some x) : (∀ a' : Int32 × XS, x = .inl a' → xext σ a'.2) ∧ (∀ b1 : Int32 × XS, x = .inr b1 → xext σ b1.2) := by
  have hm := xext.rf (σ := σ)
  obtain ⟨v2, e1, hf⟩ := xbd hf
  by_cases q : v2 = 0
  · have hf := xip q hf
    exact ⟨fun a' e => hm.tr ((m_L_law_j867 hf).1 a' e), fun b1 eb1 => hm.tr ((m_L_law_j867 hf).2 b1 eb1)⟩
  · have hf := xin q hf
    exact ⟨fun a' e => hm.tr ((m_L_law_j867 hf).1 a' e), fun b1 eb1 => hm.tr ((m_L_law_j867 hf).2 b1 eb1)⟩
theorem s_L_law_j849 {G : XG} (C : XC G cL_law RL (some .boolean) 4 13 468) {b L : Nat} {xs : Nat → Int32} (hS : XScr G b L xs) {σ : XS} {r1 : Nat} {r2 : Nat} {x3 : Int32} {t0 : Nat} {t1 : Int32} {x : ((Int32 × XS) ⊕ (Int32 × XS))} (hf : f_L_law_j849 L xs σ r1 r2 x3 t0 t1 = some x) (hk : (∀ a' : Int32 × XS, x = .inl a' → XUp G a'.2 ∧ WW G 18 [(0, .ref b), (1, .ref (gB G + r1)), (2, .ref (gB G + r2)), (3, .int a'.1)] [] a'.2) ∧ (∀ b1 : Int32 × XS, x = .inr b1 → XEndL G b b1)) : WW G 849 [(0, .ref b), (1, .ref (gB G + r1)), (2, .ref (gB G + r2)), (3, .int x3)] [.int t1, .ref (gB G + t0)] σ := by
  obtain ⟨_, e1, hf⟩ := xbd hf
  obtain ⟨⟨v4, σ3⟩, e2, hf⟩ := xbd hf
  dsimp only at hf
  refine ww_callVi (pc := 849) (as := [.int t1]) (st := []) C (k_X11_stuck (l := gl G) (E := gE G) (hb := gB G) (σ := σ) e2) rfl (by decide) xc_L_107 q1031 q1032 (xck_spec e1) rfl (by decide) (xst4 (Nat.le_of_ble_eq_true rfl)) (m_X11_stuck e2).1 (fun q => by have hm9 := m_L_law_j852 hf; rcases x with a' | b90; exact XLim.mid q (m_X11_stuck e2) (hm9.1 a' rfl) (hk.1 a' rfl).1; have hm9 := hm9.2 _ rfl; have hk := hk.2 _ rfl; exact XLim.mid q (m_X11_stuck e2) hm9 hk.2.1) dL_law_849 ?_
  refine ww_sub [0, 1, 2, 3] rfl ?_
  exact s_L_law_j852 C hS hf hk
theorem m_L_law_j849 {L : Nat} {xs : Nat → Int32} {σ : XS} {r1 : Nat} {r2 : Nat} {x3 : Int32} {t0 : Nat} {t1 : Int32} {x : ((Int32 × XS) ⊕ (Int32 × XS))} (hf : f_L_law_j849 L xs σ r1 r2 x3 t0 t1 = some x) : (∀ a' : Int32 × XS, x = .inl a' → xext σ a'.2) ∧ (∀ b1 : Int32 × XS, x = .inr b1 → xext σ b1.2) := by
  have hm := xext.rf (σ := σ)
  obtain ⟨_, e1, hf⟩ := xbd hf
  obtain ⟨⟨v4, σ3⟩, e2, hf⟩ := xbd hf
  dsimp only at hf
  have hm := hm.tr (m_X11_stuck e2)
  exact ⟨fun a' e => hm.tr ((m_L_law_j852 hf).1 a' e), fun b1 eb1 => hm.tr ((m_L_law_j852 hf).2 b1 eb1)⟩
theorem s_L_law_j893 {G : XG} (C : XC G cL_law RL (some .boolean) 4 13 468) {b L : Nat} {xs : Nat → Int32} (hS : XScr G b L xs) {σ : XS} {r1 : Nat} {r2 : Nat} {x3 : Int32} {t0 : Int32} {x : ((Int32 × XS) ⊕ (Int32 × XS))} (hf : f_L_law_j893 L xs σ r1 r2 x3 t0 = some x) (hk : (∀ a' : Int32 × XS, x = .inl a' → XUp G a'.2 ∧ WW G 18 [(0, .ref b), (1, .ref (gB G + r1)), (2, .ref (gB G + r2)), (3, .int a'.1)] [] a'.2) ∧ (∀ b1 : Int32 × XS, x = .inr b1 → XEndL G b b1)) : WW G 893 [(0, .ref b), (1, .ref (gB G + r1)), (2, .ref (gB G + r2)), (3, .int x3)] [.int t0] σ := by
  refine ww_pop (pc := 893) C dL_law_893 rfl ?_
  refine ww_aload_n (pc := 894) C 2 dL_law_894 rfl ?_
  refine ww_aload_n (pc := 895) C 0 dL_law_895 rfl ?_
  refine ww_iload_n (pc := 896) C 3 dL_law_896 rfl ?_
  refine ww_iconst (pc := 897) (v := (1 : Int32)) C dL_law_897 (by decide) ?_
  refine ww_iadd (pc := 898) C dL_law_898 ?_
  obtain ⟨v2, e1, hf⟩ := xbd hf
  refine ww_sld (pc := 899) C hS e1 dL_law_899 ?_
  refine ww_aload_n (pc := 900) C 0 dL_law_900 rfl ?_
  refine ww_iload_n (pc := 901) C 3 dL_law_901 rfl ?_
  refine ww_iconst (pc := 902) (v := (2 : Int32)) C dL_law_902 (by decide) ?_
  refine ww_iadd (pc := 903) C dL_law_903 ?_
  obtain ⟨v4, e3, hf⟩ := xbd hf
  refine ww_sld (pc := 904) C hS e3 dL_law_904 ?_
  refine ww_aload_n (pc := 905) C 0 dL_law_905 rfl ?_
  refine ww_iload_n (pc := 906) C 3 dL_law_906 rfl ?_
  refine ww_iconst (pc := 907) (v := (3 : Int32)) C dL_law_907 (by decide) ?_
  refine ww_iadd (pc := 908) C dL_law_908 ?_
  obtain ⟨v6, e5, hf⟩ := xbd hf
  refine ww_sld (pc := 909) C hS e5 dL_law_909 ?_
  obtain ⟨_, e7, hf⟩ := xbd hf
  obtain ⟨v9, e8, hf⟩ := xbd hf
  refine ww_callVi (pc := 910) (as := [.int v2, .int v4, .int v6]) (st := []) C (k_X12_rows (l := gl G) (E := gE G) (hb := gB G) (σ := σ) e8) rfl (by decide) xc_L_116 q1711 q1712 (xck_spec e7) rfl (by decide) (xst4 (Nat.le_of_ble_eq_true rfl)) xsame.rf.le xsame.rf.lim dL_law_910 ?_
  refine ww_pop (pc := 913) C dL_law_913 rfl ?_
  refine ww_goto (pc := 914) (tgt := 1289) C dL_law_914 (by decide) ?_
  refine ww_iinc (pc := 1289) (v := x3 + (6 : Int32)) (lv' := [(3, .int (x3 + (6 : Int32))), (0, .ref b), (1, .ref (gB G + r1)), (2, .ref (gB G + r2))]) C 3 dL_law_1289 rfl (congrArg (fun z => x3 + z) (show Int32.ofInt (6) = (6 : Int32) by decide)) (by decide) rfl ?_
  refine ww_goto (pc := 1292) (tgt := 18) C dL_law_1292 (by decide) ?_
  have hf := xsj hf
  subst hf
  refine ww_sub [1, 2, 3, 0] rfl ?_
  exact (hk.1 (x3 + (6 : Int32), σ) rfl).2
theorem m_L_law_j893 {L : Nat} {xs : Nat → Int32} {σ : XS} {r1 : Nat} {r2 : Nat} {x3 : Int32} {t0 : Int32} {x : ((Int32 × XS) ⊕ (Int32 × XS))} (hf : f_L_law_j893 L xs σ r1 r2 x3 t0 = some x) : (∀ a' : Int32 × XS, x = .inl a' → xext σ a'.2) ∧ (∀ b1 : Int32 × XS, x = .inr b1 → xext σ b1.2) := by
  have hm := xext.rf (σ := σ)
  obtain ⟨v2, e1, hf⟩ := xbd hf
  obtain ⟨v4, e3, hf⟩ := xbd hf
  obtain ⟨v6, e5, hf⟩ := xbd hf
  obtain ⟨_, e7, hf⟩ := xbd hf
  obtain ⟨v9, e8, hf⟩ := xbd hf
  have hf := xsj hf
  subst hf
  exact ⟨fun a' e => (by have h9 := Sum.inl.inj e; subst h9; exact hm), fun b e => xnc1 e⟩
theorem s_L_law_j949 {G : XG} (C : XC G cL_law RL (some .boolean) 4 13 468) {b L : Nat} {xs : Nat → Int32} (hS : XScr G b L xs) {σ : XS} {r1 : Nat} {r2 : Nat} {x3 : Int32} {t0 : Int32} {x : ((Int32 × XS) ⊕ (Int32 × XS))} (hf : f_L_law_j949 L xs σ r1 r2 x3 t0 = some x) (hk : (∀ a' : Int32 × XS, x = .inl a' → XUp G a'.2 ∧ WW G 18 [(0, .ref b), (1, .ref (gB G + r1)), (2, .ref (gB G + r2)), (3, .int a'.1)] [] a'.2) ∧ (∀ b1 : Int32 × XS, x = .inr b1 → XEndL G b b1)) : WW G 949 [(0, .ref b), (1, .ref (gB G + r1)), (2, .ref (gB G + r2)), (3, .int x3)] [.int t0] σ := by
  refine ww_pop (pc := 949) C dL_law_949 rfl ?_
  refine ww_aload_n (pc := 950) C 2 dL_law_950 rfl ?_
  refine ww_aload_n (pc := 951) C 0 dL_law_951 rfl ?_
  refine ww_iload_n (pc := 952) C 3 dL_law_952 rfl ?_
  refine ww_iconst (pc := 953) (v := (1 : Int32)) C dL_law_953 (by decide) ?_
  refine ww_iadd (pc := 954) C dL_law_954 ?_
  obtain ⟨v2, e1, hf⟩ := xbd hf
  refine ww_sld (pc := 955) C hS e1 dL_law_955 ?_
  obtain ⟨_, e3, hf⟩ := xbd hf
  obtain ⟨⟨v6, σ5⟩, e4, hf⟩ := xbd hf
  dsimp only at hf
  refine ww_callVi (pc := 956) (as := [.int v2]) (st := []) C (k_X12_overlap (l := gl G) (E := gE G) (hb := gB G) (σ := σ) e4) rfl (by decide) xc_L_124 q1707 q1708 (xck_spec e3) rfl (by decide) (xst4 (Nat.le_of_ble_eq_true rfl)) (m_X12_overlap e4).le (m_X12_overlap e4).lim dL_law_956 ?_
  refine ww_pop (pc := 959) C dL_law_959 rfl ?_
  refine ww_goto (pc := 960) (tgt := 1289) C dL_law_960 (by decide) ?_
  refine ww_iinc (pc := 1289) (v := x3 + (6 : Int32)) (lv' := [(3, .int (x3 + (6 : Int32))), (0, .ref b), (1, .ref (gB G + r1)), (2, .ref (gB G + r2))]) C 3 dL_law_1289 rfl (congrArg (fun z => x3 + z) (show Int32.ofInt (6) = (6 : Int32) by decide)) (by decide) rfl ?_
  refine ww_goto (pc := 1292) (tgt := 18) C dL_law_1292 (by decide) ?_
  have hf := xsj hf
  subst hf
  refine ww_sub [1, 2, 3, 0] rfl ?_
  exact (hk.1 (x3 + (6 : Int32), σ5) rfl).2
theorem m_L_law_j949 {L : Nat} {xs : Nat → Int32} {σ : XS} {r1 : Nat} {r2 : Nat} {x3 : Int32} {t0 : Int32} {x : ((Int32 × XS) ⊕ (Int32 × XS))} (hf : f_L_law_j949 L xs σ r1 r2 x3 t0 = some x) : (∀ a' : Int32 × XS, x = .inl a' → xext σ a'.2) ∧ (∀ b1 : Int32 × XS, x = .inr b1 → xext σ b1.2) := by
  have hm := xext.rf (σ := σ)
  obtain ⟨v2, e1, hf⟩ := xbd hf
  obtain ⟨_, e3, hf⟩ := xbd hf
  obtain ⟨⟨v6, σ5⟩, e4, hf⟩ := xbd hf
  dsimp only at hf
  have hm := hm.tr (m_X12_overlap e4).ext
  have hf := xsj hf
  subst hf
  exact ⟨fun a' e => (by have h9 := Sum.inl.inj e; subst h9; exact hm), fun b e => xnc1 e⟩
theorem s_L_law_j972 {G : XG} (C : XC G cL_law RL (some .boolean) 4 13 468) {b L : Nat} {xs : Nat → Int32} (hS : XScr G b L xs) {σ : XS} {r1 : Nat} {r2 : Nat} {x3 : Int32} {t0 : Int32} {x : ((Int32 × XS) ⊕ (Int32 × XS))} (hf : f_L_law_j972 L xs σ r1 r2 x3 t0 = some x) (hk : (∀ a' : Int32 × XS, x = .inl a' → XUp G a'.2 ∧ WW G 18 [(0, .ref b), (1, .ref (gB G + r1)), (2, .ref (gB G + r2)), (3, .int a'.1)] [] a'.2) ∧ (∀ b1 : Int32 × XS, x = .inr b1 → XEndL G b b1)) : WW G 972 [(0, .ref b), (1, .ref (gB G + r1)), (2, .ref (gB G + r2)), (3, .int x3)] [.int t0] σ := by
  refine ww_pop (pc := 972) C dL_law_972 rfl ?_
  refine ww_aload_n (pc := 973) C 2 dL_law_973 rfl ?_
  refine ww_aload_n (pc := 974) C 0 dL_law_974 rfl ?_
  refine ww_iload_n (pc := 975) C 3 dL_law_975 rfl ?_
  refine ww_iconst (pc := 976) (v := (1 : Int32)) C dL_law_976 (by decide) ?_
  refine ww_iadd (pc := 977) C dL_law_977 ?_
  obtain ⟨v2, e1, hf⟩ := xbd hf
  refine ww_sld (pc := 978) C hS e1 dL_law_978 ?_
  obtain ⟨_, e3, hf⟩ := xbd hf
  obtain ⟨⟨v6, σ5⟩, e4, hf⟩ := xbd hf
  dsimp only at hf
  refine ww_callVi (pc := 979) (as := [.int v2]) (st := []) C (k_X12_basin (l := gl G) (E := gE G) (hb := gB G) (σ := σ) e4) rfl (by decide) xc_L_128 q1675 q1676 (xck_spec e3) rfl (by decide) (xst4 (Nat.le_of_ble_eq_true rfl)) (m_X12_basin e4).le (m_X12_basin e4).lim dL_law_979 ?_
  refine ww_pop (pc := 982) C dL_law_982 rfl ?_
  refine ww_goto (pc := 983) (tgt := 1289) C dL_law_983 (by decide) ?_
  refine ww_iinc (pc := 1289) (v := x3 + (6 : Int32)) (lv' := [(3, .int (x3 + (6 : Int32))), (0, .ref b), (1, .ref (gB G + r1)), (2, .ref (gB G + r2))]) C 3 dL_law_1289 rfl (congrArg (fun z => x3 + z) (show Int32.ofInt (6) = (6 : Int32) by decide)) (by decide) rfl ?_
  refine ww_goto (pc := 1292) (tgt := 18) C dL_law_1292 (by decide) ?_
  have hf := xsj hf
  subst hf
  refine ww_sub [1, 2, 3, 0] rfl ?_
  exact (hk.1 (x3 + (6 : Int32), σ5) rfl).2
theorem m_L_law_j972 {L : Nat} {xs : Nat → Int32} {σ : XS} {r1 : Nat} {r2 : Nat} {x3 : Int32} {t0 : Int32} {x : ((Int32 × XS) ⊕ (Int32 × XS))} (hf : f_L_law_j972 L xs σ r1 r2 x3 t0 = some x) : (∀ a' : Int32 × XS, x = .inl a' → xext σ a'.2) ∧ (∀ b1 : Int32 × XS, x = .inr b1 → xext σ b1.2) := by
  have hm := xext.rf (σ := σ)
  obtain ⟨v2, e1, hf⟩ := xbd hf
  obtain ⟨_, e3, hf⟩ := xbd hf
  obtain ⟨⟨v6, σ5⟩, e4, hf⟩ := xbd hf
  dsimp only at hf
  have hm := hm.tr (m_X12_basin e4).ext
  have hf := xsj hf
  subst hf
  exact ⟨fun a' e => (by have h9 := Sum.inl.inj e; subst h9; exact hm), fun b e => xnc1 e⟩
theorem s_L_law_j1000 {G : XG} (C : XC G cL_law RL (some .boolean) 4 13 468) {b L : Nat} {xs : Nat → Int32} (hS : XScr G b L xs) {σ : XS} {r1 : Nat} {r2 : Nat} {x3 : Int32} {t0 : Int32} {x : ((Int32 × XS) ⊕ (Int32 × XS))} (hf : f_L_law_j1000 L xs σ r1 r2 x3 t0 = some x) (hk : (∀ a' : Int32 × XS, x = .inl a' → XUp G a'.2 ∧ WW G 18 [(0, .ref b), (1, .ref (gB G + r1)), (2, .ref (gB G + r2)), (3, .int a'.1)] [] a'.2) ∧ (∀ b1 : Int32 × XS, x = .inr b1 → XEndL G b b1)) : WW G 1000 [(0, .ref b), (1, .ref (gB G + r1)), (2, .ref (gB G + r2)), (3, .int x3)] [.int t0] σ := by
  refine ww_pop (pc := 1000) C dL_law_1000 rfl ?_
  refine ww_aload_n (pc := 1001) C 2 dL_law_1001 rfl ?_
  refine ww_aload_n (pc := 1002) C 0 dL_law_1002 rfl ?_
  refine ww_iload_n (pc := 1003) C 3 dL_law_1003 rfl ?_
  refine ww_iconst (pc := 1004) (v := (1 : Int32)) C dL_law_1004 (by decide) ?_
  refine ww_iadd (pc := 1005) C dL_law_1005 ?_
  obtain ⟨v2, e1, hf⟩ := xbd hf
  refine ww_sld (pc := 1006) C hS e1 dL_law_1006 ?_
  refine ww_aload_n (pc := 1007) C 0 dL_law_1007 rfl ?_
  refine ww_iload_n (pc := 1008) C 3 dL_law_1008 rfl ?_
  refine ww_iconst (pc := 1009) (v := (2 : Int32)) C dL_law_1009 (by decide) ?_
  refine ww_iadd (pc := 1010) C dL_law_1010 ?_
  obtain ⟨v4, e3, hf⟩ := xbd hf
  refine ww_sld (pc := 1011) C hS e3 dL_law_1011 ?_
  obtain ⟨_, e5, hf⟩ := xbd hf
  obtain ⟨⟨v8, σ7⟩, e6, hf⟩ := xbd hf
  dsimp only at hf
  refine ww_callVi (pc := 1012) (as := [.int v2, .int v4]) (st := []) C (k_X12_stiff (l := gl G) (E := gE G) (hb := gB G) (σ := σ) e6) rfl (by decide) xc_L_132 q1703 q1704 (xck_spec e5) rfl (by decide) (xst4 (Nat.le_of_ble_eq_true rfl)) (m_X12_stiff e6).le (m_X12_stiff e6).lim dL_law_1012 ?_
  refine ww_pop (pc := 1015) C dL_law_1015 rfl ?_
  refine ww_goto (pc := 1016) (tgt := 1289) C dL_law_1016 (by decide) ?_
  refine ww_iinc (pc := 1289) (v := x3 + (6 : Int32)) (lv' := [(3, .int (x3 + (6 : Int32))), (0, .ref b), (1, .ref (gB G + r1)), (2, .ref (gB G + r2))]) C 3 dL_law_1289 rfl (congrArg (fun z => x3 + z) (show Int32.ofInt (6) = (6 : Int32) by decide)) (by decide) rfl ?_
  refine ww_goto (pc := 1292) (tgt := 18) C dL_law_1292 (by decide) ?_
  have hf := xsj hf
  subst hf
  refine ww_sub [1, 2, 3, 0] rfl ?_
  exact (hk.1 (x3 + (6 : Int32), σ7) rfl).2
theorem m_L_law_j1000 {L : Nat} {xs : Nat → Int32} {σ : XS} {r1 : Nat} {r2 : Nat} {x3 : Int32} {t0 : Int32} {x : ((Int32 × XS) ⊕ (Int32 × XS))} (hf : f_L_law_j1000 L xs σ r1 r2 x3 t0 = some x) : (∀ a' : Int32 × XS, x = .inl a' → xext σ a'.2) ∧ (∀ b1 : Int32 × XS, x = .inr b1 → xext σ b1.2) := by
  have hm := xext.rf (σ := σ)
  obtain ⟨v2, e1, hf⟩ := xbd hf
  obtain ⟨v4, e3, hf⟩ := xbd hf
  obtain ⟨_, e5, hf⟩ := xbd hf
  obtain ⟨⟨v8, σ7⟩, e6, hf⟩ := xbd hf
  dsimp only at hf
  have hm := hm.tr (m_X12_stiff e6).ext
  have hf := xsj hf
  subst hf
  exact ⟨fun a' e => (by have h9 := Sum.inl.inj e; subst h9; exact hm), fun b e => xnc1 e⟩
theorem s_L_law_j1028 {G : XG} (C : XC G cL_law RL (some .boolean) 4 13 468) {b L : Nat} {xs : Nat → Int32} (hS : XScr G b L xs) {σ : XS} {r1 : Nat} {r2 : Nat} {x3 : Int32} {t0 : Int32} {x : ((Int32 × XS) ⊕ (Int32 × XS))} (hf : f_L_law_j1028 L xs σ r1 r2 x3 t0 = some x) (hk : (∀ a' : Int32 × XS, x = .inl a' → XUp G a'.2 ∧ WW G 18 [(0, .ref b), (1, .ref (gB G + r1)), (2, .ref (gB G + r2)), (3, .int a'.1)] [] a'.2) ∧ (∀ b1 : Int32 × XS, x = .inr b1 → XEndL G b b1)) : WW G 1028 [(0, .ref b), (1, .ref (gB G + r1)), (2, .ref (gB G + r2)), (3, .int x3)] [.int t0] σ := by
  refine ww_aload_n (pc := 1028) C 2 dL_law_1028 rfl ?_
  refine ww_aload_n (pc := 1029) C 0 dL_law_1029 rfl ?_
  refine ww_iload_n (pc := 1030) C 3 dL_law_1030 rfl ?_
  refine ww_iconst (pc := 1031) (v := (1 : Int32)) C dL_law_1031 (by decide) ?_
  refine ww_iadd (pc := 1032) C dL_law_1032 ?_
  obtain ⟨v2, e1, hf⟩ := xbd hf
  refine ww_sld (pc := 1033) C hS e1 dL_law_1033 ?_
  obtain ⟨_, e3, hf⟩ := xbd hf
  obtain ⟨⟨v6, σ5⟩, e4, hf⟩ := xbd hf
  dsimp only at hf
  refine ww_callVi (pc := 1034) (as := [.int v2]) (st := [.int t0]) C (k_X12_hill (l := gl G) (E := gE G) (hb := gB G) (σ := σ) e4) rfl (by decide) xc_L_136 q1679 q1680 (xck_spec e3) rfl (by decide) (xst4 (Nat.le_of_ble_eq_true rfl)) (m_X12_hill e4).le (m_X12_hill e4).lim dL_law_1034 ?_
  refine ww_icmp_eq (pc := 1037) (tgt := 1289) C dL_law_1037 (by decide) (fun q => ?_) (fun q => ?_)
  · have hf := xip q hf
    refine ww_iinc (pc := 1289) (v := x3 + (6 : Int32)) (lv' := [(3, .int (x3 + (6 : Int32))), (0, .ref b), (1, .ref (gB G + r1)), (2, .ref (gB G + r2))]) C 3 dL_law_1289 rfl (congrArg (fun z => x3 + z) (show Int32.ofInt (6) = (6 : Int32) by decide)) (by decide) rfl ?_
    refine ww_goto (pc := 1292) (tgt := 18) C dL_law_1292 (by decide) ?_
    have hf := xsj hf
    subst hf
    refine ww_sub [1, 2, 3, 0] rfl ?_
    exact (hk.1 (x3 + (6 : Int32), σ5) rfl).2
  · have hf := xin q hf
    obtain ⟨b0, hg, e9⟩ := xmj hf
    subst e9
    have hf := hg
    have hk := hk.2 _ rfl
    refine ww_iconst (pc := 1040) (v := (0 : Int32)) C dL_law_1040 (by decide) ?_
    have hf := xsj hf
    subst hf
    exact ww_lawret (pc := 1041) C hS hk dL_law_1041
theorem m_L_law_j1028 {L : Nat} {xs : Nat → Int32} {σ : XS} {r1 : Nat} {r2 : Nat} {x3 : Int32} {t0 : Int32} {x : ((Int32 × XS) ⊕ (Int32 × XS))} (hf : f_L_law_j1028 L xs σ r1 r2 x3 t0 = some x) : (∀ a' : Int32 × XS, x = .inl a' → xext σ a'.2) ∧ (∀ b1 : Int32 × XS, x = .inr b1 → xext σ b1.2) := by
  have hm := xext.rf (σ := σ)
  obtain ⟨v2, e1, hf⟩ := xbd hf
  obtain ⟨_, e3, hf⟩ := xbd hf
  obtain ⟨⟨v6, σ5⟩, e4, hf⟩ := xbd hf
  dsimp only at hf
  have hm := hm.tr (m_X12_hill e4).ext
  by_cases q : t0 = v6
  · have hf := xip q hf
    have hf := xsj hf
    subst hf
    exact ⟨fun a' e => (by have h9 := Sum.inl.inj e; subst h9; exact hm), fun b e => xnc1 e⟩
  · have hf := xin q hf
    obtain ⟨b0, hg, e9⟩ := xmj hf
    subst e9
    have hf := hg
    refine ⟨fun a' e => xnc2 e, fun b e => ?_⟩
    have h9 := Sum.inr.inj e
    subst h9
    have hf := xsj hf
    subst hf
    exact hm
theorem s_L_law_j1056 {G : XG} (C : XC G cL_law RL (some .boolean) 4 13 468) {b L : Nat} {xs : Nat → Int32} (hS : XScr G b L xs) {σ : XS} {r1 : Nat} {r2 : Nat} {x3 : Int32} {t0 : Int32} {x : ((Int32 × XS) ⊕ (Int32 × XS))} (hf : f_L_law_j1056 L xs σ r1 r2 x3 t0 = some x) (hk : (∀ a' : Int32 × XS, x = .inl a' → XUp G a'.2 ∧ WW G 18 [(0, .ref b), (1, .ref (gB G + r1)), (2, .ref (gB G + r2)), (3, .int a'.1)] [] a'.2) ∧ (∀ b1 : Int32 × XS, x = .inr b1 → XEndL G b b1)) : WW G 1056 [(0, .ref b), (1, .ref (gB G + r1)), (2, .ref (gB G + r2)), (3, .int x3)] [.int t0] σ := by
  refine ww_pop (pc := 1056) C dL_law_1056 rfl ?_
  refine ww_aload_n (pc := 1057) C 2 dL_law_1057 rfl ?_
  refine ww_aload_n (pc := 1058) C 0 dL_law_1058 rfl ?_
  refine ww_iload_n (pc := 1059) C 3 dL_law_1059 rfl ?_
  refine ww_iconst (pc := 1060) (v := (1 : Int32)) C dL_law_1060 (by decide) ?_
  refine ww_iadd (pc := 1061) C dL_law_1061 ?_
  obtain ⟨v2, e1, hf⟩ := xbd hf
  refine ww_sld (pc := 1062) C hS e1 dL_law_1062 ?_
  refine ww_aload_n (pc := 1063) C 0 dL_law_1063 rfl ?_
  refine ww_iload_n (pc := 1064) C 3 dL_law_1064 rfl ?_
  refine ww_iconst (pc := 1065) (v := (2 : Int32)) C dL_law_1065 (by decide) ?_
  refine ww_iadd (pc := 1066) C dL_law_1066 ?_
  obtain ⟨v4, e3, hf⟩ := xbd hf
  refine ww_sld (pc := 1067) C hS e3 dL_law_1067 ?_
  obtain ⟨_, e5, hf⟩ := xbd hf
  obtain ⟨⟨v8, σ7⟩, e6, hf⟩ := xbd hf
  dsimp only at hf
  refine ww_callVi (pc := 1068) (as := [.int v2, .int v4]) (st := []) C (k_X12_pass (l := gl G) (E := gE G) (hb := gB G) (σ := σ) e6) rfl (by decide) xc_L_140 q1687 q1688 (xck_spec e5) rfl (by decide) (xst4 (Nat.le_of_ble_eq_true rfl)) (m_X12_pass e6).le (m_X12_pass e6).lim dL_law_1068 ?_
  refine ww_pop (pc := 1071) C dL_law_1071 rfl ?_
  refine ww_goto (pc := 1072) (tgt := 1289) C dL_law_1072 (by decide) ?_
  refine ww_iinc (pc := 1289) (v := x3 + (6 : Int32)) (lv' := [(3, .int (x3 + (6 : Int32))), (0, .ref b), (1, .ref (gB G + r1)), (2, .ref (gB G + r2))]) C 3 dL_law_1289 rfl (congrArg (fun z => x3 + z) (show Int32.ofInt (6) = (6 : Int32) by decide)) (by decide) rfl ?_
  refine ww_goto (pc := 1292) (tgt := 18) C dL_law_1292 (by decide) ?_
  have hf := xsj hf
  subst hf
  refine ww_sub [1, 2, 3, 0] rfl ?_
  exact (hk.1 (x3 + (6 : Int32), σ7) rfl).2
theorem m_L_law_j1056 {L : Nat} {xs : Nat → Int32} {σ : XS} {r1 : Nat} {r2 : Nat} {x3 : Int32} {t0 : Int32} {x : ((Int32 × XS) ⊕ (Int32 × XS))} (hf : f_L_law_j1056 L xs σ r1 r2 x3 t0 = some x) : (∀ a' : Int32 × XS, x = .inl a' → xext σ a'.2) ∧ (∀ b1 : Int32 × XS, x = .inr b1 → xext σ b1.2) := by
  have hm := xext.rf (σ := σ)
  obtain ⟨v2, e1, hf⟩ := xbd hf
  obtain ⟨v4, e3, hf⟩ := xbd hf
  obtain ⟨_, e5, hf⟩ := xbd hf
  obtain ⟨⟨v8, σ7⟩, e6, hf⟩ := xbd hf
  dsimp only at hf
  have hm := hm.tr (m_X12_pass e6).ext
  have hf := xsj hf
  subst hf
  exact ⟨fun a' e => (by have h9 := Sum.inl.inj e; subst h9; exact hm), fun b e => xnc1 e⟩
theorem s_L_law_j1084 {G : XG} (C : XC G cL_law RL (some .boolean) 4 13 468) {b L : Nat} {xs : Nat → Int32} (hS : XScr G b L xs) {σ : XS} {r1 : Nat} {r2 : Nat} {x3 : Int32} {t0 : Int32} {x : ((Int32 × XS) ⊕ (Int32 × XS))} (hf : f_L_law_j1084 L xs σ r1 r2 x3 t0 = some x) (hk : (∀ a' : Int32 × XS, x = .inl a' → XUp G a'.2 ∧ WW G 18 [(0, .ref b), (1, .ref (gB G + r1)), (2, .ref (gB G + r2)), (3, .int a'.1)] [] a'.2) ∧ (∀ b1 : Int32 × XS, x = .inr b1 → XEndL G b b1)) : WW G 1084 [(0, .ref b), (1, .ref (gB G + r1)), (2, .ref (gB G + r2)), (3, .int x3)] [.int t0] σ := by
  refine ww_pop (pc := 1084) C dL_law_1084 rfl ?_
  refine ww_aload_n (pc := 1085) C 2 dL_law_1085 rfl ?_
  refine ww_aload_n (pc := 1086) C 0 dL_law_1086 rfl ?_
  refine ww_iload_n (pc := 1087) C 3 dL_law_1087 rfl ?_
  refine ww_iconst (pc := 1088) (v := (1 : Int32)) C dL_law_1088 (by decide) ?_
  refine ww_iadd (pc := 1089) C dL_law_1089 ?_
  obtain ⟨v2, e1, hf⟩ := xbd hf
  refine ww_sld (pc := 1090) C hS e1 dL_law_1090 ?_
  obtain ⟨_, e3, hf⟩ := xbd hf
  obtain ⟨⟨v6, σ5⟩, e4, hf⟩ := xbd hf
  dsimp only at hf
  refine ww_callVi (pc := 1091) (as := [.int v2]) (st := []) C (k_X12_lakes (l := gl G) (E := gE G) (hb := gB G) (σ := σ) e4) rfl (by decide) xc_L_144 q1691 q1692 (xck_spec e3) rfl (by decide) (xst4 (Nat.le_of_ble_eq_true rfl)) (m_X12_lakes e4).le (m_X12_lakes e4).lim dL_law_1091 ?_
  refine ww_pop (pc := 1094) C dL_law_1094 rfl ?_
  refine ww_goto (pc := 1095) (tgt := 1289) C dL_law_1095 (by decide) ?_
  refine ww_iinc (pc := 1289) (v := x3 + (6 : Int32)) (lv' := [(3, .int (x3 + (6 : Int32))), (0, .ref b), (1, .ref (gB G + r1)), (2, .ref (gB G + r2))]) C 3 dL_law_1289 rfl (congrArg (fun z => x3 + z) (show Int32.ofInt (6) = (6 : Int32) by decide)) (by decide) rfl ?_
  refine ww_goto (pc := 1292) (tgt := 18) C dL_law_1292 (by decide) ?_
  have hf := xsj hf
  subst hf
  refine ww_sub [1, 2, 3, 0] rfl ?_
  exact (hk.1 (x3 + (6 : Int32), σ5) rfl).2
theorem m_L_law_j1084 {L : Nat} {xs : Nat → Int32} {σ : XS} {r1 : Nat} {r2 : Nat} {x3 : Int32} {t0 : Int32} {x : ((Int32 × XS) ⊕ (Int32 × XS))} (hf : f_L_law_j1084 L xs σ r1 r2 x3 t0 = some x) : (∀ a' : Int32 × XS, x = .inl a' → xext σ a'.2) ∧ (∀ b1 : Int32 × XS, x = .inr b1 → xext σ b1.2) := by
  have hm := xext.rf (σ := σ)
  obtain ⟨v2, e1, hf⟩ := xbd hf
  obtain ⟨_, e3, hf⟩ := xbd hf
  obtain ⟨⟨v6, σ5⟩, e4, hf⟩ := xbd hf
  dsimp only at hf
  have hm := hm.tr (m_X12_lakes e4).ext
  have hf := xsj hf
  subst hf
  exact ⟨fun a' e => (by have h9 := Sum.inl.inj e; subst h9; exact hm), fun b e => xnc1 e⟩
theorem s_L_law_j1107 {G : XG} (C : XC G cL_law RL (some .boolean) 4 13 468) {b L : Nat} {xs : Nat → Int32} (hS : XScr G b L xs) {σ : XS} {r1 : Nat} {r2 : Nat} {x3 : Int32} {t0 : Int64} {x : ((Int32 × XS) ⊕ (Int32 × XS))} (hf : f_L_law_j1107 L xs σ r1 r2 x3 t0 = some x) (hk : (∀ a' : Int32 × XS, x = .inl a' → XUp G a'.2 ∧ WW G 18 [(0, .ref b), (1, .ref (gB G + r1)), (2, .ref (gB G + r2)), (3, .int a'.1)] [] a'.2) ∧ (∀ b1 : Int32 × XS, x = .inr b1 → XEndL G b b1)) : WW G 1107 [(0, .ref b), (1, .ref (gB G + r1)), (2, .ref (gB G + r2)), (3, .int x3)] [.long t0] σ := by
  refine ww_pop2 (pc := 1107) C dL_law_1107 rfl ?_
  refine ww_aload_n (pc := 1108) C 2 dL_law_1108 rfl ?_
  refine ww_aload_n (pc := 1109) C 0 dL_law_1109 rfl ?_
  refine ww_iload_n (pc := 1110) C 3 dL_law_1110 rfl ?_
  refine ww_iconst (pc := 1111) (v := (1 : Int32)) C dL_law_1111 (by decide) ?_
  refine ww_iadd (pc := 1112) C dL_law_1112 ?_
  obtain ⟨v2, e1, hf⟩ := xbd hf
  refine ww_sld (pc := 1113) C hS e1 dL_law_1113 ?_
  obtain ⟨_, e3, hf⟩ := xbd hf
  obtain ⟨⟨v6, σ5⟩, e4, hf⟩ := xbd hf
  dsimp only at hf
  refine ww_callVj (pc := 1114) (as := [.int v2]) (st := []) C (k_X12_down (l := gl G) (E := gE G) (hb := gB G) (σ := σ) e4) rfl (by decide) xc_L_149 q1695 q1696 (xck_spec e3) rfl (by decide) (xst4 (Nat.le_of_ble_eq_true rfl)) (m_X12_down e4).le (m_X12_down e4).lim dL_law_1114 ?_
  refine ww_pop2 (pc := 1117) C dL_law_1117 rfl ?_
  refine ww_goto (pc := 1118) (tgt := 1289) C dL_law_1118 (by decide) ?_
  refine ww_iinc (pc := 1289) (v := x3 + (6 : Int32)) (lv' := [(3, .int (x3 + (6 : Int32))), (0, .ref b), (1, .ref (gB G + r1)), (2, .ref (gB G + r2))]) C 3 dL_law_1289 rfl (congrArg (fun z => x3 + z) (show Int32.ofInt (6) = (6 : Int32) by decide)) (by decide) rfl ?_
  refine ww_goto (pc := 1292) (tgt := 18) C dL_law_1292 (by decide) ?_
  have hf := xsj hf
  subst hf
  refine ww_sub [1, 2, 3, 0] rfl ?_
  exact (hk.1 (x3 + (6 : Int32), σ5) rfl).2
theorem m_L_law_j1107 {L : Nat} {xs : Nat → Int32} {σ : XS} {r1 : Nat} {r2 : Nat} {x3 : Int32} {t0 : Int64} {x : ((Int32 × XS) ⊕ (Int32 × XS))} (hf : f_L_law_j1107 L xs σ r1 r2 x3 t0 = some x) : (∀ a' : Int32 × XS, x = .inl a' → xext σ a'.2) ∧ (∀ b1 : Int32 × XS, x = .inr b1 → xext σ b1.2) := by
  have hm := xext.rf (σ := σ)
  obtain ⟨v2, e1, hf⟩ := xbd hf
  obtain ⟨_, e3, hf⟩ := xbd hf
  obtain ⟨⟨v6, σ5⟩, e4, hf⟩ := xbd hf
  dsimp only at hf
  have hm := hm.tr (m_X12_down e4).ext
  have hf := xsj hf
  subst hf
  exact ⟨fun a' e => (by have h9 := Sum.inl.inj e; subst h9; exact hm), fun b e => xnc1 e⟩
theorem s_L_law_j1135 {G : XG} (C : XC G cL_law RL (some .boolean) 4 13 468) {b L : Nat} {xs : Nat → Int32} (hS : XScr G b L xs) {σ : XS} {r1 : Nat} {r2 : Nat} {x3 : Int32} {t0 : Int32} {x : ((Int32 × XS) ⊕ (Int32 × XS))} (hf : f_L_law_j1135 L xs σ r1 r2 x3 t0 = some x) (hk : (∀ a' : Int32 × XS, x = .inl a' → XUp G a'.2 ∧ WW G 18 [(0, .ref b), (1, .ref (gB G + r1)), (2, .ref (gB G + r2)), (3, .int a'.1)] [] a'.2) ∧ (∀ b1 : Int32 × XS, x = .inr b1 → XEndL G b b1)) : WW G 1135 [(0, .ref b), (1, .ref (gB G + r1)), (2, .ref (gB G + r2)), (3, .int x3)] [.int t0] σ := by
  refine ww_pop (pc := 1135) C dL_law_1135 rfl ?_
  refine ww_aload_n (pc := 1136) C 2 dL_law_1136 rfl ?_
  refine ww_aload_n (pc := 1137) C 0 dL_law_1137 rfl ?_
  refine ww_iload_n (pc := 1138) C 3 dL_law_1138 rfl ?_
  refine ww_iconst (pc := 1139) (v := (1 : Int32)) C dL_law_1139 (by decide) ?_
  refine ww_iadd (pc := 1140) C dL_law_1140 ?_
  obtain ⟨v2, e1, hf⟩ := xbd hf
  refine ww_sld (pc := 1141) C hS e1 dL_law_1141 ?_
  refine ww_aload_n (pc := 1142) C 0 dL_law_1142 rfl ?_
  refine ww_iload_n (pc := 1143) C 3 dL_law_1143 rfl ?_
  refine ww_iconst (pc := 1144) (v := (2 : Int32)) C dL_law_1144 (by decide) ?_
  refine ww_iadd (pc := 1145) C dL_law_1145 ?_
  obtain ⟨v4, e3, hf⟩ := xbd hf
  refine ww_sld (pc := 1146) C hS e3 dL_law_1146 ?_
  obtain ⟨_, e5, hf⟩ := xbd hf
  obtain ⟨⟨v8, σ7⟩, e6, hf⟩ := xbd hf
  dsimp only at hf
  refine ww_callVi (pc := 1147) (as := [.int v2, .int v4]) (st := []) C (k_X12_nearest (l := gl G) (E := gE G) (hb := gB G) (σ := σ) e6) rfl (by decide) xc_L_153 q1699 q1700 (xck_spec e5) rfl (by decide) (xst4 (Nat.le_of_ble_eq_true rfl)) (m_X12_nearest e6).le (m_X12_nearest e6).lim dL_law_1147 ?_
  refine ww_pop (pc := 1150) C dL_law_1150 rfl ?_
  refine ww_goto (pc := 1151) (tgt := 1289) C dL_law_1151 (by decide) ?_
  refine ww_iinc (pc := 1289) (v := x3 + (6 : Int32)) (lv' := [(3, .int (x3 + (6 : Int32))), (0, .ref b), (1, .ref (gB G + r1)), (2, .ref (gB G + r2))]) C 3 dL_law_1289 rfl (congrArg (fun z => x3 + z) (show Int32.ofInt (6) = (6 : Int32) by decide)) (by decide) rfl ?_
  refine ww_goto (pc := 1292) (tgt := 18) C dL_law_1292 (by decide) ?_
  have hf := xsj hf
  subst hf
  refine ww_sub [1, 2, 3, 0] rfl ?_
  exact (hk.1 (x3 + (6 : Int32), σ7) rfl).2
theorem m_L_law_j1135 {L : Nat} {xs : Nat → Int32} {σ : XS} {r1 : Nat} {r2 : Nat} {x3 : Int32} {t0 : Int32} {x : ((Int32 × XS) ⊕ (Int32 × XS))} (hf : f_L_law_j1135 L xs σ r1 r2 x3 t0 = some x) : (∀ a' : Int32 × XS, x = .inl a' → xext σ a'.2) ∧ (∀ b1 : Int32 × XS, x = .inr b1 → xext σ b1.2) := by
  have hm := xext.rf (σ := σ)
  obtain ⟨v2, e1, hf⟩ := xbd hf
  obtain ⟨v4, e3, hf⟩ := xbd hf
  obtain ⟨_, e5, hf⟩ := xbd hf
  obtain ⟨⟨v8, σ7⟩, e6, hf⟩ := xbd hf
  dsimp only at hf
  have hm := hm.tr (m_X12_nearest e6).ext
  have hf := xsj hf
  subst hf
  exact ⟨fun a' e => (by have h9 := Sum.inl.inj e; subst h9; exact hm), fun b e => xnc1 e⟩
theorem s_L_law_j1275 {G : XG} (C : XC G cL_law RL (some .boolean) 4 13 468) {b L : Nat} {xs : Nat → Int32} (hS : XScr G b L xs) {σ : XS} {r1 : Nat} {r2 : Nat} {x3 : Int32} {t0 : Int32} {x : ((Int32 × XS) ⊕ (Int32 × XS))} (hf : f_L_law_j1275 L xs σ r1 r2 x3 t0 = some x) (hk : (∀ a' : Int32 × XS, x = .inl a' → XUp G a'.2 ∧ WW G 18 [(0, .ref b), (1, .ref (gB G + r1)), (2, .ref (gB G + r2)), (3, .int a'.1)] [] a'.2) ∧ (∀ b1 : Int32 × XS, x = .inr b1 → XEndL G b b1)) : WW G 1275 [(0, .ref b), (1, .ref (gB G + r1)), (2, .ref (gB G + r2)), (3, .int x3)] [.int t0] σ := by
  refine ww_pop (pc := 1275) C dL_law_1275 rfl ?_
  refine ww_aload_n (pc := 1276) C 2 dL_law_1276 rfl ?_
  refine ww_aload_n (pc := 1277) C 0 dL_law_1277 rfl ?_
  refine ww_iload_n (pc := 1278) C 3 dL_law_1278 rfl ?_
  refine ww_iconst (pc := 1279) (v := (1 : Int32)) C dL_law_1279 (by decide) ?_
  refine ww_iadd (pc := 1280) C dL_law_1280 ?_
  obtain ⟨v2, e1, hf⟩ := xbd hf
  refine ww_sld (pc := 1281) C hS e1 dL_law_1281 ?_
  obtain ⟨_, e3, hf⟩ := xbd hf
  obtain ⟨v5, e4, hf⟩ := xbd hf
  refine ww_callVi (pc := 1282) (as := [.int v2]) (st := []) C (k_X12_count (l := gl G) (E := gE G) (hb := gB G) (σ := σ) e4) rfl (by decide) xc_L_173 q1736 q1737 (xck_spec e3) rfl (by decide) (xst4 (Nat.le_of_ble_eq_true rfl)) xsame.rf.le xsame.rf.lim dL_law_1282 ?_
  refine ww_pop (pc := 1285) C dL_law_1285 rfl ?_
  refine ww_goto (pc := 1286) (tgt := 1289) C dL_law_1286 (by decide) ?_
  refine ww_iinc (pc := 1289) (v := x3 + (6 : Int32)) (lv' := [(3, .int (x3 + (6 : Int32))), (0, .ref b), (1, .ref (gB G + r1)), (2, .ref (gB G + r2))]) C 3 dL_law_1289 rfl (congrArg (fun z => x3 + z) (show Int32.ofInt (6) = (6 : Int32) by decide)) (by decide) rfl ?_
  refine ww_goto (pc := 1292) (tgt := 18) C dL_law_1292 (by decide) ?_
  have hf := xsj hf
  subst hf
  refine ww_sub [1, 2, 3, 0] rfl ?_
  exact (hk.1 (x3 + (6 : Int32), σ) rfl).2
theorem m_L_law_j1275 {L : Nat} {xs : Nat → Int32} {σ : XS} {r1 : Nat} {r2 : Nat} {x3 : Int32} {t0 : Int32} {x : ((Int32 × XS) ⊕ (Int32 × XS))} (hf : f_L_law_j1275 L xs σ r1 r2 x3 t0 = some x) : (∀ a' : Int32 × XS, x = .inl a' → xext σ a'.2) ∧ (∀ b1 : Int32 × XS, x = .inr b1 → xext σ b1.2) := by
  have hm := xext.rf (σ := σ)
  obtain ⟨v2, e1, hf⟩ := xbd hf
  obtain ⟨_, e3, hf⟩ := xbd hf
  obtain ⟨v5, e4, hf⟩ := xbd hf
  have hf := xsj hf
  subst hf
  exact ⟨fun a' e => (by have h9 := Sum.inl.inj e; subst h9; exact hm), fun b e => xnc1 e⟩
theorem m_L_law_l18 {L : Nat} {xs : Nat → Int32} {r1 : Nat} {r2 : Nat} {a : Int32 × XS} {x : Int32 × XS} (hf : xloop (f_L_law_b18 L xs r1 r2) a = some x) : xext a.2 x.2 := by
  refine xloop_ind (P := fun a => xext a.2 x.2) (fun a y hf hc he => ?_) hf
  obtain ⟨x3, σ⟩ := a
  have hy : (∀ a' : Int32 × XS, y = .inl a' → xext σ a'.2) ∧ (∀ b1 : Int32 × XS, y = .inr b1 → xext σ b1.2) := by
    have hm := xext.rf (σ := σ)
    by_cases q : ((Int32.ofNat L) - (6 : Int32)) < x3
    · have hf := xip q hf
      obtain ⟨b0, hg, e9⟩ := xmj hf
      subst e9
      have hf := hg
      refine ⟨fun a' e => xnc2 e, fun b e => ?_⟩
      have h9 := Sum.inr.inj e
      subst h9
      have hf := xsj hf
      subst hf
      exact hm
    · have hf := xin q hf
      obtain ⟨v2, e1, hf⟩ := xbd hf
      by_cases ho : (v2 &&& (63 : Int32)).toInt < 0 ∨ 36 < (v2 &&& (63 : Int32)).toInt
      · have hf := xsw_out ho rfl hf
        have hf := xsj hf
        subst hf
        exact ⟨fun a' e => (by have h9 := Sum.inl.inj e; subst h9; exact hm), fun b e => xnc1 e⟩
      · rcases (by omega : (v2 &&& (63 : Int32)).toInt = 0 + ((0 : Nat) : Int) ∨ (v2 &&& (63 : Int32)).toInt = 0 + ((1 : Nat) : Int) ∨ (v2 &&& (63 : Int32)).toInt = 0 + ((2 : Nat) : Int) ∨ (v2 &&& (63 : Int32)).toInt = 0 + ((3 : Nat) : Int) ∨ (v2 &&& (63 : Int32)).toInt = 0 + ((4 : Nat) : Int) ∨ (v2 &&& (63 : Int32)).toInt = 0 + ((5 : Nat) : Int) ∨ (v2 &&& (63 : Int32)).toInt = 0 + ((6 : Nat) : Int) ∨ (v2 &&& (63 : Int32)).toInt = 0 + ((7 : Nat) : Int) ∨ (v2 &&& (63 : Int32)).toInt = 0 + ((8 : Nat) : Int) ∨ (v2 &&& (63 : Int32)).toInt = 0 + ((9 : Nat) : Int) ∨ (v2 &&& (63 : Int32)).toInt = 0 + ((10 : Nat) : Int) ∨ (v2 &&& (63 : Int32)).toInt = 0 + ((11 : Nat) : Int) ∨ (v2 &&& (63 : Int32)).toInt = 0 + ((12 : Nat) : Int) ∨ (v2 &&& (63 : Int32)).toInt = 0 + ((13 : Nat) : Int) ∨ (v2 &&& (63 : Int32)).toInt = 0 + ((14 : Nat) : Int) ∨ (v2 &&& (63 : Int32)).toInt = 0 + ((15 : Nat) : Int) ∨ (v2 &&& (63 : Int32)).toInt = 0 + ((16 : Nat) : Int) ∨ (v2 &&& (63 : Int32)).toInt = 0 + ((17 : Nat) : Int) ∨ (v2 &&& (63 : Int32)).toInt = 0 + ((18 : Nat) : Int) ∨ (v2 &&& (63 : Int32)).toInt = 0 + ((19 : Nat) : Int) ∨ (v2 &&& (63 : Int32)).toInt = 0 + ((20 : Nat) : Int) ∨ (v2 &&& (63 : Int32)).toInt = 0 + ((21 : Nat) : Int) ∨ (v2 &&& (63 : Int32)).toInt = 0 + ((22 : Nat) : Int) ∨ (v2 &&& (63 : Int32)).toInt = 0 + ((23 : Nat) : Int) ∨ (v2 &&& (63 : Int32)).toInt = 0 + ((24 : Nat) : Int) ∨ (v2 &&& (63 : Int32)).toInt = 0 + ((25 : Nat) : Int) ∨ (v2 &&& (63 : Int32)).toInt = 0 + ((26 : Nat) : Int) ∨ (v2 &&& (63 : Int32)).toInt = 0 + ((27 : Nat) : Int) ∨ (v2 &&& (63 : Int32)).toInt = 0 + ((28 : Nat) : Int) ∨ (v2 &&& (63 : Int32)).toInt = 0 + ((29 : Nat) : Int) ∨ (v2 &&& (63 : Int32)).toInt = 0 + ((30 : Nat) : Int) ∨ (v2 &&& (63 : Int32)).toInt = 0 + ((31 : Nat) : Int) ∨ (v2 &&& (63 : Int32)).toInt = 0 + ((32 : Nat) : Int) ∨ (v2 &&& (63 : Int32)).toInt = 0 + ((33 : Nat) : Int) ∨ (v2 &&& (63 : Int32)).toInt = 0 + ((34 : Nat) : Int) ∨ (v2 &&& (63 : Int32)).toInt = 0 + ((35 : Nat) : Int) ∨ (v2 &&& (63 : Int32)).toInt = 0 + ((36 : Nat) : Int)) with hk1 | hk1 | hk1 | hk1 | hk1 | hk1 | hk1 | hk1 | hk1 | hk1 | hk1 | hk1 | hk1 | hk1 | hk1 | hk1 | hk1 | hk1 | hk1 | hk1 | hk1 | hk1 | hk1 | hk1 | hk1 | hk1 | hk1 | hk1 | hk1 | hk1 | hk1 | hk1 | hk1 | hk1 | hk1 | hk1 | hk1
        · have hf := xsw_in 0 hk1 rfl hf
          obtain ⟨v4, e3, hf⟩ := xbd hf
          obtain ⟨v6, e5, hf⟩ := xbd hf
          obtain ⟨v8, e7, hf⟩ := xbd hf
          obtain ⟨v10, e9, hf⟩ := xbd hf
          obtain ⟨v12, e11, hf⟩ := xbd hf
          obtain ⟨_, e13, hf⟩ := xbd hf
          obtain ⟨⟨v16, σ15⟩, e14, hf⟩ := xbd hf
          dsimp only at hf
          have hm := hm.tr (m_X11_feed e14).ext
          obtain ⟨v18, e17, hf⟩ := xbd hf
          obtain ⟨v20, e19, hf⟩ := xbd hf
          obtain ⟨v22, e21, hf⟩ := xbd hf
          obtain ⟨v24, e23, hf⟩ := xbd hf
          obtain ⟨v26, e25, hf⟩ := xbd hf
          obtain ⟨_, e27, hf⟩ := xbd hf
          obtain ⟨⟨v30, σ29⟩, e28, hf⟩ := xbd hf
          dsimp only at hf
          have hm := hm.tr (m_X12_feed e28).ext
          have hf := xsj hf
          subst hf
          exact ⟨fun a' e => (by have h9 := Sum.inl.inj e; subst h9; exact hm), fun b e => xnc1 e⟩
        · have hf := xsw_in 1 hk1 rfl hf
          obtain ⟨v4, e3, hf⟩ := xbd hf
          obtain ⟨_, e5, hf⟩ := xbd hf
          obtain ⟨⟨v8, σ7⟩, e6, hf⟩ := xbd hf
          dsimp only at hf
          have hm := hm.tr (m_X11_back e6).ext
          obtain ⟨v10, e9, hf⟩ := xbd hf
          obtain ⟨_, e11, hf⟩ := xbd hf
          obtain ⟨⟨v14, σ13⟩, e12, hf⟩ := xbd hf
          dsimp only at hf
          have hm := hm.tr (m_X12_back e12).ext
          have hf := xsj hf
          subst hf
          exact ⟨fun a' e => (by have h9 := Sum.inl.inj e; subst h9; exact hm), fun b e => xnc1 e⟩
        · have hf := xsw_in 2 hk1 rfl hf
          obtain ⟨_, e3, hf⟩ := xbd hf
          obtain ⟨⟨v6, σ5⟩, e4, hf⟩ := xbd hf
          dsimp only at hf
          have hm := hm.tr (m_X11_read e4).ext
          obtain ⟨_, e7, hf⟩ := xbd hf
          obtain ⟨⟨v10, σ9⟩, e8, hf⟩ := xbd hf
          dsimp only at hf
          have hm := hm.tr (m_X12_read e8).ext
          have hf := xsj hf
          subst hf
          exact ⟨fun a' e => (by have h9 := Sum.inl.inj e; subst h9; exact hm), fun b e => xnc1 e⟩
        · have hf := xsw_in 3 hk1 rfl hf
          obtain ⟨_, e3, hf⟩ := xbd hf
          obtain ⟨v5, e4, hf⟩ := xbd hf
          obtain ⟨_, e6, hf⟩ := xbd hf
          obtain ⟨v8, e7, hf⟩ := xbd hf
          have hf := xsj hf
          subst hf
          exact ⟨fun a' e => (by have h9 := Sum.inl.inj e; subst h9; exact hm), fun b e => xnc1 e⟩
        · have hf := xsw_in 4 hk1 rfl hf
          obtain ⟨v4, e3, hf⟩ := xbd hf
          obtain ⟨v6, e5, hf⟩ := xbd hf
          by_cases q : v6 = 0
          · have hf := xip q hf
            exact ⟨fun a' e => hm.tr ((m_L_law_j327 hf).1 a' e), fun b1 eb1 => hm.tr ((m_L_law_j327 hf).2 b1 eb1)⟩
          · have hf := xin q hf
            exact ⟨fun a' e => hm.tr ((m_L_law_j327 hf).1 a' e), fun b1 eb1 => hm.tr ((m_L_law_j327 hf).2 b1 eb1)⟩
        · have hf := xsw_in 5 hk1 rfl hf
          obtain ⟨v4, e3, hf⟩ := xbd hf
          obtain ⟨v6, e5, hf⟩ := xbd hf
          obtain ⟨_, e7, hf⟩ := xbd hf
          obtain ⟨⟨v10, σ9⟩, e8, hf⟩ := xbd hf
          dsimp only at hf
          have hm := hm.tr (m_X11_pull e8).ext
          obtain ⟨v12, e11, hf⟩ := xbd hf
          obtain ⟨v14, e13, hf⟩ := xbd hf
          obtain ⟨_, e15, hf⟩ := xbd hf
          obtain ⟨⟨v18, σ17⟩, e16, hf⟩ := xbd hf
          dsimp only at hf
          have hm := hm.tr (m_X12_pull e16).ext
          have hf := xsj hf
          subst hf
          exact ⟨fun a' e => (by have h9 := Sum.inl.inj e; subst h9; exact hm), fun b e => xnc1 e⟩
        · have hf := xsw_in 6 hk1 rfl hf
          obtain ⟨v4, e3, hf⟩ := xbd hf
          obtain ⟨v6, e5, hf⟩ := xbd hf
          obtain ⟨_, e7, hf⟩ := xbd hf
          obtain ⟨⟨v10, σ9⟩, e8, hf⟩ := xbd hf
          dsimp only at hf
          have hm := hm.tr (m_X11_pin e8).ext
          obtain ⟨v12, e11, hf⟩ := xbd hf
          obtain ⟨v14, e13, hf⟩ := xbd hf
          obtain ⟨_, e15, hf⟩ := xbd hf
          obtain ⟨⟨v18, σ17⟩, e16, hf⟩ := xbd hf
          dsimp only at hf
          have hm := hm.tr (m_X12_pin e16).ext
          have hf := xsj hf
          subst hf
          exact ⟨fun a' e => (by have h9 := Sum.inl.inj e; subst h9; exact hm), fun b e => xnc1 e⟩
        · have hf := xsw_in 7 hk1 rfl hf
          obtain ⟨v4, e3, hf⟩ := xbd hf
          obtain ⟨_, e5, hf⟩ := xbd hf
          obtain ⟨⟨v8, σ7⟩, e6, hf⟩ := xbd hf
          dsimp only at hf
          have hm := hm.tr (m_X11_glass e6).ext
          obtain ⟨v10, e9, hf⟩ := xbd hf
          obtain ⟨_, e11, hf⟩ := xbd hf
          obtain ⟨⟨v14, σ13⟩, e12, hf⟩ := xbd hf
          dsimp only at hf
          have hm := hm.tr (m_X12_glass e12).ext
          have hf := xsj hf
          subst hf
          exact ⟨fun a' e => (by have h9 := Sum.inl.inj e; subst h9; exact hm), fun b e => xnc1 e⟩
        · have hf := xsw_in 8 hk1 rfl hf
          obtain ⟨v4, e3, hf⟩ := xbd hf
          obtain ⟨_, e5, hf⟩ := xbd hf
          obtain ⟨⟨v8, σ7⟩, e6, hf⟩ := xbd hf
          dsimp only at hf
          have hm := hm.tr (m_X11_turn e6).ext
          obtain ⟨v10, e9, hf⟩ := xbd hf
          obtain ⟨_, e11, hf⟩ := xbd hf
          obtain ⟨⟨v14, σ13⟩, e12, hf⟩ := xbd hf
          dsimp only at hf
          have hm := hm.tr (m_X12_turn e12).ext
          have hf := xsj hf
          subst hf
          exact ⟨fun a' e => (by have h9 := Sum.inl.inj e; subst h9; exact hm), fun b e => xnc1 e⟩
        · have hf := xsw_in 9 hk1 rfl hf
          obtain ⟨_, e3, hf⟩ := xbd hf
          obtain ⟨⟨v6, σ5⟩, e4, hf⟩ := xbd hf
          dsimp only at hf
          have hm := hm.tr (m_X11_fall e4).ext
          obtain ⟨_, e7, hf⟩ := xbd hf
          obtain ⟨⟨v10, σ9⟩, e8, hf⟩ := xbd hf
          dsimp only at hf
          have hm := hm.tr (m_X12_fall e8).ext
          have hf := xsj hf
          subst hf
          exact ⟨fun a' e => (by have h9 := Sum.inl.inj e; subst h9; exact hm), fun b e => xnc1 e⟩
        · have hf := xsw_in 10 hk1 rfl hf
          obtain ⟨_, e3, hf⟩ := xbd hf
          obtain ⟨⟨v6, σ5⟩, e4, hf⟩ := xbd hf
          dsimp only at hf
          have hm := hm.tr (m_X11_undo e4).ext
          obtain ⟨_, e7, hf⟩ := xbd hf
          obtain ⟨⟨v10, σ9⟩, e8, hf⟩ := xbd hf
          dsimp only at hf
          have hm := hm.tr (m_X12_undo e8).ext
          have hf := xsj hf
          subst hf
          exact ⟨fun a' e => (by have h9 := Sum.inl.inj e; subst h9; exact hm), fun b e => xnc1 e⟩
        · have hf := xsw_in 11 hk1 rfl hf
          obtain ⟨v4, e3, hf⟩ := xbd hf
          obtain ⟨v6, e5, hf⟩ := xbd hf
          obtain ⟨_, e7, hf⟩ := xbd hf
          obtain ⟨v9, e8, hf⟩ := xbd hf
          obtain ⟨v11, e10, hf⟩ := xbd hf
          obtain ⟨v13, e12, hf⟩ := xbd hf
          obtain ⟨_, e14, hf⟩ := xbd hf
          obtain ⟨v16, e15, hf⟩ := xbd hf
          have hf := xsj hf
          subst hf
          exact ⟨fun a' e => (by have h9 := Sum.inl.inj e; subst h9; exact hm), fun b e => xnc1 e⟩
        · have hf := xsw_in 12 hk1 rfl hf
          obtain ⟨v4, e3, hf⟩ := xbd hf
          obtain ⟨v6, e5, hf⟩ := xbd hf
          obtain ⟨_, e7, hf⟩ := xbd hf
          obtain ⟨⟨v10, σ9⟩, e8, hf⟩ := xbd hf
          dsimp only at hf
          have hm := hm.tr (m_X11_level e8)
          exact ⟨fun a' e => hm.tr ((m_L_law_j552 hf).1 a' e), fun b1 eb1 => hm.tr ((m_L_law_j552 hf).2 b1 eb1)⟩
        · have hf := xsw_in 13 hk1 rfl hf
          obtain ⟨v4, e3, hf⟩ := xbd hf
          obtain ⟨v6, e5, hf⟩ := xbd hf
          obtain ⟨_, e7, hf⟩ := xbd hf
          obtain ⟨⟨v10, σ9⟩, e8, hf⟩ := xbd hf
          dsimp only at hf
          have hm := hm.tr (m_X11_both e8)
          exact ⟨fun a' e => hm.tr ((m_L_law_j585 hf).1 a' e), fun b1 eb1 => hm.tr ((m_L_law_j585 hf).2 b1 eb1)⟩
        · have hf := xsw_in 14 hk1 rfl hf
          obtain ⟨v4, e3, hf⟩ := xbd hf
          obtain ⟨_, e5, hf⟩ := xbd hf
          obtain ⟨⟨v8, σ7⟩, e6, hf⟩ := xbd hf
          dsimp only at hf
          have hm := hm.tr (m_X11_broken e6)
          exact ⟨fun a' e => hm.tr ((m_L_law_j613 hf).1 a' e), fun b1 eb1 => hm.tr ((m_L_law_j613 hf).2 b1 eb1)⟩
        · have hf := xsw_in 15 hk1 rfl hf
          obtain ⟨v4, e3, hf⟩ := xbd hf
          obtain ⟨_, e5, hf⟩ := xbd hf
          obtain ⟨⟨v8, σ7⟩, e6, hf⟩ := xbd hf
          dsimp only at hf
          have hm := hm.tr (m_X11_ground e6)
          exact ⟨fun a' e => hm.tr ((m_L_law_j636 hf).1 a' e), fun b1 eb1 => hm.tr ((m_L_law_j636 hf).2 b1 eb1)⟩
        · have hf := xsw_in 16 hk1 rfl hf
          obtain ⟨v4, e3, hf⟩ := xbd hf
          obtain ⟨v6, e5, hf⟩ := xbd hf
          obtain ⟨v8, e7, hf⟩ := xbd hf
          obtain ⟨v10, e9, hf⟩ := xbd hf
          obtain ⟨_, e11, hf⟩ := xbd hf
          obtain ⟨⟨v14, σ13⟩, e12, hf⟩ := xbd hf
          dsimp only at hf
          have hm := hm.tr (m_X11_pair e12)
          exact ⟨fun a' e => hm.tr ((m_L_law_j674 hf).1 a' e), fun b1 eb1 => hm.tr ((m_L_law_j674 hf).2 b1 eb1)⟩
        · have hf := xsw_in 17 hk1 rfl hf
          obtain ⟨v4, e3, hf⟩ := xbd hf
          obtain ⟨v6, e5, hf⟩ := xbd hf
          obtain ⟨_, e7, hf⟩ := xbd hf
          obtain ⟨⟨v10, σ9⟩, e8, hf⟩ := xbd hf
          dsimp only at hf
          have hm := hm.tr (m_X11_mean e8)
          exact ⟨fun a' e => hm.tr ((m_L_law_j717 hf).1 a' e), fun b1 eb1 => hm.tr ((m_L_law_j717 hf).2 b1 eb1)⟩
        · have hf := xsw_in 18 hk1 rfl hf
          obtain ⟨v4, e3, hf⟩ := xbd hf
          obtain ⟨_, e5, hf⟩ := xbd hf
          obtain ⟨⟨v8, σ7⟩, e6, hf⟩ := xbd hf
          dsimp only at hf
          have hm := hm.tr (m_X11_value e6)
          exact ⟨fun a' e => hm.tr ((m_L_law_j745 hf).1 a' e), fun b1 eb1 => hm.tr ((m_L_law_j745 hf).2 b1 eb1)⟩
        · have hf := xsw_in 19 hk1 rfl hf
          obtain ⟨v4, e3, hf⟩ := xbd hf
          obtain ⟨v6, e5, hf⟩ := xbd hf
          obtain ⟨v8, e7, hf⟩ := xbd hf
          obtain ⟨_, e9, hf⟩ := xbd hf
          obtain ⟨⟨v12, σ11⟩, e10, hf⟩ := xbd hf
          dsimp only at hf
          have hm := hm.tr (m_X11_joined e10)
          exact ⟨fun a' e => hm.tr ((m_L_law_j778 hf).1 a' e), fun b1 eb1 => hm.tr ((m_L_law_j778 hf).2 b1 eb1)⟩
        · have hf := xsw_in 20 hk1 rfl hf
          obtain ⟨v4, e3, hf⟩ := xbd hf
          obtain ⟨v6, e5, hf⟩ := xbd hf
          obtain ⟨_, e7, hf⟩ := xbd hf
          obtain ⟨⟨v10, σ9⟩, e8, hf⟩ := xbd hf
          dsimp only at hf
          have hm := hm.tr (m_X11_state e8)
          exact ⟨fun a' e => hm.tr ((m_L_law_j816 hf).1 a' e), fun b1 eb1 => hm.tr ((m_L_law_j816 hf).2 b1 eb1)⟩
        · have hf := xsw_in 21 hk1 rfl hf
          obtain ⟨v4, e3, hf⟩ := xbd hf
          by_cases q : v4 = 0
          · have hf := xip q hf
            exact ⟨fun a' e => hm.tr ((m_L_law_j849 hf).1 a' e), fun b1 eb1 => hm.tr ((m_L_law_j849 hf).2 b1 eb1)⟩
          · have hf := xin q hf
            exact ⟨fun a' e => hm.tr ((m_L_law_j849 hf).1 a' e), fun b1 eb1 => hm.tr ((m_L_law_j849 hf).2 b1 eb1)⟩
        · have hf := xsw_in 22 hk1 rfl hf
          obtain ⟨v4, e3, hf⟩ := xbd hf
          obtain ⟨v6, e5, hf⟩ := xbd hf
          obtain ⟨v8, e7, hf⟩ := xbd hf
          obtain ⟨_, e9, hf⟩ := xbd hf
          obtain ⟨⟨v12, σ11⟩, e10, hf⟩ := xbd hf
          dsimp only at hf
          have hm := hm.tr (m_X11_rows e10)
          exact ⟨fun a' e => hm.tr ((m_L_law_j893 hf).1 a' e), fun b1 eb1 => hm.tr ((m_L_law_j893 hf).2 b1 eb1)⟩
        · have hf := xsw_in 23 hk1 rfl hf
          obtain ⟨v4, e3, hf⟩ := xbd hf
          obtain ⟨_, e5, hf⟩ := xbd hf
          obtain ⟨v7, e6, hf⟩ := xbd hf
          obtain ⟨v9, e8, hf⟩ := xbd hf
          obtain ⟨_, e10, hf⟩ := xbd hf
          obtain ⟨v12, e11, hf⟩ := xbd hf
          have hf := xsj hf
          subst hf
          exact ⟨fun a' e => (by have h9 := Sum.inl.inj e; subst h9; exact hm), fun b e => xnc1 e⟩
        · have hf := xsw_in 24 hk1 rfl hf
          obtain ⟨v4, e3, hf⟩ := xbd hf
          obtain ⟨_, e5, hf⟩ := xbd hf
          obtain ⟨⟨v8, σ7⟩, e6, hf⟩ := xbd hf
          dsimp only at hf
          have hm := hm.tr (m_X11_overlap e6)
          exact ⟨fun a' e => hm.tr ((m_L_law_j949 hf).1 a' e), fun b1 eb1 => hm.tr ((m_L_law_j949 hf).2 b1 eb1)⟩
        · have hf := xsw_in 25 hk1 rfl hf
          obtain ⟨v4, e3, hf⟩ := xbd hf
          obtain ⟨_, e5, hf⟩ := xbd hf
          obtain ⟨⟨v8, σ7⟩, e6, hf⟩ := xbd hf
          dsimp only at hf
          have hm := hm.tr (m_X11_basin e6)
          exact ⟨fun a' e => hm.tr ((m_L_law_j972 hf).1 a' e), fun b1 eb1 => hm.tr ((m_L_law_j972 hf).2 b1 eb1)⟩
        · have hf := xsw_in 26 hk1 rfl hf
          obtain ⟨v4, e3, hf⟩ := xbd hf
          obtain ⟨v6, e5, hf⟩ := xbd hf
          obtain ⟨_, e7, hf⟩ := xbd hf
          obtain ⟨⟨v10, σ9⟩, e8, hf⟩ := xbd hf
          dsimp only at hf
          have hm := hm.tr (m_X11_stiff e8)
          exact ⟨fun a' e => hm.tr ((m_L_law_j1000 hf).1 a' e), fun b1 eb1 => hm.tr ((m_L_law_j1000 hf).2 b1 eb1)⟩
        · have hf := xsw_in 27 hk1 rfl hf
          obtain ⟨v4, e3, hf⟩ := xbd hf
          obtain ⟨_, e5, hf⟩ := xbd hf
          obtain ⟨⟨v8, σ7⟩, e6, hf⟩ := xbd hf
          dsimp only at hf
          have hm := hm.tr (m_X11_hill e6)
          exact ⟨fun a' e => hm.tr ((m_L_law_j1028 hf).1 a' e), fun b1 eb1 => hm.tr ((m_L_law_j1028 hf).2 b1 eb1)⟩
        · have hf := xsw_in 28 hk1 rfl hf
          obtain ⟨v4, e3, hf⟩ := xbd hf
          obtain ⟨v6, e5, hf⟩ := xbd hf
          obtain ⟨_, e7, hf⟩ := xbd hf
          obtain ⟨⟨v10, σ9⟩, e8, hf⟩ := xbd hf
          dsimp only at hf
          have hm := hm.tr (m_X11_pass e8)
          exact ⟨fun a' e => hm.tr ((m_L_law_j1056 hf).1 a' e), fun b1 eb1 => hm.tr ((m_L_law_j1056 hf).2 b1 eb1)⟩
        · have hf := xsw_in 29 hk1 rfl hf
          obtain ⟨v4, e3, hf⟩ := xbd hf
          obtain ⟨_, e5, hf⟩ := xbd hf
          obtain ⟨⟨v8, σ7⟩, e6, hf⟩ := xbd hf
          dsimp only at hf
          have hm := hm.tr (m_X11_lakes e6)
          exact ⟨fun a' e => hm.tr ((m_L_law_j1084 hf).1 a' e), fun b1 eb1 => hm.tr ((m_L_law_j1084 hf).2 b1 eb1)⟩
        · have hf := xsw_in 30 hk1 rfl hf
          obtain ⟨v4, e3, hf⟩ := xbd hf
          obtain ⟨_, e5, hf⟩ := xbd hf
          obtain ⟨⟨v8, σ7⟩, e6, hf⟩ := xbd hf
          dsimp only at hf
          have hm := hm.tr (m_X11_down e6)
          exact ⟨fun a' e => hm.tr ((m_L_law_j1107 hf).1 a' e), fun b1 eb1 => hm.tr ((m_L_law_j1107 hf).2 b1 eb1)⟩
        · have hf := xsw_in 31 hk1 rfl hf
          obtain ⟨v4, e3, hf⟩ := xbd hf
          obtain ⟨v6, e5, hf⟩ := xbd hf
          obtain ⟨_, e7, hf⟩ := xbd hf
          obtain ⟨⟨v10, σ9⟩, e8, hf⟩ := xbd hf
          dsimp only at hf
          have hm := hm.tr (m_X11_nearest e8)
          exact ⟨fun a' e => hm.tr ((m_L_law_j1135 hf).1 a' e), fun b1 eb1 => hm.tr ((m_L_law_j1135 hf).2 b1 eb1)⟩
        · have hf := xsw_in 32 hk1 rfl hf
          obtain ⟨v4, e3, hf⟩ := xbd hf
          obtain ⟨_, e5, hf⟩ := xbd hf
          obtain ⟨v7, e6, hf⟩ := xbd hf
          obtain ⟨v9, e8, hf⟩ := xbd hf
          obtain ⟨_, e10, hf⟩ := xbd hf
          obtain ⟨v12, e11, hf⟩ := xbd hf
          have hf := xsj hf
          subst hf
          exact ⟨fun a' e => (by have h9 := Sum.inl.inj e; subst h9; exact hm), fun b e => xnc1 e⟩
        · have hf := xsw_in 33 hk1 rfl hf
          obtain ⟨v4, e3, hf⟩ := xbd hf
          obtain ⟨v6, e5, hf⟩ := xbd hf
          obtain ⟨v8, e7, hf⟩ := xbd hf
          obtain ⟨_, e9, hf⟩ := xbd hf
          obtain ⟨⟨v12, σ11⟩, e10, hf⟩ := xbd hf
          dsimp only at hf
          have hm := hm.tr (m_X11_wander e10).ext
          obtain ⟨v14, e13, hf⟩ := xbd hf
          obtain ⟨v16, e15, hf⟩ := xbd hf
          obtain ⟨v18, e17, hf⟩ := xbd hf
          obtain ⟨_, e19, hf⟩ := xbd hf
          obtain ⟨⟨v22, σ21⟩, e20, hf⟩ := xbd hf
          dsimp only at hf
          have hm := hm.tr (m_X12_wander e20).ext
          have hf := xsj hf
          subst hf
          exact ⟨fun a' e => (by have h9 := Sum.inl.inj e; subst h9; exact hm), fun b e => xnc1 e⟩
        · have hf := xsw_in 34 hk1 rfl hf
          obtain ⟨v4, e3, hf⟩ := xbd hf
          obtain ⟨_, e5, hf⟩ := xbd hf
          obtain ⟨⟨v8, σ7⟩, e6, hf⟩ := xbd hf
          dsimp only at hf
          have hm := hm.tr (m_X11_hold e6).ext
          obtain ⟨v10, e9, hf⟩ := xbd hf
          obtain ⟨_, e11, hf⟩ := xbd hf
          obtain ⟨⟨v14, σ13⟩, e12, hf⟩ := xbd hf
          dsimp only at hf
          have hm := hm.tr (m_X12_hold e12).ext
          have hf := xsj hf
          subst hf
          exact ⟨fun a' e => (by have h9 := Sum.inl.inj e; subst h9; exact hm), fun b e => xnc1 e⟩
        · have hf := xsw_in 35 hk1 rfl hf
          obtain ⟨v4, e3, hf⟩ := xbd hf
          obtain ⟨_, e5, hf⟩ := xbd hf
          obtain ⟨⟨v8, σ7⟩, e6, hf⟩ := xbd hf
          dsimp only at hf
          have hm := hm.tr (m_X11_restore e6).ext
          obtain ⟨v10, e9, hf⟩ := xbd hf
          obtain ⟨_, e11, hf⟩ := xbd hf
          obtain ⟨⟨v14, σ13⟩, e12, hf⟩ := xbd hf
          dsimp only at hf
          have hm := hm.tr (m_X12_restore e12).ext
          have hf := xsj hf
          subst hf
          exact ⟨fun a' e => (by have h9 := Sum.inl.inj e; subst h9; exact hm), fun b e => xnc1 e⟩
        · have hf := xsw_in 36 hk1 rfl hf
          obtain ⟨v4, e3, hf⟩ := xbd hf
          obtain ⟨_, e5, hf⟩ := xbd hf
          obtain ⟨⟨v8, σ7⟩, e6, hf⟩ := xbd hf
          dsimp only at hf
          have hm := hm.tr (m_X11_count e6)
          exact ⟨fun a' e => hm.tr ((m_L_law_j1275 hf).1 a' e), fun b1 eb1 => hm.tr ((m_L_law_j1275 hf).2 b1 eb1)⟩
  cases y with
  | inl a' =>
    have h1 := hc a' rfl
    have hm := hy.1 a' rfl
    exact hm.tr (h1)
  | inr b =>
    have h1 := he b rfl
    subst h1
    exact hy.2 _ rfl
theorem s_L_law_l18 {G : XG} (C : XC G cL_law RL (some .boolean) 4 13 468) {b L : Nat} {xs : Nat → Int32} (hS : XScr G b L xs) {r1 : Nat} {r2 : Nat} {a : Int32 × XS} {x : Int32 × XS} (hf : xloop (f_L_law_b18 L xs r1 r2) a = some x) (hk : XEndL G b x) : WW G 18 [(0, .ref b), (1, .ref (gB G + r1)), (2, .ref (gB G + r2)), (3, .int a.1)] [] a.2 := by
  refine xloop_ind2 (P := fun a => WW G 18 [(0, .ref b), (1, .ref (gB G + r1)), (2, .ref (gB G + r2)), (3, .int a.1)] [] a.2) (fun a y hf hc he => ?_) hf
  obtain ⟨x3, σ⟩ := a
  have hk : (∀ a' : Int32 × XS, y = .inl a' → XUp G a'.2 ∧ WW G 18 [(0, .ref b), (1, .ref (gB G + r1)), (2, .ref (gB G + r2)), (3, .int a'.1)] [] a'.2) ∧ (∀ b1 : Int32 × XS, y = .inr b1 → XEndL G b b1) := ⟨fun a' e => ⟨XUp.fin (m_L_law_l18 (hc a' e).1) hk.2.1, (hc a' e).2⟩, fun b e => by have h9 := he b e; subst h9; exact hk⟩
  refine ww_iload_n (pc := 18) C 3 dL_law_18 rfl ?_
  refine ww_aload_n (pc := 19) C 0 dL_law_19 rfl ?_
  refine ww_slen (pc := 20) C hS dL_law_20 ?_
  refine ww_bipush (pc := 21) (v := (6 : Int32)) C dL_law_21 (by decide) ?_
  refine ww_isub (pc := 23) C dL_law_23 ?_
  refine ww_icmp_gt (pc := 24) (tgt := 1295) C dL_law_24 (by decide) (fun q => ?_) (fun q => ?_)
  · have hf := xip q hf
    obtain ⟨b0, hg, e9⟩ := xmj hf
    subst e9
    have hf := hg
    have hk := hk.2 _ rfl
    refine ww_iconst (pc := 1295) (v := (1 : Int32)) C dL_law_1295 (by decide) ?_
    have hf := xsj hf
    subst hf
    exact ww_lawret (pc := 1296) C hS hk dL_law_1296
  · have hf := xin q hf
    refine ww_aload_n (pc := 27) C 0 dL_law_27 rfl ?_
    refine ww_iload_n (pc := 28) C 3 dL_law_28 rfl ?_
    obtain ⟨v2, e1, hf⟩ := xbd hf
    refine ww_sld (pc := 29) C hS e1 dL_law_29 ?_
    refine ww_bipush (pc := 30) (v := (63 : Int32)) C dL_law_30 (by decide) ?_
    refine ww_iand (pc := 32) C dL_law_32 ?_
    refine ww_table (pc := 33) C dL_law_33 (fun k hk1 hk2 => ?_) (fun ho => ?_)
    · rcases (by omega : k = 0 ∨ k = 1 ∨ k = 2 ∨ k = 3 ∨ k = 4 ∨ k = 5 ∨ k = 6 ∨ k = 7 ∨ k = 8 ∨ k = 9 ∨ k = 10 ∨ k = 11 ∨ k = 12 ∨ k = 13 ∨ k = 14 ∨ k = 15 ∨ k = 16 ∨ k = 17 ∨ k = 18 ∨ k = 19 ∨ k = 20 ∨ k = 21 ∨ k = 22 ∨ k = 23 ∨ k = 24 ∨ k = 25 ∨ k = 26 ∨ k = 27 ∨ k = 28 ∨ k = 29 ∨ k = 30 ∨ k = 31 ∨ k = 32 ∨ k = 33 ∨ k = 34 ∨ k = 35 ∨ k = 36) with rfl | rfl | rfl | rfl | rfl | rfl | rfl | rfl | rfl | rfl | rfl | rfl | rfl | rfl | rfl | rfl | rfl | rfl | rfl | rfl | rfl | rfl | rfl | rfl | rfl | rfl | rfl | rfl | rfl | rfl | rfl | rfl | rfl | rfl | rfl | rfl | rfl
      · refine ⟨196, 163, rfl, by decide, ?_⟩
        have hf := xsw_in 0 hk1 rfl hf
        refine ww_aload_n (pc := 196) C 1 dL_law_196 rfl ?_
        refine ww_aload_n (pc := 197) C 0 dL_law_197 rfl ?_
        refine ww_iload_n (pc := 198) C 3 dL_law_198 rfl ?_
        refine ww_iconst (pc := 199) (v := (1 : Int32)) C dL_law_199 (by decide) ?_
        refine ww_iadd (pc := 200) C dL_law_200 ?_
        obtain ⟨v4, e3, hf⟩ := xbd hf
        refine ww_sld (pc := 201) C hS e3 dL_law_201 ?_
        refine ww_aload_n (pc := 202) C 0 dL_law_202 rfl ?_
        refine ww_iload_n (pc := 203) C 3 dL_law_203 rfl ?_
        refine ww_iconst (pc := 204) (v := (2 : Int32)) C dL_law_204 (by decide) ?_
        refine ww_iadd (pc := 205) C dL_law_205 ?_
        obtain ⟨v6, e5, hf⟩ := xbd hf
        refine ww_sld (pc := 206) C hS e5 dL_law_206 ?_
        refine ww_aload_n (pc := 207) C 0 dL_law_207 rfl ?_
        refine ww_iload_n (pc := 208) C 3 dL_law_208 rfl ?_
        refine ww_iconst (pc := 209) (v := (3 : Int32)) C dL_law_209 (by decide) ?_
        refine ww_iadd (pc := 210) C dL_law_210 ?_
        obtain ⟨v8, e7, hf⟩ := xbd hf
        refine ww_sld (pc := 211) C hS e7 dL_law_211 ?_
        refine ww_aload_n (pc := 212) C 0 dL_law_212 rfl ?_
        refine ww_iload_n (pc := 213) C 3 dL_law_213 rfl ?_
        refine ww_iconst (pc := 214) (v := (4 : Int32)) C dL_law_214 (by decide) ?_
        refine ww_iadd (pc := 215) C dL_law_215 ?_
        obtain ⟨v10, e9, hf⟩ := xbd hf
        refine ww_sld (pc := 216) C hS e9 dL_law_216 ?_
        refine ww_aload_n (pc := 217) C 0 dL_law_217 rfl ?_
        refine ww_iload_n (pc := 218) C 3 dL_law_218 rfl ?_
        refine ww_iconst (pc := 219) (v := (5 : Int32)) C dL_law_219 (by decide) ?_
        refine ww_iadd (pc := 220) C dL_law_220 ?_
        obtain ⟨v12, e11, hf⟩ := xbd hf
        refine ww_sld (pc := 221) C hS e11 dL_law_221 ?_
        obtain ⟨_, e13, hf⟩ := xbd hf
        obtain ⟨⟨v16, σ15⟩, e14, hf⟩ := xbd hf
        dsimp only at hf
        refine ww_callVi (pc := 222) (as := [.int v4, .int v6, .int v8, .int v10, .int v12]) (st := []) C (k_X11_feed (l := gl G) (E := gE G) (hb := gB G) (σ := σ) e14) rfl (by decide) xc_L_13 q442 q443 (xck_spec e13) rfl (by decide) (xst4 (Nat.le_of_ble_eq_true rfl)) (m_X11_feed e14).le (m_X11_feed e14).lim dL_law_222 ?_
        refine ww_pop (pc := 225) C dL_law_225 rfl ?_
        refine ww_aload_n (pc := 226) C 2 dL_law_226 rfl ?_
        refine ww_aload_n (pc := 227) C 0 dL_law_227 rfl ?_
        refine ww_iload_n (pc := 228) C 3 dL_law_228 rfl ?_
        refine ww_iconst (pc := 229) (v := (1 : Int32)) C dL_law_229 (by decide) ?_
        refine ww_iadd (pc := 230) C dL_law_230 ?_
        obtain ⟨v18, e17, hf⟩ := xbd hf
        refine ww_sld (pc := 231) C hS e17 dL_law_231 ?_
        refine ww_aload_n (pc := 232) C 0 dL_law_232 rfl ?_
        refine ww_iload_n (pc := 233) C 3 dL_law_233 rfl ?_
        refine ww_iconst (pc := 234) (v := (2 : Int32)) C dL_law_234 (by decide) ?_
        refine ww_iadd (pc := 235) C dL_law_235 ?_
        obtain ⟨v20, e19, hf⟩ := xbd hf
        refine ww_sld (pc := 236) C hS e19 dL_law_236 ?_
        refine ww_aload_n (pc := 237) C 0 dL_law_237 rfl ?_
        refine ww_iload_n (pc := 238) C 3 dL_law_238 rfl ?_
        refine ww_iconst (pc := 239) (v := (3 : Int32)) C dL_law_239 (by decide) ?_
        refine ww_iadd (pc := 240) C dL_law_240 ?_
        obtain ⟨v22, e21, hf⟩ := xbd hf
        refine ww_sld (pc := 241) C hS e21 dL_law_241 ?_
        refine ww_aload_n (pc := 242) C 0 dL_law_242 rfl ?_
        refine ww_iload_n (pc := 243) C 3 dL_law_243 rfl ?_
        refine ww_iconst (pc := 244) (v := (4 : Int32)) C dL_law_244 (by decide) ?_
        refine ww_iadd (pc := 245) C dL_law_245 ?_
        obtain ⟨v24, e23, hf⟩ := xbd hf
        refine ww_sld (pc := 246) C hS e23 dL_law_246 ?_
        refine ww_aload_n (pc := 247) C 0 dL_law_247 rfl ?_
        refine ww_iload_n (pc := 248) C 3 dL_law_248 rfl ?_
        refine ww_iconst (pc := 249) (v := (5 : Int32)) C dL_law_249 (by decide) ?_
        refine ww_iadd (pc := 250) C dL_law_250 ?_
        obtain ⟨v26, e25, hf⟩ := xbd hf
        refine ww_sld (pc := 251) C hS e25 dL_law_251 ?_
        obtain ⟨_, e27, hf⟩ := xbd hf
        obtain ⟨⟨v30, σ29⟩, e28, hf⟩ := xbd hf
        dsimp only at hf
        refine ww_callVi (pc := 252) (as := [.int v18, .int v20, .int v22, .int v24, .int v26]) (st := []) C (k_X12_feed (l := gl G) (E := gE G) (hb := gB G) (σ := σ15) e28) rfl (by decide) xc_L_17 q1403 q1404 (xck_spec e27) rfl (by decide) (xst4 (Nat.le_of_ble_eq_true rfl)) (m_X12_feed e28).le (m_X12_feed e28).lim dL_law_252 ?_
        refine ww_pop (pc := 255) C dL_law_255 rfl ?_
        refine ww_goto (pc := 256) (tgt := 1289) C dL_law_256 (by decide) ?_
        refine ww_iinc (pc := 1289) (v := x3 + (6 : Int32)) (lv' := [(3, .int (x3 + (6 : Int32))), (0, .ref b), (1, .ref (gB G + r1)), (2, .ref (gB G + r2))]) C 3 dL_law_1289 rfl (congrArg (fun z => x3 + z) (show Int32.ofInt (6) = (6 : Int32) by decide)) (by decide) rfl ?_
        refine ww_goto (pc := 1292) (tgt := 18) C dL_law_1292 (by decide) ?_
        have hf := xsj hf
        subst hf
        refine ww_sub [1, 2, 3, 0] rfl ?_
        exact (hk.1 (x3 + (6 : Int32), σ29) rfl).2
      · refine ⟨259, 226, rfl, by decide, ?_⟩
        have hf := xsw_in 1 hk1 rfl hf
        refine ww_aload_n (pc := 259) C 1 dL_law_259 rfl ?_
        refine ww_aload_n (pc := 260) C 0 dL_law_260 rfl ?_
        refine ww_iload_n (pc := 261) C 3 dL_law_261 rfl ?_
        refine ww_iconst (pc := 262) (v := (1 : Int32)) C dL_law_262 (by decide) ?_
        refine ww_iadd (pc := 263) C dL_law_263 ?_
        obtain ⟨v4, e3, hf⟩ := xbd hf
        refine ww_sld (pc := 264) C hS e3 dL_law_264 ?_
        obtain ⟨_, e5, hf⟩ := xbd hf
        obtain ⟨⟨v8, σ7⟩, e6, hf⟩ := xbd hf
        dsimp only at hf
        refine ww_callVi (pc := 265) (as := [.int v4]) (st := []) C (k_X11_back (l := gl G) (E := gE G) (hb := gB G) (σ := σ) e6) rfl (by decide) xc_L_18 q450 q451 (xck_spec e5) rfl (by decide) (xst4 (Nat.le_of_ble_eq_true rfl)) (m_X11_back e6).le (m_X11_back e6).lim dL_law_265 ?_
        refine ww_pop (pc := 268) C dL_law_268 rfl ?_
        refine ww_aload_n (pc := 269) C 2 dL_law_269 rfl ?_
        refine ww_aload_n (pc := 270) C 0 dL_law_270 rfl ?_
        refine ww_iload_n (pc := 271) C 3 dL_law_271 rfl ?_
        refine ww_iconst (pc := 272) (v := (1 : Int32)) C dL_law_272 (by decide) ?_
        refine ww_iadd (pc := 273) C dL_law_273 ?_
        obtain ⟨v10, e9, hf⟩ := xbd hf
        refine ww_sld (pc := 274) C hS e9 dL_law_274 ?_
        obtain ⟨_, e11, hf⟩ := xbd hf
        obtain ⟨⟨v14, σ13⟩, e12, hf⟩ := xbd hf
        dsimp only at hf
        refine ww_callVi (pc := 275) (as := [.int v10]) (st := []) C (k_X12_back (l := gl G) (E := gE G) (hb := gB G) (σ := σ7) e12) rfl (by decide) xc_L_22 q1411 q1412 (xck_spec e11) rfl (by decide) (xst4 (Nat.le_of_ble_eq_true rfl)) (m_X12_back e12).le (m_X12_back e12).lim dL_law_275 ?_
        refine ww_pop (pc := 278) C dL_law_278 rfl ?_
        refine ww_goto (pc := 279) (tgt := 1289) C dL_law_279 (by decide) ?_
        refine ww_iinc (pc := 1289) (v := x3 + (6 : Int32)) (lv' := [(3, .int (x3 + (6 : Int32))), (0, .ref b), (1, .ref (gB G + r1)), (2, .ref (gB G + r2))]) C 3 dL_law_1289 rfl (congrArg (fun z => x3 + z) (show Int32.ofInt (6) = (6 : Int32) by decide)) (by decide) rfl ?_
        refine ww_goto (pc := 1292) (tgt := 18) C dL_law_1292 (by decide) ?_
        have hf := xsj hf
        subst hf
        refine ww_sub [1, 2, 3, 0] rfl ?_
        exact (hk.1 (x3 + (6 : Int32), σ13) rfl).2
      · refine ⟨282, 249, rfl, by decide, ?_⟩
        have hf := xsw_in 2 hk1 rfl hf
        refine ww_aload_n (pc := 282) C 1 dL_law_282 rfl ?_
        obtain ⟨_, e3, hf⟩ := xbd hf
        obtain ⟨⟨v6, σ5⟩, e4, hf⟩ := xbd hf
        dsimp only at hf
        refine ww_callVi (pc := 283) (as := []) (st := []) C (k_X11_read (l := gl G) (E := gE G) (hb := gB G) (σ := σ) e4) rfl (by decide) xc_L_23 q454 q455 (xck_spec e3) rfl (by decide) (xst4 (Nat.le_of_ble_eq_true rfl)) (m_X11_read e4).le (m_X11_read e4).lim dL_law_283 ?_
        refine ww_pop (pc := 286) C dL_law_286 rfl ?_
        refine ww_aload_n (pc := 287) C 2 dL_law_287 rfl ?_
        obtain ⟨_, e7, hf⟩ := xbd hf
        obtain ⟨⟨v10, σ9⟩, e8, hf⟩ := xbd hf
        dsimp only at hf
        refine ww_callVi (pc := 288) (as := []) (st := []) C (k_X12_read (l := gl G) (E := gE G) (hb := gB G) (σ := σ5) e8) rfl (by decide) xc_L_27 q1415 q1416 (xck_spec e7) rfl (by decide) (xst4 (Nat.le_of_ble_eq_true rfl)) (m_X12_read e8).le (m_X12_read e8).lim dL_law_288 ?_
        refine ww_pop (pc := 291) C dL_law_291 rfl ?_
        refine ww_goto (pc := 292) (tgt := 1289) C dL_law_292 (by decide) ?_
        refine ww_iinc (pc := 1289) (v := x3 + (6 : Int32)) (lv' := [(3, .int (x3 + (6 : Int32))), (0, .ref b), (1, .ref (gB G + r1)), (2, .ref (gB G + r2))]) C 3 dL_law_1289 rfl (congrArg (fun z => x3 + z) (show Int32.ofInt (6) = (6 : Int32) by decide)) (by decide) rfl ?_
        refine ww_goto (pc := 1292) (tgt := 18) C dL_law_1292 (by decide) ?_
        have hf := xsj hf
        subst hf
        refine ww_sub [1, 2, 3, 0] rfl ?_
        exact (hk.1 (x3 + (6 : Int32), σ9) rfl).2
      · refine ⟨295, 262, rfl, by decide, ?_⟩
        have hf := xsw_in 3 hk1 rfl hf
        refine ww_aload_n (pc := 295) C 1 dL_law_295 rfl ?_
        obtain ⟨_, e3, hf⟩ := xbd hf
        obtain ⟨v5, e4, hf⟩ := xbd hf
        refine ww_callVi (pc := 296) (as := []) (st := []) C (k_X11_place (l := gl G) (E := gE G) (hb := gB G) (σ := σ) e4) rfl (by decide) xc_L_28 q686 q687 (xck_spec e3) rfl (by decide) (xst4 (Nat.le_of_ble_eq_true rfl)) xsame.rf.le xsame.rf.lim dL_law_296 ?_
        refine ww_pop (pc := 299) C dL_law_299 rfl ?_
        refine ww_aload_n (pc := 300) C 2 dL_law_300 rfl ?_
        obtain ⟨_, e6, hf⟩ := xbd hf
        obtain ⟨v8, e7, hf⟩ := xbd hf
        refine ww_callVi (pc := 301) (as := []) (st := []) C (k_X12_place (l := gl G) (E := gE G) (hb := gB G) (σ := σ) e7) rfl (by decide) xc_L_31 q1499 q1500 (xck_spec e6) rfl (by decide) (xst4 (Nat.le_of_ble_eq_true rfl)) xsame.rf.le xsame.rf.lim dL_law_301 ?_
        refine ww_pop (pc := 304) C dL_law_304 rfl ?_
        refine ww_goto (pc := 305) (tgt := 1289) C dL_law_305 (by decide) ?_
        refine ww_iinc (pc := 1289) (v := x3 + (6 : Int32)) (lv' := [(3, .int (x3 + (6 : Int32))), (0, .ref b), (1, .ref (gB G + r1)), (2, .ref (gB G + r2))]) C 3 dL_law_1289 rfl (congrArg (fun z => x3 + z) (show Int32.ofInt (6) = (6 : Int32) by decide)) (by decide) rfl ?_
        refine ww_goto (pc := 1292) (tgt := 18) C dL_law_1292 (by decide) ?_
        have hf := xsj hf
        subst hf
        refine ww_sub [1, 2, 3, 0] rfl ?_
        exact (hk.1 (x3 + (6 : Int32), σ) rfl).2
      · refine ⟨308, 275, rfl, by decide, ?_⟩
        have hf := xsw_in 4 hk1 rfl hf
        refine ww_aload_n (pc := 308) C 1 dL_law_308 rfl ?_
        refine ww_aload_n (pc := 309) C 0 dL_law_309 rfl ?_
        refine ww_iload_n (pc := 310) C 3 dL_law_310 rfl ?_
        refine ww_iconst (pc := 311) (v := (1 : Int32)) C dL_law_311 (by decide) ?_
        refine ww_iadd (pc := 312) C dL_law_312 ?_
        obtain ⟨v4, e3, hf⟩ := xbd hf
        refine ww_sld (pc := 313) C hS e3 dL_law_313 ?_
        refine ww_aload_n (pc := 314) C 0 dL_law_314 rfl ?_
        refine ww_iload_n (pc := 315) C 3 dL_law_315 rfl ?_
        refine ww_iconst (pc := 316) (v := (2 : Int32)) C dL_law_316 (by decide) ?_
        refine ww_iadd (pc := 317) C dL_law_317 ?_
        obtain ⟨v6, e5, hf⟩ := xbd hf
        refine ww_sld (pc := 318) C hS e5 dL_law_318 ?_
        refine ww_if_eq (pc := 319) (tgt := 326) C dL_law_319 (by decide) (fun q => ?_) (fun q => ?_)
        · have hf := xip q hf
          refine ww_iconst (pc := 326) (v := (0 : Int32)) C dL_law_326 (by decide) ?_
          refine ww_sub [0, 1, 2, 3] rfl ?_
          exact s_L_law_j327 C hS hf hk
        · have hf := xin q hf
          refine ww_iconst (pc := 322) (v := (1 : Int32)) C dL_law_322 (by decide) ?_
          refine ww_goto (pc := 323) (tgt := 327) C dL_law_323 (by decide) ?_
          refine ww_sub [0, 1, 2, 3] rfl ?_
          exact s_L_law_j327 C hS hf hk
      · refine ⟨367, 334, rfl, by decide, ?_⟩
        have hf := xsw_in 5 hk1 rfl hf
        refine ww_aload_n (pc := 367) C 1 dL_law_367 rfl ?_
        refine ww_aload_n (pc := 368) C 0 dL_law_368 rfl ?_
        refine ww_iload_n (pc := 369) C 3 dL_law_369 rfl ?_
        refine ww_iconst (pc := 370) (v := (1 : Int32)) C dL_law_370 (by decide) ?_
        refine ww_iadd (pc := 371) C dL_law_371 ?_
        obtain ⟨v4, e3, hf⟩ := xbd hf
        refine ww_sld (pc := 372) C hS e3 dL_law_372 ?_
        refine ww_aload_n (pc := 373) C 0 dL_law_373 rfl ?_
        refine ww_iload_n (pc := 374) C 3 dL_law_374 rfl ?_
        refine ww_iconst (pc := 375) (v := (2 : Int32)) C dL_law_375 (by decide) ?_
        refine ww_iadd (pc := 376) C dL_law_376 ?_
        obtain ⟨v6, e5, hf⟩ := xbd hf
        refine ww_sld (pc := 377) C hS e5 dL_law_377 ?_
        obtain ⟨_, e7, hf⟩ := xbd hf
        obtain ⟨⟨v10, σ9⟩, e8, hf⟩ := xbd hf
        dsimp only at hf
        refine ww_callVi (pc := 378) (as := [.int v4, .int v6]) (st := []) C (k_X11_pull (l := gl G) (E := gE G) (hb := gB G) (σ := σ) e8) rfl (by decide) xc_L_37 q722 q723 (xck_spec e7) rfl (by decide) (xst4 (Nat.le_of_ble_eq_true rfl)) (m_X11_pull e8).le (m_X11_pull e8).lim dL_law_378 ?_
        refine ww_pop (pc := 381) C dL_law_381 rfl ?_
        refine ww_aload_n (pc := 382) C 2 dL_law_382 rfl ?_
        refine ww_aload_n (pc := 383) C 0 dL_law_383 rfl ?_
        refine ww_iload_n (pc := 384) C 3 dL_law_384 rfl ?_
        refine ww_iconst (pc := 385) (v := (1 : Int32)) C dL_law_385 (by decide) ?_
        refine ww_iadd (pc := 386) C dL_law_386 ?_
        obtain ⟨v12, e11, hf⟩ := xbd hf
        refine ww_sld (pc := 387) C hS e11 dL_law_387 ?_
        refine ww_aload_n (pc := 388) C 0 dL_law_388 rfl ?_
        refine ww_iload_n (pc := 389) C 3 dL_law_389 rfl ?_
        refine ww_iconst (pc := 390) (v := (2 : Int32)) C dL_law_390 (by decide) ?_
        refine ww_iadd (pc := 391) C dL_law_391 ?_
        obtain ⟨v14, e13, hf⟩ := xbd hf
        refine ww_sld (pc := 392) C hS e13 dL_law_392 ?_
        obtain ⟨_, e15, hf⟩ := xbd hf
        obtain ⟨⟨v18, σ17⟩, e16, hf⟩ := xbd hf
        dsimp only at hf
        refine ww_callVi (pc := 393) (as := [.int v12, .int v14]) (st := []) C (k_X12_pull (l := gl G) (E := gE G) (hb := gB G) (σ := σ9) e16) rfl (by decide) xc_L_41 q1522 q1523 (xck_spec e15) rfl (by decide) (xst4 (Nat.le_of_ble_eq_true rfl)) (m_X12_pull e16).le (m_X12_pull e16).lim dL_law_393 ?_
        refine ww_pop (pc := 396) C dL_law_396 rfl ?_
        refine ww_goto (pc := 397) (tgt := 1289) C dL_law_397 (by decide) ?_
        refine ww_iinc (pc := 1289) (v := x3 + (6 : Int32)) (lv' := [(3, .int (x3 + (6 : Int32))), (0, .ref b), (1, .ref (gB G + r1)), (2, .ref (gB G + r2))]) C 3 dL_law_1289 rfl (congrArg (fun z => x3 + z) (show Int32.ofInt (6) = (6 : Int32) by decide)) (by decide) rfl ?_
        refine ww_goto (pc := 1292) (tgt := 18) C dL_law_1292 (by decide) ?_
        have hf := xsj hf
        subst hf
        refine ww_sub [1, 2, 3, 0] rfl ?_
        exact (hk.1 (x3 + (6 : Int32), σ17) rfl).2
      · refine ⟨400, 367, rfl, by decide, ?_⟩
        have hf := xsw_in 6 hk1 rfl hf
        refine ww_aload_n (pc := 400) C 1 dL_law_400 rfl ?_
        refine ww_aload_n (pc := 401) C 0 dL_law_401 rfl ?_
        refine ww_iload_n (pc := 402) C 3 dL_law_402 rfl ?_
        refine ww_iconst (pc := 403) (v := (1 : Int32)) C dL_law_403 (by decide) ?_
        refine ww_iadd (pc := 404) C dL_law_404 ?_
        obtain ⟨v4, e3, hf⟩ := xbd hf
        refine ww_sld (pc := 405) C hS e3 dL_law_405 ?_
        refine ww_aload_n (pc := 406) C 0 dL_law_406 rfl ?_
        refine ww_iload_n (pc := 407) C 3 dL_law_407 rfl ?_
        refine ww_iconst (pc := 408) (v := (2 : Int32)) C dL_law_408 (by decide) ?_
        refine ww_iadd (pc := 409) C dL_law_409 ?_
        obtain ⟨v6, e5, hf⟩ := xbd hf
        refine ww_sld (pc := 410) C hS e5 dL_law_410 ?_
        obtain ⟨_, e7, hf⟩ := xbd hf
        obtain ⟨⟨v10, σ9⟩, e8, hf⟩ := xbd hf
        dsimp only at hf
        refine ww_callVi (pc := 411) (as := [.int v4, .int v6]) (st := []) C (k_X11_pin (l := gl G) (E := gE G) (hb := gB G) (σ := σ) e8) rfl (by decide) xc_L_42 q732 q733 (xck_spec e7) rfl (by decide) (xst4 (Nat.le_of_ble_eq_true rfl)) (m_X11_pin e8).le (m_X11_pin e8).lim dL_law_411 ?_
        refine ww_pop (pc := 414) C dL_law_414 rfl ?_
        refine ww_aload_n (pc := 415) C 2 dL_law_415 rfl ?_
        refine ww_aload_n (pc := 416) C 0 dL_law_416 rfl ?_
        refine ww_iload_n (pc := 417) C 3 dL_law_417 rfl ?_
        refine ww_iconst (pc := 418) (v := (1 : Int32)) C dL_law_418 (by decide) ?_
        refine ww_iadd (pc := 419) C dL_law_419 ?_
        obtain ⟨v12, e11, hf⟩ := xbd hf
        refine ww_sld (pc := 420) C hS e11 dL_law_420 ?_
        refine ww_aload_n (pc := 421) C 0 dL_law_421 rfl ?_
        refine ww_iload_n (pc := 422) C 3 dL_law_422 rfl ?_
        refine ww_iconst (pc := 423) (v := (2 : Int32)) C dL_law_423 (by decide) ?_
        refine ww_iadd (pc := 424) C dL_law_424 ?_
        obtain ⟨v14, e13, hf⟩ := xbd hf
        refine ww_sld (pc := 425) C hS e13 dL_law_425 ?_
        obtain ⟨_, e15, hf⟩ := xbd hf
        obtain ⟨⟨v18, σ17⟩, e16, hf⟩ := xbd hf
        dsimp only at hf
        refine ww_callVi (pc := 426) (as := [.int v12, .int v14]) (st := []) C (k_X12_pin (l := gl G) (E := gE G) (hb := gB G) (σ := σ9) e16) rfl (by decide) xc_L_45 q1526 q1527 (xck_spec e15) rfl (by decide) (xst4 (Nat.le_of_ble_eq_true rfl)) (m_X12_pin e16).le (m_X12_pin e16).lim dL_law_426 ?_
        refine ww_pop (pc := 429) C dL_law_429 rfl ?_
        refine ww_goto (pc := 430) (tgt := 1289) C dL_law_430 (by decide) ?_
        refine ww_iinc (pc := 1289) (v := x3 + (6 : Int32)) (lv' := [(3, .int (x3 + (6 : Int32))), (0, .ref b), (1, .ref (gB G + r1)), (2, .ref (gB G + r2))]) C 3 dL_law_1289 rfl (congrArg (fun z => x3 + z) (show Int32.ofInt (6) = (6 : Int32) by decide)) (by decide) rfl ?_
        refine ww_goto (pc := 1292) (tgt := 18) C dL_law_1292 (by decide) ?_
        have hf := xsj hf
        subst hf
        refine ww_sub [1, 2, 3, 0] rfl ?_
        exact (hk.1 (x3 + (6 : Int32), σ17) rfl).2
      · refine ⟨433, 400, rfl, by decide, ?_⟩
        have hf := xsw_in 7 hk1 rfl hf
        refine ww_aload_n (pc := 433) C 1 dL_law_433 rfl ?_
        refine ww_aload_n (pc := 434) C 0 dL_law_434 rfl ?_
        refine ww_iload_n (pc := 435) C 3 dL_law_435 rfl ?_
        refine ww_iconst (pc := 436) (v := (1 : Int32)) C dL_law_436 (by decide) ?_
        refine ww_iadd (pc := 437) C dL_law_437 ?_
        obtain ⟨v4, e3, hf⟩ := xbd hf
        refine ww_sld (pc := 438) C hS e3 dL_law_438 ?_
        obtain ⟨_, e5, hf⟩ := xbd hf
        obtain ⟨⟨v8, σ7⟩, e6, hf⟩ := xbd hf
        dsimp only at hf
        refine ww_callVi (pc := 439) (as := [.int v4]) (st := []) C (k_X11_glass (l := gl G) (E := gE G) (hb := gB G) (σ := σ) e6) rfl (by decide) xc_L_46 q750 q751 (xck_spec e5) rfl (by decide) (xst4 (Nat.le_of_ble_eq_true rfl)) (m_X11_glass e6).le (m_X11_glass e6).lim dL_law_439 ?_
        refine ww_pop (pc := 442) C dL_law_442 rfl ?_
        refine ww_aload_n (pc := 443) C 2 dL_law_443 rfl ?_
        refine ww_aload_n (pc := 444) C 0 dL_law_444 rfl ?_
        refine ww_iload_n (pc := 445) C 3 dL_law_445 rfl ?_
        refine ww_iconst (pc := 446) (v := (1 : Int32)) C dL_law_446 (by decide) ?_
        refine ww_iadd (pc := 447) C dL_law_447 ?_
        obtain ⟨v10, e9, hf⟩ := xbd hf
        refine ww_sld (pc := 448) C hS e9 dL_law_448 ?_
        obtain ⟨_, e11, hf⟩ := xbd hf
        obtain ⟨⟨v14, σ13⟩, e12, hf⟩ := xbd hf
        dsimp only at hf
        refine ww_callVi (pc := 449) (as := [.int v10]) (st := []) C (k_X12_glass (l := gl G) (E := gE G) (hb := gB G) (σ := σ7) e12) rfl (by decide) xc_L_50 q1530 q1531 (xck_spec e11) rfl (by decide) (xst4 (Nat.le_of_ble_eq_true rfl)) (m_X12_glass e12).le (m_X12_glass e12).lim dL_law_449 ?_
        refine ww_pop (pc := 452) C dL_law_452 rfl ?_
        refine ww_goto (pc := 453) (tgt := 1289) C dL_law_453 (by decide) ?_
        refine ww_iinc (pc := 1289) (v := x3 + (6 : Int32)) (lv' := [(3, .int (x3 + (6 : Int32))), (0, .ref b), (1, .ref (gB G + r1)), (2, .ref (gB G + r2))]) C 3 dL_law_1289 rfl (congrArg (fun z => x3 + z) (show Int32.ofInt (6) = (6 : Int32) by decide)) (by decide) rfl ?_
        refine ww_goto (pc := 1292) (tgt := 18) C dL_law_1292 (by decide) ?_
        have hf := xsj hf
        subst hf
        refine ww_sub [1, 2, 3, 0] rfl ?_
        exact (hk.1 (x3 + (6 : Int32), σ13) rfl).2
      · refine ⟨456, 423, rfl, by decide, ?_⟩
        have hf := xsw_in 8 hk1 rfl hf
        refine ww_aload_n (pc := 456) C 1 dL_law_456 rfl ?_
        refine ww_aload_n (pc := 457) C 0 dL_law_457 rfl ?_
        refine ww_iload_n (pc := 458) C 3 dL_law_458 rfl ?_
        refine ww_iconst (pc := 459) (v := (1 : Int32)) C dL_law_459 (by decide) ?_
        refine ww_iadd (pc := 460) C dL_law_460 ?_
        obtain ⟨v4, e3, hf⟩ := xbd hf
        refine ww_sld (pc := 461) C hS e3 dL_law_461 ?_
        obtain ⟨_, e5, hf⟩ := xbd hf
        obtain ⟨⟨v8, σ7⟩, e6, hf⟩ := xbd hf
        dsimp only at hf
        refine ww_callVi (pc := 462) (as := [.int v4]) (st := []) C (k_X11_turn (l := gl G) (E := gE G) (hb := gB G) (σ := σ) e6) rfl (by decide) xc_L_51 q765 q766 (xck_spec e5) rfl (by decide) (xst4 (Nat.le_of_ble_eq_true rfl)) (m_X11_turn e6).le (m_X11_turn e6).lim dL_law_462 ?_
        refine ww_pop (pc := 465) C dL_law_465 rfl ?_
        refine ww_aload_n (pc := 466) C 2 dL_law_466 rfl ?_
        refine ww_aload_n (pc := 467) C 0 dL_law_467 rfl ?_
        refine ww_iload_n (pc := 468) C 3 dL_law_468 rfl ?_
        refine ww_iconst (pc := 469) (v := (1 : Int32)) C dL_law_469 (by decide) ?_
        refine ww_iadd (pc := 470) C dL_law_470 ?_
        obtain ⟨v10, e9, hf⟩ := xbd hf
        refine ww_sld (pc := 471) C hS e9 dL_law_471 ?_
        obtain ⟨_, e11, hf⟩ := xbd hf
        obtain ⟨⟨v14, σ13⟩, e12, hf⟩ := xbd hf
        dsimp only at hf
        refine ww_callVi (pc := 472) (as := [.int v10]) (st := []) C (k_X12_turn (l := gl G) (E := gE G) (hb := gB G) (σ := σ7) e12) rfl (by decide) xc_L_54 q1542 q1543 (xck_spec e11) rfl (by decide) (xst4 (Nat.le_of_ble_eq_true rfl)) (m_X12_turn e12).le (m_X12_turn e12).lim dL_law_472 ?_
        refine ww_pop (pc := 475) C dL_law_475 rfl ?_
        refine ww_goto (pc := 476) (tgt := 1289) C dL_law_476 (by decide) ?_
        refine ww_iinc (pc := 1289) (v := x3 + (6 : Int32)) (lv' := [(3, .int (x3 + (6 : Int32))), (0, .ref b), (1, .ref (gB G + r1)), (2, .ref (gB G + r2))]) C 3 dL_law_1289 rfl (congrArg (fun z => x3 + z) (show Int32.ofInt (6) = (6 : Int32) by decide)) (by decide) rfl ?_
        refine ww_goto (pc := 1292) (tgt := 18) C dL_law_1292 (by decide) ?_
        have hf := xsj hf
        subst hf
        refine ww_sub [1, 2, 3, 0] rfl ?_
        exact (hk.1 (x3 + (6 : Int32), σ13) rfl).2
      · refine ⟨479, 446, rfl, by decide, ?_⟩
        have hf := xsw_in 9 hk1 rfl hf
        refine ww_aload_n (pc := 479) C 1 dL_law_479 rfl ?_
        obtain ⟨_, e3, hf⟩ := xbd hf
        obtain ⟨⟨v6, σ5⟩, e4, hf⟩ := xbd hf
        dsimp only at hf
        refine ww_callVi (pc := 480) (as := []) (st := []) C (k_X11_fall (l := gl G) (E := gE G) (hb := gB G) (σ := σ) e4) rfl (by decide) xc_L_55 q770 q771 (xck_spec e3) rfl (by decide) (xst4 (Nat.le_of_ble_eq_true rfl)) (m_X11_fall e4).le (m_X11_fall e4).lim dL_law_480 ?_
        refine ww_pop (pc := 483) C dL_law_483 rfl ?_
        refine ww_aload_n (pc := 484) C 2 dL_law_484 rfl ?_
        obtain ⟨_, e7, hf⟩ := xbd hf
        obtain ⟨⟨v10, σ9⟩, e8, hf⟩ := xbd hf
        dsimp only at hf
        refine ww_callVi (pc := 485) (as := []) (st := []) C (k_X12_fall (l := gl G) (E := gE G) (hb := gB G) (σ := σ5) e8) rfl (by decide) xc_L_58 q1546 q1547 (xck_spec e7) rfl (by decide) (xst4 (Nat.le_of_ble_eq_true rfl)) (m_X12_fall e8).le (m_X12_fall e8).lim dL_law_485 ?_
        refine ww_pop (pc := 488) C dL_law_488 rfl ?_
        refine ww_goto (pc := 489) (tgt := 1289) C dL_law_489 (by decide) ?_
        refine ww_iinc (pc := 1289) (v := x3 + (6 : Int32)) (lv' := [(3, .int (x3 + (6 : Int32))), (0, .ref b), (1, .ref (gB G + r1)), (2, .ref (gB G + r2))]) C 3 dL_law_1289 rfl (congrArg (fun z => x3 + z) (show Int32.ofInt (6) = (6 : Int32) by decide)) (by decide) rfl ?_
        refine ww_goto (pc := 1292) (tgt := 18) C dL_law_1292 (by decide) ?_
        have hf := xsj hf
        subst hf
        refine ww_sub [1, 2, 3, 0] rfl ?_
        exact (hk.1 (x3 + (6 : Int32), σ9) rfl).2
      · refine ⟨492, 459, rfl, by decide, ?_⟩
        have hf := xsw_in 10 hk1 rfl hf
        refine ww_aload_n (pc := 492) C 1 dL_law_492 rfl ?_
        obtain ⟨_, e3, hf⟩ := xbd hf
        obtain ⟨⟨v6, σ5⟩, e4, hf⟩ := xbd hf
        dsimp only at hf
        refine ww_callVi (pc := 493) (as := []) (st := []) C (k_X11_undo (l := gl G) (E := gE G) (hb := gB G) (σ := σ) e4) rfl (by decide) xc_L_59 q790 q791 (xck_spec e3) rfl (by decide) (xst4 (Nat.le_of_ble_eq_true rfl)) (m_X11_undo e4).le (m_X11_undo e4).lim dL_law_493 ?_
        refine ww_pop (pc := 496) C dL_law_496 rfl ?_
        refine ww_aload_n (pc := 497) C 2 dL_law_497 rfl ?_
        obtain ⟨_, e7, hf⟩ := xbd hf
        obtain ⟨⟨v10, σ9⟩, e8, hf⟩ := xbd hf
        dsimp only at hf
        refine ww_callVi (pc := 498) (as := []) (st := []) C (k_X12_undo (l := gl G) (E := gE G) (hb := gB G) (σ := σ5) e8) rfl (by decide) xc_L_63 q1582 q1583 (xck_spec e7) rfl (by decide) (xst4 (Nat.le_of_ble_eq_true rfl)) (m_X12_undo e8).le (m_X12_undo e8).lim dL_law_498 ?_
        refine ww_pop (pc := 501) C dL_law_501 rfl ?_
        refine ww_goto (pc := 502) (tgt := 1289) C dL_law_502 (by decide) ?_
        refine ww_iinc (pc := 1289) (v := x3 + (6 : Int32)) (lv' := [(3, .int (x3 + (6 : Int32))), (0, .ref b), (1, .ref (gB G + r1)), (2, .ref (gB G + r2))]) C 3 dL_law_1289 rfl (congrArg (fun z => x3 + z) (show Int32.ofInt (6) = (6 : Int32) by decide)) (by decide) rfl ?_
        refine ww_goto (pc := 1292) (tgt := 18) C dL_law_1292 (by decide) ?_
        have hf := xsj hf
        subst hf
        refine ww_sub [1, 2, 3, 0] rfl ?_
        exact (hk.1 (x3 + (6 : Int32), σ9) rfl).2
      · refine ⟨505, 472, rfl, by decide, ?_⟩
        have hf := xsw_in 11 hk1 rfl hf
        refine ww_aload_n (pc := 505) C 1 dL_law_505 rfl ?_
        refine ww_aload_n (pc := 506) C 0 dL_law_506 rfl ?_
        refine ww_iload_n (pc := 507) C 3 dL_law_507 rfl ?_
        refine ww_iconst (pc := 508) (v := (1 : Int32)) C dL_law_508 (by decide) ?_
        refine ww_iadd (pc := 509) C dL_law_509 ?_
        obtain ⟨v4, e3, hf⟩ := xbd hf
        refine ww_sld (pc := 510) C hS e3 dL_law_510 ?_
        refine ww_aload_n (pc := 511) C 0 dL_law_511 rfl ?_
        refine ww_iload_n (pc := 512) C 3 dL_law_512 rfl ?_
        refine ww_iconst (pc := 513) (v := (2 : Int32)) C dL_law_513 (by decide) ?_
        refine ww_iadd (pc := 514) C dL_law_514 ?_
        obtain ⟨v6, e5, hf⟩ := xbd hf
        refine ww_sld (pc := 515) C hS e5 dL_law_515 ?_
        obtain ⟨_, e7, hf⟩ := xbd hf
        obtain ⟨v9, e8, hf⟩ := xbd hf
        refine ww_callVi (pc := 516) (as := [.int v4, .int v6]) (st := []) C (k_X11_site (l := gl G) (E := gE G) (hb := gB G) (σ := σ) e8) rfl (by decide) xc_L_64 q798 q799 (xck_spec e7) rfl (by decide) (xst4 (Nat.le_of_ble_eq_true rfl)) xsame.rf.le xsame.rf.lim dL_law_516 ?_
        refine ww_pop (pc := 519) C dL_law_519 rfl ?_
        refine ww_aload_n (pc := 520) C 2 dL_law_520 rfl ?_
        refine ww_aload_n (pc := 521) C 0 dL_law_521 rfl ?_
        refine ww_iload_n (pc := 522) C 3 dL_law_522 rfl ?_
        refine ww_iconst (pc := 523) (v := (1 : Int32)) C dL_law_523 (by decide) ?_
        refine ww_iadd (pc := 524) C dL_law_524 ?_
        obtain ⟨v11, e10, hf⟩ := xbd hf
        refine ww_sld (pc := 525) C hS e10 dL_law_525 ?_
        refine ww_aload_n (pc := 526) C 0 dL_law_526 rfl ?_
        refine ww_iload_n (pc := 527) C 3 dL_law_527 rfl ?_
        refine ww_iconst (pc := 528) (v := (2 : Int32)) C dL_law_528 (by decide) ?_
        refine ww_iadd (pc := 529) C dL_law_529 ?_
        obtain ⟨v13, e12, hf⟩ := xbd hf
        refine ww_sld (pc := 530) C hS e12 dL_law_530 ?_
        obtain ⟨_, e14, hf⟩ := xbd hf
        obtain ⟨v16, e15, hf⟩ := xbd hf
        refine ww_callVi (pc := 531) (as := [.int v11, .int v13]) (st := []) C (k_X12_site (l := gl G) (E := gE G) (hb := gB G) (σ := σ) e15) rfl (by decide) xc_L_68 q1594 q1595 (xck_spec e14) rfl (by decide) (xst4 (Nat.le_of_ble_eq_true rfl)) xsame.rf.le xsame.rf.lim dL_law_531 ?_
        refine ww_pop (pc := 534) C dL_law_534 rfl ?_
        refine ww_goto (pc := 535) (tgt := 1289) C dL_law_535 (by decide) ?_
        refine ww_iinc (pc := 1289) (v := x3 + (6 : Int32)) (lv' := [(3, .int (x3 + (6 : Int32))), (0, .ref b), (1, .ref (gB G + r1)), (2, .ref (gB G + r2))]) C 3 dL_law_1289 rfl (congrArg (fun z => x3 + z) (show Int32.ofInt (6) = (6 : Int32) by decide)) (by decide) rfl ?_
        refine ww_goto (pc := 1292) (tgt := 18) C dL_law_1292 (by decide) ?_
        have hf := xsj hf
        subst hf
        refine ww_sub [1, 2, 3, 0] rfl ?_
        exact (hk.1 (x3 + (6 : Int32), σ) rfl).2
      · refine ⟨538, 505, rfl, by decide, ?_⟩
        have hf := xsw_in 12 hk1 rfl hf
        refine ww_aload_n (pc := 538) C 1 dL_law_538 rfl ?_
        refine ww_aload_n (pc := 539) C 0 dL_law_539 rfl ?_
        refine ww_iload_n (pc := 540) C 3 dL_law_540 rfl ?_
        refine ww_iconst (pc := 541) (v := (1 : Int32)) C dL_law_541 (by decide) ?_
        refine ww_iadd (pc := 542) C dL_law_542 ?_
        obtain ⟨v4, e3, hf⟩ := xbd hf
        refine ww_sld (pc := 543) C hS e3 dL_law_543 ?_
        refine ww_aload_n (pc := 544) C 0 dL_law_544 rfl ?_
        refine ww_iload_n (pc := 545) C 3 dL_law_545 rfl ?_
        refine ww_iconst (pc := 546) (v := (2 : Int32)) C dL_law_546 (by decide) ?_
        refine ww_iadd (pc := 547) C dL_law_547 ?_
        obtain ⟨v6, e5, hf⟩ := xbd hf
        refine ww_sld (pc := 548) C hS e5 dL_law_548 ?_
        obtain ⟨_, e7, hf⟩ := xbd hf
        obtain ⟨⟨v10, σ9⟩, e8, hf⟩ := xbd hf
        dsimp only at hf
        refine ww_callVi (pc := 549) (as := [.int v4, .int v6]) (st := []) C (k_X11_level (l := gl G) (E := gE G) (hb := gB G) (σ := σ) e8) rfl (by decide) xc_L_69 q841 q842 (xck_spec e7) rfl (by decide) (xst4 (Nat.le_of_ble_eq_true rfl)) (m_X11_level e8).1 (fun q => by have hm9 := m_L_law_j552 hf; rcases y with a' | b90; exact XLim.mid q (m_X11_level e8) (hm9.1 a' rfl) (hk.1 a' rfl).1; have hm9 := hm9.2 _ rfl; have hk := hk.2 _ rfl; exact XLim.mid q (m_X11_level e8) hm9 hk.2.1) dL_law_549 ?_
        refine ww_sub [0, 1, 2, 3] rfl ?_
        exact s_L_law_j552 C hS hf hk
      · refine ⟨571, 538, rfl, by decide, ?_⟩
        have hf := xsw_in 13 hk1 rfl hf
        refine ww_aload_n (pc := 571) C 1 dL_law_571 rfl ?_
        refine ww_aload_n (pc := 572) C 0 dL_law_572 rfl ?_
        refine ww_iload_n (pc := 573) C 3 dL_law_573 rfl ?_
        refine ww_iconst (pc := 574) (v := (1 : Int32)) C dL_law_574 (by decide) ?_
        refine ww_iadd (pc := 575) C dL_law_575 ?_
        obtain ⟨v4, e3, hf⟩ := xbd hf
        refine ww_sld (pc := 576) C hS e3 dL_law_576 ?_
        refine ww_aload_n (pc := 577) C 0 dL_law_577 rfl ?_
        refine ww_iload_n (pc := 578) C 3 dL_law_578 rfl ?_
        refine ww_iconst (pc := 579) (v := (2 : Int32)) C dL_law_579 (by decide) ?_
        refine ww_iadd (pc := 580) C dL_law_580 ?_
        obtain ⟨v6, e5, hf⟩ := xbd hf
        refine ww_sld (pc := 581) C hS e5 dL_law_581 ?_
        obtain ⟨_, e7, hf⟩ := xbd hf
        obtain ⟨⟨v10, σ9⟩, e8, hf⟩ := xbd hf
        dsimp only at hf
        refine ww_callVi (pc := 582) (as := [.int v4, .int v6]) (st := []) C (k_X11_both (l := gl G) (E := gE G) (hb := gB G) (σ := σ) e8) rfl (by decide) xc_L_73 q929 q930 (xck_spec e7) rfl (by decide) (xst4 (Nat.le_of_ble_eq_true rfl)) (m_X11_both e8).1 (fun q => by have hm9 := m_L_law_j585 hf; rcases y with a' | b90; exact XLim.mid q (m_X11_both e8) (hm9.1 a' rfl) (hk.1 a' rfl).1; have hm9 := hm9.2 _ rfl; have hk := hk.2 _ rfl; exact XLim.mid q (m_X11_both e8) hm9 hk.2.1) dL_law_582 ?_
        refine ww_sub [0, 1, 2, 3] rfl ?_
        exact s_L_law_j585 C hS hf hk
      · refine ⟨604, 571, rfl, by decide, ?_⟩
        have hf := xsw_in 14 hk1 rfl hf
        refine ww_aload_n (pc := 604) C 1 dL_law_604 rfl ?_
        refine ww_aload_n (pc := 605) C 0 dL_law_605 rfl ?_
        refine ww_iload_n (pc := 606) C 3 dL_law_606 rfl ?_
        refine ww_iconst (pc := 607) (v := (1 : Int32)) C dL_law_607 (by decide) ?_
        refine ww_iadd (pc := 608) C dL_law_608 ?_
        obtain ⟨v4, e3, hf⟩ := xbd hf
        refine ww_sld (pc := 609) C hS e3 dL_law_609 ?_
        obtain ⟨_, e5, hf⟩ := xbd hf
        obtain ⟨⟨v8, σ7⟩, e6, hf⟩ := xbd hf
        dsimp only at hf
        refine ww_callVi (pc := 610) (as := [.int v4]) (st := []) C (k_X11_broken (l := gl G) (E := gE G) (hb := gB G) (σ := σ) e6) rfl (by decide) xc_L_77 q934 q935 (xck_spec e5) rfl (by decide) (xst4 (Nat.le_of_ble_eq_true rfl)) (m_X11_broken e6).1 (fun q => by have hm9 := m_L_law_j613 hf; rcases y with a' | b90; exact XLim.mid q (m_X11_broken e6) (hm9.1 a' rfl) (hk.1 a' rfl).1; have hm9 := hm9.2 _ rfl; have hk := hk.2 _ rfl; exact XLim.mid q (m_X11_broken e6) hm9 hk.2.1) dL_law_610 ?_
        refine ww_sub [0, 1, 2, 3] rfl ?_
        exact s_L_law_j613 C hS hf hk
      · refine ⟨627, 594, rfl, by decide, ?_⟩
        have hf := xsw_in 15 hk1 rfl hf
        refine ww_aload_n (pc := 627) C 1 dL_law_627 rfl ?_
        refine ww_aload_n (pc := 628) C 0 dL_law_628 rfl ?_
        refine ww_iload_n (pc := 629) C 3 dL_law_629 rfl ?_
        refine ww_iconst (pc := 630) (v := (1 : Int32)) C dL_law_630 (by decide) ?_
        refine ww_iadd (pc := 631) C dL_law_631 ?_
        obtain ⟨v4, e3, hf⟩ := xbd hf
        refine ww_sld (pc := 632) C hS e3 dL_law_632 ?_
        obtain ⟨_, e5, hf⟩ := xbd hf
        obtain ⟨⟨v8, σ7⟩, e6, hf⟩ := xbd hf
        dsimp only at hf
        refine ww_callVi (pc := 633) (as := [.int v4]) (st := []) C (k_X11_ground (l := gl G) (E := gE G) (hb := gB G) (σ := σ) e6) rfl (by decide) xc_L_81 q963 q964 (xck_spec e5) rfl (by decide) (xst4 (Nat.le_of_ble_eq_true rfl)) (m_X11_ground e6).1 (fun q => by have hm9 := m_L_law_j636 hf; rcases y with a' | b90; exact XLim.mid q (m_X11_ground e6) (hm9.1 a' rfl) (hk.1 a' rfl).1; have hm9 := hm9.2 _ rfl; have hk := hk.2 _ rfl; exact XLim.mid q (m_X11_ground e6) hm9 hk.2.1) dL_law_633 ?_
        refine ww_sub [0, 1, 2, 3] rfl ?_
        exact s_L_law_j636 C hS hf hk
      · refine ⟨650, 617, rfl, by decide, ?_⟩
        have hf := xsw_in 16 hk1 rfl hf
        refine ww_aload_n (pc := 650) C 1 dL_law_650 rfl ?_
        refine ww_aload_n (pc := 651) C 0 dL_law_651 rfl ?_
        refine ww_iload_n (pc := 652) C 3 dL_law_652 rfl ?_
        refine ww_iconst (pc := 653) (v := (1 : Int32)) C dL_law_653 (by decide) ?_
        refine ww_iadd (pc := 654) C dL_law_654 ?_
        obtain ⟨v4, e3, hf⟩ := xbd hf
        refine ww_sld (pc := 655) C hS e3 dL_law_655 ?_
        refine ww_aload_n (pc := 656) C 0 dL_law_656 rfl ?_
        refine ww_iload_n (pc := 657) C 3 dL_law_657 rfl ?_
        refine ww_iconst (pc := 658) (v := (2 : Int32)) C dL_law_658 (by decide) ?_
        refine ww_iadd (pc := 659) C dL_law_659 ?_
        obtain ⟨v6, e5, hf⟩ := xbd hf
        refine ww_sld (pc := 660) C hS e5 dL_law_660 ?_
        refine ww_aload_n (pc := 661) C 0 dL_law_661 rfl ?_
        refine ww_iload_n (pc := 662) C 3 dL_law_662 rfl ?_
        refine ww_iconst (pc := 663) (v := (3 : Int32)) C dL_law_663 (by decide) ?_
        refine ww_iadd (pc := 664) C dL_law_664 ?_
        obtain ⟨v8, e7, hf⟩ := xbd hf
        refine ww_sld (pc := 665) C hS e7 dL_law_665 ?_
        refine ww_aload_n (pc := 666) C 0 dL_law_666 rfl ?_
        refine ww_iload_n (pc := 667) C 3 dL_law_667 rfl ?_
        refine ww_iconst (pc := 668) (v := (4 : Int32)) C dL_law_668 (by decide) ?_
        refine ww_iadd (pc := 669) C dL_law_669 ?_
        obtain ⟨v10, e9, hf⟩ := xbd hf
        refine ww_sld (pc := 670) C hS e9 dL_law_670 ?_
        obtain ⟨_, e11, hf⟩ := xbd hf
        obtain ⟨⟨v14, σ13⟩, e12, hf⟩ := xbd hf
        dsimp only at hf
        refine ww_callVi (pc := 671) (as := [.int v4, .int v6, .int v8, .int v10]) (st := []) C (k_X11_pair (l := gl G) (E := gE G) (hb := gB G) (σ := σ) e12) rfl (by decide) xc_L_85 q967 q968 (xck_spec e11) rfl (by decide) (xst4 (Nat.le_of_ble_eq_true rfl)) (m_X11_pair e12).1 (fun q => by have hm9 := m_L_law_j674 hf; rcases y with a' | b90; exact XLim.mid q (m_X11_pair e12) (hm9.1 a' rfl) (hk.1 a' rfl).1; have hm9 := hm9.2 _ rfl; have hk := hk.2 _ rfl; exact XLim.mid q (m_X11_pair e12) hm9 hk.2.1) dL_law_671 ?_
        refine ww_sub [0, 1, 2, 3] rfl ?_
        exact s_L_law_j674 C hS hf hk
      · refine ⟨703, 670, rfl, by decide, ?_⟩
        have hf := xsw_in 17 hk1 rfl hf
        refine ww_aload_n (pc := 703) C 1 dL_law_703 rfl ?_
        refine ww_aload_n (pc := 704) C 0 dL_law_704 rfl ?_
        refine ww_iload_n (pc := 705) C 3 dL_law_705 rfl ?_
        refine ww_iconst (pc := 706) (v := (1 : Int32)) C dL_law_706 (by decide) ?_
        refine ww_iadd (pc := 707) C dL_law_707 ?_
        obtain ⟨v4, e3, hf⟩ := xbd hf
        refine ww_sld (pc := 708) C hS e3 dL_law_708 ?_
        refine ww_aload_n (pc := 709) C 0 dL_law_709 rfl ?_
        refine ww_iload_n (pc := 710) C 3 dL_law_710 rfl ?_
        refine ww_iconst (pc := 711) (v := (2 : Int32)) C dL_law_711 (by decide) ?_
        refine ww_iadd (pc := 712) C dL_law_712 ?_
        obtain ⟨v6, e5, hf⟩ := xbd hf
        refine ww_sld (pc := 713) C hS e5 dL_law_713 ?_
        obtain ⟨_, e7, hf⟩ := xbd hf
        obtain ⟨⟨v10, σ9⟩, e8, hf⟩ := xbd hf
        dsimp only at hf
        refine ww_callVi (pc := 714) (as := [.int v4, .int v6]) (st := []) C (k_X11_mean (l := gl G) (E := gE G) (hb := gB G) (σ := σ) e8) rfl (by decide) xc_L_90 q984 q985 (xck_spec e7) rfl (by decide) (xst4 (Nat.le_of_ble_eq_true rfl)) (m_X11_mean e8).1 (fun q => by have hm9 := m_L_law_j717 hf; rcases y with a' | b90; exact XLim.mid q (m_X11_mean e8) (hm9.1 a' rfl) (hk.1 a' rfl).1; have hm9 := hm9.2 _ rfl; have hk := hk.2 _ rfl; exact XLim.mid q (m_X11_mean e8) hm9 hk.2.1) dL_law_714 ?_
        refine ww_sub [0, 1, 2, 3] rfl ?_
        exact s_L_law_j717 C hS hf hk
      · refine ⟨736, 703, rfl, by decide, ?_⟩
        have hf := xsw_in 18 hk1 rfl hf
        refine ww_aload_n (pc := 736) C 1 dL_law_736 rfl ?_
        refine ww_aload_n (pc := 737) C 0 dL_law_737 rfl ?_
        refine ww_iload_n (pc := 738) C 3 dL_law_738 rfl ?_
        refine ww_iconst (pc := 739) (v := (1 : Int32)) C dL_law_739 (by decide) ?_
        refine ww_iadd (pc := 740) C dL_law_740 ?_
        obtain ⟨v4, e3, hf⟩ := xbd hf
        refine ww_sld (pc := 741) C hS e3 dL_law_741 ?_
        obtain ⟨_, e5, hf⟩ := xbd hf
        obtain ⟨⟨v8, σ7⟩, e6, hf⟩ := xbd hf
        dsimp only at hf
        refine ww_callVi (pc := 742) (as := [.int v4]) (st := []) C (k_X11_value (l := gl G) (E := gE G) (hb := gB G) (σ := σ) e6) rfl (by decide) xc_L_94 q992 q993 (xck_spec e5) rfl (by decide) (xst4 (Nat.le_of_ble_eq_true rfl)) (m_X11_value e6).1 (fun q => by have hm9 := m_L_law_j745 hf; rcases y with a' | b90; exact XLim.mid q (m_X11_value e6) (hm9.1 a' rfl) (hk.1 a' rfl).1; have hm9 := hm9.2 _ rfl; have hk := hk.2 _ rfl; exact XLim.mid q (m_X11_value e6) hm9 hk.2.1) dL_law_742 ?_
        refine ww_sub [0, 1, 2, 3] rfl ?_
        exact s_L_law_j745 C hS hf hk
      · refine ⟨759, 726, rfl, by decide, ?_⟩
        have hf := xsw_in 19 hk1 rfl hf
        refine ww_aload_n (pc := 759) C 1 dL_law_759 rfl ?_
        refine ww_aload_n (pc := 760) C 0 dL_law_760 rfl ?_
        refine ww_iload_n (pc := 761) C 3 dL_law_761 rfl ?_
        refine ww_iconst (pc := 762) (v := (1 : Int32)) C dL_law_762 (by decide) ?_
        refine ww_iadd (pc := 763) C dL_law_763 ?_
        obtain ⟨v4, e3, hf⟩ := xbd hf
        refine ww_sld (pc := 764) C hS e3 dL_law_764 ?_
        refine ww_aload_n (pc := 765) C 0 dL_law_765 rfl ?_
        refine ww_iload_n (pc := 766) C 3 dL_law_766 rfl ?_
        refine ww_iconst (pc := 767) (v := (2 : Int32)) C dL_law_767 (by decide) ?_
        refine ww_iadd (pc := 768) C dL_law_768 ?_
        obtain ⟨v6, e5, hf⟩ := xbd hf
        refine ww_sld (pc := 769) C hS e5 dL_law_769 ?_
        refine ww_aload_n (pc := 770) C 0 dL_law_770 rfl ?_
        refine ww_iload_n (pc := 771) C 3 dL_law_771 rfl ?_
        refine ww_iconst (pc := 772) (v := (3 : Int32)) C dL_law_772 (by decide) ?_
        refine ww_iadd (pc := 773) C dL_law_773 ?_
        obtain ⟨v8, e7, hf⟩ := xbd hf
        refine ww_sld (pc := 774) C hS e7 dL_law_774 ?_
        obtain ⟨_, e9, hf⟩ := xbd hf
        obtain ⟨⟨v12, σ11⟩, e10, hf⟩ := xbd hf
        dsimp only at hf
        refine ww_callVj (pc := 775) (as := [.int v4, .int v6, .int v8]) (st := []) C (k_X11_joined (l := gl G) (E := gE G) (hb := gB G) (σ := σ) e10) rfl (by decide) xc_L_98 q998 q999 (xck_spec e9) rfl (by decide) (xst4 (Nat.le_of_ble_eq_true rfl)) (m_X11_joined e10).1 (fun q => by have hm9 := m_L_law_j778 hf; rcases y with a' | b90; exact XLim.mid q (m_X11_joined e10) (hm9.1 a' rfl) (hk.1 a' rfl).1; have hm9 := hm9.2 _ rfl; have hk := hk.2 _ rfl; exact XLim.mid q (m_X11_joined e10) hm9 hk.2.1) dL_law_775 ?_
        refine ww_sub [0, 1, 2, 3] rfl ?_
        exact s_L_law_j778 C hS hf hk
      · refine ⟨802, 769, rfl, by decide, ?_⟩
        have hf := xsw_in 20 hk1 rfl hf
        refine ww_aload_n (pc := 802) C 1 dL_law_802 rfl ?_
        refine ww_aload_n (pc := 803) C 0 dL_law_803 rfl ?_
        refine ww_iload_n (pc := 804) C 3 dL_law_804 rfl ?_
        refine ww_iconst (pc := 805) (v := (1 : Int32)) C dL_law_805 (by decide) ?_
        refine ww_iadd (pc := 806) C dL_law_806 ?_
        obtain ⟨v4, e3, hf⟩ := xbd hf
        refine ww_sld (pc := 807) C hS e3 dL_law_807 ?_
        refine ww_aload_n (pc := 808) C 0 dL_law_808 rfl ?_
        refine ww_iload_n (pc := 809) C 3 dL_law_809 rfl ?_
        refine ww_iconst (pc := 810) (v := (2 : Int32)) C dL_law_810 (by decide) ?_
        refine ww_iadd (pc := 811) C dL_law_811 ?_
        obtain ⟨v6, e5, hf⟩ := xbd hf
        refine ww_sld (pc := 812) C hS e5 dL_law_812 ?_
        obtain ⟨_, e7, hf⟩ := xbd hf
        obtain ⟨⟨v10, σ9⟩, e8, hf⟩ := xbd hf
        dsimp only at hf
        refine ww_callVi (pc := 813) (as := [.int v4, .int v6]) (st := []) C (k_X11_state (l := gl G) (E := gE G) (hb := gB G) (σ := σ) e8) rfl (by decide) xc_L_103 q1062 q1063 (xck_spec e7) rfl (by decide) (xst4 (Nat.le_of_ble_eq_true rfl)) (m_X11_state e8).1 (fun q => by have hm9 := m_L_law_j816 hf; rcases y with a' | b90; exact XLim.mid q (m_X11_state e8) (hm9.1 a' rfl) (hk.1 a' rfl).1; have hm9 := hm9.2 _ rfl; have hk := hk.2 _ rfl; exact XLim.mid q (m_X11_state e8) hm9 hk.2.1) dL_law_813 ?_
        refine ww_sub [0, 1, 2, 3] rfl ?_
        exact s_L_law_j816 C hS hf hk
      · refine ⟨835, 802, rfl, by decide, ?_⟩
        have hf := xsw_in 21 hk1 rfl hf
        refine ww_aload_n (pc := 835) C 1 dL_law_835 rfl ?_
        refine ww_aload_n (pc := 836) C 0 dL_law_836 rfl ?_
        refine ww_iload_n (pc := 837) C 3 dL_law_837 rfl ?_
        refine ww_iconst (pc := 838) (v := (1 : Int32)) C dL_law_838 (by decide) ?_
        refine ww_iadd (pc := 839) C dL_law_839 ?_
        obtain ⟨v4, e3, hf⟩ := xbd hf
        refine ww_sld (pc := 840) C hS e3 dL_law_840 ?_
        refine ww_if_eq (pc := 841) (tgt := 848) C dL_law_841 (by decide) (fun q => ?_) (fun q => ?_)
        · have hf := xip q hf
          refine ww_iconst (pc := 848) (v := (0 : Int32)) C dL_law_848 (by decide) ?_
          refine ww_sub [0, 1, 2, 3] rfl ?_
          exact s_L_law_j849 C hS hf hk
        · have hf := xin q hf
          refine ww_iconst (pc := 844) (v := (1 : Int32)) C dL_law_844 (by decide) ?_
          refine ww_goto (pc := 845) (tgt := 849) C dL_law_845 (by decide) ?_
          refine ww_sub [0, 1, 2, 3] rfl ?_
          exact s_L_law_j849 C hS hf hk
      · refine ⟨874, 841, rfl, by decide, ?_⟩
        have hf := xsw_in 22 hk1 rfl hf
        refine ww_aload_n (pc := 874) C 1 dL_law_874 rfl ?_
        refine ww_aload_n (pc := 875) C 0 dL_law_875 rfl ?_
        refine ww_iload_n (pc := 876) C 3 dL_law_876 rfl ?_
        refine ww_iconst (pc := 877) (v := (1 : Int32)) C dL_law_877 (by decide) ?_
        refine ww_iadd (pc := 878) C dL_law_878 ?_
        obtain ⟨v4, e3, hf⟩ := xbd hf
        refine ww_sld (pc := 879) C hS e3 dL_law_879 ?_
        refine ww_aload_n (pc := 880) C 0 dL_law_880 rfl ?_
        refine ww_iload_n (pc := 881) C 3 dL_law_881 rfl ?_
        refine ww_iconst (pc := 882) (v := (2 : Int32)) C dL_law_882 (by decide) ?_
        refine ww_iadd (pc := 883) C dL_law_883 ?_
        obtain ⟨v6, e5, hf⟩ := xbd hf
        refine ww_sld (pc := 884) C hS e5 dL_law_884 ?_
        refine ww_aload_n (pc := 885) C 0 dL_law_885 rfl ?_
        refine ww_iload_n (pc := 886) C 3 dL_law_886 rfl ?_
        refine ww_iconst (pc := 887) (v := (3 : Int32)) C dL_law_887 (by decide) ?_
        refine ww_iadd (pc := 888) C dL_law_888 ?_
        obtain ⟨v8, e7, hf⟩ := xbd hf
        refine ww_sld (pc := 889) C hS e7 dL_law_889 ?_
        obtain ⟨_, e9, hf⟩ := xbd hf
        obtain ⟨⟨v12, σ11⟩, e10, hf⟩ := xbd hf
        dsimp only at hf
        refine ww_callVi (pc := 890) (as := [.int v4, .int v6, .int v8]) (st := []) C (k_X11_rows (l := gl G) (E := gE G) (hb := gB G) (σ := σ) e10) rfl (by decide) xc_L_112 q1040 q1041 (xck_spec e9) rfl (by decide) (xst4 (Nat.le_of_ble_eq_true rfl)) (m_X11_rows e10).1 (fun q => by have hm9 := m_L_law_j893 hf; rcases y with a' | b90; exact XLim.mid q (m_X11_rows e10) (hm9.1 a' rfl) (hk.1 a' rfl).1; have hm9 := hm9.2 _ rfl; have hk := hk.2 _ rfl; exact XLim.mid q (m_X11_rows e10) hm9 hk.2.1) dL_law_890 ?_
        refine ww_sub [0, 1, 2, 3] rfl ?_
        exact s_L_law_j893 C hS hf hk
      · refine ⟨917, 884, rfl, by decide, ?_⟩
        have hf := xsw_in 23 hk1 rfl hf
        refine ww_aload_n (pc := 917) C 1 dL_law_917 rfl ?_
        refine ww_aload_n (pc := 918) C 0 dL_law_918 rfl ?_
        refine ww_iload_n (pc := 919) C 3 dL_law_919 rfl ?_
        refine ww_iconst (pc := 920) (v := (1 : Int32)) C dL_law_920 (by decide) ?_
        refine ww_iadd (pc := 921) C dL_law_921 ?_
        obtain ⟨v4, e3, hf⟩ := xbd hf
        refine ww_sld (pc := 922) C hS e3 dL_law_922 ?_
        obtain ⟨_, e5, hf⟩ := xbd hf
        obtain ⟨v7, e6, hf⟩ := xbd hf
        refine ww_callVi (pc := 923) (as := [.int v4]) (st := []) C (k_X11_square (l := gl G) (E := gE G) (hb := gB G) (σ := σ) e6) rfl (by decide) xc_L_117 q817 q818 (xck_spec e5) rfl (by decide) (xst4 (Nat.le_of_ble_eq_true rfl)) xsame.rf.le xsame.rf.lim dL_law_923 ?_
        refine ww_pop (pc := 926) C dL_law_926 rfl ?_
        refine ww_aload_n (pc := 927) C 2 dL_law_927 rfl ?_
        refine ww_aload_n (pc := 928) C 0 dL_law_928 rfl ?_
        refine ww_iload_n (pc := 929) C 3 dL_law_929 rfl ?_
        refine ww_iconst (pc := 930) (v := (1 : Int32)) C dL_law_930 (by decide) ?_
        refine ww_iadd (pc := 931) C dL_law_931 ?_
        obtain ⟨v9, e8, hf⟩ := xbd hf
        refine ww_sld (pc := 932) C hS e8 dL_law_932 ?_
        obtain ⟨_, e10, hf⟩ := xbd hf
        obtain ⟨v12, e11, hf⟩ := xbd hf
        refine ww_callVi (pc := 933) (as := [.int v9]) (st := []) C (k_X12_square (l := gl G) (E := gE G) (hb := gB G) (σ := σ) e11) rfl (by decide) xc_L_120 q1715 q1716 (xck_spec e10) rfl (by decide) (xst4 (Nat.le_of_ble_eq_true rfl)) xsame.rf.le xsame.rf.lim dL_law_933 ?_
        refine ww_pop (pc := 936) C dL_law_936 rfl ?_
        refine ww_goto (pc := 937) (tgt := 1289) C dL_law_937 (by decide) ?_
        refine ww_iinc (pc := 1289) (v := x3 + (6 : Int32)) (lv' := [(3, .int (x3 + (6 : Int32))), (0, .ref b), (1, .ref (gB G + r1)), (2, .ref (gB G + r2))]) C 3 dL_law_1289 rfl (congrArg (fun z => x3 + z) (show Int32.ofInt (6) = (6 : Int32) by decide)) (by decide) rfl ?_
        refine ww_goto (pc := 1292) (tgt := 18) C dL_law_1292 (by decide) ?_
        have hf := xsj hf
        subst hf
        refine ww_sub [1, 2, 3, 0] rfl ?_
        exact (hk.1 (x3 + (6 : Int32), σ) rfl).2
      · refine ⟨940, 907, rfl, by decide, ?_⟩
        have hf := xsw_in 24 hk1 rfl hf
        refine ww_aload_n (pc := 940) C 1 dL_law_940 rfl ?_
        refine ww_aload_n (pc := 941) C 0 dL_law_941 rfl ?_
        refine ww_iload_n (pc := 942) C 3 dL_law_942 rfl ?_
        refine ww_iconst (pc := 943) (v := (1 : Int32)) C dL_law_943 (by decide) ?_
        refine ww_iadd (pc := 944) C dL_law_944 ?_
        obtain ⟨v4, e3, hf⟩ := xbd hf
        refine ww_sld (pc := 945) C hS e3 dL_law_945 ?_
        obtain ⟨_, e5, hf⟩ := xbd hf
        obtain ⟨⟨v8, σ7⟩, e6, hf⟩ := xbd hf
        dsimp only at hf
        refine ww_callVi (pc := 946) (as := [.int v4]) (st := []) C (k_X11_overlap (l := gl G) (E := gE G) (hb := gB G) (σ := σ) e6) rfl (by decide) xc_L_121 q1048 q1049 (xck_spec e5) rfl (by decide) (xst4 (Nat.le_of_ble_eq_true rfl)) (m_X11_overlap e6).1 (fun q => by have hm9 := m_L_law_j949 hf; rcases y with a' | b90; exact XLim.mid q (m_X11_overlap e6) (hm9.1 a' rfl) (hk.1 a' rfl).1; have hm9 := hm9.2 _ rfl; have hk := hk.2 _ rfl; exact XLim.mid q (m_X11_overlap e6) hm9 hk.2.1) dL_law_946 ?_
        refine ww_sub [0, 1, 2, 3] rfl ?_
        exact s_L_law_j949 C hS hf hk
      · refine ⟨963, 930, rfl, by decide, ?_⟩
        have hf := xsw_in 25 hk1 rfl hf
        refine ww_aload_n (pc := 963) C 1 dL_law_963 rfl ?_
        refine ww_aload_n (pc := 964) C 0 dL_law_964 rfl ?_
        refine ww_iload_n (pc := 965) C 3 dL_law_965 rfl ?_
        refine ww_iconst (pc := 966) (v := (1 : Int32)) C dL_law_966 (by decide) ?_
        refine ww_iadd (pc := 967) C dL_law_967 ?_
        obtain ⟨v4, e3, hf⟩ := xbd hf
        refine ww_sld (pc := 968) C hS e3 dL_law_968 ?_
        obtain ⟨_, e5, hf⟩ := xbd hf
        obtain ⟨⟨v8, σ7⟩, e6, hf⟩ := xbd hf
        dsimp only at hf
        refine ww_callVi (pc := 969) (as := [.int v4]) (st := []) C (k_X11_basin (l := gl G) (E := gE G) (hb := gB G) (σ := σ) e6) rfl (by decide) xc_L_125 q1105 q1106 (xck_spec e5) rfl (by decide) (xst4 (Nat.le_of_ble_eq_true rfl)) (m_X11_basin e6).1 (fun q => by have hm9 := m_L_law_j972 hf; rcases y with a' | b90; exact XLim.mid q (m_X11_basin e6) (hm9.1 a' rfl) (hk.1 a' rfl).1; have hm9 := hm9.2 _ rfl; have hk := hk.2 _ rfl; exact XLim.mid q (m_X11_basin e6) hm9 hk.2.1) dL_law_969 ?_
        refine ww_sub [0, 1, 2, 3] rfl ?_
        exact s_L_law_j972 C hS hf hk
      · refine ⟨986, 953, rfl, by decide, ?_⟩
        have hf := xsw_in 26 hk1 rfl hf
        refine ww_aload_n (pc := 986) C 1 dL_law_986 rfl ?_
        refine ww_aload_n (pc := 987) C 0 dL_law_987 rfl ?_
        refine ww_iload_n (pc := 988) C 3 dL_law_988 rfl ?_
        refine ww_iconst (pc := 989) (v := (1 : Int32)) C dL_law_989 (by decide) ?_
        refine ww_iadd (pc := 990) C dL_law_990 ?_
        obtain ⟨v4, e3, hf⟩ := xbd hf
        refine ww_sld (pc := 991) C hS e3 dL_law_991 ?_
        refine ww_aload_n (pc := 992) C 0 dL_law_992 rfl ?_
        refine ww_iload_n (pc := 993) C 3 dL_law_993 rfl ?_
        refine ww_iconst (pc := 994) (v := (2 : Int32)) C dL_law_994 (by decide) ?_
        refine ww_iadd (pc := 995) C dL_law_995 ?_
        obtain ⟨v6, e5, hf⟩ := xbd hf
        refine ww_sld (pc := 996) C hS e5 dL_law_996 ?_
        obtain ⟨_, e7, hf⟩ := xbd hf
        obtain ⟨⟨v10, σ9⟩, e8, hf⟩ := xbd hf
        dsimp only at hf
        refine ww_callVi (pc := 997) (as := [.int v4, .int v6]) (st := []) C (k_X11_stiff (l := gl G) (E := gE G) (hb := gB G) (σ := σ) e8) rfl (by decide) xc_L_129 q1057 q1058 (xck_spec e7) rfl (by decide) (xst4 (Nat.le_of_ble_eq_true rfl)) (m_X11_stiff e8).1 (fun q => by have hm9 := m_L_law_j1000 hf; rcases y with a' | b90; exact XLim.mid q (m_X11_stiff e8) (hm9.1 a' rfl) (hk.1 a' rfl).1; have hm9 := hm9.2 _ rfl; have hk := hk.2 _ rfl; exact XLim.mid q (m_X11_stiff e8) hm9 hk.2.1) dL_law_997 ?_
        refine ww_sub [0, 1, 2, 3] rfl ?_
        exact s_L_law_j1000 C hS hf hk
      · refine ⟨1019, 986, rfl, by decide, ?_⟩
        have hf := xsw_in 27 hk1 rfl hf
        refine ww_aload_n (pc := 1019) C 1 dL_law_1019 rfl ?_
        refine ww_aload_n (pc := 1020) C 0 dL_law_1020 rfl ?_
        refine ww_iload_n (pc := 1021) C 3 dL_law_1021 rfl ?_
        refine ww_iconst (pc := 1022) (v := (1 : Int32)) C dL_law_1022 (by decide) ?_
        refine ww_iadd (pc := 1023) C dL_law_1023 ?_
        obtain ⟨v4, e3, hf⟩ := xbd hf
        refine ww_sld (pc := 1024) C hS e3 dL_law_1024 ?_
        obtain ⟨_, e5, hf⟩ := xbd hf
        obtain ⟨⟨v8, σ7⟩, e6, hf⟩ := xbd hf
        dsimp only at hf
        refine ww_callVi (pc := 1025) (as := [.int v4]) (st := []) C (k_X11_hill (l := gl G) (E := gE G) (hb := gB G) (σ := σ) e6) rfl (by decide) xc_L_133 q1147 q1148 (xck_spec e5) rfl (by decide) (xst4 (Nat.le_of_ble_eq_true rfl)) (m_X11_hill e6).1 (fun q => by have hm9 := m_L_law_j1028 hf; rcases y with a' | b90; exact XLim.mid q (m_X11_hill e6) (hm9.1 a' rfl) (hk.1 a' rfl).1; have hm9 := hm9.2 _ rfl; have hk := hk.2 _ rfl; exact XLim.mid q (m_X11_hill e6) hm9 hk.2.1) dL_law_1025 ?_
        refine ww_sub [0, 1, 2, 3] rfl ?_
        exact s_L_law_j1028 C hS hf hk
      · refine ⟨1042, 1009, rfl, by decide, ?_⟩
        have hf := xsw_in 28 hk1 rfl hf
        refine ww_aload_n (pc := 1042) C 1 dL_law_1042 rfl ?_
        refine ww_aload_n (pc := 1043) C 0 dL_law_1043 rfl ?_
        refine ww_iload_n (pc := 1044) C 3 dL_law_1044 rfl ?_
        refine ww_iconst (pc := 1045) (v := (1 : Int32)) C dL_law_1045 (by decide) ?_
        refine ww_iadd (pc := 1046) C dL_law_1046 ?_
        obtain ⟨v4, e3, hf⟩ := xbd hf
        refine ww_sld (pc := 1047) C hS e3 dL_law_1047 ?_
        refine ww_aload_n (pc := 1048) C 0 dL_law_1048 rfl ?_
        refine ww_iload_n (pc := 1049) C 3 dL_law_1049 rfl ?_
        refine ww_iconst (pc := 1050) (v := (2 : Int32)) C dL_law_1050 (by decide) ?_
        refine ww_iadd (pc := 1051) C dL_law_1051 ?_
        obtain ⟨v6, e5, hf⟩ := xbd hf
        refine ww_sld (pc := 1052) C hS e5 dL_law_1052 ?_
        obtain ⟨_, e7, hf⟩ := xbd hf
        obtain ⟨⟨v10, σ9⟩, e8, hf⟩ := xbd hf
        dsimp only at hf
        refine ww_callVi (pc := 1053) (as := [.int v4, .int v6]) (st := []) C (k_X11_pass (l := gl G) (E := gE G) (hb := gB G) (σ := σ) e8) rfl (by decide) xc_L_137 q1182 q1183 (xck_spec e7) rfl (by decide) (xst4 (Nat.le_of_ble_eq_true rfl)) (m_X11_pass e8).1 (fun q => by have hm9 := m_L_law_j1056 hf; rcases y with a' | b90; exact XLim.mid q (m_X11_pass e8) (hm9.1 a' rfl) (hk.1 a' rfl).1; have hm9 := hm9.2 _ rfl; have hk := hk.2 _ rfl; exact XLim.mid q (m_X11_pass e8) hm9 hk.2.1) dL_law_1053 ?_
        refine ww_sub [0, 1, 2, 3] rfl ?_
        exact s_L_law_j1056 C hS hf hk
      · refine ⟨1075, 1042, rfl, by decide, ?_⟩
        have hf := xsw_in 29 hk1 rfl hf
        refine ww_aload_n (pc := 1075) C 1 dL_law_1075 rfl ?_
        refine ww_aload_n (pc := 1076) C 0 dL_law_1076 rfl ?_
        refine ww_iload_n (pc := 1077) C 3 dL_law_1077 rfl ?_
        refine ww_iconst (pc := 1078) (v := (1 : Int32)) C dL_law_1078 (by decide) ?_
        refine ww_iadd (pc := 1079) C dL_law_1079 ?_
        obtain ⟨v4, e3, hf⟩ := xbd hf
        refine ww_sld (pc := 1080) C hS e3 dL_law_1080 ?_
        obtain ⟨_, e5, hf⟩ := xbd hf
        obtain ⟨⟨v8, σ7⟩, e6, hf⟩ := xbd hf
        dsimp only at hf
        refine ww_callVi (pc := 1081) (as := [.int v4]) (st := []) C (k_X11_lakes (l := gl G) (E := gE G) (hb := gB G) (σ := σ) e6) rfl (by decide) xc_L_141 q1186 q1187 (xck_spec e5) rfl (by decide) (xst4 (Nat.le_of_ble_eq_true rfl)) (m_X11_lakes e6).1 (fun q => by have hm9 := m_L_law_j1084 hf; rcases y with a' | b90; exact XLim.mid q (m_X11_lakes e6) (hm9.1 a' rfl) (hk.1 a' rfl).1; have hm9 := hm9.2 _ rfl; have hk := hk.2 _ rfl; exact XLim.mid q (m_X11_lakes e6) hm9 hk.2.1) dL_law_1081 ?_
        refine ww_sub [0, 1, 2, 3] rfl ?_
        exact s_L_law_j1084 C hS hf hk
      · refine ⟨1098, 1065, rfl, by decide, ?_⟩
        have hf := xsw_in 30 hk1 rfl hf
        refine ww_aload_n (pc := 1098) C 1 dL_law_1098 rfl ?_
        refine ww_aload_n (pc := 1099) C 0 dL_law_1099 rfl ?_
        refine ww_iload_n (pc := 1100) C 3 dL_law_1100 rfl ?_
        refine ww_iconst (pc := 1101) (v := (1 : Int32)) C dL_law_1101 (by decide) ?_
        refine ww_iadd (pc := 1102) C dL_law_1102 ?_
        obtain ⟨v4, e3, hf⟩ := xbd hf
        refine ww_sld (pc := 1103) C hS e3 dL_law_1103 ?_
        obtain ⟨_, e5, hf⟩ := xbd hf
        obtain ⟨⟨v8, σ7⟩, e6, hf⟩ := xbd hf
        dsimp only at hf
        refine ww_callVj (pc := 1104) (as := [.int v4]) (st := []) C (k_X11_down (l := gl G) (E := gE G) (hb := gB G) (σ := σ) e6) rfl (by decide) xc_L_145 q1194 q1195 (xck_spec e5) rfl (by decide) (xst4 (Nat.le_of_ble_eq_true rfl)) (m_X11_down e6).1 (fun q => by have hm9 := m_L_law_j1107 hf; rcases y with a' | b90; exact XLim.mid q (m_X11_down e6) (hm9.1 a' rfl) (hk.1 a' rfl).1; have hm9 := hm9.2 _ rfl; have hk := hk.2 _ rfl; exact XLim.mid q (m_X11_down e6) hm9 hk.2.1) dL_law_1104 ?_
        refine ww_sub [0, 1, 2, 3] rfl ?_
        exact s_L_law_j1107 C hS hf hk
      · refine ⟨1121, 1088, rfl, by decide, ?_⟩
        have hf := xsw_in 31 hk1 rfl hf
        refine ww_aload_n (pc := 1121) C 1 dL_law_1121 rfl ?_
        refine ww_aload_n (pc := 1122) C 0 dL_law_1122 rfl ?_
        refine ww_iload_n (pc := 1123) C 3 dL_law_1123 rfl ?_
        refine ww_iconst (pc := 1124) (v := (1 : Int32)) C dL_law_1124 (by decide) ?_
        refine ww_iadd (pc := 1125) C dL_law_1125 ?_
        obtain ⟨v4, e3, hf⟩ := xbd hf
        refine ww_sld (pc := 1126) C hS e3 dL_law_1126 ?_
        refine ww_aload_n (pc := 1127) C 0 dL_law_1127 rfl ?_
        refine ww_iload_n (pc := 1128) C 3 dL_law_1128 rfl ?_
        refine ww_iconst (pc := 1129) (v := (2 : Int32)) C dL_law_1129 (by decide) ?_
        refine ww_iadd (pc := 1130) C dL_law_1130 ?_
        obtain ⟨v6, e5, hf⟩ := xbd hf
        refine ww_sld (pc := 1131) C hS e5 dL_law_1131 ?_
        obtain ⟨_, e7, hf⟩ := xbd hf
        obtain ⟨⟨v10, σ9⟩, e8, hf⟩ := xbd hf
        dsimp only at hf
        refine ww_callVi (pc := 1132) (as := [.int v4, .int v6]) (st := []) C (k_X11_nearest (l := gl G) (E := gE G) (hb := gB G) (σ := σ) e8) rfl (by decide) xc_L_150 q1083 q1084 (xck_spec e7) rfl (by decide) (xst4 (Nat.le_of_ble_eq_true rfl)) (m_X11_nearest e8).1 (fun q => by have hm9 := m_L_law_j1135 hf; rcases y with a' | b90; exact XLim.mid q (m_X11_nearest e8) (hm9.1 a' rfl) (hk.1 a' rfl).1; have hm9 := hm9.2 _ rfl; have hk := hk.2 _ rfl; exact XLim.mid q (m_X11_nearest e8) hm9 hk.2.1) dL_law_1132 ?_
        refine ww_sub [0, 1, 2, 3] rfl ?_
        exact s_L_law_j1135 C hS hf hk
      · refine ⟨1154, 1121, rfl, by decide, ?_⟩
        have hf := xsw_in 32 hk1 rfl hf
        refine ww_aload_n (pc := 1154) C 1 dL_law_1154 rfl ?_
        refine ww_aload_n (pc := 1155) C 0 dL_law_1155 rfl ?_
        refine ww_iload_n (pc := 1156) C 3 dL_law_1156 rfl ?_
        refine ww_iconst (pc := 1157) (v := (1 : Int32)) C dL_law_1157 (by decide) ?_
        refine ww_iadd (pc := 1158) C dL_law_1158 ?_
        obtain ⟨v4, e3, hf⟩ := xbd hf
        refine ww_sld (pc := 1159) C hS e3 dL_law_1159 ?_
        obtain ⟨_, e5, hf⟩ := xbd hf
        obtain ⟨v7, e6, hf⟩ := xbd hf
        refine ww_callVi (pc := 1160) (as := [.int v4]) (st := []) C (k_X11_cluster (l := gl G) (E := gE G) (hb := gB G) (σ := σ) e6) rfl (by decide) xc_L_154 q825 q826 (xck_spec e5) rfl (by decide) (xst4 (Nat.le_of_ble_eq_true rfl)) xsame.rf.le xsame.rf.lim dL_law_1160 ?_
        refine ww_pop (pc := 1163) C dL_law_1163 rfl ?_
        refine ww_aload_n (pc := 1164) C 2 dL_law_1164 rfl ?_
        refine ww_aload_n (pc := 1165) C 0 dL_law_1165 rfl ?_
        refine ww_iload_n (pc := 1166) C 3 dL_law_1166 rfl ?_
        refine ww_iconst (pc := 1167) (v := (1 : Int32)) C dL_law_1167 (by decide) ?_
        refine ww_iadd (pc := 1168) C dL_law_1168 ?_
        obtain ⟨v9, e8, hf⟩ := xbd hf
        refine ww_sld (pc := 1169) C hS e8 dL_law_1169 ?_
        obtain ⟨_, e10, hf⟩ := xbd hf
        obtain ⟨v12, e11, hf⟩ := xbd hf
        refine ww_callVi (pc := 1170) (as := [.int v9]) (st := []) C (k_X12_cluster (l := gl G) (E := gE G) (hb := gB G) (σ := σ) e11) rfl (by decide) xc_L_157 q1723 q1724 (xck_spec e10) rfl (by decide) (xst4 (Nat.le_of_ble_eq_true rfl)) xsame.rf.le xsame.rf.lim dL_law_1170 ?_
        refine ww_pop (pc := 1173) C dL_law_1173 rfl ?_
        refine ww_goto (pc := 1174) (tgt := 1289) C dL_law_1174 (by decide) ?_
        refine ww_iinc (pc := 1289) (v := x3 + (6 : Int32)) (lv' := [(3, .int (x3 + (6 : Int32))), (0, .ref b), (1, .ref (gB G + r1)), (2, .ref (gB G + r2))]) C 3 dL_law_1289 rfl (congrArg (fun z => x3 + z) (show Int32.ofInt (6) = (6 : Int32) by decide)) (by decide) rfl ?_
        refine ww_goto (pc := 1292) (tgt := 18) C dL_law_1292 (by decide) ?_
        have hf := xsj hf
        subst hf
        refine ww_sub [1, 2, 3, 0] rfl ?_
        exact (hk.1 (x3 + (6 : Int32), σ) rfl).2
      · refine ⟨1177, 1144, rfl, by decide, ?_⟩
        have hf := xsw_in 33 hk1 rfl hf
        refine ww_aload_n (pc := 1177) C 1 dL_law_1177 rfl ?_
        refine ww_aload_n (pc := 1178) C 0 dL_law_1178 rfl ?_
        refine ww_iload_n (pc := 1179) C 3 dL_law_1179 rfl ?_
        refine ww_iconst (pc := 1180) (v := (1 : Int32)) C dL_law_1180 (by decide) ?_
        refine ww_iadd (pc := 1181) C dL_law_1181 ?_
        obtain ⟨v4, e3, hf⟩ := xbd hf
        refine ww_sld (pc := 1182) C hS e3 dL_law_1182 ?_
        refine ww_aload_n (pc := 1183) C 0 dL_law_1183 rfl ?_
        refine ww_iload_n (pc := 1184) C 3 dL_law_1184 rfl ?_
        refine ww_iconst (pc := 1185) (v := (2 : Int32)) C dL_law_1185 (by decide) ?_
        refine ww_iadd (pc := 1186) C dL_law_1186 ?_
        obtain ⟨v6, e5, hf⟩ := xbd hf
        refine ww_sld (pc := 1187) C hS e5 dL_law_1187 ?_
        refine ww_aload_n (pc := 1188) C 0 dL_law_1188 rfl ?_
        refine ww_iload_n (pc := 1189) C 3 dL_law_1189 rfl ?_
        refine ww_iconst (pc := 1190) (v := (3 : Int32)) C dL_law_1190 (by decide) ?_
        refine ww_iadd (pc := 1191) C dL_law_1191 ?_
        obtain ⟨v8, e7, hf⟩ := xbd hf
        refine ww_sld (pc := 1192) C hS e7 dL_law_1192 ?_
        obtain ⟨_, e9, hf⟩ := xbd hf
        obtain ⟨⟨v12, σ11⟩, e10, hf⟩ := xbd hf
        dsimp only at hf
        refine ww_callVi (pc := 1193) (as := [.int v4, .int v6, .int v8]) (st := []) C (k_X11_wander (l := gl G) (E := gE G) (hb := gB G) (σ := σ) e10) rfl (by decide) xc_L_158 q1091 q1092 (xck_spec e9) rfl (by decide) (xst4 (Nat.le_of_ble_eq_true rfl)) (m_X11_wander e10).le (m_X11_wander e10).lim dL_law_1193 ?_
        refine ww_pop (pc := 1196) C dL_law_1196 rfl ?_
        refine ww_aload_n (pc := 1197) C 2 dL_law_1197 rfl ?_
        refine ww_aload_n (pc := 1198) C 0 dL_law_1198 rfl ?_
        refine ww_iload_n (pc := 1199) C 3 dL_law_1199 rfl ?_
        refine ww_iconst (pc := 1200) (v := (1 : Int32)) C dL_law_1200 (by decide) ?_
        refine ww_iadd (pc := 1201) C dL_law_1201 ?_
        obtain ⟨v14, e13, hf⟩ := xbd hf
        refine ww_sld (pc := 1202) C hS e13 dL_law_1202 ?_
        refine ww_aload_n (pc := 1203) C 0 dL_law_1203 rfl ?_
        refine ww_iload_n (pc := 1204) C 3 dL_law_1204 rfl ?_
        refine ww_iconst (pc := 1205) (v := (2 : Int32)) C dL_law_1205 (by decide) ?_
        refine ww_iadd (pc := 1206) C dL_law_1206 ?_
        obtain ⟨v16, e15, hf⟩ := xbd hf
        refine ww_sld (pc := 1207) C hS e15 dL_law_1207 ?_
        refine ww_aload_n (pc := 1208) C 0 dL_law_1208 rfl ?_
        refine ww_iload_n (pc := 1209) C 3 dL_law_1209 rfl ?_
        refine ww_iconst (pc := 1210) (v := (3 : Int32)) C dL_law_1210 (by decide) ?_
        refine ww_iadd (pc := 1211) C dL_law_1211 ?_
        obtain ⟨v18, e17, hf⟩ := xbd hf
        refine ww_sld (pc := 1212) C hS e17 dL_law_1212 ?_
        obtain ⟨_, e19, hf⟩ := xbd hf
        obtain ⟨⟨v22, σ21⟩, e20, hf⟩ := xbd hf
        dsimp only at hf
        refine ww_callVi (pc := 1213) (as := [.int v14, .int v16, .int v18]) (st := []) C (k_X12_wander (l := gl G) (E := gE G) (hb := gB G) (σ := σ11) e20) rfl (by decide) xc_L_161 q1731 q1732 (xck_spec e19) rfl (by decide) (xst4 (Nat.le_of_ble_eq_true rfl)) (m_X12_wander e20).le (m_X12_wander e20).lim dL_law_1213 ?_
        refine ww_pop (pc := 1216) C dL_law_1216 rfl ?_
        refine ww_goto (pc := 1217) (tgt := 1289) C dL_law_1217 (by decide) ?_
        refine ww_iinc (pc := 1289) (v := x3 + (6 : Int32)) (lv' := [(3, .int (x3 + (6 : Int32))), (0, .ref b), (1, .ref (gB G + r1)), (2, .ref (gB G + r2))]) C 3 dL_law_1289 rfl (congrArg (fun z => x3 + z) (show Int32.ofInt (6) = (6 : Int32) by decide)) (by decide) rfl ?_
        refine ww_goto (pc := 1292) (tgt := 18) C dL_law_1292 (by decide) ?_
        have hf := xsj hf
        subst hf
        refine ww_sub [1, 2, 3, 0] rfl ?_
        exact (hk.1 (x3 + (6 : Int32), σ21) rfl).2
      · refine ⟨1220, 1187, rfl, by decide, ?_⟩
        have hf := xsw_in 34 hk1 rfl hf
        refine ww_aload_n (pc := 1220) C 1 dL_law_1220 rfl ?_
        refine ww_aload_n (pc := 1221) C 0 dL_law_1221 rfl ?_
        refine ww_iload_n (pc := 1222) C 3 dL_law_1222 rfl ?_
        refine ww_iconst (pc := 1223) (v := (1 : Int32)) C dL_law_1223 (by decide) ?_
        refine ww_iadd (pc := 1224) C dL_law_1224 ?_
        obtain ⟨v4, e3, hf⟩ := xbd hf
        refine ww_sld (pc := 1225) C hS e3 dL_law_1225 ?_
        obtain ⟨_, e5, hf⟩ := xbd hf
        obtain ⟨⟨v8, σ7⟩, e6, hf⟩ := xbd hf
        dsimp only at hf
        refine ww_callVi (pc := 1226) (as := [.int v4]) (st := []) C (k_X11_hold (l := gl G) (E := gE G) (hb := gB G) (σ := σ) e6) rfl (by decide) xc_L_162 q1207 q1208 (xck_spec e5) rfl (by decide) (xst4 (Nat.le_of_ble_eq_true rfl)) (m_X11_hold e6).le (m_X11_hold e6).lim dL_law_1226 ?_
        refine ww_pop (pc := 1229) C dL_law_1229 rfl ?_
        refine ww_aload_n (pc := 1230) C 2 dL_law_1230 rfl ?_
        refine ww_aload_n (pc := 1231) C 0 dL_law_1231 rfl ?_
        refine ww_iload_n (pc := 1232) C 3 dL_law_1232 rfl ?_
        refine ww_iconst (pc := 1233) (v := (1 : Int32)) C dL_law_1233 (by decide) ?_
        refine ww_iadd (pc := 1234) C dL_law_1234 ?_
        obtain ⟨v10, e9, hf⟩ := xbd hf
        refine ww_sld (pc := 1235) C hS e9 dL_law_1235 ?_
        obtain ⟨_, e11, hf⟩ := xbd hf
        obtain ⟨⟨v14, σ13⟩, e12, hf⟩ := xbd hf
        dsimp only at hf
        refine ww_callVi (pc := 1236) (as := [.int v10]) (st := []) C (k_X12_hold (l := gl G) (E := gE G) (hb := gB G) (σ := σ7) e12) rfl (by decide) xc_L_165 q1586 q1587 (xck_spec e11) rfl (by decide) (xst4 (Nat.le_of_ble_eq_true rfl)) (m_X12_hold e12).le (m_X12_hold e12).lim dL_law_1236 ?_
        refine ww_pop (pc := 1239) C dL_law_1239 rfl ?_
        refine ww_goto (pc := 1240) (tgt := 1289) C dL_law_1240 (by decide) ?_
        refine ww_iinc (pc := 1289) (v := x3 + (6 : Int32)) (lv' := [(3, .int (x3 + (6 : Int32))), (0, .ref b), (1, .ref (gB G + r1)), (2, .ref (gB G + r2))]) C 3 dL_law_1289 rfl (congrArg (fun z => x3 + z) (show Int32.ofInt (6) = (6 : Int32) by decide)) (by decide) rfl ?_
        refine ww_goto (pc := 1292) (tgt := 18) C dL_law_1292 (by decide) ?_
        have hf := xsj hf
        subst hf
        refine ww_sub [1, 2, 3, 0] rfl ?_
        exact (hk.1 (x3 + (6 : Int32), σ13) rfl).2
      · refine ⟨1243, 1210, rfl, by decide, ?_⟩
        have hf := xsw_in 35 hk1 rfl hf
        refine ww_aload_n (pc := 1243) C 1 dL_law_1243 rfl ?_
        refine ww_aload_n (pc := 1244) C 0 dL_law_1244 rfl ?_
        refine ww_iload_n (pc := 1245) C 3 dL_law_1245 rfl ?_
        refine ww_iconst (pc := 1246) (v := (1 : Int32)) C dL_law_1246 (by decide) ?_
        refine ww_iadd (pc := 1247) C dL_law_1247 ?_
        obtain ⟨v4, e3, hf⟩ := xbd hf
        refine ww_sld (pc := 1248) C hS e3 dL_law_1248 ?_
        obtain ⟨_, e5, hf⟩ := xbd hf
        obtain ⟨⟨v8, σ7⟩, e6, hf⟩ := xbd hf
        dsimp only at hf
        refine ww_callVi (pc := 1249) (as := [.int v4]) (st := []) C (k_X11_restore (l := gl G) (E := gE G) (hb := gB G) (σ := σ) e6) rfl (by decide) xc_L_166 q1211 q1212 (xck_spec e5) rfl (by decide) (xst4 (Nat.le_of_ble_eq_true rfl)) (m_X11_restore e6).le (m_X11_restore e6).lim dL_law_1249 ?_
        refine ww_pop (pc := 1252) C dL_law_1252 rfl ?_
        refine ww_aload_n (pc := 1253) C 2 dL_law_1253 rfl ?_
        refine ww_aload_n (pc := 1254) C 0 dL_law_1254 rfl ?_
        refine ww_iload_n (pc := 1255) C 3 dL_law_1255 rfl ?_
        refine ww_iconst (pc := 1256) (v := (1 : Int32)) C dL_law_1256 (by decide) ?_
        refine ww_iadd (pc := 1257) C dL_law_1257 ?_
        obtain ⟨v10, e9, hf⟩ := xbd hf
        refine ww_sld (pc := 1258) C hS e9 dL_law_1258 ?_
        obtain ⟨_, e11, hf⟩ := xbd hf
        obtain ⟨⟨v14, σ13⟩, e12, hf⟩ := xbd hf
        dsimp only at hf
        refine ww_callVi (pc := 1259) (as := [.int v10]) (st := []) C (k_X12_restore (l := gl G) (E := gE G) (hb := gB G) (σ := σ7) e12) rfl (by decide) xc_L_169 q1590 q1591 (xck_spec e11) rfl (by decide) (xst4 (Nat.le_of_ble_eq_true rfl)) (m_X12_restore e12).le (m_X12_restore e12).lim dL_law_1259 ?_
        refine ww_pop (pc := 1262) C dL_law_1262 rfl ?_
        refine ww_goto (pc := 1263) (tgt := 1289) C dL_law_1263 (by decide) ?_
        refine ww_iinc (pc := 1289) (v := x3 + (6 : Int32)) (lv' := [(3, .int (x3 + (6 : Int32))), (0, .ref b), (1, .ref (gB G + r1)), (2, .ref (gB G + r2))]) C 3 dL_law_1289 rfl (congrArg (fun z => x3 + z) (show Int32.ofInt (6) = (6 : Int32) by decide)) (by decide) rfl ?_
        refine ww_goto (pc := 1292) (tgt := 18) C dL_law_1292 (by decide) ?_
        have hf := xsj hf
        subst hf
        refine ww_sub [1, 2, 3, 0] rfl ?_
        exact (hk.1 (x3 + (6 : Int32), σ13) rfl).2
      · refine ⟨1266, 1233, rfl, by decide, ?_⟩
        have hf := xsw_in 36 hk1 rfl hf
        refine ww_aload_n (pc := 1266) C 1 dL_law_1266 rfl ?_
        refine ww_aload_n (pc := 1267) C 0 dL_law_1267 rfl ?_
        refine ww_iload_n (pc := 1268) C 3 dL_law_1268 rfl ?_
        refine ww_iconst (pc := 1269) (v := (1 : Int32)) C dL_law_1269 (by decide) ?_
        refine ww_iadd (pc := 1270) C dL_law_1270 ?_
        obtain ⟨v4, e3, hf⟩ := xbd hf
        refine ww_sld (pc := 1271) C hS e3 dL_law_1271 ?_
        obtain ⟨_, e5, hf⟩ := xbd hf
        obtain ⟨⟨v8, σ7⟩, e6, hf⟩ := xbd hf
        dsimp only at hf
        refine ww_callVi (pc := 1272) (as := [.int v4]) (st := []) C (k_X11_count (l := gl G) (E := gE G) (hb := gB G) (σ := σ) e6) rfl (by decide) xc_L_170 q1215 q1216 (xck_spec e5) rfl (by decide) (xst4 (Nat.le_of_ble_eq_true rfl)) (m_X11_count e6).1 (fun q => by have hm9 := m_L_law_j1275 hf; rcases y with a' | b90; exact XLim.mid q (m_X11_count e6) (hm9.1 a' rfl) (hk.1 a' rfl).1; have hm9 := hm9.2 _ rfl; have hk := hk.2 _ rfl; exact XLim.mid q (m_X11_count e6) hm9 hk.2.1) dL_law_1272 ?_
        refine ww_sub [0, 1, 2, 3] rfl ?_
        exact s_L_law_j1275 C hS hf hk
    · refine ⟨1289, by decide, ?_⟩
      have hf := xsw_out ho rfl hf
      refine ww_iinc (pc := 1289) (v := x3 + (6 : Int32)) (lv' := [(3, .int (x3 + (6 : Int32))), (0, .ref b), (1, .ref (gB G + r1)), (2, .ref (gB G + r2))]) C 3 dL_law_1289 rfl (congrArg (fun z => x3 + z) (show Int32.ofInt (6) = (6 : Int32) by decide)) (by decide) rfl ?_
      refine ww_goto (pc := 1292) (tgt := 18) C dL_law_1292 (by decide) ?_
      have hf := xsj hf
      subst hf
      refine ww_sub [1, 2, 3, 0] rfl ?_
      exact (hk.1 (x3 + (6 : Int32), σ) rfl).2
theorem s_L_law_j15 {G : XG} (C : XC G cL_law RL (some .boolean) 4 13 468) {b L : Nat} {xs : Nat → Int32} (hS : XScr G b L xs) {σ : XS} {r1 : Nat} {t0 : Nat} {x : Int32 × XS} (hf : f_L_law_j15 L xs σ r1 t0 = some x) (hk : XEndL G b x) : WW G 15 [(0, .ref b), (1, .ref (gB G + r1))] [.ref (gB G + t0)] σ := by
  refine ww_astore_n (pc := 15) (lv' := [(2, .ref (gB G + t0)), (0, .ref b), (1, .ref (gB G + r1))]) C dL_law_15 (by decide) rfl ?_
  refine ww_iconst (pc := 16) (v := (0 : Int32)) C dL_law_16 (by decide) ?_
  refine ww_istore_n (pc := 17) (lv' := [(3, .int (0 : Int32)), (2, .ref (gB G + t0)), (0, .ref b), (1, .ref (gB G + r1))]) C dL_law_17 (by decide) rfl ?_
  refine ww_sub [2, 3, 1, 0] rfl ?_
  exact s_L_law_l18 C hS (a := ((0 : Int32), σ)) hf hk
theorem m_L_law_j15 {L : Nat} {xs : Nat → Int32} {σ : XS} {r1 : Nat} {t0 : Nat} {x : Int32 × XS} (hf : f_L_law_j15 L xs σ r1 t0 = some x) : xext σ x.2 := by
  have hm := xext.rf (σ := σ)
  exact hm.tr (m_L_law_l18 (a := ((0 : Int32), σ)) hf)
theorem s_L_law_j11 {G : XG} (C : XC G cL_law RL (some .boolean) 4 13 468) {b L : Nat} {xs : Nat → Int32} (hS : XScr G b L xs) {σ : XS} {r1 : Nat} {t0 : Nat} {x : Int32 × XS} (hf : f_L_law_j11 L xs σ r1 t0 = some x) (hk : XEndL G b x) : WW G 11 [(0, .ref b), (1, .ref (gB G + r1))] [.ref (gB G + t0)] σ := by
  refine ww_dup (pc := 11) C dL_law_11 rfl ?_
  obtain ⟨_, e1, hf⟩ := xbd hf
  obtain ⟨σ3, e2, hf⟩ := xbd hf
  refine ww_callIv (pc := 12) (as := []) (st := [.ref (gB G + t0)]) C (k_X12_init (l := gl G) (E := gE G) (hb := gB G) (σ := σ) e2) xc_L_12 rfl q1255 rfl (by decide) (xst4 (Nat.le_of_ble_eq_true rfl)) (m_X12_init e2).1 (fun q => by have hm9 := m_L_law_j15 hf; exact XLim.mid q (m_X12_init e2) hm9 hk.2.1) dL_law_12 ?_
  refine ww_sub [0, 1] rfl ?_
  exact s_L_law_j15 C hS hf hk
theorem m_L_law_j11 {L : Nat} {xs : Nat → Int32} {σ : XS} {r1 : Nat} {t0 : Nat} {x : Int32 × XS} (hf : f_L_law_j11 L xs σ r1 t0 = some x) : xext σ x.2 := by
  have hm := xext.rf (σ := σ)
  obtain ⟨_, e1, hf⟩ := xbd hf
  obtain ⟨σ3, e2, hf⟩ := xbd hf
  have hm := hm.tr (m_X12_init e2)
  exact hm.tr (m_L_law_j15 hf)
theorem s_L_law_j7 {G : XG} (C : XC G cL_law RL (some .boolean) 4 13 468) {b L : Nat} {xs : Nat → Int32} (hS : XScr G b L xs) {σ : XS} {t0 : Nat} {x : Int32 × XS} (hf : f_L_law_j7 L xs σ t0 = some x) (hk : XEndL G b x) : WW G 7 [(0, .ref b)] [.ref (gB G + t0)] σ := by
  refine ww_astore_n (pc := 7) (lv' := [(1, .ref (gB G + t0)), (0, .ref b)]) C dL_law_7 (by decide) rfl ?_
  obtain ⟨⟨z2, σ3⟩, e1, hf⟩ := xbd hf
  dsimp only at hf
  refine ww_new (pc := 8) (c := 12) C rfl (by decide) inX12 tyX12 tyX12_ok dfX12 q1252 q1253 q14 e1 (fun q => by have hm9 := m_L_law_j11 hf; exact XLim.mid q (xnO_ext e1) hm9 hk.2.1) dL_law_8 ?_
  refine ww_sub [1, 0] rfl ?_
  exact s_L_law_j11 C hS hf hk
theorem m_L_law_j7 {L : Nat} {xs : Nat → Int32} {σ : XS} {t0 : Nat} {x : Int32 × XS} (hf : f_L_law_j7 L xs σ t0 = some x) : xext σ x.2 := by
  have hm := xext.rf (σ := σ)
  obtain ⟨⟨z2, σ3⟩, e1, hf⟩ := xbd hf
  dsimp only at hf
  have hm := hm.tr (xnO_ext e1)
  exact hm.tr (m_L_law_j11 hf)
theorem s_L_law_j3 {G : XG} (C : XC G cL_law RL (some .boolean) 4 13 468) {b L : Nat} {xs : Nat → Int32} (hS : XScr G b L xs) {σ : XS} {t0 : Nat} {x : Int32 × XS} (hf : f_L_law_j3 L xs σ t0 = some x) (hk : XEndL G b x) : WW G 3 [(0, .ref b)] [.ref (gB G + t0)] σ := by
  refine ww_dup (pc := 3) C dL_law_3 rfl ?_
  obtain ⟨_, e1, hf⟩ := xbd hf
  obtain ⟨σ3, e2, hf⟩ := xbd hf
  refine ww_callIv (pc := 4) (as := []) (st := [.ref (gB G + t0)]) C (k_X11_init (l := gl G) (E := gE G) (hb := gB G) (σ := σ) e2) xc_L_9 rfl q25 rfl (by decide) (xst4 (Nat.le_of_ble_eq_true rfl)) (m_X11_init e2).1 (fun q => by have hm9 := m_L_law_j7 hf; exact XLim.mid q (m_X11_init e2) hm9 hk.2.1) dL_law_4 ?_
  refine ww_sub [0] rfl ?_
  exact s_L_law_j7 C hS hf hk
theorem m_L_law_j3 {L : Nat} {xs : Nat → Int32} {σ : XS} {t0 : Nat} {x : Int32 × XS} (hf : f_L_law_j3 L xs σ t0 = some x) : xext σ x.2 := by
  have hm := xext.rf (σ := σ)
  obtain ⟨_, e1, hf⟩ := xbd hf
  obtain ⟨σ3, e2, hf⟩ := xbd hf
  have hm := hm.tr (m_X11_init e2)
  exact hm.tr (m_L_law_j7 hf)
theorem s_L_law_e {G : XG} (C : XC G cL_law RL (some .boolean) 4 13 468) {b L : Nat} {xs : Nat → Int32} (hS : XScr G b L xs) {σ : XS} {x : Int32 × XS} (hf : f_L_law L xs σ = some x) (hk : XEndL G b x) : WW G 0 [(0, .ref b)] [] σ := by
  obtain ⟨⟨z2, σ3⟩, e1, hf⟩ := xbd hf
  dsimp only at hf
  refine ww_new (pc := 0) (c := 11) C rfl (by decide) inX11 tyX11 tyX11_ok dfX11 q22 q23 q1 e1 (fun q => by have hm9 := m_L_law_j3 hf; exact XLim.mid q (xnO_ext e1) hm9 hk.2.1) dL_law_0 ?_
  refine ww_sub [0] rfl ?_
  exact s_L_law_j3 C hS hf hk
theorem m_L_law {L : Nat} {xs : Nat → Int32} {σ : XS} {x : Int32 × XS} (hf : f_L_law L xs σ = some x) : xext σ x.2 := by
  have hm := xext.rf (σ := σ)
  obtain ⟨⟨z2, σ3⟩, e1, hf⟩ := xbd hf
  dsimp only at hf
  have hm := hm.tr (xnO_ext e1)
  exact hm.tr (m_L_law_j3 hf)
end
