noncomputable def f_X12_level (σ : XS) (r0 : Nat) (x1 : Int32) (x2 : Int32) : Option (Int32 × XS) := (xck σ r0 12).bind fun _ => (f_X12_knows σ r0).bind fun σ3 => if x1 = (-1 : Int32) then ((xgI σ3 r0 12 35).bind fun v5 => some (v5, σ3)) else (xgI σ3 r0 12 35).bind fun v5 => (f_X12_in x1 (0 : Int32) (v5 - (1 : Int32))).bind fun v7 => if v7 = 0 then (some ((-100000 : Int32), σ3)) else xsw x2 (0) [(xgR σ3 r0 12 36).bind fun z9 => (xaI σ3 20 z9 x1).bind fun v11 => some (v11, σ3), (xgR σ3 r0 12 34).bind fun z9 => (xgR σ3 r0 12 36).bind fun z11 => (xaI σ3 20 z11 x1).bind fun v13 => (xaI σ3 20 z9 ((150 : Int32) + v13)).bind fun v15 => some (v15, σ3), (xgR σ3 r0 12 36).bind fun z9 => (xaI σ3 20 z9 x1).bind fun v11 => (xck σ3 r0 12).bind fun _ => (f_X12_leastOf σ3 r0 v11).bind fun v14 => some (v14, σ3), (xgR σ3 r0 12 36).bind fun z9 => (xaI σ3 20 z9 x1).bind fun v11 => (xck σ3 r0 12).bind fun _ => (f_X12_upsOf σ3 r0 v11 (1 : Int32)).bind fun v14 => some (v14, σ3), (xgR σ3 r0 12 36).bind fun z9 => (xaI σ3 20 z9 x1).bind fun v11 => (xck σ3 r0 12).bind fun _ => (f_X12_upsOf σ3 r0 v11 (-1 : Int32)).bind fun v14 => some (v14, σ3)] (some ((-100000 : Int32), σ3))
theorem s_X12_level_e {G : XG} (C : XC G cX12_level RX12 (some .int) 3 4 96) {σ : XS} {r0 : Nat} {x1 : Int32} {x2 : Int32} {x : Int32 × XS} (hf : f_X12_level σ r0 x1 x2 = some x) (hk : XEnd G (some (.int x.1)) x.2) : WW G 0 [(0, .ref (gB G + r0)), (1, .int x1), (2, .int x2)] [] σ := by
  refine ww_aload_n (pc := 0) C 0 dX12_level_0 rfl ?_
  obtain ⟨_, e1, hf⟩ := xbd hf
  obtain ⟨σ3, e2, hf⟩ := xbd hf
  refine ww_callVv (pc := 1) (as := []) (st := []) C (k_X12_knows (l := gl G) (E := gE G) (hb := gB G) (σ := σ) e2) rfl (by decide) xc_X12_261 q1551 qp140 (xck_spec e1) rfl (by decide) (xst4 (Nat.le_of_ble_eq_true rfl)) (m_X12_knows e2).le (m_X12_knows e2).lim dX12_level_1 ?_
  refine ww_iload_n (pc := 4) C 1 dX12_level_4 rfl ?_
  refine ww_iconst (pc := 5) (v := (-1 : Int32)) C dX12_level_5 (by decide) ?_
  refine ww_icmp_ne (pc := 6) (tgt := 14) C dX12_level_6 (by decide) (fun q => ?_) (fun q => ?_)
  · have hf := xin q hf
    refine ww_iload_n (pc := 14) C 1 dX12_level_14 rfl ?_
    refine ww_iconst (pc := 15) (v := (0 : Int32)) C dX12_level_15 (by decide) ?_
    refine ww_aload_n (pc := 16) C 0 dX12_level_16 rfl ?_
    obtain ⟨v5, e4, hf⟩ := xbd hf
    refine gf_X12_285 (pc := 17) C e4 dX12_level_17 ?_
    refine ww_iconst (pc := 20) (v := (1 : Int32)) C dX12_level_20 (by decide) ?_
    refine ww_isub (pc := 21) C dX12_level_21 ?_
    obtain ⟨v7, e6, hf⟩ := xbd hf
    refine ww_callSi (pc := 22) (as := [.int x1, .int (0 : Int32), .int (v5 - (1 : Int32))]) (st := []) C (k_X12_in (l := gl G) (E := gE G) (hb := gB G) (σ := σ3) e6) xc_X12_213 q1473 rfl (by decide) (xst4 (Nat.le_of_ble_eq_true rfl)) xsame.rf.le xsame.rf.lim dX12_level_22 ?_
    refine ww_if_ne (pc := 25) (tgt := 32) C dX12_level_25 (by decide) (fun q => ?_) (fun q => ?_)
    · have hf := xin q hf
      refine ww_iload_n (pc := 32) C 2 dX12_level_32 rfl ?_
      refine ww_table (pc := 33) C dX12_level_33 (fun k hk1 hk2 => ?_) (fun ho => ?_)
      · rcases (by omega : k = 0 ∨ k = 1 ∨ k = 2 ∨ k = 3 ∨ k = 4) with rfl | rfl | rfl | rfl | rfl
        · refine ⟨68, 35, rfl, by decide, ?_⟩
          have hf := xsw_in 0 hk1 rfl hf
          refine ww_aload_n (pc := 68) C 0 dX12_level_68 rfl ?_
          obtain ⟨z9, e8, hf⟩ := xbd hf
          refine gf_X12_63 (pc := 69) C e8 dX12_level_69 ?_
          refine ww_iload_n (pc := 72) C 1 dX12_level_72 rfl ?_
          obtain ⟨v11, e10, hf⟩ := xbd hf
          refine ww_iald (pc := 73) C e10 dX12_level_73 ?_
          have hf := xsj hf
          subst hf
          exact ww_iret (pc := 74) C hk dX12_level_74
        · refine ⟨75, 42, rfl, by decide, ?_⟩
          have hf := xsw_in 1 hk1 rfl hf
          refine ww_aload_n (pc := 75) C 0 dX12_level_75 rfl ?_
          obtain ⟨z9, e8, hf⟩ := xbd hf
          refine gf_X12_60 (pc := 76) C e8 dX12_level_76 ?_
          refine ww_sipush (pc := 79) (v := (150 : Int32)) C dX12_level_79 (by decide) ?_
          refine ww_aload_n (pc := 82) C 0 dX12_level_82 rfl ?_
          obtain ⟨z11, e10, hf⟩ := xbd hf
          refine gf_X12_63 (pc := 83) C e10 dX12_level_83 ?_
          refine ww_iload_n (pc := 86) C 1 dX12_level_86 rfl ?_
          obtain ⟨v13, e12, hf⟩ := xbd hf
          refine ww_iald (pc := 87) C e12 dX12_level_87 ?_
          refine ww_iadd (pc := 88) C dX12_level_88 ?_
          obtain ⟨v15, e14, hf⟩ := xbd hf
          refine ww_iald (pc := 89) C e14 dX12_level_89 ?_
          have hf := xsj hf
          subst hf
          exact ww_iret (pc := 90) C hk dX12_level_90
        · refine ⟨91, 58, rfl, by decide, ?_⟩
          have hf := xsw_in 2 hk1 rfl hf
          refine ww_aload_n (pc := 91) C 0 dX12_level_91 rfl ?_
          refine ww_aload_n (pc := 92) C 0 dX12_level_92 rfl ?_
          obtain ⟨z9, e8, hf⟩ := xbd hf
          refine gf_X12_63 (pc := 93) C e8 dX12_level_93 ?_
          refine ww_iload_n (pc := 96) C 1 dX12_level_96 rfl ?_
          obtain ⟨v11, e10, hf⟩ := xbd hf
          refine ww_iald (pc := 97) C e10 dX12_level_97 ?_
          obtain ⟨_, e12, hf⟩ := xbd hf
          obtain ⟨v14, e13, hf⟩ := xbd hf
          refine ww_callVi (pc := 98) (as := [.int v11]) (st := []) C (k_X12_leastOf (l := gl G) (E := gE G) (hb := gB G) (σ := σ3) e13) rfl (by decide) xc_X12_295 q1608 qp148 (xck_spec e12) rfl (by decide) (xst4 (Nat.le_of_ble_eq_true rfl)) xsame.rf.le xsame.rf.lim dX12_level_98 ?_
          have hf := xsj hf
          subst hf
          exact ww_iret (pc := 101) C hk dX12_level_101
        · refine ⟨102, 69, rfl, by decide, ?_⟩
          have hf := xsw_in 3 hk1 rfl hf
          refine ww_aload_n (pc := 102) C 0 dX12_level_102 rfl ?_
          refine ww_aload_n (pc := 103) C 0 dX12_level_103 rfl ?_
          obtain ⟨z9, e8, hf⟩ := xbd hf
          refine gf_X12_63 (pc := 104) C e8 dX12_level_104 ?_
          refine ww_iload_n (pc := 107) C 1 dX12_level_107 rfl ?_
          obtain ⟨v11, e10, hf⟩ := xbd hf
          refine ww_iald (pc := 108) C e10 dX12_level_108 ?_
          refine ww_iconst (pc := 109) (v := (1 : Int32)) C dX12_level_109 (by decide) ?_
          obtain ⟨_, e12, hf⟩ := xbd hf
          obtain ⟨v14, e13, hf⟩ := xbd hf
          refine ww_callVi (pc := 110) (as := [.int v11, .int (1 : Int32)]) (st := []) C (k_X12_upsOf (l := gl G) (E := gE G) (hb := gB G) (σ := σ3) e13) rfl (by decide) xc_X12_298 q1612 qp149 (xck_spec e12) rfl (by decide) (xst4 (Nat.le_of_ble_eq_true rfl)) xsame.rf.le xsame.rf.lim dX12_level_110 ?_
          have hf := xsj hf
          subst hf
          exact ww_iret (pc := 113) C hk dX12_level_113
        · refine ⟨114, 81, rfl, by decide, ?_⟩
          have hf := xsw_in 4 hk1 rfl hf
          refine ww_aload_n (pc := 114) C 0 dX12_level_114 rfl ?_
          refine ww_aload_n (pc := 115) C 0 dX12_level_115 rfl ?_
          obtain ⟨z9, e8, hf⟩ := xbd hf
          refine gf_X12_63 (pc := 116) C e8 dX12_level_116 ?_
          refine ww_iload_n (pc := 119) C 1 dX12_level_119 rfl ?_
          obtain ⟨v11, e10, hf⟩ := xbd hf
          refine ww_iald (pc := 120) C e10 dX12_level_120 ?_
          refine ww_iconst (pc := 121) (v := (-1 : Int32)) C dX12_level_121 (by decide) ?_
          obtain ⟨_, e12, hf⟩ := xbd hf
          obtain ⟨v14, e13, hf⟩ := xbd hf
          refine ww_callVi (pc := 122) (as := [.int v11, .int (-1 : Int32)]) (st := []) C (k_X12_upsOf (l := gl G) (E := gE G) (hb := gB G) (σ := σ3) e13) rfl (by decide) xc_X12_298 q1612 qp149 (xck_spec e12) rfl (by decide) (xst4 (Nat.le_of_ble_eq_true rfl)) xsame.rf.le xsame.rf.lim dX12_level_122 ?_
          have hf := xsj hf
          subst hf
          exact ww_iret (pc := 125) C hk dX12_level_125
      · refine ⟨126, by decide, ?_⟩
        have hf := xsw_out ho rfl hf
        refine ww_ldcw (pc := 126) C q1597 dX12_level_126 ?_
        have hf := xsj hf
        subst hf
        exact ww_iret (pc := 129) C hk dX12_level_129
    · have hf := xip q hf
      refine ww_ldcw (pc := 28) C q1597 dX12_level_28 ?_
      have hf := xsj hf
      subst hf
      exact ww_iret (pc := 31) C hk dX12_level_31
  · have hf := xip q hf
    refine ww_aload_n (pc := 9) C 0 dX12_level_9 rfl ?_
    obtain ⟨v5, e4, hf⟩ := xbd hf
    refine gf_X12_285 (pc := 10) C e4 dX12_level_10 ?_
    have hf := xsj hf
    subst hf
    exact ww_iret (pc := 13) C hk dX12_level_13
theorem m_X12_level {σ : XS} {r0 : Nat} {x1 : Int32} {x2 : Int32} {x : Int32 × XS} (hf : f_X12_level σ r0 x1 x2 = some x) : xsame σ x.2 := by
  have hm := xsame.rf (σ := σ)
  obtain ⟨_, e1, hf⟩ := xbd hf
  obtain ⟨σ3, e2, hf⟩ := xbd hf
  have hm := hm.tr (m_X12_knows e2)
  by_cases q : x1 = (-1 : Int32)
  · have hf := xip q hf
    obtain ⟨v5, e4, hf⟩ := xbd hf
    have hf := xsj hf
    subst hf
    exact hm
  · have hf := xin q hf
    obtain ⟨v5, e4, hf⟩ := xbd hf
    obtain ⟨v7, e6, hf⟩ := xbd hf
    by_cases q : v7 = 0
    · have hf := xip q hf
      have hf := xsj hf
      subst hf
      exact hm
    · have hf := xin q hf
      by_cases ho : (x2).toInt < 0 ∨ 4 < (x2).toInt
      · have hf := xsw_out ho rfl hf
        have hf := xsj hf
        subst hf
        exact hm
      · rcases (by omega : (x2).toInt = 0 + ((0 : Nat) : Int) ∨ (x2).toInt = 0 + ((1 : Nat) : Int) ∨ (x2).toInt = 0 + ((2 : Nat) : Int) ∨ (x2).toInt = 0 + ((3 : Nat) : Int) ∨ (x2).toInt = 0 + ((4 : Nat) : Int)) with hk1 | hk1 | hk1 | hk1 | hk1
        · have hf := xsw_in 0 hk1 rfl hf
          obtain ⟨z9, e8, hf⟩ := xbd hf
          obtain ⟨v11, e10, hf⟩ := xbd hf
          have hf := xsj hf
          subst hf
          exact hm
        · have hf := xsw_in 1 hk1 rfl hf
          obtain ⟨z9, e8, hf⟩ := xbd hf
          obtain ⟨z11, e10, hf⟩ := xbd hf
          obtain ⟨v13, e12, hf⟩ := xbd hf
          obtain ⟨v15, e14, hf⟩ := xbd hf
          have hf := xsj hf
          subst hf
          exact hm
        · have hf := xsw_in 2 hk1 rfl hf
          obtain ⟨z9, e8, hf⟩ := xbd hf
          obtain ⟨v11, e10, hf⟩ := xbd hf
          obtain ⟨_, e12, hf⟩ := xbd hf
          obtain ⟨v14, e13, hf⟩ := xbd hf
          have hf := xsj hf
          subst hf
          exact hm
        · have hf := xsw_in 3 hk1 rfl hf
          obtain ⟨z9, e8, hf⟩ := xbd hf
          obtain ⟨v11, e10, hf⟩ := xbd hf
          obtain ⟨_, e12, hf⟩ := xbd hf
          obtain ⟨v14, e13, hf⟩ := xbd hf
          have hf := xsj hf
          subst hf
          exact hm
        · have hf := xsw_in 4 hk1 rfl hf
          obtain ⟨z9, e8, hf⟩ := xbd hf
          obtain ⟨v11, e10, hf⟩ := xbd hf
          obtain ⟨_, e12, hf⟩ := xbd hf
          obtain ⟨v14, e13, hf⟩ := xbd hf
          have hf := xsj hf
          subst hf
          exact hm
theorem k_X12_level {l : Launch} {E : XD} {hb : Nat} {σ : XS} {r0 : Nat} {x1 : Int32} {x2 : Int32} {x : Int32 × XS} (h : f_X12_level σ r0 x1 x2 = some x) : XM l yX12_level cX12_level 3 (some .int) 4 96 E hb [.ref (hb + r0), .int x1, .int x2] σ (some (.int x.1)) x.2 := by
  refine xm_of (by decide) (Nat.le_of_ble_eq_true rfl) (m_X12_level h).le (fun G hG C hl hQ => ?_)
  obtain ⟨rfl, rfl, rfl, hN⟩ := hG
  exact s_X12_level_e C h hQ
noncomputable def f_X12_levelOf_b2 (σ : XS) (r0 : Nat) (x1 : Int32) : Int32 → Option ((Int32) ⊕ (Int32)) := fun a => match a with
  | x2 => (xgR σ r0 12 36).bind fun z2 => (xaI σ 20 z2 x2).bind fun v4 => (xgR σ r0 12 33).bind fun z6 => (xaI σ 20 z6 x1).bind fun v8 => if v4 = v8 then ((some x2).map .inr) else some (.inl (x2 + (1 : Int32)))
noncomputable def f_X12_levelOf (σ : XS) (r0 : Nat) (x1 : Int32) : Option Int32 := xloop (f_X12_levelOf_b2 σ r0 x1) (0 : Int32)
theorem s_X12_levelOf_l2 {G : XG} (C : XC G cX12_levelOf RX12 (some .int) 3 0 0) {σ : XS} {r0 : Nat} {x1 : Int32} {a : Int32} {x : Int32} (hf : xloop (f_X12_levelOf_b2 σ r0 x1) a = some x) (hk : XEnd G (some (.int x)) σ) : WW G 2 [(0, .ref (gB G + r0)), (1, .int x1), (2, .int a)] [] σ := by
  refine xloop_ind (P := fun a => WW G 2 [(0, .ref (gB G + r0)), (1, .int x1), (2, .int a)] [] σ) (fun a y hf hc he => ?_) hf
  obtain ⟨x2, rfl⟩ : ∃ z, z = a := ⟨_, rfl⟩
  have hk : (∀ a' : Int32, y = .inl a' → WW G 2 [(0, .ref (gB G + r0)), (1, .int x1), (2, .int a')] [] σ) ∧ (∀ b1 : Int32, y = .inr b1 → XEnd G (some (.int b1)) σ) := ⟨hc, fun b e => by have h9 := he b e; subst h9; exact hk⟩
  refine ww_aload_n (pc := 2) C 0 dX12_levelOf_2 rfl ?_
  obtain ⟨z2, e1, hf⟩ := xbd hf
  refine gf_X12_63 (pc := 3) C e1 dX12_levelOf_3 ?_
  refine ww_iload_n (pc := 6) C 2 dX12_levelOf_6 rfl ?_
  obtain ⟨v4, e3, hf⟩ := xbd hf
  refine ww_iald (pc := 7) C e3 dX12_levelOf_7 ?_
  refine ww_aload_n (pc := 8) C 0 dX12_levelOf_8 rfl ?_
  obtain ⟨z6, e5, hf⟩ := xbd hf
  refine gf_X12_57 (pc := 9) C e5 dX12_levelOf_9 ?_
  refine ww_iload_n (pc := 12) C 1 dX12_levelOf_12 rfl ?_
  obtain ⟨v8, e7, hf⟩ := xbd hf
  refine ww_iald (pc := 13) C e7 dX12_levelOf_13 ?_
  refine ww_icmp_eq (pc := 14) (tgt := 23) C dX12_levelOf_14 (by decide) (fun q => ?_) (fun q => ?_)
  · have hf := xip q hf
    obtain ⟨b0, hg, e9⟩ := xmj hf
    subst e9
    have hf := hg
    have hk := hk.2 _ rfl
    refine ww_iload_n (pc := 23) C 2 dX12_levelOf_23 rfl ?_
    have hf := xsj hf
    subst hf
    exact ww_iret (pc := 24) C hk dX12_levelOf_24
  · have hf := xin q hf
    refine ww_iinc (pc := 17) (v := x2 + (1 : Int32)) (lv' := [(2, .int (x2 + (1 : Int32))), (0, .ref (gB G + r0)), (1, .int x1)]) C 2 dX12_levelOf_17 rfl (congrArg (fun z => x2 + z) (show Int32.ofInt (1) = (1 : Int32) by decide)) (by decide) rfl ?_
    refine ww_goto (pc := 20) (tgt := 2) C dX12_levelOf_20 (by decide) ?_
    have hf := xsj hf
    subst hf
    refine ww_sub [1, 2, 0] rfl ?_
    exact hk.1 (x2 + (1 : Int32)) rfl
theorem s_X12_levelOf_e {G : XG} (C : XC G cX12_levelOf RX12 (some .int) 3 0 0) {σ : XS} {r0 : Nat} {x1 : Int32} {x : Int32} (hf : f_X12_levelOf σ r0 x1 = some x) (hk : XEnd G (some (.int x)) σ) : WW G 0 [(0, .ref (gB G + r0)), (1, .int x1)] [] σ := by
  refine ww_iconst (pc := 0) (v := (0 : Int32)) C dX12_levelOf_0 (by decide) ?_
  refine ww_istore_n (pc := 1) (lv' := [(2, .int (0 : Int32)), (0, .ref (gB G + r0)), (1, .int x1)]) C dX12_levelOf_1 (by decide) rfl ?_
  refine ww_sub [1, 2, 0] rfl ?_
  exact s_X12_levelOf_l2 C (a := (0 : Int32)) hf hk
theorem k_X12_levelOf {l : Launch} {E : XD} {hb : Nat} {σ : XS} {r0 : Nat} {x1 : Int32} {x : Int32} (h : f_X12_levelOf σ r0 x1 = some x) : XM l yX12_levelOf cX12_levelOf 3 (some .int) 0 0 E hb [.ref (hb + r0), .int x1] σ (some (.int x)) σ := by
  refine xm_of (by decide) (Nat.le_of_ble_eq_true rfl) ⟨Nat.le_refl _, Nat.le_refl _⟩ (fun G hG C hl hQ => ?_)
  obtain ⟨rfl, rfl, rfl, hN⟩ := hG
  exact s_X12_levelOf_e C h hQ
noncomputable def f_X12_passes (σ : XS) (r0 : Nat) : Option XS := (xgI σ r0 12 11).bind fun v2 => if v2 = (400 : Int32) then ((xck σ r0 12).bind fun _ => (f_X12_fail σ r0 (2 : Int32)).bind fun σ5 => some σ5) else (xgI σ r0 12 11).bind fun v4 => (xpI σ r0 12 11 (v4 + (1 : Int32))).bind fun σ6 => some σ6
theorem s_X12_passes_e {G : XG} (C : XC G cX12_passes RX12 none 1 1 21) {σ : XS} {r0 : Nat} {x : XS} (hf : f_X12_passes σ r0 = some x) (hk : XEnd G none x) : WW G 0 [(0, .ref (gB G + r0))] [] σ := by
  refine ww_aload_n (pc := 0) C 0 dX12_passes_0 rfl ?_
  obtain ⟨v2, e1, hf⟩ := xbd hf
  refine gf_X12_135 (pc := 1) C e1 dX12_passes_1 ?_
  refine ww_sipush (pc := 4) (v := (400 : Int32)) C dX12_passes_4 (by decide) ?_
  refine ww_icmp_ne (pc := 7) (tgt := 18) C dX12_passes_7 (by decide) (fun q => ?_) (fun q => ?_)
  · have hf := xin q hf
    refine ww_aload_n (pc := 18) C 0 dX12_passes_18 rfl ?_
    refine ww_dup (pc := 19) C dX12_passes_19 rfl ?_
    obtain ⟨v4, e3, hf⟩ := xbd hf
    refine gf_X12_135 (pc := 20) C e3 dX12_passes_20 ?_
    refine ww_iconst (pc := 23) (v := (1 : Int32)) C dX12_passes_23 (by decide) ?_
    refine ww_iadd (pc := 24) C dX12_passes_24 ?_
    obtain ⟨σ6, e5, hf⟩ := xbd hf
    refine pf_X12_135 (pc := 25) C e5 dX12_passes_25 ?_
    have hf := xsj hf
    subst hf
    exact ww_vret (pc := 28) C hk dX12_passes_28
  · have hf := xip q hf
    refine ww_aload_n (pc := 10) C 0 dX12_passes_10 rfl ?_
    refine ww_iconst (pc := 11) (v := (2 : Int32)) C dX12_passes_11 (by decide) ?_
    obtain ⟨_, e3, hf⟩ := xbd hf
    obtain ⟨σ5, e4, hf⟩ := xbd hf
    refine ww_callVv (pc := 12) (as := [.int (2 : Int32)]) (st := []) C (k_X12_fail (l := gl G) (E := gE G) (hb := gB G) (σ := σ) e4) rfl (by decide) xc_X12_147 q1454 qp127 (xck_spec e3) rfl (by decide) (xst4 (Nat.le_of_ble_eq_true rfl)) (m_X12_fail e4).le (m_X12_fail e4).lim dX12_passes_12 ?_
    refine ww_goto (pc := 15) (tgt := 28) C dX12_passes_15 (by decide) ?_
    have hf := xsj hf
    subst hf
    exact ww_vret (pc := 28) C hk dX12_passes_28
theorem m_X12_passes {σ : XS} {r0 : Nat} {x : XS} (hf : f_X12_passes σ r0 = some x) : xsame σ x := by
  have hm := xsame.rf (σ := σ)
  obtain ⟨v2, e1, hf⟩ := xbd hf
  by_cases q : v2 = (400 : Int32)
  · have hf := xip q hf
    obtain ⟨_, e3, hf⟩ := xbd hf
    obtain ⟨σ5, e4, hf⟩ := xbd hf
    have hm := hm.tr (m_X12_fail e4)
    have hf := xsj hf
    subst hf
    exact hm
  · have hf := xin q hf
    obtain ⟨v4, e3, hf⟩ := xbd hf
    obtain ⟨σ6, e5, hf⟩ := xbd hf
    have hm := hm.tr (xpI_same e5)
    have hf := xsj hf
    subst hf
    exact hm
theorem k_X12_passes {l : Launch} {E : XD} {hb : Nat} {σ : XS} {r0 : Nat} {x : XS} (h : f_X12_passes σ r0 = some x) : XM l yX12_passes cX12_passes 1 none 1 21 E hb [.ref (hb + r0)] σ none x := by
  refine xm_of (by decide) (Nat.le_of_ble_eq_true rfl) (m_X12_passes h).le (fun G hG C hl hQ => ?_)
  obtain ⟨rfl, rfl, rfl, hN⟩ := hG
  exact s_X12_passes_e C h hQ
noncomputable def f_X12_must (σ : XS) (r0 : Nat) (x1 : Int32) : Option XS := (xck σ r0 12).bind fun _ => (f_X12_is σ r0 x1).bind fun v3 => if v3 = 0 then ((xck σ r0 12).bind fun _ => (f_X12_fail σ r0 (1 : Int32)).bind fun σ6 => some σ6) else (xck σ r0 12).bind fun _ => (f_X12_passes σ r0).bind fun σ6 => some σ6
theorem s_X12_must_e {G : XG} (C : XC G cX12_must RX12 none 2 2 41) {σ : XS} {r0 : Nat} {x1 : Int32} {x : XS} (hf : f_X12_must σ r0 x1 = some x) (hk : XEnd G none x) : WW G 0 [(0, .ref (gB G + r0)), (1, .int x1)] [] σ := by
  refine ww_aload_n (pc := 0) C 0 dX12_must_0 rfl ?_
  refine ww_iload_n (pc := 1) C 1 dX12_must_1 rfl ?_
  obtain ⟨_, e1, hf⟩ := xbd hf
  obtain ⟨v3, e2, hf⟩ := xbd hf
  refine ww_callVi (pc := 2) (as := [.int x1]) (st := []) C (k_X12_is (l := gl G) (E := gE G) (hb := gB G) (σ := σ) e2) rfl (by decide) xc_X12_150 q1446 qp125 (xck_spec e1) rfl (by decide) (xst4 (Nat.le_of_ble_eq_true rfl)) xsame.rf.le xsame.rf.lim dX12_must_2 ?_
  refine ww_if_eq (pc := 5) (tgt := 15) C dX12_must_5 (by decide) (fun q => ?_) (fun q => ?_)
  · have hf := xip q hf
    refine ww_aload_n (pc := 15) C 0 dX12_must_15 rfl ?_
    refine ww_iconst (pc := 16) (v := (1 : Int32)) C dX12_must_16 (by decide) ?_
    obtain ⟨_, e4, hf⟩ := xbd hf
    obtain ⟨σ6, e5, hf⟩ := xbd hf
    refine ww_callVv (pc := 17) (as := [.int (1 : Int32)]) (st := []) C (k_X12_fail (l := gl G) (E := gE G) (hb := gB G) (σ := σ) e5) rfl (by decide) xc_X12_147 q1454 qp127 (xck_spec e4) rfl (by decide) (xst4 (Nat.le_of_ble_eq_true rfl)) (m_X12_fail e5).le (m_X12_fail e5).lim dX12_must_17 ?_
    have hf := xsj hf
    subst hf
    exact ww_vret (pc := 20) C hk dX12_must_20
  · have hf := xin q hf
    refine ww_aload_n (pc := 8) C 0 dX12_must_8 rfl ?_
    obtain ⟨_, e4, hf⟩ := xbd hf
    obtain ⟨σ6, e5, hf⟩ := xbd hf
    refine ww_callVv (pc := 9) (as := []) (st := []) C (k_X12_passes (l := gl G) (E := gE G) (hb := gB G) (σ := σ) e5) rfl (by decide) xc_X12_153 q1450 qp126 (xck_spec e4) rfl (by decide) (xst4 (Nat.le_of_ble_eq_true rfl)) (m_X12_passes e5).le (m_X12_passes e5).lim dX12_must_9 ?_
    refine ww_goto (pc := 12) (tgt := 20) C dX12_must_12 (by decide) ?_
    have hf := xsj hf
    subst hf
    exact ww_vret (pc := 20) C hk dX12_must_20
theorem m_X12_must {σ : XS} {r0 : Nat} {x1 : Int32} {x : XS} (hf : f_X12_must σ r0 x1 = some x) : xsame σ x := by
  have hm := xsame.rf (σ := σ)
  obtain ⟨_, e1, hf⟩ := xbd hf
  obtain ⟨v3, e2, hf⟩ := xbd hf
  by_cases q : v3 = 0
  · have hf := xip q hf
    obtain ⟨_, e4, hf⟩ := xbd hf
    obtain ⟨σ6, e5, hf⟩ := xbd hf
    have hm := hm.tr (m_X12_fail e5)
    have hf := xsj hf
    subst hf
    exact hm
  · have hf := xin q hf
    obtain ⟨_, e4, hf⟩ := xbd hf
    obtain ⟨σ6, e5, hf⟩ := xbd hf
    have hm := hm.tr (m_X12_passes e5)
    have hf := xsj hf
    subst hf
    exact hm
theorem k_X12_must {l : Launch} {E : XD} {hb : Nat} {σ : XS} {r0 : Nat} {x1 : Int32} {x : XS} (h : f_X12_must σ r0 x1 = some x) : XM l yX12_must cX12_must 2 none 2 41 E hb [.ref (hb + r0), .int x1] σ none x := by
  refine xm_of (by decide) (Nat.le_of_ble_eq_true rfl) (m_X12_must h).le (fun G hG C hl hQ => ?_)
  obtain ⟨rfl, rfl, rfl, hN⟩ := hG
  exact s_X12_must_e C h hQ
noncomputable def f_X12_mustJ_j12 (σ : XS) (r0 : Nat) : Option XS := (xck σ r0 12).bind fun _ => (f_X12_must σ r0 (2 : Int32)).bind fun σ3 => some σ3
noncomputable def f_X12_mustJ (σ : XS) (r0 : Nat) : Option XS := (xck σ r0 12).bind fun _ => (f_X12_is σ r0 (5 : Int32)).bind fun v3 => if v3 = 0 then (f_X12_mustJ_j12 σ r0) else (xck σ r0 12).bind fun _ => (f_X12_passes σ r0).bind fun σ6 => f_X12_mustJ_j12 σ6 r0
theorem s_X12_mustJ_j12 {G : XG} (C : XC G cX12_mustJ RX12 none 1 3 62) {σ : XS} {r0 : Nat} {x : XS} (hf : f_X12_mustJ_j12 σ r0 = some x) (hk : XEnd G none x) : WW G 12 [(0, .ref (gB G + r0))] [] σ := by
  refine ww_aload_n (pc := 12) C 0 dX12_mustJ_12 rfl ?_
  refine ww_iconst (pc := 13) (v := (2 : Int32)) C dX12_mustJ_13 (by decide) ?_
  obtain ⟨_, e1, hf⟩ := xbd hf
  obtain ⟨σ3, e2, hf⟩ := xbd hf
  refine ww_callVv (pc := 14) (as := [.int (2 : Int32)]) (st := []) C (k_X12_must (l := gl G) (E := gE G) (hb := gB G) (σ := σ) e2) rfl (by decide) xc_X12_159 q1442 qp124 (xck_spec e1) rfl (by decide) (xst4 (Nat.le_of_ble_eq_true rfl)) (m_X12_must e2).le (m_X12_must e2).lim dX12_mustJ_14 ?_
  have hf := xsj hf
  subst hf
  exact ww_vret (pc := 17) C hk dX12_mustJ_17
theorem m_X12_mustJ_j12 {σ : XS} {r0 : Nat} {x : XS} (hf : f_X12_mustJ_j12 σ r0 = some x) : xsame σ x := by
  have hm := xsame.rf (σ := σ)
  obtain ⟨_, e1, hf⟩ := xbd hf
  obtain ⟨σ3, e2, hf⟩ := xbd hf
  have hm := hm.tr (m_X12_must e2)
  have hf := xsj hf
  subst hf
  exact hm
theorem s_X12_mustJ_e {G : XG} (C : XC G cX12_mustJ RX12 none 1 3 62) {σ : XS} {r0 : Nat} {x : XS} (hf : f_X12_mustJ σ r0 = some x) (hk : XEnd G none x) : WW G 0 [(0, .ref (gB G + r0))] [] σ := by
  refine ww_aload_n (pc := 0) C 0 dX12_mustJ_0 rfl ?_
  refine ww_iconst (pc := 1) (v := (5 : Int32)) C dX12_mustJ_1 (by decide) ?_
  obtain ⟨_, e1, hf⟩ := xbd hf
  obtain ⟨v3, e2, hf⟩ := xbd hf
  refine ww_callVi (pc := 2) (as := [.int (5 : Int32)]) (st := []) C (k_X12_is (l := gl G) (E := gE G) (hb := gB G) (σ := σ) e2) rfl (by decide) xc_X12_150 q1446 qp125 (xck_spec e1) rfl (by decide) (xst4 (Nat.le_of_ble_eq_true rfl)) xsame.rf.le xsame.rf.lim dX12_mustJ_2 ?_
  refine ww_if_eq (pc := 5) (tgt := 12) C dX12_mustJ_5 (by decide) (fun q => ?_) (fun q => ?_)
  · have hf := xip q hf
    refine ww_sub [0] rfl ?_
    exact s_X12_mustJ_j12 C hf hk
  · have hf := xin q hf
    refine ww_aload_n (pc := 8) C 0 dX12_mustJ_8 rfl ?_
    obtain ⟨_, e4, hf⟩ := xbd hf
    obtain ⟨σ6, e5, hf⟩ := xbd hf
    refine ww_callVv (pc := 9) (as := []) (st := []) C (k_X12_passes (l := gl G) (E := gE G) (hb := gB G) (σ := σ) e5) rfl (by decide) xc_X12_153 q1450 qp126 (xck_spec e4) rfl (by decide) (xst4 (Nat.le_of_ble_eq_true rfl)) (m_X12_passes e5).le (m_X12_passes e5).lim dX12_mustJ_9 ?_
    refine ww_sub [0] rfl ?_
    exact s_X12_mustJ_j12 C hf hk
theorem m_X12_mustJ {σ : XS} {r0 : Nat} {x : XS} (hf : f_X12_mustJ σ r0 = some x) : xsame σ x := by
  have hm := xsame.rf (σ := σ)
  obtain ⟨_, e1, hf⟩ := xbd hf
  obtain ⟨v3, e2, hf⟩ := xbd hf
  by_cases q : v3 = 0
  · have hf := xip q hf
    exact hm.tr (m_X12_mustJ_j12 hf)
  · have hf := xin q hf
    obtain ⟨_, e4, hf⟩ := xbd hf
    obtain ⟨σ6, e5, hf⟩ := xbd hf
    have hm := hm.tr (m_X12_passes e5)
    exact hm.tr (m_X12_mustJ_j12 hf)
theorem k_X12_mustJ {l : Launch} {E : XD} {hb : Nat} {σ : XS} {r0 : Nat} {x : XS} (h : f_X12_mustJ σ r0 = some x) : XM l yX12_mustJ cX12_mustJ 1 none 3 62 E hb [.ref (hb + r0)] σ none x := by
  refine xm_of (by decide) (Nat.le_of_ble_eq_true rfl) (m_X12_mustJ h).le (fun G hG C hl hQ => ?_)
  obtain ⟨rfl, rfl, rfl, hN⟩ := hG
  exact s_X12_mustJ_e C h hQ
noncomputable def f_X12_mustWay (σ : XS) (r0 : Nat) : Option XS := (xck σ r0 12).bind fun _ => (f_X12_is σ r0 (21 : Int32)).bind fun v3 => if v3 = 0 then ((xck σ r0 12).bind fun _ => (f_X12_must σ r0 (22 : Int32)).bind fun σ6 => some σ6) else (xck σ r0 12).bind fun _ => (f_X12_passes σ r0).bind fun σ6 => some σ6
theorem s_X12_mustWay_e {G : XG} (C : XC G cX12_mustWay RX12 none 1 3 62) {σ : XS} {r0 : Nat} {x : XS} (hf : f_X12_mustWay σ r0 = some x) (hk : XEnd G none x) : WW G 0 [(0, .ref (gB G + r0))] [] σ := by
  refine ww_aload_n (pc := 0) C 0 dX12_mustWay_0 rfl ?_
  refine ww_bipush (pc := 1) (v := (21 : Int32)) C dX12_mustWay_1 (by decide) ?_
  obtain ⟨_, e1, hf⟩ := xbd hf
  obtain ⟨v3, e2, hf⟩ := xbd hf
  refine ww_callVi (pc := 3) (as := [.int (21 : Int32)]) (st := []) C (k_X12_is (l := gl G) (E := gE G) (hb := gB G) (σ := σ) e2) rfl (by decide) xc_X12_150 q1446 qp125 (xck_spec e1) rfl (by decide) (xst4 (Nat.le_of_ble_eq_true rfl)) xsame.rf.le xsame.rf.lim dX12_mustWay_3 ?_
  refine ww_if_eq (pc := 6) (tgt := 16) C dX12_mustWay_6 (by decide) (fun q => ?_) (fun q => ?_)
  · have hf := xip q hf
    refine ww_aload_n (pc := 16) C 0 dX12_mustWay_16 rfl ?_
    refine ww_bipush (pc := 17) (v := (22 : Int32)) C dX12_mustWay_17 (by decide) ?_
    obtain ⟨_, e4, hf⟩ := xbd hf
    obtain ⟨σ6, e5, hf⟩ := xbd hf
    refine ww_callVv (pc := 19) (as := [.int (22 : Int32)]) (st := []) C (k_X12_must (l := gl G) (E := gE G) (hb := gB G) (σ := σ) e5) rfl (by decide) xc_X12_159 q1442 qp124 (xck_spec e4) rfl (by decide) (xst4 (Nat.le_of_ble_eq_true rfl)) (m_X12_must e5).le (m_X12_must e5).lim dX12_mustWay_19 ?_
    have hf := xsj hf
    subst hf
    exact ww_vret (pc := 22) C hk dX12_mustWay_22
  · have hf := xin q hf
    refine ww_aload_n (pc := 9) C 0 dX12_mustWay_9 rfl ?_
    obtain ⟨_, e4, hf⟩ := xbd hf
    obtain ⟨σ6, e5, hf⟩ := xbd hf
    refine ww_callVv (pc := 10) (as := []) (st := []) C (k_X12_passes (l := gl G) (E := gE G) (hb := gB G) (σ := σ) e5) rfl (by decide) xc_X12_153 q1450 qp126 (xck_spec e4) rfl (by decide) (xst4 (Nat.le_of_ble_eq_true rfl)) (m_X12_passes e5).le (m_X12_passes e5).lim dX12_mustWay_10 ?_
    refine ww_goto (pc := 13) (tgt := 22) C dX12_mustWay_13 (by decide) ?_
    have hf := xsj hf
    subst hf
    exact ww_vret (pc := 22) C hk dX12_mustWay_22
theorem m_X12_mustWay {σ : XS} {r0 : Nat} {x : XS} (hf : f_X12_mustWay σ r0 = some x) : xsame σ x := by
  have hm := xsame.rf (σ := σ)
  obtain ⟨_, e1, hf⟩ := xbd hf
  obtain ⟨v3, e2, hf⟩ := xbd hf
  by_cases q : v3 = 0
  · have hf := xip q hf
    obtain ⟨_, e4, hf⟩ := xbd hf
    obtain ⟨σ6, e5, hf⟩ := xbd hf
    have hm := hm.tr (m_X12_must e5)
    have hf := xsj hf
    subst hf
    exact hm
  · have hf := xin q hf
    obtain ⟨_, e4, hf⟩ := xbd hf
    obtain ⟨σ6, e5, hf⟩ := xbd hf
    have hm := hm.tr (m_X12_passes e5)
    have hf := xsj hf
    subst hf
    exact hm
theorem k_X12_mustWay {l : Launch} {E : XD} {hb : Nat} {σ : XS} {r0 : Nat} {x : XS} (h : f_X12_mustWay σ r0 = some x) : XM l yX12_mustWay cX12_mustWay 1 none 3 62 E hb [.ref (hb + r0)] σ none x := by
  refine xm_of (by decide) (Nat.le_of_ble_eq_true rfl) (m_X12_mustWay h).le (fun G hG C hl hQ => ?_)
  obtain ⟨rfl, rfl, rfl, hN⟩ := hG
  exact s_X12_mustWay_e C h hQ
noncomputable def f_X12_line_j174 (σ : XS) (r0 : Nat) : Option XS := (xck σ r0 12).bind fun _ => (f_X12_must σ r0 (4 : Int32)).bind fun σ3 => some σ3
noncomputable def f_X12_line (σ : XS) (r0 : Nat) : Option XS := (xgR σ r0 12 5).bind fun z2 => (xgI σ r0 12 11).bind fun v4 => (xaI σ 20 z2 v4).bind fun v6 => xsw v6 (21) [(xck σ r0 12).bind fun _ => (f_X12_passes σ r0).bind fun σ9 => (xck σ9 r0 12).bind fun _ => (f_X12_mustJ σ9 r0).bind fun σ12 => f_X12_line_j174 σ12 r0, (xck σ r0 12).bind fun _ => (f_X12_passes σ r0).bind fun σ9 => (xck σ9 r0 12).bind fun _ => (f_X12_mustJ σ9 r0).bind fun σ12 => f_X12_line_j174 σ12 r0, (xck σ r0 12).bind fun _ => (f_X12_passes σ r0).bind fun σ9 => (xck σ9 r0 12).bind fun _ => (f_X12_mustJ σ9 r0).bind fun σ12 => f_X12_line_j174 σ12 r0, (xck σ r0 12).bind fun _ => (f_X12_passes σ r0).bind fun σ9 => (xck σ9 r0 12).bind fun _ => (f_X12_mustWay σ9 r0).bind fun σ12 => f_X12_line_j174 σ12 r0, (xck σ r0 12).bind fun _ => (f_X12_passes σ r0).bind fun σ9 => (xck σ9 r0 12).bind fun _ => (f_X12_must σ9 r0 (2 : Int32)).bind fun σ12 => (xck σ12 r0 12).bind fun _ => (f_X12_mustWay σ12 r0).bind fun σ15 => (xck σ15 r0 12).bind fun _ => (f_X12_mustJ σ15 r0).bind fun σ18 => f_X12_line_j174 σ18 r0, (xck σ r0 12).bind fun _ => (f_X12_passes σ r0).bind fun σ9 => (xck σ9 r0 12).bind fun _ => (f_X12_must σ9 r0 (2 : Int32)).bind fun σ12 => (xck σ12 r0 12).bind fun _ => (f_X12_mustJ σ12 r0).bind fun σ15 => f_X12_line_j174 σ15 r0, (xck σ r0 12).bind fun _ => (f_X12_passes σ r0).bind fun σ9 => (xck σ9 r0 12).bind fun _ => (f_X12_must σ9 r0 (2 : Int32)).bind fun σ12 => (xck σ12 r0 12).bind fun _ => (f_X12_is σ12 r0 (28 : Int32)).bind fun v15 => if v15 = 0 then ((xck σ12 r0 12).bind fun _ => (f_X12_must σ12 r0 (29 : Int32)).bind fun σ18 => f_X12_line_j174 σ18 r0) else (xck σ12 r0 12).bind fun _ => (f_X12_passes σ12 r0).bind fun σ18 => f_X12_line_j174 σ18 r0, (xck σ r0 12).bind fun _ => (f_X12_fail σ r0 (1 : Int32)).bind fun σ9 => some σ9, (xck σ r0 12).bind fun _ => (f_X12_fail σ r0 (1 : Int32)).bind fun σ9 => some σ9, (xck σ r0 12).bind fun _ => (f_X12_passes σ r0).bind fun σ9 => (xck σ9 r0 12).bind fun _ => (f_X12_must σ9 r0 (2 : Int32)).bind fun σ12 => f_X12_line_j174 σ12 r0] ((xck σ r0 12).bind fun _ => (f_X12_fail σ r0 (1 : Int32)).bind fun σ9 => some σ9)
theorem s_X12_line_j174 {G : XG} (C : XC G cX12_line RX12 none 2 4 82) {σ : XS} {r0 : Nat} {x : XS} (hf : f_X12_line_j174 σ r0 = some x) (hk : XEnd G none x) : WW G 174 [(0, .ref (gB G + r0))] [] σ := by
  refine ww_aload_n (pc := 174) C 0 dX12_line_174 rfl ?_
  refine ww_iconst (pc := 175) (v := (4 : Int32)) C dX12_line_175 (by decide) ?_
  obtain ⟨_, e1, hf⟩ := xbd hf
  obtain ⟨σ3, e2, hf⟩ := xbd hf
  refine ww_callVv (pc := 176) (as := [.int (4 : Int32)]) (st := []) C (k_X12_must (l := gl G) (E := gE G) (hb := gB G) (σ := σ) e2) rfl (by decide) xc_X12_159 q1442 qp124 (xck_spec e1) rfl (by decide) (xst4 (Nat.le_of_ble_eq_true rfl)) (m_X12_must e2).le (m_X12_must e2).lim dX12_line_176 ?_
  have hf := xsj hf
  subst hf
  exact ww_vret (pc := 179) C hk dX12_line_179
theorem m_X12_line_j174 {σ : XS} {r0 : Nat} {x : XS} (hf : f_X12_line_j174 σ r0 = some x) : xsame σ x := by
  have hm := xsame.rf (σ := σ)
  obtain ⟨_, e1, hf⟩ := xbd hf
  obtain ⟨σ3, e2, hf⟩ := xbd hf
  have hm := hm.tr (m_X12_must e2)
  have hf := xsj hf
  subst hf
  exact hm
theorem s_X12_line_e {G : XG} (C : XC G cX12_line RX12 none 2 4 82) {σ : XS} {r0 : Nat} {x : XS} (hf : f_X12_line σ r0 = some x) (hk : XEnd G none x) : WW G 0 [(0, .ref (gB G + r0))] [] σ := by
  refine ww_aload_n (pc := 0) C 0 dX12_line_0 rfl ?_
  obtain ⟨z2, e1, hf⟩ := xbd hf
  refine gf_X12_20 (pc := 1) C e1 dX12_line_1 ?_
  refine ww_aload_n (pc := 4) C 0 dX12_line_4 rfl ?_
  obtain ⟨v4, e3, hf⟩ := xbd hf
  refine gf_X12_135 (pc := 5) C e3 dX12_line_5 ?_
  obtain ⟨v6, e5, hf⟩ := xbd hf
  refine ww_iald (pc := 8) C e5 dX12_line_8 ?_
  refine ww_istore_n (pc := 9) (lv' := [(1, .int v6), (0, .ref (gB G + r0))]) C dX12_line_9 (by decide) rfl ?_
  refine ww_iload_n (pc := 10) C 0 dX12_line_10 rfl ?_
  refine ww_table (pc := 11) C dX12_line_11 (fun k hk1 hk2 => ?_) (fun ho => ?_)
  · rcases (by omega : k = 0 ∨ k = 1 ∨ k = 2 ∨ k = 3 ∨ k = 4 ∨ k = 5 ∨ k = 6 ∨ k = 7 ∨ k = 8 ∨ k = 9) with rfl | rfl | rfl | rfl | rfl | rfl | rfl | rfl | rfl | rfl
    · refine ⟨64, 53, rfl, by decide, ?_⟩
      have hf := xsw_in 0 hk1 rfl hf
      refine ww_aload_n (pc := 64) C 1 dX12_line_64 rfl ?_
      obtain ⟨_, e7, hf⟩ := xbd hf
      obtain ⟨σ9, e8, hf⟩ := xbd hf
      refine ww_callVv (pc := 65) (as := []) (st := []) C (k_X12_passes (l := gl G) (E := gE G) (hb := gB G) (σ := σ) e8) rfl (by decide) xc_X12_153 q1450 qp126 (xck_spec e7) rfl (by decide) (xst4 (Nat.le_of_ble_eq_true rfl)) (m_X12_passes e8).le (m_X12_passes e8).lim dX12_line_65 ?_
      refine ww_aload_n (pc := 68) C 1 dX12_line_68 rfl ?_
      obtain ⟨_, e10, hf⟩ := xbd hf
      obtain ⟨σ12, e11, hf⟩ := xbd hf
      refine ww_callVv (pc := 69) (as := []) (st := []) C (k_X12_mustJ (l := gl G) (E := gE G) (hb := gB G) (σ := σ9) e11) rfl (by decide) xc_X12_203 q1462 qp129 (xck_spec e10) rfl (by decide) (xst4 (Nat.le_of_ble_eq_true rfl)) (m_X12_mustJ e11).le (m_X12_mustJ e11).lim dX12_line_69 ?_
      refine ww_goto (pc := 72) (tgt := 174) C dX12_line_72 (by decide) ?_
      refine ww_sub [1] rfl ?_
      exact s_X12_line_j174 C hf hk
    · refine ⟨64, 53, rfl, by decide, ?_⟩
      have hf := xsw_in 1 hk1 rfl hf
      refine ww_aload_n (pc := 64) C 1 dX12_line_64 rfl ?_
      obtain ⟨_, e7, hf⟩ := xbd hf
      obtain ⟨σ9, e8, hf⟩ := xbd hf
      refine ww_callVv (pc := 65) (as := []) (st := []) C (k_X12_passes (l := gl G) (E := gE G) (hb := gB G) (σ := σ) e8) rfl (by decide) xc_X12_153 q1450 qp126 (xck_spec e7) rfl (by decide) (xst4 (Nat.le_of_ble_eq_true rfl)) (m_X12_passes e8).le (m_X12_passes e8).lim dX12_line_65 ?_
      refine ww_aload_n (pc := 68) C 1 dX12_line_68 rfl ?_
      obtain ⟨_, e10, hf⟩ := xbd hf
      obtain ⟨σ12, e11, hf⟩ := xbd hf
      refine ww_callVv (pc := 69) (as := []) (st := []) C (k_X12_mustJ (l := gl G) (E := gE G) (hb := gB G) (σ := σ9) e11) rfl (by decide) xc_X12_203 q1462 qp129 (xck_spec e10) rfl (by decide) (xst4 (Nat.le_of_ble_eq_true rfl)) (m_X12_mustJ e11).le (m_X12_mustJ e11).lim dX12_line_69 ?_
      refine ww_goto (pc := 72) (tgt := 174) C dX12_line_72 (by decide) ?_
      refine ww_sub [1] rfl ?_
      exact s_X12_line_j174 C hf hk
    · refine ⟨64, 53, rfl, by decide, ?_⟩
      have hf := xsw_in 2 hk1 rfl hf
      refine ww_aload_n (pc := 64) C 1 dX12_line_64 rfl ?_
      obtain ⟨_, e7, hf⟩ := xbd hf
      obtain ⟨σ9, e8, hf⟩ := xbd hf
      refine ww_callVv (pc := 65) (as := []) (st := []) C (k_X12_passes (l := gl G) (E := gE G) (hb := gB G) (σ := σ) e8) rfl (by decide) xc_X12_153 q1450 qp126 (xck_spec e7) rfl (by decide) (xst4 (Nat.le_of_ble_eq_true rfl)) (m_X12_passes e8).le (m_X12_passes e8).lim dX12_line_65 ?_
      refine ww_aload_n (pc := 68) C 1 dX12_line_68 rfl ?_
      obtain ⟨_, e10, hf⟩ := xbd hf
      obtain ⟨σ12, e11, hf⟩ := xbd hf
      refine ww_callVv (pc := 69) (as := []) (st := []) C (k_X12_mustJ (l := gl G) (E := gE G) (hb := gB G) (σ := σ9) e11) rfl (by decide) xc_X12_203 q1462 qp129 (xck_spec e10) rfl (by decide) (xst4 (Nat.le_of_ble_eq_true rfl)) (m_X12_mustJ e11).le (m_X12_mustJ e11).lim dX12_line_69 ?_
      refine ww_goto (pc := 72) (tgt := 174) C dX12_line_72 (by decide) ?_
      refine ww_sub [1] rfl ?_
      exact s_X12_line_j174 C hf hk
    · refine ⟨75, 64, rfl, by decide, ?_⟩
      have hf := xsw_in 3 hk1 rfl hf
      refine ww_aload_n (pc := 75) C 1 dX12_line_75 rfl ?_
      obtain ⟨_, e7, hf⟩ := xbd hf
      obtain ⟨σ9, e8, hf⟩ := xbd hf
      refine ww_callVv (pc := 76) (as := []) (st := []) C (k_X12_passes (l := gl G) (E := gE G) (hb := gB G) (σ := σ) e8) rfl (by decide) xc_X12_153 q1450 qp126 (xck_spec e7) rfl (by decide) (xst4 (Nat.le_of_ble_eq_true rfl)) (m_X12_passes e8).le (m_X12_passes e8).lim dX12_line_76 ?_
      refine ww_aload_n (pc := 79) C 1 dX12_line_79 rfl ?_
      obtain ⟨_, e10, hf⟩ := xbd hf
      obtain ⟨σ12, e11, hf⟩ := xbd hf
      refine ww_callVv (pc := 80) (as := []) (st := []) C (k_X12_mustWay (l := gl G) (E := gE G) (hb := gB G) (σ := σ9) e11) rfl (by decide) xc_X12_206 q1466 qp130 (xck_spec e10) rfl (by decide) (xst4 (Nat.le_of_ble_eq_true rfl)) (m_X12_mustWay e11).le (m_X12_mustWay e11).lim dX12_line_80 ?_
      refine ww_goto (pc := 83) (tgt := 174) C dX12_line_83 (by decide) ?_
      refine ww_sub [1] rfl ?_
      exact s_X12_line_j174 C hf hk
    · refine ⟨86, 75, rfl, by decide, ?_⟩
      have hf := xsw_in 4 hk1 rfl hf
      refine ww_aload_n (pc := 86) C 1 dX12_line_86 rfl ?_
      obtain ⟨_, e7, hf⟩ := xbd hf
      obtain ⟨σ9, e8, hf⟩ := xbd hf
      refine ww_callVv (pc := 87) (as := []) (st := []) C (k_X12_passes (l := gl G) (E := gE G) (hb := gB G) (σ := σ) e8) rfl (by decide) xc_X12_153 q1450 qp126 (xck_spec e7) rfl (by decide) (xst4 (Nat.le_of_ble_eq_true rfl)) (m_X12_passes e8).le (m_X12_passes e8).lim dX12_line_87 ?_
      refine ww_aload_n (pc := 90) C 1 dX12_line_90 rfl ?_
      refine ww_iconst (pc := 91) (v := (2 : Int32)) C dX12_line_91 (by decide) ?_
      obtain ⟨_, e10, hf⟩ := xbd hf
      obtain ⟨σ12, e11, hf⟩ := xbd hf
      refine ww_callVv (pc := 92) (as := [.int (2 : Int32)]) (st := []) C (k_X12_must (l := gl G) (E := gE G) (hb := gB G) (σ := σ9) e11) rfl (by decide) xc_X12_159 q1442 qp124 (xck_spec e10) rfl (by decide) (xst4 (Nat.le_of_ble_eq_true rfl)) (m_X12_must e11).le (m_X12_must e11).lim dX12_line_92 ?_
      refine ww_aload_n (pc := 95) C 1 dX12_line_95 rfl ?_
      obtain ⟨_, e13, hf⟩ := xbd hf
      obtain ⟨σ15, e14, hf⟩ := xbd hf
      refine ww_callVv (pc := 96) (as := []) (st := []) C (k_X12_mustWay (l := gl G) (E := gE G) (hb := gB G) (σ := σ12) e14) rfl (by decide) xc_X12_206 q1466 qp130 (xck_spec e13) rfl (by decide) (xst4 (Nat.le_of_ble_eq_true rfl)) (m_X12_mustWay e14).le (m_X12_mustWay e14).lim dX12_line_96 ?_
      refine ww_aload_n (pc := 99) C 1 dX12_line_99 rfl ?_
      obtain ⟨_, e16, hf⟩ := xbd hf
      obtain ⟨σ18, e17, hf⟩ := xbd hf
      refine ww_callVv (pc := 100) (as := []) (st := []) C (k_X12_mustJ (l := gl G) (E := gE G) (hb := gB G) (σ := σ15) e17) rfl (by decide) xc_X12_203 q1462 qp129 (xck_spec e16) rfl (by decide) (xst4 (Nat.le_of_ble_eq_true rfl)) (m_X12_mustJ e17).le (m_X12_mustJ e17).lim dX12_line_100 ?_
      refine ww_goto (pc := 103) (tgt := 174) C dX12_line_103 (by decide) ?_
      refine ww_sub [1] rfl ?_
      exact s_X12_line_j174 C hf hk
    · refine ⟨106, 95, rfl, by decide, ?_⟩
      have hf := xsw_in 5 hk1 rfl hf
      refine ww_aload_n (pc := 106) C 1 dX12_line_106 rfl ?_
      obtain ⟨_, e7, hf⟩ := xbd hf
      obtain ⟨σ9, e8, hf⟩ := xbd hf
      refine ww_callVv (pc := 107) (as := []) (st := []) C (k_X12_passes (l := gl G) (E := gE G) (hb := gB G) (σ := σ) e8) rfl (by decide) xc_X12_153 q1450 qp126 (xck_spec e7) rfl (by decide) (xst4 (Nat.le_of_ble_eq_true rfl)) (m_X12_passes e8).le (m_X12_passes e8).lim dX12_line_107 ?_
      refine ww_aload_n (pc := 110) C 1 dX12_line_110 rfl ?_
      refine ww_iconst (pc := 111) (v := (2 : Int32)) C dX12_line_111 (by decide) ?_
      obtain ⟨_, e10, hf⟩ := xbd hf
      obtain ⟨σ12, e11, hf⟩ := xbd hf
      refine ww_callVv (pc := 112) (as := [.int (2 : Int32)]) (st := []) C (k_X12_must (l := gl G) (E := gE G) (hb := gB G) (σ := σ9) e11) rfl (by decide) xc_X12_159 q1442 qp124 (xck_spec e10) rfl (by decide) (xst4 (Nat.le_of_ble_eq_true rfl)) (m_X12_must e11).le (m_X12_must e11).lim dX12_line_112 ?_
      refine ww_aload_n (pc := 115) C 1 dX12_line_115 rfl ?_
      obtain ⟨_, e13, hf⟩ := xbd hf
      obtain ⟨σ15, e14, hf⟩ := xbd hf
      refine ww_callVv (pc := 116) (as := []) (st := []) C (k_X12_mustJ (l := gl G) (E := gE G) (hb := gB G) (σ := σ12) e14) rfl (by decide) xc_X12_203 q1462 qp129 (xck_spec e13) rfl (by decide) (xst4 (Nat.le_of_ble_eq_true rfl)) (m_X12_mustJ e14).le (m_X12_mustJ e14).lim dX12_line_116 ?_
      refine ww_goto (pc := 119) (tgt := 174) C dX12_line_119 (by decide) ?_
      refine ww_sub [1] rfl ?_
      exact s_X12_line_j174 C hf hk
    · refine ⟨122, 111, rfl, by decide, ?_⟩
      have hf := xsw_in 6 hk1 rfl hf
      refine ww_aload_n (pc := 122) C 1 dX12_line_122 rfl ?_
      obtain ⟨_, e7, hf⟩ := xbd hf
      obtain ⟨σ9, e8, hf⟩ := xbd hf
      refine ww_callVv (pc := 123) (as := []) (st := []) C (k_X12_passes (l := gl G) (E := gE G) (hb := gB G) (σ := σ) e8) rfl (by decide) xc_X12_153 q1450 qp126 (xck_spec e7) rfl (by decide) (xst4 (Nat.le_of_ble_eq_true rfl)) (m_X12_passes e8).le (m_X12_passes e8).lim dX12_line_123 ?_
      refine ww_aload_n (pc := 126) C 1 dX12_line_126 rfl ?_
      refine ww_iconst (pc := 127) (v := (2 : Int32)) C dX12_line_127 (by decide) ?_
      obtain ⟨_, e10, hf⟩ := xbd hf
      obtain ⟨σ12, e11, hf⟩ := xbd hf
      refine ww_callVv (pc := 128) (as := [.int (2 : Int32)]) (st := []) C (k_X12_must (l := gl G) (E := gE G) (hb := gB G) (σ := σ9) e11) rfl (by decide) xc_X12_159 q1442 qp124 (xck_spec e10) rfl (by decide) (xst4 (Nat.le_of_ble_eq_true rfl)) (m_X12_must e11).le (m_X12_must e11).lim dX12_line_128 ?_
      refine ww_aload_n (pc := 131) C 1 dX12_line_131 rfl ?_
      refine ww_bipush (pc := 132) (v := (28 : Int32)) C dX12_line_132 (by decide) ?_
      obtain ⟨_, e13, hf⟩ := xbd hf
      obtain ⟨v15, e14, hf⟩ := xbd hf
      refine ww_callVi (pc := 134) (as := [.int (28 : Int32)]) (st := []) C (k_X12_is (l := gl G) (E := gE G) (hb := gB G) (σ := σ12) e14) rfl (by decide) xc_X12_150 q1446 qp125 (xck_spec e13) rfl (by decide) (xst4 (Nat.le_of_ble_eq_true rfl)) xsame.rf.le xsame.rf.lim dX12_line_134 ?_
      refine ww_if_eq (pc := 137) (tgt := 147) C dX12_line_137 (by decide) (fun q => ?_) (fun q => ?_)
      · have hf := xip q hf
        refine ww_aload_n (pc := 147) C 1 dX12_line_147 rfl ?_
        refine ww_bipush (pc := 148) (v := (29 : Int32)) C dX12_line_148 (by decide) ?_
        obtain ⟨_, e16, hf⟩ := xbd hf
        obtain ⟨σ18, e17, hf⟩ := xbd hf
        refine ww_callVv (pc := 150) (as := [.int (29 : Int32)]) (st := []) C (k_X12_must (l := gl G) (E := gE G) (hb := gB G) (σ := σ12) e17) rfl (by decide) xc_X12_159 q1442 qp124 (xck_spec e16) rfl (by decide) (xst4 (Nat.le_of_ble_eq_true rfl)) (m_X12_must e17).le (m_X12_must e17).lim dX12_line_150 ?_
        refine ww_goto (pc := 153) (tgt := 174) C dX12_line_153 (by decide) ?_
        refine ww_sub [1] rfl ?_
        exact s_X12_line_j174 C hf hk
      · have hf := xin q hf
        refine ww_aload_n (pc := 140) C 1 dX12_line_140 rfl ?_
        obtain ⟨_, e16, hf⟩ := xbd hf
        obtain ⟨σ18, e17, hf⟩ := xbd hf
        refine ww_callVv (pc := 141) (as := []) (st := []) C (k_X12_passes (l := gl G) (E := gE G) (hb := gB G) (σ := σ12) e17) rfl (by decide) xc_X12_153 q1450 qp126 (xck_spec e16) rfl (by decide) (xst4 (Nat.le_of_ble_eq_true rfl)) (m_X12_passes e17).le (m_X12_passes e17).lim dX12_line_141 ?_
        refine ww_goto (pc := 144) (tgt := 174) C dX12_line_144 (by decide) ?_
        refine ww_sub [1] rfl ?_
        exact s_X12_line_j174 C hf hk
    · refine ⟨168, 157, rfl, by decide, ?_⟩
      have hf := xsw_in 7 hk1 rfl hf
      refine ww_aload_n (pc := 168) C 1 dX12_line_168 rfl ?_
      refine ww_iconst (pc := 169) (v := (1 : Int32)) C dX12_line_169 (by decide) ?_
      obtain ⟨_, e7, hf⟩ := xbd hf
      obtain ⟨σ9, e8, hf⟩ := xbd hf
      refine ww_callVv (pc := 170) (as := [.int (1 : Int32)]) (st := []) C (k_X12_fail (l := gl G) (E := gE G) (hb := gB G) (σ := σ) e8) rfl (by decide) xc_X12_147 q1454 qp127 (xck_spec e7) rfl (by decide) (xst4 (Nat.le_of_ble_eq_true rfl)) (m_X12_fail e8).le (m_X12_fail e8).lim dX12_line_170 ?_
      have hf := xsj hf
      subst hf
      exact ww_vret (pc := 173) C hk dX12_line_173
    · refine ⟨168, 157, rfl, by decide, ?_⟩
      have hf := xsw_in 8 hk1 rfl hf
      refine ww_aload_n (pc := 168) C 1 dX12_line_168 rfl ?_
      refine ww_iconst (pc := 169) (v := (1 : Int32)) C dX12_line_169 (by decide) ?_
      obtain ⟨_, e7, hf⟩ := xbd hf
      obtain ⟨σ9, e8, hf⟩ := xbd hf
      refine ww_callVv (pc := 170) (as := [.int (1 : Int32)]) (st := []) C (k_X12_fail (l := gl G) (E := gE G) (hb := gB G) (σ := σ) e8) rfl (by decide) xc_X12_147 q1454 qp127 (xck_spec e7) rfl (by decide) (xst4 (Nat.le_of_ble_eq_true rfl)) (m_X12_fail e8).le (m_X12_fail e8).lim dX12_line_170 ?_
      have hf := xsj hf
      subst hf
      exact ww_vret (pc := 173) C hk dX12_line_173
    · refine ⟨156, 145, rfl, by decide, ?_⟩
      have hf := xsw_in 9 hk1 rfl hf
      refine ww_aload_n (pc := 156) C 1 dX12_line_156 rfl ?_
      obtain ⟨_, e7, hf⟩ := xbd hf
      obtain ⟨σ9, e8, hf⟩ := xbd hf
      refine ww_callVv (pc := 157) (as := []) (st := []) C (k_X12_passes (l := gl G) (E := gE G) (hb := gB G) (σ := σ) e8) rfl (by decide) xc_X12_153 q1450 qp126 (xck_spec e7) rfl (by decide) (xst4 (Nat.le_of_ble_eq_true rfl)) (m_X12_passes e8).le (m_X12_passes e8).lim dX12_line_157 ?_
      refine ww_aload_n (pc := 160) C 1 dX12_line_160 rfl ?_
      refine ww_iconst (pc := 161) (v := (2 : Int32)) C dX12_line_161 (by decide) ?_
      obtain ⟨_, e10, hf⟩ := xbd hf
      obtain ⟨σ12, e11, hf⟩ := xbd hf
      refine ww_callVv (pc := 162) (as := [.int (2 : Int32)]) (st := []) C (k_X12_must (l := gl G) (E := gE G) (hb := gB G) (σ := σ9) e11) rfl (by decide) xc_X12_159 q1442 qp124 (xck_spec e10) rfl (by decide) (xst4 (Nat.le_of_ble_eq_true rfl)) (m_X12_must e11).le (m_X12_must e11).lim dX12_line_162 ?_
      refine ww_goto (pc := 165) (tgt := 174) C dX12_line_165 (by decide) ?_
      refine ww_sub [1] rfl ?_
      exact s_X12_line_j174 C hf hk
  · refine ⟨168, by decide, ?_⟩
    have hf := xsw_out ho rfl hf
    refine ww_aload_n (pc := 168) C 1 dX12_line_168 rfl ?_
    refine ww_iconst (pc := 169) (v := (1 : Int32)) C dX12_line_169 (by decide) ?_
    obtain ⟨_, e7, hf⟩ := xbd hf
    obtain ⟨σ9, e8, hf⟩ := xbd hf
    refine ww_callVv (pc := 170) (as := [.int (1 : Int32)]) (st := []) C (k_X12_fail (l := gl G) (E := gE G) (hb := gB G) (σ := σ) e8) rfl (by decide) xc_X12_147 q1454 qp127 (xck_spec e7) rfl (by decide) (xst4 (Nat.le_of_ble_eq_true rfl)) (m_X12_fail e8).le (m_X12_fail e8).lim dX12_line_170 ?_
    have hf := xsj hf
    subst hf
    exact ww_vret (pc := 173) C hk dX12_line_173
theorem m_X12_line {σ : XS} {r0 : Nat} {x : XS} (hf : f_X12_line σ r0 = some x) : xsame σ x := by
  have hm := xsame.rf (σ := σ)
  obtain ⟨z2, e1, hf⟩ := xbd hf
  obtain ⟨v4, e3, hf⟩ := xbd hf
  obtain ⟨v6, e5, hf⟩ := xbd hf
  by_cases ho : (v6).toInt < 21 ∨ 30 < (v6).toInt
  · have hf := xsw_out ho rfl hf
    obtain ⟨_, e7, hf⟩ := xbd hf
    obtain ⟨σ9, e8, hf⟩ := xbd hf
    have hm := hm.tr (m_X12_fail e8)
    have hf := xsj hf
    subst hf
    exact hm
  · rcases (by omega : (v6).toInt = 21 + ((0 : Nat) : Int) ∨ (v6).toInt = 21 + ((1 : Nat) : Int) ∨ (v6).toInt = 21 + ((2 : Nat) : Int) ∨ (v6).toInt = 21 + ((3 : Nat) : Int) ∨ (v6).toInt = 21 + ((4 : Nat) : Int) ∨ (v6).toInt = 21 + ((5 : Nat) : Int) ∨ (v6).toInt = 21 + ((6 : Nat) : Int) ∨ (v6).toInt = 21 + ((7 : Nat) : Int) ∨ (v6).toInt = 21 + ((8 : Nat) : Int) ∨ (v6).toInt = 21 + ((9 : Nat) : Int)) with hk1 | hk1 | hk1 | hk1 | hk1 | hk1 | hk1 | hk1 | hk1 | hk1
    · have hf := xsw_in 0 hk1 rfl hf
      obtain ⟨_, e7, hf⟩ := xbd hf
      obtain ⟨σ9, e8, hf⟩ := xbd hf
      have hm := hm.tr (m_X12_passes e8)
      obtain ⟨_, e10, hf⟩ := xbd hf
      obtain ⟨σ12, e11, hf⟩ := xbd hf
      have hm := hm.tr (m_X12_mustJ e11)
      exact hm.tr (m_X12_line_j174 hf)
    · have hf := xsw_in 1 hk1 rfl hf
      obtain ⟨_, e7, hf⟩ := xbd hf
      obtain ⟨σ9, e8, hf⟩ := xbd hf
      have hm := hm.tr (m_X12_passes e8)
      obtain ⟨_, e10, hf⟩ := xbd hf
      obtain ⟨σ12, e11, hf⟩ := xbd hf
      have hm := hm.tr (m_X12_mustJ e11)
      exact hm.tr (m_X12_line_j174 hf)
    · have hf := xsw_in 2 hk1 rfl hf
      obtain ⟨_, e7, hf⟩ := xbd hf
      obtain ⟨σ9, e8, hf⟩ := xbd hf
      have hm := hm.tr (m_X12_passes e8)
      obtain ⟨_, e10, hf⟩ := xbd hf
      obtain ⟨σ12, e11, hf⟩ := xbd hf
      have hm := hm.tr (m_X12_mustJ e11)
      exact hm.tr (m_X12_line_j174 hf)
    · have hf := xsw_in 3 hk1 rfl hf
      obtain ⟨_, e7, hf⟩ := xbd hf
      obtain ⟨σ9, e8, hf⟩ := xbd hf
      have hm := hm.tr (m_X12_passes e8)
      obtain ⟨_, e10, hf⟩ := xbd hf
      obtain ⟨σ12, e11, hf⟩ := xbd hf
      have hm := hm.tr (m_X12_mustWay e11)
      exact hm.tr (m_X12_line_j174 hf)
    · have hf := xsw_in 4 hk1 rfl hf
      obtain ⟨_, e7, hf⟩ := xbd hf
      obtain ⟨σ9, e8, hf⟩ := xbd hf
      have hm := hm.tr (m_X12_passes e8)
      obtain ⟨_, e10, hf⟩ := xbd hf
      obtain ⟨σ12, e11, hf⟩ := xbd hf
      have hm := hm.tr (m_X12_must e11)
      obtain ⟨_, e13, hf⟩ := xbd hf
      obtain ⟨σ15, e14, hf⟩ := xbd hf
      have hm := hm.tr (m_X12_mustWay e14)
      obtain ⟨_, e16, hf⟩ := xbd hf
      obtain ⟨σ18, e17, hf⟩ := xbd hf
      have hm := hm.tr (m_X12_mustJ e17)
      exact hm.tr (m_X12_line_j174 hf)
    · have hf := xsw_in 5 hk1 rfl hf
      obtain ⟨_, e7, hf⟩ := xbd hf
      obtain ⟨σ9, e8, hf⟩ := xbd hf
      have hm := hm.tr (m_X12_passes e8)
      obtain ⟨_, e10, hf⟩ := xbd hf
      obtain ⟨σ12, e11, hf⟩ := xbd hf
      have hm := hm.tr (m_X12_must e11)
      obtain ⟨_, e13, hf⟩ := xbd hf
      obtain ⟨σ15, e14, hf⟩ := xbd hf
      have hm := hm.tr (m_X12_mustJ e14)
      exact hm.tr (m_X12_line_j174 hf)
    · have hf := xsw_in 6 hk1 rfl hf
      obtain ⟨_, e7, hf⟩ := xbd hf
      obtain ⟨σ9, e8, hf⟩ := xbd hf
      have hm := hm.tr (m_X12_passes e8)
      obtain ⟨_, e10, hf⟩ := xbd hf
      obtain ⟨σ12, e11, hf⟩ := xbd hf
      have hm := hm.tr (m_X12_must e11)
      obtain ⟨_, e13, hf⟩ := xbd hf
      obtain ⟨v15, e14, hf⟩ := xbd hf
      by_cases q : v15 = 0
      · have hf := xip q hf
        obtain ⟨_, e16, hf⟩ := xbd hf
        obtain ⟨σ18, e17, hf⟩ := xbd hf
        have hm := hm.tr (m_X12_must e17)
        exact hm.tr (m_X12_line_j174 hf)
      · have hf := xin q hf
        obtain ⟨_, e16, hf⟩ := xbd hf
        obtain ⟨σ18, e17, hf⟩ := xbd hf
        have hm := hm.tr (m_X12_passes e17)
        exact hm.tr (m_X12_line_j174 hf)
    · have hf := xsw_in 7 hk1 rfl hf
      obtain ⟨_, e7, hf⟩ := xbd hf
      obtain ⟨σ9, e8, hf⟩ := xbd hf
      have hm := hm.tr (m_X12_fail e8)
      have hf := xsj hf
      subst hf
      exact hm
    · have hf := xsw_in 8 hk1 rfl hf
      obtain ⟨_, e7, hf⟩ := xbd hf
      obtain ⟨σ9, e8, hf⟩ := xbd hf
      have hm := hm.tr (m_X12_fail e8)
      have hf := xsj hf
      subst hf
      exact hm
    · have hf := xsw_in 9 hk1 rfl hf
      obtain ⟨_, e7, hf⟩ := xbd hf
      obtain ⟨σ9, e8, hf⟩ := xbd hf
      have hm := hm.tr (m_X12_passes e8)
      obtain ⟨_, e10, hf⟩ := xbd hf
      obtain ⟨σ12, e11, hf⟩ := xbd hf
      have hm := hm.tr (m_X12_must e11)
      exact hm.tr (m_X12_line_j174 hf)
theorem k_X12_line {l : Launch} {E : XD} {hb : Nat} {σ : XS} {r0 : Nat} {x : XS} (h : f_X12_line σ r0 = some x) : XM l yX12_line cX12_line 2 none 4 82 E hb [.ref (hb + r0)] σ none x := by
  refine xm_of (by decide) (Nat.le_of_ble_eq_true rfl) (m_X12_line h).le (fun G hG C hl hQ => ?_)
  obtain ⟨rfl, rfl, rfl, hN⟩ := hG
  exact s_X12_line_e C h hQ
noncomputable def f_X12_part_b14 (x0 : Int32) (x1 : Int32) (x2 : Int32) : Int32 × Int32 → Option ((Int32 × Int32) ⊕ (Int32)) := fun a => match a with
  | (x3, x4) => if x4 ≤ 0 then ((if x2 = 0 then ((xdz x3).bind fun _ => some (x0 / x3)) else (xdz x3).bind fun _ => some (x1 / x3)).map .inr) else (xdz x4).bind fun _ => some (.inl (x4, x3 - x3 / x4 * x4))
noncomputable def f_X12_part (x0 : Int32) (x1 : Int32) (x2 : Int32) : Option Int32 := if 0 ≤ x0 then (xloop (f_X12_part_b14 x0 x1 x2) (x0, x1)) else xloop (f_X12_part_b14 x0 x1 x2) (-x0, x1)
theorem s_X12_part_l14 {G : XG} (C : XC G cX12_part RX12 (some .int) 6 0 0) {σ : XS} {x0 : Int32} {x1 : Int32} {x2 : Int32} {a : Int32 × Int32} {x : Int32} (hf : xloop (f_X12_part_b14 x0 x1 x2) a = some x) (hk : XEnd G (some (.int x)) σ) : WW G 14 [(0, .int x0), (1, .int x1), (2, .int x2), (3, .int a.1), (4, .int a.2)] [] σ := by
  refine xloop_ind (P := fun a => WW G 14 [(0, .int x0), (1, .int x1), (2, .int x2), (3, .int a.1), (4, .int a.2)] [] σ) (fun a y hf hc he => ?_) hf
  obtain ⟨x3, x4⟩ := a
  have hk : (∀ a' : Int32 × Int32, y = .inl a' → WW G 14 [(0, .int x0), (1, .int x1), (2, .int x2), (3, .int a'.1), (4, .int a'.2)] [] σ) ∧ (∀ b1 : Int32, y = .inr b1 → XEnd G (some (.int b1)) σ) := ⟨hc, fun b e => by have h9 := he b e; subst h9; exact hk⟩
  refine ww_iload (pc := 14) C 4 dX12_part_14 rfl ?_
  refine ww_if_le (pc := 16) (tgt := 35) C dX12_part_16 (by decide) (fun q => ?_) (fun q => ?_)
  · have hf := xip q hf
    obtain ⟨b0, hg, e9⟩ := xmj hf
    subst e9
    have hf := hg
    have hk := hk.2 _ rfl
    refine ww_iload_n (pc := 35) C 2 dX12_part_35 rfl ?_
    refine ww_if_ne (pc := 36) (tgt := 43) C dX12_part_36 (by decide) (fun q => ?_) (fun q => ?_)
    · have hf := xin q hf
      refine ww_iload_n (pc := 43) C 1 dX12_part_43 rfl ?_
      refine ww_iload_n (pc := 44) C 3 dX12_part_44 rfl ?_
      obtain ⟨_, e1, hf⟩ := xbd hf
      refine ww_idiv (pc := 45) C dX12_part_45 (xdz_spec e1) ?_
      have hf := xsj hf
      subst hf
      exact ww_iret (pc := 46) C hk dX12_part_46
    · have hf := xip q hf
      refine ww_iload_n (pc := 39) C 0 dX12_part_39 rfl ?_
      refine ww_goto (pc := 40) (tgt := 44) C dX12_part_40 (by decide) ?_
      refine ww_iload_n (pc := 44) C 3 dX12_part_44 rfl ?_
      obtain ⟨_, e1, hf⟩ := xbd hf
      refine ww_idiv (pc := 45) C dX12_part_45 (xdz_spec e1) ?_
      have hf := xsj hf
      subst hf
      exact ww_iret (pc := 46) C hk dX12_part_46
  · have hf := xin q hf
    refine ww_iload_n (pc := 19) C 3 dX12_part_19 rfl ?_
    refine ww_iload (pc := 20) C 4 dX12_part_20 rfl ?_
    obtain ⟨_, e1, hf⟩ := xbd hf
    refine ww_irem (pc := 22) C dX12_part_22 (xdz_spec e1) ?_
    refine ww_istore (pc := 23) (lv' := [(5, .int (x3 - x3 / x4 * x4)), (0, .int x0), (1, .int x1), (2, .int x2), (3, .int x3), (4, .int x4)]) C dX12_part_23 (by decide) rfl ?_
    refine ww_iload (pc := 25) C 5 dX12_part_25 rfl ?_
    refine ww_istore_n (pc := 27) (lv' := [(3, .int x4), (5, .int (x3 - x3 / x4 * x4)), (0, .int x0), (1, .int x1), (2, .int x2), (4, .int x4)]) C dX12_part_27 (by decide) rfl ?_
    refine ww_iload (pc := 28) C 1 dX12_part_28 rfl ?_
    refine ww_istore (pc := 30) (lv' := [(4, .int (x3 - x3 / x4 * x4)), (3, .int x4), (5, .int (x3 - x3 / x4 * x4)), (0, .int x0), (1, .int x1), (2, .int x2)]) C dX12_part_30 (by decide) rfl ?_
    refine ww_goto (pc := 32) (tgt := 14) C dX12_part_32 (by decide) ?_
    have hf := xsj hf
    subst hf
    refine ww_sub [3, 4, 5, 1, 0] rfl ?_
    exact hk.1 (x4, x3 - x3 / x4 * x4) rfl
theorem s_X12_part_e {G : XG} (C : XC G cX12_part RX12 (some .int) 6 0 0) {σ : XS} {x0 : Int32} {x1 : Int32} {x2 : Int32} {x : Int32} (hf : f_X12_part x0 x1 x2 = some x) (hk : XEnd G (some (.int x)) σ) : WW G 0 [(0, .int x0), (1, .int x1), (2, .int x2)] [] σ := by
  refine ww_iload_n (pc := 0) C 0 dX12_part_0 rfl ?_
  refine ww_if_ge (pc := 1) (tgt := 9) C dX12_part_1 (by decide) (fun q => ?_) (fun q => ?_)
  · have hf := xip q hf
    refine ww_iload_n (pc := 9) C 0 dX12_part_9 rfl ?_
    refine ww_istore_n (pc := 10) (lv' := [(3, .int x0), (0, .int x0), (1, .int x1), (2, .int x2)]) C dX12_part_10 (by decide) rfl ?_
    refine ww_iload_n (pc := 11) C 2 dX12_part_11 rfl ?_
    refine ww_istore (pc := 12) (lv' := [(4, .int x1), (3, .int x0), (0, .int x0), (1, .int x1), (2, .int x2)]) C dX12_part_12 (by decide) rfl ?_
    refine ww_sub [2, 3, 4, 1, 0] rfl ?_
    exact s_X12_part_l14 C (a := (x0, x1)) hf hk
  · have hf := xin q hf
    refine ww_iload_n (pc := 4) C 0 dX12_part_4 rfl ?_
    refine ww_ineg (pc := 5) C dX12_part_5 ?_
    refine ww_goto (pc := 6) (tgt := 10) C dX12_part_6 (by decide) ?_
    refine ww_istore_n (pc := 10) (lv' := [(3, .int (-x0)), (0, .int x0), (1, .int x1), (2, .int x2)]) C dX12_part_10 (by decide) rfl ?_
    refine ww_iload_n (pc := 11) C 2 dX12_part_11 rfl ?_
    refine ww_istore (pc := 12) (lv' := [(4, .int x1), (3, .int (-x0)), (0, .int x0), (1, .int x1), (2, .int x2)]) C dX12_part_12 (by decide) rfl ?_
    refine ww_sub [2, 3, 4, 1, 0] rfl ?_
    exact s_X12_part_l14 C (a := (-x0, x1)) hf hk
theorem k_X12_part {l : Launch} {E : XD} {hb : Nat} {σ : XS} {x0 : Int32} {x1 : Int32} {x2 : Int32} {x : Int32} (h : f_X12_part x0 x1 x2 = some x) : XM l yX12_part cX12_part 6 (some .int) 0 0 E hb [.int x0, .int x1, .int x2] σ (some (.int x)) σ := by
  refine xm_of (by decide) (Nat.le_of_ble_eq_true rfl) ⟨Nat.le_refl _, Nat.le_refl _⟩ (fun G hG C hl hQ => ?_)
  obtain ⟨rfl, rfl, rfl, hN⟩ := hG
  exact s_X12_part_e C h hQ
noncomputable def f_X12_mean_b36 (σ : XS) (r0 : Nat) (x1 : Int32) (x2 : Int32) : Int32 × Int32 → Option ((Int32 × Int32) ⊕ (Int32 × XS)) := fun a => match a with
  | (x3, x4) => (xck σ r0 12).bind fun _ => (f_X12_states σ r0).bind fun v3 => if v3 ≤ x4 then (((xgR σ r0 12 34).bind fun z5 => (xgR σ r0 12 36).bind fun z7 => (xaI σ 20 z7 x1).bind fun v9 => (xaI σ 20 z5 ((150 : Int32) + v9)).bind fun v11 => (f_X12_part x3 v11 x2).bind fun v13 => some (v13, σ)).map .inr) else (xgR σ r0 12 33).bind fun z5 => (xaI σ 20 z5 x4).bind fun v7 => (xgR σ r0 12 36).bind fun z9 => (xaI σ 20 z9 x1).bind fun v11 => if v7 = v11 then ((f_X12_bitsOf x4).bind fun v13 => some (.inl (x3 + v13, x4 + (1 : Int32)))) else some (.inl (x3, x4 + (1 : Int32)))
noncomputable def f_X12_mean (σ : XS) (r0 : Nat) (x1 : Int32) (x2 : Int32) : Option (Int32 × XS) := (xck σ r0 12).bind fun _ => (f_X12_knows σ r0).bind fun σ3 => (xgI σ3 r0 12 35).bind fun v5 => (f_X12_in x1 (0 : Int32) (v5 - (1 : Int32))).bind fun v7 => if v7 = 0 then (some ((-100000 : Int32), σ3)) else (f_X12_in x2 (0 : Int32) (1 : Int32)).bind fun v9 => if v9 = 0 then (some ((-100000 : Int32), σ3)) else xloop (f_X12_mean_b36 σ3 r0 x1 x2) ((0 : Int32), (0 : Int32))
theorem m_X12_mean_l36 {σ : XS} {r0 : Nat} {x1 : Int32} {x2 : Int32} {a : Int32 × Int32} {x : Int32 × XS} (hf : xloop (f_X12_mean_b36 σ r0 x1 x2) a = some x) : xsame σ x.2 := by
  refine xloop_ind (P := fun a => xsame σ x.2) (fun a y hf hc he => ?_) hf
  obtain ⟨x3, x4⟩ := a
  have hy : (∀ a' : Int32 × Int32, y = .inl a' → True) ∧ (∀ b1 : Int32 × XS, y = .inr b1 → xsame σ b1.2) := by
    have hm := xsame.rf (σ := σ)
    obtain ⟨_, e1, hf⟩ := xbd hf
    obtain ⟨v3, e2, hf⟩ := xbd hf
    by_cases q : v3 ≤ x4
    · have hf := xip q hf
      obtain ⟨b0, hg, e9⟩ := xmj hf
      subst e9
      have hf := hg
      refine ⟨fun a' e => xnc2 e, fun b e => ?_⟩
      have h9 := Sum.inr.inj e
      subst h9
      obtain ⟨z5, e4, hf⟩ := xbd hf
      obtain ⟨z7, e6, hf⟩ := xbd hf
      obtain ⟨v9, e8, hf⟩ := xbd hf
      obtain ⟨v11, e10, hf⟩ := xbd hf
      obtain ⟨v13, e12, hf⟩ := xbd hf
      have hf := xsj hf
      subst hf
      exact hm
    · have hf := xin q hf
      obtain ⟨z5, e4, hf⟩ := xbd hf
      obtain ⟨v7, e6, hf⟩ := xbd hf
      obtain ⟨z9, e8, hf⟩ := xbd hf
      obtain ⟨v11, e10, hf⟩ := xbd hf
      by_cases q : v7 = v11
      · have hf := xip q hf
        obtain ⟨v13, e12, hf⟩ := xbd hf
        have hf := xsj hf
        subst hf
        exact ⟨fun a' e => (by have h9 := Sum.inl.inj e; subst h9; exact trivial), fun b e => xnc1 e⟩
      · have hf := xin q hf
        have hf := xsj hf
        subst hf
        exact ⟨fun a' e => (by have h9 := Sum.inl.inj e; subst h9; exact trivial), fun b e => xnc1 e⟩
  cases y with
  | inl a' =>
    have h1 := hc a' rfl
    exact h1
  | inr b =>
    have h1 := he b rfl
    subst h1
    exact hy.2 _ rfl
theorem s_X12_mean_l36 {G : XG} (C : XC G cX12_mean RX12 (some .int) 5 4 96) {σ : XS} {r0 : Nat} {x1 : Int32} {x2 : Int32} {a : Int32 × Int32} {x : Int32 × XS} (hf : xloop (f_X12_mean_b36 σ r0 x1 x2) a = some x) (hk : XEnd G (some (.int x.1)) x.2) : WW G 36 [(0, .ref (gB G + r0)), (1, .int x1), (2, .int x2), (3, .int a.1), (4, .int a.2)] [] σ := by
  refine xloop_ind (P := fun a => WW G 36 [(0, .ref (gB G + r0)), (1, .int x1), (2, .int x2), (3, .int a.1), (4, .int a.2)] [] σ) (fun a y hf hc he => ?_) hf
  obtain ⟨x3, x4⟩ := a
  have hk : (∀ a' : Int32 × Int32, y = .inl a' → WW G 36 [(0, .ref (gB G + r0)), (1, .int x1), (2, .int x2), (3, .int a'.1), (4, .int a'.2)] [] σ) ∧ (∀ b1 : Int32 × XS, y = .inr b1 → XEnd G (some (.int b1.1)) b1.2) := ⟨hc, fun b e => by have h9 := he b e; subst h9; exact hk⟩
  refine ww_iload (pc := 36) C 4 dX12_mean_36 rfl ?_
  refine ww_aload_n (pc := 38) C 0 dX12_mean_38 rfl ?_
  obtain ⟨_, e1, hf⟩ := xbd hf
  obtain ⟨v3, e2, hf⟩ := xbd hf
  refine ww_callVi (pc := 39) (as := []) (st := [.int x4]) C (k_X12_states (l := gl G) (E := gE G) (hb := gB G) (σ := σ) e2) rfl (by decide) xc_X12_270 q1555 qp141 (xck_spec e1) rfl (by decide) (xst4 (Nat.le_of_ble_eq_true rfl)) xsame.rf.le xsame.rf.lim dX12_mean_39 ?_
  refine ww_icmp_ge (pc := 42) (tgt := 75) C dX12_mean_42 (by decide) (fun q => ?_) (fun q => ?_)
  · have hf := xip q hf
    obtain ⟨b0, hg, e9⟩ := xmj hf
    subst e9
    have hf := hg
    have hk := hk.2 _ rfl
    refine ww_iload_n (pc := 75) C 3 dX12_mean_75 rfl ?_
    refine ww_aload_n (pc := 76) C 0 dX12_mean_76 rfl ?_
    obtain ⟨z5, e4, hf⟩ := xbd hf
    refine gf_X12_60 (pc := 77) C e4 dX12_mean_77 ?_
    refine ww_sipush (pc := 80) (v := (150 : Int32)) C dX12_mean_80 (by decide) ?_
    refine ww_aload_n (pc := 83) C 0 dX12_mean_83 rfl ?_
    obtain ⟨z7, e6, hf⟩ := xbd hf
    refine gf_X12_63 (pc := 84) C e6 dX12_mean_84 ?_
    refine ww_iload_n (pc := 87) C 1 dX12_mean_87 rfl ?_
    obtain ⟨v9, e8, hf⟩ := xbd hf
    refine ww_iald (pc := 88) C e8 dX12_mean_88 ?_
    refine ww_iadd (pc := 89) C dX12_mean_89 ?_
    obtain ⟨v11, e10, hf⟩ := xbd hf
    refine ww_iald (pc := 90) C e10 dX12_mean_90 ?_
    refine ww_iload_n (pc := 91) C 2 dX12_mean_91 rfl ?_
    obtain ⟨v13, e12, hf⟩ := xbd hf
    refine ww_callSi (pc := 92) (as := [.int x3, .int v11, .int x2]) (st := []) C (k_X12_part (l := gl G) (E := gE G) (hb := gB G) (σ := σ) e12) xc_X12_308 q1641 rfl (by decide) (xst4 (Nat.le_of_ble_eq_true rfl)) xsame.rf.le xsame.rf.lim dX12_mean_92 ?_
    have hf := xsj hf
    subst hf
    exact ww_iret (pc := 95) C hk dX12_mean_95
  · have hf := xin q hf
    refine ww_aload_n (pc := 45) C 0 dX12_mean_45 rfl ?_
    obtain ⟨z5, e4, hf⟩ := xbd hf
    refine gf_X12_57 (pc := 46) C e4 dX12_mean_46 ?_
    refine ww_iload (pc := 49) C 4 dX12_mean_49 rfl ?_
    obtain ⟨v7, e6, hf⟩ := xbd hf
    refine ww_iald (pc := 51) C e6 dX12_mean_51 ?_
    refine ww_aload_n (pc := 52) C 0 dX12_mean_52 rfl ?_
    obtain ⟨z9, e8, hf⟩ := xbd hf
    refine gf_X12_63 (pc := 53) C e8 dX12_mean_53 ?_
    refine ww_iload_n (pc := 56) C 1 dX12_mean_56 rfl ?_
    obtain ⟨v11, e10, hf⟩ := xbd hf
    refine ww_iald (pc := 57) C e10 dX12_mean_57 ?_
    refine ww_icmp_ne (pc := 58) (tgt := 69) C dX12_mean_58 (by decide) (fun q => ?_) (fun q => ?_)
    · have hf := xin q hf
      refine ww_iinc (pc := 69) (v := x4 + (1 : Int32)) (lv' := [(4, .int (x4 + (1 : Int32))), (0, .ref (gB G + r0)), (1, .int x1), (2, .int x2), (3, .int x3)]) C 4 dX12_mean_69 rfl (congrArg (fun z => x4 + z) (show Int32.ofInt (1) = (1 : Int32) by decide)) (by decide) rfl ?_
      refine ww_goto (pc := 72) (tgt := 36) C dX12_mean_72 (by decide) ?_
      have hf := xsj hf
      subst hf
      refine ww_sub [1, 2, 3, 4, 0] rfl ?_
      exact hk.1 (x3, x4 + (1 : Int32)) rfl
    · have hf := xip q hf
      refine ww_iload_n (pc := 61) C 3 dX12_mean_61 rfl ?_
      refine ww_iload (pc := 62) C 4 dX12_mean_62 rfl ?_
      obtain ⟨v13, e12, hf⟩ := xbd hf
      refine ww_callSi (pc := 64) (as := [.int x4]) (st := [.int x3]) C (k_X12_bitsOf (l := gl G) (E := gE G) (hb := gB G) (σ := σ) e12) xc_X12_292 q1615 rfl (by decide) (xst4 (Nat.le_of_ble_eq_true rfl)) xsame.rf.le xsame.rf.lim dX12_mean_64 ?_
      refine ww_iadd (pc := 67) C dX12_mean_67 ?_
      refine ww_istore_n (pc := 68) (lv' := [(3, .int (x3 + v13)), (0, .ref (gB G + r0)), (1, .int x1), (2, .int x2), (4, .int x4)]) C dX12_mean_68 (by decide) rfl ?_
      refine ww_iinc (pc := 69) (v := x4 + (1 : Int32)) (lv' := [(4, .int (x4 + (1 : Int32))), (3, .int (x3 + v13)), (0, .ref (gB G + r0)), (1, .int x1), (2, .int x2)]) C 4 dX12_mean_69 rfl (congrArg (fun z => x4 + z) (show Int32.ofInt (1) = (1 : Int32) by decide)) (by decide) rfl ?_
      refine ww_goto (pc := 72) (tgt := 36) C dX12_mean_72 (by decide) ?_
      have hf := xsj hf
      subst hf
      refine ww_sub [2, 3, 4, 1, 0] rfl ?_
      exact hk.1 (x3 + v13, x4 + (1 : Int32)) rfl
theorem s_X12_mean_e {G : XG} (C : XC G cX12_mean RX12 (some .int) 5 4 96) {σ : XS} {r0 : Nat} {x1 : Int32} {x2 : Int32} {x : Int32 × XS} (hf : f_X12_mean σ r0 x1 x2 = some x) (hk : XEnd G (some (.int x.1)) x.2) : WW G 0 [(0, .ref (gB G + r0)), (1, .int x1), (2, .int x2)] [] σ := by
  refine ww_aload_n (pc := 0) C 0 dX12_mean_0 rfl ?_
  obtain ⟨_, e1, hf⟩ := xbd hf
  obtain ⟨σ3, e2, hf⟩ := xbd hf
  refine ww_callVv (pc := 1) (as := []) (st := []) C (k_X12_knows (l := gl G) (E := gE G) (hb := gB G) (σ := σ) e2) rfl (by decide) xc_X12_261 q1551 qp140 (xck_spec e1) rfl (by decide) (xst4 (Nat.le_of_ble_eq_true rfl)) (m_X12_knows e2).le (m_X12_knows e2).lim dX12_mean_1 ?_
  refine ww_iload_n (pc := 4) C 1 dX12_mean_4 rfl ?_
  refine ww_iconst (pc := 5) (v := (0 : Int32)) C dX12_mean_5 (by decide) ?_
  refine ww_aload_n (pc := 6) C 0 dX12_mean_6 rfl ?_
  obtain ⟨v5, e4, hf⟩ := xbd hf
  refine gf_X12_285 (pc := 7) C e4 dX12_mean_7 ?_
  refine ww_iconst (pc := 10) (v := (1 : Int32)) C dX12_mean_10 (by decide) ?_
  refine ww_isub (pc := 11) C dX12_mean_11 ?_
  obtain ⟨v7, e6, hf⟩ := xbd hf
  refine ww_callSi (pc := 12) (as := [.int x1, .int (0 : Int32), .int (v5 - (1 : Int32))]) (st := []) C (k_X12_in (l := gl G) (E := gE G) (hb := gB G) (σ := σ3) e6) xc_X12_213 q1473 rfl (by decide) (xst4 (Nat.le_of_ble_eq_true rfl)) xsame.rf.le xsame.rf.lim dX12_mean_12 ?_
  refine ww_if_eq (pc := 15) (tgt := 27) C dX12_mean_15 (by decide) (fun q => ?_) (fun q => ?_)
  · have hf := xip q hf
    refine ww_ldcw (pc := 27) C q1597 dX12_mean_27 ?_
    have hf := xsj hf
    subst hf
    exact ww_iret (pc := 30) C hk dX12_mean_30
  · have hf := xin q hf
    refine ww_iload_n (pc := 18) C 2 dX12_mean_18 rfl ?_
    refine ww_iconst (pc := 19) (v := (0 : Int32)) C dX12_mean_19 (by decide) ?_
    refine ww_iconst (pc := 20) (v := (1 : Int32)) C dX12_mean_20 (by decide) ?_
    obtain ⟨v9, e8, hf⟩ := xbd hf
    refine ww_callSi (pc := 21) (as := [.int x2, .int (0 : Int32), .int (1 : Int32)]) (st := []) C (k_X12_in (l := gl G) (E := gE G) (hb := gB G) (σ := σ3) e8) xc_X12_213 q1473 rfl (by decide) (xst4 (Nat.le_of_ble_eq_true rfl)) xsame.rf.le xsame.rf.lim dX12_mean_21 ?_
    refine ww_if_ne (pc := 24) (tgt := 31) C dX12_mean_24 (by decide) (fun q => ?_) (fun q => ?_)
    · have hf := xin q hf
      refine ww_iconst (pc := 31) (v := (0 : Int32)) C dX12_mean_31 (by decide) ?_
      refine ww_istore_n (pc := 32) (lv' := [(3, .int (0 : Int32)), (0, .ref (gB G + r0)), (1, .int x1), (2, .int x2)]) C dX12_mean_32 (by decide) rfl ?_
      refine ww_iconst (pc := 33) (v := (0 : Int32)) C dX12_mean_33 (by decide) ?_
      refine ww_istore (pc := 34) (lv' := [(4, .int (0 : Int32)), (3, .int (0 : Int32)), (0, .ref (gB G + r0)), (1, .int x1), (2, .int x2)]) C dX12_mean_34 (by decide) rfl ?_
      refine ww_sub [2, 3, 4, 1, 0] rfl ?_
      exact s_X12_mean_l36 C (a := ((0 : Int32), (0 : Int32))) hf hk
    · have hf := xip q hf
      refine ww_ldcw (pc := 27) C q1597 dX12_mean_27 ?_
      have hf := xsj hf
      subst hf
      exact ww_iret (pc := 30) C hk dX12_mean_30
theorem m_X12_mean {σ : XS} {r0 : Nat} {x1 : Int32} {x2 : Int32} {x : Int32 × XS} (hf : f_X12_mean σ r0 x1 x2 = some x) : xsame σ x.2 := by
  have hm := xsame.rf (σ := σ)
  obtain ⟨_, e1, hf⟩ := xbd hf
  obtain ⟨σ3, e2, hf⟩ := xbd hf
  have hm := hm.tr (m_X12_knows e2)
  obtain ⟨v5, e4, hf⟩ := xbd hf
  obtain ⟨v7, e6, hf⟩ := xbd hf
  by_cases q : v7 = 0
  · have hf := xip q hf
    have hf := xsj hf
    subst hf
    exact hm
  · have hf := xin q hf
    obtain ⟨v9, e8, hf⟩ := xbd hf
    by_cases q : v9 = 0
    · have hf := xip q hf
      have hf := xsj hf
      subst hf
      exact hm
    · have hf := xin q hf
      exact hm.tr (m_X12_mean_l36 (a := ((0 : Int32), (0 : Int32))) hf)
theorem k_X12_mean {l : Launch} {E : XD} {hb : Nat} {σ : XS} {r0 : Nat} {x1 : Int32} {x2 : Int32} {x : Int32 × XS} (h : f_X12_mean σ r0 x1 x2 = some x) : XM l yX12_mean cX12_mean 5 (some .int) 4 96 E hb [.ref (hb + r0), .int x1, .int x2] σ (some (.int x.1)) x.2 := by
  refine xm_of (by decide) (Nat.le_of_ble_eq_true rfl) (m_X12_mean h).le (fun G hG C hl hQ => ?_)
  obtain ⟨rfl, rfl, rfl, hN⟩ := hG
  exact s_X12_mean_e C h hQ
noncomputable def f_X12_meansAll_b105 (r0 : Nat) (x2 : Int32) (x3 : Int32) : Int32 × XS → Option ((Int32 × XS) ⊕ (XS)) := fun a => match a with
  | (x4, σ) => if (16 : Int32) ≤ x4 then ((some σ).map .inr) else (xgR σ r0 12 26).bind fun z2 => (xsI σ 20 z2 (x2 + x4) x3).bind fun σ4 => some (.inl (x4 + (1 : Int32), σ4))
noncomputable def f_X12_meansAll_j93 (σ : XS) (r0 : Nat) (x1 : Int32) (t0 : Int32) : Option XS := (xck σ r0 12).bind fun _ => (f_X12_jAt σ r0 (x1 + (1 : Int32))).bind fun (v4, σ3) => xloop (f_X12_meansAll_b105 r0 t0 v4) ((0 : Int32), σ3)
noncomputable def f_X12_meansAll_j60 (σ : XS) (r0 : Nat) (x1 : Int32) : Option XS := (xgR σ r0 12 5).bind fun z2 => (xaI σ 20 z2 x1).bind fun v4 => if v4 = (21 : Int32) then (f_X12_meansAll_j93 σ r0 x1 (0 : Int32)) else (xgR σ r0 12 5).bind fun z6 => (xaI σ 20 z6 x1).bind fun v8 => if v8 = (22 : Int32) then (f_X12_meansAll_j93 σ r0 x1 (16 : Int32)) else f_X12_meansAll_j93 σ r0 x1 (32 : Int32)
noncomputable def f_X12_meansAll_j26 (σ : XS) (r0 : Nat) (x1 : Int32) : Option XS := (xgR σ r0 12 5).bind fun z2 => (xaI σ 20 z2 x1).bind fun v4 => if v4 = (21 : Int32) then (f_X12_meansAll_j60 σ r0 x1) else (xgR σ r0 12 5).bind fun z6 => (xaI σ 20 z6 x1).bind fun v8 => if v8 = (22 : Int32) then (f_X12_meansAll_j60 σ r0 x1) else (xgR σ r0 12 5).bind fun z10 => (xaI σ 20 z10 x1).bind fun v12 => if v12 = (23 : Int32) then (f_X12_meansAll_j60 σ r0 x1) else some σ
noncomputable def f_X12_meansAll (σ : XS) (r0 : Nat) (x1 : Int32) : Option XS := (xgR σ r0 12 5).bind fun z2 => (xaI σ 20 z2 x1).bind fun v4 => if v4 = (30 : Int32) then ((xgR σ r0 12 26).bind fun z6 => (xgR σ r0 12 7).bind fun z8 => (xaI σ 20 z8 (x1 + (1 : Int32))).bind fun v10 => (xsI σ 20 z6 (65 : Int32) v10).bind fun σ12 => f_X12_meansAll_j26 σ12 r0 x1) else f_X12_meansAll_j26 σ r0 x1
theorem m_X12_meansAll_l105 {r0 : Nat} {x2 : Int32} {x3 : Int32} {a : Int32 × XS} {x : XS} (hf : xloop (f_X12_meansAll_b105 r0 x2 x3) a = some x) : xsame a.2 x := by
  refine xloop_ind (P := fun a => xsame a.2 x) (fun a y hf hc he => ?_) hf
  obtain ⟨x4, σ⟩ := a
  have hy : (∀ a' : Int32 × XS, y = .inl a' → xsame σ a'.2) ∧ (∀ b1 : XS, y = .inr b1 → xsame σ b1) := by
    have hm := xsame.rf (σ := σ)
    by_cases q : (16 : Int32) ≤ x4
    · have hf := xip q hf
      obtain ⟨b0, hg, e9⟩ := xmj hf
      subst e9
      have hf := hg
      refine ⟨fun a' e => xnc2 e, fun b e => ?_⟩
      have h9 := Sum.inr.inj e
      subst h9
      have hf := xsj hf
      subst hf
      exact hm
    · have hf := xin q hf
      obtain ⟨z2, e1, hf⟩ := xbd hf
      obtain ⟨σ4, e3, hf⟩ := xbd hf
      have hm := hm.tr (xsI_same e3)
      have hf := xsj hf
      subst hf
      exact ⟨fun a' e => (by have h9 := Sum.inl.inj e; subst h9; exact hm), fun b e => xnc1 e⟩
  cases y with
  | inl a' =>
    have h1 := hc a' rfl
    have hm := hy.1 a' rfl
    exact hm.tr (h1)
  | inr b =>
    have h1 := he b rfl
    subst h1
    exact hy.2 _ rfl
theorem s_X12_meansAll_l105 {G : XG} (C : XC G cX12_meansAll RX12 none 5 2 45) {r0 : Nat} {x2 : Int32} {x3 : Int32} {a : Int32 × XS} {x : XS} (hf : xloop (f_X12_meansAll_b105 r0 x2 x3) a = some x) (hk : XEnd G none x) : WW G 105 [(0, .ref (gB G + r0)), (2, .int x2), (3, .int x3), (4, .int a.1)] [] a.2 := by
  refine xloop_ind (P := fun a => WW G 105 [(0, .ref (gB G + r0)), (2, .int x2), (3, .int x3), (4, .int a.1)] [] a.2) (fun a y hf hc he => ?_) hf
  obtain ⟨x4, σ⟩ := a
  have hk : (∀ a' : Int32 × XS, y = .inl a' → WW G 105 [(0, .ref (gB G + r0)), (2, .int x2), (3, .int x3), (4, .int a'.1)] [] a'.2) ∧ (∀ b1 : XS, y = .inr b1 → XEnd G none b1) := ⟨hc, fun b e => by have h9 := he b e; subst h9; exact hk⟩
  refine ww_iload (pc := 105) C 3 dX12_meansAll_105 rfl ?_
  refine ww_bipush (pc := 107) (v := (16 : Int32)) C dX12_meansAll_107 (by decide) ?_
  refine ww_icmp_ge (pc := 109) (tgt := 128) C dX12_meansAll_109 (by decide) (fun q => ?_) (fun q => ?_)
  · have hf := xip q hf
    obtain ⟨b0, hg, e9⟩ := xmj hf
    subst e9
    have hf := hg
    have hk := hk.2 _ rfl
    have hf := xsj hf
    subst hf
    exact ww_vret (pc := 128) C hk dX12_meansAll_128
  · have hf := xin q hf
    refine ww_aload_n (pc := 112) C 0 dX12_meansAll_112 rfl ?_
    obtain ⟨z2, e1, hf⟩ := xbd hf
    refine gf_X12_43 (pc := 113) C e1 dX12_meansAll_113 ?_
    refine ww_iload_n (pc := 116) C 1 dX12_meansAll_116 rfl ?_
    refine ww_iload (pc := 117) C 3 dX12_meansAll_117 rfl ?_
    refine ww_iadd (pc := 119) C dX12_meansAll_119 ?_
    refine ww_iload_n (pc := 120) C 2 dX12_meansAll_120 rfl ?_
    obtain ⟨σ4, e3, hf⟩ := xbd hf
    refine ww_iast (pc := 121) C e3 dX12_meansAll_121 ?_
    refine ww_iinc (pc := 122) (v := x4 + (1 : Int32)) (lv' := [(4, .int (x4 + (1 : Int32))), (0, .ref (gB G + r0)), (2, .int x2), (3, .int x3)]) C 3 dX12_meansAll_122 rfl (congrArg (fun z => x4 + z) (show Int32.ofInt (1) = (1 : Int32) by decide)) (by decide) rfl ?_
    refine ww_goto (pc := 125) (tgt := 105) C dX12_meansAll_125 (by decide) ?_
    have hf := xsj hf
    subst hf
    refine ww_sub [1, 2, 3, 0] rfl ?_
    exact hk.1 (x4 + (1 : Int32), σ4) rfl
theorem s_X12_meansAll_j93 {G : XG} (C : XC G cX12_meansAll RX12 none 5 2 45) {σ : XS} {r0 : Nat} {x1 : Int32} {t0 : Int32} {x : XS} (hf : f_X12_meansAll_j93 σ r0 x1 t0 = some x) (hk : XEnd G none x) : WW G 93 [(0, .ref (gB G + r0)), (1, .int x1)] [.int t0] σ := by
  refine ww_istore_n (pc := 93) (lv' := [(2, .int t0), (0, .ref (gB G + r0)), (1, .int x1)]) C dX12_meansAll_93 (by decide) rfl ?_
  refine ww_aload_n (pc := 94) C 1 dX12_meansAll_94 rfl ?_
  refine ww_iload_n (pc := 95) C 2 dX12_meansAll_95 rfl ?_
  refine ww_iconst (pc := 96) (v := (1 : Int32)) C dX12_meansAll_96 (by decide) ?_
  refine ww_iadd (pc := 97) C dX12_meansAll_97 ?_
  obtain ⟨_, e1, hf⟩ := xbd hf
  obtain ⟨⟨v4, σ3⟩, e2, hf⟩ := xbd hf
  dsimp only at hf
  refine ww_callVi (pc := 98) (as := [.int (x1 + (1 : Int32))]) (st := []) C (k_X12_jAt (l := gl G) (E := gE G) (hb := gB G) (σ := σ) e2) rfl (by decide) xc_X12_223 q1485 qp134 (xck_spec e1) rfl (by decide) (xst4 (Nat.le_of_ble_eq_true rfl)) (m_X12_jAt e2).le (m_X12_jAt e2).lim dX12_meansAll_98 ?_
  refine ww_istore_n (pc := 101) (lv' := [(3, .int v4), (2, .int t0), (0, .ref (gB G + r0)), (1, .int x1)]) C dX12_meansAll_101 (by decide) rfl ?_
  refine ww_iconst (pc := 102) (v := (0 : Int32)) C dX12_meansAll_102 (by decide) ?_
  refine ww_istore (pc := 103) (lv' := [(4, .int (0 : Int32)), (3, .int v4), (2, .int t0), (0, .ref (gB G + r0)), (1, .int x1)]) C dX12_meansAll_103 (by decide) rfl ?_
  refine ww_sub [3, 2, 1, 0] rfl ?_
  exact s_X12_meansAll_l105 C (a := ((0 : Int32), σ3)) hf hk
theorem m_X12_meansAll_j93 {σ : XS} {r0 : Nat} {x1 : Int32} {t0 : Int32} {x : XS} (hf : f_X12_meansAll_j93 σ r0 x1 t0 = some x) : xsame σ x := by
  have hm := xsame.rf (σ := σ)
  obtain ⟨_, e1, hf⟩ := xbd hf
  obtain ⟨⟨v4, σ3⟩, e2, hf⟩ := xbd hf
  dsimp only at hf
  have hm := hm.tr (m_X12_jAt e2)
  exact hm.tr (m_X12_meansAll_l105 (a := ((0 : Int32), σ3)) hf)
theorem s_X12_meansAll_j60 {G : XG} (C : XC G cX12_meansAll RX12 none 5 2 45) {σ : XS} {r0 : Nat} {x1 : Int32} {x : XS} (hf : f_X12_meansAll_j60 σ r0 x1 = some x) (hk : XEnd G none x) : WW G 60 [(0, .ref (gB G + r0)), (1, .int x1)] [] σ := by
  refine ww_aload_n (pc := 60) C 0 dX12_meansAll_60 rfl ?_
  obtain ⟨z2, e1, hf⟩ := xbd hf
  refine gf_X12_20 (pc := 61) C e1 dX12_meansAll_61 ?_
  refine ww_iload_n (pc := 64) C 1 dX12_meansAll_64 rfl ?_
  obtain ⟨v4, e3, hf⟩ := xbd hf
  refine ww_iald (pc := 65) C e3 dX12_meansAll_65 ?_
  refine ww_bipush (pc := 66) (v := (21 : Int32)) C dX12_meansAll_66 (by decide) ?_
  refine ww_icmp_ne (pc := 68) (tgt := 75) C dX12_meansAll_68 (by decide) (fun q => ?_) (fun q => ?_)
  · have hf := xin q hf
    refine ww_aload_n (pc := 75) C 0 dX12_meansAll_75 rfl ?_
    obtain ⟨z6, e5, hf⟩ := xbd hf
    refine gf_X12_20 (pc := 76) C e5 dX12_meansAll_76 ?_
    refine ww_iload_n (pc := 79) C 1 dX12_meansAll_79 rfl ?_
    obtain ⟨v8, e7, hf⟩ := xbd hf
    refine ww_iald (pc := 80) C e7 dX12_meansAll_80 ?_
    refine ww_bipush (pc := 81) (v := (22 : Int32)) C dX12_meansAll_81 (by decide) ?_
    refine ww_icmp_ne (pc := 83) (tgt := 91) C dX12_meansAll_83 (by decide) (fun q => ?_) (fun q => ?_)
    · have hf := xin q hf
      refine ww_bipush (pc := 91) (v := (32 : Int32)) C dX12_meansAll_91 (by decide) ?_
      refine ww_sub [0, 1] rfl ?_
      exact s_X12_meansAll_j93 C hf hk
    · have hf := xip q hf
      refine ww_bipush (pc := 86) (v := (16 : Int32)) C dX12_meansAll_86 (by decide) ?_
      refine ww_goto (pc := 88) (tgt := 93) C dX12_meansAll_88 (by decide) ?_
      refine ww_sub [0, 1] rfl ?_
      exact s_X12_meansAll_j93 C hf hk
  · have hf := xip q hf
    refine ww_iconst (pc := 71) (v := (0 : Int32)) C dX12_meansAll_71 (by decide) ?_
    refine ww_goto (pc := 72) (tgt := 93) C dX12_meansAll_72 (by decide) ?_
    refine ww_sub [0, 1] rfl ?_
    exact s_X12_meansAll_j93 C hf hk
theorem m_X12_meansAll_j60 {σ : XS} {r0 : Nat} {x1 : Int32} {x : XS} (hf : f_X12_meansAll_j60 σ r0 x1 = some x) : xsame σ x := by
  have hm := xsame.rf (σ := σ)
  obtain ⟨z2, e1, hf⟩ := xbd hf
  obtain ⟨v4, e3, hf⟩ := xbd hf
  by_cases q : v4 = (21 : Int32)
  · have hf := xip q hf
    exact hm.tr (m_X12_meansAll_j93 hf)
  · have hf := xin q hf
    obtain ⟨z6, e5, hf⟩ := xbd hf
    obtain ⟨v8, e7, hf⟩ := xbd hf
    by_cases q : v8 = (22 : Int32)
    · have hf := xip q hf
      exact hm.tr (m_X12_meansAll_j93 hf)
    · have hf := xin q hf
      exact hm.tr (m_X12_meansAll_j93 hf)
theorem s_X12_meansAll_j26 {G : XG} (C : XC G cX12_meansAll RX12 none 5 2 45) {σ : XS} {r0 : Nat} {x1 : Int32} {x : XS} (hf : f_X12_meansAll_j26 σ r0 x1 = some x) (hk : XEnd G none x) : WW G 26 [(0, .ref (gB G + r0)), (1, .int x1)] [] σ := by
  refine ww_aload_n (pc := 26) C 0 dX12_meansAll_26 rfl ?_
  obtain ⟨z2, e1, hf⟩ := xbd hf
  refine gf_X12_20 (pc := 27) C e1 dX12_meansAll_27 ?_
  refine ww_iload_n (pc := 30) C 1 dX12_meansAll_30 rfl ?_
  obtain ⟨v4, e3, hf⟩ := xbd hf
  refine ww_iald (pc := 31) C e3 dX12_meansAll_31 ?_
  refine ww_bipush (pc := 32) (v := (21 : Int32)) C dX12_meansAll_32 (by decide) ?_
  refine ww_icmp_eq (pc := 34) (tgt := 60) C dX12_meansAll_34 (by decide) (fun q => ?_) (fun q => ?_)
  · have hf := xip q hf
    refine ww_sub [0, 1] rfl ?_
    exact s_X12_meansAll_j60 C hf hk
  · have hf := xin q hf
    refine ww_aload_n (pc := 37) C 0 dX12_meansAll_37 rfl ?_
    obtain ⟨z6, e5, hf⟩ := xbd hf
    refine gf_X12_20 (pc := 38) C e5 dX12_meansAll_38 ?_
    refine ww_iload_n (pc := 41) C 1 dX12_meansAll_41 rfl ?_
    obtain ⟨v8, e7, hf⟩ := xbd hf
    refine ww_iald (pc := 42) C e7 dX12_meansAll_42 ?_
    refine ww_bipush (pc := 43) (v := (22 : Int32)) C dX12_meansAll_43 (by decide) ?_
    refine ww_icmp_eq (pc := 45) (tgt := 60) C dX12_meansAll_45 (by decide) (fun q => ?_) (fun q => ?_)
    · have hf := xip q hf
      refine ww_sub [0, 1] rfl ?_
      exact s_X12_meansAll_j60 C hf hk
    · have hf := xin q hf
      refine ww_aload_n (pc := 48) C 0 dX12_meansAll_48 rfl ?_
      obtain ⟨z10, e9, hf⟩ := xbd hf
      refine gf_X12_20 (pc := 49) C e9 dX12_meansAll_49 ?_
      refine ww_iload_n (pc := 52) C 1 dX12_meansAll_52 rfl ?_
      obtain ⟨v12, e11, hf⟩ := xbd hf
      refine ww_iald (pc := 53) C e11 dX12_meansAll_53 ?_
      refine ww_bipush (pc := 54) (v := (23 : Int32)) C dX12_meansAll_54 (by decide) ?_
      refine ww_icmp_eq (pc := 56) (tgt := 60) C dX12_meansAll_56 (by decide) (fun q => ?_) (fun q => ?_)
      · have hf := xip q hf
        refine ww_sub [0, 1] rfl ?_
        exact s_X12_meansAll_j60 C hf hk
      · have hf := xin q hf
        have hf := xsj hf
        subst hf
        exact ww_vret (pc := 59) C hk dX12_meansAll_59
theorem m_X12_meansAll_j26 {σ : XS} {r0 : Nat} {x1 : Int32} {x : XS} (hf : f_X12_meansAll_j26 σ r0 x1 = some x) : xsame σ x := by
  have hm := xsame.rf (σ := σ)
  obtain ⟨z2, e1, hf⟩ := xbd hf
  obtain ⟨v4, e3, hf⟩ := xbd hf
  by_cases q : v4 = (21 : Int32)
  · have hf := xip q hf
    exact hm.tr (m_X12_meansAll_j60 hf)
  · have hf := xin q hf
    obtain ⟨z6, e5, hf⟩ := xbd hf
    obtain ⟨v8, e7, hf⟩ := xbd hf
    by_cases q : v8 = (22 : Int32)
    · have hf := xip q hf
      exact hm.tr (m_X12_meansAll_j60 hf)
    · have hf := xin q hf
      obtain ⟨z10, e9, hf⟩ := xbd hf
      obtain ⟨v12, e11, hf⟩ := xbd hf
      by_cases q : v12 = (23 : Int32)
      · have hf := xip q hf
        exact hm.tr (m_X12_meansAll_j60 hf)
      · have hf := xin q hf
        have hf := xsj hf
        subst hf
        exact hm
theorem s_X12_meansAll_e {G : XG} (C : XC G cX12_meansAll RX12 none 5 2 45) {σ : XS} {r0 : Nat} {x1 : Int32} {x : XS} (hf : f_X12_meansAll σ r0 x1 = some x) (hk : XEnd G none x) : WW G 0 [(0, .ref (gB G + r0)), (1, .int x1)] [] σ := by
  refine ww_aload_n (pc := 0) C 0 dX12_meansAll_0 rfl ?_
  obtain ⟨z2, e1, hf⟩ := xbd hf
  refine gf_X12_20 (pc := 1) C e1 dX12_meansAll_1 ?_
  refine ww_iload_n (pc := 4) C 1 dX12_meansAll_4 rfl ?_
  obtain ⟨v4, e3, hf⟩ := xbd hf
  refine ww_iald (pc := 5) C e3 dX12_meansAll_5 ?_
  refine ww_bipush (pc := 6) (v := (30 : Int32)) C dX12_meansAll_6 (by decide) ?_
  refine ww_icmp_ne (pc := 8) (tgt := 26) C dX12_meansAll_8 (by decide) (fun q => ?_) (fun q => ?_)
  · have hf := xin q hf
    refine ww_sub [0, 1] rfl ?_
    exact s_X12_meansAll_j26 C hf hk
  · have hf := xip q hf
    refine ww_aload_n (pc := 11) C 0 dX12_meansAll_11 rfl ?_
    obtain ⟨z6, e5, hf⟩ := xbd hf
    refine gf_X12_43 (pc := 12) C e5 dX12_meansAll_12 ?_
    refine ww_bipush (pc := 15) (v := (65 : Int32)) C dX12_meansAll_15 (by decide) ?_
    refine ww_aload_n (pc := 17) C 0 dX12_meansAll_17 rfl ?_
    obtain ⟨z8, e7, hf⟩ := xbd hf
    refine gf_X12_27 (pc := 18) C e7 dX12_meansAll_18 ?_
    refine ww_iload_n (pc := 21) C 1 dX12_meansAll_21 rfl ?_
    refine ww_iconst (pc := 22) (v := (1 : Int32)) C dX12_meansAll_22 (by decide) ?_
    refine ww_iadd (pc := 23) C dX12_meansAll_23 ?_
    obtain ⟨v10, e9, hf⟩ := xbd hf
    refine ww_iald (pc := 24) C e9 dX12_meansAll_24 ?_
    obtain ⟨σ12, e11, hf⟩ := xbd hf
    refine ww_iast (pc := 25) C e11 dX12_meansAll_25 ?_
    refine ww_sub [0, 1] rfl ?_
    exact s_X12_meansAll_j26 C hf hk
theorem m_X12_meansAll {σ : XS} {r0 : Nat} {x1 : Int32} {x : XS} (hf : f_X12_meansAll σ r0 x1 = some x) : xsame σ x := by
  have hm := xsame.rf (σ := σ)
  obtain ⟨z2, e1, hf⟩ := xbd hf
  obtain ⟨v4, e3, hf⟩ := xbd hf
  by_cases q : v4 = (30 : Int32)
  · have hf := xip q hf
    obtain ⟨z6, e5, hf⟩ := xbd hf
    obtain ⟨z8, e7, hf⟩ := xbd hf
    obtain ⟨v10, e9, hf⟩ := xbd hf
    obtain ⟨σ12, e11, hf⟩ := xbd hf
    have hm := hm.tr (xsI_same e11)
    exact hm.tr (m_X12_meansAll_j26 hf)
  · have hf := xin q hf
    exact hm.tr (m_X12_meansAll_j26 hf)
theorem k_X12_meansAll {l : Launch} {E : XD} {hb : Nat} {σ : XS} {r0 : Nat} {x1 : Int32} {x : XS} (h : f_X12_meansAll σ r0 x1 = some x) : XM l yX12_meansAll cX12_meansAll 5 none 2 45 E hb [.ref (hb + r0), .int x1] σ none x := by
  refine xm_of (by decide) (Nat.le_of_ble_eq_true rfl) (m_X12_meansAll h).le (fun G hG C hl hQ => ?_)
  obtain ⟨rfl, rfl, rfl, hN⟩ := hG
  exact s_X12_meansAll_e C h hQ
noncomputable def f_X12_meansOne_j200 (σ : XS) (r0 : Nat) (x2 : Int32) (x3 : Int32) (x4 : Int32) (x5 : Int32) (t0 : Nat) (t1 : Int32) : Option XS := (xck σ t0 12).bind fun _ => (f_X12_jAt σ t0 t1).bind fun (v4, σ3) => if x4 = 0 then (some σ3) else (xgR σ3 r0 12 26).bind fun z6 => if x2 = (26 : Int32) then ((xsI σ3 20 z6 ((32 : Int32) + x3) v4).bind fun σ8 => some σ8) else if x5 = 0 then ((xsI σ3 20 z6 ((0 : Int32) + x3) v4).bind fun σ8 => some σ8) else (xsI σ3 20 z6 ((16 : Int32) + x3) v4).bind fun σ8 => some σ8
noncomputable def f_X12_meansOne_j145 (σ : XS) (r0 : Nat) (x1 : Int32) (x2 : Int32) (x3 : Int32) (x4 : Int32) (x5 : Int32) : Option XS := if x2 = (27 : Int32) then (if x4 = 0 then (some σ) else (xgR σ r0 12 26).bind fun z2 => (xgR σ r0 12 5).bind fun z4 => (xaI σ 20 z4 (x1 + (2 : Int32))).bind fun v6 => if v6 = (28 : Int32) then ((xsI σ 20 z2 ((48 : Int32) + x3) (1 : Int32)).bind fun σ8 => some σ8) else (xsI σ 20 z2 ((48 : Int32) + x3) (2 : Int32)).bind fun σ8 => some σ8) else if x2 = (25 : Int32) then (f_X12_meansOne_j200 σ r0 x2 x3 x4 x5 r0 (x1 + (3 : Int32))) else f_X12_meansOne_j200 σ r0 x2 x3 x4 x5 r0 (x1 + (2 : Int32))
noncomputable def f_X12_meansOne_j134 (σ : XS) (r0 : Nat) (x1 : Int32) (x2 : Int32) (x3 : Int32) (x5 : Int32) : Option XS := (xck σ r0 12).bind fun _ => (f_X12_wrong σ r0 (4 : Int32) (x1 + (1 : Int32))).bind fun σ3 => f_X12_meansOne_j145 σ3 r0 x1 x2 x3 (0 : Int32) x5
noncomputable def f_X12_meansOne_j128 (σ : XS) (r0 : Nat) (x1 : Int32) (x2 : Int32) (x3 : Int32) (x4 : Int32) (x5 : Int32) (t0 : Int32) (t1 : Int32) (t2 : Int32) (t3 : Int32) (t4 : Int32) : Option XS := (f_X12_leads t0 t1 t2 t3 t4).bind fun v2 => if 0 ≤ v2 then (f_X12_meansOne_j145 σ r0 x1 x2 x3 x4 x5) else f_X12_meansOne_j134 σ r0 x1 x2 x3 x5
noncomputable def f_X12_meansOne_j80 (σ : XS) (r0 : Nat) (x1 : Int32) (x2 : Int32) (x3 : Int32) (x4 : Int32) (t0 : Int32) : Option XS := (xgI σ r0 12 22).bind fun v2 => (xgI σ r0 12 23).bind fun v4 => if (v2 * v4) ≤ x3 then (f_X12_meansOne_j134 σ r0 x1 x2 x3 t0) else if x2 = (25 : Int32) then ((xgI σ r0 12 22).bind fun v6 => (xgI σ r0 12 23).bind fun v8 => if t0 = 0 then ((xgI σ r0 12 24).bind fun v10 => f_X12_meansOne_j128 σ r0 x1 x2 x3 x4 t0 x3 t0 v6 v8 v10) else (xgI σ r0 12 25).bind fun v10 => f_X12_meansOne_j128 σ r0 x1 x2 x3 x4 t0 x3 t0 v6 v8 v10) else f_X12_meansOne_j145 σ r0 x1 x2 x3 x4 t0
noncomputable def f_X12_meansOne_j60 (σ : XS) (r0 : Nat) (x1 : Int32) (x2 : Int32) (x3 : Int32) (t0 : Int32) : Option XS := (xgR σ r0 12 5).bind fun z2 => (xaI σ 20 z2 (x1 + (2 : Int32))).bind fun v4 => if v4 = (22 : Int32) then (f_X12_meansOne_j80 σ r0 x1 x2 x3 t0 (1 : Int32)) else f_X12_meansOne_j80 σ r0 x1 x2 x3 t0 (0 : Int32)
noncomputable def f_X12_meansOne_j26 (σ : XS) (r0 : Nat) (x1 : Int32) (x2 : Int32) : Option XS := (xgR σ r0 12 7).bind fun z2 => (xaI σ 20 z2 (x1 + (1 : Int32))).bind fun v4 => (xgI σ r0 12 22).bind fun v6 => (xgI σ r0 12 23).bind fun v8 => if (v6 * v8) ≤ v4 then (f_X12_meansOne_j60 σ r0 x1 x2 v4 (0 : Int32)) else (xgI σ r0 12 14).bind fun v10 => if v10 = 0 then (f_X12_meansOne_j60 σ r0 x1 x2 v4 (1 : Int32)) else f_X12_meansOne_j60 σ r0 x1 x2 v4 (0 : Int32)
noncomputable def f_X12_meansOne (σ : XS) (r0 : Nat) (x1 : Int32) : Option XS := (xgR σ r0 12 5).bind fun z2 => (xaI σ 20 z2 x1).bind fun v4 => if v4 = (25 : Int32) then (f_X12_meansOne_j26 σ r0 x1 v4) else if v4 = (26 : Int32) then (f_X12_meansOne_j26 σ r0 x1 v4) else if v4 = (27 : Int32) then (f_X12_meansOne_j26 σ r0 x1 v4) else some σ
theorem s_X12_meansOne_j200 {G : XG} (C : XC G cX12_meansOne RX12 none 7 2 45) {σ : XS} {r0 : Nat} {x2 : Int32} {x3 : Int32} {x4 : Int32} {x5 : Int32} {t0 : Nat} {t1 : Int32} {x : XS} (hf : f_X12_meansOne_j200 σ r0 x2 x3 x4 x5 t0 t1 = some x) (hk : XEnd G none x) : WW G 200 [(0, .ref (gB G + r0)), (2, .int x2), (3, .int x3), (4, .int x4), (5, .int x5)] [.int t1, .ref (gB G + t0)] σ := by
  obtain ⟨_, e1, hf⟩ := xbd hf
  obtain ⟨⟨v4, σ3⟩, e2, hf⟩ := xbd hf
  dsimp only at hf
  refine ww_callVi (pc := 200) (as := [.int t1]) (st := []) C (k_X12_jAt (l := gl G) (E := gE G) (hb := gB G) (σ := σ) e2) rfl (by decide) xc_X12_223 q1485 qp134 (xck_spec e1) rfl (by decide) (xst4 (Nat.le_of_ble_eq_true rfl)) (m_X12_jAt e2).le (m_X12_jAt e2).lim dX12_meansOne_200 ?_
  refine ww_istore (pc := 203) (lv' := [(6, .int v4), (0, .ref (gB G + r0)), (2, .int x2), (3, .int x3), (4, .int x4), (5, .int x5)]) C dX12_meansOne_203 (by decide) rfl ?_
  refine ww_iload (pc := 205) C 4 dX12_meansOne_205 rfl ?_
  refine ww_if_eq (pc := 207) (tgt := 241) C dX12_meansOne_207 (by decide) (fun q => ?_) (fun q => ?_)
  · have hf := xip q hf
    have hf := xsj hf
    subst hf
    exact ww_vret (pc := 241) C hk dX12_meansOne_241
  · have hf := xin q hf
    refine ww_aload_n (pc := 210) C 1 dX12_meansOne_210 rfl ?_
    obtain ⟨z6, e5, hf⟩ := xbd hf
    refine gf_X12_43 (pc := 211) C e5 dX12_meansOne_211 ?_
    refine ww_iload_n (pc := 214) C 2 dX12_meansOne_214 rfl ?_
    refine ww_bipush (pc := 215) (v := (26 : Int32)) C dX12_meansOne_215 (by decide) ?_
    refine ww_icmp_ne (pc := 217) (tgt := 225) C dX12_meansOne_217 (by decide) (fun q => ?_) (fun q => ?_)
    · have hf := xin q hf
      refine ww_iload (pc := 225) C 5 dX12_meansOne_225 rfl ?_
      refine ww_if_eq (pc := 227) (tgt := 235) C dX12_meansOne_227 (by decide) (fun q => ?_) (fun q => ?_)
      · have hf := xip q hf
        refine ww_iconst (pc := 235) (v := (0 : Int32)) C dX12_meansOne_235 (by decide) ?_
        refine ww_iload_n (pc := 236) C 3 dX12_meansOne_236 rfl ?_
        refine ww_iadd (pc := 237) C dX12_meansOne_237 ?_
        refine ww_iload (pc := 238) C 0 dX12_meansOne_238 rfl ?_
        obtain ⟨σ8, e7, hf⟩ := xbd hf
        refine ww_iast (pc := 240) C e7 dX12_meansOne_240 ?_
        have hf := xsj hf
        subst hf
        exact ww_vret (pc := 241) C hk dX12_meansOne_241
      · have hf := xin q hf
        refine ww_bipush (pc := 230) (v := (16 : Int32)) C dX12_meansOne_230 (by decide) ?_
        refine ww_goto (pc := 232) (tgt := 236) C dX12_meansOne_232 (by decide) ?_
        refine ww_iload_n (pc := 236) C 3 dX12_meansOne_236 rfl ?_
        refine ww_iadd (pc := 237) C dX12_meansOne_237 ?_
        refine ww_iload (pc := 238) C 0 dX12_meansOne_238 rfl ?_
        obtain ⟨σ8, e7, hf⟩ := xbd hf
        refine ww_iast (pc := 240) C e7 dX12_meansOne_240 ?_
        have hf := xsj hf
        subst hf
        exact ww_vret (pc := 241) C hk dX12_meansOne_241
    · have hf := xip q hf
      refine ww_bipush (pc := 220) (v := (32 : Int32)) C dX12_meansOne_220 (by decide) ?_
      refine ww_goto (pc := 222) (tgt := 236) C dX12_meansOne_222 (by decide) ?_
      refine ww_iload_n (pc := 236) C 3 dX12_meansOne_236 rfl ?_
      refine ww_iadd (pc := 237) C dX12_meansOne_237 ?_
      refine ww_iload (pc := 238) C 0 dX12_meansOne_238 rfl ?_
      obtain ⟨σ8, e7, hf⟩ := xbd hf
      refine ww_iast (pc := 240) C e7 dX12_meansOne_240 ?_
      have hf := xsj hf
      subst hf
      exact ww_vret (pc := 241) C hk dX12_meansOne_241
theorem m_X12_meansOne_j200 {σ : XS} {r0 : Nat} {x2 : Int32} {x3 : Int32} {x4 : Int32} {x5 : Int32} {t0 : Nat} {t1 : Int32} {x : XS} (hf : f_X12_meansOne_j200 σ r0 x2 x3 x4 x5 t0 t1 = some x) : xsame σ x := by
  have hm := xsame.rf (σ := σ)
  obtain ⟨_, e1, hf⟩ := xbd hf
  obtain ⟨⟨v4, σ3⟩, e2, hf⟩ := xbd hf
  dsimp only at hf
  have hm := hm.tr (m_X12_jAt e2)
  by_cases q : x4 = 0
  · have hf := xip q hf
    have hf := xsj hf
    subst hf
    exact hm
  · have hf := xin q hf
    obtain ⟨z6, e5, hf⟩ := xbd hf
    by_cases q : x2 = (26 : Int32)
    · have hf := xip q hf
      obtain ⟨σ8, e7, hf⟩ := xbd hf
      have hm := hm.tr (xsI_same e7)
      have hf := xsj hf
      subst hf
      exact hm
    · have hf := xin q hf
      by_cases q : x5 = 0
      · have hf := xip q hf
        obtain ⟨σ8, e7, hf⟩ := xbd hf
        have hm := hm.tr (xsI_same e7)
        have hf := xsj hf
        subst hf
        exact hm
      · have hf := xin q hf
        obtain ⟨σ8, e7, hf⟩ := xbd hf
        have hm := hm.tr (xsI_same e7)
        have hf := xsj hf
        subst hf
        exact hm
theorem s_X12_meansOne_j145 {G : XG} (C : XC G cX12_meansOne RX12 none 7 2 45) {σ : XS} {r0 : Nat} {x1 : Int32} {x2 : Int32} {x3 : Int32} {x4 : Int32} {x5 : Int32} {x : XS} (hf : f_X12_meansOne_j145 σ r0 x1 x2 x3 x4 x5 = some x) (hk : XEnd G none x) : WW G 145 [(0, .ref (gB G + r0)), (1, .int x1), (2, .int x2), (3, .int x3), (4, .int x4), (5, .int x5)] [] σ := by
  refine ww_iload_n (pc := 145) C 2 dX12_meansOne_145 rfl ?_
  refine ww_bipush (pc := 146) (v := (27 : Int32)) C dX12_meansOne_146 (by decide) ?_
  refine ww_icmp_ne (pc := 148) (tgt := 184) C dX12_meansOne_148 (by decide) (fun q => ?_) (fun q => ?_)
  · have hf := xin q hf
    refine ww_aload_n (pc := 184) C 0 dX12_meansOne_184 rfl ?_
    refine ww_iload_n (pc := 185) C 2 dX12_meansOne_185 rfl ?_
    refine ww_bipush (pc := 186) (v := (25 : Int32)) C dX12_meansOne_186 (by decide) ?_
    refine ww_icmp_ne (pc := 188) (tgt := 197) C dX12_meansOne_188 (by decide) (fun q => ?_) (fun q => ?_)
    · have hf := xin q hf
      refine ww_iload_n (pc := 197) C 1 dX12_meansOne_197 rfl ?_
      refine ww_iconst (pc := 198) (v := (2 : Int32)) C dX12_meansOne_198 (by decide) ?_
      refine ww_iadd (pc := 199) C dX12_meansOne_199 ?_
      refine ww_sub [0, 2, 3, 4, 5] rfl ?_
      exact s_X12_meansOne_j200 C hf hk
    · have hf := xip q hf
      refine ww_iload_n (pc := 191) C 1 dX12_meansOne_191 rfl ?_
      refine ww_iconst (pc := 192) (v := (3 : Int32)) C dX12_meansOne_192 (by decide) ?_
      refine ww_iadd (pc := 193) C dX12_meansOne_193 ?_
      refine ww_goto (pc := 194) (tgt := 200) C dX12_meansOne_194 (by decide) ?_
      refine ww_sub [0, 2, 3, 4, 5] rfl ?_
      exact s_X12_meansOne_j200 C hf hk
  · have hf := xip q hf
    refine ww_iload (pc := 151) C 4 dX12_meansOne_151 rfl ?_
    refine ww_if_eq (pc := 153) (tgt := 183) C dX12_meansOne_153 (by decide) (fun q => ?_) (fun q => ?_)
    · have hf := xip q hf
      have hf := xsj hf
      subst hf
      exact ww_vret (pc := 183) C hk dX12_meansOne_183
    · have hf := xin q hf
      refine ww_aload_n (pc := 156) C 0 dX12_meansOne_156 rfl ?_
      obtain ⟨z2, e1, hf⟩ := xbd hf
      refine gf_X12_43 (pc := 157) C e1 dX12_meansOne_157 ?_
      refine ww_bipush (pc := 160) (v := (48 : Int32)) C dX12_meansOne_160 (by decide) ?_
      refine ww_iload_n (pc := 162) C 3 dX12_meansOne_162 rfl ?_
      refine ww_iadd (pc := 163) C dX12_meansOne_163 ?_
      refine ww_aload_n (pc := 164) C 0 dX12_meansOne_164 rfl ?_
      obtain ⟨z4, e3, hf⟩ := xbd hf
      refine gf_X12_20 (pc := 165) C e3 dX12_meansOne_165 ?_
      refine ww_iload_n (pc := 168) C 1 dX12_meansOne_168 rfl ?_
      refine ww_iconst (pc := 169) (v := (2 : Int32)) C dX12_meansOne_169 (by decide) ?_
      refine ww_iadd (pc := 170) C dX12_meansOne_170 ?_
      obtain ⟨v6, e5, hf⟩ := xbd hf
      refine ww_iald (pc := 171) C e5 dX12_meansOne_171 ?_
      refine ww_bipush (pc := 172) (v := (28 : Int32)) C dX12_meansOne_172 (by decide) ?_
      refine ww_icmp_ne (pc := 174) (tgt := 181) C dX12_meansOne_174 (by decide) (fun q => ?_) (fun q => ?_)
      · have hf := xin q hf
        refine ww_iconst (pc := 181) (v := (2 : Int32)) C dX12_meansOne_181 (by decide) ?_
        obtain ⟨σ8, e7, hf⟩ := xbd hf
        refine ww_iast (pc := 182) C e7 dX12_meansOne_182 ?_
        have hf := xsj hf
        subst hf
        exact ww_vret (pc := 183) C hk dX12_meansOne_183
      · have hf := xip q hf
        refine ww_iconst (pc := 177) (v := (1 : Int32)) C dX12_meansOne_177 (by decide) ?_
        refine ww_goto (pc := 178) (tgt := 182) C dX12_meansOne_178 (by decide) ?_
        obtain ⟨σ8, e7, hf⟩ := xbd hf
        refine ww_iast (pc := 182) C e7 dX12_meansOne_182 ?_
        have hf := xsj hf
        subst hf
        exact ww_vret (pc := 183) C hk dX12_meansOne_183
theorem m_X12_meansOne_j145 {σ : XS} {r0 : Nat} {x1 : Int32} {x2 : Int32} {x3 : Int32} {x4 : Int32} {x5 : Int32} {x : XS} (hf : f_X12_meansOne_j145 σ r0 x1 x2 x3 x4 x5 = some x) : xsame σ x := by
  have hm := xsame.rf (σ := σ)
  by_cases q : x2 = (27 : Int32)
  · have hf := xip q hf
    by_cases q : x4 = 0
    · have hf := xip q hf
      have hf := xsj hf
      subst hf
      exact hm
    · have hf := xin q hf
      obtain ⟨z2, e1, hf⟩ := xbd hf
      obtain ⟨z4, e3, hf⟩ := xbd hf
      obtain ⟨v6, e5, hf⟩ := xbd hf
      by_cases q : v6 = (28 : Int32)
      · have hf := xip q hf
        obtain ⟨σ8, e7, hf⟩ := xbd hf
        have hm := hm.tr (xsI_same e7)
        have hf := xsj hf
        subst hf
        exact hm
      · have hf := xin q hf
        obtain ⟨σ8, e7, hf⟩ := xbd hf
        have hm := hm.tr (xsI_same e7)
        have hf := xsj hf
        subst hf
        exact hm
  · have hf := xin q hf
    by_cases q : x2 = (25 : Int32)
    · have hf := xip q hf
      exact hm.tr (m_X12_meansOne_j200 hf)
    · have hf := xin q hf
      exact hm.tr (m_X12_meansOne_j200 hf)
theorem s_X12_meansOne_j134 {G : XG} (C : XC G cX12_meansOne RX12 none 7 2 45) {σ : XS} {r0 : Nat} {x1 : Int32} {x2 : Int32} {x3 : Int32} {x5 : Int32} {x : XS} (hf : f_X12_meansOne_j134 σ r0 x1 x2 x3 x5 = some x) (hk : XEnd G none x) : WW G 134 [(0, .ref (gB G + r0)), (1, .int x1), (2, .int x2), (3, .int x3), (5, .int x5)] [] σ := by
  refine ww_aload_n (pc := 134) C 0 dX12_meansOne_134 rfl ?_
  refine ww_iconst (pc := 135) (v := (4 : Int32)) C dX12_meansOne_135 (by decide) ?_
  refine ww_iload_n (pc := 136) C 1 dX12_meansOne_136 rfl ?_
  refine ww_iconst (pc := 137) (v := (1 : Int32)) C dX12_meansOne_137 (by decide) ?_
  refine ww_iadd (pc := 138) C dX12_meansOne_138 ?_
  obtain ⟨_, e1, hf⟩ := xbd hf
  obtain ⟨σ3, e2, hf⟩ := xbd hf
  refine ww_callVv (pc := 139) (as := [.int (4 : Int32), .int (x1 + (1 : Int32))]) (st := []) C (k_X12_wrong (l := gl G) (E := gE G) (hb := gB G) (σ := σ) e2) rfl (by decide) xc_X12_209 q1477 qp132 (xck_spec e1) rfl (by decide) (xst4 (Nat.le_of_ble_eq_true rfl)) (m_X12_wrong e2).le (m_X12_wrong e2).lim dX12_meansOne_139 ?_
  refine ww_iconst (pc := 142) (v := (0 : Int32)) C dX12_meansOne_142 (by decide) ?_
  refine ww_istore (pc := 143) (lv' := [(4, .int (0 : Int32)), (0, .ref (gB G + r0)), (1, .int x1), (2, .int x2), (3, .int x3), (5, .int x5)]) C dX12_meansOne_143 (by decide) rfl ?_
  refine ww_sub [1, 2, 3, 4, 0, 5] rfl ?_
  exact s_X12_meansOne_j145 C hf hk
theorem m_X12_meansOne_j134 {σ : XS} {r0 : Nat} {x1 : Int32} {x2 : Int32} {x3 : Int32} {x5 : Int32} {x : XS} (hf : f_X12_meansOne_j134 σ r0 x1 x2 x3 x5 = some x) : xsame σ x := by
  have hm := xsame.rf (σ := σ)
  obtain ⟨_, e1, hf⟩ := xbd hf
  obtain ⟨σ3, e2, hf⟩ := xbd hf
  have hm := hm.tr (m_X12_wrong e2)
  exact hm.tr (m_X12_meansOne_j145 hf)
theorem s_X12_meansOne_j128 {G : XG} (C : XC G cX12_meansOne RX12 none 7 2 45) {σ : XS} {r0 : Nat} {x1 : Int32} {x2 : Int32} {x3 : Int32} {x4 : Int32} {x5 : Int32} {t0 : Int32} {t1 : Int32} {t2 : Int32} {t3 : Int32} {t4 : Int32} {x : XS} (hf : f_X12_meansOne_j128 σ r0 x1 x2 x3 x4 x5 t0 t1 t2 t3 t4 = some x) (hk : XEnd G none x) : WW G 128 [(0, .ref (gB G + r0)), (1, .int x1), (2, .int x2), (3, .int x3), (4, .int x4), (5, .int x5)] [.int t4, .int t3, .int t2, .int t1, .int t0] σ := by
  obtain ⟨v2, e1, hf⟩ := xbd hf
  refine ww_callSi (pc := 128) (as := [.int t0, .int t1, .int t2, .int t3, .int t4]) (st := []) C (k_X12_leads (l := gl G) (E := gE G) (hb := gB G) (σ := σ) e1) xc_X12_226 q1492 rfl (by decide) (xst4 (Nat.le_of_ble_eq_true rfl)) xsame.rf.le xsame.rf.lim dX12_meansOne_128 ?_
  refine ww_if_ge (pc := 131) (tgt := 145) C dX12_meansOne_131 (by decide) (fun q => ?_) (fun q => ?_)
  · have hf := xip q hf
    refine ww_sub [0, 1, 2, 3, 4, 5] rfl ?_
    exact s_X12_meansOne_j145 C hf hk
  · have hf := xin q hf
    refine ww_sub [0, 1, 2, 3, 5] rfl ?_
    exact s_X12_meansOne_j134 C hf hk
theorem m_X12_meansOne_j128 {σ : XS} {r0 : Nat} {x1 : Int32} {x2 : Int32} {x3 : Int32} {x4 : Int32} {x5 : Int32} {t0 : Int32} {t1 : Int32} {t2 : Int32} {t3 : Int32} {t4 : Int32} {x : XS} (hf : f_X12_meansOne_j128 σ r0 x1 x2 x3 x4 x5 t0 t1 t2 t3 t4 = some x) : xsame σ x := by
  have hm := xsame.rf (σ := σ)
  obtain ⟨v2, e1, hf⟩ := xbd hf
  by_cases q : 0 ≤ v2
  · have hf := xip q hf
    exact hm.tr (m_X12_meansOne_j145 hf)
  · have hf := xin q hf
    exact hm.tr (m_X12_meansOne_j134 hf)
theorem s_X12_meansOne_j80 {G : XG} (C : XC G cX12_meansOne RX12 none 7 2 45) {σ : XS} {r0 : Nat} {x1 : Int32} {x2 : Int32} {x3 : Int32} {x4 : Int32} {t0 : Int32} {x : XS} (hf : f_X12_meansOne_j80 σ r0 x1 x2 x3 x4 t0 = some x) (hk : XEnd G none x) : WW G 80 [(0, .ref (gB G + r0)), (1, .int x1), (2, .int x2), (3, .int x3), (4, .int x4)] [.int t0] σ := by
  refine ww_istore (pc := 80) (lv' := [(5, .int t0), (0, .ref (gB G + r0)), (1, .int x1), (2, .int x2), (3, .int x3), (4, .int x4)]) C dX12_meansOne_80 (by decide) rfl ?_
  refine ww_iload_n (pc := 82) C 4 dX12_meansOne_82 rfl ?_
  refine ww_aload_n (pc := 83) C 1 dX12_meansOne_83 rfl ?_
  obtain ⟨v2, e1, hf⟩ := xbd hf
  refine gf_X12_168 (pc := 84) C e1 dX12_meansOne_84 ?_
  refine ww_aload_n (pc := 87) C 1 dX12_meansOne_87 rfl ?_
  obtain ⟨v4, e3, hf⟩ := xbd hf
  refine gf_X12_174 (pc := 88) C e3 dX12_meansOne_88 ?_
  refine ww_imul (pc := 91) C dX12_meansOne_91 ?_
  refine ww_icmp_ge (pc := 92) (tgt := 134) C dX12_meansOne_92 (by decide) (fun q => ?_) (fun q => ?_)
  · have hf := xip q hf
    refine ww_sub [1, 2, 3, 4, 0] rfl ?_
    exact s_X12_meansOne_j134 C hf hk
  · have hf := xin q hf
    refine ww_iload_n (pc := 95) C 3 dX12_meansOne_95 rfl ?_
    refine ww_bipush (pc := 96) (v := (25 : Int32)) C dX12_meansOne_96 (by decide) ?_
    refine ww_icmp_ne (pc := 98) (tgt := 145) C dX12_meansOne_98 (by decide) (fun q => ?_) (fun q => ?_)
    · have hf := xin q hf
      refine ww_sub [1, 2, 3, 4, 5, 0] rfl ?_
      exact s_X12_meansOne_j145 C hf hk
    · have hf := xip q hf
      refine ww_iload_n (pc := 101) C 4 dX12_meansOne_101 rfl ?_
      refine ww_iload (pc := 102) C 0 dX12_meansOne_102 rfl ?_
      refine ww_aload_n (pc := 104) C 1 dX12_meansOne_104 rfl ?_
      obtain ⟨v6, e5, hf⟩ := xbd hf
      refine gf_X12_168 (pc := 105) C e5 dX12_meansOne_105 ?_
      refine ww_aload_n (pc := 108) C 1 dX12_meansOne_108 rfl ?_
      obtain ⟨v8, e7, hf⟩ := xbd hf
      refine gf_X12_174 (pc := 109) C e7 dX12_meansOne_109 ?_
      refine ww_iload (pc := 112) C 0 dX12_meansOne_112 rfl ?_
      refine ww_if_eq (pc := 114) (tgt := 124) C dX12_meansOne_114 (by decide) (fun q => ?_) (fun q => ?_)
      · have hf := xip q hf
        refine ww_aload_n (pc := 124) C 1 dX12_meansOne_124 rfl ?_
        obtain ⟨v10, e9, hf⟩ := xbd hf
        refine gf_X12_180 (pc := 125) C e9 dX12_meansOne_125 ?_
        refine ww_sub [1, 2, 3, 4, 5, 0] rfl ?_
        exact s_X12_meansOne_j128 C hf hk
      · have hf := xin q hf
        refine ww_aload_n (pc := 117) C 1 dX12_meansOne_117 rfl ?_
        obtain ⟨v10, e9, hf⟩ := xbd hf
        refine gf_X12_187 (pc := 118) C e9 dX12_meansOne_118 ?_
        refine ww_goto (pc := 121) (tgt := 128) C dX12_meansOne_121 (by decide) ?_
        refine ww_sub [1, 2, 3, 4, 5, 0] rfl ?_
        exact s_X12_meansOne_j128 C hf hk
theorem m_X12_meansOne_j80 {σ : XS} {r0 : Nat} {x1 : Int32} {x2 : Int32} {x3 : Int32} {x4 : Int32} {t0 : Int32} {x : XS} (hf : f_X12_meansOne_j80 σ r0 x1 x2 x3 x4 t0 = some x) : xsame σ x := by
  have hm := xsame.rf (σ := σ)
  obtain ⟨v2, e1, hf⟩ := xbd hf
  obtain ⟨v4, e3, hf⟩ := xbd hf
  by_cases q : (v2 * v4) ≤ x3
  · have hf := xip q hf
    exact hm.tr (m_X12_meansOne_j134 hf)
  · have hf := xin q hf
    by_cases q : x2 = (25 : Int32)
    · have hf := xip q hf
      obtain ⟨v6, e5, hf⟩ := xbd hf
      obtain ⟨v8, e7, hf⟩ := xbd hf
      by_cases q : t0 = 0
      · have hf := xip q hf
        obtain ⟨v10, e9, hf⟩ := xbd hf
        exact hm.tr (m_X12_meansOne_j128 hf)
      · have hf := xin q hf
        obtain ⟨v10, e9, hf⟩ := xbd hf
        exact hm.tr (m_X12_meansOne_j128 hf)
    · have hf := xin q hf
      exact hm.tr (m_X12_meansOne_j145 hf)
theorem s_X12_meansOne_j60 {G : XG} (C : XC G cX12_meansOne RX12 none 7 2 45) {σ : XS} {r0 : Nat} {x1 : Int32} {x2 : Int32} {x3 : Int32} {t0 : Int32} {x : XS} (hf : f_X12_meansOne_j60 σ r0 x1 x2 x3 t0 = some x) (hk : XEnd G none x) : WW G 60 [(0, .ref (gB G + r0)), (1, .int x1), (2, .int x2), (3, .int x3)] [.int t0] σ := by
  refine ww_istore (pc := 60) (lv' := [(4, .int t0), (0, .ref (gB G + r0)), (1, .int x1), (2, .int x2), (3, .int x3)]) C dX12_meansOne_60 (by decide) rfl ?_
  refine ww_aload_n (pc := 62) C 1 dX12_meansOne_62 rfl ?_
  obtain ⟨z2, e1, hf⟩ := xbd hf
  refine gf_X12_20 (pc := 63) C e1 dX12_meansOne_63 ?_
  refine ww_iload_n (pc := 66) C 2 dX12_meansOne_66 rfl ?_
  refine ww_iconst (pc := 67) (v := (2 : Int32)) C dX12_meansOne_67 (by decide) ?_
  refine ww_iadd (pc := 68) C dX12_meansOne_68 ?_
  obtain ⟨v4, e3, hf⟩ := xbd hf
  refine ww_iald (pc := 69) C e3 dX12_meansOne_69 ?_
  refine ww_bipush (pc := 70) (v := (22 : Int32)) C dX12_meansOne_70 (by decide) ?_
  refine ww_icmp_ne (pc := 72) (tgt := 79) C dX12_meansOne_72 (by decide) (fun q => ?_) (fun q => ?_)
  · have hf := xin q hf
    refine ww_iconst (pc := 79) (v := (0 : Int32)) C dX12_meansOne_79 (by decide) ?_
    refine ww_sub [1, 2, 3, 4, 0] rfl ?_
    exact s_X12_meansOne_j80 C hf hk
  · have hf := xip q hf
    refine ww_iconst (pc := 75) (v := (1 : Int32)) C dX12_meansOne_75 (by decide) ?_
    refine ww_goto (pc := 76) (tgt := 80) C dX12_meansOne_76 (by decide) ?_
    refine ww_sub [1, 2, 3, 4, 0] rfl ?_
    exact s_X12_meansOne_j80 C hf hk
theorem m_X12_meansOne_j60 {σ : XS} {r0 : Nat} {x1 : Int32} {x2 : Int32} {x3 : Int32} {t0 : Int32} {x : XS} (hf : f_X12_meansOne_j60 σ r0 x1 x2 x3 t0 = some x) : xsame σ x := by
  have hm := xsame.rf (σ := σ)
  obtain ⟨z2, e1, hf⟩ := xbd hf
  obtain ⟨v4, e3, hf⟩ := xbd hf
  by_cases q : v4 = (22 : Int32)
  · have hf := xip q hf
    exact hm.tr (m_X12_meansOne_j80 hf)
  · have hf := xin q hf
    exact hm.tr (m_X12_meansOne_j80 hf)
theorem s_X12_meansOne_j26 {G : XG} (C : XC G cX12_meansOne RX12 none 7 2 45) {σ : XS} {r0 : Nat} {x1 : Int32} {x2 : Int32} {x : XS} (hf : f_X12_meansOne_j26 σ r0 x1 x2 = some x) (hk : XEnd G none x) : WW G 26 [(0, .ref (gB G + r0)), (1, .int x1), (2, .int x2)] [] σ := by
  refine ww_aload_n (pc := 26) C 0 dX12_meansOne_26 rfl ?_
  obtain ⟨z2, e1, hf⟩ := xbd hf
  refine gf_X12_27 (pc := 27) C e1 dX12_meansOne_27 ?_
  refine ww_iload_n (pc := 30) C 1 dX12_meansOne_30 rfl ?_
  refine ww_iconst (pc := 31) (v := (1 : Int32)) C dX12_meansOne_31 (by decide) ?_
  refine ww_iadd (pc := 32) C dX12_meansOne_32 ?_
  obtain ⟨v4, e3, hf⟩ := xbd hf
  refine ww_iald (pc := 33) C e3 dX12_meansOne_33 ?_
  refine ww_istore_n (pc := 34) (lv' := [(3, .int v4), (0, .ref (gB G + r0)), (1, .int x1), (2, .int x2)]) C dX12_meansOne_34 (by decide) rfl ?_
  refine ww_iload_n (pc := 35) C 0 dX12_meansOne_35 rfl ?_
  refine ww_aload_n (pc := 36) C 1 dX12_meansOne_36 rfl ?_
  obtain ⟨v6, e5, hf⟩ := xbd hf
  refine gf_X12_168 (pc := 37) C e5 dX12_meansOne_37 ?_
  refine ww_aload_n (pc := 40) C 1 dX12_meansOne_40 rfl ?_
  obtain ⟨v8, e7, hf⟩ := xbd hf
  refine gf_X12_174 (pc := 41) C e7 dX12_meansOne_41 ?_
  refine ww_imul (pc := 44) C dX12_meansOne_44 ?_
  refine ww_icmp_ge (pc := 45) (tgt := 59) C dX12_meansOne_45 (by decide) (fun q => ?_) (fun q => ?_)
  · have hf := xip q hf
    refine ww_iconst (pc := 59) (v := (0 : Int32)) C dX12_meansOne_59 (by decide) ?_
    refine ww_sub [1, 2, 3, 0] rfl ?_
    exact s_X12_meansOne_j60 C hf hk
  · have hf := xin q hf
    refine ww_aload_n (pc := 48) C 1 dX12_meansOne_48 rfl ?_
    obtain ⟨v10, e9, hf⟩ := xbd hf
    refine gf_X12_141 (pc := 49) C e9 dX12_meansOne_49 ?_
    refine ww_if_ne (pc := 52) (tgt := 59) C dX12_meansOne_52 (by decide) (fun q => ?_) (fun q => ?_)
    · have hf := xin q hf
      refine ww_iconst (pc := 59) (v := (0 : Int32)) C dX12_meansOne_59 (by decide) ?_
      refine ww_sub [1, 2, 3, 0] rfl ?_
      exact s_X12_meansOne_j60 C hf hk
    · have hf := xip q hf
      refine ww_iconst (pc := 55) (v := (1 : Int32)) C dX12_meansOne_55 (by decide) ?_
      refine ww_goto (pc := 56) (tgt := 60) C dX12_meansOne_56 (by decide) ?_
      refine ww_sub [1, 2, 3, 0] rfl ?_
      exact s_X12_meansOne_j60 C hf hk
theorem m_X12_meansOne_j26 {σ : XS} {r0 : Nat} {x1 : Int32} {x2 : Int32} {x : XS} (hf : f_X12_meansOne_j26 σ r0 x1 x2 = some x) : xsame σ x := by
  have hm := xsame.rf (σ := σ)
  obtain ⟨z2, e1, hf⟩ := xbd hf
  obtain ⟨v4, e3, hf⟩ := xbd hf
  obtain ⟨v6, e5, hf⟩ := xbd hf
  obtain ⟨v8, e7, hf⟩ := xbd hf
  by_cases q : (v6 * v8) ≤ v4
  · have hf := xip q hf
    exact hm.tr (m_X12_meansOne_j60 hf)
  · have hf := xin q hf
    obtain ⟨v10, e9, hf⟩ := xbd hf
    by_cases q : v10 = 0
    · have hf := xip q hf
      exact hm.tr (m_X12_meansOne_j60 hf)
    · have hf := xin q hf
      exact hm.tr (m_X12_meansOne_j60 hf)
theorem s_X12_meansOne_e {G : XG} (C : XC G cX12_meansOne RX12 none 7 2 45) {σ : XS} {r0 : Nat} {x1 : Int32} {x : XS} (hf : f_X12_meansOne σ r0 x1 = some x) (hk : XEnd G none x) : WW G 0 [(0, .ref (gB G + r0)), (1, .int x1)] [] σ := by
  refine ww_aload_n (pc := 0) C 0 dX12_meansOne_0 rfl ?_
  obtain ⟨z2, e1, hf⟩ := xbd hf
  refine gf_X12_20 (pc := 1) C e1 dX12_meansOne_1 ?_
  refine ww_iload_n (pc := 4) C 1 dX12_meansOne_4 rfl ?_
  obtain ⟨v4, e3, hf⟩ := xbd hf
  refine ww_iald (pc := 5) C e3 dX12_meansOne_5 ?_
  refine ww_istore_n (pc := 6) (lv' := [(2, .int v4), (0, .ref (gB G + r0)), (1, .int x1)]) C dX12_meansOne_6 (by decide) rfl ?_
  refine ww_iload_n (pc := 7) C 0 dX12_meansOne_7 rfl ?_
  refine ww_bipush (pc := 8) (v := (25 : Int32)) C dX12_meansOne_8 (by decide) ?_
  refine ww_icmp_eq (pc := 10) (tgt := 26) C dX12_meansOne_10 (by decide) (fun q => ?_) (fun q => ?_)
  · have hf := xip q hf
    refine ww_sub [1, 2, 0] rfl ?_
    exact s_X12_meansOne_j26 C hf hk
  · have hf := xin q hf
    refine ww_iload_n (pc := 13) C 0 dX12_meansOne_13 rfl ?_
    refine ww_bipush (pc := 14) (v := (26 : Int32)) C dX12_meansOne_14 (by decide) ?_
    refine ww_icmp_eq (pc := 16) (tgt := 26) C dX12_meansOne_16 (by decide) (fun q => ?_) (fun q => ?_)
    · have hf := xip q hf
      refine ww_sub [1, 2, 0] rfl ?_
      exact s_X12_meansOne_j26 C hf hk
    · have hf := xin q hf
      refine ww_iload_n (pc := 19) C 0 dX12_meansOne_19 rfl ?_
      refine ww_bipush (pc := 20) (v := (27 : Int32)) C dX12_meansOne_20 (by decide) ?_
      refine ww_icmp_eq (pc := 22) (tgt := 26) C dX12_meansOne_22 (by decide) (fun q => ?_) (fun q => ?_)
      · have hf := xip q hf
        refine ww_sub [1, 2, 0] rfl ?_
        exact s_X12_meansOne_j26 C hf hk
      · have hf := xin q hf
        have hf := xsj hf
        subst hf
        exact ww_vret (pc := 25) C hk dX12_meansOne_25
theorem m_X12_meansOne {σ : XS} {r0 : Nat} {x1 : Int32} {x : XS} (hf : f_X12_meansOne σ r0 x1 = some x) : xsame σ x := by
  have hm := xsame.rf (σ := σ)
  obtain ⟨z2, e1, hf⟩ := xbd hf
  obtain ⟨v4, e3, hf⟩ := xbd hf
  by_cases q : v4 = (25 : Int32)
  · have hf := xip q hf
    exact hm.tr (m_X12_meansOne_j26 hf)
  · have hf := xin q hf
    by_cases q : v4 = (26 : Int32)
    · have hf := xip q hf
      exact hm.tr (m_X12_meansOne_j26 hf)
    · have hf := xin q hf
      by_cases q : v4 = (27 : Int32)
      · have hf := xip q hf
        exact hm.tr (m_X12_meansOne_j26 hf)
      · have hf := xin q hf
        have hf := xsj hf
        subst hf
        exact hm
theorem k_X12_meansOne {l : Launch} {E : XD} {hb : Nat} {σ : XS} {r0 : Nat} {x1 : Int32} {x : XS} (h : f_X12_meansOne σ r0 x1 = some x) : XM l yX12_meansOne cX12_meansOne 7 none 2 45 E hb [.ref (hb + r0), .int x1] σ none x := by
  refine xm_of (by decide) (Nat.le_of_ble_eq_true rfl) (m_X12_meansOne h).le (fun G hG C hl hQ => ?_)
  obtain ⟨rfl, rfl, rfl, hN⟩ := hG
  exact s_X12_meansOne_e C h hQ
noncomputable def f_X12_means_b211 (r0 : Nat) : Int32 × XS → Option ((Int32 × XS) ⊕ (XS)) := fun a => match a with
  | (x1, σ) => (xgI σ r0 12 10).bind fun v2 => if v2 ≤ x1 then ((some σ).map .inr) else (xgR σ r0 12 5).bind fun z4 => (xaI σ 20 z4 (x1 - (1 : Int32))).bind fun v6 => if v6 = (4 : Int32) then ((xck σ r0 12).bind fun _ => (f_X12_meansOne σ r0 x1).bind fun σ9 => some (.inl (x1 + (1 : Int32), σ9))) else some (.inl (x1 + (1 : Int32), σ))
noncomputable def f_X12_means_b178 (r0 : Nat) : Int32 × XS → Option ((Int32 × XS) ⊕ (XS)) := fun a => match a with
  | (x1, σ) => (xgI σ r0 12 10).bind fun v2 => if v2 ≤ x1 then ((xloop (f_X12_means_b211 r0) ((4 : Int32), σ)).map .inr) else (xgR σ r0 12 5).bind fun z4 => (xaI σ 20 z4 (x1 - (1 : Int32))).bind fun v6 => if v6 = (4 : Int32) then ((xck σ r0 12).bind fun _ => (f_X12_meansAll σ r0 x1).bind fun σ9 => some (.inl (x1 + (1 : Int32), σ9))) else some (.inl (x1 + (1 : Int32), σ))
noncomputable def f_X12_means_j141 (σ : XS) (r0 : Nat) (x1 : Int32) : Option ((Int32 × XS) ⊕ (XS)) := (xgR σ r0 12 5).bind fun z2 => (xaI σ 20 z2 x1).bind fun v4 => if v4 = (24 : Int32) then ((xgR σ r0 12 5).bind fun z6 => (xaI σ 20 z6 (x1 + (1 : Int32))).bind fun v8 => if v8 = (22 : Int32) then ((xpI σ r0 12 25 (1 : Int32)).bind fun σ10 => some (.inl (x1 + (1 : Int32), σ10))) else some (.inl (x1 + (1 : Int32), σ))) else some (.inl (x1 + (1 : Int32), σ))
noncomputable def f_X12_means_b104 (r0 : Nat) : Int32 × XS → Option ((Int32 × XS) ⊕ (XS)) := fun a => match a with
  | (x1, σ) => (xgI σ r0 12 10).bind fun v2 => if v2 ≤ x1 then ((xloop (f_X12_means_b178 r0) ((4 : Int32), σ)).map .inr) else (xgR σ r0 12 5).bind fun z4 => (xaI σ 20 z4 x1).bind fun v6 => if v6 = (24 : Int32) then ((xgR σ r0 12 5).bind fun z8 => (xaI σ 20 z8 (x1 + (1 : Int32))).bind fun v10 => if v10 = (21 : Int32) then ((xpI σ r0 12 24 (1 : Int32)).bind fun σ12 => f_X12_means_j141 σ12 r0 x1) else f_X12_means_j141 σ r0 x1) else f_X12_means_j141 σ r0 x1
noncomputable def f_X12_means_b83 (r0 : Nat) : Int32 × XS → Option ((Int32 × XS) ⊕ (XS)) := fun a => match a with
  | (x1, σ) => if (66 : Int32) ≤ x1 then ((xloop (f_X12_means_b104 r0) ((0 : Int32), σ)).map .inr) else (xgR σ r0 12 26).bind fun z2 => (xsI σ 20 z2 x1 (0 : Int32)).bind fun σ4 => some (.inl (x1 + (1 : Int32), σ4))
noncomputable def f_X12_means_j75 (σ : XS) (r0 : Nat) : Option XS := (xck σ r0 12).bind fun _ => (f_X12_wrong σ r0 (3 : Int32) (2 : Int32)).bind fun σ3 => xloop (f_X12_means_b83 r0) ((0 : Int32), σ3)
noncomputable def f_X12_means_j48 (σ : XS) (r0 : Nat) : Option XS := (xgI σ r0 12 23).bind fun v2 => (f_X12_in v2 (1 : Int32) (16 : Int32)).bind fun v4 => if v4 = 0 then (f_X12_means_j75 σ r0) else (xgI σ r0 12 22).bind fun v6 => (xgI σ r0 12 23).bind fun v8 => if (v6 * v8) ≤ (16 : Int32) then (xloop (f_X12_means_b83 r0) ((0 : Int32), σ)) else f_X12_means_j75 σ r0
noncomputable def f_X12_means (σ : XS) (r0 : Nat) : Option XS := (xgR σ r0 12 7).bind fun z2 => (xaI σ 20 z2 (1 : Int32)).bind fun v4 => (xpI σ r0 12 22 v4).bind fun σ6 => (xgR σ6 r0 12 7).bind fun z8 => (xaI σ6 20 z8 (2 : Int32)).bind fun v10 => (xpI σ6 r0 12 23 v10).bind fun σ12 => (xpI σ12 r0 12 24 (0 : Int32)).bind fun σ14 => (xpI σ14 r0 12 25 (0 : Int32)).bind fun σ16 => (xgI σ16 r0 12 22).bind fun v18 => (f_X12_in v18 (1 : Int32) (4 : Int32)).bind fun v20 => if v20 = 0 then ((xck σ16 r0 12).bind fun _ => (f_X12_wrong σ16 r0 (3 : Int32) (1 : Int32)).bind fun σ23 => f_X12_means_j48 σ23 r0) else f_X12_means_j48 σ16 r0
theorem m_X12_means_l211 {r0 : Nat} {a : Int32 × XS} {x : XS} (hf : xloop (f_X12_means_b211 r0) a = some x) : xsame a.2 x := by
  refine xloop_ind (P := fun a => xsame a.2 x) (fun a y hf hc he => ?_) hf
  obtain ⟨x1, σ⟩ := a
  have hy : (∀ a' : Int32 × XS, y = .inl a' → xsame σ a'.2) ∧ (∀ b1 : XS, y = .inr b1 → xsame σ b1) := by
    have hm := xsame.rf (σ := σ)
    obtain ⟨v2, e1, hf⟩ := xbd hf
    by_cases q : v2 ≤ x1
    · have hf := xip q hf
      obtain ⟨b0, hg, e9⟩ := xmj hf
      subst e9
      have hf := hg
      refine ⟨fun a' e => xnc2 e, fun b e => ?_⟩
      have h9 := Sum.inr.inj e
      subst h9
      have hf := xsj hf
      subst hf
      exact hm
    · have hf := xin q hf
      obtain ⟨z4, e3, hf⟩ := xbd hf
      obtain ⟨v6, e5, hf⟩ := xbd hf
      by_cases q : v6 = (4 : Int32)
      · have hf := xip q hf
        obtain ⟨_, e7, hf⟩ := xbd hf
        obtain ⟨σ9, e8, hf⟩ := xbd hf
        have hm := hm.tr (m_X12_meansOne e8)
        have hf := xsj hf
        subst hf
        exact ⟨fun a' e => (by have h9 := Sum.inl.inj e; subst h9; exact hm), fun b e => xnc1 e⟩
      · have hf := xin q hf
        have hf := xsj hf
        subst hf
        exact ⟨fun a' e => (by have h9 := Sum.inl.inj e; subst h9; exact hm), fun b e => xnc1 e⟩
  cases y with
  | inl a' =>
    have h1 := hc a' rfl
    have hm := hy.1 a' rfl
    exact hm.tr (h1)
  | inr b =>
    have h1 := he b rfl
    subst h1
    exact hy.2 _ rfl
theorem s_X12_means_l211 {G : XG} (C : XC G cX12_means RX12 none 2 3 71) {r0 : Nat} {a : Int32 × XS} {x : XS} (hf : xloop (f_X12_means_b211 r0) a = some x) (hk : XEnd G none x) : WW G 211 [(0, .ref (gB G + r0)), (1, .int a.1)] [] a.2 := by
  refine xloop_ind (P := fun a => WW G 211 [(0, .ref (gB G + r0)), (1, .int a.1)] [] a.2) (fun a y hf hc he => ?_) hf
  obtain ⟨x1, σ⟩ := a
  have hk : (∀ a' : Int32 × XS, y = .inl a' → WW G 211 [(0, .ref (gB G + r0)), (1, .int a'.1)] [] a'.2) ∧ (∀ b1 : XS, y = .inr b1 → XEnd G none b1) := ⟨hc, fun b e => by have h9 := he b e; subst h9; exact hk⟩
  refine ww_iload_n (pc := 211) C 1 dX12_means_211 rfl ?_
  refine ww_aload_n (pc := 212) C 0 dX12_means_212 rfl ?_
  obtain ⟨v2, e1, hf⟩ := xbd hf
  refine gf_X12_110 (pc := 213) C e1 dX12_means_213 ?_
  refine ww_icmp_ge (pc := 216) (tgt := 242) C dX12_means_216 (by decide) (fun q => ?_) (fun q => ?_)
  · have hf := xip q hf
    obtain ⟨b0, hg, e9⟩ := xmj hf
    subst e9
    have hf := hg
    have hk := hk.2 _ rfl
    have hf := xsj hf
    subst hf
    exact ww_vret (pc := 242) C hk dX12_means_242
  · have hf := xin q hf
    refine ww_aload_n (pc := 219) C 0 dX12_means_219 rfl ?_
    obtain ⟨z4, e3, hf⟩ := xbd hf
    refine gf_X12_20 (pc := 220) C e3 dX12_means_220 ?_
    refine ww_iload_n (pc := 223) C 1 dX12_means_223 rfl ?_
    refine ww_iconst (pc := 224) (v := (1 : Int32)) C dX12_means_224 (by decide) ?_
    refine ww_isub (pc := 225) C dX12_means_225 ?_
    obtain ⟨v6, e5, hf⟩ := xbd hf
    refine ww_iald (pc := 226) C e5 dX12_means_226 ?_
    refine ww_iconst (pc := 227) (v := (4 : Int32)) C dX12_means_227 (by decide) ?_
    refine ww_icmp_ne (pc := 228) (tgt := 236) C dX12_means_228 (by decide) (fun q => ?_) (fun q => ?_)
    · have hf := xin q hf
      refine ww_iinc (pc := 236) (v := x1 + (1 : Int32)) (lv' := [(1, .int (x1 + (1 : Int32))), (0, .ref (gB G + r0))]) C 1 dX12_means_236 rfl (congrArg (fun z => x1 + z) (show Int32.ofInt (1) = (1 : Int32) by decide)) (by decide) rfl ?_
      refine ww_goto (pc := 239) (tgt := 211) C dX12_means_239 (by decide) ?_
      have hf := xsj hf
      subst hf
      refine ww_sub [1, 0] rfl ?_
      exact hk.1 (x1 + (1 : Int32), σ) rfl
    · have hf := xip q hf
      refine ww_aload_n (pc := 231) C 0 dX12_means_231 rfl ?_
      refine ww_iload_n (pc := 232) C 1 dX12_means_232 rfl ?_
      obtain ⟨_, e7, hf⟩ := xbd hf
      obtain ⟨σ9, e8, hf⟩ := xbd hf
      refine ww_callVv (pc := 233) (as := [.int x1]) (st := []) C (k_X12_meansOne (l := gl G) (E := gE G) (hb := gB G) (σ := σ) e8) rfl (by decide) xc_X12_220 q1489 qp135 (xck_spec e7) rfl (by decide) (xst4 (Nat.le_of_ble_eq_true rfl)) (m_X12_meansOne e8).le (m_X12_meansOne e8).lim dX12_means_233 ?_
      refine ww_iinc (pc := 236) (v := x1 + (1 : Int32)) (lv' := [(1, .int (x1 + (1 : Int32))), (0, .ref (gB G + r0))]) C 1 dX12_means_236 rfl (congrArg (fun z => x1 + z) (show Int32.ofInt (1) = (1 : Int32) by decide)) (by decide) rfl ?_
      refine ww_goto (pc := 239) (tgt := 211) C dX12_means_239 (by decide) ?_
      have hf := xsj hf
      subst hf
      refine ww_sub [1, 0] rfl ?_
      exact hk.1 (x1 + (1 : Int32), σ9) rfl
theorem m_X12_means_l178 {r0 : Nat} {a : Int32 × XS} {x : XS} (hf : xloop (f_X12_means_b178 r0) a = some x) : xsame a.2 x := by
  refine xloop_ind (P := fun a => xsame a.2 x) (fun a y hf hc he => ?_) hf
  obtain ⟨x1, σ⟩ := a
  have hy : (∀ a' : Int32 × XS, y = .inl a' → xsame σ a'.2) ∧ (∀ b1 : XS, y = .inr b1 → xsame σ b1) := by
    have hm := xsame.rf (σ := σ)
    obtain ⟨v2, e1, hf⟩ := xbd hf
    by_cases q : v2 ≤ x1
    · have hf := xip q hf
      obtain ⟨b0, hg, e9⟩ := xmj hf
      subst e9
      have hf := hg
      refine ⟨fun a' e => xnc2 e, fun b e => ?_⟩
      have h9 := Sum.inr.inj e
      subst h9
      exact hm.tr (m_X12_means_l211 (a := ((4 : Int32), σ)) hf)
    · have hf := xin q hf
      obtain ⟨z4, e3, hf⟩ := xbd hf
      obtain ⟨v6, e5, hf⟩ := xbd hf
      by_cases q : v6 = (4 : Int32)
      · have hf := xip q hf
        obtain ⟨_, e7, hf⟩ := xbd hf
        obtain ⟨σ9, e8, hf⟩ := xbd hf
        have hm := hm.tr (m_X12_meansAll e8)
        have hf := xsj hf
        subst hf
        exact ⟨fun a' e => (by have h9 := Sum.inl.inj e; subst h9; exact hm), fun b e => xnc1 e⟩
      · have hf := xin q hf
        have hf := xsj hf
        subst hf
        exact ⟨fun a' e => (by have h9 := Sum.inl.inj e; subst h9; exact hm), fun b e => xnc1 e⟩
  cases y with
  | inl a' =>
    have h1 := hc a' rfl
    have hm := hy.1 a' rfl
    exact hm.tr (h1)
  | inr b =>
    have h1 := he b rfl
    subst h1
    exact hy.2 _ rfl
theorem s_X12_means_l178 {G : XG} (C : XC G cX12_means RX12 none 2 3 71) {r0 : Nat} {a : Int32 × XS} {x : XS} (hf : xloop (f_X12_means_b178 r0) a = some x) (hk : XEnd G none x) : WW G 178 [(0, .ref (gB G + r0)), (1, .int a.1)] [] a.2 := by
  refine xloop_ind (P := fun a => WW G 178 [(0, .ref (gB G + r0)), (1, .int a.1)] [] a.2) (fun a y hf hc he => ?_) hf
  obtain ⟨x1, σ⟩ := a
  have hk : (∀ a' : Int32 × XS, y = .inl a' → WW G 178 [(0, .ref (gB G + r0)), (1, .int a'.1)] [] a'.2) ∧ (∀ b1 : XS, y = .inr b1 → XEnd G none b1) := ⟨hc, fun b e => by have h9 := he b e; subst h9; exact hk⟩
  refine ww_iload_n (pc := 178) C 1 dX12_means_178 rfl ?_
  refine ww_aload_n (pc := 179) C 0 dX12_means_179 rfl ?_
  obtain ⟨v2, e1, hf⟩ := xbd hf
  refine gf_X12_110 (pc := 180) C e1 dX12_means_180 ?_
  refine ww_icmp_ge (pc := 183) (tgt := 209) C dX12_means_183 (by decide) (fun q => ?_) (fun q => ?_)
  · have hf := xip q hf
    obtain ⟨b0, hg, e9⟩ := xmj hf
    subst e9
    have hf := hg
    have hk := hk.2 _ rfl
    refine ww_iconst (pc := 209) (v := (4 : Int32)) C dX12_means_209 (by decide) ?_
    refine ww_istore_n (pc := 210) (lv' := [(1, .int (4 : Int32)), (0, .ref (gB G + r0))]) C dX12_means_210 (by decide) rfl ?_
    refine ww_sub [1, 0] rfl ?_
    exact s_X12_means_l211 C (a := ((4 : Int32), σ)) hf hk
  · have hf := xin q hf
    refine ww_aload_n (pc := 186) C 0 dX12_means_186 rfl ?_
    obtain ⟨z4, e3, hf⟩ := xbd hf
    refine gf_X12_20 (pc := 187) C e3 dX12_means_187 ?_
    refine ww_iload_n (pc := 190) C 1 dX12_means_190 rfl ?_
    refine ww_iconst (pc := 191) (v := (1 : Int32)) C dX12_means_191 (by decide) ?_
    refine ww_isub (pc := 192) C dX12_means_192 ?_
    obtain ⟨v6, e5, hf⟩ := xbd hf
    refine ww_iald (pc := 193) C e5 dX12_means_193 ?_
    refine ww_iconst (pc := 194) (v := (4 : Int32)) C dX12_means_194 (by decide) ?_
    refine ww_icmp_ne (pc := 195) (tgt := 203) C dX12_means_195 (by decide) (fun q => ?_) (fun q => ?_)
    · have hf := xin q hf
      refine ww_iinc (pc := 203) (v := x1 + (1 : Int32)) (lv' := [(1, .int (x1 + (1 : Int32))), (0, .ref (gB G + r0))]) C 1 dX12_means_203 rfl (congrArg (fun z => x1 + z) (show Int32.ofInt (1) = (1 : Int32) by decide)) (by decide) rfl ?_
      refine ww_goto (pc := 206) (tgt := 178) C dX12_means_206 (by decide) ?_
      have hf := xsj hf
      subst hf
      refine ww_sub [1, 0] rfl ?_
      exact hk.1 (x1 + (1 : Int32), σ) rfl
    · have hf := xip q hf
      refine ww_aload_n (pc := 198) C 0 dX12_means_198 rfl ?_
      refine ww_iload_n (pc := 199) C 1 dX12_means_199 rfl ?_
      obtain ⟨_, e7, hf⟩ := xbd hf
      obtain ⟨σ9, e8, hf⟩ := xbd hf
      refine ww_callVv (pc := 200) (as := [.int x1]) (st := []) C (k_X12_meansAll (l := gl G) (E := gE G) (hb := gB G) (σ := σ) e8) rfl (by decide) xc_X12_217 q1481 qp133 (xck_spec e7) rfl (by decide) (xst4 (Nat.le_of_ble_eq_true rfl)) (m_X12_meansAll e8).le (m_X12_meansAll e8).lim dX12_means_200 ?_
      refine ww_iinc (pc := 203) (v := x1 + (1 : Int32)) (lv' := [(1, .int (x1 + (1 : Int32))), (0, .ref (gB G + r0))]) C 1 dX12_means_203 rfl (congrArg (fun z => x1 + z) (show Int32.ofInt (1) = (1 : Int32) by decide)) (by decide) rfl ?_
      refine ww_goto (pc := 206) (tgt := 178) C dX12_means_206 (by decide) ?_
      have hf := xsj hf
      subst hf
      refine ww_sub [1, 0] rfl ?_
      exact hk.1 (x1 + (1 : Int32), σ9) rfl
theorem s_X12_means_j141 {G : XG} (C : XC G cX12_means RX12 none 2 3 71) {σ : XS} {r0 : Nat} {x1 : Int32} {x : ((Int32 × XS) ⊕ (XS))} (hf : f_X12_means_j141 σ r0 x1 = some x) (hk : (∀ a' : Int32 × XS, x = .inl a' → WW G 104 [(0, .ref (gB G + r0)), (1, .int a'.1)] [] a'.2) ∧ (∀ b1 : XS, x = .inr b1 → XEnd G none b1)) : WW G 141 [(0, .ref (gB G + r0)), (1, .int x1)] [] σ := by
  refine ww_aload_n (pc := 141) C 0 dX12_means_141 rfl ?_
  obtain ⟨z2, e1, hf⟩ := xbd hf
  refine gf_X12_20 (pc := 142) C e1 dX12_means_142 ?_
  refine ww_iload_n (pc := 145) C 1 dX12_means_145 rfl ?_
  obtain ⟨v4, e3, hf⟩ := xbd hf
  refine ww_iald (pc := 146) C e3 dX12_means_146 ?_
  refine ww_bipush (pc := 147) (v := (24 : Int32)) C dX12_means_147 (by decide) ?_
  refine ww_icmp_ne (pc := 149) (tgt := 170) C dX12_means_149 (by decide) (fun q => ?_) (fun q => ?_)
  · have hf := xin q hf
    refine ww_iinc (pc := 170) (v := x1 + (1 : Int32)) (lv' := [(1, .int (x1 + (1 : Int32))), (0, .ref (gB G + r0))]) C 1 dX12_means_170 rfl (congrArg (fun z => x1 + z) (show Int32.ofInt (1) = (1 : Int32) by decide)) (by decide) rfl ?_
    refine ww_goto (pc := 173) (tgt := 104) C dX12_means_173 (by decide) ?_
    have hf := xsj hf
    subst hf
    refine ww_sub [1, 0] rfl ?_
    exact hk.1 (x1 + (1 : Int32), σ) rfl
  · have hf := xip q hf
    refine ww_aload_n (pc := 152) C 0 dX12_means_152 rfl ?_
    obtain ⟨z6, e5, hf⟩ := xbd hf
    refine gf_X12_20 (pc := 153) C e5 dX12_means_153 ?_
    refine ww_iload_n (pc := 156) C 1 dX12_means_156 rfl ?_
    refine ww_iconst (pc := 157) (v := (1 : Int32)) C dX12_means_157 (by decide) ?_
    refine ww_iadd (pc := 158) C dX12_means_158 ?_
    obtain ⟨v8, e7, hf⟩ := xbd hf
    refine ww_iald (pc := 159) C e7 dX12_means_159 ?_
    refine ww_bipush (pc := 160) (v := (22 : Int32)) C dX12_means_160 (by decide) ?_
    refine ww_icmp_ne (pc := 162) (tgt := 170) C dX12_means_162 (by decide) (fun q => ?_) (fun q => ?_)
    · have hf := xin q hf
      refine ww_iinc (pc := 170) (v := x1 + (1 : Int32)) (lv' := [(1, .int (x1 + (1 : Int32))), (0, .ref (gB G + r0))]) C 1 dX12_means_170 rfl (congrArg (fun z => x1 + z) (show Int32.ofInt (1) = (1 : Int32) by decide)) (by decide) rfl ?_
      refine ww_goto (pc := 173) (tgt := 104) C dX12_means_173 (by decide) ?_
      have hf := xsj hf
      subst hf
      refine ww_sub [1, 0] rfl ?_
      exact hk.1 (x1 + (1 : Int32), σ) rfl
    · have hf := xip q hf
      refine ww_aload_n (pc := 165) C 0 dX12_means_165 rfl ?_
      refine ww_iconst (pc := 166) (v := (1 : Int32)) C dX12_means_166 (by decide) ?_
      obtain ⟨σ10, e9, hf⟩ := xbd hf
      refine pf_X12_187 (pc := 167) C (Or.inr rfl) e9 dX12_means_167 ?_
      refine ww_iinc (pc := 170) (v := x1 + (1 : Int32)) (lv' := [(1, .int (x1 + (1 : Int32))), (0, .ref (gB G + r0))]) C 1 dX12_means_170 rfl (congrArg (fun z => x1 + z) (show Int32.ofInt (1) = (1 : Int32) by decide)) (by decide) rfl ?_
      refine ww_goto (pc := 173) (tgt := 104) C dX12_means_173 (by decide) ?_
      have hf := xsj hf
      subst hf
      refine ww_sub [1, 0] rfl ?_
      exact hk.1 (x1 + (1 : Int32), σ10) rfl
theorem m_X12_means_j141 {σ : XS} {r0 : Nat} {x1 : Int32} {x : ((Int32 × XS) ⊕ (XS))} (hf : f_X12_means_j141 σ r0 x1 = some x) : (∀ a' : Int32 × XS, x = .inl a' → xsame σ a'.2) ∧ (∀ b1 : XS, x = .inr b1 → xsame σ b1) := by
  have hm := xsame.rf (σ := σ)
  obtain ⟨z2, e1, hf⟩ := xbd hf
  obtain ⟨v4, e3, hf⟩ := xbd hf
  by_cases q : v4 = (24 : Int32)
  · have hf := xip q hf
    obtain ⟨z6, e5, hf⟩ := xbd hf
    obtain ⟨v8, e7, hf⟩ := xbd hf
    by_cases q : v8 = (22 : Int32)
    · have hf := xip q hf
      obtain ⟨σ10, e9, hf⟩ := xbd hf
      have hm := hm.tr (xpI_same e9)
      have hf := xsj hf
      subst hf
      exact ⟨fun a' e => (by have h9 := Sum.inl.inj e; subst h9; exact hm), fun b e => xnc1 e⟩
    · have hf := xin q hf
      have hf := xsj hf
      subst hf
      exact ⟨fun a' e => (by have h9 := Sum.inl.inj e; subst h9; exact hm), fun b e => xnc1 e⟩
  · have hf := xin q hf
    have hf := xsj hf
    subst hf
    exact ⟨fun a' e => (by have h9 := Sum.inl.inj e; subst h9; exact hm), fun b e => xnc1 e⟩
theorem m_X12_means_l104 {r0 : Nat} {a : Int32 × XS} {x : XS} (hf : xloop (f_X12_means_b104 r0) a = some x) : xsame a.2 x := by
  refine xloop_ind (P := fun a => xsame a.2 x) (fun a y hf hc he => ?_) hf
  obtain ⟨x1, σ⟩ := a
  have hy : (∀ a' : Int32 × XS, y = .inl a' → xsame σ a'.2) ∧ (∀ b1 : XS, y = .inr b1 → xsame σ b1) := by
    have hm := xsame.rf (σ := σ)
    obtain ⟨v2, e1, hf⟩ := xbd hf
    by_cases q : v2 ≤ x1
    · have hf := xip q hf
      obtain ⟨b0, hg, e9⟩ := xmj hf
      subst e9
      have hf := hg
      refine ⟨fun a' e => xnc2 e, fun b e => ?_⟩
      have h9 := Sum.inr.inj e
      subst h9
      exact hm.tr (m_X12_means_l178 (a := ((4 : Int32), σ)) hf)
    · have hf := xin q hf
      obtain ⟨z4, e3, hf⟩ := xbd hf
      obtain ⟨v6, e5, hf⟩ := xbd hf
      by_cases q : v6 = (24 : Int32)
      · have hf := xip q hf
        obtain ⟨z8, e7, hf⟩ := xbd hf
        obtain ⟨v10, e9, hf⟩ := xbd hf
        by_cases q : v10 = (21 : Int32)
        · have hf := xip q hf
          obtain ⟨σ12, e11, hf⟩ := xbd hf
          have hm := hm.tr (xpI_same e11)
          exact ⟨fun a' e => hm.tr ((m_X12_means_j141 hf).1 a' e), fun b1 eb1 => hm.tr ((m_X12_means_j141 hf).2 b1 eb1)⟩
        · have hf := xin q hf
          exact ⟨fun a' e => hm.tr ((m_X12_means_j141 hf).1 a' e), fun b1 eb1 => hm.tr ((m_X12_means_j141 hf).2 b1 eb1)⟩
      · have hf := xin q hf
        exact ⟨fun a' e => hm.tr ((m_X12_means_j141 hf).1 a' e), fun b1 eb1 => hm.tr ((m_X12_means_j141 hf).2 b1 eb1)⟩
  cases y with
  | inl a' =>
    have h1 := hc a' rfl
    have hm := hy.1 a' rfl
    exact hm.tr (h1)
  | inr b =>
    have h1 := he b rfl
    subst h1
    exact hy.2 _ rfl
theorem s_X12_means_l104 {G : XG} (C : XC G cX12_means RX12 none 2 3 71) {r0 : Nat} {a : Int32 × XS} {x : XS} (hf : xloop (f_X12_means_b104 r0) a = some x) (hk : XEnd G none x) : WW G 104 [(0, .ref (gB G + r0)), (1, .int a.1)] [] a.2 := by
  refine xloop_ind (P := fun a => WW G 104 [(0, .ref (gB G + r0)), (1, .int a.1)] [] a.2) (fun a y hf hc he => ?_) hf
  obtain ⟨x1, σ⟩ := a
  have hk : (∀ a' : Int32 × XS, y = .inl a' → WW G 104 [(0, .ref (gB G + r0)), (1, .int a'.1)] [] a'.2) ∧ (∀ b1 : XS, y = .inr b1 → XEnd G none b1) := ⟨hc, fun b e => by have h9 := he b e; subst h9; exact hk⟩
  refine ww_iload_n (pc := 104) C 1 dX12_means_104 rfl ?_
  refine ww_aload_n (pc := 105) C 0 dX12_means_105 rfl ?_
  obtain ⟨v2, e1, hf⟩ := xbd hf
  refine gf_X12_110 (pc := 106) C e1 dX12_means_106 ?_
  refine ww_icmp_ge (pc := 109) (tgt := 176) C dX12_means_109 (by decide) (fun q => ?_) (fun q => ?_)
  · have hf := xip q hf
    obtain ⟨b0, hg, e9⟩ := xmj hf
    subst e9
    have hf := hg
    have hk := hk.2 _ rfl
    refine ww_iconst (pc := 176) (v := (4 : Int32)) C dX12_means_176 (by decide) ?_
    refine ww_istore_n (pc := 177) (lv' := [(1, .int (4 : Int32)), (0, .ref (gB G + r0))]) C dX12_means_177 (by decide) rfl ?_
    refine ww_sub [1, 0] rfl ?_
    exact s_X12_means_l178 C (a := ((4 : Int32), σ)) hf hk
  · have hf := xin q hf
    refine ww_aload_n (pc := 112) C 0 dX12_means_112 rfl ?_
    obtain ⟨z4, e3, hf⟩ := xbd hf
    refine gf_X12_20 (pc := 113) C e3 dX12_means_113 ?_
    refine ww_iload_n (pc := 116) C 1 dX12_means_116 rfl ?_
    obtain ⟨v6, e5, hf⟩ := xbd hf
    refine ww_iald (pc := 117) C e5 dX12_means_117 ?_
    refine ww_bipush (pc := 118) (v := (24 : Int32)) C dX12_means_118 (by decide) ?_
    refine ww_icmp_ne (pc := 120) (tgt := 141) C dX12_means_120 (by decide) (fun q => ?_) (fun q => ?_)
    · have hf := xin q hf
      refine ww_sub [0, 1] rfl ?_
      exact s_X12_means_j141 C hf hk
    · have hf := xip q hf
      refine ww_aload_n (pc := 123) C 0 dX12_means_123 rfl ?_
      obtain ⟨z8, e7, hf⟩ := xbd hf
      refine gf_X12_20 (pc := 124) C e7 dX12_means_124 ?_
      refine ww_iload_n (pc := 127) C 1 dX12_means_127 rfl ?_
      refine ww_iconst (pc := 128) (v := (1 : Int32)) C dX12_means_128 (by decide) ?_
      refine ww_iadd (pc := 129) C dX12_means_129 ?_
      obtain ⟨v10, e9, hf⟩ := xbd hf
      refine ww_iald (pc := 130) C e9 dX12_means_130 ?_
      refine ww_bipush (pc := 131) (v := (21 : Int32)) C dX12_means_131 (by decide) ?_
      refine ww_icmp_ne (pc := 133) (tgt := 141) C dX12_means_133 (by decide) (fun q => ?_) (fun q => ?_)
      · have hf := xin q hf
        refine ww_sub [0, 1] rfl ?_
        exact s_X12_means_j141 C hf hk
      · have hf := xip q hf
        refine ww_aload_n (pc := 136) C 0 dX12_means_136 rfl ?_
        refine ww_iconst (pc := 137) (v := (1 : Int32)) C dX12_means_137 (by decide) ?_
        obtain ⟨σ12, e11, hf⟩ := xbd hf
        refine pf_X12_180 (pc := 138) C (Or.inr rfl) e11 dX12_means_138 ?_
        refine ww_sub [0, 1] rfl ?_
        exact s_X12_means_j141 C hf hk
theorem m_X12_means_l83 {r0 : Nat} {a : Int32 × XS} {x : XS} (hf : xloop (f_X12_means_b83 r0) a = some x) : xsame a.2 x := by
  refine xloop_ind (P := fun a => xsame a.2 x) (fun a y hf hc he => ?_) hf
  obtain ⟨x1, σ⟩ := a
  have hy : (∀ a' : Int32 × XS, y = .inl a' → xsame σ a'.2) ∧ (∀ b1 : XS, y = .inr b1 → xsame σ b1) := by
    have hm := xsame.rf (σ := σ)
    by_cases q : (66 : Int32) ≤ x1
    · have hf := xip q hf
      obtain ⟨b0, hg, e9⟩ := xmj hf
      subst e9
      have hf := hg
      refine ⟨fun a' e => xnc2 e, fun b e => ?_⟩
      have h9 := Sum.inr.inj e
      subst h9
      exact hm.tr (m_X12_means_l104 (a := ((0 : Int32), σ)) hf)
    · have hf := xin q hf
      obtain ⟨z2, e1, hf⟩ := xbd hf
      obtain ⟨σ4, e3, hf⟩ := xbd hf
      have hm := hm.tr (xsI_same e3)
      have hf := xsj hf
      subst hf
      exact ⟨fun a' e => (by have h9 := Sum.inl.inj e; subst h9; exact hm), fun b e => xnc1 e⟩
  cases y with
  | inl a' =>
    have h1 := hc a' rfl
    have hm := hy.1 a' rfl
    exact hm.tr (h1)
  | inr b =>
    have h1 := he b rfl
    subst h1
    exact hy.2 _ rfl
theorem s_X12_means_l83 {G : XG} (C : XC G cX12_means RX12 none 2 3 71) {r0 : Nat} {a : Int32 × XS} {x : XS} (hf : xloop (f_X12_means_b83 r0) a = some x) (hk : XEnd G none x) : WW G 83 [(0, .ref (gB G + r0)), (1, .int a.1)] [] a.2 := by
  refine xloop_ind (P := fun a => WW G 83 [(0, .ref (gB G + r0)), (1, .int a.1)] [] a.2) (fun a y hf hc he => ?_) hf
  obtain ⟨x1, σ⟩ := a
  have hk : (∀ a' : Int32 × XS, y = .inl a' → WW G 83 [(0, .ref (gB G + r0)), (1, .int a'.1)] [] a'.2) ∧ (∀ b1 : XS, y = .inr b1 → XEnd G none b1) := ⟨hc, fun b e => by have h9 := he b e; subst h9; exact hk⟩
  refine ww_iload_n (pc := 83) C 1 dX12_means_83 rfl ?_
  refine ww_bipush (pc := 84) (v := (66 : Int32)) C dX12_means_84 (by decide) ?_
  refine ww_icmp_ge (pc := 86) (tgt := 102) C dX12_means_86 (by decide) (fun q => ?_) (fun q => ?_)
  · have hf := xip q hf
    obtain ⟨b0, hg, e9⟩ := xmj hf
    subst e9
    have hf := hg
    have hk := hk.2 _ rfl
    refine ww_iconst (pc := 102) (v := (0 : Int32)) C dX12_means_102 (by decide) ?_
    refine ww_istore_n (pc := 103) (lv' := [(1, .int (0 : Int32)), (0, .ref (gB G + r0))]) C dX12_means_103 (by decide) rfl ?_
    refine ww_sub [1, 0] rfl ?_
    exact s_X12_means_l104 C (a := ((0 : Int32), σ)) hf hk
  · have hf := xin q hf
    refine ww_aload_n (pc := 89) C 0 dX12_means_89 rfl ?_
    obtain ⟨z2, e1, hf⟩ := xbd hf
    refine gf_X12_43 (pc := 90) C e1 dX12_means_90 ?_
    refine ww_iload_n (pc := 93) C 1 dX12_means_93 rfl ?_
    refine ww_iconst (pc := 94) (v := (0 : Int32)) C dX12_means_94 (by decide) ?_
    obtain ⟨σ4, e3, hf⟩ := xbd hf
    refine ww_iast (pc := 95) C e3 dX12_means_95 ?_
    refine ww_iinc (pc := 96) (v := x1 + (1 : Int32)) (lv' := [(1, .int (x1 + (1 : Int32))), (0, .ref (gB G + r0))]) C 1 dX12_means_96 rfl (congrArg (fun z => x1 + z) (show Int32.ofInt (1) = (1 : Int32) by decide)) (by decide) rfl ?_
    refine ww_goto (pc := 99) (tgt := 83) C dX12_means_99 (by decide) ?_
    have hf := xsj hf
    subst hf
    refine ww_sub [1, 0] rfl ?_
    exact hk.1 (x1 + (1 : Int32), σ4) rfl
theorem s_X12_means_j75 {G : XG} (C : XC G cX12_means RX12 none 2 3 71) {σ : XS} {r0 : Nat} {x : XS} (hf : f_X12_means_j75 σ r0 = some x) (hk : XEnd G none x) : WW G 75 [(0, .ref (gB G + r0))] [] σ := by
  refine ww_aload_n (pc := 75) C 0 dX12_means_75 rfl ?_
  refine ww_iconst (pc := 76) (v := (3 : Int32)) C dX12_means_76 (by decide) ?_
  refine ww_iconst (pc := 77) (v := (2 : Int32)) C dX12_means_77 (by decide) ?_
  obtain ⟨_, e1, hf⟩ := xbd hf
  obtain ⟨σ3, e2, hf⟩ := xbd hf
  refine ww_callVv (pc := 78) (as := [.int (3 : Int32), .int (2 : Int32)]) (st := []) C (k_X12_wrong (l := gl G) (E := gE G) (hb := gB G) (σ := σ) e2) rfl (by decide) xc_X12_209 q1477 qp132 (xck_spec e1) rfl (by decide) (xst4 (Nat.le_of_ble_eq_true rfl)) (m_X12_wrong e2).le (m_X12_wrong e2).lim dX12_means_78 ?_
  refine ww_iconst (pc := 81) (v := (0 : Int32)) C dX12_means_81 (by decide) ?_
  refine ww_istore_n (pc := 82) (lv' := [(1, .int (0 : Int32)), (0, .ref (gB G + r0))]) C dX12_means_82 (by decide) rfl ?_
  refine ww_sub [1, 0] rfl ?_
  exact s_X12_means_l83 C (a := ((0 : Int32), σ3)) hf hk
theorem m_X12_means_j75 {σ : XS} {r0 : Nat} {x : XS} (hf : f_X12_means_j75 σ r0 = some x) : xsame σ x := by
  have hm := xsame.rf (σ := σ)
  obtain ⟨_, e1, hf⟩ := xbd hf
  obtain ⟨σ3, e2, hf⟩ := xbd hf
  have hm := hm.tr (m_X12_wrong e2)
  exact hm.tr (m_X12_means_l83 (a := ((0 : Int32), σ3)) hf)
theorem s_X12_means_j48 {G : XG} (C : XC G cX12_means RX12 none 2 3 71) {σ : XS} {r0 : Nat} {x : XS} (hf : f_X12_means_j48 σ r0 = some x) (hk : XEnd G none x) : WW G 48 [(0, .ref (gB G + r0))] [] σ := by
  refine ww_aload_n (pc := 48) C 0 dX12_means_48 rfl ?_
  obtain ⟨v2, e1, hf⟩ := xbd hf
  refine gf_X12_174 (pc := 49) C e1 dX12_means_49 ?_
  refine ww_iconst (pc := 52) (v := (1 : Int32)) C dX12_means_52 (by decide) ?_
  refine ww_bipush (pc := 53) (v := (16 : Int32)) C dX12_means_53 (by decide) ?_
  obtain ⟨v4, e3, hf⟩ := xbd hf
  refine ww_callSi (pc := 55) (as := [.int v2, .int (1 : Int32), .int (16 : Int32)]) (st := []) C (k_X12_in (l := gl G) (E := gE G) (hb := gB G) (σ := σ) e3) xc_X12_213 q1473 rfl (by decide) (xst4 (Nat.le_of_ble_eq_true rfl)) xsame.rf.le xsame.rf.lim dX12_means_55 ?_
  refine ww_if_eq (pc := 58) (tgt := 75) C dX12_means_58 (by decide) (fun q => ?_) (fun q => ?_)
  · have hf := xip q hf
    refine ww_sub [0] rfl ?_
    exact s_X12_means_j75 C hf hk
  · have hf := xin q hf
    refine ww_aload_n (pc := 61) C 0 dX12_means_61 rfl ?_
    obtain ⟨v6, e5, hf⟩ := xbd hf
    refine gf_X12_168 (pc := 62) C e5 dX12_means_62 ?_
    refine ww_aload_n (pc := 65) C 0 dX12_means_65 rfl ?_
    obtain ⟨v8, e7, hf⟩ := xbd hf
    refine gf_X12_174 (pc := 66) C e7 dX12_means_66 ?_
    refine ww_imul (pc := 69) C dX12_means_69 ?_
    refine ww_bipush (pc := 70) (v := (16 : Int32)) C dX12_means_70 (by decide) ?_
    refine ww_icmp_le (pc := 72) (tgt := 81) C dX12_means_72 (by decide) (fun q => ?_) (fun q => ?_)
    · have hf := xip q hf
      refine ww_iconst (pc := 81) (v := (0 : Int32)) C dX12_means_81 (by decide) ?_
      refine ww_istore_n (pc := 82) (lv' := [(1, .int (0 : Int32)), (0, .ref (gB G + r0))]) C dX12_means_82 (by decide) rfl ?_
      refine ww_sub [1, 0] rfl ?_
      exact s_X12_means_l83 C (a := ((0 : Int32), σ)) hf hk
    · have hf := xin q hf
      refine ww_sub [0] rfl ?_
      exact s_X12_means_j75 C hf hk
theorem m_X12_means_j48 {σ : XS} {r0 : Nat} {x : XS} (hf : f_X12_means_j48 σ r0 = some x) : xsame σ x := by
  have hm := xsame.rf (σ := σ)
  obtain ⟨v2, e1, hf⟩ := xbd hf
  obtain ⟨v4, e3, hf⟩ := xbd hf
  by_cases q : v4 = 0
  · have hf := xip q hf
    exact hm.tr (m_X12_means_j75 hf)
  · have hf := xin q hf
    obtain ⟨v6, e5, hf⟩ := xbd hf
    obtain ⟨v8, e7, hf⟩ := xbd hf
    by_cases q : (v6 * v8) ≤ (16 : Int32)
    · have hf := xip q hf
      exact hm.tr (m_X12_means_l83 (a := ((0 : Int32), σ)) hf)
    · have hf := xin q hf
      exact hm.tr (m_X12_means_j75 hf)
theorem s_X12_means_e {G : XG} (C : XC G cX12_means RX12 none 2 3 71) {σ : XS} {r0 : Nat} {x : XS} (hf : f_X12_means σ r0 = some x) (hk : XEnd G none x) : WW G 0 [(0, .ref (gB G + r0))] [] σ := by
  refine ww_aload_n (pc := 0) C 0 dX12_means_0 rfl ?_
  refine ww_aload_n (pc := 1) C 0 dX12_means_1 rfl ?_
  obtain ⟨z2, e1, hf⟩ := xbd hf
  refine gf_X12_27 (pc := 2) C e1 dX12_means_2 ?_
  refine ww_iconst (pc := 5) (v := (1 : Int32)) C dX12_means_5 (by decide) ?_
  obtain ⟨v4, e3, hf⟩ := xbd hf
  refine ww_iald (pc := 6) C e3 dX12_means_6 ?_
  obtain ⟨σ6, e5, hf⟩ := xbd hf
  refine pf_X12_168 (pc := 7) C e5 dX12_means_7 ?_
  refine ww_aload_n (pc := 10) C 0 dX12_means_10 rfl ?_
  refine ww_aload_n (pc := 11) C 0 dX12_means_11 rfl ?_
  obtain ⟨z8, e7, hf⟩ := xbd hf
  refine gf_X12_27 (pc := 12) C e7 dX12_means_12 ?_
  refine ww_iconst (pc := 15) (v := (2 : Int32)) C dX12_means_15 (by decide) ?_
  obtain ⟨v10, e9, hf⟩ := xbd hf
  refine ww_iald (pc := 16) C e9 dX12_means_16 ?_
  obtain ⟨σ12, e11, hf⟩ := xbd hf
  refine pf_X12_174 (pc := 17) C e11 dX12_means_17 ?_
  refine ww_aload_n (pc := 20) C 0 dX12_means_20 rfl ?_
  refine ww_iconst (pc := 21) (v := (0 : Int32)) C dX12_means_21 (by decide) ?_
  obtain ⟨σ14, e13, hf⟩ := xbd hf
  refine pf_X12_180 (pc := 22) C (Or.inl rfl) e13 dX12_means_22 ?_
  refine ww_aload_n (pc := 25) C 0 dX12_means_25 rfl ?_
  refine ww_iconst (pc := 26) (v := (0 : Int32)) C dX12_means_26 (by decide) ?_
  obtain ⟨σ16, e15, hf⟩ := xbd hf
  refine pf_X12_187 (pc := 27) C (Or.inl rfl) e15 dX12_means_27 ?_
  refine ww_aload_n (pc := 30) C 0 dX12_means_30 rfl ?_
  obtain ⟨v18, e17, hf⟩ := xbd hf
  refine gf_X12_168 (pc := 31) C e17 dX12_means_31 ?_
  refine ww_iconst (pc := 34) (v := (1 : Int32)) C dX12_means_34 (by decide) ?_
  refine ww_iconst (pc := 35) (v := (4 : Int32)) C dX12_means_35 (by decide) ?_
  obtain ⟨v20, e19, hf⟩ := xbd hf
  refine ww_callSi (pc := 36) (as := [.int v18, .int (1 : Int32), .int (4 : Int32)]) (st := []) C (k_X12_in (l := gl G) (E := gE G) (hb := gB G) (σ := σ16) e19) xc_X12_213 q1473 rfl (by decide) (xst4 (Nat.le_of_ble_eq_true rfl)) xsame.rf.le xsame.rf.lim dX12_means_36 ?_
  refine ww_if_ne (pc := 39) (tgt := 48) C dX12_means_39 (by decide) (fun q => ?_) (fun q => ?_)
  · have hf := xin q hf
    refine ww_sub [0] rfl ?_
    exact s_X12_means_j48 C hf hk
  · have hf := xip q hf
    refine ww_aload_n (pc := 42) C 0 dX12_means_42 rfl ?_
    refine ww_iconst (pc := 43) (v := (3 : Int32)) C dX12_means_43 (by decide) ?_
    refine ww_iconst (pc := 44) (v := (1 : Int32)) C dX12_means_44 (by decide) ?_
    obtain ⟨_, e21, hf⟩ := xbd hf
    obtain ⟨σ23, e22, hf⟩ := xbd hf
    refine ww_callVv (pc := 45) (as := [.int (3 : Int32), .int (1 : Int32)]) (st := []) C (k_X12_wrong (l := gl G) (E := gE G) (hb := gB G) (σ := σ16) e22) rfl (by decide) xc_X12_209 q1477 qp132 (xck_spec e21) rfl (by decide) (xst4 (Nat.le_of_ble_eq_true rfl)) (m_X12_wrong e22).le (m_X12_wrong e22).lim dX12_means_45 ?_
    refine ww_sub [0] rfl ?_
    exact s_X12_means_j48 C hf hk
theorem m_X12_means {σ : XS} {r0 : Nat} {x : XS} (hf : f_X12_means σ r0 = some x) : xsame σ x := by
  have hm := xsame.rf (σ := σ)
  obtain ⟨z2, e1, hf⟩ := xbd hf
  obtain ⟨v4, e3, hf⟩ := xbd hf
  obtain ⟨σ6, e5, hf⟩ := xbd hf
  have hm := hm.tr (xpI_same e5)
  obtain ⟨z8, e7, hf⟩ := xbd hf
  obtain ⟨v10, e9, hf⟩ := xbd hf
  obtain ⟨σ12, e11, hf⟩ := xbd hf
  have hm := hm.tr (xpI_same e11)
  obtain ⟨σ14, e13, hf⟩ := xbd hf
  have hm := hm.tr (xpI_same e13)
  obtain ⟨σ16, e15, hf⟩ := xbd hf
  have hm := hm.tr (xpI_same e15)
  obtain ⟨v18, e17, hf⟩ := xbd hf
  obtain ⟨v20, e19, hf⟩ := xbd hf
  by_cases q : v20 = 0
  · have hf := xip q hf
    obtain ⟨_, e21, hf⟩ := xbd hf
    obtain ⟨σ23, e22, hf⟩ := xbd hf
    have hm := hm.tr (m_X12_wrong e22)
    exact hm.tr (m_X12_means_j48 hf)
  · have hf := xin q hf
    exact hm.tr (m_X12_means_j48 hf)
theorem k_X12_means {l : Launch} {E : XD} {hb : Nat} {σ : XS} {r0 : Nat} {x : XS} (h : f_X12_means σ r0 = some x) : XM l yX12_means cX12_means 2 none 3 71 E hb [.ref (hb + r0)] σ none x := by
  refine xm_of (by decide) (Nat.le_of_ble_eq_true rfl) (m_X12_means h).le (fun G hG C hl hQ => ?_)
  obtain ⟨rfl, rfl, rfl, hN⟩ := hG
  exact s_X12_means_e C h hQ
noncomputable def f_X12_nearest_b30 (σ : XS) (r0 : Nat) (x1 : Int32) (x2 : Int32) : Int32 × Int32 → Option ((Int32 × Int32) ⊕ (Int32 × XS)) := fun a => match a with
  | (x3, x4) => (xck σ r0 12).bind fun _ => (f_X12_states σ r0).bind fun v3 => if v3 ≤ x4 then ((if x2 = 0 then (some (x3, σ)) else (f_X12_bitsOf (x3 ^^^ x1)).bind fun v5 => some (v5, σ)).map .inr) else (xgR σ r0 12 33).bind fun z5 => (xaI σ 20 z5 x4).bind fun v7 => (xgR σ r0 12 36).bind fun z9 => (xaI σ 20 z9 (0 : Int32)).bind fun v11 => if v7 = v11 then (if x3 < 0 then (some (.inl (x4, x4 + (1 : Int32)))) else (f_X12_bitsOf (x4 ^^^ x1)).bind fun v13 => (f_X12_bitsOf (x3 ^^^ x1)).bind fun v15 => if v15 ≤ v13 then (some (.inl (x3, x4 + (1 : Int32)))) else some (.inl (x4, x4 + (1 : Int32)))) else some (.inl (x3, x4 + (1 : Int32)))
noncomputable def f_X12_nearest (σ : XS) (r0 : Nat) (x1 : Int32) (x2 : Int32) : Option (Int32 × XS) := (xck σ r0 12).bind fun _ => (f_X12_isLawful σ r0 x1).bind fun v3 => if v3 = 0 then (some ((-100000 : Int32), σ)) else (f_X12_in x2 (0 : Int32) (1 : Int32)).bind fun v5 => if v5 = 0 then (some ((-100000 : Int32), σ)) else (xck σ r0 12).bind fun _ => (f_X12_knows σ r0).bind fun σ8 => xloop (f_X12_nearest_b30 σ8 r0 x1 x2) ((-1 : Int32), (0 : Int32))
theorem m_X12_nearest_l30 {σ : XS} {r0 : Nat} {x1 : Int32} {x2 : Int32} {a : Int32 × Int32} {x : Int32 × XS} (hf : xloop (f_X12_nearest_b30 σ r0 x1 x2) a = some x) : xsame σ x.2 := by
  refine xloop_ind (P := fun a => xsame σ x.2) (fun a y hf hc he => ?_) hf
  obtain ⟨x3, x4⟩ := a
  have hy : (∀ a' : Int32 × Int32, y = .inl a' → True) ∧ (∀ b1 : Int32 × XS, y = .inr b1 → xsame σ b1.2) := by
    have hm := xsame.rf (σ := σ)
    obtain ⟨_, e1, hf⟩ := xbd hf
    obtain ⟨v3, e2, hf⟩ := xbd hf
    by_cases q : v3 ≤ x4
    · have hf := xip q hf
      obtain ⟨b0, hg, e9⟩ := xmj hf
      subst e9
      have hf := hg
      refine ⟨fun a' e => xnc2 e, fun b e => ?_⟩
      have h9 := Sum.inr.inj e
      subst h9
      by_cases q : x2 = 0
      · have hf := xip q hf
        have hf := xsj hf
        subst hf
        exact hm
      · have hf := xin q hf
        obtain ⟨v5, e4, hf⟩ := xbd hf
        have hf := xsj hf
        subst hf
        exact hm
    · have hf := xin q hf
      obtain ⟨z5, e4, hf⟩ := xbd hf
      obtain ⟨v7, e6, hf⟩ := xbd hf
      obtain ⟨z9, e8, hf⟩ := xbd hf
      obtain ⟨v11, e10, hf⟩ := xbd hf
      by_cases q : v7 = v11
      · have hf := xip q hf
        by_cases q : x3 < 0
        · have hf := xip q hf
          have hf := xsj hf
          subst hf
          exact ⟨fun a' e => (by have h9 := Sum.inl.inj e; subst h9; exact trivial), fun b e => xnc1 e⟩
        · have hf := xin q hf
          obtain ⟨v13, e12, hf⟩ := xbd hf
          obtain ⟨v15, e14, hf⟩ := xbd hf
          by_cases q : v15 ≤ v13
          · have hf := xip q hf
            have hf := xsj hf
            subst hf
            exact ⟨fun a' e => (by have h9 := Sum.inl.inj e; subst h9; exact trivial), fun b e => xnc1 e⟩
          · have hf := xin q hf
            have hf := xsj hf
            subst hf
            exact ⟨fun a' e => (by have h9 := Sum.inl.inj e; subst h9; exact trivial), fun b e => xnc1 e⟩
      · have hf := xin q hf
        have hf := xsj hf
        subst hf
        exact ⟨fun a' e => (by have h9 := Sum.inl.inj e; subst h9; exact trivial), fun b e => xnc1 e⟩
  cases y with
  | inl a' =>
    have h1 := hc a' rfl
    exact h1
  | inr b =>
    have h1 := he b rfl
    subst h1
    exact hy.2 _ rfl
theorem s_X12_nearest_l30 {G : XG} (C : XC G cX12_nearest RX12 (some .int) 5 4 96) {σ : XS} {r0 : Nat} {x1 : Int32} {x2 : Int32} {a : Int32 × Int32} {x : Int32 × XS} (hf : xloop (f_X12_nearest_b30 σ r0 x1 x2) a = some x) (hk : XEnd G (some (.int x.1)) x.2) : WW G 30 [(0, .ref (gB G + r0)), (1, .int x1), (2, .int x2), (3, .int a.1), (4, .int a.2)] [] σ := by
  refine xloop_ind (P := fun a => WW G 30 [(0, .ref (gB G + r0)), (1, .int x1), (2, .int x2), (3, .int a.1), (4, .int a.2)] [] σ) (fun a y hf hc he => ?_) hf
  obtain ⟨x3, x4⟩ := a
  have hk : (∀ a' : Int32 × Int32, y = .inl a' → WW G 30 [(0, .ref (gB G + r0)), (1, .int x1), (2, .int x2), (3, .int a'.1), (4, .int a'.2)] [] σ) ∧ (∀ b1 : Int32 × XS, y = .inr b1 → XEnd G (some (.int b1.1)) b1.2) := ⟨hc, fun b e => by have h9 := he b e; subst h9; exact hk⟩
  refine ww_iload (pc := 30) C 4 dX12_nearest_30 rfl ?_
  refine ww_aload_n (pc := 32) C 0 dX12_nearest_32 rfl ?_
  obtain ⟨_, e1, hf⟩ := xbd hf
  obtain ⟨v3, e2, hf⟩ := xbd hf
  refine ww_callVi (pc := 33) (as := []) (st := [.int x4]) C (k_X12_states (l := gl G) (E := gE G) (hb := gB G) (σ := σ) e2) rfl (by decide) xc_X12_270 q1555 qp141 (xck_spec e1) rfl (by decide) (xst4 (Nat.le_of_ble_eq_true rfl)) xsame.rf.le xsame.rf.lim dX12_nearest_33 ?_
  refine ww_icmp_ge (pc := 36) (tgt := 87) C dX12_nearest_36 (by decide) (fun q => ?_) (fun q => ?_)
  · have hf := xip q hf
    obtain ⟨b0, hg, e9⟩ := xmj hf
    subst e9
    have hf := hg
    have hk := hk.2 _ rfl
    refine ww_iload_n (pc := 87) C 2 dX12_nearest_87 rfl ?_
    refine ww_if_ne (pc := 88) (tgt := 95) C dX12_nearest_88 (by decide) (fun q => ?_) (fun q => ?_)
    · have hf := xin q hf
      refine ww_iload_n (pc := 95) C 3 dX12_nearest_95 rfl ?_
      refine ww_iload_n (pc := 96) C 1 dX12_nearest_96 rfl ?_
      refine ww_ixor (pc := 97) C dX12_nearest_97 ?_
      obtain ⟨v5, e4, hf⟩ := xbd hf
      refine ww_callSi (pc := 98) (as := [.int (x3 ^^^ x1)]) (st := []) C (k_X12_bitsOf (l := gl G) (E := gE G) (hb := gB G) (σ := σ) e4) xc_X12_292 q1615 rfl (by decide) (xst4 (Nat.le_of_ble_eq_true rfl)) xsame.rf.le xsame.rf.lim dX12_nearest_98 ?_
      have hf := xsj hf
      subst hf
      exact ww_iret (pc := 101) C hk dX12_nearest_101
    · have hf := xip q hf
      refine ww_iload_n (pc := 91) C 3 dX12_nearest_91 rfl ?_
      refine ww_goto (pc := 92) (tgt := 101) C dX12_nearest_92 (by decide) ?_
      have hf := xsj hf
      subst hf
      exact ww_iret (pc := 101) C hk dX12_nearest_101
  · have hf := xin q hf
    refine ww_aload_n (pc := 39) C 0 dX12_nearest_39 rfl ?_
    obtain ⟨z5, e4, hf⟩ := xbd hf
    refine gf_X12_57 (pc := 40) C e4 dX12_nearest_40 ?_
    refine ww_iload (pc := 43) C 4 dX12_nearest_43 rfl ?_
    obtain ⟨v7, e6, hf⟩ := xbd hf
    refine ww_iald (pc := 45) C e6 dX12_nearest_45 ?_
    refine ww_aload_n (pc := 46) C 0 dX12_nearest_46 rfl ?_
    obtain ⟨z9, e8, hf⟩ := xbd hf
    refine gf_X12_63 (pc := 47) C e8 dX12_nearest_47 ?_
    refine ww_iconst (pc := 50) (v := (0 : Int32)) C dX12_nearest_50 (by decide) ?_
    obtain ⟨v11, e10, hf⟩ := xbd hf
    refine ww_iald (pc := 51) C e10 dX12_nearest_51 ?_
    refine ww_icmp_eq (pc := 52) (tgt := 58) C dX12_nearest_52 (by decide) (fun q => ?_) (fun q => ?_)
    · have hf := xip q hf
      refine ww_iload_n (pc := 58) C 3 dX12_nearest_58 rfl ?_
      refine ww_if_lt (pc := 59) (tgt := 78) C dX12_nearest_59 (by decide) (fun q => ?_) (fun q => ?_)
      · have hf := xip q hf
        refine ww_iload (pc := 78) C 4 dX12_nearest_78 rfl ?_
        refine ww_istore_n (pc := 80) (lv' := [(3, .int x4), (0, .ref (gB G + r0)), (1, .int x1), (2, .int x2), (4, .int x4)]) C dX12_nearest_80 (by decide) rfl ?_
        refine ww_iinc (pc := 81) (v := x4 + (1 : Int32)) (lv' := [(4, .int (x4 + (1 : Int32))), (3, .int x4), (0, .ref (gB G + r0)), (1, .int x1), (2, .int x2)]) C 4 dX12_nearest_81 rfl (congrArg (fun z => x4 + z) (show Int32.ofInt (1) = (1 : Int32) by decide)) (by decide) rfl ?_
        refine ww_goto (pc := 84) (tgt := 30) C dX12_nearest_84 (by decide) ?_
        have hf := xsj hf
        subst hf
        refine ww_sub [2, 3, 4, 1, 0] rfl ?_
        exact hk.1 (x4, x4 + (1 : Int32)) rfl
      · have hf := xin q hf
        refine ww_iload (pc := 62) C 4 dX12_nearest_62 rfl ?_
        refine ww_iload_n (pc := 64) C 1 dX12_nearest_64 rfl ?_
        refine ww_ixor (pc := 65) C dX12_nearest_65 ?_
        obtain ⟨v13, e12, hf⟩ := xbd hf
        refine ww_callSi (pc := 66) (as := [.int (x4 ^^^ x1)]) (st := []) C (k_X12_bitsOf (l := gl G) (E := gE G) (hb := gB G) (σ := σ) e12) xc_X12_292 q1615 rfl (by decide) (xst4 (Nat.le_of_ble_eq_true rfl)) xsame.rf.le xsame.rf.lim dX12_nearest_66 ?_
        refine ww_iload_n (pc := 69) C 3 dX12_nearest_69 rfl ?_
        refine ww_iload_n (pc := 70) C 1 dX12_nearest_70 rfl ?_
        refine ww_ixor (pc := 71) C dX12_nearest_71 ?_
        obtain ⟨v15, e14, hf⟩ := xbd hf
        refine ww_callSi (pc := 72) (as := [.int (x3 ^^^ x1)]) (st := [.int v13]) C (k_X12_bitsOf (l := gl G) (E := gE G) (hb := gB G) (σ := σ) e14) xc_X12_292 q1615 rfl (by decide) (xst4 (Nat.le_of_ble_eq_true rfl)) xsame.rf.le xsame.rf.lim dX12_nearest_72 ?_
        refine ww_icmp_ge (pc := 75) (tgt := 81) C dX12_nearest_75 (by decide) (fun q => ?_) (fun q => ?_)
        · have hf := xip q hf
          refine ww_iinc (pc := 81) (v := x4 + (1 : Int32)) (lv' := [(4, .int (x4 + (1 : Int32))), (0, .ref (gB G + r0)), (1, .int x1), (2, .int x2), (3, .int x3)]) C 4 dX12_nearest_81 rfl (congrArg (fun z => x4 + z) (show Int32.ofInt (1) = (1 : Int32) by decide)) (by decide) rfl ?_
          refine ww_goto (pc := 84) (tgt := 30) C dX12_nearest_84 (by decide) ?_
          have hf := xsj hf
          subst hf
          refine ww_sub [1, 2, 3, 4, 0] rfl ?_
          exact hk.1 (x3, x4 + (1 : Int32)) rfl
        · have hf := xin q hf
          refine ww_iload (pc := 78) C 4 dX12_nearest_78 rfl ?_
          refine ww_istore_n (pc := 80) (lv' := [(3, .int x4), (0, .ref (gB G + r0)), (1, .int x1), (2, .int x2), (4, .int x4)]) C dX12_nearest_80 (by decide) rfl ?_
          refine ww_iinc (pc := 81) (v := x4 + (1 : Int32)) (lv' := [(4, .int (x4 + (1 : Int32))), (3, .int x4), (0, .ref (gB G + r0)), (1, .int x1), (2, .int x2)]) C 4 dX12_nearest_81 rfl (congrArg (fun z => x4 + z) (show Int32.ofInt (1) = (1 : Int32) by decide)) (by decide) rfl ?_
          refine ww_goto (pc := 84) (tgt := 30) C dX12_nearest_84 (by decide) ?_
          have hf := xsj hf
          subst hf
          refine ww_sub [2, 3, 4, 1, 0] rfl ?_
          exact hk.1 (x4, x4 + (1 : Int32)) rfl
    · have hf := xin q hf
      refine ww_goto (pc := 55) (tgt := 81) C dX12_nearest_55 (by decide) ?_
      refine ww_iinc (pc := 81) (v := x4 + (1 : Int32)) (lv' := [(4, .int (x4 + (1 : Int32))), (0, .ref (gB G + r0)), (1, .int x1), (2, .int x2), (3, .int x3)]) C 4 dX12_nearest_81 rfl (congrArg (fun z => x4 + z) (show Int32.ofInt (1) = (1 : Int32) by decide)) (by decide) rfl ?_
      refine ww_goto (pc := 84) (tgt := 30) C dX12_nearest_84 (by decide) ?_
      have hf := xsj hf
      subst hf
      refine ww_sub [1, 2, 3, 4, 0] rfl ?_
      exact hk.1 (x3, x4 + (1 : Int32)) rfl
theorem s_X12_nearest_e {G : XG} (C : XC G cX12_nearest RX12 (some .int) 5 4 96) {σ : XS} {r0 : Nat} {x1 : Int32} {x2 : Int32} {x : Int32 × XS} (hf : f_X12_nearest σ r0 x1 x2 = some x) (hk : XEnd G (some (.int x.1)) x.2) : WW G 0 [(0, .ref (gB G + r0)), (1, .int x1), (2, .int x2)] [] σ := by
  refine ww_aload_n (pc := 0) C 0 dX12_nearest_0 rfl ?_
  refine ww_iload_n (pc := 1) C 1 dX12_nearest_1 rfl ?_
  obtain ⟨_, e1, hf⟩ := xbd hf
  obtain ⟨v3, e2, hf⟩ := xbd hf
  refine ww_callVi (pc := 2) (as := [.int x1]) (st := []) C (k_X12_isLawful (l := gl G) (E := gE G) (hb := gB G) (σ := σ) e2) rfl (by decide) xc_X12_281 q1559 qp142 (xck_spec e1) rfl (by decide) (xst4 (Nat.le_of_ble_eq_true rfl)) xsame.rf.le xsame.rf.lim dX12_nearest_2 ?_
  refine ww_if_eq (pc := 5) (tgt := 17) C dX12_nearest_5 (by decide) (fun q => ?_) (fun q => ?_)
  · have hf := xip q hf
    refine ww_ldcw (pc := 17) C q1597 dX12_nearest_17 ?_
    have hf := xsj hf
    subst hf
    exact ww_iret (pc := 20) C hk dX12_nearest_20
  · have hf := xin q hf
    refine ww_iload_n (pc := 8) C 2 dX12_nearest_8 rfl ?_
    refine ww_iconst (pc := 9) (v := (0 : Int32)) C dX12_nearest_9 (by decide) ?_
    refine ww_iconst (pc := 10) (v := (1 : Int32)) C dX12_nearest_10 (by decide) ?_
    obtain ⟨v5, e4, hf⟩ := xbd hf
    refine ww_callSi (pc := 11) (as := [.int x2, .int (0 : Int32), .int (1 : Int32)]) (st := []) C (k_X12_in (l := gl G) (E := gE G) (hb := gB G) (σ := σ) e4) xc_X12_213 q1473 rfl (by decide) (xst4 (Nat.le_of_ble_eq_true rfl)) xsame.rf.le xsame.rf.lim dX12_nearest_11 ?_
    refine ww_if_ne (pc := 14) (tgt := 21) C dX12_nearest_14 (by decide) (fun q => ?_) (fun q => ?_)
    · have hf := xin q hf
      refine ww_aload_n (pc := 21) C 0 dX12_nearest_21 rfl ?_
      obtain ⟨_, e6, hf⟩ := xbd hf
      obtain ⟨σ8, e7, hf⟩ := xbd hf
      refine ww_callVv (pc := 22) (as := []) (st := []) C (k_X12_knows (l := gl G) (E := gE G) (hb := gB G) (σ := σ) e7) rfl (by decide) xc_X12_261 q1551 qp140 (xck_spec e6) rfl (by decide) (xst4 (Nat.le_of_ble_eq_true rfl)) (m_X12_knows e7).le (m_X12_knows e7).lim dX12_nearest_22 ?_
      refine ww_iconst (pc := 25) (v := (-1 : Int32)) C dX12_nearest_25 (by decide) ?_
      refine ww_istore_n (pc := 26) (lv' := [(3, .int (-1 : Int32)), (0, .ref (gB G + r0)), (1, .int x1), (2, .int x2)]) C dX12_nearest_26 (by decide) rfl ?_
      refine ww_iconst (pc := 27) (v := (0 : Int32)) C dX12_nearest_27 (by decide) ?_
      refine ww_istore (pc := 28) (lv' := [(4, .int (0 : Int32)), (3, .int (-1 : Int32)), (0, .ref (gB G + r0)), (1, .int x1), (2, .int x2)]) C dX12_nearest_28 (by decide) rfl ?_
      refine ww_sub [2, 3, 4, 1, 0] rfl ?_
      exact s_X12_nearest_l30 C (a := ((-1 : Int32), (0 : Int32))) hf hk
    · have hf := xip q hf
      refine ww_ldcw (pc := 17) C q1597 dX12_nearest_17 ?_
      have hf := xsj hf
      subst hf
      exact ww_iret (pc := 20) C hk dX12_nearest_20
theorem m_X12_nearest {σ : XS} {r0 : Nat} {x1 : Int32} {x2 : Int32} {x : Int32 × XS} (hf : f_X12_nearest σ r0 x1 x2 = some x) : xsame σ x.2 := by
  have hm := xsame.rf (σ := σ)
  obtain ⟨_, e1, hf⟩ := xbd hf
  obtain ⟨v3, e2, hf⟩ := xbd hf
  by_cases q : v3 = 0
  · have hf := xip q hf
    have hf := xsj hf
    subst hf
    exact hm
  · have hf := xin q hf
    obtain ⟨v5, e4, hf⟩ := xbd hf
    by_cases q : v5 = 0
    · have hf := xip q hf
      have hf := xsj hf
      subst hf
      exact hm
    · have hf := xin q hf
      obtain ⟨_, e6, hf⟩ := xbd hf
      obtain ⟨σ8, e7, hf⟩ := xbd hf
      have hm := hm.tr (m_X12_knows e7)
      exact hm.tr (m_X12_nearest_l30 (a := ((-1 : Int32), (0 : Int32))) hf)
theorem k_X12_nearest {l : Launch} {E : XD} {hb : Nat} {σ : XS} {r0 : Nat} {x1 : Int32} {x2 : Int32} {x : Int32 × XS} (h : f_X12_nearest σ r0 x1 x2 = some x) : XM l yX12_nearest cX12_nearest 5 (some .int) 4 96 E hb [.ref (hb + r0), .int x1, .int x2] σ (some (.int x.1)) x.2 := by
  refine xm_of (by decide) (Nat.le_of_ble_eq_true rfl) (m_X12_nearest h).le (fun G hG C hl hQ => ?_)
  obtain ⟨rfl, rfl, rfl, hN⟩ := hG
  exact s_X12_nearest_e C h hQ
noncomputable def f_X12_overlap_b75 (σ : XS) (r0 : Nat) (x1 : Int32) (x2 : Int32) (x4 : Int32) : Int32 × Int32 → Option ((Int32 × Int32) ⊕ ((Int32 × Int32 × Int32 × XS) ⊕ (Int32 × XS))) := fun a => match a with
  | (x3, x5) => if x2 ≤ x5 then (((xgR σ r0 12 44).bind fun z2 => (xsI σ 20 z2 x2 x4).bind fun σ4 => some (.inl (x2 + (1 : Int32), x3, x4 + (1 : Int32), σ4))).map .inr) else (xgR σ r0 12 44).bind fun z2 => (xaI σ 20 z2 x5).bind fun v4 => (f_X12_bitsOf (x4 ^^^ v4)).bind fun v6 => if v6 = x1 then (some (.inl (x3 + (1 : Int32), x5 + (1 : Int32)))) else some (.inl (x3, x5 + (1 : Int32)))
noncomputable def f_X12_overlap_b44 (r0 : Nat) (x1 : Int32) : Int32 × Int32 × Int32 × XS → Option ((Int32 × Int32 × Int32 × XS) ⊕ (Int32 × XS)) := fun a => match a with
  | (x2, x3, x4, σ) => (xck σ r0 12).bind fun _ => (f_X12_states σ r0).bind fun v3 => if v3 ≤ x4 then ((some (x3, σ)).map .inr) else (xgR σ r0 12 33).bind fun z5 => (xaI σ 20 z5 x4).bind fun v7 => (xgR σ r0 12 36).bind fun z9 => (xaI σ 20 z9 (0 : Int32)).bind fun v11 => if v7 = v11 then (xloop (f_X12_overlap_b75 σ r0 x1 x2 x4) (x3, (0 : Int32))) else some (.inl (x2, x3, x4 + (1 : Int32), σ))
noncomputable def f_X12_overlap (σ : XS) (r0 : Nat) (x1 : Int32) : Option (Int32 × XS) := (xck σ r0 12).bind fun _ => (f_X12_knows σ r0).bind fun σ3 => (xgI σ3 r0 12 35).bind fun v5 => if v5 = 0 then (some ((0 : Int32), σ3)) else (xgR σ3 r0 12 34).bind fun z7 => (xgR σ3 r0 12 36).bind fun z9 => (xaI σ3 20 z9 (0 : Int32)).bind fun v11 => (xaI σ3 20 z7 ((150 : Int32) + v11)).bind fun v13 => if v13 ≤ (256 : Int32) then (xloop (f_X12_overlap_b44 r0 x1) ((0 : Int32), (0 : Int32), (0 : Int32), σ3)) else some ((-2 : Int32), σ3)
theorem m_X12_overlap_l75 {σ : XS} {r0 : Nat} {x1 : Int32} {x2 : Int32} {x4 : Int32} {a : Int32 × Int32} {x : ((Int32 × Int32 × Int32 × XS) ⊕ (Int32 × XS))} (hf : xloop (f_X12_overlap_b75 σ r0 x1 x2 x4) a = some x) : (∀ a' : Int32 × Int32 × Int32 × XS, x = .inl a' → xsame σ a'.2.2.2) ∧ (∀ b1 : Int32 × XS, x = .inr b1 → xsame σ b1.2) := by
  refine xloop_ind (P := fun a => (∀ a' : Int32 × Int32 × Int32 × XS, x = .inl a' → xsame σ a'.2.2.2) ∧ (∀ b1 : Int32 × XS, x = .inr b1 → xsame σ b1.2)) (fun a y hf hc he => ?_) hf
  obtain ⟨x3, x5⟩ := a
  have hy : (∀ a' : Int32 × Int32, y = .inl a' → True) ∧ (∀ b2 : ((Int32 × Int32 × Int32 × XS) ⊕ (Int32 × XS)), y = .inr b2 → (∀ a' : Int32 × Int32 × Int32 × XS, b2 = .inl a' → xsame σ a'.2.2.2) ∧ (∀ b1 : Int32 × XS, b2 = .inr b1 → xsame σ b1.2)) := by
    have hm := xsame.rf (σ := σ)
    by_cases q : x2 ≤ x5
    · have hf := xip q hf
      obtain ⟨b0, hg, e9⟩ := xmj hf
      subst e9
      have hf := hg
      refine ⟨fun a' e => xnc2 e, fun b e => ?_⟩
      have h9 := Sum.inr.inj e
      subst h9
      obtain ⟨z2, e1, hf⟩ := xbd hf
      obtain ⟨σ4, e3, hf⟩ := xbd hf
      have hm := hm.tr (xsI_same e3)
      have hf := xsj hf
      subst hf
      exact ⟨fun a' e => (by have h9 := Sum.inl.inj e; subst h9; exact hm), fun b e => xnc1 e⟩
    · have hf := xin q hf
      obtain ⟨z2, e1, hf⟩ := xbd hf
      obtain ⟨v4, e3, hf⟩ := xbd hf
      obtain ⟨v6, e5, hf⟩ := xbd hf
      by_cases q : v6 = x1
      · have hf := xip q hf
        have hf := xsj hf
        subst hf
        exact ⟨fun a' e => (by have h9 := Sum.inl.inj e; subst h9; exact trivial), fun b e => xnc1 e⟩
      · have hf := xin q hf
        have hf := xsj hf
        subst hf
        exact ⟨fun a' e => (by have h9 := Sum.inl.inj e; subst h9; exact trivial), fun b e => xnc1 e⟩
  cases y with
  | inl a' =>
    have h1 := hc a' rfl
    exact h1
  | inr b =>
    have h1 := he b rfl
    subst h1
    exact hy.2 _ rfl
theorem s_X12_overlap_l75 {G : XG} (C : XC G cX12_overlap RX12 (some .int) 6 4 96) {σ : XS} {r0 : Nat} {x1 : Int32} {x2 : Int32} {x4 : Int32} {a : Int32 × Int32} {x : ((Int32 × Int32 × Int32 × XS) ⊕ (Int32 × XS))} (hf : xloop (f_X12_overlap_b75 σ r0 x1 x2 x4) a = some x) (hk : (∀ a' : Int32 × Int32 × Int32 × XS, x = .inl a' → WW G 44 [(0, .ref (gB G + r0)), (1, .int x1), (2, .int a'.1), (3, .int a'.2.1), (4, .int a'.2.2.1)] [] a'.2.2.2) ∧ (∀ b1 : Int32 × XS, x = .inr b1 → XEnd G (some (.int b1.1)) b1.2)) : WW G 75 [(0, .ref (gB G + r0)), (1, .int x1), (2, .int x2), (3, .int a.1), (4, .int x4), (5, .int a.2)] [] σ := by
  refine xloop_ind (P := fun a => WW G 75 [(0, .ref (gB G + r0)), (1, .int x1), (2, .int x2), (3, .int a.1), (4, .int x4), (5, .int a.2)] [] σ) (fun a y hf hc he => ?_) hf
  obtain ⟨x3, x5⟩ := a
  have hk : (∀ a' : Int32 × Int32, y = .inl a' → WW G 75 [(0, .ref (gB G + r0)), (1, .int x1), (2, .int x2), (3, .int a'.1), (4, .int x4), (5, .int a'.2)] [] σ) ∧ (∀ b2 : ((Int32 × Int32 × Int32 × XS) ⊕ (Int32 × XS)), y = .inr b2 → (∀ a' : Int32 × Int32 × Int32 × XS, b2 = .inl a' → WW G 44 [(0, .ref (gB G + r0)), (1, .int x1), (2, .int a'.1), (3, .int a'.2.1), (4, .int a'.2.2.1)] [] a'.2.2.2) ∧ (∀ b1 : Int32 × XS, b2 = .inr b1 → XEnd G (some (.int b1.1)) b1.2)) := ⟨hc, fun b e => by have h9 := he b e; subst h9; exact hk⟩
  refine ww_iload (pc := 75) C 5 dX12_overlap_75 rfl ?_
  refine ww_iload_n (pc := 77) C 2 dX12_overlap_77 rfl ?_
  refine ww_icmp_ge (pc := 78) (tgt := 107) C dX12_overlap_78 (by decide) (fun q => ?_) (fun q => ?_)
  · have hf := xip q hf
    obtain ⟨b0, hg, e9⟩ := xmj hf
    subst e9
    have hf := hg
    have hk := hk.2 _ rfl
    refine ww_aload_n (pc := 107) C 0 dX12_overlap_107 rfl ?_
    obtain ⟨z2, e1, hf⟩ := xbd hf
    refine gf_X12_87 (pc := 108) C e1 dX12_overlap_108 ?_
    refine ww_iload_n (pc := 111) C 2 dX12_overlap_111 rfl ?_
    refine ww_iload (pc := 112) C 4 dX12_overlap_112 rfl ?_
    obtain ⟨σ4, e3, hf⟩ := xbd hf
    refine ww_iast (pc := 114) C e3 dX12_overlap_114 ?_
    refine ww_iinc (pc := 115) (v := x2 + (1 : Int32)) (lv' := [(2, .int (x2 + (1 : Int32))), (0, .ref (gB G + r0)), (1, .int x1), (3, .int x3), (4, .int x4), (5, .int x5)]) C 2 dX12_overlap_115 rfl (congrArg (fun z => x2 + z) (show Int32.ofInt (1) = (1 : Int32) by decide)) (by decide) rfl ?_
    refine ww_iinc (pc := 118) (v := x4 + (1 : Int32)) (lv' := [(4, .int (x4 + (1 : Int32))), (2, .int (x2 + (1 : Int32))), (0, .ref (gB G + r0)), (1, .int x1), (3, .int x3), (5, .int x5)]) C 4 dX12_overlap_118 rfl (congrArg (fun z => x4 + z) (show Int32.ofInt (1) = (1 : Int32) by decide)) (by decide) rfl ?_
    refine ww_goto (pc := 121) (tgt := 44) C dX12_overlap_121 (by decide) ?_
    have hf := xsj hf
    subst hf
    refine ww_sub [2, 3, 1, 4, 0] rfl ?_
    exact hk.1 (x2 + (1 : Int32), x3, x4 + (1 : Int32), σ4) rfl
  · have hf := xin q hf
    refine ww_iload (pc := 81) C 4 dX12_overlap_81 rfl ?_
    refine ww_aload_n (pc := 83) C 0 dX12_overlap_83 rfl ?_
    obtain ⟨z2, e1, hf⟩ := xbd hf
    refine gf_X12_87 (pc := 84) C e1 dX12_overlap_84 ?_
    refine ww_iload (pc := 87) C 5 dX12_overlap_87 rfl ?_
    obtain ⟨v4, e3, hf⟩ := xbd hf
    refine ww_iald (pc := 89) C e3 dX12_overlap_89 ?_
    refine ww_ixor (pc := 90) C dX12_overlap_90 ?_
    obtain ⟨v6, e5, hf⟩ := xbd hf
    refine ww_callSi (pc := 91) (as := [.int (x4 ^^^ v4)]) (st := []) C (k_X12_bitsOf (l := gl G) (E := gE G) (hb := gB G) (σ := σ) e5) xc_X12_292 q1615 rfl (by decide) (xst4 (Nat.le_of_ble_eq_true rfl)) xsame.rf.le xsame.rf.lim dX12_overlap_91 ?_
    refine ww_iload_n (pc := 94) C 1 dX12_overlap_94 rfl ?_
    refine ww_icmp_ne (pc := 95) (tgt := 101) C dX12_overlap_95 (by decide) (fun q => ?_) (fun q => ?_)
    · have hf := xin q hf
      refine ww_iinc (pc := 101) (v := x5 + (1 : Int32)) (lv' := [(5, .int (x5 + (1 : Int32))), (0, .ref (gB G + r0)), (1, .int x1), (2, .int x2), (3, .int x3), (4, .int x4)]) C 5 dX12_overlap_101 rfl (congrArg (fun z => x5 + z) (show Int32.ofInt (1) = (1 : Int32) by decide)) (by decide) rfl ?_
      refine ww_goto (pc := 104) (tgt := 75) C dX12_overlap_104 (by decide) ?_
      have hf := xsj hf
      subst hf
      refine ww_sub [1, 2, 3, 4, 5, 0] rfl ?_
      exact hk.1 (x3, x5 + (1 : Int32)) rfl
    · have hf := xip q hf
      refine ww_iinc (pc := 98) (v := x3 + (1 : Int32)) (lv' := [(3, .int (x3 + (1 : Int32))), (0, .ref (gB G + r0)), (1, .int x1), (2, .int x2), (4, .int x4), (5, .int x5)]) C 3 dX12_overlap_98 rfl (congrArg (fun z => x3 + z) (show Int32.ofInt (1) = (1 : Int32) by decide)) (by decide) rfl ?_
      refine ww_iinc (pc := 101) (v := x5 + (1 : Int32)) (lv' := [(5, .int (x5 + (1 : Int32))), (3, .int (x3 + (1 : Int32))), (0, .ref (gB G + r0)), (1, .int x1), (2, .int x2), (4, .int x4)]) C 5 dX12_overlap_101 rfl (congrArg (fun z => x5 + z) (show Int32.ofInt (1) = (1 : Int32) by decide)) (by decide) rfl ?_
      refine ww_goto (pc := 104) (tgt := 75) C dX12_overlap_104 (by decide) ?_
      have hf := xsj hf
      subst hf
      refine ww_sub [2, 3, 4, 1, 5, 0] rfl ?_
      exact hk.1 (x3 + (1 : Int32), x5 + (1 : Int32)) rfl
theorem m_X12_overlap_l44 {r0 : Nat} {x1 : Int32} {a : Int32 × Int32 × Int32 × XS} {x : Int32 × XS} (hf : xloop (f_X12_overlap_b44 r0 x1) a = some x) : xsame a.2.2.2 x.2 := by
  refine xloop_ind (P := fun a => xsame a.2.2.2 x.2) (fun a y hf hc he => ?_) hf
  obtain ⟨x2, x3, x4, σ⟩ := a
  have hy : (∀ a' : Int32 × Int32 × Int32 × XS, y = .inl a' → xsame σ a'.2.2.2) ∧ (∀ b1 : Int32 × XS, y = .inr b1 → xsame σ b1.2) := by
    have hm := xsame.rf (σ := σ)
    obtain ⟨_, e1, hf⟩ := xbd hf
    obtain ⟨v3, e2, hf⟩ := xbd hf
    by_cases q : v3 ≤ x4
    · have hf := xip q hf
      obtain ⟨b0, hg, e9⟩ := xmj hf
      subst e9
      have hf := hg
      refine ⟨fun a' e => xnc2 e, fun b e => ?_⟩
      have h9 := Sum.inr.inj e
      subst h9
      have hf := xsj hf
      subst hf
      exact hm
    · have hf := xin q hf
      obtain ⟨z5, e4, hf⟩ := xbd hf
      obtain ⟨v7, e6, hf⟩ := xbd hf
      obtain ⟨z9, e8, hf⟩ := xbd hf
      obtain ⟨v11, e10, hf⟩ := xbd hf
      by_cases q : v7 = v11
      · have hf := xip q hf
        exact ⟨fun a' e => hm.tr ((m_X12_overlap_l75 (a := (x3, (0 : Int32))) hf).1 a' e), fun b1 eb1 => hm.tr ((m_X12_overlap_l75 (a := (x3, (0 : Int32))) hf).2 b1 eb1)⟩
      · have hf := xin q hf
        have hf := xsj hf
        subst hf
        exact ⟨fun a' e => (by have h9 := Sum.inl.inj e; subst h9; exact hm), fun b e => xnc1 e⟩
  cases y with
  | inl a' =>
    have h1 := hc a' rfl
    have hm := hy.1 a' rfl
    exact hm.tr (h1)
  | inr b =>
    have h1 := he b rfl
    subst h1
    exact hy.2 _ rfl
theorem s_X12_overlap_l44 {G : XG} (C : XC G cX12_overlap RX12 (some .int) 6 4 96) {r0 : Nat} {x1 : Int32} {a : Int32 × Int32 × Int32 × XS} {x : Int32 × XS} (hf : xloop (f_X12_overlap_b44 r0 x1) a = some x) (hk : XEnd G (some (.int x.1)) x.2) : WW G 44 [(0, .ref (gB G + r0)), (1, .int x1), (2, .int a.1), (3, .int a.2.1), (4, .int a.2.2.1)] [] a.2.2.2 := by
  refine xloop_ind (P := fun a => WW G 44 [(0, .ref (gB G + r0)), (1, .int x1), (2, .int a.1), (3, .int a.2.1), (4, .int a.2.2.1)] [] a.2.2.2) (fun a y hf hc he => ?_) hf
  obtain ⟨x2, x3, x4, σ⟩ := a
  have hk : (∀ a' : Int32 × Int32 × Int32 × XS, y = .inl a' → WW G 44 [(0, .ref (gB G + r0)), (1, .int x1), (2, .int a'.1), (3, .int a'.2.1), (4, .int a'.2.2.1)] [] a'.2.2.2) ∧ (∀ b1 : Int32 × XS, y = .inr b1 → XEnd G (some (.int b1.1)) b1.2) := ⟨hc, fun b e => by have h9 := he b e; subst h9; exact hk⟩
  refine ww_iload (pc := 44) C 4 dX12_overlap_44 rfl ?_
  refine ww_aload_n (pc := 46) C 0 dX12_overlap_46 rfl ?_
  obtain ⟨_, e1, hf⟩ := xbd hf
  obtain ⟨v3, e2, hf⟩ := xbd hf
  refine ww_callVi (pc := 47) (as := []) (st := [.int x4]) C (k_X12_states (l := gl G) (E := gE G) (hb := gB G) (σ := σ) e2) rfl (by decide) xc_X12_270 q1555 qp141 (xck_spec e1) rfl (by decide) (xst4 (Nat.le_of_ble_eq_true rfl)) xsame.rf.le xsame.rf.lim dX12_overlap_47 ?_
  refine ww_icmp_ge (pc := 50) (tgt := 124) C dX12_overlap_50 (by decide) (fun q => ?_) (fun q => ?_)
  · have hf := xip q hf
    obtain ⟨b0, hg, e9⟩ := xmj hf
    subst e9
    have hf := hg
    have hk := hk.2 _ rfl
    refine ww_iload_n (pc := 124) C 3 dX12_overlap_124 rfl ?_
    have hf := xsj hf
    subst hf
    exact ww_iret (pc := 125) C hk dX12_overlap_125
  · have hf := xin q hf
    refine ww_aload_n (pc := 53) C 0 dX12_overlap_53 rfl ?_
    obtain ⟨z5, e4, hf⟩ := xbd hf
    refine gf_X12_57 (pc := 54) C e4 dX12_overlap_54 ?_
    refine ww_iload (pc := 57) C 4 dX12_overlap_57 rfl ?_
    obtain ⟨v7, e6, hf⟩ := xbd hf
    refine ww_iald (pc := 59) C e6 dX12_overlap_59 ?_
    refine ww_aload_n (pc := 60) C 0 dX12_overlap_60 rfl ?_
    obtain ⟨z9, e8, hf⟩ := xbd hf
    refine gf_X12_63 (pc := 61) C e8 dX12_overlap_61 ?_
    refine ww_iconst (pc := 64) (v := (0 : Int32)) C dX12_overlap_64 (by decide) ?_
    obtain ⟨v11, e10, hf⟩ := xbd hf
    refine ww_iald (pc := 65) C e10 dX12_overlap_65 ?_
    refine ww_icmp_eq (pc := 66) (tgt := 72) C dX12_overlap_66 (by decide) (fun q => ?_) (fun q => ?_)
    · have hf := xip q hf
      refine ww_iconst (pc := 72) (v := (0 : Int32)) C dX12_overlap_72 (by decide) ?_
      refine ww_istore (pc := 73) (lv' := [(5, .int (0 : Int32)), (0, .ref (gB G + r0)), (1, .int x1), (2, .int x2), (3, .int x3), (4, .int x4)]) C dX12_overlap_73 (by decide) rfl ?_
      refine ww_sub [1, 2, 3, 4, 5, 0] rfl ?_
      exact s_X12_overlap_l75 C (a := (x3, (0 : Int32))) hf hk
    · have hf := xin q hf
      refine ww_goto (pc := 69) (tgt := 118) C dX12_overlap_69 (by decide) ?_
      refine ww_iinc (pc := 118) (v := x4 + (1 : Int32)) (lv' := [(4, .int (x4 + (1 : Int32))), (0, .ref (gB G + r0)), (1, .int x1), (2, .int x2), (3, .int x3)]) C 4 dX12_overlap_118 rfl (congrArg (fun z => x4 + z) (show Int32.ofInt (1) = (1 : Int32) by decide)) (by decide) rfl ?_
      refine ww_goto (pc := 121) (tgt := 44) C dX12_overlap_121 (by decide) ?_
      have hf := xsj hf
      subst hf
      refine ww_sub [1, 2, 3, 4, 0] rfl ?_
      exact hk.1 (x2, x3, x4 + (1 : Int32), σ) rfl
theorem s_X12_overlap_e {G : XG} (C : XC G cX12_overlap RX12 (some .int) 6 4 96) {σ : XS} {r0 : Nat} {x1 : Int32} {x : Int32 × XS} (hf : f_X12_overlap σ r0 x1 = some x) (hk : XEnd G (some (.int x.1)) x.2) : WW G 0 [(0, .ref (gB G + r0)), (1, .int x1)] [] σ := by
  refine ww_aload_n (pc := 0) C 0 dX12_overlap_0 rfl ?_
  obtain ⟨_, e1, hf⟩ := xbd hf
  obtain ⟨σ3, e2, hf⟩ := xbd hf
  refine ww_callVv (pc := 1) (as := []) (st := []) C (k_X12_knows (l := gl G) (E := gE G) (hb := gB G) (σ := σ) e2) rfl (by decide) xc_X12_261 q1551 qp140 (xck_spec e1) rfl (by decide) (xst4 (Nat.le_of_ble_eq_true rfl)) (m_X12_knows e2).le (m_X12_knows e2).lim dX12_overlap_1 ?_
  refine ww_aload_n (pc := 4) C 0 dX12_overlap_4 rfl ?_
  obtain ⟨v5, e4, hf⟩ := xbd hf
  refine gf_X12_285 (pc := 5) C e4 dX12_overlap_5 ?_
  refine ww_if_ne (pc := 8) (tgt := 13) C dX12_overlap_8 (by decide) (fun q => ?_) (fun q => ?_)
  · have hf := xin q hf
    refine ww_aload_n (pc := 13) C 0 dX12_overlap_13 rfl ?_
    obtain ⟨z7, e6, hf⟩ := xbd hf
    refine gf_X12_60 (pc := 14) C e6 dX12_overlap_14 ?_
    refine ww_sipush (pc := 17) (v := (150 : Int32)) C dX12_overlap_17 (by decide) ?_
    refine ww_aload_n (pc := 20) C 0 dX12_overlap_20 rfl ?_
    obtain ⟨z9, e8, hf⟩ := xbd hf
    refine gf_X12_63 (pc := 21) C e8 dX12_overlap_21 ?_
    refine ww_iconst (pc := 24) (v := (0 : Int32)) C dX12_overlap_24 (by decide) ?_
    obtain ⟨v11, e10, hf⟩ := xbd hf
    refine ww_iald (pc := 25) C e10 dX12_overlap_25 ?_
    refine ww_iadd (pc := 26) C dX12_overlap_26 ?_
    obtain ⟨v13, e12, hf⟩ := xbd hf
    refine ww_iald (pc := 27) C e12 dX12_overlap_27 ?_
    refine ww_sipush (pc := 28) (v := (256 : Int32)) C dX12_overlap_28 (by decide) ?_
    refine ww_icmp_le (pc := 31) (tgt := 37) C dX12_overlap_31 (by decide) (fun q => ?_) (fun q => ?_)
    · have hf := xip q hf
      refine ww_iconst (pc := 37) (v := (0 : Int32)) C dX12_overlap_37 (by decide) ?_
      refine ww_istore_n (pc := 38) (lv' := [(2, .int (0 : Int32)), (0, .ref (gB G + r0)), (1, .int x1)]) C dX12_overlap_38 (by decide) rfl ?_
      refine ww_iconst (pc := 39) (v := (0 : Int32)) C dX12_overlap_39 (by decide) ?_
      refine ww_istore_n (pc := 40) (lv' := [(3, .int (0 : Int32)), (2, .int (0 : Int32)), (0, .ref (gB G + r0)), (1, .int x1)]) C dX12_overlap_40 (by decide) rfl ?_
      refine ww_iconst (pc := 41) (v := (0 : Int32)) C dX12_overlap_41 (by decide) ?_
      refine ww_istore (pc := 42) (lv' := [(4, .int (0 : Int32)), (3, .int (0 : Int32)), (2, .int (0 : Int32)), (0, .ref (gB G + r0)), (1, .int x1)]) C dX12_overlap_42 (by decide) rfl ?_
      refine ww_sub [3, 4, 2, 1, 0] rfl ?_
      exact s_X12_overlap_l44 C (a := ((0 : Int32), (0 : Int32), (0 : Int32), σ3)) hf hk
    · have hf := xin q hf
      refine ww_bipush (pc := 34) (v := (-2 : Int32)) C dX12_overlap_34 (by decide) ?_
      have hf := xsj hf
      subst hf
      exact ww_iret (pc := 36) C hk dX12_overlap_36
  · have hf := xip q hf
    refine ww_iconst (pc := 11) (v := (0 : Int32)) C dX12_overlap_11 (by decide) ?_
    have hf := xsj hf
    subst hf
    exact ww_iret (pc := 12) C hk dX12_overlap_12
theorem m_X12_overlap {σ : XS} {r0 : Nat} {x1 : Int32} {x : Int32 × XS} (hf : f_X12_overlap σ r0 x1 = some x) : xsame σ x.2 := by
  have hm := xsame.rf (σ := σ)
  obtain ⟨_, e1, hf⟩ := xbd hf
  obtain ⟨σ3, e2, hf⟩ := xbd hf
  have hm := hm.tr (m_X12_knows e2)
  obtain ⟨v5, e4, hf⟩ := xbd hf
  by_cases q : v5 = 0
  · have hf := xip q hf
    have hf := xsj hf
    subst hf
    exact hm
  · have hf := xin q hf
    obtain ⟨z7, e6, hf⟩ := xbd hf
    obtain ⟨z9, e8, hf⟩ := xbd hf
    obtain ⟨v11, e10, hf⟩ := xbd hf
    obtain ⟨v13, e12, hf⟩ := xbd hf
    by_cases q : v13 ≤ (256 : Int32)
    · have hf := xip q hf
      exact hm.tr (m_X12_overlap_l44 (a := ((0 : Int32), (0 : Int32), (0 : Int32), σ3)) hf)
    · have hf := xin q hf
      have hf := xsj hf
      subst hf
      exact hm
theorem k_X12_overlap {l : Launch} {E : XD} {hb : Nat} {σ : XS} {r0 : Nat} {x1 : Int32} {x : Int32 × XS} (h : f_X12_overlap σ r0 x1 = some x) : XM l yX12_overlap cX12_overlap 6 (some .int) 4 96 E hb [.ref (hb + r0), .int x1] σ (some (.int x.1)) x.2 := by
  refine xm_of (by decide) (Nat.le_of_ble_eq_true rfl) (m_X12_overlap h).le (fun G hG C hl hQ => ?_)
  obtain ⟨rfl, rfl, rfl, hN⟩ := hG
  exact s_X12_overlap_e C h hQ
noncomputable def f_X12_pair_b54 (σ : XS) (r0 : Nat) (x1 : Int32) (x2 : Int32) (x3 : Int32) (x4 : Int32) : Int32 × Int32 → Option ((Int32 × Int32) ⊕ (Int32 × XS)) := fun a => match a with
  | (x5, x6) => (xck σ r0 12).bind fun _ => (f_X12_states σ r0).bind fun v3 => if v3 ≤ x6 then (((xgR σ r0 12 34).bind fun z5 => (xgR σ r0 12 36).bind fun z7 => (xaI σ 20 z7 x3).bind fun v9 => (xaI σ 20 z5 ((150 : Int32) + v9)).bind fun v11 => (f_X12_part x5 v11 x4).bind fun v13 => some (v13, σ)).map .inr) else (xgR σ r0 12 33).bind fun z5 => (xaI σ 20 z5 x6).bind fun v7 => (xgR σ r0 12 36).bind fun z9 => (xaI σ 20 z9 x3).bind fun v11 => if v7 = v11 then ((f_X12_has x6 x1).bind fun v13 => (f_X12_has x6 x2).bind fun v15 => if v13 = v15 then (some (.inl (x5 + (1 : Int32), x6 + (1 : Int32)))) else some (.inl (x5 + (-1 : Int32), x6 + (1 : Int32)))) else some (.inl (x5, x6 + (1 : Int32)))
noncomputable def f_X12_pair (σ : XS) (r0 : Nat) (x1 : Int32) (x2 : Int32) (x3 : Int32) (x4 : Int32) : Option (Int32 × XS) := (xck σ r0 12).bind fun _ => (f_X12_knows σ r0).bind fun σ3 => (xck σ3 r0 12).bind fun _ => (f_X12_isSite σ3 r0 x1).bind fun v6 => if v6 = 0 then (some ((-100000 : Int32), σ3)) else (xck σ3 r0 12).bind fun _ => (f_X12_isSite σ3 r0 x2).bind fun v9 => if v9 = 0 then (some ((-100000 : Int32), σ3)) else (xgI σ3 r0 12 35).bind fun v11 => (f_X12_in x3 (0 : Int32) (v11 - (1 : Int32))).bind fun v13 => if v13 = 0 then (some ((-100000 : Int32), σ3)) else (f_X12_in x4 (0 : Int32) (1 : Int32)).bind fun v15 => if v15 = 0 then (some ((-100000 : Int32), σ3)) else xloop (f_X12_pair_b54 σ3 r0 x1 x2 x3 x4) ((0 : Int32), (0 : Int32))
theorem m_X12_pair_l54 {σ : XS} {r0 : Nat} {x1 : Int32} {x2 : Int32} {x3 : Int32} {x4 : Int32} {a : Int32 × Int32} {x : Int32 × XS} (hf : xloop (f_X12_pair_b54 σ r0 x1 x2 x3 x4) a = some x) : xsame σ x.2 := by
  refine xloop_ind (P := fun a => xsame σ x.2) (fun a y hf hc he => ?_) hf
  obtain ⟨x5, x6⟩ := a
  have hy : (∀ a' : Int32 × Int32, y = .inl a' → True) ∧ (∀ b1 : Int32 × XS, y = .inr b1 → xsame σ b1.2) := by
    have hm := xsame.rf (σ := σ)
    obtain ⟨_, e1, hf⟩ := xbd hf
    obtain ⟨v3, e2, hf⟩ := xbd hf
    by_cases q : v3 ≤ x6
    · have hf := xip q hf
      obtain ⟨b0, hg, e9⟩ := xmj hf
      subst e9
      have hf := hg
      refine ⟨fun a' e => xnc2 e, fun b e => ?_⟩
      have h9 := Sum.inr.inj e
      subst h9
      obtain ⟨z5, e4, hf⟩ := xbd hf
      obtain ⟨z7, e6, hf⟩ := xbd hf
      obtain ⟨v9, e8, hf⟩ := xbd hf
      obtain ⟨v11, e10, hf⟩ := xbd hf
      obtain ⟨v13, e12, hf⟩ := xbd hf
      have hf := xsj hf
      subst hf
      exact hm
    · have hf := xin q hf
      obtain ⟨z5, e4, hf⟩ := xbd hf
      obtain ⟨v7, e6, hf⟩ := xbd hf
      obtain ⟨z9, e8, hf⟩ := xbd hf
      obtain ⟨v11, e10, hf⟩ := xbd hf
      by_cases q : v7 = v11
      · have hf := xip q hf
        obtain ⟨v13, e12, hf⟩ := xbd hf
        obtain ⟨v15, e14, hf⟩ := xbd hf
        by_cases q : v13 = v15
        · have hf := xip q hf
          have hf := xsj hf
          subst hf
          exact ⟨fun a' e => (by have h9 := Sum.inl.inj e; subst h9; exact trivial), fun b e => xnc1 e⟩
        · have hf := xin q hf
          have hf := xsj hf
          subst hf
          exact ⟨fun a' e => (by have h9 := Sum.inl.inj e; subst h9; exact trivial), fun b e => xnc1 e⟩
      · have hf := xin q hf
        have hf := xsj hf
        subst hf
        exact ⟨fun a' e => (by have h9 := Sum.inl.inj e; subst h9; exact trivial), fun b e => xnc1 e⟩
  cases y with
  | inl a' =>
    have h1 := hc a' rfl
    exact h1
  | inr b =>
    have h1 := he b rfl
    subst h1
    exact hy.2 _ rfl
theorem s_X12_pair_l54 {G : XG} (C : XC G cX12_pair RX12 (some .int) 7 4 96) {σ : XS} {r0 : Nat} {x1 : Int32} {x2 : Int32} {x3 : Int32} {x4 : Int32} {a : Int32 × Int32} {x : Int32 × XS} (hf : xloop (f_X12_pair_b54 σ r0 x1 x2 x3 x4) a = some x) (hk : XEnd G (some (.int x.1)) x.2) : WW G 54 [(0, .ref (gB G + r0)), (1, .int x1), (2, .int x2), (3, .int x3), (4, .int x4), (5, .int a.1), (6, .int a.2)] [] σ := by
  refine xloop_ind (P := fun a => WW G 54 [(0, .ref (gB G + r0)), (1, .int x1), (2, .int x2), (3, .int x3), (4, .int x4), (5, .int a.1), (6, .int a.2)] [] σ) (fun a y hf hc he => ?_) hf
  obtain ⟨x5, x6⟩ := a
  have hk : (∀ a' : Int32 × Int32, y = .inl a' → WW G 54 [(0, .ref (gB G + r0)), (1, .int x1), (2, .int x2), (3, .int x3), (4, .int x4), (5, .int a'.1), (6, .int a'.2)] [] σ) ∧ (∀ b1 : Int32 × XS, y = .inr b1 → XEnd G (some (.int b1.1)) b1.2) := ⟨hc, fun b e => by have h9 := he b e; subst h9; exact hk⟩
  refine ww_iload (pc := 54) C 6 dX12_pair_54 rfl ?_
  refine ww_aload_n (pc := 56) C 0 dX12_pair_56 rfl ?_
  obtain ⟨_, e1, hf⟩ := xbd hf
  obtain ⟨v3, e2, hf⟩ := xbd hf
  refine ww_callVi (pc := 57) (as := []) (st := [.int x6]) C (k_X12_states (l := gl G) (E := gE G) (hb := gB G) (σ := σ) e2) rfl (by decide) xc_X12_270 q1555 qp141 (xck_spec e1) rfl (by decide) (xst4 (Nat.le_of_ble_eq_true rfl)) xsame.rf.le xsame.rf.lim dX12_pair_57 ?_
  refine ww_icmp_ge (pc := 60) (tgt := 110) C dX12_pair_60 (by decide) (fun q => ?_) (fun q => ?_)
  · have hf := xip q hf
    obtain ⟨b0, hg, e9⟩ := xmj hf
    subst e9
    have hf := hg
    have hk := hk.2 _ rfl
    refine ww_iload (pc := 110) C 5 dX12_pair_110 rfl ?_
    refine ww_aload_n (pc := 112) C 0 dX12_pair_112 rfl ?_
    obtain ⟨z5, e4, hf⟩ := xbd hf
    refine gf_X12_60 (pc := 113) C e4 dX12_pair_113 ?_
    refine ww_sipush (pc := 116) (v := (150 : Int32)) C dX12_pair_116 (by decide) ?_
    refine ww_aload_n (pc := 119) C 0 dX12_pair_119 rfl ?_
    obtain ⟨z7, e6, hf⟩ := xbd hf
    refine gf_X12_63 (pc := 120) C e6 dX12_pair_120 ?_
    refine ww_iload_n (pc := 123) C 3 dX12_pair_123 rfl ?_
    obtain ⟨v9, e8, hf⟩ := xbd hf
    refine ww_iald (pc := 124) C e8 dX12_pair_124 ?_
    refine ww_iadd (pc := 125) C dX12_pair_125 ?_
    obtain ⟨v11, e10, hf⟩ := xbd hf
    refine ww_iald (pc := 126) C e10 dX12_pair_126 ?_
    refine ww_iload (pc := 127) C 4 dX12_pair_127 rfl ?_
    obtain ⟨v13, e12, hf⟩ := xbd hf
    refine ww_callSi (pc := 129) (as := [.int x5, .int v11, .int x4]) (st := []) C (k_X12_part (l := gl G) (E := gE G) (hb := gB G) (σ := σ) e12) xc_X12_308 q1641 rfl (by decide) (xst4 (Nat.le_of_ble_eq_true rfl)) xsame.rf.le xsame.rf.lim dX12_pair_129 ?_
    have hf := xsj hf
    subst hf
    exact ww_iret (pc := 132) C hk dX12_pair_132
  · have hf := xin q hf
    refine ww_aload_n (pc := 63) C 0 dX12_pair_63 rfl ?_
    obtain ⟨z5, e4, hf⟩ := xbd hf
    refine gf_X12_57 (pc := 64) C e4 dX12_pair_64 ?_
    refine ww_iload (pc := 67) C 6 dX12_pair_67 rfl ?_
    obtain ⟨v7, e6, hf⟩ := xbd hf
    refine ww_iald (pc := 69) C e6 dX12_pair_69 ?_
    refine ww_aload_n (pc := 70) C 0 dX12_pair_70 rfl ?_
    obtain ⟨z9, e8, hf⟩ := xbd hf
    refine gf_X12_63 (pc := 71) C e8 dX12_pair_71 ?_
    refine ww_iload_n (pc := 74) C 3 dX12_pair_74 rfl ?_
    obtain ⟨v11, e10, hf⟩ := xbd hf
    refine ww_iald (pc := 75) C e10 dX12_pair_75 ?_
    refine ww_icmp_ne (pc := 76) (tgt := 104) C dX12_pair_76 (by decide) (fun q => ?_) (fun q => ?_)
    · have hf := xin q hf
      refine ww_iinc (pc := 104) (v := x6 + (1 : Int32)) (lv' := [(6, .int (x6 + (1 : Int32))), (0, .ref (gB G + r0)), (1, .int x1), (2, .int x2), (3, .int x3), (4, .int x4), (5, .int x5)]) C 6 dX12_pair_104 rfl (congrArg (fun z => x6 + z) (show Int32.ofInt (1) = (1 : Int32) by decide)) (by decide) rfl ?_
      refine ww_goto (pc := 107) (tgt := 54) C dX12_pair_107 (by decide) ?_
      have hf := xsj hf
      subst hf
      refine ww_sub [1, 2, 3, 4, 5, 6, 0] rfl ?_
      exact hk.1 (x5, x6 + (1 : Int32)) rfl
    · have hf := xip q hf
      refine ww_iload (pc := 79) C 5 dX12_pair_79 rfl ?_
      refine ww_iload (pc := 81) C 6 dX12_pair_81 rfl ?_
      refine ww_iload_n (pc := 83) C 1 dX12_pair_83 rfl ?_
      obtain ⟨v13, e12, hf⟩ := xbd hf
      refine ww_callSi (pc := 84) (as := [.int x6, .int x1]) (st := [.int x5]) C (k_X12_has (l := gl G) (E := gE G) (hb := gB G) (σ := σ) e12) xc_X12_301 q1630 rfl (by decide) (xst4 (Nat.le_of_ble_eq_true rfl)) xsame.rf.le xsame.rf.lim dX12_pair_84 ?_
      refine ww_iload (pc := 87) C 6 dX12_pair_87 rfl ?_
      refine ww_iload_n (pc := 89) C 2 dX12_pair_89 rfl ?_
      obtain ⟨v15, e14, hf⟩ := xbd hf
      refine ww_callSi (pc := 90) (as := [.int x6, .int x2]) (st := [.int v13, .int x5]) C (k_X12_has (l := gl G) (E := gE G) (hb := gB G) (σ := σ) e14) xc_X12_301 q1630 rfl (by decide) (xst4 (Nat.le_of_ble_eq_true rfl)) xsame.rf.le xsame.rf.lim dX12_pair_90 ?_
      refine ww_icmp_ne (pc := 93) (tgt := 100) C dX12_pair_93 (by decide) (fun q => ?_) (fun q => ?_)
      · have hf := xin q hf
        refine ww_iconst (pc := 100) (v := (-1 : Int32)) C dX12_pair_100 (by decide) ?_
        refine ww_iadd (pc := 101) C dX12_pair_101 ?_
        refine ww_istore (pc := 102) (lv' := [(5, .int (x5 + (-1 : Int32))), (0, .ref (gB G + r0)), (1, .int x1), (2, .int x2), (3, .int x3), (4, .int x4), (6, .int x6)]) C dX12_pair_102 (by decide) rfl ?_
        refine ww_iinc (pc := 104) (v := x6 + (1 : Int32)) (lv' := [(6, .int (x6 + (1 : Int32))), (5, .int (x5 + (-1 : Int32))), (0, .ref (gB G + r0)), (1, .int x1), (2, .int x2), (3, .int x3), (4, .int x4)]) C 6 dX12_pair_104 rfl (congrArg (fun z => x6 + z) (show Int32.ofInt (1) = (1 : Int32) by decide)) (by decide) rfl ?_
        refine ww_goto (pc := 107) (tgt := 54) C dX12_pair_107 (by decide) ?_
        have hf := xsj hf
        subst hf
        refine ww_sub [2, 3, 4, 5, 6, 1, 0] rfl ?_
        exact hk.1 (x5 + (-1 : Int32), x6 + (1 : Int32)) rfl
      · have hf := xip q hf
        refine ww_iconst (pc := 96) (v := (1 : Int32)) C dX12_pair_96 (by decide) ?_
        refine ww_goto (pc := 97) (tgt := 101) C dX12_pair_97 (by decide) ?_
        refine ww_iadd (pc := 101) C dX12_pair_101 ?_
        refine ww_istore (pc := 102) (lv' := [(5, .int (x5 + (1 : Int32))), (0, .ref (gB G + r0)), (1, .int x1), (2, .int x2), (3, .int x3), (4, .int x4), (6, .int x6)]) C dX12_pair_102 (by decide) rfl ?_
        refine ww_iinc (pc := 104) (v := x6 + (1 : Int32)) (lv' := [(6, .int (x6 + (1 : Int32))), (5, .int (x5 + (1 : Int32))), (0, .ref (gB G + r0)), (1, .int x1), (2, .int x2), (3, .int x3), (4, .int x4)]) C 6 dX12_pair_104 rfl (congrArg (fun z => x6 + z) (show Int32.ofInt (1) = (1 : Int32) by decide)) (by decide) rfl ?_
        refine ww_goto (pc := 107) (tgt := 54) C dX12_pair_107 (by decide) ?_
        have hf := xsj hf
        subst hf
        refine ww_sub [2, 3, 4, 5, 6, 1, 0] rfl ?_
        exact hk.1 (x5 + (1 : Int32), x6 + (1 : Int32)) rfl
theorem s_X12_pair_e {G : XG} (C : XC G cX12_pair RX12 (some .int) 7 4 96) {σ : XS} {r0 : Nat} {x1 : Int32} {x2 : Int32} {x3 : Int32} {x4 : Int32} {x : Int32 × XS} (hf : f_X12_pair σ r0 x1 x2 x3 x4 = some x) (hk : XEnd G (some (.int x.1)) x.2) : WW G 0 [(0, .ref (gB G + r0)), (1, .int x1), (2, .int x2), (3, .int x3), (4, .int x4)] [] σ := by
  refine ww_aload_n (pc := 0) C 0 dX12_pair_0 rfl ?_
  obtain ⟨_, e1, hf⟩ := xbd hf
  obtain ⟨σ3, e2, hf⟩ := xbd hf
  refine ww_callVv (pc := 1) (as := []) (st := []) C (k_X12_knows (l := gl G) (E := gE G) (hb := gB G) (σ := σ) e2) rfl (by decide) xc_X12_261 q1551 qp140 (xck_spec e1) rfl (by decide) (xst4 (Nat.le_of_ble_eq_true rfl)) (m_X12_knows e2).le (m_X12_knows e2).lim dX12_pair_1 ?_
  refine ww_aload_n (pc := 4) C 0 dX12_pair_4 rfl ?_
  refine ww_iload_n (pc := 5) C 1 dX12_pair_5 rfl ?_
  obtain ⟨_, e4, hf⟩ := xbd hf
  obtain ⟨v6, e5, hf⟩ := xbd hf
  refine ww_callVi (pc := 6) (as := [.int x1]) (st := []) C (k_X12_isSite (l := gl G) (E := gE G) (hb := gB G) (σ := σ3) e5) rfl (by decide) xc_X12_233 q1508 qp137 (xck_spec e4) rfl (by decide) (xst4 (Nat.le_of_ble_eq_true rfl)) xsame.rf.le xsame.rf.lim dX12_pair_6 ?_
  refine ww_if_eq (pc := 9) (tgt := 44) C dX12_pair_9 (by decide) (fun q => ?_) (fun q => ?_)
  · have hf := xip q hf
    refine ww_ldcw (pc := 44) C q1597 dX12_pair_44 ?_
    have hf := xsj hf
    subst hf
    exact ww_iret (pc := 47) C hk dX12_pair_47
  · have hf := xin q hf
    refine ww_aload_n (pc := 12) C 0 dX12_pair_12 rfl ?_
    refine ww_iload_n (pc := 13) C 2 dX12_pair_13 rfl ?_
    obtain ⟨_, e7, hf⟩ := xbd hf
    obtain ⟨v9, e8, hf⟩ := xbd hf
    refine ww_callVi (pc := 14) (as := [.int x2]) (st := []) C (k_X12_isSite (l := gl G) (E := gE G) (hb := gB G) (σ := σ3) e8) rfl (by decide) xc_X12_233 q1508 qp137 (xck_spec e7) rfl (by decide) (xst4 (Nat.le_of_ble_eq_true rfl)) xsame.rf.le xsame.rf.lim dX12_pair_14 ?_
    refine ww_if_eq (pc := 17) (tgt := 44) C dX12_pair_17 (by decide) (fun q => ?_) (fun q => ?_)
    · have hf := xip q hf
      refine ww_ldcw (pc := 44) C q1597 dX12_pair_44 ?_
      have hf := xsj hf
      subst hf
      exact ww_iret (pc := 47) C hk dX12_pair_47
    · have hf := xin q hf
      refine ww_iload_n (pc := 20) C 3 dX12_pair_20 rfl ?_
      refine ww_iconst (pc := 21) (v := (0 : Int32)) C dX12_pair_21 (by decide) ?_
      refine ww_aload_n (pc := 22) C 0 dX12_pair_22 rfl ?_
      obtain ⟨v11, e10, hf⟩ := xbd hf
      refine gf_X12_285 (pc := 23) C e10 dX12_pair_23 ?_
      refine ww_iconst (pc := 26) (v := (1 : Int32)) C dX12_pair_26 (by decide) ?_
      refine ww_isub (pc := 27) C dX12_pair_27 ?_
      obtain ⟨v13, e12, hf⟩ := xbd hf
      refine ww_callSi (pc := 28) (as := [.int x3, .int (0 : Int32), .int (v11 - (1 : Int32))]) (st := []) C (k_X12_in (l := gl G) (E := gE G) (hb := gB G) (σ := σ3) e12) xc_X12_213 q1473 rfl (by decide) (xst4 (Nat.le_of_ble_eq_true rfl)) xsame.rf.le xsame.rf.lim dX12_pair_28 ?_
      refine ww_if_eq (pc := 31) (tgt := 44) C dX12_pair_31 (by decide) (fun q => ?_) (fun q => ?_)
      · have hf := xip q hf
        refine ww_ldcw (pc := 44) C q1597 dX12_pair_44 ?_
        have hf := xsj hf
        subst hf
        exact ww_iret (pc := 47) C hk dX12_pair_47
      · have hf := xin q hf
        refine ww_iload (pc := 34) C 4 dX12_pair_34 rfl ?_
        refine ww_iconst (pc := 36) (v := (0 : Int32)) C dX12_pair_36 (by decide) ?_
        refine ww_iconst (pc := 37) (v := (1 : Int32)) C dX12_pair_37 (by decide) ?_
        obtain ⟨v15, e14, hf⟩ := xbd hf
        refine ww_callSi (pc := 38) (as := [.int x4, .int (0 : Int32), .int (1 : Int32)]) (st := []) C (k_X12_in (l := gl G) (E := gE G) (hb := gB G) (σ := σ3) e14) xc_X12_213 q1473 rfl (by decide) (xst4 (Nat.le_of_ble_eq_true rfl)) xsame.rf.le xsame.rf.lim dX12_pair_38 ?_
        refine ww_if_ne (pc := 41) (tgt := 48) C dX12_pair_41 (by decide) (fun q => ?_) (fun q => ?_)
        · have hf := xin q hf
          refine ww_iconst (pc := 48) (v := (0 : Int32)) C dX12_pair_48 (by decide) ?_
          refine ww_istore (pc := 49) (lv' := [(5, .int (0 : Int32)), (0, .ref (gB G + r0)), (1, .int x1), (2, .int x2), (3, .int x3), (4, .int x4)]) C dX12_pair_49 (by decide) rfl ?_
          refine ww_iconst (pc := 51) (v := (0 : Int32)) C dX12_pair_51 (by decide) ?_
          refine ww_istore (pc := 52) (lv' := [(6, .int (0 : Int32)), (5, .int (0 : Int32)), (0, .ref (gB G + r0)), (1, .int x1), (2, .int x2), (3, .int x3), (4, .int x4)]) C dX12_pair_52 (by decide) rfl ?_
          refine ww_sub [2, 3, 4, 5, 6, 1, 0] rfl ?_
          exact s_X12_pair_l54 C (a := ((0 : Int32), (0 : Int32))) hf hk
        · have hf := xip q hf
          refine ww_ldcw (pc := 44) C q1597 dX12_pair_44 ?_
          have hf := xsj hf
          subst hf
          exact ww_iret (pc := 47) C hk dX12_pair_47
theorem m_X12_pair {σ : XS} {r0 : Nat} {x1 : Int32} {x2 : Int32} {x3 : Int32} {x4 : Int32} {x : Int32 × XS} (hf : f_X12_pair σ r0 x1 x2 x3 x4 = some x) : xsame σ x.2 := by
  have hm := xsame.rf (σ := σ)
  obtain ⟨_, e1, hf⟩ := xbd hf
  obtain ⟨σ3, e2, hf⟩ := xbd hf
  have hm := hm.tr (m_X12_knows e2)
  obtain ⟨_, e4, hf⟩ := xbd hf
  obtain ⟨v6, e5, hf⟩ := xbd hf
  by_cases q : v6 = 0
  · have hf := xip q hf
    have hf := xsj hf
    subst hf
    exact hm
  · have hf := xin q hf
    obtain ⟨_, e7, hf⟩ := xbd hf
    obtain ⟨v9, e8, hf⟩ := xbd hf
    by_cases q : v9 = 0
    · have hf := xip q hf
      have hf := xsj hf
      subst hf
      exact hm
    · have hf := xin q hf
      obtain ⟨v11, e10, hf⟩ := xbd hf
      obtain ⟨v13, e12, hf⟩ := xbd hf
      by_cases q : v13 = 0
      · have hf := xip q hf
        have hf := xsj hf
        subst hf
        exact hm
      · have hf := xin q hf
        obtain ⟨v15, e14, hf⟩ := xbd hf
        by_cases q : v15 = 0
        · have hf := xip q hf
          have hf := xsj hf
          subst hf
          exact hm
        · have hf := xin q hf
          exact hm.tr (m_X12_pair_l54 (a := ((0 : Int32), (0 : Int32))) hf)
theorem k_X12_pair {l : Launch} {E : XD} {hb : Nat} {σ : XS} {r0 : Nat} {x1 : Int32} {x2 : Int32} {x3 : Int32} {x4 : Int32} {x : Int32 × XS} (h : f_X12_pair σ r0 x1 x2 x3 x4 = some x) : XM l yX12_pair cX12_pair 7 (some .int) 4 96 E hb [.ref (hb + r0), .int x1, .int x2, .int x3, .int x4] σ (some (.int x.1)) x.2 := by
  refine xm_of (by decide) (Nat.le_of_ble_eq_true rfl) (m_X12_pair h).le (fun G hG C hl hQ => ?_)
  obtain ⟨rfl, rfl, rfl, hN⟩ := hG
  exact s_X12_pair_e C h hQ
noncomputable def f_X12_pass_b35 (r0 : Nat) (x1 : Int32) (x2 : Int32) : Int32 × XS → Option ((Int32 × XS) ⊕ (Int32 × XS)) := fun a => match a with
  | (x3, σ) => (xck σ r0 12).bind fun _ => (f_X12_states σ r0).bind fun v3 => if v3 ≤ x3 then (((xck σ r0 12).bind fun _ => (f_X12_laysHills σ r0).bind fun σ6 => (xgR σ6 r0 12 40).bind fun z8 => (xaI σ6 20 z8 x1).bind fun v10 => some (v10, σ6)).map .inr) else (xgR σ r0 12 40).bind fun z5 => if x3 = x2 then ((xgR σ r0 12 33).bind fun z7 => (xaI σ 20 z7 x3).bind fun v9 => (xsI σ 20 z5 x3 v9).bind fun σ11 => some (.inl (x3 + (1 : Int32), σ11))) else (xsI σ 20 z5 x3 (100000 : Int32)).bind fun σ7 => some (.inl (x3 + (1 : Int32), σ7))
noncomputable def f_X12_pass (σ : XS) (r0 : Nat) (x1 : Int32) (x2 : Int32) : Option (Int32 × XS) := (xck σ r0 12).bind fun _ => (f_X12_isLawful σ r0 x1).bind fun v3 => if v3 = 0 then (some ((-100000 : Int32), σ)) else (xck σ r0 12).bind fun _ => (f_X12_isLawful σ r0 x2).bind fun v6 => if v6 = 0 then (some ((-100000 : Int32), σ)) else (xck σ r0 12).bind fun _ => (f_X12_sites σ r0).bind fun v9 => if v9 ≤ (10 : Int32) then ((xck σ r0 12).bind fun _ => (f_X12_knows σ r0).bind fun σ12 => xloop (f_X12_pass_b35 r0 x1 x2) ((0 : Int32), σ12)) else some ((-100000 : Int32), σ)
theorem m_X12_pass_l35 {r0 : Nat} {x1 : Int32} {x2 : Int32} {a : Int32 × XS} {x : Int32 × XS} (hf : xloop (f_X12_pass_b35 r0 x1 x2) a = some x) : xsame a.2 x.2 := by
  refine xloop_ind (P := fun a => xsame a.2 x.2) (fun a y hf hc he => ?_) hf
  obtain ⟨x3, σ⟩ := a
  have hy : (∀ a' : Int32 × XS, y = .inl a' → xsame σ a'.2) ∧ (∀ b1 : Int32 × XS, y = .inr b1 → xsame σ b1.2) := by
    have hm := xsame.rf (σ := σ)
    obtain ⟨_, e1, hf⟩ := xbd hf
    obtain ⟨v3, e2, hf⟩ := xbd hf
    by_cases q : v3 ≤ x3
    · have hf := xip q hf
      obtain ⟨b0, hg, e9⟩ := xmj hf
      subst e9
      have hf := hg
      refine ⟨fun a' e => xnc2 e, fun b e => ?_⟩
      have h9 := Sum.inr.inj e
      subst h9
      obtain ⟨_, e4, hf⟩ := xbd hf
      obtain ⟨σ6, e5, hf⟩ := xbd hf
      have hm := hm.tr (m_X12_laysHills e5)
      obtain ⟨z8, e7, hf⟩ := xbd hf
      obtain ⟨v10, e9, hf⟩ := xbd hf
      have hf := xsj hf
      subst hf
      exact hm
    · have hf := xin q hf
      obtain ⟨z5, e4, hf⟩ := xbd hf
      by_cases q : x3 = x2
      · have hf := xip q hf
        obtain ⟨z7, e6, hf⟩ := xbd hf
        obtain ⟨v9, e8, hf⟩ := xbd hf
        obtain ⟨σ11, e10, hf⟩ := xbd hf
        have hm := hm.tr (xsI_same e10)
        have hf := xsj hf
        subst hf
        exact ⟨fun a' e => (by have h9 := Sum.inl.inj e; subst h9; exact hm), fun b e => xnc1 e⟩
      · have hf := xin q hf
        obtain ⟨σ7, e6, hf⟩ := xbd hf
        have hm := hm.tr (xsI_same e6)
        have hf := xsj hf
        subst hf
        exact ⟨fun a' e => (by have h9 := Sum.inl.inj e; subst h9; exact hm), fun b e => xnc1 e⟩
  cases y with
  | inl a' =>
    have h1 := hc a' rfl
    have hm := hy.1 a' rfl
    exact hm.tr (h1)
  | inr b =>
    have h1 := he b rfl
    subst h1
    exact hy.2 _ rfl
theorem s_X12_pass_l35 {G : XG} (C : XC G cX12_pass RX12 (some .int) 4 4 96) {r0 : Nat} {x1 : Int32} {x2 : Int32} {a : Int32 × XS} {x : Int32 × XS} (hf : xloop (f_X12_pass_b35 r0 x1 x2) a = some x) (hk : XEnd G (some (.int x.1)) x.2) : WW G 35 [(0, .ref (gB G + r0)), (1, .int x1), (2, .int x2), (3, .int a.1)] [] a.2 := by
  refine xloop_ind (P := fun a => WW G 35 [(0, .ref (gB G + r0)), (1, .int x1), (2, .int x2), (3, .int a.1)] [] a.2) (fun a y hf hc he => ?_) hf
  obtain ⟨x3, σ⟩ := a
  have hk : (∀ a' : Int32 × XS, y = .inl a' → WW G 35 [(0, .ref (gB G + r0)), (1, .int x1), (2, .int x2), (3, .int a'.1)] [] a'.2) ∧ (∀ b1 : Int32 × XS, y = .inr b1 → XEnd G (some (.int b1.1)) b1.2) := ⟨hc, fun b e => by have h9 := he b e; subst h9; exact hk⟩
  refine ww_iload_n (pc := 35) C 3 dX12_pass_35 rfl ?_
  refine ww_aload_n (pc := 36) C 0 dX12_pass_36 rfl ?_
  obtain ⟨_, e1, hf⟩ := xbd hf
  obtain ⟨v3, e2, hf⟩ := xbd hf
  refine ww_callVi (pc := 37) (as := []) (st := [.int x3]) C (k_X12_states (l := gl G) (E := gE G) (hb := gB G) (σ := σ) e2) rfl (by decide) xc_X12_270 q1555 qp141 (xck_spec e1) rfl (by decide) (xst4 (Nat.le_of_ble_eq_true rfl)) xsame.rf.le xsame.rf.lim dX12_pass_37 ?_
  refine ww_icmp_ge (pc := 40) (tgt := 72) C dX12_pass_40 (by decide) (fun q => ?_) (fun q => ?_)
  · have hf := xip q hf
    obtain ⟨b0, hg, e9⟩ := xmj hf
    subst e9
    have hf := hg
    have hk := hk.2 _ rfl
    refine ww_aload_n (pc := 72) C 0 dX12_pass_72 rfl ?_
    obtain ⟨_, e4, hf⟩ := xbd hf
    obtain ⟨σ6, e5, hf⟩ := xbd hf
    refine ww_callVv (pc := 73) (as := []) (st := []) C (k_X12_laysHills (l := gl G) (E := gE G) (hb := gB G) (σ := σ) e5) rfl (by decide) xc_X12_327 q1684 qp153 (xck_spec e4) rfl (by decide) (xst4 (Nat.le_of_ble_eq_true rfl)) (m_X12_laysHills e5).le (m_X12_laysHills e5).lim dX12_pass_73 ?_
    refine ww_aload_n (pc := 76) C 0 dX12_pass_76 rfl ?_
    obtain ⟨z8, e7, hf⟩ := xbd hf
    refine gf_X12_75 (pc := 77) C e7 dX12_pass_77 ?_
    refine ww_iload_n (pc := 80) C 1 dX12_pass_80 rfl ?_
    obtain ⟨v10, e9, hf⟩ := xbd hf
    refine ww_iald (pc := 81) C e9 dX12_pass_81 ?_
    have hf := xsj hf
    subst hf
    exact ww_iret (pc := 82) C hk dX12_pass_82
  · have hf := xin q hf
    refine ww_aload_n (pc := 43) C 0 dX12_pass_43 rfl ?_
    obtain ⟨z5, e4, hf⟩ := xbd hf
    refine gf_X12_75 (pc := 44) C e4 dX12_pass_44 ?_
    refine ww_iload_n (pc := 47) C 3 dX12_pass_47 rfl ?_
    refine ww_iload_n (pc := 48) C 3 dX12_pass_48 rfl ?_
    refine ww_iload_n (pc := 49) C 2 dX12_pass_49 rfl ?_
    refine ww_icmp_ne (pc := 50) (tgt := 62) C dX12_pass_50 (by decide) (fun q => ?_) (fun q => ?_)
    · have hf := xin q hf
      refine ww_ldcw (pc := 62) C q1568 dX12_pass_62 ?_
      obtain ⟨σ7, e6, hf⟩ := xbd hf
      refine ww_iast (pc := 65) C e6 dX12_pass_65 ?_
      refine ww_iinc (pc := 66) (v := x3 + (1 : Int32)) (lv' := [(3, .int (x3 + (1 : Int32))), (0, .ref (gB G + r0)), (1, .int x1), (2, .int x2)]) C 3 dX12_pass_66 rfl (congrArg (fun z => x3 + z) (show Int32.ofInt (1) = (1 : Int32) by decide)) (by decide) rfl ?_
      refine ww_goto (pc := 69) (tgt := 35) C dX12_pass_69 (by decide) ?_
      have hf := xsj hf
      subst hf
      refine ww_sub [1, 2, 3, 0] rfl ?_
      exact hk.1 (x3 + (1 : Int32), σ7) rfl
    · have hf := xip q hf
      refine ww_aload_n (pc := 53) C 0 dX12_pass_53 rfl ?_
      obtain ⟨z7, e6, hf⟩ := xbd hf
      refine gf_X12_57 (pc := 54) C e6 dX12_pass_54 ?_
      refine ww_iload_n (pc := 57) C 3 dX12_pass_57 rfl ?_
      obtain ⟨v9, e8, hf⟩ := xbd hf
      refine ww_iald (pc := 58) C e8 dX12_pass_58 ?_
      refine ww_goto (pc := 59) (tgt := 65) C dX12_pass_59 (by decide) ?_
      obtain ⟨σ11, e10, hf⟩ := xbd hf
      refine ww_iast (pc := 65) C e10 dX12_pass_65 ?_
      refine ww_iinc (pc := 66) (v := x3 + (1 : Int32)) (lv' := [(3, .int (x3 + (1 : Int32))), (0, .ref (gB G + r0)), (1, .int x1), (2, .int x2)]) C 3 dX12_pass_66 rfl (congrArg (fun z => x3 + z) (show Int32.ofInt (1) = (1 : Int32) by decide)) (by decide) rfl ?_
      refine ww_goto (pc := 69) (tgt := 35) C dX12_pass_69 (by decide) ?_
      have hf := xsj hf
      subst hf
      refine ww_sub [1, 2, 3, 0] rfl ?_
      exact hk.1 (x3 + (1 : Int32), σ11) rfl
theorem s_X12_pass_e {G : XG} (C : XC G cX12_pass RX12 (some .int) 4 4 96) {σ : XS} {r0 : Nat} {x1 : Int32} {x2 : Int32} {x : Int32 × XS} (hf : f_X12_pass σ r0 x1 x2 = some x) (hk : XEnd G (some (.int x.1)) x.2) : WW G 0 [(0, .ref (gB G + r0)), (1, .int x1), (2, .int x2)] [] σ := by
  refine ww_aload_n (pc := 0) C 0 dX12_pass_0 rfl ?_
  refine ww_iload_n (pc := 1) C 1 dX12_pass_1 rfl ?_
  obtain ⟨_, e1, hf⟩ := xbd hf
  obtain ⟨v3, e2, hf⟩ := xbd hf
  refine ww_callVi (pc := 2) (as := [.int x1]) (st := []) C (k_X12_isLawful (l := gl G) (E := gE G) (hb := gB G) (σ := σ) e2) rfl (by decide) xc_X12_281 q1559 qp142 (xck_spec e1) rfl (by decide) (xst4 (Nat.le_of_ble_eq_true rfl)) xsame.rf.le xsame.rf.lim dX12_pass_2 ?_
  refine ww_if_eq (pc := 5) (tgt := 25) C dX12_pass_5 (by decide) (fun q => ?_) (fun q => ?_)
  · have hf := xip q hf
    refine ww_ldcw (pc := 25) C q1597 dX12_pass_25 ?_
    have hf := xsj hf
    subst hf
    exact ww_iret (pc := 28) C hk dX12_pass_28
  · have hf := xin q hf
    refine ww_aload_n (pc := 8) C 0 dX12_pass_8 rfl ?_
    refine ww_iload_n (pc := 9) C 2 dX12_pass_9 rfl ?_
    obtain ⟨_, e4, hf⟩ := xbd hf
    obtain ⟨v6, e5, hf⟩ := xbd hf
    refine ww_callVi (pc := 10) (as := [.int x2]) (st := []) C (k_X12_isLawful (l := gl G) (E := gE G) (hb := gB G) (σ := σ) e5) rfl (by decide) xc_X12_281 q1559 qp142 (xck_spec e4) rfl (by decide) (xst4 (Nat.le_of_ble_eq_true rfl)) xsame.rf.le xsame.rf.lim dX12_pass_10 ?_
    refine ww_if_eq (pc := 13) (tgt := 25) C dX12_pass_13 (by decide) (fun q => ?_) (fun q => ?_)
    · have hf := xip q hf
      refine ww_ldcw (pc := 25) C q1597 dX12_pass_25 ?_
      have hf := xsj hf
      subst hf
      exact ww_iret (pc := 28) C hk dX12_pass_28
    · have hf := xin q hf
      refine ww_aload_n (pc := 16) C 0 dX12_pass_16 rfl ?_
      obtain ⟨_, e7, hf⟩ := xbd hf
      obtain ⟨v9, e8, hf⟩ := xbd hf
      refine ww_callVi (pc := 17) (as := []) (st := []) C (k_X12_sites (l := gl G) (E := gE G) (hb := gB G) (σ := σ) e8) rfl (by decide) xc_X12_193 q1496 qp136 (xck_spec e7) rfl (by decide) (xst4 (Nat.le_of_ble_eq_true rfl)) xsame.rf.le xsame.rf.lim dX12_pass_17 ?_
      refine ww_bipush (pc := 20) (v := (10 : Int32)) C dX12_pass_20 (by decide) ?_
      refine ww_icmp_le (pc := 22) (tgt := 29) C dX12_pass_22 (by decide) (fun q => ?_) (fun q => ?_)
      · have hf := xip q hf
        refine ww_aload_n (pc := 29) C 0 dX12_pass_29 rfl ?_
        obtain ⟨_, e10, hf⟩ := xbd hf
        obtain ⟨σ12, e11, hf⟩ := xbd hf
        refine ww_callVv (pc := 30) (as := []) (st := []) C (k_X12_knows (l := gl G) (E := gE G) (hb := gB G) (σ := σ) e11) rfl (by decide) xc_X12_261 q1551 qp140 (xck_spec e10) rfl (by decide) (xst4 (Nat.le_of_ble_eq_true rfl)) (m_X12_knows e11).le (m_X12_knows e11).lim dX12_pass_30 ?_
        refine ww_iconst (pc := 33) (v := (0 : Int32)) C dX12_pass_33 (by decide) ?_
        refine ww_istore_n (pc := 34) (lv' := [(3, .int (0 : Int32)), (0, .ref (gB G + r0)), (1, .int x1), (2, .int x2)]) C dX12_pass_34 (by decide) rfl ?_
        refine ww_sub [1, 2, 3, 0] rfl ?_
        exact s_X12_pass_l35 C (a := ((0 : Int32), σ12)) hf hk
      · have hf := xin q hf
        refine ww_ldcw (pc := 25) C q1597 dX12_pass_25 ?_
        have hf := xsj hf
        subst hf
        exact ww_iret (pc := 28) C hk dX12_pass_28
theorem m_X12_pass {σ : XS} {r0 : Nat} {x1 : Int32} {x2 : Int32} {x : Int32 × XS} (hf : f_X12_pass σ r0 x1 x2 = some x) : xsame σ x.2 := by
  have hm := xsame.rf (σ := σ)
  obtain ⟨_, e1, hf⟩ := xbd hf
  obtain ⟨v3, e2, hf⟩ := xbd hf
  by_cases q : v3 = 0
  · have hf := xip q hf
    have hf := xsj hf
    subst hf
    exact hm
  · have hf := xin q hf
    obtain ⟨_, e4, hf⟩ := xbd hf
    obtain ⟨v6, e5, hf⟩ := xbd hf
    by_cases q : v6 = 0
    · have hf := xip q hf
      have hf := xsj hf
      subst hf
      exact hm
    · have hf := xin q hf
      obtain ⟨_, e7, hf⟩ := xbd hf
      obtain ⟨v9, e8, hf⟩ := xbd hf
      by_cases q : v9 ≤ (10 : Int32)
      · have hf := xip q hf
        obtain ⟨_, e10, hf⟩ := xbd hf
        obtain ⟨σ12, e11, hf⟩ := xbd hf
        have hm := hm.tr (m_X12_knows e11)
        exact hm.tr (m_X12_pass_l35 (a := ((0 : Int32), σ12)) hf)
      · have hf := xin q hf
        have hf := xsj hf
        subst hf
        exact hm
theorem k_X12_pass {l : Launch} {E : XD} {hb : Nat} {σ : XS} {r0 : Nat} {x1 : Int32} {x2 : Int32} {x : Int32 × XS} (h : f_X12_pass σ r0 x1 x2 = some x) : XM l yX12_pass cX12_pass 4 (some .int) 4 96 E hb [.ref (hb + r0), .int x1, .int x2] σ (some (.int x.1)) x.2 := by
  refine xm_of (by decide) (Nat.le_of_ble_eq_true rfl) (m_X12_pass h).le (fun G hG C hl hQ => ?_)
  obtain ⟨rfl, rfl, rfl, hN⟩ := hG
  exact s_X12_pass_e C h hQ
noncomputable def f_X12_pin_j64 (σ : XS) (r0 : Nat) (x1 : Int32) (x2 : Int32) : Option (Int32 × XS) := if x2 = (2 : Int32) then ((xgR σ r0 12 21).bind fun z2 => (xaI σ 20 z2 (64 : Int32)).bind fun v4 => (xsI σ 20 z2 (64 : Int32) (v4 &&& (((1 : Int32) <<< (x1 &&& 31)) ^^^ (-1 : Int32)))).bind fun σ6 => (xpI σ6 r0 12 32 (0 : Int32)).bind fun σ8 => some ((1 : Int32), σ8)) else (xpI σ r0 12 32 (0 : Int32)).bind fun σ2 => some ((1 : Int32), σ2)
noncomputable def f_X12_pin (σ : XS) (r0 : Nat) (x1 : Int32) (x2 : Int32) : Option (Int32 × XS) := (xck σ r0 12).bind fun _ => (f_X12_isSite σ r0 x1).bind fun v3 => if v3 = 0 then (some ((0 : Int32), σ)) else (f_X12_in x2 (0 : Int32) (2 : Int32)).bind fun v5 => if v5 = 0 then (some ((0 : Int32), σ)) else (xgR σ r0 12 21).bind fun z7 => (xaI σ 20 z7 ((48 : Int32) + x1)).bind fun v9 => if v9 = x2 then (some ((0 : Int32), σ)) else (xck σ r0 12).bind fun _ => (f_X12_marks σ r0).bind fun σ12 => (xgR σ12 r0 12 21).bind fun z14 => (xsI σ12 20 z14 ((48 : Int32) + x1) x2).bind fun σ16 => if x2 = (1 : Int32) then ((xgR σ16 r0 12 21).bind fun z18 => (xaI σ16 20 z18 (64 : Int32)).bind fun v20 => (xsI σ16 20 z18 (64 : Int32) (v20 ||| ((1 : Int32) <<< (x1 &&& 31)))).bind fun σ22 => f_X12_pin_j64 σ22 r0 x1 x2) else f_X12_pin_j64 σ16 r0 x1 x2
theorem s_X12_pin_j64 {G : XG} (C : XC G cX12_pin RX12 (some .boolean) 3 2 43) {σ : XS} {r0 : Nat} {x1 : Int32} {x2 : Int32} {x : Int32 × XS} (hf : f_X12_pin_j64 σ r0 x1 x2 = some x) (hk : XEnd G (some (.int x.1)) x.2) : WW G 64 [(0, .ref (gB G + r0)), (1, .int x1), (2, .int x2)] [] σ := by
  refine ww_iload_n (pc := 64) C 2 dX12_pin_64 rfl ?_
  refine ww_iconst (pc := 65) (v := (2 : Int32)) C dX12_pin_65 (by decide) ?_
  refine ww_icmp_ne (pc := 66) (tgt := 84) C dX12_pin_66 (by decide) (fun q => ?_) (fun q => ?_)
  · have hf := xin q hf
    refine ww_aload_n (pc := 84) C 0 dX12_pin_84 rfl ?_
    refine ww_iconst (pc := 85) (v := (0 : Int32)) C dX12_pin_85 (by decide) ?_
    obtain ⟨σ2, e1, hf⟩ := xbd hf
    refine pf_X12_200 (pc := 86) C (Or.inl rfl) e1 dX12_pin_86 ?_
    refine ww_iconst (pc := 89) (v := (1 : Int32)) C dX12_pin_89 (by decide) ?_
    have hf := xsj hf
    subst hf
    exact ww_zret (pc := 90) C rfl hk dX12_pin_90
  · have hf := xip q hf
    refine ww_aload_n (pc := 69) C 0 dX12_pin_69 rfl ?_
    obtain ⟨z2, e1, hf⟩ := xbd hf
    refine gf_X12_40 (pc := 70) C e1 dX12_pin_70 ?_
    refine ww_bipush (pc := 73) (v := (64 : Int32)) C dX12_pin_73 (by decide) ?_
    refine ww_dup2 (pc := 75) C dX12_pin_75 rfl rfl ?_
    obtain ⟨v4, e3, hf⟩ := xbd hf
    refine ww_iald (pc := 76) C e3 dX12_pin_76 ?_
    refine ww_iconst (pc := 77) (v := (1 : Int32)) C dX12_pin_77 (by decide) ?_
    refine ww_iload_n (pc := 78) C 1 dX12_pin_78 rfl ?_
    refine ww_ishl (pc := 79) C dX12_pin_79 ?_
    refine ww_iconst (pc := 80) (v := (-1 : Int32)) C dX12_pin_80 (by decide) ?_
    refine ww_ixor (pc := 81) C dX12_pin_81 ?_
    refine ww_iand (pc := 82) C dX12_pin_82 ?_
    obtain ⟨σ6, e5, hf⟩ := xbd hf
    refine ww_iast (pc := 83) C e5 dX12_pin_83 ?_
    refine ww_aload_n (pc := 84) C 0 dX12_pin_84 rfl ?_
    refine ww_iconst (pc := 85) (v := (0 : Int32)) C dX12_pin_85 (by decide) ?_
    obtain ⟨σ8, e7, hf⟩ := xbd hf
    refine pf_X12_200 (pc := 86) C (Or.inl rfl) e7 dX12_pin_86 ?_
    refine ww_iconst (pc := 89) (v := (1 : Int32)) C dX12_pin_89 (by decide) ?_
    have hf := xsj hf
    subst hf
    exact ww_zret (pc := 90) C rfl hk dX12_pin_90
theorem m_X12_pin_j64 {σ : XS} {r0 : Nat} {x1 : Int32} {x2 : Int32} {x : Int32 × XS} (hf : f_X12_pin_j64 σ r0 x1 x2 = some x) : xsame σ x.2 := by
  have hm := xsame.rf (σ := σ)
  by_cases q : x2 = (2 : Int32)
  · have hf := xip q hf
    obtain ⟨z2, e1, hf⟩ := xbd hf
    obtain ⟨v4, e3, hf⟩ := xbd hf
    obtain ⟨σ6, e5, hf⟩ := xbd hf
    have hm := hm.tr (xsI_same e5)
    obtain ⟨σ8, e7, hf⟩ := xbd hf
    have hm := hm.tr (xpI_same e7)
    have hf := xsj hf
    subst hf
    exact hm
  · have hf := xin q hf
    obtain ⟨σ2, e1, hf⟩ := xbd hf
    have hm := hm.tr (xpI_same e1)
    have hf := xsj hf
    subst hf
    exact hm
theorem s_X12_pin_e {G : XG} (C : XC G cX12_pin RX12 (some .boolean) 3 2 43) {σ : XS} {r0 : Nat} {x1 : Int32} {x2 : Int32} {x : Int32 × XS} (hf : f_X12_pin σ r0 x1 x2 = some x) (hk : XEnd G (some (.int x.1)) x.2) : WW G 0 [(0, .ref (gB G + r0)), (1, .int x1), (2, .int x2)] [] σ := by
  refine ww_aload_n (pc := 0) C 0 dX12_pin_0 rfl ?_
  refine ww_iload_n (pc := 1) C 1 dX12_pin_1 rfl ?_
  obtain ⟨_, e1, hf⟩ := xbd hf
  obtain ⟨v3, e2, hf⟩ := xbd hf
  refine ww_callVi (pc := 2) (as := [.int x1]) (st := []) C (k_X12_isSite (l := gl G) (E := gE G) (hb := gB G) (σ := σ) e2) rfl (by decide) xc_X12_233 q1508 qp137 (xck_spec e1) rfl (by decide) (xst4 (Nat.le_of_ble_eq_true rfl)) xsame.rf.le xsame.rf.lim dX12_pin_2 ?_
  refine ww_if_eq (pc := 5) (tgt := 30) C dX12_pin_5 (by decide) (fun q => ?_) (fun q => ?_)
  · have hf := xip q hf
    refine ww_iconst (pc := 30) (v := (0 : Int32)) C dX12_pin_30 (by decide) ?_
    have hf := xsj hf
    subst hf
    exact ww_zret (pc := 31) C rfl hk dX12_pin_31
  · have hf := xin q hf
    refine ww_iload_n (pc := 8) C 2 dX12_pin_8 rfl ?_
    refine ww_iconst (pc := 9) (v := (0 : Int32)) C dX12_pin_9 (by decide) ?_
    refine ww_iconst (pc := 10) (v := (2 : Int32)) C dX12_pin_10 (by decide) ?_
    obtain ⟨v5, e4, hf⟩ := xbd hf
    refine ww_callSi (pc := 11) (as := [.int x2, .int (0 : Int32), .int (2 : Int32)]) (st := []) C (k_X12_in (l := gl G) (E := gE G) (hb := gB G) (σ := σ) e4) xc_X12_213 q1473 rfl (by decide) (xst4 (Nat.le_of_ble_eq_true rfl)) xsame.rf.le xsame.rf.lim dX12_pin_11 ?_
    refine ww_if_eq (pc := 14) (tgt := 30) C dX12_pin_14 (by decide) (fun q => ?_) (fun q => ?_)
    · have hf := xip q hf
      refine ww_iconst (pc := 30) (v := (0 : Int32)) C dX12_pin_30 (by decide) ?_
      have hf := xsj hf
      subst hf
      exact ww_zret (pc := 31) C rfl hk dX12_pin_31
    · have hf := xin q hf
      refine ww_aload_n (pc := 17) C 0 dX12_pin_17 rfl ?_
      obtain ⟨z7, e6, hf⟩ := xbd hf
      refine gf_X12_40 (pc := 18) C e6 dX12_pin_18 ?_
      refine ww_bipush (pc := 21) (v := (48 : Int32)) C dX12_pin_21 (by decide) ?_
      refine ww_iload_n (pc := 23) C 1 dX12_pin_23 rfl ?_
      refine ww_iadd (pc := 24) C dX12_pin_24 ?_
      obtain ⟨v9, e8, hf⟩ := xbd hf
      refine ww_iald (pc := 25) C e8 dX12_pin_25 ?_
      refine ww_iload_n (pc := 26) C 2 dX12_pin_26 rfl ?_
      refine ww_icmp_ne (pc := 27) (tgt := 32) C dX12_pin_27 (by decide) (fun q => ?_) (fun q => ?_)
      · have hf := xin q hf
        refine ww_aload_n (pc := 32) C 0 dX12_pin_32 rfl ?_
        obtain ⟨_, e10, hf⟩ := xbd hf
        obtain ⟨σ12, e11, hf⟩ := xbd hf
        refine ww_callVv (pc := 33) (as := []) (st := []) C (k_X12_marks (l := gl G) (E := gE G) (hb := gB G) (σ := σ) e11) rfl (by decide) xc_X12_244 q1519 qp139 (xck_spec e10) rfl (by decide) (xst4 (Nat.le_of_ble_eq_true rfl)) (m_X12_marks e11).le (m_X12_marks e11).lim dX12_pin_33 ?_
        refine ww_aload_n (pc := 36) C 0 dX12_pin_36 rfl ?_
        obtain ⟨z14, e13, hf⟩ := xbd hf
        refine gf_X12_40 (pc := 37) C e13 dX12_pin_37 ?_
        refine ww_bipush (pc := 40) (v := (48 : Int32)) C dX12_pin_40 (by decide) ?_
        refine ww_iload_n (pc := 42) C 1 dX12_pin_42 rfl ?_
        refine ww_iadd (pc := 43) C dX12_pin_43 ?_
        refine ww_iload_n (pc := 44) C 2 dX12_pin_44 rfl ?_
        obtain ⟨σ16, e15, hf⟩ := xbd hf
        refine ww_iast (pc := 45) C e15 dX12_pin_45 ?_
        refine ww_iload_n (pc := 46) C 2 dX12_pin_46 rfl ?_
        refine ww_iconst (pc := 47) (v := (1 : Int32)) C dX12_pin_47 (by decide) ?_
        refine ww_icmp_ne (pc := 48) (tgt := 64) C dX12_pin_48 (by decide) (fun q => ?_) (fun q => ?_)
        · have hf := xin q hf
          refine ww_sub [0, 1, 2] rfl ?_
          exact s_X12_pin_j64 C hf hk
        · have hf := xip q hf
          refine ww_aload_n (pc := 51) C 0 dX12_pin_51 rfl ?_
          obtain ⟨z18, e17, hf⟩ := xbd hf
          refine gf_X12_40 (pc := 52) C e17 dX12_pin_52 ?_
          refine ww_bipush (pc := 55) (v := (64 : Int32)) C dX12_pin_55 (by decide) ?_
          refine ww_dup2 (pc := 57) C dX12_pin_57 rfl rfl ?_
          obtain ⟨v20, e19, hf⟩ := xbd hf
          refine ww_iald (pc := 58) C e19 dX12_pin_58 ?_
          refine ww_iconst (pc := 59) (v := (1 : Int32)) C dX12_pin_59 (by decide) ?_
          refine ww_iload_n (pc := 60) C 1 dX12_pin_60 rfl ?_
          refine ww_ishl (pc := 61) C dX12_pin_61 ?_
          refine ww_ior (pc := 62) C dX12_pin_62 ?_
          obtain ⟨σ22, e21, hf⟩ := xbd hf
          refine ww_iast (pc := 63) C e21 dX12_pin_63 ?_
          refine ww_sub [0, 1, 2] rfl ?_
          exact s_X12_pin_j64 C hf hk
      · have hf := xip q hf
        refine ww_iconst (pc := 30) (v := (0 : Int32)) C dX12_pin_30 (by decide) ?_
        have hf := xsj hf
        subst hf
        exact ww_zret (pc := 31) C rfl hk dX12_pin_31
theorem m_X12_pin {σ : XS} {r0 : Nat} {x1 : Int32} {x2 : Int32} {x : Int32 × XS} (hf : f_X12_pin σ r0 x1 x2 = some x) : xsame σ x.2 := by
  have hm := xsame.rf (σ := σ)
  obtain ⟨_, e1, hf⟩ := xbd hf
  obtain ⟨v3, e2, hf⟩ := xbd hf
  by_cases q : v3 = 0
  · have hf := xip q hf
    have hf := xsj hf
    subst hf
    exact hm
  · have hf := xin q hf
    obtain ⟨v5, e4, hf⟩ := xbd hf
    by_cases q : v5 = 0
    · have hf := xip q hf
      have hf := xsj hf
      subst hf
      exact hm
    · have hf := xin q hf
      obtain ⟨z7, e6, hf⟩ := xbd hf
      obtain ⟨v9, e8, hf⟩ := xbd hf
      by_cases q : v9 = x2
      · have hf := xip q hf
        have hf := xsj hf
        subst hf
        exact hm
      · have hf := xin q hf
        obtain ⟨_, e10, hf⟩ := xbd hf
        obtain ⟨σ12, e11, hf⟩ := xbd hf
        have hm := hm.tr (m_X12_marks e11)
        obtain ⟨z14, e13, hf⟩ := xbd hf
        obtain ⟨σ16, e15, hf⟩ := xbd hf
        have hm := hm.tr (xsI_same e15)
        by_cases q : x2 = (1 : Int32)
        · have hf := xip q hf
          obtain ⟨z18, e17, hf⟩ := xbd hf
          obtain ⟨v20, e19, hf⟩ := xbd hf
          obtain ⟨σ22, e21, hf⟩ := xbd hf
          have hm := hm.tr (xsI_same e21)
          exact hm.tr (m_X12_pin_j64 hf)
        · have hf := xin q hf
          exact hm.tr (m_X12_pin_j64 hf)
theorem k_X12_pin {l : Launch} {E : XD} {hb : Nat} {σ : XS} {r0 : Nat} {x1 : Int32} {x2 : Int32} {x : Int32 × XS} (h : f_X12_pin σ r0 x1 x2 = some x) : XM l yX12_pin cX12_pin 3 (some .boolean) 2 43 E hb [.ref (hb + r0), .int x1, .int x2] σ (some (.int x.1)) x.2 := by
  refine xm_of (by decide) (Nat.le_of_ble_eq_true rfl) (m_X12_pin h).le (fun G hG C hl hQ => ?_)
  obtain ⟨rfl, rfl, rfl, hN⟩ := hG
  exact s_X12_pin_e C h hQ
noncomputable def f_X12_place (σ : XS) (r0 : Nat) : Option Int32 := (xgI σ r0 12 16).bind fun v2 => some v2
theorem s_X12_place_e {G : XG} (C : XC G cX12_place RX12 (some .int) 1 0 0) {σ : XS} {r0 : Nat} {x : Int32} (hf : f_X12_place σ r0 = some x) (hk : XEnd G (some (.int x)) σ) : WW G 0 [(0, .ref (gB G + r0))] [] σ := by
  refine ww_aload_n (pc := 0) C 0 dX12_place_0 rfl ?_
  obtain ⟨v2, e1, hf⟩ := xbd hf
  refine gf_X12_37 (pc := 1) C e1 dX12_place_1 ?_
  have hf := xsj hf
  subst hf
  exact ww_iret (pc := 4) C hk dX12_place_4
theorem k_X12_place {l : Launch} {E : XD} {hb : Nat} {σ : XS} {r0 : Nat} {x : Int32} (h : f_X12_place σ r0 = some x) : XM l yX12_place cX12_place 1 (some .int) 0 0 E hb [.ref (hb + r0)] σ (some (.int x)) σ := by
  refine xm_of (by decide) (Nat.le_of_ble_eq_true rfl) ⟨Nat.le_refl _, Nat.le_refl _⟩ (fun G hG C hl hQ => ?_)
  obtain ⟨rfl, rfl, rfl, hN⟩ := hG
  exact s_X12_place_e C h hQ
noncomputable def f_X12_pull (σ : XS) (r0 : Nat) (x1 : Int32) (x2 : Int32) : Option (Int32 × XS) := (xck σ r0 12).bind fun _ => (f_X12_isSite σ r0 x1).bind fun v3 => if v3 = 0 then (some ((0 : Int32), σ)) else (f_X12_in x2 (-3 : Int32) (3 : Int32)).bind fun v5 => if v5 = 0 then (some ((0 : Int32), σ)) else (xgR σ r0 12 21).bind fun z7 => (xaI σ 20 z7 ((32 : Int32) + x1)).bind fun v9 => if v9 = x2 then (some ((0 : Int32), σ)) else (xck σ r0 12).bind fun _ => (f_X12_marks σ r0).bind fun σ12 => (xgR σ12 r0 12 21).bind fun z14 => (xsI σ12 20 z14 ((32 : Int32) + x1) x2).bind fun σ16 => (xpI σ16 r0 12 32 (0 : Int32)).bind fun σ18 => some ((1 : Int32), σ18)
theorem s_X12_pull_e {G : XG} (C : XC G cX12_pull RX12 (some .boolean) 3 2 43) {σ : XS} {r0 : Nat} {x1 : Int32} {x2 : Int32} {x : Int32 × XS} (hf : f_X12_pull σ r0 x1 x2 = some x) (hk : XEnd G (some (.int x.1)) x.2) : WW G 0 [(0, .ref (gB G + r0)), (1, .int x1), (2, .int x2)] [] σ := by
  refine ww_aload_n (pc := 0) C 0 dX12_pull_0 rfl ?_
  refine ww_iload_n (pc := 1) C 1 dX12_pull_1 rfl ?_
  obtain ⟨_, e1, hf⟩ := xbd hf
  obtain ⟨v3, e2, hf⟩ := xbd hf
  refine ww_callVi (pc := 2) (as := [.int x1]) (st := []) C (k_X12_isSite (l := gl G) (E := gE G) (hb := gB G) (σ := σ) e2) rfl (by decide) xc_X12_233 q1508 qp137 (xck_spec e1) rfl (by decide) (xst4 (Nat.le_of_ble_eq_true rfl)) xsame.rf.le xsame.rf.lim dX12_pull_2 ?_
  refine ww_if_eq (pc := 5) (tgt := 31) C dX12_pull_5 (by decide) (fun q => ?_) (fun q => ?_)
  · have hf := xip q hf
    refine ww_iconst (pc := 31) (v := (0 : Int32)) C dX12_pull_31 (by decide) ?_
    have hf := xsj hf
    subst hf
    exact ww_zret (pc := 32) C rfl hk dX12_pull_32
  · have hf := xin q hf
    refine ww_iload_n (pc := 8) C 2 dX12_pull_8 rfl ?_
    refine ww_bipush (pc := 9) (v := (-3 : Int32)) C dX12_pull_9 (by decide) ?_
    refine ww_iconst (pc := 11) (v := (3 : Int32)) C dX12_pull_11 (by decide) ?_
    obtain ⟨v5, e4, hf⟩ := xbd hf
    refine ww_callSi (pc := 12) (as := [.int x2, .int (-3 : Int32), .int (3 : Int32)]) (st := []) C (k_X12_in (l := gl G) (E := gE G) (hb := gB G) (σ := σ) e4) xc_X12_213 q1473 rfl (by decide) (xst4 (Nat.le_of_ble_eq_true rfl)) xsame.rf.le xsame.rf.lim dX12_pull_12 ?_
    refine ww_if_eq (pc := 15) (tgt := 31) C dX12_pull_15 (by decide) (fun q => ?_) (fun q => ?_)
    · have hf := xip q hf
      refine ww_iconst (pc := 31) (v := (0 : Int32)) C dX12_pull_31 (by decide) ?_
      have hf := xsj hf
      subst hf
      exact ww_zret (pc := 32) C rfl hk dX12_pull_32
    · have hf := xin q hf
      refine ww_aload_n (pc := 18) C 0 dX12_pull_18 rfl ?_
      obtain ⟨z7, e6, hf⟩ := xbd hf
      refine gf_X12_40 (pc := 19) C e6 dX12_pull_19 ?_
      refine ww_bipush (pc := 22) (v := (32 : Int32)) C dX12_pull_22 (by decide) ?_
      refine ww_iload_n (pc := 24) C 1 dX12_pull_24 rfl ?_
      refine ww_iadd (pc := 25) C dX12_pull_25 ?_
      obtain ⟨v9, e8, hf⟩ := xbd hf
      refine ww_iald (pc := 26) C e8 dX12_pull_26 ?_
      refine ww_iload_n (pc := 27) C 2 dX12_pull_27 rfl ?_
      refine ww_icmp_ne (pc := 28) (tgt := 33) C dX12_pull_28 (by decide) (fun q => ?_) (fun q => ?_)
      · have hf := xin q hf
        refine ww_aload_n (pc := 33) C 0 dX12_pull_33 rfl ?_
        obtain ⟨_, e10, hf⟩ := xbd hf
        obtain ⟨σ12, e11, hf⟩ := xbd hf
        refine ww_callVv (pc := 34) (as := []) (st := []) C (k_X12_marks (l := gl G) (E := gE G) (hb := gB G) (σ := σ) e11) rfl (by decide) xc_X12_244 q1519 qp139 (xck_spec e10) rfl (by decide) (xst4 (Nat.le_of_ble_eq_true rfl)) (m_X12_marks e11).le (m_X12_marks e11).lim dX12_pull_34 ?_
        refine ww_aload_n (pc := 37) C 0 dX12_pull_37 rfl ?_
        obtain ⟨z14, e13, hf⟩ := xbd hf
        refine gf_X12_40 (pc := 38) C e13 dX12_pull_38 ?_
        refine ww_bipush (pc := 41) (v := (32 : Int32)) C dX12_pull_41 (by decide) ?_
        refine ww_iload_n (pc := 43) C 1 dX12_pull_43 rfl ?_
        refine ww_iadd (pc := 44) C dX12_pull_44 ?_
        refine ww_iload_n (pc := 45) C 2 dX12_pull_45 rfl ?_
        obtain ⟨σ16, e15, hf⟩ := xbd hf
        refine ww_iast (pc := 46) C e15 dX12_pull_46 ?_
        refine ww_aload_n (pc := 47) C 0 dX12_pull_47 rfl ?_
        refine ww_iconst (pc := 48) (v := (0 : Int32)) C dX12_pull_48 (by decide) ?_
        obtain ⟨σ18, e17, hf⟩ := xbd hf
        refine pf_X12_200 (pc := 49) C (Or.inl rfl) e17 dX12_pull_49 ?_
        refine ww_iconst (pc := 52) (v := (1 : Int32)) C dX12_pull_52 (by decide) ?_
        have hf := xsj hf
        subst hf
        exact ww_zret (pc := 53) C rfl hk dX12_pull_53
      · have hf := xip q hf
        refine ww_iconst (pc := 31) (v := (0 : Int32)) C dX12_pull_31 (by decide) ?_
        have hf := xsj hf
        subst hf
        exact ww_zret (pc := 32) C rfl hk dX12_pull_32
theorem m_X12_pull {σ : XS} {r0 : Nat} {x1 : Int32} {x2 : Int32} {x : Int32 × XS} (hf : f_X12_pull σ r0 x1 x2 = some x) : xsame σ x.2 := by
  have hm := xsame.rf (σ := σ)
  obtain ⟨_, e1, hf⟩ := xbd hf
  obtain ⟨v3, e2, hf⟩ := xbd hf
  by_cases q : v3 = 0
  · have hf := xip q hf
    have hf := xsj hf
    subst hf
    exact hm
  · have hf := xin q hf
    obtain ⟨v5, e4, hf⟩ := xbd hf
    by_cases q : v5 = 0
    · have hf := xip q hf
      have hf := xsj hf
      subst hf
      exact hm
    · have hf := xin q hf
      obtain ⟨z7, e6, hf⟩ := xbd hf
      obtain ⟨v9, e8, hf⟩ := xbd hf
      by_cases q : v9 = x2
      · have hf := xip q hf
        have hf := xsj hf
        subst hf
        exact hm
      · have hf := xin q hf
        obtain ⟨_, e10, hf⟩ := xbd hf
        obtain ⟨σ12, e11, hf⟩ := xbd hf
        have hm := hm.tr (m_X12_marks e11)
        obtain ⟨z14, e13, hf⟩ := xbd hf
        obtain ⟨σ16, e15, hf⟩ := xbd hf
        have hm := hm.tr (xsI_same e15)
        obtain ⟨σ18, e17, hf⟩ := xbd hf
        have hm := hm.tr (xpI_same e17)
        have hf := xsj hf
        subst hf
        exact hm
theorem k_X12_pull {l : Launch} {E : XD} {hb : Nat} {σ : XS} {r0 : Nat} {x1 : Int32} {x2 : Int32} {x : Int32 × XS} (h : f_X12_pull σ r0 x1 x2 = some x) : XM l yX12_pull cX12_pull 3 (some .boolean) 2 43 E hb [.ref (hb + r0), .int x1, .int x2] σ (some (.int x.1)) x.2 := by
  refine xm_of (by decide) (Nat.le_of_ble_eq_true rfl) (m_X12_pull h).le (fun G hG C hl hQ => ?_)
  obtain ⟨rfl, rfl, rfl, hN⟩ := hG
  exact s_X12_pull_e C h hQ
