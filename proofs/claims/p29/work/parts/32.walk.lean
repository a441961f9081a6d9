section
noncomputable def f_X9_waysDown_b2 (r0 : Nat) (x1 : Int32) : Int32 × XS → Option ((Int32 × XS) ⊕ (Int64 × XS)) := fun a => match a with
  | (x2, σ) => (xgI σ r0 9 8).bind fun v2 => if v2 ≤ x2 then ((some ((-100000 : Int64), σ)).map .inr) else if (1024 : Int32) ≤ x2 then ((some ((-100000 : Int64), σ)).map .inr) else (xgR σ r0 9 0).bind fun z4 => (xaI σ 20 z4 x2).bind fun v6 => (xck σ r0 9).bind fun _ => (f_X9_waysFrom σ r0 v6).bind fun v9 => if v6 = x1 then ((some (v9, σ)).map .inr) else (f_X9_isState v6).bind fun v11 => if v11 = 0 then (some (.inl (x2 + (1 : Int32), σ))) else (xgR σ r0 9 4).bind fun z13 => (xsL σ z13 v6 v9).bind fun σ15 => some (.inl (x2 + (1 : Int32), σ15))
noncomputable def f_X9_waysDown (σ : XS) (r0 : Nat) (x1 : Int32) : Option (Int64 × XS) := xloop (f_X9_waysDown_b2 r0 x1) ((0 : Int32), σ)
theorem m_X9_waysDown_l2 {r0 : Nat} {x1 : Int32} {a : Int32 × XS} {x : Int64 × XS} (hf : xloop (f_X9_waysDown_b2 r0 x1) a = some x) : xsame a.2 x.2 := by
  refine xloop_ind (P := fun a => xsame a.2 x.2) (fun a y hf hc he => ?_) hf
  obtain ⟨x2, σ⟩ := a
  have hy : (∀ a' : Int32 × XS, y = .inl a' → xsame σ a'.2) ∧ (∀ b1 : Int64 × XS, y = .inr b1 → xsame σ b1.2) := by
    have hm := xsame.rf (σ := σ)
    obtain ⟨v2, e1, hf⟩ := xbd hf
    by_cases q : v2 ≤ x2
    · have hf := xip q hf
      obtain ⟨b0, hg, e9⟩ := xmj hf
      subst e9
      have hf := hg
      refine ⟨fun a' e => xnc2 e, fun b e => ?_⟩
      have h9 := Sum.inr.inj e
      subst h9
      have hf := xsj hf
      subst hf
      exact hm
    · have hf := xin q hf
      by_cases q : (1024 : Int32) ≤ x2
      · have hf := xip q hf
        obtain ⟨b0, hg, e9⟩ := xmj hf
        subst e9
        have hf := hg
        refine ⟨fun a' e => xnc2 e, fun b e => ?_⟩
        have h9 := Sum.inr.inj e
        subst h9
        have hf := xsj hf
        subst hf
        exact hm
      · have hf := xin q hf
        obtain ⟨z4, e3, hf⟩ := xbd hf
        obtain ⟨v6, e5, hf⟩ := xbd hf
        obtain ⟨_, e7, hf⟩ := xbd hf
        obtain ⟨v9, e8, hf⟩ := xbd hf
        by_cases q : v6 = x1
        · have hf := xip q hf
          obtain ⟨b0, hg, e9⟩ := xmj hf
          subst e9
          have hf := hg
          refine ⟨fun a' e => xnc2 e, fun b e => ?_⟩
          have h9 := Sum.inr.inj e
          subst h9
          have hf := xsj hf
          subst hf
          exact hm
        · have hf := xin q hf
          obtain ⟨v11, e10, hf⟩ := xbd hf
          by_cases q : v11 = 0
          · have hf := xip q hf
            have hf := xsj hf
            subst hf
            exact ⟨fun a' e => (by have h9 := Sum.inl.inj e; subst h9; exact hm), fun b e => xnc1 e⟩
          · have hf := xin q hf
            obtain ⟨z13, e12, hf⟩ := xbd hf
            obtain ⟨σ15, e14, hf⟩ := xbd hf
            have hm := hm.tr (xsL_same e14)
            have hf := xsj hf
            subst hf
            exact ⟨fun a' e => (by have h9 := Sum.inl.inj e; subst h9; exact hm), fun b e => xnc1 e⟩
  cases y with
  | inl a' =>
    have h1 := hc a' rfl
    have hm := hy.1 a' rfl
    exact hm.tr (h1)
  | inr b =>
    have h1 := he b rfl
    subst h1
    exact hy.2 _ rfl
theorem s_X9_waysDown_l2 {G : XG} (C : XC G cX9_waysDown RX9 (some .long) 6 4 89) {r0 : Nat} {x1 : Int32} {a : Int32 × XS} {x : Int64 × XS} (hf : xloop (f_X9_waysDown_b2 r0 x1) a = some x) (hk : XEnd G (some (.long x.1)) x.2) : WW G 2 [(0, .ref (gB G + r0)), (1, .int x1), (2, .int a.1)] [] a.2 := by
  refine xloop_ind (P := fun a => WW G 2 [(0, .ref (gB G + r0)), (1, .int x1), (2, .int a.1)] [] a.2) (fun a y hf hc he => ?_) hf
  obtain ⟨x2, σ⟩ := a
  have hk : (∀ a' : Int32 × XS, y = .inl a' → WW G 2 [(0, .ref (gB G + r0)), (1, .int x1), (2, .int a'.1)] [] a'.2) ∧ (∀ b1 : Int64 × XS, y = .inr b1 → XEnd G (some (.long b1.1)) b1.2) := ⟨hc, fun b e => by have h9 := he b e; subst h9; exact hk⟩
  refine ww_iload_n (pc := 2) C 2 dX9_waysDown_2 rfl ?_
  refine ww_aload_n (pc := 3) C 0 dX9_waysDown_3 rfl ?_
  obtain ⟨v2, e1, hf⟩ := xbd hf
  refine gf_X9_43 (pc := 4) C e1 dX9_waysDown_4 ?_
  refine ww_icmp_ge (pc := 7) (tgt := 60) C dX9_waysDown_7 (by decide) (fun q => ?_) (fun q => ?_)
  · have hf := xip q hf
    obtain ⟨b0, hg, e9⟩ := xmj hf
    subst e9
    have hf := hg
    have hk := hk.2 _ rfl
    refine ww_ldc2 (pc := 60) C q1205 dX9_waysDown_60 ?_
    have hf := xsj hf
    subst hf
    exact ww_lret (pc := 63) C hk dX9_waysDown_63
  · have hf := xin q hf
    refine ww_iload_n (pc := 10) C 2 dX9_waysDown_10 rfl ?_
    refine ww_sipush (pc := 11) (v := (1024 : Int32)) C dX9_waysDown_11 (by decide) ?_
    refine ww_icmp_ge (pc := 14) (tgt := 60) C dX9_waysDown_14 (by decide) (fun q => ?_) (fun q => ?_)
    · have hf := xip q hf
      obtain ⟨b0, hg, e9⟩ := xmj hf
      subst e9
      have hf := hg
      have hk := hk.2 _ rfl
      refine ww_ldc2 (pc := 60) C q1205 dX9_waysDown_60 ?_
      have hf := xsj hf
      subst hf
      exact ww_lret (pc := 63) C hk dX9_waysDown_63
    · have hf := xin q hf
      refine ww_aload_n (pc := 17) C 0 dX9_waysDown_17 rfl ?_
      obtain ⟨z4, e3, hf⟩ := xbd hf
      refine gf_X9_9 (pc := 18) C e3 dX9_waysDown_18 ?_
      refine ww_iload_n (pc := 21) C 2 dX9_waysDown_21 rfl ?_
      obtain ⟨v6, e5, hf⟩ := xbd hf
      refine ww_iald (pc := 22) C e5 dX9_waysDown_22 ?_
      refine ww_istore_n (pc := 23) (lv' := [(3, .int v6), (0, .ref (gB G + r0)), (1, .int x1), (2, .int x2)]) C dX9_waysDown_23 (by decide) rfl ?_
      refine ww_aload_n (pc := 24) C 1 dX9_waysDown_24 rfl ?_
      refine ww_iload_n (pc := 25) C 0 dX9_waysDown_25 rfl ?_
      obtain ⟨_, e7, hf⟩ := xbd hf
      obtain ⟨v9, e8, hf⟩ := xbd hf
      refine ww_callVj (pc := 26) (as := [.int v6]) (st := []) C (k_X9_waysFrom (l := gl G) (E := gE G) (hb := gB G) (σ := σ) e8) rfl (by decide) xc_X9_111 q1203 qp111 (xck_spec e7) rfl (by decide) (xst4 (Nat.le_of_ble_eq_true rfl)) xsame.rf.le xsame.rf.lim dX9_waysDown_26 ?_
      refine ww_lstore (pc := 29) (lv' := [(4, .long v9), (3, .int v6), (0, .ref (gB G + r0)), (1, .int x1), (2, .int x2)]) C dX9_waysDown_29 (by decide) rfl ?_
      refine ww_iload_n (pc := 31) C 1 dX9_waysDown_31 rfl ?_
      refine ww_iload_n (pc := 32) C 3 dX9_waysDown_32 rfl ?_
      refine ww_icmp_ne (pc := 33) (tgt := 39) C dX9_waysDown_33 (by decide) (fun q => ?_) (fun q => ?_)
      · have hf := xin q hf
        refine ww_iload_n (pc := 39) C 1 dX9_waysDown_39 rfl ?_
        obtain ⟨v11, e10, hf⟩ := xbd hf
        refine ww_callSi (pc := 40) (as := [.int v6]) (st := []) C (k_X9_isState (l := gl G) (E := gE G) (hb := gB G) (σ := σ) e10) xc_X9_69 q1144 rfl (by decide) (xst4 (Nat.le_of_ble_eq_true rfl)) xsame.rf.le xsame.rf.lim dX9_waysDown_40 ?_
        refine ww_if_eq (pc := 43) (tgt := 54) C dX9_waysDown_43 (by decide) (fun q => ?_) (fun q => ?_)
        · have hf := xip q hf
          refine ww_iinc (pc := 54) (v := x2 + (1 : Int32)) (lv' := [(2, .int (x2 + (1 : Int32))), (4, .long v9), (3, .int v6), (0, .ref (gB G + r0)), (1, .int x1)]) C 4 dX9_waysDown_54 rfl (congrArg (fun z => x2 + z) (show Int32.ofInt (1) = (1 : Int32) by decide)) (by decide) rfl ?_
          refine ww_goto (pc := 57) (tgt := 2) C dX9_waysDown_57 (by decide) ?_
          have hf := xsj hf
          subst hf
          refine ww_sub [3, 4, 0] rfl ?_
          exact hk.1 (x2 + (1 : Int32), σ) rfl
        · have hf := xin q hf
          refine ww_aload_n (pc := 46) C 2 dX9_waysDown_46 rfl ?_
          obtain ⟨z13, e12, hf⟩ := xbd hf
          refine gf_X9_24 (pc := 47) C e12 dX9_waysDown_47 ?_
          refine ww_iload_n (pc := 50) C 1 dX9_waysDown_50 rfl ?_
          refine ww_lload (pc := 51) C 0 dX9_waysDown_51 rfl ?_
          obtain ⟨σ15, e14, hf⟩ := xbd hf
          refine ww_last (pc := 53) C e14 dX9_waysDown_53 ?_
          refine ww_iinc (pc := 54) (v := x2 + (1 : Int32)) (lv' := [(2, .int (x2 + (1 : Int32))), (4, .long v9), (3, .int v6), (0, .ref (gB G + r0)), (1, .int x1)]) C 4 dX9_waysDown_54 rfl (congrArg (fun z => x2 + z) (show Int32.ofInt (1) = (1 : Int32) by decide)) (by decide) rfl ?_
          refine ww_goto (pc := 57) (tgt := 2) C dX9_waysDown_57 (by decide) ?_
          have hf := xsj hf
          subst hf
          refine ww_sub [3, 4, 0] rfl ?_
          exact hk.1 (x2 + (1 : Int32), σ15) rfl
      · have hf := xip q hf
        obtain ⟨b0, hg, e9⟩ := xmj hf
        subst e9
        have hf := hg
        have hk := hk.2 _ rfl
        refine ww_lload (pc := 36) C 0 dX9_waysDown_36 rfl ?_
        have hf := xsj hf
        subst hf
        exact ww_lret (pc := 38) C hk dX9_waysDown_38
theorem s_X9_waysDown_e {G : XG} (C : XC G cX9_waysDown RX9 (some .long) 6 4 89) {σ : XS} {r0 : Nat} {x1 : Int32} {x : Int64 × XS} (hf : f_X9_waysDown σ r0 x1 = some x) (hk : XEnd G (some (.long x.1)) x.2) : WW G 0 [(0, .ref (gB G + r0)), (1, .int x1)] [] σ := by
  refine ww_iconst (pc := 0) (v := (0 : Int32)) C dX9_waysDown_0 (by decide) ?_
  refine ww_istore_n (pc := 1) (lv' := [(2, .int (0 : Int32)), (0, .ref (gB G + r0)), (1, .int x1)]) C dX9_waysDown_1 (by decide) rfl ?_
  refine ww_sub [1, 2, 0] rfl ?_
  exact s_X9_waysDown_l2 C (a := ((0 : Int32), σ)) hf hk
theorem m_X9_waysDown {σ : XS} {r0 : Nat} {x1 : Int32} {x : Int64 × XS} (hf : f_X9_waysDown σ r0 x1 = some x) : xsame σ x.2 := by
  have hm := xsame.rf (σ := σ)
  exact hm.tr (m_X9_waysDown_l2 (a := ((0 : Int32), σ)) hf)
theorem k_X9_waysDown {l : Launch} {E : XD} {hb : Nat} {σ : XS} {r0 : Nat} {x1 : Int32} {x : Int64 × XS} (h : f_X9_waysDown σ r0 x1 = some x) : XM l yX9_waysDown cX9_waysDown 6 (some .long) 4 89 E hb [.ref (hb + r0), .int x1] σ (some (.long x.1)) x.2 := by
  refine xm_of (by decide) (Nat.le_of_ble_eq_true rfl) (m_X9_waysDown h).le (fun G hG C hl hQ => ?_)
  obtain ⟨rfl, rfl, rfl, hN⟩ := hG
  exact s_X9_waysDown_e C h hQ
noncomputable def f_X11_down_j23 (σ : XS) (x1 : Int32) (t0 : Nat) : Option (Int64 × XS) := (xck σ t0 9).bind fun _ => (f_X9_waysDown σ t0 x1).bind fun (v4, σ3) => some (v4, σ3)
noncomputable def f_X11_down (σ : XS) (r0 : Nat) (x1 : Int32) : Option (Int64 × XS) := (xck σ r0 11).bind fun _ => (f_X11_isSmall σ r0).bind fun v3 => if v3 = 0 then (some ((-100000 : Int64), σ)) else (xck σ r0 11).bind fun _ => (f_X11_isLawful σ r0 x1).bind fun v6 => if v6 = 0 then (some ((-100000 : Int64), σ)) else (xck σ r0 11).bind fun _ => (f_X11_terrainNow σ r0).bind fun (z10, σ9) => (xnz z10).bind fun _ => f_X11_down_j23 σ9 x1 z10
theorem s_X11_down_j23 {G : XG} (C : XC G cX11_down RX11 (some .long) 2 6 136) {σ : XS} {x1 : Int32} {t0 : Nat} {x : Int64 × XS} (hf : f_X11_down_j23 σ x1 t0 = some x) (hk : XEnd G (some (.long x.1)) x.2 ∧ XUp G x.2) : WW G 23 [(1, .int x1)] [.ref (gB G + t0)] σ := by
  refine ww_iload_n (pc := 23) C 0 dX11_down_23 rfl ?_
  obtain ⟨_, e1, hf⟩ := xbd hf
  obtain ⟨⟨v4, σ3⟩, e2, hf⟩ := xbd hf
  dsimp only at hf
  refine ww_callVj (pc := 24) (as := [.int x1]) (st := []) C (k_X9_waysDown (l := gl G) (E := gE G) (hb := gB G) (σ := σ) e2) rfl (by decide) xc_X11_429 q1199 qp110 (xck_spec e1) rfl (by decide) (xst4 (Nat.le_of_ble_eq_true rfl)) (m_X9_waysDown e2).le (m_X9_waysDown e2).lim dX11_down_24 ?_
  have hf := xsj hf
  subst hf
  exact ww_lret (pc := 27) C hk.1 dX11_down_27
theorem m_X11_down_j23 {σ : XS} {x1 : Int32} {t0 : Nat} {x : Int64 × XS} (hf : f_X11_down_j23 σ x1 t0 = some x) : xext σ x.2 := by
  have hm := xext.rf (σ := σ)
  obtain ⟨_, e1, hf⟩ := xbd hf
  obtain ⟨⟨v4, σ3⟩, e2, hf⟩ := xbd hf
  dsimp only at hf
  have hm := hm.tr (m_X9_waysDown e2).ext
  have hf := xsj hf
  subst hf
  exact hm
theorem s_X11_down_e {G : XG} (C : XC G cX11_down RX11 (some .long) 2 6 136) {σ : XS} {r0 : Nat} {x1 : Int32} {x : Int64 × XS} (hf : f_X11_down σ r0 x1 = some x) (hk : XEnd G (some (.long x.1)) x.2 ∧ XUp G x.2) : WW G 0 [(0, .ref (gB G + r0)), (1, .int x1)] [] σ := by
  refine ww_aload_n (pc := 0) C 0 dX11_down_0 rfl ?_
  obtain ⟨_, e1, hf⟩ := xbd hf
  obtain ⟨v3, e2, hf⟩ := xbd hf
  refine ww_callVi (pc := 1) (as := []) (st := []) C (k_X11_isSmall (l := gl G) (E := gE G) (hb := gB G) (σ := σ) e2) rfl (by decide) xc_X11_408 q1110 qp94 (xck_spec e1) rfl (by decide) (xst4 (Nat.le_of_ble_eq_true rfl)) xsame.rf.le xsame.rf.lim dX11_down_1 ?_
  refine ww_if_eq (pc := 4) (tgt := 15) C dX11_down_4 (by decide) (fun q => ?_) (fun q => ?_)
  · have hf := xip q hf
    refine ww_ldc2 (pc := 15) C q1005 dX11_down_15 ?_
    have hf := xsj hf
    subst hf
    exact ww_lret (pc := 18) C hk.1 dX11_down_18
  · have hf := xin q hf
    refine ww_aload_n (pc := 7) C 0 dX11_down_7 rfl ?_
    refine ww_iload_n (pc := 8) C 1 dX11_down_8 rfl ?_
    obtain ⟨_, e4, hf⟩ := xbd hf
    obtain ⟨v6, e5, hf⟩ := xbd hf
    refine ww_callVi (pc := 9) (as := [.int x1]) (st := []) C (k_X11_isLawful (l := gl G) (E := gE G) (hb := gB G) (σ := σ) e5) rfl (by decide) xc_X11_384 q1067 qp88 (xck_spec e4) rfl (by decide) (xst4 (Nat.le_of_ble_eq_true rfl)) xsame.rf.le xsame.rf.lim dX11_down_9 ?_
    refine ww_if_ne (pc := 12) (tgt := 19) C dX11_down_12 (by decide) (fun q => ?_) (fun q => ?_)
    · have hf := xin q hf
      refine ww_aload_n (pc := 19) C 0 dX11_down_19 rfl ?_
      obtain ⟨_, e7, hf⟩ := xbd hf
      obtain ⟨⟨z10, σ9⟩, e8, hf⟩ := xbd hf
      dsimp only at hf
      obtain ⟨_, e11, hf⟩ := xbd hf
      refine ww_callVr (pc := 20) (as := []) (st := []) C (k_X11_terrainNow (l := gl G) (E := gE G) (hb := gB G) (σ := σ) e8) rfl (by decide) xc_X11_412 q1114 qp95 (xck_spec e7) rfl (by decide) (xst4 (Nat.le_of_ble_eq_true rfl)) (m_X11_terrainNow e8).1 (fun q => by have hm9 := m_X11_down_j23 hf; exact XLim.mid q (m_X11_terrainNow e8) hm9 hk.2) dX11_down_20 ?_
      refine ww_nn (xnz_spec e11) ?_
      refine ww_sub [1] rfl ?_
      exact s_X11_down_j23 C hf hk
    · have hf := xip q hf
      refine ww_ldc2 (pc := 15) C q1005 dX11_down_15 ?_
      have hf := xsj hf
      subst hf
      exact ww_lret (pc := 18) C hk.1 dX11_down_18
theorem m_X11_down {σ : XS} {r0 : Nat} {x1 : Int32} {x : Int64 × XS} (hf : f_X11_down σ r0 x1 = some x) : xext σ x.2 := by
  have hm := xext.rf (σ := σ)
  obtain ⟨_, e1, hf⟩ := xbd hf
  obtain ⟨v3, e2, hf⟩ := xbd hf
  by_cases q : v3 = 0
  · have hf := xip q hf
    have hf := xsj hf
    subst hf
    exact hm
  · have hf := xin q hf
    obtain ⟨_, e4, hf⟩ := xbd hf
    obtain ⟨v6, e5, hf⟩ := xbd hf
    by_cases q : v6 = 0
    · have hf := xip q hf
      have hf := xsj hf
      subst hf
      exact hm
    · have hf := xin q hf
      obtain ⟨_, e7, hf⟩ := xbd hf
      obtain ⟨⟨z10, σ9⟩, e8, hf⟩ := xbd hf
      dsimp only at hf
      have hm := hm.tr (m_X11_terrainNow e8)
      obtain ⟨_, e11, hf⟩ := xbd hf
      exact hm.tr (m_X11_down_j23 hf)
theorem k_X11_down {l : Launch} {E : XD} {hb : Nat} {σ : XS} {r0 : Nat} {x1 : Int32} {x : Int64 × XS} (h : f_X11_down σ r0 x1 = some x) : XM l yX11_down cX11_down 2 (some .long) 6 136 E hb [.ref (hb + r0), .int x1] σ (some (.long x.1)) x.2 := by
  refine xm_of (by decide) (Nat.le_of_ble_eq_true rfl) (m_X11_down h).1 (fun G hG C hl hQ => ?_)
  obtain ⟨rfl, rfl, rfl, hN⟩ := hG
  exact s_X11_down_e C h ⟨hQ, hl.2⟩
noncomputable def f_X11_energiesOfRows_j54 (σ : XS) (r0 : Nat) : Option (Nat × XS) := (xgR σ r0 11 7).bind fun z2 => (xnz z2).bind fun _ => some (z2, σ)
noncomputable def f_X11_energiesOfRows_j17 (σ : XS) (t0 : Nat) : Option (Nat × XS) := (xnz t0).bind fun _ => some (t0, σ)
noncomputable def f_X11_energiesOfRows (σ : XS) (r0 : Nat) (x1 : Int32) : Option (Nat × XS) := (xgR σ r0 11 2).bind fun z2 => (xgI σ z2 3 5).bind fun v4 => if x1 = (v4 - (1 : Int32)) then ((xck σ r0 11).bind fun _ => (f_X11_energiesNow σ r0).bind fun (z8, σ7) => (xnz z8).bind fun _ => f_X11_energiesOfRows_j17 σ7 z8) else (xgR σ r0 11 7).bind fun z6 => (xgR σ r0 11 2).bind fun z8 => (xgR σ r0 11 3).bind fun z10 => (xgR σ z10 6 0).bind fun z12 => (xgR σ r0 11 3).bind fun z14 => (xgR σ z14 6 1).bind fun z16 => (xgR σ r0 11 2).bind fun z18 => (xgI σ z18 3 4).bind fun v20 => (xck σ z6 2).bind fun _ => (f_X2_fill σ z6 z8 z12 z16 ((x1 + (1 : Int32)) * v20)).bind fun σ23 => f_X11_energiesOfRows_j54 σ23 r0
theorem s_X11_energiesOfRows_j54 {G : XG} (C : XC G cX11_energiesOfRows RX11 (some (.object "SpinStrip$Energies")) 2 4 95) {σ : XS} {r0 : Nat} {x : Nat × XS} (hf : f_X11_energiesOfRows_j54 σ r0 = some x) (hk : XEnd G (some (xrv (gB G) x.1)) x.2 ∧ XUp G x.2) : WW G 54 [(0, .ref (gB G + r0))] [] σ := by
  refine ww_aload_n (pc := 54) C 0 dX11_energiesOfRows_54 rfl ?_
  obtain ⟨z2, e1, hf⟩ := xbd hf
  refine gf_X11_56 (pc := 55) C e1 dX11_energiesOfRows_55 ?_
  obtain ⟨_, e3, hf⟩ := xbd hf
  have hf := xsj hf
  subst hf
  exact ww_aret (pc := 58) C (Or.inl ⟨_, rfl⟩) (xnz_spec e3) hk.1 dX11_energiesOfRows_58
theorem m_X11_energiesOfRows_j54 {σ : XS} {r0 : Nat} {x : Nat × XS} (hf : f_X11_energiesOfRows_j54 σ r0 = some x) : xext σ x.2 := by
  have hm := xext.rf (σ := σ)
  obtain ⟨z2, e1, hf⟩ := xbd hf
  obtain ⟨_, e3, hf⟩ := xbd hf
  have hf := xsj hf
  subst hf
  exact hm
theorem s_X11_energiesOfRows_j17 {G : XG} (C : XC G cX11_energiesOfRows RX11 (some (.object "SpinStrip$Energies")) 2 4 95) {σ : XS} {t0 : Nat} {x : Nat × XS} (hf : f_X11_energiesOfRows_j17 σ t0 = some x) (hk : XEnd G (some (xrv (gB G) x.1)) x.2 ∧ XUp G x.2) : WW G 17 [] [.ref (gB G + t0)] σ := by
  obtain ⟨_, e1, hf⟩ := xbd hf
  have hf := xsj hf
  subst hf
  exact ww_aret (pc := 17) C (Or.inl ⟨_, rfl⟩) (xnz_spec e1) hk.1 dX11_energiesOfRows_17
theorem m_X11_energiesOfRows_j17 {σ : XS} {t0 : Nat} {x : Nat × XS} (hf : f_X11_energiesOfRows_j17 σ t0 = some x) : xext σ x.2 := by
  have hm := xext.rf (σ := σ)
  obtain ⟨_, e1, hf⟩ := xbd hf
  have hf := xsj hf
  subst hf
  exact hm
theorem s_X11_energiesOfRows_e {G : XG} (C : XC G cX11_energiesOfRows RX11 (some (.object "SpinStrip$Energies")) 2 4 95) {σ : XS} {r0 : Nat} {x1 : Int32} {x : Nat × XS} (hf : f_X11_energiesOfRows σ r0 x1 = some x) (hk : XEnd G (some (xrv (gB G) x.1)) x.2 ∧ XUp G x.2) : WW G 0 [(0, .ref (gB G + r0)), (1, .int x1)] [] σ := by
  refine ww_iload_n (pc := 0) C 1 dX11_energiesOfRows_0 rfl ?_
  refine ww_aload_n (pc := 1) C 0 dX11_energiesOfRows_1 rfl ?_
  obtain ⟨z2, e1, hf⟩ := xbd hf
  refine gf_X11_24 (pc := 2) C e1 dX11_energiesOfRows_2 ?_
  obtain ⟨v4, e3, hf⟩ := xbd hf
  refine gf_X11_361 (pc := 5) C e3 dX11_energiesOfRows_5 ?_
  refine ww_iconst (pc := 8) (v := (1 : Int32)) C dX11_energiesOfRows_8 (by decide) ?_
  refine ww_isub (pc := 9) C dX11_energiesOfRows_9 ?_
  refine ww_icmp_ne (pc := 10) (tgt := 18) C dX11_energiesOfRows_10 (by decide) (fun q => ?_) (fun q => ?_)
  · have hf := xin q hf
    refine ww_aload_n (pc := 18) C 0 dX11_energiesOfRows_18 rfl ?_
    obtain ⟨z6, e5, hf⟩ := xbd hf
    refine gf_X11_56 (pc := 19) C e5 dX11_energiesOfRows_19 ?_
    refine ww_aload_n (pc := 22) C 0 dX11_energiesOfRows_22 rfl ?_
    obtain ⟨z8, e7, hf⟩ := xbd hf
    refine gf_X11_24 (pc := 23) C e7 dX11_energiesOfRows_23 ?_
    refine ww_aload_n (pc := 26) C 0 dX11_energiesOfRows_26 rfl ?_
    obtain ⟨z10, e9, hf⟩ := xbd hf
    refine gf_X11_31 (pc := 27) C e9 dX11_energiesOfRows_27 ?_
    obtain ⟨z12, e11, hf⟩ := xbd hf
    refine gf_X11_340 (pc := 30) C e11 dX11_energiesOfRows_30 ?_
    refine ww_aload_n (pc := 33) C 0 dX11_energiesOfRows_33 rfl ?_
    obtain ⟨z14, e13, hf⟩ := xbd hf
    refine gf_X11_31 (pc := 34) C e13 dX11_energiesOfRows_34 ?_
    obtain ⟨z16, e15, hf⟩ := xbd hf
    refine gf_X11_343 (pc := 37) C e15 dX11_energiesOfRows_37 ?_
    refine ww_iload_n (pc := 40) C 1 dX11_energiesOfRows_40 rfl ?_
    refine ww_iconst (pc := 41) (v := (1 : Int32)) C dX11_energiesOfRows_41 (by decide) ?_
    refine ww_iadd (pc := 42) C dX11_energiesOfRows_42 ?_
    refine ww_aload_n (pc := 43) C 0 dX11_energiesOfRows_43 rfl ?_
    obtain ⟨z18, e17, hf⟩ := xbd hf
    refine gf_X11_24 (pc := 44) C e17 dX11_energiesOfRows_44 ?_
    obtain ⟨v20, e19, hf⟩ := xbd hf
    refine gf_X11_362 (pc := 47) C e19 dX11_energiesOfRows_47 ?_
    refine ww_imul (pc := 50) C dX11_energiesOfRows_50 ?_
    obtain ⟨_, e21, hf⟩ := xbd hf
    obtain ⟨σ23, e22, hf⟩ := xbd hf
    refine ww_callVv (pc := 51) (as := [.ref (gB G + z8), .ref (gB G + z12), .ref (gB G + z16), .int ((x1 + (1 : Int32)) * v20)]) (st := []) C (k_X2_fill (l := gl G) (E := gE G) (hb := gB G) (σ := σ) e22) rfl (by decide) xc_X11_346 q854 qp58 (xck_spec e21) rfl (by decide) (xst4 (Nat.le_of_ble_eq_true rfl)) (m_X2_fill e22).1 (fun q => by have hm9 := m_X11_energiesOfRows_j54 hf; exact XLim.mid q (m_X2_fill e22) hm9 hk.2) dX11_energiesOfRows_51 ?_
    refine ww_sub [0] rfl ?_
    exact s_X11_energiesOfRows_j54 C hf hk
  · have hf := xip q hf
    refine ww_aload_n (pc := 13) C 0 dX11_energiesOfRows_13 rfl ?_
    obtain ⟨_, e5, hf⟩ := xbd hf
    obtain ⟨⟨z8, σ7⟩, e6, hf⟩ := xbd hf
    dsimp only at hf
    obtain ⟨_, e9, hf⟩ := xbd hf
    refine ww_callVr (pc := 14) (as := []) (st := []) C (k_X11_energiesNow (l := gl G) (E := gE G) (hb := gB G) (σ := σ) e6) rfl (by decide) xc_X11_367 q850 qp57 (xck_spec e5) rfl (by decide) (xst4 (Nat.le_of_ble_eq_true rfl)) (m_X11_energiesNow e6).1 (fun q => by have hm9 := m_X11_energiesOfRows_j17 hf; exact XLim.mid q (m_X11_energiesNow e6) hm9 hk.2) dX11_energiesOfRows_14 ?_
    refine ww_nn (xnz_spec e9) ?_
    refine ww_sub [] rfl ?_
    exact s_X11_energiesOfRows_j17 C hf hk
theorem m_X11_energiesOfRows {σ : XS} {r0 : Nat} {x1 : Int32} {x : Nat × XS} (hf : f_X11_energiesOfRows σ r0 x1 = some x) : xext σ x.2 := by
  have hm := xext.rf (σ := σ)
  obtain ⟨z2, e1, hf⟩ := xbd hf
  obtain ⟨v4, e3, hf⟩ := xbd hf
  by_cases q : x1 = (v4 - (1 : Int32))
  · have hf := xip q hf
    obtain ⟨_, e5, hf⟩ := xbd hf
    obtain ⟨⟨z8, σ7⟩, e6, hf⟩ := xbd hf
    dsimp only at hf
    have hm := hm.tr (m_X11_energiesNow e6)
    obtain ⟨_, e9, hf⟩ := xbd hf
    exact hm.tr (m_X11_energiesOfRows_j17 hf)
  · have hf := xin q hf
    obtain ⟨z6, e5, hf⟩ := xbd hf
    obtain ⟨z8, e7, hf⟩ := xbd hf
    obtain ⟨z10, e9, hf⟩ := xbd hf
    obtain ⟨z12, e11, hf⟩ := xbd hf
    obtain ⟨z14, e13, hf⟩ := xbd hf
    obtain ⟨z16, e15, hf⟩ := xbd hf
    obtain ⟨z18, e17, hf⟩ := xbd hf
    obtain ⟨v20, e19, hf⟩ := xbd hf
    obtain ⟨_, e21, hf⟩ := xbd hf
    obtain ⟨σ23, e22, hf⟩ := xbd hf
    have hm := hm.tr (m_X2_fill e22)
    exact hm.tr (m_X11_energiesOfRows_j54 hf)
theorem k_X11_energiesOfRows {l : Launch} {E : XD} {hb : Nat} {σ : XS} {r0 : Nat} {x1 : Int32} {x : Nat × XS} (h : f_X11_energiesOfRows σ r0 x1 = some x) : XM l yX11_energiesOfRows cX11_energiesOfRows 2 (some (.object "SpinStrip$Energies")) 4 95 E hb [.ref (hb + r0), .int x1] σ (some (xrv (hb) x.1)) x.2 := by
  refine xm_of (by decide) (Nat.le_of_ble_eq_true rfl) (m_X11_energiesOfRows h).1 (fun G hG C hl hQ => ?_)
  obtain ⟨rfl, rfl, rfl, hN⟩ := hG
  exact s_X11_energiesOfRows_e C h ⟨hQ, hl.2⟩
noncomputable def f_X5_keep_j55 (σ : XS) (r0 : Nat) (t0 : Nat) (t1 : Int32) : Option XS := (xpI σ t0 5 1 t1).bind fun σ2 => (xgI σ2 r0 5 2).bind fun v4 => (xpI σ2 r0 5 2 (xmin (v4 + (1 : Int32)) (40 : Int32))).bind fun σ6 => some σ6
noncomputable def f_X5_keep (σ : XS) (r0 : Nat) (r1 : Nat) : Option XS := (xgI σ r0 5 1).bind fun v2 => if v2 < 0 then (some σ) else (xgI σ r0 5 1).bind fun v4 => (xgR σ r0 5 0).bind fun z6 => (xal σ z6).bind fun v8 => if v4 < v8 then ((xgR σ r0 5 0).bind fun z10 => (xgI σ r0 5 1).bind fun v12 => (xaR σ 24 z10 v12).bind fun z14 => (xck σ z14 6).bind fun _ => (f_X6_copyFrom σ z14 r1).bind fun σ17 => (xgI σ17 r0 5 1).bind fun v19 => if (40 : Int32) ≤ (v19 + (1 : Int32)) then (f_X5_keep_j55 σ17 r0 r0 (0 : Int32)) else (xgI σ17 r0 5 1).bind fun v21 => f_X5_keep_j55 σ17 r0 r0 (v21 + (1 : Int32))) else some σ
theorem s_X5_keep_j55 {G : XG} (C : XC G cX5_keep RX5 none 2 2 61) {σ : XS} {r0 : Nat} {t0 : Nat} {t1 : Int32} {x : XS} (hf : f_X5_keep_j55 σ r0 t0 t1 = some x) (hk : XEnd G none x) : WW G 55 [(0, .ref (gB G + r0))] [.int t1, .ref (gB G + t0)] σ := by
  obtain ⟨σ2, e1, hf⟩ := xbd hf
  refine pf_X5_18 (pc := 55) C e1 dX5_keep_55 ?_
  refine ww_aload_n (pc := 58) C 0 dX5_keep_58 rfl ?_
  refine ww_aload_n (pc := 59) C 0 dX5_keep_59 rfl ?_
  obtain ⟨v4, e3, hf⟩ := xbd hf
  refine gf_X5_22 (pc := 60) C e3 dX5_keep_60 ?_
  refine ww_iconst (pc := 63) (v := (1 : Int32)) C dX5_keep_63 (by decide) ?_
  refine ww_iadd (pc := 64) C dX5_keep_64 ?_
  refine ww_bipush (pc := 65) (v := (40 : Int32)) C dX5_keep_65 (by decide) ?_
  refine ww_mmin (pc := 67) C q717 q718 q20 qm_mmin ⟨by decide, Nat.le_trans (Nat.add_le_add_right (xst4 (Nat.le_of_ble_eq_true rfl)) 13) (by decide)⟩ dX5_keep_67 ?_
  obtain ⟨σ6, e5, hf⟩ := xbd hf
  refine pf_X5_22 (pc := 70) C e5 dX5_keep_70 ?_
  have hf := xsj hf
  subst hf
  exact ww_vret (pc := 73) C hk dX5_keep_73
theorem m_X5_keep_j55 {σ : XS} {r0 : Nat} {t0 : Nat} {t1 : Int32} {x : XS} (hf : f_X5_keep_j55 σ r0 t0 t1 = some x) : xsame σ x := by
  have hm := xsame.rf (σ := σ)
  obtain ⟨σ2, e1, hf⟩ := xbd hf
  have hm := hm.tr (xpI_same e1)
  obtain ⟨v4, e3, hf⟩ := xbd hf
  obtain ⟨σ6, e5, hf⟩ := xbd hf
  have hm := hm.tr (xpI_same e5)
  have hf := xsj hf
  subst hf
  exact hm
theorem s_X5_keep_e {G : XG} (C : XC G cX5_keep RX5 none 2 2 61) {σ : XS} {r0 : Nat} {r1 : Nat} {x : XS} (hf : f_X5_keep σ r0 r1 = some x) (hk : XEnd G none x) : WW G 0 [(0, .ref (gB G + r0)), (1, .ref (gB G + r1))] [] σ := by
  refine ww_aload_n (pc := 0) C 0 dX5_keep_0 rfl ?_
  obtain ⟨v2, e1, hf⟩ := xbd hf
  refine gf_X5_18 (pc := 1) C e1 dX5_keep_1 ?_
  refine ww_if_lt (pc := 4) (tgt := 19) C dX5_keep_4 (by decide) (fun q => ?_) (fun q => ?_)
  · have hf := xip q hf
    have hf := xsj hf
    subst hf
    exact ww_vret (pc := 19) C hk dX5_keep_19
  · have hf := xin q hf
    refine ww_aload_n (pc := 7) C 0 dX5_keep_7 rfl ?_
    obtain ⟨v4, e3, hf⟩ := xbd hf
    refine gf_X5_18 (pc := 8) C e3 dX5_keep_8 ?_
    refine ww_aload_n (pc := 11) C 0 dX5_keep_11 rfl ?_
    obtain ⟨z6, e5, hf⟩ := xbd hf
    refine gf_X5_11 (pc := 12) C e5 dX5_keep_12 ?_
    obtain ⟨v8, e7, hf⟩ := xbd hf
    refine ww_alen (pc := 15) C e7 dX5_keep_15 ?_
    refine ww_icmp_lt (pc := 16) (tgt := 20) C dX5_keep_16 (by decide) (fun q => ?_) (fun q => ?_)
    · have hf := xip q hf
      refine ww_aload_n (pc := 20) C 0 dX5_keep_20 rfl ?_
      obtain ⟨z10, e9, hf⟩ := xbd hf
      refine gf_X5_11 (pc := 21) C e9 dX5_keep_21 ?_
      refine ww_aload_n (pc := 24) C 0 dX5_keep_24 rfl ?_
      obtain ⟨v12, e11, hf⟩ := xbd hf
      refine gf_X5_18 (pc := 25) C e11 dX5_keep_25 ?_
      obtain ⟨z14, e13, hf⟩ := xbd hf
      refine ww_aald (pc := 28) (by decide) C e13 dX5_keep_28 ?_
      refine ww_aload_n (pc := 29) C 1 dX5_keep_29 rfl ?_
      obtain ⟨_, e15, hf⟩ := xbd hf
      obtain ⟨σ17, e16, hf⟩ := xbd hf
      refine ww_callVv (pc := 30) (as := [.ref (gB G + r1)]) (st := []) C (k_X6_copyFrom (l := gl G) (E := gE G) (hb := gB G) (σ := σ) e16) rfl (by decide) xc_X5_25 q672 qp33 (xck_spec e15) rfl (by decide) (xst4 (Nat.le_of_ble_eq_true rfl)) (m_X6_copyFrom e16).le (m_X6_copyFrom e16).lim dX5_keep_30 ?_
      refine ww_aload_n (pc := 33) C 0 dX5_keep_33 rfl ?_
      refine ww_aload_n (pc := 34) C 0 dX5_keep_34 rfl ?_
      obtain ⟨v19, e18, hf⟩ := xbd hf
      refine gf_X5_18 (pc := 35) C e18 dX5_keep_35 ?_
      refine ww_iconst (pc := 38) (v := (1 : Int32)) C dX5_keep_38 (by decide) ?_
      refine ww_iadd (pc := 39) C dX5_keep_39 ?_
      refine ww_bipush (pc := 40) (v := (40 : Int32)) C dX5_keep_40 (by decide) ?_
      refine ww_icmp_ge (pc := 42) (tgt := 54) C dX5_keep_42 (by decide) (fun q => ?_) (fun q => ?_)
      · have hf := xip q hf
        refine ww_iconst (pc := 54) (v := (0 : Int32)) C dX5_keep_54 (by decide) ?_
        refine ww_sub [0] rfl ?_
        exact s_X5_keep_j55 C hf hk
      · have hf := xin q hf
        refine ww_aload_n (pc := 45) C 0 dX5_keep_45 rfl ?_
        obtain ⟨v21, e20, hf⟩ := xbd hf
        refine gf_X5_18 (pc := 46) C e20 dX5_keep_46 ?_
        refine ww_iconst (pc := 49) (v := (1 : Int32)) C dX5_keep_49 (by decide) ?_
        refine ww_iadd (pc := 50) C dX5_keep_50 ?_
        refine ww_goto (pc := 51) (tgt := 55) C dX5_keep_51 (by decide) ?_
        refine ww_sub [0] rfl ?_
        exact s_X5_keep_j55 C hf hk
    · have hf := xin q hf
      have hf := xsj hf
      subst hf
      exact ww_vret (pc := 19) C hk dX5_keep_19
theorem m_X5_keep {σ : XS} {r0 : Nat} {r1 : Nat} {x : XS} (hf : f_X5_keep σ r0 r1 = some x) : xsame σ x := by
  have hm := xsame.rf (σ := σ)
  obtain ⟨v2, e1, hf⟩ := xbd hf
  by_cases q : v2 < 0
  · have hf := xip q hf
    have hf := xsj hf
    subst hf
    exact hm
  · have hf := xin q hf
    obtain ⟨v4, e3, hf⟩ := xbd hf
    obtain ⟨z6, e5, hf⟩ := xbd hf
    obtain ⟨v8, e7, hf⟩ := xbd hf
    by_cases q : v4 < v8
    · have hf := xip q hf
      obtain ⟨z10, e9, hf⟩ := xbd hf
      obtain ⟨v12, e11, hf⟩ := xbd hf
      obtain ⟨z14, e13, hf⟩ := xbd hf
      obtain ⟨_, e15, hf⟩ := xbd hf
      obtain ⟨σ17, e16, hf⟩ := xbd hf
      have hm := hm.tr (m_X6_copyFrom e16)
      obtain ⟨v19, e18, hf⟩ := xbd hf
      by_cases q : (40 : Int32) ≤ (v19 + (1 : Int32))
      · have hf := xip q hf
        exact hm.tr (m_X5_keep_j55 hf)
      · have hf := xin q hf
        obtain ⟨v21, e20, hf⟩ := xbd hf
        exact hm.tr (m_X5_keep_j55 hf)
    · have hf := xin q hf
      have hf := xsj hf
      subst hf
      exact hm
theorem k_X5_keep {l : Launch} {E : XD} {hb : Nat} {σ : XS} {r0 : Nat} {r1 : Nat} {x : XS} (h : f_X5_keep σ r0 r1 = some x) : XM l yX5_keep cX5_keep 2 none 2 61 E hb [.ref (hb + r0), .ref (hb + r1)] σ none x := by
  refine xm_of (by decide) (Nat.le_of_ble_eq_true rfl) (m_X5_keep h).le (fun G hG C hl hQ => ?_)
  obtain ⟨rfl, rfl, rfl, hN⟩ := hG
  exact s_X5_keep_e C h hQ
noncomputable def f_X11_fall (σ : XS) (r0 : Nat) : Option (Int32 × XS) := (xgR σ r0 11 2).bind fun z2 => (xgI σ z2 3 7).bind fun v4 => if v4 = 0 then (some ((-1 : Int32), σ)) else (xgR σ r0 11 11).bind fun z6 => (xgR σ r0 11 2).bind fun z8 => (xgR σ r0 11 3).bind fun z10 => (xgR σ r0 11 3).bind fun z12 => (xgI σ z12 6 4).bind fun v14 => (xck σ z6 10).bind fun _ => (f_X10_fallFrom σ z6 z8 z10 v14).bind fun σ17 => (xgR σ17 r0 11 11).bind fun z19 => (xgI σ17 z19 10 1).bind fun v21 => if v21 ≤ 0 then ((xgR σ17 r0 11 11).bind fun z23 => (xgI σ17 z23 10 1).bind fun v25 => some (v25, σ17)) else (xgR σ17 r0 11 4).bind fun z23 => (xgR σ17 r0 11 3).bind fun z25 => (xck σ17 z23 5).bind fun _ => (f_X5_keep σ17 z23 z25).bind fun σ28 => (xgR σ28 r0 11 3).bind fun z30 => (xgR σ28 r0 11 11).bind fun z32 => (xgI σ28 z32 10 0).bind fun v34 => (xpI σ28 z30 6 4 v34).bind fun σ36 => (xgR σ36 r0 11 11).bind fun z38 => (xgI σ36 z38 10 1).bind fun v40 => some (v40, σ36)
theorem s_X11_fall_e {G : XG} (C : XC G cX11_fall RX11 (some .int) 1 4 99) {σ : XS} {r0 : Nat} {x : Int32 × XS} (hf : f_X11_fall σ r0 = some x) (hk : XEnd G (some (.int x.1)) x.2) : WW G 0 [(0, .ref (gB G + r0))] [] σ := by
  refine ww_aload_n (pc := 0) C 0 dX11_fall_0 rfl ?_
  obtain ⟨z2, e1, hf⟩ := xbd hf
  refine gf_X11_24 (pc := 1) C e1 dX11_fall_1 ?_
  obtain ⟨v4, e3, hf⟩ := xbd hf
  refine gf_X11_197 (pc := 4) C e3 dX11_fall_4 ?_
  refine ww_if_ne (pc := 7) (tgt := 12) C dX11_fall_7 (by decide) (fun q => ?_) (fun q => ?_)
  · have hf := xin q hf
    refine ww_aload_n (pc := 12) C 0 dX11_fall_12 rfl ?_
    obtain ⟨z6, e5, hf⟩ := xbd hf
    refine gf_X11_83 (pc := 13) C e5 dX11_fall_13 ?_
    refine ww_aload_n (pc := 16) C 0 dX11_fall_16 rfl ?_
    obtain ⟨z8, e7, hf⟩ := xbd hf
    refine gf_X11_24 (pc := 17) C e7 dX11_fall_17 ?_
    refine ww_aload_n (pc := 20) C 0 dX11_fall_20 rfl ?_
    obtain ⟨z10, e9, hf⟩ := xbd hf
    refine gf_X11_31 (pc := 21) C e9 dX11_fall_21 ?_
    refine ww_aload_n (pc := 24) C 0 dX11_fall_24 rfl ?_
    obtain ⟨z12, e11, hf⟩ := xbd hf
    refine gf_X11_31 (pc := 25) C e11 dX11_fall_25 ?_
    obtain ⟨v14, e13, hf⟩ := xbd hf
    refine gf_X11_144 (pc := 28) C e13 dX11_fall_28 ?_
    obtain ⟨_, e15, hf⟩ := xbd hf
    obtain ⟨σ17, e16, hf⟩ := xbd hf
    refine ww_callVv (pc := 31) (as := [.ref (gB G + z8), .ref (gB G + z10), .int v14]) (st := []) C (k_X10_fallFrom (l := gl G) (E := gE G) (hb := gB G) (σ := σ) e16) rfl (by decide) xc_X11_214 q775 qp45 (xck_spec e15) rfl (by decide) (xst4 (Nat.le_of_ble_eq_true rfl)) (m_X10_fallFrom e16).le (m_X10_fallFrom e16).lim dX11_fall_31 ?_
    refine ww_aload_n (pc := 34) C 0 dX11_fall_34 rfl ?_
    obtain ⟨z19, e18, hf⟩ := xbd hf
    refine gf_X11_83 (pc := 35) C e18 dX11_fall_35 ?_
    obtain ⟨v21, e20, hf⟩ := xbd hf
    refine gf_X11_218 (pc := 38) C e20 dX11_fall_38 ?_
    refine ww_if_le (pc := 41) (tgt := 69) C dX11_fall_41 (by decide) (fun q => ?_) (fun q => ?_)
    · have hf := xip q hf
      refine ww_aload_n (pc := 69) C 0 dX11_fall_69 rfl ?_
      obtain ⟨z23, e22, hf⟩ := xbd hf
      refine gf_X11_83 (pc := 70) C e22 dX11_fall_70 ?_
      obtain ⟨v25, e24, hf⟩ := xbd hf
      refine gf_X11_218 (pc := 73) C e24 dX11_fall_73 ?_
      have hf := xsj hf
      subst hf
      exact ww_iret (pc := 76) C hk dX11_fall_76
    · have hf := xin q hf
      refine ww_aload_n (pc := 44) C 0 dX11_fall_44 rfl ?_
      obtain ⟨z23, e22, hf⟩ := xbd hf
      refine gf_X11_38 (pc := 45) C e22 dX11_fall_45 ?_
      refine ww_aload_n (pc := 48) C 0 dX11_fall_48 rfl ?_
      obtain ⟨z25, e24, hf⟩ := xbd hf
      refine gf_X11_31 (pc := 49) C e24 dX11_fall_49 ?_
      obtain ⟨_, e26, hf⟩ := xbd hf
      obtain ⟨σ28, e27, hf⟩ := xbd hf
      refine ww_callVv (pc := 52) (as := [.ref (gB G + z25)]) (st := []) C (k_X5_keep (l := gl G) (E := gE G) (hb := gB G) (σ := σ17) e27) rfl (by decide) xc_X11_169 q714 qp40 (xck_spec e26) rfl (by decide) (xst4 (Nat.le_of_ble_eq_true rfl)) (m_X5_keep e27).le (m_X5_keep e27).lim dX11_fall_52 ?_
      refine ww_aload_n (pc := 55) C 0 dX11_fall_55 rfl ?_
      obtain ⟨z30, e29, hf⟩ := xbd hf
      refine gf_X11_31 (pc := 56) C e29 dX11_fall_56 ?_
      refine ww_aload_n (pc := 59) C 0 dX11_fall_59 rfl ?_
      obtain ⟨z32, e31, hf⟩ := xbd hf
      refine gf_X11_83 (pc := 60) C e31 dX11_fall_60 ?_
      obtain ⟨v34, e33, hf⟩ := xbd hf
      refine gf_X11_221 (pc := 63) C e33 dX11_fall_63 ?_
      obtain ⟨σ36, e35, hf⟩ := xbd hf
      refine pf_X11_144 (pc := 66) C e35 dX11_fall_66 ?_
      refine ww_aload_n (pc := 69) C 0 dX11_fall_69 rfl ?_
      obtain ⟨z38, e37, hf⟩ := xbd hf
      refine gf_X11_83 (pc := 70) C e37 dX11_fall_70 ?_
      obtain ⟨v40, e39, hf⟩ := xbd hf
      refine gf_X11_218 (pc := 73) C e39 dX11_fall_73 ?_
      have hf := xsj hf
      subst hf
      exact ww_iret (pc := 76) C hk dX11_fall_76
  · have hf := xip q hf
    refine ww_iconst (pc := 10) (v := (-1 : Int32)) C dX11_fall_10 (by decide) ?_
    have hf := xsj hf
    subst hf
    exact ww_iret (pc := 11) C hk dX11_fall_11
theorem m_X11_fall {σ : XS} {r0 : Nat} {x : Int32 × XS} (hf : f_X11_fall σ r0 = some x) : xsame σ x.2 := by
  have hm := xsame.rf (σ := σ)
  obtain ⟨z2, e1, hf⟩ := xbd hf
  obtain ⟨v4, e3, hf⟩ := xbd hf
  by_cases q : v4 = 0
  · have hf := xip q hf
    have hf := xsj hf
    subst hf
    exact hm
  · have hf := xin q hf
    obtain ⟨z6, e5, hf⟩ := xbd hf
    obtain ⟨z8, e7, hf⟩ := xbd hf
    obtain ⟨z10, e9, hf⟩ := xbd hf
    obtain ⟨z12, e11, hf⟩ := xbd hf
    obtain ⟨v14, e13, hf⟩ := xbd hf
    obtain ⟨_, e15, hf⟩ := xbd hf
    obtain ⟨σ17, e16, hf⟩ := xbd hf
    have hm := hm.tr (m_X10_fallFrom e16)
    obtain ⟨z19, e18, hf⟩ := xbd hf
    obtain ⟨v21, e20, hf⟩ := xbd hf
    by_cases q : v21 ≤ 0
    · have hf := xip q hf
      obtain ⟨z23, e22, hf⟩ := xbd hf
      obtain ⟨v25, e24, hf⟩ := xbd hf
      have hf := xsj hf
      subst hf
      exact hm
    · have hf := xin q hf
      obtain ⟨z23, e22, hf⟩ := xbd hf
      obtain ⟨z25, e24, hf⟩ := xbd hf
      obtain ⟨_, e26, hf⟩ := xbd hf
      obtain ⟨σ28, e27, hf⟩ := xbd hf
      have hm := hm.tr (m_X5_keep e27)
      obtain ⟨z30, e29, hf⟩ := xbd hf
      obtain ⟨z32, e31, hf⟩ := xbd hf
      obtain ⟨v34, e33, hf⟩ := xbd hf
      obtain ⟨σ36, e35, hf⟩ := xbd hf
      have hm := hm.tr (xpI_same e35)
      obtain ⟨z38, e37, hf⟩ := xbd hf
      obtain ⟨v40, e39, hf⟩ := xbd hf
      have hf := xsj hf
      subst hf
      exact hm
theorem k_X11_fall {l : Launch} {E : XD} {hb : Nat} {σ : XS} {r0 : Nat} {x : Int32 × XS} (h : f_X11_fall σ r0 = some x) : XM l yX11_fall cX11_fall 1 (some .int) 4 99 E hb [.ref (hb + r0)] σ (some (.int x.1)) x.2 := by
  refine xm_of (by decide) (Nat.le_of_ble_eq_true rfl) (m_X11_fall h).le (fun G hG C hl hQ => ?_)
  obtain ⟨rfl, rfl, rfl, hN⟩ := hG
  exact s_X11_fall_e C h hQ
noncomputable def f_X8_addWord_b3 (r0 : Nat) (x1 : Int32) : Int32 × XS → Option ((Int32 × XS) ⊕ (XS)) := fun a => match a with
  | (x2, σ) => if x2 < 0 then ((some σ).map .inr) else (xgI σ r0 8 4).bind fun v2 => if v2 < 0 then (some (.inl (x2 + (-8 : Int32), σ))) else (xgI σ r0 8 4).bind fun v4 => (xgR σ r0 8 0).bind fun z6 => (xal σ z6).bind fun v8 => if v8 ≤ v4 then (some (.inl (x2 + (-8 : Int32), σ))) else (xgR σ r0 8 0).bind fun z10 => (xgI σ r0 8 4).bind fun v12 => (xsI σ 21 z10 v12 (vp_nar .byte ((x1 >>> (x2 &&& 31)).toInt8.toInt32))).bind fun σ14 => (xgI σ14 r0 8 4).bind fun v16 => (xpI σ14 r0 8 4 (v16 + (1 : Int32))).bind fun σ18 => some (.inl (x2 + (-8 : Int32), σ18))
noncomputable def f_X8_addWord (σ : XS) (r0 : Nat) (x1 : Int32) : Option XS := xloop (f_X8_addWord_b3 r0 x1) ((24 : Int32), σ)
theorem m_X8_addWord_l3 {r0 : Nat} {x1 : Int32} {a : Int32 × XS} {x : XS} (hf : xloop (f_X8_addWord_b3 r0 x1) a = some x) : xsame a.2 x := by
  refine xloop_ind (P := fun a => xsame a.2 x) (fun a y hf hc he => ?_) hf
  obtain ⟨x2, σ⟩ := a
  have hy : (∀ a' : Int32 × XS, y = .inl a' → xsame σ a'.2) ∧ (∀ b1 : XS, y = .inr b1 → xsame σ b1) := by
    have hm := xsame.rf (σ := σ)
    by_cases q : x2 < 0
    · have hf := xip q hf
      obtain ⟨b0, hg, e9⟩ := xmj hf
      subst e9
      have hf := hg
      refine ⟨fun a' e => xnc2 e, fun b e => ?_⟩
      have h9 := Sum.inr.inj e
      subst h9
      have hf := xsj hf
      subst hf
      exact hm
    · have hf := xin q hf
      obtain ⟨v2, e1, hf⟩ := xbd hf
      by_cases q : v2 < 0
      · have hf := xip q hf
        have hf := xsj hf
        subst hf
        exact ⟨fun a' e => (by have h9 := Sum.inl.inj e; subst h9; exact hm), fun b e => xnc1 e⟩
      · have hf := xin q hf
        obtain ⟨v4, e3, hf⟩ := xbd hf
        obtain ⟨z6, e5, hf⟩ := xbd hf
        obtain ⟨v8, e7, hf⟩ := xbd hf
        by_cases q : v8 ≤ v4
        · have hf := xip q hf
          have hf := xsj hf
          subst hf
          exact ⟨fun a' e => (by have h9 := Sum.inl.inj e; subst h9; exact hm), fun b e => xnc1 e⟩
        · have hf := xin q hf
          obtain ⟨z10, e9, hf⟩ := xbd hf
          obtain ⟨v12, e11, hf⟩ := xbd hf
          obtain ⟨σ14, e13, hf⟩ := xbd hf
          have hm := hm.tr (xsI_same e13)
          obtain ⟨v16, e15, hf⟩ := xbd hf
          obtain ⟨σ18, e17, hf⟩ := xbd hf
          have hm := hm.tr (xpI_same e17)
          have hf := xsj hf
          subst hf
          exact ⟨fun a' e => (by have h9 := Sum.inl.inj e; subst h9; exact hm), fun b e => xnc1 e⟩
  cases y with
  | inl a' =>
    have h1 := hc a' rfl
    have hm := hy.1 a' rfl
    exact hm.tr (h1)
  | inr b =>
    have h1 := he b rfl
    subst h1
    exact hy.2 _ rfl
theorem s_X8_addWord_l3 {G : XG} (C : XC G cX8_addWord RX8 none 3 0 0) {r0 : Nat} {x1 : Int32} {a : Int32 × XS} {x : XS} (hf : xloop (f_X8_addWord_b3 r0 x1) a = some x) (hk : XEnd G none x) : WW G 3 [(0, .ref (gB G + r0)), (1, .int x1), (2, .int a.1)] [] a.2 := by
  refine xloop_ind (P := fun a => WW G 3 [(0, .ref (gB G + r0)), (1, .int x1), (2, .int a.1)] [] a.2) (fun a y hf hc he => ?_) hf
  obtain ⟨x2, σ⟩ := a
  have hk : (∀ a' : Int32 × XS, y = .inl a' → WW G 3 [(0, .ref (gB G + r0)), (1, .int x1), (2, .int a'.1)] [] a'.2) ∧ (∀ b1 : XS, y = .inr b1 → XEnd G none b1) := ⟨hc, fun b e => by have h9 := he b e; subst h9; exact hk⟩
  refine ww_iload_n (pc := 3) C 2 dX8_addWord_3 rfl ?_
  refine ww_if_lt (pc := 4) (tgt := 55) C dX8_addWord_4 (by decide) (fun q => ?_) (fun q => ?_)
  · have hf := xip q hf
    obtain ⟨b0, hg, e9⟩ := xmj hf
    subst e9
    have hf := hg
    have hk := hk.2 _ rfl
    have hf := xsj hf
    subst hf
    exact ww_vret (pc := 55) C hk dX8_addWord_55
  · have hf := xin q hf
    refine ww_aload_n (pc := 7) C 0 dX8_addWord_7 rfl ?_
    obtain ⟨v2, e1, hf⟩ := xbd hf
    refine gf_X8_25 (pc := 8) C e1 dX8_addWord_8 ?_
    refine ww_if_lt (pc := 11) (tgt := 49) C dX8_addWord_11 (by decide) (fun q => ?_) (fun q => ?_)
    · have hf := xip q hf
      refine ww_iinc (pc := 49) (v := x2 + (-8 : Int32)) (lv' := [(2, .int (x2 + (-8 : Int32))), (0, .ref (gB G + r0)), (1, .int x1)]) C 2 dX8_addWord_49 rfl (congrArg (fun z => x2 + z) (show Int32.ofInt (-8) = (-8 : Int32) by decide)) (by decide) rfl ?_
      refine ww_goto (pc := 52) (tgt := 3) C dX8_addWord_52 (by decide) ?_
      have hf := xsj hf
      subst hf
      refine ww_sub [1, 2, 0] rfl ?_
      exact hk.1 (x2 + (-8 : Int32), σ) rfl
    · have hf := xin q hf
      refine ww_aload_n (pc := 14) C 0 dX8_addWord_14 rfl ?_
      obtain ⟨v4, e3, hf⟩ := xbd hf
      refine gf_X8_25 (pc := 15) C e3 dX8_addWord_15 ?_
      refine ww_aload_n (pc := 18) C 0 dX8_addWord_18 rfl ?_
      obtain ⟨z6, e5, hf⟩ := xbd hf
      refine gf_X8_9 (pc := 19) C e5 dX8_addWord_19 ?_
      obtain ⟨v8, e7, hf⟩ := xbd hf
      refine ww_alen (pc := 22) C e7 dX8_addWord_22 ?_
      refine ww_icmp_ge (pc := 23) (tgt := 49) C dX8_addWord_23 (by decide) (fun q => ?_) (fun q => ?_)
      · have hf := xip q hf
        refine ww_iinc (pc := 49) (v := x2 + (-8 : Int32)) (lv' := [(2, .int (x2 + (-8 : Int32))), (0, .ref (gB G + r0)), (1, .int x1)]) C 2 dX8_addWord_49 rfl (congrArg (fun z => x2 + z) (show Int32.ofInt (-8) = (-8 : Int32) by decide)) (by decide) rfl ?_
        refine ww_goto (pc := 52) (tgt := 3) C dX8_addWord_52 (by decide) ?_
        have hf := xsj hf
        subst hf
        refine ww_sub [1, 2, 0] rfl ?_
        exact hk.1 (x2 + (-8 : Int32), σ) rfl
      · have hf := xin q hf
        refine ww_aload_n (pc := 26) C 0 dX8_addWord_26 rfl ?_
        obtain ⟨z10, e9, hf⟩ := xbd hf
        refine gf_X8_9 (pc := 27) C e9 dX8_addWord_27 ?_
        refine ww_aload_n (pc := 30) C 0 dX8_addWord_30 rfl ?_
        obtain ⟨v12, e11, hf⟩ := xbd hf
        refine gf_X8_25 (pc := 31) C e11 dX8_addWord_31 ?_
        refine ww_iload_n (pc := 34) C 1 dX8_addWord_34 rfl ?_
        refine ww_iload_n (pc := 35) C 2 dX8_addWord_35 rfl ?_
        refine ww_ishr (pc := 36) C dX8_addWord_36 ?_
        refine ww_i2b (pc := 37) (v := (x1 >>> (x2 &&& 31)).toInt8.toInt32) C dX8_addWord_37 rfl ?_
        obtain ⟨σ14, e13, hf⟩ := xbd hf
        refine ww_bast (pc := 38) C rfl e13 dX8_addWord_38 ?_
        refine ww_aload_n (pc := 39) C 0 dX8_addWord_39 rfl ?_
        refine ww_dup (pc := 40) C dX8_addWord_40 rfl ?_
        obtain ⟨v16, e15, hf⟩ := xbd hf
        refine gf_X8_25 (pc := 41) C e15 dX8_addWord_41 ?_
        refine ww_iconst (pc := 44) (v := (1 : Int32)) C dX8_addWord_44 (by decide) ?_
        refine ww_iadd (pc := 45) C dX8_addWord_45 ?_
        obtain ⟨σ18, e17, hf⟩ := xbd hf
        refine pf_X8_25 (pc := 46) C e17 dX8_addWord_46 ?_
        refine ww_iinc (pc := 49) (v := x2 + (-8 : Int32)) (lv' := [(2, .int (x2 + (-8 : Int32))), (0, .ref (gB G + r0)), (1, .int x1)]) C 2 dX8_addWord_49 rfl (congrArg (fun z => x2 + z) (show Int32.ofInt (-8) = (-8 : Int32) by decide)) (by decide) rfl ?_
        refine ww_goto (pc := 52) (tgt := 3) C dX8_addWord_52 (by decide) ?_
        have hf := xsj hf
        subst hf
        refine ww_sub [1, 2, 0] rfl ?_
        exact hk.1 (x2 + (-8 : Int32), σ18) rfl
theorem s_X8_addWord_e {G : XG} (C : XC G cX8_addWord RX8 none 3 0 0) {σ : XS} {r0 : Nat} {x1 : Int32} {x : XS} (hf : f_X8_addWord σ r0 x1 = some x) (hk : XEnd G none x) : WW G 0 [(0, .ref (gB G + r0)), (1, .int x1)] [] σ := by
  refine ww_bipush (pc := 0) (v := (24 : Int32)) C dX8_addWord_0 (by decide) ?_
  refine ww_istore_n (pc := 2) (lv' := [(2, .int (24 : Int32)), (0, .ref (gB G + r0)), (1, .int x1)]) C dX8_addWord_2 (by decide) rfl ?_
  refine ww_sub [1, 2, 0] rfl ?_
  exact s_X8_addWord_l3 C (a := ((24 : Int32), σ)) hf hk
theorem m_X8_addWord {σ : XS} {r0 : Nat} {x1 : Int32} {x : XS} (hf : f_X8_addWord σ r0 x1 = some x) : xsame σ x := by
  have hm := xsame.rf (σ := σ)
  exact hm.tr (m_X8_addWord_l3 (a := ((24 : Int32), σ)) hf)
theorem k_X8_addWord {l : Launch} {E : XD} {hb : Nat} {σ : XS} {r0 : Nat} {x1 : Int32} {x : XS} (h : f_X8_addWord σ r0 x1 = some x) : XM l yX8_addWord cX8_addWord 3 none 0 0 E hb [.ref (hb + r0), .int x1] σ none x := by
  refine xm_of (by decide) (Nat.le_of_ble_eq_true rfl) (m_X8_addWord h).le (fun G hG C hl hQ => ?_)
  obtain ⟨rfl, rfl, rfl, hN⟩ := hG
  exact s_X8_addWord_e C h hQ
noncomputable def f_X11_feed (σ : XS) (r0 : Nat) (x1 : Int32) (x2 : Int32) (x3 : Int32) (x4 : Int32) (x5 : Int32) : Option (Int32 × XS) := (xgR σ r0 11 0).bind fun z2 => (xgI σ z2 8 4).bind fun v4 => if (v4 + (20 : Int32)) ≤ (2000 : Int32) then ((xgR σ r0 11 0).bind fun z6 => (xck σ z6 8).bind fun _ => (f_X8_addWord σ z6 x1).bind fun σ9 => (xgR σ9 r0 11 0).bind fun z11 => (xck σ9 z11 8).bind fun _ => (f_X8_addWord σ9 z11 x2).bind fun σ14 => (xgR σ14 r0 11 0).bind fun z16 => (xck σ14 z16 8).bind fun _ => (f_X8_addWord σ14 z16 x3).bind fun σ19 => (xgR σ19 r0 11 0).bind fun z21 => (xck σ19 z21 8).bind fun _ => (f_X8_addWord σ19 z21 x4).bind fun σ24 => (xgR σ24 r0 11 0).bind fun z26 => (xck σ24 z26 8).bind fun _ => (f_X8_addWord σ24 z26 x5).bind fun σ29 => (xgR σ29 r0 11 0).bind fun z31 => (xgI σ29 z31 8 4).bind fun v33 => some (v33, σ29)) else some ((-1 : Int32), σ)
theorem s_X11_feed_e {G : XG} (C : XC G cX11_feed RX11 (some .int) 6 1 22) {σ : XS} {r0 : Nat} {x1 : Int32} {x2 : Int32} {x3 : Int32} {x4 : Int32} {x5 : Int32} {x : Int32 × XS} (hf : f_X11_feed σ r0 x1 x2 x3 x4 x5 = some x) (hk : XEnd G (some (.int x.1)) x.2) : WW G 0 [(0, .ref (gB G + r0)), (1, .int x1), (2, .int x2), (3, .int x3), (4, .int x4), (5, .int x5)] [] σ := by
  refine ww_aload_n (pc := 0) C 0 dX11_feed_0 rfl ?_
  obtain ⟨z2, e1, hf⟩ := xbd hf
  refine gf_X11_20 (pc := 1) C e1 dX11_feed_1 ?_
  obtain ⟨v4, e3, hf⟩ := xbd hf
  refine gf_X11_102 (pc := 4) C e3 dX11_feed_4 ?_
  refine ww_bipush (pc := 7) (v := (20 : Int32)) C dX11_feed_7 (by decide) ?_
  refine ww_iadd (pc := 9) C dX11_feed_9 ?_
  refine ww_sipush (pc := 10) (v := (2000 : Int32)) C dX11_feed_10 (by decide) ?_
  refine ww_icmp_le (pc := 13) (tgt := 18) C dX11_feed_13 (by decide) (fun q => ?_) (fun q => ?_)
  · have hf := xip q hf
    refine ww_aload_n (pc := 18) C 0 dX11_feed_18 rfl ?_
    obtain ⟨z6, e5, hf⟩ := xbd hf
    refine gf_X11_20 (pc := 19) C e5 dX11_feed_19 ?_
    refine ww_iload_n (pc := 22) C 1 dX11_feed_22 rfl ?_
    obtain ⟨_, e7, hf⟩ := xbd hf
    obtain ⟨σ9, e8, hf⟩ := xbd hf
    refine ww_callVv (pc := 23) (as := [.int x1]) (st := []) C (k_X8_addWord (l := gl G) (E := gE G) (hb := gB G) (σ := σ) e8) rfl (by decide) xc_X11_107 q447 qp0 (xck_spec e7) rfl (by decide) (xst4 (Nat.le_of_ble_eq_true rfl)) (m_X8_addWord e8).le (m_X8_addWord e8).lim dX11_feed_23 ?_
    refine ww_aload_n (pc := 26) C 0 dX11_feed_26 rfl ?_
    obtain ⟨z11, e10, hf⟩ := xbd hf
    refine gf_X11_20 (pc := 27) C e10 dX11_feed_27 ?_
    refine ww_iload_n (pc := 30) C 2 dX11_feed_30 rfl ?_
    obtain ⟨_, e12, hf⟩ := xbd hf
    obtain ⟨σ14, e13, hf⟩ := xbd hf
    refine ww_callVv (pc := 31) (as := [.int x2]) (st := []) C (k_X8_addWord (l := gl G) (E := gE G) (hb := gB G) (σ := σ9) e13) rfl (by decide) xc_X11_107 q447 qp0 (xck_spec e12) rfl (by decide) (xst4 (Nat.le_of_ble_eq_true rfl)) (m_X8_addWord e13).le (m_X8_addWord e13).lim dX11_feed_31 ?_
    refine ww_aload_n (pc := 34) C 0 dX11_feed_34 rfl ?_
    obtain ⟨z16, e15, hf⟩ := xbd hf
    refine gf_X11_20 (pc := 35) C e15 dX11_feed_35 ?_
    refine ww_iload_n (pc := 38) C 3 dX11_feed_38 rfl ?_
    obtain ⟨_, e17, hf⟩ := xbd hf
    obtain ⟨σ19, e18, hf⟩ := xbd hf
    refine ww_callVv (pc := 39) (as := [.int x3]) (st := []) C (k_X8_addWord (l := gl G) (E := gE G) (hb := gB G) (σ := σ14) e18) rfl (by decide) xc_X11_107 q447 qp0 (xck_spec e17) rfl (by decide) (xst4 (Nat.le_of_ble_eq_true rfl)) (m_X8_addWord e18).le (m_X8_addWord e18).lim dX11_feed_39 ?_
    refine ww_aload_n (pc := 42) C 0 dX11_feed_42 rfl ?_
    obtain ⟨z21, e20, hf⟩ := xbd hf
    refine gf_X11_20 (pc := 43) C e20 dX11_feed_43 ?_
    refine ww_iload (pc := 46) C 4 dX11_feed_46 rfl ?_
    obtain ⟨_, e22, hf⟩ := xbd hf
    obtain ⟨σ24, e23, hf⟩ := xbd hf
    refine ww_callVv (pc := 48) (as := [.int x4]) (st := []) C (k_X8_addWord (l := gl G) (E := gE G) (hb := gB G) (σ := σ19) e23) rfl (by decide) xc_X11_107 q447 qp0 (xck_spec e22) rfl (by decide) (xst4 (Nat.le_of_ble_eq_true rfl)) (m_X8_addWord e23).le (m_X8_addWord e23).lim dX11_feed_48 ?_
    refine ww_aload_n (pc := 51) C 0 dX11_feed_51 rfl ?_
    obtain ⟨z26, e25, hf⟩ := xbd hf
    refine gf_X11_20 (pc := 52) C e25 dX11_feed_52 ?_
    refine ww_iload (pc := 55) C 5 dX11_feed_55 rfl ?_
    obtain ⟨_, e27, hf⟩ := xbd hf
    obtain ⟨σ29, e28, hf⟩ := xbd hf
    refine ww_callVv (pc := 57) (as := [.int x5]) (st := []) C (k_X8_addWord (l := gl G) (E := gE G) (hb := gB G) (σ := σ24) e28) rfl (by decide) xc_X11_107 q447 qp0 (xck_spec e27) rfl (by decide) (xst4 (Nat.le_of_ble_eq_true rfl)) (m_X8_addWord e28).le (m_X8_addWord e28).lim dX11_feed_57 ?_
    refine ww_aload_n (pc := 60) C 0 dX11_feed_60 rfl ?_
    obtain ⟨z31, e30, hf⟩ := xbd hf
    refine gf_X11_20 (pc := 61) C e30 dX11_feed_61 ?_
    obtain ⟨v33, e32, hf⟩ := xbd hf
    refine gf_X11_102 (pc := 64) C e32 dX11_feed_64 ?_
    have hf := xsj hf
    subst hf
    exact ww_iret (pc := 67) C hk dX11_feed_67
  · have hf := xin q hf
    refine ww_iconst (pc := 16) (v := (-1 : Int32)) C dX11_feed_16 (by decide) ?_
    have hf := xsj hf
    subst hf
    exact ww_iret (pc := 17) C hk dX11_feed_17
theorem m_X11_feed {σ : XS} {r0 : Nat} {x1 : Int32} {x2 : Int32} {x3 : Int32} {x4 : Int32} {x5 : Int32} {x : Int32 × XS} (hf : f_X11_feed σ r0 x1 x2 x3 x4 x5 = some x) : xsame σ x.2 := by
  have hm := xsame.rf (σ := σ)
  obtain ⟨z2, e1, hf⟩ := xbd hf
  obtain ⟨v4, e3, hf⟩ := xbd hf
  by_cases q : (v4 + (20 : Int32)) ≤ (2000 : Int32)
  · have hf := xip q hf
    obtain ⟨z6, e5, hf⟩ := xbd hf
    obtain ⟨_, e7, hf⟩ := xbd hf
    obtain ⟨σ9, e8, hf⟩ := xbd hf
    have hm := hm.tr (m_X8_addWord e8)
    obtain ⟨z11, e10, hf⟩ := xbd hf
    obtain ⟨_, e12, hf⟩ := xbd hf
    obtain ⟨σ14, e13, hf⟩ := xbd hf
    have hm := hm.tr (m_X8_addWord e13)
    obtain ⟨z16, e15, hf⟩ := xbd hf
    obtain ⟨_, e17, hf⟩ := xbd hf
    obtain ⟨σ19, e18, hf⟩ := xbd hf
    have hm := hm.tr (m_X8_addWord e18)
    obtain ⟨z21, e20, hf⟩ := xbd hf
    obtain ⟨_, e22, hf⟩ := xbd hf
    obtain ⟨σ24, e23, hf⟩ := xbd hf
    have hm := hm.tr (m_X8_addWord e23)
    obtain ⟨z26, e25, hf⟩ := xbd hf
    obtain ⟨_, e27, hf⟩ := xbd hf
    obtain ⟨σ29, e28, hf⟩ := xbd hf
    have hm := hm.tr (m_X8_addWord e28)
    obtain ⟨z31, e30, hf⟩ := xbd hf
    obtain ⟨v33, e32, hf⟩ := xbd hf
    have hf := xsj hf
    subst hf
    exact hm
  · have hf := xin q hf
    have hf := xsj hf
    subst hf
    exact hm
theorem k_X11_feed {l : Launch} {E : XD} {hb : Nat} {σ : XS} {r0 : Nat} {x1 : Int32} {x2 : Int32} {x3 : Int32} {x4 : Int32} {x5 : Int32} {x : Int32 × XS} (h : f_X11_feed σ r0 x1 x2 x3 x4 x5 = some x) : XM l yX11_feed cX11_feed 6 (some .int) 1 22 E hb [.ref (hb + r0), .int x1, .int x2, .int x3, .int x4, .int x5] σ (some (.int x.1)) x.2 := by
  refine xm_of (by decide) (Nat.le_of_ble_eq_true rfl) (m_X11_feed h).le (fun G hG C hl hQ => ?_)
  obtain ⟨rfl, rfl, rfl, hN⟩ := hG
  exact s_X11_feed_e C h hQ
noncomputable def f_X6_setBond (σ : XS) (r0 : Nat) (x1 : Int32) (x2 : Int32) : Option XS := if x1 < 0 then (some σ) else (xgR σ r0 6 0).bind fun z2 => (xal σ z2).bind fun v4 => if v4 ≤ x1 then (some σ) else (xgR σ r0 6 0).bind fun z6 => (xsI σ 20 z6 x1 x2).bind fun σ8 => some σ8
theorem s_X6_setBond_e {G : XG} (C : XC G cX6_setBond RX6 none 3 0 0) {σ : XS} {r0 : Nat} {x1 : Int32} {x2 : Int32} {x : XS} (hf : f_X6_setBond σ r0 x1 x2 = some x) (hk : XEnd G none x) : WW G 0 [(0, .ref (gB G + r0)), (1, .int x1), (2, .int x2)] [] σ := by
  refine ww_iload_n (pc := 0) C 1 dX6_setBond_0 rfl ?_
  refine ww_if_lt (pc := 1) (tgt := 20) C dX6_setBond_1 (by decide) (fun q => ?_) (fun q => ?_)
  · have hf := xip q hf
    have hf := xsj hf
    subst hf
    exact ww_vret (pc := 20) C hk dX6_setBond_20
  · have hf := xin q hf
    refine ww_iload_n (pc := 4) C 1 dX6_setBond_4 rfl ?_
    refine ww_aload_n (pc := 5) C 0 dX6_setBond_5 rfl ?_
    obtain ⟨z2, e1, hf⟩ := xbd hf
    refine gf_X6_9 (pc := 6) C e1 dX6_setBond_6 ?_
    obtain ⟨v4, e3, hf⟩ := xbd hf
    refine ww_alen (pc := 9) C e3 dX6_setBond_9 ?_
    refine ww_icmp_ge (pc := 10) (tgt := 20) C dX6_setBond_10 (by decide) (fun q => ?_) (fun q => ?_)
    · have hf := xip q hf
      have hf := xsj hf
      subst hf
      exact ww_vret (pc := 20) C hk dX6_setBond_20
    · have hf := xin q hf
      refine ww_aload_n (pc := 13) C 0 dX6_setBond_13 rfl ?_
      obtain ⟨z6, e5, hf⟩ := xbd hf
      refine gf_X6_9 (pc := 14) C e5 dX6_setBond_14 ?_
      refine ww_iload_n (pc := 17) C 1 dX6_setBond_17 rfl ?_
      refine ww_iload_n (pc := 18) C 2 dX6_setBond_18 rfl ?_
      obtain ⟨σ8, e7, hf⟩ := xbd hf
      refine ww_iast (pc := 19) C e7 dX6_setBond_19 ?_
      have hf := xsj hf
      subst hf
      exact ww_vret (pc := 20) C hk dX6_setBond_20
theorem m_X6_setBond {σ : XS} {r0 : Nat} {x1 : Int32} {x2 : Int32} {x : XS} (hf : f_X6_setBond σ r0 x1 x2 = some x) : xsame σ x := by
  have hm := xsame.rf (σ := σ)
  by_cases q : x1 < 0
  · have hf := xip q hf
    have hf := xsj hf
    subst hf
    exact hm
  · have hf := xin q hf
    obtain ⟨z2, e1, hf⟩ := xbd hf
    obtain ⟨v4, e3, hf⟩ := xbd hf
    by_cases q : v4 ≤ x1
    · have hf := xip q hf
      have hf := xsj hf
      subst hf
      exact hm
    · have hf := xin q hf
      obtain ⟨z6, e5, hf⟩ := xbd hf
      obtain ⟨σ8, e7, hf⟩ := xbd hf
      have hm := hm.tr (xsI_same e7)
      have hf := xsj hf
      subst hf
      exact hm
theorem k_X6_setBond {l : Launch} {E : XD} {hb : Nat} {σ : XS} {r0 : Nat} {x1 : Int32} {x2 : Int32} {x : XS} (h : f_X6_setBond σ r0 x1 x2 = some x) : XM l yX6_setBond cX6_setBond 3 none 0 0 E hb [.ref (hb + r0), .int x1, .int x2] σ none x := by
  refine xm_of (by decide) (Nat.le_of_ble_eq_true rfl) (m_X6_setBond h).le (fun G hG C hl hQ => ?_)
  obtain ⟨rfl, rfl, rfl, hN⟩ := hG
  exact s_X6_setBond_e C h hQ
noncomputable def f_X11_glass_j85 (σ : XS) (r0 : Nat) (w2 : Int64) (x4 : Int32) (t0 : Nat) (t1 : Int32) (t2 : Int32) : Option ((Int64 × Int32 × XS) ⊕ (Int32 × XS)) := (xck σ t0 6).bind fun _ => (f_X6_setBond σ t0 t1 t2).bind fun σ3 => some (.inl (w2, x4 + (1 : Int32), σ3))
noncomputable def f_X11_glass_b40 (r0 : Nat) : Int64 × Int32 × XS → Option ((Int64 × Int32 × XS) ⊕ (Int32 × XS)) := fun a => match a with
  | (w2, x4, σ) => if (32 : Int32) ≤ x4 then (((xck σ r0 11).bind fun _ => (f_X11_stampTies σ r0).bind fun σ3 => some ((1 : Int32), σ3)).map .inr) else (xgR σ r0 11 2).bind fun z2 => (xck σ z2 3).bind fun _ => (f_X3_endAt σ z2 x4).bind fun v5 => if v5 = (-1 : Int32) then (some (.inl (w2, x4 + (1 : Int32), σ))) else (f_X11_nextLot w2).bind fun v7 => (xgR σ r0 11 3).bind fun z9 => (f_X11_lotOf v7 (2 : Int32)).bind fun v11 => if v11 = (1 : Int32) then (f_X11_glass_j85 σ r0 v7 x4 z9 x4 (1 : Int32)) else f_X11_glass_j85 σ r0 v7 x4 z9 x4 (-1 : Int32)
noncomputable def f_X11_glass (σ : XS) (r0 : Nat) (x1 : Int32) : Option (Int32 × XS) := if x1 < 0 then (some ((0 : Int32), σ)) else if (9999 : Int32) < x1 then (some ((0 : Int32), σ)) else (xgR σ r0 11 2).bind fun z2 => (xgI σ z2 3 7).bind fun v4 => if v4 = 0 then (some ((0 : Int32), σ)) else (xgR σ r0 11 4).bind fun z6 => (xgR σ r0 11 3).bind fun z8 => (xck σ z6 5).bind fun _ => (f_X5_keep σ z6 z8).bind fun σ11 => xloop (f_X11_glass_b40 r0) (x1.toInt64, (0 : Int32), σ11)
theorem s_X11_glass_j85 {G : XG} (C : XC G cX11_glass RX11 (some .boolean) 5 3 82) {σ : XS} {r0 : Nat} {w2 : Int64} {x4 : Int32} {t0 : Nat} {t1 : Int32} {t2 : Int32} {x : ((Int64 × Int32 × XS) ⊕ (Int32 × XS))} (hf : f_X11_glass_j85 σ r0 w2 x4 t0 t1 t2 = some x) (hk : (∀ a' : Int64 × Int32 × XS, x = .inl a' → WW G 40 [(0, .ref (gB G + r0)), (2, .long a'.1), (4, .int a'.2.1)] [] a'.2.2) ∧ (∀ b1 : Int32 × XS, x = .inr b1 → XEnd G (some (.int b1.1)) b1.2)) : WW G 85 [(0, .ref (gB G + r0)), (2, .long w2), (4, .int x4)] [.int t2, .int t1, .ref (gB G + t0)] σ := by
  obtain ⟨_, e1, hf⟩ := xbd hf
  obtain ⟨σ3, e2, hf⟩ := xbd hf
  refine ww_callVv (pc := 85) (as := [.int t1, .int t2]) (st := []) C (k_X6_setBond (l := gl G) (E := gE G) (hb := gB G) (σ := σ) e2) rfl (by decide) xc_X11_172 q632 qp24 (xck_spec e1) rfl (by decide) (xst4 (Nat.le_of_ble_eq_true rfl)) (m_X6_setBond e2).le (m_X6_setBond e2).lim dX11_glass_85 ?_
  refine ww_iinc (pc := 88) (v := x4 + (1 : Int32)) (lv' := [(4, .int (x4 + (1 : Int32))), (0, .ref (gB G + r0)), (2, .long w2)]) C 2 dX11_glass_88 rfl (congrArg (fun z => x4 + z) (show Int32.ofInt (1) = (1 : Int32) by decide)) (by decide) rfl ?_
  refine ww_goto (pc := 91) (tgt := 40) C dX11_glass_91 (by decide) ?_
  have hf := xsj hf
  subst hf
  refine ww_sub [1, 2, 0] rfl ?_
  exact hk.1 (w2, x4 + (1 : Int32), σ3) rfl
theorem m_X11_glass_j85 {σ : XS} {r0 : Nat} {w2 : Int64} {x4 : Int32} {t0 : Nat} {t1 : Int32} {t2 : Int32} {x : ((Int64 × Int32 × XS) ⊕ (Int32 × XS))} (hf : f_X11_glass_j85 σ r0 w2 x4 t0 t1 t2 = some x) : (∀ a' : Int64 × Int32 × XS, x = .inl a' → xsame σ a'.2.2) ∧ (∀ b1 : Int32 × XS, x = .inr b1 → xsame σ b1.2) := by
  have hm := xsame.rf (σ := σ)
  obtain ⟨_, e1, hf⟩ := xbd hf
  obtain ⟨σ3, e2, hf⟩ := xbd hf
  have hm := hm.tr (m_X6_setBond e2)
  have hf := xsj hf
  subst hf
  exact ⟨fun a' e => (by have h9 := Sum.inl.inj e; subst h9; exact hm), fun b e => xnc1 e⟩
theorem m_X11_glass_l40 {r0 : Nat} {a : Int64 × Int32 × XS} {x : Int32 × XS} (hf : xloop (f_X11_glass_b40 r0) a = some x) : xsame a.2.2 x.2 := by
  refine xloop_ind (P := fun a => xsame a.2.2 x.2) (fun a y hf hc he => ?_) hf
  obtain ⟨w2, x4, σ⟩ := a
  have hy : (∀ a' : Int64 × Int32 × XS, y = .inl a' → xsame σ a'.2.2) ∧ (∀ b1 : Int32 × XS, y = .inr b1 → xsame σ b1.2) := by
    have hm := xsame.rf (σ := σ)
    by_cases q : (32 : Int32) ≤ x4
    · have hf := xip q hf
      obtain ⟨b0, hg, e9⟩ := xmj hf
      subst e9
      have hf := hg
      refine ⟨fun a' e => xnc2 e, fun b e => ?_⟩
      have h9 := Sum.inr.inj e
      subst h9
      obtain ⟨_, e1, hf⟩ := xbd hf
      obtain ⟨σ3, e2, hf⟩ := xbd hf
      have hm := hm.tr (m_X11_stampTies e2)
      have hf := xsj hf
      subst hf
      exact hm
    · have hf := xin q hf
      obtain ⟨z2, e1, hf⟩ := xbd hf
      obtain ⟨_, e3, hf⟩ := xbd hf
      obtain ⟨v5, e4, hf⟩ := xbd hf
      by_cases q : v5 = (-1 : Int32)
      · have hf := xip q hf
        have hf := xsj hf
        subst hf
        exact ⟨fun a' e => (by have h9 := Sum.inl.inj e; subst h9; exact hm), fun b e => xnc1 e⟩
      · have hf := xin q hf
        obtain ⟨v7, e6, hf⟩ := xbd hf
        obtain ⟨z9, e8, hf⟩ := xbd hf
        obtain ⟨v11, e10, hf⟩ := xbd hf
        by_cases q : v11 = (1 : Int32)
        · have hf := xip q hf
          exact ⟨fun a' e => hm.tr ((m_X11_glass_j85 hf).1 a' e), fun b1 eb1 => hm.tr ((m_X11_glass_j85 hf).2 b1 eb1)⟩
        · have hf := xin q hf
          exact ⟨fun a' e => hm.tr ((m_X11_glass_j85 hf).1 a' e), fun b1 eb1 => hm.tr ((m_X11_glass_j85 hf).2 b1 eb1)⟩
  cases y with
  | inl a' =>
    have h1 := hc a' rfl
    have hm := hy.1 a' rfl
    exact hm.tr (h1)
  | inr b =>
    have h1 := he b rfl
    subst h1
    exact hy.2 _ rfl
theorem s_X11_glass_l40 {G : XG} (C : XC G cX11_glass RX11 (some .boolean) 5 3 82) {r0 : Nat} {a : Int64 × Int32 × XS} {x : Int32 × XS} (hf : xloop (f_X11_glass_b40 r0) a = some x) (hk : XEnd G (some (.int x.1)) x.2) : WW G 40 [(0, .ref (gB G + r0)), (2, .long a.1), (4, .int a.2.1)] [] a.2.2 := by
  refine xloop_ind (P := fun a => WW G 40 [(0, .ref (gB G + r0)), (2, .long a.1), (4, .int a.2.1)] [] a.2.2) (fun a y hf hc he => ?_) hf
  obtain ⟨w2, x4, σ⟩ := a
  have hk : (∀ a' : Int64 × Int32 × XS, y = .inl a' → WW G 40 [(0, .ref (gB G + r0)), (2, .long a'.1), (4, .int a'.2.1)] [] a'.2.2) ∧ (∀ b1 : Int32 × XS, y = .inr b1 → XEnd G (some (.int b1.1)) b1.2) := ⟨hc, fun b e => by have h9 := he b e; subst h9; exact hk⟩
  refine ww_iload (pc := 40) C 2 dX11_glass_40 rfl ?_
  refine ww_bipush (pc := 42) (v := (32 : Int32)) C dX11_glass_42 (by decide) ?_
  refine ww_icmp_ge (pc := 44) (tgt := 94) C dX11_glass_44 (by decide) (fun q => ?_) (fun q => ?_)
  · have hf := xip q hf
    obtain ⟨b0, hg, e9⟩ := xmj hf
    subst e9
    have hf := hg
    have hk := hk.2 _ rfl
    refine ww_aload_n (pc := 94) C 0 dX11_glass_94 rfl ?_
    obtain ⟨_, e1, hf⟩ := xbd hf
    obtain ⟨σ3, e2, hf⟩ := xbd hf
    refine ww_callVv (pc := 95) (as := []) (st := []) C (k_X11_stampTies (l := gl G) (E := gE G) (hb := gB G) (σ := σ) e2) rfl (by decide) xc_X11_154 q683 qp35 (xck_spec e1) rfl (by decide) (xst4 (Nat.le_of_ble_eq_true rfl)) (m_X11_stampTies e2).le (m_X11_stampTies e2).lim dX11_glass_95 ?_
    refine ww_iconst (pc := 98) (v := (1 : Int32)) C dX11_glass_98 (by decide) ?_
    have hf := xsj hf
    subst hf
    exact ww_zret (pc := 99) C rfl hk dX11_glass_99
  · have hf := xin q hf
    refine ww_aload_n (pc := 47) C 0 dX11_glass_47 rfl ?_
    obtain ⟨z2, e1, hf⟩ := xbd hf
    refine gf_X11_24 (pc := 48) C e1 dX11_glass_48 ?_
    refine ww_iload (pc := 51) C 2 dX11_glass_51 rfl ?_
    obtain ⟨_, e3, hf⟩ := xbd hf
    obtain ⟨v5, e4, hf⟩ := xbd hf
    refine ww_callVi (pc := 53) (as := [.int x4]) (st := []) C (k_X3_endAt (l := gl G) (E := gE G) (hb := gB G) (σ := σ) e4) rfl (by decide) xc_X11_200 q703 qp38 (xck_spec e3) rfl (by decide) (xst4 (Nat.le_of_ble_eq_true rfl)) xsame.rf.le xsame.rf.lim dX11_glass_53 ?_
    refine ww_iconst (pc := 56) (v := (-1 : Int32)) C dX11_glass_56 (by decide) ?_
    refine ww_icmp_eq (pc := 57) (tgt := 88) C dX11_glass_57 (by decide) (fun q => ?_) (fun q => ?_)
    · have hf := xip q hf
      refine ww_iinc (pc := 88) (v := x4 + (1 : Int32)) (lv' := [(4, .int (x4 + (1 : Int32))), (0, .ref (gB G + r0)), (2, .long w2)]) C 2 dX11_glass_88 rfl (congrArg (fun z => x4 + z) (show Int32.ofInt (1) = (1 : Int32) by decide)) (by decide) rfl ?_
      refine ww_goto (pc := 91) (tgt := 40) C dX11_glass_91 (by decide) ?_
      have hf := xsj hf
      subst hf
      refine ww_sub [1, 2, 0] rfl ?_
      exact hk.1 (w2, x4 + (1 : Int32), σ) rfl
    · have hf := xin q hf
      refine ww_lload_n (pc := 60) C 1 dX11_glass_60 rfl ?_
      obtain ⟨v7, e6, hf⟩ := xbd hf
      refine ww_callSj (pc := 61) (as := [.long w2]) (st := []) C (k_X11_nextLot (l := gl G) (E := gE G) (hb := gB G) (σ := σ) e6) xc_X11_203 q755 rfl (by decide) (xst4 (Nat.le_of_ble_eq_true rfl)) xsame.rf.le xsame.rf.lim dX11_glass_61 ?_
      refine ww_lstore_n (pc := 64) (lv' := [(2, .long v7), (0, .ref (gB G + r0)), (4, .int x4)]) C dX11_glass_64 (by decide) rfl ?_
      refine ww_aload_n (pc := 65) C 1 dX11_glass_65 rfl ?_
      obtain ⟨z9, e8, hf⟩ := xbd hf
      refine gf_X11_31 (pc := 66) C e8 dX11_glass_66 ?_
      refine ww_iload (pc := 69) C 2 dX11_glass_69 rfl ?_
      refine ww_lload_n (pc := 71) C 0 dX11_glass_71 rfl ?_
      refine ww_iconst (pc := 72) (v := (2 : Int32)) C dX11_glass_72 (by decide) ?_
      obtain ⟨v11, e10, hf⟩ := xbd hf
      refine ww_callSi (pc := 73) (as := [.long v7, .int (2 : Int32)]) (st := [.int x4, .ref (gB G + z9)]) C (k_X11_lotOf (l := gl G) (E := gE G) (hb := gB G) (σ := σ) e10) xc_X11_207 q761 rfl (by decide) (xst4 (Nat.le_of_ble_eq_true rfl)) xsame.rf.le xsame.rf.lim dX11_glass_73 ?_
      refine ww_iconst (pc := 76) (v := (1 : Int32)) C dX11_glass_76 (by decide) ?_
      refine ww_icmp_ne (pc := 77) (tgt := 84) C dX11_glass_77 (by decide) (fun q => ?_) (fun q => ?_)
      · have hf := xin q hf
        refine ww_iconst (pc := 84) (v := (-1 : Int32)) C dX11_glass_84 (by decide) ?_
        refine ww_sub [1, 0, 2] rfl ?_
        exact s_X11_glass_j85 C hf hk
      · have hf := xip q hf
        refine ww_iconst (pc := 80) (v := (1 : Int32)) C dX11_glass_80 (by decide) ?_
        refine ww_goto (pc := 81) (tgt := 85) C dX11_glass_81 (by decide) ?_
        refine ww_sub [1, 0, 2] rfl ?_
        exact s_X11_glass_j85 C hf hk
theorem s_X11_glass_e {G : XG} (C : XC G cX11_glass RX11 (some .boolean) 5 3 82) {σ : XS} {r0 : Nat} {x1 : Int32} {x : Int32 × XS} (hf : f_X11_glass σ r0 x1 = some x) (hk : XEnd G (some (.int x.1)) x.2) : WW G 0 [(0, .ref (gB G + r0)), (1, .int x1)] [] σ := by
  refine ww_iload_n (pc := 0) C 1 dX11_glass_0 rfl ?_
  refine ww_if_lt (pc := 1) (tgt := 21) C dX11_glass_1 (by decide) (fun q => ?_) (fun q => ?_)
  · have hf := xip q hf
    refine ww_iconst (pc := 21) (v := (0 : Int32)) C dX11_glass_21 (by decide) ?_
    have hf := xsj hf
    subst hf
    exact ww_zret (pc := 22) C rfl hk dX11_glass_22
  · have hf := xin q hf
    refine ww_iload_n (pc := 4) C 1 dX11_glass_4 rfl ?_
    refine ww_sipush (pc := 5) (v := (9999 : Int32)) C dX11_glass_5 (by decide) ?_
    refine ww_icmp_gt (pc := 8) (tgt := 21) C dX11_glass_8 (by decide) (fun q => ?_) (fun q => ?_)
    · have hf := xip q hf
      refine ww_iconst (pc := 21) (v := (0 : Int32)) C dX11_glass_21 (by decide) ?_
      have hf := xsj hf
      subst hf
      exact ww_zret (pc := 22) C rfl hk dX11_glass_22
    · have hf := xin q hf
      refine ww_aload_n (pc := 11) C 0 dX11_glass_11 rfl ?_
      obtain ⟨z2, e1, hf⟩ := xbd hf
      refine gf_X11_24 (pc := 12) C e1 dX11_glass_12 ?_
      obtain ⟨v4, e3, hf⟩ := xbd hf
      refine gf_X11_197 (pc := 15) C e3 dX11_glass_15 ?_
      refine ww_if_ne (pc := 18) (tgt := 23) C dX11_glass_18 (by decide) (fun q => ?_) (fun q => ?_)
      · have hf := xin q hf
        refine ww_aload_n (pc := 23) C 0 dX11_glass_23 rfl ?_
        obtain ⟨z6, e5, hf⟩ := xbd hf
        refine gf_X11_38 (pc := 24) C e5 dX11_glass_24 ?_
        refine ww_aload_n (pc := 27) C 0 dX11_glass_27 rfl ?_
        obtain ⟨z8, e7, hf⟩ := xbd hf
        refine gf_X11_31 (pc := 28) C e7 dX11_glass_28 ?_
        obtain ⟨_, e9, hf⟩ := xbd hf
        obtain ⟨σ11, e10, hf⟩ := xbd hf
        refine ww_callVv (pc := 31) (as := [.ref (gB G + z8)]) (st := []) C (k_X5_keep (l := gl G) (E := gE G) (hb := gB G) (σ := σ) e10) rfl (by decide) xc_X11_169 q714 qp40 (xck_spec e9) rfl (by decide) (xst4 (Nat.le_of_ble_eq_true rfl)) (m_X5_keep e10).le (m_X5_keep e10).lim dX11_glass_31 ?_
        refine ww_iload_n (pc := 34) C 1 dX11_glass_34 rfl ?_
        refine ww_i2l (pc := 35) (v := x1.toInt64) C dX11_glass_35 rfl ?_
        refine ww_lstore_n (pc := 36) (lv' := [(2, .long x1.toInt64), (0, .ref (gB G + r0)), (1, .int x1)]) C dX11_glass_36 (by decide) rfl ?_
        refine ww_iconst (pc := 37) (v := (0 : Int32)) C dX11_glass_37 (by decide) ?_
        refine ww_istore (pc := 38) (lv' := [(4, .int (0 : Int32)), (2, .long x1.toInt64), (0, .ref (gB G + r0)), (1, .int x1)]) C dX11_glass_38 (by decide) rfl ?_
        refine ww_sub [2, 1, 0] rfl ?_
        exact s_X11_glass_l40 C (a := (x1.toInt64, (0 : Int32), σ11)) hf hk
      · have hf := xip q hf
        refine ww_iconst (pc := 21) (v := (0 : Int32)) C dX11_glass_21 (by decide) ?_
        have hf := xsj hf
        subst hf
        exact ww_zret (pc := 22) C rfl hk dX11_glass_22
theorem m_X11_glass {σ : XS} {r0 : Nat} {x1 : Int32} {x : Int32 × XS} (hf : f_X11_glass σ r0 x1 = some x) : xsame σ x.2 := by
  have hm := xsame.rf (σ := σ)
  by_cases q : x1 < 0
  · have hf := xip q hf
    have hf := xsj hf
    subst hf
    exact hm
  · have hf := xin q hf
    by_cases q : (9999 : Int32) < x1
    · have hf := xip q hf
      have hf := xsj hf
      subst hf
      exact hm
    · have hf := xin q hf
      obtain ⟨z2, e1, hf⟩ := xbd hf
      obtain ⟨v4, e3, hf⟩ := xbd hf
      by_cases q : v4 = 0
      · have hf := xip q hf
        have hf := xsj hf
        subst hf
        exact hm
      · have hf := xin q hf
        obtain ⟨z6, e5, hf⟩ := xbd hf
        obtain ⟨z8, e7, hf⟩ := xbd hf
        obtain ⟨_, e9, hf⟩ := xbd hf
        obtain ⟨σ11, e10, hf⟩ := xbd hf
        have hm := hm.tr (m_X5_keep e10)
        exact hm.tr (m_X11_glass_l40 (a := (x1.toInt64, (0 : Int32), σ11)) hf)
theorem k_X11_glass {l : Launch} {E : XD} {hb : Nat} {σ : XS} {r0 : Nat} {x1 : Int32} {x : Int32 × XS} (h : f_X11_glass σ r0 x1 = some x) : XM l yX11_glass cX11_glass 5 (some .boolean) 3 82 E hb [.ref (hb + r0), .int x1] σ (some (.int x.1)) x.2 := by
  refine xm_of (by decide) (Nat.le_of_ble_eq_true rfl) (m_X11_glass h).le (fun G hG C hl hQ => ?_)
  obtain ⟨rfl, rfl, rfl, hN⟩ := hG
  exact s_X11_glass_e C h hQ
noncomputable def f_X4_energyOf (σ : XS) (r0 : Nat) (x1 : Int32) : Option Int32 := if x1 < 0 then (some (0 : Int32)) else (xgI σ r0 4 4).bind fun v2 => if v2 ≤ x1 then (some (0 : Int32)) else (xgR σ r0 4 3).bind fun z4 => (xal σ z4).bind fun v6 => if v6 ≤ x1 then (some (0 : Int32)) else (xgR σ r0 4 3).bind fun z8 => (xaI σ 20 z8 x1).bind fun v10 => some v10
theorem s_X4_energyOf_e {G : XG} (C : XC G cX4_energyOf RX4 (some .int) 2 0 0) {σ : XS} {r0 : Nat} {x1 : Int32} {x : Int32} (hf : f_X4_energyOf σ r0 x1 = some x) (hk : XEnd G (some (.int x)) σ) : WW G 0 [(0, .ref (gB G + r0)), (1, .int x1)] [] σ := by
  refine ww_iload_n (pc := 0) C 1 dX4_energyOf_0 rfl ?_
  refine ww_if_lt (pc := 1) (tgt := 30) C dX4_energyOf_1 (by decide) (fun q => ?_) (fun q => ?_)
  · have hf := xip q hf
    refine ww_iconst (pc := 30) (v := (0 : Int32)) C dX4_energyOf_30 (by decide) ?_
    have hf := xsj hf
    subst hf
    exact ww_iret (pc := 31) C hk dX4_energyOf_31
  · have hf := xin q hf
    refine ww_iload_n (pc := 4) C 1 dX4_energyOf_4 rfl ?_
    refine ww_aload_n (pc := 5) C 0 dX4_energyOf_5 rfl ?_
    obtain ⟨v2, e1, hf⟩ := xbd hf
    refine gf_X4_54 (pc := 6) C e1 dX4_energyOf_6 ?_
    refine ww_icmp_ge (pc := 9) (tgt := 30) C dX4_energyOf_9 (by decide) (fun q => ?_) (fun q => ?_)
    · have hf := xip q hf
      refine ww_iconst (pc := 30) (v := (0 : Int32)) C dX4_energyOf_30 (by decide) ?_
      have hf := xsj hf
      subst hf
      exact ww_iret (pc := 31) C hk dX4_energyOf_31
    · have hf := xin q hf
      refine ww_iload_n (pc := 12) C 1 dX4_energyOf_12 rfl ?_
      refine ww_aload_n (pc := 13) C 0 dX4_energyOf_13 rfl ?_
      obtain ⟨z4, e3, hf⟩ := xbd hf
      refine gf_X4_21 (pc := 14) C e3 dX4_energyOf_14 ?_
      obtain ⟨v6, e5, hf⟩ := xbd hf
      refine ww_alen (pc := 17) C e5 dX4_energyOf_17 ?_
      refine ww_icmp_ge (pc := 18) (tgt := 30) C dX4_energyOf_18 (by decide) (fun q => ?_) (fun q => ?_)
      · have hf := xip q hf
        refine ww_iconst (pc := 30) (v := (0 : Int32)) C dX4_energyOf_30 (by decide) ?_
        have hf := xsj hf
        subst hf
        exact ww_iret (pc := 31) C hk dX4_energyOf_31
      · have hf := xin q hf
        refine ww_aload_n (pc := 21) C 0 dX4_energyOf_21 rfl ?_
        obtain ⟨z8, e7, hf⟩ := xbd hf
        refine gf_X4_21 (pc := 22) C e7 dX4_energyOf_22 ?_
        refine ww_iload_n (pc := 25) C 1 dX4_energyOf_25 rfl ?_
        obtain ⟨v10, e9, hf⟩ := xbd hf
        refine ww_iald (pc := 26) C e9 dX4_energyOf_26 ?_
        refine ww_goto (pc := 27) (tgt := 31) C dX4_energyOf_27 (by decide) ?_
        have hf := xsj hf
        subst hf
        exact ww_iret (pc := 31) C hk dX4_energyOf_31
theorem k_X4_energyOf {l : Launch} {E : XD} {hb : Nat} {σ : XS} {r0 : Nat} {x1 : Int32} {x : Int32} (h : f_X4_energyOf σ r0 x1 = some x) : XM l yX4_energyOf cX4_energyOf 2 (some .int) 0 0 E hb [.ref (hb + r0), .int x1] σ (some (.int x)) σ := by
  refine xm_of (by decide) (Nat.le_of_ble_eq_true rfl) ⟨Nat.le_refl _, Nat.le_refl _⟩ (fun G hG C hl hQ => ?_)
  obtain ⟨rfl, rfl, rfl, hN⟩ := hG
  exact s_X4_energyOf_e C h hQ
noncomputable def f_X4_waysOf (σ : XS) (r0 : Nat) (x1 : Int32) : Option Int32 := (f_X4_isEnergy x1).bind fun v2 => if v2 = 0 then (some (0 : Int32)) else (xgR σ r0 4 0).bind fun z4 => (xaI σ 20 z4 (x1 + (144 : Int32))).bind fun v6 => some v6
theorem s_X4_waysOf_e {G : XG} (C : XC G cX4_waysOf RX4 (some .int) 2 1 20) {σ : XS} {r0 : Nat} {x1 : Int32} {x : Int32} (hf : f_X4_waysOf σ r0 x1 = some x) (hk : XEnd G (some (.int x)) σ) : WW G 0 [(0, .ref (gB G + r0)), (1, .int x1)] [] σ := by
  refine ww_iload_n (pc := 0) C 1 dX4_waysOf_0 rfl ?_
  obtain ⟨v2, e1, hf⟩ := xbd hf
  refine ww_callSi (pc := 1) (as := [.int x1]) (st := []) C (k_X4_isEnergy (l := gl G) (E := gE G) (hb := gB G) (σ := σ) e1) xc_X4_58 q909 rfl (by decide) (xst4 (Nat.le_of_ble_eq_true rfl)) xsame.rf.le xsame.rf.lim dX4_waysOf_1 ?_
  refine ww_if_eq (pc := 4) (tgt := 20) C dX4_waysOf_4 (by decide) (fun q => ?_) (fun q => ?_)
  · have hf := xip q hf
    refine ww_iconst (pc := 20) (v := (0 : Int32)) C dX4_waysOf_20 (by decide) ?_
    have hf := xsj hf
    subst hf
    exact ww_iret (pc := 21) C hk dX4_waysOf_21
  · have hf := xin q hf
    refine ww_aload_n (pc := 7) C 0 dX4_waysOf_7 rfl ?_
    obtain ⟨z4, e3, hf⟩ := xbd hf
    refine gf_X4_9 (pc := 8) C e3 dX4_waysOf_8 ?_
    refine ww_iload_n (pc := 11) C 1 dX4_waysOf_11 rfl ?_
    refine ww_sipush (pc := 12) (v := (144 : Int32)) C dX4_waysOf_12 (by decide) ?_
    refine ww_iadd (pc := 15) C dX4_waysOf_15 ?_
    obtain ⟨v6, e5, hf⟩ := xbd hf
    refine ww_iald (pc := 16) C e5 dX4_waysOf_16 ?_
    refine ww_goto (pc := 17) (tgt := 21) C dX4_waysOf_17 (by decide) ?_
    have hf := xsj hf
    subst hf
    exact ww_iret (pc := 21) C hk dX4_waysOf_21
theorem k_X4_waysOf {l : Launch} {E : XD} {hb : Nat} {σ : XS} {r0 : Nat} {x1 : Int32} {x : Int32} (h : f_X4_waysOf σ r0 x1 = some x) : XM l yX4_waysOf cX4_waysOf 2 (some .int) 1 20 E hb [.ref (hb + r0), .int x1] σ (some (.int x)) σ := by
  refine xm_of (by decide) (Nat.le_of_ble_eq_true rfl) ⟨Nat.le_refl _, Nat.le_refl _⟩ (fun G hG C hl hQ => ?_)
  obtain ⟨rfl, rfl, rfl, hN⟩ := hG
  exact s_X4_waysOf_e C h hQ
noncomputable def f_X4_leastOf (σ : XS) (r0 : Nat) (x1 : Int32) : Option Int32 := (f_X4_isEnergy x1).bind fun v2 => if v2 = 0 then (some (0 : Int32)) else (xgR σ r0 4 1).bind fun z4 => (xaI σ 20 z4 (x1 + (144 : Int32))).bind fun v6 => some v6
theorem s_X4_leastOf_e {G : XG} (C : XC G cX4_leastOf RX4 (some .int) 2 1 20) {σ : XS} {r0 : Nat} {x1 : Int32} {x : Int32} (hf : f_X4_leastOf σ r0 x1 = some x) (hk : XEnd G (some (.int x)) σ) : WW G 0 [(0, .ref (gB G + r0)), (1, .int x1)] [] σ := by
  refine ww_iload_n (pc := 0) C 1 dX4_leastOf_0 rfl ?_
  obtain ⟨v2, e1, hf⟩ := xbd hf
  refine ww_callSi (pc := 1) (as := [.int x1]) (st := []) C (k_X4_isEnergy (l := gl G) (E := gE G) (hb := gB G) (σ := σ) e1) xc_X4_58 q909 rfl (by decide) (xst4 (Nat.le_of_ble_eq_true rfl)) xsame.rf.le xsame.rf.lim dX4_leastOf_1 ?_
  refine ww_if_eq (pc := 4) (tgt := 20) C dX4_leastOf_4 (by decide) (fun q => ?_) (fun q => ?_)
  · have hf := xip q hf
    refine ww_iconst (pc := 20) (v := (0 : Int32)) C dX4_leastOf_20 (by decide) ?_
    have hf := xsj hf
    subst hf
    exact ww_iret (pc := 21) C hk dX4_leastOf_21
  · have hf := xin q hf
    refine ww_aload_n (pc := 7) C 0 dX4_leastOf_7 rfl ?_
    obtain ⟨z4, e3, hf⟩ := xbd hf
    refine gf_X4_15 (pc := 8) C e3 dX4_leastOf_8 ?_
    refine ww_iload_n (pc := 11) C 1 dX4_leastOf_11 rfl ?_
    refine ww_sipush (pc := 12) (v := (144 : Int32)) C dX4_leastOf_12 (by decide) ?_
    refine ww_iadd (pc := 15) C dX4_leastOf_15 ?_
    obtain ⟨v6, e5, hf⟩ := xbd hf
    refine ww_iald (pc := 16) C e5 dX4_leastOf_16 ?_
    refine ww_goto (pc := 17) (tgt := 21) C dX4_leastOf_17 (by decide) ?_
    have hf := xsj hf
    subst hf
    exact ww_iret (pc := 21) C hk dX4_leastOf_21
theorem k_X4_leastOf {l : Launch} {E : XD} {hb : Nat} {σ : XS} {r0 : Nat} {x1 : Int32} {x : Int32} (h : f_X4_leastOf σ r0 x1 = some x) : XM l yX4_leastOf cX4_leastOf 2 (some .int) 1 20 E hb [.ref (hb + r0), .int x1] σ (some (.int x)) σ := by
  refine xm_of (by decide) (Nat.le_of_ble_eq_true rfl) ⟨Nat.le_refl _, Nat.le_refl _⟩ (fun G hG C hl hQ => ?_)
  obtain ⟨rfl, rfl, rfl, hN⟩ := hG
  exact s_X4_leastOf_e C h hQ
noncomputable def f_X11_ground_j4 (σ : XS) (x1 : Int32) (t0 : Nat) : Option (Int32 × XS) := (xgI σ t0 4 4).bind fun v2 => if v2 = 0 then (some ((-100000 : Int32), σ)) else (xck σ t0 4).bind fun _ => (f_X4_energyOf σ t0 (0 : Int32)).bind fun v5 => xsw x1 (0) [some (v5, σ), (xck σ t0 4).bind fun _ => (f_X4_waysOf σ t0 v5).bind fun v8 => some (v8, σ), (xck σ t0 4).bind fun _ => (f_X4_leastOf σ t0 v5).bind fun v8 => some (v8, σ), (xgI σ t0 4 4).bind fun v7 => if v7 ≤ (1 : Int32) then (some ((-2 : Int32), σ)) else (xck σ t0 4).bind fun _ => (f_X4_energyOf σ t0 (1 : Int32)).bind fun v10 => some (v10 - v5, σ)] (some ((-100000 : Int32), σ))
noncomputable def f_X11_ground (σ : XS) (r0 : Nat) (x1 : Int32) : Option (Int32 × XS) := (xck σ r0 11).bind fun _ => (f_X11_levelsNow σ r0).bind fun (z4, σ3) => (xnz z4).bind fun _ => f_X11_ground_j4 σ3 x1 z4
theorem s_X11_ground_j4 {G : XG} (C : XC G cX11_ground RX11 (some .int) 4 5 115) {σ : XS} {x1 : Int32} {t0 : Nat} {x : Int32 × XS} (hf : f_X11_ground_j4 σ x1 t0 = some x) (hk : XEnd G (some (.int x.1)) x.2 ∧ XUp G x.2) : WW G 4 [(1, .int x1)] [.ref (gB G + t0)] σ := by
  refine ww_astore_n (pc := 4) (lv' := [(2, .ref (gB G + t0)), (1, .int x1)]) C dX11_ground_4 (by decide) rfl ?_
  refine ww_aload_n (pc := 5) C 0 dX11_ground_5 rfl ?_
  obtain ⟨v2, e1, hf⟩ := xbd hf
  refine gf_X11_255 (pc := 6) C e1 dX11_ground_6 ?_
  refine ww_if_ne (pc := 9) (tgt := 15) C dX11_ground_9 (by decide) (fun q => ?_) (fun q => ?_)
  · have hf := xin q hf
    refine ww_aload_n (pc := 15) C 0 dX11_ground_15 rfl ?_
    refine ww_iconst (pc := 16) (v := (0 : Int32)) C dX11_ground_16 (by decide) ?_
    obtain ⟨_, e3, hf⟩ := xbd hf
    obtain ⟨v5, e4, hf⟩ := xbd hf
    refine ww_callVi (pc := 17) (as := [.int (0 : Int32)]) (st := []) C (k_X4_energyOf (l := gl G) (E := gE G) (hb := gB G) (σ := σ) e4) rfl (by decide) xc_X11_261 q902 qp68 (xck_spec e3) rfl (by decide) (xst4 (Nat.le_of_ble_eq_true rfl)) xsame.rf.le xsame.rf.lim dX11_ground_17 ?_
    refine ww_istore_n (pc := 20) (lv' := [(3, .int v5), (2, .ref (gB G + t0)), (1, .int x1)]) C dX11_ground_20 (by decide) rfl ?_
    refine ww_iload_n (pc := 21) C 2 dX11_ground_21 rfl ?_
    refine ww_table (pc := 22) C dX11_ground_22 (fun k hk1 hk2 => ?_) (fun ho => ?_)
    · rcases (by omega : k = 0 ∨ k = 1 ∨ k = 2 ∨ k = 3) with rfl | rfl | rfl | rfl
      · refine ⟨52, 30, rfl, by decide, ?_⟩
        have hf := xsw_in 0 hk1 rfl hf
        refine ww_iload_n (pc := 52) C 0 dX11_ground_52 rfl ?_
        have hf := xsj hf
        subst hf
        exact ww_iret (pc := 53) C hk.1 dX11_ground_53
      · refine ⟨54, 32, rfl, by decide, ?_⟩
        have hf := xsw_in 1 hk1 rfl hf
        refine ww_aload_n (pc := 54) C 1 dX11_ground_54 rfl ?_
        refine ww_iload_n (pc := 55) C 0 dX11_ground_55 rfl ?_
        obtain ⟨_, e6, hf⟩ := xbd hf
        obtain ⟨v8, e7, hf⟩ := xbd hf
        refine ww_callVi (pc := 56) (as := [.int v5]) (st := []) C (k_X4_waysOf (l := gl G) (E := gE G) (hb := gB G) (σ := σ) e7) rfl (by decide) xc_X11_264 q906 qp69 (xck_spec e6) rfl (by decide) (xst4 (Nat.le_of_ble_eq_true rfl)) xsame.rf.le xsame.rf.lim dX11_ground_56 ?_
        have hf := xsj hf
        subst hf
        exact ww_iret (pc := 59) C hk.1 dX11_ground_59
      · refine ⟨60, 38, rfl, by decide, ?_⟩
        have hf := xsw_in 2 hk1 rfl hf
        refine ww_aload_n (pc := 60) C 1 dX11_ground_60 rfl ?_
        refine ww_iload_n (pc := 61) C 0 dX11_ground_61 rfl ?_
        obtain ⟨_, e6, hf⟩ := xbd hf
        obtain ⟨v8, e7, hf⟩ := xbd hf
        refine ww_callVi (pc := 62) (as := [.int v5]) (st := []) C (k_X4_leastOf (l := gl G) (E := gE G) (hb := gB G) (σ := σ) e7) rfl (by decide) xc_X11_267 q913 qp70 (xck_spec e6) rfl (by decide) (xst4 (Nat.le_of_ble_eq_true rfl)) xsame.rf.le xsame.rf.lim dX11_ground_62 ?_
        have hf := xsj hf
        subst hf
        exact ww_iret (pc := 65) C hk.1 dX11_ground_65
      · refine ⟨66, 44, rfl, by decide, ?_⟩
        have hf := xsw_in 3 hk1 rfl hf
        refine ww_aload_n (pc := 66) C 1 dX11_ground_66 rfl ?_
        obtain ⟨v7, e6, hf⟩ := xbd hf
        refine gf_X11_255 (pc := 67) C e6 dX11_ground_67 ?_
        refine ww_iconst (pc := 70) (v := (1 : Int32)) C dX11_ground_70 (by decide) ?_
        refine ww_icmp_le (pc := 71) (tgt := 84) C dX11_ground_71 (by decide) (fun q => ?_) (fun q => ?_)
        · have hf := xip q hf
          refine ww_bipush (pc := 84) (v := (-2 : Int32)) C dX11_ground_84 (by decide) ?_
          have hf := xsj hf
          subst hf
          exact ww_iret (pc := 86) C hk.1 dX11_ground_86
        · have hf := xin q hf
          refine ww_aload_n (pc := 74) C 1 dX11_ground_74 rfl ?_
          refine ww_iconst (pc := 75) (v := (1 : Int32)) C dX11_ground_75 (by decide) ?_
          obtain ⟨_, e8, hf⟩ := xbd hf
          obtain ⟨v10, e9, hf⟩ := xbd hf
          refine ww_callVi (pc := 76) (as := [.int (1 : Int32)]) (st := []) C (k_X4_energyOf (l := gl G) (E := gE G) (hb := gB G) (σ := σ) e9) rfl (by decide) xc_X11_261 q902 qp68 (xck_spec e8) rfl (by decide) (xst4 (Nat.le_of_ble_eq_true rfl)) xsame.rf.le xsame.rf.lim dX11_ground_76 ?_
          refine ww_iload_n (pc := 79) C 0 dX11_ground_79 rfl ?_
          refine ww_isub (pc := 80) C dX11_ground_80 ?_
          refine ww_goto (pc := 81) (tgt := 86) C dX11_ground_81 (by decide) ?_
          have hf := xsj hf
          subst hf
          exact ww_iret (pc := 86) C hk.1 dX11_ground_86
    · refine ⟨87, by decide, ?_⟩
      have hf := xsw_out ho rfl hf
      refine ww_ldc (pc := 87) C q801 dX11_ground_87 ?_
      have hf := xsj hf
      subst hf
      exact ww_iret (pc := 89) C hk.1 dX11_ground_89
  · have hf := xip q hf
    refine ww_ldc (pc := 12) C q801 dX11_ground_12 ?_
    have hf := xsj hf
    subst hf
    exact ww_iret (pc := 14) C hk.1 dX11_ground_14
theorem m_X11_ground_j4 {σ : XS} {x1 : Int32} {t0 : Nat} {x : Int32 × XS} (hf : f_X11_ground_j4 σ x1 t0 = some x) : xext σ x.2 := by
  have hm := xext.rf (σ := σ)
  obtain ⟨v2, e1, hf⟩ := xbd hf
  by_cases q : v2 = 0
  · have hf := xip q hf
    have hf := xsj hf
    subst hf
    exact hm
  · have hf := xin q hf
    obtain ⟨_, e3, hf⟩ := xbd hf
    obtain ⟨v5, e4, hf⟩ := xbd hf
    by_cases ho : (x1).toInt < 0 ∨ 3 < (x1).toInt
    · have hf := xsw_out ho rfl hf
      have hf := xsj hf
      subst hf
      exact hm
    · rcases (by omega : (x1).toInt = 0 + ((0 : Nat) : Int) ∨ (x1).toInt = 0 + ((1 : Nat) : Int) ∨ (x1).toInt = 0 + ((2 : Nat) : Int) ∨ (x1).toInt = 0 + ((3 : Nat) : Int)) with hk1 | hk1 | hk1 | hk1
      · have hf := xsw_in 0 hk1 rfl hf
        have hf := xsj hf
        subst hf
        exact hm
      · have hf := xsw_in 1 hk1 rfl hf
        obtain ⟨_, e6, hf⟩ := xbd hf
        obtain ⟨v8, e7, hf⟩ := xbd hf
        have hf := xsj hf
        subst hf
        exact hm
      · have hf := xsw_in 2 hk1 rfl hf
        obtain ⟨_, e6, hf⟩ := xbd hf
        obtain ⟨v8, e7, hf⟩ := xbd hf
        have hf := xsj hf
        subst hf
        exact hm
      · have hf := xsw_in 3 hk1 rfl hf
        obtain ⟨v7, e6, hf⟩ := xbd hf
        by_cases q : v7 ≤ (1 : Int32)
        · have hf := xip q hf
          have hf := xsj hf
          subst hf
          exact hm
        · have hf := xin q hf
          obtain ⟨_, e8, hf⟩ := xbd hf
          obtain ⟨v10, e9, hf⟩ := xbd hf
          have hf := xsj hf
          subst hf
          exact hm
theorem s_X11_ground_e {G : XG} (C : XC G cX11_ground RX11 (some .int) 4 5 115) {σ : XS} {r0 : Nat} {x1 : Int32} {x : Int32 × XS} (hf : f_X11_ground σ r0 x1 = some x) (hk : XEnd G (some (.int x.1)) x.2 ∧ XUp G x.2) : WW G 0 [(0, .ref (gB G + r0)), (1, .int x1)] [] σ := by
  refine ww_aload_n (pc := 0) C 0 dX11_ground_0 rfl ?_
  obtain ⟨_, e1, hf⟩ := xbd hf
  obtain ⟨⟨z4, σ3⟩, e2, hf⟩ := xbd hf
  dsimp only at hf
  obtain ⟨_, e5, hf⟩ := xbd hf
  refine ww_callVr (pc := 1) (as := []) (st := []) C (k_X11_levelsNow (l := gl G) (E := gE G) (hb := gB G) (σ := σ) e2) rfl (by decide) xc_X11_251 q846 qp56 (xck_spec e1) rfl (by decide) (xst4 (Nat.le_of_ble_eq_true rfl)) (m_X11_levelsNow e2).1 (fun q => by have hm9 := m_X11_ground_j4 hf; exact XLim.mid q (m_X11_levelsNow e2) hm9 hk.2) dX11_ground_1 ?_
  refine ww_nn (xnz_spec e5) ?_
  refine ww_sub [1] rfl ?_
  exact s_X11_ground_j4 C hf hk
theorem m_X11_ground {σ : XS} {r0 : Nat} {x1 : Int32} {x : Int32 × XS} (hf : f_X11_ground σ r0 x1 = some x) : xext σ x.2 := by
  have hm := xext.rf (σ := σ)
  obtain ⟨_, e1, hf⟩ := xbd hf
  obtain ⟨⟨z4, σ3⟩, e2, hf⟩ := xbd hf
  dsimp only at hf
  have hm := hm.tr (m_X11_levelsNow e2)
  obtain ⟨_, e5, hf⟩ := xbd hf
  exact hm.tr (m_X11_ground_j4 hf)
theorem k_X11_ground {l : Launch} {E : XD} {hb : Nat} {σ : XS} {r0 : Nat} {x1 : Int32} {x : Int32 × XS} (h : f_X11_ground σ r0 x1 = some x) : XM l yX11_ground cX11_ground 4 (some .int) 5 115 E hb [.ref (hb + r0), .int x1] σ (some (.int x.1)) x.2 := by
  refine xm_of (by decide) (Nat.le_of_ble_eq_true rfl) (m_X11_ground h).1 (fun G hG C hl hQ => ?_)
  obtain ⟨rfl, rfl, rfl, hN⟩ := hG
  exact s_X11_ground_e C h ⟨hQ, hl.2⟩
noncomputable def f_X11_heldWays_j39 (σ : XS) (r0 : Nat) (r1 : Nat) : Option (Nat × XS) := (xgR σ r1 7 1).bind fun z2 => (xgR σ r0 11 7).bind fun z4 => (xgR σ r1 7 0).bind fun z6 => (xck σ r0 11).bind fun _ => (f_X11_countWays σ r0 z2 z4 z6).bind fun σ9 => (xpI σ9 r1 7 3 (1 : Int32)).bind fun σ11 => (xgR σ11 r1 7 1).bind fun z13 => (xnz z13).bind fun _ => some (z13, σ11)
noncomputable def f_X11_heldWays (σ : XS) (r0 : Nat) (r1 : Nat) : Option (Nat × XS) := (xgI σ r1 7 3).bind fun v2 => if v2 = 0 then ((xgR σ r0 11 7).bind fun z4 => (xgR σ r0 11 2).bind fun z6 => (xgR σ r1 7 0).bind fun z8 => (xgR σ z8 6 0).bind fun z10 => (xgR σ r1 7 0).bind fun z12 => (xgR σ z12 6 1).bind fun z14 => (xgR σ r0 11 2).bind fun z16 => (xgI σ z16 3 7).bind fun v18 => (xck σ z4 2).bind fun _ => (f_X2_fill σ z4 z6 z10 z14 v18).bind fun σ21 => f_X11_heldWays_j39 σ21 r0 r1) else (xgR σ r1 7 1).bind fun z4 => (xnz z4).bind fun _ => some (z4, σ)
theorem s_X11_heldWays_j39 {G : XG} (C : XC G cX11_heldWays RX11 (some (.array .int)) 2 3 75) {σ : XS} {r0 : Nat} {r1 : Nat} {x : Nat × XS} (hf : f_X11_heldWays_j39 σ r0 r1 = some x) (hk : XEnd G (some (xrv (gB G) x.1)) x.2 ∧ XUp G x.2) : WW G 39 [(0, .ref (gB G + r0)), (1, .ref (gB G + r1))] [] σ := by
  refine ww_aload_n (pc := 39) C 0 dX11_heldWays_39 rfl ?_
  refine ww_aload_n (pc := 40) C 1 dX11_heldWays_40 rfl ?_
  obtain ⟨z2, e1, hf⟩ := xbd hf
  refine gf_X11_349 (pc := 41) C e1 dX11_heldWays_41 ?_
  refine ww_aload_n (pc := 44) C 0 dX11_heldWays_44 rfl ?_
  obtain ⟨z4, e3, hf⟩ := xbd hf
  refine gf_X11_56 (pc := 45) C e3 dX11_heldWays_45 ?_
  refine ww_aload_n (pc := 48) C 1 dX11_heldWays_48 rfl ?_
  obtain ⟨z6, e5, hf⟩ := xbd hf
  refine gf_X11_339 (pc := 49) C e5 dX11_heldWays_49 ?_
  obtain ⟨_, e7, hf⟩ := xbd hf
  obtain ⟨σ9, e8, hf⟩ := xbd hf
  refine ww_callVv (pc := 52) (as := [.ref (gB G + z2), .ref (gB G + z4), .ref (gB G + z6)]) (st := []) C (k_X11_countWays (l := gl G) (E := gE G) (hb := gB G) (σ := σ) e8) rfl (by decide) xc_X11_350 q1016 qp82 (xck_spec e7) rfl (by decide) (xst4 (Nat.le_of_ble_eq_true rfl)) (m_X11_countWays e8).le (m_X11_countWays e8).lim dX11_heldWays_52 ?_
  refine ww_aload_n (pc := 55) C 1 dX11_heldWays_55 rfl ?_
  refine ww_iconst (pc := 56) (v := (1 : Int32)) C dX11_heldWays_56 (by decide) ?_
  obtain ⟨σ11, e10, hf⟩ := xbd hf
  refine pf_X11_336 (pc := 57) C (Or.inr rfl) e10 dX11_heldWays_57 ?_
  refine ww_aload_n (pc := 60) C 1 dX11_heldWays_60 rfl ?_
  obtain ⟨z13, e12, hf⟩ := xbd hf
  refine gf_X11_349 (pc := 61) C e12 dX11_heldWays_61 ?_
  obtain ⟨_, e14, hf⟩ := xbd hf
  have hf := xsj hf
  subst hf
  exact ww_aret (pc := 64) C (Or.inr ⟨_, rfl⟩) (xnz_spec e14) hk.1 dX11_heldWays_64
theorem m_X11_heldWays_j39 {σ : XS} {r0 : Nat} {r1 : Nat} {x : Nat × XS} (hf : f_X11_heldWays_j39 σ r0 r1 = some x) : xext σ x.2 := by
  have hm := xext.rf (σ := σ)
  obtain ⟨z2, e1, hf⟩ := xbd hf
  obtain ⟨z4, e3, hf⟩ := xbd hf
  obtain ⟨z6, e5, hf⟩ := xbd hf
  obtain ⟨_, e7, hf⟩ := xbd hf
  obtain ⟨σ9, e8, hf⟩ := xbd hf
  have hm := hm.tr (m_X11_countWays e8).ext
  obtain ⟨σ11, e10, hf⟩ := xbd hf
  have hm := hm.tr (xpI_same e10).ext
  obtain ⟨z13, e12, hf⟩ := xbd hf
  obtain ⟨_, e14, hf⟩ := xbd hf
  have hf := xsj hf
  subst hf
  exact hm
theorem s_X11_heldWays_e {G : XG} (C : XC G cX11_heldWays RX11 (some (.array .int)) 2 3 75) {σ : XS} {r0 : Nat} {r1 : Nat} {x : Nat × XS} (hf : f_X11_heldWays σ r0 r1 = some x) (hk : XEnd G (some (xrv (gB G) x.1)) x.2 ∧ XUp G x.2) : WW G 0 [(0, .ref (gB G + r0)), (1, .ref (gB G + r1))] [] σ := by
  refine ww_aload_n (pc := 0) C 1 dX11_heldWays_0 rfl ?_
  obtain ⟨v2, e1, hf⟩ := xbd hf
  refine gf_X11_336 (pc := 1) C e1 dX11_heldWays_1 ?_
  refine ww_if_ne (pc := 4) (tgt := 60) C dX11_heldWays_4 (by decide) (fun q => ?_) (fun q => ?_)
  · have hf := xin q hf
    refine ww_aload_n (pc := 60) C 1 dX11_heldWays_60 rfl ?_
    obtain ⟨z4, e3, hf⟩ := xbd hf
    refine gf_X11_349 (pc := 61) C e3 dX11_heldWays_61 ?_
    obtain ⟨_, e5, hf⟩ := xbd hf
    have hf := xsj hf
    subst hf
    exact ww_aret (pc := 64) C (Or.inr ⟨_, rfl⟩) (xnz_spec e5) hk.1 dX11_heldWays_64
  · have hf := xip q hf
    refine ww_aload_n (pc := 7) C 0 dX11_heldWays_7 rfl ?_
    obtain ⟨z4, e3, hf⟩ := xbd hf
    refine gf_X11_56 (pc := 8) C e3 dX11_heldWays_8 ?_
    refine ww_aload_n (pc := 11) C 0 dX11_heldWays_11 rfl ?_
    obtain ⟨z6, e5, hf⟩ := xbd hf
    refine gf_X11_24 (pc := 12) C e5 dX11_heldWays_12 ?_
    refine ww_aload_n (pc := 15) C 1 dX11_heldWays_15 rfl ?_
    obtain ⟨z8, e7, hf⟩ := xbd hf
    refine gf_X11_339 (pc := 16) C e7 dX11_heldWays_16 ?_
    obtain ⟨z10, e9, hf⟩ := xbd hf
    refine gf_X11_340 (pc := 19) C e9 dX11_heldWays_19 ?_
    refine ww_aload_n (pc := 22) C 1 dX11_heldWays_22 rfl ?_
    obtain ⟨z12, e11, hf⟩ := xbd hf
    refine gf_X11_339 (pc := 23) C e11 dX11_heldWays_23 ?_
    obtain ⟨z14, e13, hf⟩ := xbd hf
    refine gf_X11_343 (pc := 26) C e13 dX11_heldWays_26 ?_
    refine ww_aload_n (pc := 29) C 0 dX11_heldWays_29 rfl ?_
    obtain ⟨z16, e15, hf⟩ := xbd hf
    refine gf_X11_24 (pc := 30) C e15 dX11_heldWays_30 ?_
    obtain ⟨v18, e17, hf⟩ := xbd hf
    refine gf_X11_197 (pc := 33) C e17 dX11_heldWays_33 ?_
    obtain ⟨_, e19, hf⟩ := xbd hf
    obtain ⟨σ21, e20, hf⟩ := xbd hf
    refine ww_callVv (pc := 36) (as := [.ref (gB G + z6), .ref (gB G + z10), .ref (gB G + z14), .int v18]) (st := []) C (k_X2_fill (l := gl G) (E := gE G) (hb := gB G) (σ := σ) e20) rfl (by decide) xc_X11_346 q854 qp58 (xck_spec e19) rfl (by decide) (xst4 (Nat.le_of_ble_eq_true rfl)) (m_X2_fill e20).1 (fun q => by have hm9 := m_X11_heldWays_j39 hf; exact XLim.mid q (m_X2_fill e20) hm9 hk.2) dX11_heldWays_36 ?_
    refine ww_sub [0, 1] rfl ?_
    exact s_X11_heldWays_j39 C hf hk
theorem m_X11_heldWays {σ : XS} {r0 : Nat} {r1 : Nat} {x : Nat × XS} (hf : f_X11_heldWays σ r0 r1 = some x) : xext σ x.2 := by
  have hm := xext.rf (σ := σ)
  obtain ⟨v2, e1, hf⟩ := xbd hf
  by_cases q : v2 = 0
  · have hf := xip q hf
    obtain ⟨z4, e3, hf⟩ := xbd hf
    obtain ⟨z6, e5, hf⟩ := xbd hf
    obtain ⟨z8, e7, hf⟩ := xbd hf
    obtain ⟨z10, e9, hf⟩ := xbd hf
    obtain ⟨z12, e11, hf⟩ := xbd hf
    obtain ⟨z14, e13, hf⟩ := xbd hf
    obtain ⟨z16, e15, hf⟩ := xbd hf
    obtain ⟨v18, e17, hf⟩ := xbd hf
    obtain ⟨_, e19, hf⟩ := xbd hf
    obtain ⟨σ21, e20, hf⟩ := xbd hf
    have hm := hm.tr (m_X2_fill e20)
    exact hm.tr (m_X11_heldWays_j39 hf)
  · have hf := xin q hf
    obtain ⟨z4, e3, hf⟩ := xbd hf
    obtain ⟨_, e5, hf⟩ := xbd hf
    have hf := xsj hf
    subst hf
    exact hm
theorem k_X11_heldWays {l : Launch} {E : XD} {hb : Nat} {σ : XS} {r0 : Nat} {r1 : Nat} {x : Nat × XS} (h : f_X11_heldWays σ r0 r1 = some x) : XM l yX11_heldWays cX11_heldWays 2 (some (.array .int)) 3 75 E hb [.ref (hb + r0), .ref (hb + r1)] σ (some (xrv (hb) x.1)) x.2 := by
  refine xm_of (by decide) (Nat.le_of_ble_eq_true rfl) (m_X11_heldWays h).1 (fun G hG C hl hQ => ?_)
  obtain ⟨rfl, rfl, rfl, hN⟩ := hG
  exact s_X11_heldWays_e C h ⟨hQ, hl.2⟩
noncomputable def f_X9_lowest (σ : XS) (r0 : Nat) : Option Int32 := (xgR σ r0 9 0).bind fun z2 => (xaI σ 20 z2 (0 : Int32)).bind fun v4 => some v4
theorem s_X9_lowest_e {G : XG} (C : XC G cX9_lowest RX9 (some .int) 1 0 0) {σ : XS} {r0 : Nat} {x : Int32} (hf : f_X9_lowest σ r0 = some x) (hk : XEnd G (some (.int x)) σ) : WW G 0 [(0, .ref (gB G + r0))] [] σ := by
  refine ww_aload_n (pc := 0) C 0 dX9_lowest_0 rfl ?_
  obtain ⟨z2, e1, hf⟩ := xbd hf
  refine gf_X9_9 (pc := 1) C e1 dX9_lowest_1 ?_
  refine ww_iconst (pc := 4) (v := (0 : Int32)) C dX9_lowest_4 (by decide) ?_
  obtain ⟨v4, e3, hf⟩ := xbd hf
  refine ww_iald (pc := 5) C e3 dX9_lowest_5 ?_
  have hf := xsj hf
  subst hf
  exact ww_iret (pc := 6) C hk dX9_lowest_6
theorem k_X9_lowest {l : Launch} {E : XD} {hb : Nat} {σ : XS} {r0 : Nat} {x : Int32} (h : f_X9_lowest σ r0 = some x) : XM l yX9_lowest cX9_lowest 1 (some .int) 0 0 E hb [.ref (hb + r0)] σ (some (.int x)) σ := by
  refine xm_of (by decide) (Nat.le_of_ble_eq_true rfl) ⟨Nat.le_refl _, Nat.le_refl _⟩ (fun G hG C hl hQ => ?_)
  obtain ⟨rfl, rfl, rfl, hN⟩ := hG
  exact s_X9_lowest_e C h hQ
noncomputable def f_X9_dry (σ : XS) (r0 : Nat) : Option XS := (xgR σ r0 9 2).bind fun z2 => (f_J7_fill_53178 σ z2 (-1 : Int32)).bind fun σ4 => (xpI σ4 r0 9 9 (0 : Int32)).bind fun σ6 => some σ6
theorem s_X9_dry_e {G : XG} (C : XC G cX9_dry RX9 none 1 1 23) {σ : XS} {r0 : Nat} {x : XS} (hf : f_X9_dry σ r0 = some x) (hk : XEnd G none x) : WW G 0 [(0, .ref (gB G + r0))] [] σ := by
  refine ww_aload_n (pc := 0) C 0 dX9_dry_0 rfl ?_
  obtain ⟨z2, e1, hf⟩ := xbd hf
  refine gf_X9_18 (pc := 1) C e1 dX9_dry_1 ?_
  refine ww_iconst (pc := 4) (v := (-1 : Int32)) C dX9_dry_4 (by decide) ?_
  obtain ⟨σ4, e3, hf⟩ := xbd hf
  refine ww_callSv (pc := 5) (as := [.ref (gB G + z2), .int (-1 : Int32)]) (st := []) C (k_J7_fill_53178 (l := gl G) (E := gE G) (hb := gB G) (σ := σ) e3) xc_X9_81 q174 rfl (by decide) (xst4 (Nat.le_of_ble_eq_true rfl)) (m_J7_fill_53178 e3).le (m_J7_fill_53178 e3).lim dX9_dry_5 ?_
  refine ww_aload_n (pc := 8) C 0 dX9_dry_8 rfl ?_
  refine ww_iconst (pc := 9) (v := (0 : Int32)) C dX9_dry_9 (by decide) ?_
  obtain ⟨σ6, e5, hf⟩ := xbd hf
  refine pf_X9_78 (pc := 10) C e5 dX9_dry_10 ?_
  have hf := xsj hf
  subst hf
  exact ww_vret (pc := 13) C hk dX9_dry_13
theorem m_X9_dry {σ : XS} {r0 : Nat} {x : XS} (hf : f_X9_dry σ r0 = some x) : xsame σ x := by
  have hm := xsame.rf (σ := σ)
  obtain ⟨z2, e1, hf⟩ := xbd hf
  obtain ⟨σ4, e3, hf⟩ := xbd hf
  have hm := hm.tr (m_J7_fill_53178 e3)
  obtain ⟨σ6, e5, hf⟩ := xbd hf
  have hm := hm.tr (xpI_same e5)
  have hf := xsj hf
  subst hf
  exact hm
theorem k_X9_dry {l : Launch} {E : XD} {hb : Nat} {σ : XS} {r0 : Nat} {x : XS} (h : f_X9_dry σ r0 = some x) : XM l yX9_dry cX9_dry 1 none 1 23 E hb [.ref (hb + r0)] σ none x := by
  refine xm_of (by decide) (Nat.le_of_ble_eq_true rfl) (m_X9_dry h).le (fun G hG C hl hQ => ?_)
  obtain ⟨rfl, rfl, rfl, hN⟩ := hG
  exact s_X9_dry_e C h hQ
noncomputable def f_X9_isWet (σ : XS) (r0 : Nat) (x1 : Int32) : Option Int32 := (f_X9_isState x1).bind fun v2 => if v2 = 0 then (some (0 : Int32)) else (xgR σ r0 9 2).bind fun z4 => (xaI σ 20 z4 x1).bind fun v6 => if v6 = (-1 : Int32) then (some (0 : Int32)) else some (1 : Int32)
theorem s_X9_isWet_e {G : XG} (C : XC G cX9_isWet RX9 (some .boolean) 2 1 20) {σ : XS} {r0 : Nat} {x1 : Int32} {x : Int32} (hf : f_X9_isWet σ r0 x1 = some x) (hk : XEnd G (some (.int x)) σ) : WW G 0 [(0, .ref (gB G + r0)), (1, .int x1)] [] σ := by
  refine ww_iload_n (pc := 0) C 1 dX9_isWet_0 rfl ?_
  obtain ⟨v2, e1, hf⟩ := xbd hf
  refine ww_callSi (pc := 1) (as := [.int x1]) (st := []) C (k_X9_isState (l := gl G) (E := gE G) (hb := gB G) (σ := σ) e1) xc_X9_69 q1144 rfl (by decide) (xst4 (Nat.le_of_ble_eq_true rfl)) xsame.rf.le xsame.rf.lim dX9_isWet_1 ?_
  refine ww_if_eq (pc := 4) (tgt := 21) C dX9_isWet_4 (by decide) (fun q => ?_) (fun q => ?_)
  · have hf := xip q hf
    refine ww_iconst (pc := 21) (v := (0 : Int32)) C dX9_isWet_21 (by decide) ?_
    have hf := xsj hf
    subst hf
    exact ww_zret (pc := 22) C rfl hk dX9_isWet_22
  · have hf := xin q hf
    refine ww_aload_n (pc := 7) C 0 dX9_isWet_7 rfl ?_
    obtain ⟨z4, e3, hf⟩ := xbd hf
    refine gf_X9_18 (pc := 8) C e3 dX9_isWet_8 ?_
    refine ww_iload_n (pc := 11) C 1 dX9_isWet_11 rfl ?_
    obtain ⟨v6, e5, hf⟩ := xbd hf
    refine ww_iald (pc := 12) C e5 dX9_isWet_12 ?_
    refine ww_iconst (pc := 13) (v := (-1 : Int32)) C dX9_isWet_13 (by decide) ?_
    refine ww_icmp_eq (pc := 14) (tgt := 21) C dX9_isWet_14 (by decide) (fun q => ?_) (fun q => ?_)
    · have hf := xip q hf
      refine ww_iconst (pc := 21) (v := (0 : Int32)) C dX9_isWet_21 (by decide) ?_
      have hf := xsj hf
      subst hf
      exact ww_zret (pc := 22) C rfl hk dX9_isWet_22
    · have hf := xin q hf
      refine ww_iconst (pc := 17) (v := (1 : Int32)) C dX9_isWet_17 (by decide) ?_
      refine ww_goto (pc := 18) (tgt := 22) C dX9_isWet_18 (by decide) ?_
      have hf := xsj hf
      subst hf
      exact ww_zret (pc := 22) C rfl hk dX9_isWet_22
theorem k_X9_isWet {l : Launch} {E : XD} {hb : Nat} {σ : XS} {r0 : Nat} {x1 : Int32} {x : Int32} (h : f_X9_isWet σ r0 x1 = some x) : XM l yX9_isWet cX9_isWet 2 (some .boolean) 1 20 E hb [.ref (hb + r0), .int x1] σ (some (.int x)) σ := by
  refine xm_of (by decide) (Nat.le_of_ble_eq_true rfl) ⟨Nat.le_refl _, Nat.le_refl _⟩ (fun G hG C hl hQ => ?_)
  obtain ⟨rfl, rfl, rfl, hN⟩ := hG
  exact s_X9_isWet_e C h hQ
noncomputable def f_X9_rootOf_b4 (r0 : Nat) : Int32 × Int32 × XS → Option ((Int32 × Int32 × XS) ⊕ (Int32 × XS)) := fun a => match a with
  | (x2, x3, σ) => if (1024 : Int32) ≤ x3 then ((some (x2, σ)).map .inr) else (xck σ r0 9).bind fun _ => (f_X9_isWet σ r0 x2).bind fun v3 => if v3 = 0 then ((some (x2, σ)).map .inr) else (xgR σ r0 9 2).bind fun z5 => (xaI σ 20 z5 x2).bind fun v7 => (xck σ r0 9).bind fun _ => (f_X9_isWet σ r0 v7).bind fun v10 => if v10 = 0 then ((some (x2, σ)).map .inr) else (xgR σ r0 9 2).bind fun z12 => (xaI σ 20 z12 x2).bind fun v14 => if v14 = x2 then ((some (x2, σ)).map .inr) else (xgR σ r0 9 2).bind fun z16 => (xgR σ r0 9 2).bind fun z18 => (xgR σ r0 9 2).bind fun z20 => (xaI σ 20 z20 x2).bind fun v22 => (xaI σ 20 z18 v22).bind fun v24 => (xsI σ 20 z16 x2 v24).bind fun σ26 => (xgR σ26 r0 9 2).bind fun z28 => (xaI σ26 20 z28 x2).bind fun v30 => some (.inl (v30, x3 + (1 : Int32), σ26))
noncomputable def f_X9_rootOf (σ : XS) (r0 : Nat) (x1 : Int32) : Option (Int32 × XS) := xloop (f_X9_rootOf_b4 r0) (x1, (0 : Int32), σ)
theorem m_X9_rootOf_l4 {r0 : Nat} {a : Int32 × Int32 × XS} {x : Int32 × XS} (hf : xloop (f_X9_rootOf_b4 r0) a = some x) : xsame a.2.2 x.2 := by
  refine xloop_ind (P := fun a => xsame a.2.2 x.2) (fun a y hf hc he => ?_) hf
  obtain ⟨x2, x3, σ⟩ := a
  have hy : (∀ a' : Int32 × Int32 × XS, y = .inl a' → xsame σ a'.2.2) ∧ (∀ b1 : Int32 × XS, y = .inr b1 → xsame σ b1.2) := by
    have hm := xsame.rf (σ := σ)
    by_cases q : (1024 : Int32) ≤ x3
    · have hf := xip q hf
      obtain ⟨b0, hg, e9⟩ := xmj hf
      subst e9
      have hf := hg
      refine ⟨fun a' e => xnc2 e, fun b e => ?_⟩
      have h9 := Sum.inr.inj e
      subst h9
      have hf := xsj hf
      subst hf
      exact hm
    · have hf := xin q hf
      obtain ⟨_, e1, hf⟩ := xbd hf
      obtain ⟨v3, e2, hf⟩ := xbd hf
      by_cases q : v3 = 0
      · have hf := xip q hf
        obtain ⟨b0, hg, e9⟩ := xmj hf
        subst e9
        have hf := hg
        refine ⟨fun a' e => xnc2 e, fun b e => ?_⟩
        have h9 := Sum.inr.inj e
        subst h9
        have hf := xsj hf
        subst hf
        exact hm
      · have hf := xin q hf
        obtain ⟨z5, e4, hf⟩ := xbd hf
        obtain ⟨v7, e6, hf⟩ := xbd hf
        obtain ⟨_, e8, hf⟩ := xbd hf
        obtain ⟨v10, e9, hf⟩ := xbd hf
        by_cases q : v10 = 0
        · have hf := xip q hf
          obtain ⟨b0, hg, e9⟩ := xmj hf
          subst e9
          have hf := hg
          refine ⟨fun a' e => xnc2 e, fun b e => ?_⟩
          have h9 := Sum.inr.inj e
          subst h9
          have hf := xsj hf
          subst hf
          exact hm
        · have hf := xin q hf
          obtain ⟨z12, e11, hf⟩ := xbd hf
          obtain ⟨v14, e13, hf⟩ := xbd hf
          by_cases q : v14 = x2
          · have hf := xip q hf
            obtain ⟨b0, hg, e9⟩ := xmj hf
            subst e9
            have hf := hg
            refine ⟨fun a' e => xnc2 e, fun b e => ?_⟩
            have h9 := Sum.inr.inj e
            subst h9
            have hf := xsj hf
            subst hf
            exact hm
          · have hf := xin q hf
            obtain ⟨z16, e15, hf⟩ := xbd hf
            obtain ⟨z18, e17, hf⟩ := xbd hf
            obtain ⟨z20, e19, hf⟩ := xbd hf
            obtain ⟨v22, e21, hf⟩ := xbd hf
            obtain ⟨v24, e23, hf⟩ := xbd hf
            obtain ⟨σ26, e25, hf⟩ := xbd hf
            have hm := hm.tr (xsI_same e25)
            obtain ⟨z28, e27, hf⟩ := xbd hf
            obtain ⟨v30, e29, hf⟩ := xbd hf
            have hf := xsj hf
            subst hf
            exact ⟨fun a' e => (by have h9 := Sum.inl.inj e; subst h9; exact hm), fun b e => xnc1 e⟩
  cases y with
  | inl a' =>
    have h1 := hc a' rfl
    have hm := hy.1 a' rfl
    exact hm.tr (h1)
  | inr b =>
    have h1 := he b rfl
    subst h1
    exact hy.2 _ rfl
theorem s_X9_rootOf_l4 {G : XG} (C : XC G cX9_rootOf RX9 (some .int) 4 2 41) {r0 : Nat} {a : Int32 × Int32 × XS} {x : Int32 × XS} (hf : xloop (f_X9_rootOf_b4 r0) a = some x) (hk : XEnd G (some (.int x.1)) x.2) : WW G 4 [(0, .ref (gB G + r0)), (2, .int a.1), (3, .int a.2.1)] [] a.2.2 := by
  refine xloop_ind (P := fun a => WW G 4 [(0, .ref (gB G + r0)), (2, .int a.1), (3, .int a.2.1)] [] a.2.2) (fun a y hf hc he => ?_) hf
  obtain ⟨x2, x3, σ⟩ := a
  have hk : (∀ a' : Int32 × Int32 × XS, y = .inl a' → WW G 4 [(0, .ref (gB G + r0)), (2, .int a'.1), (3, .int a'.2.1)] [] a'.2.2) ∧ (∀ b1 : Int32 × XS, y = .inr b1 → XEnd G (some (.int b1.1)) b1.2) := ⟨hc, fun b e => by have h9 := he b e; subst h9; exact hk⟩
  refine ww_iload_n (pc := 4) C 2 dX9_rootOf_4 rfl ?_
  refine ww_sipush (pc := 5) (v := (1024 : Int32)) C dX9_rootOf_5 (by decide) ?_
  refine ww_icmp_ge (pc := 8) (tgt := 72) C dX9_rootOf_8 (by decide) (fun q => ?_) (fun q => ?_)
  · have hf := xip q hf
    obtain ⟨b0, hg, e9⟩ := xmj hf
    subst e9
    have hf := hg
    have hk := hk.2 _ rfl
    refine ww_iload_n (pc := 72) C 1 dX9_rootOf_72 rfl ?_
    have hf := xsj hf
    subst hf
    exact ww_iret (pc := 73) C hk dX9_rootOf_73
  · have hf := xin q hf
    refine ww_aload_n (pc := 11) C 0 dX9_rootOf_11 rfl ?_
    refine ww_iload_n (pc := 12) C 1 dX9_rootOf_12 rfl ?_
    obtain ⟨_, e1, hf⟩ := xbd hf
    obtain ⟨v3, e2, hf⟩ := xbd hf
    refine ww_callVi (pc := 13) (as := [.int x2]) (st := []) C (k_X9_isWet (l := gl G) (E := gE G) (hb := gB G) (σ := σ) e2) rfl (by decide) xc_X9_72 q1169 qp106 (xck_spec e1) rfl (by decide) (xst4 (Nat.le_of_ble_eq_true rfl)) xsame.rf.le xsame.rf.lim dX9_rootOf_13 ?_
    refine ww_if_eq (pc := 16) (tgt := 72) C dX9_rootOf_16 (by decide) (fun q => ?_) (fun q => ?_)
    · have hf := xip q hf
      obtain ⟨b0, hg, e9⟩ := xmj hf
      subst e9
      have hf := hg
      have hk := hk.2 _ rfl
      refine ww_iload_n (pc := 72) C 1 dX9_rootOf_72 rfl ?_
      have hf := xsj hf
      subst hf
      exact ww_iret (pc := 73) C hk dX9_rootOf_73
    · have hf := xin q hf
      refine ww_aload_n (pc := 19) C 0 dX9_rootOf_19 rfl ?_
      refine ww_aload_n (pc := 20) C 0 dX9_rootOf_20 rfl ?_
      obtain ⟨z5, e4, hf⟩ := xbd hf
      refine gf_X9_18 (pc := 21) C e4 dX9_rootOf_21 ?_
      refine ww_iload_n (pc := 24) C 1 dX9_rootOf_24 rfl ?_
      obtain ⟨v7, e6, hf⟩ := xbd hf
      refine ww_iald (pc := 25) C e6 dX9_rootOf_25 ?_
      obtain ⟨_, e8, hf⟩ := xbd hf
      obtain ⟨v10, e9, hf⟩ := xbd hf
      refine ww_callVi (pc := 26) (as := [.int v7]) (st := []) C (k_X9_isWet (l := gl G) (E := gE G) (hb := gB G) (σ := σ) e9) rfl (by decide) xc_X9_72 q1169 qp106 (xck_spec e8) rfl (by decide) (xst4 (Nat.le_of_ble_eq_true rfl)) xsame.rf.le xsame.rf.lim dX9_rootOf_26 ?_
      refine ww_if_eq (pc := 29) (tgt := 72) C dX9_rootOf_29 (by decide) (fun q => ?_) (fun q => ?_)
      · have hf := xip q hf
        obtain ⟨b0, hg, e9⟩ := xmj hf
        subst e9
        have hf := hg
        have hk := hk.2 _ rfl
        refine ww_iload_n (pc := 72) C 1 dX9_rootOf_72 rfl ?_
        have hf := xsj hf
        subst hf
        exact ww_iret (pc := 73) C hk dX9_rootOf_73
      · have hf := xin q hf
        refine ww_aload_n (pc := 32) C 0 dX9_rootOf_32 rfl ?_
        obtain ⟨z12, e11, hf⟩ := xbd hf
        refine gf_X9_18 (pc := 33) C e11 dX9_rootOf_33 ?_
        refine ww_iload_n (pc := 36) C 1 dX9_rootOf_36 rfl ?_
        obtain ⟨v14, e13, hf⟩ := xbd hf
        refine ww_iald (pc := 37) C e13 dX9_rootOf_37 ?_
        refine ww_iload_n (pc := 38) C 1 dX9_rootOf_38 rfl ?_
        refine ww_icmp_eq (pc := 39) (tgt := 72) C dX9_rootOf_39 (by decide) (fun q => ?_) (fun q => ?_)
        · have hf := xip q hf
          obtain ⟨b0, hg, e9⟩ := xmj hf
          subst e9
          have hf := hg
          have hk := hk.2 _ rfl
          refine ww_iload_n (pc := 72) C 1 dX9_rootOf_72 rfl ?_
          have hf := xsj hf
          subst hf
          exact ww_iret (pc := 73) C hk dX9_rootOf_73
        · have hf := xin q hf
          refine ww_aload_n (pc := 42) C 0 dX9_rootOf_42 rfl ?_
          obtain ⟨z16, e15, hf⟩ := xbd hf
          refine gf_X9_18 (pc := 43) C e15 dX9_rootOf_43 ?_
          refine ww_iload_n (pc := 46) C 1 dX9_rootOf_46 rfl ?_
          refine ww_aload_n (pc := 47) C 0 dX9_rootOf_47 rfl ?_
          obtain ⟨z18, e17, hf⟩ := xbd hf
          refine gf_X9_18 (pc := 48) C e17 dX9_rootOf_48 ?_
          refine ww_aload_n (pc := 51) C 0 dX9_rootOf_51 rfl ?_
          obtain ⟨z20, e19, hf⟩ := xbd hf
          refine gf_X9_18 (pc := 52) C e19 dX9_rootOf_52 ?_
          refine ww_iload_n (pc := 55) C 1 dX9_rootOf_55 rfl ?_
          obtain ⟨v22, e21, hf⟩ := xbd hf
          refine ww_iald (pc := 56) C e21 dX9_rootOf_56 ?_
          obtain ⟨v24, e23, hf⟩ := xbd hf
          refine ww_iald (pc := 57) C e23 dX9_rootOf_57 ?_
          obtain ⟨σ26, e25, hf⟩ := xbd hf
          refine ww_iast (pc := 58) C e25 dX9_rootOf_58 ?_
          refine ww_aload_n (pc := 59) C 0 dX9_rootOf_59 rfl ?_
          obtain ⟨z28, e27, hf⟩ := xbd hf
          refine gf_X9_18 (pc := 60) C e27 dX9_rootOf_60 ?_
          refine ww_iload_n (pc := 63) C 1 dX9_rootOf_63 rfl ?_
          obtain ⟨v30, e29, hf⟩ := xbd hf
          refine ww_iald (pc := 64) C e29 dX9_rootOf_64 ?_
          refine ww_istore_n (pc := 65) (lv' := [(2, .int v30), (0, .ref (gB G + r0)), (3, .int x3)]) C dX9_rootOf_65 (by decide) rfl ?_
          refine ww_iinc (pc := 66) (v := x3 + (1 : Int32)) (lv' := [(3, .int (x3 + (1 : Int32))), (2, .int v30), (0, .ref (gB G + r0))]) C 2 dX9_rootOf_66 rfl (congrArg (fun z => x3 + z) (show Int32.ofInt (1) = (1 : Int32) by decide)) (by decide) rfl ?_
          refine ww_goto (pc := 69) (tgt := 4) C dX9_rootOf_69 (by decide) ?_
          have hf := xsj hf
          subst hf
          refine ww_sub [2, 1, 0] rfl ?_
          exact hk.1 (v30, x3 + (1 : Int32), σ26) rfl
theorem s_X9_rootOf_e {G : XG} (C : XC G cX9_rootOf RX9 (some .int) 4 2 41) {σ : XS} {r0 : Nat} {x1 : Int32} {x : Int32 × XS} (hf : f_X9_rootOf σ r0 x1 = some x) (hk : XEnd G (some (.int x.1)) x.2) : WW G 0 [(0, .ref (gB G + r0)), (1, .int x1)] [] σ := by
  refine ww_iload_n (pc := 0) C 1 dX9_rootOf_0 rfl ?_
  refine ww_istore_n (pc := 1) (lv' := [(2, .int x1), (0, .ref (gB G + r0)), (1, .int x1)]) C dX9_rootOf_1 (by decide) rfl ?_
  refine ww_iconst (pc := 2) (v := (0 : Int32)) C dX9_rootOf_2 (by decide) ?_
  refine ww_istore_n (pc := 3) (lv' := [(3, .int (0 : Int32)), (2, .int x1), (0, .ref (gB G + r0)), (1, .int x1)]) C dX9_rootOf_3 (by decide) rfl ?_
  refine ww_sub [2, 1, 0] rfl ?_
  exact s_X9_rootOf_l4 C (a := (x1, (0 : Int32), σ)) hf hk
theorem m_X9_rootOf {σ : XS} {r0 : Nat} {x1 : Int32} {x : Int32 × XS} (hf : f_X9_rootOf σ r0 x1 = some x) : xsame σ x.2 := by
  have hm := xsame.rf (σ := σ)
  exact hm.tr (m_X9_rootOf_l4 (a := (x1, (0 : Int32), σ)) hf)
theorem k_X9_rootOf {l : Launch} {E : XD} {hb : Nat} {σ : XS} {r0 : Nat} {x1 : Int32} {x : Int32 × XS} (h : f_X9_rootOf σ r0 x1 = some x) : XM l yX9_rootOf cX9_rootOf 4 (some .int) 2 41 E hb [.ref (hb + r0), .int x1] σ (some (.int x.1)) x.2 := by
  refine xm_of (by decide) (Nat.le_of_ble_eq_true rfl) (m_X9_rootOf h).le (fun G hG C hl hQ => ?_)
  obtain ⟨rfl, rfl, rfl, hN⟩ := hG
  exact s_X9_rootOf_e C h hQ
noncomputable def f_X9_join (σ : XS) (r0 : Nat) (x1 : Int32) (x2 : Int32) : Option XS := (xck σ r0 9).bind fun _ => (f_X9_rootOf σ r0 x1).bind fun (v4, σ3) => (xck σ3 r0 9).bind fun _ => (f_X9_rootOf σ3 r0 x2).bind fun (v8, σ7) => if v4 = v8 then (some σ7) else (f_X9_isState v4).bind fun v10 => if v10 = 0 then (some σ7) else (xgR σ7 r0 9 2).bind fun z12 => (xsI σ7 20 z12 v4 v8).bind fun σ14 => (xgI σ14 r0 9 9).bind fun v16 => (xpI σ14 r0 9 9 (v16 - (1 : Int32))).bind fun σ18 => some σ18
theorem s_X9_join_e {G : XG} (C : XC G cX9_join RX9 none 5 3 64) {σ : XS} {r0 : Nat} {x1 : Int32} {x2 : Int32} {x : XS} (hf : f_X9_join σ r0 x1 x2 = some x) (hk : XEnd G none x) : WW G 0 [(0, .ref (gB G + r0)), (1, .int x1), (2, .int x2)] [] σ := by
  refine ww_aload_n (pc := 0) C 0 dX9_join_0 rfl ?_
  refine ww_iload_n (pc := 1) C 1 dX9_join_1 rfl ?_
  obtain ⟨_, e1, hf⟩ := xbd hf
  obtain ⟨⟨v4, σ3⟩, e2, hf⟩ := xbd hf
  dsimp only at hf
  refine ww_callVi (pc := 2) (as := [.int x1]) (st := []) C (k_X9_rootOf (l := gl G) (E := gE G) (hb := gB G) (σ := σ) e2) rfl (by decide) xc_X9_75 q1177 qp108 (xck_spec e1) rfl (by decide) (xst4 (Nat.le_of_ble_eq_true rfl)) (m_X9_rootOf e2).le (m_X9_rootOf e2).lim dX9_join_2 ?_
  refine ww_istore_n (pc := 5) (lv' := [(3, .int v4), (0, .ref (gB G + r0)), (1, .int x1), (2, .int x2)]) C dX9_join_5 (by decide) rfl ?_
  refine ww_aload_n (pc := 6) C 1 dX9_join_6 rfl ?_
  refine ww_iload_n (pc := 7) C 3 dX9_join_7 rfl ?_
  obtain ⟨_, e5, hf⟩ := xbd hf
  obtain ⟨⟨v8, σ7⟩, e6, hf⟩ := xbd hf
  dsimp only at hf
  refine ww_callVi (pc := 8) (as := [.int x2]) (st := []) C (k_X9_rootOf (l := gl G) (E := gE G) (hb := gB G) (σ := σ3) e6) rfl (by decide) xc_X9_75 q1177 qp108 (xck_spec e5) rfl (by decide) (xst4 (Nat.le_of_ble_eq_true rfl)) (m_X9_rootOf e6).le (m_X9_rootOf e6).lim dX9_join_8 ?_
  refine ww_istore (pc := 11) (lv' := [(4, .int v8), (3, .int v4), (0, .ref (gB G + r0)), (1, .int x1), (2, .int x2)]) C dX9_join_11 (by decide) rfl ?_
  refine ww_iload_n (pc := 13) C 1 dX9_join_13 rfl ?_
  refine ww_iload (pc := 14) C 0 dX9_join_14 rfl ?_
  refine ww_icmp_eq (pc := 16) (tgt := 44) C dX9_join_16 (by decide) (fun q => ?_) (fun q => ?_)
  · have hf := xip q hf
    have hf := xsj hf
    subst hf
    exact ww_vret (pc := 44) C hk dX9_join_44
  · have hf := xin q hf
    refine ww_iload_n (pc := 19) C 1 dX9_join_19 rfl ?_
    obtain ⟨v10, e9, hf⟩ := xbd hf
    refine ww_callSi (pc := 20) (as := [.int v4]) (st := []) C (k_X9_isState (l := gl G) (E := gE G) (hb := gB G) (σ := σ7) e9) xc_X9_69 q1144 rfl (by decide) (xst4 (Nat.le_of_ble_eq_true rfl)) xsame.rf.le xsame.rf.lim dX9_join_20 ?_
    refine ww_if_eq (pc := 23) (tgt := 44) C dX9_join_23 (by decide) (fun q => ?_) (fun q => ?_)
    · have hf := xip q hf
      have hf := xsj hf
      subst hf
      exact ww_vret (pc := 44) C hk dX9_join_44
    · have hf := xin q hf
      refine ww_aload_n (pc := 26) C 2 dX9_join_26 rfl ?_
      obtain ⟨z12, e11, hf⟩ := xbd hf
      refine gf_X9_18 (pc := 27) C e11 dX9_join_27 ?_
      refine ww_iload_n (pc := 30) C 1 dX9_join_30 rfl ?_
      refine ww_iload (pc := 31) C 0 dX9_join_31 rfl ?_
      obtain ⟨σ14, e13, hf⟩ := xbd hf
      refine ww_iast (pc := 33) C e13 dX9_join_33 ?_
      refine ww_aload_n (pc := 34) C 2 dX9_join_34 rfl ?_
      refine ww_dup (pc := 35) C dX9_join_35 rfl ?_
      obtain ⟨v16, e15, hf⟩ := xbd hf
      refine gf_X9_78 (pc := 36) C e15 dX9_join_36 ?_
      refine ww_iconst (pc := 39) (v := (1 : Int32)) C dX9_join_39 (by decide) ?_
      refine ww_isub (pc := 40) C dX9_join_40 ?_
      obtain ⟨σ18, e17, hf⟩ := xbd hf
      refine pf_X9_78 (pc := 41) C e17 dX9_join_41 ?_
      have hf := xsj hf
      subst hf
      exact ww_vret (pc := 44) C hk dX9_join_44
theorem m_X9_join {σ : XS} {r0 : Nat} {x1 : Int32} {x2 : Int32} {x : XS} (hf : f_X9_join σ r0 x1 x2 = some x) : xsame σ x := by
  have hm := xsame.rf (σ := σ)
  obtain ⟨_, e1, hf⟩ := xbd hf
  obtain ⟨⟨v4, σ3⟩, e2, hf⟩ := xbd hf
  dsimp only at hf
  have hm := hm.tr (m_X9_rootOf e2)
  obtain ⟨_, e5, hf⟩ := xbd hf
  obtain ⟨⟨v8, σ7⟩, e6, hf⟩ := xbd hf
  dsimp only at hf
  have hm := hm.tr (m_X9_rootOf e6)
  by_cases q : v4 = v8
  · have hf := xip q hf
    have hf := xsj hf
    subst hf
    exact hm
  · have hf := xin q hf
    obtain ⟨v10, e9, hf⟩ := xbd hf
    by_cases q : v10 = 0
    · have hf := xip q hf
      have hf := xsj hf
      subst hf
      exact hm
    · have hf := xin q hf
      obtain ⟨z12, e11, hf⟩ := xbd hf
      obtain ⟨σ14, e13, hf⟩ := xbd hf
      have hm := hm.tr (xsI_same e13)
      obtain ⟨v16, e15, hf⟩ := xbd hf
      obtain ⟨σ18, e17, hf⟩ := xbd hf
      have hm := hm.tr (xpI_same e17)
      have hf := xsj hf
      subst hf
      exact hm
theorem k_X9_join {l : Launch} {E : XD} {hb : Nat} {σ : XS} {r0 : Nat} {x1 : Int32} {x2 : Int32} {x : XS} (h : f_X9_join σ r0 x1 x2 = some x) : XM l yX9_join cX9_join 5 none 3 64 E hb [.ref (hb + r0), .int x1, .int x2] σ none x := by
  refine xm_of (by decide) (Nat.le_of_ble_eq_true rfl) (m_X9_join h).le (fun G hG C hl hQ => ?_)
  obtain ⟨rfl, rfl, rfl, hN⟩ := hG
  exact s_X9_join_e C h hQ
noncomputable def f_X9_flood_b27 (r0 : Nat) (x1 : Int32) : Int32 × XS → Option ((Int32 × XS) ⊕ (XS)) := fun a => match a with
  | (x2, σ) => (xgI σ r0 9 7).bind fun v2 => if v2 ≤ x2 then ((some σ).map .inr) else (xck σ r0 9).bind fun _ => (f_X9_canTurn σ r0 x2).bind fun v5 => if v5 = 0 then (some (.inl (x2 + (1 : Int32), σ))) else (xck σ r0 9).bind fun _ => (f_X9_isWet σ r0 (x1 ^^^ ((1 : Int32) <<< (x2 &&& 31)))).bind fun v8 => if v8 = 0 then (some (.inl (x2 + (1 : Int32), σ))) else (xck σ r0 9).bind fun _ => (f_X9_join σ r0 x1 (x1 ^^^ ((1 : Int32) <<< (x2 &&& 31)))).bind fun σ11 => some (.inl (x2 + (1 : Int32), σ11))
noncomputable def f_X9_flood (σ : XS) (r0 : Nat) (x1 : Int32) : Option XS := (f_X9_isState x1).bind fun v2 => if v2 = 0 then (some σ) else (xgR σ r0 9 2).bind fun z4 => (xsI σ 20 z4 x1 x1).bind fun σ6 => (xgI σ6 r0 9 9).bind fun v8 => (xpI σ6 r0 9 9 (v8 + (1 : Int32))).bind fun σ10 => xloop (f_X9_flood_b27 r0 x1) ((0 : Int32), σ10)
theorem m_X9_flood_l27 {r0 : Nat} {x1 : Int32} {a : Int32 × XS} {x : XS} (hf : xloop (f_X9_flood_b27 r0 x1) a = some x) : xsame a.2 x := by
  refine xloop_ind (P := fun a => xsame a.2 x) (fun a y hf hc he => ?_) hf
  obtain ⟨x2, σ⟩ := a
  have hy : (∀ a' : Int32 × XS, y = .inl a' → xsame σ a'.2) ∧ (∀ b1 : XS, y = .inr b1 → xsame σ b1) := by
    have hm := xsame.rf (σ := σ)
    obtain ⟨v2, e1, hf⟩ := xbd hf
    by_cases q : v2 ≤ x2
    · have hf := xip q hf
      obtain ⟨b0, hg, e9⟩ := xmj hf
      subst e9
      have hf := hg
      refine ⟨fun a' e => xnc2 e, fun b e => ?_⟩
      have h9 := Sum.inr.inj e
      subst h9
      have hf := xsj hf
      subst hf
      exact hm
    · have hf := xin q hf
      obtain ⟨_, e3, hf⟩ := xbd hf
      obtain ⟨v5, e4, hf⟩ := xbd hf
      by_cases q : v5 = 0
      · have hf := xip q hf
        have hf := xsj hf
        subst hf
        exact ⟨fun a' e => (by have h9 := Sum.inl.inj e; subst h9; exact hm), fun b e => xnc1 e⟩
      · have hf := xin q hf
        obtain ⟨_, e6, hf⟩ := xbd hf
        obtain ⟨v8, e7, hf⟩ := xbd hf
        by_cases q : v8 = 0
        · have hf := xip q hf
          have hf := xsj hf
          subst hf
          exact ⟨fun a' e => (by have h9 := Sum.inl.inj e; subst h9; exact hm), fun b e => xnc1 e⟩
        · have hf := xin q hf
          obtain ⟨_, e9, hf⟩ := xbd hf
          obtain ⟨σ11, e10, hf⟩ := xbd hf
          have hm := hm.tr (m_X9_join e10)
          have hf := xsj hf
          subst hf
          exact ⟨fun a' e => (by have h9 := Sum.inl.inj e; subst h9; exact hm), fun b e => xnc1 e⟩
  cases y with
  | inl a' =>
    have h1 := hc a' rfl
    have hm := hy.1 a' rfl
    exact hm.tr (h1)
  | inr b =>
    have h1 := he b rfl
    subst h1
    exact hy.2 _ rfl
theorem s_X9_flood_l27 {G : XG} (C : XC G cX9_flood RX9 none 4 4 88) {r0 : Nat} {x1 : Int32} {a : Int32 × XS} {x : XS} (hf : xloop (f_X9_flood_b27 r0 x1) a = some x) (hk : XEnd G none x) : WW G 27 [(0, .ref (gB G + r0)), (1, .int x1), (2, .int a.1)] [] a.2 := by
  refine xloop_ind (P := fun a => WW G 27 [(0, .ref (gB G + r0)), (1, .int x1), (2, .int a.1)] [] a.2) (fun a y hf hc he => ?_) hf
  obtain ⟨x2, σ⟩ := a
  have hk : (∀ a' : Int32 × XS, y = .inl a' → WW G 27 [(0, .ref (gB G + r0)), (1, .int x1), (2, .int a'.1)] [] a'.2) ∧ (∀ b1 : XS, y = .inr b1 → XEnd G none b1) := ⟨hc, fun b e => by have h9 := he b e; subst h9; exact hk⟩
  refine ww_iload_n (pc := 27) C 2 dX9_flood_27 rfl ?_
  refine ww_aload_n (pc := 28) C 0 dX9_flood_28 rfl ?_
  obtain ⟨v2, e1, hf⟩ := xbd hf
  refine gf_X9_40 (pc := 29) C e1 dX9_flood_29 ?_
  refine ww_icmp_ge (pc := 32) (tgt := 69) C dX9_flood_32 (by decide) (fun q => ?_) (fun q => ?_)
  · have hf := xip q hf
    obtain ⟨b0, hg, e9⟩ := xmj hf
    subst e9
    have hf := hg
    have hk := hk.2 _ rfl
    have hf := xsj hf
    subst hf
    exact ww_vret (pc := 69) C hk dX9_flood_69
  · have hf := xin q hf
    refine ww_iload_n (pc := 35) C 1 dX9_flood_35 rfl ?_
    refine ww_iconst (pc := 36) (v := (1 : Int32)) C dX9_flood_36 (by decide) ?_
    refine ww_iload_n (pc := 37) C 2 dX9_flood_37 rfl ?_
    refine ww_ishl (pc := 38) C dX9_flood_38 ?_
    refine ww_ixor (pc := 39) C dX9_flood_39 ?_
    refine ww_istore_n (pc := 40) (lv' := [(3, .int (x1 ^^^ ((1 : Int32) <<< (x2 &&& 31)))), (0, .ref (gB G + r0)), (1, .int x1), (2, .int x2)]) C dX9_flood_40 (by decide) rfl ?_
    refine ww_aload_n (pc := 41) C 1 dX9_flood_41 rfl ?_
    refine ww_iload_n (pc := 42) C 3 dX9_flood_42 rfl ?_
    obtain ⟨_, e3, hf⟩ := xbd hf
    obtain ⟨v5, e4, hf⟩ := xbd hf
    refine ww_callVi (pc := 43) (as := [.int x2]) (st := []) C (k_X9_canTurn (l := gl G) (E := gE G) (hb := gB G) (σ := σ) e4) rfl (by decide) xc_X9_87 q1136 qp100 (xck_spec e3) rfl (by decide) (xst4 (Nat.le_of_ble_eq_true rfl)) xsame.rf.le xsame.rf.lim dX9_flood_43 ?_
    refine ww_if_eq (pc := 46) (tgt := 63) C dX9_flood_46 (by decide) (fun q => ?_) (fun q => ?_)
    · have hf := xip q hf
      refine ww_iinc (pc := 63) (v := x2 + (1 : Int32)) (lv' := [(2, .int (x2 + (1 : Int32))), (3, .int (x1 ^^^ ((1 : Int32) <<< (x2 &&& 31)))), (0, .ref (gB G + r0)), (1, .int x1)]) C 3 dX9_flood_63 rfl (congrArg (fun z => x2 + z) (show Int32.ofInt (1) = (1 : Int32) by decide)) (by decide) rfl ?_
      refine ww_goto (pc := 66) (tgt := 27) C dX9_flood_66 (by decide) ?_
      have hf := xsj hf
      subst hf
      refine ww_sub [2, 3, 0] rfl ?_
      exact hk.1 (x2 + (1 : Int32), σ) rfl
    · have hf := xin q hf
      refine ww_aload_n (pc := 49) C 1 dX9_flood_49 rfl ?_
      refine ww_iload_n (pc := 50) C 0 dX9_flood_50 rfl ?_
      obtain ⟨_, e6, hf⟩ := xbd hf
      obtain ⟨v8, e7, hf⟩ := xbd hf
      refine ww_callVi (pc := 51) (as := [.int (x1 ^^^ ((1 : Int32) <<< (x2 &&& 31)))]) (st := []) C (k_X9_isWet (l := gl G) (E := gE G) (hb := gB G) (σ := σ) e7) rfl (by decide) xc_X9_72 q1169 qp106 (xck_spec e6) rfl (by decide) (xst4 (Nat.le_of_ble_eq_true rfl)) xsame.rf.le xsame.rf.lim dX9_flood_51 ?_
      refine ww_if_eq (pc := 54) (tgt := 63) C dX9_flood_54 (by decide) (fun q => ?_) (fun q => ?_)
      · have hf := xip q hf
        refine ww_iinc (pc := 63) (v := x2 + (1 : Int32)) (lv' := [(2, .int (x2 + (1 : Int32))), (3, .int (x1 ^^^ ((1 : Int32) <<< (x2 &&& 31)))), (0, .ref (gB G + r0)), (1, .int x1)]) C 3 dX9_flood_63 rfl (congrArg (fun z => x2 + z) (show Int32.ofInt (1) = (1 : Int32) by decide)) (by decide) rfl ?_
        refine ww_goto (pc := 66) (tgt := 27) C dX9_flood_66 (by decide) ?_
        have hf := xsj hf
        subst hf
        refine ww_sub [2, 3, 0] rfl ?_
        exact hk.1 (x2 + (1 : Int32), σ) rfl
      · have hf := xin q hf
        refine ww_aload_n (pc := 57) C 1 dX9_flood_57 rfl ?_
        refine ww_iload_n (pc := 58) C 2 dX9_flood_58 rfl ?_
        refine ww_iload_n (pc := 59) C 0 dX9_flood_59 rfl ?_
        obtain ⟨_, e9, hf⟩ := xbd hf
        obtain ⟨σ11, e10, hf⟩ := xbd hf
        refine ww_callVv (pc := 60) (as := [.int x1, .int (x1 ^^^ ((1 : Int32) <<< (x2 &&& 31)))]) (st := []) C (k_X9_join (l := gl G) (E := gE G) (hb := gB G) (σ := σ) e10) rfl (by decide) xc_X9_90 q1173 qp107 (xck_spec e9) rfl (by decide) (xst4 (Nat.le_of_ble_eq_true rfl)) (m_X9_join e10).le (m_X9_join e10).lim dX9_flood_60 ?_
        refine ww_iinc (pc := 63) (v := x2 + (1 : Int32)) (lv' := [(2, .int (x2 + (1 : Int32))), (3, .int (x1 ^^^ ((1 : Int32) <<< (x2 &&& 31)))), (0, .ref (gB G + r0)), (1, .int x1)]) C 3 dX9_flood_63 rfl (congrArg (fun z => x2 + z) (show Int32.ofInt (1) = (1 : Int32) by decide)) (by decide) rfl ?_
        refine ww_goto (pc := 66) (tgt := 27) C dX9_flood_66 (by decide) ?_
        have hf := xsj hf
        subst hf
        refine ww_sub [2, 3, 0] rfl ?_
        exact hk.1 (x2 + (1 : Int32), σ11) rfl
theorem s_X9_flood_e {G : XG} (C : XC G cX9_flood RX9 none 4 4 88) {σ : XS} {r0 : Nat} {x1 : Int32} {x : XS} (hf : f_X9_flood σ r0 x1 = some x) (hk : XEnd G none x) : WW G 0 [(0, .ref (gB G + r0)), (1, .int x1)] [] σ := by
  refine ww_iload_n (pc := 0) C 1 dX9_flood_0 rfl ?_
  obtain ⟨v2, e1, hf⟩ := xbd hf
  refine ww_callSi (pc := 1) (as := [.int x1]) (st := []) C (k_X9_isState (l := gl G) (E := gE G) (hb := gB G) (σ := σ) e1) xc_X9_69 q1144 rfl (by decide) (xst4 (Nat.le_of_ble_eq_true rfl)) xsame.rf.le xsame.rf.lim dX9_flood_1 ?_
  refine ww_if_ne (pc := 4) (tgt := 8) C dX9_flood_4 (by decide) (fun q => ?_) (fun q => ?_)
  · have hf := xin q hf
    refine ww_aload_n (pc := 8) C 0 dX9_flood_8 rfl ?_
    obtain ⟨z4, e3, hf⟩ := xbd hf
    refine gf_X9_18 (pc := 9) C e3 dX9_flood_9 ?_
    refine ww_iload_n (pc := 12) C 1 dX9_flood_12 rfl ?_
    refine ww_iload_n (pc := 13) C 1 dX9_flood_13 rfl ?_
    obtain ⟨σ6, e5, hf⟩ := xbd hf
    refine ww_iast (pc := 14) C e5 dX9_flood_14 ?_
    refine ww_aload_n (pc := 15) C 0 dX9_flood_15 rfl ?_
    refine ww_dup (pc := 16) C dX9_flood_16 rfl ?_
    obtain ⟨v8, e7, hf⟩ := xbd hf
    refine gf_X9_78 (pc := 17) C e7 dX9_flood_17 ?_
    refine ww_iconst (pc := 20) (v := (1 : Int32)) C dX9_flood_20 (by decide) ?_
    refine ww_iadd (pc := 21) C dX9_flood_21 ?_
    obtain ⟨σ10, e9, hf⟩ := xbd hf
    refine pf_X9_78 (pc := 22) C e9 dX9_flood_22 ?_
    refine ww_iconst (pc := 25) (v := (0 : Int32)) C dX9_flood_25 (by decide) ?_
    refine ww_istore_n (pc := 26) (lv' := [(2, .int (0 : Int32)), (0, .ref (gB G + r0)), (1, .int x1)]) C dX9_flood_26 (by decide) rfl ?_
    refine ww_sub [1, 2, 0] rfl ?_
    exact s_X9_flood_l27 C (a := ((0 : Int32), σ10)) hf hk
  · have hf := xip q hf
    have hf := xsj hf
    subst hf
    exact ww_vret (pc := 7) C hk dX9_flood_7
theorem m_X9_flood {σ : XS} {r0 : Nat} {x1 : Int32} {x : XS} (hf : f_X9_flood σ r0 x1 = some x) : xsame σ x := by
  have hm := xsame.rf (σ := σ)
  obtain ⟨v2, e1, hf⟩ := xbd hf
  by_cases q : v2 = 0
  · have hf := xip q hf
    have hf := xsj hf
    subst hf
    exact hm
  · have hf := xin q hf
    obtain ⟨z4, e3, hf⟩ := xbd hf
    obtain ⟨σ6, e5, hf⟩ := xbd hf
    have hm := hm.tr (xsI_same e5)
    obtain ⟨v8, e7, hf⟩ := xbd hf
    obtain ⟨σ10, e9, hf⟩ := xbd hf
    have hm := hm.tr (xpI_same e9)
    exact hm.tr (m_X9_flood_l27 (a := ((0 : Int32), σ10)) hf)
theorem k_X9_flood {l : Launch} {E : XD} {hb : Nat} {σ : XS} {r0 : Nat} {x1 : Int32} {x : XS} (h : f_X9_flood σ r0 x1 = some x) : XM l yX9_flood cX9_flood 4 none 4 88 E hb [.ref (hb + r0), .int x1] σ none x := by
  refine xm_of (by decide) (Nat.le_of_ble_eq_true rfl) (m_X9_flood h).le (fun G hG C hl hQ => ?_)
  obtain ⟨rfl, rfl, rfl, hN⟩ := hG
  exact s_X9_flood_e C h hQ
noncomputable def f_X9_meetingEnergy_j70 (σ : XS) (r0 : Nat) (x1 : Int32) (x2 : Int32) (x3 : Int32) (x4 : Int32) (x5 : Int32) : Option ((Int32 × XS) ⊕ (Int32 × XS)) := (xck σ r0 9).bind fun _ => (f_X9_isWet σ r0 x1).bind fun v3 => if v3 = 0 then (some (.inl (x4 + (1 : Int32), σ))) else (xck σ r0 9).bind fun _ => (f_X9_isWet σ r0 x2).bind fun v6 => if v6 = 0 then (some (.inl (x4 + (1 : Int32), σ))) else (xck σ r0 9).bind fun _ => (f_X9_rootOf σ r0 x1).bind fun (v10, σ9) => (xck σ9 r0 9).bind fun _ => (f_X9_rootOf σ9 r0 x2).bind fun (v14, σ13) => if v10 = v14 then (((xck σ13 r0 9).bind fun _ => (f_X9_energyOf σ13 r0 x5).bind fun v17 => some (v17, σ13)).map .inr) else some (.inl (x4 + (1 : Int32), σ13))
noncomputable def f_X9_meetingEnergy_b7 (r0 : Nat) (x1 : Int32) (x2 : Int32) (x3 : Int32) : Int32 × XS → Option ((Int32 × XS) ⊕ (Int32 × XS)) := fun a => match a with
  | (x4, σ) => (xgI σ r0 9 8).bind fun v2 => if v2 ≤ x4 then ((some ((-100000 : Int32), σ)).map .inr) else if (1024 : Int32) ≤ x4 then ((some ((-100000 : Int32), σ)).map .inr) else (xgR σ r0 9 0).bind fun z4 => (xaI σ 20 z4 x4).bind fun v6 => (xck σ r0 9).bind fun _ => (f_X9_flood σ r0 v6).bind fun σ9 => if x3 = 0 then (f_X9_meetingEnergy_j70 σ9 r0 x1 x2 x3 x4 v6) else (xck σ9 r0 9).bind fun _ => (f_X9_energyOf σ9 r0 v6).bind fun v12 => (xck σ9 r0 9).bind fun _ => (f_X9_lowest σ9 r0).bind fun v15 => (xck σ9 r0 9).bind fun _ => (f_X9_energyOf σ9 r0 v15).bind fun v18 => if v12 = v18 then ((xck σ9 r0 9).bind fun _ => (f_X9_lowest σ9 r0).bind fun v21 => (xck σ9 r0 9).bind fun _ => (f_X9_join σ9 r0 v6 v21).bind fun σ24 => f_X9_meetingEnergy_j70 σ24 r0 x1 x2 x3 x4 v6) else f_X9_meetingEnergy_j70 σ9 r0 x1 x2 x3 x4 v6
noncomputable def f_X9_meetingEnergy (σ : XS) (r0 : Nat) (x1 : Int32) (x2 : Int32) (x3 : Int32) : Option (Int32 × XS) := (xck σ r0 9).bind fun _ => (f_X9_dry σ r0).bind fun σ3 => xloop (f_X9_meetingEnergy_b7 r0 x1 x2 x3) ((0 : Int32), σ3)
theorem s_X9_meetingEnergy_j70 {G : XG} (C : XC G cX9_meetingEnergy RX9 (some .int) 6 5 111) {σ : XS} {r0 : Nat} {x1 : Int32} {x2 : Int32} {x3 : Int32} {x4 : Int32} {x5 : Int32} {x : ((Int32 × XS) ⊕ (Int32 × XS))} (hf : f_X9_meetingEnergy_j70 σ r0 x1 x2 x3 x4 x5 = some x) (hk : (∀ a' : Int32 × XS, x = .inl a' → WW G 7 [(0, .ref (gB G + r0)), (1, .int x1), (2, .int x2), (3, .int x3), (4, .int a'.1)] [] a'.2) ∧ (∀ b1 : Int32 × XS, x = .inr b1 → XEnd G (some (.int b1.1)) b1.2)) : WW G 70 [(0, .ref (gB G + r0)), (1, .int x1), (2, .int x2), (3, .int x3), (4, .int x4), (5, .int x5)] [] σ := by
  refine ww_aload_n (pc := 70) C 0 dX9_meetingEnergy_70 rfl ?_
  refine ww_iload_n (pc := 71) C 1 dX9_meetingEnergy_71 rfl ?_
  obtain ⟨_, e1, hf⟩ := xbd hf
  obtain ⟨v3, e2, hf⟩ := xbd hf
  refine ww_callVi (pc := 72) (as := [.int x1]) (st := []) C (k_X9_isWet (l := gl G) (E := gE G) (hb := gB G) (σ := σ) e2) rfl (by decide) xc_X9_72 q1169 qp106 (xck_spec e1) rfl (by decide) (xst4 (Nat.le_of_ble_eq_true rfl)) xsame.rf.le xsame.rf.lim dX9_meetingEnergy_72 ?_
  refine ww_if_eq (pc := 75) (tgt := 106) C dX9_meetingEnergy_75 (by decide) (fun q => ?_) (fun q => ?_)
  · have hf := xip q hf
    refine ww_iinc (pc := 106) (v := x4 + (1 : Int32)) (lv' := [(4, .int (x4 + (1 : Int32))), (0, .ref (gB G + r0)), (1, .int x1), (2, .int x2), (3, .int x3), (5, .int x5)]) C 4 dX9_meetingEnergy_106 rfl (congrArg (fun z => x4 + z) (show Int32.ofInt (1) = (1 : Int32) by decide)) (by decide) rfl ?_
    refine ww_goto (pc := 109) (tgt := 7) C dX9_meetingEnergy_109 (by decide) ?_
    have hf := xsj hf
    subst hf
    refine ww_sub [1, 2, 3, 4, 0] rfl ?_
    exact hk.1 (x4 + (1 : Int32), σ) rfl
  · have hf := xin q hf
    refine ww_aload_n (pc := 78) C 0 dX9_meetingEnergy_78 rfl ?_
    refine ww_iload_n (pc := 79) C 2 dX9_meetingEnergy_79 rfl ?_
    obtain ⟨_, e4, hf⟩ := xbd hf
    obtain ⟨v6, e5, hf⟩ := xbd hf
    refine ww_callVi (pc := 80) (as := [.int x2]) (st := []) C (k_X9_isWet (l := gl G) (E := gE G) (hb := gB G) (σ := σ) e5) rfl (by decide) xc_X9_72 q1169 qp106 (xck_spec e4) rfl (by decide) (xst4 (Nat.le_of_ble_eq_true rfl)) xsame.rf.le xsame.rf.lim dX9_meetingEnergy_80 ?_
    refine ww_if_eq (pc := 83) (tgt := 106) C dX9_meetingEnergy_83 (by decide) (fun q => ?_) (fun q => ?_)
    · have hf := xip q hf
      refine ww_iinc (pc := 106) (v := x4 + (1 : Int32)) (lv' := [(4, .int (x4 + (1 : Int32))), (0, .ref (gB G + r0)), (1, .int x1), (2, .int x2), (3, .int x3), (5, .int x5)]) C 4 dX9_meetingEnergy_106 rfl (congrArg (fun z => x4 + z) (show Int32.ofInt (1) = (1 : Int32) by decide)) (by decide) rfl ?_
      refine ww_goto (pc := 109) (tgt := 7) C dX9_meetingEnergy_109 (by decide) ?_
      have hf := xsj hf
      subst hf
      refine ww_sub [1, 2, 3, 4, 0] rfl ?_
      exact hk.1 (x4 + (1 : Int32), σ) rfl
    · have hf := xin q hf
      refine ww_aload_n (pc := 86) C 0 dX9_meetingEnergy_86 rfl ?_
      refine ww_iload_n (pc := 87) C 1 dX9_meetingEnergy_87 rfl ?_
      obtain ⟨_, e7, hf⟩ := xbd hf
      obtain ⟨⟨v10, σ9⟩, e8, hf⟩ := xbd hf
      dsimp only at hf
      refine ww_callVi (pc := 88) (as := [.int x1]) (st := []) C (k_X9_rootOf (l := gl G) (E := gE G) (hb := gB G) (σ := σ) e8) rfl (by decide) xc_X9_75 q1177 qp108 (xck_spec e7) rfl (by decide) (xst4 (Nat.le_of_ble_eq_true rfl)) (m_X9_rootOf e8).le (m_X9_rootOf e8).lim dX9_meetingEnergy_88 ?_
      refine ww_aload_n (pc := 91) C 0 dX9_meetingEnergy_91 rfl ?_
      refine ww_iload_n (pc := 92) C 2 dX9_meetingEnergy_92 rfl ?_
      obtain ⟨_, e11, hf⟩ := xbd hf
      obtain ⟨⟨v14, σ13⟩, e12, hf⟩ := xbd hf
      dsimp only at hf
      refine ww_callVi (pc := 93) (as := [.int x2]) (st := [.int v10]) C (k_X9_rootOf (l := gl G) (E := gE G) (hb := gB G) (σ := σ9) e12) rfl (by decide) xc_X9_75 q1177 qp108 (xck_spec e11) rfl (by decide) (xst4 (Nat.le_of_ble_eq_true rfl)) (m_X9_rootOf e12).le (m_X9_rootOf e12).lim dX9_meetingEnergy_93 ?_
      refine ww_icmp_ne (pc := 96) (tgt := 106) C dX9_meetingEnergy_96 (by decide) (fun q => ?_) (fun q => ?_)
      · have hf := xin q hf
        refine ww_iinc (pc := 106) (v := x4 + (1 : Int32)) (lv' := [(4, .int (x4 + (1 : Int32))), (0, .ref (gB G + r0)), (1, .int x1), (2, .int x2), (3, .int x3), (5, .int x5)]) C 4 dX9_meetingEnergy_106 rfl (congrArg (fun z => x4 + z) (show Int32.ofInt (1) = (1 : Int32) by decide)) (by decide) rfl ?_
        refine ww_goto (pc := 109) (tgt := 7) C dX9_meetingEnergy_109 (by decide) ?_
        have hf := xsj hf
        subst hf
        refine ww_sub [1, 2, 3, 4, 0] rfl ?_
        exact hk.1 (x4 + (1 : Int32), σ13) rfl
      · have hf := xip q hf
        obtain ⟨b0, hg, e9⟩ := xmj hf
        subst e9
        have hf := hg
        have hk := hk.2 _ rfl
        refine ww_aload_n (pc := 99) C 0 dX9_meetingEnergy_99 rfl ?_
        refine ww_iload (pc := 100) C 5 dX9_meetingEnergy_100 rfl ?_
        obtain ⟨_, e15, hf⟩ := xbd hf
        obtain ⟨v17, e16, hf⟩ := xbd hf
        refine ww_callVi (pc := 102) (as := [.int x5]) (st := []) C (k_X9_energyOf (l := gl G) (E := gE G) (hb := gB G) (σ := σ13) e16) rfl (by decide) xc_X9_100 q1141 qp101 (xck_spec e15) rfl (by decide) (xst4 (Nat.le_of_ble_eq_true rfl)) xsame.rf.le xsame.rf.lim dX9_meetingEnergy_102 ?_
        have hf := xsj hf
        subst hf
        exact ww_iret (pc := 105) C hk dX9_meetingEnergy_105
theorem m_X9_meetingEnergy_j70 {σ : XS} {r0 : Nat} {x1 : Int32} {x2 : Int32} {x3 : Int32} {x4 : Int32} {x5 : Int32} {x : ((Int32 × XS) ⊕ (Int32 × XS))} (hf : f_X9_meetingEnergy_j70 σ r0 x1 x2 x3 x4 x5 = some x) : (∀ a' : Int32 × XS, x = .inl a' → xsame σ a'.2) ∧ (∀ b1 : Int32 × XS, x = .inr b1 → xsame σ b1.2) := by
  have hm := xsame.rf (σ := σ)
  obtain ⟨_, e1, hf⟩ := xbd hf
  obtain ⟨v3, e2, hf⟩ := xbd hf
  by_cases q : v3 = 0
  · have hf := xip q hf
    have hf := xsj hf
    subst hf
    exact ⟨fun a' e => (by have h9 := Sum.inl.inj e; subst h9; exact hm), fun b e => xnc1 e⟩
  · have hf := xin q hf
    obtain ⟨_, e4, hf⟩ := xbd hf
    obtain ⟨v6, e5, hf⟩ := xbd hf
    by_cases q : v6 = 0
    · have hf := xip q hf
      have hf := xsj hf
      subst hf
      exact ⟨fun a' e => (by have h9 := Sum.inl.inj e; subst h9; exact hm), fun b e => xnc1 e⟩
    · have hf := xin q hf
      obtain ⟨_, e7, hf⟩ := xbd hf
      obtain ⟨⟨v10, σ9⟩, e8, hf⟩ := xbd hf
      dsimp only at hf
      have hm := hm.tr (m_X9_rootOf e8)
      obtain ⟨_, e11, hf⟩ := xbd hf
      obtain ⟨⟨v14, σ13⟩, e12, hf⟩ := xbd hf
      dsimp only at hf
      have hm := hm.tr (m_X9_rootOf e12)
      by_cases q : v10 = v14
      · have hf := xip q hf
        obtain ⟨b0, hg, e9⟩ := xmj hf
        subst e9
        have hf := hg
        refine ⟨fun a' e => xnc2 e, fun b e => ?_⟩
        have h9 := Sum.inr.inj e
        subst h9
        obtain ⟨_, e15, hf⟩ := xbd hf
        obtain ⟨v17, e16, hf⟩ := xbd hf
        have hf := xsj hf
        subst hf
        exact hm
      · have hf := xin q hf
        have hf := xsj hf
        subst hf
        exact ⟨fun a' e => (by have h9 := Sum.inl.inj e; subst h9; exact hm), fun b e => xnc1 e⟩
theorem m_X9_meetingEnergy_l7 {r0 : Nat} {x1 : Int32} {x2 : Int32} {x3 : Int32} {a : Int32 × XS} {x : Int32 × XS} (hf : xloop (f_X9_meetingEnergy_b7 r0 x1 x2 x3) a = some x) : xsame a.2 x.2 := by
  refine xloop_ind (P := fun a => xsame a.2 x.2) (fun a y hf hc he => ?_) hf
  obtain ⟨x4, σ⟩ := a
  have hy : (∀ a' : Int32 × XS, y = .inl a' → xsame σ a'.2) ∧ (∀ b1 : Int32 × XS, y = .inr b1 → xsame σ b1.2) := by
    have hm := xsame.rf (σ := σ)
    obtain ⟨v2, e1, hf⟩ := xbd hf
    by_cases q : v2 ≤ x4
    · have hf := xip q hf
      obtain ⟨b0, hg, e9⟩ := xmj hf
      subst e9
      have hf := hg
      refine ⟨fun a' e => xnc2 e, fun b e => ?_⟩
      have h9 := Sum.inr.inj e
      subst h9
      have hf := xsj hf
      subst hf
      exact hm
    · have hf := xin q hf
      by_cases q : (1024 : Int32) ≤ x4
      · have hf := xip q hf
        obtain ⟨b0, hg, e9⟩ := xmj hf
        subst e9
        have hf := hg
        refine ⟨fun a' e => xnc2 e, fun b e => ?_⟩
        have h9 := Sum.inr.inj e
        subst h9
        have hf := xsj hf
        subst hf
        exact hm
      · have hf := xin q hf
        obtain ⟨z4, e3, hf⟩ := xbd hf
        obtain ⟨v6, e5, hf⟩ := xbd hf
        obtain ⟨_, e7, hf⟩ := xbd hf
        obtain ⟨σ9, e8, hf⟩ := xbd hf
        have hm := hm.tr (m_X9_flood e8)
        by_cases q : x3 = 0
        · have hf := xip q hf
          exact ⟨fun a' e => hm.tr ((m_X9_meetingEnergy_j70 hf).1 a' e), fun b1 eb1 => hm.tr ((m_X9_meetingEnergy_j70 hf).2 b1 eb1)⟩
        · have hf := xin q hf
          obtain ⟨_, e10, hf⟩ := xbd hf
          obtain ⟨v12, e11, hf⟩ := xbd hf
          obtain ⟨_, e13, hf⟩ := xbd hf
          obtain ⟨v15, e14, hf⟩ := xbd hf
          obtain ⟨_, e16, hf⟩ := xbd hf
          obtain ⟨v18, e17, hf⟩ := xbd hf
          by_cases q : v12 = v18
          · have hf := xip q hf
            obtain ⟨_, e19, hf⟩ := xbd hf
            obtain ⟨v21, e20, hf⟩ := xbd hf
            obtain ⟨_, e22, hf⟩ := xbd hf
            obtain ⟨σ24, e23, hf⟩ := xbd hf
            have hm := hm.tr (m_X9_join e23)
            exact ⟨fun a' e => hm.tr ((m_X9_meetingEnergy_j70 hf).1 a' e), fun b1 eb1 => hm.tr ((m_X9_meetingEnergy_j70 hf).2 b1 eb1)⟩
          · have hf := xin q hf
            exact ⟨fun a' e => hm.tr ((m_X9_meetingEnergy_j70 hf).1 a' e), fun b1 eb1 => hm.tr ((m_X9_meetingEnergy_j70 hf).2 b1 eb1)⟩
  cases y with
  | inl a' =>
    have h1 := hc a' rfl
    have hm := hy.1 a' rfl
    exact hm.tr (h1)
  | inr b =>
    have h1 := he b rfl
    subst h1
    exact hy.2 _ rfl
theorem s_X9_meetingEnergy_l7 {G : XG} (C : XC G cX9_meetingEnergy RX9 (some .int) 6 5 111) {r0 : Nat} {x1 : Int32} {x2 : Int32} {x3 : Int32} {a : Int32 × XS} {x : Int32 × XS} (hf : xloop (f_X9_meetingEnergy_b7 r0 x1 x2 x3) a = some x) (hk : XEnd G (some (.int x.1)) x.2) : WW G 7 [(0, .ref (gB G + r0)), (1, .int x1), (2, .int x2), (3, .int x3), (4, .int a.1)] [] a.2 := by
  refine xloop_ind (P := fun a => WW G 7 [(0, .ref (gB G + r0)), (1, .int x1), (2, .int x2), (3, .int x3), (4, .int a.1)] [] a.2) (fun a y hf hc he => ?_) hf
  obtain ⟨x4, σ⟩ := a
  have hk : (∀ a' : Int32 × XS, y = .inl a' → WW G 7 [(0, .ref (gB G + r0)), (1, .int x1), (2, .int x2), (3, .int x3), (4, .int a'.1)] [] a'.2) ∧ (∀ b1 : Int32 × XS, y = .inr b1 → XEnd G (some (.int b1.1)) b1.2) := ⟨hc, fun b e => by have h9 := he b e; subst h9; exact hk⟩
  refine ww_iload (pc := 7) C 4 dX9_meetingEnergy_7 rfl ?_
  refine ww_aload_n (pc := 9) C 0 dX9_meetingEnergy_9 rfl ?_
  obtain ⟨v2, e1, hf⟩ := xbd hf
  refine gf_X9_43 (pc := 10) C e1 dX9_meetingEnergy_10 ?_
  refine ww_icmp_ge (pc := 13) (tgt := 112) C dX9_meetingEnergy_13 (by decide) (fun q => ?_) (fun q => ?_)
  · have hf := xip q hf
    obtain ⟨b0, hg, e9⟩ := xmj hf
    subst e9
    have hf := hg
    have hk := hk.2 _ rfl
    refine ww_ldc (pc := 112) C q1180 dX9_meetingEnergy_112 ?_
    have hf := xsj hf
    subst hf
    exact ww_iret (pc := 114) C hk dX9_meetingEnergy_114
  · have hf := xin q hf
    refine ww_iload (pc := 16) C 4 dX9_meetingEnergy_16 rfl ?_
    refine ww_sipush (pc := 18) (v := (1024 : Int32)) C dX9_meetingEnergy_18 (by decide) ?_
    refine ww_icmp_ge (pc := 21) (tgt := 112) C dX9_meetingEnergy_21 (by decide) (fun q => ?_) (fun q => ?_)
    · have hf := xip q hf
      obtain ⟨b0, hg, e9⟩ := xmj hf
      subst e9
      have hf := hg
      have hk := hk.2 _ rfl
      refine ww_ldc (pc := 112) C q1180 dX9_meetingEnergy_112 ?_
      have hf := xsj hf
      subst hf
      exact ww_iret (pc := 114) C hk dX9_meetingEnergy_114
    · have hf := xin q hf
      refine ww_aload_n (pc := 24) C 0 dX9_meetingEnergy_24 rfl ?_
      obtain ⟨z4, e3, hf⟩ := xbd hf
      refine gf_X9_9 (pc := 25) C e3 dX9_meetingEnergy_25 ?_
      refine ww_iload (pc := 28) C 4 dX9_meetingEnergy_28 rfl ?_
      obtain ⟨v6, e5, hf⟩ := xbd hf
      refine ww_iald (pc := 30) C e5 dX9_meetingEnergy_30 ?_
      refine ww_istore (pc := 31) (lv' := [(5, .int v6), (0, .ref (gB G + r0)), (1, .int x1), (2, .int x2), (3, .int x3), (4, .int x4)]) C dX9_meetingEnergy_31 (by decide) rfl ?_
      refine ww_aload_n (pc := 33) C 1 dX9_meetingEnergy_33 rfl ?_
      refine ww_iload (pc := 34) C 0 dX9_meetingEnergy_34 rfl ?_
      obtain ⟨_, e7, hf⟩ := xbd hf
      obtain ⟨σ9, e8, hf⟩ := xbd hf
      refine ww_callVv (pc := 36) (as := [.int v6]) (st := []) C (k_X9_flood (l := gl G) (E := gE G) (hb := gB G) (σ := σ) e8) rfl (by decide) xc_X9_96 q1165 qp105 (xck_spec e7) rfl (by decide) (xst4 (Nat.le_of_ble_eq_true rfl)) (m_X9_flood e8).le (m_X9_flood e8).lim dX9_meetingEnergy_36 ?_
      refine ww_iload_n (pc := 39) C 4 dX9_meetingEnergy_39 rfl ?_
      refine ww_if_eq (pc := 40) (tgt := 70) C dX9_meetingEnergy_40 (by decide) (fun q => ?_) (fun q => ?_)
      · have hf := xip q hf
        refine ww_sub [1, 2, 3, 4, 5, 0] rfl ?_
        exact s_X9_meetingEnergy_j70 C hf hk
      · have hf := xin q hf
        refine ww_aload_n (pc := 43) C 1 dX9_meetingEnergy_43 rfl ?_
        refine ww_iload (pc := 44) C 0 dX9_meetingEnergy_44 rfl ?_
        obtain ⟨_, e10, hf⟩ := xbd hf
        obtain ⟨v12, e11, hf⟩ := xbd hf
        refine ww_callVi (pc := 46) (as := [.int v6]) (st := []) C (k_X9_energyOf (l := gl G) (E := gE G) (hb := gB G) (σ := σ9) e11) rfl (by decide) xc_X9_100 q1141 qp101 (xck_spec e10) rfl (by decide) (xst4 (Nat.le_of_ble_eq_true rfl)) xsame.rf.le xsame.rf.lim dX9_meetingEnergy_46 ?_
        refine ww_aload_n (pc := 49) C 1 dX9_meetingEnergy_49 rfl ?_
        refine ww_aload_n (pc := 50) C 1 dX9_meetingEnergy_50 rfl ?_
        obtain ⟨_, e13, hf⟩ := xbd hf
        obtain ⟨v15, e14, hf⟩ := xbd hf
        refine ww_callVi (pc := 51) (as := []) (st := [.ref (gB G + r0), .int v12]) C (k_X9_lowest (l := gl G) (E := gE G) (hb := gB G) (σ := σ9) e14) rfl (by decide) xc_X9_103 q1152 qp102 (xck_spec e13) rfl (by decide) (xst4 (Nat.le_of_ble_eq_true rfl)) xsame.rf.le xsame.rf.lim dX9_meetingEnergy_51 ?_
        obtain ⟨_, e16, hf⟩ := xbd hf
        obtain ⟨v18, e17, hf⟩ := xbd hf
        refine ww_callVi (pc := 54) (as := [.int v15]) (st := [.int v12]) C (k_X9_energyOf (l := gl G) (E := gE G) (hb := gB G) (σ := σ9) e17) rfl (by decide) xc_X9_100 q1141 qp101 (xck_spec e16) rfl (by decide) (xst4 (Nat.le_of_ble_eq_true rfl)) xsame.rf.le xsame.rf.lim dX9_meetingEnergy_54 ?_
        refine ww_icmp_ne (pc := 57) (tgt := 70) C dX9_meetingEnergy_57 (by decide) (fun q => ?_) (fun q => ?_)
        · have hf := xin q hf
          refine ww_sub [1, 2, 3, 4, 5, 0] rfl ?_
          exact s_X9_meetingEnergy_j70 C hf hk
        · have hf := xip q hf
          refine ww_aload_n (pc := 60) C 1 dX9_meetingEnergy_60 rfl ?_
          refine ww_iload (pc := 61) C 0 dX9_meetingEnergy_61 rfl ?_
          refine ww_aload_n (pc := 63) C 1 dX9_meetingEnergy_63 rfl ?_
          obtain ⟨_, e19, hf⟩ := xbd hf
          obtain ⟨v21, e20, hf⟩ := xbd hf
          refine ww_callVi (pc := 64) (as := []) (st := [.int v6, .ref (gB G + r0)]) C (k_X9_lowest (l := gl G) (E := gE G) (hb := gB G) (σ := σ9) e20) rfl (by decide) xc_X9_103 q1152 qp102 (xck_spec e19) rfl (by decide) (xst4 (Nat.le_of_ble_eq_true rfl)) xsame.rf.le xsame.rf.lim dX9_meetingEnergy_64 ?_
          obtain ⟨_, e22, hf⟩ := xbd hf
          obtain ⟨σ24, e23, hf⟩ := xbd hf
          refine ww_callVv (pc := 67) (as := [.int v6, .int v21]) (st := []) C (k_X9_join (l := gl G) (E := gE G) (hb := gB G) (σ := σ9) e23) rfl (by decide) xc_X9_90 q1173 qp107 (xck_spec e22) rfl (by decide) (xst4 (Nat.le_of_ble_eq_true rfl)) (m_X9_join e23).le (m_X9_join e23).lim dX9_meetingEnergy_67 ?_
          refine ww_sub [1, 2, 3, 4, 5, 0] rfl ?_
          exact s_X9_meetingEnergy_j70 C hf hk
theorem s_X9_meetingEnergy_e {G : XG} (C : XC G cX9_meetingEnergy RX9 (some .int) 6 5 111) {σ : XS} {r0 : Nat} {x1 : Int32} {x2 : Int32} {x3 : Int32} {x : Int32 × XS} (hf : f_X9_meetingEnergy σ r0 x1 x2 x3 = some x) (hk : XEnd G (some (.int x.1)) x.2) : WW G 0 [(0, .ref (gB G + r0)), (1, .int x1), (2, .int x2), (3, .int x3)] [] σ := by
  refine ww_aload_n (pc := 0) C 0 dX9_meetingEnergy_0 rfl ?_
  obtain ⟨_, e1, hf⟩ := xbd hf
  obtain ⟨σ3, e2, hf⟩ := xbd hf
  refine ww_callVv (pc := 1) (as := []) (st := []) C (k_X9_dry (l := gl G) (E := gE G) (hb := gB G) (σ := σ) e2) rfl (by decide) xc_X9_93 q1160 qp104 (xck_spec e1) rfl (by decide) (xst4 (Nat.le_of_ble_eq_true rfl)) (m_X9_dry e2).le (m_X9_dry e2).lim dX9_meetingEnergy_1 ?_
  refine ww_iconst (pc := 4) (v := (0 : Int32)) C dX9_meetingEnergy_4 (by decide) ?_
  refine ww_istore (pc := 5) (lv' := [(4, .int (0 : Int32)), (0, .ref (gB G + r0)), (1, .int x1), (2, .int x2), (3, .int x3)]) C dX9_meetingEnergy_5 (by decide) rfl ?_
  refine ww_sub [1, 2, 3, 4, 0] rfl ?_
  exact s_X9_meetingEnergy_l7 C (a := ((0 : Int32), σ3)) hf hk
theorem m_X9_meetingEnergy {σ : XS} {r0 : Nat} {x1 : Int32} {x2 : Int32} {x3 : Int32} {x : Int32 × XS} (hf : f_X9_meetingEnergy σ r0 x1 x2 x3 = some x) : xsame σ x.2 := by
  have hm := xsame.rf (σ := σ)
  obtain ⟨_, e1, hf⟩ := xbd hf
  obtain ⟨σ3, e2, hf⟩ := xbd hf
  have hm := hm.tr (m_X9_dry e2)
  exact hm.tr (m_X9_meetingEnergy_l7 (a := ((0 : Int32), σ3)) hf)
theorem k_X9_meetingEnergy {l : Launch} {E : XD} {hb : Nat} {σ : XS} {r0 : Nat} {x1 : Int32} {x2 : Int32} {x3 : Int32} {x : Int32 × XS} (h : f_X9_meetingEnergy σ r0 x1 x2 x3 = some x) : XM l yX9_meetingEnergy cX9_meetingEnergy 6 (some .int) 5 111 E hb [.ref (hb + r0), .int x1, .int x2, .int x3] σ (some (.int x.1)) x.2 := by
  refine xm_of (by decide) (Nat.le_of_ble_eq_true rfl) (m_X9_meetingEnergy h).le (fun G hG C hl hQ => ?_)
  obtain ⟨rfl, rfl, rfl, hN⟩ := hG
  exact s_X9_meetingEnergy_e C h hQ
noncomputable def f_X11_hill_j22 (σ : XS) (x1 : Int32) (t0 : Nat) : Option (Int32 × XS) := (xck σ t0 9).bind fun _ => (f_X9_lowest σ t0).bind fun v3 => (xck σ t0 9).bind fun _ => (f_X9_meetingEnergy σ t0 x1 v3 (1 : Int32)).bind fun (v7, σ6) => some (v7, σ6)
noncomputable def f_X11_hill (σ : XS) (r0 : Nat) (x1 : Int32) : Option (Int32 × XS) := (xck σ r0 11).bind fun _ => (f_X11_isSmall σ r0).bind fun v3 => if v3 = 0 then (some ((-100000 : Int32), σ)) else (xck σ r0 11).bind fun _ => (f_X11_isLawful σ r0 x1).bind fun v6 => if v6 = 0 then (some ((-100000 : Int32), σ)) else (xck σ r0 11).bind fun _ => (f_X11_terrainNow σ r0).bind fun (z10, σ9) => (xnz z10).bind fun _ => f_X11_hill_j22 σ9 x1 z10
theorem s_X11_hill_j22 {G : XG} (C : XC G cX11_hill RX11 (some .int) 3 6 136) {σ : XS} {x1 : Int32} {t0 : Nat} {x : Int32 × XS} (hf : f_X11_hill_j22 σ x1 t0 = some x) (hk : XEnd G (some (.int x.1)) x.2 ∧ XUp G x.2) : WW G 22 [(1, .int x1)] [.ref (gB G + t0)] σ := by
  refine ww_astore_n (pc := 22) (lv' := [(2, .ref (gB G + t0)), (1, .int x1)]) C dX11_hill_22 (by decide) rfl ?_
  refine ww_aload_n (pc := 23) C 0 dX11_hill_23 rfl ?_
  refine ww_iload_n (pc := 24) C 1 dX11_hill_24 rfl ?_
  refine ww_aload_n (pc := 25) C 0 dX11_hill_25 rfl ?_
  obtain ⟨_, e1, hf⟩ := xbd hf
  obtain ⟨v3, e2, hf⟩ := xbd hf
  refine ww_callVi (pc := 26) (as := []) (st := [.int x1, .ref (gB G + t0)]) C (k_X9_lowest (l := gl G) (E := gE G) (hb := gB G) (σ := σ) e2) rfl (by decide) xc_X11_419 q1152 qp102 (xck_spec e1) rfl (by decide) (xst4 (Nat.le_of_ble_eq_true rfl)) xsame.rf.le xsame.rf.lim dX11_hill_26 ?_
  refine ww_iconst (pc := 29) (v := (1 : Int32)) C dX11_hill_29 (by decide) ?_
  obtain ⟨_, e4, hf⟩ := xbd hf
  obtain ⟨⟨v7, σ6⟩, e5, hf⟩ := xbd hf
  dsimp only at hf
  refine ww_callVi (pc := 30) (as := [.int x1, .int v3, .int (1 : Int32)]) (st := []) C (k_X9_meetingEnergy (l := gl G) (E := gE G) (hb := gB G) (σ := σ) e5) rfl (by decide) xc_X11_422 q1156 qp103 (xck_spec e4) rfl (by decide) (xst4 (Nat.le_of_ble_eq_true rfl)) (m_X9_meetingEnergy e5).le (m_X9_meetingEnergy e5).lim dX11_hill_30 ?_
  have hf := xsj hf
  subst hf
  exact ww_iret (pc := 33) C hk.1 dX11_hill_33
theorem m_X11_hill_j22 {σ : XS} {x1 : Int32} {t0 : Nat} {x : Int32 × XS} (hf : f_X11_hill_j22 σ x1 t0 = some x) : xext σ x.2 := by
  have hm := xext.rf (σ := σ)
  obtain ⟨_, e1, hf⟩ := xbd hf
  obtain ⟨v3, e2, hf⟩ := xbd hf
  obtain ⟨_, e4, hf⟩ := xbd hf
  obtain ⟨⟨v7, σ6⟩, e5, hf⟩ := xbd hf
  dsimp only at hf
  have hm := hm.tr (m_X9_meetingEnergy e5).ext
  have hf := xsj hf
  subst hf
  exact hm
theorem s_X11_hill_e {G : XG} (C : XC G cX11_hill RX11 (some .int) 3 6 136) {σ : XS} {r0 : Nat} {x1 : Int32} {x : Int32 × XS} (hf : f_X11_hill σ r0 x1 = some x) (hk : XEnd G (some (.int x.1)) x.2 ∧ XUp G x.2) : WW G 0 [(0, .ref (gB G + r0)), (1, .int x1)] [] σ := by
  refine ww_aload_n (pc := 0) C 0 dX11_hill_0 rfl ?_
  obtain ⟨_, e1, hf⟩ := xbd hf
  obtain ⟨v3, e2, hf⟩ := xbd hf
  refine ww_callVi (pc := 1) (as := []) (st := []) C (k_X11_isSmall (l := gl G) (E := gE G) (hb := gB G) (σ := σ) e2) rfl (by decide) xc_X11_408 q1110 qp94 (xck_spec e1) rfl (by decide) (xst4 (Nat.le_of_ble_eq_true rfl)) xsame.rf.le xsame.rf.lim dX11_hill_1 ?_
  refine ww_if_eq (pc := 4) (tgt := 15) C dX11_hill_4 (by decide) (fun q => ?_) (fun q => ?_)
  · have hf := xip q hf
    refine ww_ldc (pc := 15) C q801 dX11_hill_15 ?_
    have hf := xsj hf
    subst hf
    exact ww_iret (pc := 17) C hk.1 dX11_hill_17
  · have hf := xin q hf
    refine ww_aload_n (pc := 7) C 0 dX11_hill_7 rfl ?_
    refine ww_iload_n (pc := 8) C 1 dX11_hill_8 rfl ?_
    obtain ⟨_, e4, hf⟩ := xbd hf
    obtain ⟨v6, e5, hf⟩ := xbd hf
    refine ww_callVi (pc := 9) (as := [.int x1]) (st := []) C (k_X11_isLawful (l := gl G) (E := gE G) (hb := gB G) (σ := σ) e5) rfl (by decide) xc_X11_384 q1067 qp88 (xck_spec e4) rfl (by decide) (xst4 (Nat.le_of_ble_eq_true rfl)) xsame.rf.le xsame.rf.lim dX11_hill_9 ?_
    refine ww_if_ne (pc := 12) (tgt := 18) C dX11_hill_12 (by decide) (fun q => ?_) (fun q => ?_)
    · have hf := xin q hf
      refine ww_aload_n (pc := 18) C 0 dX11_hill_18 rfl ?_
      obtain ⟨_, e7, hf⟩ := xbd hf
      obtain ⟨⟨z10, σ9⟩, e8, hf⟩ := xbd hf
      dsimp only at hf
      obtain ⟨_, e11, hf⟩ := xbd hf
      refine ww_callVr (pc := 19) (as := []) (st := []) C (k_X11_terrainNow (l := gl G) (E := gE G) (hb := gB G) (σ := σ) e8) rfl (by decide) xc_X11_412 q1114 qp95 (xck_spec e7) rfl (by decide) (xst4 (Nat.le_of_ble_eq_true rfl)) (m_X11_terrainNow e8).1 (fun q => by have hm9 := m_X11_hill_j22 hf; exact XLim.mid q (m_X11_terrainNow e8) hm9 hk.2) dX11_hill_19 ?_
      refine ww_nn (xnz_spec e11) ?_
      refine ww_sub [1] rfl ?_
      exact s_X11_hill_j22 C hf hk
    · have hf := xip q hf
      refine ww_ldc (pc := 15) C q801 dX11_hill_15 ?_
      have hf := xsj hf
      subst hf
      exact ww_iret (pc := 17) C hk.1 dX11_hill_17
theorem m_X11_hill {σ : XS} {r0 : Nat} {x1 : Int32} {x : Int32 × XS} (hf : f_X11_hill σ r0 x1 = some x) : xext σ x.2 := by
  have hm := xext.rf (σ := σ)
  obtain ⟨_, e1, hf⟩ := xbd hf
  obtain ⟨v3, e2, hf⟩ := xbd hf
  by_cases q : v3 = 0
  · have hf := xip q hf
    have hf := xsj hf
    subst hf
    exact hm
  · have hf := xin q hf
    obtain ⟨_, e4, hf⟩ := xbd hf
    obtain ⟨v6, e5, hf⟩ := xbd hf
    by_cases q : v6 = 0
    · have hf := xip q hf
      have hf := xsj hf
      subst hf
      exact hm
    · have hf := xin q hf
      obtain ⟨_, e7, hf⟩ := xbd hf
      obtain ⟨⟨z10, σ9⟩, e8, hf⟩ := xbd hf
      dsimp only at hf
      have hm := hm.tr (m_X11_terrainNow e8)
      obtain ⟨_, e11, hf⟩ := xbd hf
      exact hm.tr (m_X11_hill_j22 hf)
theorem k_X11_hill {l : Launch} {E : XD} {hb : Nat} {σ : XS} {r0 : Nat} {x1 : Int32} {x : Int32 × XS} (h : f_X11_hill σ r0 x1 = some x) : XM l yX11_hill cX11_hill 3 (some .int) 6 136 E hb [.ref (hb + r0), .int x1] σ (some (.int x.1)) x.2 := by
  refine xm_of (by decide) (Nat.le_of_ble_eq_true rfl) (m_X11_hill h).1 (fun G hG C hl hQ => ?_)
  obtain ⟨rfl, rfl, rfl, hN⟩ := hG
  exact s_X11_hill_e C h ⟨hQ, hl.2⟩
noncomputable def f_X11_slotAt (σ : XS) (r0 : Nat) (x1 : Int32) : Option Nat := if x1 < 0 then (some (0 : Nat)) else (xgR σ r0 11 5).bind fun z2 => (xal σ z2).bind fun v4 => if v4 ≤ x1 then (some (0 : Nat)) else (xgR σ r0 11 5).bind fun z6 => (xaR σ 25 z6 x1).bind fun z8 => (xnz z8).bind fun _ => some z8
theorem s_X11_slotAt_e {G : XG} (C : XC G cX11_slotAt RX11 (some (.object "SpinStrip$Slot")) 2 0 0) {σ : XS} {r0 : Nat} {x1 : Int32} {x : Nat} (hf : f_X11_slotAt σ r0 x1 = some x) (hk : XEnd G (some (xrv (gB G) x)) σ) : WW G 0 [(0, .ref (gB G + r0)), (1, .int x1)] [] σ := by
  refine ww_iload_n (pc := 0) C 1 dX11_slotAt_0 rfl ?_
  refine ww_if_lt (pc := 1) (tgt := 22) C dX11_slotAt_1 (by decide) (fun q => ?_) (fun q => ?_)
  · have hf := xip q hf
    refine ww_null (pc := 22) C dX11_slotAt_22 ?_
    have hf := xsj hf
    subst hf
    exact ww_aretN (pc := 23) C (Or.inl ⟨_, rfl⟩) hk dX11_slotAt_23
  · have hf := xin q hf
    refine ww_iload_n (pc := 4) C 1 dX11_slotAt_4 rfl ?_
    refine ww_aload_n (pc := 5) C 0 dX11_slotAt_5 rfl ?_
    obtain ⟨z2, e1, hf⟩ := xbd hf
    refine gf_X11_44 (pc := 6) C e1 dX11_slotAt_6 ?_
    obtain ⟨v4, e3, hf⟩ := xbd hf
    refine ww_alen (pc := 9) C e3 dX11_slotAt_9 ?_
    refine ww_icmp_ge (pc := 10) (tgt := 22) C dX11_slotAt_10 (by decide) (fun q => ?_) (fun q => ?_)
    · have hf := xip q hf
      refine ww_null (pc := 22) C dX11_slotAt_22 ?_
      have hf := xsj hf
      subst hf
      exact ww_aretN (pc := 23) C (Or.inl ⟨_, rfl⟩) hk dX11_slotAt_23
    · have hf := xin q hf
      refine ww_aload_n (pc := 13) C 0 dX11_slotAt_13 rfl ?_
      obtain ⟨z6, e5, hf⟩ := xbd hf
      refine gf_X11_44 (pc := 14) C e5 dX11_slotAt_14 ?_
      refine ww_iload_n (pc := 17) C 1 dX11_slotAt_17 rfl ?_
      obtain ⟨z8, e7, hf⟩ := xbd hf
      refine ww_aald (pc := 18) (by decide) C e7 dX11_slotAt_18 ?_
      refine ww_goto (pc := 19) (tgt := 23) C dX11_slotAt_19 (by decide) ?_
      obtain ⟨_, e9, hf⟩ := xbd hf
      have hf := xsj hf
      subst hf
      exact ww_aret (pc := 23) C (Or.inl ⟨_, rfl⟩) (xnz_spec e9) hk dX11_slotAt_23
theorem k_X11_slotAt {l : Launch} {E : XD} {hb : Nat} {σ : XS} {r0 : Nat} {x1 : Int32} {x : Nat} (h : f_X11_slotAt σ r0 x1 = some x) : XM l yX11_slotAt cX11_slotAt 2 (some (.object "SpinStrip$Slot")) 0 0 E hb [.ref (hb + r0), .int x1] σ (some (xrv (hb) x)) σ := by
  refine xm_of (by decide) (Nat.le_of_ble_eq_true rfl) ⟨Nat.le_refl _, Nat.le_refl _⟩ (fun G hG C hl hQ => ?_)
  obtain ⟨rfl, rfl, rfl, hN⟩ := hG
  exact s_X11_slotAt_e C h hQ
noncomputable def f_X11_hold (σ : XS) (r0 : Nat) (x1 : Int32) : Option (Int32 × XS) := (xck σ r0 11).bind fun _ => (f_X11_slotAt σ r0 x1).bind fun z3 => if z3 = 0 then (some ((0 : Int32), σ)) else (xgR σ z3 7 0).bind fun z5 => (xgR σ r0 11 3).bind fun z7 => (xck σ z5 6).bind fun _ => (f_X6_copyFrom σ z5 z7).bind fun σ10 => (xpI σ10 z3 7 2 (1 : Int32)).bind fun σ12 => (xpI σ12 z3 7 3 (0 : Int32)).bind fun σ14 => some ((1 : Int32), σ14)
theorem s_X11_hold_e {G : XG} (C : XC G cX11_hold RX11 (some .boolean) 3 2 61) {σ : XS} {r0 : Nat} {x1 : Int32} {x : Int32 × XS} (hf : f_X11_hold σ r0 x1 = some x) (hk : XEnd G (some (.int x.1)) x.2) : WW G 0 [(0, .ref (gB G + r0)), (1, .int x1)] [] σ := by
  refine ww_aload_n (pc := 0) C 0 dX11_hold_0 rfl ?_
  refine ww_iload_n (pc := 1) C 1 dX11_hold_1 rfl ?_
  obtain ⟨_, e1, hf⟩ := xbd hf
  obtain ⟨z3, e2, hf⟩ := xbd hf
  refine ww_callVr (pc := 2) (as := [.int x1]) (st := []) C (k_X11_slotAt (l := gl G) (E := gE G) (hb := gB G) (σ := σ) e2) rfl (by decide) xc_X11_307 q1003 qp79 (xck_spec e1) rfl (by decide) (xst4 (Nat.le_of_ble_eq_true rfl)) xsame.rf.le xsame.rf.lim dX11_hold_2 ?_
  refine ww_nul (fun q => ?_) (fun q => ?_)
  · have hf := xip q hf
    refine ww_astore_nN (pc := 5) (lv' := [(2, .null), (0, .ref (gB G + r0)), (1, .int x1)]) C dX11_hold_5 (by decide) rfl ?_
    refine ww_aload_nN (pc := 6) C 0 dX11_hold_6 rfl ?_
    refine ww_ifnonnullN (pc := 7) C dX11_hold_7 ?_
    refine ww_iconst (pc := 10) (v := (0 : Int32)) C dX11_hold_10 (by decide) ?_
    have hf := xsj hf
    subst hf
    exact ww_zret (pc := 11) C rfl hk dX11_hold_11
  · have hf := xin q hf
    refine ww_astore_n (pc := 5) (lv' := [(2, .ref (gB G + z3)), (0, .ref (gB G + r0)), (1, .int x1)]) C dX11_hold_5 (by decide) rfl ?_
    refine ww_aload_n (pc := 6) C 0 dX11_hold_6 rfl ?_
    refine ww_ifnonnull (pc := 7) (tgt := 12) C dX11_hold_7 (by decide) ?_
    refine ww_aload_n (pc := 12) C 0 dX11_hold_12 rfl ?_
    obtain ⟨z5, e4, hf⟩ := xbd hf
    refine gf_X11_339 (pc := 13) C e4 dX11_hold_13 ?_
    refine ww_aload_n (pc := 16) C 1 dX11_hold_16 rfl ?_
    obtain ⟨z7, e6, hf⟩ := xbd hf
    refine gf_X11_31 (pc := 17) C e6 dX11_hold_17 ?_
    obtain ⟨_, e8, hf⟩ := xbd hf
    obtain ⟨σ10, e9, hf⟩ := xbd hf
    refine ww_callVv (pc := 20) (as := [.ref (gB G + z7)]) (st := []) C (k_X6_copyFrom (l := gl G) (E := gE G) (hb := gB G) (σ := σ) e9) rfl (by decide) xc_X11_137 q672 qp33 (xck_spec e8) rfl (by decide) (xst4 (Nat.le_of_ble_eq_true rfl)) (m_X6_copyFrom e9).le (m_X6_copyFrom e9).lim dX11_hold_20 ?_
    refine ww_aload_n (pc := 23) C 0 dX11_hold_23 rfl ?_
    refine ww_iconst (pc := 24) (v := (1 : Int32)) C dX11_hold_24 (by decide) ?_
    obtain ⟨σ12, e11, hf⟩ := xbd hf
    refine pf_X11_150 (pc := 25) C (Or.inr rfl) e11 dX11_hold_25 ?_
    refine ww_aload_n (pc := 28) C 0 dX11_hold_28 rfl ?_
    refine ww_iconst (pc := 29) (v := (0 : Int32)) C dX11_hold_29 (by decide) ?_
    obtain ⟨σ14, e13, hf⟩ := xbd hf
    refine pf_X11_336 (pc := 30) C (Or.inl rfl) e13 dX11_hold_30 ?_
    refine ww_iconst (pc := 33) (v := (1 : Int32)) C dX11_hold_33 (by decide) ?_
    have hf := xsj hf
    subst hf
    exact ww_zret (pc := 34) C rfl hk dX11_hold_34
theorem m_X11_hold {σ : XS} {r0 : Nat} {x1 : Int32} {x : Int32 × XS} (hf : f_X11_hold σ r0 x1 = some x) : xsame σ x.2 := by
  have hm := xsame.rf (σ := σ)
  obtain ⟨_, e1, hf⟩ := xbd hf
  obtain ⟨z3, e2, hf⟩ := xbd hf
  by_cases q : z3 = 0
  · have hf := xip q hf
    have hf := xsj hf
    subst hf
    exact hm
  · have hf := xin q hf
    obtain ⟨z5, e4, hf⟩ := xbd hf
    obtain ⟨z7, e6, hf⟩ := xbd hf
    obtain ⟨_, e8, hf⟩ := xbd hf
    obtain ⟨σ10, e9, hf⟩ := xbd hf
    have hm := hm.tr (m_X6_copyFrom e9)
    obtain ⟨σ12, e11, hf⟩ := xbd hf
    have hm := hm.tr (xpI_same e11)
    obtain ⟨σ14, e13, hf⟩ := xbd hf
    have hm := hm.tr (xpI_same e13)
    have hf := xsj hf
    subst hf
    exact hm
theorem k_X11_hold {l : Launch} {E : XD} {hb : Nat} {σ : XS} {r0 : Nat} {x1 : Int32} {x : Int32 × XS} (h : f_X11_hold σ r0 x1 = some x) : XM l yX11_hold cX11_hold 3 (some .boolean) 2 61 E hb [.ref (hb + r0), .int x1] σ (some (.int x.1)) x.2 := by
  refine xm_of (by decide) (Nat.le_of_ble_eq_true rfl) (m_X11_hold h).le (fun G hG C hl hQ => ?_)
  obtain ⟨rfl, rfl, rfl, hN⟩ := hG
  exact s_X11_hold_e C h hQ
noncomputable def f_X8_init_j37 (σ : XS) (t0 : Nat) (t1 : Nat) : Option XS := (xnz t1).bind fun _ => (xpR σ t0 8 3 t1).bind fun σ3 => some σ3
noncomputable def f_X8_init_j28 (σ : XS) (r0 : Nat) (t0 : Nat) (t1 : Nat) : Option XS := (xnz t1).bind fun _ => (xpR σ t0 8 2 t1).bind fun σ3 => (xnA σ3 20 (400 : Int32)).bind fun (z5, σ6) => f_X8_init_j37 σ6 r0 z5
noncomputable def f_X8_init_j19 (σ : XS) (r0 : Nat) (t0 : Nat) (t1 : Nat) : Option XS := (xnz t1).bind fun _ => (xpR σ t0 8 1 t1).bind fun σ3 => (xnA σ3 20 (400 : Int32)).bind fun (z5, σ6) => f_X8_init_j28 σ6 r0 r0 z5
noncomputable def f_X8_init_j10 (σ : XS) (r0 : Nat) (t0 : Nat) (t1 : Nat) : Option XS := (xnz t1).bind fun _ => (xpR σ t0 8 0 t1).bind fun σ3 => (xnA σ3 20 (400 : Int32)).bind fun (z5, σ6) => f_X8_init_j19 σ6 r0 r0 z5
noncomputable def f_X8_init (σ : XS) (r0 : Nat) : Option XS := (xnA σ 21 (2000 : Int32)).bind fun (z2, σ3) => f_X8_init_j10 σ3 r0 r0 z2
theorem s_X8_init_j37 {G : XG} (C : XC G cX8_init RX8 none 1 1 20) (hN : (gh G).name = "<init>") {σ : XS} {t0 : Nat} {t1 : Nat} {x : XS} (hf : f_X8_init_j37 σ t0 t1 = some x) (hk : XEnd G none x ∧ XUp G x) : WW G 37 [] [.ref (gB G + t1), .ref (gB G + t0)] σ := by
  obtain ⟨_, e1, hf⟩ := xbd hf
  obtain ⟨σ3, e2, hf⟩ := xbd hf
  refine pf_X8_22 (pc := 37) C hN (xnz_spec e1) e2 dX8_init_37 ?_
  have hf := xsj hf
  subst hf
  exact ww_vret (pc := 40) C hk.1 dX8_init_40
theorem m_X8_init_j37 {σ : XS} {t0 : Nat} {t1 : Nat} {x : XS} (hf : f_X8_init_j37 σ t0 t1 = some x) : xext σ x := by
  have hm := xext.rf (σ := σ)
  obtain ⟨_, e1, hf⟩ := xbd hf
  obtain ⟨σ3, e2, hf⟩ := xbd hf
  have hm := hm.tr (xpR_same e2).ext
  have hf := xsj hf
  subst hf
  exact hm
theorem s_X8_init_j28 {G : XG} (C : XC G cX8_init RX8 none 1 1 20) (hN : (gh G).name = "<init>") {σ : XS} {r0 : Nat} {t0 : Nat} {t1 : Nat} {x : XS} (hf : f_X8_init_j28 σ r0 t0 t1 = some x) (hk : XEnd G none x ∧ XUp G x) : WW G 28 [(0, .ref (gB G + r0))] [.ref (gB G + t1), .ref (gB G + t0)] σ := by
  obtain ⟨_, e1, hf⟩ := xbd hf
  obtain ⟨σ3, e2, hf⟩ := xbd hf
  refine pf_X8_19 (pc := 28) C hN (xnz_spec e1) e2 dX8_init_28 ?_
  refine ww_aload_n (pc := 31) C 0 dX8_init_31 rfl ?_
  refine ww_sipush (pc := 32) (v := (400 : Int32)) C dX8_init_32 (by decide) ?_
  obtain ⟨⟨z5, σ6⟩, e4, hf⟩ := xbd hf
  dsimp only at hf
  refine ww_newI (pc := 35) C q77 e4 (fun q => by have hm9 := m_X8_init_j37 hf; exact XLim.mid q (xnA_ext e4) hm9 hk.2) dX8_init_35 ?_
  refine ww_sub [] rfl ?_
  exact s_X8_init_j37 C hN hf hk
theorem m_X8_init_j28 {σ : XS} {r0 : Nat} {t0 : Nat} {t1 : Nat} {x : XS} (hf : f_X8_init_j28 σ r0 t0 t1 = some x) : xext σ x := by
  have hm := xext.rf (σ := σ)
  obtain ⟨_, e1, hf⟩ := xbd hf
  obtain ⟨σ3, e2, hf⟩ := xbd hf
  have hm := hm.tr (xpR_same e2).ext
  obtain ⟨⟨z5, σ6⟩, e4, hf⟩ := xbd hf
  dsimp only at hf
  have hm := hm.tr (xnA_ext e4)
  exact hm.tr (m_X8_init_j37 hf)
theorem s_X8_init_j19 {G : XG} (C : XC G cX8_init RX8 none 1 1 20) (hN : (gh G).name = "<init>") {σ : XS} {r0 : Nat} {t0 : Nat} {t1 : Nat} {x : XS} (hf : f_X8_init_j19 σ r0 t0 t1 = some x) (hk : XEnd G none x ∧ XUp G x) : WW G 19 [(0, .ref (gB G + r0))] [.ref (gB G + t1), .ref (gB G + t0)] σ := by
  obtain ⟨_, e1, hf⟩ := xbd hf
  obtain ⟨σ3, e2, hf⟩ := xbd hf
  refine pf_X8_15 (pc := 19) C hN (xnz_spec e1) e2 dX8_init_19 ?_
  refine ww_aload_n (pc := 22) C 0 dX8_init_22 rfl ?_
  refine ww_sipush (pc := 23) (v := (400 : Int32)) C dX8_init_23 (by decide) ?_
  obtain ⟨⟨z5, σ6⟩, e4, hf⟩ := xbd hf
  dsimp only at hf
  refine ww_newI (pc := 26) C q77 e4 (fun q => by have hm9 := m_X8_init_j28 hf; exact XLim.mid q (xnA_ext e4) hm9 hk.2) dX8_init_26 ?_
  refine ww_sub [0] rfl ?_
  exact s_X8_init_j28 C hN hf hk
theorem m_X8_init_j19 {σ : XS} {r0 : Nat} {t0 : Nat} {t1 : Nat} {x : XS} (hf : f_X8_init_j19 σ r0 t0 t1 = some x) : xext σ x := by
  have hm := xext.rf (σ := σ)
  obtain ⟨_, e1, hf⟩ := xbd hf
  obtain ⟨σ3, e2, hf⟩ := xbd hf
  have hm := hm.tr (xpR_same e2).ext
  obtain ⟨⟨z5, σ6⟩, e4, hf⟩ := xbd hf
  dsimp only at hf
  have hm := hm.tr (xnA_ext e4)
  exact hm.tr (m_X8_init_j28 hf)
theorem s_X8_init_j10 {G : XG} (C : XC G cX8_init RX8 none 1 1 20) (hN : (gh G).name = "<init>") {σ : XS} {r0 : Nat} {t0 : Nat} {t1 : Nat} {x : XS} (hf : f_X8_init_j10 σ r0 t0 t1 = some x) (hk : XEnd G none x ∧ XUp G x) : WW G 10 [(0, .ref (gB G + r0))] [.ref (gB G + t1), .ref (gB G + t0)] σ := by
  obtain ⟨_, e1, hf⟩ := xbd hf
  obtain ⟨σ3, e2, hf⟩ := xbd hf
  refine pf_X8_9 (pc := 10) C hN (xnz_spec e1) e2 dX8_init_10 ?_
  refine ww_aload_n (pc := 13) C 0 dX8_init_13 rfl ?_
  refine ww_sipush (pc := 14) (v := (400 : Int32)) C dX8_init_14 (by decide) ?_
  obtain ⟨⟨z5, σ6⟩, e4, hf⟩ := xbd hf
  dsimp only at hf
  refine ww_newI (pc := 17) C q77 e4 (fun q => by have hm9 := m_X8_init_j19 hf; exact XLim.mid q (xnA_ext e4) hm9 hk.2) dX8_init_17 ?_
  refine ww_sub [0] rfl ?_
  exact s_X8_init_j19 C hN hf hk
theorem m_X8_init_j10 {σ : XS} {r0 : Nat} {t0 : Nat} {t1 : Nat} {x : XS} (hf : f_X8_init_j10 σ r0 t0 t1 = some x) : xext σ x := by
  have hm := xext.rf (σ := σ)
  obtain ⟨_, e1, hf⟩ := xbd hf
  obtain ⟨σ3, e2, hf⟩ := xbd hf
  have hm := hm.tr (xpR_same e2).ext
  obtain ⟨⟨z5, σ6⟩, e4, hf⟩ := xbd hf
  dsimp only at hf
  have hm := hm.tr (xnA_ext e4)
  exact hm.tr (m_X8_init_j19 hf)
theorem s_X8_init_e {G : XG} (C : XC G cX8_init RX8 none 1 1 20) (hN : (gh G).name = "<init>") {σ : XS} {r0 : Nat} {x : XS} (hf : f_X8_init σ r0 = some x) (hk : XEnd G none x ∧ XUp G x) : WW G 0 [(0, .ref (gB G + r0))] [] σ := by
  refine ww_aload_n (pc := 0) C 0 dX8_init_0 rfl ?_
  refine ww_objInit (pc := 1) C qo_X8_3 qoi qoc ⟨by decide, by decide⟩ dX8_init_1 ?_
  refine ww_aload_n (pc := 4) C 0 dX8_init_4 rfl ?_
  refine ww_sipush (pc := 5) (v := (2000 : Int32)) C dX8_init_5 (by decide) ?_
  obtain ⟨⟨z2, σ3⟩, e1, hf⟩ := xbd hf
  dsimp only at hf
  refine ww_newB (pc := 8) C q76 e1 (fun q => by have hm9 := m_X8_init_j10 hf; exact XLim.mid q (xnA_ext e1) hm9 hk.2) dX8_init_8 ?_
  refine ww_sub [0] rfl ?_
  exact s_X8_init_j10 C hN hf hk
theorem m_X8_init {σ : XS} {r0 : Nat} {x : XS} (hf : f_X8_init σ r0 = some x) : xext σ x := by
  have hm := xext.rf (σ := σ)
  obtain ⟨⟨z2, σ3⟩, e1, hf⟩ := xbd hf
  dsimp only at hf
  have hm := hm.tr (xnA_ext e1)
  exact hm.tr (m_X8_init_j10 hf)
theorem k_X8_init {l : Launch} {E : XD} {hb : Nat} {σ : XS} {r0 : Nat} {x : XS} (h : f_X8_init σ r0 = some x) : XM l yX8_init cX8_init 1 none 1 20 E hb [.ref (hb + r0)] σ none x := by
  refine xm_of (by decide) (Nat.le_of_ble_eq_true rfl) (m_X8_init h).1 (fun G hG C hl hQ => ?_)
  obtain ⟨rfl, rfl, rfl, hN⟩ := hG
  exact s_X8_init_e C hN h ⟨hQ, hl.2⟩
noncomputable def f_X6_init_j17 (σ : XS) (t0 : Nat) (t1 : Nat) : Option XS := (xnz t1).bind fun _ => (xpR σ t0 6 1 t1).bind fun σ3 => some σ3
noncomputable def f_X6_init_j9 (σ : XS) (r0 : Nat) (t0 : Nat) (t1 : Nat) : Option XS := (xnz t1).bind fun _ => (xpR σ t0 6 0 t1).bind fun σ3 => (xnA σ3 20 (16 : Int32)).bind fun (z5, σ6) => f_X6_init_j17 σ6 r0 z5
noncomputable def f_X6_init (σ : XS) (r0 : Nat) : Option XS := (xnA σ 20 (32 : Int32)).bind fun (z2, σ3) => f_X6_init_j9 σ3 r0 r0 z2
theorem s_X6_init_j17 {G : XG} (C : XC G cX6_init RX6 none 1 1 20) (hN : (gh G).name = "<init>") {σ : XS} {t0 : Nat} {t1 : Nat} {x : XS} (hf : f_X6_init_j17 σ t0 t1 = some x) (hk : XEnd G none x ∧ XUp G x) : WW G 17 [] [.ref (gB G + t1), .ref (gB G + t0)] σ := by
  obtain ⟨_, e1, hf⟩ := xbd hf
  obtain ⟨σ3, e2, hf⟩ := xbd hf
  refine pf_X6_15 (pc := 17) C hN (xnz_spec e1) e2 dX6_init_17 ?_
  have hf := xsj hf
  subst hf
  exact ww_vret (pc := 20) C hk.1 dX6_init_20
theorem m_X6_init_j17 {σ : XS} {t0 : Nat} {t1 : Nat} {x : XS} (hf : f_X6_init_j17 σ t0 t1 = some x) : xext σ x := by
  have hm := xext.rf (σ := σ)
  obtain ⟨_, e1, hf⟩ := xbd hf
  obtain ⟨σ3, e2, hf⟩ := xbd hf
  have hm := hm.tr (xpR_same e2).ext
  have hf := xsj hf
  subst hf
  exact hm
theorem s_X6_init_j9 {G : XG} (C : XC G cX6_init RX6 none 1 1 20) (hN : (gh G).name = "<init>") {σ : XS} {r0 : Nat} {t0 : Nat} {t1 : Nat} {x : XS} (hf : f_X6_init_j9 σ r0 t0 t1 = some x) (hk : XEnd G none x ∧ XUp G x) : WW G 9 [(0, .ref (gB G + r0))] [.ref (gB G + t1), .ref (gB G + t0)] σ := by
  obtain ⟨_, e1, hf⟩ := xbd hf
  obtain ⟨σ3, e2, hf⟩ := xbd hf
  refine pf_X6_9 (pc := 9) C hN (xnz_spec e1) e2 dX6_init_9 ?_
  refine ww_aload_n (pc := 12) C 0 dX6_init_12 rfl ?_
  refine ww_bipush (pc := 13) (v := (16 : Int32)) C dX6_init_13 (by decide) ?_
  obtain ⟨⟨z5, σ6⟩, e4, hf⟩ := xbd hf
  dsimp only at hf
  refine ww_newI (pc := 15) C q77 e4 (fun q => by have hm9 := m_X6_init_j17 hf; exact XLim.mid q (xnA_ext e4) hm9 hk.2) dX6_init_15 ?_
  refine ww_sub [] rfl ?_
  exact s_X6_init_j17 C hN hf hk
theorem m_X6_init_j9 {σ : XS} {r0 : Nat} {t0 : Nat} {t1 : Nat} {x : XS} (hf : f_X6_init_j9 σ r0 t0 t1 = some x) : xext σ x := by
  have hm := xext.rf (σ := σ)
  obtain ⟨_, e1, hf⟩ := xbd hf
  obtain ⟨σ3, e2, hf⟩ := xbd hf
  have hm := hm.tr (xpR_same e2).ext
  obtain ⟨⟨z5, σ6⟩, e4, hf⟩ := xbd hf
  dsimp only at hf
  have hm := hm.tr (xnA_ext e4)
  exact hm.tr (m_X6_init_j17 hf)
theorem s_X6_init_e {G : XG} (C : XC G cX6_init RX6 none 1 1 20) (hN : (gh G).name = "<init>") {σ : XS} {r0 : Nat} {x : XS} (hf : f_X6_init σ r0 = some x) (hk : XEnd G none x ∧ XUp G x) : WW G 0 [(0, .ref (gB G + r0))] [] σ := by
  refine ww_aload_n (pc := 0) C 0 dX6_init_0 rfl ?_
  refine ww_objInit (pc := 1) C qo_X6_3 qoi qoc ⟨by decide, by decide⟩ dX6_init_1 ?_
  refine ww_aload_n (pc := 4) C 0 dX6_init_4 rfl ?_
  refine ww_bipush (pc := 5) (v := (32 : Int32)) C dX6_init_5 (by decide) ?_
  obtain ⟨⟨z2, σ3⟩, e1, hf⟩ := xbd hf
  dsimp only at hf
  refine ww_newI (pc := 7) C q77 e1 (fun q => by have hm9 := m_X6_init_j9 hf; exact XLim.mid q (xnA_ext e1) hm9 hk.2) dX6_init_7 ?_
  refine ww_sub [0] rfl ?_
  exact s_X6_init_j9 C hN hf hk
theorem m_X6_init {σ : XS} {r0 : Nat} {x : XS} (hf : f_X6_init σ r0 = some x) : xext σ x := by
  have hm := xext.rf (σ := σ)
  obtain ⟨⟨z2, σ3⟩, e1, hf⟩ := xbd hf
  dsimp only at hf
  have hm := hm.tr (xnA_ext e1)
  exact hm.tr (m_X6_init_j9 hf)
theorem k_X6_init {l : Launch} {E : XD} {hb : Nat} {σ : XS} {r0 : Nat} {x : XS} (h : f_X6_init σ r0 = some x) : XM l yX6_init cX6_init 1 none 1 20 E hb [.ref (hb + r0)] σ none x := by
  refine xm_of (by decide) (Nat.le_of_ble_eq_true rfl) (m_X6_init h).1 (fun G hG C hl hQ => ?_)
  obtain ⟨rfl, rfl, rfl, hN⟩ := hG
  exact s_X6_init_e C hN h ⟨hQ, hl.2⟩
noncomputable def f_X1_init_j23 (σ : XS) (t0 : Nat) (t1 : Nat) : Option XS := (xnz t1).bind fun _ => (xpR σ t0 1 1 t1).bind fun σ3 => some σ3
noncomputable def f_X1_init_j19 (σ : XS) (t0 : Nat) (t1 : Nat) : Option XS := (xck σ t1 6).bind fun _ => (f_X6_init σ t1).bind fun σ3 => f_X1_init_j23 σ3 t0 t1
noncomputable def f_X1_init_j12 (σ : XS) (r0 : Nat) (t0 : Nat) (t1 : Nat) : Option XS := (xnz t1).bind fun _ => (xpR σ t0 1 0 t1).bind fun σ3 => (xnO σ3 6 8).bind fun (z5, σ6) => f_X1_init_j19 σ6 r0 z5
noncomputable def f_X1_init_j8 (σ : XS) (r0 : Nat) (t0 : Nat) (t1 : Nat) : Option XS := (xck σ t1 8).bind fun _ => (f_X8_init σ t1).bind fun σ3 => f_X1_init_j12 σ3 r0 t0 t1
noncomputable def f_X1_init (σ : XS) (r0 : Nat) : Option XS := (xnO σ 8 10).bind fun (z2, σ3) => f_X1_init_j8 σ3 r0 r0 z2
theorem s_X1_init_j23 {G : XG} (C : XC G cX1_init RX1 none 1 2 40) (hN : (gh G).name = "<init>") {σ : XS} {t0 : Nat} {t1 : Nat} {x : XS} (hf : f_X1_init_j23 σ t0 t1 = some x) (hk : XEnd G none x ∧ XUp G x) : WW G 23 [] [.ref (gB G + t1), .ref (gB G + t0)] σ := by
  obtain ⟨_, e1, hf⟩ := xbd hf
  obtain ⟨σ3, e2, hf⟩ := xbd hf
  refine pf_X1_21 (pc := 23) C hN (xnz_spec e1) e2 dX1_init_23 ?_
  have hf := xsj hf
  subst hf
  exact ww_vret (pc := 26) C hk.1 dX1_init_26
theorem m_X1_init_j23 {σ : XS} {t0 : Nat} {t1 : Nat} {x : XS} (hf : f_X1_init_j23 σ t0 t1 = some x) : xext σ x := by
  have hm := xext.rf (σ := σ)
  obtain ⟨_, e1, hf⟩ := xbd hf
  obtain ⟨σ3, e2, hf⟩ := xbd hf
  have hm := hm.tr (xpR_same e2).ext
  have hf := xsj hf
  subst hf
  exact hm
theorem s_X1_init_j19 {G : XG} (C : XC G cX1_init RX1 none 1 2 40) (hN : (gh G).name = "<init>") {σ : XS} {t0 : Nat} {t1 : Nat} {x : XS} (hf : f_X1_init_j19 σ t0 t1 = some x) (hk : XEnd G none x ∧ XUp G x) : WW G 19 [] [.ref (gB G + t1), .ref (gB G + t0)] σ := by
  refine ww_dup (pc := 19) C dX1_init_19 rfl ?_
  obtain ⟨_, e1, hf⟩ := xbd hf
  obtain ⟨σ3, e2, hf⟩ := xbd hf
  refine ww_callIv (pc := 20) (as := []) (st := [.ref (gB G + t1), .ref (gB G + t0)]) C (k_X6_init (l := gl G) (E := gE G) (hb := gB G) (σ := σ) e2) xc_X1_20 rfl q81 rfl (by decide) (xst4 (Nat.le_of_ble_eq_true rfl)) (m_X6_init e2).1 (fun q => by have hm9 := m_X1_init_j23 hf; exact XLim.mid q (m_X6_init e2) hm9 hk.2) dX1_init_20 ?_
  refine ww_sub [] rfl ?_
  exact s_X1_init_j23 C hN hf hk
theorem m_X1_init_j19 {σ : XS} {t0 : Nat} {t1 : Nat} {x : XS} (hf : f_X1_init_j19 σ t0 t1 = some x) : xext σ x := by
  have hm := xext.rf (σ := σ)
  obtain ⟨_, e1, hf⟩ := xbd hf
  obtain ⟨σ3, e2, hf⟩ := xbd hf
  have hm := hm.tr (m_X6_init e2)
  exact hm.tr (m_X1_init_j23 hf)
theorem s_X1_init_j12 {G : XG} (C : XC G cX1_init RX1 none 1 2 40) (hN : (gh G).name = "<init>") {σ : XS} {r0 : Nat} {t0 : Nat} {t1 : Nat} {x : XS} (hf : f_X1_init_j12 σ r0 t0 t1 = some x) (hk : XEnd G none x ∧ XUp G x) : WW G 12 [(0, .ref (gB G + r0))] [.ref (gB G + t1), .ref (gB G + t0)] σ := by
  obtain ⟨_, e1, hf⟩ := xbd hf
  obtain ⟨σ3, e2, hf⟩ := xbd hf
  refine pf_X1_12 (pc := 12) C hN (xnz_spec e1) e2 dX1_init_12 ?_
  refine ww_aload_n (pc := 15) C 0 dX1_init_15 rfl ?_
  obtain ⟨⟨z5, σ6⟩, e4, hf⟩ := xbd hf
  dsimp only at hf
  refine ww_new (pc := 16) (c := 6) C rfl (by decide) inX6 tyX6 tyX6_ok dfX6 q78 q79 q4 e4 (fun q => by have hm9 := m_X1_init_j19 hf; exact XLim.mid q (xnO_ext e4) hm9 hk.2) dX1_init_16 ?_
  refine ww_sub [] rfl ?_
  exact s_X1_init_j19 C hN hf hk
theorem m_X1_init_j12 {σ : XS} {r0 : Nat} {t0 : Nat} {t1 : Nat} {x : XS} (hf : f_X1_init_j12 σ r0 t0 t1 = some x) : xext σ x := by
  have hm := xext.rf (σ := σ)
  obtain ⟨_, e1, hf⟩ := xbd hf
  obtain ⟨σ3, e2, hf⟩ := xbd hf
  have hm := hm.tr (xpR_same e2).ext
  obtain ⟨⟨z5, σ6⟩, e4, hf⟩ := xbd hf
  dsimp only at hf
  have hm := hm.tr (xnO_ext e4)
  exact hm.tr (m_X1_init_j19 hf)
theorem s_X1_init_j8 {G : XG} (C : XC G cX1_init RX1 none 1 2 40) (hN : (gh G).name = "<init>") {σ : XS} {r0 : Nat} {t0 : Nat} {t1 : Nat} {x : XS} (hf : f_X1_init_j8 σ r0 t0 t1 = some x) (hk : XEnd G none x ∧ XUp G x) : WW G 8 [(0, .ref (gB G + r0))] [.ref (gB G + t1), .ref (gB G + t0)] σ := by
  refine ww_dup (pc := 8) C dX1_init_8 rfl ?_
  obtain ⟨_, e1, hf⟩ := xbd hf
  obtain ⟨σ3, e2, hf⟩ := xbd hf
  refine ww_callIv (pc := 9) (as := []) (st := [.ref (gB G + t1), .ref (gB G + t0)]) C (k_X8_init (l := gl G) (E := gE G) (hb := gB G) (σ := σ) e2) xc_X1_11 rfl q39 rfl (by decide) (xst4 (Nat.le_of_ble_eq_true rfl)) (m_X8_init e2).1 (fun q => by have hm9 := m_X1_init_j12 hf; exact XLim.mid q (m_X8_init e2) hm9 hk.2) dX1_init_9 ?_
  refine ww_sub [0] rfl ?_
  exact s_X1_init_j12 C hN hf hk
theorem m_X1_init_j8 {σ : XS} {r0 : Nat} {t0 : Nat} {t1 : Nat} {x : XS} (hf : f_X1_init_j8 σ r0 t0 t1 = some x) : xext σ x := by
  have hm := xext.rf (σ := σ)
  obtain ⟨_, e1, hf⟩ := xbd hf
  obtain ⟨σ3, e2, hf⟩ := xbd hf
  have hm := hm.tr (m_X8_init e2)
  exact hm.tr (m_X1_init_j12 hf)
theorem s_X1_init_e {G : XG} (C : XC G cX1_init RX1 none 1 2 40) (hN : (gh G).name = "<init>") {σ : XS} {r0 : Nat} {x : XS} (hf : f_X1_init σ r0 = some x) (hk : XEnd G none x ∧ XUp G x) : WW G 0 [(0, .ref (gB G + r0))] [] σ := by
  refine ww_aload_n (pc := 0) C 0 dX1_init_0 rfl ?_
  refine ww_objInit (pc := 1) C qo_X1_3 qoi qoc ⟨by decide, by decide⟩ dX1_init_1 ?_
  refine ww_aload_n (pc := 4) C 0 dX1_init_4 rfl ?_
  obtain ⟨⟨z2, σ3⟩, e1, hf⟩ := xbd hf
  dsimp only at hf
  refine ww_new (pc := 5) (c := 8) C rfl (by decide) inX8 tyX8 tyX8_ok dfX8 q36 q37 q3 e1 (fun q => by have hm9 := m_X1_init_j8 hf; exact XLim.mid q (xnO_ext e1) hm9 hk.2) dX1_init_5 ?_
  refine ww_sub [0] rfl ?_
  exact s_X1_init_j8 C hN hf hk
theorem m_X1_init {σ : XS} {r0 : Nat} {x : XS} (hf : f_X1_init σ r0 = some x) : xext σ x := by
  have hm := xext.rf (σ := σ)
  obtain ⟨⟨z2, σ3⟩, e1, hf⟩ := xbd hf
  dsimp only at hf
  have hm := hm.tr (xnO_ext e1)
  exact hm.tr (m_X1_init_j8 hf)
theorem k_X1_init {l : Launch} {E : XD} {hb : Nat} {σ : XS} {r0 : Nat} {x : XS} (h : f_X1_init σ r0 = some x) : XM l yX1_init cX1_init 1 none 2 40 E hb [.ref (hb + r0)] σ none x := by
  refine xm_of (by decide) (Nat.le_of_ble_eq_true rfl) (m_X1_init h).1 (fun G hG C hl hQ => ?_)
  obtain ⟨rfl, rfl, rfl, hN⟩ := hG
  exact s_X1_init_e C hN h ⟨hQ, hl.2⟩
noncomputable def f_X3_init_j33 (σ : XS) (r0 : Nat) (t0 : Nat) (t1 : Nat) : Option XS := (xnz t1).bind fun _ => (xpR σ t0 3 3 t1).bind fun σ3 => (xgR σ3 r0 3 0).bind fun z5 => (f_J7_fill_53178 σ3 z5 (-1 : Int32)).bind fun σ7 => some σ7
noncomputable def f_X3_init_j25 (σ : XS) (r0 : Nat) (t0 : Nat) (t1 : Nat) : Option XS := (xnz t1).bind fun _ => (xpR σ t0 3 2 t1).bind fun σ3 => (xnA σ3 20 (16 : Int32)).bind fun (z5, σ6) => f_X3_init_j33 σ6 r0 r0 z5
noncomputable def f_X3_init_j17 (σ : XS) (r0 : Nat) (t0 : Nat) (t1 : Nat) : Option XS := (xnz t1).bind fun _ => (xpR σ t0 3 1 t1).bind fun σ3 => (xnA σ3 20 (64 : Int32)).bind fun (z5, σ6) => f_X3_init_j25 σ6 r0 r0 z5
noncomputable def f_X3_init_j9 (σ : XS) (r0 : Nat) (t0 : Nat) (t1 : Nat) : Option XS := (xnz t1).bind fun _ => (xpR σ t0 3 0 t1).bind fun σ3 => (xnA σ3 20 (64 : Int32)).bind fun (z5, σ6) => f_X3_init_j17 σ6 r0 r0 z5
noncomputable def f_X3_init (σ : XS) (r0 : Nat) : Option XS := (xnA σ 20 (32 : Int32)).bind fun (z2, σ3) => f_X3_init_j9 σ3 r0 r0 z2
theorem s_X3_init_j33 {G : XG} (C : XC G cX3_init RX3 none 1 1 23) (hN : (gh G).name = "<init>") {σ : XS} {r0 : Nat} {t0 : Nat} {t1 : Nat} {x : XS} (hf : f_X3_init_j33 σ r0 t0 t1 = some x) (hk : XEnd G none x ∧ XUp G x) : WW G 33 [(0, .ref (gB G + r0))] [.ref (gB G + t1), .ref (gB G + t0)] σ := by
  obtain ⟨_, e1, hf⟩ := xbd hf
  obtain ⟨σ3, e2, hf⟩ := xbd hf
  refine pf_X3_21 (pc := 33) C hN (xnz_spec e1) e2 dX3_init_33 ?_
  refine ww_aload_n (pc := 36) C 0 dX3_init_36 rfl ?_
  obtain ⟨z5, e4, hf⟩ := xbd hf
  refine gf_X3_9 (pc := 37) C e4 dX3_init_37 ?_
  refine ww_iconst (pc := 40) (v := (-1 : Int32)) C dX3_init_40 (by decide) ?_
  obtain ⟨σ7, e6, hf⟩ := xbd hf
  refine ww_callSv (pc := 41) (as := [.ref (gB G + z5), .int (-1 : Int32)]) (st := []) C (k_J7_fill_53178 (l := gl G) (E := gE G) (hb := gB G) (σ := σ3) e6) xc_X3_24 q174 rfl (by decide) (xst4 (Nat.le_of_ble_eq_true rfl)) (m_J7_fill_53178 e6).le (m_J7_fill_53178 e6).lim dX3_init_41 ?_
  have hf := xsj hf
  subst hf
  exact ww_vret (pc := 44) C hk.1 dX3_init_44
theorem m_X3_init_j33 {σ : XS} {r0 : Nat} {t0 : Nat} {t1 : Nat} {x : XS} (hf : f_X3_init_j33 σ r0 t0 t1 = some x) : xext σ x := by
  have hm := xext.rf (σ := σ)
  obtain ⟨_, e1, hf⟩ := xbd hf
  obtain ⟨σ3, e2, hf⟩ := xbd hf
  have hm := hm.tr (xpR_same e2).ext
  obtain ⟨z5, e4, hf⟩ := xbd hf
  obtain ⟨σ7, e6, hf⟩ := xbd hf
  have hm := hm.tr (m_J7_fill_53178 e6).ext
  have hf := xsj hf
  subst hf
  exact hm
theorem s_X3_init_j25 {G : XG} (C : XC G cX3_init RX3 none 1 1 23) (hN : (gh G).name = "<init>") {σ : XS} {r0 : Nat} {t0 : Nat} {t1 : Nat} {x : XS} (hf : f_X3_init_j25 σ r0 t0 t1 = some x) (hk : XEnd G none x ∧ XUp G x) : WW G 25 [(0, .ref (gB G + r0))] [.ref (gB G + t1), .ref (gB G + t0)] σ := by
  obtain ⟨_, e1, hf⟩ := xbd hf
  obtain ⟨σ3, e2, hf⟩ := xbd hf
  refine pf_X3_18 (pc := 25) C hN (xnz_spec e1) e2 dX3_init_25 ?_
  refine ww_aload_n (pc := 28) C 0 dX3_init_28 rfl ?_
  refine ww_bipush (pc := 29) (v := (16 : Int32)) C dX3_init_29 (by decide) ?_
  obtain ⟨⟨z5, σ6⟩, e4, hf⟩ := xbd hf
  dsimp only at hf
  refine ww_newI (pc := 31) C q77 e4 (fun q => by have hm9 := m_X3_init_j33 hf; exact XLim.mid q (xnA_ext e4) hm9 hk.2) dX3_init_31 ?_
  refine ww_sub [0] rfl ?_
  exact s_X3_init_j33 C hN hf hk
theorem m_X3_init_j25 {σ : XS} {r0 : Nat} {t0 : Nat} {t1 : Nat} {x : XS} (hf : f_X3_init_j25 σ r0 t0 t1 = some x) : xext σ x := by
  have hm := xext.rf (σ := σ)
  obtain ⟨_, e1, hf⟩ := xbd hf
  obtain ⟨σ3, e2, hf⟩ := xbd hf
  have hm := hm.tr (xpR_same e2).ext
  obtain ⟨⟨z5, σ6⟩, e4, hf⟩ := xbd hf
  dsimp only at hf
  have hm := hm.tr (xnA_ext e4)
  exact hm.tr (m_X3_init_j33 hf)
theorem s_X3_init_j17 {G : XG} (C : XC G cX3_init RX3 none 1 1 23) (hN : (gh G).name = "<init>") {σ : XS} {r0 : Nat} {t0 : Nat} {t1 : Nat} {x : XS} (hf : f_X3_init_j17 σ r0 t0 t1 = some x) (hk : XEnd G none x ∧ XUp G x) : WW G 17 [(0, .ref (gB G + r0))] [.ref (gB G + t1), .ref (gB G + t0)] σ := by
  obtain ⟨_, e1, hf⟩ := xbd hf
  obtain ⟨σ3, e2, hf⟩ := xbd hf
  refine pf_X3_15 (pc := 17) C hN (xnz_spec e1) e2 dX3_init_17 ?_
  refine ww_aload_n (pc := 20) C 0 dX3_init_20 rfl ?_
  refine ww_bipush (pc := 21) (v := (64 : Int32)) C dX3_init_21 (by decide) ?_
  obtain ⟨⟨z5, σ6⟩, e4, hf⟩ := xbd hf
  dsimp only at hf
  refine ww_newI (pc := 23) C q77 e4 (fun q => by have hm9 := m_X3_init_j25 hf; exact XLim.mid q (xnA_ext e4) hm9 hk.2) dX3_init_23 ?_
  refine ww_sub [0] rfl ?_
  exact s_X3_init_j25 C hN hf hk
theorem m_X3_init_j17 {σ : XS} {r0 : Nat} {t0 : Nat} {t1 : Nat} {x : XS} (hf : f_X3_init_j17 σ r0 t0 t1 = some x) : xext σ x := by
  have hm := xext.rf (σ := σ)
  obtain ⟨_, e1, hf⟩ := xbd hf
  obtain ⟨σ3, e2, hf⟩ := xbd hf
  have hm := hm.tr (xpR_same e2).ext
  obtain ⟨⟨z5, σ6⟩, e4, hf⟩ := xbd hf
  dsimp only at hf
  have hm := hm.tr (xnA_ext e4)
  exact hm.tr (m_X3_init_j25 hf)
theorem s_X3_init_j9 {G : XG} (C : XC G cX3_init RX3 none 1 1 23) (hN : (gh G).name = "<init>") {σ : XS} {r0 : Nat} {t0 : Nat} {t1 : Nat} {x : XS} (hf : f_X3_init_j9 σ r0 t0 t1 = some x) (hk : XEnd G none x ∧ XUp G x) : WW G 9 [(0, .ref (gB G + r0))] [.ref (gB G + t1), .ref (gB G + t0)] σ := by
  obtain ⟨_, e1, hf⟩ := xbd hf
  obtain ⟨σ3, e2, hf⟩ := xbd hf
  refine pf_X3_9 (pc := 9) C hN (xnz_spec e1) e2 dX3_init_9 ?_
  refine ww_aload_n (pc := 12) C 0 dX3_init_12 rfl ?_
  refine ww_bipush (pc := 13) (v := (64 : Int32)) C dX3_init_13 (by decide) ?_
  obtain ⟨⟨z5, σ6⟩, e4, hf⟩ := xbd hf
  dsimp only at hf
  refine ww_newI (pc := 15) C q77 e4 (fun q => by have hm9 := m_X3_init_j17 hf; exact XLim.mid q (xnA_ext e4) hm9 hk.2) dX3_init_15 ?_
  refine ww_sub [0] rfl ?_
  exact s_X3_init_j17 C hN hf hk
theorem m_X3_init_j9 {σ : XS} {r0 : Nat} {t0 : Nat} {t1 : Nat} {x : XS} (hf : f_X3_init_j9 σ r0 t0 t1 = some x) : xext σ x := by
  have hm := xext.rf (σ := σ)
  obtain ⟨_, e1, hf⟩ := xbd hf
  obtain ⟨σ3, e2, hf⟩ := xbd hf
  have hm := hm.tr (xpR_same e2).ext
  obtain ⟨⟨z5, σ6⟩, e4, hf⟩ := xbd hf
  dsimp only at hf
  have hm := hm.tr (xnA_ext e4)
  exact hm.tr (m_X3_init_j17 hf)
theorem s_X3_init_e {G : XG} (C : XC G cX3_init RX3 none 1 1 23) (hN : (gh G).name = "<init>") {σ : XS} {r0 : Nat} {x : XS} (hf : f_X3_init σ r0 = some x) (hk : XEnd G none x ∧ XUp G x) : WW G 0 [(0, .ref (gB G + r0))] [] σ := by
  refine ww_aload_n (pc := 0) C 0 dX3_init_0 rfl ?_
  refine ww_objInit (pc := 1) C qo_X3_3 qoi qoc ⟨by decide, by decide⟩ dX3_init_1 ?_
  refine ww_aload_n (pc := 4) C 0 dX3_init_4 rfl ?_
  refine ww_bipush (pc := 5) (v := (32 : Int32)) C dX3_init_5 (by decide) ?_
  obtain ⟨⟨z2, σ3⟩, e1, hf⟩ := xbd hf
  dsimp only at hf
  refine ww_newI (pc := 7) C q77 e1 (fun q => by have hm9 := m_X3_init_j9 hf; exact XLim.mid q (xnA_ext e1) hm9 hk.2) dX3_init_7 ?_
  refine ww_sub [0] rfl ?_
  exact s_X3_init_j9 C hN hf hk
theorem m_X3_init {σ : XS} {r0 : Nat} {x : XS} (hf : f_X3_init σ r0 = some x) : xext σ x := by
  have hm := xext.rf (σ := σ)
  obtain ⟨⟨z2, σ3⟩, e1, hf⟩ := xbd hf
  dsimp only at hf
  have hm := hm.tr (xnA_ext e1)
  exact hm.tr (m_X3_init_j9 hf)
theorem k_X3_init {l : Launch} {E : XD} {hb : Nat} {σ : XS} {r0 : Nat} {x : XS} (h : f_X3_init σ r0 = some x) : XM l yX3_init cX3_init 1 none 1 23 E hb [.ref (hb + r0)] σ none x := by
  refine xm_of (by decide) (Nat.le_of_ble_eq_true rfl) (m_X3_init h).1 (fun G hG C hl hQ => ?_)
  obtain ⟨rfl, rfl, rfl, hN⟩ := hG
  exact s_X3_init_e C hN h ⟨hQ, hl.2⟩
noncomputable def f_X5_init_j36 (σ : XS) (r0 : Nat) (x1 : Int32) (t0 : Nat) (t1 : Int32) (t2 : Nat) : Option ((Int32 × XS) ⊕ (XS)) := (xsR σ 24 6 t0 t1 t2).bind fun σ2 => some (.inl (x1 + (1 : Int32), σ2))
noncomputable def f_X5_init_j32 (σ : XS) (r0 : Nat) (x1 : Int32) (t0 : Nat) (t1 : Int32) (t2 : Nat) : Option ((Int32 × XS) ⊕ (XS)) := (xck σ t2 6).bind fun _ => (f_X6_init σ t2).bind fun σ3 => f_X5_init_j36 σ3 r0 x1 t0 t1 t2
noncomputable def f_X5_init_b15 (r0 : Nat) : Int32 × XS → Option ((Int32 × XS) ⊕ (XS)) := fun a => match a with
  | (x1, σ) => (xgR σ r0 5 0).bind fun z2 => (xal σ z2).bind fun v4 => if v4 ≤ x1 then ((some σ).map .inr) else (xgR σ r0 5 0).bind fun z6 => (xnO σ 6 8).bind fun (z8, σ9) => f_X5_init_j32 σ9 r0 x1 z6 x1 z8
noncomputable def f_X5_init_j10 (σ : XS) (r0 : Nat) (t0 : Nat) (t1 : Nat) : Option XS := (xnz t1).bind fun _ => (xpR σ t0 5 0 t1).bind fun σ3 => xloop (f_X5_init_b15 r0) ((0 : Int32), σ3)
noncomputable def f_X5_init (σ : XS) (r0 : Nat) : Option XS := (xnA σ 24 (40 : Int32)).bind fun (z2, σ3) => f_X5_init_j10 σ3 r0 r0 z2
theorem s_X5_init_j36 {G : XG} (C : XC G cX5_init RX5 none 2 2 40) (hN : (gh G).name = "<init>") {σ : XS} {r0 : Nat} {x1 : Int32} {t0 : Nat} {t1 : Int32} {t2 : Nat} {x : ((Int32 × XS) ⊕ (XS))} (hf : f_X5_init_j36 σ r0 x1 t0 t1 t2 = some x) (hk : (∀ a' : Int32 × XS, x = .inl a' → XUp G a'.2 ∧ WW G 15 [(0, .ref (gB G + r0)), (1, .int a'.1)] [] a'.2) ∧ (∀ b1 : XS, x = .inr b1 → XEnd G none b1 ∧ XUp G b1)) : WW G 36 [(0, .ref (gB G + r0)), (1, .int x1)] [.ref (gB G + t2), .int t1, .ref (gB G + t0)] σ := by
  obtain ⟨σ2, e1, hf⟩ := xbd hf
  refine ww_aast24 (pc := 36) C e1 dX5_init_36 ?_
  refine ww_iinc (pc := 37) (v := x1 + (1 : Int32)) (lv' := [(1, .int (x1 + (1 : Int32))), (0, .ref (gB G + r0))]) C 1 dX5_init_37 rfl (congrArg (fun z => x1 + z) (show Int32.ofInt (1) = (1 : Int32) by decide)) (by decide) rfl ?_
  refine ww_goto (pc := 40) (tgt := 15) C dX5_init_40 (by decide) ?_
  have hf := xsj hf
  subst hf
  refine ww_sub [1, 0] rfl ?_
  exact (hk.1 (x1 + (1 : Int32), σ2) rfl).2
theorem m_X5_init_j36 {σ : XS} {r0 : Nat} {x1 : Int32} {t0 : Nat} {t1 : Int32} {t2 : Nat} {x : ((Int32 × XS) ⊕ (XS))} (hf : f_X5_init_j36 σ r0 x1 t0 t1 t2 = some x) : (∀ a' : Int32 × XS, x = .inl a' → xext σ a'.2) ∧ (∀ b1 : XS, x = .inr b1 → xext σ b1) := by
  have hm := xext.rf (σ := σ)
  obtain ⟨σ2, e1, hf⟩ := xbd hf
  have hm := hm.tr (xsR_same e1).ext
  have hf := xsj hf
  subst hf
  exact ⟨fun a' e => (by have h9 := Sum.inl.inj e; subst h9; exact hm), fun b e => xnc1 e⟩
theorem s_X5_init_j32 {G : XG} (C : XC G cX5_init RX5 none 2 2 40) (hN : (gh G).name = "<init>") {σ : XS} {r0 : Nat} {x1 : Int32} {t0 : Nat} {t1 : Int32} {t2 : Nat} {x : ((Int32 × XS) ⊕ (XS))} (hf : f_X5_init_j32 σ r0 x1 t0 t1 t2 = some x) (hk : (∀ a' : Int32 × XS, x = .inl a' → XUp G a'.2 ∧ WW G 15 [(0, .ref (gB G + r0)), (1, .int a'.1)] [] a'.2) ∧ (∀ b1 : XS, x = .inr b1 → XEnd G none b1 ∧ XUp G b1)) : WW G 32 [(0, .ref (gB G + r0)), (1, .int x1)] [.ref (gB G + t2), .int t1, .ref (gB G + t0)] σ := by
  refine ww_dup (pc := 32) C dX5_init_32 rfl ?_
  obtain ⟨_, e1, hf⟩ := xbd hf
  obtain ⟨σ3, e2, hf⟩ := xbd hf
  refine ww_callIv (pc := 33) (as := []) (st := [.ref (gB G + t2), .int t1, .ref (gB G + t0)]) C (k_X6_init (l := gl G) (E := gE G) (hb := gB G) (σ := σ) e2) xc_X5_17 rfl q81 rfl (by decide) (xst4 (Nat.le_of_ble_eq_true rfl)) (m_X6_init e2).1 (fun q => by have hm9 := m_X5_init_j36 hf; rcases x with a' | b90; exact XLim.mid q (m_X6_init e2) (hm9.1 a' rfl) (hk.1 a' rfl).1; have hm9 := hm9.2 _ rfl; have hk := hk.2 _ rfl; exact XLim.mid q (m_X6_init e2) hm9 hk.2) dX5_init_33 ?_
  refine ww_sub [0, 1] rfl ?_
  exact s_X5_init_j36 C hN hf hk
theorem m_X5_init_j32 {σ : XS} {r0 : Nat} {x1 : Int32} {t0 : Nat} {t1 : Int32} {t2 : Nat} {x : ((Int32 × XS) ⊕ (XS))} (hf : f_X5_init_j32 σ r0 x1 t0 t1 t2 = some x) : (∀ a' : Int32 × XS, x = .inl a' → xext σ a'.2) ∧ (∀ b1 : XS, x = .inr b1 → xext σ b1) := by
  have hm := xext.rf (σ := σ)
  obtain ⟨_, e1, hf⟩ := xbd hf
  obtain ⟨σ3, e2, hf⟩ := xbd hf
  have hm := hm.tr (m_X6_init e2)
  exact ⟨fun a' e => hm.tr ((m_X5_init_j36 hf).1 a' e), fun b1 eb1 => hm.tr ((m_X5_init_j36 hf).2 b1 eb1)⟩
theorem m_X5_init_l15 {r0 : Nat} {a : Int32 × XS} {x : XS} (hf : xloop (f_X5_init_b15 r0) a = some x) : xext a.2 x := by
  refine xloop_ind (P := fun a => xext a.2 x) (fun a y hf hc he => ?_) hf
  obtain ⟨x1, σ⟩ := a
  have hy : (∀ a' : Int32 × XS, y = .inl a' → xext σ a'.2) ∧ (∀ b1 : XS, y = .inr b1 → xext σ b1) := by
    have hm := xext.rf (σ := σ)
    obtain ⟨z2, e1, hf⟩ := xbd hf
    obtain ⟨v4, e3, hf⟩ := xbd hf
    by_cases q : v4 ≤ x1
    · have hf := xip q hf
      obtain ⟨b0, hg, e9⟩ := xmj hf
      subst e9
      have hf := hg
      refine ⟨fun a' e => xnc2 e, fun b e => ?_⟩
      have h9 := Sum.inr.inj e
      subst h9
      have hf := xsj hf
      subst hf
      exact hm
    · have hf := xin q hf
      obtain ⟨z6, e5, hf⟩ := xbd hf
      obtain ⟨⟨z8, σ9⟩, e7, hf⟩ := xbd hf
      dsimp only at hf
      have hm := hm.tr (xnO_ext e7)
      exact ⟨fun a' e => hm.tr ((m_X5_init_j32 hf).1 a' e), fun b1 eb1 => hm.tr ((m_X5_init_j32 hf).2 b1 eb1)⟩
  cases y with
  | inl a' =>
    have h1 := hc a' rfl
    have hm := hy.1 a' rfl
    exact hm.tr (h1)
  | inr b =>
    have h1 := he b rfl
    subst h1
    exact hy.2 _ rfl
theorem s_X5_init_l15 {G : XG} (C : XC G cX5_init RX5 none 2 2 40) (hN : (gh G).name = "<init>") {r0 : Nat} {a : Int32 × XS} {x : XS} (hf : xloop (f_X5_init_b15 r0) a = some x) (hk : XEnd G none x ∧ XUp G x) : WW G 15 [(0, .ref (gB G + r0)), (1, .int a.1)] [] a.2 := by
  refine xloop_ind2 (P := fun a => WW G 15 [(0, .ref (gB G + r0)), (1, .int a.1)] [] a.2) (fun a y hf hc he => ?_) hf
  obtain ⟨x1, σ⟩ := a
  have hk : (∀ a' : Int32 × XS, y = .inl a' → XUp G a'.2 ∧ WW G 15 [(0, .ref (gB G + r0)), (1, .int a'.1)] [] a'.2) ∧ (∀ b1 : XS, y = .inr b1 → XEnd G none b1 ∧ XUp G b1) := ⟨fun a' e => ⟨XUp.fin (m_X5_init_l15 (hc a' e).1) hk.2, (hc a' e).2⟩, fun b e => by have h9 := he b e; subst h9; exact hk⟩
  refine ww_iload_n (pc := 15) C 1 dX5_init_15 rfl ?_
  refine ww_aload_n (pc := 16) C 0 dX5_init_16 rfl ?_
  obtain ⟨z2, e1, hf⟩ := xbd hf
  refine gf_X5_11 (pc := 17) C e1 dX5_init_17 ?_
  obtain ⟨v4, e3, hf⟩ := xbd hf
  refine ww_alen (pc := 20) C e3 dX5_init_20 ?_
  refine ww_icmp_ge (pc := 21) (tgt := 43) C dX5_init_21 (by decide) (fun q => ?_) (fun q => ?_)
  · have hf := xip q hf
    obtain ⟨b0, hg, e9⟩ := xmj hf
    subst e9
    have hf := hg
    have hk := hk.2 _ rfl
    have hf := xsj hf
    subst hf
    exact ww_vret (pc := 43) C hk.1 dX5_init_43
  · have hf := xin q hf
    refine ww_aload_n (pc := 24) C 0 dX5_init_24 rfl ?_
    obtain ⟨z6, e5, hf⟩ := xbd hf
    refine gf_X5_11 (pc := 25) C e5 dX5_init_25 ?_
    refine ww_iload_n (pc := 28) C 1 dX5_init_28 rfl ?_
    obtain ⟨⟨z8, σ9⟩, e7, hf⟩ := xbd hf
    dsimp only at hf
    refine ww_new (pc := 29) (c := 6) C rfl (by decide) inX6 tyX6 tyX6_ok dfX6 q218 q79 q4 e7 (fun q => by have hm9 := m_X5_init_j32 hf; rcases y with a' | b90; exact XLim.mid q (xnO_ext e7) (hm9.1 a' rfl) (hk.1 a' rfl).1; have hm9 := hm9.2 _ rfl; have hk := hk.2 _ rfl; exact XLim.mid q (xnO_ext e7) hm9 hk.2) dX5_init_29 ?_
    refine ww_sub [0, 1] rfl ?_
    exact s_X5_init_j32 C hN hf hk
theorem s_X5_init_j10 {G : XG} (C : XC G cX5_init RX5 none 2 2 40) (hN : (gh G).name = "<init>") {σ : XS} {r0 : Nat} {t0 : Nat} {t1 : Nat} {x : XS} (hf : f_X5_init_j10 σ r0 t0 t1 = some x) (hk : XEnd G none x ∧ XUp G x) : WW G 10 [(0, .ref (gB G + r0))] [.ref (gB G + t1), .ref (gB G + t0)] σ := by
  obtain ⟨_, e1, hf⟩ := xbd hf
  obtain ⟨σ3, e2, hf⟩ := xbd hf
  refine pf_X5_11 (pc := 10) C hN (xnz_spec e1) e2 dX5_init_10 ?_
  refine ww_iconst (pc := 13) (v := (0 : Int32)) C dX5_init_13 (by decide) ?_
  refine ww_istore_n (pc := 14) (lv' := [(1, .int (0 : Int32)), (0, .ref (gB G + r0))]) C dX5_init_14 (by decide) rfl ?_
  refine ww_sub [1, 0] rfl ?_
  exact s_X5_init_l15 C hN (a := ((0 : Int32), σ3)) hf hk
theorem m_X5_init_j10 {σ : XS} {r0 : Nat} {t0 : Nat} {t1 : Nat} {x : XS} (hf : f_X5_init_j10 σ r0 t0 t1 = some x) : xext σ x := by
  have hm := xext.rf (σ := σ)
  obtain ⟨_, e1, hf⟩ := xbd hf
  obtain ⟨σ3, e2, hf⟩ := xbd hf
  have hm := hm.tr (xpR_same e2).ext
  exact hm.tr (m_X5_init_l15 (a := ((0 : Int32), σ3)) hf)
theorem s_X5_init_e {G : XG} (C : XC G cX5_init RX5 none 2 2 40) (hN : (gh G).name = "<init>") {σ : XS} {r0 : Nat} {x : XS} (hf : f_X5_init σ r0 = some x) (hk : XEnd G none x ∧ XUp G x) : WW G 0 [(0, .ref (gB G + r0))] [] σ := by
  refine ww_aload_n (pc := 0) C 0 dX5_init_0 rfl ?_
  refine ww_objInit (pc := 1) C qo_X5_3 qoi qoc ⟨by decide, by decide⟩ dX5_init_1 ?_
  refine ww_aload_n (pc := 4) C 0 dX5_init_4 rfl ?_
  refine ww_bipush (pc := 5) (v := (40 : Int32)) C dX5_init_5 (by decide) ?_
  obtain ⟨⟨z2, σ3⟩, e1, hf⟩ := xbd hf
  dsimp only at hf
  refine ww_anew24 (pc := 7) C q218 e1 (fun q => by have hm9 := m_X5_init_j10 hf; exact XLim.mid q (xnA_ext e1) hm9 hk.2) dX5_init_7 ?_
  refine ww_sub [0] rfl ?_
  exact s_X5_init_j10 C hN hf hk
theorem m_X5_init {σ : XS} {r0 : Nat} {x : XS} (hf : f_X5_init σ r0 = some x) : xext σ x := by
  have hm := xext.rf (σ := σ)
  obtain ⟨⟨z2, σ3⟩, e1, hf⟩ := xbd hf
  dsimp only at hf
  have hm := hm.tr (xnA_ext e1)
  exact hm.tr (m_X5_init_j10 hf)
theorem k_X5_init {l : Launch} {E : XD} {hb : Nat} {σ : XS} {r0 : Nat} {x : XS} (h : f_X5_init σ r0 = some x) : XM l yX5_init cX5_init 2 none 2 40 E hb [.ref (hb + r0)] σ none x := by
  refine xm_of (by decide) (Nat.le_of_ble_eq_true rfl) (m_X5_init h).1 (fun G hG C hl hQ => ?_)
  obtain ⟨rfl, rfl, rfl, hN⟩ := hG
  exact s_X5_init_e C hN h ⟨hQ, hl.2⟩
noncomputable def f_X7_init_j21 (σ : XS) (t0 : Nat) (t1 : Nat) : Option XS := (xnz t1).bind fun _ => (xpR σ t0 7 1 t1).bind fun σ3 => some σ3
noncomputable def f_X7_init_j12 (σ : XS) (r0 : Nat) (t0 : Nat) (t1 : Nat) : Option XS := (xnz t1).bind fun _ => (xpR σ t0 7 0 t1).bind fun σ3 => (xnA σ3 20 (289 : Int32)).bind fun (z5, σ6) => f_X7_init_j21 σ6 r0 z5
noncomputable def f_X7_init_j8 (σ : XS) (r0 : Nat) (t0 : Nat) (t1 : Nat) : Option XS := (xck σ t1 6).bind fun _ => (f_X6_init σ t1).bind fun σ3 => f_X7_init_j12 σ3 r0 t0 t1
noncomputable def f_X7_init (σ : XS) (r0 : Nat) : Option XS := (xnO σ 6 8).bind fun (z2, σ3) => f_X7_init_j8 σ3 r0 r0 z2
theorem s_X7_init_j21 {G : XG} (C : XC G cX7_init RX7 none 1 2 40) (hN : (gh G).name = "<init>") {σ : XS} {t0 : Nat} {t1 : Nat} {x : XS} (hf : f_X7_init_j21 σ t0 t1 = some x) (hk : XEnd G none x ∧ XUp G x) : WW G 21 [] [.ref (gB G + t1), .ref (gB G + t0)] σ := by
  obtain ⟨_, e1, hf⟩ := xbd hf
  obtain ⟨σ3, e2, hf⟩ := xbd hf
  refine pf_X7_18 (pc := 21) C hN (xnz_spec e1) e2 dX7_init_21 ?_
  have hf := xsj hf
  subst hf
  exact ww_vret (pc := 24) C hk.1 dX7_init_24
theorem m_X7_init_j21 {σ : XS} {t0 : Nat} {t1 : Nat} {x : XS} (hf : f_X7_init_j21 σ t0 t1 = some x) : xext σ x := by
  have hm := xext.rf (σ := σ)
  obtain ⟨_, e1, hf⟩ := xbd hf
  obtain ⟨σ3, e2, hf⟩ := xbd hf
  have hm := hm.tr (xpR_same e2).ext
  have hf := xsj hf
  subst hf
  exact hm
theorem s_X7_init_j12 {G : XG} (C : XC G cX7_init RX7 none 1 2 40) (hN : (gh G).name = "<init>") {σ : XS} {r0 : Nat} {t0 : Nat} {t1 : Nat} {x : XS} (hf : f_X7_init_j12 σ r0 t0 t1 = some x) (hk : XEnd G none x ∧ XUp G x) : WW G 12 [(0, .ref (gB G + r0))] [.ref (gB G + t1), .ref (gB G + t0)] σ := by
  obtain ⟨_, e1, hf⟩ := xbd hf
  obtain ⟨σ3, e2, hf⟩ := xbd hf
  refine pf_X7_12 (pc := 12) C hN (xnz_spec e1) e2 dX7_init_12 ?_
  refine ww_aload_n (pc := 15) C 0 dX7_init_15 rfl ?_
  refine ww_sipush (pc := 16) (v := (289 : Int32)) C dX7_init_16 (by decide) ?_
  obtain ⟨⟨z5, σ6⟩, e4, hf⟩ := xbd hf
  dsimp only at hf
  refine ww_newI (pc := 19) C q77 e4 (fun q => by have hm9 := m_X7_init_j21 hf; exact XLim.mid q (xnA_ext e4) hm9 hk.2) dX7_init_19 ?_
  refine ww_sub [] rfl ?_
  exact s_X7_init_j21 C hN hf hk
theorem m_X7_init_j12 {σ : XS} {r0 : Nat} {t0 : Nat} {t1 : Nat} {x : XS} (hf : f_X7_init_j12 σ r0 t0 t1 = some x) : xext σ x := by
  have hm := xext.rf (σ := σ)
  obtain ⟨_, e1, hf⟩ := xbd hf
  obtain ⟨σ3, e2, hf⟩ := xbd hf
  have hm := hm.tr (xpR_same e2).ext
  obtain ⟨⟨z5, σ6⟩, e4, hf⟩ := xbd hf
  dsimp only at hf
  have hm := hm.tr (xnA_ext e4)
  exact hm.tr (m_X7_init_j21 hf)
theorem s_X7_init_j8 {G : XG} (C : XC G cX7_init RX7 none 1 2 40) (hN : (gh G).name = "<init>") {σ : XS} {r0 : Nat} {t0 : Nat} {t1 : Nat} {x : XS} (hf : f_X7_init_j8 σ r0 t0 t1 = some x) (hk : XEnd G none x ∧ XUp G x) : WW G 8 [(0, .ref (gB G + r0))] [.ref (gB G + t1), .ref (gB G + t0)] σ := by
  refine ww_dup (pc := 8) C dX7_init_8 rfl ?_
  obtain ⟨_, e1, hf⟩ := xbd hf
  obtain ⟨σ3, e2, hf⟩ := xbd hf
  refine ww_callIv (pc := 9) (as := []) (st := [.ref (gB G + t1), .ref (gB G + t0)]) C (k_X6_init (l := gl G) (E := gE G) (hb := gB G) (σ := σ) e2) xc_X7_11 rfl q81 rfl (by decide) (xst4 (Nat.le_of_ble_eq_true rfl)) (m_X6_init e2).1 (fun q => by have hm9 := m_X7_init_j12 hf; exact XLim.mid q (m_X6_init e2) hm9 hk.2) dX7_init_9 ?_
  refine ww_sub [0] rfl ?_
  exact s_X7_init_j12 C hN hf hk
theorem m_X7_init_j8 {σ : XS} {r0 : Nat} {t0 : Nat} {t1 : Nat} {x : XS} (hf : f_X7_init_j8 σ r0 t0 t1 = some x) : xext σ x := by
  have hm := xext.rf (σ := σ)
  obtain ⟨_, e1, hf⟩ := xbd hf
  obtain ⟨σ3, e2, hf⟩ := xbd hf
  have hm := hm.tr (m_X6_init e2)
  exact hm.tr (m_X7_init_j12 hf)
theorem s_X7_init_e {G : XG} (C : XC G cX7_init RX7 none 1 2 40) (hN : (gh G).name = "<init>") {σ : XS} {r0 : Nat} {x : XS} (hf : f_X7_init σ r0 = some x) (hk : XEnd G none x ∧ XUp G x) : WW G 0 [(0, .ref (gB G + r0))] [] σ := by
  refine ww_aload_n (pc := 0) C 0 dX7_init_0 rfl ?_
  refine ww_objInit (pc := 1) C qo_X7_3 qoi qoc ⟨by decide, by decide⟩ dX7_init_1 ?_
  refine ww_aload_n (pc := 4) C 0 dX7_init_4 rfl ?_
  obtain ⟨⟨z2, σ3⟩, e1, hf⟩ := xbd hf
  dsimp only at hf
  refine ww_new (pc := 5) (c := 6) C rfl (by decide) inX6 tyX6 tyX6_ok dfX6 q239 q79 q4 e1 (fun q => by have hm9 := m_X7_init_j8 hf; exact XLim.mid q (xnO_ext e1) hm9 hk.2) dX7_init_5 ?_
  refine ww_sub [0] rfl ?_
  exact s_X7_init_j8 C hN hf hk
theorem m_X7_init {σ : XS} {r0 : Nat} {x : XS} (hf : f_X7_init σ r0 = some x) : xext σ x := by
  have hm := xext.rf (σ := σ)
  obtain ⟨⟨z2, σ3⟩, e1, hf⟩ := xbd hf
  dsimp only at hf
  have hm := hm.tr (xnO_ext e1)
  exact hm.tr (m_X7_init_j8 hf)
theorem k_X7_init {l : Launch} {E : XD} {hb : Nat} {σ : XS} {r0 : Nat} {x : XS} (h : f_X7_init σ r0 = some x) : XM l yX7_init cX7_init 1 none 2 40 E hb [.ref (hb + r0)] σ none x := by
  refine xm_of (by decide) (Nat.le_of_ble_eq_true rfl) (m_X7_init h).1 (fun G hG C hl hQ => ?_)
  obtain ⟨rfl, rfl, rfl, hN⟩ := hG
  exact s_X7_init_e C hN h ⟨hQ, hl.2⟩
noncomputable def f_X2_init_j22 (σ : XS) (r0 : Nat) (t0 : Nat) (t1 : Nat) : Option XS := (xnz t1).bind fun _ => (xpR σ t0 2 4 t1).bind fun σ3 => (xpI σ3 r0 2 5 (-1 : Int32)).bind fun σ5 => some σ5
noncomputable def f_X2_init_j15 (σ : XS) (r0 : Nat) (t0 : Nat) (t1 : Nat) : Option XS := (xnz t1).bind fun _ => (xpR σ t0 2 1 t1).bind fun σ3 => (xnA σ3 20 (1 : Int32)).bind fun (z5, σ6) => f_X2_init_j22 σ6 r0 r0 z5
noncomputable def f_X2_init_j8 (σ : XS) (r0 : Nat) (t0 : Nat) (t1 : Nat) : Option XS := (xnz t1).bind fun _ => (xpR σ t0 2 0 t1).bind fun σ3 => (xnA σ3 20 (4 : Int32)).bind fun (z5, σ6) => f_X2_init_j15 σ6 r0 r0 z5
noncomputable def f_X2_init (σ : XS) (r0 : Nat) : Option XS := (xnA σ 20 (4 : Int32)).bind fun (z2, σ3) => f_X2_init_j8 σ3 r0 r0 z2
theorem s_X2_init_j22 {G : XG} (C : XC G cX2_init RX2 none 1 1 20) (hN : (gh G).name = "<init>") {σ : XS} {r0 : Nat} {t0 : Nat} {t1 : Nat} {x : XS} (hf : f_X2_init_j22 σ r0 t0 t1 = some x) (hk : XEnd G none x ∧ XUp G x) : WW G 22 [(0, .ref (gB G + r0))] [.ref (gB G + t1), .ref (gB G + t0)] σ := by
  obtain ⟨_, e1, hf⟩ := xbd hf
  obtain ⟨σ3, e2, hf⟩ := xbd hf
  refine pf_X2_18 (pc := 22) C (xnz_spec e1) e2 dX2_init_22 ?_
  refine ww_aload_n (pc := 25) C 0 dX2_init_25 rfl ?_
  refine ww_iconst (pc := 26) (v := (-1 : Int32)) C dX2_init_26 (by decide) ?_
  obtain ⟨σ5, e4, hf⟩ := xbd hf
  refine pf_X2_21 (pc := 27) C e4 dX2_init_27 ?_
  have hf := xsj hf
  subst hf
  exact ww_vret (pc := 30) C hk.1 dX2_init_30
theorem m_X2_init_j22 {σ : XS} {r0 : Nat} {t0 : Nat} {t1 : Nat} {x : XS} (hf : f_X2_init_j22 σ r0 t0 t1 = some x) : xext σ x := by
  have hm := xext.rf (σ := σ)
  obtain ⟨_, e1, hf⟩ := xbd hf
  obtain ⟨σ3, e2, hf⟩ := xbd hf
  have hm := hm.tr (xpR_same e2).ext
  obtain ⟨σ5, e4, hf⟩ := xbd hf
  have hm := hm.tr (xpI_same e4).ext
  have hf := xsj hf
  subst hf
  exact hm
theorem s_X2_init_j15 {G : XG} (C : XC G cX2_init RX2 none 1 1 20) (hN : (gh G).name = "<init>") {σ : XS} {r0 : Nat} {t0 : Nat} {t1 : Nat} {x : XS} (hf : f_X2_init_j15 σ r0 t0 t1 = some x) (hk : XEnd G none x ∧ XUp G x) : WW G 15 [(0, .ref (gB G + r0))] [.ref (gB G + t1), .ref (gB G + t0)] σ := by
  obtain ⟨_, e1, hf⟩ := xbd hf
  obtain ⟨σ3, e2, hf⟩ := xbd hf
  refine pf_X2_15 (pc := 15) C hN (xnz_spec e1) e2 dX2_init_15 ?_
  refine ww_aload_n (pc := 18) C 0 dX2_init_18 rfl ?_
  refine ww_iconst (pc := 19) (v := (1 : Int32)) C dX2_init_19 (by decide) ?_
  obtain ⟨⟨z5, σ6⟩, e4, hf⟩ := xbd hf
  dsimp only at hf
  refine ww_newI (pc := 20) C q77 e4 (fun q => by have hm9 := m_X2_init_j22 hf; exact XLim.mid q (xnA_ext e4) hm9 hk.2) dX2_init_20 ?_
  refine ww_sub [0] rfl ?_
  exact s_X2_init_j22 C hN hf hk
theorem m_X2_init_j15 {σ : XS} {r0 : Nat} {t0 : Nat} {t1 : Nat} {x : XS} (hf : f_X2_init_j15 σ r0 t0 t1 = some x) : xext σ x := by
  have hm := xext.rf (σ := σ)
  obtain ⟨_, e1, hf⟩ := xbd hf
  obtain ⟨σ3, e2, hf⟩ := xbd hf
  have hm := hm.tr (xpR_same e2).ext
  obtain ⟨⟨z5, σ6⟩, e4, hf⟩ := xbd hf
  dsimp only at hf
  have hm := hm.tr (xnA_ext e4)
  exact hm.tr (m_X2_init_j22 hf)
theorem s_X2_init_j8 {G : XG} (C : XC G cX2_init RX2 none 1 1 20) (hN : (gh G).name = "<init>") {σ : XS} {r0 : Nat} {t0 : Nat} {t1 : Nat} {x : XS} (hf : f_X2_init_j8 σ r0 t0 t1 = some x) (hk : XEnd G none x ∧ XUp G x) : WW G 8 [(0, .ref (gB G + r0))] [.ref (gB G + t1), .ref (gB G + t0)] σ := by
  obtain ⟨_, e1, hf⟩ := xbd hf
  obtain ⟨σ3, e2, hf⟩ := xbd hf
  refine pf_X2_9 (pc := 8) C hN (xnz_spec e1) e2 dX2_init_8 ?_
  refine ww_aload_n (pc := 11) C 0 dX2_init_11 rfl ?_
  refine ww_iconst (pc := 12) (v := (4 : Int32)) C dX2_init_12 (by decide) ?_
  obtain ⟨⟨z5, σ6⟩, e4, hf⟩ := xbd hf
  dsimp only at hf
  refine ww_newI (pc := 13) C q77 e4 (fun q => by have hm9 := m_X2_init_j15 hf; exact XLim.mid q (xnA_ext e4) hm9 hk.2) dX2_init_13 ?_
  refine ww_sub [0] rfl ?_
  exact s_X2_init_j15 C hN hf hk
theorem m_X2_init_j8 {σ : XS} {r0 : Nat} {t0 : Nat} {t1 : Nat} {x : XS} (hf : f_X2_init_j8 σ r0 t0 t1 = some x) : xext σ x := by
  have hm := xext.rf (σ := σ)
  obtain ⟨_, e1, hf⟩ := xbd hf
  obtain ⟨σ3, e2, hf⟩ := xbd hf
  have hm := hm.tr (xpR_same e2).ext
  obtain ⟨⟨z5, σ6⟩, e4, hf⟩ := xbd hf
  dsimp only at hf
  have hm := hm.tr (xnA_ext e4)
  exact hm.tr (m_X2_init_j15 hf)
theorem s_X2_init_e {G : XG} (C : XC G cX2_init RX2 none 1 1 20) (hN : (gh G).name = "<init>") {σ : XS} {r0 : Nat} {x : XS} (hf : f_X2_init σ r0 = some x) (hk : XEnd G none x ∧ XUp G x) : WW G 0 [(0, .ref (gB G + r0))] [] σ := by
  refine ww_aload_n (pc := 0) C 0 dX2_init_0 rfl ?_
  refine ww_objInit (pc := 1) C qo_X2_3 qoi qoc ⟨by decide, by decide⟩ dX2_init_1 ?_
  refine ww_aload_n (pc := 4) C 0 dX2_init_4 rfl ?_
  refine ww_iconst (pc := 5) (v := (4 : Int32)) C dX2_init_5 (by decide) ?_
  obtain ⟨⟨z2, σ3⟩, e1, hf⟩ := xbd hf
  dsimp only at hf
  refine ww_newI (pc := 6) C q77 e1 (fun q => by have hm9 := m_X2_init_j8 hf; exact XLim.mid q (xnA_ext e1) hm9 hk.2) dX2_init_6 ?_
  refine ww_sub [0] rfl ?_
  exact s_X2_init_j8 C hN hf hk
theorem m_X2_init {σ : XS} {r0 : Nat} {x : XS} (hf : f_X2_init σ r0 = some x) : xext σ x := by
  have hm := xext.rf (σ := σ)
  obtain ⟨⟨z2, σ3⟩, e1, hf⟩ := xbd hf
  dsimp only at hf
  have hm := hm.tr (xnA_ext e1)
  exact hm.tr (m_X2_init_j8 hf)
theorem k_X2_init {l : Launch} {E : XD} {hb : Nat} {σ : XS} {r0 : Nat} {x : XS} (h : f_X2_init σ r0 = some x) : XM l yX2_init cX2_init 1 none 1 20 E hb [.ref (hb + r0)] σ none x := by
  refine xm_of (by decide) (Nat.le_of_ble_eq_true rfl) (m_X2_init h).1 (fun G hG C hl hQ => ?_)
  obtain ⟨rfl, rfl, rfl, hN⟩ := hG
  exact s_X2_init_e C hN h ⟨hQ, hl.2⟩
noncomputable def f_X4_init_j37 (σ : XS) (r0 : Nat) (t0 : Nat) (t1 : Nat) : Option XS := (xnz t1).bind fun _ => (xpR σ t0 4 3 t1).bind fun σ3 => (xpI σ3 r0 4 5 (-1 : Int32)).bind fun σ5 => some σ5
noncomputable def f_X4_init_j28 (σ : XS) (r0 : Nat) (t0 : Nat) (t1 : Nat) : Option XS := (xnz t1).bind fun _ => (xpR σ t0 4 2 t1).bind fun σ3 => (xnA σ3 20 (289 : Int32)).bind fun (z5, σ6) => f_X4_init_j37 σ6 r0 r0 z5
noncomputable def f_X4_init_j19 (σ : XS) (r0 : Nat) (t0 : Nat) (t1 : Nat) : Option XS := (xnz t1).bind fun _ => (xpR σ t0 4 1 t1).bind fun σ3 => (xnA σ3 20 (4913 : Int32)).bind fun (z5, σ6) => f_X4_init_j28 σ6 r0 r0 z5
noncomputable def f_X4_init_j10 (σ : XS) (r0 : Nat) (t0 : Nat) (t1 : Nat) : Option XS := (xnz t1).bind fun _ => (xpR σ t0 4 0 t1).bind fun σ3 => (xnA σ3 20 (289 : Int32)).bind fun (z5, σ6) => f_X4_init_j19 σ6 r0 r0 z5
noncomputable def f_X4_init (σ : XS) (r0 : Nat) : Option XS := (xnA σ 20 (289 : Int32)).bind fun (z2, σ3) => f_X4_init_j10 σ3 r0 r0 z2
theorem s_X4_init_j37 {G : XG} (C : XC G cX4_init RX4 none 1 1 20) (hN : (gh G).name = "<init>") {σ : XS} {r0 : Nat} {t0 : Nat} {t1 : Nat} {x : XS} (hf : f_X4_init_j37 σ r0 t0 t1 = some x) (hk : XEnd G none x ∧ XUp G x) : WW G 37 [(0, .ref (gB G + r0))] [.ref (gB G + t1), .ref (gB G + t0)] σ := by
  obtain ⟨_, e1, hf⟩ := xbd hf
  obtain ⟨σ3, e2, hf⟩ := xbd hf
  refine pf_X4_21 (pc := 37) C hN (xnz_spec e1) e2 dX4_init_37 ?_
  refine ww_aload_n (pc := 40) C 0 dX4_init_40 rfl ?_
  refine ww_iconst (pc := 41) (v := (-1 : Int32)) C dX4_init_41 (by decide) ?_
  obtain ⟨σ5, e4, hf⟩ := xbd hf
  refine pf_X4_24 (pc := 42) C e4 dX4_init_42 ?_
  have hf := xsj hf
  subst hf
  exact ww_vret (pc := 45) C hk.1 dX4_init_45
theorem m_X4_init_j37 {σ : XS} {r0 : Nat} {t0 : Nat} {t1 : Nat} {x : XS} (hf : f_X4_init_j37 σ r0 t0 t1 = some x) : xext σ x := by
  have hm := xext.rf (σ := σ)
  obtain ⟨_, e1, hf⟩ := xbd hf
  obtain ⟨σ3, e2, hf⟩ := xbd hf
  have hm := hm.tr (xpR_same e2).ext
  obtain ⟨σ5, e4, hf⟩ := xbd hf
  have hm := hm.tr (xpI_same e4).ext
  have hf := xsj hf
  subst hf
  exact hm
theorem s_X4_init_j28 {G : XG} (C : XC G cX4_init RX4 none 1 1 20) (hN : (gh G).name = "<init>") {σ : XS} {r0 : Nat} {t0 : Nat} {t1 : Nat} {x : XS} (hf : f_X4_init_j28 σ r0 t0 t1 = some x) (hk : XEnd G none x ∧ XUp G x) : WW G 28 [(0, .ref (gB G + r0))] [.ref (gB G + t1), .ref (gB G + t0)] σ := by
  obtain ⟨_, e1, hf⟩ := xbd hf
  obtain ⟨σ3, e2, hf⟩ := xbd hf
  refine pf_X4_18 (pc := 28) C hN (xnz_spec e1) e2 dX4_init_28 ?_
  refine ww_aload_n (pc := 31) C 0 dX4_init_31 rfl ?_
  refine ww_sipush (pc := 32) (v := (289 : Int32)) C dX4_init_32 (by decide) ?_
  obtain ⟨⟨z5, σ6⟩, e4, hf⟩ := xbd hf
  dsimp only at hf
  refine ww_newI (pc := 35) C q77 e4 (fun q => by have hm9 := m_X4_init_j37 hf; exact XLim.mid q (xnA_ext e4) hm9 hk.2) dX4_init_35 ?_
  refine ww_sub [0] rfl ?_
  exact s_X4_init_j37 C hN hf hk
theorem m_X4_init_j28 {σ : XS} {r0 : Nat} {t0 : Nat} {t1 : Nat} {x : XS} (hf : f_X4_init_j28 σ r0 t0 t1 = some x) : xext σ x := by
  have hm := xext.rf (σ := σ)
  obtain ⟨_, e1, hf⟩ := xbd hf
  obtain ⟨σ3, e2, hf⟩ := xbd hf
  have hm := hm.tr (xpR_same e2).ext
  obtain ⟨⟨z5, σ6⟩, e4, hf⟩ := xbd hf
  dsimp only at hf
  have hm := hm.tr (xnA_ext e4)
  exact hm.tr (m_X4_init_j37 hf)
theorem s_X4_init_j19 {G : XG} (C : XC G cX4_init RX4 none 1 1 20) (hN : (gh G).name = "<init>") {σ : XS} {r0 : Nat} {t0 : Nat} {t1 : Nat} {x : XS} (hf : f_X4_init_j19 σ r0 t0 t1 = some x) (hk : XEnd G none x ∧ XUp G x) : WW G 19 [(0, .ref (gB G + r0))] [.ref (gB G + t1), .ref (gB G + t0)] σ := by
  obtain ⟨_, e1, hf⟩ := xbd hf
  obtain ⟨σ3, e2, hf⟩ := xbd hf
  refine pf_X4_15 (pc := 19) C hN (xnz_spec e1) e2 dX4_init_19 ?_
  refine ww_aload_n (pc := 22) C 0 dX4_init_22 rfl ?_
  refine ww_sipush (pc := 23) (v := (4913 : Int32)) C dX4_init_23 (by decide) ?_
  obtain ⟨⟨z5, σ6⟩, e4, hf⟩ := xbd hf
  dsimp only at hf
  refine ww_newI (pc := 26) C q77 e4 (fun q => by have hm9 := m_X4_init_j28 hf; exact XLim.mid q (xnA_ext e4) hm9 hk.2) dX4_init_26 ?_
  refine ww_sub [0] rfl ?_
  exact s_X4_init_j28 C hN hf hk
theorem m_X4_init_j19 {σ : XS} {r0 : Nat} {t0 : Nat} {t1 : Nat} {x : XS} (hf : f_X4_init_j19 σ r0 t0 t1 = some x) : xext σ x := by
  have hm := xext.rf (σ := σ)
  obtain ⟨_, e1, hf⟩ := xbd hf
  obtain ⟨σ3, e2, hf⟩ := xbd hf
  have hm := hm.tr (xpR_same e2).ext
  obtain ⟨⟨z5, σ6⟩, e4, hf⟩ := xbd hf
  dsimp only at hf
  have hm := hm.tr (xnA_ext e4)
  exact hm.tr (m_X4_init_j28 hf)
theorem s_X4_init_j10 {G : XG} (C : XC G cX4_init RX4 none 1 1 20) (hN : (gh G).name = "<init>") {σ : XS} {r0 : Nat} {t0 : Nat} {t1 : Nat} {x : XS} (hf : f_X4_init_j10 σ r0 t0 t1 = some x) (hk : XEnd G none x ∧ XUp G x) : WW G 10 [(0, .ref (gB G + r0))] [.ref (gB G + t1), .ref (gB G + t0)] σ := by
  obtain ⟨_, e1, hf⟩ := xbd hf
  obtain ⟨σ3, e2, hf⟩ := xbd hf
  refine pf_X4_9 (pc := 10) C hN (xnz_spec e1) e2 dX4_init_10 ?_
  refine ww_aload_n (pc := 13) C 0 dX4_init_13 rfl ?_
  refine ww_sipush (pc := 14) (v := (289 : Int32)) C dX4_init_14 (by decide) ?_
  obtain ⟨⟨z5, σ6⟩, e4, hf⟩ := xbd hf
  dsimp only at hf
  refine ww_newI (pc := 17) C q77 e4 (fun q => by have hm9 := m_X4_init_j19 hf; exact XLim.mid q (xnA_ext e4) hm9 hk.2) dX4_init_17 ?_
  refine ww_sub [0] rfl ?_
  exact s_X4_init_j19 C hN hf hk
theorem m_X4_init_j10 {σ : XS} {r0 : Nat} {t0 : Nat} {t1 : Nat} {x : XS} (hf : f_X4_init_j10 σ r0 t0 t1 = some x) : xext σ x := by
  have hm := xext.rf (σ := σ)
  obtain ⟨_, e1, hf⟩ := xbd hf
  obtain ⟨σ3, e2, hf⟩ := xbd hf
  have hm := hm.tr (xpR_same e2).ext
  obtain ⟨⟨z5, σ6⟩, e4, hf⟩ := xbd hf
  dsimp only at hf
  have hm := hm.tr (xnA_ext e4)
  exact hm.tr (m_X4_init_j19 hf)
theorem s_X4_init_e {G : XG} (C : XC G cX4_init RX4 none 1 1 20) (hN : (gh G).name = "<init>") {σ : XS} {r0 : Nat} {x : XS} (hf : f_X4_init σ r0 = some x) (hk : XEnd G none x ∧ XUp G x) : WW G 0 [(0, .ref (gB G + r0))] [] σ := by
  refine ww_aload_n (pc := 0) C 0 dX4_init_0 rfl ?_
  refine ww_objInit (pc := 1) C qo_X4_3 qoi qoc ⟨by decide, by decide⟩ dX4_init_1 ?_
  refine ww_aload_n (pc := 4) C 0 dX4_init_4 rfl ?_
  refine ww_sipush (pc := 5) (v := (289 : Int32)) C dX4_init_5 (by decide) ?_
  obtain ⟨⟨z2, σ3⟩, e1, hf⟩ := xbd hf
  dsimp only at hf
  refine ww_newI (pc := 8) C q77 e1 (fun q => by have hm9 := m_X4_init_j10 hf; exact XLim.mid q (xnA_ext e1) hm9 hk.2) dX4_init_8 ?_
  refine ww_sub [0] rfl ?_
  exact s_X4_init_j10 C hN hf hk
theorem m_X4_init {σ : XS} {r0 : Nat} {x : XS} (hf : f_X4_init σ r0 = some x) : xext σ x := by
  have hm := xext.rf (σ := σ)
  obtain ⟨⟨z2, σ3⟩, e1, hf⟩ := xbd hf
  dsimp only at hf
  have hm := hm.tr (xnA_ext e1)
  exact hm.tr (m_X4_init_j10 hf)
theorem k_X4_init {l : Launch} {E : XD} {hb : Nat} {σ : XS} {r0 : Nat} {x : XS} (h : f_X4_init σ r0 = some x) : XM l yX4_init cX4_init 1 none 1 20 E hb [.ref (hb + r0)] σ none x := by
  refine xm_of (by decide) (Nat.le_of_ble_eq_true rfl) (m_X4_init h).1 (fun G hG C hl hQ => ?_)
  obtain ⟨rfl, rfl, rfl, hN⟩ := hG
  exact s_X4_init_e C hN h ⟨hQ, hl.2⟩
noncomputable def f_X9_init_j46 (σ : XS) (r0 : Nat) (t0 : Nat) (t1 : Nat) : Option XS := (xnz t1).bind fun _ => (xpR σ t0 9 4 t1).bind fun σ3 => (xpI σ3 r0 9 10 (-1 : Int32)).bind fun σ5 => some σ5
noncomputable def f_X9_init_j37 (σ : XS) (r0 : Nat) (t0 : Nat) (t1 : Nat) : Option XS := (xnz t1).bind fun _ => (xpR σ t0 9 3 t1).bind fun σ3 => (xnA σ3 23 (1024 : Int32)).bind fun (z5, σ6) => f_X9_init_j46 σ6 r0 r0 z5
noncomputable def f_X9_init_j28 (σ : XS) (r0 : Nat) (t0 : Nat) (t1 : Nat) : Option XS := (xnz t1).bind fun _ => (xpR σ t0 9 2 t1).bind fun σ3 => (xnA σ3 20 (1024 : Int32)).bind fun (z5, σ6) => f_X9_init_j37 σ6 r0 r0 z5
noncomputable def f_X9_init_j19 (σ : XS) (r0 : Nat) (t0 : Nat) (t1 : Nat) : Option XS := (xnz t1).bind fun _ => (xpR σ t0 9 1 t1).bind fun σ3 => (xnA σ3 20 (1024 : Int32)).bind fun (z5, σ6) => f_X9_init_j28 σ6 r0 r0 z5
noncomputable def f_X9_init_j10 (σ : XS) (r0 : Nat) (t0 : Nat) (t1 : Nat) : Option XS := (xnz t1).bind fun _ => (xpR σ t0 9 0 t1).bind fun σ3 => (xnA σ3 20 (289 : Int32)).bind fun (z5, σ6) => f_X9_init_j19 σ6 r0 r0 z5
noncomputable def f_X9_init (σ : XS) (r0 : Nat) : Option XS := (xnA σ 20 (1024 : Int32)).bind fun (z2, σ3) => f_X9_init_j10 σ3 r0 r0 z2
theorem s_X9_init_j46 {G : XG} (C : XC G cX9_init RX9 none 1 1 20) (hN : (gh G).name = "<init>") {σ : XS} {r0 : Nat} {t0 : Nat} {t1 : Nat} {x : XS} (hf : f_X9_init_j46 σ r0 t0 t1 = some x) (hk : XEnd G none x ∧ XUp G x) : WW G 46 [(0, .ref (gB G + r0))] [.ref (gB G + t1), .ref (gB G + t0)] σ := by
  obtain ⟨_, e1, hf⟩ := xbd hf
  obtain ⟨σ3, e2, hf⟩ := xbd hf
  refine pf_X9_24 (pc := 46) C hN (xnz_spec e1) e2 dX9_init_46 ?_
  refine ww_aload_n (pc := 49) C 0 dX9_init_49 rfl ?_
  refine ww_iconst (pc := 50) (v := (-1 : Int32)) C dX9_init_50 (by decide) ?_
  obtain ⟨σ5, e4, hf⟩ := xbd hf
  refine pf_X9_28 (pc := 51) C e4 dX9_init_51 ?_
  have hf := xsj hf
  subst hf
  exact ww_vret (pc := 54) C hk.1 dX9_init_54
theorem m_X9_init_j46 {σ : XS} {r0 : Nat} {t0 : Nat} {t1 : Nat} {x : XS} (hf : f_X9_init_j46 σ r0 t0 t1 = some x) : xext σ x := by
  have hm := xext.rf (σ := σ)
  obtain ⟨_, e1, hf⟩ := xbd hf
  obtain ⟨σ3, e2, hf⟩ := xbd hf
  have hm := hm.tr (xpR_same e2).ext
  obtain ⟨σ5, e4, hf⟩ := xbd hf
  have hm := hm.tr (xpI_same e4).ext
  have hf := xsj hf
  subst hf
  exact hm
theorem s_X9_init_j37 {G : XG} (C : XC G cX9_init RX9 none 1 1 20) (hN : (gh G).name = "<init>") {σ : XS} {r0 : Nat} {t0 : Nat} {t1 : Nat} {x : XS} (hf : f_X9_init_j37 σ r0 t0 t1 = some x) (hk : XEnd G none x ∧ XUp G x) : WW G 37 [(0, .ref (gB G + r0))] [.ref (gB G + t1), .ref (gB G + t0)] σ := by
  obtain ⟨_, e1, hf⟩ := xbd hf
  obtain ⟨σ3, e2, hf⟩ := xbd hf
  refine pf_X9_21 (pc := 37) C hN (xnz_spec e1) e2 dX9_init_37 ?_
  refine ww_aload_n (pc := 40) C 0 dX9_init_40 rfl ?_
  refine ww_sipush (pc := 41) (v := (1024 : Int32)) C dX9_init_41 (by decide) ?_
  obtain ⟨⟨z5, σ6⟩, e4, hf⟩ := xbd hf
  dsimp only at hf
  refine ww_newL (pc := 44) C q372 e4 (fun q => by have hm9 := m_X9_init_j46 hf; exact XLim.mid q (xnA_ext e4) hm9 hk.2) dX9_init_44 ?_
  refine ww_sub [0] rfl ?_
  exact s_X9_init_j46 C hN hf hk
theorem m_X9_init_j37 {σ : XS} {r0 : Nat} {t0 : Nat} {t1 : Nat} {x : XS} (hf : f_X9_init_j37 σ r0 t0 t1 = some x) : xext σ x := by
  have hm := xext.rf (σ := σ)
  obtain ⟨_, e1, hf⟩ := xbd hf
  obtain ⟨σ3, e2, hf⟩ := xbd hf
  have hm := hm.tr (xpR_same e2).ext
  obtain ⟨⟨z5, σ6⟩, e4, hf⟩ := xbd hf
  dsimp only at hf
  have hm := hm.tr (xnA_ext e4)
  exact hm.tr (m_X9_init_j46 hf)
theorem s_X9_init_j28 {G : XG} (C : XC G cX9_init RX9 none 1 1 20) (hN : (gh G).name = "<init>") {σ : XS} {r0 : Nat} {t0 : Nat} {t1 : Nat} {x : XS} (hf : f_X9_init_j28 σ r0 t0 t1 = some x) (hk : XEnd G none x ∧ XUp G x) : WW G 28 [(0, .ref (gB G + r0))] [.ref (gB G + t1), .ref (gB G + t0)] σ := by
  obtain ⟨_, e1, hf⟩ := xbd hf
  obtain ⟨σ3, e2, hf⟩ := xbd hf
  refine pf_X9_18 (pc := 28) C hN (xnz_spec e1) e2 dX9_init_28 ?_
  refine ww_aload_n (pc := 31) C 0 dX9_init_31 rfl ?_
  refine ww_sipush (pc := 32) (v := (1024 : Int32)) C dX9_init_32 (by decide) ?_
  obtain ⟨⟨z5, σ6⟩, e4, hf⟩ := xbd hf
  dsimp only at hf
  refine ww_newI (pc := 35) C q77 e4 (fun q => by have hm9 := m_X9_init_j37 hf; exact XLim.mid q (xnA_ext e4) hm9 hk.2) dX9_init_35 ?_
  refine ww_sub [0] rfl ?_
  exact s_X9_init_j37 C hN hf hk
theorem m_X9_init_j28 {σ : XS} {r0 : Nat} {t0 : Nat} {t1 : Nat} {x : XS} (hf : f_X9_init_j28 σ r0 t0 t1 = some x) : xext σ x := by
  have hm := xext.rf (σ := σ)
  obtain ⟨_, e1, hf⟩ := xbd hf
  obtain ⟨σ3, e2, hf⟩ := xbd hf
  have hm := hm.tr (xpR_same e2).ext
  obtain ⟨⟨z5, σ6⟩, e4, hf⟩ := xbd hf
  dsimp only at hf
  have hm := hm.tr (xnA_ext e4)
  exact hm.tr (m_X9_init_j37 hf)
theorem s_X9_init_j19 {G : XG} (C : XC G cX9_init RX9 none 1 1 20) (hN : (gh G).name = "<init>") {σ : XS} {r0 : Nat} {t0 : Nat} {t1 : Nat} {x : XS} (hf : f_X9_init_j19 σ r0 t0 t1 = some x) (hk : XEnd G none x ∧ XUp G x) : WW G 19 [(0, .ref (gB G + r0))] [.ref (gB G + t1), .ref (gB G + t0)] σ := by
  obtain ⟨_, e1, hf⟩ := xbd hf
  obtain ⟨σ3, e2, hf⟩ := xbd hf
  refine pf_X9_15 (pc := 19) C hN (xnz_spec e1) e2 dX9_init_19 ?_
  refine ww_aload_n (pc := 22) C 0 dX9_init_22 rfl ?_
  refine ww_sipush (pc := 23) (v := (1024 : Int32)) C dX9_init_23 (by decide) ?_
  obtain ⟨⟨z5, σ6⟩, e4, hf⟩ := xbd hf
  dsimp only at hf
  refine ww_newI (pc := 26) C q77 e4 (fun q => by have hm9 := m_X9_init_j28 hf; exact XLim.mid q (xnA_ext e4) hm9 hk.2) dX9_init_26 ?_
  refine ww_sub [0] rfl ?_
  exact s_X9_init_j28 C hN hf hk
theorem m_X9_init_j19 {σ : XS} {r0 : Nat} {t0 : Nat} {t1 : Nat} {x : XS} (hf : f_X9_init_j19 σ r0 t0 t1 = some x) : xext σ x := by
  have hm := xext.rf (σ := σ)
  obtain ⟨_, e1, hf⟩ := xbd hf
  obtain ⟨σ3, e2, hf⟩ := xbd hf
  have hm := hm.tr (xpR_same e2).ext
  obtain ⟨⟨z5, σ6⟩, e4, hf⟩ := xbd hf
  dsimp only at hf
  have hm := hm.tr (xnA_ext e4)
  exact hm.tr (m_X9_init_j28 hf)
theorem s_X9_init_j10 {G : XG} (C : XC G cX9_init RX9 none 1 1 20) (hN : (gh G).name = "<init>") {σ : XS} {r0 : Nat} {t0 : Nat} {t1 : Nat} {x : XS} (hf : f_X9_init_j10 σ r0 t0 t1 = some x) (hk : XEnd G none x ∧ XUp G x) : WW G 10 [(0, .ref (gB G + r0))] [.ref (gB G + t1), .ref (gB G + t0)] σ := by
  obtain ⟨_, e1, hf⟩ := xbd hf
  obtain ⟨σ3, e2, hf⟩ := xbd hf
  refine pf_X9_9 (pc := 10) C hN (xnz_spec e1) e2 dX9_init_10 ?_
  refine ww_aload_n (pc := 13) C 0 dX9_init_13 rfl ?_
  refine ww_sipush (pc := 14) (v := (289 : Int32)) C dX9_init_14 (by decide) ?_
  obtain ⟨⟨z5, σ6⟩, e4, hf⟩ := xbd hf
  dsimp only at hf
  refine ww_newI (pc := 17) C q77 e4 (fun q => by have hm9 := m_X9_init_j19 hf; exact XLim.mid q (xnA_ext e4) hm9 hk.2) dX9_init_17 ?_
  refine ww_sub [0] rfl ?_
  exact s_X9_init_j19 C hN hf hk
theorem m_X9_init_j10 {σ : XS} {r0 : Nat} {t0 : Nat} {t1 : Nat} {x : XS} (hf : f_X9_init_j10 σ r0 t0 t1 = some x) : xext σ x := by
  have hm := xext.rf (σ := σ)
  obtain ⟨_, e1, hf⟩ := xbd hf
  obtain ⟨σ3, e2, hf⟩ := xbd hf
  have hm := hm.tr (xpR_same e2).ext
  obtain ⟨⟨z5, σ6⟩, e4, hf⟩ := xbd hf
  dsimp only at hf
  have hm := hm.tr (xnA_ext e4)
  exact hm.tr (m_X9_init_j19 hf)
theorem s_X9_init_e {G : XG} (C : XC G cX9_init RX9 none 1 1 20) (hN : (gh G).name = "<init>") {σ : XS} {r0 : Nat} {x : XS} (hf : f_X9_init σ r0 = some x) (hk : XEnd G none x ∧ XUp G x) : WW G 0 [(0, .ref (gB G + r0))] [] σ := by
  refine ww_aload_n (pc := 0) C 0 dX9_init_0 rfl ?_
  refine ww_objInit (pc := 1) C qo_X9_3 qoi qoc ⟨by decide, by decide⟩ dX9_init_1 ?_
  refine ww_aload_n (pc := 4) C 0 dX9_init_4 rfl ?_
  refine ww_sipush (pc := 5) (v := (1024 : Int32)) C dX9_init_5 (by decide) ?_
  obtain ⟨⟨z2, σ3⟩, e1, hf⟩ := xbd hf
  dsimp only at hf
  refine ww_newI (pc := 8) C q77 e1 (fun q => by have hm9 := m_X9_init_j10 hf; exact XLim.mid q (xnA_ext e1) hm9 hk.2) dX9_init_8 ?_
  refine ww_sub [0] rfl ?_
  exact s_X9_init_j10 C hN hf hk
theorem m_X9_init {σ : XS} {r0 : Nat} {x : XS} (hf : f_X9_init σ r0 = some x) : xext σ x := by
  have hm := xext.rf (σ := σ)
  obtain ⟨⟨z2, σ3⟩, e1, hf⟩ := xbd hf
  dsimp only at hf
  have hm := hm.tr (xnA_ext e1)
  exact hm.tr (m_X9_init_j10 hf)
theorem k_X9_init {l : Launch} {E : XD} {hb : Nat} {σ : XS} {r0 : Nat} {x : XS} (h : f_X9_init σ r0 = some x) : XM l yX9_init cX9_init 1 none 1 20 E hb [.ref (hb + r0)] σ none x := by
  refine xm_of (by decide) (Nat.le_of_ble_eq_true rfl) (m_X9_init h).1 (fun G hG C hl hQ => ?_)
  obtain ⟨rfl, rfl, rfl, hN⟩ := hG
  exact s_X9_init_e C hN h ⟨hQ, hl.2⟩
end
section
noncomputable def f_X11_init_j178 (σ : XS) (r0 : Nat) (t0 : Nat) (t1 : Nat) : Option XS := (xnz t1).bind fun _ => (xpR σ t0 11 13 t1).bind fun σ3 => (xpI σ3 r0 11 14 (-1 : Int32)).bind fun σ5 => (xpI σ5 r0 11 15 (0 : Int32)).bind fun σ7 => some σ7
noncomputable def f_X11_init_j169 (σ : XS) (r0 : Nat) (t0 : Nat) (t1 : Nat) : Option XS := (xnz t1).bind fun _ => (xpR σ t0 11 12 t1).bind fun σ3 => (xnA σ3 20 (256 : Int32)).bind fun (z5, σ6) => f_X11_init_j178 σ6 r0 r0 z5
noncomputable def f_X11_init_j156 (σ : XS) (r0 : Nat) (t0 : Nat) (t1 : Nat) : Option XS := (xck σ t1 10).bind fun _ => (f_X10_init t1).bind fun _ => (xnz t1).bind fun _ => (xpR σ t0 11 11 t1).bind fun σ5 => (xnA σ5 23 (577 : Int32)).bind fun (z7, σ8) => f_X11_init_j169 σ8 r0 r0 z7
noncomputable def f_X11_init_j149 (σ : XS) (r0 : Nat) (t0 : Nat) (t1 : Nat) : Option XS := (xnz t1).bind fun _ => (xpR σ t0 11 10 t1).bind fun σ3 => (xnO σ3 10 3).bind fun (z5, σ6) => f_X11_init_j156 σ6 r0 r0 z5
noncomputable def f_X11_init_j145 (σ : XS) (r0 : Nat) (t0 : Nat) (t1 : Nat) : Option XS := (xck σ t1 9).bind fun _ => (f_X9_init σ t1).bind fun σ3 => f_X11_init_j149 σ3 r0 t0 t1
noncomputable def f_X11_init_j138 (σ : XS) (r0 : Nat) (t0 : Nat) (t1 : Nat) : Option XS := (xnz t1).bind fun _ => (xpR σ t0 11 9 t1).bind fun σ3 => (xnO σ3 9 11).bind fun (z5, σ6) => f_X11_init_j145 σ6 r0 r0 z5
noncomputable def f_X11_init_j134 (σ : XS) (r0 : Nat) (t0 : Nat) (t1 : Nat) : Option XS := (xck σ t1 0).bind fun _ => (f_X0_init σ t1).bind fun σ3 => f_X11_init_j138 σ3 r0 t0 t1
noncomputable def f_X11_init_j127 (σ : XS) (r0 : Nat) (t0 : Nat) (t1 : Nat) : Option XS := (xnz t1).bind fun _ => (xpR σ t0 11 8 t1).bind fun σ3 => (xnO σ3 0 4).bind fun (z5, σ6) => f_X11_init_j134 σ6 r0 r0 z5
noncomputable def f_X11_init_j123 (σ : XS) (r0 : Nat) (t0 : Nat) (t1 : Nat) : Option XS := (xck σ t1 4).bind fun _ => (f_X4_init σ t1).bind fun σ3 => f_X11_init_j127 σ3 r0 t0 t1
noncomputable def f_X11_init_j116 (σ : XS) (r0 : Nat) (t0 : Nat) (t1 : Nat) : Option XS := (xnz t1).bind fun _ => (xpR σ t0 11 7 t1).bind fun σ3 => (xnO σ3 4 6).bind fun (z5, σ6) => f_X11_init_j123 σ6 r0 r0 z5
noncomputable def f_X11_init_j112 (σ : XS) (r0 : Nat) (t0 : Nat) (t1 : Nat) : Option XS := (xck σ t1 2).bind fun _ => (f_X2_init σ t1).bind fun σ3 => f_X11_init_j116 σ3 r0 t0 t1
noncomputable def f_X11_init_j105 (σ : XS) (r0 : Nat) (t0 : Nat) (t1 : Nat) : Option XS := (xnz t1).bind fun _ => (xpR σ t0 11 6 t1).bind fun σ3 => (xnO σ3 2 6).bind fun (z5, σ6) => f_X11_init_j112 σ6 r0 r0 z5
noncomputable def f_X11_init_j101 (σ : XS) (r0 : Nat) (t0 : Nat) (t1 : Nat) : Option XS := (xck σ t1 2).bind fun _ => (f_X2_init σ t1).bind fun σ3 => f_X11_init_j105 σ3 r0 t0 t1
noncomputable def f_X11_init_j90 (σ : XS) (r0 : Nat) (x1 : Int32) (t0 : Nat) (t1 : Int32) (t2 : Nat) : Option ((Int32 × XS) ⊕ (XS)) := (xsR σ 25 7 t0 t1 t2).bind fun σ2 => some (.inl (x1 + (1 : Int32), σ2))
noncomputable def f_X11_init_j86 (σ : XS) (r0 : Nat) (x1 : Int32) (t0 : Nat) (t1 : Int32) (t2 : Nat) : Option ((Int32 × XS) ⊕ (XS)) := (xck σ t2 7).bind fun _ => (f_X7_init σ t2).bind fun σ3 => f_X11_init_j90 σ3 r0 x1 t0 t1 t2
noncomputable def f_X11_init_b69 (r0 : Nat) : Int32 × XS → Option ((Int32 × XS) ⊕ (XS)) := fun a => match a with
  | (x1, σ) => (xgR σ r0 11 5).bind fun z2 => (xal σ z2).bind fun v4 => if v4 ≤ x1 then (((xnO σ 2 6).bind fun (z6, σ7) => f_X11_init_j101 σ7 r0 r0 z6).map .inr) else (xgR σ r0 11 5).bind fun z6 => (xnO σ 7 4).bind fun (z8, σ9) => f_X11_init_j86 σ9 r0 x1 z6 x1 z8
noncomputable def f_X11_init_j64 (σ : XS) (r0 : Nat) (t0 : Nat) (t1 : Nat) : Option XS := (xnz t1).bind fun _ => (xpR σ t0 11 5 t1).bind fun σ3 => xloop (f_X11_init_b69 r0) ((0 : Int32), σ3)
noncomputable def f_X11_init_j56 (σ : XS) (r0 : Nat) (t0 : Nat) (t1 : Nat) : Option XS := (xnz t1).bind fun _ => (xpR σ t0 11 4 t1).bind fun σ3 => (xnA σ3 25 (3 : Int32)).bind fun (z5, σ6) => f_X11_init_j64 σ6 r0 r0 z5
noncomputable def f_X11_init_j52 (σ : XS) (r0 : Nat) (t0 : Nat) (t1 : Nat) : Option XS := (xck σ t1 5).bind fun _ => (f_X5_init σ t1).bind fun σ3 => f_X11_init_j56 σ3 r0 t0 t1
noncomputable def f_X11_init_j45 (σ : XS) (r0 : Nat) (t0 : Nat) (t1 : Nat) : Option XS := (xnz t1).bind fun _ => (xpR σ t0 11 3 t1).bind fun σ3 => (xnO σ3 5 3).bind fun (z5, σ6) => f_X11_init_j52 σ6 r0 r0 z5
noncomputable def f_X11_init_j41 (σ : XS) (r0 : Nat) (t0 : Nat) (t1 : Nat) : Option XS := (xck σ t1 6).bind fun _ => (f_X6_init σ t1).bind fun σ3 => f_X11_init_j45 σ3 r0 t0 t1
noncomputable def f_X11_init_j34 (σ : XS) (r0 : Nat) (t0 : Nat) (t1 : Nat) : Option XS := (xnz t1).bind fun _ => (xpR σ t0 11 2 t1).bind fun σ3 => (xnO σ3 6 8).bind fun (z5, σ6) => f_X11_init_j41 σ6 r0 r0 z5
noncomputable def f_X11_init_j30 (σ : XS) (r0 : Nat) (t0 : Nat) (t1 : Nat) : Option XS := (xck σ t1 3).bind fun _ => (f_X3_init σ t1).bind fun σ3 => f_X11_init_j34 σ3 r0 t0 t1
noncomputable def f_X11_init_j12 (σ : XS) (r0 : Nat) (t0 : Nat) (t1 : Nat) : Option XS := (xnz t1).bind fun _ => (xpR σ t0 11 1 t1).bind fun σ3 => (xgR σ3 r0 11 1).bind fun z5 => (xgR σ3 z5 1 0).bind fun z7 => (xnz z7).bind fun _ => (xpR σ3 r0 11 0 z7).bind fun σ10 => (xnO σ10 3 8).bind fun (z12, σ13) => f_X11_init_j30 σ13 r0 r0 z12
noncomputable def f_X11_init_j8 (σ : XS) (r0 : Nat) (t0 : Nat) (t1 : Nat) : Option XS := (xck σ t1 1).bind fun _ => (f_X1_init σ t1).bind fun σ3 => f_X11_init_j12 σ3 r0 t0 t1
noncomputable def f_X11_init (σ : XS) (r0 : Nat) : Option XS := (xnO σ 1 13).bind fun (z2, σ3) => f_X11_init_j8 σ3 r0 r0 z2
theorem s_X11_init_j178 {G : XG} (C : XC G cX11_init RX11 none 2 3 61) (hN : (gh G).name = "<init>") {σ : XS} {r0 : Nat} {t0 : Nat} {t1 : Nat} {x : XS} (hf : f_X11_init_j178 σ r0 t0 t1 = some x) (hk : XEnd G none x ∧ XUp G x) : WW G 178 [(0, .ref (gB G + r0))] [.ref (gB G + t1), .ref (gB G + t0)] σ := by
  obtain ⟨_, e1, hf⟩ := xbd hf
  obtain ⟨σ3, e2, hf⟩ := xbd hf
  refine pf_X11_91 (pc := 178) C hN (xnz_spec e1) e2 dX11_init_178 ?_
  refine ww_aload_n (pc := 181) C 0 dX11_init_181 rfl ?_
  refine ww_iconst (pc := 182) (v := (-1 : Int32)) C dX11_init_182 (by decide) ?_
  obtain ⟨σ5, e4, hf⟩ := xbd hf
  refine pf_X11_95 (pc := 183) C e4 dX11_init_183 ?_
  refine ww_aload_n (pc := 186) C 0 dX11_init_186 rfl ?_
  refine ww_iconst (pc := 187) (v := (0 : Int32)) C dX11_init_187 (by decide) ?_
  obtain ⟨σ7, e6, hf⟩ := xbd hf
  refine pf_X11_99 (pc := 188) C e6 dX11_init_188 ?_
  have hf := xsj hf
  subst hf
  exact ww_vret (pc := 191) C hk.1 dX11_init_191
theorem m_X11_init_j178 {σ : XS} {r0 : Nat} {t0 : Nat} {t1 : Nat} {x : XS} (hf : f_X11_init_j178 σ r0 t0 t1 = some x) : xext σ x := by
  have hm := xext.rf (σ := σ)
  obtain ⟨_, e1, hf⟩ := xbd hf
  obtain ⟨σ3, e2, hf⟩ := xbd hf
  have hm := hm.tr (xpR_same e2).ext
  obtain ⟨σ5, e4, hf⟩ := xbd hf
  have hm := hm.tr (xpI_same e4).ext
  obtain ⟨σ7, e6, hf⟩ := xbd hf
  have hm := hm.tr (xpI_same e6).ext
  have hf := xsj hf
  subst hf
  exact hm
theorem s_X11_init_j169 {G : XG} (C : XC G cX11_init RX11 none 2 3 61) (hN : (gh G).name = "<init>") {σ : XS} {r0 : Nat} {t0 : Nat} {t1 : Nat} {x : XS} (hf : f_X11_init_j169 σ r0 t0 t1 = some x) (hk : XEnd G none x ∧ XUp G x) : WW G 169 [(0, .ref (gB G + r0))] [.ref (gB G + t1), .ref (gB G + t0)] σ := by
  obtain ⟨_, e1, hf⟩ := xbd hf
  obtain ⟨σ3, e2, hf⟩ := xbd hf
  refine pf_X11_87 (pc := 169) C hN (xnz_spec e1) e2 dX11_init_169 ?_
  refine ww_aload_n (pc := 172) C 0 dX11_init_172 rfl ?_
  refine ww_sipush (pc := 173) (v := (256 : Int32)) C dX11_init_173 (by decide) ?_
  obtain ⟨⟨z5, σ6⟩, e4, hf⟩ := xbd hf
  dsimp only at hf
  refine ww_newI (pc := 176) C q77 e4 (fun q => by have hm9 := m_X11_init_j178 hf; exact XLim.mid q (xnA_ext e4) hm9 hk.2) dX11_init_176 ?_
  refine ww_sub [0] rfl ?_
  exact s_X11_init_j178 C hN hf hk
theorem m_X11_init_j169 {σ : XS} {r0 : Nat} {t0 : Nat} {t1 : Nat} {x : XS} (hf : f_X11_init_j169 σ r0 t0 t1 = some x) : xext σ x := by
  have hm := xext.rf (σ := σ)
  obtain ⟨_, e1, hf⟩ := xbd hf
  obtain ⟨σ3, e2, hf⟩ := xbd hf
  have hm := hm.tr (xpR_same e2).ext
  obtain ⟨⟨z5, σ6⟩, e4, hf⟩ := xbd hf
  dsimp only at hf
  have hm := hm.tr (xnA_ext e4)
  exact hm.tr (m_X11_init_j178 hf)
theorem s_X11_init_j156 {G : XG} (C : XC G cX11_init RX11 none 2 3 61) (hN : (gh G).name = "<init>") {σ : XS} {r0 : Nat} {t0 : Nat} {t1 : Nat} {x : XS} (hf : f_X11_init_j156 σ r0 t0 t1 = some x) (hk : XEnd G none x ∧ XUp G x) : WW G 156 [(0, .ref (gB G + r0))] [.ref (gB G + t1), .ref (gB G + t0)] σ := by
  refine ww_dup (pc := 156) C dX11_init_156 rfl ?_
  obtain ⟨_, e1, hf⟩ := xbd hf
  obtain ⟨_, e2, hf⟩ := xbd hf
  refine ww_callIv (pc := 157) (as := []) (st := [.ref (gB G + t1), .ref (gB G + t0)]) C (k_X10_init (l := gl G) (E := gE G) (hb := gB G) (σ := σ) e2) xc_X11_82 rfl q376 rfl (by decide) (xst4 (Nat.le_of_ble_eq_true rfl)) xsame.rf.le xsame.rf.lim dX11_init_157 ?_
  obtain ⟨_, e3, hf⟩ := xbd hf
  obtain ⟨σ5, e4, hf⟩ := xbd hf
  refine pf_X11_83 (pc := 160) C hN (xnz_spec e3) e4 dX11_init_160 ?_
  refine ww_aload_n (pc := 163) C 0 dX11_init_163 rfl ?_
  refine ww_sipush (pc := 164) (v := (577 : Int32)) C dX11_init_164 (by decide) ?_
  obtain ⟨⟨z7, σ8⟩, e6, hf⟩ := xbd hf
  dsimp only at hf
  refine ww_newL (pc := 167) C q372 e6 (fun q => by have hm9 := m_X11_init_j169 hf; exact XLim.mid q (xnA_ext e6) hm9 hk.2) dX11_init_167 ?_
  refine ww_sub [0] rfl ?_
  exact s_X11_init_j169 C hN hf hk
theorem m_X11_init_j156 {σ : XS} {r0 : Nat} {t0 : Nat} {t1 : Nat} {x : XS} (hf : f_X11_init_j156 σ r0 t0 t1 = some x) : xext σ x := by
  have hm := xext.rf (σ := σ)
  obtain ⟨_, e1, hf⟩ := xbd hf
  obtain ⟨_, e2, hf⟩ := xbd hf
  obtain ⟨_, e3, hf⟩ := xbd hf
  obtain ⟨σ5, e4, hf⟩ := xbd hf
  have hm := hm.tr (xpR_same e4).ext
  obtain ⟨⟨z7, σ8⟩, e6, hf⟩ := xbd hf
  dsimp only at hf
  have hm := hm.tr (xnA_ext e6)
  exact hm.tr (m_X11_init_j169 hf)
theorem s_X11_init_j149 {G : XG} (C : XC G cX11_init RX11 none 2 3 61) (hN : (gh G).name = "<init>") {σ : XS} {r0 : Nat} {t0 : Nat} {t1 : Nat} {x : XS} (hf : f_X11_init_j149 σ r0 t0 t1 = some x) (hk : XEnd G none x ∧ XUp G x) : WW G 149 [(0, .ref (gB G + r0))] [.ref (gB G + t1), .ref (gB G + t0)] σ := by
  obtain ⟨_, e1, hf⟩ := xbd hf
  obtain ⟨σ3, e2, hf⟩ := xbd hf
  refine pf_X11_76 (pc := 149) C hN (xnz_spec e1) e2 dX11_init_149 ?_
  refine ww_aload_n (pc := 152) C 0 dX11_init_152 rfl ?_
  obtain ⟨⟨z5, σ6⟩, e4, hf⟩ := xbd hf
  dsimp only at hf
  refine ww_new (pc := 153) (c := 10) C rfl (by decide) inX10 tyX10 tyX10_ok dfX10 q373 q374 q13 e4 (fun q => by have hm9 := m_X11_init_j156 hf; exact XLim.mid q (xnO_ext e4) hm9 hk.2) dX11_init_153 ?_
  refine ww_sub [0] rfl ?_
  exact s_X11_init_j156 C hN hf hk
theorem m_X11_init_j149 {σ : XS} {r0 : Nat} {t0 : Nat} {t1 : Nat} {x : XS} (hf : f_X11_init_j149 σ r0 t0 t1 = some x) : xext σ x := by
  have hm := xext.rf (σ := σ)
  obtain ⟨_, e1, hf⟩ := xbd hf
  obtain ⟨σ3, e2, hf⟩ := xbd hf
  have hm := hm.tr (xpR_same e2).ext
  obtain ⟨⟨z5, σ6⟩, e4, hf⟩ := xbd hf
  dsimp only at hf
  have hm := hm.tr (xnO_ext e4)
  exact hm.tr (m_X11_init_j156 hf)
theorem s_X11_init_j145 {G : XG} (C : XC G cX11_init RX11 none 2 3 61) (hN : (gh G).name = "<init>") {σ : XS} {r0 : Nat} {t0 : Nat} {t1 : Nat} {x : XS} (hf : f_X11_init_j145 σ r0 t0 t1 = some x) (hk : XEnd G none x ∧ XUp G x) : WW G 145 [(0, .ref (gB G + r0))] [.ref (gB G + t1), .ref (gB G + t0)] σ := by
  refine ww_dup (pc := 145) C dX11_init_145 rfl ?_
  obtain ⟨_, e1, hf⟩ := xbd hf
  obtain ⟨σ3, e2, hf⟩ := xbd hf
  refine ww_callIv (pc := 146) (as := []) (st := [.ref (gB G + t1), .ref (gB G + t0)]) C (k_X9_init (l := gl G) (E := gE G) (hb := gB G) (σ := σ) e2) xc_X11_75 rfl q334 rfl (by decide) (xst4 (Nat.le_of_ble_eq_true rfl)) (m_X9_init e2).1 (fun q => by have hm9 := m_X11_init_j149 hf; exact XLim.mid q (m_X9_init e2) hm9 hk.2) dX11_init_146 ?_
  refine ww_sub [0] rfl ?_
  exact s_X11_init_j149 C hN hf hk
theorem m_X11_init_j145 {σ : XS} {r0 : Nat} {t0 : Nat} {t1 : Nat} {x : XS} (hf : f_X11_init_j145 σ r0 t0 t1 = some x) : xext σ x := by
  have hm := xext.rf (σ := σ)
  obtain ⟨_, e1, hf⟩ := xbd hf
  obtain ⟨σ3, e2, hf⟩ := xbd hf
  have hm := hm.tr (m_X9_init e2)
  exact hm.tr (m_X11_init_j149 hf)
theorem s_X11_init_j138 {G : XG} (C : XC G cX11_init RX11 none 2 3 61) (hN : (gh G).name = "<init>") {σ : XS} {r0 : Nat} {t0 : Nat} {t1 : Nat} {x : XS} (hf : f_X11_init_j138 σ r0 t0 t1 = some x) (hk : XEnd G none x ∧ XUp G x) : WW G 138 [(0, .ref (gB G + r0))] [.ref (gB G + t1), .ref (gB G + t0)] σ := by
  obtain ⟨_, e1, hf⟩ := xbd hf
  obtain ⟨σ3, e2, hf⟩ := xbd hf
  refine pf_X11_69 (pc := 138) C hN (xnz_spec e1) e2 dX11_init_138 ?_
  refine ww_aload_n (pc := 141) C 0 dX11_init_141 rfl ?_
  obtain ⟨⟨z5, σ6⟩, e4, hf⟩ := xbd hf
  dsimp only at hf
  refine ww_new (pc := 142) (c := 9) C rfl (by decide) inX9 tyX9 tyX9_ok dfX9 q331 q332 q12 e4 (fun q => by have hm9 := m_X11_init_j145 hf; exact XLim.mid q (xnO_ext e4) hm9 hk.2) dX11_init_142 ?_
  refine ww_sub [0] rfl ?_
  exact s_X11_init_j145 C hN hf hk
theorem m_X11_init_j138 {σ : XS} {r0 : Nat} {t0 : Nat} {t1 : Nat} {x : XS} (hf : f_X11_init_j138 σ r0 t0 t1 = some x) : xext σ x := by
  have hm := xext.rf (σ := σ)
  obtain ⟨_, e1, hf⟩ := xbd hf
  obtain ⟨σ3, e2, hf⟩ := xbd hf
  have hm := hm.tr (xpR_same e2).ext
  obtain ⟨⟨z5, σ6⟩, e4, hf⟩ := xbd hf
  dsimp only at hf
  have hm := hm.tr (xnO_ext e4)
  exact hm.tr (m_X11_init_j145 hf)
theorem s_X11_init_j134 {G : XG} (C : XC G cX11_init RX11 none 2 3 61) (hN : (gh G).name = "<init>") {σ : XS} {r0 : Nat} {t0 : Nat} {t1 : Nat} {x : XS} (hf : f_X11_init_j134 σ r0 t0 t1 = some x) (hk : XEnd G none x ∧ XUp G x) : WW G 134 [(0, .ref (gB G + r0))] [.ref (gB G + t1), .ref (gB G + t0)] σ := by
  refine ww_dup (pc := 134) C dX11_init_134 rfl ?_
  obtain ⟨_, e1, hf⟩ := xbd hf
  obtain ⟨σ3, e2, hf⟩ := xbd hf
  refine ww_callIv (pc := 135) (as := []) (st := [.ref (gB G + t1), .ref (gB G + t0)]) C (k_X0_init (l := gl G) (E := gE G) (hb := gB G) (σ := σ) e2) xc_X11_68 rfl q314 rfl (by decide) (xst4 (Nat.le_of_ble_eq_true rfl)) (m_X0_init e2).1 (fun q => by have hm9 := m_X11_init_j138 hf; exact XLim.mid q (m_X0_init e2) hm9 hk.2) dX11_init_135 ?_
  refine ww_sub [0] rfl ?_
  exact s_X11_init_j138 C hN hf hk
theorem m_X11_init_j134 {σ : XS} {r0 : Nat} {t0 : Nat} {t1 : Nat} {x : XS} (hf : f_X11_init_j134 σ r0 t0 t1 = some x) : xext σ x := by
  have hm := xext.rf (σ := σ)
  obtain ⟨_, e1, hf⟩ := xbd hf
  obtain ⟨σ3, e2, hf⟩ := xbd hf
  have hm := hm.tr (m_X0_init e2)
  exact hm.tr (m_X11_init_j138 hf)
theorem s_X11_init_j127 {G : XG} (C : XC G cX11_init RX11 none 2 3 61) (hN : (gh G).name = "<init>") {σ : XS} {r0 : Nat} {t0 : Nat} {t1 : Nat} {x : XS} (hf : f_X11_init_j127 σ r0 t0 t1 = some x) (hk : XEnd G none x ∧ XUp G x) : WW G 127 [(0, .ref (gB G + r0))] [.ref (gB G + t1), .ref (gB G + t0)] σ := by
  obtain ⟨_, e1, hf⟩ := xbd hf
  obtain ⟨σ3, e2, hf⟩ := xbd hf
  refine pf_X11_62 (pc := 127) C hN (xnz_spec e1) e2 dX11_init_127 ?_
  refine ww_aload_n (pc := 130) C 0 dX11_init_130 rfl ?_
  obtain ⟨⟨z5, σ6⟩, e4, hf⟩ := xbd hf
  dsimp only at hf
  refine ww_new (pc := 131) (c := 0) C rfl (by decide) inX0 tyX0 tyX0_ok dfX0 q311 q312 q11 e4 (fun q => by have hm9 := m_X11_init_j134 hf; exact XLim.mid q (xnO_ext e4) hm9 hk.2) dX11_init_131 ?_
  refine ww_sub [0] rfl ?_
  exact s_X11_init_j134 C hN hf hk
theorem m_X11_init_j127 {σ : XS} {r0 : Nat} {t0 : Nat} {t1 : Nat} {x : XS} (hf : f_X11_init_j127 σ r0 t0 t1 = some x) : xext σ x := by
  have hm := xext.rf (σ := σ)
  obtain ⟨_, e1, hf⟩ := xbd hf
  obtain ⟨σ3, e2, hf⟩ := xbd hf
  have hm := hm.tr (xpR_same e2).ext
  obtain ⟨⟨z5, σ6⟩, e4, hf⟩ := xbd hf
  dsimp only at hf
  have hm := hm.tr (xnO_ext e4)
  exact hm.tr (m_X11_init_j134 hf)
theorem s_X11_init_j123 {G : XG} (C : XC G cX11_init RX11 none 2 3 61) (hN : (gh G).name = "<init>") {σ : XS} {r0 : Nat} {t0 : Nat} {t1 : Nat} {x : XS} (hf : f_X11_init_j123 σ r0 t0 t1 = some x) (hk : XEnd G none x ∧ XUp G x) : WW G 123 [(0, .ref (gB G + r0))] [.ref (gB G + t1), .ref (gB G + t0)] σ := by
  refine ww_dup (pc := 123) C dX11_init_123 rfl ?_
  obtain ⟨_, e1, hf⟩ := xbd hf
  obtain ⟨σ3, e2, hf⟩ := xbd hf
  refine ww_callIv (pc := 124) (as := []) (st := [.ref (gB G + t1), .ref (gB G + t0)]) C (k_X4_init (l := gl G) (E := gE G) (hb := gB G) (σ := σ) e2) xc_X11_61 rfl q285 rfl (by decide) (xst4 (Nat.le_of_ble_eq_true rfl)) (m_X4_init e2).1 (fun q => by have hm9 := m_X11_init_j127 hf; exact XLim.mid q (m_X4_init e2) hm9 hk.2) dX11_init_124 ?_
  refine ww_sub [0] rfl ?_
  exact s_X11_init_j127 C hN hf hk
theorem m_X11_init_j123 {σ : XS} {r0 : Nat} {t0 : Nat} {t1 : Nat} {x : XS} (hf : f_X11_init_j123 σ r0 t0 t1 = some x) : xext σ x := by
  have hm := xext.rf (σ := σ)
  obtain ⟨_, e1, hf⟩ := xbd hf
  obtain ⟨σ3, e2, hf⟩ := xbd hf
  have hm := hm.tr (m_X4_init e2)
  exact hm.tr (m_X11_init_j127 hf)
theorem s_X11_init_j116 {G : XG} (C : XC G cX11_init RX11 none 2 3 61) (hN : (gh G).name = "<init>") {σ : XS} {r0 : Nat} {t0 : Nat} {t1 : Nat} {x : XS} (hf : f_X11_init_j116 σ r0 t0 t1 = some x) (hk : XEnd G none x ∧ XUp G x) : WW G 116 [(0, .ref (gB G + r0))] [.ref (gB G + t1), .ref (gB G + t0)] σ := by
  obtain ⟨_, e1, hf⟩ := xbd hf
  obtain ⟨σ3, e2, hf⟩ := xbd hf
  refine pf_X11_56 (pc := 116) C hN (xnz_spec e1) e2 dX11_init_116 ?_
  refine ww_aload_n (pc := 119) C 0 dX11_init_119 rfl ?_
  obtain ⟨⟨z5, σ6⟩, e4, hf⟩ := xbd hf
  dsimp only at hf
  refine ww_new (pc := 120) (c := 4) C rfl (by decide) inX4 tyX4 tyX4_ok dfX4 q282 q283 q10 e4 (fun q => by have hm9 := m_X11_init_j123 hf; exact XLim.mid q (xnO_ext e4) hm9 hk.2) dX11_init_120 ?_
  refine ww_sub [0] rfl ?_
  exact s_X11_init_j123 C hN hf hk
theorem m_X11_init_j116 {σ : XS} {r0 : Nat} {t0 : Nat} {t1 : Nat} {x : XS} (hf : f_X11_init_j116 σ r0 t0 t1 = some x) : xext σ x := by
  have hm := xext.rf (σ := σ)
  obtain ⟨_, e1, hf⟩ := xbd hf
  obtain ⟨σ3, e2, hf⟩ := xbd hf
  have hm := hm.tr (xpR_same e2).ext
  obtain ⟨⟨z5, σ6⟩, e4, hf⟩ := xbd hf
  dsimp only at hf
  have hm := hm.tr (xnO_ext e4)
  exact hm.tr (m_X11_init_j123 hf)
theorem s_X11_init_j112 {G : XG} (C : XC G cX11_init RX11 none 2 3 61) (hN : (gh G).name = "<init>") {σ : XS} {r0 : Nat} {t0 : Nat} {t1 : Nat} {x : XS} (hf : f_X11_init_j112 σ r0 t0 t1 = some x) (hk : XEnd G none x ∧ XUp G x) : WW G 112 [(0, .ref (gB G + r0))] [.ref (gB G + t1), .ref (gB G + t0)] σ := by
  refine ww_dup (pc := 112) C dX11_init_112 rfl ?_
  obtain ⟨_, e1, hf⟩ := xbd hf
  obtain ⟨σ3, e2, hf⟩ := xbd hf
  refine ww_callIv (pc := 113) (as := []) (st := [.ref (gB G + t1), .ref (gB G + t0)]) C (k_X2_init (l := gl G) (E := gE G) (hb := gB G) (σ := σ) e2) xc_X11_51 rfl q259 rfl (by decide) (xst4 (Nat.le_of_ble_eq_true rfl)) (m_X2_init e2).1 (fun q => by have hm9 := m_X11_init_j116 hf; exact XLim.mid q (m_X2_init e2) hm9 hk.2) dX11_init_113 ?_
  refine ww_sub [0] rfl ?_
  exact s_X11_init_j116 C hN hf hk
theorem m_X11_init_j112 {σ : XS} {r0 : Nat} {t0 : Nat} {t1 : Nat} {x : XS} (hf : f_X11_init_j112 σ r0 t0 t1 = some x) : xext σ x := by
  have hm := xext.rf (σ := σ)
  obtain ⟨_, e1, hf⟩ := xbd hf
  obtain ⟨σ3, e2, hf⟩ := xbd hf
  have hm := hm.tr (m_X2_init e2)
  exact hm.tr (m_X11_init_j116 hf)
theorem s_X11_init_j105 {G : XG} (C : XC G cX11_init RX11 none 2 3 61) (hN : (gh G).name = "<init>") {σ : XS} {r0 : Nat} {t0 : Nat} {t1 : Nat} {x : XS} (hf : f_X11_init_j105 σ r0 t0 t1 = some x) (hk : XEnd G none x ∧ XUp G x) : WW G 105 [(0, .ref (gB G + r0))] [.ref (gB G + t1), .ref (gB G + t0)] σ := by
  obtain ⟨_, e1, hf⟩ := xbd hf
  obtain ⟨σ3, e2, hf⟩ := xbd hf
  refine pf_X11_52 (pc := 105) C hN (xnz_spec e1) e2 dX11_init_105 ?_
  refine ww_aload_n (pc := 108) C 0 dX11_init_108 rfl ?_
  obtain ⟨⟨z5, σ6⟩, e4, hf⟩ := xbd hf
  dsimp only at hf
  refine ww_new (pc := 109) (c := 2) C rfl (by decide) inX2 tyX2 tyX2_ok dfX2 q256 q257 q9 e4 (fun q => by have hm9 := m_X11_init_j112 hf; exact XLim.mid q (xnO_ext e4) hm9 hk.2) dX11_init_109 ?_
  refine ww_sub [0] rfl ?_
  exact s_X11_init_j112 C hN hf hk
theorem m_X11_init_j105 {σ : XS} {r0 : Nat} {t0 : Nat} {t1 : Nat} {x : XS} (hf : f_X11_init_j105 σ r0 t0 t1 = some x) : xext σ x := by
  have hm := xext.rf (σ := σ)
  obtain ⟨_, e1, hf⟩ := xbd hf
  obtain ⟨σ3, e2, hf⟩ := xbd hf
  have hm := hm.tr (xpR_same e2).ext
  obtain ⟨⟨z5, σ6⟩, e4, hf⟩ := xbd hf
  dsimp only at hf
  have hm := hm.tr (xnO_ext e4)
  exact hm.tr (m_X11_init_j112 hf)
theorem s_X11_init_j101 {G : XG} (C : XC G cX11_init RX11 none 2 3 61) (hN : (gh G).name = "<init>") {σ : XS} {r0 : Nat} {t0 : Nat} {t1 : Nat} {x : XS} (hf : f_X11_init_j101 σ r0 t0 t1 = some x) (hk : XEnd G none x ∧ XUp G x) : WW G 101 [(0, .ref (gB G + r0))] [.ref (gB G + t1), .ref (gB G + t0)] σ := by
  refine ww_dup (pc := 101) C dX11_init_101 rfl ?_
  obtain ⟨_, e1, hf⟩ := xbd hf
  obtain ⟨σ3, e2, hf⟩ := xbd hf
  refine ww_callIv (pc := 102) (as := []) (st := [.ref (gB G + t1), .ref (gB G + t0)]) C (k_X2_init (l := gl G) (E := gE G) (hb := gB G) (σ := σ) e2) xc_X11_51 rfl q259 rfl (by decide) (xst4 (Nat.le_of_ble_eq_true rfl)) (m_X2_init e2).1 (fun q => by have hm9 := m_X11_init_j105 hf; exact XLim.mid q (m_X2_init e2) hm9 hk.2) dX11_init_102 ?_
  refine ww_sub [0] rfl ?_
  exact s_X11_init_j105 C hN hf hk
theorem m_X11_init_j101 {σ : XS} {r0 : Nat} {t0 : Nat} {t1 : Nat} {x : XS} (hf : f_X11_init_j101 σ r0 t0 t1 = some x) : xext σ x := by
  have hm := xext.rf (σ := σ)
  obtain ⟨_, e1, hf⟩ := xbd hf
  obtain ⟨σ3, e2, hf⟩ := xbd hf
  have hm := hm.tr (m_X2_init e2)
  exact hm.tr (m_X11_init_j105 hf)
theorem s_X11_init_j90 {G : XG} (C : XC G cX11_init RX11 none 2 3 61) (hN : (gh G).name = "<init>") {σ : XS} {r0 : Nat} {x1 : Int32} {t0 : Nat} {t1 : Int32} {t2 : Nat} {x : ((Int32 × XS) ⊕ (XS))} (hf : f_X11_init_j90 σ r0 x1 t0 t1 t2 = some x) (hk : (∀ a' : Int32 × XS, x = .inl a' → XUp G a'.2 ∧ WW G 69 [(0, .ref (gB G + r0)), (1, .int a'.1)] [] a'.2) ∧ (∀ b1 : XS, x = .inr b1 → XEnd G none b1 ∧ XUp G b1)) : WW G 90 [(0, .ref (gB G + r0)), (1, .int x1)] [.ref (gB G + t2), .int t1, .ref (gB G + t0)] σ := by
  obtain ⟨σ2, e1, hf⟩ := xbd hf
  refine ww_aast25 (pc := 90) C e1 dX11_init_90 ?_
  refine ww_iinc (pc := 91) (v := x1 + (1 : Int32)) (lv' := [(1, .int (x1 + (1 : Int32))), (0, .ref (gB G + r0))]) C 1 dX11_init_91 rfl (congrArg (fun z => x1 + z) (show Int32.ofInt (1) = (1 : Int32) by decide)) (by decide) rfl ?_
  refine ww_goto (pc := 94) (tgt := 69) C dX11_init_94 (by decide) ?_
  have hf := xsj hf
  subst hf
  refine ww_sub [1, 0] rfl ?_
  exact (hk.1 (x1 + (1 : Int32), σ2) rfl).2
theorem m_X11_init_j90 {σ : XS} {r0 : Nat} {x1 : Int32} {t0 : Nat} {t1 : Int32} {t2 : Nat} {x : ((Int32 × XS) ⊕ (XS))} (hf : f_X11_init_j90 σ r0 x1 t0 t1 t2 = some x) : (∀ a' : Int32 × XS, x = .inl a' → xext σ a'.2) ∧ (∀ b1 : XS, x = .inr b1 → xext σ b1) := by
  have hm := xext.rf (σ := σ)
  obtain ⟨σ2, e1, hf⟩ := xbd hf
  have hm := hm.tr (xsR_same e1).ext
  have hf := xsj hf
  subst hf
  exact ⟨fun a' e => (by have h9 := Sum.inl.inj e; subst h9; exact hm), fun b e => xnc1 e⟩
theorem s_X11_init_j86 {G : XG} (C : XC G cX11_init RX11 none 2 3 61) (hN : (gh G).name = "<init>") {σ : XS} {r0 : Nat} {x1 : Int32} {t0 : Nat} {t1 : Int32} {t2 : Nat} {x : ((Int32 × XS) ⊕ (XS))} (hf : f_X11_init_j86 σ r0 x1 t0 t1 t2 = some x) (hk : (∀ a' : Int32 × XS, x = .inl a' → XUp G a'.2 ∧ WW G 69 [(0, .ref (gB G + r0)), (1, .int a'.1)] [] a'.2) ∧ (∀ b1 : XS, x = .inr b1 → XEnd G none b1 ∧ XUp G b1)) : WW G 86 [(0, .ref (gB G + r0)), (1, .int x1)] [.ref (gB G + t2), .int t1, .ref (gB G + t0)] σ := by
  refine ww_dup (pc := 86) C dX11_init_86 rfl ?_
  obtain ⟨_, e1, hf⟩ := xbd hf
  obtain ⟨σ3, e2, hf⟩ := xbd hf
  refine ww_callIv (pc := 87) (as := []) (st := [.ref (gB G + t2), .int t1, .ref (gB G + t0)]) C (k_X7_init (l := gl G) (E := gE G) (hb := gB G) (σ := σ) e2) xc_X11_48 rfl q236 rfl (by decide) (xst4 (Nat.le_of_ble_eq_true rfl)) (m_X7_init e2).1 (fun q => by have hm9 := m_X11_init_j90 hf; rcases x with a' | b90; exact XLim.mid q (m_X7_init e2) (hm9.1 a' rfl) (hk.1 a' rfl).1; have hm9 := hm9.2 _ rfl; have hk := hk.2 _ rfl; exact XLim.mid q (m_X7_init e2) hm9 hk.2) dX11_init_87 ?_
  refine ww_sub [0, 1] rfl ?_
  exact s_X11_init_j90 C hN hf hk
theorem m_X11_init_j86 {σ : XS} {r0 : Nat} {x1 : Int32} {t0 : Nat} {t1 : Int32} {t2 : Nat} {x : ((Int32 × XS) ⊕ (XS))} (hf : f_X11_init_j86 σ r0 x1 t0 t1 t2 = some x) : (∀ a' : Int32 × XS, x = .inl a' → xext σ a'.2) ∧ (∀ b1 : XS, x = .inr b1 → xext σ b1) := by
  have hm := xext.rf (σ := σ)
  obtain ⟨_, e1, hf⟩ := xbd hf
  obtain ⟨σ3, e2, hf⟩ := xbd hf
  have hm := hm.tr (m_X7_init e2)
  exact ⟨fun a' e => hm.tr ((m_X11_init_j90 hf).1 a' e), fun b1 eb1 => hm.tr ((m_X11_init_j90 hf).2 b1 eb1)⟩
theorem m_X11_init_l69 {r0 : Nat} {a : Int32 × XS} {x : XS} (hf : xloop (f_X11_init_b69 r0) a = some x) : xext a.2 x := by
  refine xloop_ind (P := fun a => xext a.2 x) (fun a y hf hc he => ?_) hf
  obtain ⟨x1, σ⟩ := a
  have hy : (∀ a' : Int32 × XS, y = .inl a' → xext σ a'.2) ∧ (∀ b1 : XS, y = .inr b1 → xext σ b1) := by
    have hm := xext.rf (σ := σ)
    obtain ⟨z2, e1, hf⟩ := xbd hf
    obtain ⟨v4, e3, hf⟩ := xbd hf
    by_cases q : v4 ≤ x1
    · have hf := xip q hf
      obtain ⟨b0, hg, e9⟩ := xmj hf
      subst e9
      have hf := hg
      refine ⟨fun a' e => xnc2 e, fun b e => ?_⟩
      have h9 := Sum.inr.inj e
      subst h9
      obtain ⟨⟨z6, σ7⟩, e5, hf⟩ := xbd hf
      dsimp only at hf
      have hm := hm.tr (xnO_ext e5)
      exact hm.tr (m_X11_init_j101 hf)
    · have hf := xin q hf
      obtain ⟨z6, e5, hf⟩ := xbd hf
      obtain ⟨⟨z8, σ9⟩, e7, hf⟩ := xbd hf
      dsimp only at hf
      have hm := hm.tr (xnO_ext e7)
      exact ⟨fun a' e => hm.tr ((m_X11_init_j86 hf).1 a' e), fun b1 eb1 => hm.tr ((m_X11_init_j86 hf).2 b1 eb1)⟩
  cases y with
  | inl a' =>
    have h1 := hc a' rfl
    have hm := hy.1 a' rfl
    exact hm.tr (h1)
  | inr b =>
    have h1 := he b rfl
    subst h1
    exact hy.2 _ rfl
theorem s_X11_init_l69 {G : XG} (C : XC G cX11_init RX11 none 2 3 61) (hN : (gh G).name = "<init>") {r0 : Nat} {a : Int32 × XS} {x : XS} (hf : xloop (f_X11_init_b69 r0) a = some x) (hk : XEnd G none x ∧ XUp G x) : WW G 69 [(0, .ref (gB G + r0)), (1, .int a.1)] [] a.2 := by
  refine xloop_ind2 (P := fun a => WW G 69 [(0, .ref (gB G + r0)), (1, .int a.1)] [] a.2) (fun a y hf hc he => ?_) hf
  obtain ⟨x1, σ⟩ := a
  have hk : (∀ a' : Int32 × XS, y = .inl a' → XUp G a'.2 ∧ WW G 69 [(0, .ref (gB G + r0)), (1, .int a'.1)] [] a'.2) ∧ (∀ b1 : XS, y = .inr b1 → XEnd G none b1 ∧ XUp G b1) := ⟨fun a' e => ⟨XUp.fin (m_X11_init_l69 (hc a' e).1) hk.2, (hc a' e).2⟩, fun b e => by have h9 := he b e; subst h9; exact hk⟩
  refine ww_iload_n (pc := 69) C 1 dX11_init_69 rfl ?_
  refine ww_aload_n (pc := 70) C 0 dX11_init_70 rfl ?_
  obtain ⟨z2, e1, hf⟩ := xbd hf
  refine gf_X11_44 (pc := 71) C e1 dX11_init_71 ?_
  obtain ⟨v4, e3, hf⟩ := xbd hf
  refine ww_alen (pc := 74) C e3 dX11_init_74 ?_
  refine ww_icmp_ge (pc := 75) (tgt := 97) C dX11_init_75 (by decide) (fun q => ?_) (fun q => ?_)
  · have hf := xip q hf
    obtain ⟨b0, hg, e9⟩ := xmj hf
    subst e9
    have hf := hg
    have hk := hk.2 _ rfl
    refine ww_aload_n (pc := 97) C 0 dX11_init_97 rfl ?_
    obtain ⟨⟨z6, σ7⟩, e5, hf⟩ := xbd hf
    dsimp only at hf
    refine ww_new (pc := 98) (c := 2) C rfl (by decide) inX2 tyX2 tyX2_ok dfX2 q256 q257 q9 e5 (fun q => by have hm9 := m_X11_init_j101 hf; exact XLim.mid q (xnO_ext e5) hm9 hk.2) dX11_init_98 ?_
    refine ww_sub [0] rfl ?_
    exact s_X11_init_j101 C hN hf hk
  · have hf := xin q hf
    refine ww_aload_n (pc := 78) C 0 dX11_init_78 rfl ?_
    obtain ⟨z6, e5, hf⟩ := xbd hf
    refine gf_X11_44 (pc := 79) C e5 dX11_init_79 ?_
    refine ww_iload_n (pc := 82) C 1 dX11_init_82 rfl ?_
    obtain ⟨⟨z8, σ9⟩, e7, hf⟩ := xbd hf
    dsimp only at hf
    refine ww_new (pc := 83) (c := 7) C rfl (by decide) inX7 tyX7 tyX7_ok dfX7 q232 q234 q8 e7 (fun q => by have hm9 := m_X11_init_j86 hf; rcases y with a' | b90; exact XLim.mid q (xnO_ext e7) (hm9.1 a' rfl) (hk.1 a' rfl).1; have hm9 := hm9.2 _ rfl; have hk := hk.2 _ rfl; exact XLim.mid q (xnO_ext e7) hm9 hk.2) dX11_init_83 ?_
    refine ww_sub [0, 1] rfl ?_
    exact s_X11_init_j86 C hN hf hk
theorem s_X11_init_j64 {G : XG} (C : XC G cX11_init RX11 none 2 3 61) (hN : (gh G).name = "<init>") {σ : XS} {r0 : Nat} {t0 : Nat} {t1 : Nat} {x : XS} (hf : f_X11_init_j64 σ r0 t0 t1 = some x) (hk : XEnd G none x ∧ XUp G x) : WW G 64 [(0, .ref (gB G + r0))] [.ref (gB G + t1), .ref (gB G + t0)] σ := by
  obtain ⟨_, e1, hf⟩ := xbd hf
  obtain ⟨σ3, e2, hf⟩ := xbd hf
  refine pf_X11_44 (pc := 64) C hN (xnz_spec e1) e2 dX11_init_64 ?_
  refine ww_iconst (pc := 67) (v := (0 : Int32)) C dX11_init_67 (by decide) ?_
  refine ww_istore_n (pc := 68) (lv' := [(1, .int (0 : Int32)), (0, .ref (gB G + r0))]) C dX11_init_68 (by decide) rfl ?_
  refine ww_sub [1, 0] rfl ?_
  exact s_X11_init_l69 C hN (a := ((0 : Int32), σ3)) hf hk
theorem m_X11_init_j64 {σ : XS} {r0 : Nat} {t0 : Nat} {t1 : Nat} {x : XS} (hf : f_X11_init_j64 σ r0 t0 t1 = some x) : xext σ x := by
  have hm := xext.rf (σ := σ)
  obtain ⟨_, e1, hf⟩ := xbd hf
  obtain ⟨σ3, e2, hf⟩ := xbd hf
  have hm := hm.tr (xpR_same e2).ext
  exact hm.tr (m_X11_init_l69 (a := ((0 : Int32), σ3)) hf)
theorem s_X11_init_j56 {G : XG} (C : XC G cX11_init RX11 none 2 3 61) (hN : (gh G).name = "<init>") {σ : XS} {r0 : Nat} {t0 : Nat} {t1 : Nat} {x : XS} (hf : f_X11_init_j56 σ r0 t0 t1 = some x) (hk : XEnd G none x ∧ XUp G x) : WW G 56 [(0, .ref (gB G + r0))] [.ref (gB G + t1), .ref (gB G + t0)] σ := by
  obtain ⟨_, e1, hf⟩ := xbd hf
  obtain ⟨σ3, e2, hf⟩ := xbd hf
  refine pf_X11_38 (pc := 56) C hN (xnz_spec e1) e2 dX11_init_56 ?_
  refine ww_aload_n (pc := 59) C 0 dX11_init_59 rfl ?_
  refine ww_iconst (pc := 60) (v := (3 : Int32)) C dX11_init_60 (by decide) ?_
  obtain ⟨⟨z5, σ6⟩, e4, hf⟩ := xbd hf
  dsimp only at hf
  refine ww_anew25 (pc := 61) C q232 e4 (fun q => by have hm9 := m_X11_init_j64 hf; exact XLim.mid q (xnA_ext e4) hm9 hk.2) dX11_init_61 ?_
  refine ww_sub [0] rfl ?_
  exact s_X11_init_j64 C hN hf hk
theorem m_X11_init_j56 {σ : XS} {r0 : Nat} {t0 : Nat} {t1 : Nat} {x : XS} (hf : f_X11_init_j56 σ r0 t0 t1 = some x) : xext σ x := by
  have hm := xext.rf (σ := σ)
  obtain ⟨_, e1, hf⟩ := xbd hf
  obtain ⟨σ3, e2, hf⟩ := xbd hf
  have hm := hm.tr (xpR_same e2).ext
  obtain ⟨⟨z5, σ6⟩, e4, hf⟩ := xbd hf
  dsimp only at hf
  have hm := hm.tr (xnA_ext e4)
  exact hm.tr (m_X11_init_j64 hf)
theorem s_X11_init_j52 {G : XG} (C : XC G cX11_init RX11 none 2 3 61) (hN : (gh G).name = "<init>") {σ : XS} {r0 : Nat} {t0 : Nat} {t1 : Nat} {x : XS} (hf : f_X11_init_j52 σ r0 t0 t1 = some x) (hk : XEnd G none x ∧ XUp G x) : WW G 52 [(0, .ref (gB G + r0))] [.ref (gB G + t1), .ref (gB G + t0)] σ := by
  refine ww_dup (pc := 52) C dX11_init_52 rfl ?_
  obtain ⟨_, e1, hf⟩ := xbd hf
  obtain ⟨σ3, e2, hf⟩ := xbd hf
  refine ww_callIv (pc := 53) (as := []) (st := [.ref (gB G + t1), .ref (gB G + t0)]) C (k_X5_init (l := gl G) (E := gE G) (hb := gB G) (σ := σ) e2) xc_X11_37 rfl q215 rfl (by decide) (xst4 (Nat.le_of_ble_eq_true rfl)) (m_X5_init e2).1 (fun q => by have hm9 := m_X11_init_j56 hf; exact XLim.mid q (m_X5_init e2) hm9 hk.2) dX11_init_53 ?_
  refine ww_sub [0] rfl ?_
  exact s_X11_init_j56 C hN hf hk
theorem m_X11_init_j52 {σ : XS} {r0 : Nat} {t0 : Nat} {t1 : Nat} {x : XS} (hf : f_X11_init_j52 σ r0 t0 t1 = some x) : xext σ x := by
  have hm := xext.rf (σ := σ)
  obtain ⟨_, e1, hf⟩ := xbd hf
  obtain ⟨σ3, e2, hf⟩ := xbd hf
  have hm := hm.tr (m_X5_init e2)
  exact hm.tr (m_X11_init_j56 hf)
theorem s_X11_init_j45 {G : XG} (C : XC G cX11_init RX11 none 2 3 61) (hN : (gh G).name = "<init>") {σ : XS} {r0 : Nat} {t0 : Nat} {t1 : Nat} {x : XS} (hf : f_X11_init_j45 σ r0 t0 t1 = some x) (hk : XEnd G none x ∧ XUp G x) : WW G 45 [(0, .ref (gB G + r0))] [.ref (gB G + t1), .ref (gB G + t0)] σ := by
  obtain ⟨_, e1, hf⟩ := xbd hf
  obtain ⟨σ3, e2, hf⟩ := xbd hf
  refine pf_X11_31 (pc := 45) C hN (xnz_spec e1) e2 dX11_init_45 ?_
  refine ww_aload_n (pc := 48) C 0 dX11_init_48 rfl ?_
  obtain ⟨⟨z5, σ6⟩, e4, hf⟩ := xbd hf
  dsimp only at hf
  refine ww_new (pc := 49) (c := 5) C rfl (by decide) inX5 tyX5 tyX5_ok dfX5 q212 q213 q7 e4 (fun q => by have hm9 := m_X11_init_j52 hf; exact XLim.mid q (xnO_ext e4) hm9 hk.2) dX11_init_49 ?_
  refine ww_sub [0] rfl ?_
  exact s_X11_init_j52 C hN hf hk
theorem m_X11_init_j45 {σ : XS} {r0 : Nat} {t0 : Nat} {t1 : Nat} {x : XS} (hf : f_X11_init_j45 σ r0 t0 t1 = some x) : xext σ x := by
  have hm := xext.rf (σ := σ)
  obtain ⟨_, e1, hf⟩ := xbd hf
  obtain ⟨σ3, e2, hf⟩ := xbd hf
  have hm := hm.tr (xpR_same e2).ext
  obtain ⟨⟨z5, σ6⟩, e4, hf⟩ := xbd hf
  dsimp only at hf
  have hm := hm.tr (xnO_ext e4)
  exact hm.tr (m_X11_init_j52 hf)
theorem s_X11_init_j41 {G : XG} (C : XC G cX11_init RX11 none 2 3 61) (hN : (gh G).name = "<init>") {σ : XS} {r0 : Nat} {t0 : Nat} {t1 : Nat} {x : XS} (hf : f_X11_init_j41 σ r0 t0 t1 = some x) (hk : XEnd G none x ∧ XUp G x) : WW G 41 [(0, .ref (gB G + r0))] [.ref (gB G + t1), .ref (gB G + t0)] σ := by
  refine ww_dup (pc := 41) C dX11_init_41 rfl ?_
  obtain ⟨_, e1, hf⟩ := xbd hf
  obtain ⟨σ3, e2, hf⟩ := xbd hf
  refine ww_callIv (pc := 42) (as := []) (st := [.ref (gB G + t1), .ref (gB G + t0)]) C (k_X6_init (l := gl G) (E := gE G) (hb := gB G) (σ := σ) e2) xc_X11_30 rfl q81 rfl (by decide) (xst4 (Nat.le_of_ble_eq_true rfl)) (m_X6_init e2).1 (fun q => by have hm9 := m_X11_init_j45 hf; exact XLim.mid q (m_X6_init e2) hm9 hk.2) dX11_init_42 ?_
  refine ww_sub [0] rfl ?_
  exact s_X11_init_j45 C hN hf hk
theorem m_X11_init_j41 {σ : XS} {r0 : Nat} {t0 : Nat} {t1 : Nat} {x : XS} (hf : f_X11_init_j41 σ r0 t0 t1 = some x) : xext σ x := by
  have hm := xext.rf (σ := σ)
  obtain ⟨_, e1, hf⟩ := xbd hf
  obtain ⟨σ3, e2, hf⟩ := xbd hf
  have hm := hm.tr (m_X6_init e2)
  exact hm.tr (m_X11_init_j45 hf)
theorem s_X11_init_j34 {G : XG} (C : XC G cX11_init RX11 none 2 3 61) (hN : (gh G).name = "<init>") {σ : XS} {r0 : Nat} {t0 : Nat} {t1 : Nat} {x : XS} (hf : f_X11_init_j34 σ r0 t0 t1 = some x) (hk : XEnd G none x ∧ XUp G x) : WW G 34 [(0, .ref (gB G + r0))] [.ref (gB G + t1), .ref (gB G + t0)] σ := by
  obtain ⟨_, e1, hf⟩ := xbd hf
  obtain ⟨σ3, e2, hf⟩ := xbd hf
  refine pf_X11_24 (pc := 34) C hN (xnz_spec e1) e2 dX11_init_34 ?_
  refine ww_aload_n (pc := 37) C 0 dX11_init_37 rfl ?_
  obtain ⟨⟨z5, σ6⟩, e4, hf⟩ := xbd hf
  dsimp only at hf
  refine ww_new (pc := 38) (c := 6) C rfl (by decide) inX6 tyX6 tyX6_ok dfX6 q210 q79 q4 e4 (fun q => by have hm9 := m_X11_init_j41 hf; exact XLim.mid q (xnO_ext e4) hm9 hk.2) dX11_init_38 ?_
  refine ww_sub [0] rfl ?_
  exact s_X11_init_j41 C hN hf hk
theorem m_X11_init_j34 {σ : XS} {r0 : Nat} {t0 : Nat} {t1 : Nat} {x : XS} (hf : f_X11_init_j34 σ r0 t0 t1 = some x) : xext σ x := by
  have hm := xext.rf (σ := σ)
  obtain ⟨_, e1, hf⟩ := xbd hf
  obtain ⟨σ3, e2, hf⟩ := xbd hf
  have hm := hm.tr (xpR_same e2).ext
  obtain ⟨⟨z5, σ6⟩, e4, hf⟩ := xbd hf
  dsimp only at hf
  have hm := hm.tr (xnO_ext e4)
  exact hm.tr (m_X11_init_j41 hf)
theorem s_X11_init_j30 {G : XG} (C : XC G cX11_init RX11 none 2 3 61) (hN : (gh G).name = "<init>") {σ : XS} {r0 : Nat} {t0 : Nat} {t1 : Nat} {x : XS} (hf : f_X11_init_j30 σ r0 t0 t1 = some x) (hk : XEnd G none x ∧ XUp G x) : WW G 30 [(0, .ref (gB G + r0))] [.ref (gB G + t1), .ref (gB G + t0)] σ := by
  refine ww_dup (pc := 30) C dX11_init_30 rfl ?_
  obtain ⟨_, e1, hf⟩ := xbd hf
  obtain ⟨σ3, e2, hf⟩ := xbd hf
  refine ww_callIv (pc := 31) (as := []) (st := [.ref (gB G + t1), .ref (gB G + t0)]) C (k_X3_init (l := gl G) (E := gE G) (hb := gB G) (σ := σ) e2) xc_X11_23 rfl q170 rfl (by decide) (xst4 (Nat.le_of_ble_eq_true rfl)) (m_X3_init e2).1 (fun q => by have hm9 := m_X11_init_j34 hf; exact XLim.mid q (m_X3_init e2) hm9 hk.2) dX11_init_31 ?_
  refine ww_sub [0] rfl ?_
  exact s_X11_init_j34 C hN hf hk
theorem m_X11_init_j30 {σ : XS} {r0 : Nat} {t0 : Nat} {t1 : Nat} {x : XS} (hf : f_X11_init_j30 σ r0 t0 t1 = some x) : xext σ x := by
  have hm := xext.rf (σ := σ)
  obtain ⟨_, e1, hf⟩ := xbd hf
  obtain ⟨σ3, e2, hf⟩ := xbd hf
  have hm := hm.tr (m_X3_init e2)
  exact hm.tr (m_X11_init_j34 hf)
theorem s_X11_init_j12 {G : XG} (C : XC G cX11_init RX11 none 2 3 61) (hN : (gh G).name = "<init>") {σ : XS} {r0 : Nat} {t0 : Nat} {t1 : Nat} {x : XS} (hf : f_X11_init_j12 σ r0 t0 t1 = some x) (hk : XEnd G none x ∧ XUp G x) : WW G 12 [(0, .ref (gB G + r0))] [.ref (gB G + t1), .ref (gB G + t0)] σ := by
  obtain ⟨_, e1, hf⟩ := xbd hf
  obtain ⟨σ3, e2, hf⟩ := xbd hf
  refine pf_X11_12 (pc := 12) C hN (xnz_spec e1) e2 dX11_init_12 ?_
  refine ww_aload_n (pc := 15) C 0 dX11_init_15 rfl ?_
  refine ww_aload_n (pc := 16) C 0 dX11_init_16 rfl ?_
  obtain ⟨z5, e4, hf⟩ := xbd hf
  refine gf_X11_12 (pc := 17) C e4 dX11_init_17 ?_
  obtain ⟨z7, e6, hf⟩ := xbd hf
  refine gf_X11_16 (pc := 20) C e6 dX11_init_20 ?_
  obtain ⟨_, e8, hf⟩ := xbd hf
  obtain ⟨σ10, e9, hf⟩ := xbd hf
  refine pf_X11_20 (pc := 23) C hN (xnz_spec e8) e9 dX11_init_23 ?_
  refine ww_aload_n (pc := 26) C 0 dX11_init_26 rfl ?_
  obtain ⟨⟨z12, σ13⟩, e11, hf⟩ := xbd hf
  dsimp only at hf
  refine ww_new (pc := 27) (c := 3) C rfl (by decide) inX3 tyX3 tyX3_ok dfX3 q167 q168 q5 e11 (fun q => by have hm9 := m_X11_init_j30 hf; exact XLim.mid q (xnO_ext e11) hm9 hk.2) dX11_init_27 ?_
  refine ww_sub [0] rfl ?_
  exact s_X11_init_j30 C hN hf hk
theorem m_X11_init_j12 {σ : XS} {r0 : Nat} {t0 : Nat} {t1 : Nat} {x : XS} (hf : f_X11_init_j12 σ r0 t0 t1 = some x) : xext σ x := by
  have hm := xext.rf (σ := σ)
  obtain ⟨_, e1, hf⟩ := xbd hf
  obtain ⟨σ3, e2, hf⟩ := xbd hf
  have hm := hm.tr (xpR_same e2).ext
  obtain ⟨z5, e4, hf⟩ := xbd hf
  obtain ⟨z7, e6, hf⟩ := xbd hf
  obtain ⟨_, e8, hf⟩ := xbd hf
  obtain ⟨σ10, e9, hf⟩ := xbd hf
  have hm := hm.tr (xpR_same e9).ext
  obtain ⟨⟨z12, σ13⟩, e11, hf⟩ := xbd hf
  dsimp only at hf
  have hm := hm.tr (xnO_ext e11)
  exact hm.tr (m_X11_init_j30 hf)
theorem s_X11_init_j8 {G : XG} (C : XC G cX11_init RX11 none 2 3 61) (hN : (gh G).name = "<init>") {σ : XS} {r0 : Nat} {t0 : Nat} {t1 : Nat} {x : XS} (hf : f_X11_init_j8 σ r0 t0 t1 = some x) (hk : XEnd G none x ∧ XUp G x) : WW G 8 [(0, .ref (gB G + r0))] [.ref (gB G + t1), .ref (gB G + t0)] σ := by
  refine ww_dup (pc := 8) C dX11_init_8 rfl ?_
  obtain ⟨_, e1, hf⟩ := xbd hf
  obtain ⟨σ3, e2, hf⟩ := xbd hf
  refine ww_callIv (pc := 9) (as := []) (st := [.ref (gB G + t1), .ref (gB G + t0)]) C (k_X1_init (l := gl G) (E := gE G) (hb := gB G) (σ := σ) e2) xc_X11_11 rfl q33 rfl (by decide) (xst4 (Nat.le_of_ble_eq_true rfl)) (m_X1_init e2).1 (fun q => by have hm9 := m_X11_init_j12 hf; exact XLim.mid q (m_X1_init e2) hm9 hk.2) dX11_init_9 ?_
  refine ww_sub [0] rfl ?_
  exact s_X11_init_j12 C hN hf hk
theorem m_X11_init_j8 {σ : XS} {r0 : Nat} {t0 : Nat} {t1 : Nat} {x : XS} (hf : f_X11_init_j8 σ r0 t0 t1 = some x) : xext σ x := by
  have hm := xext.rf (σ := σ)
  obtain ⟨_, e1, hf⟩ := xbd hf
  obtain ⟨σ3, e2, hf⟩ := xbd hf
  have hm := hm.tr (m_X1_init e2)
  exact hm.tr (m_X11_init_j12 hf)
theorem s_X11_init_e {G : XG} (C : XC G cX11_init RX11 none 2 3 61) (hN : (gh G).name = "<init>") {σ : XS} {r0 : Nat} {x : XS} (hf : f_X11_init σ r0 = some x) (hk : XEnd G none x ∧ XUp G x) : WW G 0 [(0, .ref (gB G + r0))] [] σ := by
  refine ww_aload_n (pc := 0) C 0 dX11_init_0 rfl ?_
  refine ww_objInit (pc := 1) C qo_X11_3 qoi qoc ⟨by decide, by decide⟩ dX11_init_1 ?_
  refine ww_aload_n (pc := 4) C 0 dX11_init_4 rfl ?_
  obtain ⟨⟨z2, σ3⟩, e1, hf⟩ := xbd hf
  dsimp only at hf
  refine ww_new (pc := 5) (c := 1) C rfl (by decide) inX1 tyX1 tyX1_ok dfX1 q30 q31 q2 e1 (fun q => by have hm9 := m_X11_init_j8 hf; exact XLim.mid q (xnO_ext e1) hm9 hk.2) dX11_init_5 ?_
  refine ww_sub [0] rfl ?_
  exact s_X11_init_j8 C hN hf hk
theorem m_X11_init {σ : XS} {r0 : Nat} {x : XS} (hf : f_X11_init σ r0 = some x) : xext σ x := by
  have hm := xext.rf (σ := σ)
  obtain ⟨⟨z2, σ3⟩, e1, hf⟩ := xbd hf
  dsimp only at hf
  have hm := hm.tr (xnO_ext e1)
  exact hm.tr (m_X11_init_j8 hf)
theorem k_X11_init {l : Launch} {E : XD} {hb : Nat} {σ : XS} {r0 : Nat} {x : XS} (h : f_X11_init σ r0 = some x) : XM l yX11_init cX11_init 2 none 3 61 E hb [.ref (hb + r0)] σ none x := by
  refine xm_of (by decide) (Nat.le_of_ble_eq_true rfl) (m_X11_init h).1 (fun G hG C hl hQ => ?_)
  obtain ⟨rfl, rfl, rfl, hN⟩ := hG
  exact s_X11_init_e C hN h ⟨hQ, hl.2⟩
noncomputable def f_X11_isJ (x0 : Int32) : Option Int32 := if x0 < (-3 : Int32) then (some (0 : Int32)) else if (3 : Int32) < x0 then (some (0 : Int32)) else some (1 : Int32)
theorem s_X11_isJ_e {G : XG} (C : XC G cX11_isJ RX11 (some .boolean) 1 0 0) {σ : XS} {x0 : Int32} {x : Int32} (hf : f_X11_isJ x0 = some x) (hk : XEnd G (some (.int x)) σ) : WW G 0 [(0, .int x0)] [] σ := by
  refine ww_iload_n (pc := 0) C 0 dX11_isJ_0 rfl ?_
  refine ww_bipush (pc := 1) (v := (-3 : Int32)) C dX11_isJ_1 (by decide) ?_
  refine ww_icmp_lt (pc := 3) (tgt := 15) C dX11_isJ_3 (by decide) (fun q => ?_) (fun q => ?_)
  · have hf := xip q hf
    refine ww_iconst (pc := 15) (v := (0 : Int32)) C dX11_isJ_15 (by decide) ?_
    have hf := xsj hf
    subst hf
    exact ww_zret (pc := 16) C rfl hk dX11_isJ_16
  · have hf := xin q hf
    refine ww_iload_n (pc := 6) C 0 dX11_isJ_6 rfl ?_
    refine ww_iconst (pc := 7) (v := (3 : Int32)) C dX11_isJ_7 (by decide) ?_
    refine ww_icmp_gt (pc := 8) (tgt := 15) C dX11_isJ_8 (by decide) (fun q => ?_) (fun q => ?_)
    · have hf := xip q hf
      refine ww_iconst (pc := 15) (v := (0 : Int32)) C dX11_isJ_15 (by decide) ?_
      have hf := xsj hf
      subst hf
      exact ww_zret (pc := 16) C rfl hk dX11_isJ_16
    · have hf := xin q hf
      refine ww_iconst (pc := 11) (v := (1 : Int32)) C dX11_isJ_11 (by decide) ?_
      refine ww_goto (pc := 12) (tgt := 16) C dX11_isJ_12 (by decide) ?_
      have hf := xsj hf
      subst hf
      exact ww_zret (pc := 16) C rfl hk dX11_isJ_16
theorem k_X11_isJ {l : Launch} {E : XD} {hb : Nat} {σ : XS} {x0 : Int32} {x : Int32} (h : f_X11_isJ x0 = some x) : XM l yX11_isJ cX11_isJ 1 (some .boolean) 0 0 E hb [.int x0] σ (some (.int x)) σ := by
  refine xm_of (by decide) (Nat.le_of_ble_eq_true rfl) ⟨Nat.le_refl _, Nat.le_refl _⟩ (fun G hG C hl hQ => ?_)
  obtain ⟨rfl, rfl, rfl, hN⟩ := hG
  exact s_X11_isJ_e C h hQ
noncomputable def f_X11_joinWays_b35 (r0 : Nat) (r2 : Nat) (r3 : Nat) (x4 : Int32) : Int32 × XS → Option ((Int32 × XS) ⊕ ((Int32 × XS) ⊕ (XS))) := fun a => match a with
  | (x5, σ) => (xaI σ 20 r2 x4).bind fun v2 => if v2 = 0 then ((some (.inl (x4 + (1 : Int32), σ))).map .inr) else (xal σ r3).bind fun v4 => if v4 ≤ x5 then ((some (.inl (x4 + (1 : Int32), σ))).map .inr) else (xgR σ r0 11 12).bind fun z6 => (xal σ z6).bind fun v8 => if v8 ≤ (x4 + x5) then ((some (.inl (x4 + (1 : Int32), σ))).map .inr) else (xgR σ r0 11 12).bind fun z10 => (xaL σ z10 (x4 + x5)).bind fun v12 => (xaI σ 20 r2 x4).bind fun v14 => (xaI σ 20 r3 x5).bind fun v16 => (xsL σ z10 (x4 + x5) (v12 + (v14.toInt64 * v16.toInt64))).bind fun σ18 => some (.inl (x5 + (1 : Int32), σ18))
noncomputable def f_X11_joinWays_b25 (r0 : Nat) (r2 : Nat) (r3 : Nat) : Int32 × XS → Option ((Int32 × XS) ⊕ (XS)) := fun a => match a with
  | (x4, σ) => (xal σ r2).bind fun v2 => if v2 ≤ x4 then ((some σ).map .inr) else xloop (f_X11_joinWays_b35 r0 r2 r3 x4) ((0 : Int32), σ)
noncomputable def f_X11_joinWays_j13 (σ : XS) (r0 : Nat) (r2 : Nat) (t0 : Nat) : Option XS := (xgR σ r0 11 12).bind fun z2 => (f_J7_fill_d0a16 σ z2 (0 : Int64)).bind fun σ4 => xloop (f_X11_joinWays_b25 r0 r2 t0) ((0 : Int32), σ4)
noncomputable def f_X11_joinWays_j4 (σ : XS) (r0 : Nat) (r1 : Nat) (t0 : Nat) : Option XS := (xgR σ t0 4 0).bind fun z2 => (xck σ r0 11).bind fun _ => (f_X11_heldWays σ r0 r1).bind fun (z6, σ5) => (xnz z6).bind fun _ => f_X11_joinWays_j13 σ5 r0 z2 z6
noncomputable def f_X11_joinWays (σ : XS) (r0 : Nat) (r1 : Nat) : Option XS := (xck σ r0 11).bind fun _ => (f_X11_levelsNow σ r0).bind fun (z4, σ3) => (xnz z4).bind fun _ => f_X11_joinWays_j4 σ3 r0 r1 z4
theorem m_X11_joinWays_l35 {r0 : Nat} {r2 : Nat} {r3 : Nat} {x4 : Int32} {a : Int32 × XS} {x : ((Int32 × XS) ⊕ (XS))} (hf : xloop (f_X11_joinWays_b35 r0 r2 r3 x4) a = some x) : (∀ a' : Int32 × XS, x = .inl a' → xext a.2 a'.2) ∧ (∀ b1 : XS, x = .inr b1 → xext a.2 b1) := by
  refine xloop_ind (P := fun a => (∀ a' : Int32 × XS, x = .inl a' → xext a.2 a'.2) ∧ (∀ b1 : XS, x = .inr b1 → xext a.2 b1)) (fun a y hf hc he => ?_) hf
  obtain ⟨x5, σ⟩ := a
  have hy : (∀ a' : Int32 × XS, y = .inl a' → xext σ a'.2) ∧ (∀ b2 : ((Int32 × XS) ⊕ (XS)), y = .inr b2 → (∀ a' : Int32 × XS, b2 = .inl a' → xext σ a'.2) ∧ (∀ b1 : XS, b2 = .inr b1 → xext σ b1)) := by
    have hm := xext.rf (σ := σ)
    obtain ⟨v2, e1, hf⟩ := xbd hf
    by_cases q : v2 = 0
    · have hf := xip q hf
      obtain ⟨b0, hg, e9⟩ := xmj hf
      subst e9
      have hf := hg
      refine ⟨fun a' e => xnc2 e, fun b e => ?_⟩
      have h9 := Sum.inr.inj e
      subst h9
      have hf := xsj hf
      subst hf
      exact ⟨fun a' e => (by have h9 := Sum.inl.inj e; subst h9; exact hm), fun b e => xnc1 e⟩
    · have hf := xin q hf
      obtain ⟨v4, e3, hf⟩ := xbd hf
      by_cases q : v4 ≤ x5
      · have hf := xip q hf
        obtain ⟨b0, hg, e9⟩ := xmj hf
        subst e9
        have hf := hg
        refine ⟨fun a' e => xnc2 e, fun b e => ?_⟩
        have h9 := Sum.inr.inj e
        subst h9
        have hf := xsj hf
        subst hf
        exact ⟨fun a' e => (by have h9 := Sum.inl.inj e; subst h9; exact hm), fun b e => xnc1 e⟩
      · have hf := xin q hf
        obtain ⟨z6, e5, hf⟩ := xbd hf
        obtain ⟨v8, e7, hf⟩ := xbd hf
        by_cases q : v8 ≤ (x4 + x5)
        · have hf := xip q hf
          obtain ⟨b0, hg, e9⟩ := xmj hf
          subst e9
          have hf := hg
          refine ⟨fun a' e => xnc2 e, fun b e => ?_⟩
          have h9 := Sum.inr.inj e
          subst h9
          have hf := xsj hf
          subst hf
          exact ⟨fun a' e => (by have h9 := Sum.inl.inj e; subst h9; exact hm), fun b e => xnc1 e⟩
        · have hf := xin q hf
          obtain ⟨z10, e9, hf⟩ := xbd hf
          obtain ⟨v12, e11, hf⟩ := xbd hf
          obtain ⟨v14, e13, hf⟩ := xbd hf
          obtain ⟨v16, e15, hf⟩ := xbd hf
          obtain ⟨σ18, e17, hf⟩ := xbd hf
          have hm := hm.tr (xsL_same e17).ext
          have hf := xsj hf
          subst hf
          exact ⟨fun a' e => (by have h9 := Sum.inl.inj e; subst h9; exact hm), fun b e => xnc1 e⟩
  cases y with
  | inl a' =>
    have h1 := hc a' rfl
    have hm := hy.1 a' rfl
    exact ⟨fun a' e => hm.tr ((h1).1 a' e), fun b1 eb1 => hm.tr ((h1).2 b1 eb1)⟩
  | inr b =>
    have h1 := he b rfl
    subst h1
    exact hy.2 _ rfl
theorem s_X11_joinWays_l35 {G : XG} (C : XC G cX11_joinWays RX11 none 6 5 115) {r0 : Nat} {r2 : Nat} {r3 : Nat} {x4 : Int32} {a : Int32 × XS} {x : ((Int32 × XS) ⊕ (XS))} (hf : xloop (f_X11_joinWays_b35 r0 r2 r3 x4) a = some x) (hk : (∀ a' : Int32 × XS, x = .inl a' → WW G 25 [(0, .ref (gB G + r0)), (2, .ref (gB G + r2)), (3, .ref (gB G + r3)), (4, .int a'.1)] [] a'.2) ∧ (∀ b1 : XS, x = .inr b1 → XEnd G none b1 ∧ XUp G b1)) : WW G 35 [(0, .ref (gB G + r0)), (2, .ref (gB G + r2)), (3, .ref (gB G + r3)), (4, .int x4), (5, .int a.1)] [] a.2 := by
  refine xloop_ind (P := fun a => WW G 35 [(0, .ref (gB G + r0)), (2, .ref (gB G + r2)), (3, .ref (gB G + r3)), (4, .int x4), (5, .int a.1)] [] a.2) (fun a y hf hc he => ?_) hf
  obtain ⟨x5, σ⟩ := a
  have hk : (∀ a' : Int32 × XS, y = .inl a' → WW G 35 [(0, .ref (gB G + r0)), (2, .ref (gB G + r2)), (3, .ref (gB G + r3)), (4, .int x4), (5, .int a'.1)] [] a'.2) ∧ (∀ b2 : ((Int32 × XS) ⊕ (XS)), y = .inr b2 → (∀ a' : Int32 × XS, b2 = .inl a' → WW G 25 [(0, .ref (gB G + r0)), (2, .ref (gB G + r2)), (3, .ref (gB G + r3)), (4, .int a'.1)] [] a'.2) ∧ (∀ b1 : XS, b2 = .inr b1 → XEnd G none b1 ∧ XUp G b1)) := ⟨hc, fun b e => by have h9 := he b e; subst h9; exact hk⟩
  refine ww_aload_n (pc := 35) C 1 dX11_joinWays_35 rfl ?_
  refine ww_iload (pc := 36) C 3 dX11_joinWays_36 rfl ?_
  obtain ⟨v2, e1, hf⟩ := xbd hf
  refine ww_iald (pc := 38) C e1 dX11_joinWays_38 ?_
  refine ww_if_eq (pc := 39) (tgt := 92) C dX11_joinWays_39 (by decide) (fun q => ?_) (fun q => ?_)
  · have hf := xip q hf
    obtain ⟨b0, hg, e9⟩ := xmj hf
    subst e9
    have hf := hg
    have hk := hk.2 _ rfl
    refine ww_iinc (pc := 92) (v := x4 + (1 : Int32)) (lv' := [(4, .int (x4 + (1 : Int32))), (0, .ref (gB G + r0)), (2, .ref (gB G + r2)), (3, .ref (gB G + r3)), (5, .int x5)]) C 3 dX11_joinWays_92 rfl (congrArg (fun z => x4 + z) (show Int32.ofInt (1) = (1 : Int32) by decide)) (by decide) rfl ?_
    refine ww_goto (pc := 95) (tgt := 25) C dX11_joinWays_95 (by decide) ?_
    have hf := xsj hf
    subst hf
    refine ww_sub [1, 2, 3, 0] rfl ?_
    exact hk.1 (x4 + (1 : Int32), σ) rfl
  · have hf := xin q hf
    refine ww_iload (pc := 42) C 4 dX11_joinWays_42 rfl ?_
    refine ww_aload_n (pc := 44) C 2 dX11_joinWays_44 rfl ?_
    obtain ⟨v4, e3, hf⟩ := xbd hf
    refine ww_alen (pc := 45) C e3 dX11_joinWays_45 ?_
    refine ww_icmp_ge (pc := 46) (tgt := 92) C dX11_joinWays_46 (by decide) (fun q => ?_) (fun q => ?_)
    · have hf := xip q hf
      obtain ⟨b0, hg, e9⟩ := xmj hf
      subst e9
      have hf := hg
      have hk := hk.2 _ rfl
      refine ww_iinc (pc := 92) (v := x4 + (1 : Int32)) (lv' := [(4, .int (x4 + (1 : Int32))), (0, .ref (gB G + r0)), (2, .ref (gB G + r2)), (3, .ref (gB G + r3)), (5, .int x5)]) C 3 dX11_joinWays_92 rfl (congrArg (fun z => x4 + z) (show Int32.ofInt (1) = (1 : Int32) by decide)) (by decide) rfl ?_
      refine ww_goto (pc := 95) (tgt := 25) C dX11_joinWays_95 (by decide) ?_
      have hf := xsj hf
      subst hf
      refine ww_sub [1, 2, 3, 0] rfl ?_
      exact hk.1 (x4 + (1 : Int32), σ) rfl
    · have hf := xin q hf
      refine ww_iload (pc := 49) C 3 dX11_joinWays_49 rfl ?_
      refine ww_iload (pc := 51) C 4 dX11_joinWays_51 rfl ?_
      refine ww_iadd (pc := 53) C dX11_joinWays_53 ?_
      refine ww_aload_n (pc := 54) C 0 dX11_joinWays_54 rfl ?_
      obtain ⟨z6, e5, hf⟩ := xbd hf
      refine gf_X11_87 (pc := 55) C e5 dX11_joinWays_55 ?_
      obtain ⟨v8, e7, hf⟩ := xbd hf
      refine ww_alen (pc := 58) C e7 dX11_joinWays_58 ?_
      refine ww_icmp_ge (pc := 59) (tgt := 92) C dX11_joinWays_59 (by decide) (fun q => ?_) (fun q => ?_)
      · have hf := xip q hf
        obtain ⟨b0, hg, e9⟩ := xmj hf
        subst e9
        have hf := hg
        have hk := hk.2 _ rfl
        refine ww_iinc (pc := 92) (v := x4 + (1 : Int32)) (lv' := [(4, .int (x4 + (1 : Int32))), (0, .ref (gB G + r0)), (2, .ref (gB G + r2)), (3, .ref (gB G + r3)), (5, .int x5)]) C 3 dX11_joinWays_92 rfl (congrArg (fun z => x4 + z) (show Int32.ofInt (1) = (1 : Int32) by decide)) (by decide) rfl ?_
        refine ww_goto (pc := 95) (tgt := 25) C dX11_joinWays_95 (by decide) ?_
        have hf := xsj hf
        subst hf
        refine ww_sub [1, 2, 3, 0] rfl ?_
        exact hk.1 (x4 + (1 : Int32), σ) rfl
      · have hf := xin q hf
        refine ww_aload_n (pc := 62) C 0 dX11_joinWays_62 rfl ?_
        obtain ⟨z10, e9, hf⟩ := xbd hf
        refine gf_X11_87 (pc := 63) C e9 dX11_joinWays_63 ?_
        refine ww_iload (pc := 66) C 3 dX11_joinWays_66 rfl ?_
        refine ww_iload (pc := 68) C 4 dX11_joinWays_68 rfl ?_
        refine ww_iadd (pc := 70) C dX11_joinWays_70 ?_
        refine ww_dup2 (pc := 71) C dX11_joinWays_71 rfl rfl ?_
        obtain ⟨v12, e11, hf⟩ := xbd hf
        refine ww_lald (pc := 72) C e11 dX11_joinWays_72 ?_
        refine ww_aload_n (pc := 73) C 1 dX11_joinWays_73 rfl ?_
        refine ww_iload (pc := 74) C 3 dX11_joinWays_74 rfl ?_
        obtain ⟨v14, e13, hf⟩ := xbd hf
        refine ww_iald (pc := 76) C e13 dX11_joinWays_76 ?_
        refine ww_i2l (pc := 77) (v := v14.toInt64) C dX11_joinWays_77 rfl ?_
        refine ww_aload_n (pc := 78) C 2 dX11_joinWays_78 rfl ?_
        refine ww_iload (pc := 79) C 4 dX11_joinWays_79 rfl ?_
        obtain ⟨v16, e15, hf⟩ := xbd hf
        refine ww_iald (pc := 81) C e15 dX11_joinWays_81 ?_
        refine ww_i2l (pc := 82) (v := v16.toInt64) C dX11_joinWays_82 rfl ?_
        refine ww_lmul (pc := 83) C dX11_joinWays_83 ?_
        refine ww_ladd (pc := 84) C dX11_joinWays_84 ?_
        obtain ⟨σ18, e17, hf⟩ := xbd hf
        refine ww_last (pc := 85) C e17 dX11_joinWays_85 ?_
        refine ww_iinc (pc := 86) (v := x5 + (1 : Int32)) (lv' := [(5, .int (x5 + (1 : Int32))), (0, .ref (gB G + r0)), (2, .ref (gB G + r2)), (3, .ref (gB G + r3)), (4, .int x4)]) C 4 dX11_joinWays_86 rfl (congrArg (fun z => x5 + z) (show Int32.ofInt (1) = (1 : Int32) by decide)) (by decide) rfl ?_
        refine ww_goto (pc := 89) (tgt := 35) C dX11_joinWays_89 (by decide) ?_
        have hf := xsj hf
        subst hf
        refine ww_sub [1, 2, 3, 4, 0] rfl ?_
        exact hk.1 (x5 + (1 : Int32), σ18) rfl
theorem m_X11_joinWays_l25 {r0 : Nat} {r2 : Nat} {r3 : Nat} {a : Int32 × XS} {x : XS} (hf : xloop (f_X11_joinWays_b25 r0 r2 r3) a = some x) : xext a.2 x := by
  refine xloop_ind (P := fun a => xext a.2 x) (fun a y hf hc he => ?_) hf
  obtain ⟨x4, σ⟩ := a
  have hy : (∀ a' : Int32 × XS, y = .inl a' → xext σ a'.2) ∧ (∀ b1 : XS, y = .inr b1 → xext σ b1) := by
    have hm := xext.rf (σ := σ)
    obtain ⟨v2, e1, hf⟩ := xbd hf
    by_cases q : v2 ≤ x4
    · have hf := xip q hf
      obtain ⟨b0, hg, e9⟩ := xmj hf
      subst e9
      have hf := hg
      refine ⟨fun a' e => xnc2 e, fun b e => ?_⟩
      have h9 := Sum.inr.inj e
      subst h9
      have hf := xsj hf
      subst hf
      exact hm
    · have hf := xin q hf
      exact ⟨fun a' e => hm.tr ((m_X11_joinWays_l35 (a := ((0 : Int32), σ)) hf).1 a' e), fun b1 eb1 => hm.tr ((m_X11_joinWays_l35 (a := ((0 : Int32), σ)) hf).2 b1 eb1)⟩
  cases y with
  | inl a' =>
    have h1 := hc a' rfl
    have hm := hy.1 a' rfl
    exact hm.tr (h1)
  | inr b =>
    have h1 := he b rfl
    subst h1
    exact hy.2 _ rfl
theorem s_X11_joinWays_l25 {G : XG} (C : XC G cX11_joinWays RX11 none 6 5 115) {r0 : Nat} {r2 : Nat} {r3 : Nat} {a : Int32 × XS} {x : XS} (hf : xloop (f_X11_joinWays_b25 r0 r2 r3) a = some x) (hk : XEnd G none x ∧ XUp G x) : WW G 25 [(0, .ref (gB G + r0)), (2, .ref (gB G + r2)), (3, .ref (gB G + r3)), (4, .int a.1)] [] a.2 := by
  refine xloop_ind (P := fun a => WW G 25 [(0, .ref (gB G + r0)), (2, .ref (gB G + r2)), (3, .ref (gB G + r3)), (4, .int a.1)] [] a.2) (fun a y hf hc he => ?_) hf
  obtain ⟨x4, σ⟩ := a
  have hk : (∀ a' : Int32 × XS, y = .inl a' → WW G 25 [(0, .ref (gB G + r0)), (2, .ref (gB G + r2)), (3, .ref (gB G + r3)), (4, .int a'.1)] [] a'.2) ∧ (∀ b1 : XS, y = .inr b1 → XEnd G none b1 ∧ XUp G b1) := ⟨hc, fun b e => by have h9 := he b e; subst h9; exact hk⟩
  refine ww_iload (pc := 25) C 3 dX11_joinWays_25 rfl ?_
  refine ww_aload_n (pc := 27) C 1 dX11_joinWays_27 rfl ?_
  obtain ⟨v2, e1, hf⟩ := xbd hf
  refine ww_alen (pc := 28) C e1 dX11_joinWays_28 ?_
  refine ww_icmp_ge (pc := 29) (tgt := 98) C dX11_joinWays_29 (by decide) (fun q => ?_) (fun q => ?_)
  · have hf := xip q hf
    obtain ⟨b0, hg, e9⟩ := xmj hf
    subst e9
    have hf := hg
    have hk := hk.2 _ rfl
    have hf := xsj hf
    subst hf
    exact ww_vret (pc := 98) C hk.1 dX11_joinWays_98
  · have hf := xin q hf
    refine ww_iconst (pc := 32) (v := (0 : Int32)) C dX11_joinWays_32 (by decide) ?_
    refine ww_istore (pc := 33) (lv' := [(5, .int (0 : Int32)), (0, .ref (gB G + r0)), (2, .ref (gB G + r2)), (3, .ref (gB G + r3)), (4, .int x4)]) C dX11_joinWays_33 (by decide) rfl ?_
    refine ww_sub [1, 2, 3, 4, 0] rfl ?_
    exact s_X11_joinWays_l35 C (a := ((0 : Int32), σ)) hf hk
theorem s_X11_joinWays_j13 {G : XG} (C : XC G cX11_joinWays RX11 none 6 5 115) {σ : XS} {r0 : Nat} {r2 : Nat} {t0 : Nat} {x : XS} (hf : f_X11_joinWays_j13 σ r0 r2 t0 = some x) (hk : XEnd G none x ∧ XUp G x) : WW G 13 [(0, .ref (gB G + r0)), (2, .ref (gB G + r2))] [.ref (gB G + t0)] σ := by
  refine ww_astore_n (pc := 13) (lv' := [(3, .ref (gB G + t0)), (0, .ref (gB G + r0)), (2, .ref (gB G + r2))]) C dX11_joinWays_13 (by decide) rfl ?_
  refine ww_aload_n (pc := 14) C 1 dX11_joinWays_14 rfl ?_
  obtain ⟨z2, e1, hf⟩ := xbd hf
  refine gf_X11_87 (pc := 15) C e1 dX11_joinWays_15 ?_
  refine ww_lconst (pc := 18) (v := (0 : Int64)) C dX11_joinWays_18 (by decide) ?_
  obtain ⟨σ4, e3, hf⟩ := xbd hf
  refine ww_callSv (pc := 19) (as := [.ref (gB G + z2), .long (0 : Int64)]) (st := []) C (k_J7_fill_d0a16 (l := gl G) (E := gE G) (hb := gB G) (σ := σ) e3) xc_X11_330 q1020 rfl (by decide) (xst4 (Nat.le_of_ble_eq_true rfl)) (m_J7_fill_d0a16 e3).le (m_J7_fill_d0a16 e3).lim dX11_joinWays_19 ?_
  refine ww_iconst (pc := 22) (v := (0 : Int32)) C dX11_joinWays_22 (by decide) ?_
  refine ww_istore (pc := 23) (lv' := [(4, .int (0 : Int32)), (3, .ref (gB G + t0)), (0, .ref (gB G + r0)), (2, .ref (gB G + r2))]) C dX11_joinWays_23 (by decide) rfl ?_
  refine ww_sub [2, 3, 1, 0] rfl ?_
  exact s_X11_joinWays_l25 C (a := ((0 : Int32), σ4)) hf hk
theorem m_X11_joinWays_j13 {σ : XS} {r0 : Nat} {r2 : Nat} {t0 : Nat} {x : XS} (hf : f_X11_joinWays_j13 σ r0 r2 t0 = some x) : xext σ x := by
  have hm := xext.rf (σ := σ)
  obtain ⟨z2, e1, hf⟩ := xbd hf
  obtain ⟨σ4, e3, hf⟩ := xbd hf
  have hm := hm.tr (m_J7_fill_d0a16 e3).ext
  exact hm.tr (m_X11_joinWays_l25 (a := ((0 : Int32), σ4)) hf)
theorem s_X11_joinWays_j4 {G : XG} (C : XC G cX11_joinWays RX11 none 6 5 115) {σ : XS} {r0 : Nat} {r1 : Nat} {t0 : Nat} {x : XS} (hf : f_X11_joinWays_j4 σ r0 r1 t0 = some x) (hk : XEnd G none x ∧ XUp G x) : WW G 4 [(0, .ref (gB G + r0)), (1, .ref (gB G + r1))] [.ref (gB G + t0)] σ := by
  obtain ⟨z2, e1, hf⟩ := xbd hf
  refine gf_X11_323 (pc := 4) C e1 dX11_joinWays_4 ?_
  refine ww_astore_n (pc := 7) (lv' := [(2, .ref (gB G + z2)), (0, .ref (gB G + r0)), (1, .ref (gB G + r1))]) C dX11_joinWays_7 (by decide) rfl ?_
  refine ww_aload_n (pc := 8) C 1 dX11_joinWays_8 rfl ?_
  refine ww_aload_n (pc := 9) C 2 dX11_joinWays_9 rfl ?_
  obtain ⟨_, e3, hf⟩ := xbd hf
  obtain ⟨⟨z6, σ5⟩, e4, hf⟩ := xbd hf
  dsimp only at hf
  obtain ⟨_, e7, hf⟩ := xbd hf
  refine ww_callVr (pc := 10) (as := [.ref (gB G + r1)]) (st := []) C (k_X11_heldWays (l := gl G) (E := gE G) (hb := gB G) (σ := σ) e4) rfl (by decide) xc_X11_326 q1012 qp81 (xck_spec e3) rfl (by decide) (xst4 (Nat.le_of_ble_eq_true rfl)) (m_X11_heldWays e4).1 (fun q => by have hm9 := m_X11_joinWays_j13 hf; exact XLim.mid q (m_X11_heldWays e4) hm9 hk.2) dX11_joinWays_10 ?_
  refine ww_nn (xnz_spec e7) ?_
  refine ww_sub [1, 0] rfl ?_
  exact s_X11_joinWays_j13 C hf hk
theorem m_X11_joinWays_j4 {σ : XS} {r0 : Nat} {r1 : Nat} {t0 : Nat} {x : XS} (hf : f_X11_joinWays_j4 σ r0 r1 t0 = some x) : xext σ x := by
  have hm := xext.rf (σ := σ)
  obtain ⟨z2, e1, hf⟩ := xbd hf
  obtain ⟨_, e3, hf⟩ := xbd hf
  obtain ⟨⟨z6, σ5⟩, e4, hf⟩ := xbd hf
  dsimp only at hf
  have hm := hm.tr (m_X11_heldWays e4)
  obtain ⟨_, e7, hf⟩ := xbd hf
  exact hm.tr (m_X11_joinWays_j13 hf)
theorem s_X11_joinWays_e {G : XG} (C : XC G cX11_joinWays RX11 none 6 5 115) {σ : XS} {r0 : Nat} {r1 : Nat} {x : XS} (hf : f_X11_joinWays σ r0 r1 = some x) (hk : XEnd G none x ∧ XUp G x) : WW G 0 [(0, .ref (gB G + r0)), (1, .ref (gB G + r1))] [] σ := by
  refine ww_aload_n (pc := 0) C 0 dX11_joinWays_0 rfl ?_
  obtain ⟨_, e1, hf⟩ := xbd hf
  obtain ⟨⟨z4, σ3⟩, e2, hf⟩ := xbd hf
  dsimp only at hf
  obtain ⟨_, e5, hf⟩ := xbd hf
  refine ww_callVr (pc := 1) (as := []) (st := []) C (k_X11_levelsNow (l := gl G) (E := gE G) (hb := gB G) (σ := σ) e2) rfl (by decide) xc_X11_251 q846 qp56 (xck_spec e1) rfl (by decide) (xst4 (Nat.le_of_ble_eq_true rfl)) (m_X11_levelsNow e2).1 (fun q => by have hm9 := m_X11_joinWays_j4 hf; exact XLim.mid q (m_X11_levelsNow e2) hm9 hk.2) dX11_joinWays_1 ?_
  refine ww_nn (xnz_spec e5) ?_
  refine ww_sub [0, 1] rfl ?_
  exact s_X11_joinWays_j4 C hf hk
theorem m_X11_joinWays {σ : XS} {r0 : Nat} {r1 : Nat} {x : XS} (hf : f_X11_joinWays σ r0 r1 = some x) : xext σ x := by
  have hm := xext.rf (σ := σ)
  obtain ⟨_, e1, hf⟩ := xbd hf
  obtain ⟨⟨z4, σ3⟩, e2, hf⟩ := xbd hf
  dsimp only at hf
  have hm := hm.tr (m_X11_levelsNow e2)
  obtain ⟨_, e5, hf⟩ := xbd hf
  exact hm.tr (m_X11_joinWays_j4 hf)
theorem k_X11_joinWays {l : Launch} {E : XD} {hb : Nat} {σ : XS} {r0 : Nat} {r1 : Nat} {x : XS} (h : f_X11_joinWays σ r0 r1 = some x) : XM l yX11_joinWays cX11_joinWays 6 none 5 115 E hb [.ref (hb + r0), .ref (hb + r1)] σ none x := by
  refine xm_of (by decide) (Nat.le_of_ble_eq_true rfl) (m_X11_joinWays h).1 (fun G hG C hl hQ => ?_)
  obtain ⟨rfl, rfl, rfl, hN⟩ := hG
  exact s_X11_joinWays_e C h ⟨hQ, hl.2⟩
noncomputable def f_X11_joinedLevelAt_b4 (σ : XS) (r0 : Nat) (x1 : Int32) : Int32 × Int32 → Option ((Int32 × Int32) ⊕ (Int32)) := fun a => match a with
  | (x2, x3) => (xgR σ r0 11 12).bind fun z2 => (xal σ z2).bind fun v4 => if v4 ≤ x3 then ((some (-1 : Int32)).map .inr) else (xgR σ r0 11 12).bind fun z6 => (xaL σ z6 x3).bind fun v8 => if (lg_cmp v8 (0 : Int64)) = 0 then (some (.inl (x2, x3 + (1 : Int32)))) else if x2 = x1 then ((some x3).map .inr) else some (.inl (x2 + (1 : Int32), x3 + (1 : Int32)))
noncomputable def f_X11_joinedLevelAt (σ : XS) (r0 : Nat) (x1 : Int32) : Option Int32 := xloop (f_X11_joinedLevelAt_b4 σ r0 x1) ((0 : Int32), (0 : Int32))
theorem s_X11_joinedLevelAt_l4 {G : XG} (C : XC G cX11_joinedLevelAt RX11 (some .int) 4 0 0) {σ : XS} {r0 : Nat} {x1 : Int32} {a : Int32 × Int32} {x : Int32} (hf : xloop (f_X11_joinedLevelAt_b4 σ r0 x1) a = some x) (hk : XEnd G (some (.int x)) σ) : WW G 4 [(0, .ref (gB G + r0)), (1, .int x1), (2, .int a.1), (3, .int a.2)] [] σ := by
  refine xloop_ind (P := fun a => WW G 4 [(0, .ref (gB G + r0)), (1, .int x1), (2, .int a.1), (3, .int a.2)] [] σ) (fun a y hf hc he => ?_) hf
  obtain ⟨x2, x3⟩ := a
  have hk : (∀ a' : Int32 × Int32, y = .inl a' → WW G 4 [(0, .ref (gB G + r0)), (1, .int x1), (2, .int a'.1), (3, .int a'.2)] [] σ) ∧ (∀ b1 : Int32, y = .inr b1 → XEnd G (some (.int b1)) σ) := ⟨hc, fun b e => by have h9 := he b e; subst h9; exact hk⟩
  refine ww_iload_n (pc := 4) C 3 dX11_joinedLevelAt_4 rfl ?_
  refine ww_aload_n (pc := 5) C 0 dX11_joinedLevelAt_5 rfl ?_
  obtain ⟨z2, e1, hf⟩ := xbd hf
  refine gf_X11_87 (pc := 6) C e1 dX11_joinedLevelAt_6 ?_
  obtain ⟨v4, e3, hf⟩ := xbd hf
  refine ww_alen (pc := 9) C e3 dX11_joinedLevelAt_9 ?_
  refine ww_icmp_ge (pc := 10) (tgt := 40) C dX11_joinedLevelAt_10 (by decide) (fun q => ?_) (fun q => ?_)
  · have hf := xip q hf
    obtain ⟨b0, hg, e9⟩ := xmj hf
    subst e9
    have hf := hg
    have hk := hk.2 _ rfl
    refine ww_iconst (pc := 40) (v := (-1 : Int32)) C dX11_joinedLevelAt_40 (by decide) ?_
    have hf := xsj hf
    subst hf
    exact ww_iret (pc := 41) C hk dX11_joinedLevelAt_41
  · have hf := xin q hf
    refine ww_aload_n (pc := 13) C 0 dX11_joinedLevelAt_13 rfl ?_
    obtain ⟨z6, e5, hf⟩ := xbd hf
    refine gf_X11_87 (pc := 14) C e5 dX11_joinedLevelAt_14 ?_
    refine ww_iload_n (pc := 17) C 3 dX11_joinedLevelAt_17 rfl ?_
    obtain ⟨v8, e7, hf⟩ := xbd hf
    refine ww_lald (pc := 18) C e7 dX11_joinedLevelAt_18 ?_
    refine ww_lconst (pc := 19) (v := (0 : Int64)) C dX11_joinedLevelAt_19 (by decide) ?_
    refine ww_lcmp (pc := 20) C dX11_joinedLevelAt_20 ?_
    refine ww_if_eq (pc := 21) (tgt := 34) C dX11_joinedLevelAt_21 (by decide) (fun q => ?_) (fun q => ?_)
    · have hf := xip q hf
      refine ww_iinc (pc := 34) (v := x3 + (1 : Int32)) (lv' := [(3, .int (x3 + (1 : Int32))), (0, .ref (gB G + r0)), (1, .int x1), (2, .int x2)]) C 3 dX11_joinedLevelAt_34 rfl (congrArg (fun z => x3 + z) (show Int32.ofInt (1) = (1 : Int32) by decide)) (by decide) rfl ?_
      refine ww_goto (pc := 37) (tgt := 4) C dX11_joinedLevelAt_37 (by decide) ?_
      have hf := xsj hf
      subst hf
      refine ww_sub [1, 2, 3, 0] rfl ?_
      exact hk.1 (x2, x3 + (1 : Int32)) rfl
    · have hf := xin q hf
      refine ww_iload_n (pc := 24) C 2 dX11_joinedLevelAt_24 rfl ?_
      refine ww_iload_n (pc := 25) C 1 dX11_joinedLevelAt_25 rfl ?_
      refine ww_icmp_ne (pc := 26) (tgt := 31) C dX11_joinedLevelAt_26 (by decide) (fun q => ?_) (fun q => ?_)
      · have hf := xin q hf
        refine ww_iinc (pc := 31) (v := x2 + (1 : Int32)) (lv' := [(2, .int (x2 + (1 : Int32))), (0, .ref (gB G + r0)), (1, .int x1), (3, .int x3)]) C 2 dX11_joinedLevelAt_31 rfl (congrArg (fun z => x2 + z) (show Int32.ofInt (1) = (1 : Int32) by decide)) (by decide) rfl ?_
        refine ww_iinc (pc := 34) (v := x3 + (1 : Int32)) (lv' := [(3, .int (x3 + (1 : Int32))), (2, .int (x2 + (1 : Int32))), (0, .ref (gB G + r0)), (1, .int x1)]) C 3 dX11_joinedLevelAt_34 rfl (congrArg (fun z => x3 + z) (show Int32.ofInt (1) = (1 : Int32) by decide)) (by decide) rfl ?_
        refine ww_goto (pc := 37) (tgt := 4) C dX11_joinedLevelAt_37 (by decide) ?_
        have hf := xsj hf
        subst hf
        refine ww_sub [2, 3, 1, 0] rfl ?_
        exact hk.1 (x2 + (1 : Int32), x3 + (1 : Int32)) rfl
      · have hf := xip q hf
        obtain ⟨b0, hg, e9⟩ := xmj hf
        subst e9
        have hf := hg
        have hk := hk.2 _ rfl
        refine ww_iload_n (pc := 29) C 3 dX11_joinedLevelAt_29 rfl ?_
        have hf := xsj hf
        subst hf
        exact ww_iret (pc := 30) C hk dX11_joinedLevelAt_30
theorem s_X11_joinedLevelAt_e {G : XG} (C : XC G cX11_joinedLevelAt RX11 (some .int) 4 0 0) {σ : XS} {r0 : Nat} {x1 : Int32} {x : Int32} (hf : f_X11_joinedLevelAt σ r0 x1 = some x) (hk : XEnd G (some (.int x)) σ) : WW G 0 [(0, .ref (gB G + r0)), (1, .int x1)] [] σ := by
  refine ww_iconst (pc := 0) (v := (0 : Int32)) C dX11_joinedLevelAt_0 (by decide) ?_
  refine ww_istore_n (pc := 1) (lv' := [(2, .int (0 : Int32)), (0, .ref (gB G + r0)), (1, .int x1)]) C dX11_joinedLevelAt_1 (by decide) rfl ?_
  refine ww_iconst (pc := 2) (v := (0 : Int32)) C dX11_joinedLevelAt_2 (by decide) ?_
  refine ww_istore_n (pc := 3) (lv' := [(3, .int (0 : Int32)), (2, .int (0 : Int32)), (0, .ref (gB G + r0)), (1, .int x1)]) C dX11_joinedLevelAt_3 (by decide) rfl ?_
  refine ww_sub [2, 3, 1, 0] rfl ?_
  exact s_X11_joinedLevelAt_l4 C (a := ((0 : Int32), (0 : Int32))) hf hk
theorem k_X11_joinedLevelAt {l : Launch} {E : XD} {hb : Nat} {σ : XS} {r0 : Nat} {x1 : Int32} {x : Int32} (h : f_X11_joinedLevelAt σ r0 x1 = some x) : XM l yX11_joinedLevelAt cX11_joinedLevelAt 4 (some .int) 0 0 E hb [.ref (hb + r0), .int x1] σ (some (.int x)) σ := by
  refine xm_of (by decide) (Nat.le_of_ble_eq_true rfl) ⟨Nat.le_refl _, Nat.le_refl _⟩ (fun G hG C hl hQ => ?_)
  obtain ⟨rfl, rfl, rfl, hN⟩ := hG
  exact s_X11_joinedLevelAt_e C h hQ
noncomputable def f_X11_joined_j30 (σ : XS) (r0 : Nat) (x2 : Int32) (x3 : Int32) : Option (Int64 × XS) := if x2 = (-1 : Int32) then ((xck σ r0 11).bind fun _ => (f_X11_countJoinedLevels σ r0).bind fun v3 => some (v3.toInt64, σ)) else (xck σ r0 11).bind fun _ => (f_X11_joinedLevelAt σ r0 x2).bind fun v3 => if v3 < 0 then (some ((-100000 : Int64), σ)) else (xgR σ r0 11 12).bind fun z5 => (xal σ z5).bind fun v7 => if v3 < v7 then (if x3 = 0 then (some ((v3 - (288 : Int32)).toInt64, σ)) else if x3 = 1 then ((xgR σ r0 11 12).bind fun z9 => (xaL σ z9 v3).bind fun v11 => some (v11, σ)) else some ((-100000 : Int64), σ)) else some ((-100000 : Int64), σ)
noncomputable def f_X11_joined (σ : XS) (r0 : Nat) (x1 : Int32) (x2 : Int32) (x3 : Int32) : Option (Int64 × XS) := (xck σ r0 11).bind fun _ => (f_X11_slotAt σ r0 x1).bind fun z3 => if z3 = 0 then (some ((-100000 : Int64), σ)) else (xgI σ z3 7 2).bind fun v5 => if v5 = 0 then (some ((-100000 : Int64), σ)) else (xck σ r0 11).bind fun _ => (f_X11_joinWays σ r0 z3).bind fun σ8 => f_X11_joined_j30 σ8 r0 x2 x3
theorem s_X11_joined_j30 {G : XG} (C : XC G cX11_joined RX11 (some .long) 6 6 140) {σ : XS} {r0 : Nat} {x2 : Int32} {x3 : Int32} {x : Int64 × XS} (hf : f_X11_joined_j30 σ r0 x2 x3 = some x) (hk : XEnd G (some (.long x.1)) x.2 ∧ XUp G x.2) : WW G 30 [(0, .ref (gB G + r0)), (2, .int x2), (3, .int x3)] [] σ := by
  refine ww_iload_n (pc := 30) C 1 dX11_joined_30 rfl ?_
  refine ww_iconst (pc := 31) (v := (-1 : Int32)) C dX11_joined_31 (by decide) ?_
  refine ww_icmp_ne (pc := 32) (tgt := 41) C dX11_joined_32 (by decide) (fun q => ?_) (fun q => ?_)
  · have hf := xin q hf
    refine ww_aload_n (pc := 41) C 0 dX11_joined_41 rfl ?_
    refine ww_iload_n (pc := 42) C 1 dX11_joined_42 rfl ?_
    obtain ⟨_, e1, hf⟩ := xbd hf
    obtain ⟨v3, e2, hf⟩ := xbd hf
    refine ww_callVi (pc := 43) (as := [.int x2]) (st := []) C (k_X11_joinedLevelAt (l := gl G) (E := gE G) (hb := gB G) (σ := σ) e2) rfl (by decide) xc_X11_320 q1028 qp84 (xck_spec e1) rfl (by decide) (xst4 (Nat.le_of_ble_eq_true rfl)) xsame.rf.le xsame.rf.lim dX11_joined_43 ?_
    refine ww_istore (pc := 46) (lv' := [(5, .int v3), (0, .ref (gB G + r0)), (2, .int x2), (3, .int x3)]) C dX11_joined_46 (by decide) rfl ?_
    refine ww_iload (pc := 48) C 0 dX11_joined_48 rfl ?_
    refine ww_if_lt (pc := 50) (tgt := 63) C dX11_joined_50 (by decide) (fun q => ?_) (fun q => ?_)
    · have hf := xip q hf
      refine ww_ldc2 (pc := 63) C q1005 dX11_joined_63 ?_
      have hf := xsj hf
      subst hf
      exact ww_lret (pc := 66) C hk.1 dX11_joined_66
    · have hf := xin q hf
      refine ww_iload (pc := 53) C 0 dX11_joined_53 rfl ?_
      refine ww_aload_n (pc := 55) C 1 dX11_joined_55 rfl ?_
      obtain ⟨z5, e4, hf⟩ := xbd hf
      refine gf_X11_87 (pc := 56) C e4 dX11_joined_56 ?_
      obtain ⟨v7, e6, hf⟩ := xbd hf
      refine ww_alen (pc := 59) C e6 dX11_joined_59 ?_
      refine ww_icmp_lt (pc := 60) (tgt := 67) C dX11_joined_60 (by decide) (fun q => ?_) (fun q => ?_)
      · have hf := xip q hf
        refine ww_iload_n (pc := 67) C 3 dX11_joined_67 rfl ?_
        refine ww_look2 (pc := 68) (t0 := 96) (t1 := 104) (td := 112) C dX11_joined_68 (by decide) (by decide) (by decide) (fun q => ?_) (fun q q1 => ?_) (fun q q1 => ?_)
        · have hf := xip q hf
          refine ww_iload (pc := 96) C 0 dX11_joined_96 rfl ?_
          refine ww_sipush (pc := 98) (v := (288 : Int32)) C dX11_joined_98 (by decide) ?_
          refine ww_isub (pc := 101) C dX11_joined_101 ?_
          refine ww_i2l (pc := 102) (v := (v3 - (288 : Int32)).toInt64) C dX11_joined_102 rfl ?_
          have hf := xsj hf
          subst hf
          exact ww_lret (pc := 103) C hk.1 dX11_joined_103
        · have hf := xip q1 (xin q hf)
          refine ww_aload_n (pc := 104) C 1 dX11_joined_104 rfl ?_
          obtain ⟨z9, e8, hf⟩ := xbd hf
          refine gf_X11_87 (pc := 105) C e8 dX11_joined_105 ?_
          refine ww_iload (pc := 108) C 0 dX11_joined_108 rfl ?_
          obtain ⟨v11, e10, hf⟩ := xbd hf
          refine ww_lald (pc := 110) C e10 dX11_joined_110 ?_
          have hf := xsj hf
          subst hf
          exact ww_lret (pc := 111) C hk.1 dX11_joined_111
        · have hf := xin q1 (xin q hf)
          refine ww_ldc2 (pc := 112) C q1005 dX11_joined_112 ?_
          have hf := xsj hf
          subst hf
          exact ww_lret (pc := 115) C hk.1 dX11_joined_115
      · have hf := xin q hf
        refine ww_ldc2 (pc := 63) C q1005 dX11_joined_63 ?_
        have hf := xsj hf
        subst hf
        exact ww_lret (pc := 66) C hk.1 dX11_joined_66
  · have hf := xip q hf
    refine ww_aload_n (pc := 35) C 0 dX11_joined_35 rfl ?_
    obtain ⟨_, e1, hf⟩ := xbd hf
    obtain ⟨v3, e2, hf⟩ := xbd hf
    refine ww_callVi (pc := 36) (as := []) (st := []) C (k_X11_countJoinedLevels (l := gl G) (E := gE G) (hb := gB G) (σ := σ) e2) rfl (by decide) xc_X11_317 q1024 qp83 (xck_spec e1) rfl (by decide) (xst4 (Nat.le_of_ble_eq_true rfl)) xsame.rf.le xsame.rf.lim dX11_joined_36 ?_
    refine ww_i2l (pc := 39) (v := v3.toInt64) C dX11_joined_39 rfl ?_
    have hf := xsj hf
    subst hf
    exact ww_lret (pc := 40) C hk.1 dX11_joined_40
theorem m_X11_joined_j30 {σ : XS} {r0 : Nat} {x2 : Int32} {x3 : Int32} {x : Int64 × XS} (hf : f_X11_joined_j30 σ r0 x2 x3 = some x) : xext σ x.2 := by
  have hm := xext.rf (σ := σ)
  by_cases q : x2 = (-1 : Int32)
  · have hf := xip q hf
    obtain ⟨_, e1, hf⟩ := xbd hf
    obtain ⟨v3, e2, hf⟩ := xbd hf
    have hf := xsj hf
    subst hf
    exact hm
  · have hf := xin q hf
    obtain ⟨_, e1, hf⟩ := xbd hf
    obtain ⟨v3, e2, hf⟩ := xbd hf
    by_cases q : v3 < 0
    · have hf := xip q hf
      have hf := xsj hf
      subst hf
      exact hm
    · have hf := xin q hf
      obtain ⟨z5, e4, hf⟩ := xbd hf
      obtain ⟨v7, e6, hf⟩ := xbd hf
      by_cases q : v3 < v7
      · have hf := xip q hf
        by_cases q : x3 = 0
        · have hf := xip q hf
          have hf := xsj hf
          subst hf
          exact hm
        · by_cases q1 : x3 = 1
          · have hf := xip q1 (xin q hf)
            obtain ⟨z9, e8, hf⟩ := xbd hf
            obtain ⟨v11, e10, hf⟩ := xbd hf
            have hf := xsj hf
            subst hf
            exact hm
          · have hf := xin q1 (xin q hf)
            have hf := xsj hf
            subst hf
            exact hm
      · have hf := xin q hf
        have hf := xsj hf
        subst hf
        exact hm
theorem s_X11_joined_e {G : XG} (C : XC G cX11_joined RX11 (some .long) 6 6 140) {σ : XS} {r0 : Nat} {x1 : Int32} {x2 : Int32} {x3 : Int32} {x : Int64 × XS} (hf : f_X11_joined σ r0 x1 x2 x3 = some x) (hk : XEnd G (some (.long x.1)) x.2 ∧ XUp G x.2) : WW G 0 [(0, .ref (gB G + r0)), (1, .int x1), (2, .int x2), (3, .int x3)] [] σ := by
  refine ww_aload_n (pc := 0) C 0 dX11_joined_0 rfl ?_
  refine ww_iload_n (pc := 1) C 1 dX11_joined_1 rfl ?_
  obtain ⟨_, e1, hf⟩ := xbd hf
  obtain ⟨z3, e2, hf⟩ := xbd hf
  refine ww_callVr (pc := 2) (as := [.int x1]) (st := []) C (k_X11_slotAt (l := gl G) (E := gE G) (hb := gB G) (σ := σ) e2) rfl (by decide) xc_X11_307 q1003 qp79 (xck_spec e1) rfl (by decide) (xst4 (Nat.le_of_ble_eq_true rfl)) xsame.rf.le xsame.rf.lim dX11_joined_2 ?_
  refine ww_nul (fun q => ?_) (fun q => ?_)
  · have hf := xip q hf
    refine ww_astoreN (pc := 5) (lv' := [(4, .null), (0, .ref (gB G + r0)), (1, .int x1), (2, .int x2), (3, .int x3)]) C dX11_joined_5 (by decide) rfl ?_
    refine ww_aloadN (pc := 7) C 0 dX11_joined_7 rfl ?_
    refine ww_ifnullN (pc := 9) (tgt := 20) C dX11_joined_9 (by decide) ?_
    refine ww_ldc2 (pc := 20) C q1005 dX11_joined_20 ?_
    have hf := xsj hf
    subst hf
    exact ww_lret (pc := 23) C hk.1 dX11_joined_23
  · have hf := xin q hf
    refine ww_astore (pc := 5) (lv' := [(4, .ref (gB G + z3)), (0, .ref (gB G + r0)), (1, .int x1), (2, .int x2), (3, .int x3)]) C dX11_joined_5 (by decide) rfl ?_
    refine ww_aload (pc := 7) C 0 dX11_joined_7 rfl ?_
    refine ww_ifnull (pc := 9) C dX11_joined_9 ?_
    refine ww_aload (pc := 12) C 0 dX11_joined_12 rfl ?_
    obtain ⟨v5, e4, hf⟩ := xbd hf
    refine gf_X11_150 (pc := 14) C e4 dX11_joined_14 ?_
    refine ww_if_ne (pc := 17) (tgt := 24) C dX11_joined_17 (by decide) (fun q => ?_) (fun q => ?_)
    · have hf := xin q hf
      refine ww_aload_n (pc := 24) C 1 dX11_joined_24 rfl ?_
      refine ww_aload (pc := 25) C 0 dX11_joined_25 rfl ?_
      obtain ⟨_, e6, hf⟩ := xbd hf
      obtain ⟨σ8, e7, hf⟩ := xbd hf
      refine ww_callVv (pc := 27) (as := [.ref (gB G + z3)]) (st := []) C (k_X11_joinWays (l := gl G) (E := gE G) (hb := gB G) (σ := σ) e7) rfl (by decide) xc_X11_313 q1008 qp80 (xck_spec e6) rfl (by decide) (xst4 (Nat.le_of_ble_eq_true rfl)) (m_X11_joinWays e7).1 (fun q => by have hm9 := m_X11_joined_j30 hf; exact XLim.mid q (m_X11_joinWays e7) hm9 hk.2) dX11_joined_27 ?_
      refine ww_sub [1, 3, 4] rfl ?_
      exact s_X11_joined_j30 C hf hk
    · have hf := xip q hf
      refine ww_ldc2 (pc := 20) C q1005 dX11_joined_20 ?_
      have hf := xsj hf
      subst hf
      exact ww_lret (pc := 23) C hk.1 dX11_joined_23
theorem m_X11_joined {σ : XS} {r0 : Nat} {x1 : Int32} {x2 : Int32} {x3 : Int32} {x : Int64 × XS} (hf : f_X11_joined σ r0 x1 x2 x3 = some x) : xext σ x.2 := by
  have hm := xext.rf (σ := σ)
  obtain ⟨_, e1, hf⟩ := xbd hf
  obtain ⟨z3, e2, hf⟩ := xbd hf
  by_cases q : z3 = 0
  · have hf := xip q hf
    have hf := xsj hf
    subst hf
    exact hm
  · have hf := xin q hf
    obtain ⟨v5, e4, hf⟩ := xbd hf
    by_cases q : v5 = 0
    · have hf := xip q hf
      have hf := xsj hf
      subst hf
      exact hm
    · have hf := xin q hf
      obtain ⟨_, e6, hf⟩ := xbd hf
      obtain ⟨σ8, e7, hf⟩ := xbd hf
      have hm := hm.tr (m_X11_joinWays e7)
      exact hm.tr (m_X11_joined_j30 hf)
theorem k_X11_joined {l : Launch} {E : XD} {hb : Nat} {σ : XS} {r0 : Nat} {x1 : Int32} {x2 : Int32} {x3 : Int32} {x : Int64 × XS} (h : f_X11_joined σ r0 x1 x2 x3 = some x) : XM l yX11_joined cX11_joined 6 (some .long) 6 140 E hb [.ref (hb + r0), .int x1, .int x2, .int x3] σ (some (.long x.1)) x.2 := by
  refine xm_of (by decide) (Nat.le_of_ble_eq_true rfl) (m_X11_joined h).1 (fun G hG C hl hQ => ?_)
  obtain ⟨rfl, rfl, rfl, hN⟩ := hG
  exact s_X11_joined_e C h ⟨hQ, hl.2⟩
noncomputable def f_X9_lakesBelow_b6 (r0 : Nat) (x1 : Int32) : Int32 × XS → Option ((Int32 × XS) ⊕ (Int32 × XS)) := fun a => match a with
  | (x2, σ) => (xgI σ r0 9 8).bind fun v2 => if v2 ≤ x2 then (((xgI σ r0 9 9).bind fun v4 => some (v4, σ)).map .inr) else if (1024 : Int32) ≤ x2 then (((xgI σ r0 9 9).bind fun v4 => some (v4, σ)).map .inr) else (xgR σ r0 9 0).bind fun z4 => (xaI σ 20 z4 x2).bind fun v6 => (xck σ r0 9).bind fun _ => (f_X9_energyOf σ r0 v6).bind fun v9 => if x1 < v9 then (((xgI σ r0 9 9).bind fun v11 => some (v11, σ)).map .inr) else (xgR σ r0 9 0).bind fun z11 => (xaI σ 20 z11 x2).bind fun v13 => (xck σ r0 9).bind fun _ => (f_X9_flood σ r0 v13).bind fun σ16 => some (.inl (x2 + (1 : Int32), σ16))
noncomputable def f_X9_lakesBelow (σ : XS) (r0 : Nat) (x1 : Int32) : Option (Int32 × XS) := (xck σ r0 9).bind fun _ => (f_X9_dry σ r0).bind fun σ3 => xloop (f_X9_lakesBelow_b6 r0 x1) ((0 : Int32), σ3)
theorem m_X9_lakesBelow_l6 {r0 : Nat} {x1 : Int32} {a : Int32 × XS} {x : Int32 × XS} (hf : xloop (f_X9_lakesBelow_b6 r0 x1) a = some x) : xsame a.2 x.2 := by
  refine xloop_ind (P := fun a => xsame a.2 x.2) (fun a y hf hc he => ?_) hf
  obtain ⟨x2, σ⟩ := a
  have hy : (∀ a' : Int32 × XS, y = .inl a' → xsame σ a'.2) ∧ (∀ b1 : Int32 × XS, y = .inr b1 → xsame σ b1.2) := by
    have hm := xsame.rf (σ := σ)
    obtain ⟨v2, e1, hf⟩ := xbd hf
    by_cases q : v2 ≤ x2
    · have hf := xip q hf
      obtain ⟨b0, hg, e9⟩ := xmj hf
      subst e9
      have hf := hg
      refine ⟨fun a' e => xnc2 e, fun b e => ?_⟩
      have h9 := Sum.inr.inj e
      subst h9
      obtain ⟨v4, e3, hf⟩ := xbd hf
      have hf := xsj hf
      subst hf
      exact hm
    · have hf := xin q hf
      by_cases q : (1024 : Int32) ≤ x2
      · have hf := xip q hf
        obtain ⟨b0, hg, e9⟩ := xmj hf
        subst e9
        have hf := hg
        refine ⟨fun a' e => xnc2 e, fun b e => ?_⟩
        have h9 := Sum.inr.inj e
        subst h9
        obtain ⟨v4, e3, hf⟩ := xbd hf
        have hf := xsj hf
        subst hf
        exact hm
      · have hf := xin q hf
        obtain ⟨z4, e3, hf⟩ := xbd hf
        obtain ⟨v6, e5, hf⟩ := xbd hf
        obtain ⟨_, e7, hf⟩ := xbd hf
        obtain ⟨v9, e8, hf⟩ := xbd hf
        by_cases q : x1 < v9
        · have hf := xip q hf
          obtain ⟨b0, hg, e9⟩ := xmj hf
          subst e9
          have hf := hg
          refine ⟨fun a' e => xnc2 e, fun b e => ?_⟩
          have h9 := Sum.inr.inj e
          subst h9
          obtain ⟨v11, e10, hf⟩ := xbd hf
          have hf := xsj hf
          subst hf
          exact hm
        · have hf := xin q hf
          obtain ⟨z11, e10, hf⟩ := xbd hf
          obtain ⟨v13, e12, hf⟩ := xbd hf
          obtain ⟨_, e14, hf⟩ := xbd hf
          obtain ⟨σ16, e15, hf⟩ := xbd hf
          have hm := hm.tr (m_X9_flood e15)
          have hf := xsj hf
          subst hf
          exact ⟨fun a' e => (by have h9 := Sum.inl.inj e; subst h9; exact hm), fun b e => xnc1 e⟩
  cases y with
  | inl a' =>
    have h1 := hc a' rfl
    have hm := hy.1 a' rfl
    exact hm.tr (h1)
  | inr b =>
    have h1 := he b rfl
    subst h1
    exact hy.2 _ rfl
theorem s_X9_lakesBelow_l6 {G : XG} (C : XC G cX9_lakesBelow RX9 (some .int) 3 5 111) {r0 : Nat} {x1 : Int32} {a : Int32 × XS} {x : Int32 × XS} (hf : xloop (f_X9_lakesBelow_b6 r0 x1) a = some x) (hk : XEnd G (some (.int x.1)) x.2) : WW G 6 [(0, .ref (gB G + r0)), (1, .int x1), (2, .int a.1)] [] a.2 := by
  refine xloop_ind (P := fun a => WW G 6 [(0, .ref (gB G + r0)), (1, .int x1), (2, .int a.1)] [] a.2) (fun a y hf hc he => ?_) hf
  obtain ⟨x2, σ⟩ := a
  have hk : (∀ a' : Int32 × XS, y = .inl a' → WW G 6 [(0, .ref (gB G + r0)), (1, .int x1), (2, .int a'.1)] [] a'.2) ∧ (∀ b1 : Int32 × XS, y = .inr b1 → XEnd G (some (.int b1.1)) b1.2) := ⟨hc, fun b e => by have h9 := he b e; subst h9; exact hk⟩
  refine ww_iload_n (pc := 6) C 2 dX9_lakesBelow_6 rfl ?_
  refine ww_aload_n (pc := 7) C 0 dX9_lakesBelow_7 rfl ?_
  obtain ⟨v2, e1, hf⟩ := xbd hf
  refine gf_X9_43 (pc := 8) C e1 dX9_lakesBelow_8 ?_
  refine ww_icmp_ge (pc := 11) (tgt := 51) C dX9_lakesBelow_11 (by decide) (fun q => ?_) (fun q => ?_)
  · have hf := xip q hf
    obtain ⟨b0, hg, e9⟩ := xmj hf
    subst e9
    have hf := hg
    have hk := hk.2 _ rfl
    refine ww_aload_n (pc := 51) C 0 dX9_lakesBelow_51 rfl ?_
    obtain ⟨v4, e3, hf⟩ := xbd hf
    refine gf_X9_78 (pc := 52) C e3 dX9_lakesBelow_52 ?_
    have hf := xsj hf
    subst hf
    exact ww_iret (pc := 55) C hk dX9_lakesBelow_55
  · have hf := xin q hf
    refine ww_iload_n (pc := 14) C 2 dX9_lakesBelow_14 rfl ?_
    refine ww_sipush (pc := 15) (v := (1024 : Int32)) C dX9_lakesBelow_15 (by decide) ?_
    refine ww_icmp_ge (pc := 18) (tgt := 51) C dX9_lakesBelow_18 (by decide) (fun q => ?_) (fun q => ?_)
    · have hf := xip q hf
      obtain ⟨b0, hg, e9⟩ := xmj hf
      subst e9
      have hf := hg
      have hk := hk.2 _ rfl
      refine ww_aload_n (pc := 51) C 0 dX9_lakesBelow_51 rfl ?_
      obtain ⟨v4, e3, hf⟩ := xbd hf
      refine gf_X9_78 (pc := 52) C e3 dX9_lakesBelow_52 ?_
      have hf := xsj hf
      subst hf
      exact ww_iret (pc := 55) C hk dX9_lakesBelow_55
    · have hf := xin q hf
      refine ww_aload_n (pc := 21) C 0 dX9_lakesBelow_21 rfl ?_
      refine ww_aload_n (pc := 22) C 0 dX9_lakesBelow_22 rfl ?_
      obtain ⟨z4, e3, hf⟩ := xbd hf
      refine gf_X9_9 (pc := 23) C e3 dX9_lakesBelow_23 ?_
      refine ww_iload_n (pc := 26) C 2 dX9_lakesBelow_26 rfl ?_
      obtain ⟨v6, e5, hf⟩ := xbd hf
      refine ww_iald (pc := 27) C e5 dX9_lakesBelow_27 ?_
      obtain ⟨_, e7, hf⟩ := xbd hf
      obtain ⟨v9, e8, hf⟩ := xbd hf
      refine ww_callVi (pc := 28) (as := [.int v6]) (st := []) C (k_X9_energyOf (l := gl G) (E := gE G) (hb := gB G) (σ := σ) e8) rfl (by decide) xc_X9_100 q1141 qp101 (xck_spec e7) rfl (by decide) (xst4 (Nat.le_of_ble_eq_true rfl)) xsame.rf.le xsame.rf.lim dX9_lakesBelow_28 ?_
      refine ww_iload_n (pc := 31) C 1 dX9_lakesBelow_31 rfl ?_
      refine ww_icmp_gt (pc := 32) (tgt := 51) C dX9_lakesBelow_32 (by decide) (fun q => ?_) (fun q => ?_)
      · have hf := xip q hf
        obtain ⟨b0, hg, e9⟩ := xmj hf
        subst e9
        have hf := hg
        have hk := hk.2 _ rfl
        refine ww_aload_n (pc := 51) C 0 dX9_lakesBelow_51 rfl ?_
        obtain ⟨v11, e10, hf⟩ := xbd hf
        refine gf_X9_78 (pc := 52) C e10 dX9_lakesBelow_52 ?_
        have hf := xsj hf
        subst hf
        exact ww_iret (pc := 55) C hk dX9_lakesBelow_55
      · have hf := xin q hf
        refine ww_aload_n (pc := 35) C 0 dX9_lakesBelow_35 rfl ?_
        refine ww_aload_n (pc := 36) C 0 dX9_lakesBelow_36 rfl ?_
        obtain ⟨z11, e10, hf⟩ := xbd hf
        refine gf_X9_9 (pc := 37) C e10 dX9_lakesBelow_37 ?_
        refine ww_iload_n (pc := 40) C 2 dX9_lakesBelow_40 rfl ?_
        obtain ⟨v13, e12, hf⟩ := xbd hf
        refine ww_iald (pc := 41) C e12 dX9_lakesBelow_41 ?_
        obtain ⟨_, e14, hf⟩ := xbd hf
        obtain ⟨σ16, e15, hf⟩ := xbd hf
        refine ww_callVv (pc := 42) (as := [.int v13]) (st := []) C (k_X9_flood (l := gl G) (E := gE G) (hb := gB G) (σ := σ) e15) rfl (by decide) xc_X9_96 q1165 qp105 (xck_spec e14) rfl (by decide) (xst4 (Nat.le_of_ble_eq_true rfl)) (m_X9_flood e15).le (m_X9_flood e15).lim dX9_lakesBelow_42 ?_
        refine ww_iinc (pc := 45) (v := x2 + (1 : Int32)) (lv' := [(2, .int (x2 + (1 : Int32))), (0, .ref (gB G + r0)), (1, .int x1)]) C 2 dX9_lakesBelow_45 rfl (congrArg (fun z => x2 + z) (show Int32.ofInt (1) = (1 : Int32) by decide)) (by decide) rfl ?_
        refine ww_goto (pc := 48) (tgt := 6) C dX9_lakesBelow_48 (by decide) ?_
        have hf := xsj hf
        subst hf
        refine ww_sub [1, 2, 0] rfl ?_
        exact hk.1 (x2 + (1 : Int32), σ16) rfl
theorem s_X9_lakesBelow_e {G : XG} (C : XC G cX9_lakesBelow RX9 (some .int) 3 5 111) {σ : XS} {r0 : Nat} {x1 : Int32} {x : Int32 × XS} (hf : f_X9_lakesBelow σ r0 x1 = some x) (hk : XEnd G (some (.int x.1)) x.2) : WW G 0 [(0, .ref (gB G + r0)), (1, .int x1)] [] σ := by
  refine ww_aload_n (pc := 0) C 0 dX9_lakesBelow_0 rfl ?_
  obtain ⟨_, e1, hf⟩ := xbd hf
  obtain ⟨σ3, e2, hf⟩ := xbd hf
  refine ww_callVv (pc := 1) (as := []) (st := []) C (k_X9_dry (l := gl G) (E := gE G) (hb := gB G) (σ := σ) e2) rfl (by decide) xc_X9_93 q1160 qp104 (xck_spec e1) rfl (by decide) (xst4 (Nat.le_of_ble_eq_true rfl)) (m_X9_dry e2).le (m_X9_dry e2).lim dX9_lakesBelow_1 ?_
  refine ww_iconst (pc := 4) (v := (0 : Int32)) C dX9_lakesBelow_4 (by decide) ?_
  refine ww_istore_n (pc := 5) (lv' := [(2, .int (0 : Int32)), (0, .ref (gB G + r0)), (1, .int x1)]) C dX9_lakesBelow_5 (by decide) rfl ?_
  refine ww_sub [1, 2, 0] rfl ?_
  exact s_X9_lakesBelow_l6 C (a := ((0 : Int32), σ3)) hf hk
theorem m_X9_lakesBelow {σ : XS} {r0 : Nat} {x1 : Int32} {x : Int32 × XS} (hf : f_X9_lakesBelow σ r0 x1 = some x) : xsame σ x.2 := by
  have hm := xsame.rf (σ := σ)
  obtain ⟨_, e1, hf⟩ := xbd hf
  obtain ⟨σ3, e2, hf⟩ := xbd hf
  have hm := hm.tr (m_X9_dry e2)
  exact hm.tr (m_X9_lakesBelow_l6 (a := ((0 : Int32), σ3)) hf)
theorem k_X9_lakesBelow {l : Launch} {E : XD} {hb : Nat} {σ : XS} {r0 : Nat} {x1 : Int32} {x : Int32 × XS} (h : f_X9_lakesBelow σ r0 x1 = some x) : XM l yX9_lakesBelow cX9_lakesBelow 3 (some .int) 5 111 E hb [.ref (hb + r0), .int x1] σ (some (.int x.1)) x.2 := by
  refine xm_of (by decide) (Nat.le_of_ble_eq_true rfl) (m_X9_lakesBelow h).le (fun G hG C hl hQ => ?_)
  obtain ⟨rfl, rfl, rfl, hN⟩ := hG
  exact s_X9_lakesBelow_e C h hQ
noncomputable def f_X11_lakes_j14 (σ : XS) (x1 : Int32) (t0 : Nat) : Option (Int32 × XS) := (xck σ t0 9).bind fun _ => (f_X9_lakesBelow σ t0 x1).bind fun (v4, σ3) => some (v4, σ3)
noncomputable def f_X11_lakes (σ : XS) (r0 : Nat) (x1 : Int32) : Option (Int32 × XS) := (xck σ r0 11).bind fun _ => (f_X11_isSmall σ r0).bind fun v3 => if v3 = 0 then (some ((-100000 : Int32), σ)) else (xck σ r0 11).bind fun _ => (f_X11_terrainNow σ r0).bind fun (z7, σ6) => (xnz z7).bind fun _ => f_X11_lakes_j14 σ6 x1 z7
theorem s_X11_lakes_j14 {G : XG} (C : XC G cX11_lakes RX11 (some .int) 2 6 136) {σ : XS} {x1 : Int32} {t0 : Nat} {x : Int32 × XS} (hf : f_X11_lakes_j14 σ x1 t0 = some x) (hk : XEnd G (some (.int x.1)) x.2 ∧ XUp G x.2) : WW G 14 [(1, .int x1)] [.ref (gB G + t0)] σ := by
  refine ww_iload_n (pc := 14) C 0 dX11_lakes_14 rfl ?_
  obtain ⟨_, e1, hf⟩ := xbd hf
  obtain ⟨⟨v4, σ3⟩, e2, hf⟩ := xbd hf
  dsimp only at hf
  refine ww_callVi (pc := 15) (as := [.int x1]) (st := []) C (k_X9_lakesBelow (l := gl G) (E := gE G) (hb := gB G) (σ := σ) e2) rfl (by decide) xc_X11_426 q1191 qp109 (xck_spec e1) rfl (by decide) (xst4 (Nat.le_of_ble_eq_true rfl)) (m_X9_lakesBelow e2).le (m_X9_lakesBelow e2).lim dX11_lakes_15 ?_
  have hf := xsj hf
  subst hf
  exact ww_iret (pc := 18) C hk.1 dX11_lakes_18
theorem m_X11_lakes_j14 {σ : XS} {x1 : Int32} {t0 : Nat} {x : Int32 × XS} (hf : f_X11_lakes_j14 σ x1 t0 = some x) : xext σ x.2 := by
  have hm := xext.rf (σ := σ)
  obtain ⟨_, e1, hf⟩ := xbd hf
  obtain ⟨⟨v4, σ3⟩, e2, hf⟩ := xbd hf
  dsimp only at hf
  have hm := hm.tr (m_X9_lakesBelow e2).ext
  have hf := xsj hf
  subst hf
  exact hm
theorem s_X11_lakes_e {G : XG} (C : XC G cX11_lakes RX11 (some .int) 2 6 136) {σ : XS} {r0 : Nat} {x1 : Int32} {x : Int32 × XS} (hf : f_X11_lakes σ r0 x1 = some x) (hk : XEnd G (some (.int x.1)) x.2 ∧ XUp G x.2) : WW G 0 [(0, .ref (gB G + r0)), (1, .int x1)] [] σ := by
  refine ww_aload_n (pc := 0) C 0 dX11_lakes_0 rfl ?_
  obtain ⟨_, e1, hf⟩ := xbd hf
  obtain ⟨v3, e2, hf⟩ := xbd hf
  refine ww_callVi (pc := 1) (as := []) (st := []) C (k_X11_isSmall (l := gl G) (E := gE G) (hb := gB G) (σ := σ) e2) rfl (by decide) xc_X11_408 q1110 qp94 (xck_spec e1) rfl (by decide) (xst4 (Nat.le_of_ble_eq_true rfl)) xsame.rf.le xsame.rf.lim dX11_lakes_1 ?_
  refine ww_if_ne (pc := 4) (tgt := 10) C dX11_lakes_4 (by decide) (fun q => ?_) (fun q => ?_)
  · have hf := xin q hf
    refine ww_aload_n (pc := 10) C 0 dX11_lakes_10 rfl ?_
    obtain ⟨_, e4, hf⟩ := xbd hf
    obtain ⟨⟨z7, σ6⟩, e5, hf⟩ := xbd hf
    dsimp only at hf
    obtain ⟨_, e8, hf⟩ := xbd hf
    refine ww_callVr (pc := 11) (as := []) (st := []) C (k_X11_terrainNow (l := gl G) (E := gE G) (hb := gB G) (σ := σ) e5) rfl (by decide) xc_X11_412 q1114 qp95 (xck_spec e4) rfl (by decide) (xst4 (Nat.le_of_ble_eq_true rfl)) (m_X11_terrainNow e5).1 (fun q => by have hm9 := m_X11_lakes_j14 hf; exact XLim.mid q (m_X11_terrainNow e5) hm9 hk.2) dX11_lakes_11 ?_
    refine ww_nn (xnz_spec e8) ?_
    refine ww_sub [1] rfl ?_
    exact s_X11_lakes_j14 C hf hk
  · have hf := xip q hf
    refine ww_ldc (pc := 7) C q801 dX11_lakes_7 ?_
    have hf := xsj hf
    subst hf
    exact ww_iret (pc := 9) C hk.1 dX11_lakes_9
theorem m_X11_lakes {σ : XS} {r0 : Nat} {x1 : Int32} {x : Int32 × XS} (hf : f_X11_lakes σ r0 x1 = some x) : xext σ x.2 := by
  have hm := xext.rf (σ := σ)
  obtain ⟨_, e1, hf⟩ := xbd hf
  obtain ⟨v3, e2, hf⟩ := xbd hf
  by_cases q : v3 = 0
  · have hf := xip q hf
    have hf := xsj hf
    subst hf
    exact hm
  · have hf := xin q hf
    obtain ⟨_, e4, hf⟩ := xbd hf
    obtain ⟨⟨z7, σ6⟩, e5, hf⟩ := xbd hf
    dsimp only at hf
    have hm := hm.tr (m_X11_terrainNow e5)
    obtain ⟨_, e8, hf⟩ := xbd hf
    exact hm.tr (m_X11_lakes_j14 hf)
theorem k_X11_lakes {l : Launch} {E : XD} {hb : Nat} {σ : XS} {r0 : Nat} {x1 : Int32} {x : Int32 × XS} (h : f_X11_lakes σ r0 x1 = some x) : XM l yX11_lakes cX11_lakes 2 (some .int) 6 136 E hb [.ref (hb + r0), .int x1] σ (some (.int x.1)) x.2 := by
  refine xm_of (by decide) (Nat.le_of_ble_eq_true rfl) (m_X11_lakes h).1 (fun G hG C hl hQ => ?_)
  obtain ⟨rfl, rfl, rfl, hN⟩ := hG
  exact s_X11_lakes_e C h ⟨hQ, hl.2⟩
noncomputable def f_X4_hasLevel (σ : XS) (r0 : Nat) (x1 : Int32) : Option Int32 := if x1 < 0 then (some (0 : Int32)) else (xgI σ r0 4 4).bind fun v2 => if v2 ≤ x1 then (some (0 : Int32)) else some (1 : Int32)
theorem s_X4_hasLevel_e {G : XG} (C : XC G cX4_hasLevel RX4 (some .boolean) 2 0 0) {σ : XS} {r0 : Nat} {x1 : Int32} {x : Int32} (hf : f_X4_hasLevel σ r0 x1 = some x) (hk : XEnd G (some (.int x)) σ) : WW G 0 [(0, .ref (gB G + r0)), (1, .int x1)] [] σ := by
  refine ww_iload_n (pc := 0) C 1 dX4_hasLevel_0 rfl ?_
  refine ww_if_lt (pc := 1) (tgt := 16) C dX4_hasLevel_1 (by decide) (fun q => ?_) (fun q => ?_)
  · have hf := xip q hf
    refine ww_iconst (pc := 16) (v := (0 : Int32)) C dX4_hasLevel_16 (by decide) ?_
    have hf := xsj hf
    subst hf
    exact ww_zret (pc := 17) C rfl hk dX4_hasLevel_17
  · have hf := xin q hf
    refine ww_iload_n (pc := 4) C 1 dX4_hasLevel_4 rfl ?_
    refine ww_aload_n (pc := 5) C 0 dX4_hasLevel_5 rfl ?_
    obtain ⟨v2, e1, hf⟩ := xbd hf
    refine gf_X4_54 (pc := 6) C e1 dX4_hasLevel_6 ?_
    refine ww_icmp_ge (pc := 9) (tgt := 16) C dX4_hasLevel_9 (by decide) (fun q => ?_) (fun q => ?_)
    · have hf := xip q hf
      refine ww_iconst (pc := 16) (v := (0 : Int32)) C dX4_hasLevel_16 (by decide) ?_
      have hf := xsj hf
      subst hf
      exact ww_zret (pc := 17) C rfl hk dX4_hasLevel_17
    · have hf := xin q hf
      refine ww_iconst (pc := 12) (v := (1 : Int32)) C dX4_hasLevel_12 (by decide) ?_
      refine ww_goto (pc := 13) (tgt := 17) C dX4_hasLevel_13 (by decide) ?_
      have hf := xsj hf
      subst hf
      exact ww_zret (pc := 17) C rfl hk dX4_hasLevel_17
theorem k_X4_hasLevel {l : Launch} {E : XD} {hb : Nat} {σ : XS} {r0 : Nat} {x1 : Int32} {x : Int32} (h : f_X4_hasLevel σ r0 x1 = some x) : XM l yX4_hasLevel cX4_hasLevel 2 (some .boolean) 0 0 E hb [.ref (hb + r0), .int x1] σ (some (.int x)) σ := by
  refine xm_of (by decide) (Nat.le_of_ble_eq_true rfl) ⟨Nat.le_refl _, Nat.le_refl _⟩ (fun G hG C hl hQ => ?_)
  obtain ⟨rfl, rfl, rfl, hN⟩ := hG
  exact s_X4_hasLevel_e C h hQ
noncomputable def f_X4_fewestUps_b2 (σ : XS) (r0 : Nat) (x1 : Int32) : Int32 → Option ((Int32) ⊕ (Int32)) := fun a => match a with
  | x2 => if (17 : Int32) ≤ x2 then ((some (-100000 : Int32)).map .inr) else (xck σ r0 4).bind fun _ => (f_X4_waysWithUps σ r0 x1 x2).bind fun v3 => if v3 ≤ 0 then (some (.inl (x2 + (1 : Int32)))) else (some x2).map .inr
noncomputable def f_X4_fewestUps (σ : XS) (r0 : Nat) (x1 : Int32) : Option Int32 := xloop (f_X4_fewestUps_b2 σ r0 x1) (0 : Int32)
theorem s_X4_fewestUps_l2 {G : XG} (C : XC G cX4_fewestUps RX4 (some .int) 3 2 43) {σ : XS} {r0 : Nat} {x1 : Int32} {a : Int32} {x : Int32} (hf : xloop (f_X4_fewestUps_b2 σ r0 x1) a = some x) (hk : XEnd G (some (.int x)) σ) : WW G 2 [(0, .ref (gB G + r0)), (1, .int x1), (2, .int a)] [] σ := by
  refine xloop_ind (P := fun a => WW G 2 [(0, .ref (gB G + r0)), (1, .int x1), (2, .int a)] [] σ) (fun a y hf hc he => ?_) hf
  obtain ⟨x2, rfl⟩ : ∃ z, z = a := ⟨_, rfl⟩
  have hk : (∀ a' : Int32, y = .inl a' → WW G 2 [(0, .ref (gB G + r0)), (1, .int x1), (2, .int a')] [] σ) ∧ (∀ b1 : Int32, y = .inr b1 → XEnd G (some (.int b1)) σ) := ⟨hc, fun b e => by have h9 := he b e; subst h9; exact hk⟩
  refine ww_iload_n (pc := 2) C 2 dX4_fewestUps_2 rfl ?_
  refine ww_bipush (pc := 3) (v := (17 : Int32)) C dX4_fewestUps_3 (by decide) ?_
  refine ww_icmp_ge (pc := 5) (tgt := 25) C dX4_fewestUps_5 (by decide) (fun q => ?_) (fun q => ?_)
  · have hf := xip q hf
    obtain ⟨b0, hg, e9⟩ := xmj hf
    subst e9
    have hf := hg
    have hk := hk.2 _ rfl
    refine ww_ldc (pc := 25) C q923 dX4_fewestUps_25 ?_
    have hf := xsj hf
    subst hf
    exact ww_iret (pc := 27) C hk dX4_fewestUps_27
  · have hf := xin q hf
    refine ww_aload_n (pc := 8) C 0 dX4_fewestUps_8 rfl ?_
    refine ww_iload_n (pc := 9) C 1 dX4_fewestUps_9 rfl ?_
    refine ww_iload_n (pc := 10) C 2 dX4_fewestUps_10 rfl ?_
    obtain ⟨_, e1, hf⟩ := xbd hf
    obtain ⟨v3, e2, hf⟩ := xbd hf
    refine ww_callVi (pc := 11) (as := [.int x1, .int x2]) (st := []) C (k_X4_waysWithUps (l := gl G) (E := gE G) (hb := gB G) (σ := σ) e2) rfl (by decide) xc_X4_61 q921 qp72 (xck_spec e1) rfl (by decide) (xst4 (Nat.le_of_ble_eq_true rfl)) xsame.rf.le xsame.rf.lim dX4_fewestUps_11 ?_
    refine ww_if_le (pc := 14) (tgt := 19) C dX4_fewestUps_14 (by decide) (fun q => ?_) (fun q => ?_)
    · have hf := xip q hf
      refine ww_iinc (pc := 19) (v := x2 + (1 : Int32)) (lv' := [(2, .int (x2 + (1 : Int32))), (0, .ref (gB G + r0)), (1, .int x1)]) C 2 dX4_fewestUps_19 rfl (congrArg (fun z => x2 + z) (show Int32.ofInt (1) = (1 : Int32) by decide)) (by decide) rfl ?_
      refine ww_goto (pc := 22) (tgt := 2) C dX4_fewestUps_22 (by decide) ?_
      have hf := xsj hf
      subst hf
      refine ww_sub [1, 2, 0] rfl ?_
      exact hk.1 (x2 + (1 : Int32)) rfl
    · have hf := xin q hf
      obtain ⟨b0, hg, e9⟩ := xmj hf
      subst e9
      have hf := hg
      have hk := hk.2 _ rfl
      refine ww_iload_n (pc := 17) C 2 dX4_fewestUps_17 rfl ?_
      have hf := xsj hf
      subst hf
      exact ww_iret (pc := 18) C hk dX4_fewestUps_18
theorem s_X4_fewestUps_e {G : XG} (C : XC G cX4_fewestUps RX4 (some .int) 3 2 43) {σ : XS} {r0 : Nat} {x1 : Int32} {x : Int32} (hf : f_X4_fewestUps σ r0 x1 = some x) (hk : XEnd G (some (.int x)) σ) : WW G 0 [(0, .ref (gB G + r0)), (1, .int x1)] [] σ := by
  refine ww_iconst (pc := 0) (v := (0 : Int32)) C dX4_fewestUps_0 (by decide) ?_
  refine ww_istore_n (pc := 1) (lv' := [(2, .int (0 : Int32)), (0, .ref (gB G + r0)), (1, .int x1)]) C dX4_fewestUps_1 (by decide) rfl ?_
  refine ww_sub [1, 2, 0] rfl ?_
  exact s_X4_fewestUps_l2 C (a := (0 : Int32)) hf hk
theorem k_X4_fewestUps {l : Launch} {E : XD} {hb : Nat} {σ : XS} {r0 : Nat} {x1 : Int32} {x : Int32} (h : f_X4_fewestUps σ r0 x1 = some x) : XM l yX4_fewestUps cX4_fewestUps 3 (some .int) 2 43 E hb [.ref (hb + r0), .int x1] σ (some (.int x)) σ := by
  refine xm_of (by decide) (Nat.le_of_ble_eq_true rfl) ⟨Nat.le_refl _, Nat.le_refl _⟩ (fun G hG C hl hQ => ?_)
  obtain ⟨rfl, rfl, rfl, hN⟩ := hG
  exact s_X4_fewestUps_e C h hQ
noncomputable def f_X4_mostUps_b3 (σ : XS) (r0 : Nat) (x1 : Int32) : Int32 → Option ((Int32) ⊕ (Int32)) := fun a => match a with
  | x2 => if x2 < 0 then ((some (-100000 : Int32)).map .inr) else (xck σ r0 4).bind fun _ => (f_X4_waysWithUps σ r0 x1 x2).bind fun v3 => if v3 ≤ 0 then (some (.inl (x2 + (-1 : Int32)))) else (some x2).map .inr
noncomputable def f_X4_mostUps (σ : XS) (r0 : Nat) (x1 : Int32) : Option Int32 := xloop (f_X4_mostUps_b3 σ r0 x1) (16 : Int32)
theorem s_X4_mostUps_l3 {G : XG} (C : XC G cX4_mostUps RX4 (some .int) 3 2 43) {σ : XS} {r0 : Nat} {x1 : Int32} {a : Int32} {x : Int32} (hf : xloop (f_X4_mostUps_b3 σ r0 x1) a = some x) (hk : XEnd G (some (.int x)) σ) : WW G 3 [(0, .ref (gB G + r0)), (1, .int x1), (2, .int a)] [] σ := by
  refine xloop_ind (P := fun a => WW G 3 [(0, .ref (gB G + r0)), (1, .int x1), (2, .int a)] [] σ) (fun a y hf hc he => ?_) hf
  obtain ⟨x2, rfl⟩ : ∃ z, z = a := ⟨_, rfl⟩
  have hk : (∀ a' : Int32, y = .inl a' → WW G 3 [(0, .ref (gB G + r0)), (1, .int x1), (2, .int a')] [] σ) ∧ (∀ b1 : Int32, y = .inr b1 → XEnd G (some (.int b1)) σ) := ⟨hc, fun b e => by have h9 := he b e; subst h9; exact hk⟩
  refine ww_iload_n (pc := 3) C 2 dX4_mostUps_3 rfl ?_
  refine ww_if_lt (pc := 4) (tgt := 24) C dX4_mostUps_4 (by decide) (fun q => ?_) (fun q => ?_)
  · have hf := xip q hf
    obtain ⟨b0, hg, e9⟩ := xmj hf
    subst e9
    have hf := hg
    have hk := hk.2 _ rfl
    refine ww_ldc (pc := 24) C q923 dX4_mostUps_24 ?_
    have hf := xsj hf
    subst hf
    exact ww_iret (pc := 26) C hk dX4_mostUps_26
  · have hf := xin q hf
    refine ww_aload_n (pc := 7) C 0 dX4_mostUps_7 rfl ?_
    refine ww_iload_n (pc := 8) C 1 dX4_mostUps_8 rfl ?_
    refine ww_iload_n (pc := 9) C 2 dX4_mostUps_9 rfl ?_
    obtain ⟨_, e1, hf⟩ := xbd hf
    obtain ⟨v3, e2, hf⟩ := xbd hf
    refine ww_callVi (pc := 10) (as := [.int x1, .int x2]) (st := []) C (k_X4_waysWithUps (l := gl G) (E := gE G) (hb := gB G) (σ := σ) e2) rfl (by decide) xc_X4_61 q921 qp72 (xck_spec e1) rfl (by decide) (xst4 (Nat.le_of_ble_eq_true rfl)) xsame.rf.le xsame.rf.lim dX4_mostUps_10 ?_
    refine ww_if_le (pc := 13) (tgt := 18) C dX4_mostUps_13 (by decide) (fun q => ?_) (fun q => ?_)
    · have hf := xip q hf
      refine ww_iinc (pc := 18) (v := x2 + (-1 : Int32)) (lv' := [(2, .int (x2 + (-1 : Int32))), (0, .ref (gB G + r0)), (1, .int x1)]) C 2 dX4_mostUps_18 rfl (congrArg (fun z => x2 + z) (show Int32.ofInt (-1) = (-1 : Int32) by decide)) (by decide) rfl ?_
      refine ww_goto (pc := 21) (tgt := 3) C dX4_mostUps_21 (by decide) ?_
      have hf := xsj hf
      subst hf
      refine ww_sub [1, 2, 0] rfl ?_
      exact hk.1 (x2 + (-1 : Int32)) rfl
    · have hf := xin q hf
      obtain ⟨b0, hg, e9⟩ := xmj hf
      subst e9
      have hf := hg
      have hk := hk.2 _ rfl
      refine ww_iload_n (pc := 16) C 2 dX4_mostUps_16 rfl ?_
      have hf := xsj hf
      subst hf
      exact ww_iret (pc := 17) C hk dX4_mostUps_17
theorem s_X4_mostUps_e {G : XG} (C : XC G cX4_mostUps RX4 (some .int) 3 2 43) {σ : XS} {r0 : Nat} {x1 : Int32} {x : Int32} (hf : f_X4_mostUps σ r0 x1 = some x) (hk : XEnd G (some (.int x)) σ) : WW G 0 [(0, .ref (gB G + r0)), (1, .int x1)] [] σ := by
  refine ww_bipush (pc := 0) (v := (16 : Int32)) C dX4_mostUps_0 (by decide) ?_
  refine ww_istore_n (pc := 2) (lv' := [(2, .int (16 : Int32)), (0, .ref (gB G + r0)), (1, .int x1)]) C dX4_mostUps_2 (by decide) rfl ?_
  refine ww_sub [1, 2, 0] rfl ?_
  exact s_X4_mostUps_l3 C (a := (16 : Int32)) hf hk
theorem k_X4_mostUps {l : Launch} {E : XD} {hb : Nat} {σ : XS} {r0 : Nat} {x1 : Int32} {x : Int32} (h : f_X4_mostUps σ r0 x1 = some x) : XM l yX4_mostUps cX4_mostUps 3 (some .int) 2 43 E hb [.ref (hb + r0), .int x1] σ (some (.int x)) σ := by
  refine xm_of (by decide) (Nat.le_of_ble_eq_true rfl) ⟨Nat.le_refl _, Nat.le_refl _⟩ (fun G hG C hl hQ => ?_)
  obtain ⟨rfl, rfl, rfl, hN⟩ := hG
  exact s_X4_mostUps_e C h hQ
noncomputable def f_X11_level_j4 (σ : XS) (x1 : Int32) (x2 : Int32) (t0 : Nat) : Option (Int32 × XS) := if x1 = (-1 : Int32) then ((xgI σ t0 4 4).bind fun v2 => some (v2, σ)) else (xck σ t0 4).bind fun _ => (f_X4_hasLevel σ t0 x1).bind fun v3 => if v3 = 0 then (some ((-100000 : Int32), σ)) else (xck σ t0 4).bind fun _ => (f_X4_energyOf σ t0 x1).bind fun v6 => xsw x2 (0) [some (v6, σ), (xck σ t0 4).bind fun _ => (f_X4_waysOf σ t0 v6).bind fun v9 => some (v9, σ), (xck σ t0 4).bind fun _ => (f_X4_leastOf σ t0 v6).bind fun v9 => some (v9, σ), (xck σ t0 4).bind fun _ => (f_X4_fewestUps σ t0 v6).bind fun v9 => some (v9, σ), (xck σ t0 4).bind fun _ => (f_X4_mostUps σ t0 v6).bind fun v9 => some (v9, σ)] (some ((-100000 : Int32), σ))
noncomputable def f_X11_level (σ : XS) (r0 : Nat) (x1 : Int32) (x2 : Int32) : Option (Int32 × XS) := (xck σ r0 11).bind fun _ => (f_X11_levelsNow σ r0).bind fun (z4, σ3) => (xnz z4).bind fun _ => f_X11_level_j4 σ3 x1 x2 z4
theorem s_X11_level_j4 {G : XG} (C : XC G cX11_level RX11 (some .int) 5 5 115) {σ : XS} {x1 : Int32} {x2 : Int32} {t0 : Nat} {x : Int32 × XS} (hf : f_X11_level_j4 σ x1 x2 t0 = some x) (hk : XEnd G (some (.int x.1)) x.2 ∧ XUp G x.2) : WW G 4 [(1, .int x1), (2, .int x2)] [.ref (gB G + t0)] σ := by
  refine ww_astore_n (pc := 4) (lv' := [(3, .ref (gB G + t0)), (1, .int x1), (2, .int x2)]) C dX11_level_4 (by decide) rfl ?_
  refine ww_iload_n (pc := 5) C 1 dX11_level_5 rfl ?_
  refine ww_iconst (pc := 6) (v := (-1 : Int32)) C dX11_level_6 (by decide) ?_
  refine ww_icmp_ne (pc := 7) (tgt := 15) C dX11_level_7 (by decide) (fun q => ?_) (fun q => ?_)
  · have hf := xin q hf
    refine ww_aload_n (pc := 15) C 0 dX11_level_15 rfl ?_
    refine ww_iload_n (pc := 16) C 1 dX11_level_16 rfl ?_
    obtain ⟨_, e1, hf⟩ := xbd hf
    obtain ⟨v3, e2, hf⟩ := xbd hf
    refine ww_callVi (pc := 17) (as := [.int x1]) (st := []) C (k_X4_hasLevel (l := gl G) (E := gE G) (hb := gB G) (σ := σ) e2) rfl (by decide) xc_X11_258 q898 qp67 (xck_spec e1) rfl (by decide) (xst4 (Nat.le_of_ble_eq_true rfl)) xsame.rf.le xsame.rf.lim dX11_level_17 ?_
    refine ww_if_ne (pc := 20) (tgt := 26) C dX11_level_20 (by decide) (fun q => ?_) (fun q => ?_)
    · have hf := xin q hf
      refine ww_aload_n (pc := 26) C 0 dX11_level_26 rfl ?_
      refine ww_iload_n (pc := 27) C 1 dX11_level_27 rfl ?_
      obtain ⟨_, e4, hf⟩ := xbd hf
      obtain ⟨v6, e5, hf⟩ := xbd hf
      refine ww_callVi (pc := 28) (as := [.int x1]) (st := []) C (k_X4_energyOf (l := gl G) (E := gE G) (hb := gB G) (σ := σ) e5) rfl (by decide) xc_X11_261 q902 qp68 (xck_spec e4) rfl (by decide) (xst4 (Nat.le_of_ble_eq_true rfl)) xsame.rf.le xsame.rf.lim dX11_level_28 ?_
      refine ww_istore (pc := 31) (lv' := [(4, .int v6), (3, .ref (gB G + t0)), (1, .int x1), (2, .int x2)]) C dX11_level_31 (by decide) rfl ?_
      refine ww_iload_n (pc := 33) C 3 dX11_level_33 rfl ?_
      refine ww_table (pc := 34) C dX11_level_34 (fun k hk1 hk2 => ?_) (fun ho => ?_)
      · rcases (by omega : k = 0 ∨ k = 1 ∨ k = 2 ∨ k = 3 ∨ k = 4) with rfl | rfl | rfl | rfl | rfl
        · refine ⟨68, 34, rfl, by decide, ?_⟩
          have hf := xsw_in 0 hk1 rfl hf
          refine ww_iload (pc := 68) C 0 dX11_level_68 rfl ?_
          have hf := xsj hf
          subst hf
          exact ww_iret (pc := 70) C hk.1 dX11_level_70
        · refine ⟨71, 37, rfl, by decide, ?_⟩
          have hf := xsw_in 1 hk1 rfl hf
          refine ww_aload_n (pc := 71) C 1 dX11_level_71 rfl ?_
          refine ww_iload (pc := 72) C 0 dX11_level_72 rfl ?_
          obtain ⟨_, e7, hf⟩ := xbd hf
          obtain ⟨v9, e8, hf⟩ := xbd hf
          refine ww_callVi (pc := 74) (as := [.int v6]) (st := []) C (k_X4_waysOf (l := gl G) (E := gE G) (hb := gB G) (σ := σ) e8) rfl (by decide) xc_X11_264 q906 qp69 (xck_spec e7) rfl (by decide) (xst4 (Nat.le_of_ble_eq_true rfl)) xsame.rf.le xsame.rf.lim dX11_level_74 ?_
          have hf := xsj hf
          subst hf
          exact ww_iret (pc := 77) C hk.1 dX11_level_77
        · refine ⟨78, 44, rfl, by decide, ?_⟩
          have hf := xsw_in 2 hk1 rfl hf
          refine ww_aload_n (pc := 78) C 1 dX11_level_78 rfl ?_
          refine ww_iload (pc := 79) C 0 dX11_level_79 rfl ?_
          obtain ⟨_, e7, hf⟩ := xbd hf
          obtain ⟨v9, e8, hf⟩ := xbd hf
          refine ww_callVi (pc := 81) (as := [.int v6]) (st := []) C (k_X4_leastOf (l := gl G) (E := gE G) (hb := gB G) (σ := σ) e8) rfl (by decide) xc_X11_267 q913 qp70 (xck_spec e7) rfl (by decide) (xst4 (Nat.le_of_ble_eq_true rfl)) xsame.rf.le xsame.rf.lim dX11_level_81 ?_
          have hf := xsj hf
          subst hf
          exact ww_iret (pc := 84) C hk.1 dX11_level_84
        · refine ⟨85, 51, rfl, by decide, ?_⟩
          have hf := xsw_in 3 hk1 rfl hf
          refine ww_aload_n (pc := 85) C 1 dX11_level_85 rfl ?_
          refine ww_iload (pc := 86) C 0 dX11_level_86 rfl ?_
          obtain ⟨_, e7, hf⟩ := xbd hf
          obtain ⟨v9, e8, hf⟩ := xbd hf
          refine ww_callVi (pc := 88) (as := [.int v6]) (st := []) C (k_X4_fewestUps (l := gl G) (E := gE G) (hb := gB G) (σ := σ) e8) rfl (by decide) xc_X11_270 q917 qp71 (xck_spec e7) rfl (by decide) (xst4 (Nat.le_of_ble_eq_true rfl)) xsame.rf.le xsame.rf.lim dX11_level_88 ?_
          have hf := xsj hf
          subst hf
          exact ww_iret (pc := 91) C hk.1 dX11_level_91
        · refine ⟨92, 58, rfl, by decide, ?_⟩
          have hf := xsw_in 4 hk1 rfl hf
          refine ww_aload_n (pc := 92) C 1 dX11_level_92 rfl ?_
          refine ww_iload (pc := 93) C 0 dX11_level_93 rfl ?_
          obtain ⟨_, e7, hf⟩ := xbd hf
          obtain ⟨v9, e8, hf⟩ := xbd hf
          refine ww_callVi (pc := 95) (as := [.int v6]) (st := []) C (k_X4_mostUps (l := gl G) (E := gE G) (hb := gB G) (σ := σ) e8) rfl (by decide) xc_X11_273 q926 qp73 (xck_spec e7) rfl (by decide) (xst4 (Nat.le_of_ble_eq_true rfl)) xsame.rf.le xsame.rf.lim dX11_level_95 ?_
          have hf := xsj hf
          subst hf
          exact ww_iret (pc := 98) C hk.1 dX11_level_98
      · refine ⟨99, by decide, ?_⟩
        have hf := xsw_out ho rfl hf
        refine ww_ldc (pc := 99) C q801 dX11_level_99 ?_
        have hf := xsj hf
        subst hf
        exact ww_iret (pc := 101) C hk.1 dX11_level_101
    · have hf := xip q hf
      refine ww_ldc (pc := 23) C q801 dX11_level_23 ?_
      have hf := xsj hf
      subst hf
      exact ww_iret (pc := 25) C hk.1 dX11_level_25
  · have hf := xip q hf
    refine ww_aload_n (pc := 10) C 0 dX11_level_10 rfl ?_
    obtain ⟨v2, e1, hf⟩ := xbd hf
    refine gf_X11_255 (pc := 11) C e1 dX11_level_11 ?_
    have hf := xsj hf
    subst hf
    exact ww_iret (pc := 14) C hk.1 dX11_level_14
theorem m_X11_level_j4 {σ : XS} {x1 : Int32} {x2 : Int32} {t0 : Nat} {x : Int32 × XS} (hf : f_X11_level_j4 σ x1 x2 t0 = some x) : xext σ x.2 := by
  have hm := xext.rf (σ := σ)
  by_cases q : x1 = (-1 : Int32)
  · have hf := xip q hf
    obtain ⟨v2, e1, hf⟩ := xbd hf
    have hf := xsj hf
    subst hf
    exact hm
  · have hf := xin q hf
    obtain ⟨_, e1, hf⟩ := xbd hf
    obtain ⟨v3, e2, hf⟩ := xbd hf
    by_cases q : v3 = 0
    · have hf := xip q hf
      have hf := xsj hf
      subst hf
      exact hm
    · have hf := xin q hf
      obtain ⟨_, e4, hf⟩ := xbd hf
      obtain ⟨v6, e5, hf⟩ := xbd hf
      by_cases ho : (x2).toInt < 0 ∨ 4 < (x2).toInt
      · have hf := xsw_out ho rfl hf
        have hf := xsj hf
        subst hf
        exact hm
      · rcases (by omega : (x2).toInt = 0 + ((0 : Nat) : Int) ∨ (x2).toInt = 0 + ((1 : Nat) : Int) ∨ (x2).toInt = 0 + ((2 : Nat) : Int) ∨ (x2).toInt = 0 + ((3 : Nat) : Int) ∨ (x2).toInt = 0 + ((4 : Nat) : Int)) with hk1 | hk1 | hk1 | hk1 | hk1
        · have hf := xsw_in 0 hk1 rfl hf
          have hf := xsj hf
          subst hf
          exact hm
        · have hf := xsw_in 1 hk1 rfl hf
          obtain ⟨_, e7, hf⟩ := xbd hf
          obtain ⟨v9, e8, hf⟩ := xbd hf
          have hf := xsj hf
          subst hf
          exact hm
        · have hf := xsw_in 2 hk1 rfl hf
          obtain ⟨_, e7, hf⟩ := xbd hf
          obtain ⟨v9, e8, hf⟩ := xbd hf
          have hf := xsj hf
          subst hf
          exact hm
        · have hf := xsw_in 3 hk1 rfl hf
          obtain ⟨_, e7, hf⟩ := xbd hf
          obtain ⟨v9, e8, hf⟩ := xbd hf
          have hf := xsj hf
          subst hf
          exact hm
        · have hf := xsw_in 4 hk1 rfl hf
          obtain ⟨_, e7, hf⟩ := xbd hf
          obtain ⟨v9, e8, hf⟩ := xbd hf
          have hf := xsj hf
          subst hf
          exact hm
theorem s_X11_level_e {G : XG} (C : XC G cX11_level RX11 (some .int) 5 5 115) {σ : XS} {r0 : Nat} {x1 : Int32} {x2 : Int32} {x : Int32 × XS} (hf : f_X11_level σ r0 x1 x2 = some x) (hk : XEnd G (some (.int x.1)) x.2 ∧ XUp G x.2) : WW G 0 [(0, .ref (gB G + r0)), (1, .int x1), (2, .int x2)] [] σ := by
  refine ww_aload_n (pc := 0) C 0 dX11_level_0 rfl ?_
  obtain ⟨_, e1, hf⟩ := xbd hf
  obtain ⟨⟨z4, σ3⟩, e2, hf⟩ := xbd hf
  dsimp only at hf
  obtain ⟨_, e5, hf⟩ := xbd hf
  refine ww_callVr (pc := 1) (as := []) (st := []) C (k_X11_levelsNow (l := gl G) (E := gE G) (hb := gB G) (σ := σ) e2) rfl (by decide) xc_X11_251 q846 qp56 (xck_spec e1) rfl (by decide) (xst4 (Nat.le_of_ble_eq_true rfl)) (m_X11_levelsNow e2).1 (fun q => by have hm9 := m_X11_level_j4 hf; exact XLim.mid q (m_X11_levelsNow e2) hm9 hk.2) dX11_level_1 ?_
  refine ww_nn (xnz_spec e5) ?_
  refine ww_sub [1, 2] rfl ?_
  exact s_X11_level_j4 C hf hk
theorem m_X11_level {σ : XS} {r0 : Nat} {x1 : Int32} {x2 : Int32} {x : Int32 × XS} (hf : f_X11_level σ r0 x1 x2 = some x) : xext σ x.2 := by
  have hm := xext.rf (σ := σ)
  obtain ⟨_, e1, hf⟩ := xbd hf
  obtain ⟨⟨z4, σ3⟩, e2, hf⟩ := xbd hf
  dsimp only at hf
  have hm := hm.tr (m_X11_levelsNow e2)
  obtain ⟨_, e5, hf⟩ := xbd hf
  exact hm.tr (m_X11_level_j4 hf)
theorem k_X11_level {l : Launch} {E : XD} {hb : Nat} {σ : XS} {r0 : Nat} {x1 : Int32} {x2 : Int32} {x : Int32 × XS} (h : f_X11_level σ r0 x1 x2 = some x) : XM l yX11_level cX11_level 5 (some .int) 5 115 E hb [.ref (hb + r0), .int x1, .int x2] σ (some (.int x.1)) x.2 := by
  refine xm_of (by decide) (Nat.le_of_ble_eq_true rfl) (m_X11_level h).1 (fun G hG C hl hQ => ?_)
  obtain ⟨rfl, rfl, rfl, hN⟩ := hG
  exact s_X11_level_e C h ⟨hQ, hl.2⟩
noncomputable def f_X11_listGround_b13 (r0 : Nat) (x1 : Int32) (x2 : Int32) : Int32 × Int32 × XS → Option ((Int32 × Int32 × XS) ⊕ (Int32 × XS)) := fun a => match a with
  | (x3, x4, σ) => if x2 ≤ x4 then ((some (x3, σ)).map .inr) else (xgR σ r0 11 13).bind fun z2 => (xal σ z2).bind fun v4 => if v4 ≤ x3 then ((some (x3, σ)).map .inr) else (xgR σ r0 11 3).bind fun z6 => (xck σ z6 6).bind fun _ => (f_X6_allows σ z6 x4).bind fun v9 => if v9 = 0 then (some (.inl (x3, x4 + (1 : Int32), σ))) else (xgR σ r0 11 6).bind fun z11 => (xck σ z11 2).bind fun _ => (f_X2_of σ z11 x4).bind fun v14 => if v14 = x1 then ((xgR σ r0 11 13).bind fun z16 => (xsI σ 20 z16 x3 x4).bind fun σ18 => some (.inl (x3 + (1 : Int32), x4 + (1 : Int32), σ18))) else some (.inl (x3, x4 + (1 : Int32), σ))
noncomputable def f_X11_listGround (σ : XS) (r0 : Nat) (x1 : Int32) : Option (Int32 × XS) := (xgR σ r0 11 2).bind fun z2 => (xck σ z2 3).bind fun _ => (f_X3_states σ z2).bind fun v5 => xloop (f_X11_listGround_b13 r0 x1 v5) ((0 : Int32), (0 : Int32), σ)
theorem m_X11_listGround_l13 {r0 : Nat} {x1 : Int32} {x2 : Int32} {a : Int32 × Int32 × XS} {x : Int32 × XS} (hf : xloop (f_X11_listGround_b13 r0 x1 x2) a = some x) : xsame a.2.2 x.2 := by
  refine xloop_ind (P := fun a => xsame a.2.2 x.2) (fun a y hf hc he => ?_) hf
  obtain ⟨x3, x4, σ⟩ := a
  have hy : (∀ a' : Int32 × Int32 × XS, y = .inl a' → xsame σ a'.2.2) ∧ (∀ b1 : Int32 × XS, y = .inr b1 → xsame σ b1.2) := by
    have hm := xsame.rf (σ := σ)
    by_cases q : x2 ≤ x4
    · have hf := xip q hf
      obtain ⟨b0, hg, e9⟩ := xmj hf
      subst e9
      have hf := hg
      refine ⟨fun a' e => xnc2 e, fun b e => ?_⟩
      have h9 := Sum.inr.inj e
      subst h9
      have hf := xsj hf
      subst hf
      exact hm
    · have hf := xin q hf
      obtain ⟨z2, e1, hf⟩ := xbd hf
      obtain ⟨v4, e3, hf⟩ := xbd hf
      by_cases q : v4 ≤ x3
      · have hf := xip q hf
        obtain ⟨b0, hg, e9⟩ := xmj hf
        subst e9
        have hf := hg
        refine ⟨fun a' e => xnc2 e, fun b e => ?_⟩
        have h9 := Sum.inr.inj e
        subst h9
        have hf := xsj hf
        subst hf
        exact hm
      · have hf := xin q hf
        obtain ⟨z6, e5, hf⟩ := xbd hf
        obtain ⟨_, e7, hf⟩ := xbd hf
        obtain ⟨v9, e8, hf⟩ := xbd hf
        by_cases q : v9 = 0
        · have hf := xip q hf
          have hf := xsj hf
          subst hf
          exact ⟨fun a' e => (by have h9 := Sum.inl.inj e; subst h9; exact hm), fun b e => xnc1 e⟩
        · have hf := xin q hf
          obtain ⟨z11, e10, hf⟩ := xbd hf
          obtain ⟨_, e12, hf⟩ := xbd hf
          obtain ⟨v14, e13, hf⟩ := xbd hf
          by_cases q : v14 = x1
          · have hf := xip q hf
            obtain ⟨z16, e15, hf⟩ := xbd hf
            obtain ⟨σ18, e17, hf⟩ := xbd hf
            have hm := hm.tr (xsI_same e17)
            have hf := xsj hf
            subst hf
            exact ⟨fun a' e => (by have h9 := Sum.inl.inj e; subst h9; exact hm), fun b e => xnc1 e⟩
          · have hf := xin q hf
            have hf := xsj hf
            subst hf
            exact ⟨fun a' e => (by have h9 := Sum.inl.inj e; subst h9; exact hm), fun b e => xnc1 e⟩
  cases y with
  | inl a' =>
    have h1 := hc a' rfl
    have hm := hy.1 a' rfl
    exact hm.tr (h1)
  | inr b =>
    have h1 := he b rfl
    subst h1
    exact hy.2 _ rfl
theorem s_X11_listGround_l13 {G : XG} (C : XC G cX11_listGround RX11 (some .int) 5 1 21) {r0 : Nat} {x1 : Int32} {x2 : Int32} {a : Int32 × Int32 × XS} {x : Int32 × XS} (hf : xloop (f_X11_listGround_b13 r0 x1 x2) a = some x) (hk : XEnd G (some (.int x.1)) x.2) : WW G 13 [(0, .ref (gB G + r0)), (1, .int x1), (2, .int x2), (3, .int a.1), (4, .int a.2.1)] [] a.2.2 := by
  refine xloop_ind (P := fun a => WW G 13 [(0, .ref (gB G + r0)), (1, .int x1), (2, .int x2), (3, .int a.1), (4, .int a.2.1)] [] a.2.2) (fun a y hf hc he => ?_) hf
  obtain ⟨x3, x4, σ⟩ := a
  have hk : (∀ a' : Int32 × Int32 × XS, y = .inl a' → WW G 13 [(0, .ref (gB G + r0)), (1, .int x1), (2, .int x2), (3, .int a'.1), (4, .int a'.2.1)] [] a'.2.2) ∧ (∀ b1 : Int32 × XS, y = .inr b1 → XEnd G (some (.int b1.1)) b1.2) := ⟨hc, fun b e => by have h9 := he b e; subst h9; exact hk⟩
  refine ww_iload (pc := 13) C 4 dX11_listGround_13 rfl ?_
  refine ww_iload_n (pc := 15) C 2 dX11_listGround_15 rfl ?_
  refine ww_icmp_ge (pc := 16) (tgt := 70) C dX11_listGround_16 (by decide) (fun q => ?_) (fun q => ?_)
  · have hf := xip q hf
    obtain ⟨b0, hg, e9⟩ := xmj hf
    subst e9
    have hf := hg
    have hk := hk.2 _ rfl
    refine ww_iload_n (pc := 70) C 3 dX11_listGround_70 rfl ?_
    have hf := xsj hf
    subst hf
    exact ww_iret (pc := 71) C hk dX11_listGround_71
  · have hf := xin q hf
    refine ww_iload_n (pc := 19) C 3 dX11_listGround_19 rfl ?_
    refine ww_aload_n (pc := 20) C 0 dX11_listGround_20 rfl ?_
    obtain ⟨z2, e1, hf⟩ := xbd hf
    refine gf_X11_91 (pc := 21) C e1 dX11_listGround_21 ?_
    obtain ⟨v4, e3, hf⟩ := xbd hf
    refine ww_alen (pc := 24) C e3 dX11_listGround_24 ?_
    refine ww_icmp_ge (pc := 25) (tgt := 70) C dX11_listGround_25 (by decide) (fun q => ?_) (fun q => ?_)
    · have hf := xip q hf
      obtain ⟨b0, hg, e9⟩ := xmj hf
      subst e9
      have hf := hg
      have hk := hk.2 _ rfl
      refine ww_iload_n (pc := 70) C 3 dX11_listGround_70 rfl ?_
      have hf := xsj hf
      subst hf
      exact ww_iret (pc := 71) C hk dX11_listGround_71
    · have hf := xin q hf
      refine ww_aload_n (pc := 28) C 0 dX11_listGround_28 rfl ?_
      obtain ⟨z6, e5, hf⟩ := xbd hf
      refine gf_X11_31 (pc := 29) C e5 dX11_listGround_29 ?_
      refine ww_iload (pc := 32) C 4 dX11_listGround_32 rfl ?_
      obtain ⟨_, e7, hf⟩ := xbd hf
      obtain ⟨v9, e8, hf⟩ := xbd hf
      refine ww_callVi (pc := 34) (as := [.int x4]) (st := []) C (k_X6_allows (l := gl G) (E := gE G) (hb := gB G) (σ := σ) e8) rfl (by decide) xc_X11_295 q890 qp65 (xck_spec e7) rfl (by decide) (xst4 (Nat.le_of_ble_eq_true rfl)) xsame.rf.le xsame.rf.lim dX11_listGround_34 ?_
      refine ww_if_eq (pc := 37) (tgt := 64) C dX11_listGround_37 (by decide) (fun q => ?_) (fun q => ?_)
      · have hf := xip q hf
        refine ww_iinc (pc := 64) (v := x4 + (1 : Int32)) (lv' := [(4, .int (x4 + (1 : Int32))), (0, .ref (gB G + r0)), (1, .int x1), (2, .int x2), (3, .int x3)]) C 4 dX11_listGround_64 rfl (congrArg (fun z => x4 + z) (show Int32.ofInt (1) = (1 : Int32) by decide)) (by decide) rfl ?_
        refine ww_goto (pc := 67) (tgt := 13) C dX11_listGround_67 (by decide) ?_
        have hf := xsj hf
        subst hf
        refine ww_sub [1, 2, 3, 4, 0] rfl ?_
        exact hk.1 (x3, x4 + (1 : Int32), σ) rfl
      · have hf := xin q hf
        refine ww_aload_n (pc := 40) C 0 dX11_listGround_40 rfl ?_
        obtain ⟨z11, e10, hf⟩ := xbd hf
        refine gf_X11_52 (pc := 41) C e10 dX11_listGround_41 ?_
        refine ww_iload (pc := 44) C 4 dX11_listGround_44 rfl ?_
        obtain ⟨_, e12, hf⟩ := xbd hf
        obtain ⟨v14, e13, hf⟩ := xbd hf
        refine ww_callVi (pc := 46) (as := [.int x4]) (st := []) C (k_X2_of (l := gl G) (E := gE G) (hb := gB G) (σ := σ) e13) rfl (by decide) xc_X11_298 q880 qp64 (xck_spec e12) rfl (by decide) (xst4 (Nat.le_of_ble_eq_true rfl)) xsame.rf.le xsame.rf.lim dX11_listGround_46 ?_
        refine ww_iload_n (pc := 49) C 1 dX11_listGround_49 rfl ?_
        refine ww_icmp_ne (pc := 50) (tgt := 64) C dX11_listGround_50 (by decide) (fun q => ?_) (fun q => ?_)
        · have hf := xin q hf
          refine ww_iinc (pc := 64) (v := x4 + (1 : Int32)) (lv' := [(4, .int (x4 + (1 : Int32))), (0, .ref (gB G + r0)), (1, .int x1), (2, .int x2), (3, .int x3)]) C 4 dX11_listGround_64 rfl (congrArg (fun z => x4 + z) (show Int32.ofInt (1) = (1 : Int32) by decide)) (by decide) rfl ?_
          refine ww_goto (pc := 67) (tgt := 13) C dX11_listGround_67 (by decide) ?_
          have hf := xsj hf
          subst hf
          refine ww_sub [1, 2, 3, 4, 0] rfl ?_
          exact hk.1 (x3, x4 + (1 : Int32), σ) rfl
        · have hf := xip q hf
          refine ww_aload_n (pc := 53) C 0 dX11_listGround_53 rfl ?_
          obtain ⟨z16, e15, hf⟩ := xbd hf
          refine gf_X11_91 (pc := 54) C e15 dX11_listGround_54 ?_
          refine ww_iload_n (pc := 57) C 3 dX11_listGround_57 rfl ?_
          refine ww_iload (pc := 58) C 4 dX11_listGround_58 rfl ?_
          obtain ⟨σ18, e17, hf⟩ := xbd hf
          refine ww_iast (pc := 60) C e17 dX11_listGround_60 ?_
          refine ww_iinc (pc := 61) (v := x3 + (1 : Int32)) (lv' := [(3, .int (x3 + (1 : Int32))), (0, .ref (gB G + r0)), (1, .int x1), (2, .int x2), (4, .int x4)]) C 3 dX11_listGround_61 rfl (congrArg (fun z => x3 + z) (show Int32.ofInt (1) = (1 : Int32) by decide)) (by decide) rfl ?_
          refine ww_iinc (pc := 64) (v := x4 + (1 : Int32)) (lv' := [(4, .int (x4 + (1 : Int32))), (3, .int (x3 + (1 : Int32))), (0, .ref (gB G + r0)), (1, .int x1), (2, .int x2)]) C 4 dX11_listGround_64 rfl (congrArg (fun z => x4 + z) (show Int32.ofInt (1) = (1 : Int32) by decide)) (by decide) rfl ?_
          refine ww_goto (pc := 67) (tgt := 13) C dX11_listGround_67 (by decide) ?_
          have hf := xsj hf
          subst hf
          refine ww_sub [2, 3, 4, 1, 0] rfl ?_
          exact hk.1 (x3 + (1 : Int32), x4 + (1 : Int32), σ18) rfl
theorem s_X11_listGround_e {G : XG} (C : XC G cX11_listGround RX11 (some .int) 5 1 21) {σ : XS} {r0 : Nat} {x1 : Int32} {x : Int32 × XS} (hf : f_X11_listGround σ r0 x1 = some x) (hk : XEnd G (some (.int x.1)) x.2) : WW G 0 [(0, .ref (gB G + r0)), (1, .int x1)] [] σ := by
  refine ww_aload_n (pc := 0) C 0 dX11_listGround_0 rfl ?_
  obtain ⟨z2, e1, hf⟩ := xbd hf
  refine gf_X11_24 (pc := 1) C e1 dX11_listGround_1 ?_
  obtain ⟨_, e3, hf⟩ := xbd hf
  obtain ⟨v5, e4, hf⟩ := xbd hf
  refine ww_callVi (pc := 4) (as := []) (st := []) C (k_X3_states (l := gl G) (E := gE G) (hb := gB G) (σ := σ) e4) rfl (by decide) xc_X11_291 q871 qp62 (xck_spec e3) rfl (by decide) (xst4 (Nat.le_of_ble_eq_true rfl)) xsame.rf.le xsame.rf.lim dX11_listGround_4 ?_
  refine ww_istore_n (pc := 7) (lv' := [(2, .int v5), (0, .ref (gB G + r0)), (1, .int x1)]) C dX11_listGround_7 (by decide) rfl ?_
  refine ww_iconst (pc := 8) (v := (0 : Int32)) C dX11_listGround_8 (by decide) ?_
  refine ww_istore_n (pc := 9) (lv' := [(3, .int (0 : Int32)), (2, .int v5), (0, .ref (gB G + r0)), (1, .int x1)]) C dX11_listGround_9 (by decide) rfl ?_
  refine ww_iconst (pc := 10) (v := (0 : Int32)) C dX11_listGround_10 (by decide) ?_
  refine ww_istore (pc := 11) (lv' := [(4, .int (0 : Int32)), (3, .int (0 : Int32)), (2, .int v5), (0, .ref (gB G + r0)), (1, .int x1)]) C dX11_listGround_11 (by decide) rfl ?_
  refine ww_sub [3, 4, 2, 1, 0] rfl ?_
  exact s_X11_listGround_l13 C (a := ((0 : Int32), (0 : Int32), σ)) hf hk
theorem m_X11_listGround {σ : XS} {r0 : Nat} {x1 : Int32} {x : Int32 × XS} (hf : f_X11_listGround σ r0 x1 = some x) : xsame σ x.2 := by
  have hm := xsame.rf (σ := σ)
  obtain ⟨z2, e1, hf⟩ := xbd hf
  obtain ⟨_, e3, hf⟩ := xbd hf
  obtain ⟨v5, e4, hf⟩ := xbd hf
  exact hm.tr (m_X11_listGround_l13 (a := ((0 : Int32), (0 : Int32), σ)) hf)
theorem k_X11_listGround {l : Launch} {E : XD} {hb : Nat} {σ : XS} {r0 : Nat} {x1 : Int32} {x : Int32 × XS} (h : f_X11_listGround σ r0 x1 = some x) : XM l yX11_listGround cX11_listGround 5 (some .int) 1 21 E hb [.ref (hb + r0), .int x1] σ (some (.int x.1)) x.2 := by
  refine xm_of (by decide) (Nat.le_of_ble_eq_true rfl) (m_X11_listGround h).le (fun G hG C hl hQ => ?_)
  obtain ⟨rfl, rfl, rfl, hN⟩ := hG
  exact s_X11_listGround_e C h hQ
noncomputable def f_X4_upsAdded_b4 (σ : XS) (r0 : Nat) (x1 : Int32) : Int32 × Int32 → Option ((Int32 × Int32) ⊕ (Int32)) := fun a => match a with
  | (x2, x3) => if (17 : Int32) ≤ x3 then ((some x2).map .inr) else (xck σ r0 4).bind fun _ => (f_X4_waysWithUps σ r0 x1 x3).bind fun v3 => some (.inl (x2 + (x3 * v3), x3 + (1 : Int32)))
noncomputable def f_X4_upsAdded (σ : XS) (r0 : Nat) (x1 : Int32) : Option Int32 := xloop (f_X4_upsAdded_b4 σ r0 x1) ((0 : Int32), (0 : Int32))
theorem s_X4_upsAdded_l4 {G : XG} (C : XC G cX4_upsAdded RX4 (some .int) 4 2 43) {σ : XS} {r0 : Nat} {x1 : Int32} {a : Int32 × Int32} {x : Int32} (hf : xloop (f_X4_upsAdded_b4 σ r0 x1) a = some x) (hk : XEnd G (some (.int x)) σ) : WW G 4 [(0, .ref (gB G + r0)), (1, .int x1), (2, .int a.1), (3, .int a.2)] [] σ := by
  refine xloop_ind (P := fun a => WW G 4 [(0, .ref (gB G + r0)), (1, .int x1), (2, .int a.1), (3, .int a.2)] [] σ) (fun a y hf hc he => ?_) hf
  obtain ⟨x2, x3⟩ := a
  have hk : (∀ a' : Int32 × Int32, y = .inl a' → WW G 4 [(0, .ref (gB G + r0)), (1, .int x1), (2, .int a'.1), (3, .int a'.2)] [] σ) ∧ (∀ b1 : Int32, y = .inr b1 → XEnd G (some (.int b1)) σ) := ⟨hc, fun b e => by have h9 := he b e; subst h9; exact hk⟩
  refine ww_iload_n (pc := 4) C 3 dX4_upsAdded_4 rfl ?_
  refine ww_bipush (pc := 5) (v := (17 : Int32)) C dX4_upsAdded_5 (by decide) ?_
  refine ww_icmp_ge (pc := 7) (tgt := 27) C dX4_upsAdded_7 (by decide) (fun q => ?_) (fun q => ?_)
  · have hf := xip q hf
    obtain ⟨b0, hg, e9⟩ := xmj hf
    subst e9
    have hf := hg
    have hk := hk.2 _ rfl
    refine ww_iload_n (pc := 27) C 2 dX4_upsAdded_27 rfl ?_
    have hf := xsj hf
    subst hf
    exact ww_iret (pc := 28) C hk dX4_upsAdded_28
  · have hf := xin q hf
    refine ww_iload_n (pc := 10) C 2 dX4_upsAdded_10 rfl ?_
    refine ww_iload_n (pc := 11) C 3 dX4_upsAdded_11 rfl ?_
    refine ww_aload_n (pc := 12) C 0 dX4_upsAdded_12 rfl ?_
    refine ww_iload_n (pc := 13) C 1 dX4_upsAdded_13 rfl ?_
    refine ww_iload_n (pc := 14) C 3 dX4_upsAdded_14 rfl ?_
    obtain ⟨_, e1, hf⟩ := xbd hf
    obtain ⟨v3, e2, hf⟩ := xbd hf
    refine ww_callVi (pc := 15) (as := [.int x1, .int x3]) (st := [.int x3, .int x2]) C (k_X4_waysWithUps (l := gl G) (E := gE G) (hb := gB G) (σ := σ) e2) rfl (by decide) xc_X4_61 q921 qp72 (xck_spec e1) rfl (by decide) (xst4 (Nat.le_of_ble_eq_true rfl)) xsame.rf.le xsame.rf.lim dX4_upsAdded_15 ?_
    refine ww_imul (pc := 18) C dX4_upsAdded_18 ?_
    refine ww_iadd (pc := 19) C dX4_upsAdded_19 ?_
    refine ww_istore_n (pc := 20) (lv' := [(2, .int (x2 + (x3 * v3))), (0, .ref (gB G + r0)), (1, .int x1), (3, .int x3)]) C dX4_upsAdded_20 (by decide) rfl ?_
    refine ww_iinc (pc := 21) (v := x3 + (1 : Int32)) (lv' := [(3, .int (x3 + (1 : Int32))), (2, .int (x2 + (x3 * v3))), (0, .ref (gB G + r0)), (1, .int x1)]) C 3 dX4_upsAdded_21 rfl (congrArg (fun z => x3 + z) (show Int32.ofInt (1) = (1 : Int32) by decide)) (by decide) rfl ?_
    refine ww_goto (pc := 24) (tgt := 4) C dX4_upsAdded_24 (by decide) ?_
    have hf := xsj hf
    subst hf
    refine ww_sub [2, 3, 1, 0] rfl ?_
    exact hk.1 (x2 + (x3 * v3), x3 + (1 : Int32)) rfl
theorem s_X4_upsAdded_e {G : XG} (C : XC G cX4_upsAdded RX4 (some .int) 4 2 43) {σ : XS} {r0 : Nat} {x1 : Int32} {x : Int32} (hf : f_X4_upsAdded σ r0 x1 = some x) (hk : XEnd G (some (.int x)) σ) : WW G 0 [(0, .ref (gB G + r0)), (1, .int x1)] [] σ := by
  refine ww_iconst (pc := 0) (v := (0 : Int32)) C dX4_upsAdded_0 (by decide) ?_
  refine ww_istore_n (pc := 1) (lv' := [(2, .int (0 : Int32)), (0, .ref (gB G + r0)), (1, .int x1)]) C dX4_upsAdded_1 (by decide) rfl ?_
  refine ww_iconst (pc := 2) (v := (0 : Int32)) C dX4_upsAdded_2 (by decide) ?_
  refine ww_istore_n (pc := 3) (lv' := [(3, .int (0 : Int32)), (2, .int (0 : Int32)), (0, .ref (gB G + r0)), (1, .int x1)]) C dX4_upsAdded_3 (by decide) rfl ?_
  refine ww_sub [2, 3, 1, 0] rfl ?_
  exact s_X4_upsAdded_l4 C (a := ((0 : Int32), (0 : Int32))) hf hk
theorem k_X4_upsAdded {l : Launch} {E : XD} {hb : Nat} {σ : XS} {r0 : Nat} {x1 : Int32} {x : Int32} (h : f_X4_upsAdded σ r0 x1 = some x) : XM l yX4_upsAdded cX4_upsAdded 4 (some .int) 2 43 E hb [.ref (hb + r0), .int x1] σ (some (.int x)) σ := by
  refine xm_of (by decide) (Nat.le_of_ble_eq_true rfl) ⟨Nat.le_refl _, Nat.le_refl _⟩ (fun G hG C hl hQ => ?_)
  obtain ⟨rfl, rfl, rfl, hN⟩ := hG
  exact s_X4_upsAdded_e C h hQ
noncomputable def f_X11_partOfFraction (x0 : Int32) (x1 : Int32) (x2 : Int32) : Option Int32 := (f_X11_commonDivisor (xabs x0) x1).bind fun v2 => if v2 = 0 then (some (-100000 : Int32)) else if x2 = 0 then ((xdz v2).bind fun _ => some (x0 / v2)) else if x2 = 1 then ((xdz v2).bind fun _ => some (x1 / v2)) else some (-100000 : Int32)
theorem s_X11_partOfFraction_e {G : XG} (C : XC G cX11_partOfFraction RX11 (some .int) 4 1 25) {σ : XS} {x0 : Int32} {x1 : Int32} {x2 : Int32} {x : Int32} (hf : f_X11_partOfFraction x0 x1 x2 = some x) (hk : XEnd G (some (.int x)) σ) : WW G 0 [(0, .int x0), (1, .int x1), (2, .int x2)] [] σ := by
  refine ww_iload_n (pc := 0) C 0 dX11_partOfFraction_0 rfl ?_
  refine ww_mabs (pc := 1) C q979 q951 q20 qm_mabs ⟨by decide, Nat.le_trans (Nat.add_le_add_right (xst4 (Nat.le_of_ble_eq_true rfl)) 13) (by decide)⟩ dX11_partOfFraction_1 ?_
  refine ww_iload_n (pc := 4) C 1 dX11_partOfFraction_4 rfl ?_
  obtain ⟨v2, e1, hf⟩ := xbd hf
  refine ww_callSi (pc := 5) (as := [.int (xabs x0), .int x1]) (st := []) C (k_X11_commonDivisor (l := gl G) (E := gE G) (hb := gB G) (σ := σ) e1) xc_X11_494 q981 rfl (by decide) (xst4 (Nat.le_of_ble_eq_true rfl)) xsame.rf.le xsame.rf.lim dX11_partOfFraction_5 ?_
  refine ww_istore_n (pc := 8) (lv' := [(3, .int v2), (0, .int x0), (1, .int x1), (2, .int x2)]) C dX11_partOfFraction_8 (by decide) rfl ?_
  refine ww_iload_n (pc := 9) C 0 dX11_partOfFraction_9 rfl ?_
  refine ww_if_ne (pc := 10) (tgt := 16) C dX11_partOfFraction_10 (by decide) (fun q => ?_) (fun q => ?_)
  · have hf := xin q hf
    refine ww_iload_n (pc := 16) C 3 dX11_partOfFraction_16 rfl ?_
    refine ww_look2 (pc := 17) (t0 := 44) (t1 := 48) (td := 52) C dX11_partOfFraction_17 (by decide) (by decide) (by decide) (fun q => ?_) (fun q q1 => ?_) (fun q q1 => ?_)
    · have hf := xip q hf
      refine ww_iload_n (pc := 44) C 1 dX11_partOfFraction_44 rfl ?_
      refine ww_iload_n (pc := 45) C 0 dX11_partOfFraction_45 rfl ?_
      obtain ⟨_, e3, hf⟩ := xbd hf
      refine ww_idiv (pc := 46) C dX11_partOfFraction_46 (xdz_spec e3) ?_
      have hf := xsj hf
      subst hf
      exact ww_iret (pc := 47) C hk dX11_partOfFraction_47
    · have hf := xip q1 (xin q hf)
      refine ww_iload_n (pc := 48) C 2 dX11_partOfFraction_48 rfl ?_
      refine ww_iload_n (pc := 49) C 0 dX11_partOfFraction_49 rfl ?_
      obtain ⟨_, e3, hf⟩ := xbd hf
      refine ww_idiv (pc := 50) C dX11_partOfFraction_50 (xdz_spec e3) ?_
      have hf := xsj hf
      subst hf
      exact ww_iret (pc := 51) C hk dX11_partOfFraction_51
    · have hf := xin q1 (xin q hf)
      refine ww_ldc (pc := 52) C q801 dX11_partOfFraction_52 ?_
      have hf := xsj hf
      subst hf
      exact ww_iret (pc := 54) C hk dX11_partOfFraction_54
  · have hf := xip q hf
    refine ww_ldc (pc := 13) C q801 dX11_partOfFraction_13 ?_
    have hf := xsj hf
    subst hf
    exact ww_iret (pc := 15) C hk dX11_partOfFraction_15
theorem k_X11_partOfFraction {l : Launch} {E : XD} {hb : Nat} {σ : XS} {x0 : Int32} {x1 : Int32} {x2 : Int32} {x : Int32} (h : f_X11_partOfFraction x0 x1 x2 = some x) : XM l yX11_partOfFraction cX11_partOfFraction 4 (some .int) 1 25 E hb [.int x0, .int x1, .int x2] σ (some (.int x)) σ := by
  refine xm_of (by decide) (Nat.le_of_ble_eq_true rfl) ⟨Nat.le_refl _, Nat.le_refl _⟩ (fun G hG C hl hQ => ?_)
  obtain ⟨rfl, rfl, rfl, hN⟩ := hG
  exact s_X11_partOfFraction_e C h hQ
noncomputable def f_X11_mean_j4 (σ : XS) (x1 : Int32) (x2 : Int32) (t0 : Nat) : Option (Int32 × XS) := (xck σ t0 4).bind fun _ => (f_X4_hasLevel σ t0 x1).bind fun v3 => if v3 = 0 then (some ((-100000 : Int32), σ)) else (xck σ t0 4).bind fun _ => (f_X4_energyOf σ t0 x1).bind fun v6 => (xck σ t0 4).bind fun _ => (f_X4_upsAdded σ t0 v6).bind fun v9 => (xck σ t0 4).bind fun _ => (f_X4_waysOf σ t0 v6).bind fun v12 => (f_X11_partOfFraction v9 v12 x2).bind fun v14 => some (v14, σ)
noncomputable def f_X11_mean (σ : XS) (r0 : Nat) (x1 : Int32) (x2 : Int32) : Option (Int32 × XS) := (xck σ r0 11).bind fun _ => (f_X11_levelsNow σ r0).bind fun (z4, σ3) => (xnz z4).bind fun _ => f_X11_mean_j4 σ3 x1 x2 z4
theorem s_X11_mean_j4 {G : XG} (C : XC G cX11_mean RX11 (some .int) 5 5 115) {σ : XS} {x1 : Int32} {x2 : Int32} {t0 : Nat} {x : Int32 × XS} (hf : f_X11_mean_j4 σ x1 x2 t0 = some x) (hk : XEnd G (some (.int x.1)) x.2 ∧ XUp G x.2) : WW G 4 [(1, .int x1), (2, .int x2)] [.ref (gB G + t0)] σ := by
  refine ww_astore_n (pc := 4) (lv' := [(3, .ref (gB G + t0)), (1, .int x1), (2, .int x2)]) C dX11_mean_4 (by decide) rfl ?_
  refine ww_aload_n (pc := 5) C 0 dX11_mean_5 rfl ?_
  refine ww_iload_n (pc := 6) C 1 dX11_mean_6 rfl ?_
  obtain ⟨_, e1, hf⟩ := xbd hf
  obtain ⟨v3, e2, hf⟩ := xbd hf
  refine ww_callVi (pc := 7) (as := [.int x1]) (st := []) C (k_X4_hasLevel (l := gl G) (E := gE G) (hb := gB G) (σ := σ) e2) rfl (by decide) xc_X11_258 q898 qp67 (xck_spec e1) rfl (by decide) (xst4 (Nat.le_of_ble_eq_true rfl)) xsame.rf.le xsame.rf.lim dX11_mean_7 ?_
  refine ww_if_ne (pc := 10) (tgt := 16) C dX11_mean_10 (by decide) (fun q => ?_) (fun q => ?_)
  · have hf := xin q hf
    refine ww_aload_n (pc := 16) C 0 dX11_mean_16 rfl ?_
    refine ww_iload_n (pc := 17) C 1 dX11_mean_17 rfl ?_
    obtain ⟨_, e4, hf⟩ := xbd hf
    obtain ⟨v6, e5, hf⟩ := xbd hf
    refine ww_callVi (pc := 18) (as := [.int x1]) (st := []) C (k_X4_energyOf (l := gl G) (E := gE G) (hb := gB G) (σ := σ) e5) rfl (by decide) xc_X11_261 q902 qp68 (xck_spec e4) rfl (by decide) (xst4 (Nat.le_of_ble_eq_true rfl)) xsame.rf.le xsame.rf.lim dX11_mean_18 ?_
    refine ww_istore (pc := 21) (lv' := [(4, .int v6), (3, .ref (gB G + t0)), (1, .int x1), (2, .int x2)]) C dX11_mean_21 (by decide) rfl ?_
    refine ww_aload_n (pc := 23) C 1 dX11_mean_23 rfl ?_
    refine ww_iload (pc := 24) C 0 dX11_mean_24 rfl ?_
    obtain ⟨_, e7, hf⟩ := xbd hf
    obtain ⟨v9, e8, hf⟩ := xbd hf
    refine ww_callVi (pc := 26) (as := [.int v6]) (st := []) C (k_X4_upsAdded (l := gl G) (E := gE G) (hb := gB G) (σ := σ) e8) rfl (by decide) xc_X11_301 q989 qp78 (xck_spec e7) rfl (by decide) (xst4 (Nat.le_of_ble_eq_true rfl)) xsame.rf.le xsame.rf.lim dX11_mean_26 ?_
    refine ww_aload_n (pc := 29) C 1 dX11_mean_29 rfl ?_
    refine ww_iload (pc := 30) C 0 dX11_mean_30 rfl ?_
    obtain ⟨_, e10, hf⟩ := xbd hf
    obtain ⟨v12, e11, hf⟩ := xbd hf
    refine ww_callVi (pc := 32) (as := [.int v6]) (st := [.int v9]) C (k_X4_waysOf (l := gl G) (E := gE G) (hb := gB G) (σ := σ) e11) rfl (by decide) xc_X11_264 q906 qp69 (xck_spec e10) rfl (by decide) (xst4 (Nat.le_of_ble_eq_true rfl)) xsame.rf.le xsame.rf.lim dX11_mean_32 ?_
    refine ww_iload_n (pc := 35) C 3 dX11_mean_35 rfl ?_
    obtain ⟨v14, e13, hf⟩ := xbd hf
    refine ww_callSi (pc := 36) (as := [.int v9, .int v12, .int x2]) (st := []) C (k_X11_partOfFraction (l := gl G) (E := gE G) (hb := gB G) (σ := σ) e13) xc_X11_288 q977 rfl (by decide) (xst4 (Nat.le_of_ble_eq_true rfl)) xsame.rf.le xsame.rf.lim dX11_mean_36 ?_
    have hf := xsj hf
    subst hf
    exact ww_iret (pc := 39) C hk.1 dX11_mean_39
  · have hf := xip q hf
    refine ww_ldc (pc := 13) C q801 dX11_mean_13 ?_
    have hf := xsj hf
    subst hf
    exact ww_iret (pc := 15) C hk.1 dX11_mean_15
theorem m_X11_mean_j4 {σ : XS} {x1 : Int32} {x2 : Int32} {t0 : Nat} {x : Int32 × XS} (hf : f_X11_mean_j4 σ x1 x2 t0 = some x) : xext σ x.2 := by
  have hm := xext.rf (σ := σ)
  obtain ⟨_, e1, hf⟩ := xbd hf
  obtain ⟨v3, e2, hf⟩ := xbd hf
  by_cases q : v3 = 0
  · have hf := xip q hf
    have hf := xsj hf
    subst hf
    exact hm
  · have hf := xin q hf
    obtain ⟨_, e4, hf⟩ := xbd hf
    obtain ⟨v6, e5, hf⟩ := xbd hf
    obtain ⟨_, e7, hf⟩ := xbd hf
    obtain ⟨v9, e8, hf⟩ := xbd hf
    obtain ⟨_, e10, hf⟩ := xbd hf
    obtain ⟨v12, e11, hf⟩ := xbd hf
    obtain ⟨v14, e13, hf⟩ := xbd hf
    have hf := xsj hf
    subst hf
    exact hm
theorem s_X11_mean_e {G : XG} (C : XC G cX11_mean RX11 (some .int) 5 5 115) {σ : XS} {r0 : Nat} {x1 : Int32} {x2 : Int32} {x : Int32 × XS} (hf : f_X11_mean σ r0 x1 x2 = some x) (hk : XEnd G (some (.int x.1)) x.2 ∧ XUp G x.2) : WW G 0 [(0, .ref (gB G + r0)), (1, .int x1), (2, .int x2)] [] σ := by
  refine ww_aload_n (pc := 0) C 0 dX11_mean_0 rfl ?_
  obtain ⟨_, e1, hf⟩ := xbd hf
  obtain ⟨⟨z4, σ3⟩, e2, hf⟩ := xbd hf
  dsimp only at hf
  obtain ⟨_, e5, hf⟩ := xbd hf
  refine ww_callVr (pc := 1) (as := []) (st := []) C (k_X11_levelsNow (l := gl G) (E := gE G) (hb := gB G) (σ := σ) e2) rfl (by decide) xc_X11_251 q846 qp56 (xck_spec e1) rfl (by decide) (xst4 (Nat.le_of_ble_eq_true rfl)) (m_X11_levelsNow e2).1 (fun q => by have hm9 := m_X11_mean_j4 hf; exact XLim.mid q (m_X11_levelsNow e2) hm9 hk.2) dX11_mean_1 ?_
  refine ww_nn (xnz_spec e5) ?_
  refine ww_sub [1, 2] rfl ?_
  exact s_X11_mean_j4 C hf hk
theorem m_X11_mean {σ : XS} {r0 : Nat} {x1 : Int32} {x2 : Int32} {x : Int32 × XS} (hf : f_X11_mean σ r0 x1 x2 = some x) : xext σ x.2 := by
  have hm := xext.rf (σ := σ)
  obtain ⟨_, e1, hf⟩ := xbd hf
  obtain ⟨⟨z4, σ3⟩, e2, hf⟩ := xbd hf
  dsimp only at hf
  have hm := hm.tr (m_X11_levelsNow e2)
  obtain ⟨_, e5, hf⟩ := xbd hf
  exact hm.tr (m_X11_mean_j4 hf)
theorem k_X11_mean {l : Launch} {E : XD} {hb : Nat} {σ : XS} {r0 : Nat} {x1 : Int32} {x2 : Int32} {x : Int32 × XS} (h : f_X11_mean σ r0 x1 x2 = some x) : XM l yX11_mean cX11_mean 5 (some .int) 5 115 E hb [.ref (hb + r0), .int x1, .int x2] σ (some (.int x.1)) x.2 := by
  refine xm_of (by decide) (Nat.le_of_ble_eq_true rfl) (m_X11_mean h).1 (fun G hG C hl hQ => ?_)
  obtain ⟨rfl, rfl, rfl, hN⟩ := hG
  exact s_X11_mean_e C h ⟨hQ, hl.2⟩
noncomputable def f_X11_nearestGround_b30 (σ : XS) (r0 : Nat) (x1 : Int32) (x3 : Int32) (x4 : Int32) : Int32 × Int32 → Option ((Int32 × Int32) ⊕ (Int32 × XS)) := fun a => match a with
  | (x5, x6) => if x4 ≤ x6 then ((some (x5, σ)).map .inr) else (xgR σ r0 11 3).bind fun z2 => (xck σ z2 6).bind fun _ => (f_X6_allows σ z2 x6).bind fun v5 => if v5 = 0 then (some (.inl (x5, x6 + (1 : Int32)))) else (xgR σ r0 11 6).bind fun z7 => (xck σ z7 2).bind fun _ => (f_X2_of σ z7 x6).bind fun v10 => if v10 = x3 then ((f_J6_bitCount_0f7a4 (x6 ^^^ x1)).bind fun v12 => (f_J6_bitCount_0f7a4 (x5 ^^^ x1)).bind fun v14 => if v14 ≤ v12 then (some (.inl (x5, x6 + (1 : Int32)))) else some (.inl (x6, x6 + (1 : Int32)))) else some (.inl (x5, x6 + (1 : Int32)))
noncomputable def f_X11_nearestGround_j4 (σ : XS) (r0 : Nat) (x1 : Int32) (t0 : Nat) : Option (Int32 × XS) := (xck σ t0 4).bind fun _ => (f_X4_energyOf σ t0 (0 : Int32)).bind fun v3 => (xgR σ r0 11 2).bind fun z5 => (xck σ z5 3).bind fun _ => (f_X3_states σ z5).bind fun v8 => (xck σ t0 4).bind fun _ => (f_X4_leastOf σ t0 v3).bind fun v11 => xloop (f_X11_nearestGround_b30 σ r0 x1 v3 v8) (v11, (0 : Int32))
noncomputable def f_X11_nearestGround (σ : XS) (r0 : Nat) (x1 : Int32) : Option (Int32 × XS) := (xck σ r0 11).bind fun _ => (f_X11_levelsNow σ r0).bind fun (z4, σ3) => (xnz z4).bind fun _ => f_X11_nearestGround_j4 σ3 r0 x1 z4
theorem m_X11_nearestGround_l30 {σ : XS} {r0 : Nat} {x1 : Int32} {x3 : Int32} {x4 : Int32} {a : Int32 × Int32} {x : Int32 × XS} (hf : xloop (f_X11_nearestGround_b30 σ r0 x1 x3 x4) a = some x) : xext σ x.2 := by
  refine xloop_ind (P := fun a => xext σ x.2) (fun a y hf hc he => ?_) hf
  obtain ⟨x5, x6⟩ := a
  have hy : (∀ a' : Int32 × Int32, y = .inl a' → True) ∧ (∀ b1 : Int32 × XS, y = .inr b1 → xext σ b1.2) := by
    have hm := xext.rf (σ := σ)
    by_cases q : x4 ≤ x6
    · have hf := xip q hf
      obtain ⟨b0, hg, e9⟩ := xmj hf
      subst e9
      have hf := hg
      refine ⟨fun a' e => xnc2 e, fun b e => ?_⟩
      have h9 := Sum.inr.inj e
      subst h9
      have hf := xsj hf
      subst hf
      exact hm
    · have hf := xin q hf
      obtain ⟨z2, e1, hf⟩ := xbd hf
      obtain ⟨_, e3, hf⟩ := xbd hf
      obtain ⟨v5, e4, hf⟩ := xbd hf
      by_cases q : v5 = 0
      · have hf := xip q hf
        have hf := xsj hf
        subst hf
        exact ⟨fun a' e => (by have h9 := Sum.inl.inj e; subst h9; exact trivial), fun b e => xnc1 e⟩
      · have hf := xin q hf
        obtain ⟨z7, e6, hf⟩ := xbd hf
        obtain ⟨_, e8, hf⟩ := xbd hf
        obtain ⟨v10, e9, hf⟩ := xbd hf
        by_cases q : v10 = x3
        · have hf := xip q hf
          obtain ⟨v12, e11, hf⟩ := xbd hf
          obtain ⟨v14, e13, hf⟩ := xbd hf
          by_cases q : v14 ≤ v12
          · have hf := xip q hf
            have hf := xsj hf
            subst hf
            exact ⟨fun a' e => (by have h9 := Sum.inl.inj e; subst h9; exact trivial), fun b e => xnc1 e⟩
          · have hf := xin q hf
            have hf := xsj hf
            subst hf
            exact ⟨fun a' e => (by have h9 := Sum.inl.inj e; subst h9; exact trivial), fun b e => xnc1 e⟩
        · have hf := xin q hf
          have hf := xsj hf
          subst hf
          exact ⟨fun a' e => (by have h9 := Sum.inl.inj e; subst h9; exact trivial), fun b e => xnc1 e⟩
  cases y with
  | inl a' =>
    have h1 := hc a' rfl
    exact h1
  | inr b =>
    have h1 := he b rfl
    subst h1
    exact hy.2 _ rfl
theorem s_X11_nearestGround_l30 {G : XG} (C : XC G cX11_nearestGround RX11 (some .int) 7 5 115) {σ : XS} {r0 : Nat} {x1 : Int32} {x3 : Int32} {x4 : Int32} {a : Int32 × Int32} {x : Int32 × XS} (hf : xloop (f_X11_nearestGround_b30 σ r0 x1 x3 x4) a = some x) (hk : XEnd G (some (.int x.1)) x.2 ∧ XUp G x.2) : WW G 30 [(0, .ref (gB G + r0)), (1, .int x1), (3, .int x3), (4, .int x4), (5, .int a.1), (6, .int a.2)] [] σ := by
  refine xloop_ind (P := fun a => WW G 30 [(0, .ref (gB G + r0)), (1, .int x1), (3, .int x3), (4, .int x4), (5, .int a.1), (6, .int a.2)] [] σ) (fun a y hf hc he => ?_) hf
  obtain ⟨x5, x6⟩ := a
  have hk : (∀ a' : Int32 × Int32, y = .inl a' → WW G 30 [(0, .ref (gB G + r0)), (1, .int x1), (3, .int x3), (4, .int x4), (5, .int a'.1), (6, .int a'.2)] [] σ) ∧ (∀ b1 : Int32 × XS, y = .inr b1 → XEnd G (some (.int b1.1)) b1.2 ∧ XUp G b1.2) := ⟨hc, fun b e => by have h9 := he b e; subst h9; exact hk⟩
  refine ww_iload (pc := 30) C 5 dX11_nearestGround_30 rfl ?_
  refine ww_iload (pc := 32) C 3 dX11_nearestGround_32 rfl ?_
  refine ww_icmp_ge (pc := 34) (tgt := 89) C dX11_nearestGround_34 (by decide) (fun q => ?_) (fun q => ?_)
  · have hf := xip q hf
    obtain ⟨b0, hg, e9⟩ := xmj hf
    subst e9
    have hf := hg
    have hk := hk.2 _ rfl
    refine ww_iload (pc := 89) C 4 dX11_nearestGround_89 rfl ?_
    have hf := xsj hf
    subst hf
    exact ww_iret (pc := 91) C hk.1 dX11_nearestGround_91
  · have hf := xin q hf
    refine ww_aload_n (pc := 37) C 0 dX11_nearestGround_37 rfl ?_
    obtain ⟨z2, e1, hf⟩ := xbd hf
    refine gf_X11_31 (pc := 38) C e1 dX11_nearestGround_38 ?_
    refine ww_iload (pc := 41) C 5 dX11_nearestGround_41 rfl ?_
    obtain ⟨_, e3, hf⟩ := xbd hf
    obtain ⟨v5, e4, hf⟩ := xbd hf
    refine ww_callVi (pc := 43) (as := [.int x6]) (st := []) C (k_X6_allows (l := gl G) (E := gE G) (hb := gB G) (σ := σ) e4) rfl (by decide) xc_X11_295 q890 qp65 (xck_spec e3) rfl (by decide) (xst4 (Nat.le_of_ble_eq_true rfl)) xsame.rf.le xsame.rf.lim dX11_nearestGround_43 ?_
    refine ww_if_eq (pc := 46) (tgt := 83) C dX11_nearestGround_46 (by decide) (fun q => ?_) (fun q => ?_)
    · have hf := xip q hf
      refine ww_iinc (pc := 83) (v := x6 + (1 : Int32)) (lv' := [(6, .int (x6 + (1 : Int32))), (0, .ref (gB G + r0)), (1, .int x1), (3, .int x3), (4, .int x4), (5, .int x5)]) C 5 dX11_nearestGround_83 rfl (congrArg (fun z => x6 + z) (show Int32.ofInt (1) = (1 : Int32) by decide)) (by decide) rfl ?_
      refine ww_goto (pc := 86) (tgt := 30) C dX11_nearestGround_86 (by decide) ?_
      have hf := xsj hf
      subst hf
      refine ww_sub [1, 2, 3, 4, 5, 0] rfl ?_
      exact hk.1 (x5, x6 + (1 : Int32)) rfl
    · have hf := xin q hf
      refine ww_aload_n (pc := 49) C 0 dX11_nearestGround_49 rfl ?_
      obtain ⟨z7, e6, hf⟩ := xbd hf
      refine gf_X11_52 (pc := 50) C e6 dX11_nearestGround_50 ?_
      refine ww_iload (pc := 53) C 5 dX11_nearestGround_53 rfl ?_
      obtain ⟨_, e8, hf⟩ := xbd hf
      obtain ⟨v10, e9, hf⟩ := xbd hf
      refine ww_callVi (pc := 55) (as := [.int x6]) (st := []) C (k_X2_of (l := gl G) (E := gE G) (hb := gB G) (σ := σ) e9) rfl (by decide) xc_X11_298 q880 qp64 (xck_spec e8) rfl (by decide) (xst4 (Nat.le_of_ble_eq_true rfl)) xsame.rf.le xsame.rf.lim dX11_nearestGround_55 ?_
      refine ww_iload_n (pc := 58) C 2 dX11_nearestGround_58 rfl ?_
      refine ww_icmp_ne (pc := 59) (tgt := 83) C dX11_nearestGround_59 (by decide) (fun q => ?_) (fun q => ?_)
      · have hf := xin q hf
        refine ww_iinc (pc := 83) (v := x6 + (1 : Int32)) (lv' := [(6, .int (x6 + (1 : Int32))), (0, .ref (gB G + r0)), (1, .int x1), (3, .int x3), (4, .int x4), (5, .int x5)]) C 5 dX11_nearestGround_83 rfl (congrArg (fun z => x6 + z) (show Int32.ofInt (1) = (1 : Int32) by decide)) (by decide) rfl ?_
        refine ww_goto (pc := 86) (tgt := 30) C dX11_nearestGround_86 (by decide) ?_
        have hf := xsj hf
        subst hf
        refine ww_sub [1, 2, 3, 4, 5, 0] rfl ?_
        exact hk.1 (x5, x6 + (1 : Int32)) rfl
      · have hf := xip q hf
        refine ww_iload (pc := 62) C 5 dX11_nearestGround_62 rfl ?_
        refine ww_iload_n (pc := 64) C 1 dX11_nearestGround_64 rfl ?_
        refine ww_ixor (pc := 65) C dX11_nearestGround_65 ?_
        obtain ⟨v12, e11, hf⟩ := xbd hf
        refine ww_callSi (pc := 66) (as := [.int (x6 ^^^ x1)]) (st := []) C (k_J6_bitCount_0f7a4 (l := gl G) (E := gE G) (hb := gB G) (σ := σ) e11) xc_X11_374 q883 rfl (by decide) (xst4 (Nat.le_of_ble_eq_true rfl)) xsame.rf.le xsame.rf.lim dX11_nearestGround_66 ?_
        refine ww_iload (pc := 69) C 4 dX11_nearestGround_69 rfl ?_
        refine ww_iload_n (pc := 71) C 1 dX11_nearestGround_71 rfl ?_
        refine ww_ixor (pc := 72) C dX11_nearestGround_72 ?_
        obtain ⟨v14, e13, hf⟩ := xbd hf
        refine ww_callSi (pc := 73) (as := [.int (x5 ^^^ x1)]) (st := [.int v12]) C (k_J6_bitCount_0f7a4 (l := gl G) (E := gE G) (hb := gB G) (σ := σ) e13) xc_X11_374 q883 rfl (by decide) (xst4 (Nat.le_of_ble_eq_true rfl)) xsame.rf.le xsame.rf.lim dX11_nearestGround_73 ?_
        refine ww_icmp_ge (pc := 76) (tgt := 83) C dX11_nearestGround_76 (by decide) (fun q => ?_) (fun q => ?_)
        · have hf := xip q hf
          refine ww_iinc (pc := 83) (v := x6 + (1 : Int32)) (lv' := [(6, .int (x6 + (1 : Int32))), (0, .ref (gB G + r0)), (1, .int x1), (3, .int x3), (4, .int x4), (5, .int x5)]) C 5 dX11_nearestGround_83 rfl (congrArg (fun z => x6 + z) (show Int32.ofInt (1) = (1 : Int32) by decide)) (by decide) rfl ?_
          refine ww_goto (pc := 86) (tgt := 30) C dX11_nearestGround_86 (by decide) ?_
          have hf := xsj hf
          subst hf
          refine ww_sub [1, 2, 3, 4, 5, 0] rfl ?_
          exact hk.1 (x5, x6 + (1 : Int32)) rfl
        · have hf := xin q hf
          refine ww_iload (pc := 79) C 5 dX11_nearestGround_79 rfl ?_
          refine ww_istore (pc := 81) (lv' := [(5, .int x6), (0, .ref (gB G + r0)), (1, .int x1), (3, .int x3), (4, .int x4), (6, .int x6)]) C dX11_nearestGround_81 (by decide) rfl ?_
          refine ww_iinc (pc := 83) (v := x6 + (1 : Int32)) (lv' := [(6, .int (x6 + (1 : Int32))), (5, .int x6), (0, .ref (gB G + r0)), (1, .int x1), (3, .int x3), (4, .int x4)]) C 5 dX11_nearestGround_83 rfl (congrArg (fun z => x6 + z) (show Int32.ofInt (1) = (1 : Int32) by decide)) (by decide) rfl ?_
          refine ww_goto (pc := 86) (tgt := 30) C dX11_nearestGround_86 (by decide) ?_
          have hf := xsj hf
          subst hf
          refine ww_sub [2, 3, 4, 5, 1, 0] rfl ?_
          exact hk.1 (x6, x6 + (1 : Int32)) rfl
theorem s_X11_nearestGround_j4 {G : XG} (C : XC G cX11_nearestGround RX11 (some .int) 7 5 115) {σ : XS} {r0 : Nat} {x1 : Int32} {t0 : Nat} {x : Int32 × XS} (hf : f_X11_nearestGround_j4 σ r0 x1 t0 = some x) (hk : XEnd G (some (.int x.1)) x.2 ∧ XUp G x.2) : WW G 4 [(0, .ref (gB G + r0)), (1, .int x1)] [.ref (gB G + t0)] σ := by
  refine ww_astore_n (pc := 4) (lv' := [(2, .ref (gB G + t0)), (0, .ref (gB G + r0)), (1, .int x1)]) C dX11_nearestGround_4 (by decide) rfl ?_
  refine ww_aload_n (pc := 5) C 0 dX11_nearestGround_5 rfl ?_
  refine ww_iconst (pc := 6) (v := (0 : Int32)) C dX11_nearestGround_6 (by decide) ?_
  obtain ⟨_, e1, hf⟩ := xbd hf
  obtain ⟨v3, e2, hf⟩ := xbd hf
  refine ww_callVi (pc := 7) (as := [.int (0 : Int32)]) (st := []) C (k_X4_energyOf (l := gl G) (E := gE G) (hb := gB G) (σ := σ) e2) rfl (by decide) xc_X11_261 q902 qp68 (xck_spec e1) rfl (by decide) (xst4 (Nat.le_of_ble_eq_true rfl)) xsame.rf.le xsame.rf.lim dX11_nearestGround_7 ?_
  refine ww_istore_n (pc := 10) (lv' := [(3, .int v3), (2, .ref (gB G + t0)), (0, .ref (gB G + r0)), (1, .int x1)]) C dX11_nearestGround_10 (by decide) rfl ?_
  refine ww_aload_n (pc := 11) C 2 dX11_nearestGround_11 rfl ?_
  obtain ⟨z5, e4, hf⟩ := xbd hf
  refine gf_X11_24 (pc := 12) C e4 dX11_nearestGround_12 ?_
  obtain ⟨_, e6, hf⟩ := xbd hf
  obtain ⟨v8, e7, hf⟩ := xbd hf
  refine ww_callVi (pc := 15) (as := []) (st := []) C (k_X3_states (l := gl G) (E := gE G) (hb := gB G) (σ := σ) e7) rfl (by decide) xc_X11_291 q871 qp62 (xck_spec e6) rfl (by decide) (xst4 (Nat.le_of_ble_eq_true rfl)) xsame.rf.le xsame.rf.lim dX11_nearestGround_15 ?_
  refine ww_istore (pc := 18) (lv' := [(4, .int v8), (3, .int v3), (2, .ref (gB G + t0)), (0, .ref (gB G + r0)), (1, .int x1)]) C dX11_nearestGround_18 (by decide) rfl ?_
  refine ww_aload_n (pc := 20) C 2 dX11_nearestGround_20 rfl ?_
  refine ww_iload_n (pc := 21) C 1 dX11_nearestGround_21 rfl ?_
  obtain ⟨_, e9, hf⟩ := xbd hf
  obtain ⟨v11, e10, hf⟩ := xbd hf
  refine ww_callVi (pc := 22) (as := [.int v3]) (st := []) C (k_X4_leastOf (l := gl G) (E := gE G) (hb := gB G) (σ := σ) e10) rfl (by decide) xc_X11_267 q913 qp70 (xck_spec e9) rfl (by decide) (xst4 (Nat.le_of_ble_eq_true rfl)) xsame.rf.le xsame.rf.lim dX11_nearestGround_22 ?_
  refine ww_istore (pc := 25) (lv' := [(5, .int v11), (4, .int v8), (3, .int v3), (2, .ref (gB G + t0)), (0, .ref (gB G + r0)), (1, .int x1)]) C dX11_nearestGround_25 (by decide) rfl ?_
  refine ww_iconst (pc := 27) (v := (0 : Int32)) C dX11_nearestGround_27 (by decide) ?_
  refine ww_istore (pc := 28) (lv' := [(6, .int (0 : Int32)), (5, .int v11), (4, .int v8), (3, .int v3), (2, .ref (gB G + t0)), (0, .ref (gB G + r0)), (1, .int x1)]) C dX11_nearestGround_28 (by decide) rfl ?_
  refine ww_sub [5, 6, 3, 2, 1, 0] rfl ?_
  exact s_X11_nearestGround_l30 C (a := (v11, (0 : Int32))) hf hk
theorem m_X11_nearestGround_j4 {σ : XS} {r0 : Nat} {x1 : Int32} {t0 : Nat} {x : Int32 × XS} (hf : f_X11_nearestGround_j4 σ r0 x1 t0 = some x) : xext σ x.2 := by
  have hm := xext.rf (σ := σ)
  obtain ⟨_, e1, hf⟩ := xbd hf
  obtain ⟨v3, e2, hf⟩ := xbd hf
  obtain ⟨z5, e4, hf⟩ := xbd hf
  obtain ⟨_, e6, hf⟩ := xbd hf
  obtain ⟨v8, e7, hf⟩ := xbd hf
  obtain ⟨_, e9, hf⟩ := xbd hf
  obtain ⟨v11, e10, hf⟩ := xbd hf
  exact hm.tr (m_X11_nearestGround_l30 (a := (v11, (0 : Int32))) hf)
theorem s_X11_nearestGround_e {G : XG} (C : XC G cX11_nearestGround RX11 (some .int) 7 5 115) {σ : XS} {r0 : Nat} {x1 : Int32} {x : Int32 × XS} (hf : f_X11_nearestGround σ r0 x1 = some x) (hk : XEnd G (some (.int x.1)) x.2 ∧ XUp G x.2) : WW G 0 [(0, .ref (gB G + r0)), (1, .int x1)] [] σ := by
  refine ww_aload_n (pc := 0) C 0 dX11_nearestGround_0 rfl ?_
  obtain ⟨_, e1, hf⟩ := xbd hf
  obtain ⟨⟨z4, σ3⟩, e2, hf⟩ := xbd hf
  dsimp only at hf
  obtain ⟨_, e5, hf⟩ := xbd hf
  refine ww_callVr (pc := 1) (as := []) (st := []) C (k_X11_levelsNow (l := gl G) (E := gE G) (hb := gB G) (σ := σ) e2) rfl (by decide) xc_X11_251 q846 qp56 (xck_spec e1) rfl (by decide) (xst4 (Nat.le_of_ble_eq_true rfl)) (m_X11_levelsNow e2).1 (fun q => by have hm9 := m_X11_nearestGround_j4 hf; exact XLim.mid q (m_X11_levelsNow e2) hm9 hk.2) dX11_nearestGround_1 ?_
  refine ww_nn (xnz_spec e5) ?_
  refine ww_sub [0, 1] rfl ?_
  exact s_X11_nearestGround_j4 C hf hk
theorem m_X11_nearestGround {σ : XS} {r0 : Nat} {x1 : Int32} {x : Int32 × XS} (hf : f_X11_nearestGround σ r0 x1 = some x) : xext σ x.2 := by
  have hm := xext.rf (σ := σ)
  obtain ⟨_, e1, hf⟩ := xbd hf
  obtain ⟨⟨z4, σ3⟩, e2, hf⟩ := xbd hf
  dsimp only at hf
  have hm := hm.tr (m_X11_levelsNow e2)
  obtain ⟨_, e5, hf⟩ := xbd hf
  exact hm.tr (m_X11_nearestGround_j4 hf)
theorem k_X11_nearestGround {l : Launch} {E : XD} {hb : Nat} {σ : XS} {r0 : Nat} {x1 : Int32} {x : Int32 × XS} (h : f_X11_nearestGround σ r0 x1 = some x) : XM l yX11_nearestGround cX11_nearestGround 7 (some .int) 5 115 E hb [.ref (hb + r0), .int x1] σ (some (.int x.1)) x.2 := by
  refine xm_of (by decide) (Nat.le_of_ble_eq_true rfl) (m_X11_nearestGround h).1 (fun G hG C hl hQ => ?_)
  obtain ⟨rfl, rfl, rfl, hN⟩ := hG
  exact s_X11_nearestGround_e C h ⟨hQ, hl.2⟩
noncomputable def f_X11_nearest_j25 (σ : XS) (x1 : Int32) (x2 : Int32) (t0 : Int32) : Option (Int32 × XS) := if x2 = 0 then (some (t0, σ)) else (f_J6_bitCount_0f7a4 (t0 ^^^ x1)).bind fun v2 => some (v2, σ)
noncomputable def f_X11_nearest (σ : XS) (r0 : Nat) (x1 : Int32) (x2 : Int32) : Option (Int32 × XS) := (xck σ r0 11).bind fun _ => (f_X11_isLawful σ r0 x1).bind fun v3 => if v3 = 0 then (some ((-100000 : Int32), σ)) else if x2 < 0 then (some ((-100000 : Int32), σ)) else if x2 ≤ (1 : Int32) then ((xck σ r0 11).bind fun _ => (f_X11_nearestGround σ r0 x1).bind fun (v7, σ6) => f_X11_nearest_j25 σ6 x1 x2 v7) else some ((-100000 : Int32), σ)
theorem s_X11_nearest_j25 {G : XG} (C : XC G cX11_nearest RX11 (some .int) 4 6 141) {σ : XS} {x1 : Int32} {x2 : Int32} {t0 : Int32} {x : Int32 × XS} (hf : f_X11_nearest_j25 σ x1 x2 t0 = some x) (hk : XEnd G (some (.int x.1)) x.2 ∧ XUp G x.2) : WW G 25 [(1, .int x1), (2, .int x2)] [.int t0] σ := by
  refine ww_istore_n (pc := 25) (lv' := [(3, .int t0), (1, .int x1), (2, .int x2)]) C dX11_nearest_25 (by decide) rfl ?_
  refine ww_iload_n (pc := 26) C 2 dX11_nearest_26 rfl ?_
  refine ww_if_ne (pc := 27) (tgt := 34) C dX11_nearest_27 (by decide) (fun q => ?_) (fun q => ?_)
  · have hf := xin q hf
    refine ww_iload_n (pc := 34) C 0 dX11_nearest_34 rfl ?_
    refine ww_iload_n (pc := 35) C 1 dX11_nearest_35 rfl ?_
    refine ww_ixor (pc := 36) C dX11_nearest_36 ?_
    obtain ⟨v2, e1, hf⟩ := xbd hf
    refine ww_callSi (pc := 37) (as := [.int (t0 ^^^ x1)]) (st := []) C (k_J6_bitCount_0f7a4 (l := gl G) (E := gE G) (hb := gB G) (σ := σ) e1) xc_X11_374 q883 rfl (by decide) (xst4 (Nat.le_of_ble_eq_true rfl)) xsame.rf.le xsame.rf.lim dX11_nearest_37 ?_
    have hf := xsj hf
    subst hf
    exact ww_iret (pc := 40) C hk.1 dX11_nearest_40
  · have hf := xip q hf
    refine ww_iload_n (pc := 30) C 0 dX11_nearest_30 rfl ?_
    refine ww_goto (pc := 31) (tgt := 40) C dX11_nearest_31 (by decide) ?_
    have hf := xsj hf
    subst hf
    exact ww_iret (pc := 40) C hk.1 dX11_nearest_40
theorem m_X11_nearest_j25 {σ : XS} {x1 : Int32} {x2 : Int32} {t0 : Int32} {x : Int32 × XS} (hf : f_X11_nearest_j25 σ x1 x2 t0 = some x) : xext σ x.2 := by
  have hm := xext.rf (σ := σ)
  by_cases q : x2 = 0
  · have hf := xip q hf
    have hf := xsj hf
    subst hf
    exact hm
  · have hf := xin q hf
    obtain ⟨v2, e1, hf⟩ := xbd hf
    have hf := xsj hf
    subst hf
    exact hm
theorem s_X11_nearest_e {G : XG} (C : XC G cX11_nearest RX11 (some .int) 4 6 141) {σ : XS} {r0 : Nat} {x1 : Int32} {x2 : Int32} {x : Int32 × XS} (hf : f_X11_nearest σ r0 x1 x2 = some x) (hk : XEnd G (some (.int x.1)) x.2 ∧ XUp G x.2) : WW G 0 [(0, .ref (gB G + r0)), (1, .int x1), (2, .int x2)] [] σ := by
  refine ww_aload_n (pc := 0) C 0 dX11_nearest_0 rfl ?_
  refine ww_iload_n (pc := 1) C 1 dX11_nearest_1 rfl ?_
  obtain ⟨_, e1, hf⟩ := xbd hf
  obtain ⟨v3, e2, hf⟩ := xbd hf
  refine ww_callVi (pc := 2) (as := [.int x1]) (st := []) C (k_X11_isLawful (l := gl G) (E := gE G) (hb := gB G) (σ := σ) e2) rfl (by decide) xc_X11_384 q1067 qp88 (xck_spec e1) rfl (by decide) (xst4 (Nat.le_of_ble_eq_true rfl)) xsame.rf.le xsame.rf.lim dX11_nearest_2 ?_
  refine ww_if_eq (pc := 5) (tgt := 17) C dX11_nearest_5 (by decide) (fun q => ?_) (fun q => ?_)
  · have hf := xip q hf
    refine ww_ldc (pc := 17) C q801 dX11_nearest_17 ?_
    have hf := xsj hf
    subst hf
    exact ww_iret (pc := 19) C hk.1 dX11_nearest_19
  · have hf := xin q hf
    refine ww_iload_n (pc := 8) C 2 dX11_nearest_8 rfl ?_
    refine ww_if_lt (pc := 9) (tgt := 17) C dX11_nearest_9 (by decide) (fun q => ?_) (fun q => ?_)
    · have hf := xip q hf
      refine ww_ldc (pc := 17) C q801 dX11_nearest_17 ?_
      have hf := xsj hf
      subst hf
      exact ww_iret (pc := 19) C hk.1 dX11_nearest_19
    · have hf := xin q hf
      refine ww_iload_n (pc := 12) C 2 dX11_nearest_12 rfl ?_
      refine ww_iconst (pc := 13) (v := (1 : Int32)) C dX11_nearest_13 (by decide) ?_
      refine ww_icmp_le (pc := 14) (tgt := 20) C dX11_nearest_14 (by decide) (fun q => ?_) (fun q => ?_)
      · have hf := xip q hf
        refine ww_aload_n (pc := 20) C 0 dX11_nearest_20 rfl ?_
        refine ww_iload_n (pc := 21) C 1 dX11_nearest_21 rfl ?_
        obtain ⟨_, e4, hf⟩ := xbd hf
        obtain ⟨⟨v7, σ6⟩, e5, hf⟩ := xbd hf
        dsimp only at hf
        refine ww_callVi (pc := 22) (as := [.int x1]) (st := []) C (k_X11_nearestGround (l := gl G) (E := gE G) (hb := gB G) (σ := σ) e5) rfl (by decide) xc_X11_398 q1088 qp92 (xck_spec e4) rfl (by decide) (xst4 (Nat.le_of_ble_eq_true rfl)) (m_X11_nearestGround e5).1 (fun q => by have hm9 := m_X11_nearest_j25 hf; exact XLim.mid q (m_X11_nearestGround e5) hm9 hk.2) dX11_nearest_22 ?_
        refine ww_sub [1, 2] rfl ?_
        exact s_X11_nearest_j25 C hf hk
      · have hf := xin q hf
        refine ww_ldc (pc := 17) C q801 dX11_nearest_17 ?_
        have hf := xsj hf
        subst hf
        exact ww_iret (pc := 19) C hk.1 dX11_nearest_19
theorem m_X11_nearest {σ : XS} {r0 : Nat} {x1 : Int32} {x2 : Int32} {x : Int32 × XS} (hf : f_X11_nearest σ r0 x1 x2 = some x) : xext σ x.2 := by
  have hm := xext.rf (σ := σ)
  obtain ⟨_, e1, hf⟩ := xbd hf
  obtain ⟨v3, e2, hf⟩ := xbd hf
  by_cases q : v3 = 0
  · have hf := xip q hf
    have hf := xsj hf
    subst hf
    exact hm
  · have hf := xin q hf
    by_cases q : x2 < 0
    · have hf := xip q hf
      have hf := xsj hf
      subst hf
      exact hm
    · have hf := xin q hf
      by_cases q : x2 ≤ (1 : Int32)
      · have hf := xip q hf
        obtain ⟨_, e4, hf⟩ := xbd hf
        obtain ⟨⟨v7, σ6⟩, e5, hf⟩ := xbd hf
        dsimp only at hf
        have hm := hm.tr (m_X11_nearestGround e5)
        exact hm.tr (m_X11_nearest_j25 hf)
      · have hf := xin q hf
        have hf := xsj hf
        subst hf
        exact hm
theorem k_X11_nearest {l : Launch} {E : XD} {hb : Nat} {σ : XS} {r0 : Nat} {x1 : Int32} {x2 : Int32} {x : Int32 × XS} (h : f_X11_nearest σ r0 x1 x2 = some x) : XM l yX11_nearest cX11_nearest 4 (some .int) 6 141 E hb [.ref (hb + r0), .int x1, .int x2] σ (some (.int x.1)) x.2 := by
  refine xm_of (by decide) (Nat.le_of_ble_eq_true rfl) (m_X11_nearest h).1 (fun G hG C hl hQ => ?_)
  obtain ⟨rfl, rfl, rfl, hN⟩ := hG
  exact s_X11_nearest_e C h ⟨hQ, hl.2⟩
noncomputable def f_X11_overlap_b67 (σ : XS) (r0 : Nat) (x1 : Int32) (x3 : Int32) (x5 : Int32) : Int32 × Int32 → Option ((Int32 × Int32) ⊕ ((Int32 × Int32) ⊕ (Int32 × XS))) := fun a => match a with
  | (x4, x6) => if x5 ≤ x6 then ((some (.inl (x4, x5 + (1 : Int32)))).map .inr) else (xgR σ r0 11 13).bind fun z2 => (xaI σ 20 z2 x5).bind fun v4 => (xgR σ r0 11 13).bind fun z6 => (xaI σ 20 z6 x6).bind fun v8 => (f_J6_bitCount_0f7a4 (v4 ^^^ v8)).bind fun v10 => if v10 = x1 then (some (.inl (x4 + (1 : Int32), x6 + (1 : Int32)))) else some (.inl (x4, x6 + (1 : Int32)))
noncomputable def f_X11_overlap_b48 (σ : XS) (r0 : Nat) (x1 : Int32) (x3 : Int32) : Int32 × Int32 → Option ((Int32 × Int32) ⊕ (Int32 × XS)) := fun a => match a with
  | (x4, x5) => if x3 ≤ x5 then ((some (x4, σ)).map .inr) else (xgR σ r0 11 13).bind fun z2 => (xal σ z2).bind fun v4 => if v4 ≤ x5 then ((some (x4, σ)).map .inr) else xloop (f_X11_overlap_b67 σ r0 x1 x3 x5) (x4, (0 : Int32))
noncomputable def f_X11_overlap_j4 (σ : XS) (r0 : Nat) (x1 : Int32) (t0 : Nat) : Option (Int32 × XS) := (xgI σ t0 4 4).bind fun v2 => if v2 = 0 then (some ((0 : Int32), σ)) else (xck σ t0 4).bind fun _ => (f_X4_energyOf σ t0 (0 : Int32)).bind fun v5 => (xck σ t0 4).bind fun _ => (f_X4_waysOf σ t0 v5).bind fun v8 => if v8 ≤ (256 : Int32) then ((xck σ t0 4).bind fun _ => (f_X4_energyOf σ t0 (0 : Int32)).bind fun v11 => (xck σ r0 11).bind fun _ => (f_X11_listGround σ r0 v11).bind fun (v15, σ14) => xloop (f_X11_overlap_b48 σ14 r0 x1 v15) ((0 : Int32), (0 : Int32))) else some ((-2 : Int32), σ)
noncomputable def f_X11_overlap (σ : XS) (r0 : Nat) (x1 : Int32) : Option (Int32 × XS) := (xck σ r0 11).bind fun _ => (f_X11_levelsNow σ r0).bind fun (z4, σ3) => (xnz z4).bind fun _ => f_X11_overlap_j4 σ3 r0 x1 z4
theorem m_X11_overlap_l67 {σ : XS} {r0 : Nat} {x1 : Int32} {x3 : Int32} {x5 : Int32} {a : Int32 × Int32} {x : ((Int32 × Int32) ⊕ (Int32 × XS))} (hf : xloop (f_X11_overlap_b67 σ r0 x1 x3 x5) a = some x) : (∀ a' : Int32 × Int32, x = .inl a' → True) ∧ (∀ b1 : Int32 × XS, x = .inr b1 → xext σ b1.2) := by
  refine xloop_ind (P := fun a => (∀ a' : Int32 × Int32, x = .inl a' → True) ∧ (∀ b1 : Int32 × XS, x = .inr b1 → xext σ b1.2)) (fun a y hf hc he => ?_) hf
  obtain ⟨x4, x6⟩ := a
  have hy : (∀ a' : Int32 × Int32, y = .inl a' → True) ∧ (∀ b2 : ((Int32 × Int32) ⊕ (Int32 × XS)), y = .inr b2 → (∀ a' : Int32 × Int32, b2 = .inl a' → True) ∧ (∀ b1 : Int32 × XS, b2 = .inr b1 → xext σ b1.2)) := by
    have hm := xext.rf (σ := σ)
    by_cases q : x5 ≤ x6
    · have hf := xip q hf
      obtain ⟨b0, hg, e9⟩ := xmj hf
      subst e9
      have hf := hg
      refine ⟨fun a' e => xnc2 e, fun b e => ?_⟩
      have h9 := Sum.inr.inj e
      subst h9
      have hf := xsj hf
      subst hf
      exact ⟨fun a' e => (by have h9 := Sum.inl.inj e; subst h9; exact trivial), fun b e => xnc1 e⟩
    · have hf := xin q hf
      obtain ⟨z2, e1, hf⟩ := xbd hf
      obtain ⟨v4, e3, hf⟩ := xbd hf
      obtain ⟨z6, e5, hf⟩ := xbd hf
      obtain ⟨v8, e7, hf⟩ := xbd hf
      obtain ⟨v10, e9, hf⟩ := xbd hf
      by_cases q : v10 = x1
      · have hf := xip q hf
        have hf := xsj hf
        subst hf
        exact ⟨fun a' e => (by have h9 := Sum.inl.inj e; subst h9; exact trivial), fun b e => xnc1 e⟩
      · have hf := xin q hf
        have hf := xsj hf
        subst hf
        exact ⟨fun a' e => (by have h9 := Sum.inl.inj e; subst h9; exact trivial), fun b e => xnc1 e⟩
  cases y with
  | inl a' =>
    have h1 := hc a' rfl
    exact h1
  | inr b =>
    have h1 := he b rfl
    subst h1
    exact hy.2 _ rfl
theorem s_X11_overlap_l67 {G : XG} (C : XC G cX11_overlap RX11 (some .int) 7 5 115) {σ : XS} {r0 : Nat} {x1 : Int32} {x3 : Int32} {x5 : Int32} {a : Int32 × Int32} {x : ((Int32 × Int32) ⊕ (Int32 × XS))} (hf : xloop (f_X11_overlap_b67 σ r0 x1 x3 x5) a = some x) (hk : (∀ a' : Int32 × Int32, x = .inl a' → WW G 48 [(0, .ref (gB G + r0)), (1, .int x1), (3, .int x3), (4, .int a'.1), (5, .int a'.2)] [] σ) ∧ (∀ b1 : Int32 × XS, x = .inr b1 → XEnd G (some (.int b1.1)) b1.2 ∧ XUp G b1.2)) : WW G 67 [(0, .ref (gB G + r0)), (1, .int x1), (3, .int x3), (4, .int a.1), (5, .int x5), (6, .int a.2)] [] σ := by
  refine xloop_ind (P := fun a => WW G 67 [(0, .ref (gB G + r0)), (1, .int x1), (3, .int x3), (4, .int a.1), (5, .int x5), (6, .int a.2)] [] σ) (fun a y hf hc he => ?_) hf
  obtain ⟨x4, x6⟩ := a
  have hk : (∀ a' : Int32 × Int32, y = .inl a' → WW G 67 [(0, .ref (gB G + r0)), (1, .int x1), (3, .int x3), (4, .int a'.1), (5, .int x5), (6, .int a'.2)] [] σ) ∧ (∀ b2 : ((Int32 × Int32) ⊕ (Int32 × XS)), y = .inr b2 → (∀ a' : Int32 × Int32, b2 = .inl a' → WW G 48 [(0, .ref (gB G + r0)), (1, .int x1), (3, .int x3), (4, .int a'.1), (5, .int a'.2)] [] σ) ∧ (∀ b1 : Int32 × XS, b2 = .inr b1 → XEnd G (some (.int b1.1)) b1.2 ∧ XUp G b1.2)) := ⟨hc, fun b e => by have h9 := he b e; subst h9; exact hk⟩
  refine ww_iload (pc := 67) C 5 dX11_overlap_67 rfl ?_
  refine ww_iload (pc := 69) C 4 dX11_overlap_69 rfl ?_
  refine ww_icmp_ge (pc := 71) (tgt := 105) C dX11_overlap_71 (by decide) (fun q => ?_) (fun q => ?_)
  · have hf := xip q hf
    obtain ⟨b0, hg, e9⟩ := xmj hf
    subst e9
    have hf := hg
    have hk := hk.2 _ rfl
    refine ww_iinc (pc := 105) (v := x5 + (1 : Int32)) (lv' := [(5, .int (x5 + (1 : Int32))), (0, .ref (gB G + r0)), (1, .int x1), (3, .int x3), (4, .int x4), (6, .int x6)]) C 4 dX11_overlap_105 rfl (congrArg (fun z => x5 + z) (show Int32.ofInt (1) = (1 : Int32) by decide)) (by decide) rfl ?_
    refine ww_goto (pc := 108) (tgt := 48) C dX11_overlap_108 (by decide) ?_
    have hf := xsj hf
    subst hf
    refine ww_sub [1, 2, 3, 4, 0] rfl ?_
    exact hk.1 (x4, x5 + (1 : Int32)) rfl
  · have hf := xin q hf
    refine ww_aload_n (pc := 74) C 0 dX11_overlap_74 rfl ?_
    obtain ⟨z2, e1, hf⟩ := xbd hf
    refine gf_X11_91 (pc := 75) C e1 dX11_overlap_75 ?_
    refine ww_iload (pc := 78) C 4 dX11_overlap_78 rfl ?_
    obtain ⟨v4, e3, hf⟩ := xbd hf
    refine ww_iald (pc := 80) C e3 dX11_overlap_80 ?_
    refine ww_aload_n (pc := 81) C 0 dX11_overlap_81 rfl ?_
    obtain ⟨z6, e5, hf⟩ := xbd hf
    refine gf_X11_91 (pc := 82) C e5 dX11_overlap_82 ?_
    refine ww_iload (pc := 85) C 5 dX11_overlap_85 rfl ?_
    obtain ⟨v8, e7, hf⟩ := xbd hf
    refine ww_iald (pc := 87) C e7 dX11_overlap_87 ?_
    refine ww_ixor (pc := 88) C dX11_overlap_88 ?_
    obtain ⟨v10, e9, hf⟩ := xbd hf
    refine ww_callSi (pc := 89) (as := [.int (v4 ^^^ v8)]) (st := []) C (k_J6_bitCount_0f7a4 (l := gl G) (E := gE G) (hb := gB G) (σ := σ) e9) xc_X11_374 q883 rfl (by decide) (xst4 (Nat.le_of_ble_eq_true rfl)) xsame.rf.le xsame.rf.lim dX11_overlap_89 ?_
    refine ww_iload_n (pc := 92) C 1 dX11_overlap_92 rfl ?_
    refine ww_icmp_ne (pc := 93) (tgt := 99) C dX11_overlap_93 (by decide) (fun q => ?_) (fun q => ?_)
    · have hf := xin q hf
      refine ww_iinc (pc := 99) (v := x6 + (1 : Int32)) (lv' := [(6, .int (x6 + (1 : Int32))), (0, .ref (gB G + r0)), (1, .int x1), (3, .int x3), (4, .int x4), (5, .int x5)]) C 5 dX11_overlap_99 rfl (congrArg (fun z => x6 + z) (show Int32.ofInt (1) = (1 : Int32) by decide)) (by decide) rfl ?_
      refine ww_goto (pc := 102) (tgt := 67) C dX11_overlap_102 (by decide) ?_
      have hf := xsj hf
      subst hf
      refine ww_sub [1, 2, 3, 4, 5, 0] rfl ?_
      exact hk.1 (x4, x6 + (1 : Int32)) rfl
    · have hf := xip q hf
      refine ww_iinc (pc := 96) (v := x4 + (1 : Int32)) (lv' := [(4, .int (x4 + (1 : Int32))), (0, .ref (gB G + r0)), (1, .int x1), (3, .int x3), (5, .int x5), (6, .int x6)]) C 3 dX11_overlap_96 rfl (congrArg (fun z => x4 + z) (show Int32.ofInt (1) = (1 : Int32) by decide)) (by decide) rfl ?_
      refine ww_iinc (pc := 99) (v := x6 + (1 : Int32)) (lv' := [(6, .int (x6 + (1 : Int32))), (4, .int (x4 + (1 : Int32))), (0, .ref (gB G + r0)), (1, .int x1), (3, .int x3), (5, .int x5)]) C 5 dX11_overlap_99 rfl (congrArg (fun z => x6 + z) (show Int32.ofInt (1) = (1 : Int32) by decide)) (by decide) rfl ?_
      refine ww_goto (pc := 102) (tgt := 67) C dX11_overlap_102 (by decide) ?_
      have hf := xsj hf
      subst hf
      refine ww_sub [2, 3, 4, 1, 5, 0] rfl ?_
      exact hk.1 (x4 + (1 : Int32), x6 + (1 : Int32)) rfl
theorem m_X11_overlap_l48 {σ : XS} {r0 : Nat} {x1 : Int32} {x3 : Int32} {a : Int32 × Int32} {x : Int32 × XS} (hf : xloop (f_X11_overlap_b48 σ r0 x1 x3) a = some x) : xext σ x.2 := by
  refine xloop_ind (P := fun a => xext σ x.2) (fun a y hf hc he => ?_) hf
  obtain ⟨x4, x5⟩ := a
  have hy : (∀ a' : Int32 × Int32, y = .inl a' → True) ∧ (∀ b1 : Int32 × XS, y = .inr b1 → xext σ b1.2) := by
    have hm := xext.rf (σ := σ)
    by_cases q : x3 ≤ x5
    · have hf := xip q hf
      obtain ⟨b0, hg, e9⟩ := xmj hf
      subst e9
      have hf := hg
      refine ⟨fun a' e => xnc2 e, fun b e => ?_⟩
      have h9 := Sum.inr.inj e
      subst h9
      have hf := xsj hf
      subst hf
      exact hm
    · have hf := xin q hf
      obtain ⟨z2, e1, hf⟩ := xbd hf
      obtain ⟨v4, e3, hf⟩ := xbd hf
      by_cases q : v4 ≤ x5
      · have hf := xip q hf
        obtain ⟨b0, hg, e9⟩ := xmj hf
        subst e9
        have hf := hg
        refine ⟨fun a' e => xnc2 e, fun b e => ?_⟩
        have h9 := Sum.inr.inj e
        subst h9
        have hf := xsj hf
        subst hf
        exact hm
      · have hf := xin q hf
        exact ⟨fun _ _ => trivial, fun b1 eb1 => hm.tr ((m_X11_overlap_l67 (a := (x4, (0 : Int32))) hf).2 b1 eb1)⟩
  cases y with
  | inl a' =>
    have h1 := hc a' rfl
    exact h1
  | inr b =>
    have h1 := he b rfl
    subst h1
    exact hy.2 _ rfl
theorem s_X11_overlap_l48 {G : XG} (C : XC G cX11_overlap RX11 (some .int) 7 5 115) {σ : XS} {r0 : Nat} {x1 : Int32} {x3 : Int32} {a : Int32 × Int32} {x : Int32 × XS} (hf : xloop (f_X11_overlap_b48 σ r0 x1 x3) a = some x) (hk : XEnd G (some (.int x.1)) x.2 ∧ XUp G x.2) : WW G 48 [(0, .ref (gB G + r0)), (1, .int x1), (3, .int x3), (4, .int a.1), (5, .int a.2)] [] σ := by
  refine xloop_ind (P := fun a => WW G 48 [(0, .ref (gB G + r0)), (1, .int x1), (3, .int x3), (4, .int a.1), (5, .int a.2)] [] σ) (fun a y hf hc he => ?_) hf
  obtain ⟨x4, x5⟩ := a
  have hk : (∀ a' : Int32 × Int32, y = .inl a' → WW G 48 [(0, .ref (gB G + r0)), (1, .int x1), (3, .int x3), (4, .int a'.1), (5, .int a'.2)] [] σ) ∧ (∀ b1 : Int32 × XS, y = .inr b1 → XEnd G (some (.int b1.1)) b1.2 ∧ XUp G b1.2) := ⟨hc, fun b e => by have h9 := he b e; subst h9; exact hk⟩
  refine ww_iload (pc := 48) C 4 dX11_overlap_48 rfl ?_
  refine ww_iload_n (pc := 50) C 2 dX11_overlap_50 rfl ?_
  refine ww_icmp_ge (pc := 51) (tgt := 111) C dX11_overlap_51 (by decide) (fun q => ?_) (fun q => ?_)
  · have hf := xip q hf
    obtain ⟨b0, hg, e9⟩ := xmj hf
    subst e9
    have hf := hg
    have hk := hk.2 _ rfl
    refine ww_iload (pc := 111) C 3 dX11_overlap_111 rfl ?_
    have hf := xsj hf
    subst hf
    exact ww_iret (pc := 113) C hk.1 dX11_overlap_113
  · have hf := xin q hf
    refine ww_iload (pc := 54) C 4 dX11_overlap_54 rfl ?_
    refine ww_aload_n (pc := 56) C 0 dX11_overlap_56 rfl ?_
    obtain ⟨z2, e1, hf⟩ := xbd hf
    refine gf_X11_91 (pc := 57) C e1 dX11_overlap_57 ?_
    obtain ⟨v4, e3, hf⟩ := xbd hf
    refine ww_alen (pc := 60) C e3 dX11_overlap_60 ?_
    refine ww_icmp_ge (pc := 61) (tgt := 111) C dX11_overlap_61 (by decide) (fun q => ?_) (fun q => ?_)
    · have hf := xip q hf
      obtain ⟨b0, hg, e9⟩ := xmj hf
      subst e9
      have hf := hg
      have hk := hk.2 _ rfl
      refine ww_iload (pc := 111) C 3 dX11_overlap_111 rfl ?_
      have hf := xsj hf
      subst hf
      exact ww_iret (pc := 113) C hk.1 dX11_overlap_113
    · have hf := xin q hf
      refine ww_iconst (pc := 64) (v := (0 : Int32)) C dX11_overlap_64 (by decide) ?_
      refine ww_istore (pc := 65) (lv' := [(6, .int (0 : Int32)), (0, .ref (gB G + r0)), (1, .int x1), (3, .int x3), (4, .int x4), (5, .int x5)]) C dX11_overlap_65 (by decide) rfl ?_
      refine ww_sub [1, 2, 3, 4, 5, 0] rfl ?_
      exact s_X11_overlap_l67 C (a := (x4, (0 : Int32))) hf hk
theorem s_X11_overlap_j4 {G : XG} (C : XC G cX11_overlap RX11 (some .int) 7 5 115) {σ : XS} {r0 : Nat} {x1 : Int32} {t0 : Nat} {x : Int32 × XS} (hf : f_X11_overlap_j4 σ r0 x1 t0 = some x) (hk : XEnd G (some (.int x.1)) x.2 ∧ XUp G x.2) : WW G 4 [(0, .ref (gB G + r0)), (1, .int x1)] [.ref (gB G + t0)] σ := by
  refine ww_astore_n (pc := 4) (lv' := [(2, .ref (gB G + t0)), (0, .ref (gB G + r0)), (1, .int x1)]) C dX11_overlap_4 (by decide) rfl ?_
  refine ww_aload_n (pc := 5) C 0 dX11_overlap_5 rfl ?_
  obtain ⟨v2, e1, hf⟩ := xbd hf
  refine gf_X11_255 (pc := 6) C e1 dX11_overlap_6 ?_
  refine ww_if_ne (pc := 9) (tgt := 14) C dX11_overlap_9 (by decide) (fun q => ?_) (fun q => ?_)
  · have hf := xin q hf
    refine ww_aload_n (pc := 14) C 0 dX11_overlap_14 rfl ?_
    refine ww_aload_n (pc := 15) C 0 dX11_overlap_15 rfl ?_
    refine ww_iconst (pc := 16) (v := (0 : Int32)) C dX11_overlap_16 (by decide) ?_
    obtain ⟨_, e3, hf⟩ := xbd hf
    obtain ⟨v5, e4, hf⟩ := xbd hf
    refine ww_callVi (pc := 17) (as := [.int (0 : Int32)]) (st := [.ref (gB G + t0)]) C (k_X4_energyOf (l := gl G) (E := gE G) (hb := gB G) (σ := σ) e4) rfl (by decide) xc_X11_261 q902 qp68 (xck_spec e3) rfl (by decide) (xst4 (Nat.le_of_ble_eq_true rfl)) xsame.rf.le xsame.rf.lim dX11_overlap_17 ?_
    obtain ⟨_, e6, hf⟩ := xbd hf
    obtain ⟨v8, e7, hf⟩ := xbd hf
    refine ww_callVi (pc := 20) (as := [.int v5]) (st := []) C (k_X4_waysOf (l := gl G) (E := gE G) (hb := gB G) (σ := σ) e7) rfl (by decide) xc_X11_264 q906 qp69 (xck_spec e6) rfl (by decide) (xst4 (Nat.le_of_ble_eq_true rfl)) xsame.rf.le xsame.rf.lim dX11_overlap_20 ?_
    refine ww_sipush (pc := 23) (v := (256 : Int32)) C dX11_overlap_23 (by decide) ?_
    refine ww_icmp_le (pc := 26) (tgt := 32) C dX11_overlap_26 (by decide) (fun q => ?_) (fun q => ?_)
    · have hf := xip q hf
      refine ww_aload_n (pc := 32) C 1 dX11_overlap_32 rfl ?_
      refine ww_aload_n (pc := 33) C 0 dX11_overlap_33 rfl ?_
      refine ww_iconst (pc := 34) (v := (0 : Int32)) C dX11_overlap_34 (by decide) ?_
      obtain ⟨_, e9, hf⟩ := xbd hf
      obtain ⟨v11, e10, hf⟩ := xbd hf
      refine ww_callVi (pc := 35) (as := [.int (0 : Int32)]) (st := [.ref (gB G + r0)]) C (k_X4_energyOf (l := gl G) (E := gE G) (hb := gB G) (σ := σ) e10) rfl (by decide) xc_X11_261 q902 qp68 (xck_spec e9) rfl (by decide) (xst4 (Nat.le_of_ble_eq_true rfl)) xsame.rf.le xsame.rf.lim dX11_overlap_35 ?_
      obtain ⟨_, e12, hf⟩ := xbd hf
      obtain ⟨⟨v15, σ14⟩, e13, hf⟩ := xbd hf
      dsimp only at hf
      refine ww_callVi (pc := 38) (as := [.int v11]) (st := []) C (k_X11_listGround (l := gl G) (E := gE G) (hb := gB G) (σ := σ) e13) rfl (by decide) xc_X11_371 q1053 qp87 (xck_spec e12) rfl (by decide) (xst4 (Nat.le_of_ble_eq_true rfl)) (m_X11_listGround e13).le (m_X11_listGround e13).lim dX11_overlap_38 ?_
      refine ww_istore_n (pc := 41) (lv' := [(3, .int v15), (2, .ref (gB G + t0)), (0, .ref (gB G + r0)), (1, .int x1)]) C dX11_overlap_41 (by decide) rfl ?_
      refine ww_iconst (pc := 42) (v := (0 : Int32)) C dX11_overlap_42 (by decide) ?_
      refine ww_istore (pc := 43) (lv' := [(4, .int (0 : Int32)), (3, .int v15), (2, .ref (gB G + t0)), (0, .ref (gB G + r0)), (1, .int x1)]) C dX11_overlap_43 (by decide) rfl ?_
      refine ww_iconst (pc := 45) (v := (0 : Int32)) C dX11_overlap_45 (by decide) ?_
      refine ww_istore (pc := 46) (lv' := [(5, .int (0 : Int32)), (4, .int (0 : Int32)), (3, .int v15), (2, .ref (gB G + t0)), (0, .ref (gB G + r0)), (1, .int x1)]) C dX11_overlap_46 (by decide) rfl ?_
      refine ww_sub [4, 5, 2, 1, 0] rfl ?_
      exact s_X11_overlap_l48 C (a := ((0 : Int32), (0 : Int32))) hf hk
    · have hf := xin q hf
      refine ww_bipush (pc := 29) (v := (-2 : Int32)) C dX11_overlap_29 (by decide) ?_
      have hf := xsj hf
      subst hf
      exact ww_iret (pc := 31) C hk.1 dX11_overlap_31
  · have hf := xip q hf
    refine ww_iconst (pc := 12) (v := (0 : Int32)) C dX11_overlap_12 (by decide) ?_
    have hf := xsj hf
    subst hf
    exact ww_iret (pc := 13) C hk.1 dX11_overlap_13
theorem m_X11_overlap_j4 {σ : XS} {r0 : Nat} {x1 : Int32} {t0 : Nat} {x : Int32 × XS} (hf : f_X11_overlap_j4 σ r0 x1 t0 = some x) : xext σ x.2 := by
  have hm := xext.rf (σ := σ)
  obtain ⟨v2, e1, hf⟩ := xbd hf
  by_cases q : v2 = 0
  · have hf := xip q hf
    have hf := xsj hf
    subst hf
    exact hm
  · have hf := xin q hf
    obtain ⟨_, e3, hf⟩ := xbd hf
    obtain ⟨v5, e4, hf⟩ := xbd hf
    obtain ⟨_, e6, hf⟩ := xbd hf
    obtain ⟨v8, e7, hf⟩ := xbd hf
    by_cases q : v8 ≤ (256 : Int32)
    · have hf := xip q hf
      obtain ⟨_, e9, hf⟩ := xbd hf
      obtain ⟨v11, e10, hf⟩ := xbd hf
      obtain ⟨_, e12, hf⟩ := xbd hf
      obtain ⟨⟨v15, σ14⟩, e13, hf⟩ := xbd hf
      dsimp only at hf
      have hm := hm.tr (m_X11_listGround e13).ext
      exact hm.tr (m_X11_overlap_l48 (a := ((0 : Int32), (0 : Int32))) hf)
    · have hf := xin q hf
      have hf := xsj hf
      subst hf
      exact hm
theorem s_X11_overlap_e {G : XG} (C : XC G cX11_overlap RX11 (some .int) 7 5 115) {σ : XS} {r0 : Nat} {x1 : Int32} {x : Int32 × XS} (hf : f_X11_overlap σ r0 x1 = some x) (hk : XEnd G (some (.int x.1)) x.2 ∧ XUp G x.2) : WW G 0 [(0, .ref (gB G + r0)), (1, .int x1)] [] σ := by
  refine ww_aload_n (pc := 0) C 0 dX11_overlap_0 rfl ?_
  obtain ⟨_, e1, hf⟩ := xbd hf
  obtain ⟨⟨z4, σ3⟩, e2, hf⟩ := xbd hf
  dsimp only at hf
  obtain ⟨_, e5, hf⟩ := xbd hf
  refine ww_callVr (pc := 1) (as := []) (st := []) C (k_X11_levelsNow (l := gl G) (E := gE G) (hb := gB G) (σ := σ) e2) rfl (by decide) xc_X11_251 q846 qp56 (xck_spec e1) rfl (by decide) (xst4 (Nat.le_of_ble_eq_true rfl)) (m_X11_levelsNow e2).1 (fun q => by have hm9 := m_X11_overlap_j4 hf; exact XLim.mid q (m_X11_levelsNow e2) hm9 hk.2) dX11_overlap_1 ?_
  refine ww_nn (xnz_spec e5) ?_
  refine ww_sub [0, 1] rfl ?_
  exact s_X11_overlap_j4 C hf hk
theorem m_X11_overlap {σ : XS} {r0 : Nat} {x1 : Int32} {x : Int32 × XS} (hf : f_X11_overlap σ r0 x1 = some x) : xext σ x.2 := by
  have hm := xext.rf (σ := σ)
  obtain ⟨_, e1, hf⟩ := xbd hf
  obtain ⟨⟨z4, σ3⟩, e2, hf⟩ := xbd hf
  dsimp only at hf
  have hm := hm.tr (m_X11_levelsNow e2)
  obtain ⟨_, e5, hf⟩ := xbd hf
  exact hm.tr (m_X11_overlap_j4 hf)
theorem k_X11_overlap {l : Launch} {E : XD} {hb : Nat} {σ : XS} {r0 : Nat} {x1 : Int32} {x : Int32 × XS} (h : f_X11_overlap σ r0 x1 = some x) : XM l yX11_overlap cX11_overlap 7 (some .int) 5 115 E hb [.ref (hb + r0), .int x1] σ (some (.int x.1)) x.2 := by
  refine xm_of (by decide) (Nat.le_of_ble_eq_true rfl) (m_X11_overlap h).1 (fun G hG C hl hQ => ?_)
  obtain ⟨rfl, rfl, rfl, hN⟩ := hG
  exact s_X11_overlap_e C h ⟨hQ, hl.2⟩
noncomputable def f_X11_pair_j26 (σ : XS) (r0 : Nat) (x1 : Int32) (x2 : Int32) (x3 : Int32) (x4 : Int32) (t0 : Nat) : Option (Int32 × XS) := (xck σ t0 4).bind fun _ => (f_X4_hasLevel σ t0 x3).bind fun v3 => if v3 = 0 then (some ((-100000 : Int32), σ)) else (xgR σ r0 11 8).bind fun z5 => (xck σ z5 4).bind fun _ => (f_X4_energyOf σ z5 x3).bind fun v8 => (xck σ r0 11).bind fun _ => (f_X11_countAlike σ r0 x1 x2 v8).bind fun v11 => (xgR σ r0 11 8).bind fun z13 => (xck σ z13 4).bind fun _ => (f_X4_waysOf σ z13 v8).bind fun v16 => (f_X11_partOfFraction (((2 : Int32) * v11) - v16) v16 x4).bind fun v18 => some (v18, σ)
noncomputable def f_X11_pair (σ : XS) (r0 : Nat) (x1 : Int32) (x2 : Int32) (x3 : Int32) (x4 : Int32) : Option (Int32 × XS) := (xgR σ r0 11 2).bind fun z2 => (xck σ z2 3).bind fun _ => (f_X3_hasSite σ z2 x1).bind fun v5 => if v5 = 0 then (some ((-100000 : Int32), σ)) else (xgR σ r0 11 2).bind fun z7 => (xck σ z7 3).bind fun _ => (f_X3_hasSite σ z7 x2).bind fun v10 => if v10 = 0 then (some ((-100000 : Int32), σ)) else (xck σ r0 11).bind fun _ => (f_X11_levelsNow σ r0).bind fun (z14, σ13) => (xnz z14).bind fun _ => f_X11_pair_j26 σ13 r0 x1 x2 x3 x4 z14
theorem s_X11_pair_j26 {G : XG} (C : XC G cX11_pair RX11 (some .int) 8 5 115) {σ : XS} {r0 : Nat} {x1 : Int32} {x2 : Int32} {x3 : Int32} {x4 : Int32} {t0 : Nat} {x : Int32 × XS} (hf : f_X11_pair_j26 σ r0 x1 x2 x3 x4 t0 = some x) (hk : XEnd G (some (.int x.1)) x.2 ∧ XUp G x.2) : WW G 26 [(0, .ref (gB G + r0)), (1, .int x1), (2, .int x2), (3, .int x3), (4, .int x4)] [.ref (gB G + t0)] σ := by
  refine ww_iload_n (pc := 26) C 3 dX11_pair_26 rfl ?_
  obtain ⟨_, e1, hf⟩ := xbd hf
  obtain ⟨v3, e2, hf⟩ := xbd hf
  refine ww_callVi (pc := 27) (as := [.int x3]) (st := []) C (k_X4_hasLevel (l := gl G) (E := gE G) (hb := gB G) (σ := σ) e2) rfl (by decide) xc_X11_258 q898 qp67 (xck_spec e1) rfl (by decide) (xst4 (Nat.le_of_ble_eq_true rfl)) xsame.rf.le xsame.rf.lim dX11_pair_27 ?_
  refine ww_if_ne (pc := 30) (tgt := 36) C dX11_pair_30 (by decide) (fun q => ?_) (fun q => ?_)
  · have hf := xin q hf
    refine ww_aload_n (pc := 36) C 0 dX11_pair_36 rfl ?_
    obtain ⟨z5, e4, hf⟩ := xbd hf
    refine gf_X11_62 (pc := 37) C e4 dX11_pair_37 ?_
    refine ww_iload_n (pc := 40) C 3 dX11_pair_40 rfl ?_
    obtain ⟨_, e6, hf⟩ := xbd hf
    obtain ⟨v8, e7, hf⟩ := xbd hf
    refine ww_callVi (pc := 41) (as := [.int x3]) (st := []) C (k_X4_energyOf (l := gl G) (E := gE G) (hb := gB G) (σ := σ) e7) rfl (by decide) xc_X11_261 q902 qp68 (xck_spec e6) rfl (by decide) (xst4 (Nat.le_of_ble_eq_true rfl)) xsame.rf.le xsame.rf.lim dX11_pair_41 ?_
    refine ww_istore (pc := 44) (lv' := [(5, .int v8), (0, .ref (gB G + r0)), (1, .int x1), (2, .int x2), (3, .int x3), (4, .int x4)]) C dX11_pair_44 (by decide) rfl ?_
    refine ww_aload_n (pc := 46) C 1 dX11_pair_46 rfl ?_
    refine ww_iload_n (pc := 47) C 2 dX11_pair_47 rfl ?_
    refine ww_iload_n (pc := 48) C 3 dX11_pair_48 rfl ?_
    refine ww_iload (pc := 49) C 0 dX11_pair_49 rfl ?_
    obtain ⟨_, e9, hf⟩ := xbd hf
    obtain ⟨v11, e10, hf⟩ := xbd hf
    refine ww_callVi (pc := 51) (as := [.int x1, .int x2, .int v8]) (st := []) C (k_X11_countAlike (l := gl G) (E := gE G) (hb := gB G) (σ := σ) e10) rfl (by decide) xc_X11_284 q972 qp77 (xck_spec e9) rfl (by decide) (xst4 (Nat.le_of_ble_eq_true rfl)) xsame.rf.le xsame.rf.lim dX11_pair_51 ?_
    refine ww_istore (pc := 54) (lv' := [(6, .int v11), (5, .int v8), (0, .ref (gB G + r0)), (1, .int x1), (2, .int x2), (3, .int x3), (4, .int x4)]) C dX11_pair_54 (by decide) rfl ?_
    refine ww_aload_n (pc := 56) C 2 dX11_pair_56 rfl ?_
    obtain ⟨z13, e12, hf⟩ := xbd hf
    refine gf_X11_62 (pc := 57) C e12 dX11_pair_57 ?_
    refine ww_iload (pc := 60) C 1 dX11_pair_60 rfl ?_
    obtain ⟨_, e14, hf⟩ := xbd hf
    obtain ⟨v16, e15, hf⟩ := xbd hf
    refine ww_callVi (pc := 62) (as := [.int v8]) (st := []) C (k_X4_waysOf (l := gl G) (E := gE G) (hb := gB G) (σ := σ) e15) rfl (by decide) xc_X11_264 q906 qp69 (xck_spec e14) rfl (by decide) (xst4 (Nat.le_of_ble_eq_true rfl)) xsame.rf.le xsame.rf.lim dX11_pair_62 ?_
    refine ww_istore (pc := 65) (lv' := [(7, .int v16), (6, .int v11), (5, .int v8), (0, .ref (gB G + r0)), (1, .int x1), (2, .int x2), (3, .int x3), (4, .int x4)]) C dX11_pair_65 (by decide) rfl ?_
    refine ww_iconst (pc := 67) (v := (2 : Int32)) C dX11_pair_67 (by decide) ?_
    refine ww_iload (pc := 68) C 1 dX11_pair_68 rfl ?_
    refine ww_imul (pc := 70) C dX11_pair_70 ?_
    refine ww_iload (pc := 71) C 0 dX11_pair_71 rfl ?_
    refine ww_isub (pc := 73) C dX11_pair_73 ?_
    refine ww_iload (pc := 74) C 0 dX11_pair_74 rfl ?_
    refine ww_iload (pc := 76) C 7 dX11_pair_76 rfl ?_
    obtain ⟨v18, e17, hf⟩ := xbd hf
    refine ww_callSi (pc := 78) (as := [.int (((2 : Int32) * v11) - v16), .int v16, .int x4]) (st := []) C (k_X11_partOfFraction (l := gl G) (E := gE G) (hb := gB G) (σ := σ) e17) xc_X11_288 q977 rfl (by decide) (xst4 (Nat.le_of_ble_eq_true rfl)) xsame.rf.le xsame.rf.lim dX11_pair_78 ?_
    have hf := xsj hf
    subst hf
    exact ww_iret (pc := 81) C hk.1 dX11_pair_81
  · have hf := xip q hf
    refine ww_ldc (pc := 33) C q801 dX11_pair_33 ?_
    have hf := xsj hf
    subst hf
    exact ww_iret (pc := 35) C hk.1 dX11_pair_35
theorem m_X11_pair_j26 {σ : XS} {r0 : Nat} {x1 : Int32} {x2 : Int32} {x3 : Int32} {x4 : Int32} {t0 : Nat} {x : Int32 × XS} (hf : f_X11_pair_j26 σ r0 x1 x2 x3 x4 t0 = some x) : xext σ x.2 := by
  have hm := xext.rf (σ := σ)
  obtain ⟨_, e1, hf⟩ := xbd hf
  obtain ⟨v3, e2, hf⟩ := xbd hf
  by_cases q : v3 = 0
  · have hf := xip q hf
    have hf := xsj hf
    subst hf
    exact hm
  · have hf := xin q hf
    obtain ⟨z5, e4, hf⟩ := xbd hf
    obtain ⟨_, e6, hf⟩ := xbd hf
    obtain ⟨v8, e7, hf⟩ := xbd hf
    obtain ⟨_, e9, hf⟩ := xbd hf
    obtain ⟨v11, e10, hf⟩ := xbd hf
    obtain ⟨z13, e12, hf⟩ := xbd hf
    obtain ⟨_, e14, hf⟩ := xbd hf
    obtain ⟨v16, e15, hf⟩ := xbd hf
    obtain ⟨v18, e17, hf⟩ := xbd hf
    have hf := xsj hf
    subst hf
    exact hm
theorem s_X11_pair_e {G : XG} (C : XC G cX11_pair RX11 (some .int) 8 5 115) {σ : XS} {r0 : Nat} {x1 : Int32} {x2 : Int32} {x3 : Int32} {x4 : Int32} {x : Int32 × XS} (hf : f_X11_pair σ r0 x1 x2 x3 x4 = some x) (hk : XEnd G (some (.int x.1)) x.2 ∧ XUp G x.2) : WW G 0 [(0, .ref (gB G + r0)), (1, .int x1), (2, .int x2), (3, .int x3), (4, .int x4)] [] σ := by
  refine ww_aload_n (pc := 0) C 0 dX11_pair_0 rfl ?_
  obtain ⟨z2, e1, hf⟩ := xbd hf
  refine gf_X11_24 (pc := 1) C e1 dX11_pair_1 ?_
  refine ww_iload_n (pc := 4) C 1 dX11_pair_4 rfl ?_
  obtain ⟨_, e3, hf⟩ := xbd hf
  obtain ⟨v5, e4, hf⟩ := xbd hf
  refine ww_callVi (pc := 5) (as := [.int x1]) (st := []) C (k_X3_hasSite (l := gl G) (E := gE G) (hb := gB G) (σ := σ) e4) rfl (by decide) xc_X11_176 q699 qp37 (xck_spec e3) rfl (by decide) (xst4 (Nat.le_of_ble_eq_true rfl)) xsame.rf.le xsame.rf.lim dX11_pair_5 ?_
  refine ww_if_eq (pc := 8) (tgt := 33) C dX11_pair_8 (by decide) (fun q => ?_) (fun q => ?_)
  · have hf := xip q hf
    refine ww_ldc (pc := 33) C q801 dX11_pair_33 ?_
    have hf := xsj hf
    subst hf
    exact ww_iret (pc := 35) C hk.1 dX11_pair_35
  · have hf := xin q hf
    refine ww_aload_n (pc := 11) C 0 dX11_pair_11 rfl ?_
    obtain ⟨z7, e6, hf⟩ := xbd hf
    refine gf_X11_24 (pc := 12) C e6 dX11_pair_12 ?_
    refine ww_iload_n (pc := 15) C 2 dX11_pair_15 rfl ?_
    obtain ⟨_, e8, hf⟩ := xbd hf
    obtain ⟨v10, e9, hf⟩ := xbd hf
    refine ww_callVi (pc := 16) (as := [.int x2]) (st := []) C (k_X3_hasSite (l := gl G) (E := gE G) (hb := gB G) (σ := σ) e9) rfl (by decide) xc_X11_176 q699 qp37 (xck_spec e8) rfl (by decide) (xst4 (Nat.le_of_ble_eq_true rfl)) xsame.rf.le xsame.rf.lim dX11_pair_16 ?_
    refine ww_if_eq (pc := 19) (tgt := 33) C dX11_pair_19 (by decide) (fun q => ?_) (fun q => ?_)
    · have hf := xip q hf
      refine ww_ldc (pc := 33) C q801 dX11_pair_33 ?_
      have hf := xsj hf
      subst hf
      exact ww_iret (pc := 35) C hk.1 dX11_pair_35
    · have hf := xin q hf
      refine ww_aload_n (pc := 22) C 0 dX11_pair_22 rfl ?_
      obtain ⟨_, e11, hf⟩ := xbd hf
      obtain ⟨⟨z14, σ13⟩, e12, hf⟩ := xbd hf
      dsimp only at hf
      obtain ⟨_, e15, hf⟩ := xbd hf
      refine ww_callVr (pc := 23) (as := []) (st := []) C (k_X11_levelsNow (l := gl G) (E := gE G) (hb := gB G) (σ := σ) e12) rfl (by decide) xc_X11_251 q846 qp56 (xck_spec e11) rfl (by decide) (xst4 (Nat.le_of_ble_eq_true rfl)) (m_X11_levelsNow e12).1 (fun q => by have hm9 := m_X11_pair_j26 hf; exact XLim.mid q (m_X11_levelsNow e12) hm9 hk.2) dX11_pair_23 ?_
      refine ww_nn (xnz_spec e15) ?_
      refine ww_sub [0, 1, 2, 3, 4] rfl ?_
      exact s_X11_pair_j26 C hf hk
theorem m_X11_pair {σ : XS} {r0 : Nat} {x1 : Int32} {x2 : Int32} {x3 : Int32} {x4 : Int32} {x : Int32 × XS} (hf : f_X11_pair σ r0 x1 x2 x3 x4 = some x) : xext σ x.2 := by
  have hm := xext.rf (σ := σ)
  obtain ⟨z2, e1, hf⟩ := xbd hf
  obtain ⟨_, e3, hf⟩ := xbd hf
  obtain ⟨v5, e4, hf⟩ := xbd hf
  by_cases q : v5 = 0
  · have hf := xip q hf
    have hf := xsj hf
    subst hf
    exact hm
  · have hf := xin q hf
    obtain ⟨z7, e6, hf⟩ := xbd hf
    obtain ⟨_, e8, hf⟩ := xbd hf
    obtain ⟨v10, e9, hf⟩ := xbd hf
    by_cases q : v10 = 0
    · have hf := xip q hf
      have hf := xsj hf
      subst hf
      exact hm
    · have hf := xin q hf
      obtain ⟨_, e11, hf⟩ := xbd hf
      obtain ⟨⟨z14, σ13⟩, e12, hf⟩ := xbd hf
      dsimp only at hf
      have hm := hm.tr (m_X11_levelsNow e12)
      obtain ⟨_, e15, hf⟩ := xbd hf
      exact hm.tr (m_X11_pair_j26 hf)
theorem k_X11_pair {l : Launch} {E : XD} {hb : Nat} {σ : XS} {r0 : Nat} {x1 : Int32} {x2 : Int32} {x3 : Int32} {x4 : Int32} {x : Int32 × XS} (h : f_X11_pair σ r0 x1 x2 x3 x4 = some x) : XM l yX11_pair cX11_pair 8 (some .int) 5 115 E hb [.ref (hb + r0), .int x1, .int x2, .int x3, .int x4] σ (some (.int x.1)) x.2 := by
  refine xm_of (by decide) (Nat.le_of_ble_eq_true rfl) (m_X11_pair h).1 (fun G hG C hl hQ => ?_)
  obtain ⟨rfl, rfl, rfl, hN⟩ := hG
  exact s_X11_pair_e C h ⟨hQ, hl.2⟩
noncomputable def f_X11_pass_j30 (σ : XS) (x1 : Int32) (x2 : Int32) (t0 : Nat) : Option (Int32 × XS) := (xck σ t0 9).bind fun _ => (f_X9_meetingEnergy σ t0 x1 x2 (0 : Int32)).bind fun (v4, σ3) => some (v4, σ3)
noncomputable def f_X11_pass (σ : XS) (r0 : Nat) (x1 : Int32) (x2 : Int32) : Option (Int32 × XS) := (xck σ r0 11).bind fun _ => (f_X11_isSmall σ r0).bind fun v3 => if v3 = 0 then (some ((-100000 : Int32), σ)) else (xck σ r0 11).bind fun _ => (f_X11_isLawful σ r0 x1).bind fun v6 => if v6 = 0 then (some ((-100000 : Int32), σ)) else (xck σ r0 11).bind fun _ => (f_X11_isLawful σ r0 x2).bind fun v9 => if v9 = 0 then (some ((-100000 : Int32), σ)) else (xck σ r0 11).bind fun _ => (f_X11_terrainNow σ r0).bind fun (z13, σ12) => (xnz z13).bind fun _ => f_X11_pass_j30 σ12 x1 x2 z13
theorem s_X11_pass_j30 {G : XG} (C : XC G cX11_pass RX11 (some .int) 3 6 136) {σ : XS} {x1 : Int32} {x2 : Int32} {t0 : Nat} {x : Int32 × XS} (hf : f_X11_pass_j30 σ x1 x2 t0 = some x) (hk : XEnd G (some (.int x.1)) x.2 ∧ XUp G x.2) : WW G 30 [(1, .int x1), (2, .int x2)] [.ref (gB G + t0)] σ := by
  refine ww_iload_n (pc := 30) C 0 dX11_pass_30 rfl ?_
  refine ww_iload_n (pc := 31) C 1 dX11_pass_31 rfl ?_
  refine ww_iconst (pc := 32) (v := (0 : Int32)) C dX11_pass_32 (by decide) ?_
  obtain ⟨_, e1, hf⟩ := xbd hf
  obtain ⟨⟨v4, σ3⟩, e2, hf⟩ := xbd hf
  dsimp only at hf
  refine ww_callVi (pc := 33) (as := [.int x1, .int x2, .int (0 : Int32)]) (st := []) C (k_X9_meetingEnergy (l := gl G) (E := gE G) (hb := gB G) (σ := σ) e2) rfl (by decide) xc_X11_422 q1156 qp103 (xck_spec e1) rfl (by decide) (xst4 (Nat.le_of_ble_eq_true rfl)) (m_X9_meetingEnergy e2).le (m_X9_meetingEnergy e2).lim dX11_pass_33 ?_
  have hf := xsj hf
  subst hf
  exact ww_iret (pc := 36) C hk.1 dX11_pass_36
theorem m_X11_pass_j30 {σ : XS} {x1 : Int32} {x2 : Int32} {t0 : Nat} {x : Int32 × XS} (hf : f_X11_pass_j30 σ x1 x2 t0 = some x) : xext σ x.2 := by
  have hm := xext.rf (σ := σ)
  obtain ⟨_, e1, hf⟩ := xbd hf
  obtain ⟨⟨v4, σ3⟩, e2, hf⟩ := xbd hf
  dsimp only at hf
  have hm := hm.tr (m_X9_meetingEnergy e2).ext
  have hf := xsj hf
  subst hf
  exact hm
theorem s_X11_pass_e {G : XG} (C : XC G cX11_pass RX11 (some .int) 3 6 136) {σ : XS} {r0 : Nat} {x1 : Int32} {x2 : Int32} {x : Int32 × XS} (hf : f_X11_pass σ r0 x1 x2 = some x) (hk : XEnd G (some (.int x.1)) x.2 ∧ XUp G x.2) : WW G 0 [(0, .ref (gB G + r0)), (1, .int x1), (2, .int x2)] [] σ := by
  refine ww_aload_n (pc := 0) C 0 dX11_pass_0 rfl ?_
  obtain ⟨_, e1, hf⟩ := xbd hf
  obtain ⟨v3, e2, hf⟩ := xbd hf
  refine ww_callVi (pc := 1) (as := []) (st := []) C (k_X11_isSmall (l := gl G) (E := gE G) (hb := gB G) (σ := σ) e2) rfl (by decide) xc_X11_408 q1110 qp94 (xck_spec e1) rfl (by decide) (xst4 (Nat.le_of_ble_eq_true rfl)) xsame.rf.le xsame.rf.lim dX11_pass_1 ?_
  refine ww_if_eq (pc := 4) (tgt := 23) C dX11_pass_4 (by decide) (fun q => ?_) (fun q => ?_)
  · have hf := xip q hf
    refine ww_ldc (pc := 23) C q801 dX11_pass_23 ?_
    have hf := xsj hf
    subst hf
    exact ww_iret (pc := 25) C hk.1 dX11_pass_25
  · have hf := xin q hf
    refine ww_aload_n (pc := 7) C 0 dX11_pass_7 rfl ?_
    refine ww_iload_n (pc := 8) C 1 dX11_pass_8 rfl ?_
    obtain ⟨_, e4, hf⟩ := xbd hf
    obtain ⟨v6, e5, hf⟩ := xbd hf
    refine ww_callVi (pc := 9) (as := [.int x1]) (st := []) C (k_X11_isLawful (l := gl G) (E := gE G) (hb := gB G) (σ := σ) e5) rfl (by decide) xc_X11_384 q1067 qp88 (xck_spec e4) rfl (by decide) (xst4 (Nat.le_of_ble_eq_true rfl)) xsame.rf.le xsame.rf.lim dX11_pass_9 ?_
    refine ww_if_eq (pc := 12) (tgt := 23) C dX11_pass_12 (by decide) (fun q => ?_) (fun q => ?_)
    · have hf := xip q hf
      refine ww_ldc (pc := 23) C q801 dX11_pass_23 ?_
      have hf := xsj hf
      subst hf
      exact ww_iret (pc := 25) C hk.1 dX11_pass_25
    · have hf := xin q hf
      refine ww_aload_n (pc := 15) C 0 dX11_pass_15 rfl ?_
      refine ww_iload_n (pc := 16) C 2 dX11_pass_16 rfl ?_
      obtain ⟨_, e7, hf⟩ := xbd hf
      obtain ⟨v9, e8, hf⟩ := xbd hf
      refine ww_callVi (pc := 17) (as := [.int x2]) (st := []) C (k_X11_isLawful (l := gl G) (E := gE G) (hb := gB G) (σ := σ) e8) rfl (by decide) xc_X11_384 q1067 qp88 (xck_spec e7) rfl (by decide) (xst4 (Nat.le_of_ble_eq_true rfl)) xsame.rf.le xsame.rf.lim dX11_pass_17 ?_
      refine ww_if_ne (pc := 20) (tgt := 26) C dX11_pass_20 (by decide) (fun q => ?_) (fun q => ?_)
      · have hf := xin q hf
        refine ww_aload_n (pc := 26) C 0 dX11_pass_26 rfl ?_
        obtain ⟨_, e10, hf⟩ := xbd hf
        obtain ⟨⟨z13, σ12⟩, e11, hf⟩ := xbd hf
        dsimp only at hf
        obtain ⟨_, e14, hf⟩ := xbd hf
        refine ww_callVr (pc := 27) (as := []) (st := []) C (k_X11_terrainNow (l := gl G) (E := gE G) (hb := gB G) (σ := σ) e11) rfl (by decide) xc_X11_412 q1114 qp95 (xck_spec e10) rfl (by decide) (xst4 (Nat.le_of_ble_eq_true rfl)) (m_X11_terrainNow e11).1 (fun q => by have hm9 := m_X11_pass_j30 hf; exact XLim.mid q (m_X11_terrainNow e11) hm9 hk.2) dX11_pass_27 ?_
        refine ww_nn (xnz_spec e14) ?_
        refine ww_sub [1, 2] rfl ?_
        exact s_X11_pass_j30 C hf hk
      · have hf := xip q hf
        refine ww_ldc (pc := 23) C q801 dX11_pass_23 ?_
        have hf := xsj hf
        subst hf
        exact ww_iret (pc := 25) C hk.1 dX11_pass_25
theorem m_X11_pass {σ : XS} {r0 : Nat} {x1 : Int32} {x2 : Int32} {x : Int32 × XS} (hf : f_X11_pass σ r0 x1 x2 = some x) : xext σ x.2 := by
  have hm := xext.rf (σ := σ)
  obtain ⟨_, e1, hf⟩ := xbd hf
  obtain ⟨v3, e2, hf⟩ := xbd hf
  by_cases q : v3 = 0
  · have hf := xip q hf
    have hf := xsj hf
    subst hf
    exact hm
  · have hf := xin q hf
    obtain ⟨_, e4, hf⟩ := xbd hf
    obtain ⟨v6, e5, hf⟩ := xbd hf
    by_cases q : v6 = 0
    · have hf := xip q hf
      have hf := xsj hf
      subst hf
      exact hm
    · have hf := xin q hf
      obtain ⟨_, e7, hf⟩ := xbd hf
      obtain ⟨v9, e8, hf⟩ := xbd hf
      by_cases q : v9 = 0
      · have hf := xip q hf
        have hf := xsj hf
        subst hf
        exact hm
      · have hf := xin q hf
        obtain ⟨_, e10, hf⟩ := xbd hf
        obtain ⟨⟨z13, σ12⟩, e11, hf⟩ := xbd hf
        dsimp only at hf
        have hm := hm.tr (m_X11_terrainNow e11)
        obtain ⟨_, e14, hf⟩ := xbd hf
        exact hm.tr (m_X11_pass_j30 hf)
theorem k_X11_pass {l : Launch} {E : XD} {hb : Nat} {σ : XS} {r0 : Nat} {x1 : Int32} {x2 : Int32} {x : Int32 × XS} (h : f_X11_pass σ r0 x1 x2 = some x) : XM l yX11_pass cX11_pass 3 (some .int) 6 136 E hb [.ref (hb + r0), .int x1, .int x2] σ (some (.int x.1)) x.2 := by
  refine xm_of (by decide) (Nat.le_of_ble_eq_true rfl) (m_X11_pass h).1 (fun G hG C hl hQ => ?_)
  obtain ⟨rfl, rfl, rfl, hN⟩ := hG
  exact s_X11_pass_e C h ⟨hQ, hl.2⟩
noncomputable def f_X6_pinAt (σ : XS) (r0 : Nat) (x1 : Int32) : Option Int32 := (xck σ r0 6).bind fun _ => (f_X6_isPinned σ r0 x1).bind fun v3 => if v3 = 0 then (some (0 : Int32)) else (xgI σ r0 6 3).bind fun v5 => (f_X11_bitOf v5 x1).bind fun v7 => if v7 = (1 : Int32) then (some (1 : Int32)) else some (2 : Int32)
theorem s_X6_pinAt_e {G : XG} (C : XC G cX6_pinAt RX6 (some .int) 2 2 42) {σ : XS} {r0 : Nat} {x1 : Int32} {x : Int32} (hf : f_X6_pinAt σ r0 x1 = some x) (hk : XEnd G (some (.int x)) σ) : WW G 0 [(0, .ref (gB G + r0)), (1, .int x1)] [] σ := by
  refine ww_aload_n (pc := 0) C 0 dX6_pinAt_0 rfl ?_
  refine ww_iload_n (pc := 1) C 1 dX6_pinAt_1 rfl ?_
  obtain ⟨_, e1, hf⟩ := xbd hf
  obtain ⟨v3, e2, hf⟩ := xbd hf
  refine ww_callVi (pc := 2) (as := [.int x1]) (st := []) C (k_X6_isPinned (l := gl G) (E := gE G) (hb := gB G) (σ := σ) e2) rfl (by decide) xc_X6_53 q741 qp43 (xck_spec e1) rfl (by decide) (xst4 (Nat.le_of_ble_eq_true rfl)) xsame.rf.le xsame.rf.lim dX6_pinAt_2 ?_
  refine ww_if_ne (pc := 5) (tgt := 10) C dX6_pinAt_5 (by decide) (fun q => ?_) (fun q => ?_)
  · have hf := xin q hf
    refine ww_aload_n (pc := 10) C 0 dX6_pinAt_10 rfl ?_
    obtain ⟨v5, e4, hf⟩ := xbd hf
    refine gf_X6_28 (pc := 11) C e4 dX6_pinAt_11 ?_
    refine ww_iload_n (pc := 14) C 1 dX6_pinAt_14 rfl ?_
    obtain ⟨v7, e6, hf⟩ := xbd hf
    refine ww_callSi (pc := 15) (as := [.int v5, .int x1]) (st := []) C (k_X11_bitOf (l := gl G) (E := gE G) (hb := gB G) (σ := σ) e6) xc_X6_49 q655 rfl (by decide) (xst4 (Nat.le_of_ble_eq_true rfl)) xsame.rf.le xsame.rf.lim dX6_pinAt_15 ?_
    refine ww_iconst (pc := 18) (v := (1 : Int32)) C dX6_pinAt_18 (by decide) ?_
    refine ww_icmp_ne (pc := 19) (tgt := 26) C dX6_pinAt_19 (by decide) (fun q => ?_) (fun q => ?_)
    · have hf := xin q hf
      refine ww_iconst (pc := 26) (v := (2 : Int32)) C dX6_pinAt_26 (by decide) ?_
      have hf := xsj hf
      subst hf
      exact ww_iret (pc := 27) C hk dX6_pinAt_27
    · have hf := xip q hf
      refine ww_iconst (pc := 22) (v := (1 : Int32)) C dX6_pinAt_22 (by decide) ?_
      refine ww_goto (pc := 23) (tgt := 27) C dX6_pinAt_23 (by decide) ?_
      have hf := xsj hf
      subst hf
      exact ww_iret (pc := 27) C hk dX6_pinAt_27
  · have hf := xip q hf
    refine ww_iconst (pc := 8) (v := (0 : Int32)) C dX6_pinAt_8 (by decide) ?_
    have hf := xsj hf
    subst hf
    exact ww_iret (pc := 9) C hk dX6_pinAt_9
theorem k_X6_pinAt {l : Launch} {E : XD} {hb : Nat} {σ : XS} {r0 : Nat} {x1 : Int32} {x : Int32} (h : f_X6_pinAt σ r0 x1 = some x) : XM l yX6_pinAt cX6_pinAt 2 (some .int) 2 42 E hb [.ref (hb + r0), .int x1] σ (some (.int x)) σ := by
  refine xm_of (by decide) (Nat.le_of_ble_eq_true rfl) ⟨Nat.le_refl _, Nat.le_refl _⟩ (fun G hG C hl hQ => ?_)
  obtain ⟨rfl, rfl, rfl, hN⟩ := hG
  exact s_X6_pinAt_e C h hQ
noncomputable def f_X6_setPin_j26 (σ : XS) (r0 : Nat) (x2 : Int32) (x3 : Int32) (t0 : Nat) (t1 : Int32) : Option XS := (xpI σ t0 6 2 t1).bind fun σ2 => if x2 = (1 : Int32) then ((xgI σ2 r0 6 3).bind fun v4 => (xpI σ2 r0 6 3 (v4 ||| x3)).bind fun σ6 => some σ6) else (xgI σ2 r0 6 3).bind fun v4 => (xpI σ2 r0 6 3 (v4 &&& (x3 ^^^ (-1 : Int32)))).bind fun σ6 => some σ6
noncomputable def f_X6_setPin (σ : XS) (r0 : Nat) (x1 : Int32) (x2 : Int32) : Option XS := if x2 = 0 then ((xgI σ r0 6 2).bind fun v2 => f_X6_setPin_j26 σ r0 x2 ((1 : Int32) <<< (x1 &&& 31)) r0 (v2 &&& (((1 : Int32) <<< (x1 &&& 31)) ^^^ (-1 : Int32)))) else (xgI σ r0 6 2).bind fun v2 => f_X6_setPin_j26 σ r0 x2 ((1 : Int32) <<< (x1 &&& 31)) r0 (v2 ||| ((1 : Int32) <<< (x1 &&& 31)))
theorem s_X6_setPin_j26 {G : XG} (C : XC G cX6_setPin RX6 none 4 0 0) {σ : XS} {r0 : Nat} {x2 : Int32} {x3 : Int32} {t0 : Nat} {t1 : Int32} {x : XS} (hf : f_X6_setPin_j26 σ r0 x2 x3 t0 t1 = some x) (hk : XEnd G none x) : WW G 26 [(0, .ref (gB G + r0)), (2, .int x2), (3, .int x3)] [.int t1, .ref (gB G + t0)] σ := by
  obtain ⟨σ2, e1, hf⟩ := xbd hf
  refine pf_X6_24 (pc := 26) C e1 dX6_setPin_26 ?_
  refine ww_aload_n (pc := 29) C 0 dX6_setPin_29 rfl ?_
  refine ww_iload_n (pc := 30) C 1 dX6_setPin_30 rfl ?_
  refine ww_iconst (pc := 31) (v := (1 : Int32)) C dX6_setPin_31 (by decide) ?_
  refine ww_icmp_ne (pc := 32) (tgt := 44) C dX6_setPin_32 (by decide) (fun q => ?_) (fun q => ?_)
  · have hf := xin q hf
    refine ww_aload_n (pc := 44) C 0 dX6_setPin_44 rfl ?_
    obtain ⟨v4, e3, hf⟩ := xbd hf
    refine gf_X6_28 (pc := 45) C e3 dX6_setPin_45 ?_
    refine ww_iload_n (pc := 48) C 2 dX6_setPin_48 rfl ?_
    refine ww_iconst (pc := 49) (v := (-1 : Int32)) C dX6_setPin_49 (by decide) ?_
    refine ww_ixor (pc := 50) C dX6_setPin_50 ?_
    refine ww_iand (pc := 51) C dX6_setPin_51 ?_
    obtain ⟨σ6, e5, hf⟩ := xbd hf
    refine pf_X6_28 (pc := 52) C e5 dX6_setPin_52 ?_
    have hf := xsj hf
    subst hf
    exact ww_vret (pc := 55) C hk dX6_setPin_55
  · have hf := xip q hf
    refine ww_aload_n (pc := 35) C 0 dX6_setPin_35 rfl ?_
    obtain ⟨v4, e3, hf⟩ := xbd hf
    refine gf_X6_28 (pc := 36) C e3 dX6_setPin_36 ?_
    refine ww_iload_n (pc := 39) C 2 dX6_setPin_39 rfl ?_
    refine ww_ior (pc := 40) C dX6_setPin_40 ?_
    refine ww_goto (pc := 41) (tgt := 52) C dX6_setPin_41 (by decide) ?_
    obtain ⟨σ6, e5, hf⟩ := xbd hf
    refine pf_X6_28 (pc := 52) C e5 dX6_setPin_52 ?_
    have hf := xsj hf
    subst hf
    exact ww_vret (pc := 55) C hk dX6_setPin_55
theorem m_X6_setPin_j26 {σ : XS} {r0 : Nat} {x2 : Int32} {x3 : Int32} {t0 : Nat} {t1 : Int32} {x : XS} (hf : f_X6_setPin_j26 σ r0 x2 x3 t0 t1 = some x) : xsame σ x := by
  have hm := xsame.rf (σ := σ)
  obtain ⟨σ2, e1, hf⟩ := xbd hf
  have hm := hm.tr (xpI_same e1)
  by_cases q : x2 = (1 : Int32)
  · have hf := xip q hf
    obtain ⟨v4, e3, hf⟩ := xbd hf
    obtain ⟨σ6, e5, hf⟩ := xbd hf
    have hm := hm.tr (xpI_same e5)
    have hf := xsj hf
    subst hf
    exact hm
  · have hf := xin q hf
    obtain ⟨v4, e3, hf⟩ := xbd hf
    obtain ⟨σ6, e5, hf⟩ := xbd hf
    have hm := hm.tr (xpI_same e5)
    have hf := xsj hf
    subst hf
    exact hm
theorem s_X6_setPin_e {G : XG} (C : XC G cX6_setPin RX6 none 4 0 0) {σ : XS} {r0 : Nat} {x1 : Int32} {x2 : Int32} {x : XS} (hf : f_X6_setPin σ r0 x1 x2 = some x) (hk : XEnd G none x) : WW G 0 [(0, .ref (gB G + r0)), (1, .int x1), (2, .int x2)] [] σ := by
  refine ww_iconst (pc := 0) (v := (1 : Int32)) C dX6_setPin_0 (by decide) ?_
  refine ww_iload_n (pc := 1) C 1 dX6_setPin_1 rfl ?_
  refine ww_ishl (pc := 2) C dX6_setPin_2 ?_
  refine ww_istore_n (pc := 3) (lv' := [(3, .int ((1 : Int32) <<< (x1 &&& 31))), (0, .ref (gB G + r0)), (1, .int x1), (2, .int x2)]) C dX6_setPin_3 (by decide) rfl ?_
  refine ww_aload_n (pc := 4) C 1 dX6_setPin_4 rfl ?_
  refine ww_iload_n (pc := 5) C 3 dX6_setPin_5 rfl ?_
  refine ww_if_ne (pc := 6) (tgt := 20) C dX6_setPin_6 (by decide) (fun q => ?_) (fun q => ?_)
  · have hf := xin q hf
    refine ww_aload_n (pc := 20) C 1 dX6_setPin_20 rfl ?_
    obtain ⟨v2, e1, hf⟩ := xbd hf
    refine gf_X6_24 (pc := 21) C e1 dX6_setPin_21 ?_
    refine ww_iload_n (pc := 24) C 0 dX6_setPin_24 rfl ?_
    refine ww_ior (pc := 25) C dX6_setPin_25 ?_
    refine ww_sub [1, 3, 0] rfl ?_
    exact s_X6_setPin_j26 C hf hk
  · have hf := xip q hf
    refine ww_aload_n (pc := 9) C 1 dX6_setPin_9 rfl ?_
    obtain ⟨v2, e1, hf⟩ := xbd hf
    refine gf_X6_24 (pc := 10) C e1 dX6_setPin_10 ?_
    refine ww_iload_n (pc := 13) C 0 dX6_setPin_13 rfl ?_
    refine ww_iconst (pc := 14) (v := (-1 : Int32)) C dX6_setPin_14 (by decide) ?_
    refine ww_ixor (pc := 15) C dX6_setPin_15 ?_
    refine ww_iand (pc := 16) C dX6_setPin_16 ?_
    refine ww_goto (pc := 17) (tgt := 26) C dX6_setPin_17 (by decide) ?_
    refine ww_sub [1, 3, 0] rfl ?_
    exact s_X6_setPin_j26 C hf hk
theorem m_X6_setPin {σ : XS} {r0 : Nat} {x1 : Int32} {x2 : Int32} {x : XS} (hf : f_X6_setPin σ r0 x1 x2 = some x) : xsame σ x := by
  have hm := xsame.rf (σ := σ)
  by_cases q : x2 = 0
  · have hf := xip q hf
    obtain ⟨v2, e1, hf⟩ := xbd hf
    exact hm.tr (m_X6_setPin_j26 hf)
  · have hf := xin q hf
    obtain ⟨v2, e1, hf⟩ := xbd hf
    exact hm.tr (m_X6_setPin_j26 hf)
theorem k_X6_setPin {l : Launch} {E : XD} {hb : Nat} {σ : XS} {r0 : Nat} {x1 : Int32} {x2 : Int32} {x : XS} (h : f_X6_setPin σ r0 x1 x2 = some x) : XM l yX6_setPin cX6_setPin 4 none 0 0 E hb [.ref (hb + r0), .int x1, .int x2] σ none x := by
  refine xm_of (by decide) (Nat.le_of_ble_eq_true rfl) (m_X6_setPin h).le (fun G hG C hl hQ => ?_)
  obtain ⟨rfl, rfl, rfl, hN⟩ := hG
  exact s_X6_setPin_e C h hQ
noncomputable def f_X11_stampPins (σ : XS) (r0 : Nat) : Option XS := (xgI σ r0 11 15).bind fun v2 => (xpI σ r0 11 15 (v2 + (1 : Int32))).bind fun σ4 => (xgR σ4 r0 11 3).bind fun z6 => (xgI σ4 r0 11 15).bind fun v8 => (xpI σ4 z6 6 7 v8).bind fun σ10 => some σ10
theorem s_X11_stampPins_e {G : XG} (C : XC G cX11_stampPins RX11 none 1 0 0) {σ : XS} {r0 : Nat} {x : XS} (hf : f_X11_stampPins σ r0 = some x) (hk : XEnd G none x) : WW G 0 [(0, .ref (gB G + r0))] [] σ := by
  refine ww_aload_n (pc := 0) C 0 dX11_stampPins_0 rfl ?_
  refine ww_dup (pc := 1) C dX11_stampPins_1 rfl ?_
  obtain ⟨v2, e1, hf⟩ := xbd hf
  refine gf_X11_99 (pc := 2) C e1 dX11_stampPins_2 ?_
  refine ww_iconst (pc := 5) (v := (1 : Int32)) C dX11_stampPins_5 (by decide) ?_
  refine ww_iadd (pc := 6) C dX11_stampPins_6 ?_
  obtain ⟨σ4, e3, hf⟩ := xbd hf
  refine pf_X11_99 (pc := 7) C e3 dX11_stampPins_7 ?_
  refine ww_aload_n (pc := 10) C 0 dX11_stampPins_10 rfl ?_
  obtain ⟨z6, e5, hf⟩ := xbd hf
  refine gf_X11_31 (pc := 11) C e5 dX11_stampPins_11 ?_
  refine ww_aload_n (pc := 14) C 0 dX11_stampPins_14 rfl ?_
  obtain ⟨v8, e7, hf⟩ := xbd hf
  refine gf_X11_99 (pc := 15) C e7 dX11_stampPins_15 ?_
  obtain ⟨σ10, e9, hf⟩ := xbd hf
  refine pf_X11_463 (pc := 18) C e9 dX11_stampPins_18 ?_
  have hf := xsj hf
  subst hf
  exact ww_vret (pc := 21) C hk dX11_stampPins_21
theorem m_X11_stampPins {σ : XS} {r0 : Nat} {x : XS} (hf : f_X11_stampPins σ r0 = some x) : xsame σ x := by
  have hm := xsame.rf (σ := σ)
  obtain ⟨v2, e1, hf⟩ := xbd hf
  obtain ⟨σ4, e3, hf⟩ := xbd hf
  have hm := hm.tr (xpI_same e3)
  obtain ⟨z6, e5, hf⟩ := xbd hf
  obtain ⟨v8, e7, hf⟩ := xbd hf
  obtain ⟨σ10, e9, hf⟩ := xbd hf
  have hm := hm.tr (xpI_same e9)
  have hf := xsj hf
  subst hf
  exact hm
theorem k_X11_stampPins {l : Launch} {E : XD} {hb : Nat} {σ : XS} {r0 : Nat} {x : XS} (h : f_X11_stampPins σ r0 = some x) : XM l yX11_stampPins cX11_stampPins 1 none 0 0 E hb [.ref (hb + r0)] σ none x := by
  refine xm_of (by decide) (Nat.le_of_ble_eq_true rfl) (m_X11_stampPins h).le (fun G hG C hl hQ => ?_)
  obtain ⟨rfl, rfl, rfl, hN⟩ := hG
  exact s_X11_stampPins_e C h hQ
noncomputable def f_X11_pin (σ : XS) (r0 : Nat) (x1 : Int32) (x2 : Int32) : Option (Int32 × XS) := (xgR σ r0 11 2).bind fun z2 => (xck σ z2 3).bind fun _ => (f_X3_hasSite σ z2 x1).bind fun v5 => if v5 = 0 then (some ((0 : Int32), σ)) else if x2 < 0 then (some ((0 : Int32), σ)) else if (2 : Int32) < x2 then (some ((0 : Int32), σ)) else (xgR σ r0 11 3).bind fun z7 => (xck σ z7 6).bind fun _ => (f_X6_pinAt σ z7 x1).bind fun v10 => if v10 = x2 then (some ((0 : Int32), σ)) else (xgR σ r0 11 4).bind fun z12 => (xgR σ r0 11 3).bind fun z14 => (xck σ z12 5).bind fun _ => (f_X5_keep σ z12 z14).bind fun σ17 => (xgR σ17 r0 11 3).bind fun z19 => (xck σ17 z19 6).bind fun _ => (f_X6_setPin σ17 z19 x1 x2).bind fun σ22 => (xgR σ22 r0 11 3).bind fun z24 => (xgR σ22 r0 11 3).bind fun z26 => (xgI σ22 z26 6 4).bind fun v28 => (xgR σ22 r0 11 3).bind fun z30 => (xgI σ22 z30 6 2).bind fun v32 => (xgR σ22 r0 11 3).bind fun z34 => (xgI σ22 z34 6 3).bind fun v36 => (xpI σ22 z24 6 4 ((v28 &&& (v32 ^^^ (-1 : Int32))) ||| v36)).bind fun σ38 => (xck σ38 r0 11).bind fun _ => (f_X11_stampPins σ38 r0).bind fun σ41 => some ((1 : Int32), σ41)
theorem s_X11_pin_e {G : XG} (C : XC G cX11_pin RX11 (some .boolean) 3 3 82) {σ : XS} {r0 : Nat} {x1 : Int32} {x2 : Int32} {x : Int32 × XS} (hf : f_X11_pin σ r0 x1 x2 = some x) (hk : XEnd G (some (.int x.1)) x.2) : WW G 0 [(0, .ref (gB G + r0)), (1, .int x1), (2, .int x2)] [] σ := by
  refine ww_aload_n (pc := 0) C 0 dX11_pin_0 rfl ?_
  obtain ⟨z2, e1, hf⟩ := xbd hf
  refine gf_X11_24 (pc := 1) C e1 dX11_pin_1 ?_
  refine ww_iload_n (pc := 4) C 1 dX11_pin_4 rfl ?_
  obtain ⟨_, e3, hf⟩ := xbd hf
  obtain ⟨v5, e4, hf⟩ := xbd hf
  refine ww_callVi (pc := 5) (as := [.int x1]) (st := []) C (k_X3_hasSite (l := gl G) (E := gE G) (hb := gB G) (σ := σ) e4) rfl (by decide) xc_X11_176 q699 qp37 (xck_spec e3) rfl (by decide) (xst4 (Nat.le_of_ble_eq_true rfl)) xsame.rf.le xsame.rf.lim dX11_pin_5 ?_
  refine ww_if_eq (pc := 8) (tgt := 32) C dX11_pin_8 (by decide) (fun q => ?_) (fun q => ?_)
  · have hf := xip q hf
    refine ww_iconst (pc := 32) (v := (0 : Int32)) C dX11_pin_32 (by decide) ?_
    have hf := xsj hf
    subst hf
    exact ww_zret (pc := 33) C rfl hk dX11_pin_33
  · have hf := xin q hf
    refine ww_iload_n (pc := 11) C 2 dX11_pin_11 rfl ?_
    refine ww_if_lt (pc := 12) (tgt := 32) C dX11_pin_12 (by decide) (fun q => ?_) (fun q => ?_)
    · have hf := xip q hf
      refine ww_iconst (pc := 32) (v := (0 : Int32)) C dX11_pin_32 (by decide) ?_
      have hf := xsj hf
      subst hf
      exact ww_zret (pc := 33) C rfl hk dX11_pin_33
    · have hf := xin q hf
      refine ww_iload_n (pc := 15) C 2 dX11_pin_15 rfl ?_
      refine ww_iconst (pc := 16) (v := (2 : Int32)) C dX11_pin_16 (by decide) ?_
      refine ww_icmp_gt (pc := 17) (tgt := 32) C dX11_pin_17 (by decide) (fun q => ?_) (fun q => ?_)
      · have hf := xip q hf
        refine ww_iconst (pc := 32) (v := (0 : Int32)) C dX11_pin_32 (by decide) ?_
        have hf := xsj hf
        subst hf
        exact ww_zret (pc := 33) C rfl hk dX11_pin_33
      · have hf := xin q hf
        refine ww_aload_n (pc := 20) C 0 dX11_pin_20 rfl ?_
        obtain ⟨z7, e6, hf⟩ := xbd hf
        refine gf_X11_31 (pc := 21) C e6 dX11_pin_21 ?_
        refine ww_iload_n (pc := 24) C 1 dX11_pin_24 rfl ?_
        obtain ⟨_, e8, hf⟩ := xbd hf
        obtain ⟨v10, e9, hf⟩ := xbd hf
        refine ww_callVi (pc := 25) (as := [.int x1]) (st := []) C (k_X6_pinAt (l := gl G) (E := gE G) (hb := gB G) (σ := σ) e9) rfl (by decide) xc_X11_185 q737 qp42 (xck_spec e8) rfl (by decide) (xst4 (Nat.le_of_ble_eq_true rfl)) xsame.rf.le xsame.rf.lim dX11_pin_25 ?_
        refine ww_iload_n (pc := 28) C 2 dX11_pin_28 rfl ?_
        refine ww_icmp_ne (pc := 29) (tgt := 34) C dX11_pin_29 (by decide) (fun q => ?_) (fun q => ?_)
        · have hf := xin q hf
          refine ww_aload_n (pc := 34) C 0 dX11_pin_34 rfl ?_
          obtain ⟨z12, e11, hf⟩ := xbd hf
          refine gf_X11_38 (pc := 35) C e11 dX11_pin_35 ?_
          refine ww_aload_n (pc := 38) C 0 dX11_pin_38 rfl ?_
          obtain ⟨z14, e13, hf⟩ := xbd hf
          refine gf_X11_31 (pc := 39) C e13 dX11_pin_39 ?_
          obtain ⟨_, e15, hf⟩ := xbd hf
          obtain ⟨σ17, e16, hf⟩ := xbd hf
          refine ww_callVv (pc := 42) (as := [.ref (gB G + z14)]) (st := []) C (k_X5_keep (l := gl G) (E := gE G) (hb := gB G) (σ := σ) e16) rfl (by decide) xc_X11_169 q714 qp40 (xck_spec e15) rfl (by decide) (xst4 (Nat.le_of_ble_eq_true rfl)) (m_X5_keep e16).le (m_X5_keep e16).lim dX11_pin_42 ?_
          refine ww_aload_n (pc := 45) C 0 dX11_pin_45 rfl ?_
          obtain ⟨z19, e18, hf⟩ := xbd hf
          refine gf_X11_31 (pc := 46) C e18 dX11_pin_46 ?_
          refine ww_iload_n (pc := 49) C 1 dX11_pin_49 rfl ?_
          refine ww_iload_n (pc := 50) C 2 dX11_pin_50 rfl ?_
          obtain ⟨_, e20, hf⟩ := xbd hf
          obtain ⟨σ22, e21, hf⟩ := xbd hf
          refine ww_callVv (pc := 51) (as := [.int x1, .int x2]) (st := []) C (k_X6_setPin (l := gl G) (E := gE G) (hb := gB G) (σ := σ17) e21) rfl (by decide) xc_X11_188 q648 qp28 (xck_spec e20) rfl (by decide) (xst4 (Nat.le_of_ble_eq_true rfl)) (m_X6_setPin e21).le (m_X6_setPin e21).lim dX11_pin_51 ?_
          refine ww_aload_n (pc := 54) C 0 dX11_pin_54 rfl ?_
          obtain ⟨z24, e23, hf⟩ := xbd hf
          refine gf_X11_31 (pc := 55) C e23 dX11_pin_55 ?_
          refine ww_aload_n (pc := 58) C 0 dX11_pin_58 rfl ?_
          obtain ⟨z26, e25, hf⟩ := xbd hf
          refine gf_X11_31 (pc := 59) C e25 dX11_pin_59 ?_
          obtain ⟨v28, e27, hf⟩ := xbd hf
          refine gf_X11_144 (pc := 62) C e27 dX11_pin_62 ?_
          refine ww_aload_n (pc := 65) C 0 dX11_pin_65 rfl ?_
          obtain ⟨z30, e29, hf⟩ := xbd hf
          refine gf_X11_31 (pc := 66) C e29 dX11_pin_66 ?_
          obtain ⟨v32, e31, hf⟩ := xbd hf
          refine gf_X11_191 (pc := 69) C e31 dX11_pin_69 ?_
          refine ww_iconst (pc := 72) (v := (-1 : Int32)) C dX11_pin_72 (by decide) ?_
          refine ww_ixor (pc := 73) C dX11_pin_73 ?_
          refine ww_iand (pc := 74) C dX11_pin_74 ?_
          refine ww_aload_n (pc := 75) C 0 dX11_pin_75 rfl ?_
          obtain ⟨z34, e33, hf⟩ := xbd hf
          refine gf_X11_31 (pc := 76) C e33 dX11_pin_76 ?_
          obtain ⟨v36, e35, hf⟩ := xbd hf
          refine gf_X11_141 (pc := 79) C e35 dX11_pin_79 ?_
          refine ww_ior (pc := 82) C dX11_pin_82 ?_
          obtain ⟨σ38, e37, hf⟩ := xbd hf
          refine pf_X11_144 (pc := 83) C e37 dX11_pin_83 ?_
          refine ww_aload_n (pc := 86) C 0 dX11_pin_86 rfl ?_
          obtain ⟨_, e39, hf⟩ := xbd hf
          obtain ⟨σ41, e40, hf⟩ := xbd hf
          refine ww_callVv (pc := 87) (as := []) (st := []) C (k_X11_stampPins (l := gl G) (E := gE G) (hb := gB G) (σ := σ38) e40) rfl (by decide) xc_X11_194 q747 qp44 (xck_spec e39) rfl (by decide) (xst4 (Nat.le_of_ble_eq_true rfl)) (m_X11_stampPins e40).le (m_X11_stampPins e40).lim dX11_pin_87 ?_
          refine ww_iconst (pc := 90) (v := (1 : Int32)) C dX11_pin_90 (by decide) ?_
          have hf := xsj hf
          subst hf
          exact ww_zret (pc := 91) C rfl hk dX11_pin_91
        · have hf := xip q hf
          refine ww_iconst (pc := 32) (v := (0 : Int32)) C dX11_pin_32 (by decide) ?_
          have hf := xsj hf
          subst hf
          exact ww_zret (pc := 33) C rfl hk dX11_pin_33
theorem m_X11_pin {σ : XS} {r0 : Nat} {x1 : Int32} {x2 : Int32} {x : Int32 × XS} (hf : f_X11_pin σ r0 x1 x2 = some x) : xsame σ x.2 := by
  have hm := xsame.rf (σ := σ)
  obtain ⟨z2, e1, hf⟩ := xbd hf
  obtain ⟨_, e3, hf⟩ := xbd hf
  obtain ⟨v5, e4, hf⟩ := xbd hf
  by_cases q : v5 = 0
  · have hf := xip q hf
    have hf := xsj hf
    subst hf
    exact hm
  · have hf := xin q hf
    by_cases q : x2 < 0
    · have hf := xip q hf
      have hf := xsj hf
      subst hf
      exact hm
    · have hf := xin q hf
      by_cases q : (2 : Int32) < x2
      · have hf := xip q hf
        have hf := xsj hf
        subst hf
        exact hm
      · have hf := xin q hf
        obtain ⟨z7, e6, hf⟩ := xbd hf
        obtain ⟨_, e8, hf⟩ := xbd hf
        obtain ⟨v10, e9, hf⟩ := xbd hf
        by_cases q : v10 = x2
        · have hf := xip q hf
          have hf := xsj hf
          subst hf
          exact hm
        · have hf := xin q hf
          obtain ⟨z12, e11, hf⟩ := xbd hf
          obtain ⟨z14, e13, hf⟩ := xbd hf
          obtain ⟨_, e15, hf⟩ := xbd hf
          obtain ⟨σ17, e16, hf⟩ := xbd hf
          have hm := hm.tr (m_X5_keep e16)
          obtain ⟨z19, e18, hf⟩ := xbd hf
          obtain ⟨_, e20, hf⟩ := xbd hf
          obtain ⟨σ22, e21, hf⟩ := xbd hf
          have hm := hm.tr (m_X6_setPin e21)
          obtain ⟨z24, e23, hf⟩ := xbd hf
          obtain ⟨z26, e25, hf⟩ := xbd hf
          obtain ⟨v28, e27, hf⟩ := xbd hf
          obtain ⟨z30, e29, hf⟩ := xbd hf
          obtain ⟨v32, e31, hf⟩ := xbd hf
          obtain ⟨z34, e33, hf⟩ := xbd hf
          obtain ⟨v36, e35, hf⟩ := xbd hf
          obtain ⟨σ38, e37, hf⟩ := xbd hf
          have hm := hm.tr (xpI_same e37)
          obtain ⟨_, e39, hf⟩ := xbd hf
          obtain ⟨σ41, e40, hf⟩ := xbd hf
          have hm := hm.tr (m_X11_stampPins e40)
          have hf := xsj hf
          subst hf
          exact hm
theorem k_X11_pin {l : Launch} {E : XD} {hb : Nat} {σ : XS} {r0 : Nat} {x1 : Int32} {x2 : Int32} {x : Int32 × XS} (h : f_X11_pin σ r0 x1 x2 = some x) : XM l yX11_pin cX11_pin 3 (some .boolean) 3 82 E hb [.ref (hb + r0), .int x1, .int x2] σ (some (.int x.1)) x.2 := by
  refine xm_of (by decide) (Nat.le_of_ble_eq_true rfl) (m_X11_pin h).le (fun G hG C hl hQ => ?_)
  obtain ⟨rfl, rfl, rfl, hN⟩ := hG
  exact s_X11_pin_e C h hQ
noncomputable def f_X11_place (σ : XS) (r0 : Nat) : Option Int32 := (xgI σ r0 11 14).bind fun v2 => some v2
theorem s_X11_place_e {G : XG} (C : XC G cX11_place RX11 (some .int) 1 0 0) {σ : XS} {r0 : Nat} {x : Int32} (hf : f_X11_place σ r0 = some x) (hk : XEnd G (some (.int x)) σ) : WW G 0 [(0, .ref (gB G + r0))] [] σ := by
  refine ww_aload_n (pc := 0) C 0 dX11_place_0 rfl ?_
  obtain ⟨v2, e1, hf⟩ := xbd hf
  refine gf_X11_95 (pc := 1) C e1 dX11_place_1 ?_
  have hf := xsj hf
  subst hf
  exact ww_iret (pc := 4) C hk dX11_place_4
theorem k_X11_place {l : Launch} {E : XD} {hb : Nat} {σ : XS} {r0 : Nat} {x : Int32} (h : f_X11_place σ r0 = some x) : XM l yX11_place cX11_place 1 (some .int) 0 0 E hb [.ref (hb + r0)] σ (some (.int x)) σ := by
  refine xm_of (by decide) (Nat.le_of_ble_eq_true rfl) ⟨Nat.le_refl _, Nat.le_refl _⟩ (fun G hG C hl hQ => ?_)
  obtain ⟨rfl, rfl, rfl, hN⟩ := hG
  exact s_X11_place_e C h hQ
noncomputable def f_X6_setField (σ : XS) (r0 : Nat) (x1 : Int32) (x2 : Int32) : Option XS := if x1 < 0 then (some σ) else (xgR σ r0 6 1).bind fun z2 => (xal σ z2).bind fun v4 => if v4 ≤ x1 then (some σ) else (xgR σ r0 6 1).bind fun z6 => (xsI σ 20 z6 x1 x2).bind fun σ8 => some σ8
theorem s_X6_setField_e {G : XG} (C : XC G cX6_setField RX6 none 3 0 0) {σ : XS} {r0 : Nat} {x1 : Int32} {x2 : Int32} {x : XS} (hf : f_X6_setField σ r0 x1 x2 = some x) (hk : XEnd G none x) : WW G 0 [(0, .ref (gB G + r0)), (1, .int x1), (2, .int x2)] [] σ := by
  refine ww_iload_n (pc := 0) C 1 dX6_setField_0 rfl ?_
  refine ww_if_lt (pc := 1) (tgt := 20) C dX6_setField_1 (by decide) (fun q => ?_) (fun q => ?_)
  · have hf := xip q hf
    have hf := xsj hf
    subst hf
    exact ww_vret (pc := 20) C hk dX6_setField_20
  · have hf := xin q hf
    refine ww_iload_n (pc := 4) C 1 dX6_setField_4 rfl ?_
    refine ww_aload_n (pc := 5) C 0 dX6_setField_5 rfl ?_
    obtain ⟨z2, e1, hf⟩ := xbd hf
    refine gf_X6_15 (pc := 6) C e1 dX6_setField_6 ?_
    obtain ⟨v4, e3, hf⟩ := xbd hf
    refine ww_alen (pc := 9) C e3 dX6_setField_9 ?_
    refine ww_icmp_ge (pc := 10) (tgt := 20) C dX6_setField_10 (by decide) (fun q => ?_) (fun q => ?_)
    · have hf := xip q hf
      have hf := xsj hf
      subst hf
      exact ww_vret (pc := 20) C hk dX6_setField_20
    · have hf := xin q hf
      refine ww_aload_n (pc := 13) C 0 dX6_setField_13 rfl ?_
      obtain ⟨z6, e5, hf⟩ := xbd hf
      refine gf_X6_15 (pc := 14) C e5 dX6_setField_14 ?_
      refine ww_iload_n (pc := 17) C 1 dX6_setField_17 rfl ?_
      refine ww_iload_n (pc := 18) C 2 dX6_setField_18 rfl ?_
      obtain ⟨σ8, e7, hf⟩ := xbd hf
      refine ww_iast (pc := 19) C e7 dX6_setField_19 ?_
      have hf := xsj hf
      subst hf
      exact ww_vret (pc := 20) C hk dX6_setField_20
theorem m_X6_setField {σ : XS} {r0 : Nat} {x1 : Int32} {x2 : Int32} {x : XS} (hf : f_X6_setField σ r0 x1 x2 = some x) : xsame σ x := by
  have hm := xsame.rf (σ := σ)
  by_cases q : x1 < 0
  · have hf := xip q hf
    have hf := xsj hf
    subst hf
    exact hm
  · have hf := xin q hf
    obtain ⟨z2, e1, hf⟩ := xbd hf
    obtain ⟨v4, e3, hf⟩ := xbd hf
    by_cases q : v4 ≤ x1
    · have hf := xip q hf
      have hf := xsj hf
      subst hf
      exact hm
    · have hf := xin q hf
      obtain ⟨z6, e5, hf⟩ := xbd hf
      obtain ⟨σ8, e7, hf⟩ := xbd hf
      have hm := hm.tr (xsI_same e7)
      have hf := xsj hf
      subst hf
      exact hm
theorem k_X6_setField {l : Launch} {E : XD} {hb : Nat} {σ : XS} {r0 : Nat} {x1 : Int32} {x2 : Int32} {x : XS} (h : f_X6_setField σ r0 x1 x2 = some x) : XM l yX6_setField cX6_setField 3 none 0 0 E hb [.ref (hb + r0), .int x1, .int x2] σ none x := by
  refine xm_of (by decide) (Nat.le_of_ble_eq_true rfl) (m_X6_setField h).le (fun G hG C hl hQ => ?_)
  obtain ⟨rfl, rfl, rfl, hN⟩ := hG
  exact s_X6_setField_e C h hQ
noncomputable def f_X11_pull (σ : XS) (r0 : Nat) (x1 : Int32) (x2 : Int32) : Option (Int32 × XS) := (xgR σ r0 11 2).bind fun z2 => (xck σ z2 3).bind fun _ => (f_X3_hasSite σ z2 x1).bind fun v5 => if v5 = 0 then (some ((0 : Int32), σ)) else (f_X11_isJ x2).bind fun v7 => if v7 = 0 then (some ((0 : Int32), σ)) else (xgR σ r0 11 3).bind fun z9 => (xck σ z9 6).bind fun _ => (f_X6_fieldAt σ z9 x1).bind fun v12 => if v12 = x2 then (some ((0 : Int32), σ)) else (xgR σ r0 11 4).bind fun z14 => (xgR σ r0 11 3).bind fun z16 => (xck σ z14 5).bind fun _ => (f_X5_keep σ z14 z16).bind fun σ19 => (xgR σ19 r0 11 3).bind fun z21 => (xck σ19 z21 6).bind fun _ => (f_X6_setField σ19 z21 x1 x2).bind fun σ24 => (xck σ24 r0 11).bind fun _ => (f_X11_stampTies σ24 r0).bind fun σ27 => some ((1 : Int32), σ27)
theorem s_X11_pull_e {G : XG} (C : XC G cX11_pull RX11 (some .boolean) 3 3 82) {σ : XS} {r0 : Nat} {x1 : Int32} {x2 : Int32} {x : Int32 × XS} (hf : f_X11_pull σ r0 x1 x2 = some x) (hk : XEnd G (some (.int x.1)) x.2) : WW G 0 [(0, .ref (gB G + r0)), (1, .int x1), (2, .int x2)] [] σ := by
  refine ww_aload_n (pc := 0) C 0 dX11_pull_0 rfl ?_
  obtain ⟨z2, e1, hf⟩ := xbd hf
  refine gf_X11_24 (pc := 1) C e1 dX11_pull_1 ?_
  refine ww_iload_n (pc := 4) C 1 dX11_pull_4 rfl ?_
  obtain ⟨_, e3, hf⟩ := xbd hf
  obtain ⟨v5, e4, hf⟩ := xbd hf
  refine ww_callVi (pc := 5) (as := [.int x1]) (st := []) C (k_X3_hasSite (l := gl G) (E := gE G) (hb := gB G) (σ := σ) e4) rfl (by decide) xc_X11_176 q699 qp37 (xck_spec e3) rfl (by decide) (xst4 (Nat.le_of_ble_eq_true rfl)) xsame.rf.le xsame.rf.lim dX11_pull_5 ?_
  refine ww_if_eq (pc := 8) (tgt := 30) C dX11_pull_8 (by decide) (fun q => ?_) (fun q => ?_)
  · have hf := xip q hf
    refine ww_iconst (pc := 30) (v := (0 : Int32)) C dX11_pull_30 (by decide) ?_
    have hf := xsj hf
    subst hf
    exact ww_zret (pc := 31) C rfl hk dX11_pull_31
  · have hf := xin q hf
    refine ww_iload_n (pc := 11) C 2 dX11_pull_11 rfl ?_
    obtain ⟨v7, e6, hf⟩ := xbd hf
    refine ww_callSi (pc := 12) (as := [.int x2]) (st := []) C (k_X11_isJ (l := gl G) (E := gE G) (hb := gB G) (σ := σ) e6) xc_X11_161 q706 rfl (by decide) (xst4 (Nat.le_of_ble_eq_true rfl)) xsame.rf.le xsame.rf.lim dX11_pull_12 ?_
    refine ww_if_eq (pc := 15) (tgt := 30) C dX11_pull_15 (by decide) (fun q => ?_) (fun q => ?_)
    · have hf := xip q hf
      refine ww_iconst (pc := 30) (v := (0 : Int32)) C dX11_pull_30 (by decide) ?_
      have hf := xsj hf
      subst hf
      exact ww_zret (pc := 31) C rfl hk dX11_pull_31
    · have hf := xin q hf
      refine ww_aload_n (pc := 18) C 0 dX11_pull_18 rfl ?_
      obtain ⟨z9, e8, hf⟩ := xbd hf
      refine gf_X11_31 (pc := 19) C e8 dX11_pull_19 ?_
      refine ww_iload_n (pc := 22) C 1 dX11_pull_22 rfl ?_
      obtain ⟨_, e10, hf⟩ := xbd hf
      obtain ⟨v12, e11, hf⟩ := xbd hf
      refine ww_callVi (pc := 23) (as := [.int x1]) (st := []) C (k_X6_fieldAt (l := gl G) (E := gE G) (hb := gB G) (σ := σ) e11) rfl (by decide) xc_X11_179 q728 qp41 (xck_spec e10) rfl (by decide) (xst4 (Nat.le_of_ble_eq_true rfl)) xsame.rf.le xsame.rf.lim dX11_pull_23 ?_
      refine ww_iload_n (pc := 26) C 2 dX11_pull_26 rfl ?_
      refine ww_icmp_ne (pc := 27) (tgt := 32) C dX11_pull_27 (by decide) (fun q => ?_) (fun q => ?_)
      · have hf := xin q hf
        refine ww_aload_n (pc := 32) C 0 dX11_pull_32 rfl ?_
        obtain ⟨z14, e13, hf⟩ := xbd hf
        refine gf_X11_38 (pc := 33) C e13 dX11_pull_33 ?_
        refine ww_aload_n (pc := 36) C 0 dX11_pull_36 rfl ?_
        obtain ⟨z16, e15, hf⟩ := xbd hf
        refine gf_X11_31 (pc := 37) C e15 dX11_pull_37 ?_
        obtain ⟨_, e17, hf⟩ := xbd hf
        obtain ⟨σ19, e18, hf⟩ := xbd hf
        refine ww_callVv (pc := 40) (as := [.ref (gB G + z16)]) (st := []) C (k_X5_keep (l := gl G) (E := gE G) (hb := gB G) (σ := σ) e18) rfl (by decide) xc_X11_169 q714 qp40 (xck_spec e17) rfl (by decide) (xst4 (Nat.le_of_ble_eq_true rfl)) (m_X5_keep e18).le (m_X5_keep e18).lim dX11_pull_40 ?_
        refine ww_aload_n (pc := 43) C 0 dX11_pull_43 rfl ?_
        obtain ⟨z21, e20, hf⟩ := xbd hf
        refine gf_X11_31 (pc := 44) C e20 dX11_pull_44 ?_
        refine ww_iload_n (pc := 47) C 1 dX11_pull_47 rfl ?_
        refine ww_iload_n (pc := 48) C 2 dX11_pull_48 rfl ?_
        obtain ⟨_, e22, hf⟩ := xbd hf
        obtain ⟨σ24, e23, hf⟩ := xbd hf
        refine ww_callVv (pc := 49) (as := [.int x1, .int x2]) (st := []) C (k_X6_setField (l := gl G) (E := gE G) (hb := gB G) (σ := σ19) e23) rfl (by decide) xc_X11_182 q640 qp26 (xck_spec e22) rfl (by decide) (xst4 (Nat.le_of_ble_eq_true rfl)) (m_X6_setField e23).le (m_X6_setField e23).lim dX11_pull_49 ?_
        refine ww_aload_n (pc := 52) C 0 dX11_pull_52 rfl ?_
        obtain ⟨_, e25, hf⟩ := xbd hf
        obtain ⟨σ27, e26, hf⟩ := xbd hf
        refine ww_callVv (pc := 53) (as := []) (st := []) C (k_X11_stampTies (l := gl G) (E := gE G) (hb := gB G) (σ := σ24) e26) rfl (by decide) xc_X11_154 q683 qp35 (xck_spec e25) rfl (by decide) (xst4 (Nat.le_of_ble_eq_true rfl)) (m_X11_stampTies e26).le (m_X11_stampTies e26).lim dX11_pull_53 ?_
        refine ww_iconst (pc := 56) (v := (1 : Int32)) C dX11_pull_56 (by decide) ?_
        have hf := xsj hf
        subst hf
        exact ww_zret (pc := 57) C rfl hk dX11_pull_57
      · have hf := xip q hf
        refine ww_iconst (pc := 30) (v := (0 : Int32)) C dX11_pull_30 (by decide) ?_
        have hf := xsj hf
        subst hf
        exact ww_zret (pc := 31) C rfl hk dX11_pull_31
theorem m_X11_pull {σ : XS} {r0 : Nat} {x1 : Int32} {x2 : Int32} {x : Int32 × XS} (hf : f_X11_pull σ r0 x1 x2 = some x) : xsame σ x.2 := by
  have hm := xsame.rf (σ := σ)
  obtain ⟨z2, e1, hf⟩ := xbd hf
  obtain ⟨_, e3, hf⟩ := xbd hf
  obtain ⟨v5, e4, hf⟩ := xbd hf
  by_cases q : v5 = 0
  · have hf := xip q hf
    have hf := xsj hf
    subst hf
    exact hm
  · have hf := xin q hf
    obtain ⟨v7, e6, hf⟩ := xbd hf
    by_cases q : v7 = 0
    · have hf := xip q hf
      have hf := xsj hf
      subst hf
      exact hm
    · have hf := xin q hf
      obtain ⟨z9, e8, hf⟩ := xbd hf
      obtain ⟨_, e10, hf⟩ := xbd hf
      obtain ⟨v12, e11, hf⟩ := xbd hf
      by_cases q : v12 = x2
      · have hf := xip q hf
        have hf := xsj hf
        subst hf
        exact hm
      · have hf := xin q hf
        obtain ⟨z14, e13, hf⟩ := xbd hf
        obtain ⟨z16, e15, hf⟩ := xbd hf
        obtain ⟨_, e17, hf⟩ := xbd hf
        obtain ⟨σ19, e18, hf⟩ := xbd hf
        have hm := hm.tr (m_X5_keep e18)
        obtain ⟨z21, e20, hf⟩ := xbd hf
        obtain ⟨_, e22, hf⟩ := xbd hf
        obtain ⟨σ24, e23, hf⟩ := xbd hf
        have hm := hm.tr (m_X6_setField e23)
        obtain ⟨_, e25, hf⟩ := xbd hf
        obtain ⟨σ27, e26, hf⟩ := xbd hf
        have hm := hm.tr (m_X11_stampTies e26)
        have hf := xsj hf
        subst hf
        exact hm
theorem k_X11_pull {l : Launch} {E : XD} {hb : Nat} {σ : XS} {r0 : Nat} {x1 : Int32} {x2 : Int32} {x : Int32 × XS} (h : f_X11_pull σ r0 x1 x2 = some x) : XM l yX11_pull cX11_pull 3 (some .boolean) 3 82 E hb [.ref (hb + r0), .int x1, .int x2] σ (some (.int x.1)) x.2 := by
  refine xm_of (by decide) (Nat.le_of_ble_eq_true rfl) (m_X11_pull h).le (fun G hG C hl hQ => ?_)
  obtain ⟨rfl, rfl, rfl, hN⟩ := hG
  exact s_X11_pull_e C h hQ
noncomputable def f_X6_clear (σ : XS) (r0 : Nat) : Option XS := (xgR σ r0 6 0).bind fun z2 => (f_J7_fill_53178 σ z2 (0 : Int32)).bind fun σ4 => (xgR σ4 r0 6 1).bind fun z6 => (f_J7_fill_53178 σ4 z6 (0 : Int32)).bind fun σ8 => (xpI σ8 r0 6 2 (0 : Int32)).bind fun σ10 => (xpI σ10 r0 6 3 (0 : Int32)).bind fun σ12 => (xpI σ12 r0 6 4 (0 : Int32)).bind fun σ14 => (xpI σ14 r0 6 5 (0 : Int32)).bind fun σ16 => some σ16
theorem s_X6_clear_e {G : XG} (C : XC G cX6_clear RX6 none 1 1 23) {σ : XS} {r0 : Nat} {x : XS} (hf : f_X6_clear σ r0 = some x) (hk : XEnd G none x) : WW G 0 [(0, .ref (gB G + r0))] [] σ := by
  refine ww_aload_n (pc := 0) C 0 dX6_clear_0 rfl ?_
  obtain ⟨z2, e1, hf⟩ := xbd hf
  refine gf_X6_9 (pc := 1) C e1 dX6_clear_1 ?_
  refine ww_iconst (pc := 4) (v := (0 : Int32)) C dX6_clear_4 (by decide) ?_
  obtain ⟨σ4, e3, hf⟩ := xbd hf
  refine ww_callSv (pc := 5) (as := [.ref (gB G + z2), .int (0 : Int32)]) (st := []) C (k_J7_fill_53178 (l := gl G) (E := gE G) (hb := gB G) (σ := σ) e3) xc_X6_18 q174 rfl (by decide) (xst4 (Nat.le_of_ble_eq_true rfl)) (m_J7_fill_53178 e3).le (m_J7_fill_53178 e3).lim dX6_clear_5 ?_
  refine ww_aload_n (pc := 8) C 0 dX6_clear_8 rfl ?_
  obtain ⟨z6, e5, hf⟩ := xbd hf
  refine gf_X6_15 (pc := 9) C e5 dX6_clear_9 ?_
  refine ww_iconst (pc := 12) (v := (0 : Int32)) C dX6_clear_12 (by decide) ?_
  obtain ⟨σ8, e7, hf⟩ := xbd hf
  refine ww_callSv (pc := 13) (as := [.ref (gB G + z6), .int (0 : Int32)]) (st := []) C (k_J7_fill_53178 (l := gl G) (E := gE G) (hb := gB G) (σ := σ4) e7) xc_X6_18 q174 rfl (by decide) (xst4 (Nat.le_of_ble_eq_true rfl)) (m_J7_fill_53178 e7).le (m_J7_fill_53178 e7).lim dX6_clear_13 ?_
  refine ww_aload_n (pc := 16) C 0 dX6_clear_16 rfl ?_
  refine ww_iconst (pc := 17) (v := (0 : Int32)) C dX6_clear_17 (by decide) ?_
  obtain ⟨σ10, e9, hf⟩ := xbd hf
  refine pf_X6_24 (pc := 18) C e9 dX6_clear_18 ?_
  refine ww_aload_n (pc := 21) C 0 dX6_clear_21 rfl ?_
  refine ww_iconst (pc := 22) (v := (0 : Int32)) C dX6_clear_22 (by decide) ?_
  obtain ⟨σ12, e11, hf⟩ := xbd hf
  refine pf_X6_28 (pc := 23) C e11 dX6_clear_23 ?_
  refine ww_aload_n (pc := 26) C 0 dX6_clear_26 rfl ?_
  refine ww_iconst (pc := 27) (v := (0 : Int32)) C dX6_clear_27 (by decide) ?_
  obtain ⟨σ14, e13, hf⟩ := xbd hf
  refine pf_X6_31 (pc := 28) C e13 dX6_clear_28 ?_
  refine ww_aload_n (pc := 31) C 0 dX6_clear_31 rfl ?_
  refine ww_iconst (pc := 32) (v := (0 : Int32)) C dX6_clear_32 (by decide) ?_
  obtain ⟨σ16, e15, hf⟩ := xbd hf
  refine pf_X6_34 (pc := 33) C e15 dX6_clear_33 ?_
  have hf := xsj hf
  subst hf
  exact ww_vret (pc := 36) C hk dX6_clear_36
theorem m_X6_clear {σ : XS} {r0 : Nat} {x : XS} (hf : f_X6_clear σ r0 = some x) : xsame σ x := by
  have hm := xsame.rf (σ := σ)
  obtain ⟨z2, e1, hf⟩ := xbd hf
  obtain ⟨σ4, e3, hf⟩ := xbd hf
  have hm := hm.tr (m_J7_fill_53178 e3)
  obtain ⟨z6, e5, hf⟩ := xbd hf
  obtain ⟨σ8, e7, hf⟩ := xbd hf
  have hm := hm.tr (m_J7_fill_53178 e7)
  obtain ⟨σ10, e9, hf⟩ := xbd hf
  have hm := hm.tr (xpI_same e9)
  obtain ⟨σ12, e11, hf⟩ := xbd hf
  have hm := hm.tr (xpI_same e11)
  obtain ⟨σ14, e13, hf⟩ := xbd hf
  have hm := hm.tr (xpI_same e13)
  obtain ⟨σ16, e15, hf⟩ := xbd hf
  have hm := hm.tr (xpI_same e15)
  have hf := xsj hf
  subst hf
  exact hm
theorem k_X6_clear {l : Launch} {E : XD} {hb : Nat} {σ : XS} {r0 : Nat} {x : XS} (h : f_X6_clear σ r0 = some x) : XM l yX6_clear cX6_clear 1 none 1 23 E hb [.ref (hb + r0)] σ none x := by
  refine xm_of (by decide) (Nat.le_of_ble_eq_true rfl) (m_X6_clear h).le (fun G hG C hl hQ => ?_)
  obtain ⟨rfl, rfl, rfl, hN⟩ := hG
  exact s_X6_clear_e C h hQ
noncomputable def f_X1_begin (σ : XS) (r0 : Nat) : Option XS := (xgR σ r0 1 1).bind fun z2 => (xck σ z2 6).bind fun _ => (f_X6_clear σ z2).bind fun σ5 => (xpI σ5 r0 1 2 (0 : Int32)).bind fun σ7 => (xpI σ7 r0 1 3 (-1 : Int32)).bind fun σ9 => (xpI σ9 r0 1 4 (0 : Int32)).bind fun σ11 => (xpI σ11 r0 1 7 (0 : Int32)).bind fun σ13 => (xpI σ13 r0 1 8 (0 : Int32)).bind fun σ15 => (xpI σ15 r0 1 9 (0 : Int32)).bind fun σ17 => (xpI σ17 r0 1 10 (0 : Int32)).bind fun σ19 => (xpI σ19 r0 1 11 (0 : Int32)).bind fun σ21 => (xpI σ21 r0 1 12 (0 : Int32)).bind fun σ23 => some σ23
theorem s_X1_begin_e {G : XG} (C : XC G cX1_begin RX1 none 1 2 43) {σ : XS} {r0 : Nat} {x : XS} (hf : f_X1_begin σ r0 = some x) (hk : XEnd G none x) : WW G 0 [(0, .ref (gB G + r0))] [] σ := by
  refine ww_aload_n (pc := 0) C 0 dX1_begin_0 rfl ?_
  obtain ⟨z2, e1, hf⟩ := xbd hf
  refine gf_X1_21 (pc := 1) C e1 dX1_begin_1 ?_
  obtain ⟨_, e3, hf⟩ := xbd hf
  obtain ⟨σ5, e4, hf⟩ := xbd hf
  refine ww_callVv (pc := 4) (as := []) (st := []) C (k_X6_clear (l := gl G) (E := gE G) (hb := gB G) (σ := σ) e4) rfl (by decide) xc_X1_61 q467 qp3 (xck_spec e3) rfl (by decide) (xst4 (Nat.le_of_ble_eq_true rfl)) (m_X6_clear e4).le (m_X6_clear e4).lim dX1_begin_4 ?_
  refine ww_aload_n (pc := 7) C 0 dX1_begin_7 rfl ?_
  refine ww_iconst (pc := 8) (v := (0 : Int32)) C dX1_begin_8 (by decide) ?_
  obtain ⟨σ7, e6, hf⟩ := xbd hf
  refine pf_X1_46 (pc := 9) C e6 dX1_begin_9 ?_
  refine ww_aload_n (pc := 12) C 0 dX1_begin_12 rfl ?_
  refine ww_iconst (pc := 13) (v := (-1 : Int32)) C dX1_begin_13 (by decide) ?_
  obtain ⟨σ9, e8, hf⟩ := xbd hf
  refine pf_X1_64 (pc := 14) C e8 dX1_begin_14 ?_
  refine ww_aload_n (pc := 17) C 0 dX1_begin_17 rfl ?_
  refine ww_iconst (pc := 18) (v := (0 : Int32)) C dX1_begin_18 (by decide) ?_
  obtain ⟨σ11, e10, hf⟩ := xbd hf
  refine pf_X1_49 (pc := 19) C e10 dX1_begin_19 ?_
  refine ww_aload_n (pc := 22) C 0 dX1_begin_22 rfl ?_
  refine ww_iconst (pc := 23) (v := (0 : Int32)) C dX1_begin_23 (by decide) ?_
  obtain ⟨σ13, e12, hf⟩ := xbd hf
  refine pf_X1_67 (pc := 24) C e12 dX1_begin_24 ?_
  refine ww_aload_n (pc := 27) C 0 dX1_begin_27 rfl ?_
  refine ww_iconst (pc := 28) (v := (0 : Int32)) C dX1_begin_28 (by decide) ?_
  obtain ⟨σ15, e14, hf⟩ := xbd hf
  refine pf_X1_70 (pc := 29) C e14 dX1_begin_29 ?_
  refine ww_aload_n (pc := 32) C 0 dX1_begin_32 rfl ?_
  refine ww_iconst (pc := 33) (v := (0 : Int32)) C dX1_begin_33 (by decide) ?_
  obtain ⟨σ17, e16, hf⟩ := xbd hf
  refine pf_X1_73 (pc := 34) C e16 dX1_begin_34 ?_
  refine ww_aload_n (pc := 37) C 0 dX1_begin_37 rfl ?_
  refine ww_iconst (pc := 38) (v := (0 : Int32)) C dX1_begin_38 (by decide) ?_
  obtain ⟨σ19, e18, hf⟩ := xbd hf
  refine pf_X1_76 (pc := 39) C e18 dX1_begin_39 ?_
  refine ww_aload_n (pc := 42) C 0 dX1_begin_42 rfl ?_
  refine ww_iconst (pc := 43) (v := (0 : Int32)) C dX1_begin_43 (by decide) ?_
  obtain ⟨σ21, e20, hf⟩ := xbd hf
  refine pf_X1_79 (pc := 44) C e20 dX1_begin_44 ?_
  refine ww_aload_n (pc := 47) C 0 dX1_begin_47 rfl ?_
  refine ww_iconst (pc := 48) (v := (0 : Int32)) C dX1_begin_48 (by decide) ?_
  obtain ⟨σ23, e22, hf⟩ := xbd hf
  refine pf_X1_82 (pc := 49) C e22 dX1_begin_49 ?_
  have hf := xsj hf
  subst hf
  exact ww_vret (pc := 52) C hk dX1_begin_52
theorem m_X1_begin {σ : XS} {r0 : Nat} {x : XS} (hf : f_X1_begin σ r0 = some x) : xsame σ x := by
  have hm := xsame.rf (σ := σ)
  obtain ⟨z2, e1, hf⟩ := xbd hf
  obtain ⟨_, e3, hf⟩ := xbd hf
  obtain ⟨σ5, e4, hf⟩ := xbd hf
  have hm := hm.tr (m_X6_clear e4)
  obtain ⟨σ7, e6, hf⟩ := xbd hf
  have hm := hm.tr (xpI_same e6)
  obtain ⟨σ9, e8, hf⟩ := xbd hf
  have hm := hm.tr (xpI_same e8)
  obtain ⟨σ11, e10, hf⟩ := xbd hf
  have hm := hm.tr (xpI_same e10)
  obtain ⟨σ13, e12, hf⟩ := xbd hf
  have hm := hm.tr (xpI_same e12)
  obtain ⟨σ15, e14, hf⟩ := xbd hf
  have hm := hm.tr (xpI_same e14)
  obtain ⟨σ17, e16, hf⟩ := xbd hf
  have hm := hm.tr (xpI_same e16)
  obtain ⟨σ19, e18, hf⟩ := xbd hf
  have hm := hm.tr (xpI_same e18)
  obtain ⟨σ21, e20, hf⟩ := xbd hf
  have hm := hm.tr (xpI_same e20)
  obtain ⟨σ23, e22, hf⟩ := xbd hf
  have hm := hm.tr (xpI_same e22)
  have hf := xsj hf
  subst hf
  exact hm
theorem k_X1_begin {l : Launch} {E : XD} {hb : Nat} {σ : XS} {r0 : Nat} {x : XS} (h : f_X1_begin σ r0 = some x) : XM l yX1_begin cX1_begin 1 none 2 43 E hb [.ref (hb + r0)] σ none x := by
  refine xm_of (by decide) (Nat.le_of_ble_eq_true rfl) (m_X1_begin h).le (fun G hG C hl hQ => ?_)
  obtain ⟨rfl, rfl, rfl, hN⟩ := hG
  exact s_X1_begin_e C h hQ
noncomputable def f_X8_byteAt (σ : XS) (r0 : Nat) (x1 : Int32) : Option Int32 := if x1 < 0 then (some (0 : Int32)) else (xgI σ r0 8 4).bind fun v2 => if v2 ≤ x1 then (some (0 : Int32)) else (xgR σ r0 8 0).bind fun z4 => (xal σ z4).bind fun v6 => if v6 ≤ x1 then (some (0 : Int32)) else (xgR σ r0 8 0).bind fun z8 => (xaI σ 21 z8 x1).bind fun v10 => some v10
theorem s_X8_byteAt_e {G : XG} (C : XC G cX8_byteAt RX8 (some .int) 2 0 0) {σ : XS} {r0 : Nat} {x1 : Int32} {x : Int32} (hf : f_X8_byteAt σ r0 x1 = some x) (hk : XEnd G (some (.int x)) σ) : WW G 0 [(0, .ref (gB G + r0)), (1, .int x1)] [] σ := by
  refine ww_iload_n (pc := 0) C 1 dX8_byteAt_0 rfl ?_
  refine ww_if_lt (pc := 1) (tgt := 30) C dX8_byteAt_1 (by decide) (fun q => ?_) (fun q => ?_)
  · have hf := xip q hf
    refine ww_iconst (pc := 30) (v := (0 : Int32)) C dX8_byteAt_30 (by decide) ?_
    have hf := xsj hf
    subst hf
    exact ww_iret (pc := 31) C hk dX8_byteAt_31
  · have hf := xin q hf
    refine ww_iload_n (pc := 4) C 1 dX8_byteAt_4 rfl ?_
    refine ww_aload_n (pc := 5) C 0 dX8_byteAt_5 rfl ?_
    obtain ⟨v2, e1, hf⟩ := xbd hf
    refine gf_X8_25 (pc := 6) C e1 dX8_byteAt_6 ?_
    refine ww_icmp_ge (pc := 9) (tgt := 30) C dX8_byteAt_9 (by decide) (fun q => ?_) (fun q => ?_)
    · have hf := xip q hf
      refine ww_iconst (pc := 30) (v := (0 : Int32)) C dX8_byteAt_30 (by decide) ?_
      have hf := xsj hf
      subst hf
      exact ww_iret (pc := 31) C hk dX8_byteAt_31
    · have hf := xin q hf
      refine ww_iload_n (pc := 12) C 1 dX8_byteAt_12 rfl ?_
      refine ww_aload_n (pc := 13) C 0 dX8_byteAt_13 rfl ?_
      obtain ⟨z4, e3, hf⟩ := xbd hf
      refine gf_X8_9 (pc := 14) C e3 dX8_byteAt_14 ?_
      obtain ⟨v6, e5, hf⟩ := xbd hf
      refine ww_alen (pc := 17) C e5 dX8_byteAt_17 ?_
      refine ww_icmp_ge (pc := 18) (tgt := 30) C dX8_byteAt_18 (by decide) (fun q => ?_) (fun q => ?_)
      · have hf := xip q hf
        refine ww_iconst (pc := 30) (v := (0 : Int32)) C dX8_byteAt_30 (by decide) ?_
        have hf := xsj hf
        subst hf
        exact ww_iret (pc := 31) C hk dX8_byteAt_31
      · have hf := xin q hf
        refine ww_aload_n (pc := 21) C 0 dX8_byteAt_21 rfl ?_
        obtain ⟨z8, e7, hf⟩ := xbd hf
        refine gf_X8_9 (pc := 22) C e7 dX8_byteAt_22 ?_
        refine ww_iload_n (pc := 25) C 1 dX8_byteAt_25 rfl ?_
        obtain ⟨v10, e9, hf⟩ := xbd hf
        refine ww_bald (pc := 26) C e9 dX8_byteAt_26 ?_
        refine ww_goto (pc := 27) (tgt := 31) C dX8_byteAt_27 (by decide) ?_
        have hf := xsj hf
        subst hf
        exact ww_iret (pc := 31) C hk dX8_byteAt_31
theorem k_X8_byteAt {l : Launch} {E : XD} {hb : Nat} {σ : XS} {r0 : Nat} {x1 : Int32} {x : Int32} (h : f_X8_byteAt σ r0 x1 = some x) : XM l yX8_byteAt cX8_byteAt 2 (some .int) 0 0 E hb [.ref (hb + r0), .int x1] σ (some (.int x)) σ := by
  refine xm_of (by decide) (Nat.le_of_ble_eq_true rfl) ⟨Nat.le_refl _, Nat.le_refl _⟩ (fun G hG C hl hQ => ?_)
  obtain ⟨rfl, rfl, rfl, hN⟩ := hG
  exact s_X8_byteAt_e C h hQ
noncomputable def f_X8_isBlank (x0 : Int32) : Option Int32 := if x0 = (9 : Int32) then (some (1 : Int32)) else if x0 = (10 : Int32) then (some (1 : Int32)) else if x0 = (13 : Int32) then (some (1 : Int32)) else if x0 = (32 : Int32) then (some (1 : Int32)) else some (0 : Int32)
theorem s_X8_isBlank_e {G : XG} (C : XC G cX8_isBlank RX8 (some .boolean) 1 0 0) {σ : XS} {x0 : Int32} {x : Int32} (hf : f_X8_isBlank x0 = some x) (hk : XEnd G (some (.int x)) σ) : WW G 0 [(0, .int x0)] [] σ := by
  refine ww_iload_n (pc := 0) C 0 dX8_isBlank_0 rfl ?_
  refine ww_bipush (pc := 1) (v := (9 : Int32)) C dX8_isBlank_1 (by decide) ?_
  refine ww_icmp_eq (pc := 3) (tgt := 24) C dX8_isBlank_3 (by decide) (fun q => ?_) (fun q => ?_)
  · have hf := xip q hf
    refine ww_iconst (pc := 24) (v := (1 : Int32)) C dX8_isBlank_24 (by decide) ?_
    refine ww_goto (pc := 25) (tgt := 29) C dX8_isBlank_25 (by decide) ?_
    have hf := xsj hf
    subst hf
    exact ww_zret (pc := 29) C rfl hk dX8_isBlank_29
  · have hf := xin q hf
    refine ww_iload_n (pc := 6) C 0 dX8_isBlank_6 rfl ?_
    refine ww_bipush (pc := 7) (v := (10 : Int32)) C dX8_isBlank_7 (by decide) ?_
    refine ww_icmp_eq (pc := 9) (tgt := 24) C dX8_isBlank_9 (by decide) (fun q => ?_) (fun q => ?_)
    · have hf := xip q hf
      refine ww_iconst (pc := 24) (v := (1 : Int32)) C dX8_isBlank_24 (by decide) ?_
      refine ww_goto (pc := 25) (tgt := 29) C dX8_isBlank_25 (by decide) ?_
      have hf := xsj hf
      subst hf
      exact ww_zret (pc := 29) C rfl hk dX8_isBlank_29
    · have hf := xin q hf
      refine ww_iload_n (pc := 12) C 0 dX8_isBlank_12 rfl ?_
      refine ww_bipush (pc := 13) (v := (13 : Int32)) C dX8_isBlank_13 (by decide) ?_
      refine ww_icmp_eq (pc := 15) (tgt := 24) C dX8_isBlank_15 (by decide) (fun q => ?_) (fun q => ?_)
      · have hf := xip q hf
        refine ww_iconst (pc := 24) (v := (1 : Int32)) C dX8_isBlank_24 (by decide) ?_
        refine ww_goto (pc := 25) (tgt := 29) C dX8_isBlank_25 (by decide) ?_
        have hf := xsj hf
        subst hf
        exact ww_zret (pc := 29) C rfl hk dX8_isBlank_29
      · have hf := xin q hf
        refine ww_iload_n (pc := 18) C 0 dX8_isBlank_18 rfl ?_
        refine ww_bipush (pc := 19) (v := (32 : Int32)) C dX8_isBlank_19 (by decide) ?_
        refine ww_icmp_ne (pc := 21) (tgt := 28) C dX8_isBlank_21 (by decide) (fun q => ?_) (fun q => ?_)
        · have hf := xin q hf
          refine ww_iconst (pc := 28) (v := (0 : Int32)) C dX8_isBlank_28 (by decide) ?_
          have hf := xsj hf
          subst hf
          exact ww_zret (pc := 29) C rfl hk dX8_isBlank_29
        · have hf := xip q hf
          refine ww_iconst (pc := 24) (v := (1 : Int32)) C dX8_isBlank_24 (by decide) ?_
          refine ww_goto (pc := 25) (tgt := 29) C dX8_isBlank_25 (by decide) ?_
          have hf := xsj hf
          subst hf
          exact ww_zret (pc := 29) C rfl hk dX8_isBlank_29
theorem k_X8_isBlank {l : Launch} {E : XD} {hb : Nat} {σ : XS} {x0 : Int32} {x : Int32} (h : f_X8_isBlank x0 = some x) : XM l yX8_isBlank cX8_isBlank 1 (some .boolean) 0 0 E hb [.int x0] σ (some (.int x)) σ := by
  refine xm_of (by decide) (Nat.le_of_ble_eq_true rfl) ⟨Nat.le_refl _, Nat.le_refl _⟩ (fun G hG C hl hQ => ?_)
  obtain ⟨rfl, rfl, rfl, hN⟩ := hG
  exact s_X8_isBlank_e C h hQ
end
