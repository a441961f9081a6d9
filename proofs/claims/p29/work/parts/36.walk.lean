section
noncomputable def f_X12_fallEnd_b8 (σ : XS) (r0 : Nat) : Int32 × Int32 → Option ((Int32 × Int32) ⊕ (Int32)) := fun a => match a with
  | (x2, x3) => if x3 < 0 then ((some x2).map .inr) else (xck σ r0 12).bind fun _ => (f_X12_steepest σ r0 (x2 ^^^ ((1 : Int32) <<< (x3 &&& 31)))).bind fun v3 => some (.inl (x2 ^^^ ((1 : Int32) <<< (x3 &&& 31)), v3))
noncomputable def f_X12_fallEnd (σ : XS) (r0 : Nat) (x1 : Int32) : Option Int32 := (xck σ r0 12).bind fun _ => (f_X12_steepest σ r0 x1).bind fun v3 => xloop (f_X12_fallEnd_b8 σ r0) (x1, v3)
theorem s_X12_fallEnd_l8 {G : XG} (C : XC G cX12_fallEnd RX12 (some .int) 4 2 45) {σ : XS} {r0 : Nat} {a : Int32 × Int32} {x : Int32} (hf : xloop (f_X12_fallEnd_b8 σ r0) a = some x) (hk : XEnd G (some (.int x)) σ) : WW G 8 [(0, .ref (gB G + r0)), (2, .int a.1), (3, .int a.2)] [] σ := by
  refine xloop_ind (P := fun a => WW G 8 [(0, .ref (gB G + r0)), (2, .int a.1), (3, .int a.2)] [] σ) (fun a y hf hc he => ?_) hf
  obtain ⟨x2, x3⟩ := a
  have hk : (∀ a' : Int32 × Int32, y = .inl a' → WW G 8 [(0, .ref (gB G + r0)), (2, .int a'.1), (3, .int a'.2)] [] σ) ∧ (∀ b1 : Int32, y = .inr b1 → XEnd G (some (.int b1)) σ) := ⟨hc, fun b e => by have h9 := he b e; subst h9; exact hk⟩
  refine ww_iload_n (pc := 8) C 2 dX12_fallEnd_8 rfl ?_
  refine ww_if_lt (pc := 9) (tgt := 27) C dX12_fallEnd_9 (by decide) (fun q => ?_) (fun q => ?_)
  · have hf := xip q hf
    obtain ⟨b0, hg, e9⟩ := xmj hf
    subst e9
    have hf := hg
    have hk := hk.2 _ rfl
    refine ww_iload_n (pc := 27) C 1 dX12_fallEnd_27 rfl ?_
    have hf := xsj hf
    subst hf
    exact ww_iret (pc := 28) C hk dX12_fallEnd_28
  · have hf := xin q hf
    refine ww_iload_n (pc := 12) C 1 dX12_fallEnd_12 rfl ?_
    refine ww_iconst (pc := 13) (v := (1 : Int32)) C dX12_fallEnd_13 (by decide) ?_
    refine ww_iload_n (pc := 14) C 2 dX12_fallEnd_14 rfl ?_
    refine ww_ishl (pc := 15) C dX12_fallEnd_15 ?_
    refine ww_ixor (pc := 16) C dX12_fallEnd_16 ?_
    refine ww_istore_n (pc := 17) (lv' := [(2, .int (x2 ^^^ ((1 : Int32) <<< (x3 &&& 31)))), (0, .ref (gB G + r0)), (3, .int x3)]) C dX12_fallEnd_17 (by decide) rfl ?_
    refine ww_aload_n (pc := 18) C 1 dX12_fallEnd_18 rfl ?_
    refine ww_iload_n (pc := 19) C 0 dX12_fallEnd_19 rfl ?_
    obtain ⟨_, e1, hf⟩ := xbd hf
    obtain ⟨v3, e2, hf⟩ := xbd hf
    refine ww_callVi (pc := 20) (as := [.int (x2 ^^^ ((1 : Int32) <<< (x3 &&& 31)))]) (st := []) C (k_X12_steepest (l := gl G) (E := gE G) (hb := gB G) (σ := σ) e2) rfl (by decide) xc_X12_321 q1575 qp145 (xck_spec e1) rfl (by decide) (xst4 (Nat.le_of_ble_eq_true rfl)) xsame.rf.le xsame.rf.lim dX12_fallEnd_20 ?_
    refine ww_istore_n (pc := 23) (lv' := [(3, .int v3), (2, .int (x2 ^^^ ((1 : Int32) <<< (x3 &&& 31)))), (0, .ref (gB G + r0))]) C dX12_fallEnd_23 (by decide) rfl ?_
    refine ww_goto (pc := 24) (tgt := 8) C dX12_fallEnd_24 (by decide) ?_
    have hf := xsj hf
    subst hf
    refine ww_sub [2, 1, 0] rfl ?_
    exact hk.1 (x2 ^^^ ((1 : Int32) <<< (x3 &&& 31)), v3) rfl
theorem s_X12_fallEnd_e {G : XG} (C : XC G cX12_fallEnd RX12 (some .int) 4 2 45) {σ : XS} {r0 : Nat} {x1 : Int32} {x : Int32} (hf : f_X12_fallEnd σ r0 x1 = some x) (hk : XEnd G (some (.int x)) σ) : WW G 0 [(0, .ref (gB G + r0)), (1, .int x1)] [] σ := by
  refine ww_iload_n (pc := 0) C 1 dX12_fallEnd_0 rfl ?_
  refine ww_istore_n (pc := 1) (lv' := [(2, .int x1), (0, .ref (gB G + r0)), (1, .int x1)]) C dX12_fallEnd_1 (by decide) rfl ?_
  refine ww_aload_n (pc := 2) C 1 dX12_fallEnd_2 rfl ?_
  refine ww_iload_n (pc := 3) C 0 dX12_fallEnd_3 rfl ?_
  obtain ⟨_, e1, hf⟩ := xbd hf
  obtain ⟨v3, e2, hf⟩ := xbd hf
  refine ww_callVi (pc := 4) (as := [.int x1]) (st := []) C (k_X12_steepest (l := gl G) (E := gE G) (hb := gB G) (σ := σ) e2) rfl (by decide) xc_X12_321 q1575 qp145 (xck_spec e1) rfl (by decide) (xst4 (Nat.le_of_ble_eq_true rfl)) xsame.rf.le xsame.rf.lim dX12_fallEnd_4 ?_
  refine ww_istore_n (pc := 7) (lv' := [(3, .int v3), (2, .int x1), (0, .ref (gB G + r0)), (1, .int x1)]) C dX12_fallEnd_7 (by decide) rfl ?_
  refine ww_sub [2, 1, 0] rfl ?_
  exact s_X12_fallEnd_l8 C (a := (x1, v3)) hf hk
theorem k_X12_fallEnd {l : Launch} {E : XD} {hb : Nat} {σ : XS} {r0 : Nat} {x1 : Int32} {x : Int32} (h : f_X12_fallEnd σ r0 x1 = some x) : XM l yX12_fallEnd cX12_fallEnd 4 (some .int) 2 45 E hb [.ref (hb + r0), .int x1] σ (some (.int x)) σ := by
  refine xm_of (by decide) (Nat.le_of_ble_eq_true rfl) ⟨Nat.le_refl _, Nat.le_refl _⟩ (fun G hG C hl hQ => ?_)
  obtain ⟨rfl, rfl, rfl, hN⟩ := hG
  exact s_X12_fallEnd_e C h hQ
noncomputable def f_X12_basin_b29 (σ : XS) (r0 : Nat) (x1 : Int32) : Int32 × Int32 → Option ((Int32 × Int32) ⊕ (Int32 × XS)) := fun a => match a with
  | (x2, x3) => (xck σ r0 12).bind fun _ => (f_X12_states σ r0).bind fun v3 => if v3 ≤ x3 then ((some (x2, σ)).map .inr) else (xgR σ r0 12 33).bind fun z5 => (xaI σ 20 z5 x3).bind fun v7 => if (100000 : Int32) ≤ v7 then (some (.inl (x2, x3 + (1 : Int32)))) else (xck σ r0 12).bind fun _ => (f_X12_fallEnd σ r0 x3).bind fun v10 => if v10 = x1 then (some (.inl (x2 + (1 : Int32), x3 + (1 : Int32)))) else some (.inl (x2, x3 + (1 : Int32)))
noncomputable def f_X12_basin (σ : XS) (r0 : Nat) (x1 : Int32) : Option (Int32 × XS) := (xck σ r0 12).bind fun _ => (f_X12_isLawful σ r0 x1).bind fun v3 => if v3 = 0 then (some ((-100000 : Int32), σ)) else (xck σ r0 12).bind fun _ => (f_X12_sites σ r0).bind fun v6 => if v6 ≤ (10 : Int32) then ((xck σ r0 12).bind fun _ => (f_X12_knows σ r0).bind fun σ9 => xloop (f_X12_basin_b29 σ9 r0 x1) ((0 : Int32), (0 : Int32))) else some ((-100000 : Int32), σ)
theorem m_X12_basin_l29 {σ : XS} {r0 : Nat} {x1 : Int32} {a : Int32 × Int32} {x : Int32 × XS} (hf : xloop (f_X12_basin_b29 σ r0 x1) a = some x) : xsame σ x.2 := by
  refine xloop_ind (P := fun a => xsame σ x.2) (fun a y hf hc he => ?_) hf
  obtain ⟨x2, x3⟩ := a
  have hy : (∀ a' : Int32 × Int32, y = .inl a' → True) ∧ (∀ b1 : Int32 × XS, y = .inr b1 → xsame σ b1.2) := by
    have hm := xsame.rf (σ := σ)
    obtain ⟨_, e1, hf⟩ := xbd hf
    obtain ⟨v3, e2, hf⟩ := xbd hf
    by_cases q : v3 ≤ x3
    · have hf := xip q hf
      obtain ⟨b0, hg, e9⟩ := xmj hf
      subst e9
      have hf := hg
      refine ⟨fun a' e => xnc2 e, fun b e => ?_⟩
      have h9 := Sum.inr.inj e
      subst h9
      have hf := xsj hf
      subst hf
      exact hm
    · have hf := xin q hf
      obtain ⟨z5, e4, hf⟩ := xbd hf
      obtain ⟨v7, e6, hf⟩ := xbd hf
      by_cases q : (100000 : Int32) ≤ v7
      · have hf := xip q hf
        have hf := xsj hf
        subst hf
        exact ⟨fun a' e => (by have h9 := Sum.inl.inj e; subst h9; exact trivial), fun b e => xnc1 e⟩
      · have hf := xin q hf
        obtain ⟨_, e8, hf⟩ := xbd hf
        obtain ⟨v10, e9, hf⟩ := xbd hf
        by_cases q : v10 = x1
        · have hf := xip q hf
          have hf := xsj hf
          subst hf
          exact ⟨fun a' e => (by have h9 := Sum.inl.inj e; subst h9; exact trivial), fun b e => xnc1 e⟩
        · have hf := xin q hf
          have hf := xsj hf
          subst hf
          exact ⟨fun a' e => (by have h9 := Sum.inl.inj e; subst h9; exact trivial), fun b e => xnc1 e⟩
  cases y with
  | inl a' =>
    have h1 := hc a' rfl
    exact h1
  | inr b =>
    have h1 := he b rfl
    subst h1
    exact hy.2 _ rfl
theorem s_X12_basin_l29 {G : XG} (C : XC G cX12_basin RX12 (some .int) 4 4 96) {σ : XS} {r0 : Nat} {x1 : Int32} {a : Int32 × Int32} {x : Int32 × XS} (hf : xloop (f_X12_basin_b29 σ r0 x1) a = some x) (hk : XEnd G (some (.int x.1)) x.2) : WW G 29 [(0, .ref (gB G + r0)), (1, .int x1), (2, .int a.1), (3, .int a.2)] [] σ := by
  refine xloop_ind (P := fun a => WW G 29 [(0, .ref (gB G + r0)), (1, .int x1), (2, .int a.1), (3, .int a.2)] [] σ) (fun a y hf hc he => ?_) hf
  obtain ⟨x2, x3⟩ := a
  have hk : (∀ a' : Int32 × Int32, y = .inl a' → WW G 29 [(0, .ref (gB G + r0)), (1, .int x1), (2, .int a'.1), (3, .int a'.2)] [] σ) ∧ (∀ b1 : Int32 × XS, y = .inr b1 → XEnd G (some (.int b1.1)) b1.2) := ⟨hc, fun b e => by have h9 := he b e; subst h9; exact hk⟩
  refine ww_iload_n (pc := 29) C 3 dX12_basin_29 rfl ?_
  refine ww_aload_n (pc := 30) C 0 dX12_basin_30 rfl ?_
  obtain ⟨_, e1, hf⟩ := xbd hf
  obtain ⟨v3, e2, hf⟩ := xbd hf
  refine ww_callVi (pc := 31) (as := []) (st := [.int x3]) C (k_X12_states (l := gl G) (E := gE G) (hb := gB G) (σ := σ) e2) rfl (by decide) xc_X12_270 q1555 qp141 (xck_spec e1) rfl (by decide) (xst4 (Nat.le_of_ble_eq_true rfl)) xsame.rf.le xsame.rf.lim dX12_basin_31 ?_
  refine ww_icmp_ge (pc := 34) (tgt := 67) C dX12_basin_34 (by decide) (fun q => ?_) (fun q => ?_)
  · have hf := xip q hf
    obtain ⟨b0, hg, e9⟩ := xmj hf
    subst e9
    have hf := hg
    have hk := hk.2 _ rfl
    refine ww_iload_n (pc := 67) C 2 dX12_basin_67 rfl ?_
    have hf := xsj hf
    subst hf
    exact ww_iret (pc := 68) C hk dX12_basin_68
  · have hf := xin q hf
    refine ww_aload_n (pc := 37) C 0 dX12_basin_37 rfl ?_
    obtain ⟨z5, e4, hf⟩ := xbd hf
    refine gf_X12_57 (pc := 38) C e4 dX12_basin_38 ?_
    refine ww_iload_n (pc := 41) C 3 dX12_basin_41 rfl ?_
    obtain ⟨v7, e6, hf⟩ := xbd hf
    refine ww_iald (pc := 42) C e6 dX12_basin_42 ?_
    refine ww_ldcw (pc := 43) C q1568 dX12_basin_43 ?_
    refine ww_icmp_ge (pc := 46) (tgt := 61) C dX12_basin_46 (by decide) (fun q => ?_) (fun q => ?_)
    · have hf := xip q hf
      refine ww_iinc (pc := 61) (v := x3 + (1 : Int32)) (lv' := [(3, .int (x3 + (1 : Int32))), (0, .ref (gB G + r0)), (1, .int x1), (2, .int x2)]) C 3 dX12_basin_61 rfl (congrArg (fun z => x3 + z) (show Int32.ofInt (1) = (1 : Int32) by decide)) (by decide) rfl ?_
      refine ww_goto (pc := 64) (tgt := 29) C dX12_basin_64 (by decide) ?_
      have hf := xsj hf
      subst hf
      refine ww_sub [1, 2, 3, 0] rfl ?_
      exact hk.1 (x2, x3 + (1 : Int32)) rfl
    · have hf := xin q hf
      refine ww_aload_n (pc := 49) C 0 dX12_basin_49 rfl ?_
      refine ww_iload_n (pc := 50) C 3 dX12_basin_50 rfl ?_
      obtain ⟨_, e8, hf⟩ := xbd hf
      obtain ⟨v10, e9, hf⟩ := xbd hf
      refine ww_callVi (pc := 51) (as := [.int x3]) (st := []) C (k_X12_fallEnd (l := gl G) (E := gE G) (hb := gB G) (σ := σ) e9) rfl (by decide) xc_X12_267 q1579 qp146 (xck_spec e8) rfl (by decide) (xst4 (Nat.le_of_ble_eq_true rfl)) xsame.rf.le xsame.rf.lim dX12_basin_51 ?_
      refine ww_iload_n (pc := 54) C 1 dX12_basin_54 rfl ?_
      refine ww_icmp_ne (pc := 55) (tgt := 61) C dX12_basin_55 (by decide) (fun q => ?_) (fun q => ?_)
      · have hf := xin q hf
        refine ww_iinc (pc := 61) (v := x3 + (1 : Int32)) (lv' := [(3, .int (x3 + (1 : Int32))), (0, .ref (gB G + r0)), (1, .int x1), (2, .int x2)]) C 3 dX12_basin_61 rfl (congrArg (fun z => x3 + z) (show Int32.ofInt (1) = (1 : Int32) by decide)) (by decide) rfl ?_
        refine ww_goto (pc := 64) (tgt := 29) C dX12_basin_64 (by decide) ?_
        have hf := xsj hf
        subst hf
        refine ww_sub [1, 2, 3, 0] rfl ?_
        exact hk.1 (x2, x3 + (1 : Int32)) rfl
      · have hf := xip q hf
        refine ww_iinc (pc := 58) (v := x2 + (1 : Int32)) (lv' := [(2, .int (x2 + (1 : Int32))), (0, .ref (gB G + r0)), (1, .int x1), (3, .int x3)]) C 2 dX12_basin_58 rfl (congrArg (fun z => x2 + z) (show Int32.ofInt (1) = (1 : Int32) by decide)) (by decide) rfl ?_
        refine ww_iinc (pc := 61) (v := x3 + (1 : Int32)) (lv' := [(3, .int (x3 + (1 : Int32))), (2, .int (x2 + (1 : Int32))), (0, .ref (gB G + r0)), (1, .int x1)]) C 3 dX12_basin_61 rfl (congrArg (fun z => x3 + z) (show Int32.ofInt (1) = (1 : Int32) by decide)) (by decide) rfl ?_
        refine ww_goto (pc := 64) (tgt := 29) C dX12_basin_64 (by decide) ?_
        have hf := xsj hf
        subst hf
        refine ww_sub [2, 3, 1, 0] rfl ?_
        exact hk.1 (x2 + (1 : Int32), x3 + (1 : Int32)) rfl
theorem s_X12_basin_e {G : XG} (C : XC G cX12_basin RX12 (some .int) 4 4 96) {σ : XS} {r0 : Nat} {x1 : Int32} {x : Int32 × XS} (hf : f_X12_basin σ r0 x1 = some x) (hk : XEnd G (some (.int x.1)) x.2) : WW G 0 [(0, .ref (gB G + r0)), (1, .int x1)] [] σ := by
  refine ww_aload_n (pc := 0) C 0 dX12_basin_0 rfl ?_
  refine ww_iload_n (pc := 1) C 1 dX12_basin_1 rfl ?_
  obtain ⟨_, e1, hf⟩ := xbd hf
  obtain ⟨v3, e2, hf⟩ := xbd hf
  refine ww_callVi (pc := 2) (as := [.int x1]) (st := []) C (k_X12_isLawful (l := gl G) (E := gE G) (hb := gB G) (σ := σ) e2) rfl (by decide) xc_X12_281 q1559 qp142 (xck_spec e1) rfl (by decide) (xst4 (Nat.le_of_ble_eq_true rfl)) xsame.rf.le xsame.rf.lim dX12_basin_2 ?_
  refine ww_if_eq (pc := 5) (tgt := 17) C dX12_basin_5 (by decide) (fun q => ?_) (fun q => ?_)
  · have hf := xip q hf
    refine ww_ldcw (pc := 17) C q1597 dX12_basin_17 ?_
    have hf := xsj hf
    subst hf
    exact ww_iret (pc := 20) C hk dX12_basin_20
  · have hf := xin q hf
    refine ww_aload_n (pc := 8) C 0 dX12_basin_8 rfl ?_
    obtain ⟨_, e4, hf⟩ := xbd hf
    obtain ⟨v6, e5, hf⟩ := xbd hf
    refine ww_callVi (pc := 9) (as := []) (st := []) C (k_X12_sites (l := gl G) (E := gE G) (hb := gB G) (σ := σ) e5) rfl (by decide) xc_X12_193 q1496 qp136 (xck_spec e4) rfl (by decide) (xst4 (Nat.le_of_ble_eq_true rfl)) xsame.rf.le xsame.rf.lim dX12_basin_9 ?_
    refine ww_bipush (pc := 12) (v := (10 : Int32)) C dX12_basin_12 (by decide) ?_
    refine ww_icmp_le (pc := 14) (tgt := 21) C dX12_basin_14 (by decide) (fun q => ?_) (fun q => ?_)
    · have hf := xip q hf
      refine ww_aload_n (pc := 21) C 0 dX12_basin_21 rfl ?_
      obtain ⟨_, e7, hf⟩ := xbd hf
      obtain ⟨σ9, e8, hf⟩ := xbd hf
      refine ww_callVv (pc := 22) (as := []) (st := []) C (k_X12_knows (l := gl G) (E := gE G) (hb := gB G) (σ := σ) e8) rfl (by decide) xc_X12_261 q1551 qp140 (xck_spec e7) rfl (by decide) (xst4 (Nat.le_of_ble_eq_true rfl)) (m_X12_knows e8).le (m_X12_knows e8).lim dX12_basin_22 ?_
      refine ww_iconst (pc := 25) (v := (0 : Int32)) C dX12_basin_25 (by decide) ?_
      refine ww_istore_n (pc := 26) (lv' := [(2, .int (0 : Int32)), (0, .ref (gB G + r0)), (1, .int x1)]) C dX12_basin_26 (by decide) rfl ?_
      refine ww_iconst (pc := 27) (v := (0 : Int32)) C dX12_basin_27 (by decide) ?_
      refine ww_istore_n (pc := 28) (lv' := [(3, .int (0 : Int32)), (2, .int (0 : Int32)), (0, .ref (gB G + r0)), (1, .int x1)]) C dX12_basin_28 (by decide) rfl ?_
      refine ww_sub [2, 3, 1, 0] rfl ?_
      exact s_X12_basin_l29 C (a := ((0 : Int32), (0 : Int32))) hf hk
    · have hf := xin q hf
      refine ww_ldcw (pc := 17) C q1597 dX12_basin_17 ?_
      have hf := xsj hf
      subst hf
      exact ww_iret (pc := 20) C hk dX12_basin_20
theorem m_X12_basin {σ : XS} {r0 : Nat} {x1 : Int32} {x : Int32 × XS} (hf : f_X12_basin σ r0 x1 = some x) : xsame σ x.2 := by
  have hm := xsame.rf (σ := σ)
  obtain ⟨_, e1, hf⟩ := xbd hf
  obtain ⟨v3, e2, hf⟩ := xbd hf
  by_cases q : v3 = 0
  · have hf := xip q hf
    have hf := xsj hf
    subst hf
    exact hm
  · have hf := xin q hf
    obtain ⟨_, e4, hf⟩ := xbd hf
    obtain ⟨v6, e5, hf⟩ := xbd hf
    by_cases q : v6 ≤ (10 : Int32)
    · have hf := xip q hf
      obtain ⟨_, e7, hf⟩ := xbd hf
      obtain ⟨σ9, e8, hf⟩ := xbd hf
      have hm := hm.tr (m_X12_knows e8)
      exact hm.tr (m_X12_basin_l29 (a := ((0 : Int32), (0 : Int32))) hf)
    · have hf := xin q hf
      have hf := xsj hf
      subst hf
      exact hm
theorem k_X12_basin {l : Launch} {E : XD} {hb : Nat} {σ : XS} {r0 : Nat} {x1 : Int32} {x : Int32 × XS} (h : f_X12_basin σ r0 x1 = some x) : XM l yX12_basin cX12_basin 4 (some .int) 4 96 E hb [.ref (hb + r0), .int x1] σ (some (.int x.1)) x.2 := by
  refine xm_of (by decide) (Nat.le_of_ble_eq_true rfl) (m_X12_basin h).le (fun G hG C hl hQ => ?_)
  obtain ⟨rfl, rfl, rfl, hN⟩ := hG
  exact s_X12_basin_e C h hQ
noncomputable def f_X12_bitsOf_b4 : Int32 × Int32 → Option ((Int32 × Int32) ⊕ (Int32)) := fun a => match a with
  | (x1, x2) => if x2 ≤ 0 then ((some x1).map .inr) else some (.inl (x1 + (x2 &&& (1 : Int32)), x2 >>> ((1 : Int32) &&& 31)))
noncomputable def f_X12_bitsOf (x0 : Int32) : Option Int32 := xloop f_X12_bitsOf_b4 ((0 : Int32), x0)
theorem s_X12_bitsOf_l4 {G : XG} (C : XC G cX12_bitsOf RX12 (some .int) 3 0 0) {σ : XS} {a : Int32 × Int32} {x : Int32} (hf : xloop (f_X12_bitsOf_b4) a = some x) (hk : XEnd G (some (.int x)) σ) : WW G 4 [(1, .int a.1), (2, .int a.2)] [] σ := by
  refine xloop_ind (P := fun a => WW G 4 [(1, .int a.1), (2, .int a.2)] [] σ) (fun a y hf hc he => ?_) hf
  obtain ⟨x1, x2⟩ := a
  have hk : (∀ a' : Int32 × Int32, y = .inl a' → WW G 4 [(1, .int a'.1), (2, .int a'.2)] [] σ) ∧ (∀ b1 : Int32, y = .inr b1 → XEnd G (some (.int b1)) σ) := ⟨hc, fun b e => by have h9 := he b e; subst h9; exact hk⟩
  refine ww_iload_n (pc := 4) C 1 dX12_bitsOf_4 rfl ?_
  refine ww_if_le (pc := 5) (tgt := 21) C dX12_bitsOf_5 (by decide) (fun q => ?_) (fun q => ?_)
  · have hf := xip q hf
    obtain ⟨b0, hg, e9⟩ := xmj hf
    subst e9
    have hf := hg
    have hk := hk.2 _ rfl
    refine ww_iload_n (pc := 21) C 0 dX12_bitsOf_21 rfl ?_
    have hf := xsj hf
    subst hf
    exact ww_iret (pc := 22) C hk dX12_bitsOf_22
  · have hf := xin q hf
    refine ww_iload_n (pc := 8) C 0 dX12_bitsOf_8 rfl ?_
    refine ww_iload_n (pc := 9) C 1 dX12_bitsOf_9 rfl ?_
    refine ww_iconst (pc := 10) (v := (1 : Int32)) C dX12_bitsOf_10 (by decide) ?_
    refine ww_iand (pc := 11) C dX12_bitsOf_11 ?_
    refine ww_iadd (pc := 12) C dX12_bitsOf_12 ?_
    refine ww_istore_n (pc := 13) (lv' := [(1, .int (x1 + (x2 &&& (1 : Int32)))), (2, .int x2)]) C dX12_bitsOf_13 (by decide) rfl ?_
    refine ww_iload_n (pc := 14) C 1 dX12_bitsOf_14 rfl ?_
    refine ww_iconst (pc := 15) (v := (1 : Int32)) C dX12_bitsOf_15 (by decide) ?_
    refine ww_ishr (pc := 16) C dX12_bitsOf_16 ?_
    refine ww_istore_n (pc := 17) (lv' := [(2, .int (x2 >>> ((1 : Int32) &&& 31))), (1, .int (x1 + (x2 &&& (1 : Int32))))]) C dX12_bitsOf_17 (by decide) rfl ?_
    refine ww_goto (pc := 18) (tgt := 4) C dX12_bitsOf_18 (by decide) ?_
    have hf := xsj hf
    subst hf
    refine ww_sub [1, 0] rfl ?_
    exact hk.1 (x1 + (x2 &&& (1 : Int32)), x2 >>> ((1 : Int32) &&& 31)) rfl
theorem s_X12_bitsOf_e {G : XG} (C : XC G cX12_bitsOf RX12 (some .int) 3 0 0) {σ : XS} {x0 : Int32} {x : Int32} (hf : f_X12_bitsOf x0 = some x) (hk : XEnd G (some (.int x)) σ) : WW G 0 [(0, .int x0)] [] σ := by
  refine ww_iconst (pc := 0) (v := (0 : Int32)) C dX12_bitsOf_0 (by decide) ?_
  refine ww_istore_n (pc := 1) (lv' := [(1, .int (0 : Int32)), (0, .int x0)]) C dX12_bitsOf_1 (by decide) rfl ?_
  refine ww_iload_n (pc := 2) C 1 dX12_bitsOf_2 rfl ?_
  refine ww_istore_n (pc := 3) (lv' := [(2, .int x0), (1, .int (0 : Int32)), (0, .int x0)]) C dX12_bitsOf_3 (by decide) rfl ?_
  refine ww_sub [1, 0] rfl ?_
  exact s_X12_bitsOf_l4 C (a := ((0 : Int32), x0)) hf hk
theorem k_X12_bitsOf {l : Launch} {E : XD} {hb : Nat} {σ : XS} {x0 : Int32} {x : Int32} (h : f_X12_bitsOf x0 = some x) : XM l yX12_bitsOf cX12_bitsOf 3 (some .int) 0 0 E hb [.int x0] σ (some (.int x)) σ := by
  refine xm_of (by decide) (Nat.le_of_ble_eq_true rfl) ⟨Nat.le_refl _, Nat.le_refl _⟩ (fun G hG C hl hQ => ?_)
  obtain ⟨rfl, rfl, rfl, hN⟩ := hG
  exact s_X12_bitsOf_e C h hQ
noncomputable def f_X12_both_b9 (σ : XS) (r0 : Nat) (x1 : Int32) (x2 : Int32) : Int32 × Int32 → Option ((Int32 × Int32) ⊕ (Int32 × XS)) := fun a => match a with
  | (x3, x4) => (xck σ r0 12).bind fun _ => (f_X12_states σ r0).bind fun v3 => if v3 ≤ x4 then ((some (x3, σ)).map .inr) else (xgR σ r0 12 33).bind fun z5 => (xaI σ 20 z5 x4).bind fun v7 => if (100000 : Int32) ≤ v7 then (some (.inl (x3, x4 + (1 : Int32)))) else (xgR σ r0 12 33).bind fun z9 => (xaI σ 20 z9 x4).bind fun v11 => if v11 = x1 then ((f_X12_bitsOf x4).bind fun v13 => if v13 = x2 then (some (.inl (x3 + (1 : Int32), x4 + (1 : Int32)))) else some (.inl (x3, x4 + (1 : Int32)))) else some (.inl (x3, x4 + (1 : Int32)))
noncomputable def f_X12_both (σ : XS) (r0 : Nat) (x1 : Int32) (x2 : Int32) : Option (Int32 × XS) := (xck σ r0 12).bind fun _ => (f_X12_knows σ r0).bind fun σ3 => xloop (f_X12_both_b9 σ3 r0 x1 x2) ((0 : Int32), (0 : Int32))
theorem m_X12_both_l9 {σ : XS} {r0 : Nat} {x1 : Int32} {x2 : Int32} {a : Int32 × Int32} {x : Int32 × XS} (hf : xloop (f_X12_both_b9 σ r0 x1 x2) a = some x) : xsame σ x.2 := by
  refine xloop_ind (P := fun a => xsame σ x.2) (fun a y hf hc he => ?_) hf
  obtain ⟨x3, x4⟩ := a
  have hy : (∀ a' : Int32 × Int32, y = .inl a' → True) ∧ (∀ b1 : Int32 × XS, y = .inr b1 → xsame σ b1.2) := by
    have hm := xsame.rf (σ := σ)
    obtain ⟨_, e1, hf⟩ := xbd hf
    obtain ⟨v3, e2, hf⟩ := xbd hf
    by_cases q : v3 ≤ x4
    · have hf := xip q hf
      obtain ⟨b0, hg, e9⟩ := xmj hf
      subst e9
      have hf := hg
      refine ⟨fun a' e => xnc2 e, fun b e => ?_⟩
      have h9 := Sum.inr.inj e
      subst h9
      have hf := xsj hf
      subst hf
      exact hm
    · have hf := xin q hf
      obtain ⟨z5, e4, hf⟩ := xbd hf
      obtain ⟨v7, e6, hf⟩ := xbd hf
      by_cases q : (100000 : Int32) ≤ v7
      · have hf := xip q hf
        have hf := xsj hf
        subst hf
        exact ⟨fun a' e => (by have h9 := Sum.inl.inj e; subst h9; exact trivial), fun b e => xnc1 e⟩
      · have hf := xin q hf
        obtain ⟨z9, e8, hf⟩ := xbd hf
        obtain ⟨v11, e10, hf⟩ := xbd hf
        by_cases q : v11 = x1
        · have hf := xip q hf
          obtain ⟨v13, e12, hf⟩ := xbd hf
          by_cases q : v13 = x2
          · have hf := xip q hf
            have hf := xsj hf
            subst hf
            exact ⟨fun a' e => (by have h9 := Sum.inl.inj e; subst h9; exact trivial), fun b e => xnc1 e⟩
          · have hf := xin q hf
            have hf := xsj hf
            subst hf
            exact ⟨fun a' e => (by have h9 := Sum.inl.inj e; subst h9; exact trivial), fun b e => xnc1 e⟩
        · have hf := xin q hf
          have hf := xsj hf
          subst hf
          exact ⟨fun a' e => (by have h9 := Sum.inl.inj e; subst h9; exact trivial), fun b e => xnc1 e⟩
  cases y with
  | inl a' =>
    have h1 := hc a' rfl
    exact h1
  | inr b =>
    have h1 := he b rfl
    subst h1
    exact hy.2 _ rfl
theorem s_X12_both_l9 {G : XG} (C : XC G cX12_both RX12 (some .int) 5 4 96) {σ : XS} {r0 : Nat} {x1 : Int32} {x2 : Int32} {a : Int32 × Int32} {x : Int32 × XS} (hf : xloop (f_X12_both_b9 σ r0 x1 x2) a = some x) (hk : XEnd G (some (.int x.1)) x.2) : WW G 9 [(0, .ref (gB G + r0)), (1, .int x1), (2, .int x2), (3, .int a.1), (4, .int a.2)] [] σ := by
  refine xloop_ind (P := fun a => WW G 9 [(0, .ref (gB G + r0)), (1, .int x1), (2, .int x2), (3, .int a.1), (4, .int a.2)] [] σ) (fun a y hf hc he => ?_) hf
  obtain ⟨x3, x4⟩ := a
  have hk : (∀ a' : Int32 × Int32, y = .inl a' → WW G 9 [(0, .ref (gB G + r0)), (1, .int x1), (2, .int x2), (3, .int a'.1), (4, .int a'.2)] [] σ) ∧ (∀ b1 : Int32 × XS, y = .inr b1 → XEnd G (some (.int b1.1)) b1.2) := ⟨hc, fun b e => by have h9 := he b e; subst h9; exact hk⟩
  refine ww_iload (pc := 9) C 4 dX12_both_9 rfl ?_
  refine ww_aload_n (pc := 11) C 0 dX12_both_11 rfl ?_
  obtain ⟨_, e1, hf⟩ := xbd hf
  obtain ⟨v3, e2, hf⟩ := xbd hf
  refine ww_callVi (pc := 12) (as := []) (st := [.int x4]) C (k_X12_states (l := gl G) (E := gE G) (hb := gB G) (σ := σ) e2) rfl (by decide) xc_X12_270 q1555 qp141 (xck_spec e1) rfl (by decide) (xst4 (Nat.le_of_ble_eq_true rfl)) xsame.rf.le xsame.rf.lim dX12_both_12 ?_
  refine ww_icmp_ge (pc := 15) (tgt := 60) C dX12_both_15 (by decide) (fun q => ?_) (fun q => ?_)
  · have hf := xip q hf
    obtain ⟨b0, hg, e9⟩ := xmj hf
    subst e9
    have hf := hg
    have hk := hk.2 _ rfl
    refine ww_iload_n (pc := 60) C 3 dX12_both_60 rfl ?_
    have hf := xsj hf
    subst hf
    exact ww_iret (pc := 61) C hk dX12_both_61
  · have hf := xin q hf
    refine ww_aload_n (pc := 18) C 0 dX12_both_18 rfl ?_
    obtain ⟨z5, e4, hf⟩ := xbd hf
    refine gf_X12_57 (pc := 19) C e4 dX12_both_19 ?_
    refine ww_iload (pc := 22) C 4 dX12_both_22 rfl ?_
    obtain ⟨v7, e6, hf⟩ := xbd hf
    refine ww_iald (pc := 24) C e6 dX12_both_24 ?_
    refine ww_ldcw (pc := 25) C q1568 dX12_both_25 ?_
    refine ww_icmp_ge (pc := 28) (tgt := 54) C dX12_both_28 (by decide) (fun q => ?_) (fun q => ?_)
    · have hf := xip q hf
      refine ww_iinc (pc := 54) (v := x4 + (1 : Int32)) (lv' := [(4, .int (x4 + (1 : Int32))), (0, .ref (gB G + r0)), (1, .int x1), (2, .int x2), (3, .int x3)]) C 4 dX12_both_54 rfl (congrArg (fun z => x4 + z) (show Int32.ofInt (1) = (1 : Int32) by decide)) (by decide) rfl ?_
      refine ww_goto (pc := 57) (tgt := 9) C dX12_both_57 (by decide) ?_
      have hf := xsj hf
      subst hf
      refine ww_sub [1, 2, 3, 4, 0] rfl ?_
      exact hk.1 (x3, x4 + (1 : Int32)) rfl
    · have hf := xin q hf
      refine ww_aload_n (pc := 31) C 0 dX12_both_31 rfl ?_
      obtain ⟨z9, e8, hf⟩ := xbd hf
      refine gf_X12_57 (pc := 32) C e8 dX12_both_32 ?_
      refine ww_iload (pc := 35) C 4 dX12_both_35 rfl ?_
      obtain ⟨v11, e10, hf⟩ := xbd hf
      refine ww_iald (pc := 37) C e10 dX12_both_37 ?_
      refine ww_iload_n (pc := 38) C 1 dX12_both_38 rfl ?_
      refine ww_icmp_ne (pc := 39) (tgt := 54) C dX12_both_39 (by decide) (fun q => ?_) (fun q => ?_)
      · have hf := xin q hf
        refine ww_iinc (pc := 54) (v := x4 + (1 : Int32)) (lv' := [(4, .int (x4 + (1 : Int32))), (0, .ref (gB G + r0)), (1, .int x1), (2, .int x2), (3, .int x3)]) C 4 dX12_both_54 rfl (congrArg (fun z => x4 + z) (show Int32.ofInt (1) = (1 : Int32) by decide)) (by decide) rfl ?_
        refine ww_goto (pc := 57) (tgt := 9) C dX12_both_57 (by decide) ?_
        have hf := xsj hf
        subst hf
        refine ww_sub [1, 2, 3, 4, 0] rfl ?_
        exact hk.1 (x3, x4 + (1 : Int32)) rfl
      · have hf := xip q hf
        refine ww_iload (pc := 42) C 4 dX12_both_42 rfl ?_
        obtain ⟨v13, e12, hf⟩ := xbd hf
        refine ww_callSi (pc := 44) (as := [.int x4]) (st := []) C (k_X12_bitsOf (l := gl G) (E := gE G) (hb := gB G) (σ := σ) e12) xc_X12_292 q1615 rfl (by decide) (xst4 (Nat.le_of_ble_eq_true rfl)) xsame.rf.le xsame.rf.lim dX12_both_44 ?_
        refine ww_iload_n (pc := 47) C 2 dX12_both_47 rfl ?_
        refine ww_icmp_ne (pc := 48) (tgt := 54) C dX12_both_48 (by decide) (fun q => ?_) (fun q => ?_)
        · have hf := xin q hf
          refine ww_iinc (pc := 54) (v := x4 + (1 : Int32)) (lv' := [(4, .int (x4 + (1 : Int32))), (0, .ref (gB G + r0)), (1, .int x1), (2, .int x2), (3, .int x3)]) C 4 dX12_both_54 rfl (congrArg (fun z => x4 + z) (show Int32.ofInt (1) = (1 : Int32) by decide)) (by decide) rfl ?_
          refine ww_goto (pc := 57) (tgt := 9) C dX12_both_57 (by decide) ?_
          have hf := xsj hf
          subst hf
          refine ww_sub [1, 2, 3, 4, 0] rfl ?_
          exact hk.1 (x3, x4 + (1 : Int32)) rfl
        · have hf := xip q hf
          refine ww_iinc (pc := 51) (v := x3 + (1 : Int32)) (lv' := [(3, .int (x3 + (1 : Int32))), (0, .ref (gB G + r0)), (1, .int x1), (2, .int x2), (4, .int x4)]) C 3 dX12_both_51 rfl (congrArg (fun z => x3 + z) (show Int32.ofInt (1) = (1 : Int32) by decide)) (by decide) rfl ?_
          refine ww_iinc (pc := 54) (v := x4 + (1 : Int32)) (lv' := [(4, .int (x4 + (1 : Int32))), (3, .int (x3 + (1 : Int32))), (0, .ref (gB G + r0)), (1, .int x1), (2, .int x2)]) C 4 dX12_both_54 rfl (congrArg (fun z => x4 + z) (show Int32.ofInt (1) = (1 : Int32) by decide)) (by decide) rfl ?_
          refine ww_goto (pc := 57) (tgt := 9) C dX12_both_57 (by decide) ?_
          have hf := xsj hf
          subst hf
          refine ww_sub [2, 3, 4, 1, 0] rfl ?_
          exact hk.1 (x3 + (1 : Int32), x4 + (1 : Int32)) rfl
theorem s_X12_both_e {G : XG} (C : XC G cX12_both RX12 (some .int) 5 4 96) {σ : XS} {r0 : Nat} {x1 : Int32} {x2 : Int32} {x : Int32 × XS} (hf : f_X12_both σ r0 x1 x2 = some x) (hk : XEnd G (some (.int x.1)) x.2) : WW G 0 [(0, .ref (gB G + r0)), (1, .int x1), (2, .int x2)] [] σ := by
  refine ww_aload_n (pc := 0) C 0 dX12_both_0 rfl ?_
  obtain ⟨_, e1, hf⟩ := xbd hf
  obtain ⟨σ3, e2, hf⟩ := xbd hf
  refine ww_callVv (pc := 1) (as := []) (st := []) C (k_X12_knows (l := gl G) (E := gE G) (hb := gB G) (σ := σ) e2) rfl (by decide) xc_X12_261 q1551 qp140 (xck_spec e1) rfl (by decide) (xst4 (Nat.le_of_ble_eq_true rfl)) (m_X12_knows e2).le (m_X12_knows e2).lim dX12_both_1 ?_
  refine ww_iconst (pc := 4) (v := (0 : Int32)) C dX12_both_4 (by decide) ?_
  refine ww_istore_n (pc := 5) (lv' := [(3, .int (0 : Int32)), (0, .ref (gB G + r0)), (1, .int x1), (2, .int x2)]) C dX12_both_5 (by decide) rfl ?_
  refine ww_iconst (pc := 6) (v := (0 : Int32)) C dX12_both_6 (by decide) ?_
  refine ww_istore (pc := 7) (lv' := [(4, .int (0 : Int32)), (3, .int (0 : Int32)), (0, .ref (gB G + r0)), (1, .int x1), (2, .int x2)]) C dX12_both_7 (by decide) rfl ?_
  refine ww_sub [2, 3, 4, 1, 0] rfl ?_
  exact s_X12_both_l9 C (a := ((0 : Int32), (0 : Int32))) hf hk
theorem m_X12_both {σ : XS} {r0 : Nat} {x1 : Int32} {x2 : Int32} {x : Int32 × XS} (hf : f_X12_both σ r0 x1 x2 = some x) : xsame σ x.2 := by
  have hm := xsame.rf (σ := σ)
  obtain ⟨_, e1, hf⟩ := xbd hf
  obtain ⟨σ3, e2, hf⟩ := xbd hf
  have hm := hm.tr (m_X12_knows e2)
  exact hm.tr (m_X12_both_l9 (a := ((0 : Int32), (0 : Int32))) hf)
theorem k_X12_both {l : Launch} {E : XD} {hb : Nat} {σ : XS} {r0 : Nat} {x1 : Int32} {x2 : Int32} {x : Int32 × XS} (h : f_X12_both σ r0 x1 x2 = some x) : XM l yX12_both cX12_both 5 (some .int) 4 96 E hb [.ref (hb + r0), .int x1, .int x2] σ (some (.int x.1)) x.2 := by
  refine xm_of (by decide) (Nat.le_of_ble_eq_true rfl) (m_X12_both h).le (fun G hG C hl hQ => ?_)
  obtain ⟨rfl, rfl, rfl, hN⟩ := hG
  exact s_X12_both_e C h hQ
noncomputable def f_X12_jOf (σ : XS) (r0 : Nat) (x1 : Int32) (x2 : Int32) : Option Int32 := if x2 = 0 then ((xaI σ 20 r0 ((0 : Int32) + x1)).bind fun v2 => some v2) else (xaI σ 20 r0 ((16 : Int32) + x1)).bind fun v2 => some v2
theorem s_X12_jOf_e {G : XG} (C : XC G cX12_jOf RX12 (some .int) 3 0 0) {σ : XS} {r0 : Nat} {x1 : Int32} {x2 : Int32} {x : Int32} (hf : f_X12_jOf σ r0 x1 x2 = some x) (hk : XEnd G (some (.int x)) σ) : WW G 0 [(0, .ref (gB G + r0)), (1, .int x1), (2, .int x2)] [] σ := by
  refine ww_aload_n (pc := 0) C 0 dX12_jOf_0 rfl ?_
  refine ww_iload_n (pc := 1) C 2 dX12_jOf_1 rfl ?_
  refine ww_if_eq (pc := 2) (tgt := 10) C dX12_jOf_2 (by decide) (fun q => ?_) (fun q => ?_)
  · have hf := xip q hf
    refine ww_iconst (pc := 10) (v := (0 : Int32)) C dX12_jOf_10 (by decide) ?_
    refine ww_iload_n (pc := 11) C 1 dX12_jOf_11 rfl ?_
    refine ww_iadd (pc := 12) C dX12_jOf_12 ?_
    obtain ⟨v2, e1, hf⟩ := xbd hf
    refine ww_iald (pc := 13) C e1 dX12_jOf_13 ?_
    have hf := xsj hf
    subst hf
    exact ww_iret (pc := 14) C hk dX12_jOf_14
  · have hf := xin q hf
    refine ww_bipush (pc := 5) (v := (16 : Int32)) C dX12_jOf_5 (by decide) ?_
    refine ww_goto (pc := 7) (tgt := 11) C dX12_jOf_7 (by decide) ?_
    refine ww_iload_n (pc := 11) C 1 dX12_jOf_11 rfl ?_
    refine ww_iadd (pc := 12) C dX12_jOf_12 ?_
    obtain ⟨v2, e1, hf⟩ := xbd hf
    refine ww_iald (pc := 13) C e1 dX12_jOf_13 ?_
    have hf := xsj hf
    subst hf
    exact ww_iret (pc := 14) C hk dX12_jOf_14
theorem k_X12_jOf {l : Launch} {E : XD} {hb : Nat} {σ : XS} {r0 : Nat} {x1 : Int32} {x2 : Int32} {x : Int32} (h : f_X12_jOf σ r0 x1 x2 = some x) : XM l yX12_jOf cX12_jOf 3 (some .int) 0 0 E hb [.ref (hb + r0), .int x1, .int x2] σ (some (.int x)) σ := by
  refine xm_of (by decide) (Nat.le_of_ble_eq_true rfl) ⟨Nat.le_refl _, Nat.le_refl _⟩ (fun G hG C hl hQ => ?_)
  obtain ⟨rfl, rfl, rfl, hN⟩ := hG
  exact s_X12_jOf_e C h hQ
noncomputable def f_X12_has (x0 : Int32) (x1 : Int32) : Option Int32 := if ((x0 >>> (x1 &&& 31)) &&& (1 : Int32)) = (1 : Int32) then (some (1 : Int32)) else some (0 : Int32)
theorem s_X12_has_e {G : XG} (C : XC G cX12_has RX12 (some .boolean) 2 0 0) {σ : XS} {x0 : Int32} {x1 : Int32} {x : Int32} (hf : f_X12_has x0 x1 = some x) (hk : XEnd G (some (.int x)) σ) : WW G 0 [(0, .int x0), (1, .int x1)] [] σ := by
  refine ww_iload_n (pc := 0) C 0 dX12_has_0 rfl ?_
  refine ww_iload_n (pc := 1) C 1 dX12_has_1 rfl ?_
  refine ww_ishr (pc := 2) C dX12_has_2 ?_
  refine ww_iconst (pc := 3) (v := (1 : Int32)) C dX12_has_3 (by decide) ?_
  refine ww_iand (pc := 4) C dX12_has_4 ?_
  refine ww_iconst (pc := 5) (v := (1 : Int32)) C dX12_has_5 (by decide) ?_
  refine ww_icmp_ne (pc := 6) (tgt := 13) C dX12_has_6 (by decide) (fun q => ?_) (fun q => ?_)
  · have hf := xin q hf
    refine ww_iconst (pc := 13) (v := (0 : Int32)) C dX12_has_13 (by decide) ?_
    have hf := xsj hf
    subst hf
    exact ww_zret (pc := 14) C rfl hk dX12_has_14
  · have hf := xip q hf
    refine ww_iconst (pc := 9) (v := (1 : Int32)) C dX12_has_9 (by decide) ?_
    refine ww_goto (pc := 10) (tgt := 14) C dX12_has_10 (by decide) ?_
    have hf := xsj hf
    subst hf
    exact ww_zret (pc := 14) C rfl hk dX12_has_14
theorem k_X12_has {l : Launch} {E : XD} {hb : Nat} {σ : XS} {x0 : Int32} {x1 : Int32} {x : Int32} (h : f_X12_has x0 x1 = some x) : XM l yX12_has cX12_has 2 (some .boolean) 0 0 E hb [.int x0, .int x1] σ (some (.int x)) σ := by
  refine xm_of (by decide) (Nat.le_of_ble_eq_true rfl) ⟨Nat.le_refl _, Nat.le_refl _⟩ (fun G hG C hl hQ => ?_)
  obtain ⟨rfl, rfl, rfl, hN⟩ := hG
  exact s_X12_has_e C h hQ
noncomputable def f_X12_brokenOf_j99 (σ : XS) (r0 : Nat) (x1 : Int32) (x2 : Int32) (x3 : Int32) (t0 : Int32) (t1 : Int32) : Option ((Int32 × Int32) ⊕ (Int32)) := if t0 = t1 then (some (.inl (x2 + (1 : Int32), x3 + (1 : Int32)))) else some (.inl (x2, x3 + (1 : Int32)))
noncomputable def f_X12_brokenOf_j89 (σ : XS) (r0 : Nat) (x1 : Int32) (x2 : Int32) (x3 : Int32) (x7 : Int32) (t0 : Int32) : Option ((Int32 × Int32) ⊕ (Int32)) := if 0 ≤ x7 then (f_X12_brokenOf_j99 σ r0 x1 x2 x3 t0 (0 : Int32)) else f_X12_brokenOf_j99 σ r0 x1 x2 x3 t0 (1 : Int32)
noncomputable def f_X12_brokenOf_j31 (σ : XS) (r0 : Nat) (x1 : Int32) (x2 : Int32) (x3 : Int32) (x4 : Int32) (t0 : Int32) : Option ((Int32 × Int32) ⊕ (Int32)) := (xck σ r0 12).bind fun _ => (f_X12_tieTo σ r0 x4 t0).bind fun v3 => (xgR σ r0 12 21).bind fun z5 => (f_X12_jOf σ z5 x4 t0).bind fun v7 => if v3 < 0 then (some (.inl (x2, x3 + (1 : Int32)))) else if v7 = 0 then (some (.inl (x2, x3 + (1 : Int32)))) else (f_X12_has x1 x4).bind fun v9 => (f_X12_has x1 v3).bind fun v11 => if v9 = v11 then (f_X12_brokenOf_j89 σ r0 x1 x2 x3 v7 (1 : Int32)) else f_X12_brokenOf_j89 σ r0 x1 x2 x3 v7 (0 : Int32)
noncomputable def f_X12_brokenOf_b4 (σ : XS) (r0 : Nat) (x1 : Int32) : Int32 × Int32 → Option ((Int32 × Int32) ⊕ (Int32)) := fun a => match a with
  | (x2, x3) => (xck σ r0 12).bind fun _ => (f_X12_sites σ r0).bind fun v3 => if ((2 : Int32) * v3) ≤ x3 then ((some x2).map .inr) else if (x3 - x3 / (2 : Int32) * (2 : Int32)) = (1 : Int32) then (f_X12_brokenOf_j31 σ r0 x1 x2 x3 (x3 / (2 : Int32)) (1 : Int32)) else f_X12_brokenOf_j31 σ r0 x1 x2 x3 (x3 / (2 : Int32)) (0 : Int32)
noncomputable def f_X12_brokenOf (σ : XS) (r0 : Nat) (x1 : Int32) : Option Int32 := xloop (f_X12_brokenOf_b4 σ r0 x1) ((0 : Int32), (0 : Int32))
theorem s_X12_brokenOf_j99 {G : XG} (C : XC G cX12_brokenOf RX12 (some .int) 8 2 48) {σ : XS} {r0 : Nat} {x1 : Int32} {x2 : Int32} {x3 : Int32} {t0 : Int32} {t1 : Int32} {x : ((Int32 × Int32) ⊕ (Int32))} (hf : f_X12_brokenOf_j99 σ r0 x1 x2 x3 t0 t1 = some x) (hk : (∀ a' : Int32 × Int32, x = .inl a' → WW G 4 [(0, .ref (gB G + r0)), (1, .int x1), (2, .int a'.1), (3, .int a'.2)] [] σ) ∧ (∀ b1 : Int32, x = .inr b1 → XEnd G (some (.int b1)) σ)) : WW G 99 [(0, .ref (gB G + r0)), (1, .int x1), (2, .int x2), (3, .int x3)] [.int t1, .int t0] σ := by
  refine ww_icmp_ne (pc := 99) (tgt := 105) C dX12_brokenOf_99 (by decide) (fun q => ?_) (fun q => ?_)
  · have hf := xin q hf
    refine ww_iinc (pc := 105) (v := x3 + (1 : Int32)) (lv' := [(3, .int (x3 + (1 : Int32))), (0, .ref (gB G + r0)), (1, .int x1), (2, .int x2)]) C 3 dX12_brokenOf_105 rfl (congrArg (fun z => x3 + z) (show Int32.ofInt (1) = (1 : Int32) by decide)) (by decide) rfl ?_
    refine ww_goto (pc := 108) (tgt := 4) C dX12_brokenOf_108 (by decide) ?_
    have hf := xsj hf
    subst hf
    refine ww_sub [1, 2, 3, 0] rfl ?_
    exact hk.1 (x2, x3 + (1 : Int32)) rfl
  · have hf := xip q hf
    refine ww_iinc (pc := 102) (v := x2 + (1 : Int32)) (lv' := [(2, .int (x2 + (1 : Int32))), (0, .ref (gB G + r0)), (1, .int x1), (3, .int x3)]) C 2 dX12_brokenOf_102 rfl (congrArg (fun z => x2 + z) (show Int32.ofInt (1) = (1 : Int32) by decide)) (by decide) rfl ?_
    refine ww_iinc (pc := 105) (v := x3 + (1 : Int32)) (lv' := [(3, .int (x3 + (1 : Int32))), (2, .int (x2 + (1 : Int32))), (0, .ref (gB G + r0)), (1, .int x1)]) C 3 dX12_brokenOf_105 rfl (congrArg (fun z => x3 + z) (show Int32.ofInt (1) = (1 : Int32) by decide)) (by decide) rfl ?_
    refine ww_goto (pc := 108) (tgt := 4) C dX12_brokenOf_108 (by decide) ?_
    have hf := xsj hf
    subst hf
    refine ww_sub [2, 3, 1, 0] rfl ?_
    exact hk.1 (x2 + (1 : Int32), x3 + (1 : Int32)) rfl
theorem s_X12_brokenOf_j89 {G : XG} (C : XC G cX12_brokenOf RX12 (some .int) 8 2 48) {σ : XS} {r0 : Nat} {x1 : Int32} {x2 : Int32} {x3 : Int32} {x7 : Int32} {t0 : Int32} {x : ((Int32 × Int32) ⊕ (Int32))} (hf : f_X12_brokenOf_j89 σ r0 x1 x2 x3 x7 t0 = some x) (hk : (∀ a' : Int32 × Int32, x = .inl a' → WW G 4 [(0, .ref (gB G + r0)), (1, .int x1), (2, .int a'.1), (3, .int a'.2)] [] σ) ∧ (∀ b1 : Int32, x = .inr b1 → XEnd G (some (.int b1)) σ)) : WW G 89 [(0, .ref (gB G + r0)), (1, .int x1), (2, .int x2), (3, .int x3), (7, .int x7)] [.int t0] σ := by
  refine ww_iload (pc := 89) C 4 dX12_brokenOf_89 rfl ?_
  refine ww_if_ge (pc := 91) (tgt := 98) C dX12_brokenOf_91 (by decide) (fun q => ?_) (fun q => ?_)
  · have hf := xip q hf
    refine ww_iconst (pc := 98) (v := (0 : Int32)) C dX12_brokenOf_98 (by decide) ?_
    refine ww_sub [0, 1, 2, 3] rfl ?_
    exact s_X12_brokenOf_j99 C hf hk
  · have hf := xin q hf
    refine ww_iconst (pc := 94) (v := (1 : Int32)) C dX12_brokenOf_94 (by decide) ?_
    refine ww_goto (pc := 95) (tgt := 99) C dX12_brokenOf_95 (by decide) ?_
    refine ww_sub [0, 1, 2, 3] rfl ?_
    exact s_X12_brokenOf_j99 C hf hk
theorem s_X12_brokenOf_j31 {G : XG} (C : XC G cX12_brokenOf RX12 (some .int) 8 2 48) {σ : XS} {r0 : Nat} {x1 : Int32} {x2 : Int32} {x3 : Int32} {x4 : Int32} {t0 : Int32} {x : ((Int32 × Int32) ⊕ (Int32))} (hf : f_X12_brokenOf_j31 σ r0 x1 x2 x3 x4 t0 = some x) (hk : (∀ a' : Int32 × Int32, x = .inl a' → WW G 4 [(0, .ref (gB G + r0)), (1, .int x1), (2, .int a'.1), (3, .int a'.2)] [] σ) ∧ (∀ b1 : Int32, x = .inr b1 → XEnd G (some (.int b1)) σ)) : WW G 31 [(0, .ref (gB G + r0)), (1, .int x1), (2, .int x2), (3, .int x3), (4, .int x4)] [.int t0] σ := by
  refine ww_istore (pc := 31) (lv' := [(5, .int t0), (0, .ref (gB G + r0)), (1, .int x1), (2, .int x2), (3, .int x3), (4, .int x4)]) C dX12_brokenOf_31 (by decide) rfl ?_
  refine ww_aload_n (pc := 33) C 1 dX12_brokenOf_33 rfl ?_
  refine ww_iload (pc := 34) C 5 dX12_brokenOf_34 rfl ?_
  refine ww_iload (pc := 36) C 0 dX12_brokenOf_36 rfl ?_
  obtain ⟨_, e1, hf⟩ := xbd hf
  obtain ⟨v3, e2, hf⟩ := xbd hf
  refine ww_callVi (pc := 38) (as := [.int x4, .int t0]) (st := []) C (k_X12_tieTo (l := gl G) (E := gE G) (hb := gB G) (σ := σ) e2) rfl (by decide) xc_X12_236 q1512 qp138 (xck_spec e1) rfl (by decide) (xst4 (Nat.le_of_ble_eq_true rfl)) xsame.rf.le xsame.rf.lim dX12_brokenOf_38 ?_
  refine ww_istore (pc := 41) (lv' := [(6, .int v3), (5, .int t0), (0, .ref (gB G + r0)), (1, .int x1), (2, .int x2), (3, .int x3), (4, .int x4)]) C dX12_brokenOf_41 (by decide) rfl ?_
  refine ww_aload_n (pc := 43) C 2 dX12_brokenOf_43 rfl ?_
  obtain ⟨z5, e4, hf⟩ := xbd hf
  refine gf_X12_40 (pc := 44) C e4 dX12_brokenOf_44 ?_
  refine ww_iload (pc := 47) C 6 dX12_brokenOf_47 rfl ?_
  refine ww_iload (pc := 49) C 1 dX12_brokenOf_49 rfl ?_
  obtain ⟨v7, e6, hf⟩ := xbd hf
  refine ww_callSi (pc := 51) (as := [.ref (gB G + z5), .int x4, .int t0]) (st := []) C (k_X12_jOf (l := gl G) (E := gE G) (hb := gB G) (σ := σ) e6) xc_X12_240 q1515 rfl (by decide) (xst4 (Nat.le_of_ble_eq_true rfl)) xsame.rf.le xsame.rf.lim dX12_brokenOf_51 ?_
  refine ww_istore (pc := 54) (lv' := [(7, .int v7), (6, .int v3), (5, .int t0), (0, .ref (gB G + r0)), (1, .int x1), (2, .int x2), (3, .int x3), (4, .int x4)]) C dX12_brokenOf_54 (by decide) rfl ?_
  refine ww_iload (pc := 56) C 1 dX12_brokenOf_56 rfl ?_
  refine ww_if_lt (pc := 58) (tgt := 105) C dX12_brokenOf_58 (by decide) (fun q => ?_) (fun q => ?_)
  · have hf := xip q hf
    refine ww_iinc (pc := 105) (v := x3 + (1 : Int32)) (lv' := [(3, .int (x3 + (1 : Int32))), (7, .int v7), (6, .int v3), (5, .int t0), (0, .ref (gB G + r0)), (1, .int x1), (2, .int x2), (4, .int x4)]) C 6 dX12_brokenOf_105 rfl (congrArg (fun z => x3 + z) (show Int32.ofInt (1) = (1 : Int32) by decide)) (by decide) rfl ?_
    refine ww_goto (pc := 108) (tgt := 4) C dX12_brokenOf_108 (by decide) ?_
    have hf := xsj hf
    subst hf
    refine ww_sub [4, 5, 6, 0] rfl ?_
    exact hk.1 (x2, x3 + (1 : Int32)) rfl
  · have hf := xin q hf
    refine ww_iload (pc := 61) C 0 dX12_brokenOf_61 rfl ?_
    refine ww_if_ne (pc := 63) (tgt := 69) C dX12_brokenOf_63 (by decide) (fun q => ?_) (fun q => ?_)
    · have hf := xin q hf
      refine ww_iload_n (pc := 69) C 4 dX12_brokenOf_69 rfl ?_
      refine ww_iload (pc := 70) C 7 dX12_brokenOf_70 rfl ?_
      obtain ⟨v9, e8, hf⟩ := xbd hf
      refine ww_callSi (pc := 72) (as := [.int x1, .int x4]) (st := []) C (k_X12_has (l := gl G) (E := gE G) (hb := gB G) (σ := σ) e8) xc_X12_301 q1630 rfl (by decide) (xst4 (Nat.le_of_ble_eq_true rfl)) xsame.rf.le xsame.rf.lim dX12_brokenOf_72 ?_
      refine ww_iload_n (pc := 75) C 4 dX12_brokenOf_75 rfl ?_
      refine ww_iload (pc := 76) C 1 dX12_brokenOf_76 rfl ?_
      obtain ⟨v11, e10, hf⟩ := xbd hf
      refine ww_callSi (pc := 78) (as := [.int x1, .int v3]) (st := [.int v9]) C (k_X12_has (l := gl G) (E := gE G) (hb := gB G) (σ := σ) e10) xc_X12_301 q1630 rfl (by decide) (xst4 (Nat.le_of_ble_eq_true rfl)) xsame.rf.le xsame.rf.lim dX12_brokenOf_78 ?_
      refine ww_icmp_ne (pc := 81) (tgt := 88) C dX12_brokenOf_81 (by decide) (fun q => ?_) (fun q => ?_)
      · have hf := xin q hf
        refine ww_iconst (pc := 88) (v := (0 : Int32)) C dX12_brokenOf_88 (by decide) ?_
        refine ww_sub [3, 4, 5, 6, 0] rfl ?_
        exact s_X12_brokenOf_j89 C hf hk
      · have hf := xip q hf
        refine ww_iconst (pc := 84) (v := (1 : Int32)) C dX12_brokenOf_84 (by decide) ?_
        refine ww_goto (pc := 85) (tgt := 89) C dX12_brokenOf_85 (by decide) ?_
        refine ww_sub [3, 4, 5, 6, 0] rfl ?_
        exact s_X12_brokenOf_j89 C hf hk
    · have hf := xip q hf
      refine ww_goto (pc := 66) (tgt := 105) C dX12_brokenOf_66 (by decide) ?_
      refine ww_iinc (pc := 105) (v := x3 + (1 : Int32)) (lv' := [(3, .int (x3 + (1 : Int32))), (7, .int v7), (6, .int v3), (5, .int t0), (0, .ref (gB G + r0)), (1, .int x1), (2, .int x2), (4, .int x4)]) C 6 dX12_brokenOf_105 rfl (congrArg (fun z => x3 + z) (show Int32.ofInt (1) = (1 : Int32) by decide)) (by decide) rfl ?_
      refine ww_goto (pc := 108) (tgt := 4) C dX12_brokenOf_108 (by decide) ?_
      have hf := xsj hf
      subst hf
      refine ww_sub [4, 5, 6, 0] rfl ?_
      exact hk.1 (x2, x3 + (1 : Int32)) rfl
theorem s_X12_brokenOf_l4 {G : XG} (C : XC G cX12_brokenOf RX12 (some .int) 8 2 48) {σ : XS} {r0 : Nat} {x1 : Int32} {a : Int32 × Int32} {x : Int32} (hf : xloop (f_X12_brokenOf_b4 σ r0 x1) a = some x) (hk : XEnd G (some (.int x)) σ) : WW G 4 [(0, .ref (gB G + r0)), (1, .int x1), (2, .int a.1), (3, .int a.2)] [] σ := by
  refine xloop_ind (P := fun a => WW G 4 [(0, .ref (gB G + r0)), (1, .int x1), (2, .int a.1), (3, .int a.2)] [] σ) (fun a y hf hc he => ?_) hf
  obtain ⟨x2, x3⟩ := a
  have hk : (∀ a' : Int32 × Int32, y = .inl a' → WW G 4 [(0, .ref (gB G + r0)), (1, .int x1), (2, .int a'.1), (3, .int a'.2)] [] σ) ∧ (∀ b1 : Int32, y = .inr b1 → XEnd G (some (.int b1)) σ) := ⟨hc, fun b e => by have h9 := he b e; subst h9; exact hk⟩
  refine ww_iload_n (pc := 4) C 3 dX12_brokenOf_4 rfl ?_
  refine ww_iconst (pc := 5) (v := (2 : Int32)) C dX12_brokenOf_5 (by decide) ?_
  refine ww_aload_n (pc := 6) C 0 dX12_brokenOf_6 rfl ?_
  obtain ⟨_, e1, hf⟩ := xbd hf
  obtain ⟨v3, e2, hf⟩ := xbd hf
  refine ww_callVi (pc := 7) (as := []) (st := [.int (2 : Int32), .int x3]) C (k_X12_sites (l := gl G) (E := gE G) (hb := gB G) (σ := σ) e2) rfl (by decide) xc_X12_193 q1496 qp136 (xck_spec e1) rfl (by decide) (xst4 (Nat.le_of_ble_eq_true rfl)) xsame.rf.le xsame.rf.lim dX12_brokenOf_7 ?_
  refine ww_imul (pc := 10) C dX12_brokenOf_10 ?_
  refine ww_icmp_ge (pc := 11) (tgt := 111) C dX12_brokenOf_11 (by decide) (fun q => ?_) (fun q => ?_)
  · have hf := xip q hf
    obtain ⟨b0, hg, e9⟩ := xmj hf
    subst e9
    have hf := hg
    have hk := hk.2 _ rfl
    refine ww_iload_n (pc := 111) C 2 dX12_brokenOf_111 rfl ?_
    have hf := xsj hf
    subst hf
    exact ww_iret (pc := 112) C hk dX12_brokenOf_112
  · have hf := xin q hf
    refine ww_iload_n (pc := 14) C 3 dX12_brokenOf_14 rfl ?_
    refine ww_iconst (pc := 15) (v := (2 : Int32)) C dX12_brokenOf_15 (by decide) ?_
    refine ww_idiv (pc := 16) C dX12_brokenOf_16 (by decide) ?_
    refine ww_istore (pc := 17) (lv' := [(4, .int (x3 / (2 : Int32))), (0, .ref (gB G + r0)), (1, .int x1), (2, .int x2), (3, .int x3)]) C dX12_brokenOf_17 (by decide) rfl ?_
    refine ww_iload_n (pc := 19) C 4 dX12_brokenOf_19 rfl ?_
    refine ww_iconst (pc := 20) (v := (2 : Int32)) C dX12_brokenOf_20 (by decide) ?_
    refine ww_irem (pc := 21) C dX12_brokenOf_21 (by decide) ?_
    refine ww_iconst (pc := 22) (v := (1 : Int32)) C dX12_brokenOf_22 (by decide) ?_
    refine ww_icmp_ne (pc := 23) (tgt := 30) C dX12_brokenOf_23 (by decide) (fun q => ?_) (fun q => ?_)
    · have hf := xin q hf
      refine ww_iconst (pc := 30) (v := (0 : Int32)) C dX12_brokenOf_30 (by decide) ?_
      refine ww_sub [1, 2, 3, 4, 0] rfl ?_
      exact s_X12_brokenOf_j31 C hf hk
    · have hf := xip q hf
      refine ww_iconst (pc := 26) (v := (1 : Int32)) C dX12_brokenOf_26 (by decide) ?_
      refine ww_goto (pc := 27) (tgt := 31) C dX12_brokenOf_27 (by decide) ?_
      refine ww_sub [1, 2, 3, 4, 0] rfl ?_
      exact s_X12_brokenOf_j31 C hf hk
theorem s_X12_brokenOf_e {G : XG} (C : XC G cX12_brokenOf RX12 (some .int) 8 2 48) {σ : XS} {r0 : Nat} {x1 : Int32} {x : Int32} (hf : f_X12_brokenOf σ r0 x1 = some x) (hk : XEnd G (some (.int x)) σ) : WW G 0 [(0, .ref (gB G + r0)), (1, .int x1)] [] σ := by
  refine ww_iconst (pc := 0) (v := (0 : Int32)) C dX12_brokenOf_0 (by decide) ?_
  refine ww_istore_n (pc := 1) (lv' := [(2, .int (0 : Int32)), (0, .ref (gB G + r0)), (1, .int x1)]) C dX12_brokenOf_1 (by decide) rfl ?_
  refine ww_iconst (pc := 2) (v := (0 : Int32)) C dX12_brokenOf_2 (by decide) ?_
  refine ww_istore_n (pc := 3) (lv' := [(3, .int (0 : Int32)), (2, .int (0 : Int32)), (0, .ref (gB G + r0)), (1, .int x1)]) C dX12_brokenOf_3 (by decide) rfl ?_
  refine ww_sub [2, 3, 1, 0] rfl ?_
  exact s_X12_brokenOf_l4 C (a := ((0 : Int32), (0 : Int32))) hf hk
theorem k_X12_brokenOf {l : Launch} {E : XD} {hb : Nat} {σ : XS} {r0 : Nat} {x1 : Int32} {x : Int32} (h : f_X12_brokenOf σ r0 x1 = some x) : XM l yX12_brokenOf cX12_brokenOf 8 (some .int) 2 48 E hb [.ref (hb + r0), .int x1] σ (some (.int x)) σ := by
  refine xm_of (by decide) (Nat.le_of_ble_eq_true rfl) ⟨Nat.le_refl _, Nat.le_refl _⟩ (fun G hG C hl hQ => ?_)
  obtain ⟨rfl, rfl, rfl, hN⟩ := hG
  exact s_X12_brokenOf_e C h hQ
noncomputable def f_X12_broken_b8 (σ : XS) (r0 : Nat) (x1 : Int32) : Int32 × Int32 → Option ((Int32 × Int32) ⊕ (Int32 × XS)) := fun a => match a with
  | (x2, x3) => (xck σ r0 12).bind fun _ => (f_X12_states σ r0).bind fun v3 => if v3 ≤ x3 then ((some (x2, σ)).map .inr) else (xgR σ r0 12 33).bind fun z5 => (xaI σ 20 z5 x3).bind fun v7 => if (100000 : Int32) ≤ v7 then (some (.inl (x2, x3 + (1 : Int32)))) else (xck σ r0 12).bind fun _ => (f_X12_brokenOf σ r0 x3).bind fun v10 => if v10 = x1 then (some (.inl (x2 + (1 : Int32), x3 + (1 : Int32)))) else some (.inl (x2, x3 + (1 : Int32)))
noncomputable def f_X12_broken (σ : XS) (r0 : Nat) (x1 : Int32) : Option (Int32 × XS) := (xck σ r0 12).bind fun _ => (f_X12_knows σ r0).bind fun σ3 => xloop (f_X12_broken_b8 σ3 r0 x1) ((0 : Int32), (0 : Int32))
theorem m_X12_broken_l8 {σ : XS} {r0 : Nat} {x1 : Int32} {a : Int32 × Int32} {x : Int32 × XS} (hf : xloop (f_X12_broken_b8 σ r0 x1) a = some x) : xsame σ x.2 := by
  refine xloop_ind (P := fun a => xsame σ x.2) (fun a y hf hc he => ?_) hf
  obtain ⟨x2, x3⟩ := a
  have hy : (∀ a' : Int32 × Int32, y = .inl a' → True) ∧ (∀ b1 : Int32 × XS, y = .inr b1 → xsame σ b1.2) := by
    have hm := xsame.rf (σ := σ)
    obtain ⟨_, e1, hf⟩ := xbd hf
    obtain ⟨v3, e2, hf⟩ := xbd hf
    by_cases q : v3 ≤ x3
    · have hf := xip q hf
      obtain ⟨b0, hg, e9⟩ := xmj hf
      subst e9
      have hf := hg
      refine ⟨fun a' e => xnc2 e, fun b e => ?_⟩
      have h9 := Sum.inr.inj e
      subst h9
      have hf := xsj hf
      subst hf
      exact hm
    · have hf := xin q hf
      obtain ⟨z5, e4, hf⟩ := xbd hf
      obtain ⟨v7, e6, hf⟩ := xbd hf
      by_cases q : (100000 : Int32) ≤ v7
      · have hf := xip q hf
        have hf := xsj hf
        subst hf
        exact ⟨fun a' e => (by have h9 := Sum.inl.inj e; subst h9; exact trivial), fun b e => xnc1 e⟩
      · have hf := xin q hf
        obtain ⟨_, e8, hf⟩ := xbd hf
        obtain ⟨v10, e9, hf⟩ := xbd hf
        by_cases q : v10 = x1
        · have hf := xip q hf
          have hf := xsj hf
          subst hf
          exact ⟨fun a' e => (by have h9 := Sum.inl.inj e; subst h9; exact trivial), fun b e => xnc1 e⟩
        · have hf := xin q hf
          have hf := xsj hf
          subst hf
          exact ⟨fun a' e => (by have h9 := Sum.inl.inj e; subst h9; exact trivial), fun b e => xnc1 e⟩
  cases y with
  | inl a' =>
    have h1 := hc a' rfl
    exact h1
  | inr b =>
    have h1 := he b rfl
    subst h1
    exact hy.2 _ rfl
theorem s_X12_broken_l8 {G : XG} (C : XC G cX12_broken RX12 (some .int) 4 4 96) {σ : XS} {r0 : Nat} {x1 : Int32} {a : Int32 × Int32} {x : Int32 × XS} (hf : xloop (f_X12_broken_b8 σ r0 x1) a = some x) (hk : XEnd G (some (.int x.1)) x.2) : WW G 8 [(0, .ref (gB G + r0)), (1, .int x1), (2, .int a.1), (3, .int a.2)] [] σ := by
  refine xloop_ind (P := fun a => WW G 8 [(0, .ref (gB G + r0)), (1, .int x1), (2, .int a.1), (3, .int a.2)] [] σ) (fun a y hf hc he => ?_) hf
  obtain ⟨x2, x3⟩ := a
  have hk : (∀ a' : Int32 × Int32, y = .inl a' → WW G 8 [(0, .ref (gB G + r0)), (1, .int x1), (2, .int a'.1), (3, .int a'.2)] [] σ) ∧ (∀ b1 : Int32 × XS, y = .inr b1 → XEnd G (some (.int b1.1)) b1.2) := ⟨hc, fun b e => by have h9 := he b e; subst h9; exact hk⟩
  refine ww_iload_n (pc := 8) C 3 dX12_broken_8 rfl ?_
  refine ww_aload_n (pc := 9) C 0 dX12_broken_9 rfl ?_
  obtain ⟨_, e1, hf⟩ := xbd hf
  obtain ⟨v3, e2, hf⟩ := xbd hf
  refine ww_callVi (pc := 10) (as := []) (st := [.int x3]) C (k_X12_states (l := gl G) (E := gE G) (hb := gB G) (σ := σ) e2) rfl (by decide) xc_X12_270 q1555 qp141 (xck_spec e1) rfl (by decide) (xst4 (Nat.le_of_ble_eq_true rfl)) xsame.rf.le xsame.rf.lim dX12_broken_10 ?_
  refine ww_icmp_ge (pc := 13) (tgt := 46) C dX12_broken_13 (by decide) (fun q => ?_) (fun q => ?_)
  · have hf := xip q hf
    obtain ⟨b0, hg, e9⟩ := xmj hf
    subst e9
    have hf := hg
    have hk := hk.2 _ rfl
    refine ww_iload_n (pc := 46) C 2 dX12_broken_46 rfl ?_
    have hf := xsj hf
    subst hf
    exact ww_iret (pc := 47) C hk dX12_broken_47
  · have hf := xin q hf
    refine ww_aload_n (pc := 16) C 0 dX12_broken_16 rfl ?_
    obtain ⟨z5, e4, hf⟩ := xbd hf
    refine gf_X12_57 (pc := 17) C e4 dX12_broken_17 ?_
    refine ww_iload_n (pc := 20) C 3 dX12_broken_20 rfl ?_
    obtain ⟨v7, e6, hf⟩ := xbd hf
    refine ww_iald (pc := 21) C e6 dX12_broken_21 ?_
    refine ww_ldcw (pc := 22) C q1568 dX12_broken_22 ?_
    refine ww_icmp_ge (pc := 25) (tgt := 40) C dX12_broken_25 (by decide) (fun q => ?_) (fun q => ?_)
    · have hf := xip q hf
      refine ww_iinc (pc := 40) (v := x3 + (1 : Int32)) (lv' := [(3, .int (x3 + (1 : Int32))), (0, .ref (gB G + r0)), (1, .int x1), (2, .int x2)]) C 3 dX12_broken_40 rfl (congrArg (fun z => x3 + z) (show Int32.ofInt (1) = (1 : Int32) by decide)) (by decide) rfl ?_
      refine ww_goto (pc := 43) (tgt := 8) C dX12_broken_43 (by decide) ?_
      have hf := xsj hf
      subst hf
      refine ww_sub [1, 2, 3, 0] rfl ?_
      exact hk.1 (x2, x3 + (1 : Int32)) rfl
    · have hf := xin q hf
      refine ww_aload_n (pc := 28) C 0 dX12_broken_28 rfl ?_
      refine ww_iload_n (pc := 29) C 3 dX12_broken_29 rfl ?_
      obtain ⟨_, e8, hf⟩ := xbd hf
      obtain ⟨v10, e9, hf⟩ := xbd hf
      refine ww_callVi (pc := 30) (as := [.int x3]) (st := []) C (k_X12_brokenOf (l := gl G) (E := gE G) (hb := gB G) (σ := σ) e9) rfl (by decide) xc_X12_305 q1627 qp150 (xck_spec e8) rfl (by decide) (xst4 (Nat.le_of_ble_eq_true rfl)) xsame.rf.le xsame.rf.lim dX12_broken_30 ?_
      refine ww_iload_n (pc := 33) C 1 dX12_broken_33 rfl ?_
      refine ww_icmp_ne (pc := 34) (tgt := 40) C dX12_broken_34 (by decide) (fun q => ?_) (fun q => ?_)
      · have hf := xin q hf
        refine ww_iinc (pc := 40) (v := x3 + (1 : Int32)) (lv' := [(3, .int (x3 + (1 : Int32))), (0, .ref (gB G + r0)), (1, .int x1), (2, .int x2)]) C 3 dX12_broken_40 rfl (congrArg (fun z => x3 + z) (show Int32.ofInt (1) = (1 : Int32) by decide)) (by decide) rfl ?_
        refine ww_goto (pc := 43) (tgt := 8) C dX12_broken_43 (by decide) ?_
        have hf := xsj hf
        subst hf
        refine ww_sub [1, 2, 3, 0] rfl ?_
        exact hk.1 (x2, x3 + (1 : Int32)) rfl
      · have hf := xip q hf
        refine ww_iinc (pc := 37) (v := x2 + (1 : Int32)) (lv' := [(2, .int (x2 + (1 : Int32))), (0, .ref (gB G + r0)), (1, .int x1), (3, .int x3)]) C 2 dX12_broken_37 rfl (congrArg (fun z => x2 + z) (show Int32.ofInt (1) = (1 : Int32) by decide)) (by decide) rfl ?_
        refine ww_iinc (pc := 40) (v := x3 + (1 : Int32)) (lv' := [(3, .int (x3 + (1 : Int32))), (2, .int (x2 + (1 : Int32))), (0, .ref (gB G + r0)), (1, .int x1)]) C 3 dX12_broken_40 rfl (congrArg (fun z => x3 + z) (show Int32.ofInt (1) = (1 : Int32) by decide)) (by decide) rfl ?_
        refine ww_goto (pc := 43) (tgt := 8) C dX12_broken_43 (by decide) ?_
        have hf := xsj hf
        subst hf
        refine ww_sub [2, 3, 1, 0] rfl ?_
        exact hk.1 (x2 + (1 : Int32), x3 + (1 : Int32)) rfl
theorem s_X12_broken_e {G : XG} (C : XC G cX12_broken RX12 (some .int) 4 4 96) {σ : XS} {r0 : Nat} {x1 : Int32} {x : Int32 × XS} (hf : f_X12_broken σ r0 x1 = some x) (hk : XEnd G (some (.int x.1)) x.2) : WW G 0 [(0, .ref (gB G + r0)), (1, .int x1)] [] σ := by
  refine ww_aload_n (pc := 0) C 0 dX12_broken_0 rfl ?_
  obtain ⟨_, e1, hf⟩ := xbd hf
  obtain ⟨σ3, e2, hf⟩ := xbd hf
  refine ww_callVv (pc := 1) (as := []) (st := []) C (k_X12_knows (l := gl G) (E := gE G) (hb := gB G) (σ := σ) e2) rfl (by decide) xc_X12_261 q1551 qp140 (xck_spec e1) rfl (by decide) (xst4 (Nat.le_of_ble_eq_true rfl)) (m_X12_knows e2).le (m_X12_knows e2).lim dX12_broken_1 ?_
  refine ww_iconst (pc := 4) (v := (0 : Int32)) C dX12_broken_4 (by decide) ?_
  refine ww_istore_n (pc := 5) (lv' := [(2, .int (0 : Int32)), (0, .ref (gB G + r0)), (1, .int x1)]) C dX12_broken_5 (by decide) rfl ?_
  refine ww_iconst (pc := 6) (v := (0 : Int32)) C dX12_broken_6 (by decide) ?_
  refine ww_istore_n (pc := 7) (lv' := [(3, .int (0 : Int32)), (2, .int (0 : Int32)), (0, .ref (gB G + r0)), (1, .int x1)]) C dX12_broken_7 (by decide) rfl ?_
  refine ww_sub [2, 3, 1, 0] rfl ?_
  exact s_X12_broken_l8 C (a := ((0 : Int32), (0 : Int32))) hf hk
theorem m_X12_broken {σ : XS} {r0 : Nat} {x1 : Int32} {x : Int32 × XS} (hf : f_X12_broken σ r0 x1 = some x) : xsame σ x.2 := by
  have hm := xsame.rf (σ := σ)
  obtain ⟨_, e1, hf⟩ := xbd hf
  obtain ⟨σ3, e2, hf⟩ := xbd hf
  have hm := hm.tr (m_X12_knows e2)
  exact hm.tr (m_X12_broken_l8 (a := ((0 : Int32), (0 : Int32))) hf)
theorem k_X12_broken {l : Launch} {E : XD} {hb : Nat} {σ : XS} {r0 : Nat} {x1 : Int32} {x : Int32 × XS} (h : f_X12_broken σ r0 x1 = some x) : XM l yX12_broken cX12_broken 4 (some .int) 4 96 E hb [.ref (hb + r0), .int x1] σ (some (.int x.1)) x.2 := by
  refine xm_of (by decide) (Nat.le_of_ble_eq_true rfl) (m_X12_broken h).le (fun G hG C hl hQ => ?_)
  obtain ⟨rfl, rfl, rfl, hN⟩ := hG
  exact s_X12_broken_e C h hQ
noncomputable def f_X12_byteAt (σ : XS) (r0 : Nat) (x1 : Int32) : Option Int32 := (xgI σ r0 12 4).bind fun v2 => if v2 ≤ x1 then (some (0 : Int32)) else (xgR σ r0 12 3).bind fun z4 => (xaI σ 21 z4 x1).bind fun v6 => some (v6 &&& (255 : Int32))
theorem s_X12_byteAt_e {G : XG} (C : XC G cX12_byteAt RX12 (some .int) 2 0 0) {σ : XS} {r0 : Nat} {x1 : Int32} {x : Int32} (hf : f_X12_byteAt σ r0 x1 = some x) (hk : XEnd G (some (.int x)) σ) : WW G 0 [(0, .ref (gB G + r0)), (1, .int x1)] [] σ := by
  refine ww_iload_n (pc := 0) C 1 dX12_byteAt_0 rfl ?_
  refine ww_aload_n (pc := 1) C 0 dX12_byteAt_1 rfl ?_
  obtain ⟨v2, e1, hf⟩ := xbd hf
  refine gf_X12_101 (pc := 2) C e1 dX12_byteAt_2 ?_
  refine ww_icmp_ge (pc := 5) (tgt := 21) C dX12_byteAt_5 (by decide) (fun q => ?_) (fun q => ?_)
  · have hf := xip q hf
    refine ww_iconst (pc := 21) (v := (0 : Int32)) C dX12_byteAt_21 (by decide) ?_
    have hf := xsj hf
    subst hf
    exact ww_iret (pc := 22) C hk dX12_byteAt_22
  · have hf := xin q hf
    refine ww_aload_n (pc := 8) C 0 dX12_byteAt_8 rfl ?_
    obtain ⟨z4, e3, hf⟩ := xbd hf
    refine gf_X12_17 (pc := 9) C e3 dX12_byteAt_9 ?_
    refine ww_iload_n (pc := 12) C 1 dX12_byteAt_12 rfl ?_
    obtain ⟨v6, e5, hf⟩ := xbd hf
    refine ww_bald (pc := 13) C e5 dX12_byteAt_13 ?_
    refine ww_sipush (pc := 14) (v := (255 : Int32)) C dX12_byteAt_14 (by decide) ?_
    refine ww_iand (pc := 17) C dX12_byteAt_17 ?_
    refine ww_goto (pc := 18) (tgt := 22) C dX12_byteAt_18 (by decide) ?_
    have hf := xsj hf
    subst hf
    exact ww_iret (pc := 22) C hk dX12_byteAt_22
theorem k_X12_byteAt {l : Launch} {E : XD} {hb : Nat} {σ : XS} {r0 : Nat} {x1 : Int32} {x : Int32} (h : f_X12_byteAt σ r0 x1 = some x) : XM l yX12_byteAt cX12_byteAt 2 (some .int) 0 0 E hb [.ref (hb + r0), .int x1] σ (some (.int x)) σ := by
  refine xm_of (by decide) (Nat.le_of_ble_eq_true rfl) ⟨Nat.le_refl _, Nat.le_refl _⟩ (fun G hG C hl hQ => ?_)
  obtain ⟨rfl, rfl, rfl, hN⟩ := hG
  exact s_X12_byteAt_e C h hQ
noncomputable def f_X12_isSite (σ : XS) (r0 : Nat) (x1 : Int32) : Option Int32 := (xck σ r0 12).bind fun _ => (f_X12_sites σ r0).bind fun v3 => (f_X12_in x1 (0 : Int32) (v3 - (1 : Int32))).bind fun v5 => (xbz v5).bind fun _ => some v5
theorem s_X12_isSite_e {G : XG} (C : XC G cX12_isSite RX12 (some .boolean) 2 1 22) {σ : XS} {r0 : Nat} {x1 : Int32} {x : Int32} (hf : f_X12_isSite σ r0 x1 = some x) (hk : XEnd G (some (.int x)) σ) : WW G 0 [(0, .ref (gB G + r0)), (1, .int x1)] [] σ := by
  refine ww_iload_n (pc := 0) C 1 dX12_isSite_0 rfl ?_
  refine ww_iconst (pc := 1) (v := (0 : Int32)) C dX12_isSite_1 (by decide) ?_
  refine ww_aload_n (pc := 2) C 0 dX12_isSite_2 rfl ?_
  obtain ⟨_, e1, hf⟩ := xbd hf
  obtain ⟨v3, e2, hf⟩ := xbd hf
  refine ww_callVi (pc := 3) (as := []) (st := [.int (0 : Int32), .int x1]) C (k_X12_sites (l := gl G) (E := gE G) (hb := gB G) (σ := σ) e2) rfl (by decide) xc_X12_193 q1496 qp136 (xck_spec e1) rfl (by decide) (xst4 (Nat.le_of_ble_eq_true rfl)) xsame.rf.le xsame.rf.lim dX12_isSite_3 ?_
  refine ww_iconst (pc := 6) (v := (1 : Int32)) C dX12_isSite_6 (by decide) ?_
  refine ww_isub (pc := 7) C dX12_isSite_7 ?_
  obtain ⟨v5, e4, hf⟩ := xbd hf
  refine ww_callSi (pc := 8) (as := [.int x1, .int (0 : Int32), .int (v3 - (1 : Int32))]) (st := []) C (k_X12_in (l := gl G) (E := gE G) (hb := gB G) (σ := σ) e4) xc_X12_213 q1473 rfl (by decide) (xst4 (Nat.le_of_ble_eq_true rfl)) xsame.rf.le xsame.rf.lim dX12_isSite_8 ?_
  obtain ⟨_, e6, hf⟩ := xbd hf
  have hf := xsj hf
  subst hf
  exact ww_zret (pc := 11) C (xbz_nar e6) hk dX12_isSite_11
theorem k_X12_isSite {l : Launch} {E : XD} {hb : Nat} {σ : XS} {r0 : Nat} {x1 : Int32} {x : Int32} (h : f_X12_isSite σ r0 x1 = some x) : XM l yX12_isSite cX12_isSite 2 (some .boolean) 1 22 E hb [.ref (hb + r0), .int x1] σ (some (.int x)) σ := by
  refine xm_of (by decide) (Nat.le_of_ble_eq_true rfl) ⟨Nat.le_refl _, Nat.le_refl _⟩ (fun G hG C hl hQ => ?_)
  obtain ⟨rfl, rfl, rfl, hN⟩ := hG
  exact s_X12_isSite_e C h hQ
noncomputable def f_X12_clusterOf_j107 (σ : XS) (r0 : Nat) (x2 : Int32) (x3 : Int32) (x4 : Int32) (x5 : Int32) (x6 : Int32) : Option ((Int32 × Int32) ⊕ ((Int32 × Int32) ⊕ (Int32))) := some (.inl (x2 ||| (((1 : Int32) <<< (x5 &&& 31)) ||| ((1 : Int32) <<< (x6 &&& 31))), x4 + (1 : Int32)))
noncomputable def f_X12_clusterOf_j49 (σ : XS) (r0 : Nat) (x2 : Int32) (x3 : Int32) (x4 : Int32) (x5 : Int32) (t0 : Nat) (t1 : Int32) (t2 : Int32) : Option ((Int32 × Int32) ⊕ ((Int32 × Int32) ⊕ (Int32))) := (xck σ t0 12).bind fun _ => (f_X12_tieTo σ t0 t1 t2).bind fun v3 => if v3 < 0 then (some (.inl (x2, x4 + (1 : Int32)))) else (xgR σ r0 12 21).bind fun z5 => (xaI σ 20 z5 (64 : Int32)).bind fun v7 => (f_X12_has v7 x5).bind fun v9 => (xgR σ r0 12 21).bind fun z11 => (xaI σ 20 z11 (64 : Int32)).bind fun v13 => (f_X12_has v13 v3).bind fun v15 => if v9 = v15 then ((f_X12_has x2 x5).bind fun v17 => if v17 = 0 then ((f_X12_has x2 v3).bind fun v19 => if v19 = 0 then (some (.inl (x2, x4 + (1 : Int32)))) else f_X12_clusterOf_j107 σ r0 x2 x3 x4 x5 v3) else f_X12_clusterOf_j107 σ r0 x2 x3 x4 x5 v3) else some (.inl (x2, x4 + (1 : Int32)))
noncomputable def f_X12_clusterOf_b16 (σ : XS) (r0 : Nat) (x3 : Int32) : Int32 × Int32 → Option ((Int32 × Int32) ⊕ ((Int32 × Int32) ⊕ (Int32))) := fun a => match a with
  | (x2, x4) => (xck σ r0 12).bind fun _ => (f_X12_sites σ r0).bind fun v3 => if ((2 : Int32) * v3) ≤ x4 then ((some (.inl (x2, x3))).map .inr) else if (x4 - x4 / (2 : Int32) * (2 : Int32)) = (1 : Int32) then (f_X12_clusterOf_j49 σ r0 x2 x3 x4 (x4 / (2 : Int32)) r0 (x4 / (2 : Int32)) (1 : Int32)) else f_X12_clusterOf_j49 σ r0 x2 x3 x4 (x4 / (2 : Int32)) r0 (x4 / (2 : Int32)) (0 : Int32)
noncomputable def f_X12_clusterOf_b6 (σ : XS) (r0 : Nat) : Int32 × Int32 → Option ((Int32 × Int32) ⊕ (Int32)) := fun a => match a with
  | (x2, x3) => if x2 = x3 then ((some x2).map .inr) else xloop (f_X12_clusterOf_b16 σ r0 x2) (x2, (0 : Int32))
noncomputable def f_X12_clusterOf (σ : XS) (r0 : Nat) (x1 : Int32) : Option Int32 := xloop (f_X12_clusterOf_b6 σ r0) ((1 : Int32) <<< (x1 &&& 31), (0 : Int32))
theorem s_X12_clusterOf_j107 {G : XG} (C : XC G cX12_clusterOf RX12 (some .int) 7 2 48) {σ : XS} {r0 : Nat} {x2 : Int32} {x3 : Int32} {x4 : Int32} {x5 : Int32} {x6 : Int32} {x : ((Int32 × Int32) ⊕ ((Int32 × Int32) ⊕ (Int32)))} (hf : f_X12_clusterOf_j107 σ r0 x2 x3 x4 x5 x6 = some x) (hk : (∀ a' : Int32 × Int32, x = .inl a' → WW G 16 [(0, .ref (gB G + r0)), (2, .int a'.1), (3, .int x3), (4, .int a'.2)] [] σ) ∧ (∀ b2 : ((Int32 × Int32) ⊕ (Int32)), x = .inr b2 → (∀ a' : Int32 × Int32, b2 = .inl a' → WW G 6 [(0, .ref (gB G + r0)), (2, .int a'.1), (3, .int a'.2)] [] σ) ∧ (∀ b1 : Int32, b2 = .inr b1 → XEnd G (some (.int b1)) σ))) : WW G 107 [(0, .ref (gB G + r0)), (2, .int x2), (3, .int x3), (4, .int x4), (5, .int x5), (6, .int x6)] [] σ := by
  refine ww_iload_n (pc := 107) C 1 dX12_clusterOf_107 rfl ?_
  refine ww_iconst (pc := 108) (v := (1 : Int32)) C dX12_clusterOf_108 (by decide) ?_
  refine ww_iload (pc := 109) C 4 dX12_clusterOf_109 rfl ?_
  refine ww_ishl (pc := 111) C dX12_clusterOf_111 ?_
  refine ww_iconst (pc := 112) (v := (1 : Int32)) C dX12_clusterOf_112 (by decide) ?_
  refine ww_iload (pc := 113) C 5 dX12_clusterOf_113 rfl ?_
  refine ww_ishl (pc := 115) C dX12_clusterOf_115 ?_
  refine ww_ior (pc := 116) C dX12_clusterOf_116 ?_
  refine ww_ior (pc := 117) C dX12_clusterOf_117 ?_
  refine ww_istore_n (pc := 118) (lv' := [(2, .int (x2 ||| (((1 : Int32) <<< (x5 &&& 31)) ||| ((1 : Int32) <<< (x6 &&& 31))))), (0, .ref (gB G + r0)), (3, .int x3), (4, .int x4), (5, .int x5), (6, .int x6)]) C dX12_clusterOf_118 (by decide) rfl ?_
  refine ww_iinc (pc := 119) (v := x4 + (1 : Int32)) (lv' := [(4, .int (x4 + (1 : Int32))), (2, .int (x2 ||| (((1 : Int32) <<< (x5 &&& 31)) ||| ((1 : Int32) <<< (x6 &&& 31))))), (0, .ref (gB G + r0)), (3, .int x3), (5, .int x5), (6, .int x6)]) C 3 dX12_clusterOf_119 rfl (congrArg (fun z => x4 + z) (show Int32.ofInt (1) = (1 : Int32) by decide)) (by decide) rfl ?_
  refine ww_goto (pc := 122) (tgt := 16) C dX12_clusterOf_122 (by decide) ?_
  have hf := xsj hf
  subst hf
  refine ww_sub [2, 1, 3, 0] rfl ?_
  exact hk.1 (x2 ||| (((1 : Int32) <<< (x5 &&& 31)) ||| ((1 : Int32) <<< (x6 &&& 31))), x4 + (1 : Int32)) rfl
theorem s_X12_clusterOf_j49 {G : XG} (C : XC G cX12_clusterOf RX12 (some .int) 7 2 48) {σ : XS} {r0 : Nat} {x2 : Int32} {x3 : Int32} {x4 : Int32} {x5 : Int32} {t0 : Nat} {t1 : Int32} {t2 : Int32} {x : ((Int32 × Int32) ⊕ ((Int32 × Int32) ⊕ (Int32)))} (hf : f_X12_clusterOf_j49 σ r0 x2 x3 x4 x5 t0 t1 t2 = some x) (hk : (∀ a' : Int32 × Int32, x = .inl a' → WW G 16 [(0, .ref (gB G + r0)), (2, .int a'.1), (3, .int x3), (4, .int a'.2)] [] σ) ∧ (∀ b2 : ((Int32 × Int32) ⊕ (Int32)), x = .inr b2 → (∀ a' : Int32 × Int32, b2 = .inl a' → WW G 6 [(0, .ref (gB G + r0)), (2, .int a'.1), (3, .int a'.2)] [] σ) ∧ (∀ b1 : Int32, b2 = .inr b1 → XEnd G (some (.int b1)) σ))) : WW G 49 [(0, .ref (gB G + r0)), (2, .int x2), (3, .int x3), (4, .int x4), (5, .int x5)] [.int t2, .int t1, .ref (gB G + t0)] σ := by
  obtain ⟨_, e1, hf⟩ := xbd hf
  obtain ⟨v3, e2, hf⟩ := xbd hf
  refine ww_callVi (pc := 49) (as := [.int t1, .int t2]) (st := []) C (k_X12_tieTo (l := gl G) (E := gE G) (hb := gB G) (σ := σ) e2) rfl (by decide) xc_X12_236 q1512 qp138 (xck_spec e1) rfl (by decide) (xst4 (Nat.le_of_ble_eq_true rfl)) xsame.rf.le xsame.rf.lim dX12_clusterOf_49 ?_
  refine ww_istore (pc := 52) (lv' := [(6, .int v3), (0, .ref (gB G + r0)), (2, .int x2), (3, .int x3), (4, .int x4), (5, .int x5)]) C dX12_clusterOf_52 (by decide) rfl ?_
  refine ww_iload (pc := 54) C 0 dX12_clusterOf_54 rfl ?_
  refine ww_if_lt (pc := 56) (tgt := 119) C dX12_clusterOf_56 (by decide) (fun q => ?_) (fun q => ?_)
  · have hf := xip q hf
    refine ww_iinc (pc := 119) (v := x4 + (1 : Int32)) (lv' := [(4, .int (x4 + (1 : Int32))), (6, .int v3), (0, .ref (gB G + r0)), (2, .int x2), (3, .int x3), (5, .int x5)]) C 4 dX12_clusterOf_119 rfl (congrArg (fun z => x4 + z) (show Int32.ofInt (1) = (1 : Int32) by decide)) (by decide) rfl ?_
    refine ww_goto (pc := 122) (tgt := 16) C dX12_clusterOf_122 (by decide) ?_
    have hf := xsj hf
    subst hf
    refine ww_sub [2, 3, 4, 0] rfl ?_
    exact hk.1 (x2, x4 + (1 : Int32)) rfl
  · have hf := xin q hf
    refine ww_aload_n (pc := 59) C 1 dX12_clusterOf_59 rfl ?_
    obtain ⟨z5, e4, hf⟩ := xbd hf
    refine gf_X12_40 (pc := 60) C e4 dX12_clusterOf_60 ?_
    refine ww_bipush (pc := 63) (v := (64 : Int32)) C dX12_clusterOf_63 (by decide) ?_
    obtain ⟨v7, e6, hf⟩ := xbd hf
    refine ww_iald (pc := 65) C e6 dX12_clusterOf_65 ?_
    refine ww_iload (pc := 66) C 5 dX12_clusterOf_66 rfl ?_
    obtain ⟨v9, e8, hf⟩ := xbd hf
    refine ww_callSi (pc := 68) (as := [.int v7, .int x5]) (st := []) C (k_X12_has (l := gl G) (E := gE G) (hb := gB G) (σ := σ) e8) xc_X12_301 q1630 rfl (by decide) (xst4 (Nat.le_of_ble_eq_true rfl)) xsame.rf.le xsame.rf.lim dX12_clusterOf_68 ?_
    refine ww_aload_n (pc := 71) C 1 dX12_clusterOf_71 rfl ?_
    obtain ⟨z11, e10, hf⟩ := xbd hf
    refine gf_X12_40 (pc := 72) C e10 dX12_clusterOf_72 ?_
    refine ww_bipush (pc := 75) (v := (64 : Int32)) C dX12_clusterOf_75 (by decide) ?_
    obtain ⟨v13, e12, hf⟩ := xbd hf
    refine ww_iald (pc := 77) C e12 dX12_clusterOf_77 ?_
    refine ww_iload (pc := 78) C 0 dX12_clusterOf_78 rfl ?_
    obtain ⟨v15, e14, hf⟩ := xbd hf
    refine ww_callSi (pc := 80) (as := [.int v13, .int v3]) (st := [.int v9]) C (k_X12_has (l := gl G) (E := gE G) (hb := gB G) (σ := σ) e14) xc_X12_301 q1630 rfl (by decide) (xst4 (Nat.le_of_ble_eq_true rfl)) xsame.rf.le xsame.rf.lim dX12_clusterOf_80 ?_
    refine ww_icmp_eq (pc := 83) (tgt := 89) C dX12_clusterOf_83 (by decide) (fun q => ?_) (fun q => ?_)
    · have hf := xip q hf
      refine ww_iload_n (pc := 89) C 2 dX12_clusterOf_89 rfl ?_
      refine ww_iload (pc := 90) C 5 dX12_clusterOf_90 rfl ?_
      obtain ⟨v17, e16, hf⟩ := xbd hf
      refine ww_callSi (pc := 92) (as := [.int x2, .int x5]) (st := []) C (k_X12_has (l := gl G) (E := gE G) (hb := gB G) (σ := σ) e16) xc_X12_301 q1630 rfl (by decide) (xst4 (Nat.le_of_ble_eq_true rfl)) xsame.rf.le xsame.rf.lim dX12_clusterOf_92 ?_
      refine ww_if_ne (pc := 95) (tgt := 107) C dX12_clusterOf_95 (by decide) (fun q => ?_) (fun q => ?_)
      · have hf := xin q hf
        refine ww_sub [1, 2, 3, 4, 5, 0] rfl ?_
        exact s_X12_clusterOf_j107 C hf hk
      · have hf := xip q hf
        refine ww_iload_n (pc := 98) C 2 dX12_clusterOf_98 rfl ?_
        refine ww_iload (pc := 99) C 0 dX12_clusterOf_99 rfl ?_
        obtain ⟨v19, e18, hf⟩ := xbd hf
        refine ww_callSi (pc := 101) (as := [.int x2, .int v3]) (st := []) C (k_X12_has (l := gl G) (E := gE G) (hb := gB G) (σ := σ) e18) xc_X12_301 q1630 rfl (by decide) (xst4 (Nat.le_of_ble_eq_true rfl)) xsame.rf.le xsame.rf.lim dX12_clusterOf_101 ?_
        refine ww_if_eq (pc := 104) (tgt := 119) C dX12_clusterOf_104 (by decide) (fun q => ?_) (fun q => ?_)
        · have hf := xip q hf
          refine ww_iinc (pc := 119) (v := x4 + (1 : Int32)) (lv' := [(4, .int (x4 + (1 : Int32))), (6, .int v3), (0, .ref (gB G + r0)), (2, .int x2), (3, .int x3), (5, .int x5)]) C 4 dX12_clusterOf_119 rfl (congrArg (fun z => x4 + z) (show Int32.ofInt (1) = (1 : Int32) by decide)) (by decide) rfl ?_
          refine ww_goto (pc := 122) (tgt := 16) C dX12_clusterOf_122 (by decide) ?_
          have hf := xsj hf
          subst hf
          refine ww_sub [2, 3, 4, 0] rfl ?_
          exact hk.1 (x2, x4 + (1 : Int32)) rfl
        · have hf := xin q hf
          refine ww_sub [1, 2, 3, 4, 5, 0] rfl ?_
          exact s_X12_clusterOf_j107 C hf hk
    · have hf := xin q hf
      refine ww_goto (pc := 86) (tgt := 119) C dX12_clusterOf_86 (by decide) ?_
      refine ww_iinc (pc := 119) (v := x4 + (1 : Int32)) (lv' := [(4, .int (x4 + (1 : Int32))), (6, .int v3), (0, .ref (gB G + r0)), (2, .int x2), (3, .int x3), (5, .int x5)]) C 4 dX12_clusterOf_119 rfl (congrArg (fun z => x4 + z) (show Int32.ofInt (1) = (1 : Int32) by decide)) (by decide) rfl ?_
      refine ww_goto (pc := 122) (tgt := 16) C dX12_clusterOf_122 (by decide) ?_
      have hf := xsj hf
      subst hf
      refine ww_sub [2, 3, 4, 0] rfl ?_
      exact hk.1 (x2, x4 + (1 : Int32)) rfl
theorem s_X12_clusterOf_l16 {G : XG} (C : XC G cX12_clusterOf RX12 (some .int) 7 2 48) {σ : XS} {r0 : Nat} {x3 : Int32} {a : Int32 × Int32} {x : ((Int32 × Int32) ⊕ (Int32))} (hf : xloop (f_X12_clusterOf_b16 σ r0 x3) a = some x) (hk : (∀ a' : Int32 × Int32, x = .inl a' → WW G 6 [(0, .ref (gB G + r0)), (2, .int a'.1), (3, .int a'.2)] [] σ) ∧ (∀ b1 : Int32, x = .inr b1 → XEnd G (some (.int b1)) σ)) : WW G 16 [(0, .ref (gB G + r0)), (2, .int a.1), (3, .int x3), (4, .int a.2)] [] σ := by
  refine xloop_ind (P := fun a => WW G 16 [(0, .ref (gB G + r0)), (2, .int a.1), (3, .int x3), (4, .int a.2)] [] σ) (fun a y hf hc he => ?_) hf
  obtain ⟨x2, x4⟩ := a
  have hk : (∀ a' : Int32 × Int32, y = .inl a' → WW G 16 [(0, .ref (gB G + r0)), (2, .int a'.1), (3, .int x3), (4, .int a'.2)] [] σ) ∧ (∀ b2 : ((Int32 × Int32) ⊕ (Int32)), y = .inr b2 → (∀ a' : Int32 × Int32, b2 = .inl a' → WW G 6 [(0, .ref (gB G + r0)), (2, .int a'.1), (3, .int a'.2)] [] σ) ∧ (∀ b1 : Int32, b2 = .inr b1 → XEnd G (some (.int b1)) σ)) := ⟨hc, fun b e => by have h9 := he b e; subst h9; exact hk⟩
  refine ww_iload (pc := 16) C 3 dX12_clusterOf_16 rfl ?_
  refine ww_iconst (pc := 18) (v := (2 : Int32)) C dX12_clusterOf_18 (by decide) ?_
  refine ww_aload_n (pc := 19) C 0 dX12_clusterOf_19 rfl ?_
  obtain ⟨_, e1, hf⟩ := xbd hf
  obtain ⟨v3, e2, hf⟩ := xbd hf
  refine ww_callVi (pc := 20) (as := []) (st := [.int (2 : Int32), .int x4]) C (k_X12_sites (l := gl G) (E := gE G) (hb := gB G) (σ := σ) e2) rfl (by decide) xc_X12_193 q1496 qp136 (xck_spec e1) rfl (by decide) (xst4 (Nat.le_of_ble_eq_true rfl)) xsame.rf.le xsame.rf.lim dX12_clusterOf_20 ?_
  refine ww_imul (pc := 23) C dX12_clusterOf_23 ?_
  refine ww_icmp_ge (pc := 24) (tgt := 125) C dX12_clusterOf_24 (by decide) (fun q => ?_) (fun q => ?_)
  · have hf := xip q hf
    obtain ⟨b0, hg, e9⟩ := xmj hf
    subst e9
    have hf := hg
    have hk := hk.2 _ rfl
    refine ww_goto (pc := 125) (tgt := 6) C dX12_clusterOf_125 (by decide) ?_
    have hf := xsj hf
    subst hf
    refine ww_sub [0, 1, 2] rfl ?_
    exact hk.1 (x2, x3) rfl
  · have hf := xin q hf
    refine ww_iload (pc := 27) C 3 dX12_clusterOf_27 rfl ?_
    refine ww_iconst (pc := 29) (v := (2 : Int32)) C dX12_clusterOf_29 (by decide) ?_
    refine ww_idiv (pc := 30) C dX12_clusterOf_30 (by decide) ?_
    refine ww_istore (pc := 31) (lv' := [(5, .int (x4 / (2 : Int32))), (0, .ref (gB G + r0)), (2, .int x2), (3, .int x3), (4, .int x4)]) C dX12_clusterOf_31 (by decide) rfl ?_
    refine ww_aload_n (pc := 33) C 1 dX12_clusterOf_33 rfl ?_
    refine ww_iload (pc := 34) C 0 dX12_clusterOf_34 rfl ?_
    refine ww_iload (pc := 36) C 4 dX12_clusterOf_36 rfl ?_
    refine ww_iconst (pc := 38) (v := (2 : Int32)) C dX12_clusterOf_38 (by decide) ?_
    refine ww_irem (pc := 39) C dX12_clusterOf_39 (by decide) ?_
    refine ww_iconst (pc := 40) (v := (1 : Int32)) C dX12_clusterOf_40 (by decide) ?_
    refine ww_icmp_ne (pc := 41) (tgt := 48) C dX12_clusterOf_41 (by decide) (fun q => ?_) (fun q => ?_)
    · have hf := xin q hf
      refine ww_iconst (pc := 48) (v := (0 : Int32)) C dX12_clusterOf_48 (by decide) ?_
      refine ww_sub [1, 2, 3, 4, 0] rfl ?_
      exact s_X12_clusterOf_j49 C hf hk
    · have hf := xip q hf
      refine ww_iconst (pc := 44) (v := (1 : Int32)) C dX12_clusterOf_44 (by decide) ?_
      refine ww_goto (pc := 45) (tgt := 49) C dX12_clusterOf_45 (by decide) ?_
      refine ww_sub [1, 2, 3, 4, 0] rfl ?_
      exact s_X12_clusterOf_j49 C hf hk
theorem s_X12_clusterOf_l6 {G : XG} (C : XC G cX12_clusterOf RX12 (some .int) 7 2 48) {σ : XS} {r0 : Nat} {a : Int32 × Int32} {x : Int32} (hf : xloop (f_X12_clusterOf_b6 σ r0) a = some x) (hk : XEnd G (some (.int x)) σ) : WW G 6 [(0, .ref (gB G + r0)), (2, .int a.1), (3, .int a.2)] [] σ := by
  refine xloop_ind (P := fun a => WW G 6 [(0, .ref (gB G + r0)), (2, .int a.1), (3, .int a.2)] [] σ) (fun a y hf hc he => ?_) hf
  obtain ⟨x2, x3⟩ := a
  have hk : (∀ a' : Int32 × Int32, y = .inl a' → WW G 6 [(0, .ref (gB G + r0)), (2, .int a'.1), (3, .int a'.2)] [] σ) ∧ (∀ b1 : Int32, y = .inr b1 → XEnd G (some (.int b1)) σ) := ⟨hc, fun b e => by have h9 := he b e; subst h9; exact hk⟩
  refine ww_iload_n (pc := 6) C 1 dX12_clusterOf_6 rfl ?_
  refine ww_iload_n (pc := 7) C 2 dX12_clusterOf_7 rfl ?_
  refine ww_icmp_eq (pc := 8) (tgt := 128) C dX12_clusterOf_8 (by decide) (fun q => ?_) (fun q => ?_)
  · have hf := xip q hf
    obtain ⟨b0, hg, e9⟩ := xmj hf
    subst e9
    have hf := hg
    have hk := hk.2 _ rfl
    refine ww_iload_n (pc := 128) C 1 dX12_clusterOf_128 rfl ?_
    have hf := xsj hf
    subst hf
    exact ww_iret (pc := 129) C hk dX12_clusterOf_129
  · have hf := xin q hf
    refine ww_iload_n (pc := 11) C 1 dX12_clusterOf_11 rfl ?_
    refine ww_istore_n (pc := 12) (lv' := [(3, .int x2), (0, .ref (gB G + r0)), (2, .int x2)]) C dX12_clusterOf_12 (by decide) rfl ?_
    refine ww_iconst (pc := 13) (v := (0 : Int32)) C dX12_clusterOf_13 (by decide) ?_
    refine ww_istore (pc := 14) (lv' := [(4, .int (0 : Int32)), (3, .int x2), (0, .ref (gB G + r0)), (2, .int x2)]) C dX12_clusterOf_14 (by decide) rfl ?_
    refine ww_sub [2, 3, 1, 0] rfl ?_
    exact s_X12_clusterOf_l16 C (a := (x2, (0 : Int32))) hf hk
theorem s_X12_clusterOf_e {G : XG} (C : XC G cX12_clusterOf RX12 (some .int) 7 2 48) {σ : XS} {r0 : Nat} {x1 : Int32} {x : Int32} (hf : f_X12_clusterOf σ r0 x1 = some x) (hk : XEnd G (some (.int x)) σ) : WW G 0 [(0, .ref (gB G + r0)), (1, .int x1)] [] σ := by
  refine ww_iconst (pc := 0) (v := (1 : Int32)) C dX12_clusterOf_0 (by decide) ?_
  refine ww_iload_n (pc := 1) C 1 dX12_clusterOf_1 rfl ?_
  refine ww_ishl (pc := 2) C dX12_clusterOf_2 ?_
  refine ww_istore_n (pc := 3) (lv' := [(2, .int ((1 : Int32) <<< (x1 &&& 31))), (0, .ref (gB G + r0)), (1, .int x1)]) C dX12_clusterOf_3 (by decide) rfl ?_
  refine ww_iconst (pc := 4) (v := (0 : Int32)) C dX12_clusterOf_4 (by decide) ?_
  refine ww_istore_n (pc := 5) (lv' := [(3, .int (0 : Int32)), (2, .int ((1 : Int32) <<< (x1 &&& 31))), (0, .ref (gB G + r0)), (1, .int x1)]) C dX12_clusterOf_5 (by decide) rfl ?_
  refine ww_sub [2, 1, 0] rfl ?_
  exact s_X12_clusterOf_l6 C (a := ((1 : Int32) <<< (x1 &&& 31), (0 : Int32))) hf hk
theorem k_X12_clusterOf {l : Launch} {E : XD} {hb : Nat} {σ : XS} {r0 : Nat} {x1 : Int32} {x : Int32} (h : f_X12_clusterOf σ r0 x1 = some x) : XM l yX12_clusterOf cX12_clusterOf 7 (some .int) 2 48 E hb [.ref (hb + r0), .int x1] σ (some (.int x)) σ := by
  refine xm_of (by decide) (Nat.le_of_ble_eq_true rfl) ⟨Nat.le_refl _, Nat.le_refl _⟩ (fun G hG C hl hQ => ?_)
  obtain ⟨rfl, rfl, rfl, hN⟩ := hG
  exact s_X12_clusterOf_e C h hQ
noncomputable def f_X12_cluster (σ : XS) (r0 : Nat) (x1 : Int32) : Option Int32 := (xck σ r0 12).bind fun _ => (f_X12_isSite σ r0 x1).bind fun v3 => if v3 = 0 then (some (-1 : Int32)) else (xck σ r0 12).bind fun _ => (f_X12_clusterOf σ r0 x1).bind fun v6 => some v6
theorem s_X12_cluster_e {G : XG} (C : XC G cX12_cluster RX12 (some .int) 2 3 74) {σ : XS} {r0 : Nat} {x1 : Int32} {x : Int32} (hf : f_X12_cluster σ r0 x1 = some x) (hk : XEnd G (some (.int x)) σ) : WW G 0 [(0, .ref (gB G + r0)), (1, .int x1)] [] σ := by
  refine ww_aload_n (pc := 0) C 0 dX12_cluster_0 rfl ?_
  refine ww_iload_n (pc := 1) C 1 dX12_cluster_1 rfl ?_
  obtain ⟨_, e1, hf⟩ := xbd hf
  obtain ⟨v3, e2, hf⟩ := xbd hf
  refine ww_callVi (pc := 2) (as := [.int x1]) (st := []) C (k_X12_isSite (l := gl G) (E := gE G) (hb := gB G) (σ := σ) e2) rfl (by decide) xc_X12_233 q1508 qp137 (xck_spec e1) rfl (by decide) (xst4 (Nat.le_of_ble_eq_true rfl)) xsame.rf.le xsame.rf.lim dX12_cluster_2 ?_
  refine ww_if_eq (pc := 5) (tgt := 16) C dX12_cluster_5 (by decide) (fun q => ?_) (fun q => ?_)
  · have hf := xip q hf
    refine ww_iconst (pc := 16) (v := (-1 : Int32)) C dX12_cluster_16 (by decide) ?_
    have hf := xsj hf
    subst hf
    exact ww_iret (pc := 17) C hk dX12_cluster_17
  · have hf := xin q hf
    refine ww_aload_n (pc := 8) C 0 dX12_cluster_8 rfl ?_
    refine ww_iload_n (pc := 9) C 1 dX12_cluster_9 rfl ?_
    obtain ⟨_, e4, hf⟩ := xbd hf
    obtain ⟨v6, e5, hf⟩ := xbd hf
    refine ww_callVi (pc := 10) (as := [.int x1]) (st := []) C (k_X12_clusterOf (l := gl G) (E := gE G) (hb := gB G) (σ := σ) e5) rfl (by decide) xc_X12_333 q1728 qp155 (xck_spec e4) rfl (by decide) (xst4 (Nat.le_of_ble_eq_true rfl)) xsame.rf.le xsame.rf.lim dX12_cluster_10 ?_
    refine ww_goto (pc := 13) (tgt := 17) C dX12_cluster_13 (by decide) ?_
    have hf := xsj hf
    subst hf
    exact ww_iret (pc := 17) C hk dX12_cluster_17
theorem k_X12_cluster {l : Launch} {E : XD} {hb : Nat} {σ : XS} {r0 : Nat} {x1 : Int32} {x : Int32} (h : f_X12_cluster σ r0 x1 = some x) : XM l yX12_cluster cX12_cluster 2 (some .int) 3 74 E hb [.ref (hb + r0), .int x1] σ (some (.int x)) σ := by
  refine xm_of (by decide) (Nat.le_of_ble_eq_true rfl) ⟨Nat.le_refl _, Nat.le_refl _⟩ (fun G hG C hl hQ => ?_)
  obtain ⟨rfl, rfl, rfl, hN⟩ := hG
  exact s_X12_cluster_e C h hQ
noncomputable def f_X12_clusters_b4 (σ : XS) (r0 : Nat) : Int32 × Int32 → Option ((Int32 × Int32) ⊕ (Int32)) := fun a => match a with
  | (x1, x2) => (xck σ r0 12).bind fun _ => (f_X12_sites σ r0).bind fun v3 => if v3 ≤ x2 then ((some x1).map .inr) else (xck σ r0 12).bind fun _ => (f_X12_clusterOf σ r0 x2).bind fun v6 => if (v6 &&& (((1 : Int32) <<< (x2 &&& 31)) - (1 : Int32))) = 0 then (some (.inl (x1 + (1 : Int32), x2 + (1 : Int32)))) else some (.inl (x1, x2 + (1 : Int32)))
noncomputable def f_X12_clusters (σ : XS) (r0 : Nat) : Option Int32 := xloop (f_X12_clusters_b4 σ r0) ((0 : Int32), (0 : Int32))
theorem s_X12_clusters_l4 {G : XG} (C : XC G cX12_clusters RX12 (some .int) 3 3 74) {σ : XS} {r0 : Nat} {a : Int32 × Int32} {x : Int32} (hf : xloop (f_X12_clusters_b4 σ r0) a = some x) (hk : XEnd G (some (.int x)) σ) : WW G 4 [(0, .ref (gB G + r0)), (1, .int a.1), (2, .int a.2)] [] σ := by
  refine xloop_ind (P := fun a => WW G 4 [(0, .ref (gB G + r0)), (1, .int a.1), (2, .int a.2)] [] σ) (fun a y hf hc he => ?_) hf
  obtain ⟨x1, x2⟩ := a
  have hk : (∀ a' : Int32 × Int32, y = .inl a' → WW G 4 [(0, .ref (gB G + r0)), (1, .int a'.1), (2, .int a'.2)] [] σ) ∧ (∀ b1 : Int32, y = .inr b1 → XEnd G (some (.int b1)) σ) := ⟨hc, fun b e => by have h9 := he b e; subst h9; exact hk⟩
  refine ww_iload_n (pc := 4) C 2 dX12_clusters_4 rfl ?_
  refine ww_aload_n (pc := 5) C 0 dX12_clusters_5 rfl ?_
  obtain ⟨_, e1, hf⟩ := xbd hf
  obtain ⟨v3, e2, hf⟩ := xbd hf
  refine ww_callVi (pc := 6) (as := []) (st := [.int x2]) C (k_X12_sites (l := gl G) (E := gE G) (hb := gB G) (σ := σ) e2) rfl (by decide) xc_X12_193 q1496 qp136 (xck_spec e1) rfl (by decide) (xst4 (Nat.le_of_ble_eq_true rfl)) xsame.rf.le xsame.rf.lim dX12_clusters_6 ?_
  refine ww_icmp_ge (pc := 9) (tgt := 35) C dX12_clusters_9 (by decide) (fun q => ?_) (fun q => ?_)
  · have hf := xip q hf
    obtain ⟨b0, hg, e9⟩ := xmj hf
    subst e9
    have hf := hg
    have hk := hk.2 _ rfl
    refine ww_iload_n (pc := 35) C 1 dX12_clusters_35 rfl ?_
    have hf := xsj hf
    subst hf
    exact ww_iret (pc := 36) C hk dX12_clusters_36
  · have hf := xin q hf
    refine ww_aload_n (pc := 12) C 0 dX12_clusters_12 rfl ?_
    refine ww_iload_n (pc := 13) C 2 dX12_clusters_13 rfl ?_
    obtain ⟨_, e4, hf⟩ := xbd hf
    obtain ⟨v6, e5, hf⟩ := xbd hf
    refine ww_callVi (pc := 14) (as := [.int x2]) (st := []) C (k_X12_clusterOf (l := gl G) (E := gE G) (hb := gB G) (σ := σ) e5) rfl (by decide) xc_X12_333 q1728 qp155 (xck_spec e4) rfl (by decide) (xst4 (Nat.le_of_ble_eq_true rfl)) xsame.rf.le xsame.rf.lim dX12_clusters_14 ?_
    refine ww_iconst (pc := 17) (v := (1 : Int32)) C dX12_clusters_17 (by decide) ?_
    refine ww_iload_n (pc := 18) C 2 dX12_clusters_18 rfl ?_
    refine ww_ishl (pc := 19) C dX12_clusters_19 ?_
    refine ww_iconst (pc := 20) (v := (1 : Int32)) C dX12_clusters_20 (by decide) ?_
    refine ww_isub (pc := 21) C dX12_clusters_21 ?_
    refine ww_iand (pc := 22) C dX12_clusters_22 ?_
    refine ww_if_ne (pc := 23) (tgt := 29) C dX12_clusters_23 (by decide) (fun q => ?_) (fun q => ?_)
    · have hf := xin q hf
      refine ww_iinc (pc := 29) (v := x2 + (1 : Int32)) (lv' := [(2, .int (x2 + (1 : Int32))), (0, .ref (gB G + r0)), (1, .int x1)]) C 2 dX12_clusters_29 rfl (congrArg (fun z => x2 + z) (show Int32.ofInt (1) = (1 : Int32) by decide)) (by decide) rfl ?_
      refine ww_goto (pc := 32) (tgt := 4) C dX12_clusters_32 (by decide) ?_
      have hf := xsj hf
      subst hf
      refine ww_sub [1, 2, 0] rfl ?_
      exact hk.1 (x1, x2 + (1 : Int32)) rfl
    · have hf := xip q hf
      refine ww_iinc (pc := 26) (v := x1 + (1 : Int32)) (lv' := [(1, .int (x1 + (1 : Int32))), (0, .ref (gB G + r0)), (2, .int x2)]) C 1 dX12_clusters_26 rfl (congrArg (fun z => x1 + z) (show Int32.ofInt (1) = (1 : Int32) by decide)) (by decide) rfl ?_
      refine ww_iinc (pc := 29) (v := x2 + (1 : Int32)) (lv' := [(2, .int (x2 + (1 : Int32))), (1, .int (x1 + (1 : Int32))), (0, .ref (gB G + r0))]) C 2 dX12_clusters_29 rfl (congrArg (fun z => x2 + z) (show Int32.ofInt (1) = (1 : Int32) by decide)) (by decide) rfl ?_
      refine ww_goto (pc := 32) (tgt := 4) C dX12_clusters_32 (by decide) ?_
      have hf := xsj hf
      subst hf
      refine ww_sub [2, 1, 0] rfl ?_
      exact hk.1 (x1 + (1 : Int32), x2 + (1 : Int32)) rfl
theorem s_X12_clusters_e {G : XG} (C : XC G cX12_clusters RX12 (some .int) 3 3 74) {σ : XS} {r0 : Nat} {x : Int32} (hf : f_X12_clusters σ r0 = some x) (hk : XEnd G (some (.int x)) σ) : WW G 0 [(0, .ref (gB G + r0))] [] σ := by
  refine ww_iconst (pc := 0) (v := (0 : Int32)) C dX12_clusters_0 (by decide) ?_
  refine ww_istore_n (pc := 1) (lv' := [(1, .int (0 : Int32)), (0, .ref (gB G + r0))]) C dX12_clusters_1 (by decide) rfl ?_
  refine ww_iconst (pc := 2) (v := (0 : Int32)) C dX12_clusters_2 (by decide) ?_
  refine ww_istore_n (pc := 3) (lv' := [(2, .int (0 : Int32)), (1, .int (0 : Int32)), (0, .ref (gB G + r0))]) C dX12_clusters_3 (by decide) rfl ?_
  refine ww_sub [2, 1, 0] rfl ?_
  exact s_X12_clusters_l4 C (a := ((0 : Int32), (0 : Int32))) hf hk
theorem k_X12_clusters {l : Launch} {E : XD} {hb : Nat} {σ : XS} {r0 : Nat} {x : Int32} (h : f_X12_clusters σ r0 = some x) : XM l yX12_clusters cX12_clusters 3 (some .int) 3 74 E hb [.ref (hb + r0)] σ (some (.int x)) σ := by
  refine xm_of (by decide) (Nat.le_of_ble_eq_true rfl) ⟨Nat.le_refl _, Nat.le_refl _⟩ (fun G hG C hl hQ => ?_)
  obtain ⟨rfl, rfl, rfl, hN⟩ := hG
  exact s_X12_clusters_e C h hQ
noncomputable def f_X12_costOf (σ : XS) (r0 : Nat) (x1 : Int32) (x2 : Int32) : Option Int32 := (xgR σ r0 12 21).bind fun z2 => (xgI σ r0 12 18).bind fun v4 => (xck σ r0 12).bind fun _ => (f_X12_energy σ r0 z2 (x1 ^^^ ((1 : Int32) <<< (x2 &&& 31))) v4).bind fun v7 => (xgR σ r0 12 21).bind fun z9 => (xgI σ r0 12 18).bind fun v11 => (xck σ r0 12).bind fun _ => (f_X12_energy σ r0 z9 x1 v11).bind fun v14 => some (v7 - v14)
theorem s_X12_costOf_e {G : XG} (C : XC G cX12_costOf RX12 (some .int) 3 3 75) {σ : XS} {r0 : Nat} {x1 : Int32} {x2 : Int32} {x : Int32} (hf : f_X12_costOf σ r0 x1 x2 = some x) (hk : XEnd G (some (.int x)) σ) : WW G 0 [(0, .ref (gB G + r0)), (1, .int x1), (2, .int x2)] [] σ := by
  refine ww_aload_n (pc := 0) C 0 dX12_costOf_0 rfl ?_
  refine ww_aload_n (pc := 1) C 0 dX12_costOf_1 rfl ?_
  obtain ⟨z2, e1, hf⟩ := xbd hf
  refine gf_X12_40 (pc := 2) C e1 dX12_costOf_2 ?_
  refine ww_iload_n (pc := 5) C 1 dX12_costOf_5 rfl ?_
  refine ww_iconst (pc := 6) (v := (1 : Int32)) C dX12_costOf_6 (by decide) ?_
  refine ww_iload_n (pc := 7) C 2 dX12_costOf_7 rfl ?_
  refine ww_ishl (pc := 8) C dX12_costOf_8 ?_
  refine ww_ixor (pc := 9) C dX12_costOf_9 ?_
  refine ww_aload_n (pc := 10) C 0 dX12_costOf_10 rfl ?_
  obtain ⟨v4, e3, hf⟩ := xbd hf
  refine gf_X12_177 (pc := 11) C e3 dX12_costOf_11 ?_
  obtain ⟨_, e5, hf⟩ := xbd hf
  obtain ⟨v7, e6, hf⟩ := xbd hf
  refine ww_callVi (pc := 14) (as := [.ref (gB G + z2), .int (x1 ^^^ ((1 : Int32) <<< (x2 &&& 31))), .int v4]) (st := []) C (k_X12_energy (l := gl G) (E := gE G) (hb := gB G) (σ := σ) e6) rfl (by decide) xc_X12_277 q1566 qp143 (xck_spec e5) rfl (by decide) (xst4 (Nat.le_of_ble_eq_true rfl)) xsame.rf.le xsame.rf.lim dX12_costOf_14 ?_
  refine ww_aload_n (pc := 17) C 0 dX12_costOf_17 rfl ?_
  refine ww_aload_n (pc := 18) C 0 dX12_costOf_18 rfl ?_
  obtain ⟨z9, e8, hf⟩ := xbd hf
  refine gf_X12_40 (pc := 19) C e8 dX12_costOf_19 ?_
  refine ww_iload_n (pc := 22) C 1 dX12_costOf_22 rfl ?_
  refine ww_aload_n (pc := 23) C 0 dX12_costOf_23 rfl ?_
  obtain ⟨v11, e10, hf⟩ := xbd hf
  refine gf_X12_177 (pc := 24) C e10 dX12_costOf_24 ?_
  obtain ⟨_, e12, hf⟩ := xbd hf
  obtain ⟨v14, e13, hf⟩ := xbd hf
  refine ww_callVi (pc := 27) (as := [.ref (gB G + z9), .int x1, .int v11]) (st := [.int v7]) C (k_X12_energy (l := gl G) (E := gE G) (hb := gB G) (σ := σ) e13) rfl (by decide) xc_X12_277 q1566 qp143 (xck_spec e12) rfl (by decide) (xst4 (Nat.le_of_ble_eq_true rfl)) xsame.rf.le xsame.rf.lim dX12_costOf_27 ?_
  refine ww_isub (pc := 30) C dX12_costOf_30 ?_
  have hf := xsj hf
  subst hf
  exact ww_iret (pc := 31) C hk dX12_costOf_31
theorem k_X12_costOf {l : Launch} {E : XD} {hb : Nat} {σ : XS} {r0 : Nat} {x1 : Int32} {x2 : Int32} {x : Int32} (h : f_X12_costOf σ r0 x1 x2 = some x) : XM l yX12_costOf cX12_costOf 3 (some .int) 3 75 E hb [.ref (hb + r0), .int x1, .int x2] σ (some (.int x)) σ := by
  refine xm_of (by decide) (Nat.le_of_ble_eq_true rfl) ⟨Nat.le_refl _, Nat.le_refl _⟩ (fun G hG C hl hQ => ?_)
  obtain ⟨rfl, rfl, rfl, hN⟩ := hG
  exact s_X12_costOf_e C h hQ
noncomputable def f_X12_lawfulMany_b4 (σ : XS) (r0 : Nat) : Int32 × Int32 → Option ((Int32 × Int32) ⊕ (Int32)) := fun a => match a with
  | (x1, x2) => (xck σ r0 12).bind fun _ => (f_X12_states σ r0).bind fun v3 => if v3 ≤ x2 then ((some x1).map .inr) else (xck σ r0 12).bind fun _ => (f_X12_isLawful σ r0 x2).bind fun v6 => if v6 = 0 then (some (.inl (x1, x2 + (1 : Int32)))) else some (.inl (x1 + (1 : Int32), x2 + (1 : Int32)))
noncomputable def f_X12_lawfulMany (σ : XS) (r0 : Nat) : Option Int32 := xloop (f_X12_lawfulMany_b4 σ r0) ((0 : Int32), (0 : Int32))
theorem s_X12_lawfulMany_l4 {G : XG} (C : XC G cX12_lawfulMany RX12 (some .int) 3 3 61) {σ : XS} {r0 : Nat} {a : Int32 × Int32} {x : Int32} (hf : xloop (f_X12_lawfulMany_b4 σ r0) a = some x) (hk : XEnd G (some (.int x)) σ) : WW G 4 [(0, .ref (gB G + r0)), (1, .int a.1), (2, .int a.2)] [] σ := by
  refine xloop_ind (P := fun a => WW G 4 [(0, .ref (gB G + r0)), (1, .int a.1), (2, .int a.2)] [] σ) (fun a y hf hc he => ?_) hf
  obtain ⟨x1, x2⟩ := a
  have hk : (∀ a' : Int32 × Int32, y = .inl a' → WW G 4 [(0, .ref (gB G + r0)), (1, .int a'.1), (2, .int a'.2)] [] σ) ∧ (∀ b1 : Int32, y = .inr b1 → XEnd G (some (.int b1)) σ) := ⟨hc, fun b e => by have h9 := he b e; subst h9; exact hk⟩
  refine ww_iload_n (pc := 4) C 2 dX12_lawfulMany_4 rfl ?_
  refine ww_aload_n (pc := 5) C 0 dX12_lawfulMany_5 rfl ?_
  obtain ⟨_, e1, hf⟩ := xbd hf
  obtain ⟨v3, e2, hf⟩ := xbd hf
  refine ww_callVi (pc := 6) (as := []) (st := [.int x2]) C (k_X12_states (l := gl G) (E := gE G) (hb := gB G) (σ := σ) e2) rfl (by decide) xc_X12_270 q1555 qp141 (xck_spec e1) rfl (by decide) (xst4 (Nat.le_of_ble_eq_true rfl)) xsame.rf.le xsame.rf.lim dX12_lawfulMany_6 ?_
  refine ww_icmp_ge (pc := 9) (tgt := 29) C dX12_lawfulMany_9 (by decide) (fun q => ?_) (fun q => ?_)
  · have hf := xip q hf
    obtain ⟨b0, hg, e9⟩ := xmj hf
    subst e9
    have hf := hg
    have hk := hk.2 _ rfl
    refine ww_iload_n (pc := 29) C 1 dX12_lawfulMany_29 rfl ?_
    have hf := xsj hf
    subst hf
    exact ww_iret (pc := 30) C hk dX12_lawfulMany_30
  · have hf := xin q hf
    refine ww_aload_n (pc := 12) C 0 dX12_lawfulMany_12 rfl ?_
    refine ww_iload_n (pc := 13) C 2 dX12_lawfulMany_13 rfl ?_
    obtain ⟨_, e4, hf⟩ := xbd hf
    obtain ⟨v6, e5, hf⟩ := xbd hf
    refine ww_callVi (pc := 14) (as := [.int x2]) (st := []) C (k_X12_isLawful (l := gl G) (E := gE G) (hb := gB G) (σ := σ) e5) rfl (by decide) xc_X12_281 q1559 qp142 (xck_spec e4) rfl (by decide) (xst4 (Nat.le_of_ble_eq_true rfl)) xsame.rf.le xsame.rf.lim dX12_lawfulMany_14 ?_
    refine ww_if_eq (pc := 17) (tgt := 23) C dX12_lawfulMany_17 (by decide) (fun q => ?_) (fun q => ?_)
    · have hf := xip q hf
      refine ww_iinc (pc := 23) (v := x2 + (1 : Int32)) (lv' := [(2, .int (x2 + (1 : Int32))), (0, .ref (gB G + r0)), (1, .int x1)]) C 2 dX12_lawfulMany_23 rfl (congrArg (fun z => x2 + z) (show Int32.ofInt (1) = (1 : Int32) by decide)) (by decide) rfl ?_
      refine ww_goto (pc := 26) (tgt := 4) C dX12_lawfulMany_26 (by decide) ?_
      have hf := xsj hf
      subst hf
      refine ww_sub [1, 2, 0] rfl ?_
      exact hk.1 (x1, x2 + (1 : Int32)) rfl
    · have hf := xin q hf
      refine ww_iinc (pc := 20) (v := x1 + (1 : Int32)) (lv' := [(1, .int (x1 + (1 : Int32))), (0, .ref (gB G + r0)), (2, .int x2)]) C 1 dX12_lawfulMany_20 rfl (congrArg (fun z => x1 + z) (show Int32.ofInt (1) = (1 : Int32) by decide)) (by decide) rfl ?_
      refine ww_iinc (pc := 23) (v := x2 + (1 : Int32)) (lv' := [(2, .int (x2 + (1 : Int32))), (1, .int (x1 + (1 : Int32))), (0, .ref (gB G + r0))]) C 2 dX12_lawfulMany_23 rfl (congrArg (fun z => x2 + z) (show Int32.ofInt (1) = (1 : Int32) by decide)) (by decide) rfl ?_
      refine ww_goto (pc := 26) (tgt := 4) C dX12_lawfulMany_26 (by decide) ?_
      have hf := xsj hf
      subst hf
      refine ww_sub [2, 1, 0] rfl ?_
      exact hk.1 (x1 + (1 : Int32), x2 + (1 : Int32)) rfl
theorem s_X12_lawfulMany_e {G : XG} (C : XC G cX12_lawfulMany RX12 (some .int) 3 3 61) {σ : XS} {r0 : Nat} {x : Int32} (hf : f_X12_lawfulMany σ r0 = some x) (hk : XEnd G (some (.int x)) σ) : WW G 0 [(0, .ref (gB G + r0))] [] σ := by
  refine ww_iconst (pc := 0) (v := (0 : Int32)) C dX12_lawfulMany_0 (by decide) ?_
  refine ww_istore_n (pc := 1) (lv' := [(1, .int (0 : Int32)), (0, .ref (gB G + r0))]) C dX12_lawfulMany_1 (by decide) rfl ?_
  refine ww_iconst (pc := 2) (v := (0 : Int32)) C dX12_lawfulMany_2 (by decide) ?_
  refine ww_istore_n (pc := 3) (lv' := [(2, .int (0 : Int32)), (1, .int (0 : Int32)), (0, .ref (gB G + r0))]) C dX12_lawfulMany_3 (by decide) rfl ?_
  refine ww_sub [2, 1, 0] rfl ?_
  exact s_X12_lawfulMany_l4 C (a := ((0 : Int32), (0 : Int32))) hf hk
theorem k_X12_lawfulMany {l : Launch} {E : XD} {hb : Nat} {σ : XS} {r0 : Nat} {x : Int32} (h : f_X12_lawfulMany σ r0 = some x) : XM l yX12_lawfulMany cX12_lawfulMany 3 (some .int) 3 61 E hb [.ref (hb + r0)] σ (some (.int x)) σ := by
  refine xm_of (by decide) (Nat.le_of_ble_eq_true rfl) ⟨Nat.le_refl _, Nat.le_refl _⟩ (fun G hG C hl hQ => ?_)
  obtain ⟨rfl, rfl, rfl, hN⟩ := hG
  exact s_X12_lawfulMany_e C h hQ
noncomputable def f_X12_pinned_b4 (σ : XS) (r0 : Nat) : Int32 × Int32 → Option ((Int32 × Int32) ⊕ (Int32)) := fun a => match a with
  | (x1, x2) => (xck σ r0 12).bind fun _ => (f_X12_sites σ r0).bind fun v3 => if v3 ≤ x2 then ((some x1).map .inr) else (xgR σ r0 12 21).bind fun z5 => (xaI σ 20 z5 ((48 : Int32) + x2)).bind fun v7 => if v7 ≤ 0 then (some (.inl (x1, x2 + (1 : Int32)))) else some (.inl (x1 ||| ((1 : Int32) <<< (x2 &&& 31)), x2 + (1 : Int32)))
noncomputable def f_X12_pinned (σ : XS) (r0 : Nat) : Option Int32 := xloop (f_X12_pinned_b4 σ r0) ((0 : Int32), (0 : Int32))
theorem s_X12_pinned_l4 {G : XG} (C : XC G cX12_pinned RX12 (some .int) 3 1 20) {σ : XS} {r0 : Nat} {a : Int32 × Int32} {x : Int32} (hf : xloop (f_X12_pinned_b4 σ r0) a = some x) (hk : XEnd G (some (.int x)) σ) : WW G 4 [(0, .ref (gB G + r0)), (1, .int a.1), (2, .int a.2)] [] σ := by
  refine xloop_ind (P := fun a => WW G 4 [(0, .ref (gB G + r0)), (1, .int a.1), (2, .int a.2)] [] σ) (fun a y hf hc he => ?_) hf
  obtain ⟨x1, x2⟩ := a
  have hk : (∀ a' : Int32 × Int32, y = .inl a' → WW G 4 [(0, .ref (gB G + r0)), (1, .int a'.1), (2, .int a'.2)] [] σ) ∧ (∀ b1 : Int32, y = .inr b1 → XEnd G (some (.int b1)) σ) := ⟨hc, fun b e => by have h9 := he b e; subst h9; exact hk⟩
  refine ww_iload_n (pc := 4) C 2 dX12_pinned_4 rfl ?_
  refine ww_aload_n (pc := 5) C 0 dX12_pinned_5 rfl ?_
  obtain ⟨_, e1, hf⟩ := xbd hf
  obtain ⟨v3, e2, hf⟩ := xbd hf
  refine ww_callVi (pc := 6) (as := []) (st := [.int x2]) C (k_X12_sites (l := gl G) (E := gE G) (hb := gB G) (σ := σ) e2) rfl (by decide) xc_X12_193 q1496 qp136 (xck_spec e1) rfl (by decide) (xst4 (Nat.le_of_ble_eq_true rfl)) xsame.rf.le xsame.rf.lim dX12_pinned_6 ?_
  refine ww_icmp_ge (pc := 9) (tgt := 36) C dX12_pinned_9 (by decide) (fun q => ?_) (fun q => ?_)
  · have hf := xip q hf
    obtain ⟨b0, hg, e9⟩ := xmj hf
    subst e9
    have hf := hg
    have hk := hk.2 _ rfl
    refine ww_iload_n (pc := 36) C 1 dX12_pinned_36 rfl ?_
    have hf := xsj hf
    subst hf
    exact ww_iret (pc := 37) C hk dX12_pinned_37
  · have hf := xin q hf
    refine ww_aload_n (pc := 12) C 0 dX12_pinned_12 rfl ?_
    obtain ⟨z5, e4, hf⟩ := xbd hf
    refine gf_X12_40 (pc := 13) C e4 dX12_pinned_13 ?_
    refine ww_bipush (pc := 16) (v := (48 : Int32)) C dX12_pinned_16 (by decide) ?_
    refine ww_iload_n (pc := 18) C 2 dX12_pinned_18 rfl ?_
    refine ww_iadd (pc := 19) C dX12_pinned_19 ?_
    obtain ⟨v7, e6, hf⟩ := xbd hf
    refine ww_iald (pc := 20) C e6 dX12_pinned_20 ?_
    refine ww_if_le (pc := 21) (tgt := 30) C dX12_pinned_21 (by decide) (fun q => ?_) (fun q => ?_)
    · have hf := xip q hf
      refine ww_iinc (pc := 30) (v := x2 + (1 : Int32)) (lv' := [(2, .int (x2 + (1 : Int32))), (0, .ref (gB G + r0)), (1, .int x1)]) C 2 dX12_pinned_30 rfl (congrArg (fun z => x2 + z) (show Int32.ofInt (1) = (1 : Int32) by decide)) (by decide) rfl ?_
      refine ww_goto (pc := 33) (tgt := 4) C dX12_pinned_33 (by decide) ?_
      have hf := xsj hf
      subst hf
      refine ww_sub [1, 2, 0] rfl ?_
      exact hk.1 (x1, x2 + (1 : Int32)) rfl
    · have hf := xin q hf
      refine ww_iload_n (pc := 24) C 1 dX12_pinned_24 rfl ?_
      refine ww_iconst (pc := 25) (v := (1 : Int32)) C dX12_pinned_25 (by decide) ?_
      refine ww_iload_n (pc := 26) C 2 dX12_pinned_26 rfl ?_
      refine ww_ishl (pc := 27) C dX12_pinned_27 ?_
      refine ww_ior (pc := 28) C dX12_pinned_28 ?_
      refine ww_istore_n (pc := 29) (lv' := [(1, .int (x1 ||| ((1 : Int32) <<< (x2 &&& 31)))), (0, .ref (gB G + r0)), (2, .int x2)]) C dX12_pinned_29 (by decide) rfl ?_
      refine ww_iinc (pc := 30) (v := x2 + (1 : Int32)) (lv' := [(2, .int (x2 + (1 : Int32))), (1, .int (x1 ||| ((1 : Int32) <<< (x2 &&& 31)))), (0, .ref (gB G + r0))]) C 2 dX12_pinned_30 rfl (congrArg (fun z => x2 + z) (show Int32.ofInt (1) = (1 : Int32) by decide)) (by decide) rfl ?_
      refine ww_goto (pc := 33) (tgt := 4) C dX12_pinned_33 (by decide) ?_
      have hf := xsj hf
      subst hf
      refine ww_sub [2, 1, 0] rfl ?_
      exact hk.1 (x1 ||| ((1 : Int32) <<< (x2 &&& 31)), x2 + (1 : Int32)) rfl
theorem s_X12_pinned_e {G : XG} (C : XC G cX12_pinned RX12 (some .int) 3 1 20) {σ : XS} {r0 : Nat} {x : Int32} (hf : f_X12_pinned σ r0 = some x) (hk : XEnd G (some (.int x)) σ) : WW G 0 [(0, .ref (gB G + r0))] [] σ := by
  refine ww_iconst (pc := 0) (v := (0 : Int32)) C dX12_pinned_0 (by decide) ?_
  refine ww_istore_n (pc := 1) (lv' := [(1, .int (0 : Int32)), (0, .ref (gB G + r0))]) C dX12_pinned_1 (by decide) rfl ?_
  refine ww_iconst (pc := 2) (v := (0 : Int32)) C dX12_pinned_2 (by decide) ?_
  refine ww_istore_n (pc := 3) (lv' := [(2, .int (0 : Int32)), (1, .int (0 : Int32)), (0, .ref (gB G + r0))]) C dX12_pinned_3 (by decide) rfl ?_
  refine ww_sub [2, 1, 0] rfl ?_
  exact s_X12_pinned_l4 C (a := ((0 : Int32), (0 : Int32))) hf hk
theorem k_X12_pinned {l : Launch} {E : XD} {hb : Nat} {σ : XS} {r0 : Nat} {x : Int32} (h : f_X12_pinned σ r0 = some x) : XM l yX12_pinned cX12_pinned 3 (some .int) 1 20 E hb [.ref (hb + r0)] σ (some (.int x)) σ := by
  refine xm_of (by decide) (Nat.le_of_ble_eq_true rfl) ⟨Nat.le_refl _, Nat.le_refl _⟩ (fun G hG C hl hQ => ?_)
  obtain ⟨rfl, rfl, rfl, hN⟩ := hG
  exact s_X12_pinned_e C h hQ
noncomputable def f_X12_ties_j30 (σ : XS) (r0 : Nat) (x1 : Int32) (x2 : Int32) (t0 : Nat) (t1 : Int32) (t2 : Int32) : Option ((Int32 × Int32) ⊕ (Int32)) := (xck σ t0 12).bind fun _ => (f_X12_tieTo σ t0 t1 t2).bind fun v3 => if v3 < 0 then (some (.inl (x1, x2 + (1 : Int32)))) else some (.inl (x1 + (1 : Int32), x2 + (1 : Int32)))
noncomputable def f_X12_ties_b4 (σ : XS) (r0 : Nat) : Int32 × Int32 → Option ((Int32 × Int32) ⊕ (Int32)) := fun a => match a with
  | (x1, x2) => (xck σ r0 12).bind fun _ => (f_X12_sites σ r0).bind fun v3 => if ((2 : Int32) * v3) ≤ x2 then ((some x1).map .inr) else if (x2 - x2 / (2 : Int32) * (2 : Int32)) = (1 : Int32) then (f_X12_ties_j30 σ r0 x1 x2 r0 (x2 / (2 : Int32)) (1 : Int32)) else f_X12_ties_j30 σ r0 x1 x2 r0 (x2 / (2 : Int32)) (0 : Int32)
noncomputable def f_X12_ties (σ : XS) (r0 : Nat) : Option Int32 := xloop (f_X12_ties_b4 σ r0) ((0 : Int32), (0 : Int32))
theorem s_X12_ties_j30 {G : XG} (C : XC G cX12_ties RX12 (some .int) 3 2 48) {σ : XS} {r0 : Nat} {x1 : Int32} {x2 : Int32} {t0 : Nat} {t1 : Int32} {t2 : Int32} {x : ((Int32 × Int32) ⊕ (Int32))} (hf : f_X12_ties_j30 σ r0 x1 x2 t0 t1 t2 = some x) (hk : (∀ a' : Int32 × Int32, x = .inl a' → WW G 4 [(0, .ref (gB G + r0)), (1, .int a'.1), (2, .int a'.2)] [] σ) ∧ (∀ b1 : Int32, x = .inr b1 → XEnd G (some (.int b1)) σ)) : WW G 30 [(0, .ref (gB G + r0)), (1, .int x1), (2, .int x2)] [.int t2, .int t1, .ref (gB G + t0)] σ := by
  obtain ⟨_, e1, hf⟩ := xbd hf
  obtain ⟨v3, e2, hf⟩ := xbd hf
  refine ww_callVi (pc := 30) (as := [.int t1, .int t2]) (st := []) C (k_X12_tieTo (l := gl G) (E := gE G) (hb := gB G) (σ := σ) e2) rfl (by decide) xc_X12_236 q1512 qp138 (xck_spec e1) rfl (by decide) (xst4 (Nat.le_of_ble_eq_true rfl)) xsame.rf.le xsame.rf.lim dX12_ties_30 ?_
  refine ww_if_lt (pc := 33) (tgt := 39) C dX12_ties_33 (by decide) (fun q => ?_) (fun q => ?_)
  · have hf := xip q hf
    refine ww_iinc (pc := 39) (v := x2 + (1 : Int32)) (lv' := [(2, .int (x2 + (1 : Int32))), (0, .ref (gB G + r0)), (1, .int x1)]) C 2 dX12_ties_39 rfl (congrArg (fun z => x2 + z) (show Int32.ofInt (1) = (1 : Int32) by decide)) (by decide) rfl ?_
    refine ww_goto (pc := 42) (tgt := 4) C dX12_ties_42 (by decide) ?_
    have hf := xsj hf
    subst hf
    refine ww_sub [1, 2, 0] rfl ?_
    exact hk.1 (x1, x2 + (1 : Int32)) rfl
  · have hf := xin q hf
    refine ww_iinc (pc := 36) (v := x1 + (1 : Int32)) (lv' := [(1, .int (x1 + (1 : Int32))), (0, .ref (gB G + r0)), (2, .int x2)]) C 1 dX12_ties_36 rfl (congrArg (fun z => x1 + z) (show Int32.ofInt (1) = (1 : Int32) by decide)) (by decide) rfl ?_
    refine ww_iinc (pc := 39) (v := x2 + (1 : Int32)) (lv' := [(2, .int (x2 + (1 : Int32))), (1, .int (x1 + (1 : Int32))), (0, .ref (gB G + r0))]) C 2 dX12_ties_39 rfl (congrArg (fun z => x2 + z) (show Int32.ofInt (1) = (1 : Int32) by decide)) (by decide) rfl ?_
    refine ww_goto (pc := 42) (tgt := 4) C dX12_ties_42 (by decide) ?_
    have hf := xsj hf
    subst hf
    refine ww_sub [2, 1, 0] rfl ?_
    exact hk.1 (x1 + (1 : Int32), x2 + (1 : Int32)) rfl
theorem s_X12_ties_l4 {G : XG} (C : XC G cX12_ties RX12 (some .int) 3 2 48) {σ : XS} {r0 : Nat} {a : Int32 × Int32} {x : Int32} (hf : xloop (f_X12_ties_b4 σ r0) a = some x) (hk : XEnd G (some (.int x)) σ) : WW G 4 [(0, .ref (gB G + r0)), (1, .int a.1), (2, .int a.2)] [] σ := by
  refine xloop_ind (P := fun a => WW G 4 [(0, .ref (gB G + r0)), (1, .int a.1), (2, .int a.2)] [] σ) (fun a y hf hc he => ?_) hf
  obtain ⟨x1, x2⟩ := a
  have hk : (∀ a' : Int32 × Int32, y = .inl a' → WW G 4 [(0, .ref (gB G + r0)), (1, .int a'.1), (2, .int a'.2)] [] σ) ∧ (∀ b1 : Int32, y = .inr b1 → XEnd G (some (.int b1)) σ) := ⟨hc, fun b e => by have h9 := he b e; subst h9; exact hk⟩
  refine ww_iload_n (pc := 4) C 2 dX12_ties_4 rfl ?_
  refine ww_iconst (pc := 5) (v := (2 : Int32)) C dX12_ties_5 (by decide) ?_
  refine ww_aload_n (pc := 6) C 0 dX12_ties_6 rfl ?_
  obtain ⟨_, e1, hf⟩ := xbd hf
  obtain ⟨v3, e2, hf⟩ := xbd hf
  refine ww_callVi (pc := 7) (as := []) (st := [.int (2 : Int32), .int x2]) C (k_X12_sites (l := gl G) (E := gE G) (hb := gB G) (σ := σ) e2) rfl (by decide) xc_X12_193 q1496 qp136 (xck_spec e1) rfl (by decide) (xst4 (Nat.le_of_ble_eq_true rfl)) xsame.rf.le xsame.rf.lim dX12_ties_7 ?_
  refine ww_imul (pc := 10) C dX12_ties_10 ?_
  refine ww_icmp_ge (pc := 11) (tgt := 45) C dX12_ties_11 (by decide) (fun q => ?_) (fun q => ?_)
  · have hf := xip q hf
    obtain ⟨b0, hg, e9⟩ := xmj hf
    subst e9
    have hf := hg
    have hk := hk.2 _ rfl
    refine ww_iload_n (pc := 45) C 1 dX12_ties_45 rfl ?_
    have hf := xsj hf
    subst hf
    exact ww_iret (pc := 46) C hk dX12_ties_46
  · have hf := xin q hf
    refine ww_aload_n (pc := 14) C 0 dX12_ties_14 rfl ?_
    refine ww_iload_n (pc := 15) C 2 dX12_ties_15 rfl ?_
    refine ww_iconst (pc := 16) (v := (2 : Int32)) C dX12_ties_16 (by decide) ?_
    refine ww_idiv (pc := 17) C dX12_ties_17 (by decide) ?_
    refine ww_iload_n (pc := 18) C 2 dX12_ties_18 rfl ?_
    refine ww_iconst (pc := 19) (v := (2 : Int32)) C dX12_ties_19 (by decide) ?_
    refine ww_irem (pc := 20) C dX12_ties_20 (by decide) ?_
    refine ww_iconst (pc := 21) (v := (1 : Int32)) C dX12_ties_21 (by decide) ?_
    refine ww_icmp_ne (pc := 22) (tgt := 29) C dX12_ties_22 (by decide) (fun q => ?_) (fun q => ?_)
    · have hf := xin q hf
      refine ww_iconst (pc := 29) (v := (0 : Int32)) C dX12_ties_29 (by decide) ?_
      refine ww_sub [0, 1, 2] rfl ?_
      exact s_X12_ties_j30 C hf hk
    · have hf := xip q hf
      refine ww_iconst (pc := 25) (v := (1 : Int32)) C dX12_ties_25 (by decide) ?_
      refine ww_goto (pc := 26) (tgt := 30) C dX12_ties_26 (by decide) ?_
      refine ww_sub [0, 1, 2] rfl ?_
      exact s_X12_ties_j30 C hf hk
theorem s_X12_ties_e {G : XG} (C : XC G cX12_ties RX12 (some .int) 3 2 48) {σ : XS} {r0 : Nat} {x : Int32} (hf : f_X12_ties σ r0 = some x) (hk : XEnd G (some (.int x)) σ) : WW G 0 [(0, .ref (gB G + r0))] [] σ := by
  refine ww_iconst (pc := 0) (v := (0 : Int32)) C dX12_ties_0 (by decide) ?_
  refine ww_istore_n (pc := 1) (lv' := [(1, .int (0 : Int32)), (0, .ref (gB G + r0))]) C dX12_ties_1 (by decide) rfl ?_
  refine ww_iconst (pc := 2) (v := (0 : Int32)) C dX12_ties_2 (by decide) ?_
  refine ww_istore_n (pc := 3) (lv' := [(2, .int (0 : Int32)), (1, .int (0 : Int32)), (0, .ref (gB G + r0))]) C dX12_ties_3 (by decide) rfl ?_
  refine ww_sub [2, 1, 0] rfl ?_
  exact s_X12_ties_l4 C (a := ((0 : Int32), (0 : Int32))) hf hk
theorem k_X12_ties {l : Launch} {E : XD} {hb : Nat} {σ : XS} {r0 : Nat} {x : Int32} (h : f_X12_ties σ r0 = some x) : XM l yX12_ties cX12_ties 3 (some .int) 2 48 E hb [.ref (hb + r0)] σ (some (.int x)) σ := by
  refine xm_of (by decide) (Nat.le_of_ble_eq_true rfl) ⟨Nat.le_refl _, Nat.le_refl _⟩ (fun G hG C hl hQ => ?_)
  obtain ⟨rfl, rfl, rfl, hN⟩ := hG
  exact s_X12_ties_e C h hQ
noncomputable def f_X12_greatest_b4 (σ : XS) (r0 : Nat) : Int32 × Int32 → Option ((Int32 × Int32) ⊕ (Int32)) := fun a => match a with
  | (x1, x2) => (xck σ r0 12).bind fun _ => (f_X12_sites σ r0).bind fun v3 => if v3 ≤ x2 then ((some x1).map .inr) else (xck σ r0 12).bind fun _ => (f_X12_clusterOf σ r0 x2).bind fun v6 => (f_X12_bitsOf v6).bind fun v8 => if v8 ≤ x1 then (some (.inl (x1, x2 + (1 : Int32)))) else (xck σ r0 12).bind fun _ => (f_X12_clusterOf σ r0 x2).bind fun v11 => (f_X12_bitsOf v11).bind fun v13 => some (.inl (v13, x2 + (1 : Int32)))
noncomputable def f_X12_greatest (σ : XS) (r0 : Nat) : Option Int32 := xloop (f_X12_greatest_b4 σ r0) ((0 : Int32), (0 : Int32))
theorem s_X12_greatest_l4 {G : XG} (C : XC G cX12_greatest RX12 (some .int) 3 3 74) {σ : XS} {r0 : Nat} {a : Int32 × Int32} {x : Int32} (hf : xloop (f_X12_greatest_b4 σ r0) a = some x) (hk : XEnd G (some (.int x)) σ) : WW G 4 [(0, .ref (gB G + r0)), (1, .int a.1), (2, .int a.2)] [] σ := by
  refine xloop_ind (P := fun a => WW G 4 [(0, .ref (gB G + r0)), (1, .int a.1), (2, .int a.2)] [] σ) (fun a y hf hc he => ?_) hf
  obtain ⟨x1, x2⟩ := a
  have hk : (∀ a' : Int32 × Int32, y = .inl a' → WW G 4 [(0, .ref (gB G + r0)), (1, .int a'.1), (2, .int a'.2)] [] σ) ∧ (∀ b1 : Int32, y = .inr b1 → XEnd G (some (.int b1)) σ) := ⟨hc, fun b e => by have h9 := he b e; subst h9; exact hk⟩
  refine ww_iload_n (pc := 4) C 2 dX12_greatest_4 rfl ?_
  refine ww_aload_n (pc := 5) C 0 dX12_greatest_5 rfl ?_
  obtain ⟨_, e1, hf⟩ := xbd hf
  obtain ⟨v3, e2, hf⟩ := xbd hf
  refine ww_callVi (pc := 6) (as := []) (st := [.int x2]) C (k_X12_sites (l := gl G) (E := gE G) (hb := gB G) (σ := σ) e2) rfl (by decide) xc_X12_193 q1496 qp136 (xck_spec e1) rfl (by decide) (xst4 (Nat.le_of_ble_eq_true rfl)) xsame.rf.le xsame.rf.lim dX12_greatest_6 ?_
  refine ww_icmp_ge (pc := 9) (tgt := 39) C dX12_greatest_9 (by decide) (fun q => ?_) (fun q => ?_)
  · have hf := xip q hf
    obtain ⟨b0, hg, e9⟩ := xmj hf
    subst e9
    have hf := hg
    have hk := hk.2 _ rfl
    refine ww_iload_n (pc := 39) C 1 dX12_greatest_39 rfl ?_
    have hf := xsj hf
    subst hf
    exact ww_iret (pc := 40) C hk dX12_greatest_40
  · have hf := xin q hf
    refine ww_aload_n (pc := 12) C 0 dX12_greatest_12 rfl ?_
    refine ww_iload_n (pc := 13) C 2 dX12_greatest_13 rfl ?_
    obtain ⟨_, e4, hf⟩ := xbd hf
    obtain ⟨v6, e5, hf⟩ := xbd hf
    refine ww_callVi (pc := 14) (as := [.int x2]) (st := []) C (k_X12_clusterOf (l := gl G) (E := gE G) (hb := gB G) (σ := σ) e5) rfl (by decide) xc_X12_333 q1728 qp155 (xck_spec e4) rfl (by decide) (xst4 (Nat.le_of_ble_eq_true rfl)) xsame.rf.le xsame.rf.lim dX12_greatest_14 ?_
    obtain ⟨v8, e7, hf⟩ := xbd hf
    refine ww_callSi (pc := 17) (as := [.int v6]) (st := []) C (k_X12_bitsOf (l := gl G) (E := gE G) (hb := gB G) (σ := σ) e7) xc_X12_292 q1615 rfl (by decide) (xst4 (Nat.le_of_ble_eq_true rfl)) xsame.rf.le xsame.rf.lim dX12_greatest_17 ?_
    refine ww_iload_n (pc := 20) C 1 dX12_greatest_20 rfl ?_
    refine ww_icmp_le (pc := 21) (tgt := 33) C dX12_greatest_21 (by decide) (fun q => ?_) (fun q => ?_)
    · have hf := xip q hf
      refine ww_iinc (pc := 33) (v := x2 + (1 : Int32)) (lv' := [(2, .int (x2 + (1 : Int32))), (0, .ref (gB G + r0)), (1, .int x1)]) C 2 dX12_greatest_33 rfl (congrArg (fun z => x2 + z) (show Int32.ofInt (1) = (1 : Int32) by decide)) (by decide) rfl ?_
      refine ww_goto (pc := 36) (tgt := 4) C dX12_greatest_36 (by decide) ?_
      have hf := xsj hf
      subst hf
      refine ww_sub [1, 2, 0] rfl ?_
      exact hk.1 (x1, x2 + (1 : Int32)) rfl
    · have hf := xin q hf
      refine ww_aload_n (pc := 24) C 0 dX12_greatest_24 rfl ?_
      refine ww_iload_n (pc := 25) C 2 dX12_greatest_25 rfl ?_
      obtain ⟨_, e9, hf⟩ := xbd hf
      obtain ⟨v11, e10, hf⟩ := xbd hf
      refine ww_callVi (pc := 26) (as := [.int x2]) (st := []) C (k_X12_clusterOf (l := gl G) (E := gE G) (hb := gB G) (σ := σ) e10) rfl (by decide) xc_X12_333 q1728 qp155 (xck_spec e9) rfl (by decide) (xst4 (Nat.le_of_ble_eq_true rfl)) xsame.rf.le xsame.rf.lim dX12_greatest_26 ?_
      obtain ⟨v13, e12, hf⟩ := xbd hf
      refine ww_callSi (pc := 29) (as := [.int v11]) (st := []) C (k_X12_bitsOf (l := gl G) (E := gE G) (hb := gB G) (σ := σ) e12) xc_X12_292 q1615 rfl (by decide) (xst4 (Nat.le_of_ble_eq_true rfl)) xsame.rf.le xsame.rf.lim dX12_greatest_29 ?_
      refine ww_istore_n (pc := 32) (lv' := [(1, .int v13), (0, .ref (gB G + r0)), (2, .int x2)]) C dX12_greatest_32 (by decide) rfl ?_
      refine ww_iinc (pc := 33) (v := x2 + (1 : Int32)) (lv' := [(2, .int (x2 + (1 : Int32))), (1, .int v13), (0, .ref (gB G + r0))]) C 2 dX12_greatest_33 rfl (congrArg (fun z => x2 + z) (show Int32.ofInt (1) = (1 : Int32) by decide)) (by decide) rfl ?_
      refine ww_goto (pc := 36) (tgt := 4) C dX12_greatest_36 (by decide) ?_
      have hf := xsj hf
      subst hf
      refine ww_sub [2, 1, 0] rfl ?_
      exact hk.1 (v13, x2 + (1 : Int32)) rfl
theorem s_X12_greatest_e {G : XG} (C : XC G cX12_greatest RX12 (some .int) 3 3 74) {σ : XS} {r0 : Nat} {x : Int32} (hf : f_X12_greatest σ r0 = some x) (hk : XEnd G (some (.int x)) σ) : WW G 0 [(0, .ref (gB G + r0))] [] σ := by
  refine ww_iconst (pc := 0) (v := (0 : Int32)) C dX12_greatest_0 (by decide) ?_
  refine ww_istore_n (pc := 1) (lv' := [(1, .int (0 : Int32)), (0, .ref (gB G + r0))]) C dX12_greatest_1 (by decide) rfl ?_
  refine ww_iconst (pc := 2) (v := (0 : Int32)) C dX12_greatest_2 (by decide) ?_
  refine ww_istore_n (pc := 3) (lv' := [(2, .int (0 : Int32)), (1, .int (0 : Int32)), (0, .ref (gB G + r0))]) C dX12_greatest_3 (by decide) rfl ?_
  refine ww_sub [2, 1, 0] rfl ?_
  exact s_X12_greatest_l4 C (a := ((0 : Int32), (0 : Int32))) hf hk
theorem k_X12_greatest {l : Launch} {E : XD} {hb : Nat} {σ : XS} {r0 : Nat} {x : Int32} (h : f_X12_greatest σ r0 = some x) : XM l yX12_greatest cX12_greatest 3 (some .int) 3 74 E hb [.ref (hb + r0)] σ (some (.int x)) σ := by
  refine xm_of (by decide) (Nat.le_of_ble_eq_true rfl) ⟨Nat.le_refl _, Nat.le_refl _⟩ (fun G hG C hl hQ => ?_)
  obtain ⟨rfl, rfl, rfl, hN⟩ := hG
  exact s_X12_greatest_e C h hQ
noncomputable def f_X12_fewestBroken_b4 (σ : XS) (r0 : Nat) : Int32 × Int32 → Option ((Int32 × Int32) ⊕ (Int32)) := fun a => match a with
  | (x1, x2) => (xck σ r0 12).bind fun _ => (f_X12_states σ r0).bind fun v3 => if v3 ≤ x2 then ((if 0 ≤ x1 then (some x1) else some (0 : Int32)).map .inr) else (xck σ r0 12).bind fun _ => (f_X12_isLawful σ r0 x2).bind fun v6 => if v6 = 0 then (some (.inl (x1, x2 + (1 : Int32)))) else (xck σ r0 12).bind fun _ => (f_X12_brokenOf σ r0 x2).bind fun v9 => if x1 < 0 then (some (.inl (v9, x2 + (1 : Int32)))) else if x1 ≤ v9 then (some (.inl (x1, x2 + (1 : Int32)))) else some (.inl (v9, x2 + (1 : Int32)))
noncomputable def f_X12_fewestBroken (σ : XS) (r0 : Nat) : Option Int32 := xloop (f_X12_fewestBroken_b4 σ r0) ((-1 : Int32), (0 : Int32))
theorem s_X12_fewestBroken_l4 {G : XG} (C : XC G cX12_fewestBroken RX12 (some .int) 4 3 75) {σ : XS} {r0 : Nat} {a : Int32 × Int32} {x : Int32} (hf : xloop (f_X12_fewestBroken_b4 σ r0) a = some x) (hk : XEnd G (some (.int x)) σ) : WW G 4 [(0, .ref (gB G + r0)), (1, .int a.1), (2, .int a.2)] [] σ := by
  refine xloop_ind (P := fun a => WW G 4 [(0, .ref (gB G + r0)), (1, .int a.1), (2, .int a.2)] [] σ) (fun a y hf hc he => ?_) hf
  obtain ⟨x1, x2⟩ := a
  have hk : (∀ a' : Int32 × Int32, y = .inl a' → WW G 4 [(0, .ref (gB G + r0)), (1, .int a'.1), (2, .int a'.2)] [] σ) ∧ (∀ b1 : Int32, y = .inr b1 → XEnd G (some (.int b1)) σ) := ⟨hc, fun b e => by have h9 := he b e; subst h9; exact hk⟩
  refine ww_iload_n (pc := 4) C 2 dX12_fewestBroken_4 rfl ?_
  refine ww_aload_n (pc := 5) C 0 dX12_fewestBroken_5 rfl ?_
  obtain ⟨_, e1, hf⟩ := xbd hf
  obtain ⟨v3, e2, hf⟩ := xbd hf
  refine ww_callVi (pc := 6) (as := []) (st := [.int x2]) C (k_X12_states (l := gl G) (E := gE G) (hb := gB G) (σ := σ) e2) rfl (by decide) xc_X12_270 q1555 qp141 (xck_spec e1) rfl (by decide) (xst4 (Nat.le_of_ble_eq_true rfl)) xsame.rf.le xsame.rf.lim dX12_fewestBroken_6 ?_
  refine ww_icmp_ge (pc := 9) (tgt := 46) C dX12_fewestBroken_9 (by decide) (fun q => ?_) (fun q => ?_)
  · have hf := xip q hf
    obtain ⟨b0, hg, e9⟩ := xmj hf
    subst e9
    have hf := hg
    have hk := hk.2 _ rfl
    refine ww_iload_n (pc := 46) C 1 dX12_fewestBroken_46 rfl ?_
    refine ww_if_ge (pc := 47) (tgt := 54) C dX12_fewestBroken_47 (by decide) (fun q => ?_) (fun q => ?_)
    · have hf := xip q hf
      refine ww_iload_n (pc := 54) C 1 dX12_fewestBroken_54 rfl ?_
      have hf := xsj hf
      subst hf
      exact ww_iret (pc := 55) C hk dX12_fewestBroken_55
    · have hf := xin q hf
      refine ww_iconst (pc := 50) (v := (0 : Int32)) C dX12_fewestBroken_50 (by decide) ?_
      refine ww_goto (pc := 51) (tgt := 55) C dX12_fewestBroken_51 (by decide) ?_
      have hf := xsj hf
      subst hf
      exact ww_iret (pc := 55) C hk dX12_fewestBroken_55
  · have hf := xin q hf
    refine ww_aload_n (pc := 12) C 0 dX12_fewestBroken_12 rfl ?_
    refine ww_iload_n (pc := 13) C 2 dX12_fewestBroken_13 rfl ?_
    obtain ⟨_, e4, hf⟩ := xbd hf
    obtain ⟨v6, e5, hf⟩ := xbd hf
    refine ww_callVi (pc := 14) (as := [.int x2]) (st := []) C (k_X12_isLawful (l := gl G) (E := gE G) (hb := gB G) (σ := σ) e5) rfl (by decide) xc_X12_281 q1559 qp142 (xck_spec e4) rfl (by decide) (xst4 (Nat.le_of_ble_eq_true rfl)) xsame.rf.le xsame.rf.lim dX12_fewestBroken_14 ?_
    refine ww_if_ne (pc := 17) (tgt := 23) C dX12_fewestBroken_17 (by decide) (fun q => ?_) (fun q => ?_)
    · have hf := xin q hf
      refine ww_aload_n (pc := 23) C 0 dX12_fewestBroken_23 rfl ?_
      refine ww_iload_n (pc := 24) C 2 dX12_fewestBroken_24 rfl ?_
      obtain ⟨_, e7, hf⟩ := xbd hf
      obtain ⟨v9, e8, hf⟩ := xbd hf
      refine ww_callVi (pc := 25) (as := [.int x2]) (st := []) C (k_X12_brokenOf (l := gl G) (E := gE G) (hb := gB G) (σ := σ) e8) rfl (by decide) xc_X12_305 q1627 qp150 (xck_spec e7) rfl (by decide) (xst4 (Nat.le_of_ble_eq_true rfl)) xsame.rf.le xsame.rf.lim dX12_fewestBroken_25 ?_
      refine ww_istore_n (pc := 28) (lv' := [(3, .int v9), (0, .ref (gB G + r0)), (1, .int x1), (2, .int x2)]) C dX12_fewestBroken_28 (by decide) rfl ?_
      refine ww_iload_n (pc := 29) C 2 dX12_fewestBroken_29 rfl ?_
      refine ww_if_lt (pc := 30) (tgt := 38) C dX12_fewestBroken_30 (by decide) (fun q => ?_) (fun q => ?_)
      · have hf := xip q hf
        refine ww_iload_n (pc := 38) C 0 dX12_fewestBroken_38 rfl ?_
        refine ww_istore_n (pc := 39) (lv' := [(1, .int v9), (3, .int v9), (0, .ref (gB G + r0)), (2, .int x2)]) C dX12_fewestBroken_39 (by decide) rfl ?_
        refine ww_iinc (pc := 40) (v := x2 + (1 : Int32)) (lv' := [(2, .int (x2 + (1 : Int32))), (1, .int v9), (3, .int v9), (0, .ref (gB G + r0))]) C 3 dX12_fewestBroken_40 rfl (congrArg (fun z => x2 + z) (show Int32.ofInt (1) = (1 : Int32) by decide)) (by decide) rfl ?_
        refine ww_goto (pc := 43) (tgt := 4) C dX12_fewestBroken_43 (by decide) ?_
        have hf := xsj hf
        subst hf
        refine ww_sub [3, 1, 0] rfl ?_
        exact hk.1 (v9, x2 + (1 : Int32)) rfl
      · have hf := xin q hf
        refine ww_iload_n (pc := 33) C 0 dX12_fewestBroken_33 rfl ?_
        refine ww_iload_n (pc := 34) C 2 dX12_fewestBroken_34 rfl ?_
        refine ww_icmp_ge (pc := 35) (tgt := 40) C dX12_fewestBroken_35 (by decide) (fun q => ?_) (fun q => ?_)
        · have hf := xip q hf
          refine ww_iinc (pc := 40) (v := x2 + (1 : Int32)) (lv' := [(2, .int (x2 + (1 : Int32))), (3, .int v9), (0, .ref (gB G + r0)), (1, .int x1)]) C 3 dX12_fewestBroken_40 rfl (congrArg (fun z => x2 + z) (show Int32.ofInt (1) = (1 : Int32) by decide)) (by decide) rfl ?_
          refine ww_goto (pc := 43) (tgt := 4) C dX12_fewestBroken_43 (by decide) ?_
          have hf := xsj hf
          subst hf
          refine ww_sub [2, 3, 0] rfl ?_
          exact hk.1 (x1, x2 + (1 : Int32)) rfl
        · have hf := xin q hf
          refine ww_iload_n (pc := 38) C 0 dX12_fewestBroken_38 rfl ?_
          refine ww_istore_n (pc := 39) (lv' := [(1, .int v9), (3, .int v9), (0, .ref (gB G + r0)), (2, .int x2)]) C dX12_fewestBroken_39 (by decide) rfl ?_
          refine ww_iinc (pc := 40) (v := x2 + (1 : Int32)) (lv' := [(2, .int (x2 + (1 : Int32))), (1, .int v9), (3, .int v9), (0, .ref (gB G + r0))]) C 3 dX12_fewestBroken_40 rfl (congrArg (fun z => x2 + z) (show Int32.ofInt (1) = (1 : Int32) by decide)) (by decide) rfl ?_
          refine ww_goto (pc := 43) (tgt := 4) C dX12_fewestBroken_43 (by decide) ?_
          have hf := xsj hf
          subst hf
          refine ww_sub [3, 1, 0] rfl ?_
          exact hk.1 (v9, x2 + (1 : Int32)) rfl
    · have hf := xip q hf
      refine ww_goto (pc := 20) (tgt := 40) C dX12_fewestBroken_20 (by decide) ?_
      refine ww_iinc (pc := 40) (v := x2 + (1 : Int32)) (lv' := [(2, .int (x2 + (1 : Int32))), (0, .ref (gB G + r0)), (1, .int x1)]) C 2 dX12_fewestBroken_40 rfl (congrArg (fun z => x2 + z) (show Int32.ofInt (1) = (1 : Int32) by decide)) (by decide) rfl ?_
      refine ww_goto (pc := 43) (tgt := 4) C dX12_fewestBroken_43 (by decide) ?_
      have hf := xsj hf
      subst hf
      refine ww_sub [1, 2, 0] rfl ?_
      exact hk.1 (x1, x2 + (1 : Int32)) rfl
theorem s_X12_fewestBroken_e {G : XG} (C : XC G cX12_fewestBroken RX12 (some .int) 4 3 75) {σ : XS} {r0 : Nat} {x : Int32} (hf : f_X12_fewestBroken σ r0 = some x) (hk : XEnd G (some (.int x)) σ) : WW G 0 [(0, .ref (gB G + r0))] [] σ := by
  refine ww_iconst (pc := 0) (v := (-1 : Int32)) C dX12_fewestBroken_0 (by decide) ?_
  refine ww_istore_n (pc := 1) (lv' := [(1, .int (-1 : Int32)), (0, .ref (gB G + r0))]) C dX12_fewestBroken_1 (by decide) rfl ?_
  refine ww_iconst (pc := 2) (v := (0 : Int32)) C dX12_fewestBroken_2 (by decide) ?_
  refine ww_istore_n (pc := 3) (lv' := [(2, .int (0 : Int32)), (1, .int (-1 : Int32)), (0, .ref (gB G + r0))]) C dX12_fewestBroken_3 (by decide) rfl ?_
  refine ww_sub [2, 1, 0] rfl ?_
  exact s_X12_fewestBroken_l4 C (a := ((-1 : Int32), (0 : Int32))) hf hk
theorem k_X12_fewestBroken {l : Launch} {E : XD} {hb : Nat} {σ : XS} {r0 : Nat} {x : Int32} (h : f_X12_fewestBroken σ r0 = some x) : XM l yX12_fewestBroken cX12_fewestBroken 4 (some .int) 3 75 E hb [.ref (hb + r0)] σ (some (.int x)) σ := by
  refine xm_of (by decide) (Nat.le_of_ble_eq_true rfl) ⟨Nat.le_refl _, Nat.le_refl _⟩ (fun G hG C hl hQ => ?_)
  obtain ⟨rfl, rfl, rfl, hN⟩ := hG
  exact s_X12_fewestBroken_e C h hQ
noncomputable def f_X12_oddOf (σ : XS) (r0 : Nat) (x1 : Int32) : Option Int32 := (xck σ r0 12).bind fun _ => (f_X12_tieTo σ r0 x1 (0 : Int32)).bind fun v3 => (xck σ r0 12).bind fun _ => (f_X12_tieTo σ r0 x1 (1 : Int32)).bind fun v6 => if v3 < 0 then (some (-2 : Int32)) else if 0 ≤ v6 then ((xgR σ r0 12 21).bind fun z8 => (xaI σ 20 z8 ((0 : Int32) + x1)).bind fun v10 => (xgR σ r0 12 21).bind fun z12 => (xaI σ 20 z12 ((16 : Int32) + x1)).bind fun v14 => (xgR σ r0 12 21).bind fun z16 => (xaI σ 20 z16 ((16 : Int32) + v3)).bind fun v18 => (xgR σ r0 12 21).bind fun z20 => (xaI σ 20 z20 ((0 : Int32) + v6)).bind fun v22 => if 0 ≤ (((v10 * v14) * v18) * v22) then (some (0 : Int32)) else some (1 : Int32)) else some (-2 : Int32)
theorem s_X12_oddOf_e {G : XG} (C : XC G cX12_oddOf RX12 (some .int) 5 2 48) {σ : XS} {r0 : Nat} {x1 : Int32} {x : Int32} (hf : f_X12_oddOf σ r0 x1 = some x) (hk : XEnd G (some (.int x)) σ) : WW G 0 [(0, .ref (gB G + r0)), (1, .int x1)] [] σ := by
  refine ww_aload_n (pc := 0) C 0 dX12_oddOf_0 rfl ?_
  refine ww_iload_n (pc := 1) C 1 dX12_oddOf_1 rfl ?_
  refine ww_iconst (pc := 2) (v := (0 : Int32)) C dX12_oddOf_2 (by decide) ?_
  obtain ⟨_, e1, hf⟩ := xbd hf
  obtain ⟨v3, e2, hf⟩ := xbd hf
  refine ww_callVi (pc := 3) (as := [.int x1, .int (0 : Int32)]) (st := []) C (k_X12_tieTo (l := gl G) (E := gE G) (hb := gB G) (σ := σ) e2) rfl (by decide) xc_X12_236 q1512 qp138 (xck_spec e1) rfl (by decide) (xst4 (Nat.le_of_ble_eq_true rfl)) xsame.rf.le xsame.rf.lim dX12_oddOf_3 ?_
  refine ww_istore_n (pc := 6) (lv' := [(2, .int v3), (0, .ref (gB G + r0)), (1, .int x1)]) C dX12_oddOf_6 (by decide) rfl ?_
  refine ww_aload_n (pc := 7) C 1 dX12_oddOf_7 rfl ?_
  refine ww_iload_n (pc := 8) C 2 dX12_oddOf_8 rfl ?_
  refine ww_iconst (pc := 9) (v := (1 : Int32)) C dX12_oddOf_9 (by decide) ?_
  obtain ⟨_, e4, hf⟩ := xbd hf
  obtain ⟨v6, e5, hf⟩ := xbd hf
  refine ww_callVi (pc := 10) (as := [.int x1, .int (1 : Int32)]) (st := []) C (k_X12_tieTo (l := gl G) (E := gE G) (hb := gB G) (σ := σ) e5) rfl (by decide) xc_X12_236 q1512 qp138 (xck_spec e4) rfl (by decide) (xst4 (Nat.le_of_ble_eq_true rfl)) xsame.rf.le xsame.rf.lim dX12_oddOf_10 ?_
  refine ww_istore_n (pc := 13) (lv' := [(3, .int v6), (2, .int v3), (0, .ref (gB G + r0)), (1, .int x1)]) C dX12_oddOf_13 (by decide) rfl ?_
  refine ww_iload_n (pc := 14) C 1 dX12_oddOf_14 rfl ?_
  refine ww_if_lt (pc := 15) (tgt := 22) C dX12_oddOf_15 (by decide) (fun q => ?_) (fun q => ?_)
  · have hf := xip q hf
    refine ww_bipush (pc := 22) (v := (-2 : Int32)) C dX12_oddOf_22 (by decide) ?_
    have hf := xsj hf
    subst hf
    exact ww_iret (pc := 24) C hk dX12_oddOf_24
  · have hf := xin q hf
    refine ww_iload_n (pc := 18) C 0 dX12_oddOf_18 rfl ?_
    refine ww_if_ge (pc := 19) (tgt := 25) C dX12_oddOf_19 (by decide) (fun q => ?_) (fun q => ?_)
    · have hf := xip q hf
      refine ww_aload_n (pc := 25) C 2 dX12_oddOf_25 rfl ?_
      obtain ⟨z8, e7, hf⟩ := xbd hf
      refine gf_X12_40 (pc := 26) C e7 dX12_oddOf_26 ?_
      refine ww_iconst (pc := 29) (v := (0 : Int32)) C dX12_oddOf_29 (by decide) ?_
      refine ww_iload_n (pc := 30) C 3 dX12_oddOf_30 rfl ?_
      refine ww_iadd (pc := 31) C dX12_oddOf_31 ?_
      obtain ⟨v10, e9, hf⟩ := xbd hf
      refine ww_iald (pc := 32) C e9 dX12_oddOf_32 ?_
      refine ww_aload_n (pc := 33) C 2 dX12_oddOf_33 rfl ?_
      obtain ⟨z12, e11, hf⟩ := xbd hf
      refine gf_X12_40 (pc := 34) C e11 dX12_oddOf_34 ?_
      refine ww_bipush (pc := 37) (v := (16 : Int32)) C dX12_oddOf_37 (by decide) ?_
      refine ww_iload_n (pc := 39) C 3 dX12_oddOf_39 rfl ?_
      refine ww_iadd (pc := 40) C dX12_oddOf_40 ?_
      obtain ⟨v14, e13, hf⟩ := xbd hf
      refine ww_iald (pc := 41) C e13 dX12_oddOf_41 ?_
      refine ww_imul (pc := 42) C dX12_oddOf_42 ?_
      refine ww_aload_n (pc := 43) C 2 dX12_oddOf_43 rfl ?_
      obtain ⟨z16, e15, hf⟩ := xbd hf
      refine gf_X12_40 (pc := 44) C e15 dX12_oddOf_44 ?_
      refine ww_bipush (pc := 47) (v := (16 : Int32)) C dX12_oddOf_47 (by decide) ?_
      refine ww_iload_n (pc := 49) C 1 dX12_oddOf_49 rfl ?_
      refine ww_iadd (pc := 50) C dX12_oddOf_50 ?_
      obtain ⟨v18, e17, hf⟩ := xbd hf
      refine ww_iald (pc := 51) C e17 dX12_oddOf_51 ?_
      refine ww_imul (pc := 52) C dX12_oddOf_52 ?_
      refine ww_aload_n (pc := 53) C 2 dX12_oddOf_53 rfl ?_
      obtain ⟨z20, e19, hf⟩ := xbd hf
      refine gf_X12_40 (pc := 54) C e19 dX12_oddOf_54 ?_
      refine ww_iconst (pc := 57) (v := (0 : Int32)) C dX12_oddOf_57 (by decide) ?_
      refine ww_iload_n (pc := 58) C 0 dX12_oddOf_58 rfl ?_
      refine ww_iadd (pc := 59) C dX12_oddOf_59 ?_
      obtain ⟨v22, e21, hf⟩ := xbd hf
      refine ww_iald (pc := 60) C e21 dX12_oddOf_60 ?_
      refine ww_imul (pc := 61) C dX12_oddOf_61 ?_
      refine ww_istore (pc := 62) (lv' := [(4, .int (((v10 * v14) * v18) * v22)), (3, .int v6), (2, .int v3), (0, .ref (gB G + r0)), (1, .int x1)]) C dX12_oddOf_62 (by decide) rfl ?_
      refine ww_iload (pc := 64) C 0 dX12_oddOf_64 rfl ?_
      refine ww_if_ge (pc := 66) (tgt := 73) C dX12_oddOf_66 (by decide) (fun q => ?_) (fun q => ?_)
      · have hf := xip q hf
        refine ww_iconst (pc := 73) (v := (0 : Int32)) C dX12_oddOf_73 (by decide) ?_
        have hf := xsj hf
        subst hf
        exact ww_iret (pc := 74) C hk dX12_oddOf_74
      · have hf := xin q hf
        refine ww_iconst (pc := 69) (v := (1 : Int32)) C dX12_oddOf_69 (by decide) ?_
        refine ww_goto (pc := 70) (tgt := 74) C dX12_oddOf_70 (by decide) ?_
        have hf := xsj hf
        subst hf
        exact ww_iret (pc := 74) C hk dX12_oddOf_74
    · have hf := xin q hf
      refine ww_bipush (pc := 22) (v := (-2 : Int32)) C dX12_oddOf_22 (by decide) ?_
      have hf := xsj hf
      subst hf
      exact ww_iret (pc := 24) C hk dX12_oddOf_24
theorem k_X12_oddOf {l : Launch} {E : XD} {hb : Nat} {σ : XS} {r0 : Nat} {x1 : Int32} {x : Int32} (h : f_X12_oddOf σ r0 x1 = some x) : XM l yX12_oddOf cX12_oddOf 5 (some .int) 2 48 E hb [.ref (hb + r0), .int x1] σ (some (.int x)) σ := by
  refine xm_of (by decide) (Nat.le_of_ble_eq_true rfl) ⟨Nat.le_refl _, Nat.le_refl _⟩ (fun G hG C hl hQ => ?_)
  obtain ⟨rfl, rfl, rfl, hN⟩ := hG
  exact s_X12_oddOf_e C h hQ
noncomputable def f_X12_odds_b4 (σ : XS) (r0 : Nat) : Int32 × Int32 → Option ((Int32 × Int32) ⊕ (Int32)) := fun a => match a with
  | (x1, x2) => (xck σ r0 12).bind fun _ => (f_X12_sites σ r0).bind fun v3 => if v3 ≤ x2 then ((some x1).map .inr) else (xck σ r0 12).bind fun _ => (f_X12_oddOf σ r0 x2).bind fun v6 => if v6 = (1 : Int32) then (some (.inl (x1 + (1 : Int32), x2 + (1 : Int32)))) else some (.inl (x1, x2 + (1 : Int32)))
noncomputable def f_X12_odds (σ : XS) (r0 : Nat) : Option Int32 := xloop (f_X12_odds_b4 σ r0) ((0 : Int32), (0 : Int32))
theorem s_X12_odds_l4 {G : XG} (C : XC G cX12_odds RX12 (some .int) 3 3 72) {σ : XS} {r0 : Nat} {a : Int32 × Int32} {x : Int32} (hf : xloop (f_X12_odds_b4 σ r0) a = some x) (hk : XEnd G (some (.int x)) σ) : WW G 4 [(0, .ref (gB G + r0)), (1, .int a.1), (2, .int a.2)] [] σ := by
  refine xloop_ind (P := fun a => WW G 4 [(0, .ref (gB G + r0)), (1, .int a.1), (2, .int a.2)] [] σ) (fun a y hf hc he => ?_) hf
  obtain ⟨x1, x2⟩ := a
  have hk : (∀ a' : Int32 × Int32, y = .inl a' → WW G 4 [(0, .ref (gB G + r0)), (1, .int a'.1), (2, .int a'.2)] [] σ) ∧ (∀ b1 : Int32, y = .inr b1 → XEnd G (some (.int b1)) σ) := ⟨hc, fun b e => by have h9 := he b e; subst h9; exact hk⟩
  refine ww_iload_n (pc := 4) C 2 dX12_odds_4 rfl ?_
  refine ww_aload_n (pc := 5) C 0 dX12_odds_5 rfl ?_
  obtain ⟨_, e1, hf⟩ := xbd hf
  obtain ⟨v3, e2, hf⟩ := xbd hf
  refine ww_callVi (pc := 6) (as := []) (st := [.int x2]) C (k_X12_sites (l := gl G) (E := gE G) (hb := gB G) (σ := σ) e2) rfl (by decide) xc_X12_193 q1496 qp136 (xck_spec e1) rfl (by decide) (xst4 (Nat.le_of_ble_eq_true rfl)) xsame.rf.le xsame.rf.lim dX12_odds_6 ?_
  refine ww_icmp_ge (pc := 9) (tgt := 30) C dX12_odds_9 (by decide) (fun q => ?_) (fun q => ?_)
  · have hf := xip q hf
    obtain ⟨b0, hg, e9⟩ := xmj hf
    subst e9
    have hf := hg
    have hk := hk.2 _ rfl
    refine ww_iload_n (pc := 30) C 1 dX12_odds_30 rfl ?_
    have hf := xsj hf
    subst hf
    exact ww_iret (pc := 31) C hk dX12_odds_31
  · have hf := xin q hf
    refine ww_aload_n (pc := 12) C 0 dX12_odds_12 rfl ?_
    refine ww_iload_n (pc := 13) C 2 dX12_odds_13 rfl ?_
    obtain ⟨_, e4, hf⟩ := xbd hf
    obtain ⟨v6, e5, hf⟩ := xbd hf
    refine ww_callVi (pc := 14) (as := [.int x2]) (st := []) C (k_X12_oddOf (l := gl G) (E := gE G) (hb := gB G) (σ := σ) e5) rfl (by decide) xc_X12_330 q1720 qp154 (xck_spec e4) rfl (by decide) (xst4 (Nat.le_of_ble_eq_true rfl)) xsame.rf.le xsame.rf.lim dX12_odds_14 ?_
    refine ww_iconst (pc := 17) (v := (1 : Int32)) C dX12_odds_17 (by decide) ?_
    refine ww_icmp_ne (pc := 18) (tgt := 24) C dX12_odds_18 (by decide) (fun q => ?_) (fun q => ?_)
    · have hf := xin q hf
      refine ww_iinc (pc := 24) (v := x2 + (1 : Int32)) (lv' := [(2, .int (x2 + (1 : Int32))), (0, .ref (gB G + r0)), (1, .int x1)]) C 2 dX12_odds_24 rfl (congrArg (fun z => x2 + z) (show Int32.ofInt (1) = (1 : Int32) by decide)) (by decide) rfl ?_
      refine ww_goto (pc := 27) (tgt := 4) C dX12_odds_27 (by decide) ?_
      have hf := xsj hf
      subst hf
      refine ww_sub [1, 2, 0] rfl ?_
      exact hk.1 (x1, x2 + (1 : Int32)) rfl
    · have hf := xip q hf
      refine ww_iinc (pc := 21) (v := x1 + (1 : Int32)) (lv' := [(1, .int (x1 + (1 : Int32))), (0, .ref (gB G + r0)), (2, .int x2)]) C 1 dX12_odds_21 rfl (congrArg (fun z => x1 + z) (show Int32.ofInt (1) = (1 : Int32) by decide)) (by decide) rfl ?_
      refine ww_iinc (pc := 24) (v := x2 + (1 : Int32)) (lv' := [(2, .int (x2 + (1 : Int32))), (1, .int (x1 + (1 : Int32))), (0, .ref (gB G + r0))]) C 2 dX12_odds_24 rfl (congrArg (fun z => x2 + z) (show Int32.ofInt (1) = (1 : Int32) by decide)) (by decide) rfl ?_
      refine ww_goto (pc := 27) (tgt := 4) C dX12_odds_27 (by decide) ?_
      have hf := xsj hf
      subst hf
      refine ww_sub [2, 1, 0] rfl ?_
      exact hk.1 (x1 + (1 : Int32), x2 + (1 : Int32)) rfl
theorem s_X12_odds_e {G : XG} (C : XC G cX12_odds RX12 (some .int) 3 3 72) {σ : XS} {r0 : Nat} {x : Int32} (hf : f_X12_odds σ r0 = some x) (hk : XEnd G (some (.int x)) σ) : WW G 0 [(0, .ref (gB G + r0))] [] σ := by
  refine ww_iconst (pc := 0) (v := (0 : Int32)) C dX12_odds_0 (by decide) ?_
  refine ww_istore_n (pc := 1) (lv' := [(1, .int (0 : Int32)), (0, .ref (gB G + r0))]) C dX12_odds_1 (by decide) rfl ?_
  refine ww_iconst (pc := 2) (v := (0 : Int32)) C dX12_odds_2 (by decide) ?_
  refine ww_istore_n (pc := 3) (lv' := [(2, .int (0 : Int32)), (1, .int (0 : Int32)), (0, .ref (gB G + r0))]) C dX12_odds_3 (by decide) rfl ?_
  refine ww_sub [2, 1, 0] rfl ?_
  exact s_X12_odds_l4 C (a := ((0 : Int32), (0 : Int32))) hf hk
theorem k_X12_odds {l : Launch} {E : XD} {hb : Nat} {σ : XS} {r0 : Nat} {x : Int32} (h : f_X12_odds σ r0 = some x) : XM l yX12_odds cX12_odds 3 (some .int) 3 72 E hb [.ref (hb + r0)] σ (some (.int x)) σ := by
  refine xm_of (by decide) (Nat.le_of_ble_eq_true rfl) ⟨Nat.le_refl _, Nat.le_refl _⟩ (fun G hG C hl hQ => ?_)
  obtain ⟨rfl, rfl, rfl, hN⟩ := hG
  exact s_X12_odds_e C h hQ
noncomputable def f_X12_count_j147 (σ : XS) (r0 : Nat) (t0 : Int32) (t1 : Int32) : Option Int32 := (xgR σ r0 12 31).bind fun z2 => (xaI σ 22 z2 (2 : Int32)).bind fun v4 => if v4 = 0 then (some ((t0 + t1) + (0 : Int32))) else some ((t0 + t1) + (1 : Int32))
noncomputable def f_X12_count_j133 (σ : XS) (r0 : Nat) (t0 : Int32) : Option Int32 := (xgR σ r0 12 31).bind fun z2 => (xaI σ 22 z2 (1 : Int32)).bind fun v4 => if v4 = 0 then (f_X12_count_j147 σ r0 t0 (0 : Int32)) else f_X12_count_j147 σ r0 t0 (1 : Int32)
noncomputable def f_X12_count_j194 (σ : XS) (r0 : Nat) (t0 : Int32) : Option Int32 := (xgI σ r0 12 20).bind fun v2 => if v2 = 0 then (some (t0 + (0 : Int32))) else some (t0 + (2 : Int32))
noncomputable def f_X12_count (σ : XS) (r0 : Nat) (x1 : Int32) : Option Int32 := xsw x1 (0) [(xgI σ r0 12 17).bind fun v2 => some v2, (xgI σ r0 12 18).bind fun v2 => some v2, (xgR σ r0 12 21).bind fun z2 => (xaI σ 20 z2 (64 : Int32)).bind fun v4 => some v4, (xck σ r0 12).bind fun _ => (f_X12_lawfulMany σ r0).bind fun v3 => some v3, (xck σ r0 12).bind fun _ => (f_X12_pinned σ r0).bind fun v3 => some v3, (xck σ r0 12).bind fun _ => (f_X12_ties σ r0).bind fun v3 => some v3, (xgI σ r0 12 2).bind fun v2 => some v2, (xgI σ r0 12 29).bind fun v2 => some v2, (xgR σ r0 12 31).bind fun z2 => (xaI σ 22 z2 (0 : Int32)).bind fun v4 => if v4 = 0 then (f_X12_count_j133 σ r0 (0 : Int32)) else f_X12_count_j133 σ r0 (1 : Int32), (xgR σ r0 12 21).bind fun z2 => (xaI σ 20 z2 (65 : Int32)).bind fun v4 => some v4, (xck σ r0 12).bind fun _ => (f_X12_clusters σ r0).bind fun v3 => some v3, (xck σ r0 12).bind fun _ => (f_X12_greatest σ r0).bind fun v3 => some v3, (xgI σ r0 12 19).bind fun v2 => if v2 = 0 then (f_X12_count_j194 σ r0 (0 : Int32)) else f_X12_count_j194 σ r0 (1 : Int32), (xck σ r0 12).bind fun _ => (f_X12_fewestBroken σ r0).bind fun v3 => some v3, (xck σ r0 12).bind fun _ => (f_X12_odds σ r0).bind fun v3 => some v3] (some (-1 : Int32))
theorem s_X12_count_j147 {G : XG} (C : XC G cX12_count RX12 (some .int) 2 4 98) {σ : XS} {r0 : Nat} {t0 : Int32} {t1 : Int32} {x : Int32} (hf : f_X12_count_j147 σ r0 t0 t1 = some x) (hk : XEnd G (some (.int x)) σ) : WW G 147 [(0, .ref (gB G + r0))] [.int t1, .int t0] σ := by
  refine ww_iadd (pc := 147) C dX12_count_147 ?_
  refine ww_aload_n (pc := 148) C 0 dX12_count_148 rfl ?_
  obtain ⟨z2, e1, hf⟩ := xbd hf
  refine gf_X12_52 (pc := 149) C e1 dX12_count_149 ?_
  refine ww_iconst (pc := 152) (v := (2 : Int32)) C dX12_count_152 (by decide) ?_
  obtain ⟨v4, e3, hf⟩ := xbd hf
  refine ww_zald (pc := 153) C e3 dX12_count_153 ?_
  refine ww_if_eq (pc := 154) (tgt := 161) C dX12_count_154 (by decide) (fun q => ?_) (fun q => ?_)
  · have hf := xip q hf
    refine ww_iconst (pc := 161) (v := (0 : Int32)) C dX12_count_161 (by decide) ?_
    refine ww_iadd (pc := 162) C dX12_count_162 ?_
    have hf := xsj hf
    subst hf
    exact ww_iret (pc := 163) C hk dX12_count_163
  · have hf := xin q hf
    refine ww_iconst (pc := 157) (v := (1 : Int32)) C dX12_count_157 (by decide) ?_
    refine ww_goto (pc := 158) (tgt := 162) C dX12_count_158 (by decide) ?_
    refine ww_iadd (pc := 162) C dX12_count_162 ?_
    have hf := xsj hf
    subst hf
    exact ww_iret (pc := 163) C hk dX12_count_163
theorem s_X12_count_j133 {G : XG} (C : XC G cX12_count RX12 (some .int) 2 4 98) {σ : XS} {r0 : Nat} {t0 : Int32} {x : Int32} (hf : f_X12_count_j133 σ r0 t0 = some x) (hk : XEnd G (some (.int x)) σ) : WW G 133 [(0, .ref (gB G + r0))] [.int t0] σ := by
  refine ww_aload_n (pc := 133) C 0 dX12_count_133 rfl ?_
  obtain ⟨z2, e1, hf⟩ := xbd hf
  refine gf_X12_52 (pc := 134) C e1 dX12_count_134 ?_
  refine ww_iconst (pc := 137) (v := (1 : Int32)) C dX12_count_137 (by decide) ?_
  obtain ⟨v4, e3, hf⟩ := xbd hf
  refine ww_zald (pc := 138) C e3 dX12_count_138 ?_
  refine ww_if_eq (pc := 139) (tgt := 146) C dX12_count_139 (by decide) (fun q => ?_) (fun q => ?_)
  · have hf := xip q hf
    refine ww_iconst (pc := 146) (v := (0 : Int32)) C dX12_count_146 (by decide) ?_
    refine ww_sub [0] rfl ?_
    exact s_X12_count_j147 C hf hk
  · have hf := xin q hf
    refine ww_iconst (pc := 142) (v := (1 : Int32)) C dX12_count_142 (by decide) ?_
    refine ww_goto (pc := 143) (tgt := 147) C dX12_count_143 (by decide) ?_
    refine ww_sub [0] rfl ?_
    exact s_X12_count_j147 C hf hk
theorem s_X12_count_j194 {G : XG} (C : XC G cX12_count RX12 (some .int) 2 4 98) {σ : XS} {r0 : Nat} {t0 : Int32} {x : Int32} (hf : f_X12_count_j194 σ r0 t0 = some x) (hk : XEnd G (some (.int x)) σ) : WW G 194 [(0, .ref (gB G + r0))] [.int t0] σ := by
  refine ww_aload_n (pc := 194) C 0 dX12_count_194 rfl ?_
  obtain ⟨v2, e1, hf⟩ := xbd hf
  refine gf_X12_190 (pc := 195) C e1 dX12_count_195 ?_
  refine ww_if_eq (pc := 198) (tgt := 205) C dX12_count_198 (by decide) (fun q => ?_) (fun q => ?_)
  · have hf := xip q hf
    refine ww_iconst (pc := 205) (v := (0 : Int32)) C dX12_count_205 (by decide) ?_
    refine ww_iadd (pc := 206) C dX12_count_206 ?_
    have hf := xsj hf
    subst hf
    exact ww_iret (pc := 207) C hk dX12_count_207
  · have hf := xin q hf
    refine ww_iconst (pc := 201) (v := (2 : Int32)) C dX12_count_201 (by decide) ?_
    refine ww_goto (pc := 202) (tgt := 206) C dX12_count_202 (by decide) ?_
    refine ww_iadd (pc := 206) C dX12_count_206 ?_
    have hf := xsj hf
    subst hf
    exact ww_iret (pc := 207) C hk dX12_count_207
theorem s_X12_count_e {G : XG} (C : XC G cX12_count RX12 (some .int) 2 4 98) {σ : XS} {r0 : Nat} {x1 : Int32} {x : Int32} (hf : f_X12_count σ r0 x1 = some x) (hk : XEnd G (some (.int x)) σ) : WW G 0 [(0, .ref (gB G + r0)), (1, .int x1)] [] σ := by
  refine ww_iload_n (pc := 0) C 1 dX12_count_0 rfl ?_
  refine ww_table (pc := 1) C dX12_count_1 (fun k hk1 hk2 => ?_) (fun ho => ?_)
  · rcases (by omega : k = 0 ∨ k = 1 ∨ k = 2 ∨ k = 3 ∨ k = 4 ∨ k = 5 ∨ k = 6 ∨ k = 7 ∨ k = 8 ∨ k = 9 ∨ k = 10 ∨ k = 11 ∨ k = 12 ∨ k = 13 ∨ k = 14) with rfl | rfl | rfl | rfl | rfl | rfl | rfl | rfl | rfl | rfl | rfl | rfl | rfl | rfl | rfl
    · refine ⟨76, 75, rfl, by decide, ?_⟩
      have hf := xsw_in 0 hk1 rfl hf
      refine ww_aload_n (pc := 76) C 0 dX12_count_76 rfl ?_
      obtain ⟨v2, e1, hf⟩ := xbd hf
      refine gf_X12_171 (pc := 77) C e1 dX12_count_77 ?_
      have hf := xsj hf
      subst hf
      exact ww_iret (pc := 80) C hk dX12_count_80
    · refine ⟨81, 80, rfl, by decide, ?_⟩
      have hf := xsw_in 1 hk1 rfl hf
      refine ww_aload_n (pc := 81) C 0 dX12_count_81 rfl ?_
      obtain ⟨v2, e1, hf⟩ := xbd hf
      refine gf_X12_177 (pc := 82) C e1 dX12_count_82 ?_
      have hf := xsj hf
      subst hf
      exact ww_iret (pc := 85) C hk dX12_count_85
    · refine ⟨86, 85, rfl, by decide, ?_⟩
      have hf := xsw_in 2 hk1 rfl hf
      refine ww_aload_n (pc := 86) C 0 dX12_count_86 rfl ?_
      obtain ⟨z2, e1, hf⟩ := xbd hf
      refine gf_X12_40 (pc := 87) C e1 dX12_count_87 ?_
      refine ww_bipush (pc := 90) (v := (64 : Int32)) C dX12_count_90 (by decide) ?_
      obtain ⟨v4, e3, hf⟩ := xbd hf
      refine ww_iald (pc := 92) C e3 dX12_count_92 ?_
      have hf := xsj hf
      subst hf
      exact ww_iret (pc := 93) C hk dX12_count_93
    · refine ⟨94, 93, rfl, by decide, ?_⟩
      have hf := xsw_in 3 hk1 rfl hf
      refine ww_aload_n (pc := 94) C 0 dX12_count_94 rfl ?_
      obtain ⟨_, e1, hf⟩ := xbd hf
      obtain ⟨v3, e2, hf⟩ := xbd hf
      refine ww_callVi (pc := 95) (as := []) (st := []) C (k_X12_lawfulMany (l := gl G) (E := gE G) (hb := gB G) (σ := σ) e2) rfl (by decide) xc_X12_338 q1741 qp156 (xck_spec e1) rfl (by decide) (xst4 (Nat.le_of_ble_eq_true rfl)) xsame.rf.le xsame.rf.lim dX12_count_95 ?_
      have hf := xsj hf
      subst hf
      exact ww_iret (pc := 98) C hk dX12_count_98
    · refine ⟨99, 98, rfl, by decide, ?_⟩
      have hf := xsw_in 4 hk1 rfl hf
      refine ww_aload_n (pc := 99) C 0 dX12_count_99 rfl ?_
      obtain ⟨_, e1, hf⟩ := xbd hf
      obtain ⟨v3, e2, hf⟩ := xbd hf
      refine ww_callVi (pc := 100) (as := []) (st := []) C (k_X12_pinned (l := gl G) (E := gE G) (hb := gB G) (σ := σ) e2) rfl (by decide) xc_X12_341 q1745 qp157 (xck_spec e1) rfl (by decide) (xst4 (Nat.le_of_ble_eq_true rfl)) xsame.rf.le xsame.rf.lim dX12_count_100 ?_
      have hf := xsj hf
      subst hf
      exact ww_iret (pc := 103) C hk dX12_count_103
    · refine ⟨104, 103, rfl, by decide, ?_⟩
      have hf := xsw_in 5 hk1 rfl hf
      refine ww_aload_n (pc := 104) C 0 dX12_count_104 rfl ?_
      obtain ⟨_, e1, hf⟩ := xbd hf
      obtain ⟨v3, e2, hf⟩ := xbd hf
      refine ww_callVi (pc := 105) (as := []) (st := []) C (k_X12_ties (l := gl G) (E := gE G) (hb := gB G) (σ := σ) e2) rfl (by decide) xc_X12_344 q1749 qp158 (xck_spec e1) rfl (by decide) (xst4 (Nat.le_of_ble_eq_true rfl)) xsame.rf.le xsame.rf.lim dX12_count_105 ?_
      have hf := xsj hf
      subst hf
      exact ww_iret (pc := 108) C hk dX12_count_108
    · refine ⟨109, 108, rfl, by decide, ?_⟩
      have hf := xsw_in 6 hk1 rfl hf
      refine ww_aload_n (pc := 109) C 0 dX12_count_109 rfl ?_
      obtain ⟨v2, e1, hf⟩ := xbd hf
      refine gf_X12_94 (pc := 110) C e1 dX12_count_110 ?_
      have hf := xsj hf
      subst hf
      exact ww_iret (pc := 113) C hk dX12_count_113
    · refine ⟨114, 113, rfl, by decide, ?_⟩
      have hf := xsw_in 7 hk1 rfl hf
      refine ww_aload_n (pc := 114) C 0 dX12_count_114 rfl ?_
      obtain ⟨v2, e1, hf⟩ := xbd hf
      refine gf_X12_197 (pc := 115) C e1 dX12_count_115 ?_
      have hf := xsj hf
      subst hf
      exact ww_iret (pc := 118) C hk dX12_count_118
    · refine ⟨119, 118, rfl, by decide, ?_⟩
      have hf := xsw_in 8 hk1 rfl hf
      refine ww_aload_n (pc := 119) C 0 dX12_count_119 rfl ?_
      obtain ⟨z2, e1, hf⟩ := xbd hf
      refine gf_X12_52 (pc := 120) C e1 dX12_count_120 ?_
      refine ww_iconst (pc := 123) (v := (0 : Int32)) C dX12_count_123 (by decide) ?_
      obtain ⟨v4, e3, hf⟩ := xbd hf
      refine ww_zald (pc := 124) C e3 dX12_count_124 ?_
      refine ww_if_eq (pc := 125) (tgt := 132) C dX12_count_125 (by decide) (fun q => ?_) (fun q => ?_)
      · have hf := xip q hf
        refine ww_iconst (pc := 132) (v := (0 : Int32)) C dX12_count_132 (by decide) ?_
        refine ww_sub [0] rfl ?_
        exact s_X12_count_j133 C hf hk
      · have hf := xin q hf
        refine ww_iconst (pc := 128) (v := (1 : Int32)) C dX12_count_128 (by decide) ?_
        refine ww_goto (pc := 129) (tgt := 133) C dX12_count_129 (by decide) ?_
        refine ww_sub [0] rfl ?_
        exact s_X12_count_j133 C hf hk
    · refine ⟨164, 163, rfl, by decide, ?_⟩
      have hf := xsw_in 9 hk1 rfl hf
      refine ww_aload_n (pc := 164) C 0 dX12_count_164 rfl ?_
      obtain ⟨z2, e1, hf⟩ := xbd hf
      refine gf_X12_40 (pc := 165) C e1 dX12_count_165 ?_
      refine ww_bipush (pc := 168) (v := (65 : Int32)) C dX12_count_168 (by decide) ?_
      obtain ⟨v4, e3, hf⟩ := xbd hf
      refine ww_iald (pc := 170) C e3 dX12_count_170 ?_
      have hf := xsj hf
      subst hf
      exact ww_iret (pc := 171) C hk dX12_count_171
    · refine ⟨172, 171, rfl, by decide, ?_⟩
      have hf := xsw_in 10 hk1 rfl hf
      refine ww_aload_n (pc := 172) C 0 dX12_count_172 rfl ?_
      obtain ⟨_, e1, hf⟩ := xbd hf
      obtain ⟨v3, e2, hf⟩ := xbd hf
      refine ww_callVi (pc := 173) (as := []) (st := []) C (k_X12_clusters (l := gl G) (E := gE G) (hb := gB G) (σ := σ) e2) rfl (by decide) xc_X12_347 q1753 qp159 (xck_spec e1) rfl (by decide) (xst4 (Nat.le_of_ble_eq_true rfl)) xsame.rf.le xsame.rf.lim dX12_count_173 ?_
      have hf := xsj hf
      subst hf
      exact ww_iret (pc := 176) C hk dX12_count_176
    · refine ⟨177, 176, rfl, by decide, ?_⟩
      have hf := xsw_in 11 hk1 rfl hf
      refine ww_aload_n (pc := 177) C 0 dX12_count_177 rfl ?_
      obtain ⟨_, e1, hf⟩ := xbd hf
      obtain ⟨v3, e2, hf⟩ := xbd hf
      refine ww_callVi (pc := 178) (as := []) (st := []) C (k_X12_greatest (l := gl G) (E := gE G) (hb := gB G) (σ := σ) e2) rfl (by decide) xc_X12_350 q1757 qp160 (xck_spec e1) rfl (by decide) (xst4 (Nat.le_of_ble_eq_true rfl)) xsame.rf.le xsame.rf.lim dX12_count_178 ?_
      have hf := xsj hf
      subst hf
      exact ww_iret (pc := 181) C hk dX12_count_181
    · refine ⟨182, 181, rfl, by decide, ?_⟩
      have hf := xsw_in 12 hk1 rfl hf
      refine ww_aload_n (pc := 182) C 0 dX12_count_182 rfl ?_
      obtain ⟨v2, e1, hf⟩ := xbd hf
      refine gf_X12_184 (pc := 183) C e1 dX12_count_183 ?_
      refine ww_if_eq (pc := 186) (tgt := 193) C dX12_count_186 (by decide) (fun q => ?_) (fun q => ?_)
      · have hf := xip q hf
        refine ww_iconst (pc := 193) (v := (0 : Int32)) C dX12_count_193 (by decide) ?_
        refine ww_sub [0] rfl ?_
        exact s_X12_count_j194 C hf hk
      · have hf := xin q hf
        refine ww_iconst (pc := 189) (v := (1 : Int32)) C dX12_count_189 (by decide) ?_
        refine ww_goto (pc := 190) (tgt := 194) C dX12_count_190 (by decide) ?_
        refine ww_sub [0] rfl ?_
        exact s_X12_count_j194 C hf hk
    · refine ⟨208, 207, rfl, by decide, ?_⟩
      have hf := xsw_in 13 hk1 rfl hf
      refine ww_aload_n (pc := 208) C 0 dX12_count_208 rfl ?_
      obtain ⟨_, e1, hf⟩ := xbd hf
      obtain ⟨v3, e2, hf⟩ := xbd hf
      refine ww_callVi (pc := 209) (as := []) (st := []) C (k_X12_fewestBroken (l := gl G) (E := gE G) (hb := gB G) (σ := σ) e2) rfl (by decide) xc_X12_353 q1761 qp161 (xck_spec e1) rfl (by decide) (xst4 (Nat.le_of_ble_eq_true rfl)) xsame.rf.le xsame.rf.lim dX12_count_209 ?_
      have hf := xsj hf
      subst hf
      exact ww_iret (pc := 212) C hk dX12_count_212
    · refine ⟨213, 212, rfl, by decide, ?_⟩
      have hf := xsw_in 14 hk1 rfl hf
      refine ww_aload_n (pc := 213) C 0 dX12_count_213 rfl ?_
      obtain ⟨_, e1, hf⟩ := xbd hf
      obtain ⟨v3, e2, hf⟩ := xbd hf
      refine ww_callVi (pc := 214) (as := []) (st := []) C (k_X12_odds (l := gl G) (E := gE G) (hb := gB G) (σ := σ) e2) rfl (by decide) xc_X12_356 q1765 qp162 (xck_spec e1) rfl (by decide) (xst4 (Nat.le_of_ble_eq_true rfl)) xsame.rf.le xsame.rf.lim dX12_count_214 ?_
      have hf := xsj hf
      subst hf
      exact ww_iret (pc := 217) C hk dX12_count_217
  · refine ⟨218, by decide, ?_⟩
    have hf := xsw_out ho rfl hf
    refine ww_iconst (pc := 218) (v := (-1 : Int32)) C dX12_count_218 (by decide) ?_
    have hf := xsj hf
    subst hf
    exact ww_iret (pc := 219) C hk dX12_count_219
theorem k_X12_count {l : Launch} {E : XD} {hb : Nat} {σ : XS} {r0 : Nat} {x1 : Int32} {x : Int32} (h : f_X12_count σ r0 x1 = some x) : XM l yX12_count cX12_count 2 (some .int) 4 98 E hb [.ref (hb + r0), .int x1] σ (some (.int x)) σ := by
  refine xm_of (by decide) (Nat.le_of_ble_eq_true rfl) ⟨Nat.le_refl _, Nat.le_refl _⟩ (fun G hG C hl hQ => ?_)
  obtain ⟨rfl, rfl, rfl, hN⟩ := hG
  exact s_X12_count_e C h hQ
noncomputable def f_X12_token (σ : XS) (r0 : Nat) (x1 : Int32) (x2 : Int32) (x3 : Int32) (w4 : Int64) : Option XS := (xgR σ r0 12 5).bind fun z2 => (xgI σ r0 12 10).bind fun v4 => (xsI σ 20 z2 v4 x1).bind fun σ6 => (xgR σ6 r0 12 6).bind fun z8 => (xgI σ6 r0 12 10).bind fun v10 => (xsI σ6 20 z8 v10 x2).bind fun σ12 => (xgR σ12 r0 12 7).bind fun z14 => (xgI σ12 r0 12 10).bind fun v16 => (xsI σ12 20 z14 v16 x3).bind fun σ18 => (xgR σ18 r0 12 8).bind fun z20 => (xgI σ18 r0 12 10).bind fun v22 => (xsL σ18 z20 v22 w4).bind fun σ24 => (xgI σ24 r0 12 10).bind fun v26 => (xpI σ24 r0 12 10 (v26 + (1 : Int32))).bind fun σ28 => some σ28
theorem s_X12_token_e {G : XG} (C : XC G cX12_token RX12 none 6 0 0) {σ : XS} {r0 : Nat} {x1 : Int32} {x2 : Int32} {x3 : Int32} {w4 : Int64} {x : XS} (hf : f_X12_token σ r0 x1 x2 x3 w4 = some x) (hk : XEnd G none x) : WW G 0 [(0, .ref (gB G + r0)), (1, .int x1), (2, .int x2), (3, .int x3), (4, .long w4)] [] σ := by
  refine ww_aload_n (pc := 0) C 0 dX12_token_0 rfl ?_
  obtain ⟨z2, e1, hf⟩ := xbd hf
  refine gf_X12_20 (pc := 1) C e1 dX12_token_1 ?_
  refine ww_aload_n (pc := 4) C 0 dX12_token_4 rfl ?_
  obtain ⟨v4, e3, hf⟩ := xbd hf
  refine gf_X12_110 (pc := 5) C e3 dX12_token_5 ?_
  refine ww_iload_n (pc := 8) C 1 dX12_token_8 rfl ?_
  obtain ⟨σ6, e5, hf⟩ := xbd hf
  refine ww_iast (pc := 9) C e5 dX12_token_9 ?_
  refine ww_aload_n (pc := 10) C 0 dX12_token_10 rfl ?_
  obtain ⟨z8, e7, hf⟩ := xbd hf
  refine gf_X12_24 (pc := 11) C e7 dX12_token_11 ?_
  refine ww_aload_n (pc := 14) C 0 dX12_token_14 rfl ?_
  obtain ⟨v10, e9, hf⟩ := xbd hf
  refine gf_X12_110 (pc := 15) C e9 dX12_token_15 ?_
  refine ww_iload_n (pc := 18) C 2 dX12_token_18 rfl ?_
  obtain ⟨σ12, e11, hf⟩ := xbd hf
  refine ww_iast (pc := 19) C e11 dX12_token_19 ?_
  refine ww_aload_n (pc := 20) C 0 dX12_token_20 rfl ?_
  obtain ⟨z14, e13, hf⟩ := xbd hf
  refine gf_X12_27 (pc := 21) C e13 dX12_token_21 ?_
  refine ww_aload_n (pc := 24) C 0 dX12_token_24 rfl ?_
  obtain ⟨v16, e15, hf⟩ := xbd hf
  refine gf_X12_110 (pc := 25) C e15 dX12_token_25 ?_
  refine ww_iload_n (pc := 28) C 3 dX12_token_28 rfl ?_
  obtain ⟨σ18, e17, hf⟩ := xbd hf
  refine ww_iast (pc := 29) C e17 dX12_token_29 ?_
  refine ww_aload_n (pc := 30) C 0 dX12_token_30 rfl ?_
  obtain ⟨z20, e19, hf⟩ := xbd hf
  refine gf_X12_30 (pc := 31) C e19 dX12_token_31 ?_
  refine ww_aload_n (pc := 34) C 0 dX12_token_34 rfl ?_
  obtain ⟨v22, e21, hf⟩ := xbd hf
  refine gf_X12_110 (pc := 35) C e21 dX12_token_35 ?_
  refine ww_lload (pc := 38) C 4 dX12_token_38 rfl ?_
  obtain ⟨σ24, e23, hf⟩ := xbd hf
  refine ww_last (pc := 40) C e23 dX12_token_40 ?_
  refine ww_aload_n (pc := 41) C 0 dX12_token_41 rfl ?_
  refine ww_dup (pc := 42) C dX12_token_42 rfl ?_
  obtain ⟨v26, e25, hf⟩ := xbd hf
  refine gf_X12_110 (pc := 43) C e25 dX12_token_43 ?_
  refine ww_iconst (pc := 46) (v := (1 : Int32)) C dX12_token_46 (by decide) ?_
  refine ww_iadd (pc := 47) C dX12_token_47 ?_
  obtain ⟨σ28, e27, hf⟩ := xbd hf
  refine pf_X12_110 (pc := 48) C e27 dX12_token_48 ?_
  have hf := xsj hf
  subst hf
  exact ww_vret (pc := 51) C hk dX12_token_51
theorem m_X12_token {σ : XS} {r0 : Nat} {x1 : Int32} {x2 : Int32} {x3 : Int32} {w4 : Int64} {x : XS} (hf : f_X12_token σ r0 x1 x2 x3 w4 = some x) : xsame σ x := by
  have hm := xsame.rf (σ := σ)
  obtain ⟨z2, e1, hf⟩ := xbd hf
  obtain ⟨v4, e3, hf⟩ := xbd hf
  obtain ⟨σ6, e5, hf⟩ := xbd hf
  have hm := hm.tr (xsI_same e5)
  obtain ⟨z8, e7, hf⟩ := xbd hf
  obtain ⟨v10, e9, hf⟩ := xbd hf
  obtain ⟨σ12, e11, hf⟩ := xbd hf
  have hm := hm.tr (xsI_same e11)
  obtain ⟨z14, e13, hf⟩ := xbd hf
  obtain ⟨v16, e15, hf⟩ := xbd hf
  obtain ⟨σ18, e17, hf⟩ := xbd hf
  have hm := hm.tr (xsI_same e17)
  obtain ⟨z20, e19, hf⟩ := xbd hf
  obtain ⟨v22, e21, hf⟩ := xbd hf
  obtain ⟨σ24, e23, hf⟩ := xbd hf
  have hm := hm.tr (xsL_same e23)
  obtain ⟨v26, e25, hf⟩ := xbd hf
  obtain ⟨σ28, e27, hf⟩ := xbd hf
  have hm := hm.tr (xpI_same e27)
  have hf := xsj hf
  subst hf
  exact hm
theorem k_X12_token {l : Launch} {E : XD} {hb : Nat} {σ : XS} {r0 : Nat} {x1 : Int32} {x2 : Int32} {x3 : Int32} {w4 : Int64} {x : XS} (h : f_X12_token σ r0 x1 x2 x3 w4 = some x) : XM l yX12_token cX12_token 6 none 0 0 E hb [.ref (hb + r0), .int x1, .int x2, .int x3, .long w4] σ none x := by
  refine xm_of (by decide) (Nat.le_of_ble_eq_true rfl) (m_X12_token h).le (fun G hG C hl hQ => ?_)
  obtain ⟨rfl, rfl, rfl, hN⟩ := hG
  exact s_X12_token_e C h hQ
noncomputable def f_X12_isLetter (x0 : Int32) : Option Int32 := if x0 < (97 : Int32) then (some (0 : Int32)) else if (122 : Int32) < x0 then (some (0 : Int32)) else some (1 : Int32)
theorem s_X12_isLetter_e {G : XG} (C : XC G cX12_isLetter RX12 (some .boolean) 1 0 0) {σ : XS} {x0 : Int32} {x : Int32} (hf : f_X12_isLetter x0 = some x) (hk : XEnd G (some (.int x)) σ) : WW G 0 [(0, .int x0)] [] σ := by
  refine ww_iload_n (pc := 0) C 0 dX12_isLetter_0 rfl ?_
  refine ww_bipush (pc := 1) (v := (97 : Int32)) C dX12_isLetter_1 (by decide) ?_
  refine ww_icmp_lt (pc := 3) (tgt := 16) C dX12_isLetter_3 (by decide) (fun q => ?_) (fun q => ?_)
  · have hf := xip q hf
    refine ww_iconst (pc := 16) (v := (0 : Int32)) C dX12_isLetter_16 (by decide) ?_
    have hf := xsj hf
    subst hf
    exact ww_zret (pc := 17) C rfl hk dX12_isLetter_17
  · have hf := xin q hf
    refine ww_iload_n (pc := 6) C 0 dX12_isLetter_6 rfl ?_
    refine ww_bipush (pc := 7) (v := (122 : Int32)) C dX12_isLetter_7 (by decide) ?_
    refine ww_icmp_gt (pc := 9) (tgt := 16) C dX12_isLetter_9 (by decide) (fun q => ?_) (fun q => ?_)
    · have hf := xip q hf
      refine ww_iconst (pc := 16) (v := (0 : Int32)) C dX12_isLetter_16 (by decide) ?_
      have hf := xsj hf
      subst hf
      exact ww_zret (pc := 17) C rfl hk dX12_isLetter_17
    · have hf := xin q hf
      refine ww_iconst (pc := 12) (v := (1 : Int32)) C dX12_isLetter_12 (by decide) ?_
      refine ww_goto (pc := 13) (tgt := 17) C dX12_isLetter_13 (by decide) ?_
      have hf := xsj hf
      subst hf
      exact ww_zret (pc := 17) C rfl hk dX12_isLetter_17
theorem k_X12_isLetter {l : Launch} {E : XD} {hb : Nat} {σ : XS} {x0 : Int32} {x : Int32} (h : f_X12_isLetter x0 = some x) : XM l yX12_isLetter cX12_isLetter 1 (some .boolean) 0 0 E hb [.int x0] σ (some (.int x)) σ := by
  refine xm_of (by decide) (Nat.le_of_ble_eq_true rfl) ⟨Nat.le_refl _, Nat.le_refl _⟩ (fun G hG C hl hQ => ?_)
  obtain ⟨rfl, rfl, rfl, hN⟩ := hG
  exact s_X12_isLetter_e C h hQ
noncomputable def f_X12_isDigit (x0 : Int32) : Option Int32 := if x0 < (48 : Int32) then (some (0 : Int32)) else if (57 : Int32) < x0 then (some (0 : Int32)) else some (1 : Int32)
theorem s_X12_isDigit_e {G : XG} (C : XC G cX12_isDigit RX12 (some .boolean) 1 0 0) {σ : XS} {x0 : Int32} {x : Int32} (hf : f_X12_isDigit x0 = some x) (hk : XEnd G (some (.int x)) σ) : WW G 0 [(0, .int x0)] [] σ := by
  refine ww_iload_n (pc := 0) C 0 dX12_isDigit_0 rfl ?_
  refine ww_bipush (pc := 1) (v := (48 : Int32)) C dX12_isDigit_1 (by decide) ?_
  refine ww_icmp_lt (pc := 3) (tgt := 16) C dX12_isDigit_3 (by decide) (fun q => ?_) (fun q => ?_)
  · have hf := xip q hf
    refine ww_iconst (pc := 16) (v := (0 : Int32)) C dX12_isDigit_16 (by decide) ?_
    have hf := xsj hf
    subst hf
    exact ww_zret (pc := 17) C rfl hk dX12_isDigit_17
  · have hf := xin q hf
    refine ww_iload_n (pc := 6) C 0 dX12_isDigit_6 rfl ?_
    refine ww_bipush (pc := 7) (v := (57 : Int32)) C dX12_isDigit_7 (by decide) ?_
    refine ww_icmp_gt (pc := 9) (tgt := 16) C dX12_isDigit_9 (by decide) (fun q => ?_) (fun q => ?_)
    · have hf := xip q hf
      refine ww_iconst (pc := 16) (v := (0 : Int32)) C dX12_isDigit_16 (by decide) ?_
      have hf := xsj hf
      subst hf
      exact ww_zret (pc := 17) C rfl hk dX12_isDigit_17
    · have hf := xin q hf
      refine ww_iconst (pc := 12) (v := (1 : Int32)) C dX12_isDigit_12 (by decide) ?_
      refine ww_goto (pc := 13) (tgt := 17) C dX12_isDigit_13 (by decide) ?_
      have hf := xsj hf
      subst hf
      exact ww_zret (pc := 17) C rfl hk dX12_isDigit_17
theorem k_X12_isDigit {l : Launch} {E : XD} {hb : Nat} {σ : XS} {x0 : Int32} {x : Int32} (h : f_X12_isDigit x0 = some x) : XM l yX12_isDigit cX12_isDigit 1 (some .boolean) 0 0 E hb [.int x0] σ (some (.int x)) σ := by
  refine xm_of (by decide) (Nat.le_of_ble_eq_true rfl) ⟨Nat.le_refl _, Nat.le_refl _⟩ (fun G hG C hl hQ => ?_)
  obtain ⟨rfl, rfl, rfl, hN⟩ := hG
  exact s_X12_isDigit_e C h hQ
noncomputable def f_X12_sign_j22 (σ : XS) (x1 : Int32) (t0 : Nat) (t1 : Int32) : Option (Int32 × XS) := (xck σ t0 12).bind fun _ => (f_X12_token σ t0 t1 x1 (0 : Int32) (0 : Int64)).bind fun σ3 => some ((1 : Int32), σ3)
noncomputable def f_X12_sign (σ : XS) (r0 : Nat) (x1 : Int32) (x2 : Int32) : Option (Int32 × XS) := if x2 = (59 : Int32) then (f_X12_sign_j22 σ x1 r0 (4 : Int32)) else if x2 = (45 : Int32) then (f_X12_sign_j22 σ x1 r0 (5 : Int32)) else f_X12_sign_j22 σ x1 r0 (3 : Int32)
theorem s_X12_sign_j22 {G : XG} (C : XC G cX12_sign RX12 (some .int) 3 1 25) {σ : XS} {x1 : Int32} {t0 : Nat} {t1 : Int32} {x : Int32 × XS} (hf : f_X12_sign_j22 σ x1 t0 t1 = some x) (hk : XEnd G (some (.int x.1)) x.2) : WW G 22 [(1, .int x1)] [.int t1, .ref (gB G + t0)] σ := by
  refine ww_iload_n (pc := 22) C 0 dX12_sign_22 rfl ?_
  refine ww_iconst (pc := 23) (v := (0 : Int32)) C dX12_sign_23 (by decide) ?_
  refine ww_lconst (pc := 24) (v := (0 : Int64)) C dX12_sign_24 (by decide) ?_
  obtain ⟨_, e1, hf⟩ := xbd hf
  obtain ⟨σ3, e2, hf⟩ := xbd hf
  refine ww_callVv (pc := 25) (as := [.int t1, .int x1, .int (0 : Int32), .long (0 : Int64)]) (st := []) C (k_X12_token (l := gl G) (E := gE G) (hb := gB G) (σ := σ) e2) rfl (by decide) xc_X12_117 q1428 qp122 (xck_spec e1) rfl (by decide) (xst4 (Nat.le_of_ble_eq_true rfl)) (m_X12_token e2).le (m_X12_token e2).lim dX12_sign_25 ?_
  refine ww_iconst (pc := 28) (v := (1 : Int32)) C dX12_sign_28 (by decide) ?_
  have hf := xsj hf
  subst hf
  exact ww_iret (pc := 29) C hk dX12_sign_29
theorem m_X12_sign_j22 {σ : XS} {x1 : Int32} {t0 : Nat} {t1 : Int32} {x : Int32 × XS} (hf : f_X12_sign_j22 σ x1 t0 t1 = some x) : xsame σ x.2 := by
  have hm := xsame.rf (σ := σ)
  obtain ⟨_, e1, hf⟩ := xbd hf
  obtain ⟨σ3, e2, hf⟩ := xbd hf
  have hm := hm.tr (m_X12_token e2)
  have hf := xsj hf
  subst hf
  exact hm
theorem s_X12_sign_e {G : XG} (C : XC G cX12_sign RX12 (some .int) 3 1 25) {σ : XS} {r0 : Nat} {x1 : Int32} {x2 : Int32} {x : Int32 × XS} (hf : f_X12_sign σ r0 x1 x2 = some x) (hk : XEnd G (some (.int x.1)) x.2) : WW G 0 [(0, .ref (gB G + r0)), (1, .int x1), (2, .int x2)] [] σ := by
  refine ww_aload_n (pc := 0) C 0 dX12_sign_0 rfl ?_
  refine ww_iload_n (pc := 1) C 2 dX12_sign_1 rfl ?_
  refine ww_bipush (pc := 2) (v := (59 : Int32)) C dX12_sign_2 (by decide) ?_
  refine ww_icmp_ne (pc := 4) (tgt := 11) C dX12_sign_4 (by decide) (fun q => ?_) (fun q => ?_)
  · have hf := xin q hf
    refine ww_iload_n (pc := 11) C 2 dX12_sign_11 rfl ?_
    refine ww_bipush (pc := 12) (v := (45 : Int32)) C dX12_sign_12 (by decide) ?_
    refine ww_icmp_ne (pc := 14) (tgt := 21) C dX12_sign_14 (by decide) (fun q => ?_) (fun q => ?_)
    · have hf := xin q hf
      refine ww_iconst (pc := 21) (v := (3 : Int32)) C dX12_sign_21 (by decide) ?_
      refine ww_sub [1] rfl ?_
      exact s_X12_sign_j22 C hf hk
    · have hf := xip q hf
      refine ww_iconst (pc := 17) (v := (5 : Int32)) C dX12_sign_17 (by decide) ?_
      refine ww_goto (pc := 18) (tgt := 22) C dX12_sign_18 (by decide) ?_
      refine ww_sub [1] rfl ?_
      exact s_X12_sign_j22 C hf hk
  · have hf := xip q hf
    refine ww_iconst (pc := 7) (v := (4 : Int32)) C dX12_sign_7 (by decide) ?_
    refine ww_goto (pc := 8) (tgt := 22) C dX12_sign_8 (by decide) ?_
    refine ww_sub [1] rfl ?_
    exact s_X12_sign_j22 C hf hk
theorem m_X12_sign {σ : XS} {r0 : Nat} {x1 : Int32} {x2 : Int32} {x : Int32 × XS} (hf : f_X12_sign σ r0 x1 x2 = some x) : xsame σ x.2 := by
  have hm := xsame.rf (σ := σ)
  by_cases q : x2 = (59 : Int32)
  · have hf := xip q hf
    exact hm.tr (m_X12_sign_j22 hf)
  · have hf := xin q hf
    by_cases q : x2 = (45 : Int32)
    · have hf := xip q hf
      exact hm.tr (m_X12_sign_j22 hf)
    · have hf := xin q hf
      exact hm.tr (m_X12_sign_j22 hf)
theorem k_X12_sign {l : Launch} {E : XD} {hb : Nat} {σ : XS} {r0 : Nat} {x1 : Int32} {x2 : Int32} {x : Int32 × XS} (h : f_X12_sign σ r0 x1 x2 = some x) : XM l yX12_sign cX12_sign 3 (some .int) 1 25 E hb [.ref (hb + r0), .int x1, .int x2] σ (some (.int x.1)) x.2 := by
  refine xm_of (by decide) (Nat.le_of_ble_eq_true rfl) (m_X12_sign h).le (fun G hG C hl hQ => ?_)
  obtain ⟨rfl, rfl, rfl, hN⟩ := hG
  exact s_X12_sign_e C h hQ
noncomputable def f_X12_cutsText_j261 (σ : XS) (r0 : Nat) (x1 : Int32) (x3 : Int32) (x4 : Int32) (t0 : Nat) (t1 : Int32) : Option ((Int32 × XS) ⊕ (XS)) := (xck σ t0 12).bind fun _ => (f_X12_token σ t0 t1 x1 x4 (0 : Int64)).bind fun σ3 => some (.inl (x1 + x3, σ3))
noncomputable def f_X12_cutsText_b208 (σ : XS) (r0 : Nat) (x1 : Int32) : Int32 × Int32 → Option ((Int32 × Int32) ⊕ ((Int32 × XS) ⊕ (XS))) := fun a => match a with
  | (x3, x4) => (xck σ r0 12).bind fun _ => (f_X12_byteAt σ r0 (x1 + x3)).bind fun v3 => (f_X12_isDigit v3).bind fun v5 => if v5 = 0 then ((if x3 ≤ (4 : Int32) then (f_X12_cutsText_j261 σ r0 x1 x3 x4 r0 (2 : Int32)) else f_X12_cutsText_j261 σ r0 x1 x3 x4 r0 (3 : Int32)).map .inr) else if (4 : Int32) ≤ x3 then (some (.inl (x3 + (1 : Int32), x4))) else (xck σ r0 12).bind fun _ => (f_X12_byteAt σ r0 (x1 + x3)).bind fun v8 => some (.inl (x3 + (1 : Int32), (((10 : Int32) * x4) + v8) - (48 : Int32)))
noncomputable def f_X12_cutsText_j179 (σ : XS) (r0 : Nat) (x1 : Int32) (x3 : Int32) (w4 : Int64) (x6 : Int32) : Option ((Int32 × XS) ⊕ (XS)) := (xck σ r0 12).bind fun _ => (f_X12_token σ r0 x6 x1 (0 : Int32) w4).bind fun σ3 => some (.inl (x1 + x3, σ3))
noncomputable def f_X12_cutsText_b146 (σ : XS) (r0 : Nat) (x1 : Int32) (x3 : Int32) (w4 : Int64) : Int32 × Int32 → Option ((Int32 × Int32) ⊕ ((Int32 × XS) ⊕ (XS))) := fun a => match a with
  | (x6, x7) => if (11 : Int32) ≤ x7 then ((f_X12_cutsText_j179 σ r0 x1 x3 w4 x6).map .inr) else (xgR σ r0 12 9).bind fun z2 => (xaL σ z2 x7).bind fun v4 => if (lg_cmp v4 w4) = 0 then (some (.inl ((20 : Int32) + x7, x7 + (1 : Int32)))) else some (.inl (x6, x7 + (1 : Int32)))
noncomputable def f_X12_cutsText_j135 (σ : XS) (r0 : Nat) (x1 : Int32) (x3 : Int32) (w4 : Int64) (t0 : Int32) : Option ((Int32 × XS) ⊕ (XS)) := if (8 : Int32) < x3 then (f_X12_cutsText_j179 σ r0 x1 x3 w4 t0) else xloop (f_X12_cutsText_b146 σ r0 x1 x3 w4) (t0, (0 : Int32))
noncomputable def f_X12_cutsText_b85 (σ : XS) (r0 : Nat) (x1 : Int32) : Int32 × Int64 → Option ((Int32 × Int64) ⊕ ((Int32 × XS) ⊕ (XS))) := fun a => match a with
  | (x3, w4) => (xck σ r0 12).bind fun _ => (f_X12_byteAt σ r0 (x1 + x3)).bind fun v3 => (f_X12_isLetter v3).bind fun v5 => if v5 = 0 then ((if x3 ≤ (8 : Int32) then (f_X12_cutsText_j135 σ r0 x1 x3 w4 (1 : Int32)) else f_X12_cutsText_j135 σ r0 x1 x3 w4 (3 : Int32)).map .inr) else if (8 : Int32) ≤ x3 then (some (.inl (x3 + (1 : Int32), w4))) else (xck σ r0 12).bind fun _ => (f_X12_byteAt σ r0 (x1 + x3)).bind fun v8 => (f_X12_appends w4 v8).bind fun v10 => some (.inl (x3 + (1 : Int32), v10))
noncomputable def f_X12_cutsText_b7 (r0 : Nat) : Int32 × XS → Option ((Int32 × XS) ⊕ (XS)) := fun a => match a with
  | (x1, σ) => (xgI σ r0 12 10).bind fun v2 => if (400 : Int32) < v2 then ((some σ).map .inr) else (xck σ r0 12).bind fun _ => (f_X12_byteAt σ r0 x1).bind fun v5 => (xgI σ r0 12 4).bind fun v7 => if x1 < v7 then (if v5 = (9 : Int32) then (some (.inl (x1 + (1 : Int32), σ))) else if v5 = (10 : Int32) then (some (.inl (x1 + (1 : Int32), σ))) else if v5 = (13 : Int32) then (some (.inl (x1 + (1 : Int32), σ))) else if v5 = (32 : Int32) then (some (.inl (x1 + (1 : Int32), σ))) else (f_X12_isLetter v5).bind fun v9 => if v9 = 0 then ((f_X12_isDigit v5).bind fun v11 => if v11 = 0 then ((xck σ r0 12).bind fun _ => (f_X12_sign σ r0 x1 v5).bind fun (v15, σ14) => some (.inl (x1 + v15, σ14))) else xloop (f_X12_cutsText_b208 σ r0 x1) ((0 : Int32), (0 : Int32))) else xloop (f_X12_cutsText_b85 σ r0 x1) ((0 : Int32), (0 : Int64))) else ((xgI σ r0 12 4).bind fun v9 => (xck σ r0 12).bind fun _ => (f_X12_token σ r0 (0 : Int32) v9 (0 : Int32) (0 : Int64)).bind fun σ12 => some σ12).map .inr
noncomputable def f_X12_cutsText (σ : XS) (r0 : Nat) : Option XS := (xpI σ r0 12 10 (0 : Int32)).bind fun σ2 => xloop (f_X12_cutsText_b7 r0) ((0 : Int32), σ2)
theorem s_X12_cutsText_j261 {G : XG} (C : XC G cX12_cutsText RX12 none 8 2 47) {σ : XS} {r0 : Nat} {x1 : Int32} {x3 : Int32} {x4 : Int32} {t0 : Nat} {t1 : Int32} {x : ((Int32 × XS) ⊕ (XS))} (hf : f_X12_cutsText_j261 σ r0 x1 x3 x4 t0 t1 = some x) (hk : (∀ a' : Int32 × XS, x = .inl a' → WW G 7 [(0, .ref (gB G + r0)), (1, .int a'.1)] [] a'.2) ∧ (∀ b1 : XS, x = .inr b1 → XEnd G none b1)) : WW G 261 [(0, .ref (gB G + r0)), (1, .int x1), (3, .int x3), (4, .int x4)] [.int t1, .ref (gB G + t0)] σ := by
  refine ww_iload_n (pc := 261) C 1 dX12_cutsText_261 rfl ?_
  refine ww_iload (pc := 262) C 3 dX12_cutsText_262 rfl ?_
  refine ww_lconst (pc := 264) (v := (0 : Int64)) C dX12_cutsText_264 (by decide) ?_
  obtain ⟨_, e1, hf⟩ := xbd hf
  obtain ⟨σ3, e2, hf⟩ := xbd hf
  refine ww_callVv (pc := 265) (as := [.int t1, .int x1, .int x4, .long (0 : Int64)]) (st := []) C (k_X12_token (l := gl G) (E := gE G) (hb := gB G) (σ := σ) e2) rfl (by decide) xc_X12_117 q1428 qp122 (xck_spec e1) rfl (by decide) (xst4 (Nat.le_of_ble_eq_true rfl)) (m_X12_token e2).le (m_X12_token e2).lim dX12_cutsText_265 ?_
  refine ww_iload_n (pc := 268) C 1 dX12_cutsText_268 rfl ?_
  refine ww_iload_n (pc := 269) C 2 dX12_cutsText_269 rfl ?_
  refine ww_iadd (pc := 270) C dX12_cutsText_270 ?_
  refine ww_istore_n (pc := 271) (lv' := [(1, .int (x1 + x3)), (0, .ref (gB G + r0)), (3, .int x3), (4, .int x4)]) C dX12_cutsText_271 (by decide) rfl ?_
  refine ww_goto (pc := 272) (tgt := 284) C dX12_cutsText_272 (by decide) ?_
  refine ww_goto (pc := 284) (tgt := 7) C dX12_cutsText_284 (by decide) ?_
  have hf := xsj hf
  subst hf
  refine ww_sub [1, 0] rfl ?_
  exact hk.1 (x1 + x3, σ3) rfl
theorem m_X12_cutsText_j261 {σ : XS} {r0 : Nat} {x1 : Int32} {x3 : Int32} {x4 : Int32} {t0 : Nat} {t1 : Int32} {x : ((Int32 × XS) ⊕ (XS))} (hf : f_X12_cutsText_j261 σ r0 x1 x3 x4 t0 t1 = some x) : (∀ a' : Int32 × XS, x = .inl a' → xsame σ a'.2) ∧ (∀ b1 : XS, x = .inr b1 → xsame σ b1) := by
  have hm := xsame.rf (σ := σ)
  obtain ⟨_, e1, hf⟩ := xbd hf
  obtain ⟨σ3, e2, hf⟩ := xbd hf
  have hm := hm.tr (m_X12_token e2)
  have hf := xsj hf
  subst hf
  exact ⟨fun a' e => (by have h9 := Sum.inl.inj e; subst h9; exact hm), fun b e => xnc1 e⟩
theorem m_X12_cutsText_l208 {σ : XS} {r0 : Nat} {x1 : Int32} {a : Int32 × Int32} {x : ((Int32 × XS) ⊕ (XS))} (hf : xloop (f_X12_cutsText_b208 σ r0 x1) a = some x) : (∀ a' : Int32 × XS, x = .inl a' → xsame σ a'.2) ∧ (∀ b1 : XS, x = .inr b1 → xsame σ b1) := by
  refine xloop_ind (P := fun a => (∀ a' : Int32 × XS, x = .inl a' → xsame σ a'.2) ∧ (∀ b1 : XS, x = .inr b1 → xsame σ b1)) (fun a y hf hc he => ?_) hf
  obtain ⟨x3, x4⟩ := a
  have hy : (∀ a' : Int32 × Int32, y = .inl a' → True) ∧ (∀ b2 : ((Int32 × XS) ⊕ (XS)), y = .inr b2 → (∀ a' : Int32 × XS, b2 = .inl a' → xsame σ a'.2) ∧ (∀ b1 : XS, b2 = .inr b1 → xsame σ b1)) := by
    have hm := xsame.rf (σ := σ)
    obtain ⟨_, e1, hf⟩ := xbd hf
    obtain ⟨v3, e2, hf⟩ := xbd hf
    obtain ⟨v5, e4, hf⟩ := xbd hf
    by_cases q : v5 = 0
    · have hf := xip q hf
      obtain ⟨b0, hg, e9⟩ := xmj hf
      subst e9
      have hf := hg
      refine ⟨fun a' e => xnc2 e, fun b e => ?_⟩
      have h9 := Sum.inr.inj e
      subst h9
      by_cases q : x3 ≤ (4 : Int32)
      · have hf := xip q hf
        exact ⟨fun a' e => hm.tr ((m_X12_cutsText_j261 hf).1 a' e), fun b1 eb1 => hm.tr ((m_X12_cutsText_j261 hf).2 b1 eb1)⟩
      · have hf := xin q hf
        exact ⟨fun a' e => hm.tr ((m_X12_cutsText_j261 hf).1 a' e), fun b1 eb1 => hm.tr ((m_X12_cutsText_j261 hf).2 b1 eb1)⟩
    · have hf := xin q hf
      by_cases q : (4 : Int32) ≤ x3
      · have hf := xip q hf
        have hf := xsj hf
        subst hf
        exact ⟨fun a' e => (by have h9 := Sum.inl.inj e; subst h9; exact trivial), fun b e => xnc1 e⟩
      · have hf := xin q hf
        obtain ⟨_, e6, hf⟩ := xbd hf
        obtain ⟨v8, e7, hf⟩ := xbd hf
        have hf := xsj hf
        subst hf
        exact ⟨fun a' e => (by have h9 := Sum.inl.inj e; subst h9; exact trivial), fun b e => xnc1 e⟩
  cases y with
  | inl a' =>
    have h1 := hc a' rfl
    exact h1
  | inr b =>
    have h1 := he b rfl
    subst h1
    exact hy.2 _ rfl
theorem s_X12_cutsText_l208 {G : XG} (C : XC G cX12_cutsText RX12 none 8 2 47) {σ : XS} {r0 : Nat} {x1 : Int32} {a : Int32 × Int32} {x : ((Int32 × XS) ⊕ (XS))} (hf : xloop (f_X12_cutsText_b208 σ r0 x1) a = some x) (hk : (∀ a' : Int32 × XS, x = .inl a' → WW G 7 [(0, .ref (gB G + r0)), (1, .int a'.1)] [] a'.2) ∧ (∀ b1 : XS, x = .inr b1 → XEnd G none b1)) : WW G 208 [(0, .ref (gB G + r0)), (1, .int x1), (3, .int a.1), (4, .int a.2)] [] σ := by
  refine xloop_ind (P := fun a => WW G 208 [(0, .ref (gB G + r0)), (1, .int x1), (3, .int a.1), (4, .int a.2)] [] σ) (fun a y hf hc he => ?_) hf
  obtain ⟨x3, x4⟩ := a
  have hk : (∀ a' : Int32 × Int32, y = .inl a' → WW G 208 [(0, .ref (gB G + r0)), (1, .int x1), (3, .int a'.1), (4, .int a'.2)] [] σ) ∧ (∀ b2 : ((Int32 × XS) ⊕ (XS)), y = .inr b2 → (∀ a' : Int32 × XS, b2 = .inl a' → WW G 7 [(0, .ref (gB G + r0)), (1, .int a'.1)] [] a'.2) ∧ (∀ b1 : XS, b2 = .inr b1 → XEnd G none b1)) := ⟨hc, fun b e => by have h9 := he b e; subst h9; exact hk⟩
  refine ww_aload_n (pc := 208) C 0 dX12_cutsText_208 rfl ?_
  refine ww_iload_n (pc := 209) C 1 dX12_cutsText_209 rfl ?_
  refine ww_iload_n (pc := 210) C 2 dX12_cutsText_210 rfl ?_
  refine ww_iadd (pc := 211) C dX12_cutsText_211 ?_
  obtain ⟨_, e1, hf⟩ := xbd hf
  obtain ⟨v3, e2, hf⟩ := xbd hf
  refine ww_callVi (pc := 212) (as := [.int (x1 + x3)]) (st := []) C (k_X12_byteAt (l := gl G) (E := gE G) (hb := gB G) (σ := σ) e2) rfl (by decide) xc_X12_113 q1424 qp121 (xck_spec e1) rfl (by decide) (xst4 (Nat.le_of_ble_eq_true rfl)) xsame.rf.le xsame.rf.lim dX12_cutsText_212 ?_
  obtain ⟨v5, e4, hf⟩ := xbd hf
  refine ww_callSi (pc := 215) (as := [.int v3]) (st := []) C (k_X12_isDigit (l := gl G) (E := gE G) (hb := gB G) (σ := σ) e4) xc_X12_125 q1434 rfl (by decide) (xst4 (Nat.le_of_ble_eq_true rfl)) xsame.rf.le xsame.rf.lim dX12_cutsText_215 ?_
  refine ww_if_eq (pc := 218) (tgt := 250) C dX12_cutsText_218 (by decide) (fun q => ?_) (fun q => ?_)
  · have hf := xip q hf
    obtain ⟨b0, hg, e9⟩ := xmj hf
    subst e9
    have hf := hg
    have hk := hk.2 _ rfl
    refine ww_aload_n (pc := 250) C 0 dX12_cutsText_250 rfl ?_
    refine ww_iload_n (pc := 251) C 2 dX12_cutsText_251 rfl ?_
    refine ww_iconst (pc := 252) (v := (4 : Int32)) C dX12_cutsText_252 (by decide) ?_
    refine ww_icmp_le (pc := 253) (tgt := 260) C dX12_cutsText_253 (by decide) (fun q => ?_) (fun q => ?_)
    · have hf := xip q hf
      refine ww_iconst (pc := 260) (v := (2 : Int32)) C dX12_cutsText_260 (by decide) ?_
      refine ww_sub [0, 1, 2, 3] rfl ?_
      exact s_X12_cutsText_j261 C hf hk
    · have hf := xin q hf
      refine ww_iconst (pc := 256) (v := (3 : Int32)) C dX12_cutsText_256 (by decide) ?_
      refine ww_goto (pc := 257) (tgt := 261) C dX12_cutsText_257 (by decide) ?_
      refine ww_sub [0, 1, 2, 3] rfl ?_
      exact s_X12_cutsText_j261 C hf hk
  · have hf := xin q hf
    refine ww_iload_n (pc := 221) C 2 dX12_cutsText_221 rfl ?_
    refine ww_iconst (pc := 222) (v := (4 : Int32)) C dX12_cutsText_222 (by decide) ?_
    refine ww_icmp_ge (pc := 223) (tgt := 244) C dX12_cutsText_223 (by decide) (fun q => ?_) (fun q => ?_)
    · have hf := xip q hf
      refine ww_iinc (pc := 244) (v := x3 + (1 : Int32)) (lv' := [(3, .int (x3 + (1 : Int32))), (0, .ref (gB G + r0)), (1, .int x1), (4, .int x4)]) C 2 dX12_cutsText_244 rfl (congrArg (fun z => x3 + z) (show Int32.ofInt (1) = (1 : Int32) by decide)) (by decide) rfl ?_
      refine ww_goto (pc := 247) (tgt := 208) C dX12_cutsText_247 (by decide) ?_
      have hf := xsj hf
      subst hf
      refine ww_sub [1, 2, 0, 3] rfl ?_
      exact hk.1 (x3 + (1 : Int32), x4) rfl
    · have hf := xin q hf
      refine ww_bipush (pc := 226) (v := (10 : Int32)) C dX12_cutsText_226 (by decide) ?_
      refine ww_iload (pc := 228) C 3 dX12_cutsText_228 rfl ?_
      refine ww_imul (pc := 230) C dX12_cutsText_230 ?_
      refine ww_aload_n (pc := 231) C 0 dX12_cutsText_231 rfl ?_
      refine ww_iload_n (pc := 232) C 1 dX12_cutsText_232 rfl ?_
      refine ww_iload_n (pc := 233) C 2 dX12_cutsText_233 rfl ?_
      refine ww_iadd (pc := 234) C dX12_cutsText_234 ?_
      obtain ⟨_, e6, hf⟩ := xbd hf
      obtain ⟨v8, e7, hf⟩ := xbd hf
      refine ww_callVi (pc := 235) (as := [.int (x1 + x3)]) (st := [.int ((10 : Int32) * x4)]) C (k_X12_byteAt (l := gl G) (E := gE G) (hb := gB G) (σ := σ) e7) rfl (by decide) xc_X12_113 q1424 qp121 (xck_spec e6) rfl (by decide) (xst4 (Nat.le_of_ble_eq_true rfl)) xsame.rf.le xsame.rf.lim dX12_cutsText_235 ?_
      refine ww_iadd (pc := 238) C dX12_cutsText_238 ?_
      refine ww_bipush (pc := 239) (v := (48 : Int32)) C dX12_cutsText_239 (by decide) ?_
      refine ww_isub (pc := 241) C dX12_cutsText_241 ?_
      refine ww_istore (pc := 242) (lv' := [(4, .int ((((10 : Int32) * x4) + v8) - (48 : Int32))), (0, .ref (gB G + r0)), (1, .int x1), (3, .int x3)]) C dX12_cutsText_242 (by decide) rfl ?_
      refine ww_iinc (pc := 244) (v := x3 + (1 : Int32)) (lv' := [(3, .int (x3 + (1 : Int32))), (4, .int ((((10 : Int32) * x4) + v8) - (48 : Int32))), (0, .ref (gB G + r0)), (1, .int x1)]) C 3 dX12_cutsText_244 rfl (congrArg (fun z => x3 + z) (show Int32.ofInt (1) = (1 : Int32) by decide)) (by decide) rfl ?_
      refine ww_goto (pc := 247) (tgt := 208) C dX12_cutsText_247 (by decide) ?_
      have hf := xsj hf
      subst hf
      refine ww_sub [2, 3, 0, 1] rfl ?_
      exact hk.1 (x3 + (1 : Int32), (((10 : Int32) * x4) + v8) - (48 : Int32)) rfl
theorem s_X12_cutsText_j179 {G : XG} (C : XC G cX12_cutsText RX12 none 8 2 47) {σ : XS} {r0 : Nat} {x1 : Int32} {x3 : Int32} {w4 : Int64} {x6 : Int32} {x : ((Int32 × XS) ⊕ (XS))} (hf : f_X12_cutsText_j179 σ r0 x1 x3 w4 x6 = some x) (hk : (∀ a' : Int32 × XS, x = .inl a' → WW G 7 [(0, .ref (gB G + r0)), (1, .int a'.1)] [] a'.2) ∧ (∀ b1 : XS, x = .inr b1 → XEnd G none b1)) : WW G 179 [(0, .ref (gB G + r0)), (1, .int x1), (3, .int x3), (4, .long w4), (6, .int x6)] [] σ := by
  refine ww_aload_n (pc := 179) C 0 dX12_cutsText_179 rfl ?_
  refine ww_iload (pc := 180) C 4 dX12_cutsText_180 rfl ?_
  refine ww_iload_n (pc := 182) C 1 dX12_cutsText_182 rfl ?_
  refine ww_iconst (pc := 183) (v := (0 : Int32)) C dX12_cutsText_183 (by decide) ?_
  refine ww_lload (pc := 184) C 3 dX12_cutsText_184 rfl ?_
  obtain ⟨_, e1, hf⟩ := xbd hf
  obtain ⟨σ3, e2, hf⟩ := xbd hf
  refine ww_callVv (pc := 186) (as := [.int x6, .int x1, .int (0 : Int32), .long w4]) (st := []) C (k_X12_token (l := gl G) (E := gE G) (hb := gB G) (σ := σ) e2) rfl (by decide) xc_X12_117 q1428 qp122 (xck_spec e1) rfl (by decide) (xst4 (Nat.le_of_ble_eq_true rfl)) (m_X12_token e2).le (m_X12_token e2).lim dX12_cutsText_186 ?_
  refine ww_iload_n (pc := 189) C 1 dX12_cutsText_189 rfl ?_
  refine ww_iload_n (pc := 190) C 2 dX12_cutsText_190 rfl ?_
  refine ww_iadd (pc := 191) C dX12_cutsText_191 ?_
  refine ww_istore_n (pc := 192) (lv' := [(1, .int (x1 + x3)), (0, .ref (gB G + r0)), (3, .int x3), (4, .long w4), (6, .int x6)]) C dX12_cutsText_192 (by decide) rfl ?_
  refine ww_goto (pc := 193) (tgt := 284) C dX12_cutsText_193 (by decide) ?_
  refine ww_goto (pc := 284) (tgt := 7) C dX12_cutsText_284 (by decide) ?_
  have hf := xsj hf
  subst hf
  refine ww_sub [1, 0] rfl ?_
  exact hk.1 (x1 + x3, σ3) rfl
theorem m_X12_cutsText_j179 {σ : XS} {r0 : Nat} {x1 : Int32} {x3 : Int32} {w4 : Int64} {x6 : Int32} {x : ((Int32 × XS) ⊕ (XS))} (hf : f_X12_cutsText_j179 σ r0 x1 x3 w4 x6 = some x) : (∀ a' : Int32 × XS, x = .inl a' → xsame σ a'.2) ∧ (∀ b1 : XS, x = .inr b1 → xsame σ b1) := by
  have hm := xsame.rf (σ := σ)
  obtain ⟨_, e1, hf⟩ := xbd hf
  obtain ⟨σ3, e2, hf⟩ := xbd hf
  have hm := hm.tr (m_X12_token e2)
  have hf := xsj hf
  subst hf
  exact ⟨fun a' e => (by have h9 := Sum.inl.inj e; subst h9; exact hm), fun b e => xnc1 e⟩
theorem m_X12_cutsText_l146 {σ : XS} {r0 : Nat} {x1 : Int32} {x3 : Int32} {w4 : Int64} {a : Int32 × Int32} {x : ((Int32 × XS) ⊕ (XS))} (hf : xloop (f_X12_cutsText_b146 σ r0 x1 x3 w4) a = some x) : (∀ a' : Int32 × XS, x = .inl a' → xsame σ a'.2) ∧ (∀ b1 : XS, x = .inr b1 → xsame σ b1) := by
  refine xloop_ind (P := fun a => (∀ a' : Int32 × XS, x = .inl a' → xsame σ a'.2) ∧ (∀ b1 : XS, x = .inr b1 → xsame σ b1)) (fun a y hf hc he => ?_) hf
  obtain ⟨x6, x7⟩ := a
  have hy : (∀ a' : Int32 × Int32, y = .inl a' → True) ∧ (∀ b2 : ((Int32 × XS) ⊕ (XS)), y = .inr b2 → (∀ a' : Int32 × XS, b2 = .inl a' → xsame σ a'.2) ∧ (∀ b1 : XS, b2 = .inr b1 → xsame σ b1)) := by
    have hm := xsame.rf (σ := σ)
    by_cases q : (11 : Int32) ≤ x7
    · have hf := xip q hf
      obtain ⟨b0, hg, e9⟩ := xmj hf
      subst e9
      have hf := hg
      refine ⟨fun a' e => xnc2 e, fun b e => ?_⟩
      have h9 := Sum.inr.inj e
      subst h9
      exact ⟨fun a' e => hm.tr ((m_X12_cutsText_j179 hf).1 a' e), fun b1 eb1 => hm.tr ((m_X12_cutsText_j179 hf).2 b1 eb1)⟩
    · have hf := xin q hf
      obtain ⟨z2, e1, hf⟩ := xbd hf
      obtain ⟨v4, e3, hf⟩ := xbd hf
      by_cases q : (lg_cmp v4 w4) = 0
      · have hf := xip q hf
        have hf := xsj hf
        subst hf
        exact ⟨fun a' e => (by have h9 := Sum.inl.inj e; subst h9; exact trivial), fun b e => xnc1 e⟩
      · have hf := xin q hf
        have hf := xsj hf
        subst hf
        exact ⟨fun a' e => (by have h9 := Sum.inl.inj e; subst h9; exact trivial), fun b e => xnc1 e⟩
  cases y with
  | inl a' =>
    have h1 := hc a' rfl
    exact h1
  | inr b =>
    have h1 := he b rfl
    subst h1
    exact hy.2 _ rfl
theorem s_X12_cutsText_l146 {G : XG} (C : XC G cX12_cutsText RX12 none 8 2 47) {σ : XS} {r0 : Nat} {x1 : Int32} {x3 : Int32} {w4 : Int64} {a : Int32 × Int32} {x : ((Int32 × XS) ⊕ (XS))} (hf : xloop (f_X12_cutsText_b146 σ r0 x1 x3 w4) a = some x) (hk : (∀ a' : Int32 × XS, x = .inl a' → WW G 7 [(0, .ref (gB G + r0)), (1, .int a'.1)] [] a'.2) ∧ (∀ b1 : XS, x = .inr b1 → XEnd G none b1)) : WW G 146 [(0, .ref (gB G + r0)), (1, .int x1), (3, .int x3), (4, .long w4), (6, .int a.1), (7, .int a.2)] [] σ := by
  refine xloop_ind (P := fun a => WW G 146 [(0, .ref (gB G + r0)), (1, .int x1), (3, .int x3), (4, .long w4), (6, .int a.1), (7, .int a.2)] [] σ) (fun a y hf hc he => ?_) hf
  obtain ⟨x6, x7⟩ := a
  have hk : (∀ a' : Int32 × Int32, y = .inl a' → WW G 146 [(0, .ref (gB G + r0)), (1, .int x1), (3, .int x3), (4, .long w4), (6, .int a'.1), (7, .int a'.2)] [] σ) ∧ (∀ b2 : ((Int32 × XS) ⊕ (XS)), y = .inr b2 → (∀ a' : Int32 × XS, b2 = .inl a' → WW G 7 [(0, .ref (gB G + r0)), (1, .int a'.1)] [] a'.2) ∧ (∀ b1 : XS, b2 = .inr b1 → XEnd G none b1)) := ⟨hc, fun b e => by have h9 := he b e; subst h9; exact hk⟩
  refine ww_iload (pc := 146) C 5 dX12_cutsText_146 rfl ?_
  refine ww_bipush (pc := 148) (v := (11 : Int32)) C dX12_cutsText_148 (by decide) ?_
  refine ww_icmp_ge (pc := 150) (tgt := 179) C dX12_cutsText_150 (by decide) (fun q => ?_) (fun q => ?_)
  · have hf := xip q hf
    obtain ⟨b0, hg, e9⟩ := xmj hf
    subst e9
    have hf := hg
    have hk := hk.2 _ rfl
    refine ww_sub [0, 1, 2, 3, 4] rfl ?_
    exact s_X12_cutsText_j179 C hf hk
  · have hf := xin q hf
    refine ww_aload_n (pc := 153) C 0 dX12_cutsText_153 rfl ?_
    obtain ⟨z2, e1, hf⟩ := xbd hf
    refine gf_X12_34 (pc := 154) C e1 dX12_cutsText_154 ?_
    refine ww_iload (pc := 157) C 5 dX12_cutsText_157 rfl ?_
    obtain ⟨v4, e3, hf⟩ := xbd hf
    refine ww_lald (pc := 159) C e3 dX12_cutsText_159 ?_
    refine ww_lload (pc := 160) C 3 dX12_cutsText_160 rfl ?_
    refine ww_lcmp (pc := 162) C dX12_cutsText_162 ?_
    refine ww_if_ne (pc := 163) (tgt := 173) C dX12_cutsText_163 (by decide) (fun q => ?_) (fun q => ?_)
    · have hf := xin q hf
      refine ww_iinc (pc := 173) (v := x7 + (1 : Int32)) (lv' := [(7, .int (x7 + (1 : Int32))), (0, .ref (gB G + r0)), (1, .int x1), (3, .int x3), (4, .long w4), (6, .int x6)]) C 5 dX12_cutsText_173 rfl (congrArg (fun z => x7 + z) (show Int32.ofInt (1) = (1 : Int32) by decide)) (by decide) rfl ?_
      refine ww_goto (pc := 176) (tgt := 146) C dX12_cutsText_176 (by decide) ?_
      have hf := xsj hf
      subst hf
      refine ww_sub [1, 2, 3, 4, 5, 0] rfl ?_
      exact hk.1 (x6, x7 + (1 : Int32)) rfl
    · have hf := xip q hf
      refine ww_bipush (pc := 166) (v := (20 : Int32)) C dX12_cutsText_166 (by decide) ?_
      refine ww_iload (pc := 168) C 5 dX12_cutsText_168 rfl ?_
      refine ww_iadd (pc := 170) C dX12_cutsText_170 ?_
      refine ww_istore (pc := 171) (lv' := [(6, .int ((20 : Int32) + x7)), (0, .ref (gB G + r0)), (1, .int x1), (3, .int x3), (4, .long w4), (7, .int x7)]) C dX12_cutsText_171 (by decide) rfl ?_
      refine ww_iinc (pc := 173) (v := x7 + (1 : Int32)) (lv' := [(7, .int (x7 + (1 : Int32))), (6, .int ((20 : Int32) + x7)), (0, .ref (gB G + r0)), (1, .int x1), (3, .int x3), (4, .long w4)]) C 5 dX12_cutsText_173 rfl (congrArg (fun z => x7 + z) (show Int32.ofInt (1) = (1 : Int32) by decide)) (by decide) rfl ?_
      refine ww_goto (pc := 176) (tgt := 146) C dX12_cutsText_176 (by decide) ?_
      have hf := xsj hf
      subst hf
      refine ww_sub [2, 3, 4, 5, 1, 0] rfl ?_
      exact hk.1 ((20 : Int32) + x7, x7 + (1 : Int32)) rfl
theorem s_X12_cutsText_j135 {G : XG} (C : XC G cX12_cutsText RX12 none 8 2 47) {σ : XS} {r0 : Nat} {x1 : Int32} {x3 : Int32} {w4 : Int64} {t0 : Int32} {x : ((Int32 × XS) ⊕ (XS))} (hf : f_X12_cutsText_j135 σ r0 x1 x3 w4 t0 = some x) (hk : (∀ a' : Int32 × XS, x = .inl a' → WW G 7 [(0, .ref (gB G + r0)), (1, .int a'.1)] [] a'.2) ∧ (∀ b1 : XS, x = .inr b1 → XEnd G none b1)) : WW G 135 [(0, .ref (gB G + r0)), (1, .int x1), (3, .int x3), (4, .long w4)] [.int t0] σ := by
  refine ww_istore (pc := 135) (lv' := [(6, .int t0), (0, .ref (gB G + r0)), (1, .int x1), (3, .int x3), (4, .long w4)]) C dX12_cutsText_135 (by decide) rfl ?_
  refine ww_iload_n (pc := 137) C 3 dX12_cutsText_137 rfl ?_
  refine ww_bipush (pc := 138) (v := (8 : Int32)) C dX12_cutsText_138 (by decide) ?_
  refine ww_icmp_gt (pc := 140) (tgt := 179) C dX12_cutsText_140 (by decide) (fun q => ?_) (fun q => ?_)
  · have hf := xip q hf
    refine ww_sub [1, 2, 3, 4, 0] rfl ?_
    exact s_X12_cutsText_j179 C hf hk
  · have hf := xin q hf
    refine ww_iconst (pc := 143) (v := (0 : Int32)) C dX12_cutsText_143 (by decide) ?_
    refine ww_istore (pc := 144) (lv' := [(7, .int (0 : Int32)), (6, .int t0), (0, .ref (gB G + r0)), (1, .int x1), (3, .int x3), (4, .long w4)]) C dX12_cutsText_144 (by decide) rfl ?_
    refine ww_sub [2, 3, 4, 5, 1, 0] rfl ?_
    exact s_X12_cutsText_l146 C (a := (t0, (0 : Int32))) hf hk
theorem m_X12_cutsText_j135 {σ : XS} {r0 : Nat} {x1 : Int32} {x3 : Int32} {w4 : Int64} {t0 : Int32} {x : ((Int32 × XS) ⊕ (XS))} (hf : f_X12_cutsText_j135 σ r0 x1 x3 w4 t0 = some x) : (∀ a' : Int32 × XS, x = .inl a' → xsame σ a'.2) ∧ (∀ b1 : XS, x = .inr b1 → xsame σ b1) := by
  have hm := xsame.rf (σ := σ)
  by_cases q : (8 : Int32) < x3
  · have hf := xip q hf
    exact ⟨fun a' e => hm.tr ((m_X12_cutsText_j179 hf).1 a' e), fun b1 eb1 => hm.tr ((m_X12_cutsText_j179 hf).2 b1 eb1)⟩
  · have hf := xin q hf
    exact ⟨fun a' e => hm.tr ((m_X12_cutsText_l146 (a := (t0, (0 : Int32))) hf).1 a' e), fun b1 eb1 => hm.tr ((m_X12_cutsText_l146 (a := (t0, (0 : Int32))) hf).2 b1 eb1)⟩
theorem m_X12_cutsText_l85 {σ : XS} {r0 : Nat} {x1 : Int32} {a : Int32 × Int64} {x : ((Int32 × XS) ⊕ (XS))} (hf : xloop (f_X12_cutsText_b85 σ r0 x1) a = some x) : (∀ a' : Int32 × XS, x = .inl a' → xsame σ a'.2) ∧ (∀ b1 : XS, x = .inr b1 → xsame σ b1) := by
  refine xloop_ind (P := fun a => (∀ a' : Int32 × XS, x = .inl a' → xsame σ a'.2) ∧ (∀ b1 : XS, x = .inr b1 → xsame σ b1)) (fun a y hf hc he => ?_) hf
  obtain ⟨x3, w4⟩ := a
  have hy : (∀ a' : Int32 × Int64, y = .inl a' → True) ∧ (∀ b2 : ((Int32 × XS) ⊕ (XS)), y = .inr b2 → (∀ a' : Int32 × XS, b2 = .inl a' → xsame σ a'.2) ∧ (∀ b1 : XS, b2 = .inr b1 → xsame σ b1)) := by
    have hm := xsame.rf (σ := σ)
    obtain ⟨_, e1, hf⟩ := xbd hf
    obtain ⟨v3, e2, hf⟩ := xbd hf
    obtain ⟨v5, e4, hf⟩ := xbd hf
    by_cases q : v5 = 0
    · have hf := xip q hf
      obtain ⟨b0, hg, e9⟩ := xmj hf
      subst e9
      have hf := hg
      refine ⟨fun a' e => xnc2 e, fun b e => ?_⟩
      have h9 := Sum.inr.inj e
      subst h9
      by_cases q : x3 ≤ (8 : Int32)
      · have hf := xip q hf
        exact ⟨fun a' e => hm.tr ((m_X12_cutsText_j135 hf).1 a' e), fun b1 eb1 => hm.tr ((m_X12_cutsText_j135 hf).2 b1 eb1)⟩
      · have hf := xin q hf
        exact ⟨fun a' e => hm.tr ((m_X12_cutsText_j135 hf).1 a' e), fun b1 eb1 => hm.tr ((m_X12_cutsText_j135 hf).2 b1 eb1)⟩
    · have hf := xin q hf
      by_cases q : (8 : Int32) ≤ x3
      · have hf := xip q hf
        have hf := xsj hf
        subst hf
        exact ⟨fun a' e => (by have h9 := Sum.inl.inj e; subst h9; exact trivial), fun b e => xnc1 e⟩
      · have hf := xin q hf
        obtain ⟨_, e6, hf⟩ := xbd hf
        obtain ⟨v8, e7, hf⟩ := xbd hf
        obtain ⟨v10, e9, hf⟩ := xbd hf
        have hf := xsj hf
        subst hf
        exact ⟨fun a' e => (by have h9 := Sum.inl.inj e; subst h9; exact trivial), fun b e => xnc1 e⟩
  cases y with
  | inl a' =>
    have h1 := hc a' rfl
    exact h1
  | inr b =>
    have h1 := he b rfl
    subst h1
    exact hy.2 _ rfl
theorem s_X12_cutsText_l85 {G : XG} (C : XC G cX12_cutsText RX12 none 8 2 47) {σ : XS} {r0 : Nat} {x1 : Int32} {a : Int32 × Int64} {x : ((Int32 × XS) ⊕ (XS))} (hf : xloop (f_X12_cutsText_b85 σ r0 x1) a = some x) (hk : (∀ a' : Int32 × XS, x = .inl a' → WW G 7 [(0, .ref (gB G + r0)), (1, .int a'.1)] [] a'.2) ∧ (∀ b1 : XS, x = .inr b1 → XEnd G none b1)) : WW G 85 [(0, .ref (gB G + r0)), (1, .int x1), (3, .int a.1), (4, .long a.2)] [] σ := by
  refine xloop_ind (P := fun a => WW G 85 [(0, .ref (gB G + r0)), (1, .int x1), (3, .int a.1), (4, .long a.2)] [] σ) (fun a y hf hc he => ?_) hf
  obtain ⟨x3, w4⟩ := a
  have hk : (∀ a' : Int32 × Int64, y = .inl a' → WW G 85 [(0, .ref (gB G + r0)), (1, .int x1), (3, .int a'.1), (4, .long a'.2)] [] σ) ∧ (∀ b2 : ((Int32 × XS) ⊕ (XS)), y = .inr b2 → (∀ a' : Int32 × XS, b2 = .inl a' → WW G 7 [(0, .ref (gB G + r0)), (1, .int a'.1)] [] a'.2) ∧ (∀ b1 : XS, b2 = .inr b1 → XEnd G none b1)) := ⟨hc, fun b e => by have h9 := he b e; subst h9; exact hk⟩
  refine ww_aload_n (pc := 85) C 0 dX12_cutsText_85 rfl ?_
  refine ww_iload_n (pc := 86) C 1 dX12_cutsText_86 rfl ?_
  refine ww_iload_n (pc := 87) C 2 dX12_cutsText_87 rfl ?_
  refine ww_iadd (pc := 88) C dX12_cutsText_88 ?_
  obtain ⟨_, e1, hf⟩ := xbd hf
  obtain ⟨v3, e2, hf⟩ := xbd hf
  refine ww_callVi (pc := 89) (as := [.int (x1 + x3)]) (st := []) C (k_X12_byteAt (l := gl G) (E := gE G) (hb := gB G) (σ := σ) e2) rfl (by decide) xc_X12_113 q1424 qp121 (xck_spec e1) rfl (by decide) (xst4 (Nat.le_of_ble_eq_true rfl)) xsame.rf.le xsame.rf.lim dX12_cutsText_89 ?_
  obtain ⟨v5, e4, hf⟩ := xbd hf
  refine ww_callSi (pc := 92) (as := [.int v3]) (st := []) C (k_X12_isLetter (l := gl G) (E := gE G) (hb := gB G) (σ := σ) e4) xc_X12_121 q1431 rfl (by decide) (xst4 (Nat.le_of_ble_eq_true rfl)) xsame.rf.le xsame.rf.lim dX12_cutsText_92 ?_
  refine ww_if_eq (pc := 95) (tgt := 124) C dX12_cutsText_95 (by decide) (fun q => ?_) (fun q => ?_)
  · have hf := xip q hf
    obtain ⟨b0, hg, e9⟩ := xmj hf
    subst e9
    have hf := hg
    have hk := hk.2 _ rfl
    refine ww_iload_n (pc := 124) C 2 dX12_cutsText_124 rfl ?_
    refine ww_bipush (pc := 125) (v := (8 : Int32)) C dX12_cutsText_125 (by decide) ?_
    refine ww_icmp_le (pc := 127) (tgt := 134) C dX12_cutsText_127 (by decide) (fun q => ?_) (fun q => ?_)
    · have hf := xip q hf
      refine ww_iconst (pc := 134) (v := (1 : Int32)) C dX12_cutsText_134 (by decide) ?_
      refine ww_sub [0, 1, 2, 3] rfl ?_
      exact s_X12_cutsText_j135 C hf hk
    · have hf := xin q hf
      refine ww_iconst (pc := 130) (v := (3 : Int32)) C dX12_cutsText_130 (by decide) ?_
      refine ww_goto (pc := 131) (tgt := 135) C dX12_cutsText_131 (by decide) ?_
      refine ww_sub [0, 1, 2, 3] rfl ?_
      exact s_X12_cutsText_j135 C hf hk
  · have hf := xin q hf
    refine ww_iload_n (pc := 98) C 2 dX12_cutsText_98 rfl ?_
    refine ww_bipush (pc := 99) (v := (8 : Int32)) C dX12_cutsText_99 (by decide) ?_
    refine ww_icmp_ge (pc := 101) (tgt := 118) C dX12_cutsText_101 (by decide) (fun q => ?_) (fun q => ?_)
    · have hf := xip q hf
      refine ww_iinc (pc := 118) (v := x3 + (1 : Int32)) (lv' := [(3, .int (x3 + (1 : Int32))), (0, .ref (gB G + r0)), (1, .int x1), (4, .long w4)]) C 2 dX12_cutsText_118 rfl (congrArg (fun z => x3 + z) (show Int32.ofInt (1) = (1 : Int32) by decide)) (by decide) rfl ?_
      refine ww_goto (pc := 121) (tgt := 85) C dX12_cutsText_121 (by decide) ?_
      have hf := xsj hf
      subst hf
      refine ww_sub [1, 2, 0, 3] rfl ?_
      exact hk.1 (x3 + (1 : Int32), w4) rfl
    · have hf := xin q hf
      refine ww_lload (pc := 104) C 3 dX12_cutsText_104 rfl ?_
      refine ww_aload_n (pc := 106) C 0 dX12_cutsText_106 rfl ?_
      refine ww_iload_n (pc := 107) C 1 dX12_cutsText_107 rfl ?_
      refine ww_iload_n (pc := 108) C 2 dX12_cutsText_108 rfl ?_
      refine ww_iadd (pc := 109) C dX12_cutsText_109 ?_
      obtain ⟨_, e6, hf⟩ := xbd hf
      obtain ⟨v8, e7, hf⟩ := xbd hf
      refine ww_callVi (pc := 110) (as := [.int (x1 + x3)]) (st := [.long w4]) C (k_X12_byteAt (l := gl G) (E := gE G) (hb := gB G) (σ := σ) e7) rfl (by decide) xc_X12_113 q1424 qp121 (xck_spec e6) rfl (by decide) (xst4 (Nat.le_of_ble_eq_true rfl)) xsame.rf.le xsame.rf.lim dX12_cutsText_110 ?_
      obtain ⟨v10, e9, hf⟩ := xbd hf
      refine ww_callSj (pc := 113) (as := [.long w4, .int v8]) (st := []) C (k_X12_appends (l := gl G) (E := gE G) (hb := gB G) (σ := σ) e9) xc_X12_106 q1263 rfl (by decide) (xst4 (Nat.le_of_ble_eq_true rfl)) xsame.rf.le xsame.rf.lim dX12_cutsText_113 ?_
      refine ww_lstore (pc := 116) (lv' := [(4, .long v10), (0, .ref (gB G + r0)), (1, .int x1), (3, .int x3)]) C dX12_cutsText_116 (by decide) rfl ?_
      refine ww_iinc (pc := 118) (v := x3 + (1 : Int32)) (lv' := [(3, .int (x3 + (1 : Int32))), (4, .long v10), (0, .ref (gB G + r0)), (1, .int x1)]) C 3 dX12_cutsText_118 rfl (congrArg (fun z => x3 + z) (show Int32.ofInt (1) = (1 : Int32) by decide)) (by decide) rfl ?_
      refine ww_goto (pc := 121) (tgt := 85) C dX12_cutsText_121 (by decide) ?_
      have hf := xsj hf
      subst hf
      refine ww_sub [2, 3, 0, 1] rfl ?_
      exact hk.1 (x3 + (1 : Int32), v10) rfl
theorem m_X12_cutsText_l7 {r0 : Nat} {a : Int32 × XS} {x : XS} (hf : xloop (f_X12_cutsText_b7 r0) a = some x) : xsame a.2 x := by
  refine xloop_ind (P := fun a => xsame a.2 x) (fun a y hf hc he => ?_) hf
  obtain ⟨x1, σ⟩ := a
  have hy : (∀ a' : Int32 × XS, y = .inl a' → xsame σ a'.2) ∧ (∀ b1 : XS, y = .inr b1 → xsame σ b1) := by
    have hm := xsame.rf (σ := σ)
    obtain ⟨v2, e1, hf⟩ := xbd hf
    by_cases q : (400 : Int32) < v2
    · have hf := xip q hf
      obtain ⟨b0, hg, e9⟩ := xmj hf
      subst e9
      have hf := hg
      refine ⟨fun a' e => xnc2 e, fun b e => ?_⟩
      have h9 := Sum.inr.inj e
      subst h9
      have hf := xsj hf
      subst hf
      exact hm
    · have hf := xin q hf
      obtain ⟨_, e3, hf⟩ := xbd hf
      obtain ⟨v5, e4, hf⟩ := xbd hf
      obtain ⟨v7, e6, hf⟩ := xbd hf
      by_cases q : x1 < v7
      · have hf := xip q hf
        by_cases q : v5 = (9 : Int32)
        · have hf := xip q hf
          have hf := xsj hf
          subst hf
          exact ⟨fun a' e => (by have h9 := Sum.inl.inj e; subst h9; exact hm), fun b e => xnc1 e⟩
        · have hf := xin q hf
          by_cases q : v5 = (10 : Int32)
          · have hf := xip q hf
            have hf := xsj hf
            subst hf
            exact ⟨fun a' e => (by have h9 := Sum.inl.inj e; subst h9; exact hm), fun b e => xnc1 e⟩
          · have hf := xin q hf
            by_cases q : v5 = (13 : Int32)
            · have hf := xip q hf
              have hf := xsj hf
              subst hf
              exact ⟨fun a' e => (by have h9 := Sum.inl.inj e; subst h9; exact hm), fun b e => xnc1 e⟩
            · have hf := xin q hf
              by_cases q : v5 = (32 : Int32)
              · have hf := xip q hf
                have hf := xsj hf
                subst hf
                exact ⟨fun a' e => (by have h9 := Sum.inl.inj e; subst h9; exact hm), fun b e => xnc1 e⟩
              · have hf := xin q hf
                obtain ⟨v9, e8, hf⟩ := xbd hf
                by_cases q : v9 = 0
                · have hf := xip q hf
                  obtain ⟨v11, e10, hf⟩ := xbd hf
                  by_cases q : v11 = 0
                  · have hf := xip q hf
                    obtain ⟨_, e12, hf⟩ := xbd hf
                    obtain ⟨⟨v15, σ14⟩, e13, hf⟩ := xbd hf
                    dsimp only at hf
                    have hm := hm.tr (m_X12_sign e13)
                    have hf := xsj hf
                    subst hf
                    exact ⟨fun a' e => (by have h9 := Sum.inl.inj e; subst h9; exact hm), fun b e => xnc1 e⟩
                  · have hf := xin q hf
                    exact ⟨fun a' e => hm.tr ((m_X12_cutsText_l208 (a := ((0 : Int32), (0 : Int32))) hf).1 a' e), fun b1 eb1 => hm.tr ((m_X12_cutsText_l208 (a := ((0 : Int32), (0 : Int32))) hf).2 b1 eb1)⟩
                · have hf := xin q hf
                  exact ⟨fun a' e => hm.tr ((m_X12_cutsText_l85 (a := ((0 : Int32), (0 : Int64))) hf).1 a' e), fun b1 eb1 => hm.tr ((m_X12_cutsText_l85 (a := ((0 : Int32), (0 : Int64))) hf).2 b1 eb1)⟩
      · have hf := xin q hf
        obtain ⟨b0, hg, e9⟩ := xmj hf
        subst e9
        have hf := hg
        refine ⟨fun a' e => xnc2 e, fun b e => ?_⟩
        have h9 := Sum.inr.inj e
        subst h9
        obtain ⟨v9, e8, hf⟩ := xbd hf
        obtain ⟨_, e10, hf⟩ := xbd hf
        obtain ⟨σ12, e11, hf⟩ := xbd hf
        have hm := hm.tr (m_X12_token e11)
        have hf := xsj hf
        subst hf
        exact hm
  cases y with
  | inl a' =>
    have h1 := hc a' rfl
    have hm := hy.1 a' rfl
    exact hm.tr (h1)
  | inr b =>
    have h1 := he b rfl
    subst h1
    exact hy.2 _ rfl
theorem s_X12_cutsText_l7 {G : XG} (C : XC G cX12_cutsText RX12 none 8 2 47) {r0 : Nat} {a : Int32 × XS} {x : XS} (hf : xloop (f_X12_cutsText_b7 r0) a = some x) (hk : XEnd G none x) : WW G 7 [(0, .ref (gB G + r0)), (1, .int a.1)] [] a.2 := by
  refine xloop_ind (P := fun a => WW G 7 [(0, .ref (gB G + r0)), (1, .int a.1)] [] a.2) (fun a y hf hc he => ?_) hf
  obtain ⟨x1, σ⟩ := a
  have hk : (∀ a' : Int32 × XS, y = .inl a' → WW G 7 [(0, .ref (gB G + r0)), (1, .int a'.1)] [] a'.2) ∧ (∀ b1 : XS, y = .inr b1 → XEnd G none b1) := ⟨hc, fun b e => by have h9 := he b e; subst h9; exact hk⟩
  refine ww_aload_n (pc := 7) C 0 dX12_cutsText_7 rfl ?_
  obtain ⟨v2, e1, hf⟩ := xbd hf
  refine gf_X12_110 (pc := 8) C e1 dX12_cutsText_8 ?_
  refine ww_sipush (pc := 11) (v := (400 : Int32)) C dX12_cutsText_11 (by decide) ?_
  refine ww_icmp_gt (pc := 14) (tgt := 287) C dX12_cutsText_14 (by decide) (fun q => ?_) (fun q => ?_)
  · have hf := xip q hf
    obtain ⟨b0, hg, e9⟩ := xmj hf
    subst e9
    have hf := hg
    have hk := hk.2 _ rfl
    have hf := xsj hf
    subst hf
    exact ww_vret (pc := 287) C hk dX12_cutsText_287
  · have hf := xin q hf
    refine ww_aload_n (pc := 17) C 0 dX12_cutsText_17 rfl ?_
    refine ww_iload_n (pc := 18) C 1 dX12_cutsText_18 rfl ?_
    obtain ⟨_, e3, hf⟩ := xbd hf
    obtain ⟨v5, e4, hf⟩ := xbd hf
    refine ww_callVi (pc := 19) (as := [.int x1]) (st := []) C (k_X12_byteAt (l := gl G) (E := gE G) (hb := gB G) (σ := σ) e4) rfl (by decide) xc_X12_113 q1424 qp121 (xck_spec e3) rfl (by decide) (xst4 (Nat.le_of_ble_eq_true rfl)) xsame.rf.le xsame.rf.lim dX12_cutsText_19 ?_
    refine ww_istore_n (pc := 22) (lv' := [(2, .int v5), (0, .ref (gB G + r0)), (1, .int x1)]) C dX12_cutsText_22 (by decide) rfl ?_
    refine ww_iload_n (pc := 23) C 2 dX12_cutsText_23 rfl ?_
    refine ww_aload_n (pc := 24) C 1 dX12_cutsText_24 rfl ?_
    obtain ⟨v7, e6, hf⟩ := xbd hf
    refine gf_X12_101 (pc := 25) C e6 dX12_cutsText_25 ?_
    refine ww_icmp_lt (pc := 28) (tgt := 43) C dX12_cutsText_28 (by decide) (fun q => ?_) (fun q => ?_)
    · have hf := xip q hf
      refine ww_iload_n (pc := 43) C 0 dX12_cutsText_43 rfl ?_
      refine ww_bipush (pc := 44) (v := (9 : Int32)) C dX12_cutsText_44 (by decide) ?_
      refine ww_icmp_eq (pc := 46) (tgt := 67) C dX12_cutsText_46 (by decide) (fun q => ?_) (fun q => ?_)
      · have hf := xip q hf
        refine ww_iinc (pc := 67) (v := x1 + (1 : Int32)) (lv' := [(1, .int (x1 + (1 : Int32))), (2, .int v5), (0, .ref (gB G + r0))]) C 2 dX12_cutsText_67 rfl (congrArg (fun z => x1 + z) (show Int32.ofInt (1) = (1 : Int32) by decide)) (by decide) rfl ?_
        refine ww_goto (pc := 70) (tgt := 284) C dX12_cutsText_70 (by decide) ?_
        refine ww_goto (pc := 284) (tgt := 7) C dX12_cutsText_284 (by decide) ?_
        have hf := xsj hf
        subst hf
        refine ww_sub [2, 0] rfl ?_
        exact hk.1 (x1 + (1 : Int32), σ) rfl
      · have hf := xin q hf
        refine ww_iload_n (pc := 49) C 0 dX12_cutsText_49 rfl ?_
        refine ww_bipush (pc := 50) (v := (10 : Int32)) C dX12_cutsText_50 (by decide) ?_
        refine ww_icmp_eq (pc := 52) (tgt := 67) C dX12_cutsText_52 (by decide) (fun q => ?_) (fun q => ?_)
        · have hf := xip q hf
          refine ww_iinc (pc := 67) (v := x1 + (1 : Int32)) (lv' := [(1, .int (x1 + (1 : Int32))), (2, .int v5), (0, .ref (gB G + r0))]) C 2 dX12_cutsText_67 rfl (congrArg (fun z => x1 + z) (show Int32.ofInt (1) = (1 : Int32) by decide)) (by decide) rfl ?_
          refine ww_goto (pc := 70) (tgt := 284) C dX12_cutsText_70 (by decide) ?_
          refine ww_goto (pc := 284) (tgt := 7) C dX12_cutsText_284 (by decide) ?_
          have hf := xsj hf
          subst hf
          refine ww_sub [2, 0] rfl ?_
          exact hk.1 (x1 + (1 : Int32), σ) rfl
        · have hf := xin q hf
          refine ww_iload_n (pc := 55) C 0 dX12_cutsText_55 rfl ?_
          refine ww_bipush (pc := 56) (v := (13 : Int32)) C dX12_cutsText_56 (by decide) ?_
          refine ww_icmp_eq (pc := 58) (tgt := 67) C dX12_cutsText_58 (by decide) (fun q => ?_) (fun q => ?_)
          · have hf := xip q hf
            refine ww_iinc (pc := 67) (v := x1 + (1 : Int32)) (lv' := [(1, .int (x1 + (1 : Int32))), (2, .int v5), (0, .ref (gB G + r0))]) C 2 dX12_cutsText_67 rfl (congrArg (fun z => x1 + z) (show Int32.ofInt (1) = (1 : Int32) by decide)) (by decide) rfl ?_
            refine ww_goto (pc := 70) (tgt := 284) C dX12_cutsText_70 (by decide) ?_
            refine ww_goto (pc := 284) (tgt := 7) C dX12_cutsText_284 (by decide) ?_
            have hf := xsj hf
            subst hf
            refine ww_sub [2, 0] rfl ?_
            exact hk.1 (x1 + (1 : Int32), σ) rfl
          · have hf := xin q hf
            refine ww_iload_n (pc := 61) C 0 dX12_cutsText_61 rfl ?_
            refine ww_bipush (pc := 62) (v := (32 : Int32)) C dX12_cutsText_62 (by decide) ?_
            refine ww_icmp_ne (pc := 64) (tgt := 73) C dX12_cutsText_64 (by decide) (fun q => ?_) (fun q => ?_)
            · have hf := xin q hf
              refine ww_iload_n (pc := 73) C 0 dX12_cutsText_73 rfl ?_
              obtain ⟨v9, e8, hf⟩ := xbd hf
              refine ww_callSi (pc := 74) (as := [.int v5]) (st := []) C (k_X12_isLetter (l := gl G) (E := gE G) (hb := gB G) (σ := σ) e8) xc_X12_121 q1431 rfl (by decide) (xst4 (Nat.le_of_ble_eq_true rfl)) xsame.rf.le xsame.rf.lim dX12_cutsText_74 ?_
              refine ww_if_eq (pc := 77) (tgt := 196) C dX12_cutsText_77 (by decide) (fun q => ?_) (fun q => ?_)
              · have hf := xip q hf
                refine ww_iload_n (pc := 196) C 0 dX12_cutsText_196 rfl ?_
                obtain ⟨v11, e10, hf⟩ := xbd hf
                refine ww_callSi (pc := 197) (as := [.int v5]) (st := []) C (k_X12_isDigit (l := gl G) (E := gE G) (hb := gB G) (σ := σ) e10) xc_X12_125 q1434 rfl (by decide) (xst4 (Nat.le_of_ble_eq_true rfl)) xsame.rf.le xsame.rf.lim dX12_cutsText_197 ?_
                refine ww_if_eq (pc := 200) (tgt := 275) C dX12_cutsText_200 (by decide) (fun q => ?_) (fun q => ?_)
                · have hf := xip q hf
                  refine ww_iload_n (pc := 275) C 2 dX12_cutsText_275 rfl ?_
                  refine ww_aload_n (pc := 276) C 1 dX12_cutsText_276 rfl ?_
                  refine ww_iload_n (pc := 277) C 2 dX12_cutsText_277 rfl ?_
                  refine ww_iload_n (pc := 278) C 0 dX12_cutsText_278 rfl ?_
                  obtain ⟨_, e12, hf⟩ := xbd hf
                  obtain ⟨⟨v15, σ14⟩, e13, hf⟩ := xbd hf
                  dsimp only at hf
                  refine ww_callVi (pc := 279) (as := [.int x1, .int v5]) (st := [.int x1]) C (k_X12_sign (l := gl G) (E := gE G) (hb := gB G) (σ := σ) e13) rfl (by decide) xc_X12_128 q1438 qp123 (xck_spec e12) rfl (by decide) (xst4 (Nat.le_of_ble_eq_true rfl)) (m_X12_sign e13).le (m_X12_sign e13).lim dX12_cutsText_279 ?_
                  refine ww_iadd (pc := 282) C dX12_cutsText_282 ?_
                  refine ww_istore_n (pc := 283) (lv' := [(1, .int (x1 + v15)), (2, .int v5), (0, .ref (gB G + r0))]) C dX12_cutsText_283 (by decide) rfl ?_
                  refine ww_goto (pc := 284) (tgt := 7) C dX12_cutsText_284 (by decide) ?_
                  have hf := xsj hf
                  subst hf
                  refine ww_sub [2, 0] rfl ?_
                  exact hk.1 (x1 + v15, σ14) rfl
                · have hf := xin q hf
                  refine ww_iconst (pc := 203) (v := (0 : Int32)) C dX12_cutsText_203 (by decide) ?_
                  refine ww_istore_n (pc := 204) (lv' := [(3, .int (0 : Int32)), (2, .int v5), (0, .ref (gB G + r0)), (1, .int x1)]) C dX12_cutsText_204 (by decide) rfl ?_
                  refine ww_iconst (pc := 205) (v := (0 : Int32)) C dX12_cutsText_205 (by decide) ?_
                  refine ww_istore (pc := 206) (lv' := [(4, .int (0 : Int32)), (3, .int (0 : Int32)), (2, .int v5), (0, .ref (gB G + r0)), (1, .int x1)]) C dX12_cutsText_206 (by decide) rfl ?_
                  refine ww_sub [3, 4, 1, 0] rfl ?_
                  exact s_X12_cutsText_l208 C (a := ((0 : Int32), (0 : Int32))) hf hk
              · have hf := xin q hf
                refine ww_iconst (pc := 80) (v := (0 : Int32)) C dX12_cutsText_80 (by decide) ?_
                refine ww_istore_n (pc := 81) (lv' := [(3, .int (0 : Int32)), (2, .int v5), (0, .ref (gB G + r0)), (1, .int x1)]) C dX12_cutsText_81 (by decide) rfl ?_
                refine ww_lconst (pc := 82) (v := (0 : Int64)) C dX12_cutsText_82 (by decide) ?_
                refine ww_lstore (pc := 83) (lv' := [(4, .long (0 : Int64)), (3, .int (0 : Int32)), (2, .int v5), (0, .ref (gB G + r0)), (1, .int x1)]) C dX12_cutsText_83 (by decide) rfl ?_
                refine ww_sub [3, 4, 1, 0] rfl ?_
                exact s_X12_cutsText_l85 C (a := ((0 : Int32), (0 : Int64))) hf hk
            · have hf := xip q hf
              refine ww_iinc (pc := 67) (v := x1 + (1 : Int32)) (lv' := [(1, .int (x1 + (1 : Int32))), (2, .int v5), (0, .ref (gB G + r0))]) C 2 dX12_cutsText_67 rfl (congrArg (fun z => x1 + z) (show Int32.ofInt (1) = (1 : Int32) by decide)) (by decide) rfl ?_
              refine ww_goto (pc := 70) (tgt := 284) C dX12_cutsText_70 (by decide) ?_
              refine ww_goto (pc := 284) (tgt := 7) C dX12_cutsText_284 (by decide) ?_
              have hf := xsj hf
              subst hf
              refine ww_sub [2, 0] rfl ?_
              exact hk.1 (x1 + (1 : Int32), σ) rfl
    · have hf := xin q hf
      obtain ⟨b0, hg, e9⟩ := xmj hf
      subst e9
      have hf := hg
      have hk := hk.2 _ rfl
      refine ww_aload_n (pc := 31) C 1 dX12_cutsText_31 rfl ?_
      refine ww_iconst (pc := 32) (v := (0 : Int32)) C dX12_cutsText_32 (by decide) ?_
      refine ww_aload_n (pc := 33) C 1 dX12_cutsText_33 rfl ?_
      obtain ⟨v9, e8, hf⟩ := xbd hf
      refine gf_X12_101 (pc := 34) C e8 dX12_cutsText_34 ?_
      refine ww_iconst (pc := 37) (v := (0 : Int32)) C dX12_cutsText_37 (by decide) ?_
      refine ww_lconst (pc := 38) (v := (0 : Int64)) C dX12_cutsText_38 (by decide) ?_
      obtain ⟨_, e10, hf⟩ := xbd hf
      obtain ⟨σ12, e11, hf⟩ := xbd hf
      refine ww_callVv (pc := 39) (as := [.int (0 : Int32), .int v9, .int (0 : Int32), .long (0 : Int64)]) (st := []) C (k_X12_token (l := gl G) (E := gE G) (hb := gB G) (σ := σ) e11) rfl (by decide) xc_X12_117 q1428 qp122 (xck_spec e10) rfl (by decide) (xst4 (Nat.le_of_ble_eq_true rfl)) (m_X12_token e11).le (m_X12_token e11).lim dX12_cutsText_39 ?_
      have hf := xsj hf
      subst hf
      exact ww_vret (pc := 42) C hk dX12_cutsText_42
theorem s_X12_cutsText_e {G : XG} (C : XC G cX12_cutsText RX12 none 8 2 47) {σ : XS} {r0 : Nat} {x : XS} (hf : f_X12_cutsText σ r0 = some x) (hk : XEnd G none x) : WW G 0 [(0, .ref (gB G + r0))] [] σ := by
  refine ww_aload_n (pc := 0) C 0 dX12_cutsText_0 rfl ?_
  refine ww_iconst (pc := 1) (v := (0 : Int32)) C dX12_cutsText_1 (by decide) ?_
  obtain ⟨σ2, e1, hf⟩ := xbd hf
  refine pf_X12_110 (pc := 2) C e1 dX12_cutsText_2 ?_
  refine ww_iconst (pc := 5) (v := (0 : Int32)) C dX12_cutsText_5 (by decide) ?_
  refine ww_istore_n (pc := 6) (lv' := [(1, .int (0 : Int32)), (0, .ref (gB G + r0))]) C dX12_cutsText_6 (by decide) rfl ?_
  refine ww_sub [1, 0] rfl ?_
  exact s_X12_cutsText_l7 C (a := ((0 : Int32), σ2)) hf hk
theorem m_X12_cutsText {σ : XS} {r0 : Nat} {x : XS} (hf : f_X12_cutsText σ r0 = some x) : xsame σ x := by
  have hm := xsame.rf (σ := σ)
  obtain ⟨σ2, e1, hf⟩ := xbd hf
  have hm := hm.tr (xpI_same e1)
  exact hm.tr (m_X12_cutsText_l7 (a := ((0 : Int32), σ2)) hf)
theorem k_X12_cutsText {l : Launch} {E : XD} {hb : Nat} {σ : XS} {r0 : Nat} {x : XS} (h : f_X12_cutsText σ r0 = some x) : XM l yX12_cutsText cX12_cutsText 8 none 2 47 E hb [.ref (hb + r0)] σ none x := by
  refine xm_of (by decide) (Nat.le_of_ble_eq_true rfl) (m_X12_cutsText h).le (fun G hG C hl hQ => ?_)
  obtain ⟨rfl, rfl, rfl, hN⟩ := hG
  exact s_X12_cutsText_e C h hQ
noncomputable def f_X12_down_b73 (r0 : Nat) (x1 : Int32) (x2 : Int32) (x3 : Int32) : Int32 × XS → Option ((Int32 × XS) ⊕ ((Int32 × XS) ⊕ ((Int32 × XS) ⊕ (Int64 × XS)))) := fun a => match a with
  | (x4, σ) => (xck σ r0 12).bind fun _ => (f_X12_sites σ r0).bind fun v3 => if v3 ≤ x4 then (((xgR σ r0 12 43).bind fun z5 => (xaL σ z5 x3).bind fun v7 => if (lg_cmp v7 (0 : Int64)) = 0 then ((xgR σ r0 12 43).bind fun z9 => (xsL σ z9 x3 (1 : Int64)).bind fun σ11 => some (.inl (x3 + (1 : Int32), σ11))) else some (.inl (x3 + (1 : Int32), σ))).map .inr) else (xgR σ r0 12 33).bind fun z5 => (xaI σ 20 z5 (x3 ^^^ ((1 : Int32) <<< (x4 &&& 31)))).bind fun v7 => (xgR σ r0 12 33).bind fun z9 => (xaI σ 20 z9 x3).bind fun v11 => if v11 ≤ v7 then (some (.inl (x4 + (1 : Int32), σ))) else (xgR σ r0 12 43).bind fun z13 => (xaL σ z13 x3).bind fun v15 => (xgR σ r0 12 43).bind fun z17 => (xaL σ z17 (x3 ^^^ ((1 : Int32) <<< (x4 &&& 31)))).bind fun v19 => (xsL σ z13 x3 (v15 + v19)).bind fun σ21 => some (.inl (x4 + (1 : Int32), σ21))
noncomputable def f_X12_down_b37 (r0 : Nat) (x1 : Int32) (x2 : Int32) : Int32 × XS → Option ((Int32 × XS) ⊕ ((Int32 × XS) ⊕ (Int64 × XS))) := fun a => match a with
  | (x3, σ) => (xck σ r0 12).bind fun _ => (f_X12_states σ r0).bind fun v3 => if v3 ≤ x3 then ((some (.inl (x2 + (1 : Int32), σ))).map .inr) else (xgR σ r0 12 33).bind fun z5 => (xaI σ 20 z5 x3).bind fun v7 => (xgR σ r0 12 36).bind fun z9 => (xaI σ 20 z9 x2).bind fun v11 => if v7 = v11 then ((xgR σ r0 12 43).bind fun z13 => (xsL σ z13 x3 (0 : Int64)).bind fun σ15 => xloop (f_X12_down_b73 r0 x1 x2 x3) ((0 : Int32), σ15)) else some (.inl (x3 + (1 : Int32), σ))
noncomputable def f_X12_down_b27 (r0 : Nat) (x1 : Int32) : Int32 × XS → Option ((Int32 × XS) ⊕ (Int64 × XS)) := fun a => match a with
  | (x2, σ) => (xgI σ r0 12 35).bind fun v2 => if v2 ≤ x2 then (((xgR σ r0 12 43).bind fun z4 => (xaL σ z4 x1).bind fun v6 => some (v6, σ)).map .inr) else xloop (f_X12_down_b37 r0 x1 x2) ((0 : Int32), σ)
noncomputable def f_X12_down (σ : XS) (r0 : Nat) (x1 : Int32) : Option (Int64 × XS) := (xck σ r0 12).bind fun _ => (f_X12_isLawful σ r0 x1).bind fun v3 => if v3 = 0 then (some ((-100000 : Int64), σ)) else (xck σ r0 12).bind fun _ => (f_X12_sites σ r0).bind fun v6 => if v6 ≤ (10 : Int32) then ((xck σ r0 12).bind fun _ => (f_X12_knows σ r0).bind fun σ9 => xloop (f_X12_down_b27 r0 x1) ((0 : Int32), σ9)) else some ((-100000 : Int64), σ)
theorem m_X12_down_l73 {r0 : Nat} {x1 : Int32} {x2 : Int32} {x3 : Int32} {a : Int32 × XS} {x : ((Int32 × XS) ⊕ ((Int32 × XS) ⊕ (Int64 × XS)))} (hf : xloop (f_X12_down_b73 r0 x1 x2 x3) a = some x) : (∀ a' : Int32 × XS, x = .inl a' → xsame a.2 a'.2) ∧ (∀ b2 : ((Int32 × XS) ⊕ (Int64 × XS)), x = .inr b2 → (∀ a' : Int32 × XS, b2 = .inl a' → xsame a.2 a'.2) ∧ (∀ b1 : Int64 × XS, b2 = .inr b1 → xsame a.2 b1.2)) := by
  refine xloop_ind (P := fun a => (∀ a' : Int32 × XS, x = .inl a' → xsame a.2 a'.2) ∧ (∀ b2 : ((Int32 × XS) ⊕ (Int64 × XS)), x = .inr b2 → (∀ a' : Int32 × XS, b2 = .inl a' → xsame a.2 a'.2) ∧ (∀ b1 : Int64 × XS, b2 = .inr b1 → xsame a.2 b1.2))) (fun a y hf hc he => ?_) hf
  obtain ⟨x4, σ⟩ := a
  have hy : (∀ a' : Int32 × XS, y = .inl a' → xsame σ a'.2) ∧ (∀ b3 : ((Int32 × XS) ⊕ ((Int32 × XS) ⊕ (Int64 × XS))), y = .inr b3 → (∀ a' : Int32 × XS, b3 = .inl a' → xsame σ a'.2) ∧ (∀ b2 : ((Int32 × XS) ⊕ (Int64 × XS)), b3 = .inr b2 → (∀ a' : Int32 × XS, b2 = .inl a' → xsame σ a'.2) ∧ (∀ b1 : Int64 × XS, b2 = .inr b1 → xsame σ b1.2))) := by
    have hm := xsame.rf (σ := σ)
    obtain ⟨_, e1, hf⟩ := xbd hf
    obtain ⟨v3, e2, hf⟩ := xbd hf
    by_cases q : v3 ≤ x4
    · have hf := xip q hf
      obtain ⟨b0, hg, e9⟩ := xmj hf
      subst e9
      have hf := hg
      refine ⟨fun a' e => xnc2 e, fun b e => ?_⟩
      have h9 := Sum.inr.inj e
      subst h9
      obtain ⟨z5, e4, hf⟩ := xbd hf
      obtain ⟨v7, e6, hf⟩ := xbd hf
      by_cases q : (lg_cmp v7 (0 : Int64)) = 0
      · have hf := xip q hf
        obtain ⟨z9, e8, hf⟩ := xbd hf
        obtain ⟨σ11, e10, hf⟩ := xbd hf
        have hm := hm.tr (xsL_same e10)
        have hf := xsj hf
        subst hf
        exact ⟨fun a' e => (by have h9 := Sum.inl.inj e; subst h9; exact hm), fun b e => xnc1 e⟩
      · have hf := xin q hf
        have hf := xsj hf
        subst hf
        exact ⟨fun a' e => (by have h9 := Sum.inl.inj e; subst h9; exact hm), fun b e => xnc1 e⟩
    · have hf := xin q hf
      obtain ⟨z5, e4, hf⟩ := xbd hf
      obtain ⟨v7, e6, hf⟩ := xbd hf
      obtain ⟨z9, e8, hf⟩ := xbd hf
      obtain ⟨v11, e10, hf⟩ := xbd hf
      by_cases q : v11 ≤ v7
      · have hf := xip q hf
        have hf := xsj hf
        subst hf
        exact ⟨fun a' e => (by have h9 := Sum.inl.inj e; subst h9; exact hm), fun b e => xnc1 e⟩
      · have hf := xin q hf
        obtain ⟨z13, e12, hf⟩ := xbd hf
        obtain ⟨v15, e14, hf⟩ := xbd hf
        obtain ⟨z17, e16, hf⟩ := xbd hf
        obtain ⟨v19, e18, hf⟩ := xbd hf
        obtain ⟨σ21, e20, hf⟩ := xbd hf
        have hm := hm.tr (xsL_same e20)
        have hf := xsj hf
        subst hf
        exact ⟨fun a' e => (by have h9 := Sum.inl.inj e; subst h9; exact hm), fun b e => xnc1 e⟩
  cases y with
  | inl a' =>
    have h1 := hc a' rfl
    have hm := hy.1 a' rfl
    exact ⟨fun a' e => hm.tr ((h1).1 a' e), fun b2 eb2 => ⟨fun a' e => hm.tr (((h1).2 b2 eb2).1 a' e), fun b1 eb1 => hm.tr (((h1).2 b2 eb2).2 b1 eb1)⟩⟩
  | inr b =>
    have h1 := he b rfl
    subst h1
    exact hy.2 _ rfl
theorem s_X12_down_l73 {G : XG} (C : XC G cX12_down RX12 (some .long) 5 4 96) {r0 : Nat} {x1 : Int32} {x2 : Int32} {x3 : Int32} {a : Int32 × XS} {x : ((Int32 × XS) ⊕ ((Int32 × XS) ⊕ (Int64 × XS)))} (hf : xloop (f_X12_down_b73 r0 x1 x2 x3) a = some x) (hk : (∀ a' : Int32 × XS, x = .inl a' → WW G 37 [(0, .ref (gB G + r0)), (1, .int x1), (2, .int x2), (3, .int a'.1)] [] a'.2) ∧ (∀ b2 : ((Int32 × XS) ⊕ (Int64 × XS)), x = .inr b2 → (∀ a' : Int32 × XS, b2 = .inl a' → WW G 27 [(0, .ref (gB G + r0)), (1, .int x1), (2, .int a'.1)] [] a'.2) ∧ (∀ b1 : Int64 × XS, b2 = .inr b1 → XEnd G (some (.long b1.1)) b1.2))) : WW G 73 [(0, .ref (gB G + r0)), (1, .int x1), (2, .int x2), (3, .int x3), (4, .int a.1)] [] a.2 := by
  refine xloop_ind (P := fun a => WW G 73 [(0, .ref (gB G + r0)), (1, .int x1), (2, .int x2), (3, .int x3), (4, .int a.1)] [] a.2) (fun a y hf hc he => ?_) hf
  obtain ⟨x4, σ⟩ := a
  have hk : (∀ a' : Int32 × XS, y = .inl a' → WW G 73 [(0, .ref (gB G + r0)), (1, .int x1), (2, .int x2), (3, .int x3), (4, .int a'.1)] [] a'.2) ∧ (∀ b3 : ((Int32 × XS) ⊕ ((Int32 × XS) ⊕ (Int64 × XS))), y = .inr b3 → (∀ a' : Int32 × XS, b3 = .inl a' → WW G 37 [(0, .ref (gB G + r0)), (1, .int x1), (2, .int x2), (3, .int a'.1)] [] a'.2) ∧ (∀ b2 : ((Int32 × XS) ⊕ (Int64 × XS)), b3 = .inr b2 → (∀ a' : Int32 × XS, b2 = .inl a' → WW G 27 [(0, .ref (gB G + r0)), (1, .int x1), (2, .int a'.1)] [] a'.2) ∧ (∀ b1 : Int64 × XS, b2 = .inr b1 → XEnd G (some (.long b1.1)) b1.2))) := ⟨hc, fun b e => by have h9 := he b e; subst h9; exact hk⟩
  refine ww_iload (pc := 73) C 4 dX12_down_73 rfl ?_
  refine ww_aload_n (pc := 75) C 0 dX12_down_75 rfl ?_
  obtain ⟨_, e1, hf⟩ := xbd hf
  obtain ⟨v3, e2, hf⟩ := xbd hf
  refine ww_callVi (pc := 76) (as := []) (st := [.int x4]) C (k_X12_sites (l := gl G) (E := gE G) (hb := gB G) (σ := σ) e2) rfl (by decide) xc_X12_193 q1496 qp136 (xck_spec e1) rfl (by decide) (xst4 (Nat.le_of_ble_eq_true rfl)) xsame.rf.le xsame.rf.lim dX12_down_76 ?_
  refine ww_icmp_ge (pc := 79) (tgt := 128) C dX12_down_79 (by decide) (fun q => ?_) (fun q => ?_)
  · have hf := xip q hf
    obtain ⟨b0, hg, e9⟩ := xmj hf
    subst e9
    have hf := hg
    have hk := hk.2 _ rfl
    refine ww_aload_n (pc := 128) C 0 dX12_down_128 rfl ?_
    obtain ⟨z5, e4, hf⟩ := xbd hf
    refine gf_X12_84 (pc := 129) C e4 dX12_down_129 ?_
    refine ww_iload_n (pc := 132) C 3 dX12_down_132 rfl ?_
    obtain ⟨v7, e6, hf⟩ := xbd hf
    refine ww_lald (pc := 133) C e6 dX12_down_133 ?_
    refine ww_lconst (pc := 134) (v := (0 : Int64)) C dX12_down_134 (by decide) ?_
    refine ww_lcmp (pc := 135) C dX12_down_135 ?_
    refine ww_if_ne (pc := 136) (tgt := 146) C dX12_down_136 (by decide) (fun q => ?_) (fun q => ?_)
    · have hf := xin q hf
      refine ww_iinc (pc := 146) (v := x3 + (1 : Int32)) (lv' := [(3, .int (x3 + (1 : Int32))), (0, .ref (gB G + r0)), (1, .int x1), (2, .int x2), (4, .int x4)]) C 3 dX12_down_146 rfl (congrArg (fun z => x3 + z) (show Int32.ofInt (1) = (1 : Int32) by decide)) (by decide) rfl ?_
      refine ww_goto (pc := 149) (tgt := 37) C dX12_down_149 (by decide) ?_
      have hf := xsj hf
      subst hf
      refine ww_sub [1, 2, 3, 0] rfl ?_
      exact hk.1 (x3 + (1 : Int32), σ) rfl
    · have hf := xip q hf
      refine ww_aload_n (pc := 139) C 0 dX12_down_139 rfl ?_
      obtain ⟨z9, e8, hf⟩ := xbd hf
      refine gf_X12_84 (pc := 140) C e8 dX12_down_140 ?_
      refine ww_iload_n (pc := 143) C 3 dX12_down_143 rfl ?_
      refine ww_lconst (pc := 144) (v := (1 : Int64)) C dX12_down_144 (by decide) ?_
      obtain ⟨σ11, e10, hf⟩ := xbd hf
      refine ww_last (pc := 145) C e10 dX12_down_145 ?_
      refine ww_iinc (pc := 146) (v := x3 + (1 : Int32)) (lv' := [(3, .int (x3 + (1 : Int32))), (0, .ref (gB G + r0)), (1, .int x1), (2, .int x2), (4, .int x4)]) C 3 dX12_down_146 rfl (congrArg (fun z => x3 + z) (show Int32.ofInt (1) = (1 : Int32) by decide)) (by decide) rfl ?_
      refine ww_goto (pc := 149) (tgt := 37) C dX12_down_149 (by decide) ?_
      have hf := xsj hf
      subst hf
      refine ww_sub [1, 2, 3, 0] rfl ?_
      exact hk.1 (x3 + (1 : Int32), σ11) rfl
  · have hf := xin q hf
    refine ww_aload_n (pc := 82) C 0 dX12_down_82 rfl ?_
    obtain ⟨z5, e4, hf⟩ := xbd hf
    refine gf_X12_57 (pc := 83) C e4 dX12_down_83 ?_
    refine ww_iload_n (pc := 86) C 3 dX12_down_86 rfl ?_
    refine ww_iconst (pc := 87) (v := (1 : Int32)) C dX12_down_87 (by decide) ?_
    refine ww_iload (pc := 88) C 4 dX12_down_88 rfl ?_
    refine ww_ishl (pc := 90) C dX12_down_90 ?_
    refine ww_ixor (pc := 91) C dX12_down_91 ?_
    obtain ⟨v7, e6, hf⟩ := xbd hf
    refine ww_iald (pc := 92) C e6 dX12_down_92 ?_
    refine ww_aload_n (pc := 93) C 0 dX12_down_93 rfl ?_
    obtain ⟨z9, e8, hf⟩ := xbd hf
    refine gf_X12_57 (pc := 94) C e8 dX12_down_94 ?_
    refine ww_iload_n (pc := 97) C 3 dX12_down_97 rfl ?_
    obtain ⟨v11, e10, hf⟩ := xbd hf
    refine ww_iald (pc := 98) C e10 dX12_down_98 ?_
    refine ww_icmp_ge (pc := 99) (tgt := 122) C dX12_down_99 (by decide) (fun q => ?_) (fun q => ?_)
    · have hf := xip q hf
      refine ww_iinc (pc := 122) (v := x4 + (1 : Int32)) (lv' := [(4, .int (x4 + (1 : Int32))), (0, .ref (gB G + r0)), (1, .int x1), (2, .int x2), (3, .int x3)]) C 4 dX12_down_122 rfl (congrArg (fun z => x4 + z) (show Int32.ofInt (1) = (1 : Int32) by decide)) (by decide) rfl ?_
      refine ww_goto (pc := 125) (tgt := 73) C dX12_down_125 (by decide) ?_
      have hf := xsj hf
      subst hf
      refine ww_sub [1, 2, 3, 4, 0] rfl ?_
      exact hk.1 (x4 + (1 : Int32), σ) rfl
    · have hf := xin q hf
      refine ww_aload_n (pc := 102) C 0 dX12_down_102 rfl ?_
      obtain ⟨z13, e12, hf⟩ := xbd hf
      refine gf_X12_84 (pc := 103) C e12 dX12_down_103 ?_
      refine ww_iload_n (pc := 106) C 3 dX12_down_106 rfl ?_
      refine ww_dup2 (pc := 107) C dX12_down_107 rfl rfl ?_
      obtain ⟨v15, e14, hf⟩ := xbd hf
      refine ww_lald (pc := 108) C e14 dX12_down_108 ?_
      refine ww_aload_n (pc := 109) C 0 dX12_down_109 rfl ?_
      obtain ⟨z17, e16, hf⟩ := xbd hf
      refine gf_X12_84 (pc := 110) C e16 dX12_down_110 ?_
      refine ww_iload_n (pc := 113) C 3 dX12_down_113 rfl ?_
      refine ww_iconst (pc := 114) (v := (1 : Int32)) C dX12_down_114 (by decide) ?_
      refine ww_iload (pc := 115) C 4 dX12_down_115 rfl ?_
      refine ww_ishl (pc := 117) C dX12_down_117 ?_
      refine ww_ixor (pc := 118) C dX12_down_118 ?_
      obtain ⟨v19, e18, hf⟩ := xbd hf
      refine ww_lald (pc := 119) C e18 dX12_down_119 ?_
      refine ww_ladd (pc := 120) C dX12_down_120 ?_
      obtain ⟨σ21, e20, hf⟩ := xbd hf
      refine ww_last (pc := 121) C e20 dX12_down_121 ?_
      refine ww_iinc (pc := 122) (v := x4 + (1 : Int32)) (lv' := [(4, .int (x4 + (1 : Int32))), (0, .ref (gB G + r0)), (1, .int x1), (2, .int x2), (3, .int x3)]) C 4 dX12_down_122 rfl (congrArg (fun z => x4 + z) (show Int32.ofInt (1) = (1 : Int32) by decide)) (by decide) rfl ?_
      refine ww_goto (pc := 125) (tgt := 73) C dX12_down_125 (by decide) ?_
      have hf := xsj hf
      subst hf
      refine ww_sub [1, 2, 3, 4, 0] rfl ?_
      exact hk.1 (x4 + (1 : Int32), σ21) rfl
theorem m_X12_down_l37 {r0 : Nat} {x1 : Int32} {x2 : Int32} {a : Int32 × XS} {x : ((Int32 × XS) ⊕ (Int64 × XS))} (hf : xloop (f_X12_down_b37 r0 x1 x2) a = some x) : (∀ a' : Int32 × XS, x = .inl a' → xsame a.2 a'.2) ∧ (∀ b1 : Int64 × XS, x = .inr b1 → xsame a.2 b1.2) := by
  refine xloop_ind (P := fun a => (∀ a' : Int32 × XS, x = .inl a' → xsame a.2 a'.2) ∧ (∀ b1 : Int64 × XS, x = .inr b1 → xsame a.2 b1.2)) (fun a y hf hc he => ?_) hf
  obtain ⟨x3, σ⟩ := a
  have hy : (∀ a' : Int32 × XS, y = .inl a' → xsame σ a'.2) ∧ (∀ b2 : ((Int32 × XS) ⊕ (Int64 × XS)), y = .inr b2 → (∀ a' : Int32 × XS, b2 = .inl a' → xsame σ a'.2) ∧ (∀ b1 : Int64 × XS, b2 = .inr b1 → xsame σ b1.2)) := by
    have hm := xsame.rf (σ := σ)
    obtain ⟨_, e1, hf⟩ := xbd hf
    obtain ⟨v3, e2, hf⟩ := xbd hf
    by_cases q : v3 ≤ x3
    · have hf := xip q hf
      obtain ⟨b0, hg, e9⟩ := xmj hf
      subst e9
      have hf := hg
      refine ⟨fun a' e => xnc2 e, fun b e => ?_⟩
      have h9 := Sum.inr.inj e
      subst h9
      have hf := xsj hf
      subst hf
      exact ⟨fun a' e => (by have h9 := Sum.inl.inj e; subst h9; exact hm), fun b e => xnc1 e⟩
    · have hf := xin q hf
      obtain ⟨z5, e4, hf⟩ := xbd hf
      obtain ⟨v7, e6, hf⟩ := xbd hf
      obtain ⟨z9, e8, hf⟩ := xbd hf
      obtain ⟨v11, e10, hf⟩ := xbd hf
      by_cases q : v7 = v11
      · have hf := xip q hf
        obtain ⟨z13, e12, hf⟩ := xbd hf
        obtain ⟨σ15, e14, hf⟩ := xbd hf
        have hm := hm.tr (xsL_same e14)
        exact ⟨fun a' e => hm.tr ((m_X12_down_l73 (a := ((0 : Int32), σ15)) hf).1 a' e), fun b2 eb2 => ⟨fun a' e => hm.tr (((m_X12_down_l73 (a := ((0 : Int32), σ15)) hf).2 b2 eb2).1 a' e), fun b1 eb1 => hm.tr (((m_X12_down_l73 (a := ((0 : Int32), σ15)) hf).2 b2 eb2).2 b1 eb1)⟩⟩
      · have hf := xin q hf
        have hf := xsj hf
        subst hf
        exact ⟨fun a' e => (by have h9 := Sum.inl.inj e; subst h9; exact hm), fun b e => xnc1 e⟩
  cases y with
  | inl a' =>
    have h1 := hc a' rfl
    have hm := hy.1 a' rfl
    exact ⟨fun a' e => hm.tr ((h1).1 a' e), fun b1 eb1 => hm.tr ((h1).2 b1 eb1)⟩
  | inr b =>
    have h1 := he b rfl
    subst h1
    exact hy.2 _ rfl
theorem s_X12_down_l37 {G : XG} (C : XC G cX12_down RX12 (some .long) 5 4 96) {r0 : Nat} {x1 : Int32} {x2 : Int32} {a : Int32 × XS} {x : ((Int32 × XS) ⊕ (Int64 × XS))} (hf : xloop (f_X12_down_b37 r0 x1 x2) a = some x) (hk : (∀ a' : Int32 × XS, x = .inl a' → WW G 27 [(0, .ref (gB G + r0)), (1, .int x1), (2, .int a'.1)] [] a'.2) ∧ (∀ b1 : Int64 × XS, x = .inr b1 → XEnd G (some (.long b1.1)) b1.2)) : WW G 37 [(0, .ref (gB G + r0)), (1, .int x1), (2, .int x2), (3, .int a.1)] [] a.2 := by
  refine xloop_ind (P := fun a => WW G 37 [(0, .ref (gB G + r0)), (1, .int x1), (2, .int x2), (3, .int a.1)] [] a.2) (fun a y hf hc he => ?_) hf
  obtain ⟨x3, σ⟩ := a
  have hk : (∀ a' : Int32 × XS, y = .inl a' → WW G 37 [(0, .ref (gB G + r0)), (1, .int x1), (2, .int x2), (3, .int a'.1)] [] a'.2) ∧ (∀ b2 : ((Int32 × XS) ⊕ (Int64 × XS)), y = .inr b2 → (∀ a' : Int32 × XS, b2 = .inl a' → WW G 27 [(0, .ref (gB G + r0)), (1, .int x1), (2, .int a'.1)] [] a'.2) ∧ (∀ b1 : Int64 × XS, b2 = .inr b1 → XEnd G (some (.long b1.1)) b1.2)) := ⟨hc, fun b e => by have h9 := he b e; subst h9; exact hk⟩
  refine ww_iload_n (pc := 37) C 3 dX12_down_37 rfl ?_
  refine ww_aload_n (pc := 38) C 0 dX12_down_38 rfl ?_
  obtain ⟨_, e1, hf⟩ := xbd hf
  obtain ⟨v3, e2, hf⟩ := xbd hf
  refine ww_callVi (pc := 39) (as := []) (st := [.int x3]) C (k_X12_states (l := gl G) (E := gE G) (hb := gB G) (σ := σ) e2) rfl (by decide) xc_X12_270 q1555 qp141 (xck_spec e1) rfl (by decide) (xst4 (Nat.le_of_ble_eq_true rfl)) xsame.rf.le xsame.rf.lim dX12_down_39 ?_
  refine ww_icmp_ge (pc := 42) (tgt := 152) C dX12_down_42 (by decide) (fun q => ?_) (fun q => ?_)
  · have hf := xip q hf
    obtain ⟨b0, hg, e9⟩ := xmj hf
    subst e9
    have hf := hg
    have hk := hk.2 _ rfl
    refine ww_iinc (pc := 152) (v := x2 + (1 : Int32)) (lv' := [(2, .int (x2 + (1 : Int32))), (0, .ref (gB G + r0)), (1, .int x1), (3, .int x3)]) C 2 dX12_down_152 rfl (congrArg (fun z => x2 + z) (show Int32.ofInt (1) = (1 : Int32) by decide)) (by decide) rfl ?_
    refine ww_goto (pc := 155) (tgt := 27) C dX12_down_155 (by decide) ?_
    have hf := xsj hf
    subst hf
    refine ww_sub [1, 2, 0] rfl ?_
    exact hk.1 (x2 + (1 : Int32), σ) rfl
  · have hf := xin q hf
    refine ww_aload_n (pc := 45) C 0 dX12_down_45 rfl ?_
    obtain ⟨z5, e4, hf⟩ := xbd hf
    refine gf_X12_57 (pc := 46) C e4 dX12_down_46 ?_
    refine ww_iload_n (pc := 49) C 3 dX12_down_49 rfl ?_
    obtain ⟨v7, e6, hf⟩ := xbd hf
    refine ww_iald (pc := 50) C e6 dX12_down_50 ?_
    refine ww_aload_n (pc := 51) C 0 dX12_down_51 rfl ?_
    obtain ⟨z9, e8, hf⟩ := xbd hf
    refine gf_X12_63 (pc := 52) C e8 dX12_down_52 ?_
    refine ww_iload_n (pc := 55) C 2 dX12_down_55 rfl ?_
    obtain ⟨v11, e10, hf⟩ := xbd hf
    refine ww_iald (pc := 56) C e10 dX12_down_56 ?_
    refine ww_icmp_eq (pc := 57) (tgt := 63) C dX12_down_57 (by decide) (fun q => ?_) (fun q => ?_)
    · have hf := xip q hf
      refine ww_aload_n (pc := 63) C 0 dX12_down_63 rfl ?_
      obtain ⟨z13, e12, hf⟩ := xbd hf
      refine gf_X12_84 (pc := 64) C e12 dX12_down_64 ?_
      refine ww_iload_n (pc := 67) C 3 dX12_down_67 rfl ?_
      refine ww_lconst (pc := 68) (v := (0 : Int64)) C dX12_down_68 (by decide) ?_
      obtain ⟨σ15, e14, hf⟩ := xbd hf
      refine ww_last (pc := 69) C e14 dX12_down_69 ?_
      refine ww_iconst (pc := 70) (v := (0 : Int32)) C dX12_down_70 (by decide) ?_
      refine ww_istore (pc := 71) (lv' := [(4, .int (0 : Int32)), (0, .ref (gB G + r0)), (1, .int x1), (2, .int x2), (3, .int x3)]) C dX12_down_71 (by decide) rfl ?_
      refine ww_sub [1, 2, 3, 4, 0] rfl ?_
      exact s_X12_down_l73 C (a := ((0 : Int32), σ15)) hf hk
    · have hf := xin q hf
      refine ww_goto (pc := 60) (tgt := 146) C dX12_down_60 (by decide) ?_
      refine ww_iinc (pc := 146) (v := x3 + (1 : Int32)) (lv' := [(3, .int (x3 + (1 : Int32))), (0, .ref (gB G + r0)), (1, .int x1), (2, .int x2)]) C 3 dX12_down_146 rfl (congrArg (fun z => x3 + z) (show Int32.ofInt (1) = (1 : Int32) by decide)) (by decide) rfl ?_
      refine ww_goto (pc := 149) (tgt := 37) C dX12_down_149 (by decide) ?_
      have hf := xsj hf
      subst hf
      refine ww_sub [1, 2, 3, 0] rfl ?_
      exact hk.1 (x3 + (1 : Int32), σ) rfl
theorem m_X12_down_l27 {r0 : Nat} {x1 : Int32} {a : Int32 × XS} {x : Int64 × XS} (hf : xloop (f_X12_down_b27 r0 x1) a = some x) : xsame a.2 x.2 := by
  refine xloop_ind (P := fun a => xsame a.2 x.2) (fun a y hf hc he => ?_) hf
  obtain ⟨x2, σ⟩ := a
  have hy : (∀ a' : Int32 × XS, y = .inl a' → xsame σ a'.2) ∧ (∀ b1 : Int64 × XS, y = .inr b1 → xsame σ b1.2) := by
    have hm := xsame.rf (σ := σ)
    obtain ⟨v2, e1, hf⟩ := xbd hf
    by_cases q : v2 ≤ x2
    · have hf := xip q hf
      obtain ⟨b0, hg, e9⟩ := xmj hf
      subst e9
      have hf := hg
      refine ⟨fun a' e => xnc2 e, fun b e => ?_⟩
      have h9 := Sum.inr.inj e
      subst h9
      obtain ⟨z4, e3, hf⟩ := xbd hf
      obtain ⟨v6, e5, hf⟩ := xbd hf
      have hf := xsj hf
      subst hf
      exact hm
    · have hf := xin q hf
      exact ⟨fun a' e => hm.tr ((m_X12_down_l37 (a := ((0 : Int32), σ)) hf).1 a' e), fun b1 eb1 => hm.tr ((m_X12_down_l37 (a := ((0 : Int32), σ)) hf).2 b1 eb1)⟩
  cases y with
  | inl a' =>
    have h1 := hc a' rfl
    have hm := hy.1 a' rfl
    exact hm.tr (h1)
  | inr b =>
    have h1 := he b rfl
    subst h1
    exact hy.2 _ rfl
theorem s_X12_down_l27 {G : XG} (C : XC G cX12_down RX12 (some .long) 5 4 96) {r0 : Nat} {x1 : Int32} {a : Int32 × XS} {x : Int64 × XS} (hf : xloop (f_X12_down_b27 r0 x1) a = some x) (hk : XEnd G (some (.long x.1)) x.2) : WW G 27 [(0, .ref (gB G + r0)), (1, .int x1), (2, .int a.1)] [] a.2 := by
  refine xloop_ind (P := fun a => WW G 27 [(0, .ref (gB G + r0)), (1, .int x1), (2, .int a.1)] [] a.2) (fun a y hf hc he => ?_) hf
  obtain ⟨x2, σ⟩ := a
  have hk : (∀ a' : Int32 × XS, y = .inl a' → WW G 27 [(0, .ref (gB G + r0)), (1, .int x1), (2, .int a'.1)] [] a'.2) ∧ (∀ b1 : Int64 × XS, y = .inr b1 → XEnd G (some (.long b1.1)) b1.2) := ⟨hc, fun b e => by have h9 := he b e; subst h9; exact hk⟩
  refine ww_iload_n (pc := 27) C 2 dX12_down_27 rfl ?_
  refine ww_aload_n (pc := 28) C 0 dX12_down_28 rfl ?_
  obtain ⟨v2, e1, hf⟩ := xbd hf
  refine gf_X12_285 (pc := 29) C e1 dX12_down_29 ?_
  refine ww_icmp_ge (pc := 32) (tgt := 158) C dX12_down_32 (by decide) (fun q => ?_) (fun q => ?_)
  · have hf := xip q hf
    obtain ⟨b0, hg, e9⟩ := xmj hf
    subst e9
    have hf := hg
    have hk := hk.2 _ rfl
    refine ww_aload_n (pc := 158) C 0 dX12_down_158 rfl ?_
    obtain ⟨z4, e3, hf⟩ := xbd hf
    refine gf_X12_84 (pc := 159) C e3 dX12_down_159 ?_
    refine ww_iload_n (pc := 162) C 1 dX12_down_162 rfl ?_
    obtain ⟨v6, e5, hf⟩ := xbd hf
    refine ww_lald (pc := 163) C e5 dX12_down_163 ?_
    have hf := xsj hf
    subst hf
    exact ww_lret (pc := 164) C hk dX12_down_164
  · have hf := xin q hf
    refine ww_iconst (pc := 35) (v := (0 : Int32)) C dX12_down_35 (by decide) ?_
    refine ww_istore_n (pc := 36) (lv' := [(3, .int (0 : Int32)), (0, .ref (gB G + r0)), (1, .int x1), (2, .int x2)]) C dX12_down_36 (by decide) rfl ?_
    refine ww_sub [1, 2, 3, 0] rfl ?_
    exact s_X12_down_l37 C (a := ((0 : Int32), σ)) hf hk
theorem s_X12_down_e {G : XG} (C : XC G cX12_down RX12 (some .long) 5 4 96) {σ : XS} {r0 : Nat} {x1 : Int32} {x : Int64 × XS} (hf : f_X12_down σ r0 x1 = some x) (hk : XEnd G (some (.long x.1)) x.2) : WW G 0 [(0, .ref (gB G + r0)), (1, .int x1)] [] σ := by
  refine ww_aload_n (pc := 0) C 0 dX12_down_0 rfl ?_
  refine ww_iload_n (pc := 1) C 1 dX12_down_1 rfl ?_
  obtain ⟨_, e1, hf⟩ := xbd hf
  obtain ⟨v3, e2, hf⟩ := xbd hf
  refine ww_callVi (pc := 2) (as := [.int x1]) (st := []) C (k_X12_isLawful (l := gl G) (E := gE G) (hb := gB G) (σ := σ) e2) rfl (by decide) xc_X12_281 q1559 qp142 (xck_spec e1) rfl (by decide) (xst4 (Nat.le_of_ble_eq_true rfl)) xsame.rf.le xsame.rf.lim dX12_down_2 ?_
  refine ww_if_eq (pc := 5) (tgt := 17) C dX12_down_5 (by decide) (fun q => ?_) (fun q => ?_)
  · have hf := xip q hf
    refine ww_ldc2 (pc := 17) C q1657 dX12_down_17 ?_
    have hf := xsj hf
    subst hf
    exact ww_lret (pc := 20) C hk dX12_down_20
  · have hf := xin q hf
    refine ww_aload_n (pc := 8) C 0 dX12_down_8 rfl ?_
    obtain ⟨_, e4, hf⟩ := xbd hf
    obtain ⟨v6, e5, hf⟩ := xbd hf
    refine ww_callVi (pc := 9) (as := []) (st := []) C (k_X12_sites (l := gl G) (E := gE G) (hb := gB G) (σ := σ) e5) rfl (by decide) xc_X12_193 q1496 qp136 (xck_spec e4) rfl (by decide) (xst4 (Nat.le_of_ble_eq_true rfl)) xsame.rf.le xsame.rf.lim dX12_down_9 ?_
    refine ww_bipush (pc := 12) (v := (10 : Int32)) C dX12_down_12 (by decide) ?_
    refine ww_icmp_le (pc := 14) (tgt := 21) C dX12_down_14 (by decide) (fun q => ?_) (fun q => ?_)
    · have hf := xip q hf
      refine ww_aload_n (pc := 21) C 0 dX12_down_21 rfl ?_
      obtain ⟨_, e7, hf⟩ := xbd hf
      obtain ⟨σ9, e8, hf⟩ := xbd hf
      refine ww_callVv (pc := 22) (as := []) (st := []) C (k_X12_knows (l := gl G) (E := gE G) (hb := gB G) (σ := σ) e8) rfl (by decide) xc_X12_261 q1551 qp140 (xck_spec e7) rfl (by decide) (xst4 (Nat.le_of_ble_eq_true rfl)) (m_X12_knows e8).le (m_X12_knows e8).lim dX12_down_22 ?_
      refine ww_iconst (pc := 25) (v := (0 : Int32)) C dX12_down_25 (by decide) ?_
      refine ww_istore_n (pc := 26) (lv' := [(2, .int (0 : Int32)), (0, .ref (gB G + r0)), (1, .int x1)]) C dX12_down_26 (by decide) rfl ?_
      refine ww_sub [1, 2, 0] rfl ?_
      exact s_X12_down_l27 C (a := ((0 : Int32), σ9)) hf hk
    · have hf := xin q hf
      refine ww_ldc2 (pc := 17) C q1657 dX12_down_17 ?_
      have hf := xsj hf
      subst hf
      exact ww_lret (pc := 20) C hk dX12_down_20
theorem m_X12_down {σ : XS} {r0 : Nat} {x1 : Int32} {x : Int64 × XS} (hf : f_X12_down σ r0 x1 = some x) : xsame σ x.2 := by
  have hm := xsame.rf (σ := σ)
  obtain ⟨_, e1, hf⟩ := xbd hf
  obtain ⟨v3, e2, hf⟩ := xbd hf
  by_cases q : v3 = 0
  · have hf := xip q hf
    have hf := xsj hf
    subst hf
    exact hm
  · have hf := xin q hf
    obtain ⟨_, e4, hf⟩ := xbd hf
    obtain ⟨v6, e5, hf⟩ := xbd hf
    by_cases q : v6 ≤ (10 : Int32)
    · have hf := xip q hf
      obtain ⟨_, e7, hf⟩ := xbd hf
      obtain ⟨σ9, e8, hf⟩ := xbd hf
      have hm := hm.tr (m_X12_knows e8)
      exact hm.tr (m_X12_down_l27 (a := ((0 : Int32), σ9)) hf)
    · have hf := xin q hf
      have hf := xsj hf
      subst hf
      exact hm
theorem k_X12_down {l : Launch} {E : XD} {hb : Nat} {σ : XS} {r0 : Nat} {x1 : Int32} {x : Int64 × XS} (h : f_X12_down σ r0 x1 = some x) : XM l yX12_down cX12_down 5 (some .long) 4 96 E hb [.ref (hb + r0), .int x1] σ (some (.long x.1)) x.2 := by
  refine xm_of (by decide) (Nat.le_of_ble_eq_true rfl) (m_X12_down h).le (fun G hG C hl hQ => ?_)
  obtain ⟨rfl, rfl, rfl, hN⟩ := hG
  exact s_X12_down_e C h hQ
noncomputable def f_X12_fail (σ : XS) (r0 : Nat) (x1 : Int32) : Option XS := (xgI σ r0 12 12).bind fun v2 => if v2 ≤ 0 then ((xpI σ r0 12 12 x1).bind fun σ4 => (xgR σ4 r0 12 6).bind fun z6 => (xgI σ4 r0 12 11).bind fun v8 => (xaI σ4 20 z6 v8).bind fun v10 => (xpI σ4 r0 12 13 v10).bind fun σ12 => some σ12) else some σ
theorem s_X12_fail_e {G : XG} (C : XC G cX12_fail RX12 none 2 0 0) {σ : XS} {r0 : Nat} {x1 : Int32} {x : XS} (hf : f_X12_fail σ r0 x1 = some x) (hk : XEnd G none x) : WW G 0 [(0, .ref (gB G + r0)), (1, .int x1)] [] σ := by
  refine ww_aload_n (pc := 0) C 0 dX12_fail_0 rfl ?_
  obtain ⟨v2, e1, hf⟩ := xbd hf
  refine gf_X12_132 (pc := 1) C e1 dX12_fail_1 ?_
  refine ww_if_le (pc := 4) (tgt := 8) C dX12_fail_4 (by decide) (fun q => ?_) (fun q => ?_)
  · have hf := xip q hf
    refine ww_aload_n (pc := 8) C 0 dX12_fail_8 rfl ?_
    refine ww_iload_n (pc := 9) C 1 dX12_fail_9 rfl ?_
    obtain ⟨σ4, e3, hf⟩ := xbd hf
    refine pf_X12_132 (pc := 10) C e3 dX12_fail_10 ?_
    refine ww_aload_n (pc := 13) C 0 dX12_fail_13 rfl ?_
    refine ww_aload_n (pc := 14) C 0 dX12_fail_14 rfl ?_
    obtain ⟨z6, e5, hf⟩ := xbd hf
    refine gf_X12_24 (pc := 15) C e5 dX12_fail_15 ?_
    refine ww_aload_n (pc := 18) C 0 dX12_fail_18 rfl ?_
    obtain ⟨v8, e7, hf⟩ := xbd hf
    refine gf_X12_135 (pc := 19) C e7 dX12_fail_19 ?_
    obtain ⟨v10, e9, hf⟩ := xbd hf
    refine ww_iald (pc := 22) C e9 dX12_fail_22 ?_
    obtain ⟨σ12, e11, hf⟩ := xbd hf
    refine pf_X12_138 (pc := 23) C e11 dX12_fail_23 ?_
    have hf := xsj hf
    subst hf
    exact ww_vret (pc := 26) C hk dX12_fail_26
  · have hf := xin q hf
    have hf := xsj hf
    subst hf
    exact ww_vret (pc := 7) C hk dX12_fail_7
theorem m_X12_fail {σ : XS} {r0 : Nat} {x1 : Int32} {x : XS} (hf : f_X12_fail σ r0 x1 = some x) : xsame σ x := by
  have hm := xsame.rf (σ := σ)
  obtain ⟨v2, e1, hf⟩ := xbd hf
  by_cases q : v2 ≤ 0
  · have hf := xip q hf
    obtain ⟨σ4, e3, hf⟩ := xbd hf
    have hm := hm.tr (xpI_same e3)
    obtain ⟨z6, e5, hf⟩ := xbd hf
    obtain ⟨v8, e7, hf⟩ := xbd hf
    obtain ⟨v10, e9, hf⟩ := xbd hf
    obtain ⟨σ12, e11, hf⟩ := xbd hf
    have hm := hm.tr (xpI_same e11)
    have hf := xsj hf
    subst hf
    exact hm
  · have hf := xin q hf
    have hf := xsj hf
    subst hf
    exact hm
theorem k_X12_fail {l : Launch} {E : XD} {hb : Nat} {σ : XS} {r0 : Nat} {x1 : Int32} {x : XS} (h : f_X12_fail σ r0 x1 = some x) : XM l yX12_fail cX12_fail 2 none 0 0 E hb [.ref (hb + r0), .int x1] σ none x := by
  refine xm_of (by decide) (Nat.le_of_ble_eq_true rfl) (m_X12_fail h).le (fun G hG C hl hQ => ?_)
  obtain ⟨rfl, rfl, rfl, hN⟩ := hG
  exact s_X12_fail_e C h hQ
noncomputable def f_X12_fallTurns_b11 (σ : XS) (r0 : Nat) : Int32 × Int32 × Int32 → Option ((Int32 × Int32 × Int32) ⊕ (Int32)) := fun a => match a with
  | (x2, x3, x4) => if x4 < 0 then ((some x3).map .inr) else (xck σ r0 12).bind fun _ => (f_X12_steepest σ r0 (x2 ^^^ ((1 : Int32) <<< (x4 &&& 31)))).bind fun v3 => some (.inl (x2 ^^^ ((1 : Int32) <<< (x4 &&& 31)), x3 + (1 : Int32), v3))
noncomputable def f_X12_fallTurns (σ : XS) (r0 : Nat) (x1 : Int32) : Option Int32 := (xck σ r0 12).bind fun _ => (f_X12_steepest σ r0 x1).bind fun v3 => xloop (f_X12_fallTurns_b11 σ r0) (x1, (0 : Int32), v3)
theorem s_X12_fallTurns_l11 {G : XG} (C : XC G cX12_fallTurns RX12 (some .int) 5 2 45) {σ : XS} {r0 : Nat} {a : Int32 × Int32 × Int32} {x : Int32} (hf : xloop (f_X12_fallTurns_b11 σ r0) a = some x) (hk : XEnd G (some (.int x)) σ) : WW G 11 [(0, .ref (gB G + r0)), (2, .int a.1), (3, .int a.2.1), (4, .int a.2.2)] [] σ := by
  refine xloop_ind (P := fun a => WW G 11 [(0, .ref (gB G + r0)), (2, .int a.1), (3, .int a.2.1), (4, .int a.2.2)] [] σ) (fun a y hf hc he => ?_) hf
  obtain ⟨x2, x3, x4⟩ := a
  have hk : (∀ a' : Int32 × Int32 × Int32, y = .inl a' → WW G 11 [(0, .ref (gB G + r0)), (2, .int a'.1), (3, .int a'.2.1), (4, .int a'.2.2)] [] σ) ∧ (∀ b1 : Int32, y = .inr b1 → XEnd G (some (.int b1)) σ) := ⟨hc, fun b e => by have h9 := he b e; subst h9; exact hk⟩
  refine ww_iload (pc := 11) C 3 dX12_fallTurns_11 rfl ?_
  refine ww_if_lt (pc := 13) (tgt := 36) C dX12_fallTurns_13 (by decide) (fun q => ?_) (fun q => ?_)
  · have hf := xip q hf
    obtain ⟨b0, hg, e9⟩ := xmj hf
    subst e9
    have hf := hg
    have hk := hk.2 _ rfl
    refine ww_iload_n (pc := 36) C 2 dX12_fallTurns_36 rfl ?_
    have hf := xsj hf
    subst hf
    exact ww_iret (pc := 37) C hk dX12_fallTurns_37
  · have hf := xin q hf
    refine ww_iload_n (pc := 16) C 1 dX12_fallTurns_16 rfl ?_
    refine ww_iconst (pc := 17) (v := (1 : Int32)) C dX12_fallTurns_17 (by decide) ?_
    refine ww_iload (pc := 18) C 3 dX12_fallTurns_18 rfl ?_
    refine ww_ishl (pc := 20) C dX12_fallTurns_20 ?_
    refine ww_ixor (pc := 21) C dX12_fallTurns_21 ?_
    refine ww_istore_n (pc := 22) (lv' := [(2, .int (x2 ^^^ ((1 : Int32) <<< (x4 &&& 31)))), (0, .ref (gB G + r0)), (3, .int x3), (4, .int x4)]) C dX12_fallTurns_22 (by decide) rfl ?_
    refine ww_iinc (pc := 23) (v := x3 + (1 : Int32)) (lv' := [(3, .int (x3 + (1 : Int32))), (2, .int (x2 ^^^ ((1 : Int32) <<< (x4 &&& 31)))), (0, .ref (gB G + r0)), (4, .int x4)]) C 2 dX12_fallTurns_23 rfl (congrArg (fun z => x3 + z) (show Int32.ofInt (1) = (1 : Int32) by decide)) (by decide) rfl ?_
    refine ww_aload_n (pc := 26) C 2 dX12_fallTurns_26 rfl ?_
    refine ww_iload_n (pc := 27) C 1 dX12_fallTurns_27 rfl ?_
    obtain ⟨_, e1, hf⟩ := xbd hf
    obtain ⟨v3, e2, hf⟩ := xbd hf
    refine ww_callVi (pc := 28) (as := [.int (x2 ^^^ ((1 : Int32) <<< (x4 &&& 31)))]) (st := []) C (k_X12_steepest (l := gl G) (E := gE G) (hb := gB G) (σ := σ) e2) rfl (by decide) xc_X12_321 q1575 qp145 (xck_spec e1) rfl (by decide) (xst4 (Nat.le_of_ble_eq_true rfl)) xsame.rf.le xsame.rf.lim dX12_fallTurns_28 ?_
    refine ww_istore (pc := 31) (lv' := [(4, .int v3), (3, .int (x3 + (1 : Int32))), (2, .int (x2 ^^^ ((1 : Int32) <<< (x4 &&& 31)))), (0, .ref (gB G + r0))]) C dX12_fallTurns_31 (by decide) rfl ?_
    refine ww_goto (pc := 33) (tgt := 11) C dX12_fallTurns_33 (by decide) ?_
    have hf := xsj hf
    subst hf
    refine ww_sub [3, 2, 1, 0] rfl ?_
    exact hk.1 (x2 ^^^ ((1 : Int32) <<< (x4 &&& 31)), x3 + (1 : Int32), v3) rfl
theorem s_X12_fallTurns_e {G : XG} (C : XC G cX12_fallTurns RX12 (some .int) 5 2 45) {σ : XS} {r0 : Nat} {x1 : Int32} {x : Int32} (hf : f_X12_fallTurns σ r0 x1 = some x) (hk : XEnd G (some (.int x)) σ) : WW G 0 [(0, .ref (gB G + r0)), (1, .int x1)] [] σ := by
  refine ww_iload_n (pc := 0) C 1 dX12_fallTurns_0 rfl ?_
  refine ww_istore_n (pc := 1) (lv' := [(2, .int x1), (0, .ref (gB G + r0)), (1, .int x1)]) C dX12_fallTurns_1 (by decide) rfl ?_
  refine ww_iconst (pc := 2) (v := (0 : Int32)) C dX12_fallTurns_2 (by decide) ?_
  refine ww_istore_n (pc := 3) (lv' := [(3, .int (0 : Int32)), (2, .int x1), (0, .ref (gB G + r0)), (1, .int x1)]) C dX12_fallTurns_3 (by decide) rfl ?_
  refine ww_aload_n (pc := 4) C 2 dX12_fallTurns_4 rfl ?_
  refine ww_iload_n (pc := 5) C 1 dX12_fallTurns_5 rfl ?_
  obtain ⟨_, e1, hf⟩ := xbd hf
  obtain ⟨v3, e2, hf⟩ := xbd hf
  refine ww_callVi (pc := 6) (as := [.int x1]) (st := []) C (k_X12_steepest (l := gl G) (E := gE G) (hb := gB G) (σ := σ) e2) rfl (by decide) xc_X12_321 q1575 qp145 (xck_spec e1) rfl (by decide) (xst4 (Nat.le_of_ble_eq_true rfl)) xsame.rf.le xsame.rf.lim dX12_fallTurns_6 ?_
  refine ww_istore (pc := 9) (lv' := [(4, .int v3), (3, .int (0 : Int32)), (2, .int x1), (0, .ref (gB G + r0)), (1, .int x1)]) C dX12_fallTurns_9 (by decide) rfl ?_
  refine ww_sub [3, 2, 1, 0] rfl ?_
  exact s_X12_fallTurns_l11 C (a := (x1, (0 : Int32), v3)) hf hk
theorem k_X12_fallTurns {l : Launch} {E : XD} {hb : Nat} {σ : XS} {r0 : Nat} {x1 : Int32} {x : Int32} (h : f_X12_fallTurns σ r0 x1 = some x) : XM l yX12_fallTurns cX12_fallTurns 5 (some .int) 2 45 E hb [.ref (hb + r0), .int x1] σ (some (.int x)) σ := by
  refine xm_of (by decide) (Nat.le_of_ble_eq_true rfl) ⟨Nat.le_refl _, Nat.le_refl _⟩ (fun G hG C hl hQ => ?_)
  obtain ⟨rfl, rfl, rfl, hN⟩ := hG
  exact s_X12_fallTurns_e C h hQ
noncomputable def f_X12_marks_b50 (r0 : Nat) (x1 : Int32) : Int32 × XS → Option ((Int32 × XS) ⊕ (XS)) := fun a => match a with
  | (x2, σ) => if (66 : Int32) ≤ x2 then (((xgI σ r0 12 29).bind fun v2 => (xpI σ r0 12 29 (v2 + (1 : Int32))).bind fun σ4 => some σ4).map .inr) else (xgR σ r0 12 27).bind fun z2 => (xgR σ r0 12 21).bind fun z4 => (xaI σ 20 z4 x2).bind fun v6 => (xsI σ 20 z2 (x1 + x2) v6).bind fun σ8 => some (.inl (x2 + (1 : Int32), σ8))
noncomputable def f_X12_marks_j32 (σ : XS) (r0 : Nat) : Option XS := (xgI σ r0 12 28).bind fun v2 => (xgI σ r0 12 29).bind fun v4 => xloop (f_X12_marks_b50 r0 ((66 : Int32) * ((v2 + v4) - (v2 + v4) / (40 : Int32) * (40 : Int32)))) ((0 : Int32), σ)
noncomputable def f_X12_marks (σ : XS) (r0 : Nat) : Option XS := (xgI σ r0 12 29).bind fun v2 => if v2 = (40 : Int32) then ((xgI σ r0 12 28).bind fun v4 => (xpI σ r0 12 28 ((v4 + (1 : Int32)) - (v4 + (1 : Int32)) / (40 : Int32) * (40 : Int32))).bind fun σ6 => (xgI σ6 r0 12 29).bind fun v8 => (xpI σ6 r0 12 29 (v8 - (1 : Int32))).bind fun σ10 => f_X12_marks_j32 σ10 r0) else f_X12_marks_j32 σ r0
theorem m_X12_marks_l50 {r0 : Nat} {x1 : Int32} {a : Int32 × XS} {x : XS} (hf : xloop (f_X12_marks_b50 r0 x1) a = some x) : xsame a.2 x := by
  refine xloop_ind (P := fun a => xsame a.2 x) (fun a y hf hc he => ?_) hf
  obtain ⟨x2, σ⟩ := a
  have hy : (∀ a' : Int32 × XS, y = .inl a' → xsame σ a'.2) ∧ (∀ b1 : XS, y = .inr b1 → xsame σ b1) := by
    have hm := xsame.rf (σ := σ)
    by_cases q : (66 : Int32) ≤ x2
    · have hf := xip q hf
      obtain ⟨b0, hg, e9⟩ := xmj hf
      subst e9
      have hf := hg
      refine ⟨fun a' e => xnc2 e, fun b e => ?_⟩
      have h9 := Sum.inr.inj e
      subst h9
      obtain ⟨v2, e1, hf⟩ := xbd hf
      obtain ⟨σ4, e3, hf⟩ := xbd hf
      have hm := hm.tr (xpI_same e3)
      have hf := xsj hf
      subst hf
      exact hm
    · have hf := xin q hf
      obtain ⟨z2, e1, hf⟩ := xbd hf
      obtain ⟨z4, e3, hf⟩ := xbd hf
      obtain ⟨v6, e5, hf⟩ := xbd hf
      obtain ⟨σ8, e7, hf⟩ := xbd hf
      have hm := hm.tr (xsI_same e7)
      have hf := xsj hf
      subst hf
      exact ⟨fun a' e => (by have h9 := Sum.inl.inj e; subst h9; exact hm), fun b e => xnc1 e⟩
  cases y with
  | inl a' =>
    have h1 := hc a' rfl
    have hm := hy.1 a' rfl
    exact hm.tr (h1)
  | inr b =>
    have h1 := he b rfl
    subst h1
    exact hy.2 _ rfl
theorem s_X12_marks_l50 {G : XG} (C : XC G cX12_marks RX12 none 3 0 0) {r0 : Nat} {x1 : Int32} {a : Int32 × XS} {x : XS} (hf : xloop (f_X12_marks_b50 r0 x1) a = some x) (hk : XEnd G none x) : WW G 50 [(0, .ref (gB G + r0)), (1, .int x1), (2, .int a.1)] [] a.2 := by
  refine xloop_ind (P := fun a => WW G 50 [(0, .ref (gB G + r0)), (1, .int x1), (2, .int a.1)] [] a.2) (fun a y hf hc he => ?_) hf
  obtain ⟨x2, σ⟩ := a
  have hk : (∀ a' : Int32 × XS, y = .inl a' → WW G 50 [(0, .ref (gB G + r0)), (1, .int x1), (2, .int a'.1)] [] a'.2) ∧ (∀ b1 : XS, y = .inr b1 → XEnd G none b1) := ⟨hc, fun b e => by have h9 := he b e; subst h9; exact hk⟩
  refine ww_iload_n (pc := 50) C 2 dX12_marks_50 rfl ?_
  refine ww_bipush (pc := 51) (v := (66 : Int32)) C dX12_marks_51 (by decide) ?_
  refine ww_icmp_ge (pc := 53) (tgt := 76) C dX12_marks_53 (by decide) (fun q => ?_) (fun q => ?_)
  · have hf := xip q hf
    obtain ⟨b0, hg, e9⟩ := xmj hf
    subst e9
    have hf := hg
    have hk := hk.2 _ rfl
    refine ww_aload_n (pc := 76) C 0 dX12_marks_76 rfl ?_
    refine ww_dup (pc := 77) C dX12_marks_77 rfl ?_
    obtain ⟨v2, e1, hf⟩ := xbd hf
    refine gf_X12_197 (pc := 78) C e1 dX12_marks_78 ?_
    refine ww_iconst (pc := 81) (v := (1 : Int32)) C dX12_marks_81 (by decide) ?_
    refine ww_iadd (pc := 82) C dX12_marks_82 ?_
    obtain ⟨σ4, e3, hf⟩ := xbd hf
    refine pf_X12_197 (pc := 83) C e3 dX12_marks_83 ?_
    have hf := xsj hf
    subst hf
    exact ww_vret (pc := 86) C hk dX12_marks_86
  · have hf := xin q hf
    refine ww_aload_n (pc := 56) C 0 dX12_marks_56 rfl ?_
    obtain ⟨z2, e1, hf⟩ := xbd hf
    refine gf_X12_46 (pc := 57) C e1 dX12_marks_57 ?_
    refine ww_iload_n (pc := 60) C 1 dX12_marks_60 rfl ?_
    refine ww_iload_n (pc := 61) C 2 dX12_marks_61 rfl ?_
    refine ww_iadd (pc := 62) C dX12_marks_62 ?_
    refine ww_aload_n (pc := 63) C 0 dX12_marks_63 rfl ?_
    obtain ⟨z4, e3, hf⟩ := xbd hf
    refine gf_X12_40 (pc := 64) C e3 dX12_marks_64 ?_
    refine ww_iload_n (pc := 67) C 2 dX12_marks_67 rfl ?_
    obtain ⟨v6, e5, hf⟩ := xbd hf
    refine ww_iald (pc := 68) C e5 dX12_marks_68 ?_
    obtain ⟨σ8, e7, hf⟩ := xbd hf
    refine ww_iast (pc := 69) C e7 dX12_marks_69 ?_
    refine ww_iinc (pc := 70) (v := x2 + (1 : Int32)) (lv' := [(2, .int (x2 + (1 : Int32))), (0, .ref (gB G + r0)), (1, .int x1)]) C 2 dX12_marks_70 rfl (congrArg (fun z => x2 + z) (show Int32.ofInt (1) = (1 : Int32) by decide)) (by decide) rfl ?_
    refine ww_goto (pc := 73) (tgt := 50) C dX12_marks_73 (by decide) ?_
    have hf := xsj hf
    subst hf
    refine ww_sub [1, 2, 0] rfl ?_
    exact hk.1 (x2 + (1 : Int32), σ8) rfl
theorem s_X12_marks_j32 {G : XG} (C : XC G cX12_marks RX12 none 3 0 0) {σ : XS} {r0 : Nat} {x : XS} (hf : f_X12_marks_j32 σ r0 = some x) (hk : XEnd G none x) : WW G 32 [(0, .ref (gB G + r0))] [] σ := by
  refine ww_bipush (pc := 32) (v := (66 : Int32)) C dX12_marks_32 (by decide) ?_
  refine ww_aload_n (pc := 34) C 0 dX12_marks_34 rfl ?_
  obtain ⟨v2, e1, hf⟩ := xbd hf
  refine gf_X12_230 (pc := 35) C e1 dX12_marks_35 ?_
  refine ww_aload_n (pc := 38) C 0 dX12_marks_38 rfl ?_
  obtain ⟨v4, e3, hf⟩ := xbd hf
  refine gf_X12_197 (pc := 39) C e3 dX12_marks_39 ?_
  refine ww_iadd (pc := 42) C dX12_marks_42 ?_
  refine ww_bipush (pc := 43) (v := (40 : Int32)) C dX12_marks_43 (by decide) ?_
  refine ww_irem (pc := 45) C dX12_marks_45 (by decide) ?_
  refine ww_imul (pc := 46) C dX12_marks_46 ?_
  refine ww_istore_n (pc := 47) (lv' := [(1, .int ((66 : Int32) * ((v2 + v4) - (v2 + v4) / (40 : Int32) * (40 : Int32)))), (0, .ref (gB G + r0))]) C dX12_marks_47 (by decide) rfl ?_
  refine ww_iconst (pc := 48) (v := (0 : Int32)) C dX12_marks_48 (by decide) ?_
  refine ww_istore_n (pc := 49) (lv' := [(2, .int (0 : Int32)), (1, .int ((66 : Int32) * ((v2 + v4) - (v2 + v4) / (40 : Int32) * (40 : Int32)))), (0, .ref (gB G + r0))]) C dX12_marks_49 (by decide) rfl ?_
  refine ww_sub [2, 1, 0] rfl ?_
  exact s_X12_marks_l50 C (a := ((0 : Int32), σ)) hf hk
theorem m_X12_marks_j32 {σ : XS} {r0 : Nat} {x : XS} (hf : f_X12_marks_j32 σ r0 = some x) : xsame σ x := by
  have hm := xsame.rf (σ := σ)
  obtain ⟨v2, e1, hf⟩ := xbd hf
  obtain ⟨v4, e3, hf⟩ := xbd hf
  exact hm.tr (m_X12_marks_l50 (a := ((0 : Int32), σ)) hf)
theorem s_X12_marks_e {G : XG} (C : XC G cX12_marks RX12 none 3 0 0) {σ : XS} {r0 : Nat} {x : XS} (hf : f_X12_marks σ r0 = some x) (hk : XEnd G none x) : WW G 0 [(0, .ref (gB G + r0))] [] σ := by
  refine ww_aload_n (pc := 0) C 0 dX12_marks_0 rfl ?_
  obtain ⟨v2, e1, hf⟩ := xbd hf
  refine gf_X12_197 (pc := 1) C e1 dX12_marks_1 ?_
  refine ww_bipush (pc := 4) (v := (40 : Int32)) C dX12_marks_4 (by decide) ?_
  refine ww_icmp_ne (pc := 6) (tgt := 32) C dX12_marks_6 (by decide) (fun q => ?_) (fun q => ?_)
  · have hf := xin q hf
    refine ww_sub [0] rfl ?_
    exact s_X12_marks_j32 C hf hk
  · have hf := xip q hf
    refine ww_aload_n (pc := 9) C 0 dX12_marks_9 rfl ?_
    refine ww_aload_n (pc := 10) C 0 dX12_marks_10 rfl ?_
    obtain ⟨v4, e3, hf⟩ := xbd hf
    refine gf_X12_230 (pc := 11) C e3 dX12_marks_11 ?_
    refine ww_iconst (pc := 14) (v := (1 : Int32)) C dX12_marks_14 (by decide) ?_
    refine ww_iadd (pc := 15) C dX12_marks_15 ?_
    refine ww_bipush (pc := 16) (v := (40 : Int32)) C dX12_marks_16 (by decide) ?_
    refine ww_irem (pc := 18) C dX12_marks_18 (by decide) ?_
    obtain ⟨σ6, e5, hf⟩ := xbd hf
    refine pf_X12_230 (pc := 19) C e5 dX12_marks_19 ?_
    refine ww_aload_n (pc := 22) C 0 dX12_marks_22 rfl ?_
    refine ww_dup (pc := 23) C dX12_marks_23 rfl ?_
    obtain ⟨v8, e7, hf⟩ := xbd hf
    refine gf_X12_197 (pc := 24) C e7 dX12_marks_24 ?_
    refine ww_iconst (pc := 27) (v := (1 : Int32)) C dX12_marks_27 (by decide) ?_
    refine ww_isub (pc := 28) C dX12_marks_28 ?_
    obtain ⟨σ10, e9, hf⟩ := xbd hf
    refine pf_X12_197 (pc := 29) C e9 dX12_marks_29 ?_
    refine ww_sub [0] rfl ?_
    exact s_X12_marks_j32 C hf hk
theorem m_X12_marks {σ : XS} {r0 : Nat} {x : XS} (hf : f_X12_marks σ r0 = some x) : xsame σ x := by
  have hm := xsame.rf (σ := σ)
  obtain ⟨v2, e1, hf⟩ := xbd hf
  by_cases q : v2 = (40 : Int32)
  · have hf := xip q hf
    obtain ⟨v4, e3, hf⟩ := xbd hf
    obtain ⟨σ6, e5, hf⟩ := xbd hf
    have hm := hm.tr (xpI_same e5)
    obtain ⟨v8, e7, hf⟩ := xbd hf
    obtain ⟨σ10, e9, hf⟩ := xbd hf
    have hm := hm.tr (xpI_same e9)
    exact hm.tr (m_X12_marks_j32 hf)
  · have hf := xin q hf
    exact hm.tr (m_X12_marks_j32 hf)
theorem k_X12_marks {l : Launch} {E : XD} {hb : Nat} {σ : XS} {r0 : Nat} {x : XS} (h : f_X12_marks σ r0 = some x) : XM l yX12_marks cX12_marks 3 none 0 0 E hb [.ref (hb + r0)] σ none x := by
  refine xm_of (by decide) (Nat.le_of_ble_eq_true rfl) (m_X12_marks h).le (fun G hG C hl hQ => ?_)
  obtain ⟨rfl, rfl, rfl, hN⟩ := hG
  exact s_X12_marks_e C h hQ
noncomputable def f_X12_fall (σ : XS) (r0 : Nat) : Option (Int32 × XS) := (xck σ r0 12).bind fun _ => (f_X12_sites σ r0).bind fun v3 => if v3 = 0 then (some ((-1 : Int32), σ)) else (xck σ r0 12).bind fun _ => (f_X12_knows σ r0).bind fun σ6 => (xgR σ6 r0 12 21).bind fun z8 => (xaI σ6 20 z8 (64 : Int32)).bind fun v10 => (xck σ6 r0 12).bind fun _ => (f_X12_fallTurns σ6 r0 v10).bind fun v13 => if v13 = 0 then (some ((0 : Int32), σ6)) else (xck σ6 r0 12).bind fun _ => (f_X12_marks σ6 r0).bind fun σ16 => (xgR σ16 r0 12 21).bind fun z18 => (xgR σ16 r0 12 21).bind fun z20 => (xaI σ16 20 z20 (64 : Int32)).bind fun v22 => (xck σ16 r0 12).bind fun _ => (f_X12_fallEnd σ16 r0 v22).bind fun v25 => (xsI σ16 20 z18 (64 : Int32) v25).bind fun σ27 => some (v13, σ27)
theorem s_X12_fall_e {G : XG} (C : XC G cX12_fall RX12 (some .int) 2 4 96) {σ : XS} {r0 : Nat} {x : Int32 × XS} (hf : f_X12_fall σ r0 = some x) (hk : XEnd G (some (.int x.1)) x.2) : WW G 0 [(0, .ref (gB G + r0))] [] σ := by
  refine ww_aload_n (pc := 0) C 0 dX12_fall_0 rfl ?_
  obtain ⟨_, e1, hf⟩ := xbd hf
  obtain ⟨v3, e2, hf⟩ := xbd hf
  refine ww_callVi (pc := 1) (as := []) (st := []) C (k_X12_sites (l := gl G) (E := gE G) (hb := gB G) (σ := σ) e2) rfl (by decide) xc_X12_193 q1496 qp136 (xck_spec e1) rfl (by decide) (xst4 (Nat.le_of_ble_eq_true rfl)) xsame.rf.le xsame.rf.lim dX12_fall_1 ?_
  refine ww_if_ne (pc := 4) (tgt := 9) C dX12_fall_4 (by decide) (fun q => ?_) (fun q => ?_)
  · have hf := xin q hf
    refine ww_aload_n (pc := 9) C 0 dX12_fall_9 rfl ?_
    obtain ⟨_, e4, hf⟩ := xbd hf
    obtain ⟨σ6, e5, hf⟩ := xbd hf
    refine ww_callVv (pc := 10) (as := []) (st := []) C (k_X12_knows (l := gl G) (E := gE G) (hb := gB G) (σ := σ) e5) rfl (by decide) xc_X12_261 q1551 qp140 (xck_spec e4) rfl (by decide) (xst4 (Nat.le_of_ble_eq_true rfl)) (m_X12_knows e5).le (m_X12_knows e5).lim dX12_fall_10 ?_
    refine ww_aload_n (pc := 13) C 0 dX12_fall_13 rfl ?_
    refine ww_aload_n (pc := 14) C 0 dX12_fall_14 rfl ?_
    obtain ⟨z8, e7, hf⟩ := xbd hf
    refine gf_X12_40 (pc := 15) C e7 dX12_fall_15 ?_
    refine ww_bipush (pc := 18) (v := (64 : Int32)) C dX12_fall_18 (by decide) ?_
    obtain ⟨v10, e9, hf⟩ := xbd hf
    refine ww_iald (pc := 20) C e9 dX12_fall_20 ?_
    obtain ⟨_, e11, hf⟩ := xbd hf
    obtain ⟨v13, e12, hf⟩ := xbd hf
    refine ww_callVi (pc := 21) (as := [.int v10]) (st := []) C (k_X12_fallTurns (l := gl G) (E := gE G) (hb := gB G) (σ := σ6) e12) rfl (by decide) xc_X12_264 q1571 qp144 (xck_spec e11) rfl (by decide) (xst4 (Nat.le_of_ble_eq_true rfl)) xsame.rf.le xsame.rf.lim dX12_fall_21 ?_
    refine ww_istore_n (pc := 24) (lv' := [(1, .int v13), (0, .ref (gB G + r0))]) C dX12_fall_24 (by decide) rfl ?_
    refine ww_iload_n (pc := 25) C 0 dX12_fall_25 rfl ?_
    refine ww_if_ne (pc := 26) (tgt := 31) C dX12_fall_26 (by decide) (fun q => ?_) (fun q => ?_)
    · have hf := xin q hf
      refine ww_aload_n (pc := 31) C 1 dX12_fall_31 rfl ?_
      obtain ⟨_, e14, hf⟩ := xbd hf
      obtain ⟨σ16, e15, hf⟩ := xbd hf
      refine ww_callVv (pc := 32) (as := []) (st := []) C (k_X12_marks (l := gl G) (E := gE G) (hb := gB G) (σ := σ6) e15) rfl (by decide) xc_X12_244 q1519 qp139 (xck_spec e14) rfl (by decide) (xst4 (Nat.le_of_ble_eq_true rfl)) (m_X12_marks e15).le (m_X12_marks e15).lim dX12_fall_32 ?_
      refine ww_aload_n (pc := 35) C 1 dX12_fall_35 rfl ?_
      obtain ⟨z18, e17, hf⟩ := xbd hf
      refine gf_X12_40 (pc := 36) C e17 dX12_fall_36 ?_
      refine ww_bipush (pc := 39) (v := (64 : Int32)) C dX12_fall_39 (by decide) ?_
      refine ww_aload_n (pc := 41) C 1 dX12_fall_41 rfl ?_
      refine ww_aload_n (pc := 42) C 1 dX12_fall_42 rfl ?_
      obtain ⟨z20, e19, hf⟩ := xbd hf
      refine gf_X12_40 (pc := 43) C e19 dX12_fall_43 ?_
      refine ww_bipush (pc := 46) (v := (64 : Int32)) C dX12_fall_46 (by decide) ?_
      obtain ⟨v22, e21, hf⟩ := xbd hf
      refine ww_iald (pc := 48) C e21 dX12_fall_48 ?_
      obtain ⟨_, e23, hf⟩ := xbd hf
      obtain ⟨v25, e24, hf⟩ := xbd hf
      refine ww_callVi (pc := 49) (as := [.int v22]) (st := [.int (64 : Int32), .ref (gB G + z18)]) C (k_X12_fallEnd (l := gl G) (E := gE G) (hb := gB G) (σ := σ16) e24) rfl (by decide) xc_X12_267 q1579 qp146 (xck_spec e23) rfl (by decide) (xst4 (Nat.le_of_ble_eq_true rfl)) xsame.rf.le xsame.rf.lim dX12_fall_49 ?_
      obtain ⟨σ27, e26, hf⟩ := xbd hf
      refine ww_iast (pc := 52) C e26 dX12_fall_52 ?_
      refine ww_iload_n (pc := 53) C 0 dX12_fall_53 rfl ?_
      have hf := xsj hf
      subst hf
      exact ww_iret (pc := 54) C hk dX12_fall_54
    · have hf := xip q hf
      refine ww_iconst (pc := 29) (v := (0 : Int32)) C dX12_fall_29 (by decide) ?_
      have hf := xsj hf
      subst hf
      exact ww_iret (pc := 30) C hk dX12_fall_30
  · have hf := xip q hf
    refine ww_iconst (pc := 7) (v := (-1 : Int32)) C dX12_fall_7 (by decide) ?_
    have hf := xsj hf
    subst hf
    exact ww_iret (pc := 8) C hk dX12_fall_8
theorem m_X12_fall {σ : XS} {r0 : Nat} {x : Int32 × XS} (hf : f_X12_fall σ r0 = some x) : xsame σ x.2 := by
  have hm := xsame.rf (σ := σ)
  obtain ⟨_, e1, hf⟩ := xbd hf
  obtain ⟨v3, e2, hf⟩ := xbd hf
  by_cases q : v3 = 0
  · have hf := xip q hf
    have hf := xsj hf
    subst hf
    exact hm
  · have hf := xin q hf
    obtain ⟨_, e4, hf⟩ := xbd hf
    obtain ⟨σ6, e5, hf⟩ := xbd hf
    have hm := hm.tr (m_X12_knows e5)
    obtain ⟨z8, e7, hf⟩ := xbd hf
    obtain ⟨v10, e9, hf⟩ := xbd hf
    obtain ⟨_, e11, hf⟩ := xbd hf
    obtain ⟨v13, e12, hf⟩ := xbd hf
    by_cases q : v13 = 0
    · have hf := xip q hf
      have hf := xsj hf
      subst hf
      exact hm
    · have hf := xin q hf
      obtain ⟨_, e14, hf⟩ := xbd hf
      obtain ⟨σ16, e15, hf⟩ := xbd hf
      have hm := hm.tr (m_X12_marks e15)
      obtain ⟨z18, e17, hf⟩ := xbd hf
      obtain ⟨z20, e19, hf⟩ := xbd hf
      obtain ⟨v22, e21, hf⟩ := xbd hf
      obtain ⟨_, e23, hf⟩ := xbd hf
      obtain ⟨v25, e24, hf⟩ := xbd hf
      obtain ⟨σ27, e26, hf⟩ := xbd hf
      have hm := hm.tr (xsI_same e26)
      have hf := xsj hf
      subst hf
      exact hm
theorem k_X12_fall {l : Launch} {E : XD} {hb : Nat} {σ : XS} {r0 : Nat} {x : Int32 × XS} (h : f_X12_fall σ r0 = some x) : XM l yX12_fall cX12_fall 2 (some .int) 4 96 E hb [.ref (hb + r0)] σ (some (.int x.1)) x.2 := by
  refine xm_of (by decide) (Nat.le_of_ble_eq_true rfl) (m_X12_fall h).le (fun G hG C hl hQ => ?_)
  obtain ⟨rfl, rfl, rfl, hN⟩ := hG
  exact s_X12_fall_e C h hQ
noncomputable def f_X12_lays_b3 (r0 : Nat) (x1 : Int32) : Int32 × XS → Option ((Int32 × XS) ⊕ (XS)) := fun a => match a with
  | (x2, σ) => if x2 < 0 then ((some σ).map .inr) else (xgR σ r0 12 1).bind fun z2 => (xgI σ r0 12 2).bind fun v4 => (xsI σ 21 z2 v4 (vp_nar .byte ((x1 >>> (x2 &&& 31)).toInt8.toInt32))).bind fun σ6 => (xgI σ6 r0 12 2).bind fun v8 => (xpI σ6 r0 12 2 (v8 + (1 : Int32))).bind fun σ10 => some (.inl (x2 + (-8 : Int32), σ10))
noncomputable def f_X12_lays (σ : XS) (r0 : Nat) (x1 : Int32) : Option XS := xloop (f_X12_lays_b3 r0 x1) ((24 : Int32), σ)
theorem m_X12_lays_l3 {r0 : Nat} {x1 : Int32} {a : Int32 × XS} {x : XS} (hf : xloop (f_X12_lays_b3 r0 x1) a = some x) : xsame a.2 x := by
  refine xloop_ind (P := fun a => xsame a.2 x) (fun a y hf hc he => ?_) hf
  obtain ⟨x2, σ⟩ := a
  have hy : (∀ a' : Int32 × XS, y = .inl a' → xsame σ a'.2) ∧ (∀ b1 : XS, y = .inr b1 → xsame σ b1) := by
    have hm := xsame.rf (σ := σ)
    by_cases q : x2 < 0
    · have hf := xip q hf
      obtain ⟨b0, hg, e9⟩ := xmj hf
      subst e9
      have hf := hg
      refine ⟨fun a' e => xnc2 e, fun b e => ?_⟩
      have h9 := Sum.inr.inj e
      subst h9
      have hf := xsj hf
      subst hf
      exact hm
    · have hf := xin q hf
      obtain ⟨z2, e1, hf⟩ := xbd hf
      obtain ⟨v4, e3, hf⟩ := xbd hf
      obtain ⟨σ6, e5, hf⟩ := xbd hf
      have hm := hm.tr (xsI_same e5)
      obtain ⟨v8, e7, hf⟩ := xbd hf
      obtain ⟨σ10, e9, hf⟩ := xbd hf
      have hm := hm.tr (xpI_same e9)
      have hf := xsj hf
      subst hf
      exact ⟨fun a' e => (by have h9 := Sum.inl.inj e; subst h9; exact hm), fun b e => xnc1 e⟩
  cases y with
  | inl a' =>
    have h1 := hc a' rfl
    have hm := hy.1 a' rfl
    exact hm.tr (h1)
  | inr b =>
    have h1 := he b rfl
    subst h1
    exact hy.2 _ rfl
theorem s_X12_lays_l3 {G : XG} (C : XC G cX12_lays RX12 none 3 0 0) {r0 : Nat} {x1 : Int32} {a : Int32 × XS} {x : XS} (hf : xloop (f_X12_lays_b3 r0 x1) a = some x) (hk : XEnd G none x) : WW G 3 [(0, .ref (gB G + r0)), (1, .int x1), (2, .int a.1)] [] a.2 := by
  refine xloop_ind (P := fun a => WW G 3 [(0, .ref (gB G + r0)), (1, .int x1), (2, .int a.1)] [] a.2) (fun a y hf hc he => ?_) hf
  obtain ⟨x2, σ⟩ := a
  have hk : (∀ a' : Int32 × XS, y = .inl a' → WW G 3 [(0, .ref (gB G + r0)), (1, .int x1), (2, .int a'.1)] [] a'.2) ∧ (∀ b1 : XS, y = .inr b1 → XEnd G none b1) := ⟨hc, fun b e => by have h9 := he b e; subst h9; exact hk⟩
  refine ww_iload_n (pc := 3) C 2 dX12_lays_3 rfl ?_
  refine ww_if_lt (pc := 4) (tgt := 36) C dX12_lays_4 (by decide) (fun q => ?_) (fun q => ?_)
  · have hf := xip q hf
    obtain ⟨b0, hg, e9⟩ := xmj hf
    subst e9
    have hf := hg
    have hk := hk.2 _ rfl
    have hf := xsj hf
    subst hf
    exact ww_vret (pc := 36) C hk dX12_lays_36
  · have hf := xin q hf
    refine ww_aload_n (pc := 7) C 0 dX12_lays_7 rfl ?_
    obtain ⟨z2, e1, hf⟩ := xbd hf
    refine gf_X12_13 (pc := 8) C e1 dX12_lays_8 ?_
    refine ww_aload_n (pc := 11) C 0 dX12_lays_11 rfl ?_
    obtain ⟨v4, e3, hf⟩ := xbd hf
    refine gf_X12_94 (pc := 12) C e3 dX12_lays_12 ?_
    refine ww_iload_n (pc := 15) C 1 dX12_lays_15 rfl ?_
    refine ww_iload_n (pc := 16) C 2 dX12_lays_16 rfl ?_
    refine ww_ishr (pc := 17) C dX12_lays_17 ?_
    refine ww_i2b (pc := 18) (v := (x1 >>> (x2 &&& 31)).toInt8.toInt32) C dX12_lays_18 rfl ?_
    obtain ⟨σ6, e5, hf⟩ := xbd hf
    refine ww_bast (pc := 19) C rfl e5 dX12_lays_19 ?_
    refine ww_aload_n (pc := 20) C 0 dX12_lays_20 rfl ?_
    refine ww_dup (pc := 21) C dX12_lays_21 rfl ?_
    obtain ⟨v8, e7, hf⟩ := xbd hf
    refine gf_X12_94 (pc := 22) C e7 dX12_lays_22 ?_
    refine ww_iconst (pc := 25) (v := (1 : Int32)) C dX12_lays_25 (by decide) ?_
    refine ww_iadd (pc := 26) C dX12_lays_26 ?_
    obtain ⟨σ10, e9, hf⟩ := xbd hf
    refine pf_X12_94 (pc := 27) C e9 dX12_lays_27 ?_
    refine ww_iinc (pc := 30) (v := x2 + (-8 : Int32)) (lv' := [(2, .int (x2 + (-8 : Int32))), (0, .ref (gB G + r0)), (1, .int x1)]) C 2 dX12_lays_30 rfl (congrArg (fun z => x2 + z) (show Int32.ofInt (-8) = (-8 : Int32) by decide)) (by decide) rfl ?_
    refine ww_goto (pc := 33) (tgt := 3) C dX12_lays_33 (by decide) ?_
    have hf := xsj hf
    subst hf
    refine ww_sub [1, 2, 0] rfl ?_
    exact hk.1 (x2 + (-8 : Int32), σ10) rfl
theorem s_X12_lays_e {G : XG} (C : XC G cX12_lays RX12 none 3 0 0) {σ : XS} {r0 : Nat} {x1 : Int32} {x : XS} (hf : f_X12_lays σ r0 x1 = some x) (hk : XEnd G none x) : WW G 0 [(0, .ref (gB G + r0)), (1, .int x1)] [] σ := by
  refine ww_bipush (pc := 0) (v := (24 : Int32)) C dX12_lays_0 (by decide) ?_
  refine ww_istore_n (pc := 2) (lv' := [(2, .int (24 : Int32)), (0, .ref (gB G + r0)), (1, .int x1)]) C dX12_lays_2 (by decide) rfl ?_
  refine ww_sub [1, 2, 0] rfl ?_
  exact s_X12_lays_l3 C (a := ((24 : Int32), σ)) hf hk
theorem m_X12_lays {σ : XS} {r0 : Nat} {x1 : Int32} {x : XS} (hf : f_X12_lays σ r0 x1 = some x) : xsame σ x := by
  have hm := xsame.rf (σ := σ)
  exact hm.tr (m_X12_lays_l3 (a := ((24 : Int32), σ)) hf)
theorem k_X12_lays {l : Launch} {E : XD} {hb : Nat} {σ : XS} {r0 : Nat} {x1 : Int32} {x : XS} (h : f_X12_lays σ r0 x1 = some x) : XM l yX12_lays cX12_lays 3 none 0 0 E hb [.ref (hb + r0), .int x1] σ none x := by
  refine xm_of (by decide) (Nat.le_of_ble_eq_true rfl) (m_X12_lays h).le (fun G hG C hl hQ => ?_)
  obtain ⟨rfl, rfl, rfl, hN⟩ := hG
  exact s_X12_lays_e C h hQ
end
section
noncomputable def f_X12_feed (σ : XS) (r0 : Nat) (x1 : Int32) (x2 : Int32) (x3 : Int32) (x4 : Int32) (x5 : Int32) : Option (Int32 × XS) := (xgI σ r0 12 2).bind fun v2 => if (v2 + (20 : Int32)) ≤ (2000 : Int32) then ((xck σ r0 12).bind fun _ => (f_X12_lays σ r0 x1).bind fun σ5 => (xck σ5 r0 12).bind fun _ => (f_X12_lays σ5 r0 x2).bind fun σ8 => (xck σ8 r0 12).bind fun _ => (f_X12_lays σ8 r0 x3).bind fun σ11 => (xck σ11 r0 12).bind fun _ => (f_X12_lays σ11 r0 x4).bind fun σ14 => (xck σ14 r0 12).bind fun _ => (f_X12_lays σ14 r0 x5).bind fun σ17 => (xgI σ17 r0 12 2).bind fun v19 => some (v19, σ17)) else some ((-1 : Int32), σ)
theorem s_X12_feed_e {G : XG} (C : XC G cX12_feed RX12 (some .int) 6 1 22) {σ : XS} {r0 : Nat} {x1 : Int32} {x2 : Int32} {x3 : Int32} {x4 : Int32} {x5 : Int32} {x : Int32 × XS} (hf : f_X12_feed σ r0 x1 x2 x3 x4 x5 = some x) (hk : XEnd G (some (.int x.1)) x.2) : WW G 0 [(0, .ref (gB G + r0)), (1, .int x1), (2, .int x2), (3, .int x3), (4, .int x4), (5, .int x5)] [] σ := by
  refine ww_aload_n (pc := 0) C 0 dX12_feed_0 rfl ?_
  obtain ⟨v2, e1, hf⟩ := xbd hf
  refine gf_X12_94 (pc := 1) C e1 dX12_feed_1 ?_
  refine ww_bipush (pc := 4) (v := (20 : Int32)) C dX12_feed_4 (by decide) ?_
  refine ww_iadd (pc := 6) C dX12_feed_6 ?_
  refine ww_sipush (pc := 7) (v := (2000 : Int32)) C dX12_feed_7 (by decide) ?_
  refine ww_icmp_le (pc := 10) (tgt := 15) C dX12_feed_10 (by decide) (fun q => ?_) (fun q => ?_)
  · have hf := xip q hf
    refine ww_aload_n (pc := 15) C 0 dX12_feed_15 rfl ?_
    refine ww_iload_n (pc := 16) C 1 dX12_feed_16 rfl ?_
    obtain ⟨_, e3, hf⟩ := xbd hf
    obtain ⟨σ5, e4, hf⟩ := xbd hf
    refine ww_callVv (pc := 17) (as := [.int x1]) (st := []) C (k_X12_lays (l := gl G) (E := gE G) (hb := gB G) (σ := σ) e4) rfl (by decide) xc_X12_97 q1408 qp119 (xck_spec e3) rfl (by decide) (xst4 (Nat.le_of_ble_eq_true rfl)) (m_X12_lays e4).le (m_X12_lays e4).lim dX12_feed_17 ?_
    refine ww_aload_n (pc := 20) C 0 dX12_feed_20 rfl ?_
    refine ww_iload_n (pc := 21) C 2 dX12_feed_21 rfl ?_
    obtain ⟨_, e6, hf⟩ := xbd hf
    obtain ⟨σ8, e7, hf⟩ := xbd hf
    refine ww_callVv (pc := 22) (as := [.int x2]) (st := []) C (k_X12_lays (l := gl G) (E := gE G) (hb := gB G) (σ := σ5) e7) rfl (by decide) xc_X12_97 q1408 qp119 (xck_spec e6) rfl (by decide) (xst4 (Nat.le_of_ble_eq_true rfl)) (m_X12_lays e7).le (m_X12_lays e7).lim dX12_feed_22 ?_
    refine ww_aload_n (pc := 25) C 0 dX12_feed_25 rfl ?_
    refine ww_iload_n (pc := 26) C 3 dX12_feed_26 rfl ?_
    obtain ⟨_, e9, hf⟩ := xbd hf
    obtain ⟨σ11, e10, hf⟩ := xbd hf
    refine ww_callVv (pc := 27) (as := [.int x3]) (st := []) C (k_X12_lays (l := gl G) (E := gE G) (hb := gB G) (σ := σ8) e10) rfl (by decide) xc_X12_97 q1408 qp119 (xck_spec e9) rfl (by decide) (xst4 (Nat.le_of_ble_eq_true rfl)) (m_X12_lays e10).le (m_X12_lays e10).lim dX12_feed_27 ?_
    refine ww_aload_n (pc := 30) C 0 dX12_feed_30 rfl ?_
    refine ww_iload (pc := 31) C 4 dX12_feed_31 rfl ?_
    obtain ⟨_, e12, hf⟩ := xbd hf
    obtain ⟨σ14, e13, hf⟩ := xbd hf
    refine ww_callVv (pc := 33) (as := [.int x4]) (st := []) C (k_X12_lays (l := gl G) (E := gE G) (hb := gB G) (σ := σ11) e13) rfl (by decide) xc_X12_97 q1408 qp119 (xck_spec e12) rfl (by decide) (xst4 (Nat.le_of_ble_eq_true rfl)) (m_X12_lays e13).le (m_X12_lays e13).lim dX12_feed_33 ?_
    refine ww_aload_n (pc := 36) C 0 dX12_feed_36 rfl ?_
    refine ww_iload (pc := 37) C 5 dX12_feed_37 rfl ?_
    obtain ⟨_, e15, hf⟩ := xbd hf
    obtain ⟨σ17, e16, hf⟩ := xbd hf
    refine ww_callVv (pc := 39) (as := [.int x5]) (st := []) C (k_X12_lays (l := gl G) (E := gE G) (hb := gB G) (σ := σ14) e16) rfl (by decide) xc_X12_97 q1408 qp119 (xck_spec e15) rfl (by decide) (xst4 (Nat.le_of_ble_eq_true rfl)) (m_X12_lays e16).le (m_X12_lays e16).lim dX12_feed_39 ?_
    refine ww_aload_n (pc := 42) C 0 dX12_feed_42 rfl ?_
    obtain ⟨v19, e18, hf⟩ := xbd hf
    refine gf_X12_94 (pc := 43) C e18 dX12_feed_43 ?_
    have hf := xsj hf
    subst hf
    exact ww_iret (pc := 46) C hk dX12_feed_46
  · have hf := xin q hf
    refine ww_iconst (pc := 13) (v := (-1 : Int32)) C dX12_feed_13 (by decide) ?_
    have hf := xsj hf
    subst hf
    exact ww_iret (pc := 14) C hk dX12_feed_14
theorem m_X12_feed {σ : XS} {r0 : Nat} {x1 : Int32} {x2 : Int32} {x3 : Int32} {x4 : Int32} {x5 : Int32} {x : Int32 × XS} (hf : f_X12_feed σ r0 x1 x2 x3 x4 x5 = some x) : xsame σ x.2 := by
  have hm := xsame.rf (σ := σ)
  obtain ⟨v2, e1, hf⟩ := xbd hf
  by_cases q : (v2 + (20 : Int32)) ≤ (2000 : Int32)
  · have hf := xip q hf
    obtain ⟨_, e3, hf⟩ := xbd hf
    obtain ⟨σ5, e4, hf⟩ := xbd hf
    have hm := hm.tr (m_X12_lays e4)
    obtain ⟨_, e6, hf⟩ := xbd hf
    obtain ⟨σ8, e7, hf⟩ := xbd hf
    have hm := hm.tr (m_X12_lays e7)
    obtain ⟨_, e9, hf⟩ := xbd hf
    obtain ⟨σ11, e10, hf⟩ := xbd hf
    have hm := hm.tr (m_X12_lays e10)
    obtain ⟨_, e12, hf⟩ := xbd hf
    obtain ⟨σ14, e13, hf⟩ := xbd hf
    have hm := hm.tr (m_X12_lays e13)
    obtain ⟨_, e15, hf⟩ := xbd hf
    obtain ⟨σ17, e16, hf⟩ := xbd hf
    have hm := hm.tr (m_X12_lays e16)
    obtain ⟨v19, e18, hf⟩ := xbd hf
    have hf := xsj hf
    subst hf
    exact hm
  · have hf := xin q hf
    have hf := xsj hf
    subst hf
    exact hm
theorem k_X12_feed {l : Launch} {E : XD} {hb : Nat} {σ : XS} {r0 : Nat} {x1 : Int32} {x2 : Int32} {x3 : Int32} {x4 : Int32} {x5 : Int32} {x : Int32 × XS} (h : f_X12_feed σ r0 x1 x2 x3 x4 x5 = some x) : XM l yX12_feed cX12_feed 6 (some .int) 1 22 E hb [.ref (hb + r0), .int x1, .int x2, .int x3, .int x4, .int x5] σ (some (.int x.1)) x.2 := by
  refine xm_of (by decide) (Nat.le_of_ble_eq_true rfl) (m_X12_feed h).le (fun G hG C hl hQ => ?_)
  obtain ⟨rfl, rfl, rfl, hN⟩ := hG
  exact s_X12_feed_e C h hQ
noncomputable def f_X12_nextOf (w0 : Int64) : Option Int64 := some (((w0 * (1103515245 : Int64)) + (12345 : Int64)) - ((w0 * (1103515245 : Int64)) + (12345 : Int64)) / (2147483648 : Int64) * (2147483648 : Int64))
theorem s_X12_nextOf_e {G : XG} (C : XC G cX12_nextOf RX12 (some .long) 2 0 0) {σ : XS} {w0 : Int64} {x : Int64} (hf : f_X12_nextOf w0 = some x) (hk : XEnd G (some (.long x)) σ) : WW G 0 [(0, .long w0)] [] σ := by
  refine ww_lload_n (pc := 0) C 0 dX12_nextOf_0 rfl ?_
  refine ww_ldc2 (pc := 1) C q1536 dX12_nextOf_1 ?_
  refine ww_lmul (pc := 4) C dX12_nextOf_4 ?_
  refine ww_ldc2 (pc := 5) C q1537 dX12_nextOf_5 ?_
  refine ww_ladd (pc := 8) C dX12_nextOf_8 ?_
  refine ww_ldc2 (pc := 9) C q1538 dX12_nextOf_9 ?_
  refine ww_lrem (pc := 12) C dX12_nextOf_12 (by decide) ?_
  have hf := xsj hf
  subst hf
  exact ww_lret (pc := 13) C hk dX12_nextOf_13
theorem k_X12_nextOf {l : Launch} {E : XD} {hb : Nat} {σ : XS} {w0 : Int64} {x : Int64} (h : f_X12_nextOf w0 = some x) : XM l yX12_nextOf cX12_nextOf 2 (some .long) 0 0 E hb [.long w0] σ (some (.long x)) σ := by
  refine xm_of (by decide) (Nat.le_of_ble_eq_true rfl) ⟨Nat.le_refl _, Nat.le_refl _⟩ (fun G hG C hl hQ => ?_)
  obtain ⟨rfl, rfl, rfl, hN⟩ := hG
  exact s_X12_nextOf_e C h hQ
noncomputable def f_X12_glass_j110 (σ : XS) (r0 : Nat) (w2 : Int64) (x4 : Int32) (x6 : Int32) (t0 : Nat) (t1 : Int32) : Option ((Int64 × Int32 × XS) ⊕ (Int32 × XS)) := if (lg_cmp ((w2 / (65536 : Int64)) - (w2 / (65536 : Int64)) / (2 : Int64) * (2 : Int64)) (1 : Int64)) = 0 then ((xsI σ 20 t0 (t1 + x6) (1 : Int32)).bind fun σ2 => some (.inl (w2, x4 + (1 : Int32), σ2))) else (xsI σ 20 t0 (t1 + x6) (-1 : Int32)).bind fun σ2 => some (.inl (w2, x4 + (1 : Int32), σ2))
noncomputable def f_X12_glass_j74 (σ : XS) (r0 : Nat) (w2 : Int64) (x4 : Int32) (x5 : Int32) (t0 : Int32) : Option ((Int64 × Int32 × XS) ⊕ (Int32 × XS)) := (xck σ r0 12).bind fun _ => (f_X12_tieTo σ r0 t0 x5).bind fun v3 => if 0 ≤ v3 then ((f_X12_nextOf w2).bind fun v5 => (xgR σ r0 12 21).bind fun z7 => if x5 = 0 then (f_X12_glass_j110 σ r0 v5 x4 t0 z7 (0 : Int32)) else f_X12_glass_j110 σ r0 v5 x4 t0 z7 (16 : Int32)) else some (.inl (w2, x4 + (1 : Int32), σ))
noncomputable def f_X12_glass_j55 (σ : XS) (r0 : Nat) (w2 : Int64) (x4 : Int32) (t0 : Int32) : Option ((Int64 × Int32 × XS) ⊕ (Int32 × XS)) := if t0 = 0 then (f_X12_glass_j74 σ r0 w2 x4 t0 x4) else (xck σ r0 12).bind fun _ => (f_X12_sites σ r0).bind fun v3 => f_X12_glass_j74 σ r0 w2 x4 t0 (x4 - v3)
noncomputable def f_X12_glass_b30 (r0 : Nat) : Int64 × Int32 × XS → Option ((Int64 × Int32 × XS) ⊕ (Int32 × XS)) := fun a => match a with
  | (w2, x4, σ) => (xck σ r0 12).bind fun _ => (f_X12_sites σ r0).bind fun v3 => if ((2 : Int32) * v3) ≤ x4 then (((xpI σ r0 12 32 (0 : Int32)).bind fun σ5 => some ((1 : Int32), σ5)).map .inr) else (xck σ r0 12).bind fun _ => (f_X12_sites σ r0).bind fun v6 => if x4 < v6 then (f_X12_glass_j55 σ r0 w2 x4 (0 : Int32)) else f_X12_glass_j55 σ r0 w2 x4 (1 : Int32)
noncomputable def f_X12_glass (σ : XS) (r0 : Nat) (x1 : Int32) : Option (Int32 × XS) := (f_X12_in x1 (0 : Int32) (9999 : Int32)).bind fun v2 => if v2 = 0 then (some ((0 : Int32), σ)) else (xck σ r0 12).bind fun _ => (f_X12_sites σ r0).bind fun v5 => if v5 = 0 then (some ((0 : Int32), σ)) else (xck σ r0 12).bind fun _ => (f_X12_marks σ r0).bind fun σ8 => xloop (f_X12_glass_b30 r0) (x1.toInt64, (0 : Int32), σ8)
theorem s_X12_glass_j110 {G : XG} (C : XC G cX12_glass RX12 (some .boolean) 7 2 48) {σ : XS} {r0 : Nat} {w2 : Int64} {x4 : Int32} {x6 : Int32} {t0 : Nat} {t1 : Int32} {x : ((Int64 × Int32 × XS) ⊕ (Int32 × XS))} (hf : f_X12_glass_j110 σ r0 w2 x4 x6 t0 t1 = some x) (hk : (∀ a' : Int64 × Int32 × XS, x = .inl a' → WW G 30 [(0, .ref (gB G + r0)), (2, .long a'.1), (4, .int a'.2.1)] [] a'.2.2) ∧ (∀ b1 : Int32 × XS, x = .inr b1 → XEnd G (some (.int b1.1)) b1.2)) : WW G 110 [(0, .ref (gB G + r0)), (2, .long w2), (4, .int x4), (6, .int x6)] [.int t1, .ref (gB G + t0)] σ := by
  refine ww_iload (pc := 110) C 3 dX12_glass_110 rfl ?_
  refine ww_iadd (pc := 112) C dX12_glass_112 ?_
  refine ww_lload_n (pc := 113) C 1 dX12_glass_113 rfl ?_
  refine ww_ldc2 (pc := 114) C q1539 dX12_glass_114 ?_
  refine ww_ldiv (pc := 117) C dX12_glass_117 (by decide) ?_
  refine ww_ldc2 (pc := 118) C q1540 dX12_glass_118 ?_
  refine ww_lrem (pc := 121) C dX12_glass_121 (by decide) ?_
  refine ww_lconst (pc := 122) (v := (1 : Int64)) C dX12_glass_122 (by decide) ?_
  refine ww_lcmp (pc := 123) C dX12_glass_123 ?_
  refine ww_if_ne (pc := 124) (tgt := 131) C dX12_glass_124 (by decide) (fun q => ?_) (fun q => ?_)
  · have hf := xin q hf
    refine ww_iconst (pc := 131) (v := (-1 : Int32)) C dX12_glass_131 (by decide) ?_
    obtain ⟨σ2, e1, hf⟩ := xbd hf
    refine ww_iast (pc := 132) C e1 dX12_glass_132 ?_
    refine ww_iinc (pc := 133) (v := x4 + (1 : Int32)) (lv' := [(4, .int (x4 + (1 : Int32))), (0, .ref (gB G + r0)), (2, .long w2), (6, .int x6)]) C 2 dX12_glass_133 rfl (congrArg (fun z => x4 + z) (show Int32.ofInt (1) = (1 : Int32) by decide)) (by decide) rfl ?_
    refine ww_goto (pc := 136) (tgt := 30) C dX12_glass_136 (by decide) ?_
    have hf := xsj hf
    subst hf
    refine ww_sub [1, 2, 0] rfl ?_
    exact hk.1 (w2, x4 + (1 : Int32), σ2) rfl
  · have hf := xip q hf
    refine ww_iconst (pc := 127) (v := (1 : Int32)) C dX12_glass_127 (by decide) ?_
    refine ww_goto (pc := 128) (tgt := 132) C dX12_glass_128 (by decide) ?_
    obtain ⟨σ2, e1, hf⟩ := xbd hf
    refine ww_iast (pc := 132) C e1 dX12_glass_132 ?_
    refine ww_iinc (pc := 133) (v := x4 + (1 : Int32)) (lv' := [(4, .int (x4 + (1 : Int32))), (0, .ref (gB G + r0)), (2, .long w2), (6, .int x6)]) C 2 dX12_glass_133 rfl (congrArg (fun z => x4 + z) (show Int32.ofInt (1) = (1 : Int32) by decide)) (by decide) rfl ?_
    refine ww_goto (pc := 136) (tgt := 30) C dX12_glass_136 (by decide) ?_
    have hf := xsj hf
    subst hf
    refine ww_sub [1, 2, 0] rfl ?_
    exact hk.1 (w2, x4 + (1 : Int32), σ2) rfl
theorem m_X12_glass_j110 {σ : XS} {r0 : Nat} {w2 : Int64} {x4 : Int32} {x6 : Int32} {t0 : Nat} {t1 : Int32} {x : ((Int64 × Int32 × XS) ⊕ (Int32 × XS))} (hf : f_X12_glass_j110 σ r0 w2 x4 x6 t0 t1 = some x) : (∀ a' : Int64 × Int32 × XS, x = .inl a' → xsame σ a'.2.2) ∧ (∀ b1 : Int32 × XS, x = .inr b1 → xsame σ b1.2) := by
  have hm := xsame.rf (σ := σ)
  by_cases q : (lg_cmp ((w2 / (65536 : Int64)) - (w2 / (65536 : Int64)) / (2 : Int64) * (2 : Int64)) (1 : Int64)) = 0
  · have hf := xip q hf
    obtain ⟨σ2, e1, hf⟩ := xbd hf
    have hm := hm.tr (xsI_same e1)
    have hf := xsj hf
    subst hf
    exact ⟨fun a' e => (by have h9 := Sum.inl.inj e; subst h9; exact hm), fun b e => xnc1 e⟩
  · have hf := xin q hf
    obtain ⟨σ2, e1, hf⟩ := xbd hf
    have hm := hm.tr (xsI_same e1)
    have hf := xsj hf
    subst hf
    exact ⟨fun a' e => (by have h9 := Sum.inl.inj e; subst h9; exact hm), fun b e => xnc1 e⟩
theorem s_X12_glass_j74 {G : XG} (C : XC G cX12_glass RX12 (some .boolean) 7 2 48) {σ : XS} {r0 : Nat} {w2 : Int64} {x4 : Int32} {x5 : Int32} {t0 : Int32} {x : ((Int64 × Int32 × XS) ⊕ (Int32 × XS))} (hf : f_X12_glass_j74 σ r0 w2 x4 x5 t0 = some x) (hk : (∀ a' : Int64 × Int32 × XS, x = .inl a' → WW G 30 [(0, .ref (gB G + r0)), (2, .long a'.1), (4, .int a'.2.1)] [] a'.2.2) ∧ (∀ b1 : Int32 × XS, x = .inr b1 → XEnd G (some (.int b1.1)) b1.2)) : WW G 74 [(0, .ref (gB G + r0)), (2, .long w2), (4, .int x4), (5, .int x5)] [.int t0] σ := by
  refine ww_istore (pc := 74) (lv' := [(6, .int t0), (0, .ref (gB G + r0)), (2, .long w2), (4, .int x4), (5, .int x5)]) C dX12_glass_74 (by decide) rfl ?_
  refine ww_aload_n (pc := 76) C 1 dX12_glass_76 rfl ?_
  refine ww_iload (pc := 77) C 0 dX12_glass_77 rfl ?_
  refine ww_iload (pc := 79) C 4 dX12_glass_79 rfl ?_
  obtain ⟨_, e1, hf⟩ := xbd hf
  obtain ⟨v3, e2, hf⟩ := xbd hf
  refine ww_callVi (pc := 81) (as := [.int t0, .int x5]) (st := []) C (k_X12_tieTo (l := gl G) (E := gE G) (hb := gB G) (σ := σ) e2) rfl (by decide) xc_X12_236 q1512 qp138 (xck_spec e1) rfl (by decide) (xst4 (Nat.le_of_ble_eq_true rfl)) xsame.rf.le xsame.rf.lim dX12_glass_81 ?_
  refine ww_if_ge (pc := 84) (tgt := 90) C dX12_glass_84 (by decide) (fun q => ?_) (fun q => ?_)
  · have hf := xip q hf
    refine ww_lload_n (pc := 90) C 2 dX12_glass_90 rfl ?_
    obtain ⟨v5, e4, hf⟩ := xbd hf
    refine ww_callSj (pc := 91) (as := [.long w2]) (st := []) C (k_X12_nextOf (l := gl G) (E := gE G) (hb := gB G) (σ := σ) e4) xc_X12_253 q1534 rfl (by decide) (xst4 (Nat.le_of_ble_eq_true rfl)) xsame.rf.le xsame.rf.lim dX12_glass_91 ?_
    refine ww_lstore_n (pc := 94) (lv' := [(2, .long v5), (6, .int t0), (0, .ref (gB G + r0)), (4, .int x4), (5, .int x5)]) C dX12_glass_94 (by decide) rfl ?_
    refine ww_aload_n (pc := 95) C 2 dX12_glass_95 rfl ?_
    obtain ⟨z7, e6, hf⟩ := xbd hf
    refine gf_X12_40 (pc := 96) C e6 dX12_glass_96 ?_
    refine ww_iload (pc := 99) C 4 dX12_glass_99 rfl ?_
    refine ww_if_eq (pc := 101) (tgt := 109) C dX12_glass_101 (by decide) (fun q => ?_) (fun q => ?_)
    · have hf := xip q hf
      refine ww_iconst (pc := 109) (v := (0 : Int32)) C dX12_glass_109 (by decide) ?_
      refine ww_sub [2, 0, 3, 1] rfl ?_
      exact s_X12_glass_j110 C hf hk
    · have hf := xin q hf
      refine ww_bipush (pc := 104) (v := (16 : Int32)) C dX12_glass_104 (by decide) ?_
      refine ww_goto (pc := 106) (tgt := 110) C dX12_glass_106 (by decide) ?_
      refine ww_sub [2, 0, 3, 1] rfl ?_
      exact s_X12_glass_j110 C hf hk
  · have hf := xin q hf
    refine ww_goto (pc := 87) (tgt := 133) C dX12_glass_87 (by decide) ?_
    refine ww_iinc (pc := 133) (v := x4 + (1 : Int32)) (lv' := [(4, .int (x4 + (1 : Int32))), (6, .int t0), (0, .ref (gB G + r0)), (2, .long w2), (5, .int x5)]) C 3 dX12_glass_133 rfl (congrArg (fun z => x4 + z) (show Int32.ofInt (1) = (1 : Int32) by decide)) (by decide) rfl ?_
    refine ww_goto (pc := 136) (tgt := 30) C dX12_glass_136 (by decide) ?_
    have hf := xsj hf
    subst hf
    refine ww_sub [2, 3, 0] rfl ?_
    exact hk.1 (w2, x4 + (1 : Int32), σ) rfl
theorem m_X12_glass_j74 {σ : XS} {r0 : Nat} {w2 : Int64} {x4 : Int32} {x5 : Int32} {t0 : Int32} {x : ((Int64 × Int32 × XS) ⊕ (Int32 × XS))} (hf : f_X12_glass_j74 σ r0 w2 x4 x5 t0 = some x) : (∀ a' : Int64 × Int32 × XS, x = .inl a' → xsame σ a'.2.2) ∧ (∀ b1 : Int32 × XS, x = .inr b1 → xsame σ b1.2) := by
  have hm := xsame.rf (σ := σ)
  obtain ⟨_, e1, hf⟩ := xbd hf
  obtain ⟨v3, e2, hf⟩ := xbd hf
  by_cases q : 0 ≤ v3
  · have hf := xip q hf
    obtain ⟨v5, e4, hf⟩ := xbd hf
    obtain ⟨z7, e6, hf⟩ := xbd hf
    by_cases q : x5 = 0
    · have hf := xip q hf
      exact ⟨fun a' e => hm.tr ((m_X12_glass_j110 hf).1 a' e), fun b1 eb1 => hm.tr ((m_X12_glass_j110 hf).2 b1 eb1)⟩
    · have hf := xin q hf
      exact ⟨fun a' e => hm.tr ((m_X12_glass_j110 hf).1 a' e), fun b1 eb1 => hm.tr ((m_X12_glass_j110 hf).2 b1 eb1)⟩
  · have hf := xin q hf
    have hf := xsj hf
    subst hf
    exact ⟨fun a' e => (by have h9 := Sum.inl.inj e; subst h9; exact hm), fun b e => xnc1 e⟩
theorem s_X12_glass_j55 {G : XG} (C : XC G cX12_glass RX12 (some .boolean) 7 2 48) {σ : XS} {r0 : Nat} {w2 : Int64} {x4 : Int32} {t0 : Int32} {x : ((Int64 × Int32 × XS) ⊕ (Int32 × XS))} (hf : f_X12_glass_j55 σ r0 w2 x4 t0 = some x) (hk : (∀ a' : Int64 × Int32 × XS, x = .inl a' → WW G 30 [(0, .ref (gB G + r0)), (2, .long a'.1), (4, .int a'.2.1)] [] a'.2.2) ∧ (∀ b1 : Int32 × XS, x = .inr b1 → XEnd G (some (.int b1.1)) b1.2)) : WW G 55 [(0, .ref (gB G + r0)), (2, .long w2), (4, .int x4)] [.int t0] σ := by
  refine ww_istore (pc := 55) (lv' := [(5, .int t0), (0, .ref (gB G + r0)), (2, .long w2), (4, .int x4)]) C dX12_glass_55 (by decide) rfl ?_
  refine ww_iload (pc := 57) C 0 dX12_glass_57 rfl ?_
  refine ww_if_eq (pc := 59) (tgt := 72) C dX12_glass_59 (by decide) (fun q => ?_) (fun q => ?_)
  · have hf := xip q hf
    refine ww_iload (pc := 72) C 3 dX12_glass_72 rfl ?_
    refine ww_sub [1, 2, 3, 0] rfl ?_
    exact s_X12_glass_j74 C hf hk
  · have hf := xin q hf
    refine ww_iload (pc := 62) C 3 dX12_glass_62 rfl ?_
    refine ww_aload_n (pc := 64) C 1 dX12_glass_64 rfl ?_
    obtain ⟨_, e1, hf⟩ := xbd hf
    obtain ⟨v3, e2, hf⟩ := xbd hf
    refine ww_callVi (pc := 65) (as := []) (st := [.int x4]) C (k_X12_sites (l := gl G) (E := gE G) (hb := gB G) (σ := σ) e2) rfl (by decide) xc_X12_193 q1496 qp136 (xck_spec e1) rfl (by decide) (xst4 (Nat.le_of_ble_eq_true rfl)) xsame.rf.le xsame.rf.lim dX12_glass_65 ?_
    refine ww_isub (pc := 68) C dX12_glass_68 ?_
    refine ww_goto (pc := 69) (tgt := 74) C dX12_glass_69 (by decide) ?_
    refine ww_sub [1, 2, 3, 0] rfl ?_
    exact s_X12_glass_j74 C hf hk
theorem m_X12_glass_j55 {σ : XS} {r0 : Nat} {w2 : Int64} {x4 : Int32} {t0 : Int32} {x : ((Int64 × Int32 × XS) ⊕ (Int32 × XS))} (hf : f_X12_glass_j55 σ r0 w2 x4 t0 = some x) : (∀ a' : Int64 × Int32 × XS, x = .inl a' → xsame σ a'.2.2) ∧ (∀ b1 : Int32 × XS, x = .inr b1 → xsame σ b1.2) := by
  have hm := xsame.rf (σ := σ)
  by_cases q : t0 = 0
  · have hf := xip q hf
    exact ⟨fun a' e => hm.tr ((m_X12_glass_j74 hf).1 a' e), fun b1 eb1 => hm.tr ((m_X12_glass_j74 hf).2 b1 eb1)⟩
  · have hf := xin q hf
    obtain ⟨_, e1, hf⟩ := xbd hf
    obtain ⟨v3, e2, hf⟩ := xbd hf
    exact ⟨fun a' e => hm.tr ((m_X12_glass_j74 hf).1 a' e), fun b1 eb1 => hm.tr ((m_X12_glass_j74 hf).2 b1 eb1)⟩
theorem m_X12_glass_l30 {r0 : Nat} {a : Int64 × Int32 × XS} {x : Int32 × XS} (hf : xloop (f_X12_glass_b30 r0) a = some x) : xsame a.2.2 x.2 := by
  refine xloop_ind (P := fun a => xsame a.2.2 x.2) (fun a y hf hc he => ?_) hf
  obtain ⟨w2, x4, σ⟩ := a
  have hy : (∀ a' : Int64 × Int32 × XS, y = .inl a' → xsame σ a'.2.2) ∧ (∀ b1 : Int32 × XS, y = .inr b1 → xsame σ b1.2) := by
    have hm := xsame.rf (σ := σ)
    obtain ⟨_, e1, hf⟩ := xbd hf
    obtain ⟨v3, e2, hf⟩ := xbd hf
    by_cases q : ((2 : Int32) * v3) ≤ x4
    · have hf := xip q hf
      obtain ⟨b0, hg, e9⟩ := xmj hf
      subst e9
      have hf := hg
      refine ⟨fun a' e => xnc2 e, fun b e => ?_⟩
      have h9 := Sum.inr.inj e
      subst h9
      obtain ⟨σ5, e4, hf⟩ := xbd hf
      have hm := hm.tr (xpI_same e4)
      have hf := xsj hf
      subst hf
      exact hm
    · have hf := xin q hf
      obtain ⟨_, e4, hf⟩ := xbd hf
      obtain ⟨v6, e5, hf⟩ := xbd hf
      by_cases q : x4 < v6
      · have hf := xip q hf
        exact ⟨fun a' e => hm.tr ((m_X12_glass_j55 hf).1 a' e), fun b1 eb1 => hm.tr ((m_X12_glass_j55 hf).2 b1 eb1)⟩
      · have hf := xin q hf
        exact ⟨fun a' e => hm.tr ((m_X12_glass_j55 hf).1 a' e), fun b1 eb1 => hm.tr ((m_X12_glass_j55 hf).2 b1 eb1)⟩
  cases y with
  | inl a' =>
    have h1 := hc a' rfl
    have hm := hy.1 a' rfl
    exact hm.tr (h1)
  | inr b =>
    have h1 := he b rfl
    subst h1
    exact hy.2 _ rfl
theorem s_X12_glass_l30 {G : XG} (C : XC G cX12_glass RX12 (some .boolean) 7 2 48) {r0 : Nat} {a : Int64 × Int32 × XS} {x : Int32 × XS} (hf : xloop (f_X12_glass_b30 r0) a = some x) (hk : XEnd G (some (.int x.1)) x.2) : WW G 30 [(0, .ref (gB G + r0)), (2, .long a.1), (4, .int a.2.1)] [] a.2.2 := by
  refine xloop_ind (P := fun a => WW G 30 [(0, .ref (gB G + r0)), (2, .long a.1), (4, .int a.2.1)] [] a.2.2) (fun a y hf hc he => ?_) hf
  obtain ⟨w2, x4, σ⟩ := a
  have hk : (∀ a' : Int64 × Int32 × XS, y = .inl a' → WW G 30 [(0, .ref (gB G + r0)), (2, .long a'.1), (4, .int a'.2.1)] [] a'.2.2) ∧ (∀ b1 : Int32 × XS, y = .inr b1 → XEnd G (some (.int b1.1)) b1.2) := ⟨hc, fun b e => by have h9 := he b e; subst h9; exact hk⟩
  refine ww_iload (pc := 30) C 2 dX12_glass_30 rfl ?_
  refine ww_iconst (pc := 32) (v := (2 : Int32)) C dX12_glass_32 (by decide) ?_
  refine ww_aload_n (pc := 33) C 0 dX12_glass_33 rfl ?_
  obtain ⟨_, e1, hf⟩ := xbd hf
  obtain ⟨v3, e2, hf⟩ := xbd hf
  refine ww_callVi (pc := 34) (as := []) (st := [.int (2 : Int32), .int x4]) C (k_X12_sites (l := gl G) (E := gE G) (hb := gB G) (σ := σ) e2) rfl (by decide) xc_X12_193 q1496 qp136 (xck_spec e1) rfl (by decide) (xst4 (Nat.le_of_ble_eq_true rfl)) xsame.rf.le xsame.rf.lim dX12_glass_34 ?_
  refine ww_imul (pc := 37) C dX12_glass_37 ?_
  refine ww_icmp_ge (pc := 38) (tgt := 139) C dX12_glass_38 (by decide) (fun q => ?_) (fun q => ?_)
  · have hf := xip q hf
    obtain ⟨b0, hg, e9⟩ := xmj hf
    subst e9
    have hf := hg
    have hk := hk.2 _ rfl
    refine ww_aload_n (pc := 139) C 0 dX12_glass_139 rfl ?_
    refine ww_iconst (pc := 140) (v := (0 : Int32)) C dX12_glass_140 (by decide) ?_
    obtain ⟨σ5, e4, hf⟩ := xbd hf
    refine pf_X12_200 (pc := 141) C (Or.inl rfl) e4 dX12_glass_141 ?_
    refine ww_iconst (pc := 144) (v := (1 : Int32)) C dX12_glass_144 (by decide) ?_
    have hf := xsj hf
    subst hf
    exact ww_zret (pc := 145) C rfl hk dX12_glass_145
  · have hf := xin q hf
    refine ww_iload (pc := 41) C 2 dX12_glass_41 rfl ?_
    refine ww_aload_n (pc := 43) C 0 dX12_glass_43 rfl ?_
    obtain ⟨_, e4, hf⟩ := xbd hf
    obtain ⟨v6, e5, hf⟩ := xbd hf
    refine ww_callVi (pc := 44) (as := []) (st := [.int x4]) C (k_X12_sites (l := gl G) (E := gE G) (hb := gB G) (σ := σ) e5) rfl (by decide) xc_X12_193 q1496 qp136 (xck_spec e4) rfl (by decide) (xst4 (Nat.le_of_ble_eq_true rfl)) xsame.rf.le xsame.rf.lim dX12_glass_44 ?_
    refine ww_icmp_lt (pc := 47) (tgt := 54) C dX12_glass_47 (by decide) (fun q => ?_) (fun q => ?_)
    · have hf := xip q hf
      refine ww_iconst (pc := 54) (v := (0 : Int32)) C dX12_glass_54 (by decide) ?_
      refine ww_sub [0, 1, 2] rfl ?_
      exact s_X12_glass_j55 C hf hk
    · have hf := xin q hf
      refine ww_iconst (pc := 50) (v := (1 : Int32)) C dX12_glass_50 (by decide) ?_
      refine ww_goto (pc := 51) (tgt := 55) C dX12_glass_51 (by decide) ?_
      refine ww_sub [0, 1, 2] rfl ?_
      exact s_X12_glass_j55 C hf hk
theorem s_X12_glass_e {G : XG} (C : XC G cX12_glass RX12 (some .boolean) 7 2 48) {σ : XS} {r0 : Nat} {x1 : Int32} {x : Int32 × XS} (hf : f_X12_glass σ r0 x1 = some x) (hk : XEnd G (some (.int x.1)) x.2) : WW G 0 [(0, .ref (gB G + r0)), (1, .int x1)] [] σ := by
  refine ww_iload_n (pc := 0) C 1 dX12_glass_0 rfl ?_
  refine ww_iconst (pc := 1) (v := (0 : Int32)) C dX12_glass_1 (by decide) ?_
  refine ww_sipush (pc := 2) (v := (9999 : Int32)) C dX12_glass_2 (by decide) ?_
  obtain ⟨v2, e1, hf⟩ := xbd hf
  refine ww_callSi (pc := 5) (as := [.int x1, .int (0 : Int32), .int (9999 : Int32)]) (st := []) C (k_X12_in (l := gl G) (E := gE G) (hb := gB G) (σ := σ) e1) xc_X12_213 q1473 rfl (by decide) (xst4 (Nat.le_of_ble_eq_true rfl)) xsame.rf.le xsame.rf.lim dX12_glass_5 ?_
  refine ww_if_eq (pc := 8) (tgt := 18) C dX12_glass_8 (by decide) (fun q => ?_) (fun q => ?_)
  · have hf := xip q hf
    refine ww_iconst (pc := 18) (v := (0 : Int32)) C dX12_glass_18 (by decide) ?_
    have hf := xsj hf
    subst hf
    exact ww_zret (pc := 19) C rfl hk dX12_glass_19
  · have hf := xin q hf
    refine ww_aload_n (pc := 11) C 0 dX12_glass_11 rfl ?_
    obtain ⟨_, e3, hf⟩ := xbd hf
    obtain ⟨v5, e4, hf⟩ := xbd hf
    refine ww_callVi (pc := 12) (as := []) (st := []) C (k_X12_sites (l := gl G) (E := gE G) (hb := gB G) (σ := σ) e4) rfl (by decide) xc_X12_193 q1496 qp136 (xck_spec e3) rfl (by decide) (xst4 (Nat.le_of_ble_eq_true rfl)) xsame.rf.le xsame.rf.lim dX12_glass_12 ?_
    refine ww_if_ne (pc := 15) (tgt := 20) C dX12_glass_15 (by decide) (fun q => ?_) (fun q => ?_)
    · have hf := xin q hf
      refine ww_aload_n (pc := 20) C 0 dX12_glass_20 rfl ?_
      obtain ⟨_, e6, hf⟩ := xbd hf
      obtain ⟨σ8, e7, hf⟩ := xbd hf
      refine ww_callVv (pc := 21) (as := []) (st := []) C (k_X12_marks (l := gl G) (E := gE G) (hb := gB G) (σ := σ) e7) rfl (by decide) xc_X12_244 q1519 qp139 (xck_spec e6) rfl (by decide) (xst4 (Nat.le_of_ble_eq_true rfl)) (m_X12_marks e7).le (m_X12_marks e7).lim dX12_glass_21 ?_
      refine ww_iload_n (pc := 24) C 1 dX12_glass_24 rfl ?_
      refine ww_i2l (pc := 25) (v := x1.toInt64) C dX12_glass_25 rfl ?_
      refine ww_lstore_n (pc := 26) (lv' := [(2, .long x1.toInt64), (0, .ref (gB G + r0)), (1, .int x1)]) C dX12_glass_26 (by decide) rfl ?_
      refine ww_iconst (pc := 27) (v := (0 : Int32)) C dX12_glass_27 (by decide) ?_
      refine ww_istore (pc := 28) (lv' := [(4, .int (0 : Int32)), (2, .long x1.toInt64), (0, .ref (gB G + r0)), (1, .int x1)]) C dX12_glass_28 (by decide) rfl ?_
      refine ww_sub [2, 1, 0] rfl ?_
      exact s_X12_glass_l30 C (a := (x1.toInt64, (0 : Int32), σ8)) hf hk
    · have hf := xip q hf
      refine ww_iconst (pc := 18) (v := (0 : Int32)) C dX12_glass_18 (by decide) ?_
      have hf := xsj hf
      subst hf
      exact ww_zret (pc := 19) C rfl hk dX12_glass_19
theorem m_X12_glass {σ : XS} {r0 : Nat} {x1 : Int32} {x : Int32 × XS} (hf : f_X12_glass σ r0 x1 = some x) : xsame σ x.2 := by
  have hm := xsame.rf (σ := σ)
  obtain ⟨v2, e1, hf⟩ := xbd hf
  by_cases q : v2 = 0
  · have hf := xip q hf
    have hf := xsj hf
    subst hf
    exact hm
  · have hf := xin q hf
    obtain ⟨_, e3, hf⟩ := xbd hf
    obtain ⟨v5, e4, hf⟩ := xbd hf
    by_cases q : v5 = 0
    · have hf := xip q hf
      have hf := xsj hf
      subst hf
      exact hm
    · have hf := xin q hf
      obtain ⟨_, e6, hf⟩ := xbd hf
      obtain ⟨σ8, e7, hf⟩ := xbd hf
      have hm := hm.tr (m_X12_marks e7)
      exact hm.tr (m_X12_glass_l30 (a := (x1.toInt64, (0 : Int32), σ8)) hf)
theorem k_X12_glass {l : Launch} {E : XD} {hb : Nat} {σ : XS} {r0 : Nat} {x1 : Int32} {x : Int32 × XS} (h : f_X12_glass σ r0 x1 = some x) : XM l yX12_glass cX12_glass 7 (some .boolean) 2 48 E hb [.ref (hb + r0), .int x1] σ (some (.int x.1)) x.2 := by
  refine xm_of (by decide) (Nat.le_of_ble_eq_true rfl) (m_X12_glass h).le (fun G hG C hl hQ => ?_)
  obtain ⟨rfl, rfl, rfl, hN⟩ := hG
  exact s_X12_glass_e C h hQ
noncomputable def f_X12_leastOf_b2 (σ : XS) (r0 : Nat) (x1 : Int32) : Int32 → Option ((Int32) ⊕ (Int32)) := fun a => match a with
  | x2 => (xgR σ r0 12 33).bind fun z2 => (xaI σ 20 z2 x2).bind fun v4 => if v4 = x1 then ((some x2).map .inr) else some (.inl (x2 + (1 : Int32)))
noncomputable def f_X12_leastOf (σ : XS) (r0 : Nat) (x1 : Int32) : Option Int32 := xloop (f_X12_leastOf_b2 σ r0 x1) (0 : Int32)
theorem s_X12_leastOf_l2 {G : XG} (C : XC G cX12_leastOf RX12 (some .int) 3 0 0) {σ : XS} {r0 : Nat} {x1 : Int32} {a : Int32} {x : Int32} (hf : xloop (f_X12_leastOf_b2 σ r0 x1) a = some x) (hk : XEnd G (some (.int x)) σ) : WW G 2 [(0, .ref (gB G + r0)), (1, .int x1), (2, .int a)] [] σ := by
  refine xloop_ind (P := fun a => WW G 2 [(0, .ref (gB G + r0)), (1, .int x1), (2, .int a)] [] σ) (fun a y hf hc he => ?_) hf
  obtain ⟨x2, rfl⟩ : ∃ z, z = a := ⟨_, rfl⟩
  have hk : (∀ a' : Int32, y = .inl a' → WW G 2 [(0, .ref (gB G + r0)), (1, .int x1), (2, .int a')] [] σ) ∧ (∀ b1 : Int32, y = .inr b1 → XEnd G (some (.int b1)) σ) := ⟨hc, fun b e => by have h9 := he b e; subst h9; exact hk⟩
  refine ww_aload_n (pc := 2) C 0 dX12_leastOf_2 rfl ?_
  obtain ⟨z2, e1, hf⟩ := xbd hf
  refine gf_X12_57 (pc := 3) C e1 dX12_leastOf_3 ?_
  refine ww_iload_n (pc := 6) C 2 dX12_leastOf_6 rfl ?_
  obtain ⟨v4, e3, hf⟩ := xbd hf
  refine ww_iald (pc := 7) C e3 dX12_leastOf_7 ?_
  refine ww_iload_n (pc := 8) C 1 dX12_leastOf_8 rfl ?_
  refine ww_icmp_eq (pc := 9) (tgt := 18) C dX12_leastOf_9 (by decide) (fun q => ?_) (fun q => ?_)
  · have hf := xip q hf
    obtain ⟨b0, hg, e9⟩ := xmj hf
    subst e9
    have hf := hg
    have hk := hk.2 _ rfl
    refine ww_iload_n (pc := 18) C 2 dX12_leastOf_18 rfl ?_
    have hf := xsj hf
    subst hf
    exact ww_iret (pc := 19) C hk dX12_leastOf_19
  · have hf := xin q hf
    refine ww_iinc (pc := 12) (v := x2 + (1 : Int32)) (lv' := [(2, .int (x2 + (1 : Int32))), (0, .ref (gB G + r0)), (1, .int x1)]) C 2 dX12_leastOf_12 rfl (congrArg (fun z => x2 + z) (show Int32.ofInt (1) = (1 : Int32) by decide)) (by decide) rfl ?_
    refine ww_goto (pc := 15) (tgt := 2) C dX12_leastOf_15 (by decide) ?_
    have hf := xsj hf
    subst hf
    refine ww_sub [1, 2, 0] rfl ?_
    exact hk.1 (x2 + (1 : Int32)) rfl
theorem s_X12_leastOf_e {G : XG} (C : XC G cX12_leastOf RX12 (some .int) 3 0 0) {σ : XS} {r0 : Nat} {x1 : Int32} {x : Int32} (hf : f_X12_leastOf σ r0 x1 = some x) (hk : XEnd G (some (.int x)) σ) : WW G 0 [(0, .ref (gB G + r0)), (1, .int x1)] [] σ := by
  refine ww_iconst (pc := 0) (v := (0 : Int32)) C dX12_leastOf_0 (by decide) ?_
  refine ww_istore_n (pc := 1) (lv' := [(2, .int (0 : Int32)), (0, .ref (gB G + r0)), (1, .int x1)]) C dX12_leastOf_1 (by decide) rfl ?_
  refine ww_sub [1, 2, 0] rfl ?_
  exact s_X12_leastOf_l2 C (a := (0 : Int32)) hf hk
theorem k_X12_leastOf {l : Launch} {E : XD} {hb : Nat} {σ : XS} {r0 : Nat} {x1 : Int32} {x : Int32} (h : f_X12_leastOf σ r0 x1 = some x) : XM l yX12_leastOf cX12_leastOf 3 (some .int) 0 0 E hb [.ref (hb + r0), .int x1] σ (some (.int x)) σ := by
  refine xm_of (by decide) (Nat.le_of_ble_eq_true rfl) ⟨Nat.le_refl _, Nat.le_refl _⟩ (fun G hG C hl hQ => ?_)
  obtain ⟨rfl, rfl, rfl, hN⟩ := hG
  exact s_X12_leastOf_e C h hQ
noncomputable def f_X12_ground (σ : XS) (r0 : Nat) (x1 : Int32) : Option (Int32 × XS) := (xck σ r0 12).bind fun _ => (f_X12_knows σ r0).bind fun σ3 => (xgI σ3 r0 12 35).bind fun v5 => if v5 = 0 then (some ((-100000 : Int32), σ3)) else xsw x1 (0) [(xgR σ3 r0 12 36).bind fun z7 => (xaI σ3 20 z7 (0 : Int32)).bind fun v9 => some (v9, σ3), (xgR σ3 r0 12 34).bind fun z7 => (xgR σ3 r0 12 36).bind fun z9 => (xaI σ3 20 z9 (0 : Int32)).bind fun v11 => (xaI σ3 20 z7 ((150 : Int32) + v11)).bind fun v13 => some (v13, σ3), (xgR σ3 r0 12 36).bind fun z7 => (xaI σ3 20 z7 (0 : Int32)).bind fun v9 => (xck σ3 r0 12).bind fun _ => (f_X12_leastOf σ3 r0 v9).bind fun v12 => some (v12, σ3), (xgI σ3 r0 12 35).bind fun v7 => if v7 = (1 : Int32) then (some ((-2 : Int32), σ3)) else (xgR σ3 r0 12 36).bind fun z9 => (xaI σ3 20 z9 (1 : Int32)).bind fun v11 => (xgR σ3 r0 12 36).bind fun z13 => (xaI σ3 20 z13 (0 : Int32)).bind fun v15 => some (v11 - v15, σ3)] (some ((-100000 : Int32), σ3))
theorem s_X12_ground_e {G : XG} (C : XC G cX12_ground RX12 (some .int) 2 4 96) {σ : XS} {r0 : Nat} {x1 : Int32} {x : Int32 × XS} (hf : f_X12_ground σ r0 x1 = some x) (hk : XEnd G (some (.int x.1)) x.2) : WW G 0 [(0, .ref (gB G + r0)), (1, .int x1)] [] σ := by
  refine ww_aload_n (pc := 0) C 0 dX12_ground_0 rfl ?_
  obtain ⟨_, e1, hf⟩ := xbd hf
  obtain ⟨σ3, e2, hf⟩ := xbd hf
  refine ww_callVv (pc := 1) (as := []) (st := []) C (k_X12_knows (l := gl G) (E := gE G) (hb := gB G) (σ := σ) e2) rfl (by decide) xc_X12_261 q1551 qp140 (xck_spec e1) rfl (by decide) (xst4 (Nat.le_of_ble_eq_true rfl)) (m_X12_knows e2).le (m_X12_knows e2).lim dX12_ground_1 ?_
  refine ww_aload_n (pc := 4) C 0 dX12_ground_4 rfl ?_
  obtain ⟨v5, e4, hf⟩ := xbd hf
  refine gf_X12_285 (pc := 5) C e4 dX12_ground_5 ?_
  refine ww_if_ne (pc := 8) (tgt := 15) C dX12_ground_8 (by decide) (fun q => ?_) (fun q => ?_)
  · have hf := xin q hf
    refine ww_iload_n (pc := 15) C 1 dX12_ground_15 rfl ?_
    refine ww_table (pc := 16) C dX12_ground_16 (fun k hk1 hk2 => ?_) (fun ho => ?_)
    · rcases (by omega : k = 0 ∨ k = 1 ∨ k = 2 ∨ k = 3) with rfl | rfl | rfl | rfl
      · refine ⟨48, 32, rfl, by decide, ?_⟩
        have hf := xsw_in 0 hk1 rfl hf
        refine ww_aload_n (pc := 48) C 0 dX12_ground_48 rfl ?_
        obtain ⟨z7, e6, hf⟩ := xbd hf
        refine gf_X12_63 (pc := 49) C e6 dX12_ground_49 ?_
        refine ww_iconst (pc := 52) (v := (0 : Int32)) C dX12_ground_52 (by decide) ?_
        obtain ⟨v9, e8, hf⟩ := xbd hf
        refine ww_iald (pc := 53) C e8 dX12_ground_53 ?_
        have hf := xsj hf
        subst hf
        exact ww_iret (pc := 54) C hk dX12_ground_54
      · refine ⟨55, 39, rfl, by decide, ?_⟩
        have hf := xsw_in 1 hk1 rfl hf
        refine ww_aload_n (pc := 55) C 0 dX12_ground_55 rfl ?_
        obtain ⟨z7, e6, hf⟩ := xbd hf
        refine gf_X12_60 (pc := 56) C e6 dX12_ground_56 ?_
        refine ww_sipush (pc := 59) (v := (150 : Int32)) C dX12_ground_59 (by decide) ?_
        refine ww_aload_n (pc := 62) C 0 dX12_ground_62 rfl ?_
        obtain ⟨z9, e8, hf⟩ := xbd hf
        refine gf_X12_63 (pc := 63) C e8 dX12_ground_63 ?_
        refine ww_iconst (pc := 66) (v := (0 : Int32)) C dX12_ground_66 (by decide) ?_
        obtain ⟨v11, e10, hf⟩ := xbd hf
        refine ww_iald (pc := 67) C e10 dX12_ground_67 ?_
        refine ww_iadd (pc := 68) C dX12_ground_68 ?_
        obtain ⟨v13, e12, hf⟩ := xbd hf
        refine ww_iald (pc := 69) C e12 dX12_ground_69 ?_
        have hf := xsj hf
        subst hf
        exact ww_iret (pc := 70) C hk dX12_ground_70
      · refine ⟨71, 55, rfl, by decide, ?_⟩
        have hf := xsw_in 2 hk1 rfl hf
        refine ww_aload_n (pc := 71) C 0 dX12_ground_71 rfl ?_
        refine ww_aload_n (pc := 72) C 0 dX12_ground_72 rfl ?_
        obtain ⟨z7, e6, hf⟩ := xbd hf
        refine gf_X12_63 (pc := 73) C e6 dX12_ground_73 ?_
        refine ww_iconst (pc := 76) (v := (0 : Int32)) C dX12_ground_76 (by decide) ?_
        obtain ⟨v9, e8, hf⟩ := xbd hf
        refine ww_iald (pc := 77) C e8 dX12_ground_77 ?_
        obtain ⟨_, e10, hf⟩ := xbd hf
        obtain ⟨v12, e11, hf⟩ := xbd hf
        refine ww_callVi (pc := 78) (as := [.int v9]) (st := []) C (k_X12_leastOf (l := gl G) (E := gE G) (hb := gB G) (σ := σ3) e11) rfl (by decide) xc_X12_295 q1608 qp148 (xck_spec e10) rfl (by decide) (xst4 (Nat.le_of_ble_eq_true rfl)) xsame.rf.le xsame.rf.lim dX12_ground_78 ?_
        have hf := xsj hf
        subst hf
        exact ww_iret (pc := 81) C hk dX12_ground_81
      · refine ⟨82, 66, rfl, by decide, ?_⟩
        have hf := xsw_in 3 hk1 rfl hf
        refine ww_aload_n (pc := 82) C 0 dX12_ground_82 rfl ?_
        obtain ⟨v7, e6, hf⟩ := xbd hf
        refine gf_X12_285 (pc := 83) C e6 dX12_ground_83 ?_
        refine ww_iconst (pc := 86) (v := (1 : Int32)) C dX12_ground_86 (by decide) ?_
        refine ww_icmp_ne (pc := 87) (tgt := 95) C dX12_ground_87 (by decide) (fun q => ?_) (fun q => ?_)
        · have hf := xin q hf
          refine ww_aload_n (pc := 95) C 0 dX12_ground_95 rfl ?_
          obtain ⟨z9, e8, hf⟩ := xbd hf
          refine gf_X12_63 (pc := 96) C e8 dX12_ground_96 ?_
          refine ww_iconst (pc := 99) (v := (1 : Int32)) C dX12_ground_99 (by decide) ?_
          obtain ⟨v11, e10, hf⟩ := xbd hf
          refine ww_iald (pc := 100) C e10 dX12_ground_100 ?_
          refine ww_aload_n (pc := 101) C 0 dX12_ground_101 rfl ?_
          obtain ⟨z13, e12, hf⟩ := xbd hf
          refine gf_X12_63 (pc := 102) C e12 dX12_ground_102 ?_
          refine ww_iconst (pc := 105) (v := (0 : Int32)) C dX12_ground_105 (by decide) ?_
          obtain ⟨v15, e14, hf⟩ := xbd hf
          refine ww_iald (pc := 106) C e14 dX12_ground_106 ?_
          refine ww_isub (pc := 107) C dX12_ground_107 ?_
          have hf := xsj hf
          subst hf
          exact ww_iret (pc := 108) C hk dX12_ground_108
        · have hf := xip q hf
          refine ww_bipush (pc := 90) (v := (-2 : Int32)) C dX12_ground_90 (by decide) ?_
          refine ww_goto (pc := 92) (tgt := 108) C dX12_ground_92 (by decide) ?_
          have hf := xsj hf
          subst hf
          exact ww_iret (pc := 108) C hk dX12_ground_108
    · refine ⟨109, by decide, ?_⟩
      have hf := xsw_out ho rfl hf
      refine ww_ldcw (pc := 109) C q1597 dX12_ground_109 ?_
      have hf := xsj hf
      subst hf
      exact ww_iret (pc := 112) C hk dX12_ground_112
  · have hf := xip q hf
    refine ww_ldcw (pc := 11) C q1597 dX12_ground_11 ?_
    have hf := xsj hf
    subst hf
    exact ww_iret (pc := 14) C hk dX12_ground_14
theorem m_X12_ground {σ : XS} {r0 : Nat} {x1 : Int32} {x : Int32 × XS} (hf : f_X12_ground σ r0 x1 = some x) : xsame σ x.2 := by
  have hm := xsame.rf (σ := σ)
  obtain ⟨_, e1, hf⟩ := xbd hf
  obtain ⟨σ3, e2, hf⟩ := xbd hf
  have hm := hm.tr (m_X12_knows e2)
  obtain ⟨v5, e4, hf⟩ := xbd hf
  by_cases q : v5 = 0
  · have hf := xip q hf
    have hf := xsj hf
    subst hf
    exact hm
  · have hf := xin q hf
    by_cases ho : (x1).toInt < 0 ∨ 3 < (x1).toInt
    · have hf := xsw_out ho rfl hf
      have hf := xsj hf
      subst hf
      exact hm
    · rcases (by omega : (x1).toInt = 0 + ((0 : Nat) : Int) ∨ (x1).toInt = 0 + ((1 : Nat) : Int) ∨ (x1).toInt = 0 + ((2 : Nat) : Int) ∨ (x1).toInt = 0 + ((3 : Nat) : Int)) with hk1 | hk1 | hk1 | hk1
      · have hf := xsw_in 0 hk1 rfl hf
        obtain ⟨z7, e6, hf⟩ := xbd hf
        obtain ⟨v9, e8, hf⟩ := xbd hf
        have hf := xsj hf
        subst hf
        exact hm
      · have hf := xsw_in 1 hk1 rfl hf
        obtain ⟨z7, e6, hf⟩ := xbd hf
        obtain ⟨z9, e8, hf⟩ := xbd hf
        obtain ⟨v11, e10, hf⟩ := xbd hf
        obtain ⟨v13, e12, hf⟩ := xbd hf
        have hf := xsj hf
        subst hf
        exact hm
      · have hf := xsw_in 2 hk1 rfl hf
        obtain ⟨z7, e6, hf⟩ := xbd hf
        obtain ⟨v9, e8, hf⟩ := xbd hf
        obtain ⟨_, e10, hf⟩ := xbd hf
        obtain ⟨v12, e11, hf⟩ := xbd hf
        have hf := xsj hf
        subst hf
        exact hm
      · have hf := xsw_in 3 hk1 rfl hf
        obtain ⟨v7, e6, hf⟩ := xbd hf
        by_cases q : v7 = (1 : Int32)
        · have hf := xip q hf
          have hf := xsj hf
          subst hf
          exact hm
        · have hf := xin q hf
          obtain ⟨z9, e8, hf⟩ := xbd hf
          obtain ⟨v11, e10, hf⟩ := xbd hf
          obtain ⟨z13, e12, hf⟩ := xbd hf
          obtain ⟨v15, e14, hf⟩ := xbd hf
          have hf := xsj hf
          subst hf
          exact hm
theorem k_X12_ground {l : Launch} {E : XD} {hb : Nat} {σ : XS} {r0 : Nat} {x1 : Int32} {x : Int32 × XS} (h : f_X12_ground σ r0 x1 = some x) : XM l yX12_ground cX12_ground 2 (some .int) 4 96 E hb [.ref (hb + r0), .int x1] σ (some (.int x.1)) x.2 := by
  refine xm_of (by decide) (Nat.le_of_ble_eq_true rfl) (m_X12_ground h).le (fun G hG C hl hQ => ?_)
  obtain ⟨rfl, rfl, rfl, hN⟩ := hG
  exact s_X12_ground_e C h hQ
noncomputable def f_X12_laysHills_j99 (σ : XS) (r0 : Nat) (x1 : Int32) (x2 : Int32) (x3 : Int32) : Option ((Int32 × Int32 × XS) ⊕ ((Int32 × XS) ⊕ (XS))) := (xgR σ r0 12 40).bind fun z2 => (xaI σ 20 z2 x2).bind fun v4 => if x3 < v4 then ((xgR σ r0 12 40).bind fun z6 => (xsI σ 20 z6 x2 x3).bind fun σ8 => some (.inl ((1 : Int32), x2 + (1 : Int32), σ8))) else some (.inl (x1, x2 + (1 : Int32), σ))
noncomputable def f_X12_laysHills_b40 (σ : XS) (r0 : Nat) (x1 : Int32) (x2 : Int32) : Int32 × Int32 → Option ((Int32 × Int32) ⊕ ((Int32 × Int32 × XS) ⊕ ((Int32 × XS) ⊕ (XS)))) := fun a => match a with
  | (x3, x4) => (xck σ r0 12).bind fun _ => (f_X12_sites σ r0).bind fun v3 => if v3 ≤ x4 then (((xgR σ r0 12 33).bind fun z5 => (xaI σ 20 z5 x2).bind fun v7 => if v7 ≤ x3 then (f_X12_laysHills_j99 σ r0 x1 x2 x3) else (xgR σ r0 12 33).bind fun z9 => (xaI σ 20 z9 x2).bind fun v11 => f_X12_laysHills_j99 σ r0 x1 x2 v11).map .inr) else (xgR σ r0 12 40).bind fun z5 => (xaI σ 20 z5 (x2 ^^^ ((1 : Int32) <<< (x4 &&& 31)))).bind fun v7 => if x3 ≤ v7 then (some (.inl (x3, x4 + (1 : Int32)))) else (xgR σ r0 12 40).bind fun z9 => (xaI σ 20 z9 (x2 ^^^ ((1 : Int32) <<< (x4 &&& 31)))).bind fun v11 => some (.inl (v11, x4 + (1 : Int32)))
noncomputable def f_X12_laysHills_b10 (r0 : Nat) : Int32 × Int32 × XS → Option ((Int32 × Int32 × XS) ⊕ ((Int32 × XS) ⊕ (XS))) := fun a => match a with
  | (x1, x2, σ) => (xck σ r0 12).bind fun _ => (f_X12_states σ r0).bind fun v3 => if v3 ≤ x2 then ((some (.inl (x1, σ))).map .inr) else (xgR σ r0 12 33).bind fun z5 => (xaI σ 20 z5 x2).bind fun v7 => if v7 = (100000 : Int32) then (some (.inl (x1, x2 + (1 : Int32), σ))) else xloop (f_X12_laysHills_b40 σ r0 x1 x2) ((100000 : Int32), (0 : Int32))
noncomputable def f_X12_laysHills_b2 (r0 : Nat) : Int32 × XS → Option ((Int32 × XS) ⊕ (XS)) := fun a => match a with
  | (x1, σ) => if x1 = 0 then ((some σ).map .inr) else xloop (f_X12_laysHills_b10 r0) ((0 : Int32), (0 : Int32), σ)
noncomputable def f_X12_laysHills (σ : XS) (r0 : Nat) : Option XS := xloop (f_X12_laysHills_b2 r0) ((1 : Int32), σ)
theorem s_X12_laysHills_j99 {G : XG} (C : XC G cX12_laysHills RX12 none 5 2 40) {σ : XS} {r0 : Nat} {x1 : Int32} {x2 : Int32} {x3 : Int32} {x : ((Int32 × Int32 × XS) ⊕ ((Int32 × XS) ⊕ (XS)))} (hf : f_X12_laysHills_j99 σ r0 x1 x2 x3 = some x) (hk : (∀ a' : Int32 × Int32 × XS, x = .inl a' → WW G 10 [(0, .ref (gB G + r0)), (1, .int a'.1), (2, .int a'.2.1)] [] a'.2.2) ∧ (∀ b2 : ((Int32 × XS) ⊕ (XS)), x = .inr b2 → (∀ a' : Int32 × XS, b2 = .inl a' → WW G 2 [(0, .ref (gB G + r0)), (1, .int a'.1)] [] a'.2) ∧ (∀ b1 : XS, b2 = .inr b1 → XEnd G none b1))) : WW G 99 [(0, .ref (gB G + r0)), (1, .int x1), (2, .int x2), (3, .int x3)] [] σ := by
  refine ww_iload_n (pc := 99) C 3 dX12_laysHills_99 rfl ?_
  refine ww_aload_n (pc := 100) C 0 dX12_laysHills_100 rfl ?_
  obtain ⟨z2, e1, hf⟩ := xbd hf
  refine gf_X12_75 (pc := 101) C e1 dX12_laysHills_101 ?_
  refine ww_iload_n (pc := 104) C 2 dX12_laysHills_104 rfl ?_
  obtain ⟨v4, e3, hf⟩ := xbd hf
  refine ww_iald (pc := 105) C e3 dX12_laysHills_105 ?_
  refine ww_icmp_lt (pc := 106) (tgt := 112) C dX12_laysHills_106 (by decide) (fun q => ?_) (fun q => ?_)
  · have hf := xip q hf
    refine ww_aload_n (pc := 112) C 0 dX12_laysHills_112 rfl ?_
    obtain ⟨z6, e5, hf⟩ := xbd hf
    refine gf_X12_75 (pc := 113) C e5 dX12_laysHills_113 ?_
    refine ww_iload_n (pc := 116) C 2 dX12_laysHills_116 rfl ?_
    refine ww_iload_n (pc := 117) C 3 dX12_laysHills_117 rfl ?_
    obtain ⟨σ8, e7, hf⟩ := xbd hf
    refine ww_iast (pc := 118) C e7 dX12_laysHills_118 ?_
    refine ww_iconst (pc := 119) (v := (1 : Int32)) C dX12_laysHills_119 (by decide) ?_
    refine ww_istore_n (pc := 120) (lv' := [(1, .int (1 : Int32)), (0, .ref (gB G + r0)), (2, .int x2), (3, .int x3)]) C dX12_laysHills_120 (by decide) rfl ?_
    refine ww_iinc (pc := 121) (v := x2 + (1 : Int32)) (lv' := [(2, .int (x2 + (1 : Int32))), (1, .int (1 : Int32)), (0, .ref (gB G + r0)), (3, .int x3)]) C 2 dX12_laysHills_121 rfl (congrArg (fun z => x2 + z) (show Int32.ofInt (1) = (1 : Int32) by decide)) (by decide) rfl ?_
    refine ww_goto (pc := 124) (tgt := 10) C dX12_laysHills_124 (by decide) ?_
    have hf := xsj hf
    subst hf
    refine ww_sub [2, 1, 0] rfl ?_
    exact hk.1 ((1 : Int32), x2 + (1 : Int32), σ8) rfl
  · have hf := xin q hf
    refine ww_goto (pc := 109) (tgt := 121) C dX12_laysHills_109 (by decide) ?_
    refine ww_iinc (pc := 121) (v := x2 + (1 : Int32)) (lv' := [(2, .int (x2 + (1 : Int32))), (0, .ref (gB G + r0)), (1, .int x1), (3, .int x3)]) C 2 dX12_laysHills_121 rfl (congrArg (fun z => x2 + z) (show Int32.ofInt (1) = (1 : Int32) by decide)) (by decide) rfl ?_
    refine ww_goto (pc := 124) (tgt := 10) C dX12_laysHills_124 (by decide) ?_
    have hf := xsj hf
    subst hf
    refine ww_sub [1, 2, 0] rfl ?_
    exact hk.1 (x1, x2 + (1 : Int32), σ) rfl
theorem m_X12_laysHills_j99 {σ : XS} {r0 : Nat} {x1 : Int32} {x2 : Int32} {x3 : Int32} {x : ((Int32 × Int32 × XS) ⊕ ((Int32 × XS) ⊕ (XS)))} (hf : f_X12_laysHills_j99 σ r0 x1 x2 x3 = some x) : (∀ a' : Int32 × Int32 × XS, x = .inl a' → xsame σ a'.2.2) ∧ (∀ b2 : ((Int32 × XS) ⊕ (XS)), x = .inr b2 → (∀ a' : Int32 × XS, b2 = .inl a' → xsame σ a'.2) ∧ (∀ b1 : XS, b2 = .inr b1 → xsame σ b1)) := by
  have hm := xsame.rf (σ := σ)
  obtain ⟨z2, e1, hf⟩ := xbd hf
  obtain ⟨v4, e3, hf⟩ := xbd hf
  by_cases q : x3 < v4
  · have hf := xip q hf
    obtain ⟨z6, e5, hf⟩ := xbd hf
    obtain ⟨σ8, e7, hf⟩ := xbd hf
    have hm := hm.tr (xsI_same e7)
    have hf := xsj hf
    subst hf
    exact ⟨fun a' e => (by have h9 := Sum.inl.inj e; subst h9; exact hm), fun b e => xnc1 e⟩
  · have hf := xin q hf
    have hf := xsj hf
    subst hf
    exact ⟨fun a' e => (by have h9 := Sum.inl.inj e; subst h9; exact hm), fun b e => xnc1 e⟩
theorem m_X12_laysHills_l40 {σ : XS} {r0 : Nat} {x1 : Int32} {x2 : Int32} {a : Int32 × Int32} {x : ((Int32 × Int32 × XS) ⊕ ((Int32 × XS) ⊕ (XS)))} (hf : xloop (f_X12_laysHills_b40 σ r0 x1 x2) a = some x) : (∀ a' : Int32 × Int32 × XS, x = .inl a' → xsame σ a'.2.2) ∧ (∀ b2 : ((Int32 × XS) ⊕ (XS)), x = .inr b2 → (∀ a' : Int32 × XS, b2 = .inl a' → xsame σ a'.2) ∧ (∀ b1 : XS, b2 = .inr b1 → xsame σ b1)) := by
  refine xloop_ind (P := fun a => (∀ a' : Int32 × Int32 × XS, x = .inl a' → xsame σ a'.2.2) ∧ (∀ b2 : ((Int32 × XS) ⊕ (XS)), x = .inr b2 → (∀ a' : Int32 × XS, b2 = .inl a' → xsame σ a'.2) ∧ (∀ b1 : XS, b2 = .inr b1 → xsame σ b1))) (fun a y hf hc he => ?_) hf
  obtain ⟨x3, x4⟩ := a
  have hy : (∀ a' : Int32 × Int32, y = .inl a' → True) ∧ (∀ b3 : ((Int32 × Int32 × XS) ⊕ ((Int32 × XS) ⊕ (XS))), y = .inr b3 → (∀ a' : Int32 × Int32 × XS, b3 = .inl a' → xsame σ a'.2.2) ∧ (∀ b2 : ((Int32 × XS) ⊕ (XS)), b3 = .inr b2 → (∀ a' : Int32 × XS, b2 = .inl a' → xsame σ a'.2) ∧ (∀ b1 : XS, b2 = .inr b1 → xsame σ b1))) := by
    have hm := xsame.rf (σ := σ)
    obtain ⟨_, e1, hf⟩ := xbd hf
    obtain ⟨v3, e2, hf⟩ := xbd hf
    by_cases q : v3 ≤ x4
    · have hf := xip q hf
      obtain ⟨b0, hg, e9⟩ := xmj hf
      subst e9
      have hf := hg
      refine ⟨fun a' e => xnc2 e, fun b e => ?_⟩
      have h9 := Sum.inr.inj e
      subst h9
      obtain ⟨z5, e4, hf⟩ := xbd hf
      obtain ⟨v7, e6, hf⟩ := xbd hf
      by_cases q : v7 ≤ x3
      · have hf := xip q hf
        exact ⟨fun a' e => hm.tr ((m_X12_laysHills_j99 hf).1 a' e), fun b2 eb2 => ⟨fun a' e => hm.tr (((m_X12_laysHills_j99 hf).2 b2 eb2).1 a' e), fun b1 eb1 => hm.tr (((m_X12_laysHills_j99 hf).2 b2 eb2).2 b1 eb1)⟩⟩
      · have hf := xin q hf
        obtain ⟨z9, e8, hf⟩ := xbd hf
        obtain ⟨v11, e10, hf⟩ := xbd hf
        exact ⟨fun a' e => hm.tr ((m_X12_laysHills_j99 hf).1 a' e), fun b2 eb2 => ⟨fun a' e => hm.tr (((m_X12_laysHills_j99 hf).2 b2 eb2).1 a' e), fun b1 eb1 => hm.tr (((m_X12_laysHills_j99 hf).2 b2 eb2).2 b1 eb1)⟩⟩
    · have hf := xin q hf
      obtain ⟨z5, e4, hf⟩ := xbd hf
      obtain ⟨v7, e6, hf⟩ := xbd hf
      by_cases q : x3 ≤ v7
      · have hf := xip q hf
        have hf := xsj hf
        subst hf
        exact ⟨fun a' e => (by have h9 := Sum.inl.inj e; subst h9; exact trivial), fun b e => xnc1 e⟩
      · have hf := xin q hf
        obtain ⟨z9, e8, hf⟩ := xbd hf
        obtain ⟨v11, e10, hf⟩ := xbd hf
        have hf := xsj hf
        subst hf
        exact ⟨fun a' e => (by have h9 := Sum.inl.inj e; subst h9; exact trivial), fun b e => xnc1 e⟩
  cases y with
  | inl a' =>
    have h1 := hc a' rfl
    exact h1
  | inr b =>
    have h1 := he b rfl
    subst h1
    exact hy.2 _ rfl
theorem s_X12_laysHills_l40 {G : XG} (C : XC G cX12_laysHills RX12 none 5 2 40) {σ : XS} {r0 : Nat} {x1 : Int32} {x2 : Int32} {a : Int32 × Int32} {x : ((Int32 × Int32 × XS) ⊕ ((Int32 × XS) ⊕ (XS)))} (hf : xloop (f_X12_laysHills_b40 σ r0 x1 x2) a = some x) (hk : (∀ a' : Int32 × Int32 × XS, x = .inl a' → WW G 10 [(0, .ref (gB G + r0)), (1, .int a'.1), (2, .int a'.2.1)] [] a'.2.2) ∧ (∀ b2 : ((Int32 × XS) ⊕ (XS)), x = .inr b2 → (∀ a' : Int32 × XS, b2 = .inl a' → WW G 2 [(0, .ref (gB G + r0)), (1, .int a'.1)] [] a'.2) ∧ (∀ b1 : XS, b2 = .inr b1 → XEnd G none b1))) : WW G 40 [(0, .ref (gB G + r0)), (1, .int x1), (2, .int x2), (3, .int a.1), (4, .int a.2)] [] σ := by
  refine xloop_ind (P := fun a => WW G 40 [(0, .ref (gB G + r0)), (1, .int x1), (2, .int x2), (3, .int a.1), (4, .int a.2)] [] σ) (fun a y hf hc he => ?_) hf
  obtain ⟨x3, x4⟩ := a
  have hk : (∀ a' : Int32 × Int32, y = .inl a' → WW G 40 [(0, .ref (gB G + r0)), (1, .int x1), (2, .int x2), (3, .int a'.1), (4, .int a'.2)] [] σ) ∧ (∀ b3 : ((Int32 × Int32 × XS) ⊕ ((Int32 × XS) ⊕ (XS))), y = .inr b3 → (∀ a' : Int32 × Int32 × XS, b3 = .inl a' → WW G 10 [(0, .ref (gB G + r0)), (1, .int a'.1), (2, .int a'.2.1)] [] a'.2.2) ∧ (∀ b2 : ((Int32 × XS) ⊕ (XS)), b3 = .inr b2 → (∀ a' : Int32 × XS, b2 = .inl a' → WW G 2 [(0, .ref (gB G + r0)), (1, .int a'.1)] [] a'.2) ∧ (∀ b1 : XS, b2 = .inr b1 → XEnd G none b1))) := ⟨hc, fun b e => by have h9 := he b e; subst h9; exact hk⟩
  refine ww_iload (pc := 40) C 4 dX12_laysHills_40 rfl ?_
  refine ww_aload_n (pc := 42) C 0 dX12_laysHills_42 rfl ?_
  obtain ⟨_, e1, hf⟩ := xbd hf
  obtain ⟨v3, e2, hf⟩ := xbd hf
  refine ww_callVi (pc := 43) (as := []) (st := [.int x4]) C (k_X12_sites (l := gl G) (E := gE G) (hb := gB G) (σ := σ) e2) rfl (by decide) xc_X12_193 q1496 qp136 (xck_spec e1) rfl (by decide) (xst4 (Nat.le_of_ble_eq_true rfl)) xsame.rf.le xsame.rf.lim dX12_laysHills_43 ?_
  refine ww_icmp_ge (pc := 46) (tgt := 82) C dX12_laysHills_46 (by decide) (fun q => ?_) (fun q => ?_)
  · have hf := xip q hf
    obtain ⟨b0, hg, e9⟩ := xmj hf
    subst e9
    have hf := hg
    have hk := hk.2 _ rfl
    refine ww_iload_n (pc := 82) C 3 dX12_laysHills_82 rfl ?_
    refine ww_aload_n (pc := 83) C 0 dX12_laysHills_83 rfl ?_
    obtain ⟨z5, e4, hf⟩ := xbd hf
    refine gf_X12_57 (pc := 84) C e4 dX12_laysHills_84 ?_
    refine ww_iload_n (pc := 87) C 2 dX12_laysHills_87 rfl ?_
    obtain ⟨v7, e6, hf⟩ := xbd hf
    refine ww_iald (pc := 88) C e6 dX12_laysHills_88 ?_
    refine ww_icmp_ge (pc := 89) (tgt := 99) C dX12_laysHills_89 (by decide) (fun q => ?_) (fun q => ?_)
    · have hf := xip q hf
      refine ww_sub [0, 1, 2, 3] rfl ?_
      exact s_X12_laysHills_j99 C hf hk
    · have hf := xin q hf
      refine ww_aload_n (pc := 92) C 0 dX12_laysHills_92 rfl ?_
      obtain ⟨z9, e8, hf⟩ := xbd hf
      refine gf_X12_57 (pc := 93) C e8 dX12_laysHills_93 ?_
      refine ww_iload_n (pc := 96) C 2 dX12_laysHills_96 rfl ?_
      obtain ⟨v11, e10, hf⟩ := xbd hf
      refine ww_iald (pc := 97) C e10 dX12_laysHills_97 ?_
      refine ww_istore_n (pc := 98) (lv' := [(3, .int v11), (0, .ref (gB G + r0)), (1, .int x1), (2, .int x2), (4, .int x4)]) C dX12_laysHills_98 (by decide) rfl ?_
      refine ww_sub [1, 2, 3, 0] rfl ?_
      exact s_X12_laysHills_j99 C hf hk
  · have hf := xin q hf
    refine ww_aload_n (pc := 49) C 0 dX12_laysHills_49 rfl ?_
    obtain ⟨z5, e4, hf⟩ := xbd hf
    refine gf_X12_75 (pc := 50) C e4 dX12_laysHills_50 ?_
    refine ww_iload_n (pc := 53) C 2 dX12_laysHills_53 rfl ?_
    refine ww_iconst (pc := 54) (v := (1 : Int32)) C dX12_laysHills_54 (by decide) ?_
    refine ww_iload (pc := 55) C 4 dX12_laysHills_55 rfl ?_
    refine ww_ishl (pc := 57) C dX12_laysHills_57 ?_
    refine ww_ixor (pc := 58) C dX12_laysHills_58 ?_
    obtain ⟨v7, e6, hf⟩ := xbd hf
    refine ww_iald (pc := 59) C e6 dX12_laysHills_59 ?_
    refine ww_iload_n (pc := 60) C 3 dX12_laysHills_60 rfl ?_
    refine ww_icmp_ge (pc := 61) (tgt := 76) C dX12_laysHills_61 (by decide) (fun q => ?_) (fun q => ?_)
    · have hf := xip q hf
      refine ww_iinc (pc := 76) (v := x4 + (1 : Int32)) (lv' := [(4, .int (x4 + (1 : Int32))), (0, .ref (gB G + r0)), (1, .int x1), (2, .int x2), (3, .int x3)]) C 4 dX12_laysHills_76 rfl (congrArg (fun z => x4 + z) (show Int32.ofInt (1) = (1 : Int32) by decide)) (by decide) rfl ?_
      refine ww_goto (pc := 79) (tgt := 40) C dX12_laysHills_79 (by decide) ?_
      have hf := xsj hf
      subst hf
      refine ww_sub [1, 2, 3, 4, 0] rfl ?_
      exact hk.1 (x3, x4 + (1 : Int32)) rfl
    · have hf := xin q hf
      refine ww_aload_n (pc := 64) C 0 dX12_laysHills_64 rfl ?_
      obtain ⟨z9, e8, hf⟩ := xbd hf
      refine gf_X12_75 (pc := 65) C e8 dX12_laysHills_65 ?_
      refine ww_iload_n (pc := 68) C 2 dX12_laysHills_68 rfl ?_
      refine ww_iconst (pc := 69) (v := (1 : Int32)) C dX12_laysHills_69 (by decide) ?_
      refine ww_iload (pc := 70) C 4 dX12_laysHills_70 rfl ?_
      refine ww_ishl (pc := 72) C dX12_laysHills_72 ?_
      refine ww_ixor (pc := 73) C dX12_laysHills_73 ?_
      obtain ⟨v11, e10, hf⟩ := xbd hf
      refine ww_iald (pc := 74) C e10 dX12_laysHills_74 ?_
      refine ww_istore_n (pc := 75) (lv' := [(3, .int v11), (0, .ref (gB G + r0)), (1, .int x1), (2, .int x2), (4, .int x4)]) C dX12_laysHills_75 (by decide) rfl ?_
      refine ww_iinc (pc := 76) (v := x4 + (1 : Int32)) (lv' := [(4, .int (x4 + (1 : Int32))), (3, .int v11), (0, .ref (gB G + r0)), (1, .int x1), (2, .int x2)]) C 4 dX12_laysHills_76 rfl (congrArg (fun z => x4 + z) (show Int32.ofInt (1) = (1 : Int32) by decide)) (by decide) rfl ?_
      refine ww_goto (pc := 79) (tgt := 40) C dX12_laysHills_79 (by decide) ?_
      have hf := xsj hf
      subst hf
      refine ww_sub [2, 3, 4, 1, 0] rfl ?_
      exact hk.1 (v11, x4 + (1 : Int32)) rfl
theorem m_X12_laysHills_l10 {r0 : Nat} {a : Int32 × Int32 × XS} {x : ((Int32 × XS) ⊕ (XS))} (hf : xloop (f_X12_laysHills_b10 r0) a = some x) : (∀ a' : Int32 × XS, x = .inl a' → xsame a.2.2 a'.2) ∧ (∀ b1 : XS, x = .inr b1 → xsame a.2.2 b1) := by
  refine xloop_ind (P := fun a => (∀ a' : Int32 × XS, x = .inl a' → xsame a.2.2 a'.2) ∧ (∀ b1 : XS, x = .inr b1 → xsame a.2.2 b1)) (fun a y hf hc he => ?_) hf
  obtain ⟨x1, x2, σ⟩ := a
  have hy : (∀ a' : Int32 × Int32 × XS, y = .inl a' → xsame σ a'.2.2) ∧ (∀ b2 : ((Int32 × XS) ⊕ (XS)), y = .inr b2 → (∀ a' : Int32 × XS, b2 = .inl a' → xsame σ a'.2) ∧ (∀ b1 : XS, b2 = .inr b1 → xsame σ b1)) := by
    have hm := xsame.rf (σ := σ)
    obtain ⟨_, e1, hf⟩ := xbd hf
    obtain ⟨v3, e2, hf⟩ := xbd hf
    by_cases q : v3 ≤ x2
    · have hf := xip q hf
      obtain ⟨b0, hg, e9⟩ := xmj hf
      subst e9
      have hf := hg
      refine ⟨fun a' e => xnc2 e, fun b e => ?_⟩
      have h9 := Sum.inr.inj e
      subst h9
      have hf := xsj hf
      subst hf
      exact ⟨fun a' e => (by have h9 := Sum.inl.inj e; subst h9; exact hm), fun b e => xnc1 e⟩
    · have hf := xin q hf
      obtain ⟨z5, e4, hf⟩ := xbd hf
      obtain ⟨v7, e6, hf⟩ := xbd hf
      by_cases q : v7 = (100000 : Int32)
      · have hf := xip q hf
        have hf := xsj hf
        subst hf
        exact ⟨fun a' e => (by have h9 := Sum.inl.inj e; subst h9; exact hm), fun b e => xnc1 e⟩
      · have hf := xin q hf
        exact ⟨fun a' e => hm.tr ((m_X12_laysHills_l40 (a := ((100000 : Int32), (0 : Int32))) hf).1 a' e), fun b2 eb2 => ⟨fun a' e => hm.tr (((m_X12_laysHills_l40 (a := ((100000 : Int32), (0 : Int32))) hf).2 b2 eb2).1 a' e), fun b1 eb1 => hm.tr (((m_X12_laysHills_l40 (a := ((100000 : Int32), (0 : Int32))) hf).2 b2 eb2).2 b1 eb1)⟩⟩
  cases y with
  | inl a' =>
    have h1 := hc a' rfl
    have hm := hy.1 a' rfl
    exact ⟨fun a' e => hm.tr ((h1).1 a' e), fun b1 eb1 => hm.tr ((h1).2 b1 eb1)⟩
  | inr b =>
    have h1 := he b rfl
    subst h1
    exact hy.2 _ rfl
theorem s_X12_laysHills_l10 {G : XG} (C : XC G cX12_laysHills RX12 none 5 2 40) {r0 : Nat} {a : Int32 × Int32 × XS} {x : ((Int32 × XS) ⊕ (XS))} (hf : xloop (f_X12_laysHills_b10 r0) a = some x) (hk : (∀ a' : Int32 × XS, x = .inl a' → WW G 2 [(0, .ref (gB G + r0)), (1, .int a'.1)] [] a'.2) ∧ (∀ b1 : XS, x = .inr b1 → XEnd G none b1)) : WW G 10 [(0, .ref (gB G + r0)), (1, .int a.1), (2, .int a.2.1)] [] a.2.2 := by
  refine xloop_ind (P := fun a => WW G 10 [(0, .ref (gB G + r0)), (1, .int a.1), (2, .int a.2.1)] [] a.2.2) (fun a y hf hc he => ?_) hf
  obtain ⟨x1, x2, σ⟩ := a
  have hk : (∀ a' : Int32 × Int32 × XS, y = .inl a' → WW G 10 [(0, .ref (gB G + r0)), (1, .int a'.1), (2, .int a'.2.1)] [] a'.2.2) ∧ (∀ b2 : ((Int32 × XS) ⊕ (XS)), y = .inr b2 → (∀ a' : Int32 × XS, b2 = .inl a' → WW G 2 [(0, .ref (gB G + r0)), (1, .int a'.1)] [] a'.2) ∧ (∀ b1 : XS, b2 = .inr b1 → XEnd G none b1)) := ⟨hc, fun b e => by have h9 := he b e; subst h9; exact hk⟩
  refine ww_iload_n (pc := 10) C 2 dX12_laysHills_10 rfl ?_
  refine ww_aload_n (pc := 11) C 0 dX12_laysHills_11 rfl ?_
  obtain ⟨_, e1, hf⟩ := xbd hf
  obtain ⟨v3, e2, hf⟩ := xbd hf
  refine ww_callVi (pc := 12) (as := []) (st := [.int x2]) C (k_X12_states (l := gl G) (E := gE G) (hb := gB G) (σ := σ) e2) rfl (by decide) xc_X12_270 q1555 qp141 (xck_spec e1) rfl (by decide) (xst4 (Nat.le_of_ble_eq_true rfl)) xsame.rf.le xsame.rf.lim dX12_laysHills_12 ?_
  refine ww_icmp_ge (pc := 15) (tgt := 127) C dX12_laysHills_15 (by decide) (fun q => ?_) (fun q => ?_)
  · have hf := xip q hf
    obtain ⟨b0, hg, e9⟩ := xmj hf
    subst e9
    have hf := hg
    have hk := hk.2 _ rfl
    refine ww_goto (pc := 127) (tgt := 2) C dX12_laysHills_127 (by decide) ?_
    have hf := xsj hf
    subst hf
    refine ww_sub [0, 1] rfl ?_
    exact hk.1 (x1, σ) rfl
  · have hf := xin q hf
    refine ww_aload_n (pc := 18) C 0 dX12_laysHills_18 rfl ?_
    obtain ⟨z5, e4, hf⟩ := xbd hf
    refine gf_X12_57 (pc := 19) C e4 dX12_laysHills_19 ?_
    refine ww_iload_n (pc := 22) C 2 dX12_laysHills_22 rfl ?_
    obtain ⟨v7, e6, hf⟩ := xbd hf
    refine ww_iald (pc := 23) C e6 dX12_laysHills_23 ?_
    refine ww_ldcw (pc := 24) C q1568 dX12_laysHills_24 ?_
    refine ww_icmp_ne (pc := 27) (tgt := 33) C dX12_laysHills_27 (by decide) (fun q => ?_) (fun q => ?_)
    · have hf := xin q hf
      refine ww_ldcw (pc := 33) C q1568 dX12_laysHills_33 ?_
      refine ww_istore_n (pc := 36) (lv' := [(3, .int (100000 : Int32)), (0, .ref (gB G + r0)), (1, .int x1), (2, .int x2)]) C dX12_laysHills_36 (by decide) rfl ?_
      refine ww_iconst (pc := 37) (v := (0 : Int32)) C dX12_laysHills_37 (by decide) ?_
      refine ww_istore (pc := 38) (lv' := [(4, .int (0 : Int32)), (3, .int (100000 : Int32)), (0, .ref (gB G + r0)), (1, .int x1), (2, .int x2)]) C dX12_laysHills_38 (by decide) rfl ?_
      refine ww_sub [2, 3, 4, 1, 0] rfl ?_
      exact s_X12_laysHills_l40 C (a := ((100000 : Int32), (0 : Int32))) hf hk
    · have hf := xip q hf
      refine ww_goto (pc := 30) (tgt := 121) C dX12_laysHills_30 (by decide) ?_
      refine ww_iinc (pc := 121) (v := x2 + (1 : Int32)) (lv' := [(2, .int (x2 + (1 : Int32))), (0, .ref (gB G + r0)), (1, .int x1)]) C 2 dX12_laysHills_121 rfl (congrArg (fun z => x2 + z) (show Int32.ofInt (1) = (1 : Int32) by decide)) (by decide) rfl ?_
      refine ww_goto (pc := 124) (tgt := 10) C dX12_laysHills_124 (by decide) ?_
      have hf := xsj hf
      subst hf
      refine ww_sub [1, 2, 0] rfl ?_
      exact hk.1 (x1, x2 + (1 : Int32), σ) rfl
theorem m_X12_laysHills_l2 {r0 : Nat} {a : Int32 × XS} {x : XS} (hf : xloop (f_X12_laysHills_b2 r0) a = some x) : xsame a.2 x := by
  refine xloop_ind (P := fun a => xsame a.2 x) (fun a y hf hc he => ?_) hf
  obtain ⟨x1, σ⟩ := a
  have hy : (∀ a' : Int32 × XS, y = .inl a' → xsame σ a'.2) ∧ (∀ b1 : XS, y = .inr b1 → xsame σ b1) := by
    have hm := xsame.rf (σ := σ)
    by_cases q : x1 = 0
    · have hf := xip q hf
      obtain ⟨b0, hg, e9⟩ := xmj hf
      subst e9
      have hf := hg
      refine ⟨fun a' e => xnc2 e, fun b e => ?_⟩
      have h9 := Sum.inr.inj e
      subst h9
      have hf := xsj hf
      subst hf
      exact hm
    · have hf := xin q hf
      exact ⟨fun a' e => hm.tr ((m_X12_laysHills_l10 (a := ((0 : Int32), (0 : Int32), σ)) hf).1 a' e), fun b1 eb1 => hm.tr ((m_X12_laysHills_l10 (a := ((0 : Int32), (0 : Int32), σ)) hf).2 b1 eb1)⟩
  cases y with
  | inl a' =>
    have h1 := hc a' rfl
    have hm := hy.1 a' rfl
    exact hm.tr (h1)
  | inr b =>
    have h1 := he b rfl
    subst h1
    exact hy.2 _ rfl
theorem s_X12_laysHills_l2 {G : XG} (C : XC G cX12_laysHills RX12 none 5 2 40) {r0 : Nat} {a : Int32 × XS} {x : XS} (hf : xloop (f_X12_laysHills_b2 r0) a = some x) (hk : XEnd G none x) : WW G 2 [(0, .ref (gB G + r0)), (1, .int a.1)] [] a.2 := by
  refine xloop_ind (P := fun a => WW G 2 [(0, .ref (gB G + r0)), (1, .int a.1)] [] a.2) (fun a y hf hc he => ?_) hf
  obtain ⟨x1, σ⟩ := a
  have hk : (∀ a' : Int32 × XS, y = .inl a' → WW G 2 [(0, .ref (gB G + r0)), (1, .int a'.1)] [] a'.2) ∧ (∀ b1 : XS, y = .inr b1 → XEnd G none b1) := ⟨hc, fun b e => by have h9 := he b e; subst h9; exact hk⟩
  refine ww_iload_n (pc := 2) C 1 dX12_laysHills_2 rfl ?_
  refine ww_if_eq (pc := 3) (tgt := 130) C dX12_laysHills_3 (by decide) (fun q => ?_) (fun q => ?_)
  · have hf := xip q hf
    obtain ⟨b0, hg, e9⟩ := xmj hf
    subst e9
    have hf := hg
    have hk := hk.2 _ rfl
    have hf := xsj hf
    subst hf
    exact ww_vret (pc := 130) C hk dX12_laysHills_130
  · have hf := xin q hf
    refine ww_iconst (pc := 6) (v := (0 : Int32)) C dX12_laysHills_6 (by decide) ?_
    refine ww_istore_n (pc := 7) (lv' := [(1, .int (0 : Int32)), (0, .ref (gB G + r0))]) C dX12_laysHills_7 (by decide) rfl ?_
    refine ww_iconst (pc := 8) (v := (0 : Int32)) C dX12_laysHills_8 (by decide) ?_
    refine ww_istore_n (pc := 9) (lv' := [(2, .int (0 : Int32)), (1, .int (0 : Int32)), (0, .ref (gB G + r0))]) C dX12_laysHills_9 (by decide) rfl ?_
    refine ww_sub [2, 1, 0] rfl ?_
    exact s_X12_laysHills_l10 C (a := ((0 : Int32), (0 : Int32), σ)) hf hk
theorem s_X12_laysHills_e {G : XG} (C : XC G cX12_laysHills RX12 none 5 2 40) {σ : XS} {r0 : Nat} {x : XS} (hf : f_X12_laysHills σ r0 = some x) (hk : XEnd G none x) : WW G 0 [(0, .ref (gB G + r0))] [] σ := by
  refine ww_iconst (pc := 0) (v := (1 : Int32)) C dX12_laysHills_0 (by decide) ?_
  refine ww_istore_n (pc := 1) (lv' := [(1, .int (1 : Int32)), (0, .ref (gB G + r0))]) C dX12_laysHills_1 (by decide) rfl ?_
  refine ww_sub [1, 0] rfl ?_
  exact s_X12_laysHills_l2 C (a := ((1 : Int32), σ)) hf hk
theorem m_X12_laysHills {σ : XS} {r0 : Nat} {x : XS} (hf : f_X12_laysHills σ r0 = some x) : xsame σ x := by
  have hm := xsame.rf (σ := σ)
  exact hm.tr (m_X12_laysHills_l2 (a := ((1 : Int32), σ)) hf)
theorem k_X12_laysHills {l : Launch} {E : XD} {hb : Nat} {σ : XS} {r0 : Nat} {x : XS} (h : f_X12_laysHills σ r0 = some x) : XM l yX12_laysHills cX12_laysHills 5 none 2 40 E hb [.ref (hb + r0)] σ none x := by
  refine xm_of (by decide) (Nat.le_of_ble_eq_true rfl) (m_X12_laysHills h).le (fun G hG C hl hQ => ?_)
  obtain ⟨rfl, rfl, rfl, hN⟩ := hG
  exact s_X12_laysHills_e C h hQ
noncomputable def f_X12_hill_b27 (r0 : Nat) (x1 : Int32) : Int32 × XS → Option ((Int32 × XS) ⊕ (Int32 × XS)) := fun a => match a with
  | (x2, σ) => (xck σ r0 12).bind fun _ => (f_X12_states σ r0).bind fun v3 => if v3 ≤ x2 then (((xck σ r0 12).bind fun _ => (f_X12_laysHills σ r0).bind fun σ6 => (xgR σ6 r0 12 40).bind fun z8 => (xaI σ6 20 z8 x1).bind fun v10 => some (v10, σ6)).map .inr) else (xgR σ r0 12 40).bind fun z5 => (xgR σ r0 12 33).bind fun z7 => (xaI σ 20 z7 x2).bind fun v9 => (xgR σ r0 12 36).bind fun z11 => (xaI σ 20 z11 (0 : Int32)).bind fun v13 => if v9 = v13 then ((xgR σ r0 12 36).bind fun z15 => (xaI σ 20 z15 (0 : Int32)).bind fun v17 => (xsI σ 20 z5 x2 v17).bind fun σ19 => some (.inl (x2 + (1 : Int32), σ19))) else (xsI σ 20 z5 x2 (100000 : Int32)).bind fun σ15 => some (.inl (x2 + (1 : Int32), σ15))
noncomputable def f_X12_hill (σ : XS) (r0 : Nat) (x1 : Int32) : Option (Int32 × XS) := (xck σ r0 12).bind fun _ => (f_X12_isLawful σ r0 x1).bind fun v3 => if v3 = 0 then (some ((-100000 : Int32), σ)) else (xck σ r0 12).bind fun _ => (f_X12_sites σ r0).bind fun v6 => if v6 ≤ (10 : Int32) then ((xck σ r0 12).bind fun _ => (f_X12_knows σ r0).bind fun σ9 => xloop (f_X12_hill_b27 r0 x1) ((0 : Int32), σ9)) else some ((-100000 : Int32), σ)
theorem m_X12_hill_l27 {r0 : Nat} {x1 : Int32} {a : Int32 × XS} {x : Int32 × XS} (hf : xloop (f_X12_hill_b27 r0 x1) a = some x) : xsame a.2 x.2 := by
  refine xloop_ind (P := fun a => xsame a.2 x.2) (fun a y hf hc he => ?_) hf
  obtain ⟨x2, σ⟩ := a
  have hy : (∀ a' : Int32 × XS, y = .inl a' → xsame σ a'.2) ∧ (∀ b1 : Int32 × XS, y = .inr b1 → xsame σ b1.2) := by
    have hm := xsame.rf (σ := σ)
    obtain ⟨_, e1, hf⟩ := xbd hf
    obtain ⟨v3, e2, hf⟩ := xbd hf
    by_cases q : v3 ≤ x2
    · have hf := xip q hf
      obtain ⟨b0, hg, e9⟩ := xmj hf
      subst e9
      have hf := hg
      refine ⟨fun a' e => xnc2 e, fun b e => ?_⟩
      have h9 := Sum.inr.inj e
      subst h9
      obtain ⟨_, e4, hf⟩ := xbd hf
      obtain ⟨σ6, e5, hf⟩ := xbd hf
      have hm := hm.tr (m_X12_laysHills e5)
      obtain ⟨z8, e7, hf⟩ := xbd hf
      obtain ⟨v10, e9, hf⟩ := xbd hf
      have hf := xsj hf
      subst hf
      exact hm
    · have hf := xin q hf
      obtain ⟨z5, e4, hf⟩ := xbd hf
      obtain ⟨z7, e6, hf⟩ := xbd hf
      obtain ⟨v9, e8, hf⟩ := xbd hf
      obtain ⟨z11, e10, hf⟩ := xbd hf
      obtain ⟨v13, e12, hf⟩ := xbd hf
      by_cases q : v9 = v13
      · have hf := xip q hf
        obtain ⟨z15, e14, hf⟩ := xbd hf
        obtain ⟨v17, e16, hf⟩ := xbd hf
        obtain ⟨σ19, e18, hf⟩ := xbd hf
        have hm := hm.tr (xsI_same e18)
        have hf := xsj hf
        subst hf
        exact ⟨fun a' e => (by have h9 := Sum.inl.inj e; subst h9; exact hm), fun b e => xnc1 e⟩
      · have hf := xin q hf
        obtain ⟨σ15, e14, hf⟩ := xbd hf
        have hm := hm.tr (xsI_same e14)
        have hf := xsj hf
        subst hf
        exact ⟨fun a' e => (by have h9 := Sum.inl.inj e; subst h9; exact hm), fun b e => xnc1 e⟩
  cases y with
  | inl a' =>
    have h1 := hc a' rfl
    have hm := hy.1 a' rfl
    exact hm.tr (h1)
  | inr b =>
    have h1 := he b rfl
    subst h1
    exact hy.2 _ rfl
theorem s_X12_hill_l27 {G : XG} (C : XC G cX12_hill RX12 (some .int) 3 4 96) {r0 : Nat} {x1 : Int32} {a : Int32 × XS} {x : Int32 × XS} (hf : xloop (f_X12_hill_b27 r0 x1) a = some x) (hk : XEnd G (some (.int x.1)) x.2) : WW G 27 [(0, .ref (gB G + r0)), (1, .int x1), (2, .int a.1)] [] a.2 := by
  refine xloop_ind (P := fun a => WW G 27 [(0, .ref (gB G + r0)), (1, .int x1), (2, .int a.1)] [] a.2) (fun a y hf hc he => ?_) hf
  obtain ⟨x2, σ⟩ := a
  have hk : (∀ a' : Int32 × XS, y = .inl a' → WW G 27 [(0, .ref (gB G + r0)), (1, .int x1), (2, .int a'.1)] [] a'.2) ∧ (∀ b1 : Int32 × XS, y = .inr b1 → XEnd G (some (.int b1.1)) b1.2) := ⟨hc, fun b e => by have h9 := he b e; subst h9; exact hk⟩
  refine ww_iload_n (pc := 27) C 2 dX12_hill_27 rfl ?_
  refine ww_aload_n (pc := 28) C 0 dX12_hill_28 rfl ?_
  obtain ⟨_, e1, hf⟩ := xbd hf
  obtain ⟨v3, e2, hf⟩ := xbd hf
  refine ww_callVi (pc := 29) (as := []) (st := [.int x2]) C (k_X12_states (l := gl G) (E := gE G) (hb := gB G) (σ := σ) e2) rfl (by decide) xc_X12_270 q1555 qp141 (xck_spec e1) rfl (by decide) (xst4 (Nat.le_of_ble_eq_true rfl)) xsame.rf.le xsame.rf.lim dX12_hill_29 ?_
  refine ww_icmp_ge (pc := 32) (tgt := 74) C dX12_hill_32 (by decide) (fun q => ?_) (fun q => ?_)
  · have hf := xip q hf
    obtain ⟨b0, hg, e9⟩ := xmj hf
    subst e9
    have hf := hg
    have hk := hk.2 _ rfl
    refine ww_aload_n (pc := 74) C 0 dX12_hill_74 rfl ?_
    obtain ⟨_, e4, hf⟩ := xbd hf
    obtain ⟨σ6, e5, hf⟩ := xbd hf
    refine ww_callVv (pc := 75) (as := []) (st := []) C (k_X12_laysHills (l := gl G) (E := gE G) (hb := gB G) (σ := σ) e5) rfl (by decide) xc_X12_327 q1684 qp153 (xck_spec e4) rfl (by decide) (xst4 (Nat.le_of_ble_eq_true rfl)) (m_X12_laysHills e5).le (m_X12_laysHills e5).lim dX12_hill_75 ?_
    refine ww_aload_n (pc := 78) C 0 dX12_hill_78 rfl ?_
    obtain ⟨z8, e7, hf⟩ := xbd hf
    refine gf_X12_75 (pc := 79) C e7 dX12_hill_79 ?_
    refine ww_iload_n (pc := 82) C 1 dX12_hill_82 rfl ?_
    obtain ⟨v10, e9, hf⟩ := xbd hf
    refine ww_iald (pc := 83) C e9 dX12_hill_83 ?_
    have hf := xsj hf
    subst hf
    exact ww_iret (pc := 84) C hk dX12_hill_84
  · have hf := xin q hf
    refine ww_aload_n (pc := 35) C 0 dX12_hill_35 rfl ?_
    obtain ⟨z5, e4, hf⟩ := xbd hf
    refine gf_X12_75 (pc := 36) C e4 dX12_hill_36 ?_
    refine ww_iload_n (pc := 39) C 2 dX12_hill_39 rfl ?_
    refine ww_aload_n (pc := 40) C 0 dX12_hill_40 rfl ?_
    obtain ⟨z7, e6, hf⟩ := xbd hf
    refine gf_X12_57 (pc := 41) C e6 dX12_hill_41 ?_
    refine ww_iload_n (pc := 44) C 2 dX12_hill_44 rfl ?_
    obtain ⟨v9, e8, hf⟩ := xbd hf
    refine ww_iald (pc := 45) C e8 dX12_hill_45 ?_
    refine ww_aload_n (pc := 46) C 0 dX12_hill_46 rfl ?_
    obtain ⟨z11, e10, hf⟩ := xbd hf
    refine gf_X12_63 (pc := 47) C e10 dX12_hill_47 ?_
    refine ww_iconst (pc := 50) (v := (0 : Int32)) C dX12_hill_50 (by decide) ?_
    obtain ⟨v13, e12, hf⟩ := xbd hf
    refine ww_iald (pc := 51) C e12 dX12_hill_51 ?_
    refine ww_icmp_ne (pc := 52) (tgt := 64) C dX12_hill_52 (by decide) (fun q => ?_) (fun q => ?_)
    · have hf := xin q hf
      refine ww_ldcw (pc := 64) C q1568 dX12_hill_64 ?_
      obtain ⟨σ15, e14, hf⟩ := xbd hf
      refine ww_iast (pc := 67) C e14 dX12_hill_67 ?_
      refine ww_iinc (pc := 68) (v := x2 + (1 : Int32)) (lv' := [(2, .int (x2 + (1 : Int32))), (0, .ref (gB G + r0)), (1, .int x1)]) C 2 dX12_hill_68 rfl (congrArg (fun z => x2 + z) (show Int32.ofInt (1) = (1 : Int32) by decide)) (by decide) rfl ?_
      refine ww_goto (pc := 71) (tgt := 27) C dX12_hill_71 (by decide) ?_
      have hf := xsj hf
      subst hf
      refine ww_sub [1, 2, 0] rfl ?_
      exact hk.1 (x2 + (1 : Int32), σ15) rfl
    · have hf := xip q hf
      refine ww_aload_n (pc := 55) C 0 dX12_hill_55 rfl ?_
      obtain ⟨z15, e14, hf⟩ := xbd hf
      refine gf_X12_63 (pc := 56) C e14 dX12_hill_56 ?_
      refine ww_iconst (pc := 59) (v := (0 : Int32)) C dX12_hill_59 (by decide) ?_
      obtain ⟨v17, e16, hf⟩ := xbd hf
      refine ww_iald (pc := 60) C e16 dX12_hill_60 ?_
      refine ww_goto (pc := 61) (tgt := 67) C dX12_hill_61 (by decide) ?_
      obtain ⟨σ19, e18, hf⟩ := xbd hf
      refine ww_iast (pc := 67) C e18 dX12_hill_67 ?_
      refine ww_iinc (pc := 68) (v := x2 + (1 : Int32)) (lv' := [(2, .int (x2 + (1 : Int32))), (0, .ref (gB G + r0)), (1, .int x1)]) C 2 dX12_hill_68 rfl (congrArg (fun z => x2 + z) (show Int32.ofInt (1) = (1 : Int32) by decide)) (by decide) rfl ?_
      refine ww_goto (pc := 71) (tgt := 27) C dX12_hill_71 (by decide) ?_
      have hf := xsj hf
      subst hf
      refine ww_sub [1, 2, 0] rfl ?_
      exact hk.1 (x2 + (1 : Int32), σ19) rfl
theorem s_X12_hill_e {G : XG} (C : XC G cX12_hill RX12 (some .int) 3 4 96) {σ : XS} {r0 : Nat} {x1 : Int32} {x : Int32 × XS} (hf : f_X12_hill σ r0 x1 = some x) (hk : XEnd G (some (.int x.1)) x.2) : WW G 0 [(0, .ref (gB G + r0)), (1, .int x1)] [] σ := by
  refine ww_aload_n (pc := 0) C 0 dX12_hill_0 rfl ?_
  refine ww_iload_n (pc := 1) C 1 dX12_hill_1 rfl ?_
  obtain ⟨_, e1, hf⟩ := xbd hf
  obtain ⟨v3, e2, hf⟩ := xbd hf
  refine ww_callVi (pc := 2) (as := [.int x1]) (st := []) C (k_X12_isLawful (l := gl G) (E := gE G) (hb := gB G) (σ := σ) e2) rfl (by decide) xc_X12_281 q1559 qp142 (xck_spec e1) rfl (by decide) (xst4 (Nat.le_of_ble_eq_true rfl)) xsame.rf.le xsame.rf.lim dX12_hill_2 ?_
  refine ww_if_eq (pc := 5) (tgt := 17) C dX12_hill_5 (by decide) (fun q => ?_) (fun q => ?_)
  · have hf := xip q hf
    refine ww_ldcw (pc := 17) C q1597 dX12_hill_17 ?_
    have hf := xsj hf
    subst hf
    exact ww_iret (pc := 20) C hk dX12_hill_20
  · have hf := xin q hf
    refine ww_aload_n (pc := 8) C 0 dX12_hill_8 rfl ?_
    obtain ⟨_, e4, hf⟩ := xbd hf
    obtain ⟨v6, e5, hf⟩ := xbd hf
    refine ww_callVi (pc := 9) (as := []) (st := []) C (k_X12_sites (l := gl G) (E := gE G) (hb := gB G) (σ := σ) e5) rfl (by decide) xc_X12_193 q1496 qp136 (xck_spec e4) rfl (by decide) (xst4 (Nat.le_of_ble_eq_true rfl)) xsame.rf.le xsame.rf.lim dX12_hill_9 ?_
    refine ww_bipush (pc := 12) (v := (10 : Int32)) C dX12_hill_12 (by decide) ?_
    refine ww_icmp_le (pc := 14) (tgt := 21) C dX12_hill_14 (by decide) (fun q => ?_) (fun q => ?_)
    · have hf := xip q hf
      refine ww_aload_n (pc := 21) C 0 dX12_hill_21 rfl ?_
      obtain ⟨_, e7, hf⟩ := xbd hf
      obtain ⟨σ9, e8, hf⟩ := xbd hf
      refine ww_callVv (pc := 22) (as := []) (st := []) C (k_X12_knows (l := gl G) (E := gE G) (hb := gB G) (σ := σ) e8) rfl (by decide) xc_X12_261 q1551 qp140 (xck_spec e7) rfl (by decide) (xst4 (Nat.le_of_ble_eq_true rfl)) (m_X12_knows e8).le (m_X12_knows e8).lim dX12_hill_22 ?_
      refine ww_iconst (pc := 25) (v := (0 : Int32)) C dX12_hill_25 (by decide) ?_
      refine ww_istore_n (pc := 26) (lv' := [(2, .int (0 : Int32)), (0, .ref (gB G + r0)), (1, .int x1)]) C dX12_hill_26 (by decide) rfl ?_
      refine ww_sub [1, 2, 0] rfl ?_
      exact s_X12_hill_l27 C (a := ((0 : Int32), σ9)) hf hk
    · have hf := xin q hf
      refine ww_ldcw (pc := 17) C q1597 dX12_hill_17 ?_
      have hf := xsj hf
      subst hf
      exact ww_iret (pc := 20) C hk dX12_hill_20
theorem m_X12_hill {σ : XS} {r0 : Nat} {x1 : Int32} {x : Int32 × XS} (hf : f_X12_hill σ r0 x1 = some x) : xsame σ x.2 := by
  have hm := xsame.rf (σ := σ)
  obtain ⟨_, e1, hf⟩ := xbd hf
  obtain ⟨v3, e2, hf⟩ := xbd hf
  by_cases q : v3 = 0
  · have hf := xip q hf
    have hf := xsj hf
    subst hf
    exact hm
  · have hf := xin q hf
    obtain ⟨_, e4, hf⟩ := xbd hf
    obtain ⟨v6, e5, hf⟩ := xbd hf
    by_cases q : v6 ≤ (10 : Int32)
    · have hf := xip q hf
      obtain ⟨_, e7, hf⟩ := xbd hf
      obtain ⟨σ9, e8, hf⟩ := xbd hf
      have hm := hm.tr (m_X12_knows e8)
      exact hm.tr (m_X12_hill_l27 (a := ((0 : Int32), σ9)) hf)
    · have hf := xin q hf
      have hf := xsj hf
      subst hf
      exact hm
theorem k_X12_hill {l : Launch} {E : XD} {hb : Nat} {σ : XS} {r0 : Nat} {x1 : Int32} {x : Int32 × XS} (h : f_X12_hill σ r0 x1 = some x) : XM l yX12_hill cX12_hill 3 (some .int) 4 96 E hb [.ref (hb + r0), .int x1] σ (some (.int x.1)) x.2 := by
  refine xm_of (by decide) (Nat.le_of_ble_eq_true rfl) (m_X12_hill h).le (fun G hG C hl hQ => ?_)
  obtain ⟨rfl, rfl, rfl, hN⟩ := hG
  exact s_X12_hill_e C h hQ
noncomputable def f_X12_hold_b13 (r0 : Nat) (x1 : Int32) : Int32 × XS → Option ((Int32 × XS) ⊕ (Int32 × XS)) := fun a => match a with
  | (x2, σ) => if (66 : Int32) ≤ x2 then (((xgR σ r0 12 31).bind fun z2 => (xsI σ 22 z2 x1 (1 : Int32)).bind fun σ4 => some ((1 : Int32), σ4)).map .inr) else (xgR σ r0 12 30).bind fun z2 => (xgR σ r0 12 21).bind fun z4 => (xaI σ 20 z4 x2).bind fun v6 => (xsI σ 20 z2 (((66 : Int32) * x1) + x2) v6).bind fun σ8 => some (.inl (x2 + (1 : Int32), σ8))
noncomputable def f_X12_hold (σ : XS) (r0 : Nat) (x1 : Int32) : Option (Int32 × XS) := (f_X12_in x1 (0 : Int32) (2 : Int32)).bind fun v2 => if v2 = 0 then (some ((0 : Int32), σ)) else xloop (f_X12_hold_b13 r0 x1) ((0 : Int32), σ)
theorem m_X12_hold_l13 {r0 : Nat} {x1 : Int32} {a : Int32 × XS} {x : Int32 × XS} (hf : xloop (f_X12_hold_b13 r0 x1) a = some x) : xsame a.2 x.2 := by
  refine xloop_ind (P := fun a => xsame a.2 x.2) (fun a y hf hc he => ?_) hf
  obtain ⟨x2, σ⟩ := a
  have hy : (∀ a' : Int32 × XS, y = .inl a' → xsame σ a'.2) ∧ (∀ b1 : Int32 × XS, y = .inr b1 → xsame σ b1.2) := by
    have hm := xsame.rf (σ := σ)
    by_cases q : (66 : Int32) ≤ x2
    · have hf := xip q hf
      obtain ⟨b0, hg, e9⟩ := xmj hf
      subst e9
      have hf := hg
      refine ⟨fun a' e => xnc2 e, fun b e => ?_⟩
      have h9 := Sum.inr.inj e
      subst h9
      obtain ⟨z2, e1, hf⟩ := xbd hf
      obtain ⟨σ4, e3, hf⟩ := xbd hf
      have hm := hm.tr (xsI_same e3)
      have hf := xsj hf
      subst hf
      exact hm
    · have hf := xin q hf
      obtain ⟨z2, e1, hf⟩ := xbd hf
      obtain ⟨z4, e3, hf⟩ := xbd hf
      obtain ⟨v6, e5, hf⟩ := xbd hf
      obtain ⟨σ8, e7, hf⟩ := xbd hf
      have hm := hm.tr (xsI_same e7)
      have hf := xsj hf
      subst hf
      exact ⟨fun a' e => (by have h9 := Sum.inl.inj e; subst h9; exact hm), fun b e => xnc1 e⟩
  cases y with
  | inl a' =>
    have h1 := hc a' rfl
    have hm := hy.1 a' rfl
    exact hm.tr (h1)
  | inr b =>
    have h1 := he b rfl
    subst h1
    exact hy.2 _ rfl
theorem s_X12_hold_l13 {G : XG} (C : XC G cX12_hold RX12 (some .boolean) 3 1 22) {r0 : Nat} {x1 : Int32} {a : Int32 × XS} {x : Int32 × XS} (hf : xloop (f_X12_hold_b13 r0 x1) a = some x) (hk : XEnd G (some (.int x.1)) x.2) : WW G 13 [(0, .ref (gB G + r0)), (1, .int x1), (2, .int a.1)] [] a.2 := by
  refine xloop_ind (P := fun a => WW G 13 [(0, .ref (gB G + r0)), (1, .int x1), (2, .int a.1)] [] a.2) (fun a y hf hc he => ?_) hf
  obtain ⟨x2, σ⟩ := a
  have hk : (∀ a' : Int32 × XS, y = .inl a' → WW G 13 [(0, .ref (gB G + r0)), (1, .int x1), (2, .int a'.1)] [] a'.2) ∧ (∀ b1 : Int32 × XS, y = .inr b1 → XEnd G (some (.int b1.1)) b1.2) := ⟨hc, fun b e => by have h9 := he b e; subst h9; exact hk⟩
  refine ww_iload_n (pc := 13) C 2 dX12_hold_13 rfl ?_
  refine ww_bipush (pc := 14) (v := (66 : Int32)) C dX12_hold_14 (by decide) ?_
  refine ww_icmp_ge (pc := 16) (tgt := 42) C dX12_hold_16 (by decide) (fun q => ?_) (fun q => ?_)
  · have hf := xip q hf
    obtain ⟨b0, hg, e9⟩ := xmj hf
    subst e9
    have hf := hg
    have hk := hk.2 _ rfl
    refine ww_aload_n (pc := 42) C 0 dX12_hold_42 rfl ?_
    obtain ⟨z2, e1, hf⟩ := xbd hf
    refine gf_X12_52 (pc := 43) C e1 dX12_hold_43 ?_
    refine ww_iload_n (pc := 46) C 1 dX12_hold_46 rfl ?_
    refine ww_iconst (pc := 47) (v := (1 : Int32)) C dX12_hold_47 (by decide) ?_
    obtain ⟨σ4, e3, hf⟩ := xbd hf
    refine ww_zast (pc := 48) C rfl e3 dX12_hold_48 ?_
    refine ww_iconst (pc := 49) (v := (1 : Int32)) C dX12_hold_49 (by decide) ?_
    have hf := xsj hf
    subst hf
    exact ww_zret (pc := 50) C rfl hk dX12_hold_50
  · have hf := xin q hf
    refine ww_aload_n (pc := 19) C 0 dX12_hold_19 rfl ?_
    obtain ⟨z2, e1, hf⟩ := xbd hf
    refine gf_X12_49 (pc := 20) C e1 dX12_hold_20 ?_
    refine ww_bipush (pc := 23) (v := (66 : Int32)) C dX12_hold_23 (by decide) ?_
    refine ww_iload_n (pc := 25) C 1 dX12_hold_25 rfl ?_
    refine ww_imul (pc := 26) C dX12_hold_26 ?_
    refine ww_iload_n (pc := 27) C 2 dX12_hold_27 rfl ?_
    refine ww_iadd (pc := 28) C dX12_hold_28 ?_
    refine ww_aload_n (pc := 29) C 0 dX12_hold_29 rfl ?_
    obtain ⟨z4, e3, hf⟩ := xbd hf
    refine gf_X12_40 (pc := 30) C e3 dX12_hold_30 ?_
    refine ww_iload_n (pc := 33) C 2 dX12_hold_33 rfl ?_
    obtain ⟨v6, e5, hf⟩ := xbd hf
    refine ww_iald (pc := 34) C e5 dX12_hold_34 ?_
    obtain ⟨σ8, e7, hf⟩ := xbd hf
    refine ww_iast (pc := 35) C e7 dX12_hold_35 ?_
    refine ww_iinc (pc := 36) (v := x2 + (1 : Int32)) (lv' := [(2, .int (x2 + (1 : Int32))), (0, .ref (gB G + r0)), (1, .int x1)]) C 2 dX12_hold_36 rfl (congrArg (fun z => x2 + z) (show Int32.ofInt (1) = (1 : Int32) by decide)) (by decide) rfl ?_
    refine ww_goto (pc := 39) (tgt := 13) C dX12_hold_39 (by decide) ?_
    have hf := xsj hf
    subst hf
    refine ww_sub [1, 2, 0] rfl ?_
    exact hk.1 (x2 + (1 : Int32), σ8) rfl
theorem s_X12_hold_e {G : XG} (C : XC G cX12_hold RX12 (some .boolean) 3 1 22) {σ : XS} {r0 : Nat} {x1 : Int32} {x : Int32 × XS} (hf : f_X12_hold σ r0 x1 = some x) (hk : XEnd G (some (.int x.1)) x.2) : WW G 0 [(0, .ref (gB G + r0)), (1, .int x1)] [] σ := by
  refine ww_iload_n (pc := 0) C 1 dX12_hold_0 rfl ?_
  refine ww_iconst (pc := 1) (v := (0 : Int32)) C dX12_hold_1 (by decide) ?_
  refine ww_iconst (pc := 2) (v := (2 : Int32)) C dX12_hold_2 (by decide) ?_
  obtain ⟨v2, e1, hf⟩ := xbd hf
  refine ww_callSi (pc := 3) (as := [.int x1, .int (0 : Int32), .int (2 : Int32)]) (st := []) C (k_X12_in (l := gl G) (E := gE G) (hb := gB G) (σ := σ) e1) xc_X12_213 q1473 rfl (by decide) (xst4 (Nat.le_of_ble_eq_true rfl)) xsame.rf.le xsame.rf.lim dX12_hold_3 ?_
  refine ww_if_ne (pc := 6) (tgt := 11) C dX12_hold_6 (by decide) (fun q => ?_) (fun q => ?_)
  · have hf := xin q hf
    refine ww_iconst (pc := 11) (v := (0 : Int32)) C dX12_hold_11 (by decide) ?_
    refine ww_istore_n (pc := 12) (lv' := [(2, .int (0 : Int32)), (0, .ref (gB G + r0)), (1, .int x1)]) C dX12_hold_12 (by decide) rfl ?_
    refine ww_sub [1, 2, 0] rfl ?_
    exact s_X12_hold_l13 C (a := ((0 : Int32), σ)) hf hk
  · have hf := xip q hf
    refine ww_iconst (pc := 9) (v := (0 : Int32)) C dX12_hold_9 (by decide) ?_
    have hf := xsj hf
    subst hf
    exact ww_zret (pc := 10) C rfl hk dX12_hold_10
theorem m_X12_hold {σ : XS} {r0 : Nat} {x1 : Int32} {x : Int32 × XS} (hf : f_X12_hold σ r0 x1 = some x) : xsame σ x.2 := by
  have hm := xsame.rf (σ := σ)
  obtain ⟨v2, e1, hf⟩ := xbd hf
  by_cases q : v2 = 0
  · have hf := xip q hf
    have hf := xsj hf
    subst hf
    exact hm
  · have hf := xin q hf
    exact hm.tr (m_X12_hold_l13 (a := ((0 : Int32), σ)) hf)
theorem k_X12_hold {l : Launch} {E : XD} {hb : Nat} {σ : XS} {r0 : Nat} {x1 : Int32} {x : Int32 × XS} (h : f_X12_hold σ r0 x1 = some x) : XM l yX12_hold cX12_hold 3 (some .boolean) 1 22 E hb [.ref (hb + r0), .int x1] σ (some (.int x.1)) x.2 := by
  refine xm_of (by decide) (Nat.le_of_ble_eq_true rfl) (m_X12_hold h).le (fun G hG C hl hQ => ?_)
  obtain ⟨rfl, rfl, rfl, hN⟩ := hG
  exact s_X12_hold_e C h hQ
noncomputable def f_X12_letters (x0 : Int32) (x1 : Int32) (x2 : Int32) (x3 : Int32) (x4 : Int32) (x5 : Int32) (x6 : Int32) : Option Int64 := (f_X12_appends (0 : Int64) x0).bind fun v2 => (f_X12_appends v2 x1).bind fun v4 => (f_X12_appends v4 x2).bind fun v6 => (f_X12_appends v6 x3).bind fun v8 => (f_X12_appends v8 x4).bind fun v10 => (f_X12_appends v10 x5).bind fun v12 => (f_X12_appends v12 x6).bind fun v14 => some v14
theorem s_X12_letters_e {G : XG} (C : XC G cX12_letters RX12 (some .long) 7 1 22) {σ : XS} {x0 : Int32} {x1 : Int32} {x2 : Int32} {x3 : Int32} {x4 : Int32} {x5 : Int32} {x6 : Int32} {x : Int64} (hf : f_X12_letters x0 x1 x2 x3 x4 x5 x6 = some x) (hk : XEnd G (some (.long x)) σ) : WW G 0 [(0, .int x0), (1, .int x1), (2, .int x2), (3, .int x3), (4, .int x4), (5, .int x5), (6, .int x6)] [] σ := by
  refine ww_lconst (pc := 0) (v := (0 : Int64)) C dX12_letters_0 (by decide) ?_
  refine ww_iload_n (pc := 1) C 0 dX12_letters_1 rfl ?_
  obtain ⟨v2, e1, hf⟩ := xbd hf
  refine ww_callSj (pc := 2) (as := [.long (0 : Int64), .int x0]) (st := []) C (k_X12_appends (l := gl G) (E := gE G) (hb := gB G) (σ := σ) e1) xc_X12_106 q1263 rfl (by decide) (xst4 (Nat.le_of_ble_eq_true rfl)) xsame.rf.le xsame.rf.lim dX12_letters_2 ?_
  refine ww_iload_n (pc := 5) C 1 dX12_letters_5 rfl ?_
  obtain ⟨v4, e3, hf⟩ := xbd hf
  refine ww_callSj (pc := 6) (as := [.long v2, .int x1]) (st := []) C (k_X12_appends (l := gl G) (E := gE G) (hb := gB G) (σ := σ) e3) xc_X12_106 q1263 rfl (by decide) (xst4 (Nat.le_of_ble_eq_true rfl)) xsame.rf.le xsame.rf.lim dX12_letters_6 ?_
  refine ww_iload_n (pc := 9) C 2 dX12_letters_9 rfl ?_
  obtain ⟨v6, e5, hf⟩ := xbd hf
  refine ww_callSj (pc := 10) (as := [.long v4, .int x2]) (st := []) C (k_X12_appends (l := gl G) (E := gE G) (hb := gB G) (σ := σ) e5) xc_X12_106 q1263 rfl (by decide) (xst4 (Nat.le_of_ble_eq_true rfl)) xsame.rf.le xsame.rf.lim dX12_letters_10 ?_
  refine ww_iload_n (pc := 13) C 3 dX12_letters_13 rfl ?_
  obtain ⟨v8, e7, hf⟩ := xbd hf
  refine ww_callSj (pc := 14) (as := [.long v6, .int x3]) (st := []) C (k_X12_appends (l := gl G) (E := gE G) (hb := gB G) (σ := σ) e7) xc_X12_106 q1263 rfl (by decide) (xst4 (Nat.le_of_ble_eq_true rfl)) xsame.rf.le xsame.rf.lim dX12_letters_14 ?_
  refine ww_iload (pc := 17) C 4 dX12_letters_17 rfl ?_
  obtain ⟨v10, e9, hf⟩ := xbd hf
  refine ww_callSj (pc := 19) (as := [.long v8, .int x4]) (st := []) C (k_X12_appends (l := gl G) (E := gE G) (hb := gB G) (σ := σ) e9) xc_X12_106 q1263 rfl (by decide) (xst4 (Nat.le_of_ble_eq_true rfl)) xsame.rf.le xsame.rf.lim dX12_letters_19 ?_
  refine ww_iload (pc := 22) C 5 dX12_letters_22 rfl ?_
  obtain ⟨v12, e11, hf⟩ := xbd hf
  refine ww_callSj (pc := 24) (as := [.long v10, .int x5]) (st := []) C (k_X12_appends (l := gl G) (E := gE G) (hb := gB G) (σ := σ) e11) xc_X12_106 q1263 rfl (by decide) (xst4 (Nat.le_of_ble_eq_true rfl)) xsame.rf.le xsame.rf.lim dX12_letters_24 ?_
  refine ww_iload (pc := 27) C 6 dX12_letters_27 rfl ?_
  obtain ⟨v14, e13, hf⟩ := xbd hf
  refine ww_callSj (pc := 29) (as := [.long v12, .int x6]) (st := []) C (k_X12_appends (l := gl G) (E := gE G) (hb := gB G) (σ := σ) e13) xc_X12_106 q1263 rfl (by decide) (xst4 (Nat.le_of_ble_eq_true rfl)) xsame.rf.le xsame.rf.lim dX12_letters_29 ?_
  have hf := xsj hf
  subst hf
  exact ww_lret (pc := 32) C hk dX12_letters_32
theorem k_X12_letters {l : Launch} {E : XD} {hb : Nat} {σ : XS} {x0 : Int32} {x1 : Int32} {x2 : Int32} {x3 : Int32} {x4 : Int32} {x5 : Int32} {x6 : Int32} {x : Int64} (h : f_X12_letters x0 x1 x2 x3 x4 x5 x6 = some x) : XM l yX12_letters cX12_letters 7 (some .long) 1 22 E hb [.int x0, .int x1, .int x2, .int x3, .int x4, .int x5, .int x6] σ (some (.long x)) σ := by
  refine xm_of (by decide) (Nat.le_of_ble_eq_true rfl) ⟨Nat.le_refl _, Nat.le_refl _⟩ (fun G hG C hl hQ => ?_)
  obtain ⟨rfl, rfl, rfl, hN⟩ := hG
  exact s_X12_letters_e C h hQ
noncomputable def f_X12_init_j206 (σ : XS) (r0 : Nat) (t0 : Nat) (t1 : Nat) : Option XS := (xnz t1).bind fun _ => (xpR σ t0 12 44 t1).bind fun σ3 => (xgR σ3 r0 12 9).bind fun z5 => (f_X12_letters (115 : Int32) (116 : Int32) (114 : Int32) (105 : Int32) (112 : Int32) (0 : Int32) (0 : Int32)).bind fun v7 => (xsL σ3 z5 (0 : Int32) v7).bind fun σ9 => (xgR σ9 r0 12 9).bind fun z11 => (f_X12_letters (97 : Int32) (99 : Int32) (114 : Int32) (111 : Int32) (115 : Int32) (115 : Int32) (0 : Int32)).bind fun v13 => (xsL σ9 z11 (1 : Int32) v13).bind fun σ15 => (xgR σ15 r0 12 9).bind fun z17 => (f_X12_letters (97 : Int32) (108 : Int32) (111 : Int32) (110 : Int32) (103 : Int32) (0 : Int32) (0 : Int32)).bind fun v19 => (xsL σ15 z17 (2 : Int32) v19).bind fun σ21 => (xgR σ21 r0 12 9).bind fun z23 => (f_X12_letters (102 : Int32) (105 : Int32) (101 : Int32) (108 : Int32) (100 : Int32) (0 : Int32) (0 : Int32)).bind fun v25 => (xsL σ21 z23 (3 : Int32) v25).bind fun σ27 => (xgR σ27 r0 12 9).bind fun z29 => (f_X12_letters (114 : Int32) (105 : Int32) (110 : Int32) (103 : Int32) (0 : Int32) (0 : Int32) (0 : Int32)).bind fun v31 => (xsL σ27 z29 (4 : Int32) v31).bind fun σ33 => (xgR σ33 r0 12 9).bind fun z35 => (f_X12_letters (116 : Int32) (105 : Int32) (101 : Int32) (0 : Int32) (0 : Int32) (0 : Int32) (0 : Int32)).bind fun v37 => (xsL σ33 z35 (5 : Int32) v37).bind fun σ39 => (xgR σ39 r0 12 9).bind fun z41 => (f_X12_letters (112 : Int32) (117 : Int32) (108 : Int32) (108 : Int32) (0 : Int32) (0 : Int32) (0 : Int32)).bind fun v43 => (xsL σ39 z41 (6 : Int32) v43).bind fun σ45 => (xgR σ45 r0 12 9).bind fun z47 => (f_X12_letters (112 : Int32) (105 : Int32) (110 : Int32) (0 : Int32) (0 : Int32) (0 : Int32) (0 : Int32)).bind fun v49 => (xsL σ45 z47 (7 : Int32) v49).bind fun σ51 => (xgR σ51 r0 12 9).bind fun z53 => (f_X12_letters (117 : Int32) (112 : Int32) (0 : Int32) (0 : Int32) (0 : Int32) (0 : Int32) (0 : Int32)).bind fun v55 => (xsL σ51 z53 (8 : Int32) v55).bind fun σ57 => (xgR σ57 r0 12 9).bind fun z59 => (f_X12_letters (100 : Int32) (111 : Int32) (119 : Int32) (110 : Int32) (0 : Int32) (0 : Int32) (0 : Int32)).bind fun v61 => (xsL σ57 z59 (9 : Int32) v61).bind fun σ63 => (xgR σ63 r0 12 9).bind fun z65 => (f_X12_letters (115 : Int32) (101 : Int32) (101 : Int32) (100 : Int32) (0 : Int32) (0 : Int32) (0 : Int32)).bind fun v67 => (xsL σ63 z65 (10 : Int32) v67).bind fun σ69 => some σ69
noncomputable def f_X12_init_j197 (σ : XS) (r0 : Nat) (t0 : Nat) (t1 : Nat) : Option XS := (xnz t1).bind fun _ => (xpR σ t0 12 43 t1).bind fun σ3 => (xnA σ3 20 (256 : Int32)).bind fun (z5, σ6) => f_X12_init_j206 σ6 r0 r0 z5
noncomputable def f_X12_init_j188 (σ : XS) (r0 : Nat) (t0 : Nat) (t1 : Nat) : Option XS := (xnz t1).bind fun _ => (xpR σ t0 12 42 t1).bind fun σ3 => (xnA σ3 23 (1024 : Int32)).bind fun (z5, σ6) => f_X12_init_j197 σ6 r0 r0 z5
noncomputable def f_X12_init_j179 (σ : XS) (r0 : Nat) (t0 : Nat) (t1 : Nat) : Option XS := (xnz t1).bind fun _ => (xpR σ t0 12 41 t1).bind fun σ3 => (xnA σ3 20 (1024 : Int32)).bind fun (z5, σ6) => f_X12_init_j188 σ6 r0 r0 z5
noncomputable def f_X12_init_j170 (σ : XS) (r0 : Nat) (t0 : Nat) (t1 : Nat) : Option XS := (xnz t1).bind fun _ => (xpR σ t0 12 40 t1).bind fun σ3 => (xnA σ3 22 (1024 : Int32)).bind fun (z5, σ6) => f_X12_init_j179 σ6 r0 r0 z5
noncomputable def f_X12_init_j161 (σ : XS) (r0 : Nat) (t0 : Nat) (t1 : Nat) : Option XS := (xnz t1).bind fun _ => (xpR σ t0 12 39 t1).bind fun σ3 => (xnA σ3 20 (1024 : Int32)).bind fun (z5, σ6) => f_X12_init_j170 σ6 r0 r0 z5
noncomputable def f_X12_init_j152 (σ : XS) (r0 : Nat) (t0 : Nat) (t1 : Nat) : Option XS := (xnz t1).bind fun _ => (xpR σ t0 12 38 t1).bind fun σ3 => (xnA σ3 23 (601 : Int32)).bind fun (z5, σ6) => f_X12_init_j161 σ6 r0 r0 z5
noncomputable def f_X12_init_j143 (σ : XS) (r0 : Nat) (t0 : Nat) (t1 : Nat) : Option XS := (xnz t1).bind fun _ => (xpR σ t0 12 37 t1).bind fun σ3 => (xnA σ3 20 (301 : Int32)).bind fun (z5, σ6) => f_X12_init_j152 σ6 r0 r0 z5
noncomputable def f_X12_init_j135 (σ : XS) (r0 : Nat) (t0 : Nat) (t1 : Nat) : Option XS := (xnz t1).bind fun _ => (xpR σ t0 12 36 t1).bind fun σ3 => (xnA σ3 20 (66 : Int32)).bind fun (z5, σ6) => f_X12_init_j143 σ6 r0 r0 z5
noncomputable def f_X12_init_j126 (σ : XS) (r0 : Nat) (t0 : Nat) (t1 : Nat) : Option XS := (xnz t1).bind fun _ => (xpR σ t0 12 34 t1).bind fun σ3 => (xnA σ3 20 (301 : Int32)).bind fun (z5, σ6) => f_X12_init_j135 σ6 r0 r0 z5
noncomputable def f_X12_init_j117 (σ : XS) (r0 : Nat) (t0 : Nat) (t1 : Nat) : Option XS := (xnz t1).bind fun _ => (xpR σ t0 12 33 t1).bind fun σ3 => (xnA σ3 20 (301 : Int32)).bind fun (z5, σ6) => f_X12_init_j126 σ6 r0 r0 z5
noncomputable def f_X12_init_j109 (σ : XS) (r0 : Nat) (t0 : Nat) (t1 : Nat) : Option XS := (xnz t1).bind fun _ => (xpR σ t0 12 31 t1).bind fun σ3 => (xnA σ3 20 (65536 : Int32)).bind fun (z5, σ6) => f_X12_init_j117 σ6 r0 r0 z5
noncomputable def f_X12_init_j102 (σ : XS) (r0 : Nat) (t0 : Nat) (t1 : Nat) : Option XS := (xnz t1).bind fun _ => (xpR σ t0 12 30 t1).bind fun σ3 => (xnA σ3 22 (3 : Int32)).bind fun (z5, σ6) => f_X12_init_j109 σ6 r0 r0 z5
noncomputable def f_X12_init_j93 (σ : XS) (r0 : Nat) (t0 : Nat) (t1 : Nat) : Option XS := (xnz t1).bind fun _ => (xpR σ t0 12 27 t1).bind fun σ3 => (xnA σ3 20 (198 : Int32)).bind fun (z5, σ6) => f_X12_init_j102 σ6 r0 r0 z5
noncomputable def f_X12_init_j84 (σ : XS) (r0 : Nat) (t0 : Nat) (t1 : Nat) : Option XS := (xnz t1).bind fun _ => (xpR σ t0 12 26 t1).bind fun σ3 => (xnA σ3 20 (2640 : Int32)).bind fun (z5, σ6) => f_X12_init_j93 σ6 r0 r0 z5
noncomputable def f_X12_init_j76 (σ : XS) (r0 : Nat) (t0 : Nat) (t1 : Nat) : Option XS := (xnz t1).bind fun _ => (xpR σ t0 12 21 t1).bind fun σ3 => (xnA σ3 20 (66 : Int32)).bind fun (z5, σ6) => f_X12_init_j84 σ6 r0 r0 z5
noncomputable def f_X12_init_j63 (σ : XS) (r0 : Nat) (t0 : Nat) (t1 : Nat) : Option XS := (xnz t1).bind fun _ => (xpR σ t0 12 9 t1).bind fun σ3 => (xpI σ3 r0 12 16 (-1 : Int32)).bind fun σ5 => (xnA σ5 20 (66 : Int32)).bind fun (z7, σ8) => f_X12_init_j76 σ8 r0 r0 z7
noncomputable def f_X12_init_j55 (σ : XS) (r0 : Nat) (t0 : Nat) (t1 : Nat) : Option XS := (xnz t1).bind fun _ => (xpR σ t0 12 8 t1).bind fun σ3 => (xnA σ3 23 (11 : Int32)).bind fun (z5, σ6) => f_X12_init_j63 σ6 r0 r0 z5
noncomputable def f_X12_init_j46 (σ : XS) (r0 : Nat) (t0 : Nat) (t1 : Nat) : Option XS := (xnz t1).bind fun _ => (xpR σ t0 12 7 t1).bind fun σ3 => (xnA σ3 23 (403 : Int32)).bind fun (z5, σ6) => f_X12_init_j55 σ6 r0 r0 z5
noncomputable def f_X12_init_j37 (σ : XS) (r0 : Nat) (t0 : Nat) (t1 : Nat) : Option XS := (xnz t1).bind fun _ => (xpR σ t0 12 6 t1).bind fun σ3 => (xnA σ3 20 (403 : Int32)).bind fun (z5, σ6) => f_X12_init_j46 σ6 r0 r0 z5
noncomputable def f_X12_init_j28 (σ : XS) (r0 : Nat) (t0 : Nat) (t1 : Nat) : Option XS := (xnz t1).bind fun _ => (xpR σ t0 12 5 t1).bind fun σ3 => (xnA σ3 20 (403 : Int32)).bind fun (z5, σ6) => f_X12_init_j37 σ6 r0 r0 z5
noncomputable def f_X12_init_j19 (σ : XS) (r0 : Nat) (t0 : Nat) (t1 : Nat) : Option XS := (xnz t1).bind fun _ => (xpR σ t0 12 3 t1).bind fun σ3 => (xnA σ3 20 (403 : Int32)).bind fun (z5, σ6) => f_X12_init_j28 σ6 r0 r0 z5
noncomputable def f_X12_init_j10 (σ : XS) (r0 : Nat) (t0 : Nat) (t1 : Nat) : Option XS := (xnz t1).bind fun _ => (xpR σ t0 12 1 t1).bind fun σ3 => (xnA σ3 21 (2000 : Int32)).bind fun (z5, σ6) => f_X12_init_j19 σ6 r0 r0 z5
noncomputable def f_X12_init (σ : XS) (r0 : Nat) : Option XS := (xnA σ 21 (2000 : Int32)).bind fun (z2, σ3) => f_X12_init_j10 σ3 r0 r0 z2
theorem s_X12_init_j206 {G : XG} (C : XC G cX12_init RX12 none 1 2 48) (hN : (gh G).name = "<init>") {σ : XS} {r0 : Nat} {t0 : Nat} {t1 : Nat} {x : XS} (hf : f_X12_init_j206 σ r0 t0 t1 = some x) (hk : XEnd G none x ∧ XUp G x) : WW G 206 [(0, .ref (gB G + r0))] [.ref (gB G + t1), .ref (gB G + t0)] σ := by
  obtain ⟨_, e1, hf⟩ := xbd hf
  obtain ⟨σ3, e2, hf⟩ := xbd hf
  refine pf_X12_87 (pc := 206) C hN (xnz_spec e1) e2 dX12_init_206 ?_
  refine ww_aload_n (pc := 209) C 0 dX12_init_209 rfl ?_
  obtain ⟨z5, e4, hf⟩ := xbd hf
  refine gf_X12_34 (pc := 210) C e4 dX12_init_210 ?_
  refine ww_iconst (pc := 213) (v := (0 : Int32)) C dX12_init_213 (by decide) ?_
  refine ww_bipush (pc := 214) (v := (115 : Int32)) C dX12_init_214 (by decide) ?_
  refine ww_bipush (pc := 216) (v := (116 : Int32)) C dX12_init_216 (by decide) ?_
  refine ww_bipush (pc := 218) (v := (114 : Int32)) C dX12_init_218 (by decide) ?_
  refine ww_bipush (pc := 220) (v := (105 : Int32)) C dX12_init_220 (by decide) ?_
  refine ww_bipush (pc := 222) (v := (112 : Int32)) C dX12_init_222 (by decide) ?_
  refine ww_iconst (pc := 224) (v := (0 : Int32)) C dX12_init_224 (by decide) ?_
  refine ww_iconst (pc := 225) (v := (0 : Int32)) C dX12_init_225 (by decide) ?_
  obtain ⟨v7, e6, hf⟩ := xbd hf
  refine ww_callSj (pc := 226) (as := [.int (115 : Int32), .int (116 : Int32), .int (114 : Int32), .int (105 : Int32), .int (112 : Int32), .int (0 : Int32), .int (0 : Int32)]) (st := [.int (0 : Int32), .ref (gB G + z5)]) C (k_X12_letters (l := gl G) (E := gE G) (hb := gB G) (σ := σ3) e6) xc_X12_90 q1260 rfl (by decide) (xst4 (Nat.le_of_ble_eq_true rfl)) xsame.rf.le xsame.rf.lim dX12_init_226 ?_
  obtain ⟨σ9, e8, hf⟩ := xbd hf
  refine ww_last (pc := 229) C e8 dX12_init_229 ?_
  refine ww_aload_n (pc := 230) C 0 dX12_init_230 rfl ?_
  obtain ⟨z11, e10, hf⟩ := xbd hf
  refine gf_X12_34 (pc := 231) C e10 dX12_init_231 ?_
  refine ww_iconst (pc := 234) (v := (1 : Int32)) C dX12_init_234 (by decide) ?_
  refine ww_bipush (pc := 235) (v := (97 : Int32)) C dX12_init_235 (by decide) ?_
  refine ww_bipush (pc := 237) (v := (99 : Int32)) C dX12_init_237 (by decide) ?_
  refine ww_bipush (pc := 239) (v := (114 : Int32)) C dX12_init_239 (by decide) ?_
  refine ww_bipush (pc := 241) (v := (111 : Int32)) C dX12_init_241 (by decide) ?_
  refine ww_bipush (pc := 243) (v := (115 : Int32)) C dX12_init_243 (by decide) ?_
  refine ww_bipush (pc := 245) (v := (115 : Int32)) C dX12_init_245 (by decide) ?_
  refine ww_iconst (pc := 247) (v := (0 : Int32)) C dX12_init_247 (by decide) ?_
  obtain ⟨v13, e12, hf⟩ := xbd hf
  refine ww_callSj (pc := 248) (as := [.int (97 : Int32), .int (99 : Int32), .int (114 : Int32), .int (111 : Int32), .int (115 : Int32), .int (115 : Int32), .int (0 : Int32)]) (st := [.int (1 : Int32), .ref (gB G + z11)]) C (k_X12_letters (l := gl G) (E := gE G) (hb := gB G) (σ := σ9) e12) xc_X12_90 q1260 rfl (by decide) (xst4 (Nat.le_of_ble_eq_true rfl)) xsame.rf.le xsame.rf.lim dX12_init_248 ?_
  obtain ⟨σ15, e14, hf⟩ := xbd hf
  refine ww_last (pc := 251) C e14 dX12_init_251 ?_
  refine ww_aload_n (pc := 252) C 0 dX12_init_252 rfl ?_
  obtain ⟨z17, e16, hf⟩ := xbd hf
  refine gf_X12_34 (pc := 253) C e16 dX12_init_253 ?_
  refine ww_iconst (pc := 256) (v := (2 : Int32)) C dX12_init_256 (by decide) ?_
  refine ww_bipush (pc := 257) (v := (97 : Int32)) C dX12_init_257 (by decide) ?_
  refine ww_bipush (pc := 259) (v := (108 : Int32)) C dX12_init_259 (by decide) ?_
  refine ww_bipush (pc := 261) (v := (111 : Int32)) C dX12_init_261 (by decide) ?_
  refine ww_bipush (pc := 263) (v := (110 : Int32)) C dX12_init_263 (by decide) ?_
  refine ww_bipush (pc := 265) (v := (103 : Int32)) C dX12_init_265 (by decide) ?_
  refine ww_iconst (pc := 267) (v := (0 : Int32)) C dX12_init_267 (by decide) ?_
  refine ww_iconst (pc := 268) (v := (0 : Int32)) C dX12_init_268 (by decide) ?_
  obtain ⟨v19, e18, hf⟩ := xbd hf
  refine ww_callSj (pc := 269) (as := [.int (97 : Int32), .int (108 : Int32), .int (111 : Int32), .int (110 : Int32), .int (103 : Int32), .int (0 : Int32), .int (0 : Int32)]) (st := [.int (2 : Int32), .ref (gB G + z17)]) C (k_X12_letters (l := gl G) (E := gE G) (hb := gB G) (σ := σ15) e18) xc_X12_90 q1260 rfl (by decide) (xst4 (Nat.le_of_ble_eq_true rfl)) xsame.rf.le xsame.rf.lim dX12_init_269 ?_
  obtain ⟨σ21, e20, hf⟩ := xbd hf
  refine ww_last (pc := 272) C e20 dX12_init_272 ?_
  refine ww_aload_n (pc := 273) C 0 dX12_init_273 rfl ?_
  obtain ⟨z23, e22, hf⟩ := xbd hf
  refine gf_X12_34 (pc := 274) C e22 dX12_init_274 ?_
  refine ww_iconst (pc := 277) (v := (3 : Int32)) C dX12_init_277 (by decide) ?_
  refine ww_bipush (pc := 278) (v := (102 : Int32)) C dX12_init_278 (by decide) ?_
  refine ww_bipush (pc := 280) (v := (105 : Int32)) C dX12_init_280 (by decide) ?_
  refine ww_bipush (pc := 282) (v := (101 : Int32)) C dX12_init_282 (by decide) ?_
  refine ww_bipush (pc := 284) (v := (108 : Int32)) C dX12_init_284 (by decide) ?_
  refine ww_bipush (pc := 286) (v := (100 : Int32)) C dX12_init_286 (by decide) ?_
  refine ww_iconst (pc := 288) (v := (0 : Int32)) C dX12_init_288 (by decide) ?_
  refine ww_iconst (pc := 289) (v := (0 : Int32)) C dX12_init_289 (by decide) ?_
  obtain ⟨v25, e24, hf⟩ := xbd hf
  refine ww_callSj (pc := 290) (as := [.int (102 : Int32), .int (105 : Int32), .int (101 : Int32), .int (108 : Int32), .int (100 : Int32), .int (0 : Int32), .int (0 : Int32)]) (st := [.int (3 : Int32), .ref (gB G + z23)]) C (k_X12_letters (l := gl G) (E := gE G) (hb := gB G) (σ := σ21) e24) xc_X12_90 q1260 rfl (by decide) (xst4 (Nat.le_of_ble_eq_true rfl)) xsame.rf.le xsame.rf.lim dX12_init_290 ?_
  obtain ⟨σ27, e26, hf⟩ := xbd hf
  refine ww_last (pc := 293) C e26 dX12_init_293 ?_
  refine ww_aload_n (pc := 294) C 0 dX12_init_294 rfl ?_
  obtain ⟨z29, e28, hf⟩ := xbd hf
  refine gf_X12_34 (pc := 295) C e28 dX12_init_295 ?_
  refine ww_iconst (pc := 298) (v := (4 : Int32)) C dX12_init_298 (by decide) ?_
  refine ww_bipush (pc := 299) (v := (114 : Int32)) C dX12_init_299 (by decide) ?_
  refine ww_bipush (pc := 301) (v := (105 : Int32)) C dX12_init_301 (by decide) ?_
  refine ww_bipush (pc := 303) (v := (110 : Int32)) C dX12_init_303 (by decide) ?_
  refine ww_bipush (pc := 305) (v := (103 : Int32)) C dX12_init_305 (by decide) ?_
  refine ww_iconst (pc := 307) (v := (0 : Int32)) C dX12_init_307 (by decide) ?_
  refine ww_iconst (pc := 308) (v := (0 : Int32)) C dX12_init_308 (by decide) ?_
  refine ww_iconst (pc := 309) (v := (0 : Int32)) C dX12_init_309 (by decide) ?_
  obtain ⟨v31, e30, hf⟩ := xbd hf
  refine ww_callSj (pc := 310) (as := [.int (114 : Int32), .int (105 : Int32), .int (110 : Int32), .int (103 : Int32), .int (0 : Int32), .int (0 : Int32), .int (0 : Int32)]) (st := [.int (4 : Int32), .ref (gB G + z29)]) C (k_X12_letters (l := gl G) (E := gE G) (hb := gB G) (σ := σ27) e30) xc_X12_90 q1260 rfl (by decide) (xst4 (Nat.le_of_ble_eq_true rfl)) xsame.rf.le xsame.rf.lim dX12_init_310 ?_
  obtain ⟨σ33, e32, hf⟩ := xbd hf
  refine ww_last (pc := 313) C e32 dX12_init_313 ?_
  refine ww_aload_n (pc := 314) C 0 dX12_init_314 rfl ?_
  obtain ⟨z35, e34, hf⟩ := xbd hf
  refine gf_X12_34 (pc := 315) C e34 dX12_init_315 ?_
  refine ww_iconst (pc := 318) (v := (5 : Int32)) C dX12_init_318 (by decide) ?_
  refine ww_bipush (pc := 319) (v := (116 : Int32)) C dX12_init_319 (by decide) ?_
  refine ww_bipush (pc := 321) (v := (105 : Int32)) C dX12_init_321 (by decide) ?_
  refine ww_bipush (pc := 323) (v := (101 : Int32)) C dX12_init_323 (by decide) ?_
  refine ww_iconst (pc := 325) (v := (0 : Int32)) C dX12_init_325 (by decide) ?_
  refine ww_iconst (pc := 326) (v := (0 : Int32)) C dX12_init_326 (by decide) ?_
  refine ww_iconst (pc := 327) (v := (0 : Int32)) C dX12_init_327 (by decide) ?_
  refine ww_iconst (pc := 328) (v := (0 : Int32)) C dX12_init_328 (by decide) ?_
  obtain ⟨v37, e36, hf⟩ := xbd hf
  refine ww_callSj (pc := 329) (as := [.int (116 : Int32), .int (105 : Int32), .int (101 : Int32), .int (0 : Int32), .int (0 : Int32), .int (0 : Int32), .int (0 : Int32)]) (st := [.int (5 : Int32), .ref (gB G + z35)]) C (k_X12_letters (l := gl G) (E := gE G) (hb := gB G) (σ := σ33) e36) xc_X12_90 q1260 rfl (by decide) (xst4 (Nat.le_of_ble_eq_true rfl)) xsame.rf.le xsame.rf.lim dX12_init_329 ?_
  obtain ⟨σ39, e38, hf⟩ := xbd hf
  refine ww_last (pc := 332) C e38 dX12_init_332 ?_
  refine ww_aload_n (pc := 333) C 0 dX12_init_333 rfl ?_
  obtain ⟨z41, e40, hf⟩ := xbd hf
  refine gf_X12_34 (pc := 334) C e40 dX12_init_334 ?_
  refine ww_bipush (pc := 337) (v := (6 : Int32)) C dX12_init_337 (by decide) ?_
  refine ww_bipush (pc := 339) (v := (112 : Int32)) C dX12_init_339 (by decide) ?_
  refine ww_bipush (pc := 341) (v := (117 : Int32)) C dX12_init_341 (by decide) ?_
  refine ww_bipush (pc := 343) (v := (108 : Int32)) C dX12_init_343 (by decide) ?_
  refine ww_bipush (pc := 345) (v := (108 : Int32)) C dX12_init_345 (by decide) ?_
  refine ww_iconst (pc := 347) (v := (0 : Int32)) C dX12_init_347 (by decide) ?_
  refine ww_iconst (pc := 348) (v := (0 : Int32)) C dX12_init_348 (by decide) ?_
  refine ww_iconst (pc := 349) (v := (0 : Int32)) C dX12_init_349 (by decide) ?_
  obtain ⟨v43, e42, hf⟩ := xbd hf
  refine ww_callSj (pc := 350) (as := [.int (112 : Int32), .int (117 : Int32), .int (108 : Int32), .int (108 : Int32), .int (0 : Int32), .int (0 : Int32), .int (0 : Int32)]) (st := [.int (6 : Int32), .ref (gB G + z41)]) C (k_X12_letters (l := gl G) (E := gE G) (hb := gB G) (σ := σ39) e42) xc_X12_90 q1260 rfl (by decide) (xst4 (Nat.le_of_ble_eq_true rfl)) xsame.rf.le xsame.rf.lim dX12_init_350 ?_
  obtain ⟨σ45, e44, hf⟩ := xbd hf
  refine ww_last (pc := 353) C e44 dX12_init_353 ?_
  refine ww_aload_n (pc := 354) C 0 dX12_init_354 rfl ?_
  obtain ⟨z47, e46, hf⟩ := xbd hf
  refine gf_X12_34 (pc := 355) C e46 dX12_init_355 ?_
  refine ww_bipush (pc := 358) (v := (7 : Int32)) C dX12_init_358 (by decide) ?_
  refine ww_bipush (pc := 360) (v := (112 : Int32)) C dX12_init_360 (by decide) ?_
  refine ww_bipush (pc := 362) (v := (105 : Int32)) C dX12_init_362 (by decide) ?_
  refine ww_bipush (pc := 364) (v := (110 : Int32)) C dX12_init_364 (by decide) ?_
  refine ww_iconst (pc := 366) (v := (0 : Int32)) C dX12_init_366 (by decide) ?_
  refine ww_iconst (pc := 367) (v := (0 : Int32)) C dX12_init_367 (by decide) ?_
  refine ww_iconst (pc := 368) (v := (0 : Int32)) C dX12_init_368 (by decide) ?_
  refine ww_iconst (pc := 369) (v := (0 : Int32)) C dX12_init_369 (by decide) ?_
  obtain ⟨v49, e48, hf⟩ := xbd hf
  refine ww_callSj (pc := 370) (as := [.int (112 : Int32), .int (105 : Int32), .int (110 : Int32), .int (0 : Int32), .int (0 : Int32), .int (0 : Int32), .int (0 : Int32)]) (st := [.int (7 : Int32), .ref (gB G + z47)]) C (k_X12_letters (l := gl G) (E := gE G) (hb := gB G) (σ := σ45) e48) xc_X12_90 q1260 rfl (by decide) (xst4 (Nat.le_of_ble_eq_true rfl)) xsame.rf.le xsame.rf.lim dX12_init_370 ?_
  obtain ⟨σ51, e50, hf⟩ := xbd hf
  refine ww_last (pc := 373) C e50 dX12_init_373 ?_
  refine ww_aload_n (pc := 374) C 0 dX12_init_374 rfl ?_
  obtain ⟨z53, e52, hf⟩ := xbd hf
  refine gf_X12_34 (pc := 375) C e52 dX12_init_375 ?_
  refine ww_bipush (pc := 378) (v := (8 : Int32)) C dX12_init_378 (by decide) ?_
  refine ww_bipush (pc := 380) (v := (117 : Int32)) C dX12_init_380 (by decide) ?_
  refine ww_bipush (pc := 382) (v := (112 : Int32)) C dX12_init_382 (by decide) ?_
  refine ww_iconst (pc := 384) (v := (0 : Int32)) C dX12_init_384 (by decide) ?_
  refine ww_iconst (pc := 385) (v := (0 : Int32)) C dX12_init_385 (by decide) ?_
  refine ww_iconst (pc := 386) (v := (0 : Int32)) C dX12_init_386 (by decide) ?_
  refine ww_iconst (pc := 387) (v := (0 : Int32)) C dX12_init_387 (by decide) ?_
  refine ww_iconst (pc := 388) (v := (0 : Int32)) C dX12_init_388 (by decide) ?_
  obtain ⟨v55, e54, hf⟩ := xbd hf
  refine ww_callSj (pc := 389) (as := [.int (117 : Int32), .int (112 : Int32), .int (0 : Int32), .int (0 : Int32), .int (0 : Int32), .int (0 : Int32), .int (0 : Int32)]) (st := [.int (8 : Int32), .ref (gB G + z53)]) C (k_X12_letters (l := gl G) (E := gE G) (hb := gB G) (σ := σ51) e54) xc_X12_90 q1260 rfl (by decide) (xst4 (Nat.le_of_ble_eq_true rfl)) xsame.rf.le xsame.rf.lim dX12_init_389 ?_
  obtain ⟨σ57, e56, hf⟩ := xbd hf
  refine ww_last (pc := 392) C e56 dX12_init_392 ?_
  refine ww_aload_n (pc := 393) C 0 dX12_init_393 rfl ?_
  obtain ⟨z59, e58, hf⟩ := xbd hf
  refine gf_X12_34 (pc := 394) C e58 dX12_init_394 ?_
  refine ww_bipush (pc := 397) (v := (9 : Int32)) C dX12_init_397 (by decide) ?_
  refine ww_bipush (pc := 399) (v := (100 : Int32)) C dX12_init_399 (by decide) ?_
  refine ww_bipush (pc := 401) (v := (111 : Int32)) C dX12_init_401 (by decide) ?_
  refine ww_bipush (pc := 403) (v := (119 : Int32)) C dX12_init_403 (by decide) ?_
  refine ww_bipush (pc := 405) (v := (110 : Int32)) C dX12_init_405 (by decide) ?_
  refine ww_iconst (pc := 407) (v := (0 : Int32)) C dX12_init_407 (by decide) ?_
  refine ww_iconst (pc := 408) (v := (0 : Int32)) C dX12_init_408 (by decide) ?_
  refine ww_iconst (pc := 409) (v := (0 : Int32)) C dX12_init_409 (by decide) ?_
  obtain ⟨v61, e60, hf⟩ := xbd hf
  refine ww_callSj (pc := 410) (as := [.int (100 : Int32), .int (111 : Int32), .int (119 : Int32), .int (110 : Int32), .int (0 : Int32), .int (0 : Int32), .int (0 : Int32)]) (st := [.int (9 : Int32), .ref (gB G + z59)]) C (k_X12_letters (l := gl G) (E := gE G) (hb := gB G) (σ := σ57) e60) xc_X12_90 q1260 rfl (by decide) (xst4 (Nat.le_of_ble_eq_true rfl)) xsame.rf.le xsame.rf.lim dX12_init_410 ?_
  obtain ⟨σ63, e62, hf⟩ := xbd hf
  refine ww_last (pc := 413) C e62 dX12_init_413 ?_
  refine ww_aload_n (pc := 414) C 0 dX12_init_414 rfl ?_
  obtain ⟨z65, e64, hf⟩ := xbd hf
  refine gf_X12_34 (pc := 415) C e64 dX12_init_415 ?_
  refine ww_bipush (pc := 418) (v := (10 : Int32)) C dX12_init_418 (by decide) ?_
  refine ww_bipush (pc := 420) (v := (115 : Int32)) C dX12_init_420 (by decide) ?_
  refine ww_bipush (pc := 422) (v := (101 : Int32)) C dX12_init_422 (by decide) ?_
  refine ww_bipush (pc := 424) (v := (101 : Int32)) C dX12_init_424 (by decide) ?_
  refine ww_bipush (pc := 426) (v := (100 : Int32)) C dX12_init_426 (by decide) ?_
  refine ww_iconst (pc := 428) (v := (0 : Int32)) C dX12_init_428 (by decide) ?_
  refine ww_iconst (pc := 429) (v := (0 : Int32)) C dX12_init_429 (by decide) ?_
  refine ww_iconst (pc := 430) (v := (0 : Int32)) C dX12_init_430 (by decide) ?_
  obtain ⟨v67, e66, hf⟩ := xbd hf
  refine ww_callSj (pc := 431) (as := [.int (115 : Int32), .int (101 : Int32), .int (101 : Int32), .int (100 : Int32), .int (0 : Int32), .int (0 : Int32), .int (0 : Int32)]) (st := [.int (10 : Int32), .ref (gB G + z65)]) C (k_X12_letters (l := gl G) (E := gE G) (hb := gB G) (σ := σ63) e66) xc_X12_90 q1260 rfl (by decide) (xst4 (Nat.le_of_ble_eq_true rfl)) xsame.rf.le xsame.rf.lim dX12_init_431 ?_
  obtain ⟨σ69, e68, hf⟩ := xbd hf
  refine ww_last (pc := 434) C e68 dX12_init_434 ?_
  have hf := xsj hf
  subst hf
  exact ww_vret (pc := 435) C hk.1 dX12_init_435
theorem m_X12_init_j206 {σ : XS} {r0 : Nat} {t0 : Nat} {t1 : Nat} {x : XS} (hf : f_X12_init_j206 σ r0 t0 t1 = some x) : xext σ x := by
  have hm := xext.rf (σ := σ)
  obtain ⟨_, e1, hf⟩ := xbd hf
  obtain ⟨σ3, e2, hf⟩ := xbd hf
  have hm := hm.tr (xpR_same e2).ext
  obtain ⟨z5, e4, hf⟩ := xbd hf
  obtain ⟨v7, e6, hf⟩ := xbd hf
  obtain ⟨σ9, e8, hf⟩ := xbd hf
  have hm := hm.tr (xsL_same e8).ext
  obtain ⟨z11, e10, hf⟩ := xbd hf
  obtain ⟨v13, e12, hf⟩ := xbd hf
  obtain ⟨σ15, e14, hf⟩ := xbd hf
  have hm := hm.tr (xsL_same e14).ext
  obtain ⟨z17, e16, hf⟩ := xbd hf
  obtain ⟨v19, e18, hf⟩ := xbd hf
  obtain ⟨σ21, e20, hf⟩ := xbd hf
  have hm := hm.tr (xsL_same e20).ext
  obtain ⟨z23, e22, hf⟩ := xbd hf
  obtain ⟨v25, e24, hf⟩ := xbd hf
  obtain ⟨σ27, e26, hf⟩ := xbd hf
  have hm := hm.tr (xsL_same e26).ext
  obtain ⟨z29, e28, hf⟩ := xbd hf
  obtain ⟨v31, e30, hf⟩ := xbd hf
  obtain ⟨σ33, e32, hf⟩ := xbd hf
  have hm := hm.tr (xsL_same e32).ext
  obtain ⟨z35, e34, hf⟩ := xbd hf
  obtain ⟨v37, e36, hf⟩ := xbd hf
  obtain ⟨σ39, e38, hf⟩ := xbd hf
  have hm := hm.tr (xsL_same e38).ext
  obtain ⟨z41, e40, hf⟩ := xbd hf
  obtain ⟨v43, e42, hf⟩ := xbd hf
  obtain ⟨σ45, e44, hf⟩ := xbd hf
  have hm := hm.tr (xsL_same e44).ext
  obtain ⟨z47, e46, hf⟩ := xbd hf
  obtain ⟨v49, e48, hf⟩ := xbd hf
  obtain ⟨σ51, e50, hf⟩ := xbd hf
  have hm := hm.tr (xsL_same e50).ext
  obtain ⟨z53, e52, hf⟩ := xbd hf
  obtain ⟨v55, e54, hf⟩ := xbd hf
  obtain ⟨σ57, e56, hf⟩ := xbd hf
  have hm := hm.tr (xsL_same e56).ext
  obtain ⟨z59, e58, hf⟩ := xbd hf
  obtain ⟨v61, e60, hf⟩ := xbd hf
  obtain ⟨σ63, e62, hf⟩ := xbd hf
  have hm := hm.tr (xsL_same e62).ext
  obtain ⟨z65, e64, hf⟩ := xbd hf
  obtain ⟨v67, e66, hf⟩ := xbd hf
  obtain ⟨σ69, e68, hf⟩ := xbd hf
  have hm := hm.tr (xsL_same e68).ext
  have hf := xsj hf
  subst hf
  exact hm
theorem s_X12_init_j197 {G : XG} (C : XC G cX12_init RX12 none 1 2 48) (hN : (gh G).name = "<init>") {σ : XS} {r0 : Nat} {t0 : Nat} {t1 : Nat} {x : XS} (hf : f_X12_init_j197 σ r0 t0 t1 = some x) (hk : XEnd G none x ∧ XUp G x) : WW G 197 [(0, .ref (gB G + r0))] [.ref (gB G + t1), .ref (gB G + t0)] σ := by
  obtain ⟨_, e1, hf⟩ := xbd hf
  obtain ⟨σ3, e2, hf⟩ := xbd hf
  refine pf_X12_84 (pc := 197) C hN (xnz_spec e1) e2 dX12_init_197 ?_
  refine ww_aload_n (pc := 200) C 0 dX12_init_200 rfl ?_
  refine ww_sipush (pc := 201) (v := (256 : Int32)) C dX12_init_201 (by decide) ?_
  obtain ⟨⟨z5, σ6⟩, e4, hf⟩ := xbd hf
  dsimp only at hf
  refine ww_newI (pc := 204) C q77 e4 (fun q => by have hm9 := m_X12_init_j206 hf; exact XLim.mid q (xnA_ext e4) hm9 hk.2) dX12_init_204 ?_
  refine ww_sub [0] rfl ?_
  exact s_X12_init_j206 C hN hf hk
theorem m_X12_init_j197 {σ : XS} {r0 : Nat} {t0 : Nat} {t1 : Nat} {x : XS} (hf : f_X12_init_j197 σ r0 t0 t1 = some x) : xext σ x := by
  have hm := xext.rf (σ := σ)
  obtain ⟨_, e1, hf⟩ := xbd hf
  obtain ⟨σ3, e2, hf⟩ := xbd hf
  have hm := hm.tr (xpR_same e2).ext
  obtain ⟨⟨z5, σ6⟩, e4, hf⟩ := xbd hf
  dsimp only at hf
  have hm := hm.tr (xnA_ext e4)
  exact hm.tr (m_X12_init_j206 hf)
theorem s_X12_init_j188 {G : XG} (C : XC G cX12_init RX12 none 1 2 48) (hN : (gh G).name = "<init>") {σ : XS} {r0 : Nat} {t0 : Nat} {t1 : Nat} {x : XS} (hf : f_X12_init_j188 σ r0 t0 t1 = some x) (hk : XEnd G none x ∧ XUp G x) : WW G 188 [(0, .ref (gB G + r0))] [.ref (gB G + t1), .ref (gB G + t0)] σ := by
  obtain ⟨_, e1, hf⟩ := xbd hf
  obtain ⟨σ3, e2, hf⟩ := xbd hf
  refine pf_X12_81 (pc := 188) C hN (xnz_spec e1) e2 dX12_init_188 ?_
  refine ww_aload_n (pc := 191) C 0 dX12_init_191 rfl ?_
  refine ww_sipush (pc := 192) (v := (1024 : Int32)) C dX12_init_192 (by decide) ?_
  obtain ⟨⟨z5, σ6⟩, e4, hf⟩ := xbd hf
  dsimp only at hf
  refine ww_newL (pc := 195) C q372 e4 (fun q => by have hm9 := m_X12_init_j197 hf; exact XLim.mid q (xnA_ext e4) hm9 hk.2) dX12_init_195 ?_
  refine ww_sub [0] rfl ?_
  exact s_X12_init_j197 C hN hf hk
theorem m_X12_init_j188 {σ : XS} {r0 : Nat} {t0 : Nat} {t1 : Nat} {x : XS} (hf : f_X12_init_j188 σ r0 t0 t1 = some x) : xext σ x := by
  have hm := xext.rf (σ := σ)
  obtain ⟨_, e1, hf⟩ := xbd hf
  obtain ⟨σ3, e2, hf⟩ := xbd hf
  have hm := hm.tr (xpR_same e2).ext
  obtain ⟨⟨z5, σ6⟩, e4, hf⟩ := xbd hf
  dsimp only at hf
  have hm := hm.tr (xnA_ext e4)
  exact hm.tr (m_X12_init_j197 hf)
theorem s_X12_init_j179 {G : XG} (C : XC G cX12_init RX12 none 1 2 48) (hN : (gh G).name = "<init>") {σ : XS} {r0 : Nat} {t0 : Nat} {t1 : Nat} {x : XS} (hf : f_X12_init_j179 σ r0 t0 t1 = some x) (hk : XEnd G none x ∧ XUp G x) : WW G 179 [(0, .ref (gB G + r0))] [.ref (gB G + t1), .ref (gB G + t0)] σ := by
  obtain ⟨_, e1, hf⟩ := xbd hf
  obtain ⟨σ3, e2, hf⟩ := xbd hf
  refine pf_X12_78 (pc := 179) C hN (xnz_spec e1) e2 dX12_init_179 ?_
  refine ww_aload_n (pc := 182) C 0 dX12_init_182 rfl ?_
  refine ww_sipush (pc := 183) (v := (1024 : Int32)) C dX12_init_183 (by decide) ?_
  obtain ⟨⟨z5, σ6⟩, e4, hf⟩ := xbd hf
  dsimp only at hf
  refine ww_newI (pc := 186) C q77 e4 (fun q => by have hm9 := m_X12_init_j188 hf; exact XLim.mid q (xnA_ext e4) hm9 hk.2) dX12_init_186 ?_
  refine ww_sub [0] rfl ?_
  exact s_X12_init_j188 C hN hf hk
theorem m_X12_init_j179 {σ : XS} {r0 : Nat} {t0 : Nat} {t1 : Nat} {x : XS} (hf : f_X12_init_j179 σ r0 t0 t1 = some x) : xext σ x := by
  have hm := xext.rf (σ := σ)
  obtain ⟨_, e1, hf⟩ := xbd hf
  obtain ⟨σ3, e2, hf⟩ := xbd hf
  have hm := hm.tr (xpR_same e2).ext
  obtain ⟨⟨z5, σ6⟩, e4, hf⟩ := xbd hf
  dsimp only at hf
  have hm := hm.tr (xnA_ext e4)
  exact hm.tr (m_X12_init_j188 hf)
theorem s_X12_init_j170 {G : XG} (C : XC G cX12_init RX12 none 1 2 48) (hN : (gh G).name = "<init>") {σ : XS} {r0 : Nat} {t0 : Nat} {t1 : Nat} {x : XS} (hf : f_X12_init_j170 σ r0 t0 t1 = some x) (hk : XEnd G none x ∧ XUp G x) : WW G 170 [(0, .ref (gB G + r0))] [.ref (gB G + t1), .ref (gB G + t0)] σ := by
  obtain ⟨_, e1, hf⟩ := xbd hf
  obtain ⟨σ3, e2, hf⟩ := xbd hf
  refine pf_X12_75 (pc := 170) C hN (xnz_spec e1) e2 dX12_init_170 ?_
  refine ww_aload_n (pc := 173) C 0 dX12_init_173 rfl ?_
  refine ww_sipush (pc := 174) (v := (1024 : Int32)) C dX12_init_174 (by decide) ?_
  obtain ⟨⟨z5, σ6⟩, e4, hf⟩ := xbd hf
  dsimp only at hf
  refine ww_newZ (pc := 177) C q1401 e4 (fun q => by have hm9 := m_X12_init_j179 hf; exact XLim.mid q (xnA_ext e4) hm9 hk.2) dX12_init_177 ?_
  refine ww_sub [0] rfl ?_
  exact s_X12_init_j179 C hN hf hk
theorem m_X12_init_j170 {σ : XS} {r0 : Nat} {t0 : Nat} {t1 : Nat} {x : XS} (hf : f_X12_init_j170 σ r0 t0 t1 = some x) : xext σ x := by
  have hm := xext.rf (σ := σ)
  obtain ⟨_, e1, hf⟩ := xbd hf
  obtain ⟨σ3, e2, hf⟩ := xbd hf
  have hm := hm.tr (xpR_same e2).ext
  obtain ⟨⟨z5, σ6⟩, e4, hf⟩ := xbd hf
  dsimp only at hf
  have hm := hm.tr (xnA_ext e4)
  exact hm.tr (m_X12_init_j179 hf)
theorem s_X12_init_j161 {G : XG} (C : XC G cX12_init RX12 none 1 2 48) (hN : (gh G).name = "<init>") {σ : XS} {r0 : Nat} {t0 : Nat} {t1 : Nat} {x : XS} (hf : f_X12_init_j161 σ r0 t0 t1 = some x) (hk : XEnd G none x ∧ XUp G x) : WW G 161 [(0, .ref (gB G + r0))] [.ref (gB G + t1), .ref (gB G + t0)] σ := by
  obtain ⟨_, e1, hf⟩ := xbd hf
  obtain ⟨σ3, e2, hf⟩ := xbd hf
  refine pf_X12_72 (pc := 161) C hN (xnz_spec e1) e2 dX12_init_161 ?_
  refine ww_aload_n (pc := 164) C 0 dX12_init_164 rfl ?_
  refine ww_sipush (pc := 165) (v := (1024 : Int32)) C dX12_init_165 (by decide) ?_
  obtain ⟨⟨z5, σ6⟩, e4, hf⟩ := xbd hf
  dsimp only at hf
  refine ww_newI (pc := 168) C q77 e4 (fun q => by have hm9 := m_X12_init_j170 hf; exact XLim.mid q (xnA_ext e4) hm9 hk.2) dX12_init_168 ?_
  refine ww_sub [0] rfl ?_
  exact s_X12_init_j170 C hN hf hk
theorem m_X12_init_j161 {σ : XS} {r0 : Nat} {t0 : Nat} {t1 : Nat} {x : XS} (hf : f_X12_init_j161 σ r0 t0 t1 = some x) : xext σ x := by
  have hm := xext.rf (σ := σ)
  obtain ⟨_, e1, hf⟩ := xbd hf
  obtain ⟨σ3, e2, hf⟩ := xbd hf
  have hm := hm.tr (xpR_same e2).ext
  obtain ⟨⟨z5, σ6⟩, e4, hf⟩ := xbd hf
  dsimp only at hf
  have hm := hm.tr (xnA_ext e4)
  exact hm.tr (m_X12_init_j170 hf)
theorem s_X12_init_j152 {G : XG} (C : XC G cX12_init RX12 none 1 2 48) (hN : (gh G).name = "<init>") {σ : XS} {r0 : Nat} {t0 : Nat} {t1 : Nat} {x : XS} (hf : f_X12_init_j152 σ r0 t0 t1 = some x) (hk : XEnd G none x ∧ XUp G x) : WW G 152 [(0, .ref (gB G + r0))] [.ref (gB G + t1), .ref (gB G + t0)] σ := by
  obtain ⟨_, e1, hf⟩ := xbd hf
  obtain ⟨σ3, e2, hf⟩ := xbd hf
  refine pf_X12_69 (pc := 152) C hN (xnz_spec e1) e2 dX12_init_152 ?_
  refine ww_aload_n (pc := 155) C 0 dX12_init_155 rfl ?_
  refine ww_sipush (pc := 156) (v := (601 : Int32)) C dX12_init_156 (by decide) ?_
  obtain ⟨⟨z5, σ6⟩, e4, hf⟩ := xbd hf
  dsimp only at hf
  refine ww_newL (pc := 159) C q372 e4 (fun q => by have hm9 := m_X12_init_j161 hf; exact XLim.mid q (xnA_ext e4) hm9 hk.2) dX12_init_159 ?_
  refine ww_sub [0] rfl ?_
  exact s_X12_init_j161 C hN hf hk
theorem m_X12_init_j152 {σ : XS} {r0 : Nat} {t0 : Nat} {t1 : Nat} {x : XS} (hf : f_X12_init_j152 σ r0 t0 t1 = some x) : xext σ x := by
  have hm := xext.rf (σ := σ)
  obtain ⟨_, e1, hf⟩ := xbd hf
  obtain ⟨σ3, e2, hf⟩ := xbd hf
  have hm := hm.tr (xpR_same e2).ext
  obtain ⟨⟨z5, σ6⟩, e4, hf⟩ := xbd hf
  dsimp only at hf
  have hm := hm.tr (xnA_ext e4)
  exact hm.tr (m_X12_init_j161 hf)
theorem s_X12_init_j143 {G : XG} (C : XC G cX12_init RX12 none 1 2 48) (hN : (gh G).name = "<init>") {σ : XS} {r0 : Nat} {t0 : Nat} {t1 : Nat} {x : XS} (hf : f_X12_init_j143 σ r0 t0 t1 = some x) (hk : XEnd G none x ∧ XUp G x) : WW G 143 [(0, .ref (gB G + r0))] [.ref (gB G + t1), .ref (gB G + t0)] σ := by
  obtain ⟨_, e1, hf⟩ := xbd hf
  obtain ⟨σ3, e2, hf⟩ := xbd hf
  refine pf_X12_66 (pc := 143) C hN (xnz_spec e1) e2 dX12_init_143 ?_
  refine ww_aload_n (pc := 146) C 0 dX12_init_146 rfl ?_
  refine ww_sipush (pc := 147) (v := (301 : Int32)) C dX12_init_147 (by decide) ?_
  obtain ⟨⟨z5, σ6⟩, e4, hf⟩ := xbd hf
  dsimp only at hf
  refine ww_newI (pc := 150) C q77 e4 (fun q => by have hm9 := m_X12_init_j152 hf; exact XLim.mid q (xnA_ext e4) hm9 hk.2) dX12_init_150 ?_
  refine ww_sub [0] rfl ?_
  exact s_X12_init_j152 C hN hf hk
theorem m_X12_init_j143 {σ : XS} {r0 : Nat} {t0 : Nat} {t1 : Nat} {x : XS} (hf : f_X12_init_j143 σ r0 t0 t1 = some x) : xext σ x := by
  have hm := xext.rf (σ := σ)
  obtain ⟨_, e1, hf⟩ := xbd hf
  obtain ⟨σ3, e2, hf⟩ := xbd hf
  have hm := hm.tr (xpR_same e2).ext
  obtain ⟨⟨z5, σ6⟩, e4, hf⟩ := xbd hf
  dsimp only at hf
  have hm := hm.tr (xnA_ext e4)
  exact hm.tr (m_X12_init_j152 hf)
theorem s_X12_init_j135 {G : XG} (C : XC G cX12_init RX12 none 1 2 48) (hN : (gh G).name = "<init>") {σ : XS} {r0 : Nat} {t0 : Nat} {t1 : Nat} {x : XS} (hf : f_X12_init_j135 σ r0 t0 t1 = some x) (hk : XEnd G none x ∧ XUp G x) : WW G 135 [(0, .ref (gB G + r0))] [.ref (gB G + t1), .ref (gB G + t0)] σ := by
  obtain ⟨_, e1, hf⟩ := xbd hf
  obtain ⟨σ3, e2, hf⟩ := xbd hf
  refine pf_X12_63 (pc := 135) C hN (xnz_spec e1) e2 dX12_init_135 ?_
  refine ww_aload_n (pc := 138) C 0 dX12_init_138 rfl ?_
  refine ww_bipush (pc := 139) (v := (66 : Int32)) C dX12_init_139 (by decide) ?_
  obtain ⟨⟨z5, σ6⟩, e4, hf⟩ := xbd hf
  dsimp only at hf
  refine ww_newI (pc := 141) C q77 e4 (fun q => by have hm9 := m_X12_init_j143 hf; exact XLim.mid q (xnA_ext e4) hm9 hk.2) dX12_init_141 ?_
  refine ww_sub [0] rfl ?_
  exact s_X12_init_j143 C hN hf hk
theorem m_X12_init_j135 {σ : XS} {r0 : Nat} {t0 : Nat} {t1 : Nat} {x : XS} (hf : f_X12_init_j135 σ r0 t0 t1 = some x) : xext σ x := by
  have hm := xext.rf (σ := σ)
  obtain ⟨_, e1, hf⟩ := xbd hf
  obtain ⟨σ3, e2, hf⟩ := xbd hf
  have hm := hm.tr (xpR_same e2).ext
  obtain ⟨⟨z5, σ6⟩, e4, hf⟩ := xbd hf
  dsimp only at hf
  have hm := hm.tr (xnA_ext e4)
  exact hm.tr (m_X12_init_j143 hf)
theorem s_X12_init_j126 {G : XG} (C : XC G cX12_init RX12 none 1 2 48) (hN : (gh G).name = "<init>") {σ : XS} {r0 : Nat} {t0 : Nat} {t1 : Nat} {x : XS} (hf : f_X12_init_j126 σ r0 t0 t1 = some x) (hk : XEnd G none x ∧ XUp G x) : WW G 126 [(0, .ref (gB G + r0))] [.ref (gB G + t1), .ref (gB G + t0)] σ := by
  obtain ⟨_, e1, hf⟩ := xbd hf
  obtain ⟨σ3, e2, hf⟩ := xbd hf
  refine pf_X12_60 (pc := 126) C hN (xnz_spec e1) e2 dX12_init_126 ?_
  refine ww_aload_n (pc := 129) C 0 dX12_init_129 rfl ?_
  refine ww_sipush (pc := 130) (v := (301 : Int32)) C dX12_init_130 (by decide) ?_
  obtain ⟨⟨z5, σ6⟩, e4, hf⟩ := xbd hf
  dsimp only at hf
  refine ww_newI (pc := 133) C q77 e4 (fun q => by have hm9 := m_X12_init_j135 hf; exact XLim.mid q (xnA_ext e4) hm9 hk.2) dX12_init_133 ?_
  refine ww_sub [0] rfl ?_
  exact s_X12_init_j135 C hN hf hk
theorem m_X12_init_j126 {σ : XS} {r0 : Nat} {t0 : Nat} {t1 : Nat} {x : XS} (hf : f_X12_init_j126 σ r0 t0 t1 = some x) : xext σ x := by
  have hm := xext.rf (σ := σ)
  obtain ⟨_, e1, hf⟩ := xbd hf
  obtain ⟨σ3, e2, hf⟩ := xbd hf
  have hm := hm.tr (xpR_same e2).ext
  obtain ⟨⟨z5, σ6⟩, e4, hf⟩ := xbd hf
  dsimp only at hf
  have hm := hm.tr (xnA_ext e4)
  exact hm.tr (m_X12_init_j135 hf)
theorem s_X12_init_j117 {G : XG} (C : XC G cX12_init RX12 none 1 2 48) (hN : (gh G).name = "<init>") {σ : XS} {r0 : Nat} {t0 : Nat} {t1 : Nat} {x : XS} (hf : f_X12_init_j117 σ r0 t0 t1 = some x) (hk : XEnd G none x ∧ XUp G x) : WW G 117 [(0, .ref (gB G + r0))] [.ref (gB G + t1), .ref (gB G + t0)] σ := by
  obtain ⟨_, e1, hf⟩ := xbd hf
  obtain ⟨σ3, e2, hf⟩ := xbd hf
  refine pf_X12_57 (pc := 117) C hN (xnz_spec e1) e2 dX12_init_117 ?_
  refine ww_aload_n (pc := 120) C 0 dX12_init_120 rfl ?_
  refine ww_sipush (pc := 121) (v := (301 : Int32)) C dX12_init_121 (by decide) ?_
  obtain ⟨⟨z5, σ6⟩, e4, hf⟩ := xbd hf
  dsimp only at hf
  refine ww_newI (pc := 124) C q77 e4 (fun q => by have hm9 := m_X12_init_j126 hf; exact XLim.mid q (xnA_ext e4) hm9 hk.2) dX12_init_124 ?_
  refine ww_sub [0] rfl ?_
  exact s_X12_init_j126 C hN hf hk
theorem m_X12_init_j117 {σ : XS} {r0 : Nat} {t0 : Nat} {t1 : Nat} {x : XS} (hf : f_X12_init_j117 σ r0 t0 t1 = some x) : xext σ x := by
  have hm := xext.rf (σ := σ)
  obtain ⟨_, e1, hf⟩ := xbd hf
  obtain ⟨σ3, e2, hf⟩ := xbd hf
  have hm := hm.tr (xpR_same e2).ext
  obtain ⟨⟨z5, σ6⟩, e4, hf⟩ := xbd hf
  dsimp only at hf
  have hm := hm.tr (xnA_ext e4)
  exact hm.tr (m_X12_init_j126 hf)
theorem s_X12_init_j109 {G : XG} (C : XC G cX12_init RX12 none 1 2 48) (hN : (gh G).name = "<init>") {σ : XS} {r0 : Nat} {t0 : Nat} {t1 : Nat} {x : XS} (hf : f_X12_init_j109 σ r0 t0 t1 = some x) (hk : XEnd G none x ∧ XUp G x) : WW G 109 [(0, .ref (gB G + r0))] [.ref (gB G + t1), .ref (gB G + t0)] σ := by
  obtain ⟨_, e1, hf⟩ := xbd hf
  obtain ⟨σ3, e2, hf⟩ := xbd hf
  refine pf_X12_52 (pc := 109) C hN (xnz_spec e1) e2 dX12_init_109 ?_
  refine ww_aload_n (pc := 112) C 0 dX12_init_112 rfl ?_
  refine ww_ldc (pc := 113) C q1258 dX12_init_113 ?_
  obtain ⟨⟨z5, σ6⟩, e4, hf⟩ := xbd hf
  dsimp only at hf
  refine ww_newI (pc := 115) C q77 e4 (fun q => by have hm9 := m_X12_init_j117 hf; exact XLim.mid q (xnA_ext e4) hm9 hk.2) dX12_init_115 ?_
  refine ww_sub [0] rfl ?_
  exact s_X12_init_j117 C hN hf hk
theorem m_X12_init_j109 {σ : XS} {r0 : Nat} {t0 : Nat} {t1 : Nat} {x : XS} (hf : f_X12_init_j109 σ r0 t0 t1 = some x) : xext σ x := by
  have hm := xext.rf (σ := σ)
  obtain ⟨_, e1, hf⟩ := xbd hf
  obtain ⟨σ3, e2, hf⟩ := xbd hf
  have hm := hm.tr (xpR_same e2).ext
  obtain ⟨⟨z5, σ6⟩, e4, hf⟩ := xbd hf
  dsimp only at hf
  have hm := hm.tr (xnA_ext e4)
  exact hm.tr (m_X12_init_j117 hf)
theorem s_X12_init_j102 {G : XG} (C : XC G cX12_init RX12 none 1 2 48) (hN : (gh G).name = "<init>") {σ : XS} {r0 : Nat} {t0 : Nat} {t1 : Nat} {x : XS} (hf : f_X12_init_j102 σ r0 t0 t1 = some x) (hk : XEnd G none x ∧ XUp G x) : WW G 102 [(0, .ref (gB G + r0))] [.ref (gB G + t1), .ref (gB G + t0)] σ := by
  obtain ⟨_, e1, hf⟩ := xbd hf
  obtain ⟨σ3, e2, hf⟩ := xbd hf
  refine pf_X12_49 (pc := 102) C hN (xnz_spec e1) e2 dX12_init_102 ?_
  refine ww_aload_n (pc := 105) C 0 dX12_init_105 rfl ?_
  refine ww_iconst (pc := 106) (v := (3 : Int32)) C dX12_init_106 (by decide) ?_
  obtain ⟨⟨z5, σ6⟩, e4, hf⟩ := xbd hf
  dsimp only at hf
  refine ww_newZ (pc := 107) C q1401 e4 (fun q => by have hm9 := m_X12_init_j109 hf; exact XLim.mid q (xnA_ext e4) hm9 hk.2) dX12_init_107 ?_
  refine ww_sub [0] rfl ?_
  exact s_X12_init_j109 C hN hf hk
theorem m_X12_init_j102 {σ : XS} {r0 : Nat} {t0 : Nat} {t1 : Nat} {x : XS} (hf : f_X12_init_j102 σ r0 t0 t1 = some x) : xext σ x := by
  have hm := xext.rf (σ := σ)
  obtain ⟨_, e1, hf⟩ := xbd hf
  obtain ⟨σ3, e2, hf⟩ := xbd hf
  have hm := hm.tr (xpR_same e2).ext
  obtain ⟨⟨z5, σ6⟩, e4, hf⟩ := xbd hf
  dsimp only at hf
  have hm := hm.tr (xnA_ext e4)
  exact hm.tr (m_X12_init_j109 hf)
theorem s_X12_init_j93 {G : XG} (C : XC G cX12_init RX12 none 1 2 48) (hN : (gh G).name = "<init>") {σ : XS} {r0 : Nat} {t0 : Nat} {t1 : Nat} {x : XS} (hf : f_X12_init_j93 σ r0 t0 t1 = some x) (hk : XEnd G none x ∧ XUp G x) : WW G 93 [(0, .ref (gB G + r0))] [.ref (gB G + t1), .ref (gB G + t0)] σ := by
  obtain ⟨_, e1, hf⟩ := xbd hf
  obtain ⟨σ3, e2, hf⟩ := xbd hf
  refine pf_X12_46 (pc := 93) C hN (xnz_spec e1) e2 dX12_init_93 ?_
  refine ww_aload_n (pc := 96) C 0 dX12_init_96 rfl ?_
  refine ww_sipush (pc := 97) (v := (198 : Int32)) C dX12_init_97 (by decide) ?_
  obtain ⟨⟨z5, σ6⟩, e4, hf⟩ := xbd hf
  dsimp only at hf
  refine ww_newI (pc := 100) C q77 e4 (fun q => by have hm9 := m_X12_init_j102 hf; exact XLim.mid q (xnA_ext e4) hm9 hk.2) dX12_init_100 ?_
  refine ww_sub [0] rfl ?_
  exact s_X12_init_j102 C hN hf hk
theorem m_X12_init_j93 {σ : XS} {r0 : Nat} {t0 : Nat} {t1 : Nat} {x : XS} (hf : f_X12_init_j93 σ r0 t0 t1 = some x) : xext σ x := by
  have hm := xext.rf (σ := σ)
  obtain ⟨_, e1, hf⟩ := xbd hf
  obtain ⟨σ3, e2, hf⟩ := xbd hf
  have hm := hm.tr (xpR_same e2).ext
  obtain ⟨⟨z5, σ6⟩, e4, hf⟩ := xbd hf
  dsimp only at hf
  have hm := hm.tr (xnA_ext e4)
  exact hm.tr (m_X12_init_j102 hf)
theorem s_X12_init_j84 {G : XG} (C : XC G cX12_init RX12 none 1 2 48) (hN : (gh G).name = "<init>") {σ : XS} {r0 : Nat} {t0 : Nat} {t1 : Nat} {x : XS} (hf : f_X12_init_j84 σ r0 t0 t1 = some x) (hk : XEnd G none x ∧ XUp G x) : WW G 84 [(0, .ref (gB G + r0))] [.ref (gB G + t1), .ref (gB G + t0)] σ := by
  obtain ⟨_, e1, hf⟩ := xbd hf
  obtain ⟨σ3, e2, hf⟩ := xbd hf
  refine pf_X12_43 (pc := 84) C hN (xnz_spec e1) e2 dX12_init_84 ?_
  refine ww_aload_n (pc := 87) C 0 dX12_init_87 rfl ?_
  refine ww_sipush (pc := 88) (v := (2640 : Int32)) C dX12_init_88 (by decide) ?_
  obtain ⟨⟨z5, σ6⟩, e4, hf⟩ := xbd hf
  dsimp only at hf
  refine ww_newI (pc := 91) C q77 e4 (fun q => by have hm9 := m_X12_init_j93 hf; exact XLim.mid q (xnA_ext e4) hm9 hk.2) dX12_init_91 ?_
  refine ww_sub [0] rfl ?_
  exact s_X12_init_j93 C hN hf hk
theorem m_X12_init_j84 {σ : XS} {r0 : Nat} {t0 : Nat} {t1 : Nat} {x : XS} (hf : f_X12_init_j84 σ r0 t0 t1 = some x) : xext σ x := by
  have hm := xext.rf (σ := σ)
  obtain ⟨_, e1, hf⟩ := xbd hf
  obtain ⟨σ3, e2, hf⟩ := xbd hf
  have hm := hm.tr (xpR_same e2).ext
  obtain ⟨⟨z5, σ6⟩, e4, hf⟩ := xbd hf
  dsimp only at hf
  have hm := hm.tr (xnA_ext e4)
  exact hm.tr (m_X12_init_j93 hf)
theorem s_X12_init_j76 {G : XG} (C : XC G cX12_init RX12 none 1 2 48) (hN : (gh G).name = "<init>") {σ : XS} {r0 : Nat} {t0 : Nat} {t1 : Nat} {x : XS} (hf : f_X12_init_j76 σ r0 t0 t1 = some x) (hk : XEnd G none x ∧ XUp G x) : WW G 76 [(0, .ref (gB G + r0))] [.ref (gB G + t1), .ref (gB G + t0)] σ := by
  obtain ⟨_, e1, hf⟩ := xbd hf
  obtain ⟨σ3, e2, hf⟩ := xbd hf
  refine pf_X12_40 (pc := 76) C hN (xnz_spec e1) e2 dX12_init_76 ?_
  refine ww_aload_n (pc := 79) C 0 dX12_init_79 rfl ?_
  refine ww_bipush (pc := 80) (v := (66 : Int32)) C dX12_init_80 (by decide) ?_
  obtain ⟨⟨z5, σ6⟩, e4, hf⟩ := xbd hf
  dsimp only at hf
  refine ww_newI (pc := 82) C q77 e4 (fun q => by have hm9 := m_X12_init_j84 hf; exact XLim.mid q (xnA_ext e4) hm9 hk.2) dX12_init_82 ?_
  refine ww_sub [0] rfl ?_
  exact s_X12_init_j84 C hN hf hk
theorem m_X12_init_j76 {σ : XS} {r0 : Nat} {t0 : Nat} {t1 : Nat} {x : XS} (hf : f_X12_init_j76 σ r0 t0 t1 = some x) : xext σ x := by
  have hm := xext.rf (σ := σ)
  obtain ⟨_, e1, hf⟩ := xbd hf
  obtain ⟨σ3, e2, hf⟩ := xbd hf
  have hm := hm.tr (xpR_same e2).ext
  obtain ⟨⟨z5, σ6⟩, e4, hf⟩ := xbd hf
  dsimp only at hf
  have hm := hm.tr (xnA_ext e4)
  exact hm.tr (m_X12_init_j84 hf)
theorem s_X12_init_j63 {G : XG} (C : XC G cX12_init RX12 none 1 2 48) (hN : (gh G).name = "<init>") {σ : XS} {r0 : Nat} {t0 : Nat} {t1 : Nat} {x : XS} (hf : f_X12_init_j63 σ r0 t0 t1 = some x) (hk : XEnd G none x ∧ XUp G x) : WW G 63 [(0, .ref (gB G + r0))] [.ref (gB G + t1), .ref (gB G + t0)] σ := by
  obtain ⟨_, e1, hf⟩ := xbd hf
  obtain ⟨σ3, e2, hf⟩ := xbd hf
  refine pf_X12_34 (pc := 63) C hN (xnz_spec e1) e2 dX12_init_63 ?_
  refine ww_aload_n (pc := 66) C 0 dX12_init_66 rfl ?_
  refine ww_iconst (pc := 67) (v := (-1 : Int32)) C dX12_init_67 (by decide) ?_
  obtain ⟨σ5, e4, hf⟩ := xbd hf
  refine pf_X12_37 (pc := 68) C e4 dX12_init_68 ?_
  refine ww_aload_n (pc := 71) C 0 dX12_init_71 rfl ?_
  refine ww_bipush (pc := 72) (v := (66 : Int32)) C dX12_init_72 (by decide) ?_
  obtain ⟨⟨z7, σ8⟩, e6, hf⟩ := xbd hf
  dsimp only at hf
  refine ww_newI (pc := 74) C q77 e6 (fun q => by have hm9 := m_X12_init_j76 hf; exact XLim.mid q (xnA_ext e6) hm9 hk.2) dX12_init_74 ?_
  refine ww_sub [0] rfl ?_
  exact s_X12_init_j76 C hN hf hk
theorem m_X12_init_j63 {σ : XS} {r0 : Nat} {t0 : Nat} {t1 : Nat} {x : XS} (hf : f_X12_init_j63 σ r0 t0 t1 = some x) : xext σ x := by
  have hm := xext.rf (σ := σ)
  obtain ⟨_, e1, hf⟩ := xbd hf
  obtain ⟨σ3, e2, hf⟩ := xbd hf
  have hm := hm.tr (xpR_same e2).ext
  obtain ⟨σ5, e4, hf⟩ := xbd hf
  have hm := hm.tr (xpI_same e4).ext
  obtain ⟨⟨z7, σ8⟩, e6, hf⟩ := xbd hf
  dsimp only at hf
  have hm := hm.tr (xnA_ext e6)
  exact hm.tr (m_X12_init_j76 hf)
theorem s_X12_init_j55 {G : XG} (C : XC G cX12_init RX12 none 1 2 48) (hN : (gh G).name = "<init>") {σ : XS} {r0 : Nat} {t0 : Nat} {t1 : Nat} {x : XS} (hf : f_X12_init_j55 σ r0 t0 t1 = some x) (hk : XEnd G none x ∧ XUp G x) : WW G 55 [(0, .ref (gB G + r0))] [.ref (gB G + t1), .ref (gB G + t0)] σ := by
  obtain ⟨_, e1, hf⟩ := xbd hf
  obtain ⟨σ3, e2, hf⟩ := xbd hf
  refine pf_X12_30 (pc := 55) C hN (xnz_spec e1) e2 dX12_init_55 ?_
  refine ww_aload_n (pc := 58) C 0 dX12_init_58 rfl ?_
  refine ww_bipush (pc := 59) (v := (11 : Int32)) C dX12_init_59 (by decide) ?_
  obtain ⟨⟨z5, σ6⟩, e4, hf⟩ := xbd hf
  dsimp only at hf
  refine ww_newL (pc := 61) C q372 e4 (fun q => by have hm9 := m_X12_init_j63 hf; exact XLim.mid q (xnA_ext e4) hm9 hk.2) dX12_init_61 ?_
  refine ww_sub [0] rfl ?_
  exact s_X12_init_j63 C hN hf hk
theorem m_X12_init_j55 {σ : XS} {r0 : Nat} {t0 : Nat} {t1 : Nat} {x : XS} (hf : f_X12_init_j55 σ r0 t0 t1 = some x) : xext σ x := by
  have hm := xext.rf (σ := σ)
  obtain ⟨_, e1, hf⟩ := xbd hf
  obtain ⟨σ3, e2, hf⟩ := xbd hf
  have hm := hm.tr (xpR_same e2).ext
  obtain ⟨⟨z5, σ6⟩, e4, hf⟩ := xbd hf
  dsimp only at hf
  have hm := hm.tr (xnA_ext e4)
  exact hm.tr (m_X12_init_j63 hf)
theorem s_X12_init_j46 {G : XG} (C : XC G cX12_init RX12 none 1 2 48) (hN : (gh G).name = "<init>") {σ : XS} {r0 : Nat} {t0 : Nat} {t1 : Nat} {x : XS} (hf : f_X12_init_j46 σ r0 t0 t1 = some x) (hk : XEnd G none x ∧ XUp G x) : WW G 46 [(0, .ref (gB G + r0))] [.ref (gB G + t1), .ref (gB G + t0)] σ := by
  obtain ⟨_, e1, hf⟩ := xbd hf
  obtain ⟨σ3, e2, hf⟩ := xbd hf
  refine pf_X12_27 (pc := 46) C hN (xnz_spec e1) e2 dX12_init_46 ?_
  refine ww_aload_n (pc := 49) C 0 dX12_init_49 rfl ?_
  refine ww_sipush (pc := 50) (v := (403 : Int32)) C dX12_init_50 (by decide) ?_
  obtain ⟨⟨z5, σ6⟩, e4, hf⟩ := xbd hf
  dsimp only at hf
  refine ww_newL (pc := 53) C q372 e4 (fun q => by have hm9 := m_X12_init_j55 hf; exact XLim.mid q (xnA_ext e4) hm9 hk.2) dX12_init_53 ?_
  refine ww_sub [0] rfl ?_
  exact s_X12_init_j55 C hN hf hk
theorem m_X12_init_j46 {σ : XS} {r0 : Nat} {t0 : Nat} {t1 : Nat} {x : XS} (hf : f_X12_init_j46 σ r0 t0 t1 = some x) : xext σ x := by
  have hm := xext.rf (σ := σ)
  obtain ⟨_, e1, hf⟩ := xbd hf
  obtain ⟨σ3, e2, hf⟩ := xbd hf
  have hm := hm.tr (xpR_same e2).ext
  obtain ⟨⟨z5, σ6⟩, e4, hf⟩ := xbd hf
  dsimp only at hf
  have hm := hm.tr (xnA_ext e4)
  exact hm.tr (m_X12_init_j55 hf)
theorem s_X12_init_j37 {G : XG} (C : XC G cX12_init RX12 none 1 2 48) (hN : (gh G).name = "<init>") {σ : XS} {r0 : Nat} {t0 : Nat} {t1 : Nat} {x : XS} (hf : f_X12_init_j37 σ r0 t0 t1 = some x) (hk : XEnd G none x ∧ XUp G x) : WW G 37 [(0, .ref (gB G + r0))] [.ref (gB G + t1), .ref (gB G + t0)] σ := by
  obtain ⟨_, e1, hf⟩ := xbd hf
  obtain ⟨σ3, e2, hf⟩ := xbd hf
  refine pf_X12_24 (pc := 37) C hN (xnz_spec e1) e2 dX12_init_37 ?_
  refine ww_aload_n (pc := 40) C 0 dX12_init_40 rfl ?_
  refine ww_sipush (pc := 41) (v := (403 : Int32)) C dX12_init_41 (by decide) ?_
  obtain ⟨⟨z5, σ6⟩, e4, hf⟩ := xbd hf
  dsimp only at hf
  refine ww_newI (pc := 44) C q77 e4 (fun q => by have hm9 := m_X12_init_j46 hf; exact XLim.mid q (xnA_ext e4) hm9 hk.2) dX12_init_44 ?_
  refine ww_sub [0] rfl ?_
  exact s_X12_init_j46 C hN hf hk
theorem m_X12_init_j37 {σ : XS} {r0 : Nat} {t0 : Nat} {t1 : Nat} {x : XS} (hf : f_X12_init_j37 σ r0 t0 t1 = some x) : xext σ x := by
  have hm := xext.rf (σ := σ)
  obtain ⟨_, e1, hf⟩ := xbd hf
  obtain ⟨σ3, e2, hf⟩ := xbd hf
  have hm := hm.tr (xpR_same e2).ext
  obtain ⟨⟨z5, σ6⟩, e4, hf⟩ := xbd hf
  dsimp only at hf
  have hm := hm.tr (xnA_ext e4)
  exact hm.tr (m_X12_init_j46 hf)
theorem s_X12_init_j28 {G : XG} (C : XC G cX12_init RX12 none 1 2 48) (hN : (gh G).name = "<init>") {σ : XS} {r0 : Nat} {t0 : Nat} {t1 : Nat} {x : XS} (hf : f_X12_init_j28 σ r0 t0 t1 = some x) (hk : XEnd G none x ∧ XUp G x) : WW G 28 [(0, .ref (gB G + r0))] [.ref (gB G + t1), .ref (gB G + t0)] σ := by
  obtain ⟨_, e1, hf⟩ := xbd hf
  obtain ⟨σ3, e2, hf⟩ := xbd hf
  refine pf_X12_20 (pc := 28) C hN (xnz_spec e1) e2 dX12_init_28 ?_
  refine ww_aload_n (pc := 31) C 0 dX12_init_31 rfl ?_
  refine ww_sipush (pc := 32) (v := (403 : Int32)) C dX12_init_32 (by decide) ?_
  obtain ⟨⟨z5, σ6⟩, e4, hf⟩ := xbd hf
  dsimp only at hf
  refine ww_newI (pc := 35) C q77 e4 (fun q => by have hm9 := m_X12_init_j37 hf; exact XLim.mid q (xnA_ext e4) hm9 hk.2) dX12_init_35 ?_
  refine ww_sub [0] rfl ?_
  exact s_X12_init_j37 C hN hf hk
theorem m_X12_init_j28 {σ : XS} {r0 : Nat} {t0 : Nat} {t1 : Nat} {x : XS} (hf : f_X12_init_j28 σ r0 t0 t1 = some x) : xext σ x := by
  have hm := xext.rf (σ := σ)
  obtain ⟨_, e1, hf⟩ := xbd hf
  obtain ⟨σ3, e2, hf⟩ := xbd hf
  have hm := hm.tr (xpR_same e2).ext
  obtain ⟨⟨z5, σ6⟩, e4, hf⟩ := xbd hf
  dsimp only at hf
  have hm := hm.tr (xnA_ext e4)
  exact hm.tr (m_X12_init_j37 hf)
theorem s_X12_init_j19 {G : XG} (C : XC G cX12_init RX12 none 1 2 48) (hN : (gh G).name = "<init>") {σ : XS} {r0 : Nat} {t0 : Nat} {t1 : Nat} {x : XS} (hf : f_X12_init_j19 σ r0 t0 t1 = some x) (hk : XEnd G none x ∧ XUp G x) : WW G 19 [(0, .ref (gB G + r0))] [.ref (gB G + t1), .ref (gB G + t0)] σ := by
  obtain ⟨_, e1, hf⟩ := xbd hf
  obtain ⟨σ3, e2, hf⟩ := xbd hf
  refine pf_X12_17 (pc := 19) C hN (xnz_spec e1) e2 dX12_init_19 ?_
  refine ww_aload_n (pc := 22) C 0 dX12_init_22 rfl ?_
  refine ww_sipush (pc := 23) (v := (403 : Int32)) C dX12_init_23 (by decide) ?_
  obtain ⟨⟨z5, σ6⟩, e4, hf⟩ := xbd hf
  dsimp only at hf
  refine ww_newI (pc := 26) C q77 e4 (fun q => by have hm9 := m_X12_init_j28 hf; exact XLim.mid q (xnA_ext e4) hm9 hk.2) dX12_init_26 ?_
  refine ww_sub [0] rfl ?_
  exact s_X12_init_j28 C hN hf hk
theorem m_X12_init_j19 {σ : XS} {r0 : Nat} {t0 : Nat} {t1 : Nat} {x : XS} (hf : f_X12_init_j19 σ r0 t0 t1 = some x) : xext σ x := by
  have hm := xext.rf (σ := σ)
  obtain ⟨_, e1, hf⟩ := xbd hf
  obtain ⟨σ3, e2, hf⟩ := xbd hf
  have hm := hm.tr (xpR_same e2).ext
  obtain ⟨⟨z5, σ6⟩, e4, hf⟩ := xbd hf
  dsimp only at hf
  have hm := hm.tr (xnA_ext e4)
  exact hm.tr (m_X12_init_j28 hf)
theorem s_X12_init_j10 {G : XG} (C : XC G cX12_init RX12 none 1 2 48) (hN : (gh G).name = "<init>") {σ : XS} {r0 : Nat} {t0 : Nat} {t1 : Nat} {x : XS} (hf : f_X12_init_j10 σ r0 t0 t1 = some x) (hk : XEnd G none x ∧ XUp G x) : WW G 10 [(0, .ref (gB G + r0))] [.ref (gB G + t1), .ref (gB G + t0)] σ := by
  obtain ⟨_, e1, hf⟩ := xbd hf
  obtain ⟨σ3, e2, hf⟩ := xbd hf
  refine pf_X12_13 (pc := 10) C hN (xnz_spec e1) e2 dX12_init_10 ?_
  refine ww_aload_n (pc := 13) C 0 dX12_init_13 rfl ?_
  refine ww_sipush (pc := 14) (v := (2000 : Int32)) C dX12_init_14 (by decide) ?_
  obtain ⟨⟨z5, σ6⟩, e4, hf⟩ := xbd hf
  dsimp only at hf
  refine ww_newB (pc := 17) C q76 e4 (fun q => by have hm9 := m_X12_init_j19 hf; exact XLim.mid q (xnA_ext e4) hm9 hk.2) dX12_init_17 ?_
  refine ww_sub [0] rfl ?_
  exact s_X12_init_j19 C hN hf hk
theorem m_X12_init_j10 {σ : XS} {r0 : Nat} {t0 : Nat} {t1 : Nat} {x : XS} (hf : f_X12_init_j10 σ r0 t0 t1 = some x) : xext σ x := by
  have hm := xext.rf (σ := σ)
  obtain ⟨_, e1, hf⟩ := xbd hf
  obtain ⟨σ3, e2, hf⟩ := xbd hf
  have hm := hm.tr (xpR_same e2).ext
  obtain ⟨⟨z5, σ6⟩, e4, hf⟩ := xbd hf
  dsimp only at hf
  have hm := hm.tr (xnA_ext e4)
  exact hm.tr (m_X12_init_j19 hf)
theorem s_X12_init_e {G : XG} (C : XC G cX12_init RX12 none 1 2 48) (hN : (gh G).name = "<init>") {σ : XS} {r0 : Nat} {x : XS} (hf : f_X12_init σ r0 = some x) (hk : XEnd G none x ∧ XUp G x) : WW G 0 [(0, .ref (gB G + r0))] [] σ := by
  refine ww_aload_n (pc := 0) C 0 dX12_init_0 rfl ?_
  refine ww_objInit (pc := 1) C qo_X12_7 qoi qoc ⟨by decide, by decide⟩ dX12_init_1 ?_
  refine ww_aload_n (pc := 4) C 0 dX12_init_4 rfl ?_
  refine ww_sipush (pc := 5) (v := (2000 : Int32)) C dX12_init_5 (by decide) ?_
  obtain ⟨⟨z2, σ3⟩, e1, hf⟩ := xbd hf
  dsimp only at hf
  refine ww_newB (pc := 8) C q76 e1 (fun q => by have hm9 := m_X12_init_j10 hf; exact XLim.mid q (xnA_ext e1) hm9 hk.2) dX12_init_8 ?_
  refine ww_sub [0] rfl ?_
  exact s_X12_init_j10 C hN hf hk
theorem m_X12_init {σ : XS} {r0 : Nat} {x : XS} (hf : f_X12_init σ r0 = some x) : xext σ x := by
  have hm := xext.rf (σ := σ)
  obtain ⟨⟨z2, σ3⟩, e1, hf⟩ := xbd hf
  dsimp only at hf
  have hm := hm.tr (xnA_ext e1)
  exact hm.tr (m_X12_init_j10 hf)
theorem k_X12_init {l : Launch} {E : XD} {hb : Nat} {σ : XS} {r0 : Nat} {x : XS} (h : f_X12_init σ r0 = some x) : XM l yX12_init cX12_init 1 none 2 48 E hb [.ref (hb + r0)] σ none x := by
  refine xm_of (by decide) (Nat.le_of_ble_eq_true rfl) (m_X12_init h).1 (fun G hG C hl hQ => ?_)
  obtain ⟨rfl, rfl, rfl, hN⟩ := hG
  exact s_X12_init_e C hN h ⟨hQ, hl.2⟩
noncomputable def f_X12_is (σ : XS) (r0 : Nat) (x1 : Int32) : Option Int32 := (xgI σ r0 12 12).bind fun v2 => if v2 = 0 then ((xgR σ r0 12 5).bind fun z4 => (xgI σ r0 12 11).bind fun v6 => (xaI σ 20 z4 v6).bind fun v8 => if v8 = x1 then (some (1 : Int32)) else some (0 : Int32)) else some (0 : Int32)
theorem s_X12_is_e {G : XG} (C : XC G cX12_is RX12 (some .boolean) 2 0 0) {σ : XS} {r0 : Nat} {x1 : Int32} {x : Int32} (hf : f_X12_is σ r0 x1 = some x) (hk : XEnd G (some (.int x)) σ) : WW G 0 [(0, .ref (gB G + r0)), (1, .int x1)] [] σ := by
  refine ww_aload_n (pc := 0) C 0 dX12_is_0 rfl ?_
  obtain ⟨v2, e1, hf⟩ := xbd hf
  refine gf_X12_132 (pc := 1) C e1 dX12_is_1 ?_
  refine ww_if_ne (pc := 4) (tgt := 24) C dX12_is_4 (by decide) (fun q => ?_) (fun q => ?_)
  · have hf := xin q hf
    refine ww_iconst (pc := 24) (v := (0 : Int32)) C dX12_is_24 (by decide) ?_
    have hf := xsj hf
    subst hf
    exact ww_zret (pc := 25) C rfl hk dX12_is_25
  · have hf := xip q hf
    refine ww_aload_n (pc := 7) C 0 dX12_is_7 rfl ?_
    obtain ⟨z4, e3, hf⟩ := xbd hf
    refine gf_X12_20 (pc := 8) C e3 dX12_is_8 ?_
    refine ww_aload_n (pc := 11) C 0 dX12_is_11 rfl ?_
    obtain ⟨v6, e5, hf⟩ := xbd hf
    refine gf_X12_135 (pc := 12) C e5 dX12_is_12 ?_
    obtain ⟨v8, e7, hf⟩ := xbd hf
    refine ww_iald (pc := 15) C e7 dX12_is_15 ?_
    refine ww_iload_n (pc := 16) C 1 dX12_is_16 rfl ?_
    refine ww_icmp_ne (pc := 17) (tgt := 24) C dX12_is_17 (by decide) (fun q => ?_) (fun q => ?_)
    · have hf := xin q hf
      refine ww_iconst (pc := 24) (v := (0 : Int32)) C dX12_is_24 (by decide) ?_
      have hf := xsj hf
      subst hf
      exact ww_zret (pc := 25) C rfl hk dX12_is_25
    · have hf := xip q hf
      refine ww_iconst (pc := 20) (v := (1 : Int32)) C dX12_is_20 (by decide) ?_
      refine ww_goto (pc := 21) (tgt := 25) C dX12_is_21 (by decide) ?_
      have hf := xsj hf
      subst hf
      exact ww_zret (pc := 25) C rfl hk dX12_is_25
theorem k_X12_is {l : Launch} {E : XD} {hb : Nat} {σ : XS} {r0 : Nat} {x1 : Int32} {x : Int32} (h : f_X12_is σ r0 x1 = some x) : XM l yX12_is cX12_is 2 (some .boolean) 0 0 E hb [.ref (hb + r0), .int x1] σ (some (.int x)) σ := by
  refine xm_of (by decide) (Nat.le_of_ble_eq_true rfl) ⟨Nat.le_refl _, Nat.le_refl _⟩ (fun G hG C hl hQ => ?_)
  obtain ⟨rfl, rfl, rfl, hN⟩ := hG
  exact s_X12_is_e C h hQ
noncomputable def f_X12_wrong_j46 (σ : XS) (r0 : Nat) (x1 : Int32) (x3 : Int32) : Option XS := (xpI σ r0 12 14 x1).bind fun σ2 => (xpI σ2 r0 12 15 x3).bind fun σ4 => some σ4
noncomputable def f_X12_wrong (σ : XS) (r0 : Nat) (x1 : Int32) (x2 : Int32) : Option XS := (xgR σ r0 12 6).bind fun z2 => (xaI σ 20 z2 x2).bind fun v4 => (xgI σ r0 12 12).bind fun v6 => if 0 < v6 then (some σ) else (xgI σ r0 12 14).bind fun v8 => if v8 = 0 then (f_X12_wrong_j46 σ r0 x1 v4) else (xgI σ r0 12 15).bind fun v10 => if v10 < v4 then (some σ) else (xgI σ r0 12 15).bind fun v12 => if v4 = v12 then ((xgI σ r0 12 14).bind fun v14 => if x1 < v14 then (f_X12_wrong_j46 σ r0 x1 v4) else some σ) else f_X12_wrong_j46 σ r0 x1 v4
theorem s_X12_wrong_j46 {G : XG} (C : XC G cX12_wrong RX12 none 4 0 0) {σ : XS} {r0 : Nat} {x1 : Int32} {x3 : Int32} {x : XS} (hf : f_X12_wrong_j46 σ r0 x1 x3 = some x) (hk : XEnd G none x) : WW G 46 [(0, .ref (gB G + r0)), (1, .int x1), (3, .int x3)] [] σ := by
  refine ww_aload_n (pc := 46) C 0 dX12_wrong_46 rfl ?_
  refine ww_iload_n (pc := 47) C 1 dX12_wrong_47 rfl ?_
  obtain ⟨σ2, e1, hf⟩ := xbd hf
  refine pf_X12_141 (pc := 48) C e1 dX12_wrong_48 ?_
  refine ww_aload_n (pc := 51) C 0 dX12_wrong_51 rfl ?_
  refine ww_iload_n (pc := 52) C 2 dX12_wrong_52 rfl ?_
  obtain ⟨σ4, e3, hf⟩ := xbd hf
  refine pf_X12_144 (pc := 53) C e3 dX12_wrong_53 ?_
  have hf := xsj hf
  subst hf
  exact ww_vret (pc := 56) C hk dX12_wrong_56
theorem m_X12_wrong_j46 {σ : XS} {r0 : Nat} {x1 : Int32} {x3 : Int32} {x : XS} (hf : f_X12_wrong_j46 σ r0 x1 x3 = some x) : xsame σ x := by
  have hm := xsame.rf (σ := σ)
  obtain ⟨σ2, e1, hf⟩ := xbd hf
  have hm := hm.tr (xpI_same e1)
  obtain ⟨σ4, e3, hf⟩ := xbd hf
  have hm := hm.tr (xpI_same e3)
  have hf := xsj hf
  subst hf
  exact hm
theorem s_X12_wrong_e {G : XG} (C : XC G cX12_wrong RX12 none 4 0 0) {σ : XS} {r0 : Nat} {x1 : Int32} {x2 : Int32} {x : XS} (hf : f_X12_wrong σ r0 x1 x2 = some x) (hk : XEnd G none x) : WW G 0 [(0, .ref (gB G + r0)), (1, .int x1), (2, .int x2)] [] σ := by
  refine ww_aload_n (pc := 0) C 0 dX12_wrong_0 rfl ?_
  obtain ⟨z2, e1, hf⟩ := xbd hf
  refine gf_X12_24 (pc := 1) C e1 dX12_wrong_1 ?_
  refine ww_iload_n (pc := 4) C 2 dX12_wrong_4 rfl ?_
  obtain ⟨v4, e3, hf⟩ := xbd hf
  refine ww_iald (pc := 5) C e3 dX12_wrong_5 ?_
  refine ww_istore_n (pc := 6) (lv' := [(3, .int v4), (0, .ref (gB G + r0)), (1, .int x1), (2, .int x2)]) C dX12_wrong_6 (by decide) rfl ?_
  refine ww_aload_n (pc := 7) C 1 dX12_wrong_7 rfl ?_
  obtain ⟨v6, e5, hf⟩ := xbd hf
  refine gf_X12_132 (pc := 8) C e5 dX12_wrong_8 ?_
  refine ww_if_gt (pc := 11) (tgt := 45) C dX12_wrong_11 (by decide) (fun q => ?_) (fun q => ?_)
  · have hf := xip q hf
    have hf := xsj hf
    subst hf
    exact ww_vret (pc := 45) C hk dX12_wrong_45
  · have hf := xin q hf
    refine ww_aload_n (pc := 14) C 1 dX12_wrong_14 rfl ?_
    obtain ⟨v8, e7, hf⟩ := xbd hf
    refine gf_X12_141 (pc := 15) C e7 dX12_wrong_15 ?_
    refine ww_if_eq (pc := 18) (tgt := 46) C dX12_wrong_18 (by decide) (fun q => ?_) (fun q => ?_)
    · have hf := xip q hf
      refine ww_sub [1, 2, 0] rfl ?_
      exact s_X12_wrong_j46 C hf hk
    · have hf := xin q hf
      refine ww_iload_n (pc := 21) C 0 dX12_wrong_21 rfl ?_
      refine ww_aload_n (pc := 22) C 1 dX12_wrong_22 rfl ?_
      obtain ⟨v10, e9, hf⟩ := xbd hf
      refine gf_X12_144 (pc := 23) C e9 dX12_wrong_23 ?_
      refine ww_icmp_gt (pc := 26) (tgt := 45) C dX12_wrong_26 (by decide) (fun q => ?_) (fun q => ?_)
      · have hf := xip q hf
        have hf := xsj hf
        subst hf
        exact ww_vret (pc := 45) C hk dX12_wrong_45
      · have hf := xin q hf
        refine ww_iload_n (pc := 29) C 0 dX12_wrong_29 rfl ?_
        refine ww_aload_n (pc := 30) C 1 dX12_wrong_30 rfl ?_
        obtain ⟨v12, e11, hf⟩ := xbd hf
        refine gf_X12_144 (pc := 31) C e11 dX12_wrong_31 ?_
        refine ww_icmp_ne (pc := 34) (tgt := 46) C dX12_wrong_34 (by decide) (fun q => ?_) (fun q => ?_)
        · have hf := xin q hf
          refine ww_sub [1, 2, 0] rfl ?_
          exact s_X12_wrong_j46 C hf hk
        · have hf := xip q hf
          refine ww_iload_n (pc := 37) C 2 dX12_wrong_37 rfl ?_
          refine ww_aload_n (pc := 38) C 1 dX12_wrong_38 rfl ?_
          obtain ⟨v14, e13, hf⟩ := xbd hf
          refine gf_X12_141 (pc := 39) C e13 dX12_wrong_39 ?_
          refine ww_icmp_lt (pc := 42) (tgt := 46) C dX12_wrong_42 (by decide) (fun q => ?_) (fun q => ?_)
          · have hf := xip q hf
            refine ww_sub [1, 2, 0] rfl ?_
            exact s_X12_wrong_j46 C hf hk
          · have hf := xin q hf
            have hf := xsj hf
            subst hf
            exact ww_vret (pc := 45) C hk dX12_wrong_45
theorem m_X12_wrong {σ : XS} {r0 : Nat} {x1 : Int32} {x2 : Int32} {x : XS} (hf : f_X12_wrong σ r0 x1 x2 = some x) : xsame σ x := by
  have hm := xsame.rf (σ := σ)
  obtain ⟨z2, e1, hf⟩ := xbd hf
  obtain ⟨v4, e3, hf⟩ := xbd hf
  obtain ⟨v6, e5, hf⟩ := xbd hf
  by_cases q : 0 < v6
  · have hf := xip q hf
    have hf := xsj hf
    subst hf
    exact hm
  · have hf := xin q hf
    obtain ⟨v8, e7, hf⟩ := xbd hf
    by_cases q : v8 = 0
    · have hf := xip q hf
      exact hm.tr (m_X12_wrong_j46 hf)
    · have hf := xin q hf
      obtain ⟨v10, e9, hf⟩ := xbd hf
      by_cases q : v10 < v4
      · have hf := xip q hf
        have hf := xsj hf
        subst hf
        exact hm
      · have hf := xin q hf
        obtain ⟨v12, e11, hf⟩ := xbd hf
        by_cases q : v4 = v12
        · have hf := xip q hf
          obtain ⟨v14, e13, hf⟩ := xbd hf
          by_cases q : x1 < v14
          · have hf := xip q hf
            exact hm.tr (m_X12_wrong_j46 hf)
          · have hf := xin q hf
            have hf := xsj hf
            subst hf
            exact hm
        · have hf := xin q hf
          exact hm.tr (m_X12_wrong_j46 hf)
theorem k_X12_wrong {l : Launch} {E : XD} {hb : Nat} {σ : XS} {r0 : Nat} {x1 : Int32} {x2 : Int32} {x : XS} (h : f_X12_wrong σ r0 x1 x2 = some x) : XM l yX12_wrong cX12_wrong 4 none 0 0 E hb [.ref (hb + r0), .int x1, .int x2] σ none x := by
  refine xm_of (by decide) (Nat.le_of_ble_eq_true rfl) (m_X12_wrong h).le (fun G hG C hl hQ => ?_)
  obtain ⟨rfl, rfl, rfl, hN⟩ := hG
  exact s_X12_wrong_e C h hQ
noncomputable def f_X12_jAt_j34 (σ : XS) (r0 : Nat) (x1 : Int32) (x2 : Int32) : Option (Int32 × XS) := (xgR σ r0 12 5).bind fun z2 => (xaI σ 20 z2 x1).bind fun v4 => if v4 = (5 : Int32) then ((xgR σ r0 12 7).bind fun z6 => (xaI σ 20 z6 x2).bind fun v8 => some (-v8, σ)) else (xgR σ r0 12 7).bind fun z6 => (xaI σ 20 z6 x2).bind fun v8 => some (v8, σ)
noncomputable def f_X12_jAt_j17 (σ : XS) (r0 : Nat) (x1 : Int32) (t0 : Int32) : Option (Int32 × XS) := (xgR σ r0 12 7).bind fun z2 => (xaI σ 20 z2 t0).bind fun v4 => if v4 ≤ (3 : Int32) then (f_X12_jAt_j34 σ r0 x1 t0) else (xck σ r0 12).bind fun _ => (f_X12_wrong σ r0 (3 : Int32) t0).bind fun σ7 => f_X12_jAt_j34 σ7 r0 x1 t0
noncomputable def f_X12_jAt (σ : XS) (r0 : Nat) (x1 : Int32) : Option (Int32 × XS) := (xgR σ r0 12 5).bind fun z2 => (xaI σ 20 z2 x1).bind fun v4 => if v4 = (5 : Int32) then (f_X12_jAt_j17 σ r0 x1 (x1 + (1 : Int32))) else f_X12_jAt_j17 σ r0 x1 x1
theorem s_X12_jAt_j34 {G : XG} (C : XC G cX12_jAt RX12 (some .int) 3 1 23) {σ : XS} {r0 : Nat} {x1 : Int32} {x2 : Int32} {x : Int32 × XS} (hf : f_X12_jAt_j34 σ r0 x1 x2 = some x) (hk : XEnd G (some (.int x.1)) x.2) : WW G 34 [(0, .ref (gB G + r0)), (1, .int x1), (2, .int x2)] [] σ := by
  refine ww_aload_n (pc := 34) C 0 dX12_jAt_34 rfl ?_
  obtain ⟨z2, e1, hf⟩ := xbd hf
  refine gf_X12_20 (pc := 35) C e1 dX12_jAt_35 ?_
  refine ww_iload_n (pc := 38) C 1 dX12_jAt_38 rfl ?_
  obtain ⟨v4, e3, hf⟩ := xbd hf
  refine ww_iald (pc := 39) C e3 dX12_jAt_39 ?_
  refine ww_iconst (pc := 40) (v := (5 : Int32)) C dX12_jAt_40 (by decide) ?_
  refine ww_icmp_ne (pc := 41) (tgt := 54) C dX12_jAt_41 (by decide) (fun q => ?_) (fun q => ?_)
  · have hf := xin q hf
    refine ww_aload_n (pc := 54) C 0 dX12_jAt_54 rfl ?_
    obtain ⟨z6, e5, hf⟩ := xbd hf
    refine gf_X12_27 (pc := 55) C e5 dX12_jAt_55 ?_
    refine ww_iload_n (pc := 58) C 2 dX12_jAt_58 rfl ?_
    obtain ⟨v8, e7, hf⟩ := xbd hf
    refine ww_iald (pc := 59) C e7 dX12_jAt_59 ?_
    have hf := xsj hf
    subst hf
    exact ww_iret (pc := 60) C hk dX12_jAt_60
  · have hf := xip q hf
    refine ww_aload_n (pc := 44) C 0 dX12_jAt_44 rfl ?_
    obtain ⟨z6, e5, hf⟩ := xbd hf
    refine gf_X12_27 (pc := 45) C e5 dX12_jAt_45 ?_
    refine ww_iload_n (pc := 48) C 2 dX12_jAt_48 rfl ?_
    obtain ⟨v8, e7, hf⟩ := xbd hf
    refine ww_iald (pc := 49) C e7 dX12_jAt_49 ?_
    refine ww_ineg (pc := 50) C dX12_jAt_50 ?_
    refine ww_goto (pc := 51) (tgt := 60) C dX12_jAt_51 (by decide) ?_
    have hf := xsj hf
    subst hf
    exact ww_iret (pc := 60) C hk dX12_jAt_60
theorem m_X12_jAt_j34 {σ : XS} {r0 : Nat} {x1 : Int32} {x2 : Int32} {x : Int32 × XS} (hf : f_X12_jAt_j34 σ r0 x1 x2 = some x) : xsame σ x.2 := by
  have hm := xsame.rf (σ := σ)
  obtain ⟨z2, e1, hf⟩ := xbd hf
  obtain ⟨v4, e3, hf⟩ := xbd hf
  by_cases q : v4 = (5 : Int32)
  · have hf := xip q hf
    obtain ⟨z6, e5, hf⟩ := xbd hf
    obtain ⟨v8, e7, hf⟩ := xbd hf
    have hf := xsj hf
    subst hf
    exact hm
  · have hf := xin q hf
    obtain ⟨z6, e5, hf⟩ := xbd hf
    obtain ⟨v8, e7, hf⟩ := xbd hf
    have hf := xsj hf
    subst hf
    exact hm
theorem s_X12_jAt_j17 {G : XG} (C : XC G cX12_jAt RX12 (some .int) 3 1 23) {σ : XS} {r0 : Nat} {x1 : Int32} {t0 : Int32} {x : Int32 × XS} (hf : f_X12_jAt_j17 σ r0 x1 t0 = some x) (hk : XEnd G (some (.int x.1)) x.2) : WW G 17 [(0, .ref (gB G + r0)), (1, .int x1)] [.int t0] σ := by
  refine ww_istore_n (pc := 17) (lv' := [(2, .int t0), (0, .ref (gB G + r0)), (1, .int x1)]) C dX12_jAt_17 (by decide) rfl ?_
  refine ww_aload_n (pc := 18) C 1 dX12_jAt_18 rfl ?_
  obtain ⟨z2, e1, hf⟩ := xbd hf
  refine gf_X12_27 (pc := 19) C e1 dX12_jAt_19 ?_
  refine ww_iload_n (pc := 22) C 0 dX12_jAt_22 rfl ?_
  obtain ⟨v4, e3, hf⟩ := xbd hf
  refine ww_iald (pc := 23) C e3 dX12_jAt_23 ?_
  refine ww_iconst (pc := 24) (v := (3 : Int32)) C dX12_jAt_24 (by decide) ?_
  refine ww_icmp_le (pc := 25) (tgt := 34) C dX12_jAt_25 (by decide) (fun q => ?_) (fun q => ?_)
  · have hf := xip q hf
    refine ww_sub [1, 2, 0] rfl ?_
    exact s_X12_jAt_j34 C hf hk
  · have hf := xin q hf
    refine ww_aload_n (pc := 28) C 1 dX12_jAt_28 rfl ?_
    refine ww_iconst (pc := 29) (v := (3 : Int32)) C dX12_jAt_29 (by decide) ?_
    refine ww_iload_n (pc := 30) C 0 dX12_jAt_30 rfl ?_
    obtain ⟨_, e5, hf⟩ := xbd hf
    obtain ⟨σ7, e6, hf⟩ := xbd hf
    refine ww_callVv (pc := 31) (as := [.int (3 : Int32), .int t0]) (st := []) C (k_X12_wrong (l := gl G) (E := gE G) (hb := gB G) (σ := σ) e6) rfl (by decide) xc_X12_209 q1477 qp132 (xck_spec e5) rfl (by decide) (xst4 (Nat.le_of_ble_eq_true rfl)) (m_X12_wrong e6).le (m_X12_wrong e6).lim dX12_jAt_31 ?_
    refine ww_sub [1, 2, 0] rfl ?_
    exact s_X12_jAt_j34 C hf hk
theorem m_X12_jAt_j17 {σ : XS} {r0 : Nat} {x1 : Int32} {t0 : Int32} {x : Int32 × XS} (hf : f_X12_jAt_j17 σ r0 x1 t0 = some x) : xsame σ x.2 := by
  have hm := xsame.rf (σ := σ)
  obtain ⟨z2, e1, hf⟩ := xbd hf
  obtain ⟨v4, e3, hf⟩ := xbd hf
  by_cases q : v4 ≤ (3 : Int32)
  · have hf := xip q hf
    exact hm.tr (m_X12_jAt_j34 hf)
  · have hf := xin q hf
    obtain ⟨_, e5, hf⟩ := xbd hf
    obtain ⟨σ7, e6, hf⟩ := xbd hf
    have hm := hm.tr (m_X12_wrong e6)
    exact hm.tr (m_X12_jAt_j34 hf)
theorem s_X12_jAt_e {G : XG} (C : XC G cX12_jAt RX12 (some .int) 3 1 23) {σ : XS} {r0 : Nat} {x1 : Int32} {x : Int32 × XS} (hf : f_X12_jAt σ r0 x1 = some x) (hk : XEnd G (some (.int x.1)) x.2) : WW G 0 [(0, .ref (gB G + r0)), (1, .int x1)] [] σ := by
  refine ww_aload_n (pc := 0) C 0 dX12_jAt_0 rfl ?_
  obtain ⟨z2, e1, hf⟩ := xbd hf
  refine gf_X12_20 (pc := 1) C e1 dX12_jAt_1 ?_
  refine ww_iload_n (pc := 4) C 1 dX12_jAt_4 rfl ?_
  obtain ⟨v4, e3, hf⟩ := xbd hf
  refine ww_iald (pc := 5) C e3 dX12_jAt_5 ?_
  refine ww_iconst (pc := 6) (v := (5 : Int32)) C dX12_jAt_6 (by decide) ?_
  refine ww_icmp_ne (pc := 7) (tgt := 16) C dX12_jAt_7 (by decide) (fun q => ?_) (fun q => ?_)
  · have hf := xin q hf
    refine ww_iload_n (pc := 16) C 1 dX12_jAt_16 rfl ?_
    refine ww_sub [0, 1] rfl ?_
    exact s_X12_jAt_j17 C hf hk
  · have hf := xip q hf
    refine ww_iload_n (pc := 10) C 1 dX12_jAt_10 rfl ?_
    refine ww_iconst (pc := 11) (v := (1 : Int32)) C dX12_jAt_11 (by decide) ?_
    refine ww_iadd (pc := 12) C dX12_jAt_12 ?_
    refine ww_goto (pc := 13) (tgt := 17) C dX12_jAt_13 (by decide) ?_
    refine ww_sub [0, 1] rfl ?_
    exact s_X12_jAt_j17 C hf hk
theorem m_X12_jAt {σ : XS} {r0 : Nat} {x1 : Int32} {x : Int32 × XS} (hf : f_X12_jAt σ r0 x1 = some x) : xsame σ x.2 := by
  have hm := xsame.rf (σ := σ)
  obtain ⟨z2, e1, hf⟩ := xbd hf
  obtain ⟨v4, e3, hf⟩ := xbd hf
  by_cases q : v4 = (5 : Int32)
  · have hf := xip q hf
    exact hm.tr (m_X12_jAt_j17 hf)
  · have hf := xin q hf
    exact hm.tr (m_X12_jAt_j17 hf)
theorem k_X12_jAt {l : Launch} {E : XD} {hb : Nat} {σ : XS} {r0 : Nat} {x1 : Int32} {x : Int32 × XS} (h : f_X12_jAt σ r0 x1 = some x) : XM l yX12_jAt cX12_jAt 3 (some .int) 1 23 E hb [.ref (hb + r0), .int x1] σ (some (.int x.1)) x.2 := by
  refine xm_of (by decide) (Nat.le_of_ble_eq_true rfl) (m_X12_jAt h).le (fun G hG C hl hQ => ?_)
  obtain ⟨rfl, rfl, rfl, hN⟩ := hG
  exact s_X12_jAt_e C h hQ
noncomputable def f_X12_laysMany_b21 (r0 : Nat) (r1 : Nat) (r2 : Nat) : Int32 × XS → Option ((Int32 × XS) ⊕ (XS)) := fun a => match a with
  | (x3, σ) => (xck σ r0 12).bind fun _ => (f_X12_states σ r0).bind fun v3 => if v3 ≤ x3 then ((some σ).map .inr) else (xck σ r0 12).bind fun _ => (f_X12_sites σ r0).bind fun v6 => (f_X12_isLawfulBy σ r1 x3 v6).bind fun v8 => if v8 = 0 then (some (.inl (x3 + (1 : Int32), σ))) else (xgI σ r0 12 18).bind fun v10 => (xck σ r0 12).bind fun _ => (f_X12_energy σ r0 r1 x3 v10).bind fun v13 => (xaI σ 20 r2 ((150 : Int32) + v13)).bind fun v15 => (xsI σ 20 r2 ((150 : Int32) + v13) (v15 + (1 : Int32))).bind fun σ17 => some (.inl (x3 + (1 : Int32), σ17))
noncomputable def f_X12_laysMany_b2 (r0 : Nat) (r1 : Nat) (r2 : Nat) : Int32 × XS → Option ((Int32 × XS) ⊕ (XS)) := fun a => match a with
  | (x3, σ) => if (301 : Int32) ≤ x3 then ((xloop (f_X12_laysMany_b21 r0 r1 r2) ((0 : Int32), σ)).map .inr) else (xsI σ 20 r2 x3 (0 : Int32)).bind fun σ2 => some (.inl (x3 + (1 : Int32), σ2))
noncomputable def f_X12_laysMany (σ : XS) (r0 : Nat) (r1 : Nat) (r2 : Nat) : Option XS := xloop (f_X12_laysMany_b2 r0 r1 r2) ((0 : Int32), σ)
theorem m_X12_laysMany_l21 {r0 : Nat} {r1 : Nat} {r2 : Nat} {a : Int32 × XS} {x : XS} (hf : xloop (f_X12_laysMany_b21 r0 r1 r2) a = some x) : xsame a.2 x := by
  refine xloop_ind (P := fun a => xsame a.2 x) (fun a y hf hc he => ?_) hf
  obtain ⟨x3, σ⟩ := a
  have hy : (∀ a' : Int32 × XS, y = .inl a' → xsame σ a'.2) ∧ (∀ b1 : XS, y = .inr b1 → xsame σ b1) := by
    have hm := xsame.rf (σ := σ)
    obtain ⟨_, e1, hf⟩ := xbd hf
    obtain ⟨v3, e2, hf⟩ := xbd hf
    by_cases q : v3 ≤ x3
    · have hf := xip q hf
      obtain ⟨b0, hg, e9⟩ := xmj hf
      subst e9
      have hf := hg
      refine ⟨fun a' e => xnc2 e, fun b e => ?_⟩
      have h9 := Sum.inr.inj e
      subst h9
      have hf := xsj hf
      subst hf
      exact hm
    · have hf := xin q hf
      obtain ⟨_, e4, hf⟩ := xbd hf
      obtain ⟨v6, e5, hf⟩ := xbd hf
      obtain ⟨v8, e7, hf⟩ := xbd hf
      by_cases q : v8 = 0
      · have hf := xip q hf
        have hf := xsj hf
        subst hf
        exact ⟨fun a' e => (by have h9 := Sum.inl.inj e; subst h9; exact hm), fun b e => xnc1 e⟩
      · have hf := xin q hf
        obtain ⟨v10, e9, hf⟩ := xbd hf
        obtain ⟨_, e11, hf⟩ := xbd hf
        obtain ⟨v13, e12, hf⟩ := xbd hf
        obtain ⟨v15, e14, hf⟩ := xbd hf
        obtain ⟨σ17, e16, hf⟩ := xbd hf
        have hm := hm.tr (xsI_same e16)
        have hf := xsj hf
        subst hf
        exact ⟨fun a' e => (by have h9 := Sum.inl.inj e; subst h9; exact hm), fun b e => xnc1 e⟩
  cases y with
  | inl a' =>
    have h1 := hc a' rfl
    have hm := hy.1 a' rfl
    exact hm.tr (h1)
  | inr b =>
    have h1 := he b rfl
    subst h1
    exact hy.2 _ rfl
theorem s_X12_laysMany_l21 {G : XG} (C : XC G cX12_laysMany RX12 none 4 3 75) {r0 : Nat} {r1 : Nat} {r2 : Nat} {a : Int32 × XS} {x : XS} (hf : xloop (f_X12_laysMany_b21 r0 r1 r2) a = some x) (hk : XEnd G none x) : WW G 21 [(0, .ref (gB G + r0)), (1, .ref (gB G + r1)), (2, .ref (gB G + r2)), (3, .int a.1)] [] a.2 := by
  refine xloop_ind (P := fun a => WW G 21 [(0, .ref (gB G + r0)), (1, .ref (gB G + r1)), (2, .ref (gB G + r2)), (3, .int a.1)] [] a.2) (fun a y hf hc he => ?_) hf
  obtain ⟨x3, σ⟩ := a
  have hk : (∀ a' : Int32 × XS, y = .inl a' → WW G 21 [(0, .ref (gB G + r0)), (1, .ref (gB G + r1)), (2, .ref (gB G + r2)), (3, .int a'.1)] [] a'.2) ∧ (∀ b1 : XS, y = .inr b1 → XEnd G none b1) := ⟨hc, fun b e => by have h9 := he b e; subst h9; exact hk⟩
  refine ww_iload_n (pc := 21) C 3 dX12_laysMany_21 rfl ?_
  refine ww_aload_n (pc := 22) C 0 dX12_laysMany_22 rfl ?_
  obtain ⟨_, e1, hf⟩ := xbd hf
  obtain ⟨v3, e2, hf⟩ := xbd hf
  refine ww_callVi (pc := 23) (as := []) (st := [.int x3]) C (k_X12_states (l := gl G) (E := gE G) (hb := gB G) (σ := σ) e2) rfl (by decide) xc_X12_270 q1555 qp141 (xck_spec e1) rfl (by decide) (xst4 (Nat.le_of_ble_eq_true rfl)) xsame.rf.le xsame.rf.lim dX12_laysMany_23 ?_
  refine ww_icmp_ge (pc := 26) (tgt := 67) C dX12_laysMany_26 (by decide) (fun q => ?_) (fun q => ?_)
  · have hf := xip q hf
    obtain ⟨b0, hg, e9⟩ := xmj hf
    subst e9
    have hf := hg
    have hk := hk.2 _ rfl
    have hf := xsj hf
    subst hf
    exact ww_vret (pc := 67) C hk dX12_laysMany_67
  · have hf := xin q hf
    refine ww_aload_n (pc := 29) C 1 dX12_laysMany_29 rfl ?_
    refine ww_iload_n (pc := 30) C 3 dX12_laysMany_30 rfl ?_
    refine ww_aload_n (pc := 31) C 0 dX12_laysMany_31 rfl ?_
    obtain ⟨_, e4, hf⟩ := xbd hf
    obtain ⟨v6, e5, hf⟩ := xbd hf
    refine ww_callVi (pc := 32) (as := []) (st := [.int x3, .ref (gB G + r1)]) C (k_X12_sites (l := gl G) (E := gE G) (hb := gB G) (σ := σ) e5) rfl (by decide) xc_X12_193 q1496 qp136 (xck_spec e4) rfl (by decide) (xst4 (Nat.le_of_ble_eq_true rfl)) xsame.rf.le xsame.rf.lim dX12_laysMany_32 ?_
    obtain ⟨v8, e7, hf⟩ := xbd hf
    refine ww_callSi (pc := 35) (as := [.ref (gB G + r1), .int x3, .int v6]) (st := []) C (k_X12_isLawfulBy (l := gl G) (E := gE G) (hb := gB G) (σ := σ) e7) xc_X12_273 q1562 rfl (by decide) (xst4 (Nat.le_of_ble_eq_true rfl)) xsame.rf.le xsame.rf.lim dX12_laysMany_35 ?_
    refine ww_if_eq (pc := 38) (tgt := 61) C dX12_laysMany_38 (by decide) (fun q => ?_) (fun q => ?_)
    · have hf := xip q hf
      refine ww_iinc (pc := 61) (v := x3 + (1 : Int32)) (lv' := [(3, .int (x3 + (1 : Int32))), (0, .ref (gB G + r0)), (1, .ref (gB G + r1)), (2, .ref (gB G + r2))]) C 3 dX12_laysMany_61 rfl (congrArg (fun z => x3 + z) (show Int32.ofInt (1) = (1 : Int32) by decide)) (by decide) rfl ?_
      refine ww_goto (pc := 64) (tgt := 21) C dX12_laysMany_64 (by decide) ?_
      have hf := xsj hf
      subst hf
      refine ww_sub [1, 2, 3, 0] rfl ?_
      exact hk.1 (x3 + (1 : Int32), σ) rfl
    · have hf := xin q hf
      refine ww_aload_n (pc := 41) C 2 dX12_laysMany_41 rfl ?_
      refine ww_sipush (pc := 42) (v := (150 : Int32)) C dX12_laysMany_42 (by decide) ?_
      refine ww_aload_n (pc := 45) C 0 dX12_laysMany_45 rfl ?_
      refine ww_aload_n (pc := 46) C 1 dX12_laysMany_46 rfl ?_
      refine ww_iload_n (pc := 47) C 3 dX12_laysMany_47 rfl ?_
      refine ww_aload_n (pc := 48) C 0 dX12_laysMany_48 rfl ?_
      obtain ⟨v10, e9, hf⟩ := xbd hf
      refine gf_X12_177 (pc := 49) C e9 dX12_laysMany_49 ?_
      obtain ⟨_, e11, hf⟩ := xbd hf
      obtain ⟨v13, e12, hf⟩ := xbd hf
      refine ww_callVi (pc := 52) (as := [.ref (gB G + r1), .int x3, .int v10]) (st := [.int (150 : Int32), .ref (gB G + r2)]) C (k_X12_energy (l := gl G) (E := gE G) (hb := gB G) (σ := σ) e12) rfl (by decide) xc_X12_277 q1566 qp143 (xck_spec e11) rfl (by decide) (xst4 (Nat.le_of_ble_eq_true rfl)) xsame.rf.le xsame.rf.lim dX12_laysMany_52 ?_
      refine ww_iadd (pc := 55) C dX12_laysMany_55 ?_
      refine ww_dup2 (pc := 56) C dX12_laysMany_56 rfl rfl ?_
      obtain ⟨v15, e14, hf⟩ := xbd hf
      refine ww_iald (pc := 57) C e14 dX12_laysMany_57 ?_
      refine ww_iconst (pc := 58) (v := (1 : Int32)) C dX12_laysMany_58 (by decide) ?_
      refine ww_iadd (pc := 59) C dX12_laysMany_59 ?_
      obtain ⟨σ17, e16, hf⟩ := xbd hf
      refine ww_iast (pc := 60) C e16 dX12_laysMany_60 ?_
      refine ww_iinc (pc := 61) (v := x3 + (1 : Int32)) (lv' := [(3, .int (x3 + (1 : Int32))), (0, .ref (gB G + r0)), (1, .ref (gB G + r1)), (2, .ref (gB G + r2))]) C 3 dX12_laysMany_61 rfl (congrArg (fun z => x3 + z) (show Int32.ofInt (1) = (1 : Int32) by decide)) (by decide) rfl ?_
      refine ww_goto (pc := 64) (tgt := 21) C dX12_laysMany_64 (by decide) ?_
      have hf := xsj hf
      subst hf
      refine ww_sub [1, 2, 3, 0] rfl ?_
      exact hk.1 (x3 + (1 : Int32), σ17) rfl
theorem m_X12_laysMany_l2 {r0 : Nat} {r1 : Nat} {r2 : Nat} {a : Int32 × XS} {x : XS} (hf : xloop (f_X12_laysMany_b2 r0 r1 r2) a = some x) : xsame a.2 x := by
  refine xloop_ind (P := fun a => xsame a.2 x) (fun a y hf hc he => ?_) hf
  obtain ⟨x3, σ⟩ := a
  have hy : (∀ a' : Int32 × XS, y = .inl a' → xsame σ a'.2) ∧ (∀ b1 : XS, y = .inr b1 → xsame σ b1) := by
    have hm := xsame.rf (σ := σ)
    by_cases q : (301 : Int32) ≤ x3
    · have hf := xip q hf
      obtain ⟨b0, hg, e9⟩ := xmj hf
      subst e9
      have hf := hg
      refine ⟨fun a' e => xnc2 e, fun b e => ?_⟩
      have h9 := Sum.inr.inj e
      subst h9
      exact hm.tr (m_X12_laysMany_l21 (a := ((0 : Int32), σ)) hf)
    · have hf := xin q hf
      obtain ⟨σ2, e1, hf⟩ := xbd hf
      have hm := hm.tr (xsI_same e1)
      have hf := xsj hf
      subst hf
      exact ⟨fun a' e => (by have h9 := Sum.inl.inj e; subst h9; exact hm), fun b e => xnc1 e⟩
  cases y with
  | inl a' =>
    have h1 := hc a' rfl
    have hm := hy.1 a' rfl
    exact hm.tr (h1)
  | inr b =>
    have h1 := he b rfl
    subst h1
    exact hy.2 _ rfl
theorem s_X12_laysMany_l2 {G : XG} (C : XC G cX12_laysMany RX12 none 4 3 75) {r0 : Nat} {r1 : Nat} {r2 : Nat} {a : Int32 × XS} {x : XS} (hf : xloop (f_X12_laysMany_b2 r0 r1 r2) a = some x) (hk : XEnd G none x) : WW G 2 [(0, .ref (gB G + r0)), (1, .ref (gB G + r1)), (2, .ref (gB G + r2)), (3, .int a.1)] [] a.2 := by
  refine xloop_ind (P := fun a => WW G 2 [(0, .ref (gB G + r0)), (1, .ref (gB G + r1)), (2, .ref (gB G + r2)), (3, .int a.1)] [] a.2) (fun a y hf hc he => ?_) hf
  obtain ⟨x3, σ⟩ := a
  have hk : (∀ a' : Int32 × XS, y = .inl a' → WW G 2 [(0, .ref (gB G + r0)), (1, .ref (gB G + r1)), (2, .ref (gB G + r2)), (3, .int a'.1)] [] a'.2) ∧ (∀ b1 : XS, y = .inr b1 → XEnd G none b1) := ⟨hc, fun b e => by have h9 := he b e; subst h9; exact hk⟩
  refine ww_iload_n (pc := 2) C 3 dX12_laysMany_2 rfl ?_
  refine ww_sipush (pc := 3) (v := (301 : Int32)) C dX12_laysMany_3 (by decide) ?_
  refine ww_icmp_ge (pc := 6) (tgt := 19) C dX12_laysMany_6 (by decide) (fun q => ?_) (fun q => ?_)
  · have hf := xip q hf
    obtain ⟨b0, hg, e9⟩ := xmj hf
    subst e9
    have hf := hg
    have hk := hk.2 _ rfl
    refine ww_iconst (pc := 19) (v := (0 : Int32)) C dX12_laysMany_19 (by decide) ?_
    refine ww_istore_n (pc := 20) (lv' := [(3, .int (0 : Int32)), (0, .ref (gB G + r0)), (1, .ref (gB G + r1)), (2, .ref (gB G + r2))]) C dX12_laysMany_20 (by decide) rfl ?_
    refine ww_sub [1, 2, 3, 0] rfl ?_
    exact s_X12_laysMany_l21 C (a := ((0 : Int32), σ)) hf hk
  · have hf := xin q hf
    refine ww_aload_n (pc := 9) C 2 dX12_laysMany_9 rfl ?_
    refine ww_iload_n (pc := 10) C 3 dX12_laysMany_10 rfl ?_
    refine ww_iconst (pc := 11) (v := (0 : Int32)) C dX12_laysMany_11 (by decide) ?_
    obtain ⟨σ2, e1, hf⟩ := xbd hf
    refine ww_iast (pc := 12) C e1 dX12_laysMany_12 ?_
    refine ww_iinc (pc := 13) (v := x3 + (1 : Int32)) (lv' := [(3, .int (x3 + (1 : Int32))), (0, .ref (gB G + r0)), (1, .ref (gB G + r1)), (2, .ref (gB G + r2))]) C 3 dX12_laysMany_13 rfl (congrArg (fun z => x3 + z) (show Int32.ofInt (1) = (1 : Int32) by decide)) (by decide) rfl ?_
    refine ww_goto (pc := 16) (tgt := 2) C dX12_laysMany_16 (by decide) ?_
    have hf := xsj hf
    subst hf
    refine ww_sub [1, 2, 3, 0] rfl ?_
    exact hk.1 (x3 + (1 : Int32), σ2) rfl
theorem s_X12_laysMany_e {G : XG} (C : XC G cX12_laysMany RX12 none 4 3 75) {σ : XS} {r0 : Nat} {r1 : Nat} {r2 : Nat} {x : XS} (hf : f_X12_laysMany σ r0 r1 r2 = some x) (hk : XEnd G none x) : WW G 0 [(0, .ref (gB G + r0)), (1, .ref (gB G + r1)), (2, .ref (gB G + r2))] [] σ := by
  refine ww_iconst (pc := 0) (v := (0 : Int32)) C dX12_laysMany_0 (by decide) ?_
  refine ww_istore_n (pc := 1) (lv' := [(3, .int (0 : Int32)), (0, .ref (gB G + r0)), (1, .ref (gB G + r1)), (2, .ref (gB G + r2))]) C dX12_laysMany_1 (by decide) rfl ?_
  refine ww_sub [1, 2, 3, 0] rfl ?_
  exact s_X12_laysMany_l2 C (a := ((0 : Int32), σ)) hf hk
theorem m_X12_laysMany {σ : XS} {r0 : Nat} {r1 : Nat} {r2 : Nat} {x : XS} (hf : f_X12_laysMany σ r0 r1 r2 = some x) : xsame σ x := by
  have hm := xsame.rf (σ := σ)
  exact hm.tr (m_X12_laysMany_l2 (a := ((0 : Int32), σ)) hf)
theorem k_X12_laysMany {l : Launch} {E : XD} {hb : Nat} {σ : XS} {r0 : Nat} {r1 : Nat} {r2 : Nat} {x : XS} (h : f_X12_laysMany σ r0 r1 r2 = some x) : XM l yX12_laysMany cX12_laysMany 4 none 3 75 E hb [.ref (hb + r0), .ref (hb + r1), .ref (hb + r2)] σ none x := by
  refine xm_of (by decide) (Nat.le_of_ble_eq_true rfl) (m_X12_laysMany h).le (fun G hG C hl hQ => ?_)
  obtain ⟨rfl, rfl, rfl, hN⟩ := hG
  exact s_X12_laysMany_e C h hQ
noncomputable def f_X12_joined_b178 (σ : XS) (r0 : Nat) (x2 : Int32) (x3 : Int32) : Int32 × Int32 → Option ((Int32 × Int32) ⊕ (Int64 × XS)) := fun a => match a with
  | (x4, x5) => if (601 : Int32) ≤ x5 then ((if x2 = (-1 : Int32) then (some (x4.toInt64, σ)) else some ((-100000 : Int64), σ)).map .inr) else (xgR σ r0 12 39).bind fun z2 => (xaL σ z2 x5).bind fun v4 => if (lg_cmp v4 (0 : Int64)) = 0 then (some (.inl (x4, x5 + (1 : Int32)))) else if x4 = x2 then ((if x3 = 0 then (some ((x5 - (300 : Int32)).toInt64, σ)) else if x3 = (1 : Int32) then ((xgR σ r0 12 39).bind fun z6 => (xaL σ z6 x5).bind fun v8 => some (v8, σ)) else some ((-100000 : Int64), σ)).map .inr) else some (.inl (x4 + (1 : Int32), x5 + (1 : Int32)))
noncomputable def f_X12_joined_b112 (r0 : Nat) (x2 : Int32) (x3 : Int32) (x4 : Int32) : Int32 × XS → Option ((Int32 × XS) ⊕ ((Int32 × XS) ⊕ (Int64 × XS))) := fun a => match a with
  | (x5, σ) => if (301 : Int32) ≤ x5 then ((some (.inl (x4 + (1 : Int32), σ))).map .inr) else (xgR σ r0 12 34).bind fun z2 => (xaI σ 20 z2 x4).bind fun v4 => if v4 ≤ 0 then ((some (.inl (x4 + (1 : Int32), σ))).map .inr) else (xgR σ r0 12 39).bind fun z6 => (xaL σ z6 (x4 + x5)).bind fun v8 => (xgR σ r0 12 34).bind fun z10 => (xaI σ 20 z10 x4).bind fun v12 => (xgR σ r0 12 38).bind fun z14 => (xaI σ 20 z14 x5).bind fun v16 => (xsL σ z6 (x4 + x5) (v8 + (v12.toInt64 * v16.toInt64))).bind fun σ18 => some (.inl (x5 + (1 : Int32), σ18))
noncomputable def f_X12_joined_b101 (r0 : Nat) (x2 : Int32) (x3 : Int32) : Int32 × XS → Option ((Int32 × XS) ⊕ (Int64 × XS)) := fun a => match a with
  | (x4, σ) => if (301 : Int32) ≤ x4 then ((xloop (f_X12_joined_b178 σ r0 x2 x3) ((0 : Int32), (0 : Int32))).map .inr) else xloop (f_X12_joined_b112 r0 x2 x3 x4) ((0 : Int32), σ)
noncomputable def f_X12_joined_b76 (r0 : Nat) (x2 : Int32) (x3 : Int32) : Int32 × XS → Option ((Int32 × XS) ⊕ (Int64 × XS)) := fun a => match a with
  | (x4, σ) => if (601 : Int32) ≤ x4 then ((xloop (f_X12_joined_b101 r0 x2 x3) ((0 : Int32), σ)).map .inr) else (xgR σ r0 12 39).bind fun z2 => (xsL σ z2 x4 (0 : Int64)).bind fun σ4 => some (.inl (x4 + (1 : Int32), σ4))
noncomputable def f_X12_joined_b29 (r0 : Nat) (x1 : Int32) (x2 : Int32) (x3 : Int32) : Int32 × XS → Option ((Int32 × XS) ⊕ (Int64 × XS)) := fun a => match a with
  | (x4, σ) => if (66 : Int32) ≤ x4 then (((xgR σ r0 12 37).bind fun z2 => (xgR σ r0 12 38).bind fun z4 => (xck σ r0 12).bind fun _ => (f_X12_laysMany σ r0 z2 z4).bind fun σ7 => xloop (f_X12_joined_b76 r0 x2 x3) ((0 : Int32), σ7)).map .inr) else (xgR σ r0 12 37).bind fun z2 => (xgR σ r0 12 30).bind fun z4 => (xaI σ 20 z4 (((66 : Int32) * x1) + x4)).bind fun v6 => (xsI σ 20 z2 x4 v6).bind fun σ8 => some (.inl (x4 + (1 : Int32), σ8))
noncomputable def f_X12_joined (σ : XS) (r0 : Nat) (x1 : Int32) (x2 : Int32) (x3 : Int32) : Option (Int64 × XS) := (f_X12_in x1 (0 : Int32) (2 : Int32)).bind fun v2 => if v2 = 0 then (some ((-100000 : Int64), σ)) else (xgR σ r0 12 31).bind fun z4 => (xaI σ 22 z4 x1).bind fun v6 => if v6 = 0 then (some ((-100000 : Int64), σ)) else (xck σ r0 12).bind fun _ => (f_X12_knows σ r0).bind fun σ9 => xloop (f_X12_joined_b29 r0 x1 x2 x3) ((0 : Int32), σ9)
theorem m_X12_joined_l178 {σ : XS} {r0 : Nat} {x2 : Int32} {x3 : Int32} {a : Int32 × Int32} {x : Int64 × XS} (hf : xloop (f_X12_joined_b178 σ r0 x2 x3) a = some x) : xsame σ x.2 := by
  refine xloop_ind (P := fun a => xsame σ x.2) (fun a y hf hc he => ?_) hf
  obtain ⟨x4, x5⟩ := a
  have hy : (∀ a' : Int32 × Int32, y = .inl a' → True) ∧ (∀ b1 : Int64 × XS, y = .inr b1 → xsame σ b1.2) := by
    have hm := xsame.rf (σ := σ)
    by_cases q : (601 : Int32) ≤ x5
    · have hf := xip q hf
      obtain ⟨b0, hg, e9⟩ := xmj hf
      subst e9
      have hf := hg
      refine ⟨fun a' e => xnc2 e, fun b e => ?_⟩
      have h9 := Sum.inr.inj e
      subst h9
      by_cases q : x2 = (-1 : Int32)
      · have hf := xip q hf
        have hf := xsj hf
        subst hf
        exact hm
      · have hf := xin q hf
        have hf := xsj hf
        subst hf
        exact hm
    · have hf := xin q hf
      obtain ⟨z2, e1, hf⟩ := xbd hf
      obtain ⟨v4, e3, hf⟩ := xbd hf
      by_cases q : (lg_cmp v4 (0 : Int64)) = 0
      · have hf := xip q hf
        have hf := xsj hf
        subst hf
        exact ⟨fun a' e => (by have h9 := Sum.inl.inj e; subst h9; exact trivial), fun b e => xnc1 e⟩
      · have hf := xin q hf
        by_cases q : x4 = x2
        · have hf := xip q hf
          obtain ⟨b0, hg, e9⟩ := xmj hf
          subst e9
          have hf := hg
          refine ⟨fun a' e => xnc2 e, fun b e => ?_⟩
          have h9 := Sum.inr.inj e
          subst h9
          by_cases q : x3 = 0
          · have hf := xip q hf
            have hf := xsj hf
            subst hf
            exact hm
          · have hf := xin q hf
            by_cases q : x3 = (1 : Int32)
            · have hf := xip q hf
              obtain ⟨z6, e5, hf⟩ := xbd hf
              obtain ⟨v8, e7, hf⟩ := xbd hf
              have hf := xsj hf
              subst hf
              exact hm
            · have hf := xin q hf
              have hf := xsj hf
              subst hf
              exact hm
        · have hf := xin q hf
          have hf := xsj hf
          subst hf
          exact ⟨fun a' e => (by have h9 := Sum.inl.inj e; subst h9; exact trivial), fun b e => xnc1 e⟩
  cases y with
  | inl a' =>
    have h1 := hc a' rfl
    exact h1
  | inr b =>
    have h1 := he b rfl
    subst h1
    exact hy.2 _ rfl
theorem s_X12_joined_l178 {G : XG} (C : XC G cX12_joined RX12 (some .long) 6 4 98) {σ : XS} {r0 : Nat} {x2 : Int32} {x3 : Int32} {a : Int32 × Int32} {x : Int64 × XS} (hf : xloop (f_X12_joined_b178 σ r0 x2 x3) a = some x) (hk : XEnd G (some (.long x.1)) x.2) : WW G 178 [(0, .ref (gB G + r0)), (2, .int x2), (3, .int x3), (4, .int a.1), (5, .int a.2)] [] σ := by
  refine xloop_ind (P := fun a => WW G 178 [(0, .ref (gB G + r0)), (2, .int x2), (3, .int x3), (4, .int a.1), (5, .int a.2)] [] σ) (fun a y hf hc he => ?_) hf
  obtain ⟨x4, x5⟩ := a
  have hk : (∀ a' : Int32 × Int32, y = .inl a' → WW G 178 [(0, .ref (gB G + r0)), (2, .int x2), (3, .int x3), (4, .int a'.1), (5, .int a'.2)] [] σ) ∧ (∀ b1 : Int64 × XS, y = .inr b1 → XEnd G (some (.long b1.1)) b1.2) := ⟨hc, fun b e => by have h9 := he b e; subst h9; exact hk⟩
  refine ww_iload (pc := 178) C 4 dX12_joined_178 rfl ?_
  refine ww_sipush (pc := 180) (v := (601 : Int32)) C dX12_joined_180 (by decide) ?_
  refine ww_icmp_ge (pc := 183) (tgt := 249) C dX12_joined_183 (by decide) (fun q => ?_) (fun q => ?_)
  · have hf := xip q hf
    obtain ⟨b0, hg, e9⟩ := xmj hf
    subst e9
    have hf := hg
    have hk := hk.2 _ rfl
    refine ww_iload_n (pc := 249) C 1 dX12_joined_249 rfl ?_
    refine ww_iconst (pc := 250) (v := (-1 : Int32)) C dX12_joined_250 (by decide) ?_
    refine ww_icmp_ne (pc := 251) (tgt := 260) C dX12_joined_251 (by decide) (fun q => ?_) (fun q => ?_)
    · have hf := xin q hf
      refine ww_ldc2 (pc := 260) C q1657 dX12_joined_260 ?_
      have hf := xsj hf
      subst hf
      exact ww_lret (pc := 263) C hk dX12_joined_263
    · have hf := xip q hf
      refine ww_iload (pc := 254) C 3 dX12_joined_254 rfl ?_
      refine ww_i2l (pc := 256) (v := x4.toInt64) C dX12_joined_256 rfl ?_
      refine ww_goto (pc := 257) (tgt := 263) C dX12_joined_257 (by decide) ?_
      have hf := xsj hf
      subst hf
      exact ww_lret (pc := 263) C hk dX12_joined_263
  · have hf := xin q hf
    refine ww_aload_n (pc := 186) C 0 dX12_joined_186 rfl ?_
    obtain ⟨z2, e1, hf⟩ := xbd hf
    refine gf_X12_72 (pc := 187) C e1 dX12_joined_187 ?_
    refine ww_iload (pc := 190) C 4 dX12_joined_190 rfl ?_
    obtain ⟨v4, e3, hf⟩ := xbd hf
    refine ww_lald (pc := 192) C e3 dX12_joined_192 ?_
    refine ww_lconst (pc := 193) (v := (0 : Int64)) C dX12_joined_193 (by decide) ?_
    refine ww_lcmp (pc := 194) C dX12_joined_194 ?_
    refine ww_if_ne (pc := 195) (tgt := 201) C dX12_joined_195 (by decide) (fun q => ?_) (fun q => ?_)
    · have hf := xin q hf
      refine ww_iload (pc := 201) C 3 dX12_joined_201 rfl ?_
      refine ww_iload_n (pc := 203) C 1 dX12_joined_203 rfl ?_
      refine ww_icmp_ne (pc := 204) (tgt := 240) C dX12_joined_204 (by decide) (fun q => ?_) (fun q => ?_)
      · have hf := xin q hf
        refine ww_iinc (pc := 240) (v := x4 + (1 : Int32)) (lv' := [(4, .int (x4 + (1 : Int32))), (0, .ref (gB G + r0)), (2, .int x2), (3, .int x3), (5, .int x5)]) C 3 dX12_joined_240 rfl (congrArg (fun z => x4 + z) (show Int32.ofInt (1) = (1 : Int32) by decide)) (by decide) rfl ?_
        refine ww_iinc (pc := 243) (v := x5 + (1 : Int32)) (lv' := [(5, .int (x5 + (1 : Int32))), (4, .int (x4 + (1 : Int32))), (0, .ref (gB G + r0)), (2, .int x2), (3, .int x3)]) C 4 dX12_joined_243 rfl (congrArg (fun z => x5 + z) (show Int32.ofInt (1) = (1 : Int32) by decide)) (by decide) rfl ?_
        refine ww_goto (pc := 246) (tgt := 178) C dX12_joined_246 (by decide) ?_
        have hf := xsj hf
        subst hf
        refine ww_sub [2, 3, 4, 1, 0] rfl ?_
        exact hk.1 (x4 + (1 : Int32), x5 + (1 : Int32)) rfl
      · have hf := xip q hf
        obtain ⟨b0, hg, e9⟩ := xmj hf
        subst e9
        have hf := hg
        have hk := hk.2 _ rfl
        refine ww_iload_n (pc := 207) C 2 dX12_joined_207 rfl ?_
        refine ww_if_ne (pc := 208) (tgt := 221) C dX12_joined_208 (by decide) (fun q => ?_) (fun q => ?_)
        · have hf := xin q hf
          refine ww_iload_n (pc := 221) C 2 dX12_joined_221 rfl ?_
          refine ww_iconst (pc := 222) (v := (1 : Int32)) C dX12_joined_222 (by decide) ?_
          refine ww_icmp_ne (pc := 223) (tgt := 236) C dX12_joined_223 (by decide) (fun q => ?_) (fun q => ?_)
          · have hf := xin q hf
            refine ww_ldc2 (pc := 236) C q1657 dX12_joined_236 ?_
            have hf := xsj hf
            subst hf
            exact ww_lret (pc := 239) C hk dX12_joined_239
          · have hf := xip q hf
            refine ww_aload_n (pc := 226) C 0 dX12_joined_226 rfl ?_
            obtain ⟨z6, e5, hf⟩ := xbd hf
            refine gf_X12_72 (pc := 227) C e5 dX12_joined_227 ?_
            refine ww_iload (pc := 230) C 4 dX12_joined_230 rfl ?_
            obtain ⟨v8, e7, hf⟩ := xbd hf
            refine ww_lald (pc := 232) C e7 dX12_joined_232 ?_
            refine ww_goto (pc := 233) (tgt := 239) C dX12_joined_233 (by decide) ?_
            have hf := xsj hf
            subst hf
            exact ww_lret (pc := 239) C hk dX12_joined_239
        · have hf := xip q hf
          refine ww_iload (pc := 211) C 4 dX12_joined_211 rfl ?_
          refine ww_sipush (pc := 213) (v := (300 : Int32)) C dX12_joined_213 (by decide) ?_
          refine ww_isub (pc := 216) C dX12_joined_216 ?_
          refine ww_i2l (pc := 217) (v := (x5 - (300 : Int32)).toInt64) C dX12_joined_217 rfl ?_
          refine ww_goto (pc := 218) (tgt := 239) C dX12_joined_218 (by decide) ?_
          have hf := xsj hf
          subst hf
          exact ww_lret (pc := 239) C hk dX12_joined_239
    · have hf := xip q hf
      refine ww_goto (pc := 198) (tgt := 243) C dX12_joined_198 (by decide) ?_
      refine ww_iinc (pc := 243) (v := x5 + (1 : Int32)) (lv' := [(5, .int (x5 + (1 : Int32))), (0, .ref (gB G + r0)), (2, .int x2), (3, .int x3), (4, .int x4)]) C 4 dX12_joined_243 rfl (congrArg (fun z => x5 + z) (show Int32.ofInt (1) = (1 : Int32) by decide)) (by decide) rfl ?_
      refine ww_goto (pc := 246) (tgt := 178) C dX12_joined_246 (by decide) ?_
      have hf := xsj hf
      subst hf
      refine ww_sub [1, 2, 3, 4, 0] rfl ?_
      exact hk.1 (x4, x5 + (1 : Int32)) rfl
theorem m_X12_joined_l112 {r0 : Nat} {x2 : Int32} {x3 : Int32} {x4 : Int32} {a : Int32 × XS} {x : ((Int32 × XS) ⊕ (Int64 × XS))} (hf : xloop (f_X12_joined_b112 r0 x2 x3 x4) a = some x) : (∀ a' : Int32 × XS, x = .inl a' → xsame a.2 a'.2) ∧ (∀ b1 : Int64 × XS, x = .inr b1 → xsame a.2 b1.2) := by
  refine xloop_ind (P := fun a => (∀ a' : Int32 × XS, x = .inl a' → xsame a.2 a'.2) ∧ (∀ b1 : Int64 × XS, x = .inr b1 → xsame a.2 b1.2)) (fun a y hf hc he => ?_) hf
  obtain ⟨x5, σ⟩ := a
  have hy : (∀ a' : Int32 × XS, y = .inl a' → xsame σ a'.2) ∧ (∀ b2 : ((Int32 × XS) ⊕ (Int64 × XS)), y = .inr b2 → (∀ a' : Int32 × XS, b2 = .inl a' → xsame σ a'.2) ∧ (∀ b1 : Int64 × XS, b2 = .inr b1 → xsame σ b1.2)) := by
    have hm := xsame.rf (σ := σ)
    by_cases q : (301 : Int32) ≤ x5
    · have hf := xip q hf
      obtain ⟨b0, hg, e9⟩ := xmj hf
      subst e9
      have hf := hg
      refine ⟨fun a' e => xnc2 e, fun b e => ?_⟩
      have h9 := Sum.inr.inj e
      subst h9
      have hf := xsj hf
      subst hf
      exact ⟨fun a' e => (by have h9 := Sum.inl.inj e; subst h9; exact hm), fun b e => xnc1 e⟩
    · have hf := xin q hf
      obtain ⟨z2, e1, hf⟩ := xbd hf
      obtain ⟨v4, e3, hf⟩ := xbd hf
      by_cases q : v4 ≤ 0
      · have hf := xip q hf
        obtain ⟨b0, hg, e9⟩ := xmj hf
        subst e9
        have hf := hg
        refine ⟨fun a' e => xnc2 e, fun b e => ?_⟩
        have h9 := Sum.inr.inj e
        subst h9
        have hf := xsj hf
        subst hf
        exact ⟨fun a' e => (by have h9 := Sum.inl.inj e; subst h9; exact hm), fun b e => xnc1 e⟩
      · have hf := xin q hf
        obtain ⟨z6, e5, hf⟩ := xbd hf
        obtain ⟨v8, e7, hf⟩ := xbd hf
        obtain ⟨z10, e9, hf⟩ := xbd hf
        obtain ⟨v12, e11, hf⟩ := xbd hf
        obtain ⟨z14, e13, hf⟩ := xbd hf
        obtain ⟨v16, e15, hf⟩ := xbd hf
        obtain ⟨σ18, e17, hf⟩ := xbd hf
        have hm := hm.tr (xsL_same e17)
        have hf := xsj hf
        subst hf
        exact ⟨fun a' e => (by have h9 := Sum.inl.inj e; subst h9; exact hm), fun b e => xnc1 e⟩
  cases y with
  | inl a' =>
    have h1 := hc a' rfl
    have hm := hy.1 a' rfl
    exact ⟨fun a' e => hm.tr ((h1).1 a' e), fun b1 eb1 => hm.tr ((h1).2 b1 eb1)⟩
  | inr b =>
    have h1 := he b rfl
    subst h1
    exact hy.2 _ rfl
theorem s_X12_joined_l112 {G : XG} (C : XC G cX12_joined RX12 (some .long) 6 4 98) {r0 : Nat} {x2 : Int32} {x3 : Int32} {x4 : Int32} {a : Int32 × XS} {x : ((Int32 × XS) ⊕ (Int64 × XS))} (hf : xloop (f_X12_joined_b112 r0 x2 x3 x4) a = some x) (hk : (∀ a' : Int32 × XS, x = .inl a' → WW G 101 [(0, .ref (gB G + r0)), (2, .int x2), (3, .int x3), (4, .int a'.1)] [] a'.2) ∧ (∀ b1 : Int64 × XS, x = .inr b1 → XEnd G (some (.long b1.1)) b1.2)) : WW G 112 [(0, .ref (gB G + r0)), (2, .int x2), (3, .int x3), (4, .int x4), (5, .int a.1)] [] a.2 := by
  refine xloop_ind (P := fun a => WW G 112 [(0, .ref (gB G + r0)), (2, .int x2), (3, .int x3), (4, .int x4), (5, .int a.1)] [] a.2) (fun a y hf hc he => ?_) hf
  obtain ⟨x5, σ⟩ := a
  have hk : (∀ a' : Int32 × XS, y = .inl a' → WW G 112 [(0, .ref (gB G + r0)), (2, .int x2), (3, .int x3), (4, .int x4), (5, .int a'.1)] [] a'.2) ∧ (∀ b2 : ((Int32 × XS) ⊕ (Int64 × XS)), y = .inr b2 → (∀ a' : Int32 × XS, b2 = .inl a' → WW G 101 [(0, .ref (gB G + r0)), (2, .int x2), (3, .int x3), (4, .int a'.1)] [] a'.2) ∧ (∀ b1 : Int64 × XS, b2 = .inr b1 → XEnd G (some (.long b1.1)) b1.2)) := ⟨hc, fun b e => by have h9 := he b e; subst h9; exact hk⟩
  refine ww_iload (pc := 112) C 4 dX12_joined_112 rfl ?_
  refine ww_sipush (pc := 114) (v := (301 : Int32)) C dX12_joined_114 (by decide) ?_
  refine ww_icmp_ge (pc := 117) (tgt := 166) C dX12_joined_117 (by decide) (fun q => ?_) (fun q => ?_)
  · have hf := xip q hf
    obtain ⟨b0, hg, e9⟩ := xmj hf
    subst e9
    have hf := hg
    have hk := hk.2 _ rfl
    refine ww_iinc (pc := 166) (v := x4 + (1 : Int32)) (lv' := [(4, .int (x4 + (1 : Int32))), (0, .ref (gB G + r0)), (2, .int x2), (3, .int x3), (5, .int x5)]) C 3 dX12_joined_166 rfl (congrArg (fun z => x4 + z) (show Int32.ofInt (1) = (1 : Int32) by decide)) (by decide) rfl ?_
    refine ww_goto (pc := 169) (tgt := 101) C dX12_joined_169 (by decide) ?_
    have hf := xsj hf
    subst hf
    refine ww_sub [1, 2, 3, 0] rfl ?_
    exact hk.1 (x4 + (1 : Int32), σ) rfl
  · have hf := xin q hf
    refine ww_aload_n (pc := 120) C 0 dX12_joined_120 rfl ?_
    obtain ⟨z2, e1, hf⟩ := xbd hf
    refine gf_X12_60 (pc := 121) C e1 dX12_joined_121 ?_
    refine ww_iload (pc := 124) C 3 dX12_joined_124 rfl ?_
    obtain ⟨v4, e3, hf⟩ := xbd hf
    refine ww_iald (pc := 126) C e3 dX12_joined_126 ?_
    refine ww_if_le (pc := 127) (tgt := 166) C dX12_joined_127 (by decide) (fun q => ?_) (fun q => ?_)
    · have hf := xip q hf
      obtain ⟨b0, hg, e9⟩ := xmj hf
      subst e9
      have hf := hg
      have hk := hk.2 _ rfl
      refine ww_iinc (pc := 166) (v := x4 + (1 : Int32)) (lv' := [(4, .int (x4 + (1 : Int32))), (0, .ref (gB G + r0)), (2, .int x2), (3, .int x3), (5, .int x5)]) C 3 dX12_joined_166 rfl (congrArg (fun z => x4 + z) (show Int32.ofInt (1) = (1 : Int32) by decide)) (by decide) rfl ?_
      refine ww_goto (pc := 169) (tgt := 101) C dX12_joined_169 (by decide) ?_
      have hf := xsj hf
      subst hf
      refine ww_sub [1, 2, 3, 0] rfl ?_
      exact hk.1 (x4 + (1 : Int32), σ) rfl
    · have hf := xin q hf
      refine ww_aload_n (pc := 130) C 0 dX12_joined_130 rfl ?_
      obtain ⟨z6, e5, hf⟩ := xbd hf
      refine gf_X12_72 (pc := 131) C e5 dX12_joined_131 ?_
      refine ww_iload (pc := 134) C 3 dX12_joined_134 rfl ?_
      refine ww_iload (pc := 136) C 4 dX12_joined_136 rfl ?_
      refine ww_iadd (pc := 138) C dX12_joined_138 ?_
      refine ww_dup2 (pc := 139) C dX12_joined_139 rfl rfl ?_
      obtain ⟨v8, e7, hf⟩ := xbd hf
      refine ww_lald (pc := 140) C e7 dX12_joined_140 ?_
      refine ww_aload_n (pc := 141) C 0 dX12_joined_141 rfl ?_
      obtain ⟨z10, e9, hf⟩ := xbd hf
      refine gf_X12_60 (pc := 142) C e9 dX12_joined_142 ?_
      refine ww_iload (pc := 145) C 3 dX12_joined_145 rfl ?_
      obtain ⟨v12, e11, hf⟩ := xbd hf
      refine ww_iald (pc := 147) C e11 dX12_joined_147 ?_
      refine ww_i2l (pc := 148) (v := v12.toInt64) C dX12_joined_148 rfl ?_
      refine ww_aload_n (pc := 149) C 0 dX12_joined_149 rfl ?_
      obtain ⟨z14, e13, hf⟩ := xbd hf
      refine gf_X12_69 (pc := 150) C e13 dX12_joined_150 ?_
      refine ww_iload (pc := 153) C 4 dX12_joined_153 rfl ?_
      obtain ⟨v16, e15, hf⟩ := xbd hf
      refine ww_iald (pc := 155) C e15 dX12_joined_155 ?_
      refine ww_i2l (pc := 156) (v := v16.toInt64) C dX12_joined_156 rfl ?_
      refine ww_lmul (pc := 157) C dX12_joined_157 ?_
      refine ww_ladd (pc := 158) C dX12_joined_158 ?_
      obtain ⟨σ18, e17, hf⟩ := xbd hf
      refine ww_last (pc := 159) C e17 dX12_joined_159 ?_
      refine ww_iinc (pc := 160) (v := x5 + (1 : Int32)) (lv' := [(5, .int (x5 + (1 : Int32))), (0, .ref (gB G + r0)), (2, .int x2), (3, .int x3), (4, .int x4)]) C 4 dX12_joined_160 rfl (congrArg (fun z => x5 + z) (show Int32.ofInt (1) = (1 : Int32) by decide)) (by decide) rfl ?_
      refine ww_goto (pc := 163) (tgt := 112) C dX12_joined_163 (by decide) ?_
      have hf := xsj hf
      subst hf
      refine ww_sub [1, 2, 3, 4, 0] rfl ?_
      exact hk.1 (x5 + (1 : Int32), σ18) rfl
theorem m_X12_joined_l101 {r0 : Nat} {x2 : Int32} {x3 : Int32} {a : Int32 × XS} {x : Int64 × XS} (hf : xloop (f_X12_joined_b101 r0 x2 x3) a = some x) : xsame a.2 x.2 := by
  refine xloop_ind (P := fun a => xsame a.2 x.2) (fun a y hf hc he => ?_) hf
  obtain ⟨x4, σ⟩ := a
  have hy : (∀ a' : Int32 × XS, y = .inl a' → xsame σ a'.2) ∧ (∀ b1 : Int64 × XS, y = .inr b1 → xsame σ b1.2) := by
    have hm := xsame.rf (σ := σ)
    by_cases q : (301 : Int32) ≤ x4
    · have hf := xip q hf
      obtain ⟨b0, hg, e9⟩ := xmj hf
      subst e9
      have hf := hg
      refine ⟨fun a' e => xnc2 e, fun b e => ?_⟩
      have h9 := Sum.inr.inj e
      subst h9
      exact hm.tr (m_X12_joined_l178 (a := ((0 : Int32), (0 : Int32))) hf)
    · have hf := xin q hf
      exact ⟨fun a' e => hm.tr ((m_X12_joined_l112 (a := ((0 : Int32), σ)) hf).1 a' e), fun b1 eb1 => hm.tr ((m_X12_joined_l112 (a := ((0 : Int32), σ)) hf).2 b1 eb1)⟩
  cases y with
  | inl a' =>
    have h1 := hc a' rfl
    have hm := hy.1 a' rfl
    exact hm.tr (h1)
  | inr b =>
    have h1 := he b rfl
    subst h1
    exact hy.2 _ rfl
theorem s_X12_joined_l101 {G : XG} (C : XC G cX12_joined RX12 (some .long) 6 4 98) {r0 : Nat} {x2 : Int32} {x3 : Int32} {a : Int32 × XS} {x : Int64 × XS} (hf : xloop (f_X12_joined_b101 r0 x2 x3) a = some x) (hk : XEnd G (some (.long x.1)) x.2) : WW G 101 [(0, .ref (gB G + r0)), (2, .int x2), (3, .int x3), (4, .int a.1)] [] a.2 := by
  refine xloop_ind (P := fun a => WW G 101 [(0, .ref (gB G + r0)), (2, .int x2), (3, .int x3), (4, .int a.1)] [] a.2) (fun a y hf hc he => ?_) hf
  obtain ⟨x4, σ⟩ := a
  have hk : (∀ a' : Int32 × XS, y = .inl a' → WW G 101 [(0, .ref (gB G + r0)), (2, .int x2), (3, .int x3), (4, .int a'.1)] [] a'.2) ∧ (∀ b1 : Int64 × XS, y = .inr b1 → XEnd G (some (.long b1.1)) b1.2) := ⟨hc, fun b e => by have h9 := he b e; subst h9; exact hk⟩
  refine ww_iload (pc := 101) C 3 dX12_joined_101 rfl ?_
  refine ww_sipush (pc := 103) (v := (301 : Int32)) C dX12_joined_103 (by decide) ?_
  refine ww_icmp_ge (pc := 106) (tgt := 172) C dX12_joined_106 (by decide) (fun q => ?_) (fun q => ?_)
  · have hf := xip q hf
    obtain ⟨b0, hg, e9⟩ := xmj hf
    subst e9
    have hf := hg
    have hk := hk.2 _ rfl
    refine ww_iconst (pc := 172) (v := (0 : Int32)) C dX12_joined_172 (by decide) ?_
    refine ww_istore (pc := 173) (lv' := [(4, .int (0 : Int32)), (0, .ref (gB G + r0)), (2, .int x2), (3, .int x3)]) C dX12_joined_173 (by decide) rfl ?_
    refine ww_iconst (pc := 175) (v := (0 : Int32)) C dX12_joined_175 (by decide) ?_
    refine ww_istore (pc := 176) (lv' := [(5, .int (0 : Int32)), (4, .int (0 : Int32)), (0, .ref (gB G + r0)), (2, .int x2), (3, .int x3)]) C dX12_joined_176 (by decide) rfl ?_
    refine ww_sub [2, 3, 4, 1, 0] rfl ?_
    exact s_X12_joined_l178 C (a := ((0 : Int32), (0 : Int32))) hf hk
  · have hf := xin q hf
    refine ww_iconst (pc := 109) (v := (0 : Int32)) C dX12_joined_109 (by decide) ?_
    refine ww_istore (pc := 110) (lv' := [(5, .int (0 : Int32)), (0, .ref (gB G + r0)), (2, .int x2), (3, .int x3), (4, .int x4)]) C dX12_joined_110 (by decide) rfl ?_
    refine ww_sub [1, 2, 3, 4, 0] rfl ?_
    exact s_X12_joined_l112 C (a := ((0 : Int32), σ)) hf hk
theorem m_X12_joined_l76 {r0 : Nat} {x2 : Int32} {x3 : Int32} {a : Int32 × XS} {x : Int64 × XS} (hf : xloop (f_X12_joined_b76 r0 x2 x3) a = some x) : xsame a.2 x.2 := by
  refine xloop_ind (P := fun a => xsame a.2 x.2) (fun a y hf hc he => ?_) hf
  obtain ⟨x4, σ⟩ := a
  have hy : (∀ a' : Int32 × XS, y = .inl a' → xsame σ a'.2) ∧ (∀ b1 : Int64 × XS, y = .inr b1 → xsame σ b1.2) := by
    have hm := xsame.rf (σ := σ)
    by_cases q : (601 : Int32) ≤ x4
    · have hf := xip q hf
      obtain ⟨b0, hg, e9⟩ := xmj hf
      subst e9
      have hf := hg
      refine ⟨fun a' e => xnc2 e, fun b e => ?_⟩
      have h9 := Sum.inr.inj e
      subst h9
      exact hm.tr (m_X12_joined_l101 (a := ((0 : Int32), σ)) hf)
    · have hf := xin q hf
      obtain ⟨z2, e1, hf⟩ := xbd hf
      obtain ⟨σ4, e3, hf⟩ := xbd hf
      have hm := hm.tr (xsL_same e3)
      have hf := xsj hf
      subst hf
      exact ⟨fun a' e => (by have h9 := Sum.inl.inj e; subst h9; exact hm), fun b e => xnc1 e⟩
  cases y with
  | inl a' =>
    have h1 := hc a' rfl
    have hm := hy.1 a' rfl
    exact hm.tr (h1)
  | inr b =>
    have h1 := he b rfl
    subst h1
    exact hy.2 _ rfl
theorem s_X12_joined_l76 {G : XG} (C : XC G cX12_joined RX12 (some .long) 6 4 98) {r0 : Nat} {x2 : Int32} {x3 : Int32} {a : Int32 × XS} {x : Int64 × XS} (hf : xloop (f_X12_joined_b76 r0 x2 x3) a = some x) (hk : XEnd G (some (.long x.1)) x.2) : WW G 76 [(0, .ref (gB G + r0)), (2, .int x2), (3, .int x3), (4, .int a.1)] [] a.2 := by
  refine xloop_ind (P := fun a => WW G 76 [(0, .ref (gB G + r0)), (2, .int x2), (3, .int x3), (4, .int a.1)] [] a.2) (fun a y hf hc he => ?_) hf
  obtain ⟨x4, σ⟩ := a
  have hk : (∀ a' : Int32 × XS, y = .inl a' → WW G 76 [(0, .ref (gB G + r0)), (2, .int x2), (3, .int x3), (4, .int a'.1)] [] a'.2) ∧ (∀ b1 : Int64 × XS, y = .inr b1 → XEnd G (some (.long b1.1)) b1.2) := ⟨hc, fun b e => by have h9 := he b e; subst h9; exact hk⟩
  refine ww_iload (pc := 76) C 3 dX12_joined_76 rfl ?_
  refine ww_sipush (pc := 78) (v := (601 : Int32)) C dX12_joined_78 (by decide) ?_
  refine ww_icmp_ge (pc := 81) (tgt := 98) C dX12_joined_81 (by decide) (fun q => ?_) (fun q => ?_)
  · have hf := xip q hf
    obtain ⟨b0, hg, e9⟩ := xmj hf
    subst e9
    have hf := hg
    have hk := hk.2 _ rfl
    refine ww_iconst (pc := 98) (v := (0 : Int32)) C dX12_joined_98 (by decide) ?_
    refine ww_istore (pc := 99) (lv' := [(4, .int (0 : Int32)), (0, .ref (gB G + r0)), (2, .int x2), (3, .int x3)]) C dX12_joined_99 (by decide) rfl ?_
    refine ww_sub [1, 2, 3, 0] rfl ?_
    exact s_X12_joined_l101 C (a := ((0 : Int32), σ)) hf hk
  · have hf := xin q hf
    refine ww_aload_n (pc := 84) C 0 dX12_joined_84 rfl ?_
    obtain ⟨z2, e1, hf⟩ := xbd hf
    refine gf_X12_72 (pc := 85) C e1 dX12_joined_85 ?_
    refine ww_iload (pc := 88) C 3 dX12_joined_88 rfl ?_
    refine ww_lconst (pc := 90) (v := (0 : Int64)) C dX12_joined_90 (by decide) ?_
    obtain ⟨σ4, e3, hf⟩ := xbd hf
    refine ww_last (pc := 91) C e3 dX12_joined_91 ?_
    refine ww_iinc (pc := 92) (v := x4 + (1 : Int32)) (lv' := [(4, .int (x4 + (1 : Int32))), (0, .ref (gB G + r0)), (2, .int x2), (3, .int x3)]) C 3 dX12_joined_92 rfl (congrArg (fun z => x4 + z) (show Int32.ofInt (1) = (1 : Int32) by decide)) (by decide) rfl ?_
    refine ww_goto (pc := 95) (tgt := 76) C dX12_joined_95 (by decide) ?_
    have hf := xsj hf
    subst hf
    refine ww_sub [1, 2, 3, 0] rfl ?_
    exact hk.1 (x4 + (1 : Int32), σ4) rfl
theorem m_X12_joined_l29 {r0 : Nat} {x1 : Int32} {x2 : Int32} {x3 : Int32} {a : Int32 × XS} {x : Int64 × XS} (hf : xloop (f_X12_joined_b29 r0 x1 x2 x3) a = some x) : xsame a.2 x.2 := by
  refine xloop_ind (P := fun a => xsame a.2 x.2) (fun a y hf hc he => ?_) hf
  obtain ⟨x4, σ⟩ := a
  have hy : (∀ a' : Int32 × XS, y = .inl a' → xsame σ a'.2) ∧ (∀ b1 : Int64 × XS, y = .inr b1 → xsame σ b1.2) := by
    have hm := xsame.rf (σ := σ)
    by_cases q : (66 : Int32) ≤ x4
    · have hf := xip q hf
      obtain ⟨b0, hg, e9⟩ := xmj hf
      subst e9
      have hf := hg
      refine ⟨fun a' e => xnc2 e, fun b e => ?_⟩
      have h9 := Sum.inr.inj e
      subst h9
      obtain ⟨z2, e1, hf⟩ := xbd hf
      obtain ⟨z4, e3, hf⟩ := xbd hf
      obtain ⟨_, e5, hf⟩ := xbd hf
      obtain ⟨σ7, e6, hf⟩ := xbd hf
      have hm := hm.tr (m_X12_laysMany e6)
      exact hm.tr (m_X12_joined_l76 (a := ((0 : Int32), σ7)) hf)
    · have hf := xin q hf
      obtain ⟨z2, e1, hf⟩ := xbd hf
      obtain ⟨z4, e3, hf⟩ := xbd hf
      obtain ⟨v6, e5, hf⟩ := xbd hf
      obtain ⟨σ8, e7, hf⟩ := xbd hf
      have hm := hm.tr (xsI_same e7)
      have hf := xsj hf
      subst hf
      exact ⟨fun a' e => (by have h9 := Sum.inl.inj e; subst h9; exact hm), fun b e => xnc1 e⟩
  cases y with
  | inl a' =>
    have h1 := hc a' rfl
    have hm := hy.1 a' rfl
    exact hm.tr (h1)
  | inr b =>
    have h1 := he b rfl
    subst h1
    exact hy.2 _ rfl
theorem s_X12_joined_l29 {G : XG} (C : XC G cX12_joined RX12 (some .long) 6 4 98) {r0 : Nat} {x1 : Int32} {x2 : Int32} {x3 : Int32} {a : Int32 × XS} {x : Int64 × XS} (hf : xloop (f_X12_joined_b29 r0 x1 x2 x3) a = some x) (hk : XEnd G (some (.long x.1)) x.2) : WW G 29 [(0, .ref (gB G + r0)), (1, .int x1), (2, .int x2), (3, .int x3), (4, .int a.1)] [] a.2 := by
  refine xloop_ind (P := fun a => WW G 29 [(0, .ref (gB G + r0)), (1, .int x1), (2, .int x2), (3, .int x3), (4, .int a.1)] [] a.2) (fun a y hf hc he => ?_) hf
  obtain ⟨x4, σ⟩ := a
  have hk : (∀ a' : Int32 × XS, y = .inl a' → WW G 29 [(0, .ref (gB G + r0)), (1, .int x1), (2, .int x2), (3, .int x3), (4, .int a'.1)] [] a'.2) ∧ (∀ b1 : Int64 × XS, y = .inr b1 → XEnd G (some (.long b1.1)) b1.2) := ⟨hc, fun b e => by have h9 := he b e; subst h9; exact hk⟩
  refine ww_iload (pc := 29) C 4 dX12_joined_29 rfl ?_
  refine ww_bipush (pc := 31) (v := (66 : Int32)) C dX12_joined_31 (by decide) ?_
  refine ww_icmp_ge (pc := 33) (tgt := 61) C dX12_joined_33 (by decide) (fun q => ?_) (fun q => ?_)
  · have hf := xip q hf
    obtain ⟨b0, hg, e9⟩ := xmj hf
    subst e9
    have hf := hg
    have hk := hk.2 _ rfl
    refine ww_aload_n (pc := 61) C 0 dX12_joined_61 rfl ?_
    refine ww_aload_n (pc := 62) C 0 dX12_joined_62 rfl ?_
    obtain ⟨z2, e1, hf⟩ := xbd hf
    refine gf_X12_66 (pc := 63) C e1 dX12_joined_63 ?_
    refine ww_aload_n (pc := 66) C 0 dX12_joined_66 rfl ?_
    obtain ⟨z4, e3, hf⟩ := xbd hf
    refine gf_X12_69 (pc := 67) C e3 dX12_joined_67 ?_
    obtain ⟨_, e5, hf⟩ := xbd hf
    obtain ⟨σ7, e6, hf⟩ := xbd hf
    refine ww_callVv (pc := 70) (as := [.ref (gB G + z2), .ref (gB G + z4)]) (st := []) C (k_X12_laysMany (l := gl G) (E := gE G) (hb := gB G) (σ := σ) e6) rfl (by decide) xc_X12_317 q1660 qp151 (xck_spec e5) rfl (by decide) (xst4 (Nat.le_of_ble_eq_true rfl)) (m_X12_laysMany e6).le (m_X12_laysMany e6).lim dX12_joined_70 ?_
    refine ww_iconst (pc := 73) (v := (0 : Int32)) C dX12_joined_73 (by decide) ?_
    refine ww_istore (pc := 74) (lv' := [(4, .int (0 : Int32)), (0, .ref (gB G + r0)), (1, .int x1), (2, .int x2), (3, .int x3)]) C dX12_joined_74 (by decide) rfl ?_
    refine ww_sub [1, 3, 4, 0] rfl ?_
    exact s_X12_joined_l76 C (a := ((0 : Int32), σ7)) hf hk
  · have hf := xin q hf
    refine ww_aload_n (pc := 36) C 0 dX12_joined_36 rfl ?_
    obtain ⟨z2, e1, hf⟩ := xbd hf
    refine gf_X12_66 (pc := 37) C e1 dX12_joined_37 ?_
    refine ww_iload (pc := 40) C 4 dX12_joined_40 rfl ?_
    refine ww_aload_n (pc := 42) C 0 dX12_joined_42 rfl ?_
    obtain ⟨z4, e3, hf⟩ := xbd hf
    refine gf_X12_49 (pc := 43) C e3 dX12_joined_43 ?_
    refine ww_bipush (pc := 46) (v := (66 : Int32)) C dX12_joined_46 (by decide) ?_
    refine ww_iload_n (pc := 48) C 1 dX12_joined_48 rfl ?_
    refine ww_imul (pc := 49) C dX12_joined_49 ?_
    refine ww_iload (pc := 50) C 4 dX12_joined_50 rfl ?_
    refine ww_iadd (pc := 52) C dX12_joined_52 ?_
    obtain ⟨v6, e5, hf⟩ := xbd hf
    refine ww_iald (pc := 53) C e5 dX12_joined_53 ?_
    obtain ⟨σ8, e7, hf⟩ := xbd hf
    refine ww_iast (pc := 54) C e7 dX12_joined_54 ?_
    refine ww_iinc (pc := 55) (v := x4 + (1 : Int32)) (lv' := [(4, .int (x4 + (1 : Int32))), (0, .ref (gB G + r0)), (1, .int x1), (2, .int x2), (3, .int x3)]) C 4 dX12_joined_55 rfl (congrArg (fun z => x4 + z) (show Int32.ofInt (1) = (1 : Int32) by decide)) (by decide) rfl ?_
    refine ww_goto (pc := 58) (tgt := 29) C dX12_joined_58 (by decide) ?_
    have hf := xsj hf
    subst hf
    refine ww_sub [1, 2, 3, 4, 0] rfl ?_
    exact hk.1 (x4 + (1 : Int32), σ8) rfl
theorem s_X12_joined_e {G : XG} (C : XC G cX12_joined RX12 (some .long) 6 4 98) {σ : XS} {r0 : Nat} {x1 : Int32} {x2 : Int32} {x3 : Int32} {x : Int64 × XS} (hf : f_X12_joined σ r0 x1 x2 x3 = some x) (hk : XEnd G (some (.long x.1)) x.2) : WW G 0 [(0, .ref (gB G + r0)), (1, .int x1), (2, .int x2), (3, .int x3)] [] σ := by
  refine ww_iload_n (pc := 0) C 1 dX12_joined_0 rfl ?_
  refine ww_iconst (pc := 1) (v := (0 : Int32)) C dX12_joined_1 (by decide) ?_
  refine ww_iconst (pc := 2) (v := (2 : Int32)) C dX12_joined_2 (by decide) ?_
  obtain ⟨v2, e1, hf⟩ := xbd hf
  refine ww_callSi (pc := 3) (as := [.int x1, .int (0 : Int32), .int (2 : Int32)]) (st := []) C (k_X12_in (l := gl G) (E := gE G) (hb := gB G) (σ := σ) e1) xc_X12_213 q1473 rfl (by decide) (xst4 (Nat.le_of_ble_eq_true rfl)) xsame.rf.le xsame.rf.lim dX12_joined_3 ?_
  refine ww_if_eq (pc := 6) (tgt := 18) C dX12_joined_6 (by decide) (fun q => ?_) (fun q => ?_)
  · have hf := xip q hf
    refine ww_ldc2 (pc := 18) C q1657 dX12_joined_18 ?_
    have hf := xsj hf
    subst hf
    exact ww_lret (pc := 21) C hk dX12_joined_21
  · have hf := xin q hf
    refine ww_aload_n (pc := 9) C 0 dX12_joined_9 rfl ?_
    obtain ⟨z4, e3, hf⟩ := xbd hf
    refine gf_X12_52 (pc := 10) C e3 dX12_joined_10 ?_
    refine ww_iload_n (pc := 13) C 1 dX12_joined_13 rfl ?_
    obtain ⟨v6, e5, hf⟩ := xbd hf
    refine ww_zald (pc := 14) C e5 dX12_joined_14 ?_
    refine ww_if_ne (pc := 15) (tgt := 22) C dX12_joined_15 (by decide) (fun q => ?_) (fun q => ?_)
    · have hf := xin q hf
      refine ww_aload_n (pc := 22) C 0 dX12_joined_22 rfl ?_
      obtain ⟨_, e7, hf⟩ := xbd hf
      obtain ⟨σ9, e8, hf⟩ := xbd hf
      refine ww_callVv (pc := 23) (as := []) (st := []) C (k_X12_knows (l := gl G) (E := gE G) (hb := gB G) (σ := σ) e8) rfl (by decide) xc_X12_261 q1551 qp140 (xck_spec e7) rfl (by decide) (xst4 (Nat.le_of_ble_eq_true rfl)) (m_X12_knows e8).le (m_X12_knows e8).lim dX12_joined_23 ?_
      refine ww_iconst (pc := 26) (v := (0 : Int32)) C dX12_joined_26 (by decide) ?_
      refine ww_istore (pc := 27) (lv' := [(4, .int (0 : Int32)), (0, .ref (gB G + r0)), (1, .int x1), (2, .int x2), (3, .int x3)]) C dX12_joined_27 (by decide) rfl ?_
      refine ww_sub [1, 2, 3, 4, 0] rfl ?_
      exact s_X12_joined_l29 C (a := ((0 : Int32), σ9)) hf hk
    · have hf := xip q hf
      refine ww_ldc2 (pc := 18) C q1657 dX12_joined_18 ?_
      have hf := xsj hf
      subst hf
      exact ww_lret (pc := 21) C hk dX12_joined_21
theorem m_X12_joined {σ : XS} {r0 : Nat} {x1 : Int32} {x2 : Int32} {x3 : Int32} {x : Int64 × XS} (hf : f_X12_joined σ r0 x1 x2 x3 = some x) : xsame σ x.2 := by
  have hm := xsame.rf (σ := σ)
  obtain ⟨v2, e1, hf⟩ := xbd hf
  by_cases q : v2 = 0
  · have hf := xip q hf
    have hf := xsj hf
    subst hf
    exact hm
  · have hf := xin q hf
    obtain ⟨z4, e3, hf⟩ := xbd hf
    obtain ⟨v6, e5, hf⟩ := xbd hf
    by_cases q : v6 = 0
    · have hf := xip q hf
      have hf := xsj hf
      subst hf
      exact hm
    · have hf := xin q hf
      obtain ⟨_, e7, hf⟩ := xbd hf
      obtain ⟨σ9, e8, hf⟩ := xbd hf
      have hm := hm.tr (m_X12_knows e8)
      exact hm.tr (m_X12_joined_l29 (a := ((0 : Int32), σ9)) hf)
theorem k_X12_joined {l : Launch} {E : XD} {hb : Nat} {σ : XS} {r0 : Nat} {x1 : Int32} {x2 : Int32} {x3 : Int32} {x : Int64 × XS} (h : f_X12_joined σ r0 x1 x2 x3 = some x) : XM l yX12_joined cX12_joined 6 (some .long) 4 98 E hb [.ref (hb + r0), .int x1, .int x2, .int x3] σ (some (.long x.1)) x.2 := by
  refine xm_of (by decide) (Nat.le_of_ble_eq_true rfl) (m_X12_joined h).le (fun G hG C hl hQ => ?_)
  obtain ⟨rfl, rfl, rfl, hN⟩ := hG
  exact s_X12_joined_e C h hQ
noncomputable def f_X12_lakes_b119 (r0 : Nat) (x1 : Int32) (x2 : Int32) (x3 : Int32) (x5 : Int32) : Int32 × Int32 × XS → Option ((Int32 × Int32 × XS) ⊕ ((Int32 × Int32 × XS) ⊕ ((Int32 × Int32 × XS) ⊕ (Int32 × XS)))) := fun a => match a with
  | (x4, x6, σ) => (xck σ r0 12).bind fun _ => (f_X12_sites σ r0).bind fun v3 => if v3 ≤ x6 then ((some (.inl (x4, x5 + (1 : Int32), σ))).map .inr) else (xgR σ r0 12 42).bind fun z5 => (xaI σ 20 z5 x5).bind fun v7 => (xgR σ r0 12 41).bind fun z9 => (xaI σ 22 z9 (v7 ^^^ ((1 : Int32) <<< (x6 &&& 31)))).bind fun v11 => if v11 = 0 then ((xgR σ r0 12 33).bind fun z13 => (xaI σ 20 z13 (v7 ^^^ ((1 : Int32) <<< (x6 &&& 31)))).bind fun v15 => if v15 = (100000 : Int32) then (some (.inl (x4, x6 + (1 : Int32), σ))) else (xgR σ r0 12 33).bind fun z17 => (xaI σ 20 z17 (v7 ^^^ ((1 : Int32) <<< (x6 &&& 31)))).bind fun v19 => if v19 ≤ x1 then ((xgR σ r0 12 41).bind fun z21 => (xsI σ 22 z21 (v7 ^^^ ((1 : Int32) <<< (x6 &&& 31))) (1 : Int32)).bind fun σ23 => (xgR σ23 r0 12 42).bind fun z25 => (xsI σ23 20 z25 x4 (v7 ^^^ ((1 : Int32) <<< (x6 &&& 31)))).bind fun σ27 => some (.inl (x4 + (1 : Int32), x6 + (1 : Int32), σ27))) else some (.inl (x4, x6 + (1 : Int32), σ))) else some (.inl (x4, x6 + (1 : Int32), σ))
noncomputable def f_X12_lakes_b109 (r0 : Nat) (x1 : Int32) (x2 : Int32) (x3 : Int32) : Int32 × Int32 × XS → Option ((Int32 × Int32 × XS) ⊕ ((Int32 × Int32 × XS) ⊕ (Int32 × XS))) := fun a => match a with
  | (x4, x5, σ) => if x4 ≤ x5 then ((some (.inl (x2, x3 + (1 : Int32), σ))).map .inr) else xloop (f_X12_lakes_b119 r0 x1 x2 x3 x5) (x4, (0 : Int32), σ)
noncomputable def f_X12_lakes_b44 (r0 : Nat) (x1 : Int32) : Int32 × Int32 × XS → Option ((Int32 × Int32 × XS) ⊕ (Int32 × XS)) := fun a => match a with
  | (x2, x3, σ) => (xck σ r0 12).bind fun _ => (f_X12_states σ r0).bind fun v3 => if v3 ≤ x3 then ((some (x2, σ)).map .inr) else (xgR σ r0 12 41).bind fun z5 => (xaI σ 22 z5 x3).bind fun v7 => if v7 = 0 then ((xgR σ r0 12 33).bind fun z9 => (xaI σ 20 z9 x3).bind fun v11 => if v11 = (100000 : Int32) then (some (.inl (x2, x3 + (1 : Int32), σ))) else (xgR σ r0 12 33).bind fun z13 => (xaI σ 20 z13 x3).bind fun v15 => if v15 ≤ x1 then ((xgR σ r0 12 41).bind fun z17 => (xsI σ 22 z17 x3 (1 : Int32)).bind fun σ19 => (xgR σ19 r0 12 42).bind fun z21 => (xsI σ19 20 z21 (0 : Int32) x3).bind fun σ23 => xloop (f_X12_lakes_b109 r0 x1 (x2 + (1 : Int32)) x3) ((1 : Int32), (0 : Int32), σ23)) else some (.inl (x2, x3 + (1 : Int32), σ))) else some (.inl (x2, x3 + (1 : Int32), σ))
noncomputable def f_X12_lakes_b19 (r0 : Nat) (x1 : Int32) : Int32 × XS → Option ((Int32 × XS) ⊕ (Int32 × XS)) := fun a => match a with
  | (x2, σ) => (xck σ r0 12).bind fun _ => (f_X12_states σ r0).bind fun v3 => if v3 ≤ x2 then ((xloop (f_X12_lakes_b44 r0 x1) ((0 : Int32), (0 : Int32), σ)).map .inr) else (xgR σ r0 12 41).bind fun z5 => (xsI σ 22 z5 x2 (0 : Int32)).bind fun σ7 => some (.inl (x2 + (1 : Int32), σ7))
noncomputable def f_X12_lakes (σ : XS) (r0 : Nat) (x1 : Int32) : Option (Int32 × XS) := (xck σ r0 12).bind fun _ => (f_X12_sites σ r0).bind fun v3 => if v3 ≤ (10 : Int32) then ((xck σ r0 12).bind fun _ => (f_X12_knows σ r0).bind fun σ6 => xloop (f_X12_lakes_b19 r0 x1) ((0 : Int32), σ6)) else some ((-100000 : Int32), σ)
theorem m_X12_lakes_l119 {r0 : Nat} {x1 : Int32} {x2 : Int32} {x3 : Int32} {x5 : Int32} {a : Int32 × Int32 × XS} {x : ((Int32 × Int32 × XS) ⊕ ((Int32 × Int32 × XS) ⊕ (Int32 × XS)))} (hf : xloop (f_X12_lakes_b119 r0 x1 x2 x3 x5) a = some x) : (∀ a' : Int32 × Int32 × XS, x = .inl a' → xsame a.2.2 a'.2.2) ∧ (∀ b2 : ((Int32 × Int32 × XS) ⊕ (Int32 × XS)), x = .inr b2 → (∀ a' : Int32 × Int32 × XS, b2 = .inl a' → xsame a.2.2 a'.2.2) ∧ (∀ b1 : Int32 × XS, b2 = .inr b1 → xsame a.2.2 b1.2)) := by
  refine xloop_ind (P := fun a => (∀ a' : Int32 × Int32 × XS, x = .inl a' → xsame a.2.2 a'.2.2) ∧ (∀ b2 : ((Int32 × Int32 × XS) ⊕ (Int32 × XS)), x = .inr b2 → (∀ a' : Int32 × Int32 × XS, b2 = .inl a' → xsame a.2.2 a'.2.2) ∧ (∀ b1 : Int32 × XS, b2 = .inr b1 → xsame a.2.2 b1.2))) (fun a y hf hc he => ?_) hf
  obtain ⟨x4, x6, σ⟩ := a
  have hy : (∀ a' : Int32 × Int32 × XS, y = .inl a' → xsame σ a'.2.2) ∧ (∀ b3 : ((Int32 × Int32 × XS) ⊕ ((Int32 × Int32 × XS) ⊕ (Int32 × XS))), y = .inr b3 → (∀ a' : Int32 × Int32 × XS, b3 = .inl a' → xsame σ a'.2.2) ∧ (∀ b2 : ((Int32 × Int32 × XS) ⊕ (Int32 × XS)), b3 = .inr b2 → (∀ a' : Int32 × Int32 × XS, b2 = .inl a' → xsame σ a'.2.2) ∧ (∀ b1 : Int32 × XS, b2 = .inr b1 → xsame σ b1.2))) := by
    have hm := xsame.rf (σ := σ)
    obtain ⟨_, e1, hf⟩ := xbd hf
    obtain ⟨v3, e2, hf⟩ := xbd hf
    by_cases q : v3 ≤ x6
    · have hf := xip q hf
      obtain ⟨b0, hg, e9⟩ := xmj hf
      subst e9
      have hf := hg
      refine ⟨fun a' e => xnc2 e, fun b e => ?_⟩
      have h9 := Sum.inr.inj e
      subst h9
      have hf := xsj hf
      subst hf
      exact ⟨fun a' e => (by have h9 := Sum.inl.inj e; subst h9; exact hm), fun b e => xnc1 e⟩
    · have hf := xin q hf
      obtain ⟨z5, e4, hf⟩ := xbd hf
      obtain ⟨v7, e6, hf⟩ := xbd hf
      obtain ⟨z9, e8, hf⟩ := xbd hf
      obtain ⟨v11, e10, hf⟩ := xbd hf
      by_cases q : v11 = 0
      · have hf := xip q hf
        obtain ⟨z13, e12, hf⟩ := xbd hf
        obtain ⟨v15, e14, hf⟩ := xbd hf
        by_cases q : v15 = (100000 : Int32)
        · have hf := xip q hf
          have hf := xsj hf
          subst hf
          exact ⟨fun a' e => (by have h9 := Sum.inl.inj e; subst h9; exact hm), fun b e => xnc1 e⟩
        · have hf := xin q hf
          obtain ⟨z17, e16, hf⟩ := xbd hf
          obtain ⟨v19, e18, hf⟩ := xbd hf
          by_cases q : v19 ≤ x1
          · have hf := xip q hf
            obtain ⟨z21, e20, hf⟩ := xbd hf
            obtain ⟨σ23, e22, hf⟩ := xbd hf
            have hm := hm.tr (xsI_same e22)
            obtain ⟨z25, e24, hf⟩ := xbd hf
            obtain ⟨σ27, e26, hf⟩ := xbd hf
            have hm := hm.tr (xsI_same e26)
            have hf := xsj hf
            subst hf
            exact ⟨fun a' e => (by have h9 := Sum.inl.inj e; subst h9; exact hm), fun b e => xnc1 e⟩
          · have hf := xin q hf
            have hf := xsj hf
            subst hf
            exact ⟨fun a' e => (by have h9 := Sum.inl.inj e; subst h9; exact hm), fun b e => xnc1 e⟩
      · have hf := xin q hf
        have hf := xsj hf
        subst hf
        exact ⟨fun a' e => (by have h9 := Sum.inl.inj e; subst h9; exact hm), fun b e => xnc1 e⟩
  cases y with
  | inl a' =>
    have h1 := hc a' rfl
    have hm := hy.1 a' rfl
    exact ⟨fun a' e => hm.tr ((h1).1 a' e), fun b2 eb2 => ⟨fun a' e => hm.tr (((h1).2 b2 eb2).1 a' e), fun b1 eb1 => hm.tr (((h1).2 b2 eb2).2 b1 eb1)⟩⟩
  | inr b =>
    have h1 := he b rfl
    subst h1
    exact hy.2 _ rfl
theorem s_X12_lakes_l119 {G : XG} (C : XC G cX12_lakes RX12 (some .int) 8 4 96) {r0 : Nat} {x1 : Int32} {x2 : Int32} {x3 : Int32} {x5 : Int32} {a : Int32 × Int32 × XS} {x : ((Int32 × Int32 × XS) ⊕ ((Int32 × Int32 × XS) ⊕ (Int32 × XS)))} (hf : xloop (f_X12_lakes_b119 r0 x1 x2 x3 x5) a = some x) (hk : (∀ a' : Int32 × Int32 × XS, x = .inl a' → WW G 109 [(0, .ref (gB G + r0)), (1, .int x1), (2, .int x2), (3, .int x3), (4, .int a'.1), (5, .int a'.2.1)] [] a'.2.2) ∧ (∀ b2 : ((Int32 × Int32 × XS) ⊕ (Int32 × XS)), x = .inr b2 → (∀ a' : Int32 × Int32 × XS, b2 = .inl a' → WW G 44 [(0, .ref (gB G + r0)), (1, .int x1), (2, .int a'.1), (3, .int a'.2.1)] [] a'.2.2) ∧ (∀ b1 : Int32 × XS, b2 = .inr b1 → XEnd G (some (.int b1.1)) b1.2))) : WW G 119 [(0, .ref (gB G + r0)), (1, .int x1), (2, .int x2), (3, .int x3), (4, .int a.1), (5, .int x5), (6, .int a.2.1)] [] a.2.2 := by
  refine xloop_ind (P := fun a => WW G 119 [(0, .ref (gB G + r0)), (1, .int x1), (2, .int x2), (3, .int x3), (4, .int a.1), (5, .int x5), (6, .int a.2.1)] [] a.2.2) (fun a y hf hc he => ?_) hf
  obtain ⟨x4, x6, σ⟩ := a
  have hk : (∀ a' : Int32 × Int32 × XS, y = .inl a' → WW G 119 [(0, .ref (gB G + r0)), (1, .int x1), (2, .int x2), (3, .int x3), (4, .int a'.1), (5, .int x5), (6, .int a'.2.1)] [] a'.2.2) ∧ (∀ b3 : ((Int32 × Int32 × XS) ⊕ ((Int32 × Int32 × XS) ⊕ (Int32 × XS))), y = .inr b3 → (∀ a' : Int32 × Int32 × XS, b3 = .inl a' → WW G 109 [(0, .ref (gB G + r0)), (1, .int x1), (2, .int x2), (3, .int x3), (4, .int a'.1), (5, .int a'.2.1)] [] a'.2.2) ∧ (∀ b2 : ((Int32 × Int32 × XS) ⊕ (Int32 × XS)), b3 = .inr b2 → (∀ a' : Int32 × Int32 × XS, b2 = .inl a' → WW G 44 [(0, .ref (gB G + r0)), (1, .int x1), (2, .int a'.1), (3, .int a'.2.1)] [] a'.2.2) ∧ (∀ b1 : Int32 × XS, b2 = .inr b1 → XEnd G (some (.int b1.1)) b1.2))) := ⟨hc, fun b e => by have h9 := he b e; subst h9; exact hk⟩
  refine ww_iload (pc := 119) C 6 dX12_lakes_119 rfl ?_
  refine ww_aload_n (pc := 121) C 0 dX12_lakes_121 rfl ?_
  obtain ⟨_, e1, hf⟩ := xbd hf
  obtain ⟨v3, e2, hf⟩ := xbd hf
  refine ww_callVi (pc := 122) (as := []) (st := [.int x6]) C (k_X12_sites (l := gl G) (E := gE G) (hb := gB G) (σ := σ) e2) rfl (by decide) xc_X12_193 q1496 qp136 (xck_spec e1) rfl (by decide) (xst4 (Nat.le_of_ble_eq_true rfl)) xsame.rf.le xsame.rf.lim dX12_lakes_122 ?_
  refine ww_icmp_ge (pc := 125) (tgt := 205) C dX12_lakes_125 (by decide) (fun q => ?_) (fun q => ?_)
  · have hf := xip q hf
    obtain ⟨b0, hg, e9⟩ := xmj hf
    subst e9
    have hf := hg
    have hk := hk.2 _ rfl
    refine ww_iinc (pc := 205) (v := x5 + (1 : Int32)) (lv' := [(5, .int (x5 + (1 : Int32))), (0, .ref (gB G + r0)), (1, .int x1), (2, .int x2), (3, .int x3), (4, .int x4), (6, .int x6)]) C 5 dX12_lakes_205 rfl (congrArg (fun z => x5 + z) (show Int32.ofInt (1) = (1 : Int32) by decide)) (by decide) rfl ?_
    refine ww_goto (pc := 208) (tgt := 109) C dX12_lakes_208 (by decide) ?_
    have hf := xsj hf
    subst hf
    refine ww_sub [1, 2, 3, 4, 5, 0] rfl ?_
    exact hk.1 (x4, x5 + (1 : Int32), σ) rfl
  · have hf := xin q hf
    refine ww_aload_n (pc := 128) C 0 dX12_lakes_128 rfl ?_
    obtain ⟨z5, e4, hf⟩ := xbd hf
    refine gf_X12_81 (pc := 129) C e4 dX12_lakes_129 ?_
    refine ww_iload (pc := 132) C 5 dX12_lakes_132 rfl ?_
    obtain ⟨v7, e6, hf⟩ := xbd hf
    refine ww_iald (pc := 134) C e6 dX12_lakes_134 ?_
    refine ww_iconst (pc := 135) (v := (1 : Int32)) C dX12_lakes_135 (by decide) ?_
    refine ww_iload (pc := 136) C 6 dX12_lakes_136 rfl ?_
    refine ww_ishl (pc := 138) C dX12_lakes_138 ?_
    refine ww_ixor (pc := 139) C dX12_lakes_139 ?_
    refine ww_istore (pc := 140) (lv' := [(7, .int (v7 ^^^ ((1 : Int32) <<< (x6 &&& 31)))), (0, .ref (gB G + r0)), (1, .int x1), (2, .int x2), (3, .int x3), (4, .int x4), (5, .int x5), (6, .int x6)]) C dX12_lakes_140 (by decide) rfl ?_
    refine ww_aload_n (pc := 142) C 1 dX12_lakes_142 rfl ?_
    obtain ⟨z9, e8, hf⟩ := xbd hf
    refine gf_X12_78 (pc := 143) C e8 dX12_lakes_143 ?_
    refine ww_iload (pc := 146) C 0 dX12_lakes_146 rfl ?_
    obtain ⟨v11, e10, hf⟩ := xbd hf
    refine ww_zald (pc := 148) C e10 dX12_lakes_148 ?_
    refine ww_if_ne (pc := 149) (tgt := 199) C dX12_lakes_149 (by decide) (fun q => ?_) (fun q => ?_)
    · have hf := xin q hf
      refine ww_iinc (pc := 199) (v := x6 + (1 : Int32)) (lv' := [(6, .int (x6 + (1 : Int32))), (7, .int (v7 ^^^ ((1 : Int32) <<< (x6 &&& 31)))), (0, .ref (gB G + r0)), (1, .int x1), (2, .int x2), (3, .int x3), (4, .int x4), (5, .int x5)]) C 7 dX12_lakes_199 rfl (congrArg (fun z => x6 + z) (show Int32.ofInt (1) = (1 : Int32) by decide)) (by decide) rfl ?_
      refine ww_goto (pc := 202) (tgt := 119) C dX12_lakes_202 (by decide) ?_
      have hf := xsj hf
      subst hf
      refine ww_sub [2, 3, 4, 5, 6, 7, 0] rfl ?_
      exact hk.1 (x4, x6 + (1 : Int32), σ) rfl
    · have hf := xip q hf
      refine ww_aload_n (pc := 152) C 1 dX12_lakes_152 rfl ?_
      obtain ⟨z13, e12, hf⟩ := xbd hf
      refine gf_X12_57 (pc := 153) C e12 dX12_lakes_153 ?_
      refine ww_iload (pc := 156) C 0 dX12_lakes_156 rfl ?_
      obtain ⟨v15, e14, hf⟩ := xbd hf
      refine ww_iald (pc := 158) C e14 dX12_lakes_158 ?_
      refine ww_ldcw (pc := 159) C q1568 dX12_lakes_159 ?_
      refine ww_icmp_eq (pc := 162) (tgt := 199) C dX12_lakes_162 (by decide) (fun q => ?_) (fun q => ?_)
      · have hf := xip q hf
        refine ww_iinc (pc := 199) (v := x6 + (1 : Int32)) (lv' := [(6, .int (x6 + (1 : Int32))), (7, .int (v7 ^^^ ((1 : Int32) <<< (x6 &&& 31)))), (0, .ref (gB G + r0)), (1, .int x1), (2, .int x2), (3, .int x3), (4, .int x4), (5, .int x5)]) C 7 dX12_lakes_199 rfl (congrArg (fun z => x6 + z) (show Int32.ofInt (1) = (1 : Int32) by decide)) (by decide) rfl ?_
        refine ww_goto (pc := 202) (tgt := 119) C dX12_lakes_202 (by decide) ?_
        have hf := xsj hf
        subst hf
        refine ww_sub [2, 3, 4, 5, 6, 7, 0] rfl ?_
        exact hk.1 (x4, x6 + (1 : Int32), σ) rfl
      · have hf := xin q hf
        refine ww_aload_n (pc := 165) C 1 dX12_lakes_165 rfl ?_
        obtain ⟨z17, e16, hf⟩ := xbd hf
        refine gf_X12_57 (pc := 166) C e16 dX12_lakes_166 ?_
        refine ww_iload (pc := 169) C 0 dX12_lakes_169 rfl ?_
        obtain ⟨v19, e18, hf⟩ := xbd hf
        refine ww_iald (pc := 171) C e18 dX12_lakes_171 ?_
        refine ww_iload_n (pc := 172) C 2 dX12_lakes_172 rfl ?_
        refine ww_icmp_le (pc := 173) (tgt := 179) C dX12_lakes_173 (by decide) (fun q => ?_) (fun q => ?_)
        · have hf := xip q hf
          refine ww_aload_n (pc := 179) C 1 dX12_lakes_179 rfl ?_
          obtain ⟨z21, e20, hf⟩ := xbd hf
          refine gf_X12_78 (pc := 180) C e20 dX12_lakes_180 ?_
          refine ww_iload (pc := 183) C 0 dX12_lakes_183 rfl ?_
          refine ww_iconst (pc := 185) (v := (1 : Int32)) C dX12_lakes_185 (by decide) ?_
          obtain ⟨σ23, e22, hf⟩ := xbd hf
          refine ww_zast (pc := 186) C rfl e22 dX12_lakes_186 ?_
          refine ww_aload_n (pc := 187) C 1 dX12_lakes_187 rfl ?_
          obtain ⟨z25, e24, hf⟩ := xbd hf
          refine gf_X12_81 (pc := 188) C e24 dX12_lakes_188 ?_
          refine ww_iload (pc := 191) C 5 dX12_lakes_191 rfl ?_
          refine ww_iload (pc := 193) C 0 dX12_lakes_193 rfl ?_
          obtain ⟨σ27, e26, hf⟩ := xbd hf
          refine ww_iast (pc := 195) C e26 dX12_lakes_195 ?_
          refine ww_iinc (pc := 196) (v := x4 + (1 : Int32)) (lv' := [(4, .int (x4 + (1 : Int32))), (7, .int (v7 ^^^ ((1 : Int32) <<< (x6 &&& 31)))), (0, .ref (gB G + r0)), (1, .int x1), (2, .int x2), (3, .int x3), (5, .int x5), (6, .int x6)]) C 5 dX12_lakes_196 rfl (congrArg (fun z => x4 + z) (show Int32.ofInt (1) = (1 : Int32) by decide)) (by decide) rfl ?_
          refine ww_iinc (pc := 199) (v := x6 + (1 : Int32)) (lv' := [(6, .int (x6 + (1 : Int32))), (4, .int (x4 + (1 : Int32))), (7, .int (v7 ^^^ ((1 : Int32) <<< (x6 &&& 31)))), (0, .ref (gB G + r0)), (1, .int x1), (2, .int x2), (3, .int x3), (5, .int x5)]) C 7 dX12_lakes_199 rfl (congrArg (fun z => x6 + z) (show Int32.ofInt (1) = (1 : Int32) by decide)) (by decide) rfl ?_
          refine ww_goto (pc := 202) (tgt := 119) C dX12_lakes_202 (by decide) ?_
          have hf := xsj hf
          subst hf
          refine ww_sub [3, 4, 5, 6, 1, 7, 0] rfl ?_
          exact hk.1 (x4 + (1 : Int32), x6 + (1 : Int32), σ27) rfl
        · have hf := xin q hf
          refine ww_goto (pc := 176) (tgt := 199) C dX12_lakes_176 (by decide) ?_
          refine ww_iinc (pc := 199) (v := x6 + (1 : Int32)) (lv' := [(6, .int (x6 + (1 : Int32))), (7, .int (v7 ^^^ ((1 : Int32) <<< (x6 &&& 31)))), (0, .ref (gB G + r0)), (1, .int x1), (2, .int x2), (3, .int x3), (4, .int x4), (5, .int x5)]) C 7 dX12_lakes_199 rfl (congrArg (fun z => x6 + z) (show Int32.ofInt (1) = (1 : Int32) by decide)) (by decide) rfl ?_
          refine ww_goto (pc := 202) (tgt := 119) C dX12_lakes_202 (by decide) ?_
          have hf := xsj hf
          subst hf
          refine ww_sub [2, 3, 4, 5, 6, 7, 0] rfl ?_
          exact hk.1 (x4, x6 + (1 : Int32), σ) rfl
theorem m_X12_lakes_l109 {r0 : Nat} {x1 : Int32} {x2 : Int32} {x3 : Int32} {a : Int32 × Int32 × XS} {x : ((Int32 × Int32 × XS) ⊕ (Int32 × XS))} (hf : xloop (f_X12_lakes_b109 r0 x1 x2 x3) a = some x) : (∀ a' : Int32 × Int32 × XS, x = .inl a' → xsame a.2.2 a'.2.2) ∧ (∀ b1 : Int32 × XS, x = .inr b1 → xsame a.2.2 b1.2) := by
  refine xloop_ind (P := fun a => (∀ a' : Int32 × Int32 × XS, x = .inl a' → xsame a.2.2 a'.2.2) ∧ (∀ b1 : Int32 × XS, x = .inr b1 → xsame a.2.2 b1.2)) (fun a y hf hc he => ?_) hf
  obtain ⟨x4, x5, σ⟩ := a
  have hy : (∀ a' : Int32 × Int32 × XS, y = .inl a' → xsame σ a'.2.2) ∧ (∀ b2 : ((Int32 × Int32 × XS) ⊕ (Int32 × XS)), y = .inr b2 → (∀ a' : Int32 × Int32 × XS, b2 = .inl a' → xsame σ a'.2.2) ∧ (∀ b1 : Int32 × XS, b2 = .inr b1 → xsame σ b1.2)) := by
    have hm := xsame.rf (σ := σ)
    by_cases q : x4 ≤ x5
    · have hf := xip q hf
      obtain ⟨b0, hg, e9⟩ := xmj hf
      subst e9
      have hf := hg
      refine ⟨fun a' e => xnc2 e, fun b e => ?_⟩
      have h9 := Sum.inr.inj e
      subst h9
      have hf := xsj hf
      subst hf
      exact ⟨fun a' e => (by have h9 := Sum.inl.inj e; subst h9; exact hm), fun b e => xnc1 e⟩
    · have hf := xin q hf
      exact ⟨fun a' e => hm.tr ((m_X12_lakes_l119 (a := (x4, (0 : Int32), σ)) hf).1 a' e), fun b2 eb2 => ⟨fun a' e => hm.tr (((m_X12_lakes_l119 (a := (x4, (0 : Int32), σ)) hf).2 b2 eb2).1 a' e), fun b1 eb1 => hm.tr (((m_X12_lakes_l119 (a := (x4, (0 : Int32), σ)) hf).2 b2 eb2).2 b1 eb1)⟩⟩
  cases y with
  | inl a' =>
    have h1 := hc a' rfl
    have hm := hy.1 a' rfl
    exact ⟨fun a' e => hm.tr ((h1).1 a' e), fun b1 eb1 => hm.tr ((h1).2 b1 eb1)⟩
  | inr b =>
    have h1 := he b rfl
    subst h1
    exact hy.2 _ rfl
theorem s_X12_lakes_l109 {G : XG} (C : XC G cX12_lakes RX12 (some .int) 8 4 96) {r0 : Nat} {x1 : Int32} {x2 : Int32} {x3 : Int32} {a : Int32 × Int32 × XS} {x : ((Int32 × Int32 × XS) ⊕ (Int32 × XS))} (hf : xloop (f_X12_lakes_b109 r0 x1 x2 x3) a = some x) (hk : (∀ a' : Int32 × Int32 × XS, x = .inl a' → WW G 44 [(0, .ref (gB G + r0)), (1, .int x1), (2, .int a'.1), (3, .int a'.2.1)] [] a'.2.2) ∧ (∀ b1 : Int32 × XS, x = .inr b1 → XEnd G (some (.int b1.1)) b1.2)) : WW G 109 [(0, .ref (gB G + r0)), (1, .int x1), (2, .int x2), (3, .int x3), (4, .int a.1), (5, .int a.2.1)] [] a.2.2 := by
  refine xloop_ind (P := fun a => WW G 109 [(0, .ref (gB G + r0)), (1, .int x1), (2, .int x2), (3, .int x3), (4, .int a.1), (5, .int a.2.1)] [] a.2.2) (fun a y hf hc he => ?_) hf
  obtain ⟨x4, x5, σ⟩ := a
  have hk : (∀ a' : Int32 × Int32 × XS, y = .inl a' → WW G 109 [(0, .ref (gB G + r0)), (1, .int x1), (2, .int x2), (3, .int x3), (4, .int a'.1), (5, .int a'.2.1)] [] a'.2.2) ∧ (∀ b2 : ((Int32 × Int32 × XS) ⊕ (Int32 × XS)), y = .inr b2 → (∀ a' : Int32 × Int32 × XS, b2 = .inl a' → WW G 44 [(0, .ref (gB G + r0)), (1, .int x1), (2, .int a'.1), (3, .int a'.2.1)] [] a'.2.2) ∧ (∀ b1 : Int32 × XS, b2 = .inr b1 → XEnd G (some (.int b1.1)) b1.2)) := ⟨hc, fun b e => by have h9 := he b e; subst h9; exact hk⟩
  refine ww_iload (pc := 109) C 5 dX12_lakes_109 rfl ?_
  refine ww_iload (pc := 111) C 4 dX12_lakes_111 rfl ?_
  refine ww_icmp_ge (pc := 113) (tgt := 211) C dX12_lakes_113 (by decide) (fun q => ?_) (fun q => ?_)
  · have hf := xip q hf
    obtain ⟨b0, hg, e9⟩ := xmj hf
    subst e9
    have hf := hg
    have hk := hk.2 _ rfl
    refine ww_iinc (pc := 211) (v := x3 + (1 : Int32)) (lv' := [(3, .int (x3 + (1 : Int32))), (0, .ref (gB G + r0)), (1, .int x1), (2, .int x2), (4, .int x4), (5, .int x5)]) C 3 dX12_lakes_211 rfl (congrArg (fun z => x3 + z) (show Int32.ofInt (1) = (1 : Int32) by decide)) (by decide) rfl ?_
    refine ww_goto (pc := 214) (tgt := 44) C dX12_lakes_214 (by decide) ?_
    have hf := xsj hf
    subst hf
    refine ww_sub [1, 2, 3, 0] rfl ?_
    exact hk.1 (x2, x3 + (1 : Int32), σ) rfl
  · have hf := xin q hf
    refine ww_iconst (pc := 116) (v := (0 : Int32)) C dX12_lakes_116 (by decide) ?_
    refine ww_istore (pc := 117) (lv' := [(6, .int (0 : Int32)), (0, .ref (gB G + r0)), (1, .int x1), (2, .int x2), (3, .int x3), (4, .int x4), (5, .int x5)]) C dX12_lakes_117 (by decide) rfl ?_
    refine ww_sub [1, 2, 3, 4, 5, 6, 0] rfl ?_
    exact s_X12_lakes_l119 C (a := (x4, (0 : Int32), σ)) hf hk
theorem m_X12_lakes_l44 {r0 : Nat} {x1 : Int32} {a : Int32 × Int32 × XS} {x : Int32 × XS} (hf : xloop (f_X12_lakes_b44 r0 x1) a = some x) : xsame a.2.2 x.2 := by
  refine xloop_ind (P := fun a => xsame a.2.2 x.2) (fun a y hf hc he => ?_) hf
  obtain ⟨x2, x3, σ⟩ := a
  have hy : (∀ a' : Int32 × Int32 × XS, y = .inl a' → xsame σ a'.2.2) ∧ (∀ b1 : Int32 × XS, y = .inr b1 → xsame σ b1.2) := by
    have hm := xsame.rf (σ := σ)
    obtain ⟨_, e1, hf⟩ := xbd hf
    obtain ⟨v3, e2, hf⟩ := xbd hf
    by_cases q : v3 ≤ x3
    · have hf := xip q hf
      obtain ⟨b0, hg, e9⟩ := xmj hf
      subst e9
      have hf := hg
      refine ⟨fun a' e => xnc2 e, fun b e => ?_⟩
      have h9 := Sum.inr.inj e
      subst h9
      have hf := xsj hf
      subst hf
      exact hm
    · have hf := xin q hf
      obtain ⟨z5, e4, hf⟩ := xbd hf
      obtain ⟨v7, e6, hf⟩ := xbd hf
      by_cases q : v7 = 0
      · have hf := xip q hf
        obtain ⟨z9, e8, hf⟩ := xbd hf
        obtain ⟨v11, e10, hf⟩ := xbd hf
        by_cases q : v11 = (100000 : Int32)
        · have hf := xip q hf
          have hf := xsj hf
          subst hf
          exact ⟨fun a' e => (by have h9 := Sum.inl.inj e; subst h9; exact hm), fun b e => xnc1 e⟩
        · have hf := xin q hf
          obtain ⟨z13, e12, hf⟩ := xbd hf
          obtain ⟨v15, e14, hf⟩ := xbd hf
          by_cases q : v15 ≤ x1
          · have hf := xip q hf
            obtain ⟨z17, e16, hf⟩ := xbd hf
            obtain ⟨σ19, e18, hf⟩ := xbd hf
            have hm := hm.tr (xsI_same e18)
            obtain ⟨z21, e20, hf⟩ := xbd hf
            obtain ⟨σ23, e22, hf⟩ := xbd hf
            have hm := hm.tr (xsI_same e22)
            exact ⟨fun a' e => hm.tr ((m_X12_lakes_l109 (a := ((1 : Int32), (0 : Int32), σ23)) hf).1 a' e), fun b1 eb1 => hm.tr ((m_X12_lakes_l109 (a := ((1 : Int32), (0 : Int32), σ23)) hf).2 b1 eb1)⟩
          · have hf := xin q hf
            have hf := xsj hf
            subst hf
            exact ⟨fun a' e => (by have h9 := Sum.inl.inj e; subst h9; exact hm), fun b e => xnc1 e⟩
      · have hf := xin q hf
        have hf := xsj hf
        subst hf
        exact ⟨fun a' e => (by have h9 := Sum.inl.inj e; subst h9; exact hm), fun b e => xnc1 e⟩
  cases y with
  | inl a' =>
    have h1 := hc a' rfl
    have hm := hy.1 a' rfl
    exact hm.tr (h1)
  | inr b =>
    have h1 := he b rfl
    subst h1
    exact hy.2 _ rfl
theorem s_X12_lakes_l44 {G : XG} (C : XC G cX12_lakes RX12 (some .int) 8 4 96) {r0 : Nat} {x1 : Int32} {a : Int32 × Int32 × XS} {x : Int32 × XS} (hf : xloop (f_X12_lakes_b44 r0 x1) a = some x) (hk : XEnd G (some (.int x.1)) x.2) : WW G 44 [(0, .ref (gB G + r0)), (1, .int x1), (2, .int a.1), (3, .int a.2.1)] [] a.2.2 := by
  refine xloop_ind (P := fun a => WW G 44 [(0, .ref (gB G + r0)), (1, .int x1), (2, .int a.1), (3, .int a.2.1)] [] a.2.2) (fun a y hf hc he => ?_) hf
  obtain ⟨x2, x3, σ⟩ := a
  have hk : (∀ a' : Int32 × Int32 × XS, y = .inl a' → WW G 44 [(0, .ref (gB G + r0)), (1, .int x1), (2, .int a'.1), (3, .int a'.2.1)] [] a'.2.2) ∧ (∀ b1 : Int32 × XS, y = .inr b1 → XEnd G (some (.int b1.1)) b1.2) := ⟨hc, fun b e => by have h9 := he b e; subst h9; exact hk⟩
  refine ww_iload_n (pc := 44) C 3 dX12_lakes_44 rfl ?_
  refine ww_aload_n (pc := 45) C 0 dX12_lakes_45 rfl ?_
  obtain ⟨_, e1, hf⟩ := xbd hf
  obtain ⟨v3, e2, hf⟩ := xbd hf
  refine ww_callVi (pc := 46) (as := []) (st := [.int x3]) C (k_X12_states (l := gl G) (E := gE G) (hb := gB G) (σ := σ) e2) rfl (by decide) xc_X12_270 q1555 qp141 (xck_spec e1) rfl (by decide) (xst4 (Nat.le_of_ble_eq_true rfl)) xsame.rf.le xsame.rf.lim dX12_lakes_46 ?_
  refine ww_icmp_ge (pc := 49) (tgt := 217) C dX12_lakes_49 (by decide) (fun q => ?_) (fun q => ?_)
  · have hf := xip q hf
    obtain ⟨b0, hg, e9⟩ := xmj hf
    subst e9
    have hf := hg
    have hk := hk.2 _ rfl
    refine ww_iload_n (pc := 217) C 2 dX12_lakes_217 rfl ?_
    have hf := xsj hf
    subst hf
    exact ww_iret (pc := 218) C hk dX12_lakes_218
  · have hf := xin q hf
    refine ww_aload_n (pc := 52) C 0 dX12_lakes_52 rfl ?_
    obtain ⟨z5, e4, hf⟩ := xbd hf
    refine gf_X12_78 (pc := 53) C e4 dX12_lakes_53 ?_
    refine ww_iload_n (pc := 56) C 3 dX12_lakes_56 rfl ?_
    obtain ⟨v7, e6, hf⟩ := xbd hf
    refine ww_zald (pc := 57) C e6 dX12_lakes_57 ?_
    refine ww_if_ne (pc := 58) (tgt := 211) C dX12_lakes_58 (by decide) (fun q => ?_) (fun q => ?_)
    · have hf := xin q hf
      refine ww_iinc (pc := 211) (v := x3 + (1 : Int32)) (lv' := [(3, .int (x3 + (1 : Int32))), (0, .ref (gB G + r0)), (1, .int x1), (2, .int x2)]) C 3 dX12_lakes_211 rfl (congrArg (fun z => x3 + z) (show Int32.ofInt (1) = (1 : Int32) by decide)) (by decide) rfl ?_
      refine ww_goto (pc := 214) (tgt := 44) C dX12_lakes_214 (by decide) ?_
      have hf := xsj hf
      subst hf
      refine ww_sub [1, 2, 3, 0] rfl ?_
      exact hk.1 (x2, x3 + (1 : Int32), σ) rfl
    · have hf := xip q hf
      refine ww_aload_n (pc := 61) C 0 dX12_lakes_61 rfl ?_
      obtain ⟨z9, e8, hf⟩ := xbd hf
      refine gf_X12_57 (pc := 62) C e8 dX12_lakes_62 ?_
      refine ww_iload_n (pc := 65) C 3 dX12_lakes_65 rfl ?_
      obtain ⟨v11, e10, hf⟩ := xbd hf
      refine ww_iald (pc := 66) C e10 dX12_lakes_66 ?_
      refine ww_ldcw (pc := 67) C q1568 dX12_lakes_67 ?_
      refine ww_icmp_eq (pc := 70) (tgt := 211) C dX12_lakes_70 (by decide) (fun q => ?_) (fun q => ?_)
      · have hf := xip q hf
        refine ww_iinc (pc := 211) (v := x3 + (1 : Int32)) (lv' := [(3, .int (x3 + (1 : Int32))), (0, .ref (gB G + r0)), (1, .int x1), (2, .int x2)]) C 3 dX12_lakes_211 rfl (congrArg (fun z => x3 + z) (show Int32.ofInt (1) = (1 : Int32) by decide)) (by decide) rfl ?_
        refine ww_goto (pc := 214) (tgt := 44) C dX12_lakes_214 (by decide) ?_
        have hf := xsj hf
        subst hf
        refine ww_sub [1, 2, 3, 0] rfl ?_
        exact hk.1 (x2, x3 + (1 : Int32), σ) rfl
      · have hf := xin q hf
        refine ww_aload_n (pc := 73) C 0 dX12_lakes_73 rfl ?_
        obtain ⟨z13, e12, hf⟩ := xbd hf
        refine gf_X12_57 (pc := 74) C e12 dX12_lakes_74 ?_
        refine ww_iload_n (pc := 77) C 3 dX12_lakes_77 rfl ?_
        obtain ⟨v15, e14, hf⟩ := xbd hf
        refine ww_iald (pc := 78) C e14 dX12_lakes_78 ?_
        refine ww_iload_n (pc := 79) C 1 dX12_lakes_79 rfl ?_
        refine ww_icmp_le (pc := 80) (tgt := 86) C dX12_lakes_80 (by decide) (fun q => ?_) (fun q => ?_)
        · have hf := xip q hf
          refine ww_iinc (pc := 86) (v := x2 + (1 : Int32)) (lv' := [(2, .int (x2 + (1 : Int32))), (0, .ref (gB G + r0)), (1, .int x1), (3, .int x3)]) C 2 dX12_lakes_86 rfl (congrArg (fun z => x2 + z) (show Int32.ofInt (1) = (1 : Int32) by decide)) (by decide) rfl ?_
          refine ww_aload_n (pc := 89) C 1 dX12_lakes_89 rfl ?_
          obtain ⟨z17, e16, hf⟩ := xbd hf
          refine gf_X12_78 (pc := 90) C e16 dX12_lakes_90 ?_
          refine ww_iload_n (pc := 93) C 3 dX12_lakes_93 rfl ?_
          refine ww_iconst (pc := 94) (v := (1 : Int32)) C dX12_lakes_94 (by decide) ?_
          obtain ⟨σ19, e18, hf⟩ := xbd hf
          refine ww_zast (pc := 95) C rfl e18 dX12_lakes_95 ?_
          refine ww_aload_n (pc := 96) C 1 dX12_lakes_96 rfl ?_
          obtain ⟨z21, e20, hf⟩ := xbd hf
          refine gf_X12_81 (pc := 97) C e20 dX12_lakes_97 ?_
          refine ww_iconst (pc := 100) (v := (0 : Int32)) C dX12_lakes_100 (by decide) ?_
          refine ww_iload_n (pc := 101) C 3 dX12_lakes_101 rfl ?_
          obtain ⟨σ23, e22, hf⟩ := xbd hf
          refine ww_iast (pc := 102) C e22 dX12_lakes_102 ?_
          refine ww_iconst (pc := 103) (v := (1 : Int32)) C dX12_lakes_103 (by decide) ?_
          refine ww_istore (pc := 104) (lv' := [(4, .int (1 : Int32)), (2, .int (x2 + (1 : Int32))), (0, .ref (gB G + r0)), (1, .int x1), (3, .int x3)]) C dX12_lakes_104 (by decide) rfl ?_
          refine ww_iconst (pc := 106) (v := (0 : Int32)) C dX12_lakes_106 (by decide) ?_
          refine ww_istore (pc := 107) (lv' := [(5, .int (0 : Int32)), (4, .int (1 : Int32)), (2, .int (x2 + (1 : Int32))), (0, .ref (gB G + r0)), (1, .int x1), (3, .int x3)]) C dX12_lakes_107 (by decide) rfl ?_
          refine ww_sub [3, 4, 2, 5, 1, 0] rfl ?_
          exact s_X12_lakes_l109 C (a := ((1 : Int32), (0 : Int32), σ23)) hf hk
        · have hf := xin q hf
          refine ww_goto (pc := 83) (tgt := 211) C dX12_lakes_83 (by decide) ?_
          refine ww_iinc (pc := 211) (v := x3 + (1 : Int32)) (lv' := [(3, .int (x3 + (1 : Int32))), (0, .ref (gB G + r0)), (1, .int x1), (2, .int x2)]) C 3 dX12_lakes_211 rfl (congrArg (fun z => x3 + z) (show Int32.ofInt (1) = (1 : Int32) by decide)) (by decide) rfl ?_
          refine ww_goto (pc := 214) (tgt := 44) C dX12_lakes_214 (by decide) ?_
          have hf := xsj hf
          subst hf
          refine ww_sub [1, 2, 3, 0] rfl ?_
          exact hk.1 (x2, x3 + (1 : Int32), σ) rfl
theorem m_X12_lakes_l19 {r0 : Nat} {x1 : Int32} {a : Int32 × XS} {x : Int32 × XS} (hf : xloop (f_X12_lakes_b19 r0 x1) a = some x) : xsame a.2 x.2 := by
  refine xloop_ind (P := fun a => xsame a.2 x.2) (fun a y hf hc he => ?_) hf
  obtain ⟨x2, σ⟩ := a
  have hy : (∀ a' : Int32 × XS, y = .inl a' → xsame σ a'.2) ∧ (∀ b1 : Int32 × XS, y = .inr b1 → xsame σ b1.2) := by
    have hm := xsame.rf (σ := σ)
    obtain ⟨_, e1, hf⟩ := xbd hf
    obtain ⟨v3, e2, hf⟩ := xbd hf
    by_cases q : v3 ≤ x2
    · have hf := xip q hf
      obtain ⟨b0, hg, e9⟩ := xmj hf
      subst e9
      have hf := hg
      refine ⟨fun a' e => xnc2 e, fun b e => ?_⟩
      have h9 := Sum.inr.inj e
      subst h9
      exact hm.tr (m_X12_lakes_l44 (a := ((0 : Int32), (0 : Int32), σ)) hf)
    · have hf := xin q hf
      obtain ⟨z5, e4, hf⟩ := xbd hf
      obtain ⟨σ7, e6, hf⟩ := xbd hf
      have hm := hm.tr (xsI_same e6)
      have hf := xsj hf
      subst hf
      exact ⟨fun a' e => (by have h9 := Sum.inl.inj e; subst h9; exact hm), fun b e => xnc1 e⟩
  cases y with
  | inl a' =>
    have h1 := hc a' rfl
    have hm := hy.1 a' rfl
    exact hm.tr (h1)
  | inr b =>
    have h1 := he b rfl
    subst h1
    exact hy.2 _ rfl
theorem s_X12_lakes_l19 {G : XG} (C : XC G cX12_lakes RX12 (some .int) 8 4 96) {r0 : Nat} {x1 : Int32} {a : Int32 × XS} {x : Int32 × XS} (hf : xloop (f_X12_lakes_b19 r0 x1) a = some x) (hk : XEnd G (some (.int x.1)) x.2) : WW G 19 [(0, .ref (gB G + r0)), (1, .int x1), (2, .int a.1)] [] a.2 := by
  refine xloop_ind (P := fun a => WW G 19 [(0, .ref (gB G + r0)), (1, .int x1), (2, .int a.1)] [] a.2) (fun a y hf hc he => ?_) hf
  obtain ⟨x2, σ⟩ := a
  have hk : (∀ a' : Int32 × XS, y = .inl a' → WW G 19 [(0, .ref (gB G + r0)), (1, .int x1), (2, .int a'.1)] [] a'.2) ∧ (∀ b1 : Int32 × XS, y = .inr b1 → XEnd G (some (.int b1.1)) b1.2) := ⟨hc, fun b e => by have h9 := he b e; subst h9; exact hk⟩
  refine ww_iload_n (pc := 19) C 2 dX12_lakes_19 rfl ?_
  refine ww_aload_n (pc := 20) C 0 dX12_lakes_20 rfl ?_
  obtain ⟨_, e1, hf⟩ := xbd hf
  obtain ⟨v3, e2, hf⟩ := xbd hf
  refine ww_callVi (pc := 21) (as := []) (st := [.int x2]) C (k_X12_states (l := gl G) (E := gE G) (hb := gB G) (σ := σ) e2) rfl (by decide) xc_X12_270 q1555 qp141 (xck_spec e1) rfl (by decide) (xst4 (Nat.le_of_ble_eq_true rfl)) xsame.rf.le xsame.rf.lim dX12_lakes_21 ?_
  refine ww_icmp_ge (pc := 24) (tgt := 40) C dX12_lakes_24 (by decide) (fun q => ?_) (fun q => ?_)
  · have hf := xip q hf
    obtain ⟨b0, hg, e9⟩ := xmj hf
    subst e9
    have hf := hg
    have hk := hk.2 _ rfl
    refine ww_iconst (pc := 40) (v := (0 : Int32)) C dX12_lakes_40 (by decide) ?_
    refine ww_istore_n (pc := 41) (lv' := [(2, .int (0 : Int32)), (0, .ref (gB G + r0)), (1, .int x1)]) C dX12_lakes_41 (by decide) rfl ?_
    refine ww_iconst (pc := 42) (v := (0 : Int32)) C dX12_lakes_42 (by decide) ?_
    refine ww_istore_n (pc := 43) (lv' := [(3, .int (0 : Int32)), (2, .int (0 : Int32)), (0, .ref (gB G + r0)), (1, .int x1)]) C dX12_lakes_43 (by decide) rfl ?_
    refine ww_sub [2, 3, 1, 0] rfl ?_
    exact s_X12_lakes_l44 C (a := ((0 : Int32), (0 : Int32), σ)) hf hk
  · have hf := xin q hf
    refine ww_aload_n (pc := 27) C 0 dX12_lakes_27 rfl ?_
    obtain ⟨z5, e4, hf⟩ := xbd hf
    refine gf_X12_78 (pc := 28) C e4 dX12_lakes_28 ?_
    refine ww_iload_n (pc := 31) C 2 dX12_lakes_31 rfl ?_
    refine ww_iconst (pc := 32) (v := (0 : Int32)) C dX12_lakes_32 (by decide) ?_
    obtain ⟨σ7, e6, hf⟩ := xbd hf
    refine ww_zast (pc := 33) C rfl e6 dX12_lakes_33 ?_
    refine ww_iinc (pc := 34) (v := x2 + (1 : Int32)) (lv' := [(2, .int (x2 + (1 : Int32))), (0, .ref (gB G + r0)), (1, .int x1)]) C 2 dX12_lakes_34 rfl (congrArg (fun z => x2 + z) (show Int32.ofInt (1) = (1 : Int32) by decide)) (by decide) rfl ?_
    refine ww_goto (pc := 37) (tgt := 19) C dX12_lakes_37 (by decide) ?_
    have hf := xsj hf
    subst hf
    refine ww_sub [1, 2, 0] rfl ?_
    exact hk.1 (x2 + (1 : Int32), σ7) rfl
theorem s_X12_lakes_e {G : XG} (C : XC G cX12_lakes RX12 (some .int) 8 4 96) {σ : XS} {r0 : Nat} {x1 : Int32} {x : Int32 × XS} (hf : f_X12_lakes σ r0 x1 = some x) (hk : XEnd G (some (.int x.1)) x.2) : WW G 0 [(0, .ref (gB G + r0)), (1, .int x1)] [] σ := by
  refine ww_aload_n (pc := 0) C 0 dX12_lakes_0 rfl ?_
  obtain ⟨_, e1, hf⟩ := xbd hf
  obtain ⟨v3, e2, hf⟩ := xbd hf
  refine ww_callVi (pc := 1) (as := []) (st := []) C (k_X12_sites (l := gl G) (E := gE G) (hb := gB G) (σ := σ) e2) rfl (by decide) xc_X12_193 q1496 qp136 (xck_spec e1) rfl (by decide) (xst4 (Nat.le_of_ble_eq_true rfl)) xsame.rf.le xsame.rf.lim dX12_lakes_1 ?_
  refine ww_bipush (pc := 4) (v := (10 : Int32)) C dX12_lakes_4 (by decide) ?_
  refine ww_icmp_le (pc := 6) (tgt := 13) C dX12_lakes_6 (by decide) (fun q => ?_) (fun q => ?_)
  · have hf := xip q hf
    refine ww_aload_n (pc := 13) C 0 dX12_lakes_13 rfl ?_
    obtain ⟨_, e4, hf⟩ := xbd hf
    obtain ⟨σ6, e5, hf⟩ := xbd hf
    refine ww_callVv (pc := 14) (as := []) (st := []) C (k_X12_knows (l := gl G) (E := gE G) (hb := gB G) (σ := σ) e5) rfl (by decide) xc_X12_261 q1551 qp140 (xck_spec e4) rfl (by decide) (xst4 (Nat.le_of_ble_eq_true rfl)) (m_X12_knows e5).le (m_X12_knows e5).lim dX12_lakes_14 ?_
    refine ww_iconst (pc := 17) (v := (0 : Int32)) C dX12_lakes_17 (by decide) ?_
    refine ww_istore_n (pc := 18) (lv' := [(2, .int (0 : Int32)), (0, .ref (gB G + r0)), (1, .int x1)]) C dX12_lakes_18 (by decide) rfl ?_
    refine ww_sub [1, 2, 0] rfl ?_
    exact s_X12_lakes_l19 C (a := ((0 : Int32), σ6)) hf hk
  · have hf := xin q hf
    refine ww_ldcw (pc := 9) C q1597 dX12_lakes_9 ?_
    have hf := xsj hf
    subst hf
    exact ww_iret (pc := 12) C hk dX12_lakes_12
theorem m_X12_lakes {σ : XS} {r0 : Nat} {x1 : Int32} {x : Int32 × XS} (hf : f_X12_lakes σ r0 x1 = some x) : xsame σ x.2 := by
  have hm := xsame.rf (σ := σ)
  obtain ⟨_, e1, hf⟩ := xbd hf
  obtain ⟨v3, e2, hf⟩ := xbd hf
  by_cases q : v3 ≤ (10 : Int32)
  · have hf := xip q hf
    obtain ⟨_, e4, hf⟩ := xbd hf
    obtain ⟨σ6, e5, hf⟩ := xbd hf
    have hm := hm.tr (m_X12_knows e5)
    exact hm.tr (m_X12_lakes_l19 (a := ((0 : Int32), σ6)) hf)
  · have hf := xin q hf
    have hf := xsj hf
    subst hf
    exact hm
theorem k_X12_lakes {l : Launch} {E : XD} {hb : Nat} {σ : XS} {r0 : Nat} {x1 : Int32} {x : Int32 × XS} (h : f_X12_lakes σ r0 x1 = some x) : XM l yX12_lakes cX12_lakes 8 (some .int) 4 96 E hb [.ref (hb + r0), .int x1] σ (some (.int x.1)) x.2 := by
  refine xm_of (by decide) (Nat.le_of_ble_eq_true rfl) (m_X12_lakes h).le (fun G hG C hl hQ => ?_)
  obtain ⟨rfl, rfl, rfl, hN⟩ := hG
  exact s_X12_lakes_e C h hQ
noncomputable def f_X12_upsOf_b7 (σ : XS) (r0 : Nat) (x1 : Int32) (x2 : Int32) : Int32 × Int32 → Option ((Int32 × Int32) ⊕ (Int32)) := fun a => match a with
  | (x3, x4) => (xck σ r0 12).bind fun _ => (f_X12_states σ r0).bind fun v3 => if v3 ≤ x4 then ((some (x2 * x3)).map .inr) else (xgR σ r0 12 33).bind fun z5 => (xaI σ 20 z5 x4).bind fun v7 => if v7 = x1 then ((f_X12_bitsOf x4).bind fun v9 => if x3 ≤ (x2 * v9) then (some (.inl (x3, x4 + (1 : Int32)))) else (f_X12_bitsOf x4).bind fun v11 => some (.inl (x2 * v11, x4 + (1 : Int32)))) else some (.inl (x3, x4 + (1 : Int32)))
noncomputable def f_X12_upsOf (σ : XS) (r0 : Nat) (x1 : Int32) (x2 : Int32) : Option Int32 := xloop (f_X12_upsOf_b7 σ r0 x1 x2) ((100000 : Int32), (0 : Int32))
theorem s_X12_upsOf_l7 {G : XG} (C : XC G cX12_upsOf RX12 (some .int) 5 2 40) {σ : XS} {r0 : Nat} {x1 : Int32} {x2 : Int32} {a : Int32 × Int32} {x : Int32} (hf : xloop (f_X12_upsOf_b7 σ r0 x1 x2) a = some x) (hk : XEnd G (some (.int x)) σ) : WW G 7 [(0, .ref (gB G + r0)), (1, .int x1), (2, .int x2), (3, .int a.1), (4, .int a.2)] [] σ := by
  refine xloop_ind (P := fun a => WW G 7 [(0, .ref (gB G + r0)), (1, .int x1), (2, .int x2), (3, .int a.1), (4, .int a.2)] [] σ) (fun a y hf hc he => ?_) hf
  obtain ⟨x3, x4⟩ := a
  have hk : (∀ a' : Int32 × Int32, y = .inl a' → WW G 7 [(0, .ref (gB G + r0)), (1, .int x1), (2, .int x2), (3, .int a'.1), (4, .int a'.2)] [] σ) ∧ (∀ b1 : Int32, y = .inr b1 → XEnd G (some (.int b1)) σ) := ⟨hc, fun b e => by have h9 := he b e; subst h9; exact hk⟩
  refine ww_iload (pc := 7) C 4 dX12_upsOf_7 rfl ?_
  refine ww_aload_n (pc := 9) C 0 dX12_upsOf_9 rfl ?_
  obtain ⟨_, e1, hf⟩ := xbd hf
  obtain ⟨v3, e2, hf⟩ := xbd hf
  refine ww_callVi (pc := 10) (as := []) (st := [.int x4]) C (k_X12_states (l := gl G) (E := gE G) (hb := gB G) (σ := σ) e2) rfl (by decide) xc_X12_270 q1555 qp141 (xck_spec e1) rfl (by decide) (xst4 (Nat.le_of_ble_eq_true rfl)) xsame.rf.le xsame.rf.lim dX12_upsOf_10 ?_
  refine ww_icmp_ge (pc := 13) (tgt := 52) C dX12_upsOf_13 (by decide) (fun q => ?_) (fun q => ?_)
  · have hf := xip q hf
    obtain ⟨b0, hg, e9⟩ := xmj hf
    subst e9
    have hf := hg
    have hk := hk.2 _ rfl
    refine ww_iload_n (pc := 52) C 2 dX12_upsOf_52 rfl ?_
    refine ww_iload_n (pc := 53) C 3 dX12_upsOf_53 rfl ?_
    refine ww_imul (pc := 54) C dX12_upsOf_54 ?_
    have hf := xsj hf
    subst hf
    exact ww_iret (pc := 55) C hk dX12_upsOf_55
  · have hf := xin q hf
    refine ww_aload_n (pc := 16) C 0 dX12_upsOf_16 rfl ?_
    obtain ⟨z5, e4, hf⟩ := xbd hf
    refine gf_X12_57 (pc := 17) C e4 dX12_upsOf_17 ?_
    refine ww_iload (pc := 20) C 4 dX12_upsOf_20 rfl ?_
    obtain ⟨v7, e6, hf⟩ := xbd hf
    refine ww_iald (pc := 22) C e6 dX12_upsOf_22 ?_
    refine ww_iload_n (pc := 23) C 1 dX12_upsOf_23 rfl ?_
    refine ww_icmp_ne (pc := 24) (tgt := 46) C dX12_upsOf_24 (by decide) (fun q => ?_) (fun q => ?_)
    · have hf := xin q hf
      refine ww_iinc (pc := 46) (v := x4 + (1 : Int32)) (lv' := [(4, .int (x4 + (1 : Int32))), (0, .ref (gB G + r0)), (1, .int x1), (2, .int x2), (3, .int x3)]) C 4 dX12_upsOf_46 rfl (congrArg (fun z => x4 + z) (show Int32.ofInt (1) = (1 : Int32) by decide)) (by decide) rfl ?_
      refine ww_goto (pc := 49) (tgt := 7) C dX12_upsOf_49 (by decide) ?_
      have hf := xsj hf
      subst hf
      refine ww_sub [1, 2, 3, 4, 0] rfl ?_
      exact hk.1 (x3, x4 + (1 : Int32)) rfl
    · have hf := xip q hf
      refine ww_iload_n (pc := 27) C 2 dX12_upsOf_27 rfl ?_
      refine ww_iload (pc := 28) C 4 dX12_upsOf_28 rfl ?_
      obtain ⟨v9, e8, hf⟩ := xbd hf
      refine ww_callSi (pc := 30) (as := [.int x4]) (st := [.int x2]) C (k_X12_bitsOf (l := gl G) (E := gE G) (hb := gB G) (σ := σ) e8) xc_X12_292 q1615 rfl (by decide) (xst4 (Nat.le_of_ble_eq_true rfl)) xsame.rf.le xsame.rf.lim dX12_upsOf_30 ?_
      refine ww_imul (pc := 33) C dX12_upsOf_33 ?_
      refine ww_iload_n (pc := 34) C 3 dX12_upsOf_34 rfl ?_
      refine ww_icmp_ge (pc := 35) (tgt := 46) C dX12_upsOf_35 (by decide) (fun q => ?_) (fun q => ?_)
      · have hf := xip q hf
        refine ww_iinc (pc := 46) (v := x4 + (1 : Int32)) (lv' := [(4, .int (x4 + (1 : Int32))), (0, .ref (gB G + r0)), (1, .int x1), (2, .int x2), (3, .int x3)]) C 4 dX12_upsOf_46 rfl (congrArg (fun z => x4 + z) (show Int32.ofInt (1) = (1 : Int32) by decide)) (by decide) rfl ?_
        refine ww_goto (pc := 49) (tgt := 7) C dX12_upsOf_49 (by decide) ?_
        have hf := xsj hf
        subst hf
        refine ww_sub [1, 2, 3, 4, 0] rfl ?_
        exact hk.1 (x3, x4 + (1 : Int32)) rfl
      · have hf := xin q hf
        refine ww_iload_n (pc := 38) C 2 dX12_upsOf_38 rfl ?_
        refine ww_iload (pc := 39) C 4 dX12_upsOf_39 rfl ?_
        obtain ⟨v11, e10, hf⟩ := xbd hf
        refine ww_callSi (pc := 41) (as := [.int x4]) (st := [.int x2]) C (k_X12_bitsOf (l := gl G) (E := gE G) (hb := gB G) (σ := σ) e10) xc_X12_292 q1615 rfl (by decide) (xst4 (Nat.le_of_ble_eq_true rfl)) xsame.rf.le xsame.rf.lim dX12_upsOf_41 ?_
        refine ww_imul (pc := 44) C dX12_upsOf_44 ?_
        refine ww_istore_n (pc := 45) (lv' := [(3, .int (x2 * v11)), (0, .ref (gB G + r0)), (1, .int x1), (2, .int x2), (4, .int x4)]) C dX12_upsOf_45 (by decide) rfl ?_
        refine ww_iinc (pc := 46) (v := x4 + (1 : Int32)) (lv' := [(4, .int (x4 + (1 : Int32))), (3, .int (x2 * v11)), (0, .ref (gB G + r0)), (1, .int x1), (2, .int x2)]) C 4 dX12_upsOf_46 rfl (congrArg (fun z => x4 + z) (show Int32.ofInt (1) = (1 : Int32) by decide)) (by decide) rfl ?_
        refine ww_goto (pc := 49) (tgt := 7) C dX12_upsOf_49 (by decide) ?_
        have hf := xsj hf
        subst hf
        refine ww_sub [2, 3, 4, 1, 0] rfl ?_
        exact hk.1 (x2 * v11, x4 + (1 : Int32)) rfl
theorem s_X12_upsOf_e {G : XG} (C : XC G cX12_upsOf RX12 (some .int) 5 2 40) {σ : XS} {r0 : Nat} {x1 : Int32} {x2 : Int32} {x : Int32} (hf : f_X12_upsOf σ r0 x1 x2 = some x) (hk : XEnd G (some (.int x)) σ) : WW G 0 [(0, .ref (gB G + r0)), (1, .int x1), (2, .int x2)] [] σ := by
  refine ww_ldcw (pc := 0) C q1568 dX12_upsOf_0 ?_
  refine ww_istore_n (pc := 3) (lv' := [(3, .int (100000 : Int32)), (0, .ref (gB G + r0)), (1, .int x1), (2, .int x2)]) C dX12_upsOf_3 (by decide) rfl ?_
  refine ww_iconst (pc := 4) (v := (0 : Int32)) C dX12_upsOf_4 (by decide) ?_
  refine ww_istore (pc := 5) (lv' := [(4, .int (0 : Int32)), (3, .int (100000 : Int32)), (0, .ref (gB G + r0)), (1, .int x1), (2, .int x2)]) C dX12_upsOf_5 (by decide) rfl ?_
  refine ww_sub [2, 3, 4, 1, 0] rfl ?_
  exact s_X12_upsOf_l7 C (a := ((100000 : Int32), (0 : Int32))) hf hk
theorem k_X12_upsOf {l : Launch} {E : XD} {hb : Nat} {σ : XS} {r0 : Nat} {x1 : Int32} {x2 : Int32} {x : Int32} (h : f_X12_upsOf σ r0 x1 x2 = some x) : XM l yX12_upsOf cX12_upsOf 5 (some .int) 2 40 E hb [.ref (hb + r0), .int x1, .int x2] σ (some (.int x)) σ := by
  refine xm_of (by decide) (Nat.le_of_ble_eq_true rfl) ⟨Nat.le_refl _, Nat.le_refl _⟩ (fun G hG C hl hQ => ?_)
  obtain ⟨rfl, rfl, rfl, hN⟩ := hG
  exact s_X12_upsOf_e C h hQ
end
