noncomputable def f_X12_read_b286 (r0 : Nat) : Int32 × XS → Option ((Int32 × XS) ⊕ (Int32 × XS)) := fun a => match a with
  | (x1, σ) => if (3 : Int32) ≤ x1 then (((xpI σ r0 12 32 (0 : Int32)).bind fun σ2 => some ((0 : Int32), σ2)).map .inr) else (xgR σ r0 12 31).bind fun z2 => (xsI σ 22 z2 x1 (0 : Int32)).bind fun σ4 => some (.inl (x1 + (1 : Int32), σ4))
noncomputable def f_X12_read_b239 (r0 : Nat) : Int32 × XS → Option ((Int32 × XS) ⊕ (Int32 × XS)) := fun a => match a with
  | (x1, σ) => (xck σ r0 12).bind fun _ => (f_X12_sites σ r0).bind fun v3 => if v3 ≤ x1 then (((xpI σ r0 12 29 (0 : Int32)).bind fun σ5 => xloop (f_X12_read_b286 r0) ((0 : Int32), σ5)).map .inr) else (xgR σ r0 12 21).bind fun z5 => (xaI σ 20 z5 ((48 : Int32) + x1)).bind fun v7 => if v7 = (1 : Int32) then ((xgR σ r0 12 21).bind fun z9 => (xaI σ 20 z9 (64 : Int32)).bind fun v11 => (xsI σ 20 z9 (64 : Int32) (v11 ||| ((1 : Int32) <<< (x1 &&& 31)))).bind fun σ13 => some (.inl (x1 + (1 : Int32), σ13))) else some (.inl (x1 + (1 : Int32), σ))
noncomputable def f_X12_read_b205 (r0 : Nat) : Int32 × XS → Option ((Int32 × XS) ⊕ (Int32 × XS)) := fun a => match a with
  | (x1, σ) => if (66 : Int32) ≤ x1 then (((xgR σ r0 12 21).bind fun z2 => (xsI σ 20 z2 (64 : Int32) (0 : Int32)).bind fun σ4 => xloop (f_X12_read_b239 r0) ((0 : Int32), σ4)).map .inr) else (xgR σ r0 12 21).bind fun z2 => (xgR σ r0 12 26).bind fun z4 => (xaI σ 20 z4 x1).bind fun v6 => (xsI σ 20 z2 x1 v6).bind fun σ8 => some (.inl (x1 + (1 : Int32), σ8))
noncomputable def f_X12_read_j144 (σ : XS) (r0 : Nat) (t0 : Nat) (t1 : Int32) : Option (Int32 × XS) := (xpI σ t0 12 16 t1).bind fun σ2 => (xgI σ2 r0 12 12).bind fun v4 => if v4 ≤ 0 then ((xgI σ2 r0 12 14).bind fun v6 => if v6 ≤ 0 then ((xgI σ2 r0 12 22).bind fun v8 => (xpI σ2 r0 12 17 v8).bind fun σ10 => (xgI σ10 r0 12 23).bind fun v12 => (xpI σ10 r0 12 18 v12).bind fun σ14 => (xgI σ14 r0 12 24).bind fun v16 => (xbz v16).bind fun _ => (xpI σ14 r0 12 19 v16).bind fun σ19 => (xgI σ19 r0 12 25).bind fun v21 => (xbz v21).bind fun _ => (xpI σ19 r0 12 20 v21).bind fun σ24 => xloop (f_X12_read_b205 r0) ((0 : Int32), σ24)) else (xgI σ2 r0 12 14).bind fun v8 => some (v8, σ2)) else (xgI σ2 r0 12 12).bind fun v6 => some (v6, σ2)
noncomputable def f_X12_read_j114 (σ : XS) (r0 : Nat) : Option (Int32 × XS) := (xgI σ r0 12 12).bind fun v2 => if v2 ≤ 0 then ((xgI σ r0 12 14).bind fun v4 => if v4 ≤ 0 then (f_X12_read_j144 σ r0 r0 (-1 : Int32)) else (xgI σ r0 12 15).bind fun v6 => f_X12_read_j144 σ r0 r0 v6) else (xgI σ r0 12 13).bind fun v4 => f_X12_read_j144 σ r0 r0 v4
noncomputable def f_X12_read_j103 (σ : XS) (r0 : Nat) : Option (Int32 × XS) := (xgI σ r0 12 12).bind fun v2 => if v2 = 0 then ((xck σ r0 12).bind fun _ => (f_X12_means σ r0).bind fun σ5 => f_X12_read_j114 σ5 r0) else f_X12_read_j114 σ r0
noncomputable def f_X12_read_b81 (r0 : Nat) : XS → Option ((XS) ⊕ (Int32 × XS)) := fun a => match a with
  | σ => (xgI σ r0 12 12).bind fun v2 => if v2 = 0 then ((xck σ r0 12).bind fun _ => (f_X12_is σ r0 (0 : Int32)).bind fun v5 => if v5 = 0 then ((xck σ r0 12).bind fun _ => (f_X12_line σ r0).bind fun σ8 => some (.inl σ8)) else (f_X12_read_j103 σ r0).map .inr) else (f_X12_read_j103 σ r0).map .inr
noncomputable def f_X12_read_b10 (r0 : Nat) : Int32 × XS → Option ((Int32 × XS) ⊕ (Int32 × XS)) := fun a => match a with
  | (x1, σ) => (xgI σ r0 12 4).bind fun v2 => if v2 ≤ x1 then (((xpI σ r0 12 2 (0 : Int32)).bind fun σ4 => (xck σ4 r0 12).bind fun _ => (f_X12_cutsText σ4 r0).bind fun σ7 => (xpI σ7 r0 12 11 (0 : Int32)).bind fun σ9 => (xpI σ9 r0 12 12 (0 : Int32)).bind fun σ11 => (xpI σ11 r0 12 14 (0 : Int32)).bind fun σ13 => (xck σ13 r0 12).bind fun _ => (f_X12_must σ13 r0 (20 : Int32)).bind fun σ16 => (xck σ16 r0 12).bind fun _ => (f_X12_must σ16 r0 (2 : Int32)).bind fun σ19 => (xck σ19 r0 12).bind fun _ => (f_X12_must σ19 r0 (2 : Int32)).bind fun σ22 => (xck σ22 r0 12).bind fun _ => (f_X12_must σ22 r0 (4 : Int32)).bind fun σ25 => xloop (f_X12_read_b81 r0) σ25).map .inr) else (xgR σ r0 12 3).bind fun z4 => (xgR σ r0 12 1).bind fun z6 => (xaI σ 21 z6 x1).bind fun v8 => (xsI σ 21 z4 x1 (vp_nar .byte v8)).bind fun σ10 => some (.inl (x1 + (1 : Int32), σ10))
noncomputable def f_X12_read (σ : XS) (r0 : Nat) : Option (Int32 × XS) := (xgI σ r0 12 2).bind fun v2 => (xpI σ r0 12 4 v2).bind fun σ4 => xloop (f_X12_read_b10 r0) ((0 : Int32), σ4)
theorem m_X12_read_l286 {r0 : Nat} {a : Int32 × XS} {x : Int32 × XS} (hf : xloop (f_X12_read_b286 r0) a = some x) : xsame a.2 x.2 := by
  refine xloop_ind (P := fun a => xsame a.2 x.2) (fun a y hf hc he => ?_) hf
  obtain ⟨x1, σ⟩ := a
  have hy : (∀ a' : Int32 × XS, y = .inl a' → xsame σ a'.2) ∧ (∀ b1 : Int32 × XS, y = .inr b1 → xsame σ b1.2) := by
    have hm := xsame.rf (σ := σ)
    by_cases q : (3 : Int32) ≤ x1
    · have hf := xip q hf
      obtain ⟨b0, hg, e9⟩ := xmj hf
      subst e9
      have hf := hg
      refine ⟨fun a' e => xnc2 e, fun b e => ?_⟩
      have h9 := Sum.inr.inj e
      subst h9
      obtain ⟨σ2, e1, hf⟩ := xbd hf
      have hm := hm.tr (xpI_same e1)
      have hf := xsj hf
      subst hf
      exact hm
    · have hf := xin q hf
      obtain ⟨z2, e1, hf⟩ := xbd hf
      obtain ⟨σ4, e3, hf⟩ := xbd hf
      have hm := hm.tr (xsI_same e3)
      have hf := xsj hf
      subst hf
      exact ⟨fun a' e => (by have h9 := Sum.inl.inj e; subst h9; exact hm), fun b e => xnc1 e⟩
  cases y with
  | inl a' =>
    have h1 := hc a' rfl
    have hm := hy.1 a' rfl
    exact hm.tr (h1)
  | inr b =>
    have h1 := he b rfl
    subst h1
    exact hy.2 _ rfl
theorem s_X12_read_l286 {G : XG} (C : XC G cX12_read RX12 (some .int) 2 5 103) {r0 : Nat} {a : Int32 × XS} {x : Int32 × XS} (hf : xloop (f_X12_read_b286 r0) a = some x) (hk : XEnd G (some (.int x.1)) x.2) : WW G 286 [(0, .ref (gB G + r0)), (1, .int a.1)] [] a.2 := by
  refine xloop_ind (P := fun a => WW G 286 [(0, .ref (gB G + r0)), (1, .int a.1)] [] a.2) (fun a y hf hc he => ?_) hf
  obtain ⟨x1, σ⟩ := a
  have hk : (∀ a' : Int32 × XS, y = .inl a' → WW G 286 [(0, .ref (gB G + r0)), (1, .int a'.1)] [] a'.2) ∧ (∀ b1 : Int32 × XS, y = .inr b1 → XEnd G (some (.int b1.1)) b1.2) := ⟨hc, fun b e => by have h9 := he b e; subst h9; exact hk⟩
  refine ww_iload_n (pc := 286) C 1 dX12_read_286 rfl ?_
  refine ww_iconst (pc := 287) (v := (3 : Int32)) C dX12_read_287 (by decide) ?_
  refine ww_icmp_ge (pc := 288) (tgt := 304) C dX12_read_288 (by decide) (fun q => ?_) (fun q => ?_)
  · have hf := xip q hf
    obtain ⟨b0, hg, e9⟩ := xmj hf
    subst e9
    have hf := hg
    have hk := hk.2 _ rfl
    refine ww_aload_n (pc := 304) C 0 dX12_read_304 rfl ?_
    refine ww_iconst (pc := 305) (v := (0 : Int32)) C dX12_read_305 (by decide) ?_
    obtain ⟨σ2, e1, hf⟩ := xbd hf
    refine pf_X12_200 (pc := 306) C (Or.inl rfl) e1 dX12_read_306 ?_
    refine ww_iconst (pc := 309) (v := (0 : Int32)) C dX12_read_309 (by decide) ?_
    have hf := xsj hf
    subst hf
    exact ww_iret (pc := 310) C hk dX12_read_310
  · have hf := xin q hf
    refine ww_aload_n (pc := 291) C 0 dX12_read_291 rfl ?_
    obtain ⟨z2, e1, hf⟩ := xbd hf
    refine gf_X12_52 (pc := 292) C e1 dX12_read_292 ?_
    refine ww_iload_n (pc := 295) C 1 dX12_read_295 rfl ?_
    refine ww_iconst (pc := 296) (v := (0 : Int32)) C dX12_read_296 (by decide) ?_
    obtain ⟨σ4, e3, hf⟩ := xbd hf
    refine ww_zast (pc := 297) C rfl e3 dX12_read_297 ?_
    refine ww_iinc (pc := 298) (v := x1 + (1 : Int32)) (lv' := [(1, .int (x1 + (1 : Int32))), (0, .ref (gB G + r0))]) C 1 dX12_read_298 rfl (congrArg (fun z => x1 + z) (show Int32.ofInt (1) = (1 : Int32) by decide)) (by decide) rfl ?_
    refine ww_goto (pc := 301) (tgt := 286) C dX12_read_301 (by decide) ?_
    have hf := xsj hf
    subst hf
    refine ww_sub [1, 0] rfl ?_
    exact hk.1 (x1 + (1 : Int32), σ4) rfl
theorem m_X12_read_l239 {r0 : Nat} {a : Int32 × XS} {x : Int32 × XS} (hf : xloop (f_X12_read_b239 r0) a = some x) : xsame a.2 x.2 := by
  refine xloop_ind (P := fun a => xsame a.2 x.2) (fun a y hf hc he => ?_) hf
  obtain ⟨x1, σ⟩ := a
  have hy : (∀ a' : Int32 × XS, y = .inl a' → xsame σ a'.2) ∧ (∀ b1 : Int32 × XS, y = .inr b1 → xsame σ b1.2) := by
    have hm := xsame.rf (σ := σ)
    obtain ⟨_, e1, hf⟩ := xbd hf
    obtain ⟨v3, e2, hf⟩ := xbd hf
    by_cases q : v3 ≤ x1
    · have hf := xip q hf
      obtain ⟨b0, hg, e9⟩ := xmj hf
      subst e9
      have hf := hg
      refine ⟨fun a' e => xnc2 e, fun b e => ?_⟩
      have h9 := Sum.inr.inj e
      subst h9
      obtain ⟨σ5, e4, hf⟩ := xbd hf
      have hm := hm.tr (xpI_same e4)
      exact hm.tr (m_X12_read_l286 (a := ((0 : Int32), σ5)) hf)
    · have hf := xin q hf
      obtain ⟨z5, e4, hf⟩ := xbd hf
      obtain ⟨v7, e6, hf⟩ := xbd hf
      by_cases q : v7 = (1 : Int32)
      · have hf := xip q hf
        obtain ⟨z9, e8, hf⟩ := xbd hf
        obtain ⟨v11, e10, hf⟩ := xbd hf
        obtain ⟨σ13, e12, hf⟩ := xbd hf
        have hm := hm.tr (xsI_same e12)
        have hf := xsj hf
        subst hf
        exact ⟨fun a' e => (by have h9 := Sum.inl.inj e; subst h9; exact hm), fun b e => xnc1 e⟩
      · have hf := xin q hf
        have hf := xsj hf
        subst hf
        exact ⟨fun a' e => (by have h9 := Sum.inl.inj e; subst h9; exact hm), fun b e => xnc1 e⟩
  cases y with
  | inl a' =>
    have h1 := hc a' rfl
    have hm := hy.1 a' rfl
    exact hm.tr (h1)
  | inr b =>
    have h1 := he b rfl
    subst h1
    exact hy.2 _ rfl
theorem s_X12_read_l239 {G : XG} (C : XC G cX12_read RX12 (some .int) 2 5 103) {r0 : Nat} {a : Int32 × XS} {x : Int32 × XS} (hf : xloop (f_X12_read_b239 r0) a = some x) (hk : XEnd G (some (.int x.1)) x.2) : WW G 239 [(0, .ref (gB G + r0)), (1, .int a.1)] [] a.2 := by
  refine xloop_ind (P := fun a => WW G 239 [(0, .ref (gB G + r0)), (1, .int a.1)] [] a.2) (fun a y hf hc he => ?_) hf
  obtain ⟨x1, σ⟩ := a
  have hk : (∀ a' : Int32 × XS, y = .inl a' → WW G 239 [(0, .ref (gB G + r0)), (1, .int a'.1)] [] a'.2) ∧ (∀ b1 : Int32 × XS, y = .inr b1 → XEnd G (some (.int b1.1)) b1.2) := ⟨hc, fun b e => by have h9 := he b e; subst h9; exact hk⟩
  refine ww_iload_n (pc := 239) C 1 dX12_read_239 rfl ?_
  refine ww_aload_n (pc := 240) C 0 dX12_read_240 rfl ?_
  obtain ⟨_, e1, hf⟩ := xbd hf
  obtain ⟨v3, e2, hf⟩ := xbd hf
  refine ww_callVi (pc := 241) (as := []) (st := [.int x1]) C (k_X12_sites (l := gl G) (E := gE G) (hb := gB G) (σ := σ) e2) rfl (by decide) xc_X12_193 q1496 qp136 (xck_spec e1) rfl (by decide) (xst4 (Nat.le_of_ble_eq_true rfl)) xsame.rf.le xsame.rf.lim dX12_read_241 ?_
  refine ww_icmp_ge (pc := 244) (tgt := 279) C dX12_read_244 (by decide) (fun q => ?_) (fun q => ?_)
  · have hf := xip q hf
    obtain ⟨b0, hg, e9⟩ := xmj hf
    subst e9
    have hf := hg
    have hk := hk.2 _ rfl
    refine ww_aload_n (pc := 279) C 0 dX12_read_279 rfl ?_
    refine ww_iconst (pc := 280) (v := (0 : Int32)) C dX12_read_280 (by decide) ?_
    obtain ⟨σ5, e4, hf⟩ := xbd hf
    refine pf_X12_197 (pc := 281) C e4 dX12_read_281 ?_
    refine ww_iconst (pc := 284) (v := (0 : Int32)) C dX12_read_284 (by decide) ?_
    refine ww_istore_n (pc := 285) (lv' := [(1, .int (0 : Int32)), (0, .ref (gB G + r0))]) C dX12_read_285 (by decide) rfl ?_
    refine ww_sub [1, 0] rfl ?_
    exact s_X12_read_l286 C (a := ((0 : Int32), σ5)) hf hk
  · have hf := xin q hf
    refine ww_aload_n (pc := 247) C 0 dX12_read_247 rfl ?_
    obtain ⟨z5, e4, hf⟩ := xbd hf
    refine gf_X12_40 (pc := 248) C e4 dX12_read_248 ?_
    refine ww_bipush (pc := 251) (v := (48 : Int32)) C dX12_read_251 (by decide) ?_
    refine ww_iload_n (pc := 253) C 1 dX12_read_253 rfl ?_
    refine ww_iadd (pc := 254) C dX12_read_254 ?_
    obtain ⟨v7, e6, hf⟩ := xbd hf
    refine ww_iald (pc := 255) C e6 dX12_read_255 ?_
    refine ww_iconst (pc := 256) (v := (1 : Int32)) C dX12_read_256 (by decide) ?_
    refine ww_icmp_ne (pc := 257) (tgt := 273) C dX12_read_257 (by decide) (fun q => ?_) (fun q => ?_)
    · have hf := xin q hf
      refine ww_iinc (pc := 273) (v := x1 + (1 : Int32)) (lv' := [(1, .int (x1 + (1 : Int32))), (0, .ref (gB G + r0))]) C 1 dX12_read_273 rfl (congrArg (fun z => x1 + z) (show Int32.ofInt (1) = (1 : Int32) by decide)) (by decide) rfl ?_
      refine ww_goto (pc := 276) (tgt := 239) C dX12_read_276 (by decide) ?_
      have hf := xsj hf
      subst hf
      refine ww_sub [1, 0] rfl ?_
      exact hk.1 (x1 + (1 : Int32), σ) rfl
    · have hf := xip q hf
      refine ww_aload_n (pc := 260) C 0 dX12_read_260 rfl ?_
      obtain ⟨z9, e8, hf⟩ := xbd hf
      refine gf_X12_40 (pc := 261) C e8 dX12_read_261 ?_
      refine ww_bipush (pc := 264) (v := (64 : Int32)) C dX12_read_264 (by decide) ?_
      refine ww_dup2 (pc := 266) C dX12_read_266 rfl rfl ?_
      obtain ⟨v11, e10, hf⟩ := xbd hf
      refine ww_iald (pc := 267) C e10 dX12_read_267 ?_
      refine ww_iconst (pc := 268) (v := (1 : Int32)) C dX12_read_268 (by decide) ?_
      refine ww_iload_n (pc := 269) C 1 dX12_read_269 rfl ?_
      refine ww_ishl (pc := 270) C dX12_read_270 ?_
      refine ww_ior (pc := 271) C dX12_read_271 ?_
      obtain ⟨σ13, e12, hf⟩ := xbd hf
      refine ww_iast (pc := 272) C e12 dX12_read_272 ?_
      refine ww_iinc (pc := 273) (v := x1 + (1 : Int32)) (lv' := [(1, .int (x1 + (1 : Int32))), (0, .ref (gB G + r0))]) C 1 dX12_read_273 rfl (congrArg (fun z => x1 + z) (show Int32.ofInt (1) = (1 : Int32) by decide)) (by decide) rfl ?_
      refine ww_goto (pc := 276) (tgt := 239) C dX12_read_276 (by decide) ?_
      have hf := xsj hf
      subst hf
      refine ww_sub [1, 0] rfl ?_
      exact hk.1 (x1 + (1 : Int32), σ13) rfl
theorem m_X12_read_l205 {r0 : Nat} {a : Int32 × XS} {x : Int32 × XS} (hf : xloop (f_X12_read_b205 r0) a = some x) : xsame a.2 x.2 := by
  refine xloop_ind (P := fun a => xsame a.2 x.2) (fun a y hf hc he => ?_) hf
  obtain ⟨x1, σ⟩ := a
  have hy : (∀ a' : Int32 × XS, y = .inl a' → xsame σ a'.2) ∧ (∀ b1 : Int32 × XS, y = .inr b1 → xsame σ b1.2) := by
    have hm := xsame.rf (σ := σ)
    by_cases q : (66 : Int32) ≤ x1
    · have hf := xip q hf
      obtain ⟨b0, hg, e9⟩ := xmj hf
      subst e9
      have hf := hg
      refine ⟨fun a' e => xnc2 e, fun b e => ?_⟩
      have h9 := Sum.inr.inj e
      subst h9
      obtain ⟨z2, e1, hf⟩ := xbd hf
      obtain ⟨σ4, e3, hf⟩ := xbd hf
      have hm := hm.tr (xsI_same e3)
      exact hm.tr (m_X12_read_l239 (a := ((0 : Int32), σ4)) hf)
    · have hf := xin q hf
      obtain ⟨z2, e1, hf⟩ := xbd hf
      obtain ⟨z4, e3, hf⟩ := xbd hf
      obtain ⟨v6, e5, hf⟩ := xbd hf
      obtain ⟨σ8, e7, hf⟩ := xbd hf
      have hm := hm.tr (xsI_same e7)
      have hf := xsj hf
      subst hf
      exact ⟨fun a' e => (by have h9 := Sum.inl.inj e; subst h9; exact hm), fun b e => xnc1 e⟩
  cases y with
  | inl a' =>
    have h1 := hc a' rfl
    have hm := hy.1 a' rfl
    exact hm.tr (h1)
  | inr b =>
    have h1 := he b rfl
    subst h1
    exact hy.2 _ rfl
theorem s_X12_read_l205 {G : XG} (C : XC G cX12_read RX12 (some .int) 2 5 103) {r0 : Nat} {a : Int32 × XS} {x : Int32 × XS} (hf : xloop (f_X12_read_b205 r0) a = some x) (hk : XEnd G (some (.int x.1)) x.2) : WW G 205 [(0, .ref (gB G + r0)), (1, .int a.1)] [] a.2 := by
  refine xloop_ind (P := fun a => WW G 205 [(0, .ref (gB G + r0)), (1, .int a.1)] [] a.2) (fun a y hf hc he => ?_) hf
  obtain ⟨x1, σ⟩ := a
  have hk : (∀ a' : Int32 × XS, y = .inl a' → WW G 205 [(0, .ref (gB G + r0)), (1, .int a'.1)] [] a'.2) ∧ (∀ b1 : Int32 × XS, y = .inr b1 → XEnd G (some (.int b1.1)) b1.2) := ⟨hc, fun b e => by have h9 := he b e; subst h9; exact hk⟩
  refine ww_iload_n (pc := 205) C 1 dX12_read_205 rfl ?_
  refine ww_bipush (pc := 206) (v := (66 : Int32)) C dX12_read_206 (by decide) ?_
  refine ww_icmp_ge (pc := 208) (tgt := 229) C dX12_read_208 (by decide) (fun q => ?_) (fun q => ?_)
  · have hf := xip q hf
    obtain ⟨b0, hg, e9⟩ := xmj hf
    subst e9
    have hf := hg
    have hk := hk.2 _ rfl
    refine ww_aload_n (pc := 229) C 0 dX12_read_229 rfl ?_
    obtain ⟨z2, e1, hf⟩ := xbd hf
    refine gf_X12_40 (pc := 230) C e1 dX12_read_230 ?_
    refine ww_bipush (pc := 233) (v := (64 : Int32)) C dX12_read_233 (by decide) ?_
    refine ww_iconst (pc := 235) (v := (0 : Int32)) C dX12_read_235 (by decide) ?_
    obtain ⟨σ4, e3, hf⟩ := xbd hf
    refine ww_iast (pc := 236) C e3 dX12_read_236 ?_
    refine ww_iconst (pc := 237) (v := (0 : Int32)) C dX12_read_237 (by decide) ?_
    refine ww_istore_n (pc := 238) (lv' := [(1, .int (0 : Int32)), (0, .ref (gB G + r0))]) C dX12_read_238 (by decide) rfl ?_
    refine ww_sub [1, 0] rfl ?_
    exact s_X12_read_l239 C (a := ((0 : Int32), σ4)) hf hk
  · have hf := xin q hf
    refine ww_aload_n (pc := 211) C 0 dX12_read_211 rfl ?_
    obtain ⟨z2, e1, hf⟩ := xbd hf
    refine gf_X12_40 (pc := 212) C e1 dX12_read_212 ?_
    refine ww_iload_n (pc := 215) C 1 dX12_read_215 rfl ?_
    refine ww_aload_n (pc := 216) C 0 dX12_read_216 rfl ?_
    obtain ⟨z4, e3, hf⟩ := xbd hf
    refine gf_X12_43 (pc := 217) C e3 dX12_read_217 ?_
    refine ww_iload_n (pc := 220) C 1 dX12_read_220 rfl ?_
    obtain ⟨v6, e5, hf⟩ := xbd hf
    refine ww_iald (pc := 221) C e5 dX12_read_221 ?_
    obtain ⟨σ8, e7, hf⟩ := xbd hf
    refine ww_iast (pc := 222) C e7 dX12_read_222 ?_
    refine ww_iinc (pc := 223) (v := x1 + (1 : Int32)) (lv' := [(1, .int (x1 + (1 : Int32))), (0, .ref (gB G + r0))]) C 1 dX12_read_223 rfl (congrArg (fun z => x1 + z) (show Int32.ofInt (1) = (1 : Int32) by decide)) (by decide) rfl ?_
    refine ww_goto (pc := 226) (tgt := 205) C dX12_read_226 (by decide) ?_
    have hf := xsj hf
    subst hf
    refine ww_sub [1, 0] rfl ?_
    exact hk.1 (x1 + (1 : Int32), σ8) rfl
theorem s_X12_read_j144 {G : XG} (C : XC G cX12_read RX12 (some .int) 2 5 103) {σ : XS} {r0 : Nat} {t0 : Nat} {t1 : Int32} {x : Int32 × XS} (hf : f_X12_read_j144 σ r0 t0 t1 = some x) (hk : XEnd G (some (.int x.1)) x.2) : WW G 144 [(0, .ref (gB G + r0))] [.int t1, .ref (gB G + t0)] σ := by
  obtain ⟨σ2, e1, hf⟩ := xbd hf
  refine pf_X12_37 (pc := 144) C e1 dX12_read_144 ?_
  refine ww_aload_n (pc := 147) C 0 dX12_read_147 rfl ?_
  obtain ⟨v4, e3, hf⟩ := xbd hf
  refine gf_X12_132 (pc := 148) C e3 dX12_read_148 ?_
  refine ww_if_le (pc := 151) (tgt := 159) C dX12_read_151 (by decide) (fun q => ?_) (fun q => ?_)
  · have hf := xip q hf
    refine ww_aload_n (pc := 159) C 0 dX12_read_159 rfl ?_
    obtain ⟨v6, e5, hf⟩ := xbd hf
    refine gf_X12_141 (pc := 160) C e5 dX12_read_160 ?_
    refine ww_if_le (pc := 163) (tgt := 171) C dX12_read_163 (by decide) (fun q => ?_) (fun q => ?_)
    · have hf := xip q hf
      refine ww_aload_n (pc := 171) C 0 dX12_read_171 rfl ?_
      refine ww_aload_n (pc := 172) C 0 dX12_read_172 rfl ?_
      obtain ⟨v8, e7, hf⟩ := xbd hf
      refine gf_X12_168 (pc := 173) C e7 dX12_read_173 ?_
      obtain ⟨σ10, e9, hf⟩ := xbd hf
      refine pf_X12_171 (pc := 176) C e9 dX12_read_176 ?_
      refine ww_aload_n (pc := 179) C 0 dX12_read_179 rfl ?_
      refine ww_aload_n (pc := 180) C 0 dX12_read_180 rfl ?_
      obtain ⟨v12, e11, hf⟩ := xbd hf
      refine gf_X12_174 (pc := 181) C e11 dX12_read_181 ?_
      obtain ⟨σ14, e13, hf⟩ := xbd hf
      refine pf_X12_177 (pc := 184) C e13 dX12_read_184 ?_
      refine ww_aload_n (pc := 187) C 0 dX12_read_187 rfl ?_
      refine ww_aload_n (pc := 188) C 0 dX12_read_188 rfl ?_
      obtain ⟨v16, e15, hf⟩ := xbd hf
      refine gf_X12_180 (pc := 189) C e15 dX12_read_189 ?_
      obtain ⟨_, e17, hf⟩ := xbd hf
      obtain ⟨σ19, e18, hf⟩ := xbd hf
      refine pf_X12_184 (pc := 192) C (xbz_spec e17) e18 dX12_read_192 ?_
      refine ww_aload_n (pc := 195) C 0 dX12_read_195 rfl ?_
      refine ww_aload_n (pc := 196) C 0 dX12_read_196 rfl ?_
      obtain ⟨v21, e20, hf⟩ := xbd hf
      refine gf_X12_187 (pc := 197) C e20 dX12_read_197 ?_
      obtain ⟨_, e22, hf⟩ := xbd hf
      obtain ⟨σ24, e23, hf⟩ := xbd hf
      refine pf_X12_190 (pc := 200) C (xbz_spec e22) e23 dX12_read_200 ?_
      refine ww_iconst (pc := 203) (v := (0 : Int32)) C dX12_read_203 (by decide) ?_
      refine ww_istore_n (pc := 204) (lv' := [(1, .int (0 : Int32)), (0, .ref (gB G + r0))]) C dX12_read_204 (by decide) rfl ?_
      refine ww_sub [1, 0] rfl ?_
      exact s_X12_read_l205 C (a := ((0 : Int32), σ24)) hf hk
    · have hf := xin q hf
      refine ww_aload_n (pc := 166) C 0 dX12_read_166 rfl ?_
      obtain ⟨v8, e7, hf⟩ := xbd hf
      refine gf_X12_141 (pc := 167) C e7 dX12_read_167 ?_
      have hf := xsj hf
      subst hf
      exact ww_iret (pc := 170) C hk dX12_read_170
  · have hf := xin q hf
    refine ww_aload_n (pc := 154) C 0 dX12_read_154 rfl ?_
    obtain ⟨v6, e5, hf⟩ := xbd hf
    refine gf_X12_132 (pc := 155) C e5 dX12_read_155 ?_
    have hf := xsj hf
    subst hf
    exact ww_iret (pc := 158) C hk dX12_read_158
theorem m_X12_read_j144 {σ : XS} {r0 : Nat} {t0 : Nat} {t1 : Int32} {x : Int32 × XS} (hf : f_X12_read_j144 σ r0 t0 t1 = some x) : xsame σ x.2 := by
  have hm := xsame.rf (σ := σ)
  obtain ⟨σ2, e1, hf⟩ := xbd hf
  have hm := hm.tr (xpI_same e1)
  obtain ⟨v4, e3, hf⟩ := xbd hf
  by_cases q : v4 ≤ 0
  · have hf := xip q hf
    obtain ⟨v6, e5, hf⟩ := xbd hf
    by_cases q : v6 ≤ 0
    · have hf := xip q hf
      obtain ⟨v8, e7, hf⟩ := xbd hf
      obtain ⟨σ10, e9, hf⟩ := xbd hf
      have hm := hm.tr (xpI_same e9)
      obtain ⟨v12, e11, hf⟩ := xbd hf
      obtain ⟨σ14, e13, hf⟩ := xbd hf
      have hm := hm.tr (xpI_same e13)
      obtain ⟨v16, e15, hf⟩ := xbd hf
      obtain ⟨_, e17, hf⟩ := xbd hf
      obtain ⟨σ19, e18, hf⟩ := xbd hf
      have hm := hm.tr (xpI_same e18)
      obtain ⟨v21, e20, hf⟩ := xbd hf
      obtain ⟨_, e22, hf⟩ := xbd hf
      obtain ⟨σ24, e23, hf⟩ := xbd hf
      have hm := hm.tr (xpI_same e23)
      exact hm.tr (m_X12_read_l205 (a := ((0 : Int32), σ24)) hf)
    · have hf := xin q hf
      obtain ⟨v8, e7, hf⟩ := xbd hf
      have hf := xsj hf
      subst hf
      exact hm
  · have hf := xin q hf
    obtain ⟨v6, e5, hf⟩ := xbd hf
    have hf := xsj hf
    subst hf
    exact hm
theorem s_X12_read_j114 {G : XG} (C : XC G cX12_read RX12 (some .int) 2 5 103) {σ : XS} {r0 : Nat} {x : Int32 × XS} (hf : f_X12_read_j114 σ r0 = some x) (hk : XEnd G (some (.int x.1)) x.2) : WW G 114 [(0, .ref (gB G + r0))] [] σ := by
  refine ww_aload_n (pc := 114) C 0 dX12_read_114 rfl ?_
  refine ww_aload_n (pc := 115) C 0 dX12_read_115 rfl ?_
  obtain ⟨v2, e1, hf⟩ := xbd hf
  refine gf_X12_132 (pc := 116) C e1 dX12_read_116 ?_
  refine ww_if_le (pc := 119) (tgt := 129) C dX12_read_119 (by decide) (fun q => ?_) (fun q => ?_)
  · have hf := xip q hf
    refine ww_aload_n (pc := 129) C 0 dX12_read_129 rfl ?_
    obtain ⟨v4, e3, hf⟩ := xbd hf
    refine gf_X12_141 (pc := 130) C e3 dX12_read_130 ?_
    refine ww_if_le (pc := 133) (tgt := 143) C dX12_read_133 (by decide) (fun q => ?_) (fun q => ?_)
    · have hf := xip q hf
      refine ww_iconst (pc := 143) (v := (-1 : Int32)) C dX12_read_143 (by decide) ?_
      refine ww_sub [0] rfl ?_
      exact s_X12_read_j144 C hf hk
    · have hf := xin q hf
      refine ww_aload_n (pc := 136) C 0 dX12_read_136 rfl ?_
      obtain ⟨v6, e5, hf⟩ := xbd hf
      refine gf_X12_144 (pc := 137) C e5 dX12_read_137 ?_
      refine ww_goto (pc := 140) (tgt := 144) C dX12_read_140 (by decide) ?_
      refine ww_sub [0] rfl ?_
      exact s_X12_read_j144 C hf hk
  · have hf := xin q hf
    refine ww_aload_n (pc := 122) C 0 dX12_read_122 rfl ?_
    obtain ⟨v4, e3, hf⟩ := xbd hf
    refine gf_X12_138 (pc := 123) C e3 dX12_read_123 ?_
    refine ww_goto (pc := 126) (tgt := 144) C dX12_read_126 (by decide) ?_
    refine ww_sub [0] rfl ?_
    exact s_X12_read_j144 C hf hk
theorem m_X12_read_j114 {σ : XS} {r0 : Nat} {x : Int32 × XS} (hf : f_X12_read_j114 σ r0 = some x) : xsame σ x.2 := by
  have hm := xsame.rf (σ := σ)
  obtain ⟨v2, e1, hf⟩ := xbd hf
  by_cases q : v2 ≤ 0
  · have hf := xip q hf
    obtain ⟨v4, e3, hf⟩ := xbd hf
    by_cases q : v4 ≤ 0
    · have hf := xip q hf
      exact hm.tr (m_X12_read_j144 hf)
    · have hf := xin q hf
      obtain ⟨v6, e5, hf⟩ := xbd hf
      exact hm.tr (m_X12_read_j144 hf)
  · have hf := xin q hf
    obtain ⟨v4, e3, hf⟩ := xbd hf
    exact hm.tr (m_X12_read_j144 hf)
theorem s_X12_read_j103 {G : XG} (C : XC G cX12_read RX12 (some .int) 2 5 103) {σ : XS} {r0 : Nat} {x : Int32 × XS} (hf : f_X12_read_j103 σ r0 = some x) (hk : XEnd G (some (.int x.1)) x.2) : WW G 103 [(0, .ref (gB G + r0))] [] σ := by
  refine ww_aload_n (pc := 103) C 0 dX12_read_103 rfl ?_
  obtain ⟨v2, e1, hf⟩ := xbd hf
  refine gf_X12_132 (pc := 104) C e1 dX12_read_104 ?_
  refine ww_if_ne (pc := 107) (tgt := 114) C dX12_read_107 (by decide) (fun q => ?_) (fun q => ?_)
  · have hf := xin q hf
    refine ww_sub [0] rfl ?_
    exact s_X12_read_j114 C hf hk
  · have hf := xip q hf
    refine ww_aload_n (pc := 110) C 0 dX12_read_110 rfl ?_
    obtain ⟨_, e3, hf⟩ := xbd hf
    obtain ⟨σ5, e4, hf⟩ := xbd hf
    refine ww_callVv (pc := 111) (as := []) (st := []) C (k_X12_means (l := gl G) (E := gE G) (hb := gB G) (σ := σ) e4) rfl (by decide) xc_X12_165 q1470 qp131 (xck_spec e3) rfl (by decide) (xst4 (Nat.le_of_ble_eq_true rfl)) (m_X12_means e4).le (m_X12_means e4).lim dX12_read_111 ?_
    refine ww_sub [0] rfl ?_
    exact s_X12_read_j114 C hf hk
theorem m_X12_read_j103 {σ : XS} {r0 : Nat} {x : Int32 × XS} (hf : f_X12_read_j103 σ r0 = some x) : xsame σ x.2 := by
  have hm := xsame.rf (σ := σ)
  obtain ⟨v2, e1, hf⟩ := xbd hf
  by_cases q : v2 = 0
  · have hf := xip q hf
    obtain ⟨_, e3, hf⟩ := xbd hf
    obtain ⟨σ5, e4, hf⟩ := xbd hf
    have hm := hm.tr (m_X12_means e4)
    exact hm.tr (m_X12_read_j114 hf)
  · have hf := xin q hf
    exact hm.tr (m_X12_read_j114 hf)
theorem m_X12_read_l81 {r0 : Nat} {a : XS} {x : Int32 × XS} (hf : xloop (f_X12_read_b81 r0) a = some x) : xsame a x.2 := by
  refine xloop_ind (P := fun a => xsame a x.2) (fun a y hf hc he => ?_) hf
  obtain ⟨σ, rfl⟩ : ∃ z, z = a := ⟨_, rfl⟩
  have hy : (∀ a' : XS, y = .inl a' → xsame σ a') ∧ (∀ b1 : Int32 × XS, y = .inr b1 → xsame σ b1.2) := by
    have hm := xsame.rf (σ := σ)
    obtain ⟨v2, e1, hf⟩ := xbd hf
    by_cases q : v2 = 0
    · have hf := xip q hf
      obtain ⟨_, e3, hf⟩ := xbd hf
      obtain ⟨v5, e4, hf⟩ := xbd hf
      by_cases q : v5 = 0
      · have hf := xip q hf
        obtain ⟨_, e6, hf⟩ := xbd hf
        obtain ⟨σ8, e7, hf⟩ := xbd hf
        have hm := hm.tr (m_X12_line e7)
        have hf := xsj hf
        subst hf
        exact ⟨fun a' e => (by have h9 := Sum.inl.inj e; subst h9; exact hm), fun b e => xnc1 e⟩
      · have hf := xin q hf
        obtain ⟨b0, hg, e9⟩ := xmj hf
        subst e9
        have hf := hg
        refine ⟨fun a' e => xnc2 e, fun b e => ?_⟩
        have h9 := Sum.inr.inj e
        subst h9
        exact hm.tr (m_X12_read_j103 hf)
    · have hf := xin q hf
      obtain ⟨b0, hg, e9⟩ := xmj hf
      subst e9
      have hf := hg
      refine ⟨fun a' e => xnc2 e, fun b e => ?_⟩
      have h9 := Sum.inr.inj e
      subst h9
      exact hm.tr (m_X12_read_j103 hf)
  cases y with
  | inl a' =>
    have h1 := hc a' rfl
    have hm := hy.1 a' rfl
    exact hm.tr (h1)
  | inr b =>
    have h1 := he b rfl
    subst h1
    exact hy.2 _ rfl
theorem s_X12_read_l81 {G : XG} (C : XC G cX12_read RX12 (some .int) 2 5 103) {r0 : Nat} {a : XS} {x : Int32 × XS} (hf : xloop (f_X12_read_b81 r0) a = some x) (hk : XEnd G (some (.int x.1)) x.2) : WW G 81 [(0, .ref (gB G + r0))] [] a := by
  refine xloop_ind (P := fun a => WW G 81 [(0, .ref (gB G + r0))] [] a) (fun a y hf hc he => ?_) hf
  obtain ⟨σ, rfl⟩ : ∃ z, z = a := ⟨_, rfl⟩
  have hk : (∀ a' : XS, y = .inl a' → WW G 81 [(0, .ref (gB G + r0))] [] a') ∧ (∀ b1 : Int32 × XS, y = .inr b1 → XEnd G (some (.int b1.1)) b1.2) := ⟨hc, fun b e => by have h9 := he b e; subst h9; exact hk⟩
  refine ww_aload_n (pc := 81) C 0 dX12_read_81 rfl ?_
  obtain ⟨v2, e1, hf⟩ := xbd hf
  refine gf_X12_132 (pc := 82) C e1 dX12_read_82 ?_
  refine ww_if_ne (pc := 85) (tgt := 103) C dX12_read_85 (by decide) (fun q => ?_) (fun q => ?_)
  · have hf := xin q hf
    obtain ⟨b0, hg, e9⟩ := xmj hf
    subst e9
    have hf := hg
    have hk := hk.2 _ rfl
    refine ww_sub [0] rfl ?_
    exact s_X12_read_j103 C hf hk
  · have hf := xip q hf
    refine ww_aload_n (pc := 88) C 0 dX12_read_88 rfl ?_
    refine ww_iconst (pc := 89) (v := (0 : Int32)) C dX12_read_89 (by decide) ?_
    obtain ⟨_, e3, hf⟩ := xbd hf
    obtain ⟨v5, e4, hf⟩ := xbd hf
    refine ww_callVi (pc := 90) (as := [.int (0 : Int32)]) (st := []) C (k_X12_is (l := gl G) (E := gE G) (hb := gB G) (σ := σ) e4) rfl (by decide) xc_X12_150 q1446 qp125 (xck_spec e3) rfl (by decide) (xst4 (Nat.le_of_ble_eq_true rfl)) xsame.rf.le xsame.rf.lim dX12_read_90 ?_
    refine ww_if_ne (pc := 93) (tgt := 103) C dX12_read_93 (by decide) (fun q => ?_) (fun q => ?_)
    · have hf := xin q hf
      obtain ⟨b0, hg, e9⟩ := xmj hf
      subst e9
      have hf := hg
      have hk := hk.2 _ rfl
      refine ww_sub [0] rfl ?_
      exact s_X12_read_j103 C hf hk
    · have hf := xip q hf
      refine ww_aload_n (pc := 96) C 0 dX12_read_96 rfl ?_
      obtain ⟨_, e6, hf⟩ := xbd hf
      obtain ⟨σ8, e7, hf⟩ := xbd hf
      refine ww_callVv (pc := 97) (as := []) (st := []) C (k_X12_line (l := gl G) (E := gE G) (hb := gB G) (σ := σ) e7) rfl (by decide) xc_X12_162 q1458 qp128 (xck_spec e6) rfl (by decide) (xst4 (Nat.le_of_ble_eq_true rfl)) (m_X12_line e7).le (m_X12_line e7).lim dX12_read_97 ?_
      refine ww_goto (pc := 100) (tgt := 81) C dX12_read_100 (by decide) ?_
      have hf := xsj hf
      subst hf
      refine ww_sub [0] rfl ?_
      exact hk.1 σ8 rfl
theorem m_X12_read_l10 {r0 : Nat} {a : Int32 × XS} {x : Int32 × XS} (hf : xloop (f_X12_read_b10 r0) a = some x) : xsame a.2 x.2 := by
  refine xloop_ind (P := fun a => xsame a.2 x.2) (fun a y hf hc he => ?_) hf
  obtain ⟨x1, σ⟩ := a
  have hy : (∀ a' : Int32 × XS, y = .inl a' → xsame σ a'.2) ∧ (∀ b1 : Int32 × XS, y = .inr b1 → xsame σ b1.2) := by
    have hm := xsame.rf (σ := σ)
    obtain ⟨v2, e1, hf⟩ := xbd hf
    by_cases q : v2 ≤ x1
    · have hf := xip q hf
      obtain ⟨b0, hg, e9⟩ := xmj hf
      subst e9
      have hf := hg
      refine ⟨fun a' e => xnc2 e, fun b e => ?_⟩
      have h9 := Sum.inr.inj e
      subst h9
      obtain ⟨σ4, e3, hf⟩ := xbd hf
      have hm := hm.tr (xpI_same e3)
      obtain ⟨_, e5, hf⟩ := xbd hf
      obtain ⟨σ7, e6, hf⟩ := xbd hf
      have hm := hm.tr (m_X12_cutsText e6)
      obtain ⟨σ9, e8, hf⟩ := xbd hf
      have hm := hm.tr (xpI_same e8)
      obtain ⟨σ11, e10, hf⟩ := xbd hf
      have hm := hm.tr (xpI_same e10)
      obtain ⟨σ13, e12, hf⟩ := xbd hf
      have hm := hm.tr (xpI_same e12)
      obtain ⟨_, e14, hf⟩ := xbd hf
      obtain ⟨σ16, e15, hf⟩ := xbd hf
      have hm := hm.tr (m_X12_must e15)
      obtain ⟨_, e17, hf⟩ := xbd hf
      obtain ⟨σ19, e18, hf⟩ := xbd hf
      have hm := hm.tr (m_X12_must e18)
      obtain ⟨_, e20, hf⟩ := xbd hf
      obtain ⟨σ22, e21, hf⟩ := xbd hf
      have hm := hm.tr (m_X12_must e21)
      obtain ⟨_, e23, hf⟩ := xbd hf
      obtain ⟨σ25, e24, hf⟩ := xbd hf
      have hm := hm.tr (m_X12_must e24)
      exact hm.tr (m_X12_read_l81 (a := σ25) hf)
    · have hf := xin q hf
      obtain ⟨z4, e3, hf⟩ := xbd hf
      obtain ⟨z6, e5, hf⟩ := xbd hf
      obtain ⟨v8, e7, hf⟩ := xbd hf
      obtain ⟨σ10, e9, hf⟩ := xbd hf
      have hm := hm.tr (xsI_same e9)
      have hf := xsj hf
      subst hf
      exact ⟨fun a' e => (by have h9 := Sum.inl.inj e; subst h9; exact hm), fun b e => xnc1 e⟩
  cases y with
  | inl a' =>
    have h1 := hc a' rfl
    have hm := hy.1 a' rfl
    exact hm.tr (h1)
  | inr b =>
    have h1 := he b rfl
    subst h1
    exact hy.2 _ rfl
theorem s_X12_read_l10 {G : XG} (C : XC G cX12_read RX12 (some .int) 2 5 103) {r0 : Nat} {a : Int32 × XS} {x : Int32 × XS} (hf : xloop (f_X12_read_b10 r0) a = some x) (hk : XEnd G (some (.int x.1)) x.2) : WW G 10 [(0, .ref (gB G + r0)), (1, .int a.1)] [] a.2 := by
  refine xloop_ind (P := fun a => WW G 10 [(0, .ref (gB G + r0)), (1, .int a.1)] [] a.2) (fun a y hf hc he => ?_) hf
  obtain ⟨x1, σ⟩ := a
  have hk : (∀ a' : Int32 × XS, y = .inl a' → WW G 10 [(0, .ref (gB G + r0)), (1, .int a'.1)] [] a'.2) ∧ (∀ b1 : Int32 × XS, y = .inr b1 → XEnd G (some (.int b1.1)) b1.2) := ⟨hc, fun b e => by have h9 := he b e; subst h9; exact hk⟩
  refine ww_iload_n (pc := 10) C 1 dX12_read_10 rfl ?_
  refine ww_aload_n (pc := 11) C 0 dX12_read_11 rfl ?_
  obtain ⟨v2, e1, hf⟩ := xbd hf
  refine gf_X12_101 (pc := 12) C e1 dX12_read_12 ?_
  refine ww_icmp_ge (pc := 15) (tgt := 36) C dX12_read_15 (by decide) (fun q => ?_) (fun q => ?_)
  · have hf := xip q hf
    obtain ⟨b0, hg, e9⟩ := xmj hf
    subst e9
    have hf := hg
    have hk := hk.2 _ rfl
    refine ww_aload_n (pc := 36) C 0 dX12_read_36 rfl ?_
    refine ww_iconst (pc := 37) (v := (0 : Int32)) C dX12_read_37 (by decide) ?_
    obtain ⟨σ4, e3, hf⟩ := xbd hf
    refine pf_X12_94 (pc := 38) C e3 dX12_read_38 ?_
    refine ww_aload_n (pc := 41) C 0 dX12_read_41 rfl ?_
    obtain ⟨_, e5, hf⟩ := xbd hf
    obtain ⟨σ7, e6, hf⟩ := xbd hf
    refine ww_callVv (pc := 42) (as := []) (st := []) C (k_X12_cutsText (l := gl G) (E := gE G) (hb := gB G) (σ := σ4) e6) rfl (by decide) xc_X12_156 q1420 qp120 (xck_spec e5) rfl (by decide) (xst4 (Nat.le_of_ble_eq_true rfl)) (m_X12_cutsText e6).le (m_X12_cutsText e6).lim dX12_read_42 ?_
    refine ww_aload_n (pc := 45) C 0 dX12_read_45 rfl ?_
    refine ww_iconst (pc := 46) (v := (0 : Int32)) C dX12_read_46 (by decide) ?_
    obtain ⟨σ9, e8, hf⟩ := xbd hf
    refine pf_X12_135 (pc := 47) C e8 dX12_read_47 ?_
    refine ww_aload_n (pc := 50) C 0 dX12_read_50 rfl ?_
    refine ww_iconst (pc := 51) (v := (0 : Int32)) C dX12_read_51 (by decide) ?_
    obtain ⟨σ11, e10, hf⟩ := xbd hf
    refine pf_X12_132 (pc := 52) C e10 dX12_read_52 ?_
    refine ww_aload_n (pc := 55) C 0 dX12_read_55 rfl ?_
    refine ww_iconst (pc := 56) (v := (0 : Int32)) C dX12_read_56 (by decide) ?_
    obtain ⟨σ13, e12, hf⟩ := xbd hf
    refine pf_X12_141 (pc := 57) C e12 dX12_read_57 ?_
    refine ww_aload_n (pc := 60) C 0 dX12_read_60 rfl ?_
    refine ww_bipush (pc := 61) (v := (20 : Int32)) C dX12_read_61 (by decide) ?_
    obtain ⟨_, e14, hf⟩ := xbd hf
    obtain ⟨σ16, e15, hf⟩ := xbd hf
    refine ww_callVv (pc := 63) (as := [.int (20 : Int32)]) (st := []) C (k_X12_must (l := gl G) (E := gE G) (hb := gB G) (σ := σ13) e15) rfl (by decide) xc_X12_159 q1442 qp124 (xck_spec e14) rfl (by decide) (xst4 (Nat.le_of_ble_eq_true rfl)) (m_X12_must e15).le (m_X12_must e15).lim dX12_read_63 ?_
    refine ww_aload_n (pc := 66) C 0 dX12_read_66 rfl ?_
    refine ww_iconst (pc := 67) (v := (2 : Int32)) C dX12_read_67 (by decide) ?_
    obtain ⟨_, e17, hf⟩ := xbd hf
    obtain ⟨σ19, e18, hf⟩ := xbd hf
    refine ww_callVv (pc := 68) (as := [.int (2 : Int32)]) (st := []) C (k_X12_must (l := gl G) (E := gE G) (hb := gB G) (σ := σ16) e18) rfl (by decide) xc_X12_159 q1442 qp124 (xck_spec e17) rfl (by decide) (xst4 (Nat.le_of_ble_eq_true rfl)) (m_X12_must e18).le (m_X12_must e18).lim dX12_read_68 ?_
    refine ww_aload_n (pc := 71) C 0 dX12_read_71 rfl ?_
    refine ww_iconst (pc := 72) (v := (2 : Int32)) C dX12_read_72 (by decide) ?_
    obtain ⟨_, e20, hf⟩ := xbd hf
    obtain ⟨σ22, e21, hf⟩ := xbd hf
    refine ww_callVv (pc := 73) (as := [.int (2 : Int32)]) (st := []) C (k_X12_must (l := gl G) (E := gE G) (hb := gB G) (σ := σ19) e21) rfl (by decide) xc_X12_159 q1442 qp124 (xck_spec e20) rfl (by decide) (xst4 (Nat.le_of_ble_eq_true rfl)) (m_X12_must e21).le (m_X12_must e21).lim dX12_read_73 ?_
    refine ww_aload_n (pc := 76) C 0 dX12_read_76 rfl ?_
    refine ww_iconst (pc := 77) (v := (4 : Int32)) C dX12_read_77 (by decide) ?_
    obtain ⟨_, e23, hf⟩ := xbd hf
    obtain ⟨σ25, e24, hf⟩ := xbd hf
    refine ww_callVv (pc := 78) (as := [.int (4 : Int32)]) (st := []) C (k_X12_must (l := gl G) (E := gE G) (hb := gB G) (σ := σ22) e24) rfl (by decide) xc_X12_159 q1442 qp124 (xck_spec e23) rfl (by decide) (xst4 (Nat.le_of_ble_eq_true rfl)) (m_X12_must e24).le (m_X12_must e24).lim dX12_read_78 ?_
    refine ww_sub [0] rfl ?_
    exact s_X12_read_l81 C (a := σ25) hf hk
  · have hf := xin q hf
    refine ww_aload_n (pc := 18) C 0 dX12_read_18 rfl ?_
    obtain ⟨z4, e3, hf⟩ := xbd hf
    refine gf_X12_17 (pc := 19) C e3 dX12_read_19 ?_
    refine ww_iload_n (pc := 22) C 1 dX12_read_22 rfl ?_
    refine ww_aload_n (pc := 23) C 0 dX12_read_23 rfl ?_
    obtain ⟨z6, e5, hf⟩ := xbd hf
    refine gf_X12_13 (pc := 24) C e5 dX12_read_24 ?_
    refine ww_iload_n (pc := 27) C 1 dX12_read_27 rfl ?_
    obtain ⟨v8, e7, hf⟩ := xbd hf
    refine ww_bald (pc := 28) C e7 dX12_read_28 ?_
    obtain ⟨σ10, e9, hf⟩ := xbd hf
    refine ww_bast (pc := 29) C rfl e9 dX12_read_29 ?_
    refine ww_iinc (pc := 30) (v := x1 + (1 : Int32)) (lv' := [(1, .int (x1 + (1 : Int32))), (0, .ref (gB G + r0))]) C 1 dX12_read_30 rfl (congrArg (fun z => x1 + z) (show Int32.ofInt (1) = (1 : Int32) by decide)) (by decide) rfl ?_
    refine ww_goto (pc := 33) (tgt := 10) C dX12_read_33 (by decide) ?_
    have hf := xsj hf
    subst hf
    refine ww_sub [1, 0] rfl ?_
    exact hk.1 (x1 + (1 : Int32), σ10) rfl
theorem s_X12_read_e {G : XG} (C : XC G cX12_read RX12 (some .int) 2 5 103) {σ : XS} {r0 : Nat} {x : Int32 × XS} (hf : f_X12_read σ r0 = some x) (hk : XEnd G (some (.int x.1)) x.2) : WW G 0 [(0, .ref (gB G + r0))] [] σ := by
  refine ww_aload_n (pc := 0) C 0 dX12_read_0 rfl ?_
  refine ww_aload_n (pc := 1) C 0 dX12_read_1 rfl ?_
  obtain ⟨v2, e1, hf⟩ := xbd hf
  refine gf_X12_94 (pc := 2) C e1 dX12_read_2 ?_
  obtain ⟨σ4, e3, hf⟩ := xbd hf
  refine pf_X12_101 (pc := 5) C e3 dX12_read_5 ?_
  refine ww_iconst (pc := 8) (v := (0 : Int32)) C dX12_read_8 (by decide) ?_
  refine ww_istore_n (pc := 9) (lv' := [(1, .int (0 : Int32)), (0, .ref (gB G + r0))]) C dX12_read_9 (by decide) rfl ?_
  refine ww_sub [1, 0] rfl ?_
  exact s_X12_read_l10 C (a := ((0 : Int32), σ4)) hf hk
theorem m_X12_read {σ : XS} {r0 : Nat} {x : Int32 × XS} (hf : f_X12_read σ r0 = some x) : xsame σ x.2 := by
  have hm := xsame.rf (σ := σ)
  obtain ⟨v2, e1, hf⟩ := xbd hf
  obtain ⟨σ4, e3, hf⟩ := xbd hf
  have hm := hm.tr (xpI_same e3)
  exact hm.tr (m_X12_read_l10 (a := ((0 : Int32), σ4)) hf)
theorem k_X12_read {l : Launch} {E : XD} {hb : Nat} {σ : XS} {r0 : Nat} {x : Int32 × XS} (h : f_X12_read σ r0 = some x) : XM l yX12_read cX12_read 2 (some .int) 5 103 E hb [.ref (hb + r0)] σ (some (.int x.1)) x.2 := by
  refine xm_of (by decide) (Nat.le_of_ble_eq_true rfl) (m_X12_read h).le (fun G hG C hl hQ => ?_)
  obtain ⟨rfl, rfl, rfl, hN⟩ := hG
  exact s_X12_read_e C h hQ
noncomputable def f_X12_restore_b22 (r0 : Nat) (x1 : Int32) : Int32 × XS → Option ((Int32 × XS) ⊕ (Int32 × XS)) := fun a => match a with
  | (x2, σ) => if (66 : Int32) ≤ x2 then (((xpI σ r0 12 29 (0 : Int32)).bind fun σ2 => (xpI σ2 r0 12 32 (0 : Int32)).bind fun σ4 => some ((1 : Int32), σ4)).map .inr) else (xgR σ r0 12 21).bind fun z2 => (xgR σ r0 12 30).bind fun z4 => (xaI σ 20 z4 (((66 : Int32) * x1) + x2)).bind fun v6 => (xsI σ 20 z2 x2 v6).bind fun σ8 => some (.inl (x2 + (1 : Int32), σ8))
noncomputable def f_X12_restore (σ : XS) (r0 : Nat) (x1 : Int32) : Option (Int32 × XS) := (f_X12_in x1 (0 : Int32) (2 : Int32)).bind fun v2 => if v2 = 0 then (some ((0 : Int32), σ)) else (xgR σ r0 12 31).bind fun z4 => (xaI σ 22 z4 x1).bind fun v6 => if v6 = 0 then (some ((0 : Int32), σ)) else xloop (f_X12_restore_b22 r0 x1) ((0 : Int32), σ)
theorem m_X12_restore_l22 {r0 : Nat} {x1 : Int32} {a : Int32 × XS} {x : Int32 × XS} (hf : xloop (f_X12_restore_b22 r0 x1) a = some x) : xsame a.2 x.2 := by
  refine xloop_ind (P := fun a => xsame a.2 x.2) (fun a y hf hc he => ?_) hf
  obtain ⟨x2, σ⟩ := a
  have hy : (∀ a' : Int32 × XS, y = .inl a' → xsame σ a'.2) ∧ (∀ b1 : Int32 × XS, y = .inr b1 → xsame σ b1.2) := by
    have hm := xsame.rf (σ := σ)
    by_cases q : (66 : Int32) ≤ x2
    · have hf := xip q hf
      obtain ⟨b0, hg, e9⟩ := xmj hf
      subst e9
      have hf := hg
      refine ⟨fun a' e => xnc2 e, fun b e => ?_⟩
      have h9 := Sum.inr.inj e
      subst h9
      obtain ⟨σ2, e1, hf⟩ := xbd hf
      have hm := hm.tr (xpI_same e1)
      obtain ⟨σ4, e3, hf⟩ := xbd hf
      have hm := hm.tr (xpI_same e3)
      have hf := xsj hf
      subst hf
      exact hm
    · have hf := xin q hf
      obtain ⟨z2, e1, hf⟩ := xbd hf
      obtain ⟨z4, e3, hf⟩ := xbd hf
      obtain ⟨v6, e5, hf⟩ := xbd hf
      obtain ⟨σ8, e7, hf⟩ := xbd hf
      have hm := hm.tr (xsI_same e7)
      have hf := xsj hf
      subst hf
      exact ⟨fun a' e => (by have h9 := Sum.inl.inj e; subst h9; exact hm), fun b e => xnc1 e⟩
  cases y with
  | inl a' =>
    have h1 := hc a' rfl
    have hm := hy.1 a' rfl
    exact hm.tr (h1)
  | inr b =>
    have h1 := he b rfl
    subst h1
    exact hy.2 _ rfl
theorem s_X12_restore_l22 {G : XG} (C : XC G cX12_restore RX12 (some .boolean) 3 1 22) {r0 : Nat} {x1 : Int32} {a : Int32 × XS} {x : Int32 × XS} (hf : xloop (f_X12_restore_b22 r0 x1) a = some x) (hk : XEnd G (some (.int x.1)) x.2) : WW G 22 [(0, .ref (gB G + r0)), (1, .int x1), (2, .int a.1)] [] a.2 := by
  refine xloop_ind (P := fun a => WW G 22 [(0, .ref (gB G + r0)), (1, .int x1), (2, .int a.1)] [] a.2) (fun a y hf hc he => ?_) hf
  obtain ⟨x2, σ⟩ := a
  have hk : (∀ a' : Int32 × XS, y = .inl a' → WW G 22 [(0, .ref (gB G + r0)), (1, .int x1), (2, .int a'.1)] [] a'.2) ∧ (∀ b1 : Int32 × XS, y = .inr b1 → XEnd G (some (.int b1.1)) b1.2) := ⟨hc, fun b e => by have h9 := he b e; subst h9; exact hk⟩
  refine ww_iload_n (pc := 22) C 2 dX12_restore_22 rfl ?_
  refine ww_bipush (pc := 23) (v := (66 : Int32)) C dX12_restore_23 (by decide) ?_
  refine ww_icmp_ge (pc := 25) (tgt := 51) C dX12_restore_25 (by decide) (fun q => ?_) (fun q => ?_)
  · have hf := xip q hf
    obtain ⟨b0, hg, e9⟩ := xmj hf
    subst e9
    have hf := hg
    have hk := hk.2 _ rfl
    refine ww_aload_n (pc := 51) C 0 dX12_restore_51 rfl ?_
    refine ww_iconst (pc := 52) (v := (0 : Int32)) C dX12_restore_52 (by decide) ?_
    obtain ⟨σ2, e1, hf⟩ := xbd hf
    refine pf_X12_197 (pc := 53) C e1 dX12_restore_53 ?_
    refine ww_aload_n (pc := 56) C 0 dX12_restore_56 rfl ?_
    refine ww_iconst (pc := 57) (v := (0 : Int32)) C dX12_restore_57 (by decide) ?_
    obtain ⟨σ4, e3, hf⟩ := xbd hf
    refine pf_X12_200 (pc := 58) C (Or.inl rfl) e3 dX12_restore_58 ?_
    refine ww_iconst (pc := 61) (v := (1 : Int32)) C dX12_restore_61 (by decide) ?_
    have hf := xsj hf
    subst hf
    exact ww_zret (pc := 62) C rfl hk dX12_restore_62
  · have hf := xin q hf
    refine ww_aload_n (pc := 28) C 0 dX12_restore_28 rfl ?_
    obtain ⟨z2, e1, hf⟩ := xbd hf
    refine gf_X12_40 (pc := 29) C e1 dX12_restore_29 ?_
    refine ww_iload_n (pc := 32) C 2 dX12_restore_32 rfl ?_
    refine ww_aload_n (pc := 33) C 0 dX12_restore_33 rfl ?_
    obtain ⟨z4, e3, hf⟩ := xbd hf
    refine gf_X12_49 (pc := 34) C e3 dX12_restore_34 ?_
    refine ww_bipush (pc := 37) (v := (66 : Int32)) C dX12_restore_37 (by decide) ?_
    refine ww_iload_n (pc := 39) C 1 dX12_restore_39 rfl ?_
    refine ww_imul (pc := 40) C dX12_restore_40 ?_
    refine ww_iload_n (pc := 41) C 2 dX12_restore_41 rfl ?_
    refine ww_iadd (pc := 42) C dX12_restore_42 ?_
    obtain ⟨v6, e5, hf⟩ := xbd hf
    refine ww_iald (pc := 43) C e5 dX12_restore_43 ?_
    obtain ⟨σ8, e7, hf⟩ := xbd hf
    refine ww_iast (pc := 44) C e7 dX12_restore_44 ?_
    refine ww_iinc (pc := 45) (v := x2 + (1 : Int32)) (lv' := [(2, .int (x2 + (1 : Int32))), (0, .ref (gB G + r0)), (1, .int x1)]) C 2 dX12_restore_45 rfl (congrArg (fun z => x2 + z) (show Int32.ofInt (1) = (1 : Int32) by decide)) (by decide) rfl ?_
    refine ww_goto (pc := 48) (tgt := 22) C dX12_restore_48 (by decide) ?_
    have hf := xsj hf
    subst hf
    refine ww_sub [1, 2, 0] rfl ?_
    exact hk.1 (x2 + (1 : Int32), σ8) rfl
theorem s_X12_restore_e {G : XG} (C : XC G cX12_restore RX12 (some .boolean) 3 1 22) {σ : XS} {r0 : Nat} {x1 : Int32} {x : Int32 × XS} (hf : f_X12_restore σ r0 x1 = some x) (hk : XEnd G (some (.int x.1)) x.2) : WW G 0 [(0, .ref (gB G + r0)), (1, .int x1)] [] σ := by
  refine ww_iload_n (pc := 0) C 1 dX12_restore_0 rfl ?_
  refine ww_iconst (pc := 1) (v := (0 : Int32)) C dX12_restore_1 (by decide) ?_
  refine ww_iconst (pc := 2) (v := (2 : Int32)) C dX12_restore_2 (by decide) ?_
  obtain ⟨v2, e1, hf⟩ := xbd hf
  refine ww_callSi (pc := 3) (as := [.int x1, .int (0 : Int32), .int (2 : Int32)]) (st := []) C (k_X12_in (l := gl G) (E := gE G) (hb := gB G) (σ := σ) e1) xc_X12_213 q1473 rfl (by decide) (xst4 (Nat.le_of_ble_eq_true rfl)) xsame.rf.le xsame.rf.lim dX12_restore_3 ?_
  refine ww_if_eq (pc := 6) (tgt := 18) C dX12_restore_6 (by decide) (fun q => ?_) (fun q => ?_)
  · have hf := xip q hf
    refine ww_iconst (pc := 18) (v := (0 : Int32)) C dX12_restore_18 (by decide) ?_
    have hf := xsj hf
    subst hf
    exact ww_zret (pc := 19) C rfl hk dX12_restore_19
  · have hf := xin q hf
    refine ww_aload_n (pc := 9) C 0 dX12_restore_9 rfl ?_
    obtain ⟨z4, e3, hf⟩ := xbd hf
    refine gf_X12_52 (pc := 10) C e3 dX12_restore_10 ?_
    refine ww_iload_n (pc := 13) C 1 dX12_restore_13 rfl ?_
    obtain ⟨v6, e5, hf⟩ := xbd hf
    refine ww_zald (pc := 14) C e5 dX12_restore_14 ?_
    refine ww_if_ne (pc := 15) (tgt := 20) C dX12_restore_15 (by decide) (fun q => ?_) (fun q => ?_)
    · have hf := xin q hf
      refine ww_iconst (pc := 20) (v := (0 : Int32)) C dX12_restore_20 (by decide) ?_
      refine ww_istore_n (pc := 21) (lv' := [(2, .int (0 : Int32)), (0, .ref (gB G + r0)), (1, .int x1)]) C dX12_restore_21 (by decide) rfl ?_
      refine ww_sub [1, 2, 0] rfl ?_
      exact s_X12_restore_l22 C (a := ((0 : Int32), σ)) hf hk
    · have hf := xip q hf
      refine ww_iconst (pc := 18) (v := (0 : Int32)) C dX12_restore_18 (by decide) ?_
      have hf := xsj hf
      subst hf
      exact ww_zret (pc := 19) C rfl hk dX12_restore_19
theorem m_X12_restore {σ : XS} {r0 : Nat} {x1 : Int32} {x : Int32 × XS} (hf : f_X12_restore σ r0 x1 = some x) : xsame σ x.2 := by
  have hm := xsame.rf (σ := σ)
  obtain ⟨v2, e1, hf⟩ := xbd hf
  by_cases q : v2 = 0
  · have hf := xip q hf
    have hf := xsj hf
    subst hf
    exact hm
  · have hf := xin q hf
    obtain ⟨z4, e3, hf⟩ := xbd hf
    obtain ⟨v6, e5, hf⟩ := xbd hf
    by_cases q : v6 = 0
    · have hf := xip q hf
      have hf := xsj hf
      subst hf
      exact hm
    · have hf := xin q hf
      exact hm.tr (m_X12_restore_l22 (a := ((0 : Int32), σ)) hf)
theorem k_X12_restore {l : Launch} {E : XD} {hb : Nat} {σ : XS} {r0 : Nat} {x1 : Int32} {x : Int32 × XS} (h : f_X12_restore σ r0 x1 = some x) : XM l yX12_restore cX12_restore 3 (some .boolean) 1 22 E hb [.ref (hb + r0), .int x1] σ (some (.int x.1)) x.2 := by
  refine xm_of (by decide) (Nat.le_of_ble_eq_true rfl) (m_X12_restore h).le (fun G hG C hl hQ => ?_)
  obtain ⟨rfl, rfl, rfl, hN⟩ := hG
  exact s_X12_restore_e C h hQ
noncomputable def f_X12_rows_b46 (σ : XS) (r0 : Nat) (x1 : Int32) (x2 : Int32) (x3 : Int32) (x5 : Int32) : Int32 × Int32 → Option ((Int32 × Int32) ⊕ (Int32)) := fun a => match a with
  | (x4, x6) => if ((1 : Int32) <<< (x5 &&& 31)) ≤ x6 then ((some x4).map .inr) else (xgR σ r0 12 21).bind fun z2 => (xgI σ r0 12 17).bind fun v4 => (f_X12_isLawfulBy σ z2 (x6 ||| (x2 <<< (x5 &&& 31))) (x5 + v4)).bind fun v6 => if v6 = 0 then (some (.inl (x4, x6 + (1 : Int32)))) else (xgR σ r0 12 21).bind fun z8 => (xck σ r0 12).bind fun _ => (f_X12_energy σ r0 z8 (x6 ||| (x2 <<< (x5 &&& 31))) (x1 + (1 : Int32))).bind fun v11 => if v11 = x3 then (some (.inl (x4 + (1 : Int32), x6 + (1 : Int32)))) else some (.inl (x4, x6 + (1 : Int32)))
noncomputable def f_X12_rows (σ : XS) (r0 : Nat) (x1 : Int32) (x2 : Int32) (x3 : Int32) : Option Int32 := (xgI σ r0 12 18).bind fun v2 => (f_X12_in x1 (0 : Int32) (v2 - (1 : Int32))).bind fun v4 => if v4 = 0 then (some (-1 : Int32)) else (xgI σ r0 12 17).bind fun v6 => (f_X12_in x2 (0 : Int32) (((1 : Int32) <<< (v6 &&& 31)) - (1 : Int32))).bind fun v8 => if v8 = 0 then (some (-1 : Int32)) else (xgI σ r0 12 17).bind fun v10 => xloop (f_X12_rows_b46 σ r0 x1 x2 x3 (v10 * x1)) ((0 : Int32), (0 : Int32))
theorem s_X12_rows_l46 {G : XG} (C : XC G cX12_rows RX12 (some .int) 8 3 75) {σ : XS} {r0 : Nat} {x1 : Int32} {x2 : Int32} {x3 : Int32} {x5 : Int32} {a : Int32 × Int32} {x : Int32} (hf : xloop (f_X12_rows_b46 σ r0 x1 x2 x3 x5) a = some x) (hk : XEnd G (some (.int x)) σ) : WW G 46 [(0, .ref (gB G + r0)), (1, .int x1), (2, .int x2), (3, .int x3), (4, .int a.1), (5, .int x5), (6, .int a.2)] [] σ := by
  refine xloop_ind (P := fun a => WW G 46 [(0, .ref (gB G + r0)), (1, .int x1), (2, .int x2), (3, .int x3), (4, .int a.1), (5, .int x5), (6, .int a.2)] [] σ) (fun a y hf hc he => ?_) hf
  obtain ⟨x4, x6⟩ := a
  have hk : (∀ a' : Int32 × Int32, y = .inl a' → WW G 46 [(0, .ref (gB G + r0)), (1, .int x1), (2, .int x2), (3, .int x3), (4, .int a'.1), (5, .int x5), (6, .int a'.2)] [] σ) ∧ (∀ b1 : Int32, y = .inr b1 → XEnd G (some (.int b1)) σ) := ⟨hc, fun b e => by have h9 := he b e; subst h9; exact hk⟩
  refine ww_iload (pc := 46) C 6 dX12_rows_46 rfl ?_
  refine ww_iconst (pc := 48) (v := (1 : Int32)) C dX12_rows_48 (by decide) ?_
  refine ww_iload (pc := 49) C 5 dX12_rows_49 rfl ?_
  refine ww_ishl (pc := 51) C dX12_rows_51 ?_
  refine ww_icmp_ge (pc := 52) (tgt := 109) C dX12_rows_52 (by decide) (fun q => ?_) (fun q => ?_)
  · have hf := xip q hf
    obtain ⟨b0, hg, e9⟩ := xmj hf
    subst e9
    have hf := hg
    have hk := hk.2 _ rfl
    refine ww_iload (pc := 109) C 4 dX12_rows_109 rfl ?_
    have hf := xsj hf
    subst hf
    exact ww_iret (pc := 111) C hk dX12_rows_111
  · have hf := xin q hf
    refine ww_iload (pc := 55) C 6 dX12_rows_55 rfl ?_
    refine ww_iload_n (pc := 57) C 2 dX12_rows_57 rfl ?_
    refine ww_iload (pc := 58) C 5 dX12_rows_58 rfl ?_
    refine ww_ishl (pc := 60) C dX12_rows_60 ?_
    refine ww_ior (pc := 61) C dX12_rows_61 ?_
    refine ww_istore (pc := 62) (lv' := [(7, .int (x6 ||| (x2 <<< (x5 &&& 31)))), (0, .ref (gB G + r0)), (1, .int x1), (2, .int x2), (3, .int x3), (4, .int x4), (5, .int x5), (6, .int x6)]) C dX12_rows_62 (by decide) rfl ?_
    refine ww_aload_n (pc := 64) C 1 dX12_rows_64 rfl ?_
    obtain ⟨z2, e1, hf⟩ := xbd hf
    refine gf_X12_40 (pc := 65) C e1 dX12_rows_65 ?_
    refine ww_iload (pc := 68) C 0 dX12_rows_68 rfl ?_
    refine ww_iload (pc := 70) C 6 dX12_rows_70 rfl ?_
    refine ww_aload_n (pc := 72) C 1 dX12_rows_72 rfl ?_
    obtain ⟨v4, e3, hf⟩ := xbd hf
    refine gf_X12_171 (pc := 73) C e3 dX12_rows_73 ?_
    refine ww_iadd (pc := 76) C dX12_rows_76 ?_
    obtain ⟨v6, e5, hf⟩ := xbd hf
    refine ww_callSi (pc := 77) (as := [.ref (gB G + z2), .int (x6 ||| (x2 <<< (x5 &&& 31))), .int (x5 + v4)]) (st := []) C (k_X12_isLawfulBy (l := gl G) (E := gE G) (hb := gB G) (σ := σ) e5) xc_X12_273 q1562 rfl (by decide) (xst4 (Nat.le_of_ble_eq_true rfl)) xsame.rf.le xsame.rf.lim dX12_rows_77 ?_
    refine ww_if_eq (pc := 80) (tgt := 103) C dX12_rows_80 (by decide) (fun q => ?_) (fun q => ?_)
    · have hf := xip q hf
      refine ww_iinc (pc := 103) (v := x6 + (1 : Int32)) (lv' := [(6, .int (x6 + (1 : Int32))), (7, .int (x6 ||| (x2 <<< (x5 &&& 31)))), (0, .ref (gB G + r0)), (1, .int x1), (2, .int x2), (3, .int x3), (4, .int x4), (5, .int x5)]) C 7 dX12_rows_103 rfl (congrArg (fun z => x6 + z) (show Int32.ofInt (1) = (1 : Int32) by decide)) (by decide) rfl ?_
      refine ww_goto (pc := 106) (tgt := 46) C dX12_rows_106 (by decide) ?_
      have hf := xsj hf
      subst hf
      refine ww_sub [2, 3, 4, 5, 6, 7, 0] rfl ?_
      exact hk.1 (x4, x6 + (1 : Int32)) rfl
    · have hf := xin q hf
      refine ww_aload_n (pc := 83) C 1 dX12_rows_83 rfl ?_
      refine ww_aload_n (pc := 84) C 1 dX12_rows_84 rfl ?_
      obtain ⟨z8, e7, hf⟩ := xbd hf
      refine gf_X12_40 (pc := 85) C e7 dX12_rows_85 ?_
      refine ww_iload (pc := 88) C 0 dX12_rows_88 rfl ?_
      refine ww_iload_n (pc := 90) C 2 dX12_rows_90 rfl ?_
      refine ww_iconst (pc := 91) (v := (1 : Int32)) C dX12_rows_91 (by decide) ?_
      refine ww_iadd (pc := 92) C dX12_rows_92 ?_
      obtain ⟨_, e9, hf⟩ := xbd hf
      obtain ⟨v11, e10, hf⟩ := xbd hf
      refine ww_callVi (pc := 93) (as := [.ref (gB G + z8), .int (x6 ||| (x2 <<< (x5 &&& 31))), .int (x1 + (1 : Int32))]) (st := []) C (k_X12_energy (l := gl G) (E := gE G) (hb := gB G) (σ := σ) e10) rfl (by decide) xc_X12_277 q1566 qp143 (xck_spec e9) rfl (by decide) (xst4 (Nat.le_of_ble_eq_true rfl)) xsame.rf.le xsame.rf.lim dX12_rows_93 ?_
      refine ww_iload_n (pc := 96) C 4 dX12_rows_96 rfl ?_
      refine ww_icmp_ne (pc := 97) (tgt := 103) C dX12_rows_97 (by decide) (fun q => ?_) (fun q => ?_)
      · have hf := xin q hf
        refine ww_iinc (pc := 103) (v := x6 + (1 : Int32)) (lv' := [(6, .int (x6 + (1 : Int32))), (7, .int (x6 ||| (x2 <<< (x5 &&& 31)))), (0, .ref (gB G + r0)), (1, .int x1), (2, .int x2), (3, .int x3), (4, .int x4), (5, .int x5)]) C 7 dX12_rows_103 rfl (congrArg (fun z => x6 + z) (show Int32.ofInt (1) = (1 : Int32) by decide)) (by decide) rfl ?_
        refine ww_goto (pc := 106) (tgt := 46) C dX12_rows_106 (by decide) ?_
        have hf := xsj hf
        subst hf
        refine ww_sub [2, 3, 4, 5, 6, 7, 0] rfl ?_
        exact hk.1 (x4, x6 + (1 : Int32)) rfl
      · have hf := xip q hf
        refine ww_iinc (pc := 100) (v := x4 + (1 : Int32)) (lv' := [(4, .int (x4 + (1 : Int32))), (7, .int (x6 ||| (x2 <<< (x5 &&& 31)))), (0, .ref (gB G + r0)), (1, .int x1), (2, .int x2), (3, .int x3), (5, .int x5), (6, .int x6)]) C 5 dX12_rows_100 rfl (congrArg (fun z => x4 + z) (show Int32.ofInt (1) = (1 : Int32) by decide)) (by decide) rfl ?_
        refine ww_iinc (pc := 103) (v := x6 + (1 : Int32)) (lv' := [(6, .int (x6 + (1 : Int32))), (4, .int (x4 + (1 : Int32))), (7, .int (x6 ||| (x2 <<< (x5 &&& 31)))), (0, .ref (gB G + r0)), (1, .int x1), (2, .int x2), (3, .int x3), (5, .int x5)]) C 7 dX12_rows_103 rfl (congrArg (fun z => x6 + z) (show Int32.ofInt (1) = (1 : Int32) by decide)) (by decide) rfl ?_
        refine ww_goto (pc := 106) (tgt := 46) C dX12_rows_106 (by decide) ?_
        have hf := xsj hf
        subst hf
        refine ww_sub [3, 4, 5, 6, 1, 7, 0] rfl ?_
        exact hk.1 (x4 + (1 : Int32), x6 + (1 : Int32)) rfl
theorem s_X12_rows_e {G : XG} (C : XC G cX12_rows RX12 (some .int) 8 3 75) {σ : XS} {r0 : Nat} {x1 : Int32} {x2 : Int32} {x3 : Int32} {x : Int32} (hf : f_X12_rows σ r0 x1 x2 x3 = some x) (hk : XEnd G (some (.int x)) σ) : WW G 0 [(0, .ref (gB G + r0)), (1, .int x1), (2, .int x2), (3, .int x3)] [] σ := by
  refine ww_iload_n (pc := 0) C 1 dX12_rows_0 rfl ?_
  refine ww_iconst (pc := 1) (v := (0 : Int32)) C dX12_rows_1 (by decide) ?_
  refine ww_aload_n (pc := 2) C 0 dX12_rows_2 rfl ?_
  obtain ⟨v2, e1, hf⟩ := xbd hf
  refine gf_X12_177 (pc := 3) C e1 dX12_rows_3 ?_
  refine ww_iconst (pc := 6) (v := (1 : Int32)) C dX12_rows_6 (by decide) ?_
  refine ww_isub (pc := 7) C dX12_rows_7 ?_
  obtain ⟨v4, e3, hf⟩ := xbd hf
  refine ww_callSi (pc := 8) (as := [.int x1, .int (0 : Int32), .int (v2 - (1 : Int32))]) (st := []) C (k_X12_in (l := gl G) (E := gE G) (hb := gB G) (σ := σ) e3) xc_X12_213 q1473 rfl (by decide) (xst4 (Nat.le_of_ble_eq_true rfl)) xsame.rf.le xsame.rf.lim dX12_rows_8 ?_
  refine ww_if_eq (pc := 11) (tgt := 30) C dX12_rows_11 (by decide) (fun q => ?_) (fun q => ?_)
  · have hf := xip q hf
    refine ww_iconst (pc := 30) (v := (-1 : Int32)) C dX12_rows_30 (by decide) ?_
    have hf := xsj hf
    subst hf
    exact ww_iret (pc := 31) C hk dX12_rows_31
  · have hf := xin q hf
    refine ww_iload_n (pc := 14) C 2 dX12_rows_14 rfl ?_
    refine ww_iconst (pc := 15) (v := (0 : Int32)) C dX12_rows_15 (by decide) ?_
    refine ww_iconst (pc := 16) (v := (1 : Int32)) C dX12_rows_16 (by decide) ?_
    refine ww_aload_n (pc := 17) C 0 dX12_rows_17 rfl ?_
    obtain ⟨v6, e5, hf⟩ := xbd hf
    refine gf_X12_171 (pc := 18) C e5 dX12_rows_18 ?_
    refine ww_ishl (pc := 21) C dX12_rows_21 ?_
    refine ww_iconst (pc := 22) (v := (1 : Int32)) C dX12_rows_22 (by decide) ?_
    refine ww_isub (pc := 23) C dX12_rows_23 ?_
    obtain ⟨v8, e7, hf⟩ := xbd hf
    refine ww_callSi (pc := 24) (as := [.int x2, .int (0 : Int32), .int (((1 : Int32) <<< (v6 &&& 31)) - (1 : Int32))]) (st := []) C (k_X12_in (l := gl G) (E := gE G) (hb := gB G) (σ := σ) e7) xc_X12_213 q1473 rfl (by decide) (xst4 (Nat.le_of_ble_eq_true rfl)) xsame.rf.le xsame.rf.lim dX12_rows_24 ?_
    refine ww_if_ne (pc := 27) (tgt := 32) C dX12_rows_27 (by decide) (fun q => ?_) (fun q => ?_)
    · have hf := xin q hf
      refine ww_iconst (pc := 32) (v := (0 : Int32)) C dX12_rows_32 (by decide) ?_
      refine ww_istore (pc := 33) (lv' := [(4, .int (0 : Int32)), (0, .ref (gB G + r0)), (1, .int x1), (2, .int x2), (3, .int x3)]) C dX12_rows_33 (by decide) rfl ?_
      refine ww_aload_n (pc := 35) C 1 dX12_rows_35 rfl ?_
      obtain ⟨v10, e9, hf⟩ := xbd hf
      refine gf_X12_171 (pc := 36) C e9 dX12_rows_36 ?_
      refine ww_iload_n (pc := 39) C 2 dX12_rows_39 rfl ?_
      refine ww_imul (pc := 40) C dX12_rows_40 ?_
      refine ww_istore (pc := 41) (lv' := [(5, .int (v10 * x1)), (4, .int (0 : Int32)), (0, .ref (gB G + r0)), (1, .int x1), (2, .int x2), (3, .int x3)]) C dX12_rows_41 (by decide) rfl ?_
      refine ww_iconst (pc := 43) (v := (0 : Int32)) C dX12_rows_43 (by decide) ?_
      refine ww_istore (pc := 44) (lv' := [(6, .int (0 : Int32)), (5, .int (v10 * x1)), (4, .int (0 : Int32)), (0, .ref (gB G + r0)), (1, .int x1), (2, .int x2), (3, .int x3)]) C dX12_rows_44 (by decide) rfl ?_
      refine ww_sub [3, 4, 5, 6, 2, 1, 0] rfl ?_
      exact s_X12_rows_l46 C (a := ((0 : Int32), (0 : Int32))) hf hk
    · have hf := xip q hf
      refine ww_iconst (pc := 30) (v := (-1 : Int32)) C dX12_rows_30 (by decide) ?_
      have hf := xsj hf
      subst hf
      exact ww_iret (pc := 31) C hk dX12_rows_31
theorem k_X12_rows {l : Launch} {E : XD} {hb : Nat} {σ : XS} {r0 : Nat} {x1 : Int32} {x2 : Int32} {x3 : Int32} {x : Int32} (h : f_X12_rows σ r0 x1 x2 x3 = some x) : XM l yX12_rows cX12_rows 8 (some .int) 3 75 E hb [.ref (hb + r0), .int x1, .int x2, .int x3] σ (some (.int x)) σ := by
  refine xm_of (by decide) (Nat.le_of_ble_eq_true rfl) ⟨Nat.le_refl _, Nat.le_refl _⟩ (fun G hG C hl hQ => ?_)
  obtain ⟨rfl, rfl, rfl, hN⟩ := hG
  exact s_X12_rows_e C h hQ
noncomputable def f_X12_site (σ : XS) (r0 : Nat) (x1 : Int32) (x2 : Int32) : Option Int32 := (xck σ r0 12).bind fun _ => (f_X12_isSite σ r0 x1).bind fun v3 => if v3 = 0 then (some (-100000 : Int32)) else xsw x2 (0) [(xgI σ r0 12 17).bind fun v5 => (xdz v5).bind fun _ => some (x1 / v5), (xgI σ r0 12 17).bind fun v5 => (xdz v5).bind fun _ => some (x1 - x1 / v5 * v5), (xgR σ r0 12 21).bind fun z5 => (xaI σ 20 z5 ((32 : Int32) + x1)).bind fun v7 => some v7, (xgR σ r0 12 21).bind fun z5 => (xaI σ 20 z5 ((48 : Int32) + x1)).bind fun v7 => some v7, (xck σ r0 12).bind fun _ => (f_X12_tieTo σ r0 x1 (0 : Int32)).bind fun v6 => if 0 ≤ v6 then ((xgR σ r0 12 21).bind fun z8 => (xaI σ 20 z8 ((0 : Int32) + x1)).bind fun v10 => some v10) else some (100 : Int32), (xck σ r0 12).bind fun _ => (f_X12_tieTo σ r0 x1 (1 : Int32)).bind fun v6 => if 0 ≤ v6 then ((xgR σ r0 12 21).bind fun z8 => (xaI σ 20 z8 ((16 : Int32) + x1)).bind fun v10 => some v10) else some (100 : Int32), (xgR σ r0 12 21).bind fun z5 => (xaI σ 20 z5 (64 : Int32)).bind fun v7 => some ((v7 >>> (x1 &&& 31)) &&& (1 : Int32)), (xgR σ r0 12 21).bind fun z5 => (xaI σ 20 z5 (64 : Int32)).bind fun v7 => (xck σ r0 12).bind fun _ => (f_X12_costOf σ r0 v7 x1).bind fun v10 => some v10] (some (-100000 : Int32))
theorem s_X12_site_e {G : XG} (C : XC G cX12_site RX12 (some .int) 3 4 97) {σ : XS} {r0 : Nat} {x1 : Int32} {x2 : Int32} {x : Int32} (hf : f_X12_site σ r0 x1 x2 = some x) (hk : XEnd G (some (.int x)) σ) : WW G 0 [(0, .ref (gB G + r0)), (1, .int x1), (2, .int x2)] [] σ := by
  refine ww_aload_n (pc := 0) C 0 dX12_site_0 rfl ?_
  refine ww_iload_n (pc := 1) C 1 dX12_site_1 rfl ?_
  obtain ⟨_, e1, hf⟩ := xbd hf
  obtain ⟨v3, e2, hf⟩ := xbd hf
  refine ww_callVi (pc := 2) (as := [.int x1]) (st := []) C (k_X12_isSite (l := gl G) (E := gE G) (hb := gB G) (σ := σ) e2) rfl (by decide) xc_X12_233 q1508 qp137 (xck_spec e1) rfl (by decide) (xst4 (Nat.le_of_ble_eq_true rfl)) xsame.rf.le xsame.rf.lim dX12_site_2 ?_
  refine ww_if_ne (pc := 5) (tgt := 12) C dX12_site_5 (by decide) (fun q => ?_) (fun q => ?_)
  · have hf := xin q hf
    refine ww_iload_n (pc := 12) C 2 dX12_site_12 rfl ?_
    refine ww_table (pc := 13) C dX12_site_13 (fun k hk1 hk2 => ?_) (fun ho => ?_)
    · rcases (by omega : k = 0 ∨ k = 1 ∨ k = 2 ∨ k = 3 ∨ k = 4 ∨ k = 5 ∨ k = 6 ∨ k = 7) with rfl | rfl | rfl | rfl | rfl | rfl | rfl | rfl
      · refine ⟨60, 47, rfl, by decide, ?_⟩
        have hf := xsw_in 0 hk1 rfl hf
        refine ww_iload_n (pc := 60) C 1 dX12_site_60 rfl ?_
        refine ww_aload_n (pc := 61) C 0 dX12_site_61 rfl ?_
        obtain ⟨v5, e4, hf⟩ := xbd hf
        refine gf_X12_171 (pc := 62) C e4 dX12_site_62 ?_
        obtain ⟨_, e6, hf⟩ := xbd hf
        refine ww_idiv (pc := 65) C dX12_site_65 (xdz_spec e6) ?_
        have hf := xsj hf
        subst hf
        exact ww_iret (pc := 66) C hk dX12_site_66
      · refine ⟨67, 54, rfl, by decide, ?_⟩
        have hf := xsw_in 1 hk1 rfl hf
        refine ww_iload_n (pc := 67) C 1 dX12_site_67 rfl ?_
        refine ww_aload_n (pc := 68) C 0 dX12_site_68 rfl ?_
        obtain ⟨v5, e4, hf⟩ := xbd hf
        refine gf_X12_171 (pc := 69) C e4 dX12_site_69 ?_
        obtain ⟨_, e6, hf⟩ := xbd hf
        refine ww_irem (pc := 72) C dX12_site_72 (xdz_spec e6) ?_
        have hf := xsj hf
        subst hf
        exact ww_iret (pc := 73) C hk dX12_site_73
      · refine ⟨74, 61, rfl, by decide, ?_⟩
        have hf := xsw_in 2 hk1 rfl hf
        refine ww_aload_n (pc := 74) C 0 dX12_site_74 rfl ?_
        obtain ⟨z5, e4, hf⟩ := xbd hf
        refine gf_X12_40 (pc := 75) C e4 dX12_site_75 ?_
        refine ww_bipush (pc := 78) (v := (32 : Int32)) C dX12_site_78 (by decide) ?_
        refine ww_iload_n (pc := 80) C 1 dX12_site_80 rfl ?_
        refine ww_iadd (pc := 81) C dX12_site_81 ?_
        obtain ⟨v7, e6, hf⟩ := xbd hf
        refine ww_iald (pc := 82) C e6 dX12_site_82 ?_
        have hf := xsj hf
        subst hf
        exact ww_iret (pc := 83) C hk dX12_site_83
      · refine ⟨84, 71, rfl, by decide, ?_⟩
        have hf := xsw_in 3 hk1 rfl hf
        refine ww_aload_n (pc := 84) C 0 dX12_site_84 rfl ?_
        obtain ⟨z5, e4, hf⟩ := xbd hf
        refine gf_X12_40 (pc := 85) C e4 dX12_site_85 ?_
        refine ww_bipush (pc := 88) (v := (48 : Int32)) C dX12_site_88 (by decide) ?_
        refine ww_iload_n (pc := 90) C 1 dX12_site_90 rfl ?_
        refine ww_iadd (pc := 91) C dX12_site_91 ?_
        obtain ⟨v7, e6, hf⟩ := xbd hf
        refine ww_iald (pc := 92) C e6 dX12_site_92 ?_
        have hf := xsj hf
        subst hf
        exact ww_iret (pc := 93) C hk dX12_site_93
      · refine ⟨94, 81, rfl, by decide, ?_⟩
        have hf := xsw_in 4 hk1 rfl hf
        refine ww_aload_n (pc := 94) C 0 dX12_site_94 rfl ?_
        refine ww_iload_n (pc := 95) C 1 dX12_site_95 rfl ?_
        refine ww_iconst (pc := 96) (v := (0 : Int32)) C dX12_site_96 (by decide) ?_
        obtain ⟨_, e4, hf⟩ := xbd hf
        obtain ⟨v6, e5, hf⟩ := xbd hf
        refine ww_callVi (pc := 97) (as := [.int x1, .int (0 : Int32)]) (st := []) C (k_X12_tieTo (l := gl G) (E := gE G) (hb := gB G) (σ := σ) e5) rfl (by decide) xc_X12_236 q1512 qp138 (xck_spec e4) rfl (by decide) (xst4 (Nat.le_of_ble_eq_true rfl)) xsame.rf.le xsame.rf.lim dX12_site_97 ?_
        refine ww_if_ge (pc := 100) (tgt := 108) C dX12_site_100 (by decide) (fun q => ?_) (fun q => ?_)
        · have hf := xip q hf
          refine ww_aload_n (pc := 108) C 0 dX12_site_108 rfl ?_
          obtain ⟨z8, e7, hf⟩ := xbd hf
          refine gf_X12_40 (pc := 109) C e7 dX12_site_109 ?_
          refine ww_iconst (pc := 112) (v := (0 : Int32)) C dX12_site_112 (by decide) ?_
          refine ww_iload_n (pc := 113) C 1 dX12_site_113 rfl ?_
          refine ww_iadd (pc := 114) C dX12_site_114 ?_
          obtain ⟨v10, e9, hf⟩ := xbd hf
          refine ww_iald (pc := 115) C e9 dX12_site_115 ?_
          have hf := xsj hf
          subst hf
          exact ww_iret (pc := 116) C hk dX12_site_116
        · have hf := xin q hf
          refine ww_bipush (pc := 103) (v := (100 : Int32)) C dX12_site_103 (by decide) ?_
          refine ww_goto (pc := 105) (tgt := 116) C dX12_site_105 (by decide) ?_
          have hf := xsj hf
          subst hf
          exact ww_iret (pc := 116) C hk dX12_site_116
      · refine ⟨117, 104, rfl, by decide, ?_⟩
        have hf := xsw_in 5 hk1 rfl hf
        refine ww_aload_n (pc := 117) C 0 dX12_site_117 rfl ?_
        refine ww_iload_n (pc := 118) C 1 dX12_site_118 rfl ?_
        refine ww_iconst (pc := 119) (v := (1 : Int32)) C dX12_site_119 (by decide) ?_
        obtain ⟨_, e4, hf⟩ := xbd hf
        obtain ⟨v6, e5, hf⟩ := xbd hf
        refine ww_callVi (pc := 120) (as := [.int x1, .int (1 : Int32)]) (st := []) C (k_X12_tieTo (l := gl G) (E := gE G) (hb := gB G) (σ := σ) e5) rfl (by decide) xc_X12_236 q1512 qp138 (xck_spec e4) rfl (by decide) (xst4 (Nat.le_of_ble_eq_true rfl)) xsame.rf.le xsame.rf.lim dX12_site_120 ?_
        refine ww_if_ge (pc := 123) (tgt := 131) C dX12_site_123 (by decide) (fun q => ?_) (fun q => ?_)
        · have hf := xip q hf
          refine ww_aload_n (pc := 131) C 0 dX12_site_131 rfl ?_
          obtain ⟨z8, e7, hf⟩ := xbd hf
          refine gf_X12_40 (pc := 132) C e7 dX12_site_132 ?_
          refine ww_bipush (pc := 135) (v := (16 : Int32)) C dX12_site_135 (by decide) ?_
          refine ww_iload_n (pc := 137) C 1 dX12_site_137 rfl ?_
          refine ww_iadd (pc := 138) C dX12_site_138 ?_
          obtain ⟨v10, e9, hf⟩ := xbd hf
          refine ww_iald (pc := 139) C e9 dX12_site_139 ?_
          have hf := xsj hf
          subst hf
          exact ww_iret (pc := 140) C hk dX12_site_140
        · have hf := xin q hf
          refine ww_bipush (pc := 126) (v := (100 : Int32)) C dX12_site_126 (by decide) ?_
          refine ww_goto (pc := 128) (tgt := 140) C dX12_site_128 (by decide) ?_
          have hf := xsj hf
          subst hf
          exact ww_iret (pc := 140) C hk dX12_site_140
      · refine ⟨141, 128, rfl, by decide, ?_⟩
        have hf := xsw_in 6 hk1 rfl hf
        refine ww_aload_n (pc := 141) C 0 dX12_site_141 rfl ?_
        obtain ⟨z5, e4, hf⟩ := xbd hf
        refine gf_X12_40 (pc := 142) C e4 dX12_site_142 ?_
        refine ww_bipush (pc := 145) (v := (64 : Int32)) C dX12_site_145 (by decide) ?_
        obtain ⟨v7, e6, hf⟩ := xbd hf
        refine ww_iald (pc := 147) C e6 dX12_site_147 ?_
        refine ww_iload_n (pc := 148) C 1 dX12_site_148 rfl ?_
        refine ww_ishr (pc := 149) C dX12_site_149 ?_
        refine ww_iconst (pc := 150) (v := (1 : Int32)) C dX12_site_150 (by decide) ?_
        refine ww_iand (pc := 151) C dX12_site_151 ?_
        have hf := xsj hf
        subst hf
        exact ww_iret (pc := 152) C hk dX12_site_152
      · refine ⟨153, 140, rfl, by decide, ?_⟩
        have hf := xsw_in 7 hk1 rfl hf
        refine ww_aload_n (pc := 153) C 0 dX12_site_153 rfl ?_
        refine ww_aload_n (pc := 154) C 0 dX12_site_154 rfl ?_
        obtain ⟨z5, e4, hf⟩ := xbd hf
        refine gf_X12_40 (pc := 155) C e4 dX12_site_155 ?_
        refine ww_bipush (pc := 158) (v := (64 : Int32)) C dX12_site_158 (by decide) ?_
        obtain ⟨v7, e6, hf⟩ := xbd hf
        refine ww_iald (pc := 160) C e6 dX12_site_160 ?_
        refine ww_iload_n (pc := 161) C 1 dX12_site_161 rfl ?_
        obtain ⟨_, e8, hf⟩ := xbd hf
        obtain ⟨v10, e9, hf⟩ := xbd hf
        refine ww_callVi (pc := 162) (as := [.int v7, .int x1]) (st := []) C (k_X12_costOf (l := gl G) (E := gE G) (hb := gB G) (σ := σ) e9) rfl (by decide) xc_X12_289 q1600 qp147 (xck_spec e8) rfl (by decide) (xst4 (Nat.le_of_ble_eq_true rfl)) xsame.rf.le xsame.rf.lim dX12_site_162 ?_
        have hf := xsj hf
        subst hf
        exact ww_iret (pc := 165) C hk dX12_site_165
    · refine ⟨166, by decide, ?_⟩
      have hf := xsw_out ho rfl hf
      refine ww_ldcw (pc := 166) C q1597 dX12_site_166 ?_
      have hf := xsj hf
      subst hf
      exact ww_iret (pc := 169) C hk dX12_site_169
  · have hf := xip q hf
    refine ww_ldcw (pc := 8) C q1597 dX12_site_8 ?_
    have hf := xsj hf
    subst hf
    exact ww_iret (pc := 11) C hk dX12_site_11
theorem k_X12_site {l : Launch} {E : XD} {hb : Nat} {σ : XS} {r0 : Nat} {x1 : Int32} {x2 : Int32} {x : Int32} (h : f_X12_site σ r0 x1 x2 = some x) : XM l yX12_site cX12_site 3 (some .int) 4 97 E hb [.ref (hb + r0), .int x1, .int x2] σ (some (.int x)) σ := by
  refine xm_of (by decide) (Nat.le_of_ble_eq_true rfl) ⟨Nat.le_refl _, Nat.le_refl _⟩ (fun G hG C hl hQ => ?_)
  obtain ⟨rfl, rfl, rfl, hN⟩ := hG
  exact s_X12_site_e C h hQ
noncomputable def f_X12_square (σ : XS) (r0 : Nat) (x1 : Int32) : Option Int32 := (xck σ r0 12).bind fun _ => (f_X12_isSite σ r0 x1).bind fun v3 => if v3 = 0 then (some (-1 : Int32)) else (xck σ r0 12).bind fun _ => (f_X12_oddOf σ r0 x1).bind fun v6 => some v6
theorem s_X12_square_e {G : XG} (C : XC G cX12_square RX12 (some .int) 2 3 72) {σ : XS} {r0 : Nat} {x1 : Int32} {x : Int32} (hf : f_X12_square σ r0 x1 = some x) (hk : XEnd G (some (.int x)) σ) : WW G 0 [(0, .ref (gB G + r0)), (1, .int x1)] [] σ := by
  refine ww_aload_n (pc := 0) C 0 dX12_square_0 rfl ?_
  refine ww_iload_n (pc := 1) C 1 dX12_square_1 rfl ?_
  obtain ⟨_, e1, hf⟩ := xbd hf
  obtain ⟨v3, e2, hf⟩ := xbd hf
  refine ww_callVi (pc := 2) (as := [.int x1]) (st := []) C (k_X12_isSite (l := gl G) (E := gE G) (hb := gB G) (σ := σ) e2) rfl (by decide) xc_X12_233 q1508 qp137 (xck_spec e1) rfl (by decide) (xst4 (Nat.le_of_ble_eq_true rfl)) xsame.rf.le xsame.rf.lim dX12_square_2 ?_
  refine ww_if_eq (pc := 5) (tgt := 16) C dX12_square_5 (by decide) (fun q => ?_) (fun q => ?_)
  · have hf := xip q hf
    refine ww_iconst (pc := 16) (v := (-1 : Int32)) C dX12_square_16 (by decide) ?_
    have hf := xsj hf
    subst hf
    exact ww_iret (pc := 17) C hk dX12_square_17
  · have hf := xin q hf
    refine ww_aload_n (pc := 8) C 0 dX12_square_8 rfl ?_
    refine ww_iload_n (pc := 9) C 1 dX12_square_9 rfl ?_
    obtain ⟨_, e4, hf⟩ := xbd hf
    obtain ⟨v6, e5, hf⟩ := xbd hf
    refine ww_callVi (pc := 10) (as := [.int x1]) (st := []) C (k_X12_oddOf (l := gl G) (E := gE G) (hb := gB G) (σ := σ) e5) rfl (by decide) xc_X12_330 q1720 qp154 (xck_spec e4) rfl (by decide) (xst4 (Nat.le_of_ble_eq_true rfl)) xsame.rf.le xsame.rf.lim dX12_square_10 ?_
    refine ww_goto (pc := 13) (tgt := 17) C dX12_square_13 (by decide) ?_
    have hf := xsj hf
    subst hf
    exact ww_iret (pc := 17) C hk dX12_square_17
theorem k_X12_square {l : Launch} {E : XD} {hb : Nat} {σ : XS} {r0 : Nat} {x1 : Int32} {x : Int32} (h : f_X12_square σ r0 x1 = some x) : XM l yX12_square cX12_square 2 (some .int) 3 72 E hb [.ref (hb + r0), .int x1] σ (some (.int x)) σ := by
  refine xm_of (by decide) (Nat.le_of_ble_eq_true rfl) ⟨Nat.le_refl _, Nat.le_refl _⟩ (fun G hG C hl hQ => ?_)
  obtain ⟨rfl, rfl, rfl, hN⟩ := hG
  exact s_X12_square_e C h hQ
noncomputable def f_X12_state (σ : XS) (r0 : Nat) (x1 : Int32) (x2 : Int32) : Option (Int32 × XS) := (xck σ r0 12).bind fun _ => (f_X12_isLawful σ r0 x1).bind fun v3 => if v3 = 0 then (some ((-100000 : Int32), σ)) else (xck σ r0 12).bind fun _ => (f_X12_knows σ r0).bind fun σ6 => xsw x2 (0) [(xgR σ6 r0 12 33).bind fun z8 => (xaI σ6 20 z8 x1).bind fun v10 => some (v10, σ6), (xck σ6 r0 12).bind fun _ => (f_X12_brokenOf σ6 r0 x1).bind fun v9 => some (v9, σ6), (xck σ6 r0 12).bind fun _ => (f_X12_steepest σ6 r0 x1).bind fun v9 => if 0 ≤ v9 then (some ((0 : Int32), σ6)) else some ((1 : Int32), σ6), (xck σ6 r0 12).bind fun _ => (f_X12_fallEnd σ6 r0 x1).bind fun v9 => some (v9, σ6), (xck σ6 r0 12).bind fun _ => (f_X12_fallTurns σ6 r0 x1).bind fun v9 => some (v9, σ6), (xck σ6 r0 12).bind fun _ => (f_X12_levelOf σ6 r0 x1).bind fun v9 => some (v9, σ6)] (some ((-100000 : Int32), σ6))
theorem s_X12_state_e {G : XG} (C : XC G cX12_state RX12 (some .int) 3 4 96) {σ : XS} {r0 : Nat} {x1 : Int32} {x2 : Int32} {x : Int32 × XS} (hf : f_X12_state σ r0 x1 x2 = some x) (hk : XEnd G (some (.int x.1)) x.2) : WW G 0 [(0, .ref (gB G + r0)), (1, .int x1), (2, .int x2)] [] σ := by
  refine ww_aload_n (pc := 0) C 0 dX12_state_0 rfl ?_
  refine ww_iload_n (pc := 1) C 1 dX12_state_1 rfl ?_
  obtain ⟨_, e1, hf⟩ := xbd hf
  obtain ⟨v3, e2, hf⟩ := xbd hf
  refine ww_callVi (pc := 2) (as := [.int x1]) (st := []) C (k_X12_isLawful (l := gl G) (E := gE G) (hb := gB G) (σ := σ) e2) rfl (by decide) xc_X12_281 q1559 qp142 (xck_spec e1) rfl (by decide) (xst4 (Nat.le_of_ble_eq_true rfl)) xsame.rf.le xsame.rf.lim dX12_state_2 ?_
  refine ww_if_ne (pc := 5) (tgt := 12) C dX12_state_5 (by decide) (fun q => ?_) (fun q => ?_)
  · have hf := xin q hf
    refine ww_aload_n (pc := 12) C 0 dX12_state_12 rfl ?_
    obtain ⟨_, e4, hf⟩ := xbd hf
    obtain ⟨σ6, e5, hf⟩ := xbd hf
    refine ww_callVv (pc := 13) (as := []) (st := []) C (k_X12_knows (l := gl G) (E := gE G) (hb := gB G) (σ := σ) e5) rfl (by decide) xc_X12_261 q1551 qp140 (xck_spec e4) rfl (by decide) (xst4 (Nat.le_of_ble_eq_true rfl)) (m_X12_knows e5).le (m_X12_knows e5).lim dX12_state_13 ?_
    refine ww_iload_n (pc := 16) C 2 dX12_state_16 rfl ?_
    refine ww_table (pc := 17) C dX12_state_17 (fun k hk1 hk2 => ?_) (fun ho => ?_)
    · rcases (by omega : k = 0 ∨ k = 1 ∨ k = 2 ∨ k = 3 ∨ k = 4 ∨ k = 5) with rfl | rfl | rfl | rfl | rfl | rfl
      · refine ⟨56, 39, rfl, by decide, ?_⟩
        have hf := xsw_in 0 hk1 rfl hf
        refine ww_aload_n (pc := 56) C 0 dX12_state_56 rfl ?_
        obtain ⟨z8, e7, hf⟩ := xbd hf
        refine gf_X12_57 (pc := 57) C e7 dX12_state_57 ?_
        refine ww_iload_n (pc := 60) C 1 dX12_state_60 rfl ?_
        obtain ⟨v10, e9, hf⟩ := xbd hf
        refine ww_iald (pc := 61) C e9 dX12_state_61 ?_
        have hf := xsj hf
        subst hf
        exact ww_iret (pc := 62) C hk dX12_state_62
      · refine ⟨63, 46, rfl, by decide, ?_⟩
        have hf := xsw_in 1 hk1 rfl hf
        refine ww_aload_n (pc := 63) C 0 dX12_state_63 rfl ?_
        refine ww_iload_n (pc := 64) C 1 dX12_state_64 rfl ?_
        obtain ⟨_, e7, hf⟩ := xbd hf
        obtain ⟨v9, e8, hf⟩ := xbd hf
        refine ww_callVi (pc := 65) (as := [.int x1]) (st := []) C (k_X12_brokenOf (l := gl G) (E := gE G) (hb := gB G) (σ := σ6) e8) rfl (by decide) xc_X12_305 q1627 qp150 (xck_spec e7) rfl (by decide) (xst4 (Nat.le_of_ble_eq_true rfl)) xsame.rf.le xsame.rf.lim dX12_state_65 ?_
        have hf := xsj hf
        subst hf
        exact ww_iret (pc := 68) C hk dX12_state_68
      · refine ⟨69, 52, rfl, by decide, ?_⟩
        have hf := xsw_in 2 hk1 rfl hf
        refine ww_aload_n (pc := 69) C 0 dX12_state_69 rfl ?_
        refine ww_iload_n (pc := 70) C 1 dX12_state_70 rfl ?_
        obtain ⟨_, e7, hf⟩ := xbd hf
        obtain ⟨v9, e8, hf⟩ := xbd hf
        refine ww_callVi (pc := 71) (as := [.int x1]) (st := []) C (k_X12_steepest (l := gl G) (E := gE G) (hb := gB G) (σ := σ6) e8) rfl (by decide) xc_X12_321 q1575 qp145 (xck_spec e7) rfl (by decide) (xst4 (Nat.le_of_ble_eq_true rfl)) xsame.rf.le xsame.rf.lim dX12_state_71 ?_
        refine ww_if_ge (pc := 74) (tgt := 81) C dX12_state_74 (by decide) (fun q => ?_) (fun q => ?_)
        · have hf := xip q hf
          refine ww_iconst (pc := 81) (v := (0 : Int32)) C dX12_state_81 (by decide) ?_
          have hf := xsj hf
          subst hf
          exact ww_iret (pc := 82) C hk dX12_state_82
        · have hf := xin q hf
          refine ww_iconst (pc := 77) (v := (1 : Int32)) C dX12_state_77 (by decide) ?_
          refine ww_goto (pc := 78) (tgt := 82) C dX12_state_78 (by decide) ?_
          have hf := xsj hf
          subst hf
          exact ww_iret (pc := 82) C hk dX12_state_82
      · refine ⟨83, 66, rfl, by decide, ?_⟩
        have hf := xsw_in 3 hk1 rfl hf
        refine ww_aload_n (pc := 83) C 0 dX12_state_83 rfl ?_
        refine ww_iload_n (pc := 84) C 1 dX12_state_84 rfl ?_
        obtain ⟨_, e7, hf⟩ := xbd hf
        obtain ⟨v9, e8, hf⟩ := xbd hf
        refine ww_callVi (pc := 85) (as := [.int x1]) (st := []) C (k_X12_fallEnd (l := gl G) (E := gE G) (hb := gB G) (σ := σ6) e8) rfl (by decide) xc_X12_267 q1579 qp146 (xck_spec e7) rfl (by decide) (xst4 (Nat.le_of_ble_eq_true rfl)) xsame.rf.le xsame.rf.lim dX12_state_85 ?_
        have hf := xsj hf
        subst hf
        exact ww_iret (pc := 88) C hk dX12_state_88
      · refine ⟨89, 72, rfl, by decide, ?_⟩
        have hf := xsw_in 4 hk1 rfl hf
        refine ww_aload_n (pc := 89) C 0 dX12_state_89 rfl ?_
        refine ww_iload_n (pc := 90) C 1 dX12_state_90 rfl ?_
        obtain ⟨_, e7, hf⟩ := xbd hf
        obtain ⟨v9, e8, hf⟩ := xbd hf
        refine ww_callVi (pc := 91) (as := [.int x1]) (st := []) C (k_X12_fallTurns (l := gl G) (E := gE G) (hb := gB G) (σ := σ6) e8) rfl (by decide) xc_X12_264 q1571 qp144 (xck_spec e7) rfl (by decide) (xst4 (Nat.le_of_ble_eq_true rfl)) xsame.rf.le xsame.rf.lim dX12_state_91 ?_
        have hf := xsj hf
        subst hf
        exact ww_iret (pc := 94) C hk dX12_state_94
      · refine ⟨95, 78, rfl, by decide, ?_⟩
        have hf := xsw_in 5 hk1 rfl hf
        refine ww_aload_n (pc := 95) C 0 dX12_state_95 rfl ?_
        refine ww_iload_n (pc := 96) C 1 dX12_state_96 rfl ?_
        obtain ⟨_, e7, hf⟩ := xbd hf
        obtain ⟨v9, e8, hf⟩ := xbd hf
        refine ww_callVi (pc := 97) (as := [.int x1]) (st := []) C (k_X12_levelOf (l := gl G) (E := gE G) (hb := gB G) (σ := σ6) e8) rfl (by decide) xc_X12_324 q1668 qp152 (xck_spec e7) rfl (by decide) (xst4 (Nat.le_of_ble_eq_true rfl)) xsame.rf.le xsame.rf.lim dX12_state_97 ?_
        have hf := xsj hf
        subst hf
        exact ww_iret (pc := 100) C hk dX12_state_100
    · refine ⟨101, by decide, ?_⟩
      have hf := xsw_out ho rfl hf
      refine ww_ldcw (pc := 101) C q1597 dX12_state_101 ?_
      have hf := xsj hf
      subst hf
      exact ww_iret (pc := 104) C hk dX12_state_104
  · have hf := xip q hf
    refine ww_ldcw (pc := 8) C q1597 dX12_state_8 ?_
    have hf := xsj hf
    subst hf
    exact ww_iret (pc := 11) C hk dX12_state_11
theorem m_X12_state {σ : XS} {r0 : Nat} {x1 : Int32} {x2 : Int32} {x : Int32 × XS} (hf : f_X12_state σ r0 x1 x2 = some x) : xsame σ x.2 := by
  have hm := xsame.rf (σ := σ)
  obtain ⟨_, e1, hf⟩ := xbd hf
  obtain ⟨v3, e2, hf⟩ := xbd hf
  by_cases q : v3 = 0
  · have hf := xip q hf
    have hf := xsj hf
    subst hf
    exact hm
  · have hf := xin q hf
    obtain ⟨_, e4, hf⟩ := xbd hf
    obtain ⟨σ6, e5, hf⟩ := xbd hf
    have hm := hm.tr (m_X12_knows e5)
    by_cases ho : (x2).toInt < 0 ∨ 5 < (x2).toInt
    · have hf := xsw_out ho rfl hf
      have hf := xsj hf
      subst hf
      exact hm
    · rcases (by omega : (x2).toInt = 0 + ((0 : Nat) : Int) ∨ (x2).toInt = 0 + ((1 : Nat) : Int) ∨ (x2).toInt = 0 + ((2 : Nat) : Int) ∨ (x2).toInt = 0 + ((3 : Nat) : Int) ∨ (x2).toInt = 0 + ((4 : Nat) : Int) ∨ (x2).toInt = 0 + ((5 : Nat) : Int)) with hk1 | hk1 | hk1 | hk1 | hk1 | hk1
      · have hf := xsw_in 0 hk1 rfl hf
        obtain ⟨z8, e7, hf⟩ := xbd hf
        obtain ⟨v10, e9, hf⟩ := xbd hf
        have hf := xsj hf
        subst hf
        exact hm
      · have hf := xsw_in 1 hk1 rfl hf
        obtain ⟨_, e7, hf⟩ := xbd hf
        obtain ⟨v9, e8, hf⟩ := xbd hf
        have hf := xsj hf
        subst hf
        exact hm
      · have hf := xsw_in 2 hk1 rfl hf
        obtain ⟨_, e7, hf⟩ := xbd hf
        obtain ⟨v9, e8, hf⟩ := xbd hf
        by_cases q : 0 ≤ v9
        · have hf := xip q hf
          have hf := xsj hf
          subst hf
          exact hm
        · have hf := xin q hf
          have hf := xsj hf
          subst hf
          exact hm
      · have hf := xsw_in 3 hk1 rfl hf
        obtain ⟨_, e7, hf⟩ := xbd hf
        obtain ⟨v9, e8, hf⟩ := xbd hf
        have hf := xsj hf
        subst hf
        exact hm
      · have hf := xsw_in 4 hk1 rfl hf
        obtain ⟨_, e7, hf⟩ := xbd hf
        obtain ⟨v9, e8, hf⟩ := xbd hf
        have hf := xsj hf
        subst hf
        exact hm
      · have hf := xsw_in 5 hk1 rfl hf
        obtain ⟨_, e7, hf⟩ := xbd hf
        obtain ⟨v9, e8, hf⟩ := xbd hf
        have hf := xsj hf
        subst hf
        exact hm
theorem k_X12_state {l : Launch} {E : XD} {hb : Nat} {σ : XS} {r0 : Nat} {x1 : Int32} {x2 : Int32} {x : Int32 × XS} (h : f_X12_state σ r0 x1 x2 = some x) : XM l yX12_state cX12_state 3 (some .int) 4 96 E hb [.ref (hb + r0), .int x1, .int x2] σ (some (.int x.1)) x.2 := by
  refine xm_of (by decide) (Nat.le_of_ble_eq_true rfl) (m_X12_state h).le (fun G hG C hl hQ => ?_)
  obtain ⟨rfl, rfl, rfl, hN⟩ := hG
  exact s_X12_state_e C h hQ
noncomputable def f_X12_stiff_b41 (σ : XS) (r0 : Nat) (x1 : Int32) (x2 : Int32) : Int32 × Int32 × Int32 → Option ((Int32 × Int32 × Int32) ⊕ (Int32 × XS)) := fun a => match a with
  | (x3, x4, x5) => (xck σ r0 12).bind fun _ => (f_X12_states σ r0).bind fun v3 => if v3 ≤ x5 then ((if x3 = (100000 : Int32) then (some ((-100000 : Int32), σ)) else if x4 = (100000 : Int32) then (some ((-100000 : Int32), σ)) else some (x4 - x3, σ)).map .inr) else (f_X12_has x5 x1).bind fun v5 => (f_X12_has x5 x2).bind fun v7 => if v5 = v7 then ((xgR σ r0 12 33).bind fun z9 => (xaI σ 20 z9 x5).bind fun v11 => if x3 ≤ v11 then (some (.inl (x3, x4, x5 + (1 : Int32)))) else (xgR σ r0 12 33).bind fun z13 => (xaI σ 20 z13 x5).bind fun v15 => some (.inl (v15, x4, x5 + (1 : Int32)))) else (xgR σ r0 12 33).bind fun z9 => (xaI σ 20 z9 x5).bind fun v11 => if x4 ≤ v11 then (some (.inl (x3, x4, x5 + (1 : Int32)))) else (xgR σ r0 12 33).bind fun z13 => (xaI σ 20 z13 x5).bind fun v15 => some (.inl (x3, v15, x5 + (1 : Int32)))
noncomputable def f_X12_stiff (σ : XS) (r0 : Nat) (x1 : Int32) (x2 : Int32) : Option (Int32 × XS) := (xck σ r0 12).bind fun _ => (f_X12_isSite σ r0 x1).bind fun v3 => if v3 = 0 then (some ((-100000 : Int32), σ)) else (xck σ r0 12).bind fun _ => (f_X12_isSite σ r0 x2).bind fun v6 => if v6 = 0 then (some ((-100000 : Int32), σ)) else if x1 = x2 then (some ((-100000 : Int32), σ)) else (xck σ r0 12).bind fun _ => (f_X12_knows σ r0).bind fun σ9 => xloop (f_X12_stiff_b41 σ9 r0 x1 x2) ((100000 : Int32), (100000 : Int32), (0 : Int32))
theorem m_X12_stiff_l41 {σ : XS} {r0 : Nat} {x1 : Int32} {x2 : Int32} {a : Int32 × Int32 × Int32} {x : Int32 × XS} (hf : xloop (f_X12_stiff_b41 σ r0 x1 x2) a = some x) : xsame σ x.2 := by
  refine xloop_ind (P := fun a => xsame σ x.2) (fun a y hf hc he => ?_) hf
  obtain ⟨x3, x4, x5⟩ := a
  have hy : (∀ a' : Int32 × Int32 × Int32, y = .inl a' → True) ∧ (∀ b1 : Int32 × XS, y = .inr b1 → xsame σ b1.2) := by
    have hm := xsame.rf (σ := σ)
    obtain ⟨_, e1, hf⟩ := xbd hf
    obtain ⟨v3, e2, hf⟩ := xbd hf
    by_cases q : v3 ≤ x5
    · have hf := xip q hf
      obtain ⟨b0, hg, e9⟩ := xmj hf
      subst e9
      have hf := hg
      refine ⟨fun a' e => xnc2 e, fun b e => ?_⟩
      have h9 := Sum.inr.inj e
      subst h9
      by_cases q : x3 = (100000 : Int32)
      · have hf := xip q hf
        have hf := xsj hf
        subst hf
        exact hm
      · have hf := xin q hf
        by_cases q : x4 = (100000 : Int32)
        · have hf := xip q hf
          have hf := xsj hf
          subst hf
          exact hm
        · have hf := xin q hf
          have hf := xsj hf
          subst hf
          exact hm
    · have hf := xin q hf
      obtain ⟨v5, e4, hf⟩ := xbd hf
      obtain ⟨v7, e6, hf⟩ := xbd hf
      by_cases q : v5 = v7
      · have hf := xip q hf
        obtain ⟨z9, e8, hf⟩ := xbd hf
        obtain ⟨v11, e10, hf⟩ := xbd hf
        by_cases q : x3 ≤ v11
        · have hf := xip q hf
          have hf := xsj hf
          subst hf
          exact ⟨fun a' e => (by have h9 := Sum.inl.inj e; subst h9; exact trivial), fun b e => xnc1 e⟩
        · have hf := xin q hf
          obtain ⟨z13, e12, hf⟩ := xbd hf
          obtain ⟨v15, e14, hf⟩ := xbd hf
          have hf := xsj hf
          subst hf
          exact ⟨fun a' e => (by have h9 := Sum.inl.inj e; subst h9; exact trivial), fun b e => xnc1 e⟩
      · have hf := xin q hf
        obtain ⟨z9, e8, hf⟩ := xbd hf
        obtain ⟨v11, e10, hf⟩ := xbd hf
        by_cases q : x4 ≤ v11
        · have hf := xip q hf
          have hf := xsj hf
          subst hf
          exact ⟨fun a' e => (by have h9 := Sum.inl.inj e; subst h9; exact trivial), fun b e => xnc1 e⟩
        · have hf := xin q hf
          obtain ⟨z13, e12, hf⟩ := xbd hf
          obtain ⟨v15, e14, hf⟩ := xbd hf
          have hf := xsj hf
          subst hf
          exact ⟨fun a' e => (by have h9 := Sum.inl.inj e; subst h9; exact trivial), fun b e => xnc1 e⟩
  cases y with
  | inl a' =>
    have h1 := hc a' rfl
    exact h1
  | inr b =>
    have h1 := he b rfl
    subst h1
    exact hy.2 _ rfl
theorem s_X12_stiff_l41 {G : XG} (C : XC G cX12_stiff RX12 (some .int) 6 4 96) {σ : XS} {r0 : Nat} {x1 : Int32} {x2 : Int32} {a : Int32 × Int32 × Int32} {x : Int32 × XS} (hf : xloop (f_X12_stiff_b41 σ r0 x1 x2) a = some x) (hk : XEnd G (some (.int x.1)) x.2) : WW G 41 [(0, .ref (gB G + r0)), (1, .int x1), (2, .int x2), (3, .int a.1), (4, .int a.2.1), (5, .int a.2.2)] [] σ := by
  refine xloop_ind (P := fun a => WW G 41 [(0, .ref (gB G + r0)), (1, .int x1), (2, .int x2), (3, .int a.1), (4, .int a.2.1), (5, .int a.2.2)] [] σ) (fun a y hf hc he => ?_) hf
  obtain ⟨x3, x4, x5⟩ := a
  have hk : (∀ a' : Int32 × Int32 × Int32, y = .inl a' → WW G 41 [(0, .ref (gB G + r0)), (1, .int x1), (2, .int x2), (3, .int a'.1), (4, .int a'.2.1), (5, .int a'.2.2)] [] σ) ∧ (∀ b1 : Int32 × XS, y = .inr b1 → XEnd G (some (.int b1.1)) b1.2) := ⟨hc, fun b e => by have h9 := he b e; subst h9; exact hk⟩
  refine ww_iload (pc := 41) C 5 dX12_stiff_41 rfl ?_
  refine ww_aload_n (pc := 43) C 0 dX12_stiff_43 rfl ?_
  obtain ⟨_, e1, hf⟩ := xbd hf
  obtain ⟨v3, e2, hf⟩ := xbd hf
  refine ww_callVi (pc := 44) (as := []) (st := [.int x5]) C (k_X12_states (l := gl G) (E := gE G) (hb := gB G) (σ := σ) e2) rfl (by decide) xc_X12_270 q1555 qp141 (xck_spec e1) rfl (by decide) (xst4 (Nat.le_of_ble_eq_true rfl)) xsame.rf.le xsame.rf.lim dX12_stiff_44 ?_
  refine ww_icmp_ge (pc := 47) (tgt := 114) C dX12_stiff_47 (by decide) (fun q => ?_) (fun q => ?_)
  · have hf := xip q hf
    obtain ⟨b0, hg, e9⟩ := xmj hf
    subst e9
    have hf := hg
    have hk := hk.2 _ rfl
    refine ww_iload_n (pc := 114) C 3 dX12_stiff_114 rfl ?_
    refine ww_ldcw (pc := 115) C q1568 dX12_stiff_115 ?_
    refine ww_icmp_eq (pc := 118) (tgt := 129) C dX12_stiff_118 (by decide) (fun q => ?_) (fun q => ?_)
    · have hf := xip q hf
      refine ww_ldcw (pc := 129) C q1597 dX12_stiff_129 ?_
      refine ww_goto (pc := 132) (tgt := 139) C dX12_stiff_132 (by decide) ?_
      have hf := xsj hf
      subst hf
      exact ww_iret (pc := 139) C hk dX12_stiff_139
    · have hf := xin q hf
      refine ww_iload (pc := 121) C 4 dX12_stiff_121 rfl ?_
      refine ww_ldcw (pc := 123) C q1568 dX12_stiff_123 ?_
      refine ww_icmp_ne (pc := 126) (tgt := 135) C dX12_stiff_126 (by decide) (fun q => ?_) (fun q => ?_)
      · have hf := xin q hf
        refine ww_iload (pc := 135) C 4 dX12_stiff_135 rfl ?_
        refine ww_iload_n (pc := 137) C 3 dX12_stiff_137 rfl ?_
        refine ww_isub (pc := 138) C dX12_stiff_138 ?_
        have hf := xsj hf
        subst hf
        exact ww_iret (pc := 139) C hk dX12_stiff_139
      · have hf := xip q hf
        refine ww_ldcw (pc := 129) C q1597 dX12_stiff_129 ?_
        refine ww_goto (pc := 132) (tgt := 139) C dX12_stiff_132 (by decide) ?_
        have hf := xsj hf
        subst hf
        exact ww_iret (pc := 139) C hk dX12_stiff_139
  · have hf := xin q hf
    refine ww_iload (pc := 50) C 5 dX12_stiff_50 rfl ?_
    refine ww_iload_n (pc := 52) C 1 dX12_stiff_52 rfl ?_
    obtain ⟨v5, e4, hf⟩ := xbd hf
    refine ww_callSi (pc := 53) (as := [.int x5, .int x1]) (st := []) C (k_X12_has (l := gl G) (E := gE G) (hb := gB G) (σ := σ) e4) xc_X12_301 q1630 rfl (by decide) (xst4 (Nat.le_of_ble_eq_true rfl)) xsame.rf.le xsame.rf.lim dX12_stiff_53 ?_
    refine ww_iload (pc := 56) C 5 dX12_stiff_56 rfl ?_
    refine ww_iload_n (pc := 58) C 2 dX12_stiff_58 rfl ?_
    obtain ⟨v7, e6, hf⟩ := xbd hf
    refine ww_callSi (pc := 59) (as := [.int x5, .int x2]) (st := [.int v5]) C (k_X12_has (l := gl G) (E := gE G) (hb := gB G) (σ := σ) e6) xc_X12_301 q1630 rfl (by decide) (xst4 (Nat.le_of_ble_eq_true rfl)) xsame.rf.le xsame.rf.lim dX12_stiff_59 ?_
    refine ww_icmp_ne (pc := 62) (tgt := 87) C dX12_stiff_62 (by decide) (fun q => ?_) (fun q => ?_)
    · have hf := xin q hf
      refine ww_aload_n (pc := 87) C 0 dX12_stiff_87 rfl ?_
      obtain ⟨z9, e8, hf⟩ := xbd hf
      refine gf_X12_57 (pc := 88) C e8 dX12_stiff_88 ?_
      refine ww_iload (pc := 91) C 5 dX12_stiff_91 rfl ?_
      obtain ⟨v11, e10, hf⟩ := xbd hf
      refine ww_iald (pc := 93) C e10 dX12_stiff_93 ?_
      refine ww_iload (pc := 94) C 4 dX12_stiff_94 rfl ?_
      refine ww_icmp_ge (pc := 96) (tgt := 108) C dX12_stiff_96 (by decide) (fun q => ?_) (fun q => ?_)
      · have hf := xip q hf
        refine ww_iinc (pc := 108) (v := x5 + (1 : Int32)) (lv' := [(5, .int (x5 + (1 : Int32))), (0, .ref (gB G + r0)), (1, .int x1), (2, .int x2), (3, .int x3), (4, .int x4)]) C 5 dX12_stiff_108 rfl (congrArg (fun z => x5 + z) (show Int32.ofInt (1) = (1 : Int32) by decide)) (by decide) rfl ?_
        refine ww_goto (pc := 111) (tgt := 41) C dX12_stiff_111 (by decide) ?_
        have hf := xsj hf
        subst hf
        refine ww_sub [1, 2, 3, 4, 5, 0] rfl ?_
        exact hk.1 (x3, x4, x5 + (1 : Int32)) rfl
      · have hf := xin q hf
        refine ww_aload_n (pc := 99) C 0 dX12_stiff_99 rfl ?_
        obtain ⟨z13, e12, hf⟩ := xbd hf
        refine gf_X12_57 (pc := 100) C e12 dX12_stiff_100 ?_
        refine ww_iload (pc := 103) C 5 dX12_stiff_103 rfl ?_
        obtain ⟨v15, e14, hf⟩ := xbd hf
        refine ww_iald (pc := 105) C e14 dX12_stiff_105 ?_
        refine ww_istore (pc := 106) (lv' := [(4, .int v15), (0, .ref (gB G + r0)), (1, .int x1), (2, .int x2), (3, .int x3), (5, .int x5)]) C dX12_stiff_106 (by decide) rfl ?_
        refine ww_iinc (pc := 108) (v := x5 + (1 : Int32)) (lv' := [(5, .int (x5 + (1 : Int32))), (4, .int v15), (0, .ref (gB G + r0)), (1, .int x1), (2, .int x2), (3, .int x3)]) C 5 dX12_stiff_108 rfl (congrArg (fun z => x5 + z) (show Int32.ofInt (1) = (1 : Int32) by decide)) (by decide) rfl ?_
        refine ww_goto (pc := 111) (tgt := 41) C dX12_stiff_111 (by decide) ?_
        have hf := xsj hf
        subst hf
        refine ww_sub [2, 3, 4, 5, 1, 0] rfl ?_
        exact hk.1 (x3, v15, x5 + (1 : Int32)) rfl
    · have hf := xip q hf
      refine ww_aload_n (pc := 65) C 0 dX12_stiff_65 rfl ?_
      obtain ⟨z9, e8, hf⟩ := xbd hf
      refine gf_X12_57 (pc := 66) C e8 dX12_stiff_66 ?_
      refine ww_iload (pc := 69) C 5 dX12_stiff_69 rfl ?_
      obtain ⟨v11, e10, hf⟩ := xbd hf
      refine ww_iald (pc := 71) C e10 dX12_stiff_71 ?_
      refine ww_iload_n (pc := 72) C 3 dX12_stiff_72 rfl ?_
      refine ww_icmp_ge (pc := 73) (tgt := 108) C dX12_stiff_73 (by decide) (fun q => ?_) (fun q => ?_)
      · have hf := xip q hf
        refine ww_iinc (pc := 108) (v := x5 + (1 : Int32)) (lv' := [(5, .int (x5 + (1 : Int32))), (0, .ref (gB G + r0)), (1, .int x1), (2, .int x2), (3, .int x3), (4, .int x4)]) C 5 dX12_stiff_108 rfl (congrArg (fun z => x5 + z) (show Int32.ofInt (1) = (1 : Int32) by decide)) (by decide) rfl ?_
        refine ww_goto (pc := 111) (tgt := 41) C dX12_stiff_111 (by decide) ?_
        have hf := xsj hf
        subst hf
        refine ww_sub [1, 2, 3, 4, 5, 0] rfl ?_
        exact hk.1 (x3, x4, x5 + (1 : Int32)) rfl
      · have hf := xin q hf
        refine ww_aload_n (pc := 76) C 0 dX12_stiff_76 rfl ?_
        obtain ⟨z13, e12, hf⟩ := xbd hf
        refine gf_X12_57 (pc := 77) C e12 dX12_stiff_77 ?_
        refine ww_iload (pc := 80) C 5 dX12_stiff_80 rfl ?_
        obtain ⟨v15, e14, hf⟩ := xbd hf
        refine ww_iald (pc := 82) C e14 dX12_stiff_82 ?_
        refine ww_istore_n (pc := 83) (lv' := [(3, .int v15), (0, .ref (gB G + r0)), (1, .int x1), (2, .int x2), (4, .int x4), (5, .int x5)]) C dX12_stiff_83 (by decide) rfl ?_
        refine ww_goto (pc := 84) (tgt := 108) C dX12_stiff_84 (by decide) ?_
        refine ww_iinc (pc := 108) (v := x5 + (1 : Int32)) (lv' := [(5, .int (x5 + (1 : Int32))), (3, .int v15), (0, .ref (gB G + r0)), (1, .int x1), (2, .int x2), (4, .int x4)]) C 5 dX12_stiff_108 rfl (congrArg (fun z => x5 + z) (show Int32.ofInt (1) = (1 : Int32) by decide)) (by decide) rfl ?_
        refine ww_goto (pc := 111) (tgt := 41) C dX12_stiff_111 (by decide) ?_
        have hf := xsj hf
        subst hf
        refine ww_sub [2, 3, 4, 1, 5, 0] rfl ?_
        exact hk.1 (v15, x4, x5 + (1 : Int32)) rfl
theorem s_X12_stiff_e {G : XG} (C : XC G cX12_stiff RX12 (some .int) 6 4 96) {σ : XS} {r0 : Nat} {x1 : Int32} {x2 : Int32} {x : Int32 × XS} (hf : f_X12_stiff σ r0 x1 x2 = some x) (hk : XEnd G (some (.int x.1)) x.2) : WW G 0 [(0, .ref (gB G + r0)), (1, .int x1), (2, .int x2)] [] σ := by
  refine ww_aload_n (pc := 0) C 0 dX12_stiff_0 rfl ?_
  refine ww_iload_n (pc := 1) C 1 dX12_stiff_1 rfl ?_
  obtain ⟨_, e1, hf⟩ := xbd hf
  obtain ⟨v3, e2, hf⟩ := xbd hf
  refine ww_callVi (pc := 2) (as := [.int x1]) (st := []) C (k_X12_isSite (l := gl G) (E := gE G) (hb := gB G) (σ := σ) e2) rfl (by decide) xc_X12_233 q1508 qp137 (xck_spec e1) rfl (by decide) (xst4 (Nat.le_of_ble_eq_true rfl)) xsame.rf.le xsame.rf.lim dX12_stiff_2 ?_
  refine ww_if_eq (pc := 5) (tgt := 21) C dX12_stiff_5 (by decide) (fun q => ?_) (fun q => ?_)
  · have hf := xip q hf
    refine ww_ldcw (pc := 21) C q1597 dX12_stiff_21 ?_
    have hf := xsj hf
    subst hf
    exact ww_iret (pc := 24) C hk dX12_stiff_24
  · have hf := xin q hf
    refine ww_aload_n (pc := 8) C 0 dX12_stiff_8 rfl ?_
    refine ww_iload_n (pc := 9) C 2 dX12_stiff_9 rfl ?_
    obtain ⟨_, e4, hf⟩ := xbd hf
    obtain ⟨v6, e5, hf⟩ := xbd hf
    refine ww_callVi (pc := 10) (as := [.int x2]) (st := []) C (k_X12_isSite (l := gl G) (E := gE G) (hb := gB G) (σ := σ) e5) rfl (by decide) xc_X12_233 q1508 qp137 (xck_spec e4) rfl (by decide) (xst4 (Nat.le_of_ble_eq_true rfl)) xsame.rf.le xsame.rf.lim dX12_stiff_10 ?_
    refine ww_if_eq (pc := 13) (tgt := 21) C dX12_stiff_13 (by decide) (fun q => ?_) (fun q => ?_)
    · have hf := xip q hf
      refine ww_ldcw (pc := 21) C q1597 dX12_stiff_21 ?_
      have hf := xsj hf
      subst hf
      exact ww_iret (pc := 24) C hk dX12_stiff_24
    · have hf := xin q hf
      refine ww_iload_n (pc := 16) C 1 dX12_stiff_16 rfl ?_
      refine ww_iload_n (pc := 17) C 2 dX12_stiff_17 rfl ?_
      refine ww_icmp_ne (pc := 18) (tgt := 25) C dX12_stiff_18 (by decide) (fun q => ?_) (fun q => ?_)
      · have hf := xin q hf
        refine ww_aload_n (pc := 25) C 0 dX12_stiff_25 rfl ?_
        obtain ⟨_, e7, hf⟩ := xbd hf
        obtain ⟨σ9, e8, hf⟩ := xbd hf
        refine ww_callVv (pc := 26) (as := []) (st := []) C (k_X12_knows (l := gl G) (E := gE G) (hb := gB G) (σ := σ) e8) rfl (by decide) xc_X12_261 q1551 qp140 (xck_spec e7) rfl (by decide) (xst4 (Nat.le_of_ble_eq_true rfl)) (m_X12_knows e8).le (m_X12_knows e8).lim dX12_stiff_26 ?_
        refine ww_ldcw (pc := 29) C q1568 dX12_stiff_29 ?_
        refine ww_istore_n (pc := 32) (lv' := [(3, .int (100000 : Int32)), (0, .ref (gB G + r0)), (1, .int x1), (2, .int x2)]) C dX12_stiff_32 (by decide) rfl ?_
        refine ww_ldcw (pc := 33) C q1568 dX12_stiff_33 ?_
        refine ww_istore (pc := 36) (lv' := [(4, .int (100000 : Int32)), (3, .int (100000 : Int32)), (0, .ref (gB G + r0)), (1, .int x1), (2, .int x2)]) C dX12_stiff_36 (by decide) rfl ?_
        refine ww_iconst (pc := 38) (v := (0 : Int32)) C dX12_stiff_38 (by decide) ?_
        refine ww_istore (pc := 39) (lv' := [(5, .int (0 : Int32)), (4, .int (100000 : Int32)), (3, .int (100000 : Int32)), (0, .ref (gB G + r0)), (1, .int x1), (2, .int x2)]) C dX12_stiff_39 (by decide) rfl ?_
        refine ww_sub [3, 4, 5, 2, 1, 0] rfl ?_
        exact s_X12_stiff_l41 C (a := ((100000 : Int32), (100000 : Int32), (0 : Int32))) hf hk
      · have hf := xip q hf
        refine ww_ldcw (pc := 21) C q1597 dX12_stiff_21 ?_
        have hf := xsj hf
        subst hf
        exact ww_iret (pc := 24) C hk dX12_stiff_24
theorem m_X12_stiff {σ : XS} {r0 : Nat} {x1 : Int32} {x2 : Int32} {x : Int32 × XS} (hf : f_X12_stiff σ r0 x1 x2 = some x) : xsame σ x.2 := by
  have hm := xsame.rf (σ := σ)
  obtain ⟨_, e1, hf⟩ := xbd hf
  obtain ⟨v3, e2, hf⟩ := xbd hf
  by_cases q : v3 = 0
  · have hf := xip q hf
    have hf := xsj hf
    subst hf
    exact hm
  · have hf := xin q hf
    obtain ⟨_, e4, hf⟩ := xbd hf
    obtain ⟨v6, e5, hf⟩ := xbd hf
    by_cases q : v6 = 0
    · have hf := xip q hf
      have hf := xsj hf
      subst hf
      exact hm
    · have hf := xin q hf
      by_cases q : x1 = x2
      · have hf := xip q hf
        have hf := xsj hf
        subst hf
        exact hm
      · have hf := xin q hf
        obtain ⟨_, e7, hf⟩ := xbd hf
        obtain ⟨σ9, e8, hf⟩ := xbd hf
        have hm := hm.tr (m_X12_knows e8)
        exact hm.tr (m_X12_stiff_l41 (a := ((100000 : Int32), (100000 : Int32), (0 : Int32))) hf)
theorem k_X12_stiff {l : Launch} {E : XD} {hb : Nat} {σ : XS} {r0 : Nat} {x1 : Int32} {x2 : Int32} {x : Int32 × XS} (h : f_X12_stiff σ r0 x1 x2 = some x) : XM l yX12_stiff cX12_stiff 6 (some .int) 4 96 E hb [.ref (hb + r0), .int x1, .int x2] σ (some (.int x.1)) x.2 := by
  refine xm_of (by decide) (Nat.le_of_ble_eq_true rfl) (m_X12_stiff h).le (fun G hG C hl hQ => ?_)
  obtain ⟨rfl, rfl, rfl, hN⟩ := hG
  exact s_X12_stiff_e C h hQ
noncomputable def f_X12_stuck_j47 (σ : XS) (r0 : Nat) (x1 : Int32) (x2 : Int32) (x3 : Int32) : Option ((Int32 × Int32) ⊕ (Int32 × XS)) := (xck σ r0 12).bind fun _ => (f_X12_steepest σ r0 x3).bind fun v3 => if 0 ≤ v3 then (some (.inl (x2, x3 + (1 : Int32)))) else some (.inl (x2 + (1 : Int32), x3 + (1 : Int32)))
noncomputable def f_X12_stuck_b8 (σ : XS) (r0 : Nat) (x1 : Int32) : Int32 × Int32 → Option ((Int32 × Int32) ⊕ (Int32 × XS)) := fun a => match a with
  | (x2, x3) => (xck σ r0 12).bind fun _ => (f_X12_states σ r0).bind fun v3 => if v3 ≤ x3 then ((some (x2, σ)).map .inr) else (xgR σ r0 12 33).bind fun z5 => (xaI σ 20 z5 x3).bind fun v7 => if (100000 : Int32) ≤ v7 then (some (.inl (x2, x3 + (1 : Int32)))) else if x1 = 0 then (f_X12_stuck_j47 σ r0 x1 x2 x3) else (xgR σ r0 12 33).bind fun z9 => (xaI σ 20 z9 x3).bind fun v11 => (xgR σ r0 12 36).bind fun z13 => (xaI σ 20 z13 (0 : Int32)).bind fun v15 => if v11 ≤ v15 then (some (.inl (x2, x3 + (1 : Int32)))) else f_X12_stuck_j47 σ r0 x1 x2 x3
noncomputable def f_X12_stuck (σ : XS) (r0 : Nat) (x1 : Int32) : Option (Int32 × XS) := (xck σ r0 12).bind fun _ => (f_X12_knows σ r0).bind fun σ3 => xloop (f_X12_stuck_b8 σ3 r0 x1) ((0 : Int32), (0 : Int32))
theorem s_X12_stuck_j47 {G : XG} (C : XC G cX12_stuck RX12 (some .int) 4 4 96) {σ : XS} {r0 : Nat} {x1 : Int32} {x2 : Int32} {x3 : Int32} {x : ((Int32 × Int32) ⊕ (Int32 × XS))} (hf : f_X12_stuck_j47 σ r0 x1 x2 x3 = some x) (hk : (∀ a' : Int32 × Int32, x = .inl a' → WW G 8 [(0, .ref (gB G + r0)), (1, .int x1), (2, .int a'.1), (3, .int a'.2)] [] σ) ∧ (∀ b1 : Int32 × XS, x = .inr b1 → XEnd G (some (.int b1.1)) b1.2)) : WW G 47 [(0, .ref (gB G + r0)), (1, .int x1), (2, .int x2), (3, .int x3)] [] σ := by
  refine ww_aload_n (pc := 47) C 0 dX12_stuck_47 rfl ?_
  refine ww_iload_n (pc := 48) C 3 dX12_stuck_48 rfl ?_
  obtain ⟨_, e1, hf⟩ := xbd hf
  obtain ⟨v3, e2, hf⟩ := xbd hf
  refine ww_callVi (pc := 49) (as := [.int x3]) (st := []) C (k_X12_steepest (l := gl G) (E := gE G) (hb := gB G) (σ := σ) e2) rfl (by decide) xc_X12_321 q1575 qp145 (xck_spec e1) rfl (by decide) (xst4 (Nat.le_of_ble_eq_true rfl)) xsame.rf.le xsame.rf.lim dX12_stuck_49 ?_
  refine ww_if_ge (pc := 52) (tgt := 58) C dX12_stuck_52 (by decide) (fun q => ?_) (fun q => ?_)
  · have hf := xip q hf
    refine ww_iinc (pc := 58) (v := x3 + (1 : Int32)) (lv' := [(3, .int (x3 + (1 : Int32))), (0, .ref (gB G + r0)), (1, .int x1), (2, .int x2)]) C 3 dX12_stuck_58 rfl (congrArg (fun z => x3 + z) (show Int32.ofInt (1) = (1 : Int32) by decide)) (by decide) rfl ?_
    refine ww_goto (pc := 61) (tgt := 8) C dX12_stuck_61 (by decide) ?_
    have hf := xsj hf
    subst hf
    refine ww_sub [1, 2, 3, 0] rfl ?_
    exact hk.1 (x2, x3 + (1 : Int32)) rfl
  · have hf := xin q hf
    refine ww_iinc (pc := 55) (v := x2 + (1 : Int32)) (lv' := [(2, .int (x2 + (1 : Int32))), (0, .ref (gB G + r0)), (1, .int x1), (3, .int x3)]) C 2 dX12_stuck_55 rfl (congrArg (fun z => x2 + z) (show Int32.ofInt (1) = (1 : Int32) by decide)) (by decide) rfl ?_
    refine ww_iinc (pc := 58) (v := x3 + (1 : Int32)) (lv' := [(3, .int (x3 + (1 : Int32))), (2, .int (x2 + (1 : Int32))), (0, .ref (gB G + r0)), (1, .int x1)]) C 3 dX12_stuck_58 rfl (congrArg (fun z => x3 + z) (show Int32.ofInt (1) = (1 : Int32) by decide)) (by decide) rfl ?_
    refine ww_goto (pc := 61) (tgt := 8) C dX12_stuck_61 (by decide) ?_
    have hf := xsj hf
    subst hf
    refine ww_sub [2, 3, 1, 0] rfl ?_
    exact hk.1 (x2 + (1 : Int32), x3 + (1 : Int32)) rfl
theorem m_X12_stuck_j47 {σ : XS} {r0 : Nat} {x1 : Int32} {x2 : Int32} {x3 : Int32} {x : ((Int32 × Int32) ⊕ (Int32 × XS))} (hf : f_X12_stuck_j47 σ r0 x1 x2 x3 = some x) : (∀ a' : Int32 × Int32, x = .inl a' → True) ∧ (∀ b1 : Int32 × XS, x = .inr b1 → xsame σ b1.2) := by
  have hm := xsame.rf (σ := σ)
  obtain ⟨_, e1, hf⟩ := xbd hf
  obtain ⟨v3, e2, hf⟩ := xbd hf
  by_cases q : 0 ≤ v3
  · have hf := xip q hf
    have hf := xsj hf
    subst hf
    exact ⟨fun a' e => (by have h9 := Sum.inl.inj e; subst h9; exact trivial), fun b e => xnc1 e⟩
  · have hf := xin q hf
    have hf := xsj hf
    subst hf
    exact ⟨fun a' e => (by have h9 := Sum.inl.inj e; subst h9; exact trivial), fun b e => xnc1 e⟩
theorem m_X12_stuck_l8 {σ : XS} {r0 : Nat} {x1 : Int32} {a : Int32 × Int32} {x : Int32 × XS} (hf : xloop (f_X12_stuck_b8 σ r0 x1) a = some x) : xsame σ x.2 := by
  refine xloop_ind (P := fun a => xsame σ x.2) (fun a y hf hc he => ?_) hf
  obtain ⟨x2, x3⟩ := a
  have hy : (∀ a' : Int32 × Int32, y = .inl a' → True) ∧ (∀ b1 : Int32 × XS, y = .inr b1 → xsame σ b1.2) := by
    have hm := xsame.rf (σ := σ)
    obtain ⟨_, e1, hf⟩ := xbd hf
    obtain ⟨v3, e2, hf⟩ := xbd hf
    by_cases q : v3 ≤ x3
    · have hf := xip q hf
      obtain ⟨b0, hg, e9⟩ := xmj hf
      subst e9
      have hf := hg
      refine ⟨fun a' e => xnc2 e, fun b e => ?_⟩
      have h9 := Sum.inr.inj e
      subst h9
      have hf := xsj hf
      subst hf
      exact hm
    · have hf := xin q hf
      obtain ⟨z5, e4, hf⟩ := xbd hf
      obtain ⟨v7, e6, hf⟩ := xbd hf
      by_cases q : (100000 : Int32) ≤ v7
      · have hf := xip q hf
        have hf := xsj hf
        subst hf
        exact ⟨fun a' e => (by have h9 := Sum.inl.inj e; subst h9; exact trivial), fun b e => xnc1 e⟩
      · have hf := xin q hf
        by_cases q : x1 = 0
        · have hf := xip q hf
          exact ⟨fun _ _ => trivial, fun b1 eb1 => hm.tr ((m_X12_stuck_j47 hf).2 b1 eb1)⟩
        · have hf := xin q hf
          obtain ⟨z9, e8, hf⟩ := xbd hf
          obtain ⟨v11, e10, hf⟩ := xbd hf
          obtain ⟨z13, e12, hf⟩ := xbd hf
          obtain ⟨v15, e14, hf⟩ := xbd hf
          by_cases q : v11 ≤ v15
          · have hf := xip q hf
            have hf := xsj hf
            subst hf
            exact ⟨fun a' e => (by have h9 := Sum.inl.inj e; subst h9; exact trivial), fun b e => xnc1 e⟩
          · have hf := xin q hf
            exact ⟨fun _ _ => trivial, fun b1 eb1 => hm.tr ((m_X12_stuck_j47 hf).2 b1 eb1)⟩
  cases y with
  | inl a' =>
    have h1 := hc a' rfl
    exact h1
  | inr b =>
    have h1 := he b rfl
    subst h1
    exact hy.2 _ rfl
theorem s_X12_stuck_l8 {G : XG} (C : XC G cX12_stuck RX12 (some .int) 4 4 96) {σ : XS} {r0 : Nat} {x1 : Int32} {a : Int32 × Int32} {x : Int32 × XS} (hf : xloop (f_X12_stuck_b8 σ r0 x1) a = some x) (hk : XEnd G (some (.int x.1)) x.2) : WW G 8 [(0, .ref (gB G + r0)), (1, .int x1), (2, .int a.1), (3, .int a.2)] [] σ := by
  refine xloop_ind (P := fun a => WW G 8 [(0, .ref (gB G + r0)), (1, .int x1), (2, .int a.1), (3, .int a.2)] [] σ) (fun a y hf hc he => ?_) hf
  obtain ⟨x2, x3⟩ := a
  have hk : (∀ a' : Int32 × Int32, y = .inl a' → WW G 8 [(0, .ref (gB G + r0)), (1, .int x1), (2, .int a'.1), (3, .int a'.2)] [] σ) ∧ (∀ b1 : Int32 × XS, y = .inr b1 → XEnd G (some (.int b1.1)) b1.2) := ⟨hc, fun b e => by have h9 := he b e; subst h9; exact hk⟩
  refine ww_iload_n (pc := 8) C 3 dX12_stuck_8 rfl ?_
  refine ww_aload_n (pc := 9) C 0 dX12_stuck_9 rfl ?_
  obtain ⟨_, e1, hf⟩ := xbd hf
  obtain ⟨v3, e2, hf⟩ := xbd hf
  refine ww_callVi (pc := 10) (as := []) (st := [.int x3]) C (k_X12_states (l := gl G) (E := gE G) (hb := gB G) (σ := σ) e2) rfl (by decide) xc_X12_270 q1555 qp141 (xck_spec e1) rfl (by decide) (xst4 (Nat.le_of_ble_eq_true rfl)) xsame.rf.le xsame.rf.lim dX12_stuck_10 ?_
  refine ww_icmp_ge (pc := 13) (tgt := 64) C dX12_stuck_13 (by decide) (fun q => ?_) (fun q => ?_)
  · have hf := xip q hf
    obtain ⟨b0, hg, e9⟩ := xmj hf
    subst e9
    have hf := hg
    have hk := hk.2 _ rfl
    refine ww_iload_n (pc := 64) C 2 dX12_stuck_64 rfl ?_
    have hf := xsj hf
    subst hf
    exact ww_iret (pc := 65) C hk dX12_stuck_65
  · have hf := xin q hf
    refine ww_aload_n (pc := 16) C 0 dX12_stuck_16 rfl ?_
    obtain ⟨z5, e4, hf⟩ := xbd hf
    refine gf_X12_57 (pc := 17) C e4 dX12_stuck_17 ?_
    refine ww_iload_n (pc := 20) C 3 dX12_stuck_20 rfl ?_
    obtain ⟨v7, e6, hf⟩ := xbd hf
    refine ww_iald (pc := 21) C e6 dX12_stuck_21 ?_
    refine ww_ldcw (pc := 22) C q1568 dX12_stuck_22 ?_
    refine ww_icmp_ge (pc := 25) (tgt := 58) C dX12_stuck_25 (by decide) (fun q => ?_) (fun q => ?_)
    · have hf := xip q hf
      refine ww_iinc (pc := 58) (v := x3 + (1 : Int32)) (lv' := [(3, .int (x3 + (1 : Int32))), (0, .ref (gB G + r0)), (1, .int x1), (2, .int x2)]) C 3 dX12_stuck_58 rfl (congrArg (fun z => x3 + z) (show Int32.ofInt (1) = (1 : Int32) by decide)) (by decide) rfl ?_
      refine ww_goto (pc := 61) (tgt := 8) C dX12_stuck_61 (by decide) ?_
      have hf := xsj hf
      subst hf
      refine ww_sub [1, 2, 3, 0] rfl ?_
      exact hk.1 (x2, x3 + (1 : Int32)) rfl
    · have hf := xin q hf
      refine ww_iload_n (pc := 28) C 1 dX12_stuck_28 rfl ?_
      refine ww_if_eq (pc := 29) (tgt := 47) C dX12_stuck_29 (by decide) (fun q => ?_) (fun q => ?_)
      · have hf := xip q hf
        refine ww_sub [0, 1, 2, 3] rfl ?_
        exact s_X12_stuck_j47 C hf hk
      · have hf := xin q hf
        refine ww_aload_n (pc := 32) C 0 dX12_stuck_32 rfl ?_
        obtain ⟨z9, e8, hf⟩ := xbd hf
        refine gf_X12_57 (pc := 33) C e8 dX12_stuck_33 ?_
        refine ww_iload_n (pc := 36) C 3 dX12_stuck_36 rfl ?_
        obtain ⟨v11, e10, hf⟩ := xbd hf
        refine ww_iald (pc := 37) C e10 dX12_stuck_37 ?_
        refine ww_aload_n (pc := 38) C 0 dX12_stuck_38 rfl ?_
        obtain ⟨z13, e12, hf⟩ := xbd hf
        refine gf_X12_63 (pc := 39) C e12 dX12_stuck_39 ?_
        refine ww_iconst (pc := 42) (v := (0 : Int32)) C dX12_stuck_42 (by decide) ?_
        obtain ⟨v15, e14, hf⟩ := xbd hf
        refine ww_iald (pc := 43) C e14 dX12_stuck_43 ?_
        refine ww_icmp_le (pc := 44) (tgt := 58) C dX12_stuck_44 (by decide) (fun q => ?_) (fun q => ?_)
        · have hf := xip q hf
          refine ww_iinc (pc := 58) (v := x3 + (1 : Int32)) (lv' := [(3, .int (x3 + (1 : Int32))), (0, .ref (gB G + r0)), (1, .int x1), (2, .int x2)]) C 3 dX12_stuck_58 rfl (congrArg (fun z => x3 + z) (show Int32.ofInt (1) = (1 : Int32) by decide)) (by decide) rfl ?_
          refine ww_goto (pc := 61) (tgt := 8) C dX12_stuck_61 (by decide) ?_
          have hf := xsj hf
          subst hf
          refine ww_sub [1, 2, 3, 0] rfl ?_
          exact hk.1 (x2, x3 + (1 : Int32)) rfl
        · have hf := xin q hf
          refine ww_sub [0, 1, 2, 3] rfl ?_
          exact s_X12_stuck_j47 C hf hk
theorem s_X12_stuck_e {G : XG} (C : XC G cX12_stuck RX12 (some .int) 4 4 96) {σ : XS} {r0 : Nat} {x1 : Int32} {x : Int32 × XS} (hf : f_X12_stuck σ r0 x1 = some x) (hk : XEnd G (some (.int x.1)) x.2) : WW G 0 [(0, .ref (gB G + r0)), (1, .int x1)] [] σ := by
  refine ww_aload_n (pc := 0) C 0 dX12_stuck_0 rfl ?_
  obtain ⟨_, e1, hf⟩ := xbd hf
  obtain ⟨σ3, e2, hf⟩ := xbd hf
  refine ww_callVv (pc := 1) (as := []) (st := []) C (k_X12_knows (l := gl G) (E := gE G) (hb := gB G) (σ := σ) e2) rfl (by decide) xc_X12_261 q1551 qp140 (xck_spec e1) rfl (by decide) (xst4 (Nat.le_of_ble_eq_true rfl)) (m_X12_knows e2).le (m_X12_knows e2).lim dX12_stuck_1 ?_
  refine ww_iconst (pc := 4) (v := (0 : Int32)) C dX12_stuck_4 (by decide) ?_
  refine ww_istore_n (pc := 5) (lv' := [(2, .int (0 : Int32)), (0, .ref (gB G + r0)), (1, .int x1)]) C dX12_stuck_5 (by decide) rfl ?_
  refine ww_iconst (pc := 6) (v := (0 : Int32)) C dX12_stuck_6 (by decide) ?_
  refine ww_istore_n (pc := 7) (lv' := [(3, .int (0 : Int32)), (2, .int (0 : Int32)), (0, .ref (gB G + r0)), (1, .int x1)]) C dX12_stuck_7 (by decide) rfl ?_
  refine ww_sub [2, 3, 1, 0] rfl ?_
  exact s_X12_stuck_l8 C (a := ((0 : Int32), (0 : Int32))) hf hk
theorem m_X12_stuck {σ : XS} {r0 : Nat} {x1 : Int32} {x : Int32 × XS} (hf : f_X12_stuck σ r0 x1 = some x) : xsame σ x.2 := by
  have hm := xsame.rf (σ := σ)
  obtain ⟨_, e1, hf⟩ := xbd hf
  obtain ⟨σ3, e2, hf⟩ := xbd hf
  have hm := hm.tr (m_X12_knows e2)
  exact hm.tr (m_X12_stuck_l8 (a := ((0 : Int32), (0 : Int32))) hf)
theorem k_X12_stuck {l : Launch} {E : XD} {hb : Nat} {σ : XS} {r0 : Nat} {x1 : Int32} {x : Int32 × XS} (h : f_X12_stuck σ r0 x1 = some x) : XM l yX12_stuck cX12_stuck 4 (some .int) 4 96 E hb [.ref (hb + r0), .int x1] σ (some (.int x.1)) x.2 := by
  refine xm_of (by decide) (Nat.le_of_ble_eq_true rfl) (m_X12_stuck h).le (fun G hG C hl hQ => ?_)
  obtain ⟨rfl, rfl, rfl, hN⟩ := hG
  exact s_X12_stuck_e C h hQ
noncomputable def f_X12_tie_j60 (σ : XS) (r0 : Nat) (x1 : Int32) (x3 : Int32) (t0 : Nat) (t1 : Int32) : Option (Int32 × XS) := (xsI σ 20 t0 (t1 + x1) x3).bind fun σ2 => (xpI σ2 r0 12 32 (0 : Int32)).bind fun σ4 => some ((1 : Int32), σ4)
noncomputable def f_X12_tie (σ : XS) (r0 : Nat) (x1 : Int32) (x2 : Int32) (x3 : Int32) : Option (Int32 × XS) := (xck σ r0 12).bind fun _ => (f_X12_isSite σ r0 x1).bind fun v3 => if v3 = 0 then (some ((0 : Int32), σ)) else (f_X12_in x3 (-3 : Int32) (3 : Int32)).bind fun v5 => if v5 = 0 then (some ((0 : Int32), σ)) else (xck σ r0 12).bind fun _ => (f_X12_tieTo σ r0 x1 x2).bind fun v8 => if v8 < 0 then (some ((0 : Int32), σ)) else (xgR σ r0 12 21).bind fun z10 => (f_X12_jOf σ z10 x1 x2).bind fun v12 => if v12 = x3 then (some ((0 : Int32), σ)) else (xck σ r0 12).bind fun _ => (f_X12_marks σ r0).bind fun σ15 => (xgR σ15 r0 12 21).bind fun z17 => if x2 = 0 then (f_X12_tie_j60 σ15 r0 x1 x3 z17 (0 : Int32)) else f_X12_tie_j60 σ15 r0 x1 x3 z17 (16 : Int32)
theorem s_X12_tie_j60 {G : XG} (C : XC G cX12_tie RX12 (some .boolean) 4 2 48) {σ : XS} {r0 : Nat} {x1 : Int32} {x3 : Int32} {t0 : Nat} {t1 : Int32} {x : Int32 × XS} (hf : f_X12_tie_j60 σ r0 x1 x3 t0 t1 = some x) (hk : XEnd G (some (.int x.1)) x.2) : WW G 60 [(0, .ref (gB G + r0)), (1, .int x1), (3, .int x3)] [.int t1, .ref (gB G + t0)] σ := by
  refine ww_iload_n (pc := 60) C 1 dX12_tie_60 rfl ?_
  refine ww_iadd (pc := 61) C dX12_tie_61 ?_
  refine ww_iload_n (pc := 62) C 2 dX12_tie_62 rfl ?_
  obtain ⟨σ2, e1, hf⟩ := xbd hf
  refine ww_iast (pc := 63) C e1 dX12_tie_63 ?_
  refine ww_aload_n (pc := 64) C 0 dX12_tie_64 rfl ?_
  refine ww_iconst (pc := 65) (v := (0 : Int32)) C dX12_tie_65 (by decide) ?_
  obtain ⟨σ4, e3, hf⟩ := xbd hf
  refine pf_X12_200 (pc := 66) C (Or.inl rfl) e3 dX12_tie_66 ?_
  refine ww_iconst (pc := 69) (v := (1 : Int32)) C dX12_tie_69 (by decide) ?_
  have hf := xsj hf
  subst hf
  exact ww_zret (pc := 70) C rfl hk dX12_tie_70
theorem m_X12_tie_j60 {σ : XS} {r0 : Nat} {x1 : Int32} {x3 : Int32} {t0 : Nat} {t1 : Int32} {x : Int32 × XS} (hf : f_X12_tie_j60 σ r0 x1 x3 t0 t1 = some x) : xsame σ x.2 := by
  have hm := xsame.rf (σ := σ)
  obtain ⟨σ2, e1, hf⟩ := xbd hf
  have hm := hm.tr (xsI_same e1)
  obtain ⟨σ4, e3, hf⟩ := xbd hf
  have hm := hm.tr (xpI_same e3)
  have hf := xsj hf
  subst hf
  exact hm
theorem s_X12_tie_e {G : XG} (C : XC G cX12_tie RX12 (some .boolean) 4 2 48) {σ : XS} {r0 : Nat} {x1 : Int32} {x2 : Int32} {x3 : Int32} {x : Int32 × XS} (hf : f_X12_tie σ r0 x1 x2 x3 = some x) (hk : XEnd G (some (.int x.1)) x.2) : WW G 0 [(0, .ref (gB G + r0)), (1, .int x1), (2, .int x2), (3, .int x3)] [] σ := by
  refine ww_aload_n (pc := 0) C 0 dX12_tie_0 rfl ?_
  refine ww_iload_n (pc := 1) C 1 dX12_tie_1 rfl ?_
  obtain ⟨_, e1, hf⟩ := xbd hf
  obtain ⟨v3, e2, hf⟩ := xbd hf
  refine ww_callVi (pc := 2) (as := [.int x1]) (st := []) C (k_X12_isSite (l := gl G) (E := gE G) (hb := gB G) (σ := σ) e2) rfl (by decide) xc_X12_233 q1508 qp137 (xck_spec e1) rfl (by decide) (xst4 (Nat.le_of_ble_eq_true rfl)) xsame.rf.le xsame.rf.lim dX12_tie_2 ?_
  refine ww_if_eq (pc := 5) (tgt := 40) C dX12_tie_5 (by decide) (fun q => ?_) (fun q => ?_)
  · have hf := xip q hf
    refine ww_iconst (pc := 40) (v := (0 : Int32)) C dX12_tie_40 (by decide) ?_
    have hf := xsj hf
    subst hf
    exact ww_zret (pc := 41) C rfl hk dX12_tie_41
  · have hf := xin q hf
    refine ww_iload_n (pc := 8) C 3 dX12_tie_8 rfl ?_
    refine ww_bipush (pc := 9) (v := (-3 : Int32)) C dX12_tie_9 (by decide) ?_
    refine ww_iconst (pc := 11) (v := (3 : Int32)) C dX12_tie_11 (by decide) ?_
    obtain ⟨v5, e4, hf⟩ := xbd hf
    refine ww_callSi (pc := 12) (as := [.int x3, .int (-3 : Int32), .int (3 : Int32)]) (st := []) C (k_X12_in (l := gl G) (E := gE G) (hb := gB G) (σ := σ) e4) xc_X12_213 q1473 rfl (by decide) (xst4 (Nat.le_of_ble_eq_true rfl)) xsame.rf.le xsame.rf.lim dX12_tie_12 ?_
    refine ww_if_eq (pc := 15) (tgt := 40) C dX12_tie_15 (by decide) (fun q => ?_) (fun q => ?_)
    · have hf := xip q hf
      refine ww_iconst (pc := 40) (v := (0 : Int32)) C dX12_tie_40 (by decide) ?_
      have hf := xsj hf
      subst hf
      exact ww_zret (pc := 41) C rfl hk dX12_tie_41
    · have hf := xin q hf
      refine ww_aload_n (pc := 18) C 0 dX12_tie_18 rfl ?_
      refine ww_iload_n (pc := 19) C 1 dX12_tie_19 rfl ?_
      refine ww_iload_n (pc := 20) C 2 dX12_tie_20 rfl ?_
      obtain ⟨_, e6, hf⟩ := xbd hf
      obtain ⟨v8, e7, hf⟩ := xbd hf
      refine ww_callVi (pc := 21) (as := [.int x1, .int x2]) (st := []) C (k_X12_tieTo (l := gl G) (E := gE G) (hb := gB G) (σ := σ) e7) rfl (by decide) xc_X12_236 q1512 qp138 (xck_spec e6) rfl (by decide) (xst4 (Nat.le_of_ble_eq_true rfl)) xsame.rf.le xsame.rf.lim dX12_tie_21 ?_
      refine ww_if_lt (pc := 24) (tgt := 40) C dX12_tie_24 (by decide) (fun q => ?_) (fun q => ?_)
      · have hf := xip q hf
        refine ww_iconst (pc := 40) (v := (0 : Int32)) C dX12_tie_40 (by decide) ?_
        have hf := xsj hf
        subst hf
        exact ww_zret (pc := 41) C rfl hk dX12_tie_41
      · have hf := xin q hf
        refine ww_aload_n (pc := 27) C 0 dX12_tie_27 rfl ?_
        obtain ⟨z10, e9, hf⟩ := xbd hf
        refine gf_X12_40 (pc := 28) C e9 dX12_tie_28 ?_
        refine ww_iload_n (pc := 31) C 1 dX12_tie_31 rfl ?_
        refine ww_iload_n (pc := 32) C 2 dX12_tie_32 rfl ?_
        obtain ⟨v12, e11, hf⟩ := xbd hf
        refine ww_callSi (pc := 33) (as := [.ref (gB G + z10), .int x1, .int x2]) (st := []) C (k_X12_jOf (l := gl G) (E := gE G) (hb := gB G) (σ := σ) e11) xc_X12_240 q1515 rfl (by decide) (xst4 (Nat.le_of_ble_eq_true rfl)) xsame.rf.le xsame.rf.lim dX12_tie_33 ?_
        refine ww_iload_n (pc := 36) C 3 dX12_tie_36 rfl ?_
        refine ww_icmp_ne (pc := 37) (tgt := 42) C dX12_tie_37 (by decide) (fun q => ?_) (fun q => ?_)
        · have hf := xin q hf
          refine ww_aload_n (pc := 42) C 0 dX12_tie_42 rfl ?_
          obtain ⟨_, e13, hf⟩ := xbd hf
          obtain ⟨σ15, e14, hf⟩ := xbd hf
          refine ww_callVv (pc := 43) (as := []) (st := []) C (k_X12_marks (l := gl G) (E := gE G) (hb := gB G) (σ := σ) e14) rfl (by decide) xc_X12_244 q1519 qp139 (xck_spec e13) rfl (by decide) (xst4 (Nat.le_of_ble_eq_true rfl)) (m_X12_marks e14).le (m_X12_marks e14).lim dX12_tie_43 ?_
          refine ww_aload_n (pc := 46) C 0 dX12_tie_46 rfl ?_
          obtain ⟨z17, e16, hf⟩ := xbd hf
          refine gf_X12_40 (pc := 47) C e16 dX12_tie_47 ?_
          refine ww_iload_n (pc := 50) C 2 dX12_tie_50 rfl ?_
          refine ww_if_eq (pc := 51) (tgt := 59) C dX12_tie_51 (by decide) (fun q => ?_) (fun q => ?_)
          · have hf := xip q hf
            refine ww_iconst (pc := 59) (v := (0 : Int32)) C dX12_tie_59 (by decide) ?_
            refine ww_sub [0, 1, 3] rfl ?_
            exact s_X12_tie_j60 C hf hk
          · have hf := xin q hf
            refine ww_bipush (pc := 54) (v := (16 : Int32)) C dX12_tie_54 (by decide) ?_
            refine ww_goto (pc := 56) (tgt := 60) C dX12_tie_56 (by decide) ?_
            refine ww_sub [0, 1, 3] rfl ?_
            exact s_X12_tie_j60 C hf hk
        · have hf := xip q hf
          refine ww_iconst (pc := 40) (v := (0 : Int32)) C dX12_tie_40 (by decide) ?_
          have hf := xsj hf
          subst hf
          exact ww_zret (pc := 41) C rfl hk dX12_tie_41
theorem m_X12_tie {σ : XS} {r0 : Nat} {x1 : Int32} {x2 : Int32} {x3 : Int32} {x : Int32 × XS} (hf : f_X12_tie σ r0 x1 x2 x3 = some x) : xsame σ x.2 := by
  have hm := xsame.rf (σ := σ)
  obtain ⟨_, e1, hf⟩ := xbd hf
  obtain ⟨v3, e2, hf⟩ := xbd hf
  by_cases q : v3 = 0
  · have hf := xip q hf
    have hf := xsj hf
    subst hf
    exact hm
  · have hf := xin q hf
    obtain ⟨v5, e4, hf⟩ := xbd hf
    by_cases q : v5 = 0
    · have hf := xip q hf
      have hf := xsj hf
      subst hf
      exact hm
    · have hf := xin q hf
      obtain ⟨_, e6, hf⟩ := xbd hf
      obtain ⟨v8, e7, hf⟩ := xbd hf
      by_cases q : v8 < 0
      · have hf := xip q hf
        have hf := xsj hf
        subst hf
        exact hm
      · have hf := xin q hf
        obtain ⟨z10, e9, hf⟩ := xbd hf
        obtain ⟨v12, e11, hf⟩ := xbd hf
        by_cases q : v12 = x3
        · have hf := xip q hf
          have hf := xsj hf
          subst hf
          exact hm
        · have hf := xin q hf
          obtain ⟨_, e13, hf⟩ := xbd hf
          obtain ⟨σ15, e14, hf⟩ := xbd hf
          have hm := hm.tr (m_X12_marks e14)
          obtain ⟨z17, e16, hf⟩ := xbd hf
          by_cases q : x2 = 0
          · have hf := xip q hf
            exact hm.tr (m_X12_tie_j60 hf)
          · have hf := xin q hf
            exact hm.tr (m_X12_tie_j60 hf)
theorem k_X12_tie {l : Launch} {E : XD} {hb : Nat} {σ : XS} {r0 : Nat} {x1 : Int32} {x2 : Int32} {x3 : Int32} {x : Int32 × XS} (h : f_X12_tie σ r0 x1 x2 x3 = some x) : XM l yX12_tie cX12_tie 4 (some .boolean) 2 48 E hb [.ref (hb + r0), .int x1, .int x2, .int x3] σ (some (.int x.1)) x.2 := by
  refine xm_of (by decide) (Nat.le_of_ble_eq_true rfl) (m_X12_tie h).le (fun G hG C hl hQ => ?_)
  obtain ⟨rfl, rfl, rfl, hN⟩ := hG
  exact s_X12_tie_e C h hQ
noncomputable def f_X12_turn (σ : XS) (r0 : Nat) (x1 : Int32) : Option (Int32 × XS) := (xck σ r0 12).bind fun _ => (f_X12_isSite σ r0 x1).bind fun v3 => if v3 = 0 then (some ((0 : Int32), σ)) else (xgR σ r0 12 21).bind fun z5 => (xaI σ 20 z5 ((48 : Int32) + x1)).bind fun v7 => if v7 ≤ 0 then ((xck σ r0 12).bind fun _ => (f_X12_marks σ r0).bind fun σ10 => (xgR σ10 r0 12 21).bind fun z12 => (xaI σ10 20 z12 (64 : Int32)).bind fun v14 => (xsI σ10 20 z12 (64 : Int32) (v14 ^^^ ((1 : Int32) <<< (x1 &&& 31)))).bind fun σ16 => some ((1 : Int32), σ16)) else some ((0 : Int32), σ)
theorem s_X12_turn_e {G : XG} (C : XC G cX12_turn RX12 (some .boolean) 2 2 43) {σ : XS} {r0 : Nat} {x1 : Int32} {x : Int32 × XS} (hf : f_X12_turn σ r0 x1 = some x) (hk : XEnd G (some (.int x.1)) x.2) : WW G 0 [(0, .ref (gB G + r0)), (1, .int x1)] [] σ := by
  refine ww_aload_n (pc := 0) C 0 dX12_turn_0 rfl ?_
  refine ww_iload_n (pc := 1) C 1 dX12_turn_1 rfl ?_
  obtain ⟨_, e1, hf⟩ := xbd hf
  obtain ⟨v3, e2, hf⟩ := xbd hf
  refine ww_callVi (pc := 2) (as := [.int x1]) (st := []) C (k_X12_isSite (l := gl G) (E := gE G) (hb := gB G) (σ := σ) e2) rfl (by decide) xc_X12_233 q1508 qp137 (xck_spec e1) rfl (by decide) (xst4 (Nat.le_of_ble_eq_true rfl)) xsame.rf.le xsame.rf.lim dX12_turn_2 ?_
  refine ww_if_eq (pc := 5) (tgt := 20) C dX12_turn_5 (by decide) (fun q => ?_) (fun q => ?_)
  · have hf := xip q hf
    refine ww_iconst (pc := 20) (v := (0 : Int32)) C dX12_turn_20 (by decide) ?_
    have hf := xsj hf
    subst hf
    exact ww_zret (pc := 21) C rfl hk dX12_turn_21
  · have hf := xin q hf
    refine ww_aload_n (pc := 8) C 0 dX12_turn_8 rfl ?_
    obtain ⟨z5, e4, hf⟩ := xbd hf
    refine gf_X12_40 (pc := 9) C e4 dX12_turn_9 ?_
    refine ww_bipush (pc := 12) (v := (48 : Int32)) C dX12_turn_12 (by decide) ?_
    refine ww_iload_n (pc := 14) C 1 dX12_turn_14 rfl ?_
    refine ww_iadd (pc := 15) C dX12_turn_15 ?_
    obtain ⟨v7, e6, hf⟩ := xbd hf
    refine ww_iald (pc := 16) C e6 dX12_turn_16 ?_
    refine ww_if_le (pc := 17) (tgt := 22) C dX12_turn_17 (by decide) (fun q => ?_) (fun q => ?_)
    · have hf := xip q hf
      refine ww_aload_n (pc := 22) C 0 dX12_turn_22 rfl ?_
      obtain ⟨_, e8, hf⟩ := xbd hf
      obtain ⟨σ10, e9, hf⟩ := xbd hf
      refine ww_callVv (pc := 23) (as := []) (st := []) C (k_X12_marks (l := gl G) (E := gE G) (hb := gB G) (σ := σ) e9) rfl (by decide) xc_X12_244 q1519 qp139 (xck_spec e8) rfl (by decide) (xst4 (Nat.le_of_ble_eq_true rfl)) (m_X12_marks e9).le (m_X12_marks e9).lim dX12_turn_23 ?_
      refine ww_aload_n (pc := 26) C 0 dX12_turn_26 rfl ?_
      obtain ⟨z12, e11, hf⟩ := xbd hf
      refine gf_X12_40 (pc := 27) C e11 dX12_turn_27 ?_
      refine ww_bipush (pc := 30) (v := (64 : Int32)) C dX12_turn_30 (by decide) ?_
      refine ww_dup2 (pc := 32) C dX12_turn_32 rfl rfl ?_
      obtain ⟨v14, e13, hf⟩ := xbd hf
      refine ww_iald (pc := 33) C e13 dX12_turn_33 ?_
      refine ww_iconst (pc := 34) (v := (1 : Int32)) C dX12_turn_34 (by decide) ?_
      refine ww_iload_n (pc := 35) C 1 dX12_turn_35 rfl ?_
      refine ww_ishl (pc := 36) C dX12_turn_36 ?_
      refine ww_ixor (pc := 37) C dX12_turn_37 ?_
      obtain ⟨σ16, e15, hf⟩ := xbd hf
      refine ww_iast (pc := 38) C e15 dX12_turn_38 ?_
      refine ww_iconst (pc := 39) (v := (1 : Int32)) C dX12_turn_39 (by decide) ?_
      have hf := xsj hf
      subst hf
      exact ww_zret (pc := 40) C rfl hk dX12_turn_40
    · have hf := xin q hf
      refine ww_iconst (pc := 20) (v := (0 : Int32)) C dX12_turn_20 (by decide) ?_
      have hf := xsj hf
      subst hf
      exact ww_zret (pc := 21) C rfl hk dX12_turn_21
theorem m_X12_turn {σ : XS} {r0 : Nat} {x1 : Int32} {x : Int32 × XS} (hf : f_X12_turn σ r0 x1 = some x) : xsame σ x.2 := by
  have hm := xsame.rf (σ := σ)
  obtain ⟨_, e1, hf⟩ := xbd hf
  obtain ⟨v3, e2, hf⟩ := xbd hf
  by_cases q : v3 = 0
  · have hf := xip q hf
    have hf := xsj hf
    subst hf
    exact hm
  · have hf := xin q hf
    obtain ⟨z5, e4, hf⟩ := xbd hf
    obtain ⟨v7, e6, hf⟩ := xbd hf
    by_cases q : v7 ≤ 0
    · have hf := xip q hf
      obtain ⟨_, e8, hf⟩ := xbd hf
      obtain ⟨σ10, e9, hf⟩ := xbd hf
      have hm := hm.tr (m_X12_marks e9)
      obtain ⟨z12, e11, hf⟩ := xbd hf
      obtain ⟨v14, e13, hf⟩ := xbd hf
      obtain ⟨σ16, e15, hf⟩ := xbd hf
      have hm := hm.tr (xsI_same e15)
      have hf := xsj hf
      subst hf
      exact hm
    · have hf := xin q hf
      have hf := xsj hf
      subst hf
      exact hm
theorem k_X12_turn {l : Launch} {E : XD} {hb : Nat} {σ : XS} {r0 : Nat} {x1 : Int32} {x : Int32 × XS} (h : f_X12_turn σ r0 x1 = some x) : XM l yX12_turn cX12_turn 2 (some .boolean) 2 43 E hb [.ref (hb + r0), .int x1] σ (some (.int x.1)) x.2 := by
  refine xm_of (by decide) (Nat.le_of_ble_eq_true rfl) (m_X12_turn h).le (fun G hG C hl hQ => ?_)
  obtain ⟨rfl, rfl, rfl, hN⟩ := hG
  exact s_X12_turn_e C h hQ
noncomputable def f_X12_undo_b37 (r0 : Nat) (x1 : Int32) : Int32 × XS → Option ((Int32 × XS) ⊕ (Int32 × XS)) := fun a => match a with
  | (x2, σ) => if (66 : Int32) ≤ x2 then (((xpI σ r0 12 32 (0 : Int32)).bind fun σ2 => some ((1 : Int32), σ2)).map .inr) else (xgR σ r0 12 21).bind fun z2 => (xgR σ r0 12 27).bind fun z4 => (xaI σ 20 z4 (x1 + x2)).bind fun v6 => (xsI σ 20 z2 x2 v6).bind fun σ8 => some (.inl (x2 + (1 : Int32), σ8))
noncomputable def f_X12_undo (σ : XS) (r0 : Nat) : Option (Int32 × XS) := (xgI σ r0 12 29).bind fun v2 => if v2 = 0 then (some ((0 : Int32), σ)) else (xgI σ r0 12 29).bind fun v4 => (xpI σ r0 12 29 (v4 - (1 : Int32))).bind fun σ6 => (xgI σ6 r0 12 28).bind fun v8 => (xgI σ6 r0 12 29).bind fun v10 => xloop (f_X12_undo_b37 r0 ((66 : Int32) * ((v8 + v10) - (v8 + v10) / (40 : Int32) * (40 : Int32)))) ((0 : Int32), σ6)
theorem m_X12_undo_l37 {r0 : Nat} {x1 : Int32} {a : Int32 × XS} {x : Int32 × XS} (hf : xloop (f_X12_undo_b37 r0 x1) a = some x) : xsame a.2 x.2 := by
  refine xloop_ind (P := fun a => xsame a.2 x.2) (fun a y hf hc he => ?_) hf
  obtain ⟨x2, σ⟩ := a
  have hy : (∀ a' : Int32 × XS, y = .inl a' → xsame σ a'.2) ∧ (∀ b1 : Int32 × XS, y = .inr b1 → xsame σ b1.2) := by
    have hm := xsame.rf (σ := σ)
    by_cases q : (66 : Int32) ≤ x2
    · have hf := xip q hf
      obtain ⟨b0, hg, e9⟩ := xmj hf
      subst e9
      have hf := hg
      refine ⟨fun a' e => xnc2 e, fun b e => ?_⟩
      have h9 := Sum.inr.inj e
      subst h9
      obtain ⟨σ2, e1, hf⟩ := xbd hf
      have hm := hm.tr (xpI_same e1)
      have hf := xsj hf
      subst hf
      exact hm
    · have hf := xin q hf
      obtain ⟨z2, e1, hf⟩ := xbd hf
      obtain ⟨z4, e3, hf⟩ := xbd hf
      obtain ⟨v6, e5, hf⟩ := xbd hf
      obtain ⟨σ8, e7, hf⟩ := xbd hf
      have hm := hm.tr (xsI_same e7)
      have hf := xsj hf
      subst hf
      exact ⟨fun a' e => (by have h9 := Sum.inl.inj e; subst h9; exact hm), fun b e => xnc1 e⟩
  cases y with
  | inl a' =>
    have h1 := hc a' rfl
    have hm := hy.1 a' rfl
    exact hm.tr (h1)
  | inr b =>
    have h1 := he b rfl
    subst h1
    exact hy.2 _ rfl
theorem s_X12_undo_l37 {G : XG} (C : XC G cX12_undo RX12 (some .boolean) 3 0 0) {r0 : Nat} {x1 : Int32} {a : Int32 × XS} {x : Int32 × XS} (hf : xloop (f_X12_undo_b37 r0 x1) a = some x) (hk : XEnd G (some (.int x.1)) x.2) : WW G 37 [(0, .ref (gB G + r0)), (1, .int x1), (2, .int a.1)] [] a.2 := by
  refine xloop_ind (P := fun a => WW G 37 [(0, .ref (gB G + r0)), (1, .int x1), (2, .int a.1)] [] a.2) (fun a y hf hc he => ?_) hf
  obtain ⟨x2, σ⟩ := a
  have hk : (∀ a' : Int32 × XS, y = .inl a' → WW G 37 [(0, .ref (gB G + r0)), (1, .int x1), (2, .int a'.1)] [] a'.2) ∧ (∀ b1 : Int32 × XS, y = .inr b1 → XEnd G (some (.int b1.1)) b1.2) := ⟨hc, fun b e => by have h9 := he b e; subst h9; exact hk⟩
  refine ww_iload_n (pc := 37) C 2 dX12_undo_37 rfl ?_
  refine ww_bipush (pc := 38) (v := (66 : Int32)) C dX12_undo_38 (by decide) ?_
  refine ww_icmp_ge (pc := 40) (tgt := 63) C dX12_undo_40 (by decide) (fun q => ?_) (fun q => ?_)
  · have hf := xip q hf
    obtain ⟨b0, hg, e9⟩ := xmj hf
    subst e9
    have hf := hg
    have hk := hk.2 _ rfl
    refine ww_aload_n (pc := 63) C 0 dX12_undo_63 rfl ?_
    refine ww_iconst (pc := 64) (v := (0 : Int32)) C dX12_undo_64 (by decide) ?_
    obtain ⟨σ2, e1, hf⟩ := xbd hf
    refine pf_X12_200 (pc := 65) C (Or.inl rfl) e1 dX12_undo_65 ?_
    refine ww_iconst (pc := 68) (v := (1 : Int32)) C dX12_undo_68 (by decide) ?_
    have hf := xsj hf
    subst hf
    exact ww_zret (pc := 69) C rfl hk dX12_undo_69
  · have hf := xin q hf
    refine ww_aload_n (pc := 43) C 0 dX12_undo_43 rfl ?_
    obtain ⟨z2, e1, hf⟩ := xbd hf
    refine gf_X12_40 (pc := 44) C e1 dX12_undo_44 ?_
    refine ww_iload_n (pc := 47) C 2 dX12_undo_47 rfl ?_
    refine ww_aload_n (pc := 48) C 0 dX12_undo_48 rfl ?_
    obtain ⟨z4, e3, hf⟩ := xbd hf
    refine gf_X12_46 (pc := 49) C e3 dX12_undo_49 ?_
    refine ww_iload_n (pc := 52) C 1 dX12_undo_52 rfl ?_
    refine ww_iload_n (pc := 53) C 2 dX12_undo_53 rfl ?_
    refine ww_iadd (pc := 54) C dX12_undo_54 ?_
    obtain ⟨v6, e5, hf⟩ := xbd hf
    refine ww_iald (pc := 55) C e5 dX12_undo_55 ?_
    obtain ⟨σ8, e7, hf⟩ := xbd hf
    refine ww_iast (pc := 56) C e7 dX12_undo_56 ?_
    refine ww_iinc (pc := 57) (v := x2 + (1 : Int32)) (lv' := [(2, .int (x2 + (1 : Int32))), (0, .ref (gB G + r0)), (1, .int x1)]) C 2 dX12_undo_57 rfl (congrArg (fun z => x2 + z) (show Int32.ofInt (1) = (1 : Int32) by decide)) (by decide) rfl ?_
    refine ww_goto (pc := 60) (tgt := 37) C dX12_undo_60 (by decide) ?_
    have hf := xsj hf
    subst hf
    refine ww_sub [1, 2, 0] rfl ?_
    exact hk.1 (x2 + (1 : Int32), σ8) rfl
theorem s_X12_undo_e {G : XG} (C : XC G cX12_undo RX12 (some .boolean) 3 0 0) {σ : XS} {r0 : Nat} {x : Int32 × XS} (hf : f_X12_undo σ r0 = some x) (hk : XEnd G (some (.int x.1)) x.2) : WW G 0 [(0, .ref (gB G + r0))] [] σ := by
  refine ww_aload_n (pc := 0) C 0 dX12_undo_0 rfl ?_
  obtain ⟨v2, e1, hf⟩ := xbd hf
  refine gf_X12_197 (pc := 1) C e1 dX12_undo_1 ?_
  refine ww_if_ne (pc := 4) (tgt := 9) C dX12_undo_4 (by decide) (fun q => ?_) (fun q => ?_)
  · have hf := xin q hf
    refine ww_aload_n (pc := 9) C 0 dX12_undo_9 rfl ?_
    refine ww_dup (pc := 10) C dX12_undo_10 rfl ?_
    obtain ⟨v4, e3, hf⟩ := xbd hf
    refine gf_X12_197 (pc := 11) C e3 dX12_undo_11 ?_
    refine ww_iconst (pc := 14) (v := (1 : Int32)) C dX12_undo_14 (by decide) ?_
    refine ww_isub (pc := 15) C dX12_undo_15 ?_
    obtain ⟨σ6, e5, hf⟩ := xbd hf
    refine pf_X12_197 (pc := 16) C e5 dX12_undo_16 ?_
    refine ww_bipush (pc := 19) (v := (66 : Int32)) C dX12_undo_19 (by decide) ?_
    refine ww_aload_n (pc := 21) C 0 dX12_undo_21 rfl ?_
    obtain ⟨v8, e7, hf⟩ := xbd hf
    refine gf_X12_230 (pc := 22) C e7 dX12_undo_22 ?_
    refine ww_aload_n (pc := 25) C 0 dX12_undo_25 rfl ?_
    obtain ⟨v10, e9, hf⟩ := xbd hf
    refine gf_X12_197 (pc := 26) C e9 dX12_undo_26 ?_
    refine ww_iadd (pc := 29) C dX12_undo_29 ?_
    refine ww_bipush (pc := 30) (v := (40 : Int32)) C dX12_undo_30 (by decide) ?_
    refine ww_irem (pc := 32) C dX12_undo_32 (by decide) ?_
    refine ww_imul (pc := 33) C dX12_undo_33 ?_
    refine ww_istore_n (pc := 34) (lv' := [(1, .int ((66 : Int32) * ((v8 + v10) - (v8 + v10) / (40 : Int32) * (40 : Int32)))), (0, .ref (gB G + r0))]) C dX12_undo_34 (by decide) rfl ?_
    refine ww_iconst (pc := 35) (v := (0 : Int32)) C dX12_undo_35 (by decide) ?_
    refine ww_istore_n (pc := 36) (lv' := [(2, .int (0 : Int32)), (1, .int ((66 : Int32) * ((v8 + v10) - (v8 + v10) / (40 : Int32) * (40 : Int32)))), (0, .ref (gB G + r0))]) C dX12_undo_36 (by decide) rfl ?_
    refine ww_sub [2, 1, 0] rfl ?_
    exact s_X12_undo_l37 C (a := ((0 : Int32), σ6)) hf hk
  · have hf := xip q hf
    refine ww_iconst (pc := 7) (v := (0 : Int32)) C dX12_undo_7 (by decide) ?_
    have hf := xsj hf
    subst hf
    exact ww_zret (pc := 8) C rfl hk dX12_undo_8
theorem m_X12_undo {σ : XS} {r0 : Nat} {x : Int32 × XS} (hf : f_X12_undo σ r0 = some x) : xsame σ x.2 := by
  have hm := xsame.rf (σ := σ)
  obtain ⟨v2, e1, hf⟩ := xbd hf
  by_cases q : v2 = 0
  · have hf := xip q hf
    have hf := xsj hf
    subst hf
    exact hm
  · have hf := xin q hf
    obtain ⟨v4, e3, hf⟩ := xbd hf
    obtain ⟨σ6, e5, hf⟩ := xbd hf
    have hm := hm.tr (xpI_same e5)
    obtain ⟨v8, e7, hf⟩ := xbd hf
    obtain ⟨v10, e9, hf⟩ := xbd hf
    exact hm.tr (m_X12_undo_l37 (a := ((0 : Int32), σ6)) hf)
theorem k_X12_undo {l : Launch} {E : XD} {hb : Nat} {σ : XS} {r0 : Nat} {x : Int32 × XS} (h : f_X12_undo σ r0 = some x) : XM l yX12_undo cX12_undo 3 (some .boolean) 0 0 E hb [.ref (hb + r0)] σ (some (.int x.1)) x.2 := by
  refine xm_of (by decide) (Nat.le_of_ble_eq_true rfl) (m_X12_undo h).le (fun G hG C hl hQ => ?_)
  obtain ⟨rfl, rfl, rfl, hN⟩ := hG
  exact s_X12_undo_e C h hQ
noncomputable def f_X12_value_j90 (σ : XS) (r0 : Nat) (x1 : Int32) (w2 : Int64) (w4 : Int64) (x6 : Int32) (x7 : Int32) : Option ((Int64 × Int64 × Int32 × Int32) ⊕ (Int32 × XS)) := some (.inl (w2, (w4 * x1.toInt64) - (w4 * x1.toInt64) / (1000003 : Int64) * (1000003 : Int64), x6, x7 + (1 : Int32)))
noncomputable def f_X12_value_b44 (σ : XS) (r0 : Nat) (x1 : Int32) : Int64 × Int64 × Int32 × Int32 → Option ((Int64 × Int64 × Int32 × Int32) ⊕ (Int32 × XS)) := fun a => match a with
  | (w2, w4, x6, x7) => (xgI σ r0 12 35).bind fun v2 => if v2 ≤ x6 then ((some (w2.toInt32, σ)).map .inr) else (xgR σ r0 12 36).bind fun z4 => (xaI σ 20 z4 x6).bind fun v6 => if x7 = v6 then ((xgR σ r0 12 34).bind fun z8 => (xaI σ 20 z8 ((150 : Int32) + x7)).bind fun v10 => f_X12_value_j90 σ r0 x1 ((w2 + (w4 * v10.toInt64)) - (w2 + (w4 * v10.toInt64)) / (1000003 : Int64) * (1000003 : Int64)) w4 (x6 + (1 : Int32)) x7) else f_X12_value_j90 σ r0 x1 w2 w4 x6 x7
noncomputable def f_X12_value (σ : XS) (r0 : Nat) (x1 : Int32) : Option (Int32 × XS) := (f_X12_in x1 (0 : Int32) (1000002 : Int32)).bind fun v2 => if v2 = 0 then (some ((-1 : Int32), σ)) else (xck σ r0 12).bind fun _ => (f_X12_knows σ r0).bind fun σ5 => (xgI σ5 r0 12 35).bind fun v7 => if v7 = 0 then (xloop (f_X12_value_b44 σ5 r0 x1) ((0 : Int64), (1 : Int64), (0 : Int32), (0 : Int32))) else (xgR σ5 r0 12 36).bind fun z9 => (xaI σ5 20 z9 (0 : Int32)).bind fun v11 => xloop (f_X12_value_b44 σ5 r0 x1) ((0 : Int64), (1 : Int64), (0 : Int32), v11)
theorem s_X12_value_j90 {G : XG} (C : XC G cX12_value RX12 (some .int) 8 4 96) {σ : XS} {r0 : Nat} {x1 : Int32} {w2 : Int64} {w4 : Int64} {x6 : Int32} {x7 : Int32} {x : ((Int64 × Int64 × Int32 × Int32) ⊕ (Int32 × XS))} (hf : f_X12_value_j90 σ r0 x1 w2 w4 x6 x7 = some x) (hk : (∀ a' : Int64 × Int64 × Int32 × Int32, x = .inl a' → WW G 44 [(0, .ref (gB G + r0)), (1, .int x1), (2, .long a'.1), (4, .long a'.2.1), (6, .int a'.2.2.1), (7, .int a'.2.2.2)] [] σ) ∧ (∀ b1 : Int32 × XS, x = .inr b1 → XEnd G (some (.int b1.1)) b1.2)) : WW G 90 [(0, .ref (gB G + r0)), (1, .int x1), (2, .long w2), (4, .long w4), (6, .int x6), (7, .int x7)] [] σ := by
  refine ww_lload (pc := 90) C 3 dX12_value_90 rfl ?_
  refine ww_iload_n (pc := 92) C 1 dX12_value_92 rfl ?_
  refine ww_i2l (pc := 93) (v := x1.toInt64) C dX12_value_93 rfl ?_
  refine ww_lmul (pc := 94) C dX12_value_94 ?_
  refine ww_ldc2 (pc := 95) C q1652 dX12_value_95 ?_
  refine ww_lrem (pc := 98) C dX12_value_98 (by decide) ?_
  refine ww_lstore (pc := 99) (lv' := [(4, .long ((w4 * x1.toInt64) - (w4 * x1.toInt64) / (1000003 : Int64) * (1000003 : Int64))), (0, .ref (gB G + r0)), (1, .int x1), (2, .long w2), (6, .int x6), (7, .int x7)]) C dX12_value_99 (by decide) rfl ?_
  refine ww_iinc (pc := 101) (v := x7 + (1 : Int32)) (lv' := [(7, .int (x7 + (1 : Int32))), (4, .long ((w4 * x1.toInt64) - (w4 * x1.toInt64) / (1000003 : Int64) * (1000003 : Int64))), (0, .ref (gB G + r0)), (1, .int x1), (2, .long w2), (6, .int x6)]) C 5 dX12_value_101 rfl (congrArg (fun z => x7 + z) (show Int32.ofInt (1) = (1 : Int32) by decide)) (by decide) rfl ?_
  refine ww_goto (pc := 104) (tgt := 44) C dX12_value_104 (by decide) ?_
  have hf := xsj hf
  subst hf
  refine ww_sub [2, 3, 4, 1, 5, 0] rfl ?_
  exact hk.1 (w2, (w4 * x1.toInt64) - (w4 * x1.toInt64) / (1000003 : Int64) * (1000003 : Int64), x6, x7 + (1 : Int32)) rfl
theorem m_X12_value_j90 {σ : XS} {r0 : Nat} {x1 : Int32} {w2 : Int64} {w4 : Int64} {x6 : Int32} {x7 : Int32} {x : ((Int64 × Int64 × Int32 × Int32) ⊕ (Int32 × XS))} (hf : f_X12_value_j90 σ r0 x1 w2 w4 x6 x7 = some x) : (∀ a' : Int64 × Int64 × Int32 × Int32, x = .inl a' → True) ∧ (∀ b1 : Int32 × XS, x = .inr b1 → xsame σ b1.2) := by
  have hm := xsame.rf (σ := σ)
  have hf := xsj hf
  subst hf
  exact ⟨fun a' e => (by have h9 := Sum.inl.inj e; subst h9; exact trivial), fun b e => xnc1 e⟩
theorem m_X12_value_l44 {σ : XS} {r0 : Nat} {x1 : Int32} {a : Int64 × Int64 × Int32 × Int32} {x : Int32 × XS} (hf : xloop (f_X12_value_b44 σ r0 x1) a = some x) : xsame σ x.2 := by
  refine xloop_ind (P := fun a => xsame σ x.2) (fun a y hf hc he => ?_) hf
  obtain ⟨w2, w4, x6, x7⟩ := a
  have hy : (∀ a' : Int64 × Int64 × Int32 × Int32, y = .inl a' → True) ∧ (∀ b1 : Int32 × XS, y = .inr b1 → xsame σ b1.2) := by
    have hm := xsame.rf (σ := σ)
    obtain ⟨v2, e1, hf⟩ := xbd hf
    by_cases q : v2 ≤ x6
    · have hf := xip q hf
      obtain ⟨b0, hg, e9⟩ := xmj hf
      subst e9
      have hf := hg
      refine ⟨fun a' e => xnc2 e, fun b e => ?_⟩
      have h9 := Sum.inr.inj e
      subst h9
      have hf := xsj hf
      subst hf
      exact hm
    · have hf := xin q hf
      obtain ⟨z4, e3, hf⟩ := xbd hf
      obtain ⟨v6, e5, hf⟩ := xbd hf
      by_cases q : x7 = v6
      · have hf := xip q hf
        obtain ⟨z8, e7, hf⟩ := xbd hf
        obtain ⟨v10, e9, hf⟩ := xbd hf
        exact ⟨fun _ _ => trivial, fun b1 eb1 => hm.tr ((m_X12_value_j90 hf).2 b1 eb1)⟩
      · have hf := xin q hf
        exact ⟨fun _ _ => trivial, fun b1 eb1 => hm.tr ((m_X12_value_j90 hf).2 b1 eb1)⟩
  cases y with
  | inl a' =>
    have h1 := hc a' rfl
    exact h1
  | inr b =>
    have h1 := he b rfl
    subst h1
    exact hy.2 _ rfl
theorem s_X12_value_l44 {G : XG} (C : XC G cX12_value RX12 (some .int) 8 4 96) {σ : XS} {r0 : Nat} {x1 : Int32} {a : Int64 × Int64 × Int32 × Int32} {x : Int32 × XS} (hf : xloop (f_X12_value_b44 σ r0 x1) a = some x) (hk : XEnd G (some (.int x.1)) x.2) : WW G 44 [(0, .ref (gB G + r0)), (1, .int x1), (2, .long a.1), (4, .long a.2.1), (6, .int a.2.2.1), (7, .int a.2.2.2)] [] σ := by
  refine xloop_ind (P := fun a => WW G 44 [(0, .ref (gB G + r0)), (1, .int x1), (2, .long a.1), (4, .long a.2.1), (6, .int a.2.2.1), (7, .int a.2.2.2)] [] σ) (fun a y hf hc he => ?_) hf
  obtain ⟨w2, w4, x6, x7⟩ := a
  have hk : (∀ a' : Int64 × Int64 × Int32 × Int32, y = .inl a' → WW G 44 [(0, .ref (gB G + r0)), (1, .int x1), (2, .long a'.1), (4, .long a'.2.1), (6, .int a'.2.2.1), (7, .int a'.2.2.2)] [] σ) ∧ (∀ b1 : Int32 × XS, y = .inr b1 → XEnd G (some (.int b1.1)) b1.2) := ⟨hc, fun b e => by have h9 := he b e; subst h9; exact hk⟩
  refine ww_iload (pc := 44) C 4 dX12_value_44 rfl ?_
  refine ww_aload_n (pc := 46) C 0 dX12_value_46 rfl ?_
  obtain ⟨v2, e1, hf⟩ := xbd hf
  refine gf_X12_285 (pc := 47) C e1 dX12_value_47 ?_
  refine ww_icmp_ge (pc := 50) (tgt := 107) C dX12_value_50 (by decide) (fun q => ?_) (fun q => ?_)
  · have hf := xip q hf
    obtain ⟨b0, hg, e9⟩ := xmj hf
    subst e9
    have hf := hg
    have hk := hk.2 _ rfl
    refine ww_lload_n (pc := 107) C 2 dX12_value_107 rfl ?_
    refine ww_l2i (pc := 108) (v := w2.toInt32) C dX12_value_108 rfl ?_
    have hf := xsj hf
    subst hf
    exact ww_iret (pc := 109) C hk dX12_value_109
  · have hf := xin q hf
    refine ww_iload (pc := 53) C 5 dX12_value_53 rfl ?_
    refine ww_aload_n (pc := 55) C 0 dX12_value_55 rfl ?_
    obtain ⟨z4, e3, hf⟩ := xbd hf
    refine gf_X12_63 (pc := 56) C e3 dX12_value_56 ?_
    refine ww_iload (pc := 59) C 4 dX12_value_59 rfl ?_
    obtain ⟨v6, e5, hf⟩ := xbd hf
    refine ww_iald (pc := 61) C e5 dX12_value_61 ?_
    refine ww_icmp_ne (pc := 62) (tgt := 90) C dX12_value_62 (by decide) (fun q => ?_) (fun q => ?_)
    · have hf := xin q hf
      refine ww_sub [0, 1, 2, 3, 4, 5] rfl ?_
      exact s_X12_value_j90 C hf hk
    · have hf := xip q hf
      refine ww_lload_n (pc := 65) C 2 dX12_value_65 rfl ?_
      refine ww_lload (pc := 66) C 3 dX12_value_66 rfl ?_
      refine ww_aload_n (pc := 68) C 0 dX12_value_68 rfl ?_
      obtain ⟨z8, e7, hf⟩ := xbd hf
      refine gf_X12_60 (pc := 69) C e7 dX12_value_69 ?_
      refine ww_sipush (pc := 72) (v := (150 : Int32)) C dX12_value_72 (by decide) ?_
      refine ww_iload (pc := 75) C 5 dX12_value_75 rfl ?_
      refine ww_iadd (pc := 77) C dX12_value_77 ?_
      obtain ⟨v10, e9, hf⟩ := xbd hf
      refine ww_iald (pc := 78) C e9 dX12_value_78 ?_
      refine ww_i2l (pc := 79) (v := v10.toInt64) C dX12_value_79 rfl ?_
      refine ww_lmul (pc := 80) C dX12_value_80 ?_
      refine ww_ladd (pc := 81) C dX12_value_81 ?_
      refine ww_ldc2 (pc := 82) C q1652 dX12_value_82 ?_
      refine ww_lrem (pc := 85) C dX12_value_85 (by decide) ?_
      refine ww_lstore_n (pc := 86) (lv' := [(2, .long ((w2 + (w4 * v10.toInt64)) - (w2 + (w4 * v10.toInt64)) / (1000003 : Int64) * (1000003 : Int64))), (0, .ref (gB G + r0)), (1, .int x1), (4, .long w4), (6, .int x6), (7, .int x7)]) C dX12_value_86 (by decide) rfl ?_
      refine ww_iinc (pc := 87) (v := x6 + (1 : Int32)) (lv' := [(6, .int (x6 + (1 : Int32))), (2, .long ((w2 + (w4 * v10.toInt64)) - (w2 + (w4 * v10.toInt64)) / (1000003 : Int64) * (1000003 : Int64))), (0, .ref (gB G + r0)), (1, .int x1), (4, .long w4), (7, .int x7)]) C 4 dX12_value_87 rfl (congrArg (fun z => x6 + z) (show Int32.ofInt (1) = (1 : Int32) by decide)) (by decide) rfl ?_
      refine ww_sub [2, 3, 1, 4, 0, 5] rfl ?_
      exact s_X12_value_j90 C hf hk
theorem s_X12_value_e {G : XG} (C : XC G cX12_value RX12 (some .int) 8 4 96) {σ : XS} {r0 : Nat} {x1 : Int32} {x : Int32 × XS} (hf : f_X12_value σ r0 x1 = some x) (hk : XEnd G (some (.int x.1)) x.2) : WW G 0 [(0, .ref (gB G + r0)), (1, .int x1)] [] σ := by
  refine ww_iload_n (pc := 0) C 1 dX12_value_0 rfl ?_
  refine ww_iconst (pc := 1) (v := (0 : Int32)) C dX12_value_1 (by decide) ?_
  refine ww_ldcw (pc := 2) C q1651 dX12_value_2 ?_
  obtain ⟨v2, e1, hf⟩ := xbd hf
  refine ww_callSi (pc := 5) (as := [.int x1, .int (0 : Int32), .int (1000002 : Int32)]) (st := []) C (k_X12_in (l := gl G) (E := gE G) (hb := gB G) (σ := σ) e1) xc_X12_213 q1473 rfl (by decide) (xst4 (Nat.le_of_ble_eq_true rfl)) xsame.rf.le xsame.rf.lim dX12_value_5 ?_
  refine ww_if_ne (pc := 8) (tgt := 13) C dX12_value_8 (by decide) (fun q => ?_) (fun q => ?_)
  · have hf := xin q hf
    refine ww_aload_n (pc := 13) C 0 dX12_value_13 rfl ?_
    obtain ⟨_, e3, hf⟩ := xbd hf
    obtain ⟨σ5, e4, hf⟩ := xbd hf
    refine ww_callVv (pc := 14) (as := []) (st := []) C (k_X12_knows (l := gl G) (E := gE G) (hb := gB G) (σ := σ) e4) rfl (by decide) xc_X12_261 q1551 qp140 (xck_spec e3) rfl (by decide) (xst4 (Nat.le_of_ble_eq_true rfl)) (m_X12_knows e4).le (m_X12_knows e4).lim dX12_value_14 ?_
    refine ww_lconst (pc := 17) (v := (0 : Int64)) C dX12_value_17 (by decide) ?_
    refine ww_lstore_n (pc := 18) (lv' := [(2, .long (0 : Int64)), (0, .ref (gB G + r0)), (1, .int x1)]) C dX12_value_18 (by decide) rfl ?_
    refine ww_lconst (pc := 19) (v := (1 : Int64)) C dX12_value_19 (by decide) ?_
    refine ww_lstore (pc := 20) (lv' := [(4, .long (1 : Int64)), (2, .long (0 : Int64)), (0, .ref (gB G + r0)), (1, .int x1)]) C dX12_value_20 (by decide) rfl ?_
    refine ww_iconst (pc := 22) (v := (0 : Int32)) C dX12_value_22 (by decide) ?_
    refine ww_istore (pc := 23) (lv' := [(6, .int (0 : Int32)), (4, .long (1 : Int64)), (2, .long (0 : Int64)), (0, .ref (gB G + r0)), (1, .int x1)]) C dX12_value_23 (by decide) rfl ?_
    refine ww_aload_n (pc := 25) C 3 dX12_value_25 rfl ?_
    obtain ⟨v7, e6, hf⟩ := xbd hf
    refine gf_X12_285 (pc := 26) C e6 dX12_value_26 ?_
    refine ww_if_ne (pc := 29) (tgt := 36) C dX12_value_29 (by decide) (fun q => ?_) (fun q => ?_)
    · have hf := xin q hf
      refine ww_aload_n (pc := 36) C 3 dX12_value_36 rfl ?_
      obtain ⟨z9, e8, hf⟩ := xbd hf
      refine gf_X12_63 (pc := 37) C e8 dX12_value_37 ?_
      refine ww_iconst (pc := 40) (v := (0 : Int32)) C dX12_value_40 (by decide) ?_
      obtain ⟨v11, e10, hf⟩ := xbd hf
      refine ww_iald (pc := 41) C e10 dX12_value_41 ?_
      refine ww_istore (pc := 42) (lv' := [(7, .int v11), (6, .int (0 : Int32)), (4, .long (1 : Int64)), (2, .long (0 : Int64)), (0, .ref (gB G + r0)), (1, .int x1)]) C dX12_value_42 (by decide) rfl ?_
      refine ww_sub [4, 5, 3, 2, 1, 0] rfl ?_
      exact s_X12_value_l44 C (a := ((0 : Int64), (1 : Int64), (0 : Int32), v11)) hf hk
    · have hf := xip q hf
      refine ww_iconst (pc := 32) (v := (0 : Int32)) C dX12_value_32 (by decide) ?_
      refine ww_goto (pc := 33) (tgt := 42) C dX12_value_33 (by decide) ?_
      refine ww_istore (pc := 42) (lv' := [(7, .int (0 : Int32)), (6, .int (0 : Int32)), (4, .long (1 : Int64)), (2, .long (0 : Int64)), (0, .ref (gB G + r0)), (1, .int x1)]) C dX12_value_42 (by decide) rfl ?_
      refine ww_sub [4, 5, 3, 2, 1, 0] rfl ?_
      exact s_X12_value_l44 C (a := ((0 : Int64), (1 : Int64), (0 : Int32), (0 : Int32))) hf hk
  · have hf := xip q hf
    refine ww_iconst (pc := 11) (v := (-1 : Int32)) C dX12_value_11 (by decide) ?_
    have hf := xsj hf
    subst hf
    exact ww_iret (pc := 12) C hk dX12_value_12
theorem m_X12_value {σ : XS} {r0 : Nat} {x1 : Int32} {x : Int32 × XS} (hf : f_X12_value σ r0 x1 = some x) : xsame σ x.2 := by
  have hm := xsame.rf (σ := σ)
  obtain ⟨v2, e1, hf⟩ := xbd hf
  by_cases q : v2 = 0
  · have hf := xip q hf
    have hf := xsj hf
    subst hf
    exact hm
  · have hf := xin q hf
    obtain ⟨_, e3, hf⟩ := xbd hf
    obtain ⟨σ5, e4, hf⟩ := xbd hf
    have hm := hm.tr (m_X12_knows e4)
    obtain ⟨v7, e6, hf⟩ := xbd hf
    by_cases q : v7 = 0
    · have hf := xip q hf
      exact hm.tr (m_X12_value_l44 (a := ((0 : Int64), (1 : Int64), (0 : Int32), (0 : Int32))) hf)
    · have hf := xin q hf
      obtain ⟨z9, e8, hf⟩ := xbd hf
      obtain ⟨v11, e10, hf⟩ := xbd hf
      exact hm.tr (m_X12_value_l44 (a := ((0 : Int64), (1 : Int64), (0 : Int32), v11)) hf)
theorem k_X12_value {l : Launch} {E : XD} {hb : Nat} {σ : XS} {r0 : Nat} {x1 : Int32} {x : Int32 × XS} (h : f_X12_value σ r0 x1 = some x) : XM l yX12_value cX12_value 8 (some .int) 4 96 E hb [.ref (hb + r0), .int x1] σ (some (.int x.1)) x.2 := by
  refine xm_of (by decide) (Nat.le_of_ble_eq_true rfl) (m_X12_value h).le (fun G hG C hl hQ => ?_)
  obtain ⟨rfl, rfl, rfl, hN⟩ := hG
  exact s_X12_value_e C h hQ
noncomputable def f_X12_wander_b79 (σ : XS) (r0 : Nat) (x1 : Int32) (x2 : Int32) (x3 : Int32) : Int64 × Int32 × Int32 × Int32 × Int32 → Option ((Int64 × Int32 × Int32 × Int32 × Int32) ⊕ (Int32 × XS)) := fun a => match a with
  | (w4, x6, x7, x8, x9) => if x1 ≤ x9 then ((if x3 = 0 then (some (x6, σ)) else if x3 = (1 : Int32) then (some (x7, σ)) else some (x8, σ)).map .inr) else (f_X12_nextOf w4).bind fun v2 => (xck σ r0 12).bind fun _ => (f_X12_sites σ r0).bind fun v5 => (xdZ v5.toInt64).bind fun _ => (f_X12_nextOf v2).bind fun v8 => (xgR σ r0 12 21).bind fun z10 => (xaI σ 20 z10 ((48 : Int32) + (((v2 / (65536 : Int64)) - (v2 / (65536 : Int64)) / v5.toInt64 * v5.toInt64).toInt32))).bind fun v12 => if 0 < v12 then (some (.inl (v8, x6, x7, x8, x9 + (1 : Int32)))) else (xck σ r0 12).bind fun _ => (f_X12_costOf σ r0 x6 (((v2 / (65536 : Int64)) - (v2 / (65536 : Int64)) / v5.toInt64 * v5.toInt64).toInt32)).bind fun v15 => if (((v8 / (65536 : Int64)) - (v8 / (65536 : Int64)) / (100 : Int64) * (100 : Int64)).toInt32) < ((100 : Int32) - (x2 * v15)) then ((xgR σ r0 12 33).bind fun z17 => (xaI σ 20 z17 (x6 ^^^ ((1 : Int32) <<< ((((v2 / (65536 : Int64)) - (v2 / (65536 : Int64)) / v5.toInt64 * v5.toInt64).toInt32) &&& 31)))).bind fun v19 => if x7 ≤ v19 then (some (.inl (v8, x6 ^^^ ((1 : Int32) <<< ((((v2 / (65536 : Int64)) - (v2 / (65536 : Int64)) / v5.toInt64 * v5.toInt64).toInt32) &&& 31)), x7, x8 + (1 : Int32), x9 + (1 : Int32)))) else (xgR σ r0 12 33).bind fun z21 => (xaI σ 20 z21 (x6 ^^^ ((1 : Int32) <<< ((((v2 / (65536 : Int64)) - (v2 / (65536 : Int64)) / v5.toInt64 * v5.toInt64).toInt32) &&& 31)))).bind fun v23 => some (.inl (v8, x6 ^^^ ((1 : Int32) <<< ((((v2 / (65536 : Int64)) - (v2 / (65536 : Int64)) / v5.toInt64 * v5.toInt64).toInt32) &&& 31)), v23, x8 + (1 : Int32), x9 + (1 : Int32)))) else some (.inl (v8, x6, x7, x8, x9 + (1 : Int32)))
noncomputable def f_X12_wander (σ : XS) (r0 : Nat) (x1 : Int32) (x2 : Int32) (x3 : Int32) : Option (Int32 × XS) := (xck σ r0 12).bind fun _ => (f_X12_sites σ r0).bind fun v3 => if v3 = 0 then (some ((-100000 : Int32), σ)) else (f_X12_in x1 (0 : Int32) (200 : Int32)).bind fun v5 => if v5 = 0 then (some ((-100000 : Int32), σ)) else (f_X12_in x2 (0 : Int32) (100 : Int32)).bind fun v7 => if v7 = 0 then (some ((-100000 : Int32), σ)) else (f_X12_in x3 (0 : Int32) (2 : Int32)).bind fun v9 => if v9 = 0 then (some ((-100000 : Int32), σ)) else (xck σ r0 12).bind fun _ => (f_X12_knows σ r0).bind fun σ12 => (xgR σ12 r0 12 21).bind fun z14 => (xaI σ12 20 z14 (65 : Int32)).bind fun v16 => (xgR σ12 r0 12 21).bind fun z18 => (xaI σ12 20 z18 (64 : Int32)).bind fun v20 => (xgR σ12 r0 12 33).bind fun z22 => (xaI σ12 20 z22 v20).bind fun v24 => xloop (f_X12_wander_b79 σ12 r0 x1 x2 x3) (v16.toInt64, v20, v24, (0 : Int32), (0 : Int32))
theorem m_X12_wander_l79 {σ : XS} {r0 : Nat} {x1 : Int32} {x2 : Int32} {x3 : Int32} {a : Int64 × Int32 × Int32 × Int32 × Int32} {x : Int32 × XS} (hf : xloop (f_X12_wander_b79 σ r0 x1 x2 x3) a = some x) : xsame σ x.2 := by
  refine xloop_ind (P := fun a => xsame σ x.2) (fun a y hf hc he => ?_) hf
  obtain ⟨w4, x6, x7, x8, x9⟩ := a
  have hy : (∀ a' : Int64 × Int32 × Int32 × Int32 × Int32, y = .inl a' → True) ∧ (∀ b1 : Int32 × XS, y = .inr b1 → xsame σ b1.2) := by
    have hm := xsame.rf (σ := σ)
    by_cases q : x1 ≤ x9
    · have hf := xip q hf
      obtain ⟨b0, hg, e9⟩ := xmj hf
      subst e9
      have hf := hg
      refine ⟨fun a' e => xnc2 e, fun b e => ?_⟩
      have h9 := Sum.inr.inj e
      subst h9
      by_cases q : x3 = 0
      · have hf := xip q hf
        have hf := xsj hf
        subst hf
        exact hm
      · have hf := xin q hf
        by_cases q : x3 = (1 : Int32)
        · have hf := xip q hf
          have hf := xsj hf
          subst hf
          exact hm
        · have hf := xin q hf
          have hf := xsj hf
          subst hf
          exact hm
    · have hf := xin q hf
      obtain ⟨v2, e1, hf⟩ := xbd hf
      obtain ⟨_, e3, hf⟩ := xbd hf
      obtain ⟨v5, e4, hf⟩ := xbd hf
      obtain ⟨_, e6, hf⟩ := xbd hf
      obtain ⟨v8, e7, hf⟩ := xbd hf
      obtain ⟨z10, e9, hf⟩ := xbd hf
      obtain ⟨v12, e11, hf⟩ := xbd hf
      by_cases q : 0 < v12
      · have hf := xip q hf
        have hf := xsj hf
        subst hf
        exact ⟨fun a' e => (by have h9 := Sum.inl.inj e; subst h9; exact trivial), fun b e => xnc1 e⟩
      · have hf := xin q hf
        obtain ⟨_, e13, hf⟩ := xbd hf
        obtain ⟨v15, e14, hf⟩ := xbd hf
        by_cases q : (((v8 / (65536 : Int64)) - (v8 / (65536 : Int64)) / (100 : Int64) * (100 : Int64)).toInt32) < ((100 : Int32) - (x2 * v15))
        · have hf := xip q hf
          obtain ⟨z17, e16, hf⟩ := xbd hf
          obtain ⟨v19, e18, hf⟩ := xbd hf
          by_cases q : x7 ≤ v19
          · have hf := xip q hf
            have hf := xsj hf
            subst hf
            exact ⟨fun a' e => (by have h9 := Sum.inl.inj e; subst h9; exact trivial), fun b e => xnc1 e⟩
          · have hf := xin q hf
            obtain ⟨z21, e20, hf⟩ := xbd hf
            obtain ⟨v23, e22, hf⟩ := xbd hf
            have hf := xsj hf
            subst hf
            exact ⟨fun a' e => (by have h9 := Sum.inl.inj e; subst h9; exact trivial), fun b e => xnc1 e⟩
        · have hf := xin q hf
          have hf := xsj hf
          subst hf
          exact ⟨fun a' e => (by have h9 := Sum.inl.inj e; subst h9; exact trivial), fun b e => xnc1 e⟩
  cases y with
  | inl a' =>
    have h1 := hc a' rfl
    exact h1
  | inr b =>
    have h1 := he b rfl
    subst h1
    exact hy.2 _ rfl
theorem s_X12_wander_l79 {G : XG} (C : XC G cX12_wander RX12 (some .int) 12 4 97) {σ : XS} {r0 : Nat} {x1 : Int32} {x2 : Int32} {x3 : Int32} {a : Int64 × Int32 × Int32 × Int32 × Int32} {x : Int32 × XS} (hf : xloop (f_X12_wander_b79 σ r0 x1 x2 x3) a = some x) (hk : XEnd G (some (.int x.1)) x.2) : WW G 79 [(0, .ref (gB G + r0)), (1, .int x1), (2, .int x2), (3, .int x3), (4, .long a.1), (6, .int a.2.1), (7, .int a.2.2.1), (8, .int a.2.2.2.1), (9, .int a.2.2.2.2)] [] σ := by
  refine xloop_ind (P := fun a => WW G 79 [(0, .ref (gB G + r0)), (1, .int x1), (2, .int x2), (3, .int x3), (4, .long a.1), (6, .int a.2.1), (7, .int a.2.2.1), (8, .int a.2.2.2.1), (9, .int a.2.2.2.2)] [] σ) (fun a y hf hc he => ?_) hf
  obtain ⟨w4, x6, x7, x8, x9⟩ := a
  have hk : (∀ a' : Int64 × Int32 × Int32 × Int32 × Int32, y = .inl a' → WW G 79 [(0, .ref (gB G + r0)), (1, .int x1), (2, .int x2), (3, .int x3), (4, .long a'.1), (6, .int a'.2.1), (7, .int a'.2.2.1), (8, .int a'.2.2.2.1), (9, .int a'.2.2.2.2)] [] σ) ∧ (∀ b1 : Int32 × XS, y = .inr b1 → XEnd G (some (.int b1.1)) b1.2) := ⟨hc, fun b e => by have h9 := he b e; subst h9; exact hk⟩
  refine ww_iload (pc := 79) C 8 dX12_wander_79 rfl ?_
  refine ww_iload_n (pc := 81) C 1 dX12_wander_81 rfl ?_
  refine ww_icmp_ge (pc := 82) (tgt := 200) C dX12_wander_82 (by decide) (fun q => ?_) (fun q => ?_)
  · have hf := xip q hf
    obtain ⟨b0, hg, e9⟩ := xmj hf
    subst e9
    have hf := hg
    have hk := hk.2 _ rfl
    refine ww_iload_n (pc := 200) C 3 dX12_wander_200 rfl ?_
    refine ww_if_ne (pc := 201) (tgt := 209) C dX12_wander_201 (by decide) (fun q => ?_) (fun q => ?_)
    · have hf := xin q hf
      refine ww_iload_n (pc := 209) C 3 dX12_wander_209 rfl ?_
      refine ww_iconst (pc := 210) (v := (1 : Int32)) C dX12_wander_210 (by decide) ?_
      refine ww_icmp_ne (pc := 211) (tgt := 219) C dX12_wander_211 (by decide) (fun q => ?_) (fun q => ?_)
      · have hf := xin q hf
        refine ww_iload (pc := 219) C 7 dX12_wander_219 rfl ?_
        have hf := xsj hf
        subst hf
        exact ww_iret (pc := 221) C hk dX12_wander_221
      · have hf := xip q hf
        refine ww_iload (pc := 214) C 6 dX12_wander_214 rfl ?_
        refine ww_goto (pc := 216) (tgt := 221) C dX12_wander_216 (by decide) ?_
        have hf := xsj hf
        subst hf
        exact ww_iret (pc := 221) C hk dX12_wander_221
    · have hf := xip q hf
      refine ww_iload (pc := 204) C 5 dX12_wander_204 rfl ?_
      refine ww_goto (pc := 206) (tgt := 221) C dX12_wander_206 (by decide) ?_
      have hf := xsj hf
      subst hf
      exact ww_iret (pc := 221) C hk dX12_wander_221
  · have hf := xin q hf
    refine ww_lload (pc := 85) C 4 dX12_wander_85 rfl ?_
    obtain ⟨v2, e1, hf⟩ := xbd hf
    refine ww_callSj (pc := 87) (as := [.long w4]) (st := []) C (k_X12_nextOf (l := gl G) (E := gE G) (hb := gB G) (σ := σ) e1) xc_X12_253 q1534 rfl (by decide) (xst4 (Nat.le_of_ble_eq_true rfl)) xsame.rf.le xsame.rf.lim dX12_wander_87 ?_
    refine ww_lstore (pc := 90) (lv' := [(4, .long v2), (0, .ref (gB G + r0)), (1, .int x1), (2, .int x2), (3, .int x3), (6, .int x6), (7, .int x7), (8, .int x8), (9, .int x9)]) C dX12_wander_90 (by decide) rfl ?_
    refine ww_lload (pc := 92) C 0 dX12_wander_92 rfl ?_
    refine ww_ldc2 (pc := 94) C q1539 dX12_wander_94 ?_
    refine ww_ldiv (pc := 97) C dX12_wander_97 (by decide) ?_
    refine ww_aload_n (pc := 98) C 1 dX12_wander_98 rfl ?_
    obtain ⟨_, e3, hf⟩ := xbd hf
    obtain ⟨v5, e4, hf⟩ := xbd hf
    refine ww_callVi (pc := 99) (as := []) (st := [.long (v2 / (65536 : Int64))]) C (k_X12_sites (l := gl G) (E := gE G) (hb := gB G) (σ := σ) e4) rfl (by decide) xc_X12_193 q1496 qp136 (xck_spec e3) rfl (by decide) (xst4 (Nat.le_of_ble_eq_true rfl)) xsame.rf.le xsame.rf.lim dX12_wander_99 ?_
    refine ww_i2l (pc := 102) (v := v5.toInt64) C dX12_wander_102 rfl ?_
    obtain ⟨_, e6, hf⟩ := xbd hf
    refine ww_lrem (pc := 103) C dX12_wander_103 (xdZ_spec e6) ?_
    refine ww_l2i (pc := 104) (v := ((v2 / (65536 : Int64)) - (v2 / (65536 : Int64)) / v5.toInt64 * v5.toInt64).toInt32) C dX12_wander_104 rfl ?_
    refine ww_istore (pc := 105) (lv' := [(10, .int (((v2 / (65536 : Int64)) - (v2 / (65536 : Int64)) / v5.toInt64 * v5.toInt64).toInt32)), (4, .long v2), (0, .ref (gB G + r0)), (1, .int x1), (2, .int x2), (3, .int x3), (6, .int x6), (7, .int x7), (8, .int x8), (9, .int x9)]) C dX12_wander_105 (by decide) rfl ?_
    refine ww_lload (pc := 107) C 1 dX12_wander_107 rfl ?_
    obtain ⟨v8, e7, hf⟩ := xbd hf
    refine ww_callSj (pc := 109) (as := [.long v2]) (st := []) C (k_X12_nextOf (l := gl G) (E := gE G) (hb := gB G) (σ := σ) e7) xc_X12_253 q1534 rfl (by decide) (xst4 (Nat.le_of_ble_eq_true rfl)) xsame.rf.le xsame.rf.lim dX12_wander_109 ?_
    refine ww_lstore (pc := 112) (lv' := [(4, .long v8), (10, .int (((v2 / (65536 : Int64)) - (v2 / (65536 : Int64)) / v5.toInt64 * v5.toInt64).toInt32)), (0, .ref (gB G + r0)), (1, .int x1), (2, .int x2), (3, .int x3), (6, .int x6), (7, .int x7), (8, .int x8), (9, .int x9)]) C dX12_wander_112 (by decide) rfl ?_
    refine ww_lload (pc := 114) C 0 dX12_wander_114 rfl ?_
    refine ww_ldc2 (pc := 116) C q1539 dX12_wander_116 ?_
    refine ww_ldiv (pc := 119) C dX12_wander_119 (by decide) ?_
    refine ww_ldc2 (pc := 120) C q1734 dX12_wander_120 ?_
    refine ww_lrem (pc := 123) C dX12_wander_123 (by decide) ?_
    refine ww_l2i (pc := 124) (v := ((v8 / (65536 : Int64)) - (v8 / (65536 : Int64)) / (100 : Int64) * (100 : Int64)).toInt32) C dX12_wander_124 rfl ?_
    refine ww_istore (pc := 125) (lv' := [(11, .int (((v8 / (65536 : Int64)) - (v8 / (65536 : Int64)) / (100 : Int64) * (100 : Int64)).toInt32)), (4, .long v8), (10, .int (((v2 / (65536 : Int64)) - (v2 / (65536 : Int64)) / v5.toInt64 * v5.toInt64).toInt32)), (0, .ref (gB G + r0)), (1, .int x1), (2, .int x2), (3, .int x3), (6, .int x6), (7, .int x7), (8, .int x8), (9, .int x9)]) C dX12_wander_125 (by decide) rfl ?_
    refine ww_aload_n (pc := 127) C 3 dX12_wander_127 rfl ?_
    obtain ⟨z10, e9, hf⟩ := xbd hf
    refine gf_X12_40 (pc := 128) C e9 dX12_wander_128 ?_
    refine ww_bipush (pc := 131) (v := (48 : Int32)) C dX12_wander_131 (by decide) ?_
    refine ww_iload (pc := 133) C 2 dX12_wander_133 rfl ?_
    refine ww_iadd (pc := 135) C dX12_wander_135 ?_
    obtain ⟨v12, e11, hf⟩ := xbd hf
    refine ww_iald (pc := 136) C e11 dX12_wander_136 ?_
    refine ww_if_gt (pc := 137) (tgt := 194) C dX12_wander_137 (by decide) (fun q => ?_) (fun q => ?_)
    · have hf := xip q hf
      refine ww_iinc (pc := 194) (v := x9 + (1 : Int32)) (lv' := [(9, .int (x9 + (1 : Int32))), (11, .int (((v8 / (65536 : Int64)) - (v8 / (65536 : Int64)) / (100 : Int64) * (100 : Int64)).toInt32)), (4, .long v8), (10, .int (((v2 / (65536 : Int64)) - (v2 / (65536 : Int64)) / v5.toInt64 * v5.toInt64).toInt32)), (0, .ref (gB G + r0)), (1, .int x1), (2, .int x2), (3, .int x3), (6, .int x6), (7, .int x7), (8, .int x8)]) C 10 dX12_wander_194 rfl (congrArg (fun z => x9 + z) (show Int32.ofInt (1) = (1 : Int32) by decide)) (by decide) rfl ?_
      refine ww_goto (pc := 197) (tgt := 79) C dX12_wander_197 (by decide) ?_
      have hf := xsj hf
      subst hf
      refine ww_sub [4, 5, 6, 7, 2, 8, 9, 10, 0] rfl ?_
      exact hk.1 (v8, x6, x7, x8, x9 + (1 : Int32)) rfl
    · have hf := xin q hf
      refine ww_iload (pc := 140) C 0 dX12_wander_140 rfl ?_
      refine ww_bipush (pc := 142) (v := (100 : Int32)) C dX12_wander_142 (by decide) ?_
      refine ww_iload_n (pc := 144) C 5 dX12_wander_144 rfl ?_
      refine ww_aload_n (pc := 145) C 3 dX12_wander_145 rfl ?_
      refine ww_iload (pc := 146) C 7 dX12_wander_146 rfl ?_
      refine ww_iload (pc := 148) C 2 dX12_wander_148 rfl ?_
      obtain ⟨_, e13, hf⟩ := xbd hf
      obtain ⟨v15, e14, hf⟩ := xbd hf
      refine ww_callVi (pc := 150) (as := [.int x6, .int (((v2 / (65536 : Int64)) - (v2 / (65536 : Int64)) / v5.toInt64 * v5.toInt64).toInt32)]) (st := [.int x2, .int (100 : Int32), .int (((v8 / (65536 : Int64)) - (v8 / (65536 : Int64)) / (100 : Int64) * (100 : Int64)).toInt32)]) C (k_X12_costOf (l := gl G) (E := gE G) (hb := gB G) (σ := σ) e14) rfl (by decide) xc_X12_289 q1600 qp147 (xck_spec e13) rfl (by decide) (xst4 (Nat.le_of_ble_eq_true rfl)) xsame.rf.le xsame.rf.lim dX12_wander_150 ?_
      refine ww_imul (pc := 153) C dX12_wander_153 ?_
      refine ww_isub (pc := 154) C dX12_wander_154 ?_
      refine ww_icmp_lt (pc := 155) (tgt := 161) C dX12_wander_155 (by decide) (fun q => ?_) (fun q => ?_)
      · have hf := xip q hf
        refine ww_iload (pc := 161) C 7 dX12_wander_161 rfl ?_
        refine ww_iconst (pc := 163) (v := (1 : Int32)) C dX12_wander_163 (by decide) ?_
        refine ww_iload (pc := 164) C 2 dX12_wander_164 rfl ?_
        refine ww_ishl (pc := 166) C dX12_wander_166 ?_
        refine ww_ixor (pc := 167) C dX12_wander_167 ?_
        refine ww_istore (pc := 168) (lv' := [(6, .int (x6 ^^^ ((1 : Int32) <<< ((((v2 / (65536 : Int64)) - (v2 / (65536 : Int64)) / v5.toInt64 * v5.toInt64).toInt32) &&& 31)))), (11, .int (((v8 / (65536 : Int64)) - (v8 / (65536 : Int64)) / (100 : Int64) * (100 : Int64)).toInt32)), (4, .long v8), (10, .int (((v2 / (65536 : Int64)) - (v2 / (65536 : Int64)) / v5.toInt64 * v5.toInt64).toInt32)), (0, .ref (gB G + r0)), (1, .int x1), (2, .int x2), (3, .int x3), (7, .int x7), (8, .int x8), (9, .int x9)]) C dX12_wander_168 (by decide) rfl ?_
        refine ww_iinc (pc := 170) (v := x8 + (1 : Int32)) (lv' := [(8, .int (x8 + (1 : Int32))), (6, .int (x6 ^^^ ((1 : Int32) <<< ((((v2 / (65536 : Int64)) - (v2 / (65536 : Int64)) / v5.toInt64 * v5.toInt64).toInt32) &&& 31)))), (11, .int (((v8 / (65536 : Int64)) - (v8 / (65536 : Int64)) / (100 : Int64) * (100 : Int64)).toInt32)), (4, .long v8), (10, .int (((v2 / (65536 : Int64)) - (v2 / (65536 : Int64)) / v5.toInt64 * v5.toInt64).toInt32)), (0, .ref (gB G + r0)), (1, .int x1), (2, .int x2), (3, .int x3), (7, .int x7), (9, .int x9)]) C 9 dX12_wander_170 rfl (congrArg (fun z => x8 + z) (show Int32.ofInt (1) = (1 : Int32) by decide)) (by decide) rfl ?_
        refine ww_aload_n (pc := 173) C 5 dX12_wander_173 rfl ?_
        obtain ⟨z17, e16, hf⟩ := xbd hf
        refine gf_X12_57 (pc := 174) C e16 dX12_wander_174 ?_
        refine ww_iload (pc := 177) C 1 dX12_wander_177 rfl ?_
        obtain ⟨v19, e18, hf⟩ := xbd hf
        refine ww_iald (pc := 179) C e18 dX12_wander_179 ?_
        refine ww_iload (pc := 180) C 9 dX12_wander_180 rfl ?_
        refine ww_icmp_ge (pc := 182) (tgt := 194) C dX12_wander_182 (by decide) (fun q => ?_) (fun q => ?_)
        · have hf := xip q hf
          refine ww_iinc (pc := 194) (v := x9 + (1 : Int32)) (lv' := [(9, .int (x9 + (1 : Int32))), (8, .int (x8 + (1 : Int32))), (6, .int (x6 ^^^ ((1 : Int32) <<< ((((v2 / (65536 : Int64)) - (v2 / (65536 : Int64)) / v5.toInt64 * v5.toInt64).toInt32) &&& 31)))), (11, .int (((v8 / (65536 : Int64)) - (v8 / (65536 : Int64)) / (100 : Int64) * (100 : Int64)).toInt32)), (4, .long v8), (10, .int (((v2 / (65536 : Int64)) - (v2 / (65536 : Int64)) / v5.toInt64 * v5.toInt64).toInt32)), (0, .ref (gB G + r0)), (1, .int x1), (2, .int x2), (3, .int x3), (7, .int x7)]) C 10 dX12_wander_194 rfl (congrArg (fun z => x9 + z) (show Int32.ofInt (1) = (1 : Int32) by decide)) (by decide) rfl ?_
          refine ww_goto (pc := 197) (tgt := 79) C dX12_wander_197 (by decide) ?_
          have hf := xsj hf
          subst hf
          refine ww_sub [6, 7, 8, 9, 4, 2, 10, 1, 0] rfl ?_
          exact hk.1 (v8, x6 ^^^ ((1 : Int32) <<< ((((v2 / (65536 : Int64)) - (v2 / (65536 : Int64)) / v5.toInt64 * v5.toInt64).toInt32) &&& 31)), x7, x8 + (1 : Int32), x9 + (1 : Int32)) rfl
        · have hf := xin q hf
          refine ww_aload_n (pc := 185) C 5 dX12_wander_185 rfl ?_
          obtain ⟨z21, e20, hf⟩ := xbd hf
          refine gf_X12_57 (pc := 186) C e20 dX12_wander_186 ?_
          refine ww_iload (pc := 189) C 1 dX12_wander_189 rfl ?_
          obtain ⟨v23, e22, hf⟩ := xbd hf
          refine ww_iald (pc := 191) C e22 dX12_wander_191 ?_
          refine ww_istore (pc := 192) (lv' := [(7, .int v23), (8, .int (x8 + (1 : Int32))), (6, .int (x6 ^^^ ((1 : Int32) <<< ((((v2 / (65536 : Int64)) - (v2 / (65536 : Int64)) / v5.toInt64 * v5.toInt64).toInt32) &&& 31)))), (11, .int (((v8 / (65536 : Int64)) - (v8 / (65536 : Int64)) / (100 : Int64) * (100 : Int64)).toInt32)), (4, .long v8), (10, .int (((v2 / (65536 : Int64)) - (v2 / (65536 : Int64)) / v5.toInt64 * v5.toInt64).toInt32)), (0, .ref (gB G + r0)), (1, .int x1), (2, .int x2), (3, .int x3), (9, .int x9)]) C dX12_wander_192 (by decide) rfl ?_
          refine ww_iinc (pc := 194) (v := x9 + (1 : Int32)) (lv' := [(9, .int (x9 + (1 : Int32))), (7, .int v23), (8, .int (x8 + (1 : Int32))), (6, .int (x6 ^^^ ((1 : Int32) <<< ((((v2 / (65536 : Int64)) - (v2 / (65536 : Int64)) / v5.toInt64 * v5.toInt64).toInt32) &&& 31)))), (11, .int (((v8 / (65536 : Int64)) - (v8 / (65536 : Int64)) / (100 : Int64) * (100 : Int64)).toInt32)), (4, .long v8), (10, .int (((v2 / (65536 : Int64)) - (v2 / (65536 : Int64)) / v5.toInt64 * v5.toInt64).toInt32)), (0, .ref (gB G + r0)), (1, .int x1), (2, .int x2), (3, .int x3)]) C 10 dX12_wander_194 rfl (congrArg (fun z => x9 + z) (show Int32.ofInt (1) = (1 : Int32) by decide)) (by decide) rfl ?_
          refine ww_goto (pc := 197) (tgt := 79) C dX12_wander_197 (by decide) ?_
          have hf := xsj hf
          subst hf
          refine ww_sub [7, 8, 9, 10, 5, 3, 1, 2, 0] rfl ?_
          exact hk.1 (v8, x6 ^^^ ((1 : Int32) <<< ((((v2 / (65536 : Int64)) - (v2 / (65536 : Int64)) / v5.toInt64 * v5.toInt64).toInt32) &&& 31)), v23, x8 + (1 : Int32), x9 + (1 : Int32)) rfl
      · have hf := xin q hf
        refine ww_goto (pc := 158) (tgt := 194) C dX12_wander_158 (by decide) ?_
        refine ww_iinc (pc := 194) (v := x9 + (1 : Int32)) (lv' := [(9, .int (x9 + (1 : Int32))), (11, .int (((v8 / (65536 : Int64)) - (v8 / (65536 : Int64)) / (100 : Int64) * (100 : Int64)).toInt32)), (4, .long v8), (10, .int (((v2 / (65536 : Int64)) - (v2 / (65536 : Int64)) / v5.toInt64 * v5.toInt64).toInt32)), (0, .ref (gB G + r0)), (1, .int x1), (2, .int x2), (3, .int x3), (6, .int x6), (7, .int x7), (8, .int x8)]) C 10 dX12_wander_194 rfl (congrArg (fun z => x9 + z) (show Int32.ofInt (1) = (1 : Int32) by decide)) (by decide) rfl ?_
        refine ww_goto (pc := 197) (tgt := 79) C dX12_wander_197 (by decide) ?_
        have hf := xsj hf
        subst hf
        refine ww_sub [4, 5, 6, 7, 2, 8, 9, 10, 0] rfl ?_
        exact hk.1 (v8, x6, x7, x8, x9 + (1 : Int32)) rfl
theorem s_X12_wander_e {G : XG} (C : XC G cX12_wander RX12 (some .int) 12 4 97) {σ : XS} {r0 : Nat} {x1 : Int32} {x2 : Int32} {x3 : Int32} {x : Int32 × XS} (hf : f_X12_wander σ r0 x1 x2 x3 = some x) (hk : XEnd G (some (.int x.1)) x.2) : WW G 0 [(0, .ref (gB G + r0)), (1, .int x1), (2, .int x2), (3, .int x3)] [] σ := by
  refine ww_aload_n (pc := 0) C 0 dX12_wander_0 rfl ?_
  obtain ⟨_, e1, hf⟩ := xbd hf
  obtain ⟨v3, e2, hf⟩ := xbd hf
  refine ww_callVi (pc := 1) (as := []) (st := []) C (k_X12_sites (l := gl G) (E := gE G) (hb := gB G) (σ := σ) e2) rfl (by decide) xc_X12_193 q1496 qp136 (xck_spec e1) rfl (by decide) (xst4 (Nat.le_of_ble_eq_true rfl)) xsame.rf.le xsame.rf.lim dX12_wander_1 ?_
  refine ww_if_eq (pc := 4) (tgt := 37) C dX12_wander_4 (by decide) (fun q => ?_) (fun q => ?_)
  · have hf := xip q hf
    refine ww_ldcw (pc := 37) C q1597 dX12_wander_37 ?_
    have hf := xsj hf
    subst hf
    exact ww_iret (pc := 40) C hk dX12_wander_40
  · have hf := xin q hf
    refine ww_iload_n (pc := 7) C 1 dX12_wander_7 rfl ?_
    refine ww_iconst (pc := 8) (v := (0 : Int32)) C dX12_wander_8 (by decide) ?_
    refine ww_sipush (pc := 9) (v := (200 : Int32)) C dX12_wander_9 (by decide) ?_
    obtain ⟨v5, e4, hf⟩ := xbd hf
    refine ww_callSi (pc := 12) (as := [.int x1, .int (0 : Int32), .int (200 : Int32)]) (st := []) C (k_X12_in (l := gl G) (E := gE G) (hb := gB G) (σ := σ) e4) xc_X12_213 q1473 rfl (by decide) (xst4 (Nat.le_of_ble_eq_true rfl)) xsame.rf.le xsame.rf.lim dX12_wander_12 ?_
    refine ww_if_eq (pc := 15) (tgt := 37) C dX12_wander_15 (by decide) (fun q => ?_) (fun q => ?_)
    · have hf := xip q hf
      refine ww_ldcw (pc := 37) C q1597 dX12_wander_37 ?_
      have hf := xsj hf
      subst hf
      exact ww_iret (pc := 40) C hk dX12_wander_40
    · have hf := xin q hf
      refine ww_iload_n (pc := 18) C 2 dX12_wander_18 rfl ?_
      refine ww_iconst (pc := 19) (v := (0 : Int32)) C dX12_wander_19 (by decide) ?_
      refine ww_bipush (pc := 20) (v := (100 : Int32)) C dX12_wander_20 (by decide) ?_
      obtain ⟨v7, e6, hf⟩ := xbd hf
      refine ww_callSi (pc := 22) (as := [.int x2, .int (0 : Int32), .int (100 : Int32)]) (st := []) C (k_X12_in (l := gl G) (E := gE G) (hb := gB G) (σ := σ) e6) xc_X12_213 q1473 rfl (by decide) (xst4 (Nat.le_of_ble_eq_true rfl)) xsame.rf.le xsame.rf.lim dX12_wander_22 ?_
      refine ww_if_eq (pc := 25) (tgt := 37) C dX12_wander_25 (by decide) (fun q => ?_) (fun q => ?_)
      · have hf := xip q hf
        refine ww_ldcw (pc := 37) C q1597 dX12_wander_37 ?_
        have hf := xsj hf
        subst hf
        exact ww_iret (pc := 40) C hk dX12_wander_40
      · have hf := xin q hf
        refine ww_iload_n (pc := 28) C 3 dX12_wander_28 rfl ?_
        refine ww_iconst (pc := 29) (v := (0 : Int32)) C dX12_wander_29 (by decide) ?_
        refine ww_iconst (pc := 30) (v := (2 : Int32)) C dX12_wander_30 (by decide) ?_
        obtain ⟨v9, e8, hf⟩ := xbd hf
        refine ww_callSi (pc := 31) (as := [.int x3, .int (0 : Int32), .int (2 : Int32)]) (st := []) C (k_X12_in (l := gl G) (E := gE G) (hb := gB G) (σ := σ) e8) xc_X12_213 q1473 rfl (by decide) (xst4 (Nat.le_of_ble_eq_true rfl)) xsame.rf.le xsame.rf.lim dX12_wander_31 ?_
        refine ww_if_ne (pc := 34) (tgt := 41) C dX12_wander_34 (by decide) (fun q => ?_) (fun q => ?_)
        · have hf := xin q hf
          refine ww_aload_n (pc := 41) C 0 dX12_wander_41 rfl ?_
          obtain ⟨_, e10, hf⟩ := xbd hf
          obtain ⟨σ12, e11, hf⟩ := xbd hf
          refine ww_callVv (pc := 42) (as := []) (st := []) C (k_X12_knows (l := gl G) (E := gE G) (hb := gB G) (σ := σ) e11) rfl (by decide) xc_X12_261 q1551 qp140 (xck_spec e10) rfl (by decide) (xst4 (Nat.le_of_ble_eq_true rfl)) (m_X12_knows e11).le (m_X12_knows e11).lim dX12_wander_42 ?_
          refine ww_aload_n (pc := 45) C 0 dX12_wander_45 rfl ?_
          obtain ⟨z14, e13, hf⟩ := xbd hf
          refine gf_X12_40 (pc := 46) C e13 dX12_wander_46 ?_
          refine ww_bipush (pc := 49) (v := (65 : Int32)) C dX12_wander_49 (by decide) ?_
          obtain ⟨v16, e15, hf⟩ := xbd hf
          refine ww_iald (pc := 51) C e15 dX12_wander_51 ?_
          refine ww_i2l (pc := 52) (v := v16.toInt64) C dX12_wander_52 rfl ?_
          refine ww_lstore (pc := 53) (lv' := [(4, .long v16.toInt64), (0, .ref (gB G + r0)), (1, .int x1), (2, .int x2), (3, .int x3)]) C dX12_wander_53 (by decide) rfl ?_
          refine ww_aload_n (pc := 55) C 1 dX12_wander_55 rfl ?_
          obtain ⟨z18, e17, hf⟩ := xbd hf
          refine gf_X12_40 (pc := 56) C e17 dX12_wander_56 ?_
          refine ww_bipush (pc := 59) (v := (64 : Int32)) C dX12_wander_59 (by decide) ?_
          obtain ⟨v20, e19, hf⟩ := xbd hf
          refine ww_iald (pc := 61) C e19 dX12_wander_61 ?_
          refine ww_istore (pc := 62) (lv' := [(6, .int v20), (4, .long v16.toInt64), (0, .ref (gB G + r0)), (1, .int x1), (2, .int x2), (3, .int x3)]) C dX12_wander_62 (by decide) rfl ?_
          refine ww_aload_n (pc := 64) C 2 dX12_wander_64 rfl ?_
          obtain ⟨z22, e21, hf⟩ := xbd hf
          refine gf_X12_57 (pc := 65) C e21 dX12_wander_65 ?_
          refine ww_iload (pc := 68) C 0 dX12_wander_68 rfl ?_
          obtain ⟨v24, e23, hf⟩ := xbd hf
          refine ww_iald (pc := 70) C e23 dX12_wander_70 ?_
          refine ww_istore (pc := 71) (lv' := [(7, .int v24), (6, .int v20), (4, .long v16.toInt64), (0, .ref (gB G + r0)), (1, .int x1), (2, .int x2), (3, .int x3)]) C dX12_wander_71 (by decide) rfl ?_
          refine ww_iconst (pc := 73) (v := (0 : Int32)) C dX12_wander_73 (by decide) ?_
          refine ww_istore (pc := 74) (lv' := [(8, .int (0 : Int32)), (7, .int v24), (6, .int v20), (4, .long v16.toInt64), (0, .ref (gB G + r0)), (1, .int x1), (2, .int x2), (3, .int x3)]) C dX12_wander_74 (by decide) rfl ?_
          refine ww_iconst (pc := 76) (v := (0 : Int32)) C dX12_wander_76 (by decide) ?_
          refine ww_istore (pc := 77) (lv' := [(9, .int (0 : Int32)), (8, .int (0 : Int32)), (7, .int v24), (6, .int v20), (4, .long v16.toInt64), (0, .ref (gB G + r0)), (1, .int x1), (2, .int x2), (3, .int x3)]) C dX12_wander_77 (by decide) rfl ?_
          refine ww_sub [5, 6, 7, 8, 4, 3, 2, 1, 0] rfl ?_
          exact s_X12_wander_l79 C (a := (v16.toInt64, v20, v24, (0 : Int32), (0 : Int32))) hf hk
        · have hf := xip q hf
          refine ww_ldcw (pc := 37) C q1597 dX12_wander_37 ?_
          have hf := xsj hf
          subst hf
          exact ww_iret (pc := 40) C hk dX12_wander_40
theorem m_X12_wander {σ : XS} {r0 : Nat} {x1 : Int32} {x2 : Int32} {x3 : Int32} {x : Int32 × XS} (hf : f_X12_wander σ r0 x1 x2 x3 = some x) : xsame σ x.2 := by
  have hm := xsame.rf (σ := σ)
  obtain ⟨_, e1, hf⟩ := xbd hf
  obtain ⟨v3, e2, hf⟩ := xbd hf
  by_cases q : v3 = 0
  · have hf := xip q hf
    have hf := xsj hf
    subst hf
    exact hm
  · have hf := xin q hf
    obtain ⟨v5, e4, hf⟩ := xbd hf
    by_cases q : v5 = 0
    · have hf := xip q hf
      have hf := xsj hf
      subst hf
      exact hm
    · have hf := xin q hf
      obtain ⟨v7, e6, hf⟩ := xbd hf
      by_cases q : v7 = 0
      · have hf := xip q hf
        have hf := xsj hf
        subst hf
        exact hm
      · have hf := xin q hf
        obtain ⟨v9, e8, hf⟩ := xbd hf
        by_cases q : v9 = 0
        · have hf := xip q hf
          have hf := xsj hf
          subst hf
          exact hm
        · have hf := xin q hf
          obtain ⟨_, e10, hf⟩ := xbd hf
          obtain ⟨σ12, e11, hf⟩ := xbd hf
          have hm := hm.tr (m_X12_knows e11)
          obtain ⟨z14, e13, hf⟩ := xbd hf
          obtain ⟨v16, e15, hf⟩ := xbd hf
          obtain ⟨z18, e17, hf⟩ := xbd hf
          obtain ⟨v20, e19, hf⟩ := xbd hf
          obtain ⟨z22, e21, hf⟩ := xbd hf
          obtain ⟨v24, e23, hf⟩ := xbd hf
          exact hm.tr (m_X12_wander_l79 (a := (v16.toInt64, v20, v24, (0 : Int32), (0 : Int32))) hf)
theorem k_X12_wander {l : Launch} {E : XD} {hb : Nat} {σ : XS} {r0 : Nat} {x1 : Int32} {x2 : Int32} {x3 : Int32} {x : Int32 × XS} (h : f_X12_wander σ r0 x1 x2 x3 = some x) : XM l yX12_wander cX12_wander 12 (some .int) 4 97 E hb [.ref (hb + r0), .int x1, .int x2, .int x3] σ (some (.int x.1)) x.2 := by
  refine xm_of (by decide) (Nat.le_of_ble_eq_true rfl) (m_X12_wander h).le (fun G hG C hl hQ => ?_)
  obtain ⟨rfl, rfl, rfl, hN⟩ := hG
  exact s_X12_wander_e C h hQ
