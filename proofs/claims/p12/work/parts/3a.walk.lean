noncomputable def f_L_law_j355 (L : Nat) (xs : Nat → Int32) (σ : XS) (r1 : Nat) (r2 : Nat) (x3 : Int32) (t0 : Nat) (t1 : Int32) (t2 : Int32) : Option ((Int32 × XS) ⊕ (Int32 × XS)) := (xsq L xs (x3 + (3 : Int32))).bind fun v2 => (xck σ t0 12).bind fun _ => (f_X12_tie σ t0 t1 t2 v2).bind fun (v6, σ5) => some (.inl (x3 + (6 : Int32), σ5))
noncomputable def f_L_law_j327 (L : Nat) (xs : Nat → Int32) (σ : XS) (r1 : Nat) (r2 : Nat) (x3 : Int32) (t0 : Nat) (t1 : Int32) (t2 : Int32) : Option ((Int32 × XS) ⊕ (Int32 × XS)) := (xsq L xs (x3 + (3 : Int32))).bind fun v2 => (xck σ t0 11).bind fun _ => (f_X11_tie σ t0 t1 t2 v2).bind fun (v6, σ5) => (xsq L xs (x3 + (1 : Int32))).bind fun v8 => (xsq L xs (x3 + (2 : Int32))).bind fun v10 => if v10 = 0 then (f_L_law_j355 L xs σ5 r1 r2 x3 r2 v8 (0 : Int32)) else f_L_law_j355 L xs σ5 r1 r2 x3 r2 v8 (1 : Int32)
noncomputable def f_L_law_j552 (L : Nat) (xs : Nat → Int32) (σ : XS) (r1 : Nat) (r2 : Nat) (x3 : Int32) (t0 : Int32) : Option ((Int32 × XS) ⊕ (Int32 × XS)) := (xsq L xs (x3 + (1 : Int32))).bind fun v2 => (xsq L xs (x3 + (2 : Int32))).bind fun v4 => (xck σ r2 12).bind fun _ => (f_X12_level σ r2 v2 v4).bind fun (v8, σ7) => some (.inl (x3 + (6 : Int32), σ7))
noncomputable def f_L_law_j585 (L : Nat) (xs : Nat → Int32) (σ : XS) (r1 : Nat) (r2 : Nat) (x3 : Int32) (t0 : Int32) : Option ((Int32 × XS) ⊕ (Int32 × XS)) := (xsq L xs (x3 + (1 : Int32))).bind fun v2 => (xsq L xs (x3 + (2 : Int32))).bind fun v4 => (xck σ r2 12).bind fun _ => (f_X12_both σ r2 v2 v4).bind fun (v8, σ7) => some (.inl (x3 + (6 : Int32), σ7))
noncomputable def f_L_law_j613 (L : Nat) (xs : Nat → Int32) (σ : XS) (r1 : Nat) (r2 : Nat) (x3 : Int32) (t0 : Int32) : Option ((Int32 × XS) ⊕ (Int32 × XS)) := (xsq L xs (x3 + (1 : Int32))).bind fun v2 => (xck σ r2 12).bind fun _ => (f_X12_broken σ r2 v2).bind fun (v6, σ5) => some (.inl (x3 + (6 : Int32), σ5))
noncomputable def f_L_law_j636 (L : Nat) (xs : Nat → Int32) (σ : XS) (r1 : Nat) (r2 : Nat) (x3 : Int32) (t0 : Int32) : Option ((Int32 × XS) ⊕ (Int32 × XS)) := (xsq L xs (x3 + (1 : Int32))).bind fun v2 => (xck σ r2 12).bind fun _ => (f_X12_ground σ r2 v2).bind fun (v6, σ5) => some (.inl (x3 + (6 : Int32), σ5))
noncomputable def f_L_law_j674 (L : Nat) (xs : Nat → Int32) (σ : XS) (r1 : Nat) (r2 : Nat) (x3 : Int32) (t0 : Int32) : Option ((Int32 × XS) ⊕ (Int32 × XS)) := (xsq L xs (x3 + (1 : Int32))).bind fun v2 => (xsq L xs (x3 + (2 : Int32))).bind fun v4 => (xsq L xs (x3 + (3 : Int32))).bind fun v6 => (xsq L xs (x3 + (4 : Int32))).bind fun v8 => (xck σ r2 12).bind fun _ => (f_X12_pair σ r2 v2 v4 v6 v8).bind fun (v12, σ11) => some (.inl (x3 + (6 : Int32), σ11))
noncomputable def f_L_law_j717 (L : Nat) (xs : Nat → Int32) (σ : XS) (r1 : Nat) (r2 : Nat) (x3 : Int32) (t0 : Int32) : Option ((Int32 × XS) ⊕ (Int32 × XS)) := (xsq L xs (x3 + (1 : Int32))).bind fun v2 => (xsq L xs (x3 + (2 : Int32))).bind fun v4 => (xck σ r2 12).bind fun _ => (f_X12_mean σ r2 v2 v4).bind fun (v8, σ7) => some (.inl (x3 + (6 : Int32), σ7))
noncomputable def f_L_law_j745 (L : Nat) (xs : Nat → Int32) (σ : XS) (r1 : Nat) (r2 : Nat) (x3 : Int32) (t0 : Int32) : Option ((Int32 × XS) ⊕ (Int32 × XS)) := (xsq L xs (x3 + (1 : Int32))).bind fun v2 => (xck σ r2 12).bind fun _ => (f_X12_value σ r2 v2).bind fun (v6, σ5) => some (.inl (x3 + (6 : Int32), σ5))
noncomputable def f_L_law_j778 (L : Nat) (xs : Nat → Int32) (σ : XS) (r1 : Nat) (r2 : Nat) (x3 : Int32) (t0 : Int64) : Option ((Int32 × XS) ⊕ (Int32 × XS)) := (xsq L xs (x3 + (1 : Int32))).bind fun v2 => (xsq L xs (x3 + (2 : Int32))).bind fun v4 => (xsq L xs (x3 + (3 : Int32))).bind fun v6 => (xck σ r2 12).bind fun _ => (f_X12_joined σ r2 v2 v4 v6).bind fun (v10, σ9) => some (.inl (x3 + (6 : Int32), σ9))
noncomputable def f_L_law_j816 (L : Nat) (xs : Nat → Int32) (σ : XS) (r1 : Nat) (r2 : Nat) (x3 : Int32) (t0 : Int32) : Option ((Int32 × XS) ⊕ (Int32 × XS)) := (xsq L xs (x3 + (1 : Int32))).bind fun v2 => (xsq L xs (x3 + (2 : Int32))).bind fun v4 => (xck σ r2 12).bind fun _ => (f_X12_state σ r2 v2 v4).bind fun (v8, σ7) => some (.inl (x3 + (6 : Int32), σ7))
noncomputable def f_L_law_j867 (L : Nat) (xs : Nat → Int32) (σ : XS) (r1 : Nat) (r2 : Nat) (x3 : Int32) (t0 : Nat) (t1 : Int32) : Option ((Int32 × XS) ⊕ (Int32 × XS)) := (xck σ t0 12).bind fun _ => (f_X12_stuck σ t0 t1).bind fun (v4, σ3) => some (.inl (x3 + (6 : Int32), σ3))
noncomputable def f_L_law_j852 (L : Nat) (xs : Nat → Int32) (σ : XS) (r1 : Nat) (r2 : Nat) (x3 : Int32) (t0 : Int32) : Option ((Int32 × XS) ⊕ (Int32 × XS)) := (xsq L xs (x3 + (1 : Int32))).bind fun v2 => if v2 = 0 then (f_L_law_j867 L xs σ r1 r2 x3 r2 (0 : Int32)) else f_L_law_j867 L xs σ r1 r2 x3 r2 (1 : Int32)
noncomputable def f_L_law_j849 (L : Nat) (xs : Nat → Int32) (σ : XS) (r1 : Nat) (r2 : Nat) (x3 : Int32) (t0 : Nat) (t1 : Int32) : Option ((Int32 × XS) ⊕ (Int32 × XS)) := (xck σ t0 11).bind fun _ => (f_X11_stuck σ t0 t1).bind fun (v4, σ3) => f_L_law_j852 L xs σ3 r1 r2 x3 v4
noncomputable def f_L_law_j893 (L : Nat) (xs : Nat → Int32) (σ : XS) (r1 : Nat) (r2 : Nat) (x3 : Int32) (t0 : Int32) : Option ((Int32 × XS) ⊕ (Int32 × XS)) := (xsq L xs (x3 + (1 : Int32))).bind fun v2 => (xsq L xs (x3 + (2 : Int32))).bind fun v4 => (xsq L xs (x3 + (3 : Int32))).bind fun v6 => (xck σ r2 12).bind fun _ => (f_X12_rows σ r2 v2 v4 v6).bind fun v9 => some (.inl (x3 + (6 : Int32), σ))
noncomputable def f_L_law_j949 (L : Nat) (xs : Nat → Int32) (σ : XS) (r1 : Nat) (r2 : Nat) (x3 : Int32) (t0 : Int32) : Option ((Int32 × XS) ⊕ (Int32 × XS)) := (xsq L xs (x3 + (1 : Int32))).bind fun v2 => (xck σ r2 12).bind fun _ => (f_X12_overlap σ r2 v2).bind fun (v6, σ5) => some (.inl (x3 + (6 : Int32), σ5))
noncomputable def f_L_law_j972 (L : Nat) (xs : Nat → Int32) (σ : XS) (r1 : Nat) (r2 : Nat) (x3 : Int32) (t0 : Int32) : Option ((Int32 × XS) ⊕ (Int32 × XS)) := (xsq L xs (x3 + (1 : Int32))).bind fun v2 => (xck σ r2 12).bind fun _ => (f_X12_basin σ r2 v2).bind fun (v6, σ5) => some (.inl (x3 + (6 : Int32), σ5))
noncomputable def f_L_law_j1000 (L : Nat) (xs : Nat → Int32) (σ : XS) (r1 : Nat) (r2 : Nat) (x3 : Int32) (t0 : Int32) : Option ((Int32 × XS) ⊕ (Int32 × XS)) := (xsq L xs (x3 + (1 : Int32))).bind fun v2 => (xsq L xs (x3 + (2 : Int32))).bind fun v4 => (xck σ r2 12).bind fun _ => (f_X12_stiff σ r2 v2 v4).bind fun (v8, σ7) => some (.inl (x3 + (6 : Int32), σ7))
noncomputable def f_L_law_j1028 (L : Nat) (xs : Nat → Int32) (σ : XS) (r1 : Nat) (r2 : Nat) (x3 : Int32) (t0 : Int32) : Option ((Int32 × XS) ⊕ (Int32 × XS)) := (xsq L xs (x3 + (1 : Int32))).bind fun v2 => (xck σ r2 12).bind fun _ => (f_X12_hill σ r2 v2).bind fun (v6, σ5) => some (.inl (x3 + (6 : Int32), σ5))
noncomputable def f_L_law_j1056 (L : Nat) (xs : Nat → Int32) (σ : XS) (r1 : Nat) (r2 : Nat) (x3 : Int32) (t0 : Int32) : Option ((Int32 × XS) ⊕ (Int32 × XS)) := (xsq L xs (x3 + (1 : Int32))).bind fun v2 => (xsq L xs (x3 + (2 : Int32))).bind fun v4 => (xck σ r2 12).bind fun _ => (f_X12_pass σ r2 v2 v4).bind fun (v8, σ7) => some (.inl (x3 + (6 : Int32), σ7))
noncomputable def f_L_law_j1084 (L : Nat) (xs : Nat → Int32) (σ : XS) (r1 : Nat) (r2 : Nat) (x3 : Int32) (t0 : Int32) : Option ((Int32 × XS) ⊕ (Int32 × XS)) := (xsq L xs (x3 + (1 : Int32))).bind fun v2 => (xck σ r2 12).bind fun _ => (f_X12_lakes σ r2 v2).bind fun (v6, σ5) => some (.inl (x3 + (6 : Int32), σ5))
noncomputable def f_L_law_j1107 (L : Nat) (xs : Nat → Int32) (σ : XS) (r1 : Nat) (r2 : Nat) (x3 : Int32) (t0 : Int64) : Option ((Int32 × XS) ⊕ (Int32 × XS)) := (xsq L xs (x3 + (1 : Int32))).bind fun v2 => (xck σ r2 12).bind fun _ => (f_X12_down σ r2 v2).bind fun (v6, σ5) => some (.inl (x3 + (6 : Int32), σ5))
noncomputable def f_L_law_j1135 (L : Nat) (xs : Nat → Int32) (σ : XS) (r1 : Nat) (r2 : Nat) (x3 : Int32) (t0 : Int32) : Option ((Int32 × XS) ⊕ (Int32 × XS)) := (xsq L xs (x3 + (1 : Int32))).bind fun v2 => (xsq L xs (x3 + (2 : Int32))).bind fun v4 => (xck σ r2 12).bind fun _ => (f_X12_nearest σ r2 v2 v4).bind fun (v8, σ7) => some (.inl (x3 + (6 : Int32), σ7))
noncomputable def f_L_law_j1275 (L : Nat) (xs : Nat → Int32) (σ : XS) (r1 : Nat) (r2 : Nat) (x3 : Int32) (t0 : Int32) : Option ((Int32 × XS) ⊕ (Int32 × XS)) := (xsq L xs (x3 + (1 : Int32))).bind fun v2 => (xck σ r2 12).bind fun _ => (f_X12_count σ r2 v2).bind fun v5 => some (.inl (x3 + (6 : Int32), σ))
noncomputable def f_L_law_b18 (L : Nat) (xs : Nat → Int32) (r1 : Nat) (r2 : Nat) : Int32 × XS → Option ((Int32 × XS) ⊕ (Int32 × XS)) := fun a => match a with
  | (x3, σ) => if ((Int32.ofNat L) - (6 : Int32)) < x3 then ((some ((1 : Int32), σ)).map .inr) else (xsq L xs x3).bind fun v2 => xsw (v2 &&& (63 : Int32)) (0) [(xsq L xs (x3 + (1 : Int32))).bind fun v4 => (xsq L xs (x3 + (2 : Int32))).bind fun v6 => (xsq L xs (x3 + (3 : Int32))).bind fun v8 => (xsq L xs (x3 + (4 : Int32))).bind fun v10 => (xsq L xs (x3 + (5 : Int32))).bind fun v12 => (xck σ r1 11).bind fun _ => (f_X11_feed σ r1 v4 v6 v8 v10 v12).bind fun (v16, σ15) => (xsq L xs (x3 + (1 : Int32))).bind fun v18 => (xsq L xs (x3 + (2 : Int32))).bind fun v20 => (xsq L xs (x3 + (3 : Int32))).bind fun v22 => (xsq L xs (x3 + (4 : Int32))).bind fun v24 => (xsq L xs (x3 + (5 : Int32))).bind fun v26 => (xck σ15 r2 12).bind fun _ => (f_X12_feed σ15 r2 v18 v20 v22 v24 v26).bind fun (v30, σ29) => some (.inl (x3 + (6 : Int32), σ29)), (xsq L xs (x3 + (1 : Int32))).bind fun v4 => (xck σ r1 11).bind fun _ => (f_X11_back σ r1 v4).bind fun (v8, σ7) => (xsq L xs (x3 + (1 : Int32))).bind fun v10 => (xck σ7 r2 12).bind fun _ => (f_X12_back σ7 r2 v10).bind fun (v14, σ13) => some (.inl (x3 + (6 : Int32), σ13)), (xck σ r1 11).bind fun _ => (f_X11_read σ r1).bind fun (v6, σ5) => (xck σ5 r2 12).bind fun _ => (f_X12_read σ5 r2).bind fun (v10, σ9) => some (.inl (x3 + (6 : Int32), σ9)), (xck σ r1 11).bind fun _ => (f_X11_place σ r1).bind fun v5 => (xck σ r2 12).bind fun _ => (f_X12_place σ r2).bind fun v8 => some (.inl (x3 + (6 : Int32), σ)), (xsq L xs (x3 + (1 : Int32))).bind fun v4 => (xsq L xs (x3 + (2 : Int32))).bind fun v6 => if v6 = 0 then (f_L_law_j327 L xs σ r1 r2 x3 r1 v4 (0 : Int32)) else f_L_law_j327 L xs σ r1 r2 x3 r1 v4 (1 : Int32), (xsq L xs (x3 + (1 : Int32))).bind fun v4 => (xsq L xs (x3 + (2 : Int32))).bind fun v6 => (xck σ r1 11).bind fun _ => (f_X11_pull σ r1 v4 v6).bind fun (v10, σ9) => (xsq L xs (x3 + (1 : Int32))).bind fun v12 => (xsq L xs (x3 + (2 : Int32))).bind fun v14 => (xck σ9 r2 12).bind fun _ => (f_X12_pull σ9 r2 v12 v14).bind fun (v18, σ17) => some (.inl (x3 + (6 : Int32), σ17)), (xsq L xs (x3 + (1 : Int32))).bind fun v4 => (xsq L xs (x3 + (2 : Int32))).bind fun v6 => (xck σ r1 11).bind fun _ => (f_X11_pin σ r1 v4 v6).bind fun (v10, σ9) => (xsq L xs (x3 + (1 : Int32))).bind fun v12 => (xsq L xs (x3 + (2 : Int32))).bind fun v14 => (xck σ9 r2 12).bind fun _ => (f_X12_pin σ9 r2 v12 v14).bind fun (v18, σ17) => some (.inl (x3 + (6 : Int32), σ17)), (xsq L xs (x3 + (1 : Int32))).bind fun v4 => (xck σ r1 11).bind fun _ => (f_X11_glass σ r1 v4).bind fun (v8, σ7) => (xsq L xs (x3 + (1 : Int32))).bind fun v10 => (xck σ7 r2 12).bind fun _ => (f_X12_glass σ7 r2 v10).bind fun (v14, σ13) => some (.inl (x3 + (6 : Int32), σ13)), (xsq L xs (x3 + (1 : Int32))).bind fun v4 => (xck σ r1 11).bind fun _ => (f_X11_turn σ r1 v4).bind fun (v8, σ7) => (xsq L xs (x3 + (1 : Int32))).bind fun v10 => (xck σ7 r2 12).bind fun _ => (f_X12_turn σ7 r2 v10).bind fun (v14, σ13) => some (.inl (x3 + (6 : Int32), σ13)), (xck σ r1 11).bind fun _ => (f_X11_fall σ r1).bind fun (v6, σ5) => (xck σ5 r2 12).bind fun _ => (f_X12_fall σ5 r2).bind fun (v10, σ9) => some (.inl (x3 + (6 : Int32), σ9)), (xck σ r1 11).bind fun _ => (f_X11_undo σ r1).bind fun (v6, σ5) => (xck σ5 r2 12).bind fun _ => (f_X12_undo σ5 r2).bind fun (v10, σ9) => if v6 = v10 then (some (.inl (x3 + (6 : Int32), σ9))) else (some ((0 : Int32), σ9)).map .inr, (xsq L xs (x3 + (1 : Int32))).bind fun v4 => (xsq L xs (x3 + (2 : Int32))).bind fun v6 => (xck σ r1 11).bind fun _ => (f_X11_site σ r1 v4 v6).bind fun v9 => (xsq L xs (x3 + (1 : Int32))).bind fun v11 => (xsq L xs (x3 + (2 : Int32))).bind fun v13 => (xck σ r2 12).bind fun _ => (f_X12_site σ r2 v11 v13).bind fun v16 => some (.inl (x3 + (6 : Int32), σ)), (xsq L xs (x3 + (1 : Int32))).bind fun v4 => (xsq L xs (x3 + (2 : Int32))).bind fun v6 => (xck σ r1 11).bind fun _ => (f_X11_level σ r1 v4 v6).bind fun (v10, σ9) => f_L_law_j552 L xs σ9 r1 r2 x3 v10, (xsq L xs (x3 + (1 : Int32))).bind fun v4 => (xsq L xs (x3 + (2 : Int32))).bind fun v6 => (xck σ r1 11).bind fun _ => (f_X11_both σ r1 v4 v6).bind fun (v10, σ9) => f_L_law_j585 L xs σ9 r1 r2 x3 v10, (xsq L xs (x3 + (1 : Int32))).bind fun v4 => (xck σ r1 11).bind fun _ => (f_X11_broken σ r1 v4).bind fun (v8, σ7) => f_L_law_j613 L xs σ7 r1 r2 x3 v8, (xsq L xs (x3 + (1 : Int32))).bind fun v4 => (xck σ r1 11).bind fun _ => (f_X11_ground σ r1 v4).bind fun (v8, σ7) => f_L_law_j636 L xs σ7 r1 r2 x3 v8, (xsq L xs (x3 + (1 : Int32))).bind fun v4 => (xsq L xs (x3 + (2 : Int32))).bind fun v6 => (xsq L xs (x3 + (3 : Int32))).bind fun v8 => (xsq L xs (x3 + (4 : Int32))).bind fun v10 => (xck σ r1 11).bind fun _ => (f_X11_pair σ r1 v4 v6 v8 v10).bind fun (v14, σ13) => f_L_law_j674 L xs σ13 r1 r2 x3 v14, (xsq L xs (x3 + (1 : Int32))).bind fun v4 => (xsq L xs (x3 + (2 : Int32))).bind fun v6 => (xck σ r1 11).bind fun _ => (f_X11_mean σ r1 v4 v6).bind fun (v10, σ9) => f_L_law_j717 L xs σ9 r1 r2 x3 v10, (xsq L xs (x3 + (1 : Int32))).bind fun v4 => (xck σ r1 11).bind fun _ => (f_X11_value σ r1 v4).bind fun (v8, σ7) => f_L_law_j745 L xs σ7 r1 r2 x3 v8, (xsq L xs (x3 + (1 : Int32))).bind fun v4 => (xsq L xs (x3 + (2 : Int32))).bind fun v6 => (xsq L xs (x3 + (3 : Int32))).bind fun v8 => (xck σ r1 11).bind fun _ => (f_X11_joined σ r1 v4 v6 v8).bind fun (v12, σ11) => f_L_law_j778 L xs σ11 r1 r2 x3 v12, (xsq L xs (x3 + (1 : Int32))).bind fun v4 => (xsq L xs (x3 + (2 : Int32))).bind fun v6 => (xck σ r1 11).bind fun _ => (f_X11_state σ r1 v4 v6).bind fun (v10, σ9) => f_L_law_j816 L xs σ9 r1 r2 x3 v10, (xsq L xs (x3 + (1 : Int32))).bind fun v4 => if v4 = 0 then (f_L_law_j849 L xs σ r1 r2 x3 r1 (0 : Int32)) else f_L_law_j849 L xs σ r1 r2 x3 r1 (1 : Int32), (xsq L xs (x3 + (1 : Int32))).bind fun v4 => (xsq L xs (x3 + (2 : Int32))).bind fun v6 => (xsq L xs (x3 + (3 : Int32))).bind fun v8 => (xck σ r1 11).bind fun _ => (f_X11_rows σ r1 v4 v6 v8).bind fun (v12, σ11) => f_L_law_j893 L xs σ11 r1 r2 x3 v12, (xsq L xs (x3 + (1 : Int32))).bind fun v4 => (xck σ r1 11).bind fun _ => (f_X11_square σ r1 v4).bind fun v7 => (xsq L xs (x3 + (1 : Int32))).bind fun v9 => (xck σ r2 12).bind fun _ => (f_X12_square σ r2 v9).bind fun v12 => some (.inl (x3 + (6 : Int32), σ)), (xsq L xs (x3 + (1 : Int32))).bind fun v4 => (xck σ r1 11).bind fun _ => (f_X11_overlap σ r1 v4).bind fun (v8, σ7) => f_L_law_j949 L xs σ7 r1 r2 x3 v8, (xsq L xs (x3 + (1 : Int32))).bind fun v4 => (xck σ r1 11).bind fun _ => (f_X11_basin σ r1 v4).bind fun (v8, σ7) => f_L_law_j972 L xs σ7 r1 r2 x3 v8, (xsq L xs (x3 + (1 : Int32))).bind fun v4 => (xsq L xs (x3 + (2 : Int32))).bind fun v6 => (xck σ r1 11).bind fun _ => (f_X11_stiff σ r1 v4 v6).bind fun (v10, σ9) => f_L_law_j1000 L xs σ9 r1 r2 x3 v10, (xsq L xs (x3 + (1 : Int32))).bind fun v4 => (xck σ r1 11).bind fun _ => (f_X11_hill σ r1 v4).bind fun (v8, σ7) => f_L_law_j1028 L xs σ7 r1 r2 x3 v8, (xsq L xs (x3 + (1 : Int32))).bind fun v4 => (xsq L xs (x3 + (2 : Int32))).bind fun v6 => (xck σ r1 11).bind fun _ => (f_X11_pass σ r1 v4 v6).bind fun (v10, σ9) => f_L_law_j1056 L xs σ9 r1 r2 x3 v10, (xsq L xs (x3 + (1 : Int32))).bind fun v4 => (xck σ r1 11).bind fun _ => (f_X11_lakes σ r1 v4).bind fun (v8, σ7) => f_L_law_j1084 L xs σ7 r1 r2 x3 v8, (xsq L xs (x3 + (1 : Int32))).bind fun v4 => (xck σ r1 11).bind fun _ => (f_X11_down σ r1 v4).bind fun (v8, σ7) => f_L_law_j1107 L xs σ7 r1 r2 x3 v8, (xsq L xs (x3 + (1 : Int32))).bind fun v4 => (xsq L xs (x3 + (2 : Int32))).bind fun v6 => (xck σ r1 11).bind fun _ => (f_X11_nearest σ r1 v4 v6).bind fun (v10, σ9) => f_L_law_j1135 L xs σ9 r1 r2 x3 v10, (xsq L xs (x3 + (1 : Int32))).bind fun v4 => (xck σ r1 11).bind fun _ => (f_X11_cluster σ r1 v4).bind fun v7 => (xsq L xs (x3 + (1 : Int32))).bind fun v9 => (xck σ r2 12).bind fun _ => (f_X12_cluster σ r2 v9).bind fun v12 => some (.inl (x3 + (6 : Int32), σ)), (xsq L xs (x3 + (1 : Int32))).bind fun v4 => (xsq L xs (x3 + (2 : Int32))).bind fun v6 => (xsq L xs (x3 + (3 : Int32))).bind fun v8 => (xck σ r1 11).bind fun _ => (f_X11_wander σ r1 v4 v6 v8).bind fun (v12, σ11) => (xsq L xs (x3 + (1 : Int32))).bind fun v14 => (xsq L xs (x3 + (2 : Int32))).bind fun v16 => (xsq L xs (x3 + (3 : Int32))).bind fun v18 => (xck σ11 r2 12).bind fun _ => (f_X12_wander σ11 r2 v14 v16 v18).bind fun (v22, σ21) => some (.inl (x3 + (6 : Int32), σ21)), (xsq L xs (x3 + (1 : Int32))).bind fun v4 => (xck σ r1 11).bind fun _ => (f_X11_hold σ r1 v4).bind fun (v8, σ7) => (xsq L xs (x3 + (1 : Int32))).bind fun v10 => (xck σ7 r2 12).bind fun _ => (f_X12_hold σ7 r2 v10).bind fun (v14, σ13) => some (.inl (x3 + (6 : Int32), σ13)), (xsq L xs (x3 + (1 : Int32))).bind fun v4 => (xck σ r1 11).bind fun _ => (f_X11_restore σ r1 v4).bind fun (v8, σ7) => (xsq L xs (x3 + (1 : Int32))).bind fun v10 => (xck σ7 r2 12).bind fun _ => (f_X12_restore σ7 r2 v10).bind fun (v14, σ13) => some (.inl (x3 + (6 : Int32), σ13)), (xsq L xs (x3 + (1 : Int32))).bind fun v4 => (xck σ r1 11).bind fun _ => (f_X11_count σ r1 v4).bind fun (v8, σ7) => f_L_law_j1275 L xs σ7 r1 r2 x3 v8] (some (.inl (x3 + (6 : Int32), σ)))
noncomputable def f_L_law_j15 (L : Nat) (xs : Nat → Int32) (σ : XS) (r1 : Nat) (t0 : Nat) : Option (Int32 × XS) := xloop (f_L_law_b18 L xs r1 t0) ((0 : Int32), σ)
noncomputable def f_L_law_j11 (L : Nat) (xs : Nat → Int32) (σ : XS) (r1 : Nat) (t0 : Nat) : Option (Int32 × XS) := (xck σ t0 12).bind fun _ => (f_X12_init σ t0).bind fun σ3 => f_L_law_j15 L xs σ3 r1 t0
noncomputable def f_L_law_j7 (L : Nat) (xs : Nat → Int32) (σ : XS) (t0 : Nat) : Option (Int32 × XS) := (xnO σ 12 45).bind fun (z2, σ3) => f_L_law_j11 L xs σ3 t0 z2
noncomputable def f_L_law_j3 (L : Nat) (xs : Nat → Int32) (σ : XS) (t0 : Nat) : Option (Int32 × XS) := (xck σ t0 11).bind fun _ => (f_X11_init σ t0).bind fun σ3 => f_L_law_j7 L xs σ3 t0
noncomputable def f_L_law (L : Nat) (xs : Nat → Int32) (σ : XS) : Option (Int32 × XS) := (xnO σ 11 16).bind fun (z2, σ3) => f_L_law_j3 L xs σ3 z2
theorem s_L_law_j355 {G : XG} (C : XC G cL_law RL (some .boolean) 4 13 468) {b L : Nat} {xs : Nat → Int32} (hS : XScr G b L xs) {σ : XS} {r1 : Nat} {r2 : Nat} {x3 : Int32} {t0 : Nat} {t1 : Int32} {t2 : Int32} {x : ((Int32 × XS) ⊕ (Int32 × XS))} (hf : f_L_law_j355 L xs σ r1 r2 x3 t0 t1 t2 = some x) (hk : (∀ a' : Int32 × XS, x = .inl a' → XUp G a'.2 ∧ WW G 18 [(0, .ref b), (1, .ref (gB G + r1)), (2, .ref (gB G + r2)), (3, .int a'.1)] [] a'.2) ∧ (∀ b1 : Int32 × XS, x = .inr b1 → XEndL G b b1)) : WW G 355 [(0, .ref b), (1, .ref (gB G + r1)), (2, .ref (gB G + r2)), (3, .int x3)] [.int t2, .int t1, .ref (gB G + t0)] σ := by
  refine ww_aload_n (pc := 355) C 0 dL_law_355 rfl ?_
  refine ww_iload_n (pc := 356) C 3 dL_law_356 rfl ?_
  refine ww_iconst (pc := 357) (v := (3 : Int32)) C dL_law_357 (by decide) ?_
  refine ww_iadd (pc := 358) C dL_law_358 ?_
  obtain ⟨v2, e1, hf⟩ := xbd hf
  refine ww_sld (pc := 359) C hS e1 dL_law_359 ?_
  obtain ⟨_, e3, hf⟩ := xbd hf
  obtain ⟨⟨v6, σ5⟩, e4, hf⟩ := xbd hf
  dsimp only at hf
  refine ww_callVi (pc := 360) (as := [.int t1, .int t2, .int v2]) (st := []) C (k_X12_tie (l := gl G) (E := gE G) (hb := gB G) (σ := σ) e4) rfl (by decide) xc_L_36 q1503 q1504 (xck_spec e3) rfl (by decide) (xst4 (Nat.le_of_ble_eq_true rfl)) (m_X12_tie e4).le (m_X12_tie e4).lim dL_law_360 ?_
  refine ww_pop (pc := 363) C dL_law_363 rfl ?_
  refine ww_goto (pc := 364) (tgt := 1289) C dL_law_364 (by decide) ?_
  refine ww_iinc (pc := 1289) (v := x3 + (6 : Int32)) (lv' := [(3, .int (x3 + (6 : Int32))), (0, .ref b), (1, .ref (gB G + r1)), (2, .ref (gB G + r2))]) C 3 dL_law_1289 rfl (congrArg (fun z => x3 + z) (show Int32.ofInt (6) = (6 : Int32) by decide)) (by decide) rfl ?_
  refine ww_goto (pc := 1292) (tgt := 18) C dL_law_1292 (by decide) ?_
  have hf := xsj hf
  subst hf
  refine ww_sub [1, 2, 3, 0] rfl ?_
  exact (hk.1 (x3 + (6 : Int32), σ5) rfl).2
theorem m_L_law_j355 {L : Nat} {xs : Nat → Int32} {σ : XS} {r1 : Nat} {r2 : Nat} {x3 : Int32} {t0 : Nat} {t1 : Int32} {t2 : Int32} {x : ((Int32 × XS) ⊕ (Int32 × XS))} (hf : f_L_law_j355 L xs σ r1 r2 x3 t0 t1 t2 = some x) : (∀ a' : Int32 × XS, x = .inl a' → xext σ a'.2) ∧ (∀ b1 : Int32 × XS, x = .inr b1 → xext σ b1.2) := by
  have hm := xext.rf (σ := σ)
  obtain ⟨v2, e1, hf⟩ := xbd hf
  obtain ⟨_, e3, hf⟩ := xbd hf
  obtain ⟨⟨v6, σ5⟩, e4, hf⟩ := xbd hf
  dsimp only at hf
  have hm := hm.tr (m_X12_tie e4).ext
  have hf := xsj hf
  subst hf
  exact ⟨fun a' e => (by have h9 := Sum.inl.inj e; subst h9; exact hm), fun b e => xnc1 e⟩
theorem s_L_law_j327 {G : XG} (C : XC G cL_law RL (some .boolean) 4 13 468) {b L : Nat} {xs : Nat → Int32} (hS : XScr G b L xs) {σ : XS} {r1 : Nat} {r2 : Nat} {x3 : Int32} {t0 : Nat} {t1 : Int32} {t2 : Int32} {x : ((Int32 × XS) ⊕ (Int32 × XS))} (hf : f_L_law_j327 L xs σ r1 r2 x3 t0 t1 t2 = some x) (hk : (∀ a' : Int32 × XS, x = .inl a' → XUp G a'.2 ∧ WW G 18 [(0, .ref b), (1, .ref (gB G + r1)), (2, .ref (gB G + r2)), (3, .int a'.1)] [] a'.2) ∧ (∀ b1 : Int32 × XS, x = .inr b1 → XEndL G b b1)) : WW G 327 [(0, .ref b), (1, .ref (gB G + r1)), (2, .ref (gB G + r2)), (3, .int x3)] [.int t2, .int t1, .ref (gB G + t0)] σ := by
  refine ww_aload_n (pc := 327) C 0 dL_law_327 rfl ?_
  refine ww_iload_n (pc := 328) C 3 dL_law_328 rfl ?_
  refine ww_iconst (pc := 329) (v := (3 : Int32)) C dL_law_329 (by decide) ?_
  refine ww_iadd (pc := 330) C dL_law_330 ?_
  obtain ⟨v2, e1, hf⟩ := xbd hf
  refine ww_sld (pc := 331) C hS e1 dL_law_331 ?_
  obtain ⟨_, e3, hf⟩ := xbd hf
  obtain ⟨⟨v6, σ5⟩, e4, hf⟩ := xbd hf
  dsimp only at hf
  refine ww_callVi (pc := 332) (as := [.int t1, .int t2, .int v2]) (st := []) C (k_X11_tie (l := gl G) (E := gE G) (hb := gB G) (σ := σ) e4) rfl (by decide) xc_L_32 q690 q691 (xck_spec e3) rfl (by decide) (xst4 (Nat.le_of_ble_eq_true rfl)) (m_X11_tie e4).le (m_X11_tie e4).lim dL_law_332 ?_
  refine ww_pop (pc := 335) C dL_law_335 rfl ?_
  refine ww_aload_n (pc := 336) C 2 dL_law_336 rfl ?_
  refine ww_aload_n (pc := 337) C 0 dL_law_337 rfl ?_
  refine ww_iload_n (pc := 338) C 3 dL_law_338 rfl ?_
  refine ww_iconst (pc := 339) (v := (1 : Int32)) C dL_law_339 (by decide) ?_
  refine ww_iadd (pc := 340) C dL_law_340 ?_
  obtain ⟨v8, e7, hf⟩ := xbd hf
  refine ww_sld (pc := 341) C hS e7 dL_law_341 ?_
  refine ww_aload_n (pc := 342) C 0 dL_law_342 rfl ?_
  refine ww_iload_n (pc := 343) C 3 dL_law_343 rfl ?_
  refine ww_iconst (pc := 344) (v := (2 : Int32)) C dL_law_344 (by decide) ?_
  refine ww_iadd (pc := 345) C dL_law_345 ?_
  obtain ⟨v10, e9, hf⟩ := xbd hf
  refine ww_sld (pc := 346) C hS e9 dL_law_346 ?_
  refine ww_if_eq (pc := 347) (tgt := 354) C dL_law_347 (by decide) (fun q => ?_) (fun q => ?_)
  · have hf := xip q hf
    refine ww_iconst (pc := 354) (v := (0 : Int32)) C dL_law_354 (by decide) ?_
    refine ww_sub [0, 1, 2, 3] rfl ?_
    exact s_L_law_j355 C hS hf hk
  · have hf := xin q hf
    refine ww_iconst (pc := 350) (v := (1 : Int32)) C dL_law_350 (by decide) ?_
    refine ww_goto (pc := 351) (tgt := 355) C dL_law_351 (by decide) ?_
    refine ww_sub [0, 1, 2, 3] rfl ?_
    exact s_L_law_j355 C hS hf hk
theorem m_L_law_j327 {L : Nat} {xs : Nat → Int32} {σ : XS} {r1 : Nat} {r2 : Nat} {x3 : Int32} {t0 : Nat} {t1 : Int32} {t2 : Int32} {x : ((Int32 × XS) ⊕ (Int32 × XS))} (hf : f_L_law_j327 L xs σ r1 r2 x3 t0 t1 t2 = some x) : (∀ a' : Int32 × XS, x = .inl a' → xext σ a'.2) ∧ (∀ b1 : Int32 × XS, x = .inr b1 → xext σ b1.2) := by
  have hm := xext.rf (σ := σ)
  obtain ⟨v2, e1, hf⟩ := xbd hf
  obtain ⟨_, e3, hf⟩ := xbd hf
  obtain ⟨⟨v6, σ5⟩, e4, hf⟩ := xbd hf
  dsimp only at hf
  have hm := hm.tr (m_X11_tie e4).ext
  obtain ⟨v8, e7, hf⟩ := xbd hf
  obtain ⟨v10, e9, hf⟩ := xbd hf
  by_cases q : v10 = 0
  · have hf := xip q hf
    exact ⟨fun a' e => hm.tr ((m_L_law_j355 hf).1 a' e), fun b1 eb1 => hm.tr ((m_L_law_j355 hf).2 b1 eb1)⟩
  · have hf := xin q hf
    exact ⟨fun a' e => hm.tr ((m_L_law_j355 hf).1 a' e), fun b1 eb1 => hm.tr ((m_L_law_j355 hf).2 b1 eb1)⟩
theorem s_L_law_j552 {G : XG} (C : XC G cL_law RL (some .boolean) 4 13 468) {b L : Nat} {xs : Nat → Int32} (hS : XScr G b L xs) {σ : XS} {r1 : Nat} {r2 : Nat} {x3 : Int32} {t0 : Int32} {x : ((Int32 × XS) ⊕ (Int32 × XS))} (hf : f_L_law_j552 L xs σ r1 r2 x3 t0 = some x) (hk : (∀ a' : Int32 × XS, x = .inl a' → XUp G a'.2 ∧ WW G 18 [(0, .ref b), (1, .ref (gB G + r1)), (2, .ref (gB G + r2)), (3, .int a'.1)] [] a'.2) ∧ (∀ b1 : Int32 × XS, x = .inr b1 → XEndL G b b1)) : WW G 552 [(0, .ref b), (1, .ref (gB G + r1)), (2, .ref (gB G + r2)), (3, .int x3)] [.int t0] σ := by
  refine ww_pop (pc := 552) C dL_law_552 rfl ?_
  refine ww_aload_n (pc := 553) C 2 dL_law_553 rfl ?_
  refine ww_aload_n (pc := 554) C 0 dL_law_554 rfl ?_
  refine ww_iload_n (pc := 555) C 3 dL_law_555 rfl ?_
  refine ww_iconst (pc := 556) (v := (1 : Int32)) C dL_law_556 (by decide) ?_
  refine ww_iadd (pc := 557) C dL_law_557 ?_
  obtain ⟨v2, e1, hf⟩ := xbd hf
  refine ww_sld (pc := 558) C hS e1 dL_law_558 ?_
  refine ww_aload_n (pc := 559) C 0 dL_law_559 rfl ?_
  refine ww_iload_n (pc := 560) C 3 dL_law_560 rfl ?_
  refine ww_iconst (pc := 561) (v := (2 : Int32)) C dL_law_561 (by decide) ?_
  refine ww_iadd (pc := 562) C dL_law_562 ?_
  obtain ⟨v4, e3, hf⟩ := xbd hf
  refine ww_sld (pc := 563) C hS e3 dL_law_563 ?_
  obtain ⟨_, e5, hf⟩ := xbd hf
  obtain ⟨⟨v8, σ7⟩, e6, hf⟩ := xbd hf
  dsimp only at hf
  refine ww_callVi (pc := 564) (as := [.int v2, .int v4]) (st := []) C (k_X12_level (l := gl G) (E := gE G) (hb := gB G) (σ := σ) e6) rfl (by decide) xc_L_72 q1603 q1604 (xck_spec e5) rfl (by decide) (xst4 (Nat.le_of_ble_eq_true rfl)) (m_X12_level e6).le (m_X12_level e6).lim dL_law_564 ?_
  refine ww_pop (pc := 567) C dL_law_567 rfl ?_
  refine ww_goto (pc := 568) (tgt := 1289) C dL_law_568 (by decide) ?_
  refine ww_iinc (pc := 1289) (v := x3 + (6 : Int32)) (lv' := [(3, .int (x3 + (6 : Int32))), (0, .ref b), (1, .ref (gB G + r1)), (2, .ref (gB G + r2))]) C 3 dL_law_1289 rfl (congrArg (fun z => x3 + z) (show Int32.ofInt (6) = (6 : Int32) by decide)) (by decide) rfl ?_
  refine ww_goto (pc := 1292) (tgt := 18) C dL_law_1292 (by decide) ?_
  have hf := xsj hf
  subst hf
  refine ww_sub [1, 2, 3, 0] rfl ?_
  exact (hk.1 (x3 + (6 : Int32), σ7) rfl).2
theorem m_L_law_j552 {L : Nat} {xs : Nat → Int32} {σ : XS} {r1 : Nat} {r2 : Nat} {x3 : Int32} {t0 : Int32} {x : ((Int32 × XS) ⊕ (Int32 × XS))} (hf : f_L_law_j552 L xs σ r1 r2 x3 t0 = some x) : (∀ a' : Int32 × XS, x = .inl a' → xext σ a'.2) ∧ (∀ b1 : Int32 × XS, x = .inr b1 → xext σ b1.2) := by
  have hm := xext.rf (σ := σ)
  obtain ⟨v2, e1, hf⟩ := xbd hf
  obtain ⟨v4, e3, hf⟩ := xbd hf
  obtain ⟨_, e5, hf⟩ := xbd hf
  obtain ⟨⟨v8, σ7⟩, e6, hf⟩ := xbd hf
  dsimp only at hf
  have hm := hm.tr (m_X12_level e6).ext
  have hf := xsj hf
  subst hf
  exact ⟨fun a' e => (by have h9 := Sum.inl.inj e; subst h9; exact hm), fun b e => xnc1 e⟩
theorem s_L_law_j585 {G : XG} (C : XC G cL_law RL (some .boolean) 4 13 468) {b L : Nat} {xs : Nat → Int32} (hS : XScr G b L xs) {σ : XS} {r1 : Nat} {r2 : Nat} {x3 : Int32} {t0 : Int32} {x : ((Int32 × XS) ⊕ (Int32 × XS))} (hf : f_L_law_j585 L xs σ r1 r2 x3 t0 = some x) (hk : (∀ a' : Int32 × XS, x = .inl a' → XUp G a'.2 ∧ WW G 18 [(0, .ref b), (1, .ref (gB G + r1)), (2, .ref (gB G + r2)), (3, .int a'.1)] [] a'.2) ∧ (∀ b1 : Int32 × XS, x = .inr b1 → XEndL G b b1)) : WW G 585 [(0, .ref b), (1, .ref (gB G + r1)), (2, .ref (gB G + r2)), (3, .int x3)] [.int t0] σ := by
  refine ww_pop (pc := 585) C dL_law_585 rfl ?_
  refine ww_aload_n (pc := 586) C 2 dL_law_586 rfl ?_
  refine ww_aload_n (pc := 587) C 0 dL_law_587 rfl ?_
  refine ww_iload_n (pc := 588) C 3 dL_law_588 rfl ?_
  refine ww_iconst (pc := 589) (v := (1 : Int32)) C dL_law_589 (by decide) ?_
  refine ww_iadd (pc := 590) C dL_law_590 ?_
  obtain ⟨v2, e1, hf⟩ := xbd hf
  refine ww_sld (pc := 591) C hS e1 dL_law_591 ?_
  refine ww_aload_n (pc := 592) C 0 dL_law_592 rfl ?_
  refine ww_iload_n (pc := 593) C 3 dL_law_593 rfl ?_
  refine ww_iconst (pc := 594) (v := (2 : Int32)) C dL_law_594 (by decide) ?_
  refine ww_iadd (pc := 595) C dL_law_595 ?_
  obtain ⟨v4, e3, hf⟩ := xbd hf
  refine ww_sld (pc := 596) C hS e3 dL_law_596 ?_
  obtain ⟨_, e5, hf⟩ := xbd hf
  obtain ⟨⟨v8, σ7⟩, e6, hf⟩ := xbd hf
  dsimp only at hf
  refine ww_callVi (pc := 597) (as := [.int v2, .int v4]) (st := []) C (k_X12_both (l := gl G) (E := gE G) (hb := gB G) (σ := σ) e6) rfl (by decide) xc_L_76 q1618 q1619 (xck_spec e5) rfl (by decide) (xst4 (Nat.le_of_ble_eq_true rfl)) (m_X12_both e6).le (m_X12_both e6).lim dL_law_597 ?_
  refine ww_pop (pc := 600) C dL_law_600 rfl ?_
  refine ww_goto (pc := 601) (tgt := 1289) C dL_law_601 (by decide) ?_
  refine ww_iinc (pc := 1289) (v := x3 + (6 : Int32)) (lv' := [(3, .int (x3 + (6 : Int32))), (0, .ref b), (1, .ref (gB G + r1)), (2, .ref (gB G + r2))]) C 3 dL_law_1289 rfl (congrArg (fun z => x3 + z) (show Int32.ofInt (6) = (6 : Int32) by decide)) (by decide) rfl ?_
  refine ww_goto (pc := 1292) (tgt := 18) C dL_law_1292 (by decide) ?_
  have hf := xsj hf
  subst hf
  refine ww_sub [1, 2, 3, 0] rfl ?_
  exact (hk.1 (x3 + (6 : Int32), σ7) rfl).2
theorem m_L_law_j585 {L : Nat} {xs : Nat → Int32} {σ : XS} {r1 : Nat} {r2 : Nat} {x3 : Int32} {t0 : Int32} {x : ((Int32 × XS) ⊕ (Int32 × XS))} (hf : f_L_law_j585 L xs σ r1 r2 x3 t0 = some x) : (∀ a' : Int32 × XS, x = .inl a' → xext σ a'.2) ∧ (∀ b1 : Int32 × XS, x = .inr b1 → xext σ b1.2) := by
  have hm := xext.rf (σ := σ)
  obtain ⟨v2, e1, hf⟩ := xbd hf
  obtain ⟨v4, e3, hf⟩ := xbd hf
  obtain ⟨_, e5, hf⟩ := xbd hf
  obtain ⟨⟨v8, σ7⟩, e6, hf⟩ := xbd hf
  dsimp only at hf
  have hm := hm.tr (m_X12_both e6).ext
  have hf := xsj hf
  subst hf
  exact ⟨fun a' e => (by have h9 := Sum.inl.inj e; subst h9; exact hm), fun b e => xnc1 e⟩
theorem s_L_law_j613 {G : XG} (C : XC G cL_law RL (some .boolean) 4 13 468) {b L : Nat} {xs : Nat → Int32} (hS : XScr G b L xs) {σ : XS} {r1 : Nat} {r2 : Nat} {x3 : Int32} {t0 : Int32} {x : ((Int32 × XS) ⊕ (Int32 × XS))} (hf : f_L_law_j613 L xs σ r1 r2 x3 t0 = some x) (hk : (∀ a' : Int32 × XS, x = .inl a' → XUp G a'.2 ∧ WW G 18 [(0, .ref b), (1, .ref (gB G + r1)), (2, .ref (gB G + r2)), (3, .int a'.1)] [] a'.2) ∧ (∀ b1 : Int32 × XS, x = .inr b1 → XEndL G b b1)) : WW G 613 [(0, .ref b), (1, .ref (gB G + r1)), (2, .ref (gB G + r2)), (3, .int x3)] [.int t0] σ := by
  refine ww_pop (pc := 613) C dL_law_613 rfl ?_
  refine ww_aload_n (pc := 614) C 2 dL_law_614 rfl ?_
  refine ww_aload_n (pc := 615) C 0 dL_law_615 rfl ?_
  refine ww_iload_n (pc := 616) C 3 dL_law_616 rfl ?_
  refine ww_iconst (pc := 617) (v := (1 : Int32)) C dL_law_617 (by decide) ?_
  refine ww_iadd (pc := 618) C dL_law_618 ?_
  obtain ⟨v2, e1, hf⟩ := xbd hf
  refine ww_sld (pc := 619) C hS e1 dL_law_619 ?_
  obtain ⟨_, e3, hf⟩ := xbd hf
  obtain ⟨⟨v6, σ5⟩, e4, hf⟩ := xbd hf
  dsimp only at hf
  refine ww_callVi (pc := 620) (as := [.int v2]) (st := []) C (k_X12_broken (l := gl G) (E := gE G) (hb := gB G) (σ := σ) e4) rfl (by decide) xc_L_80 q1622 q1623 (xck_spec e3) rfl (by decide) (xst4 (Nat.le_of_ble_eq_true rfl)) (m_X12_broken e4).le (m_X12_broken e4).lim dL_law_620 ?_
  refine ww_pop (pc := 623) C dL_law_623 rfl ?_
  refine ww_goto (pc := 624) (tgt := 1289) C dL_law_624 (by decide) ?_
  refine ww_iinc (pc := 1289) (v := x3 + (6 : Int32)) (lv' := [(3, .int (x3 + (6 : Int32))), (0, .ref b), (1, .ref (gB G + r1)), (2, .ref (gB G + r2))]) C 3 dL_law_1289 rfl (congrArg (fun z => x3 + z) (show Int32.ofInt (6) = (6 : Int32) by decide)) (by decide) rfl ?_
  refine ww_goto (pc := 1292) (tgt := 18) C dL_law_1292 (by decide) ?_
  have hf := xsj hf
  subst hf
  refine ww_sub [1, 2, 3, 0] rfl ?_
  exact (hk.1 (x3 + (6 : Int32), σ5) rfl).2
theorem m_L_law_j613 {L : Nat} {xs : Nat → Int32} {σ : XS} {r1 : Nat} {r2 : Nat} {x3 : Int32} {t0 : Int32} {x : ((Int32 × XS) ⊕ (Int32 × XS))} (hf : f_L_law_j613 L xs σ r1 r2 x3 t0 = some x) : (∀ a' : Int32 × XS, x = .inl a' → xext σ a'.2) ∧ (∀ b1 : Int32 × XS, x = .inr b1 → xext σ b1.2) := by
  have hm := xext.rf (σ := σ)
  obtain ⟨v2, e1, hf⟩ := xbd hf
  obtain ⟨_, e3, hf⟩ := xbd hf
  obtain ⟨⟨v6, σ5⟩, e4, hf⟩ := xbd hf
  dsimp only at hf
  have hm := hm.tr (m_X12_broken e4).ext
  have hf := xsj hf
  subst hf
  exact ⟨fun a' e => (by have h9 := Sum.inl.inj e; subst h9; exact hm), fun b e => xnc1 e⟩
theorem s_L_law_j636 {G : XG} (C : XC G cL_law RL (some .boolean) 4 13 468) {b L : Nat} {xs : Nat → Int32} (hS : XScr G b L xs) {σ : XS} {r1 : Nat} {r2 : Nat} {x3 : Int32} {t0 : Int32} {x : ((Int32 × XS) ⊕ (Int32 × XS))} (hf : f_L_law_j636 L xs σ r1 r2 x3 t0 = some x) (hk : (∀ a' : Int32 × XS, x = .inl a' → XUp G a'.2 ∧ WW G 18 [(0, .ref b), (1, .ref (gB G + r1)), (2, .ref (gB G + r2)), (3, .int a'.1)] [] a'.2) ∧ (∀ b1 : Int32 × XS, x = .inr b1 → XEndL G b b1)) : WW G 636 [(0, .ref b), (1, .ref (gB G + r1)), (2, .ref (gB G + r2)), (3, .int x3)] [.int t0] σ := by
  refine ww_pop (pc := 636) C dL_law_636 rfl ?_
  refine ww_aload_n (pc := 637) C 2 dL_law_637 rfl ?_
  refine ww_aload_n (pc := 638) C 0 dL_law_638 rfl ?_
  refine ww_iload_n (pc := 639) C 3 dL_law_639 rfl ?_
  refine ww_iconst (pc := 640) (v := (1 : Int32)) C dL_law_640 (by decide) ?_
  refine ww_iadd (pc := 641) C dL_law_641 ?_
  obtain ⟨v2, e1, hf⟩ := xbd hf
  refine ww_sld (pc := 642) C hS e1 dL_law_642 ?_
  obtain ⟨_, e3, hf⟩ := xbd hf
  obtain ⟨⟨v6, σ5⟩, e4, hf⟩ := xbd hf
  dsimp only at hf
  refine ww_callVi (pc := 643) (as := [.int v2]) (st := []) C (k_X12_ground (l := gl G) (E := gE G) (hb := gB G) (σ := σ) e4) rfl (by decide) xc_L_84 q1633 q1634 (xck_spec e3) rfl (by decide) (xst4 (Nat.le_of_ble_eq_true rfl)) (m_X12_ground e4).le (m_X12_ground e4).lim dL_law_643 ?_
  refine ww_pop (pc := 646) C dL_law_646 rfl ?_
  refine ww_goto (pc := 647) (tgt := 1289) C dL_law_647 (by decide) ?_
  refine ww_iinc (pc := 1289) (v := x3 + (6 : Int32)) (lv' := [(3, .int (x3 + (6 : Int32))), (0, .ref b), (1, .ref (gB G + r1)), (2, .ref (gB G + r2))]) C 3 dL_law_1289 rfl (congrArg (fun z => x3 + z) (show Int32.ofInt (6) = (6 : Int32) by decide)) (by decide) rfl ?_
  refine ww_goto (pc := 1292) (tgt := 18) C dL_law_1292 (by decide) ?_
  have hf := xsj hf
  subst hf
  refine ww_sub [1, 2, 3, 0] rfl ?_
  exact (hk.1 (x3 + (6 : Int32), σ5) rfl).2
theorem m_L_law_j636 {L : Nat} {xs : Nat → Int32} {σ : XS} {r1 : Nat} {r2 : Nat} {x3 : Int32} {t0 : Int32} {x : ((Int32 × XS) ⊕ (Int32 × XS))} (hf : f_L_law_j636 L xs σ r1 r2 x3 t0 = some x) : (∀ a' : Int32 × XS, x = .inl a' → xext σ a'.2) ∧ (∀ b1 : Int32 × XS, x = .inr b1 → xext σ b1.2) := by
  have hm := xext.rf (σ := σ)
  obtain ⟨v2, e1, hf⟩ := xbd hf
  obtain ⟨_, e3, hf⟩ := xbd hf
  obtain ⟨⟨v6, σ5⟩, e4, hf⟩ := xbd hf
  dsimp only at hf
  have hm := hm.tr (m_X12_ground e4).ext
  have hf := xsj hf
  subst hf
  exact ⟨fun a' e => (by have h9 := Sum.inl.inj e; subst h9; exact hm), fun b e => xnc1 e⟩
theorem s_L_law_j674 {G : XG} (C : XC G cL_law RL (some .boolean) 4 13 468) {b L : Nat} {xs : Nat → Int32} (hS : XScr G b L xs) {σ : XS} {r1 : Nat} {r2 : Nat} {x3 : Int32} {t0 : Int32} {x : ((Int32 × XS) ⊕ (Int32 × XS))} (hf : f_L_law_j674 L xs σ r1 r2 x3 t0 = some x) (hk : (∀ a' : Int32 × XS, x = .inl a' → XUp G a'.2 ∧ WW G 18 [(0, .ref b), (1, .ref (gB G + r1)), (2, .ref (gB G + r2)), (3, .int a'.1)] [] a'.2) ∧ (∀ b1 : Int32 × XS, x = .inr b1 → XEndL G b b1)) : WW G 674 [(0, .ref b), (1, .ref (gB G + r1)), (2, .ref (gB G + r2)), (3, .int x3)] [.int t0] σ := by
  refine ww_pop (pc := 674) C dL_law_674 rfl ?_
  refine ww_aload_n (pc := 675) C 2 dL_law_675 rfl ?_
  refine ww_aload_n (pc := 676) C 0 dL_law_676 rfl ?_
  refine ww_iload_n (pc := 677) C 3 dL_law_677 rfl ?_
  refine ww_iconst (pc := 678) (v := (1 : Int32)) C dL_law_678 (by decide) ?_
  refine ww_iadd (pc := 679) C dL_law_679 ?_
  obtain ⟨v2, e1, hf⟩ := xbd hf
  refine ww_sld (pc := 680) C hS e1 dL_law_680 ?_
  refine ww_aload_n (pc := 681) C 0 dL_law_681 rfl ?_
  refine ww_iload_n (pc := 682) C 3 dL_law_682 rfl ?_
  refine ww_iconst (pc := 683) (v := (2 : Int32)) C dL_law_683 (by decide) ?_
  refine ww_iadd (pc := 684) C dL_law_684 ?_
  obtain ⟨v4, e3, hf⟩ := xbd hf
  refine ww_sld (pc := 685) C hS e3 dL_law_685 ?_
  refine ww_aload_n (pc := 686) C 0 dL_law_686 rfl ?_
  refine ww_iload_n (pc := 687) C 3 dL_law_687 rfl ?_
  refine ww_iconst (pc := 688) (v := (3 : Int32)) C dL_law_688 (by decide) ?_
  refine ww_iadd (pc := 689) C dL_law_689 ?_
  obtain ⟨v6, e5, hf⟩ := xbd hf
  refine ww_sld (pc := 690) C hS e5 dL_law_690 ?_
  refine ww_aload_n (pc := 691) C 0 dL_law_691 rfl ?_
  refine ww_iload_n (pc := 692) C 3 dL_law_692 rfl ?_
  refine ww_iconst (pc := 693) (v := (4 : Int32)) C dL_law_693 (by decide) ?_
  refine ww_iadd (pc := 694) C dL_law_694 ?_
  obtain ⟨v8, e7, hf⟩ := xbd hf
  refine ww_sld (pc := 695) C hS e7 dL_law_695 ?_
  obtain ⟨_, e9, hf⟩ := xbd hf
  obtain ⟨⟨v12, σ11⟩, e10, hf⟩ := xbd hf
  dsimp only at hf
  refine ww_callVi (pc := 696) (as := [.int v2, .int v4, .int v6, .int v8]) (st := []) C (k_X12_pair (l := gl G) (E := gE G) (hb := gB G) (σ := σ) e10) rfl (by decide) xc_L_89 q1637 q1638 (xck_spec e9) rfl (by decide) (xst4 (Nat.le_of_ble_eq_true rfl)) (m_X12_pair e10).le (m_X12_pair e10).lim dL_law_696 ?_
  refine ww_pop (pc := 699) C dL_law_699 rfl ?_
  refine ww_goto (pc := 700) (tgt := 1289) C dL_law_700 (by decide) ?_
  refine ww_iinc (pc := 1289) (v := x3 + (6 : Int32)) (lv' := [(3, .int (x3 + (6 : Int32))), (0, .ref b), (1, .ref (gB G + r1)), (2, .ref (gB G + r2))]) C 3 dL_law_1289 rfl (congrArg (fun z => x3 + z) (show Int32.ofInt (6) = (6 : Int32) by decide)) (by decide) rfl ?_
  refine ww_goto (pc := 1292) (tgt := 18) C dL_law_1292 (by decide) ?_
  have hf := xsj hf
  subst hf
  refine ww_sub [1, 2, 3, 0] rfl ?_
  exact (hk.1 (x3 + (6 : Int32), σ11) rfl).2
theorem m_L_law_j674 {L : Nat} {xs : Nat → Int32} {σ : XS} {r1 : Nat} {r2 : Nat} {x3 : Int32} {t0 : Int32} {x : ((Int32 × XS) ⊕ (Int32 × XS))} (hf : f_L_law_j674 L xs σ r1 r2 x3 t0 = some x) : (∀ a' : Int32 × XS, x = .inl a' → xext σ a'.2) ∧ (∀ b1 : Int32 × XS, x = .inr b1 → xext σ b1.2) := by
  have hm := xext.rf (σ := σ)
  obtain ⟨v2, e1, hf⟩ := xbd hf
  obtain ⟨v4, e3, hf⟩ := xbd hf
  obtain ⟨v6, e5, hf⟩ := xbd hf
  obtain ⟨v8, e7, hf⟩ := xbd hf
  obtain ⟨_, e9, hf⟩ := xbd hf
  obtain ⟨⟨v12, σ11⟩, e10, hf⟩ := xbd hf
  dsimp only at hf
  have hm := hm.tr (m_X12_pair e10).ext
  have hf := xsj hf
  subst hf
  exact ⟨fun a' e => (by have h9 := Sum.inl.inj e; subst h9; exact hm), fun b e => xnc1 e⟩
theorem s_L_law_j717 {G : XG} (C : XC G cL_law RL (some .boolean) 4 13 468) {b L : Nat} {xs : Nat → Int32} (hS : XScr G b L xs) {σ : XS} {r1 : Nat} {r2 : Nat} {x3 : Int32} {t0 : Int32} {x : ((Int32 × XS) ⊕ (Int32 × XS))} (hf : f_L_law_j717 L xs σ r1 r2 x3 t0 = some x) (hk : (∀ a' : Int32 × XS, x = .inl a' → XUp G a'.2 ∧ WW G 18 [(0, .ref b), (1, .ref (gB G + r1)), (2, .ref (gB G + r2)), (3, .int a'.1)] [] a'.2) ∧ (∀ b1 : Int32 × XS, x = .inr b1 → XEndL G b b1)) : WW G 717 [(0, .ref b), (1, .ref (gB G + r1)), (2, .ref (gB G + r2)), (3, .int x3)] [.int t0] σ := by
  refine ww_pop (pc := 717) C dL_law_717 rfl ?_
  refine ww_aload_n (pc := 718) C 2 dL_law_718 rfl ?_
  refine ww_aload_n (pc := 719) C 0 dL_law_719 rfl ?_
  refine ww_iload_n (pc := 720) C 3 dL_law_720 rfl ?_
  refine ww_iconst (pc := 721) (v := (1 : Int32)) C dL_law_721 (by decide) ?_
  refine ww_iadd (pc := 722) C dL_law_722 ?_
  obtain ⟨v2, e1, hf⟩ := xbd hf
  refine ww_sld (pc := 723) C hS e1 dL_law_723 ?_
  refine ww_aload_n (pc := 724) C 0 dL_law_724 rfl ?_
  refine ww_iload_n (pc := 725) C 3 dL_law_725 rfl ?_
  refine ww_iconst (pc := 726) (v := (2 : Int32)) C dL_law_726 (by decide) ?_
  refine ww_iadd (pc := 727) C dL_law_727 ?_
  obtain ⟨v4, e3, hf⟩ := xbd hf
  refine ww_sld (pc := 728) C hS e3 dL_law_728 ?_
  obtain ⟨_, e5, hf⟩ := xbd hf
  obtain ⟨⟨v8, σ7⟩, e6, hf⟩ := xbd hf
  dsimp only at hf
  refine ww_callVi (pc := 729) (as := [.int v2, .int v4]) (st := []) C (k_X12_mean (l := gl G) (E := gE G) (hb := gB G) (σ := σ) e6) rfl (by decide) xc_L_93 q1644 q1645 (xck_spec e5) rfl (by decide) (xst4 (Nat.le_of_ble_eq_true rfl)) (m_X12_mean e6).le (m_X12_mean e6).lim dL_law_729 ?_
  refine ww_pop (pc := 732) C dL_law_732 rfl ?_
  refine ww_goto (pc := 733) (tgt := 1289) C dL_law_733 (by decide) ?_
  refine ww_iinc (pc := 1289) (v := x3 + (6 : Int32)) (lv' := [(3, .int (x3 + (6 : Int32))), (0, .ref b), (1, .ref (gB G + r1)), (2, .ref (gB G + r2))]) C 3 dL_law_1289 rfl (congrArg (fun z => x3 + z) (show Int32.ofInt (6) = (6 : Int32) by decide)) (by decide) rfl ?_
  refine ww_goto (pc := 1292) (tgt := 18) C dL_law_1292 (by decide) ?_
  have hf := xsj hf
  subst hf
  refine ww_sub [1, 2, 3, 0] rfl ?_
  exact (hk.1 (x3 + (6 : Int32), σ7) rfl).2
theorem m_L_law_j717 {L : Nat} {xs : Nat → Int32} {σ : XS} {r1 : Nat} {r2 : Nat} {x3 : Int32} {t0 : Int32} {x : ((Int32 × XS) ⊕ (Int32 × XS))} (hf : f_L_law_j717 L xs σ r1 r2 x3 t0 = some x) : (∀ a' : Int32 × XS, x = .inl a' → xext σ a'.2) ∧ (∀ b1 : Int32 × XS, x = .inr b1 → xext σ b1.2) := by
  have hm := xext.rf (σ := σ)
  obtain ⟨v2, e1, hf⟩ := xbd hf
  obtain ⟨v4, e3, hf⟩ := xbd hf
  obtain ⟨_, e5, hf⟩ := xbd hf
  obtain ⟨⟨v8, σ7⟩, e6, hf⟩ := xbd hf
  dsimp only at hf
  have hm := hm.tr (m_X12_mean e6).ext
  have hf := xsj hf
  subst hf
  exact ⟨fun a' e => (by have h9 := Sum.inl.inj e; subst h9; exact hm), fun b e => xnc1 e⟩
theorem s_L_law_j745 {G : XG} (C : XC G cL_law RL (some .boolean) 4 13 468) {b L : Nat} {xs : Nat → Int32} (hS : XScr G b L xs) {σ : XS} {r1 : Nat} {r2 : Nat} {x3 : Int32} {t0 : Int32} {x : ((Int32 × XS) ⊕ (Int32 × XS))} (hf : f_L_law_j745 L xs σ r1 r2 x3 t0 = some x) (hk : (∀ a' : Int32 × XS, x = .inl a' → XUp G a'.2 ∧ WW G 18 [(0, .ref b), (1, .ref (gB G + r1)), (2, .ref (gB G + r2)), (3, .int a'.1)] [] a'.2) ∧ (∀ b1 : Int32 × XS, x = .inr b1 → XEndL G b b1)) : WW G 745 [(0, .ref b), (1, .ref (gB G + r1)), (2, .ref (gB G + r2)), (3, .int x3)] [.int t0] σ := by
  refine ww_pop (pc := 745) C dL_law_745 rfl ?_
  refine ww_aload_n (pc := 746) C 2 dL_law_746 rfl ?_
  refine ww_aload_n (pc := 747) C 0 dL_law_747 rfl ?_
  refine ww_iload_n (pc := 748) C 3 dL_law_748 rfl ?_
  refine ww_iconst (pc := 749) (v := (1 : Int32)) C dL_law_749 (by decide) ?_
  refine ww_iadd (pc := 750) C dL_law_750 ?_
  obtain ⟨v2, e1, hf⟩ := xbd hf
  refine ww_sld (pc := 751) C hS e1 dL_law_751 ?_
  obtain ⟨_, e3, hf⟩ := xbd hf
  obtain ⟨⟨v6, σ5⟩, e4, hf⟩ := xbd hf
  dsimp only at hf
  refine ww_callVi (pc := 752) (as := [.int v2]) (st := []) C (k_X12_value (l := gl G) (E := gE G) (hb := gB G) (σ := σ) e4) rfl (by decide) xc_L_97 q1648 q1649 (xck_spec e3) rfl (by decide) (xst4 (Nat.le_of_ble_eq_true rfl)) (m_X12_value e4).le (m_X12_value e4).lim dL_law_752 ?_
  refine ww_pop (pc := 755) C dL_law_755 rfl ?_
  refine ww_goto (pc := 756) (tgt := 1289) C dL_law_756 (by decide) ?_
  refine ww_iinc (pc := 1289) (v := x3 + (6 : Int32)) (lv' := [(3, .int (x3 + (6 : Int32))), (0, .ref b), (1, .ref (gB G + r1)), (2, .ref (gB G + r2))]) C 3 dL_law_1289 rfl (congrArg (fun z => x3 + z) (show Int32.ofInt (6) = (6 : Int32) by decide)) (by decide) rfl ?_
  refine ww_goto (pc := 1292) (tgt := 18) C dL_law_1292 (by decide) ?_
  have hf := xsj hf
  subst hf
  refine ww_sub [1, 2, 3, 0] rfl ?_
  exact (hk.1 (x3 + (6 : Int32), σ5) rfl).2
theorem m_L_law_j745 {L : Nat} {xs : Nat → Int32} {σ : XS} {r1 : Nat} {r2 : Nat} {x3 : Int32} {t0 : Int32} {x : ((Int32 × XS) ⊕ (Int32 × XS))} (hf : f_L_law_j745 L xs σ r1 r2 x3 t0 = some x) : (∀ a' : Int32 × XS, x = .inl a' → xext σ a'.2) ∧ (∀ b1 : Int32 × XS, x = .inr b1 → xext σ b1.2) := by
  have hm := xext.rf (σ := σ)
  obtain ⟨v2, e1, hf⟩ := xbd hf
  obtain ⟨_, e3, hf⟩ := xbd hf
  obtain ⟨⟨v6, σ5⟩, e4, hf⟩ := xbd hf
  dsimp only at hf
  have hm := hm.tr (m_X12_value e4).ext
  have hf := xsj hf
  subst hf
  exact ⟨fun a' e => (by have h9 := Sum.inl.inj e; subst h9; exact hm), fun b e => xnc1 e⟩
theorem s_L_law_j778 {G : XG} (C : XC G cL_law RL (some .boolean) 4 13 468) {b L : Nat} {xs : Nat → Int32} (hS : XScr G b L xs) {σ : XS} {r1 : Nat} {r2 : Nat} {x3 : Int32} {t0 : Int64} {x : ((Int32 × XS) ⊕ (Int32 × XS))} (hf : f_L_law_j778 L xs σ r1 r2 x3 t0 = some x) (hk : (∀ a' : Int32 × XS, x = .inl a' → XUp G a'.2 ∧ WW G 18 [(0, .ref b), (1, .ref (gB G + r1)), (2, .ref (gB G + r2)), (3, .int a'.1)] [] a'.2) ∧ (∀ b1 : Int32 × XS, x = .inr b1 → XEndL G b b1)) : WW G 778 [(0, .ref b), (1, .ref (gB G + r1)), (2, .ref (gB G + r2)), (3, .int x3)] [.long t0] σ := by
  refine ww_pop2 (pc := 778) C dL_law_778 rfl ?_
  refine ww_aload_n (pc := 779) C 2 dL_law_779 rfl ?_
  refine ww_aload_n (pc := 780) C 0 dL_law_780 rfl ?_
  refine ww_iload_n (pc := 781) C 3 dL_law_781 rfl ?_
  refine ww_iconst (pc := 782) (v := (1 : Int32)) C dL_law_782 (by decide) ?_
  refine ww_iadd (pc := 783) C dL_law_783 ?_
  obtain ⟨v2, e1, hf⟩ := xbd hf
  refine ww_sld (pc := 784) C hS e1 dL_law_784 ?_
  refine ww_aload_n (pc := 785) C 0 dL_law_785 rfl ?_
  refine ww_iload_n (pc := 786) C 3 dL_law_786 rfl ?_
  refine ww_iconst (pc := 787) (v := (2 : Int32)) C dL_law_787 (by decide) ?_
  refine ww_iadd (pc := 788) C dL_law_788 ?_
  obtain ⟨v4, e3, hf⟩ := xbd hf
  refine ww_sld (pc := 789) C hS e3 dL_law_789 ?_
  refine ww_aload_n (pc := 790) C 0 dL_law_790 rfl ?_
  refine ww_iload_n (pc := 791) C 3 dL_law_791 rfl ?_
  refine ww_iconst (pc := 792) (v := (3 : Int32)) C dL_law_792 (by decide) ?_
  refine ww_iadd (pc := 793) C dL_law_793 ?_
  obtain ⟨v6, e5, hf⟩ := xbd hf
  refine ww_sld (pc := 794) C hS e5 dL_law_794 ?_
  obtain ⟨_, e7, hf⟩ := xbd hf
  obtain ⟨⟨v10, σ9⟩, e8, hf⟩ := xbd hf
  dsimp only at hf
  refine ww_callVj (pc := 795) (as := [.int v2, .int v4, .int v6]) (st := []) C (k_X12_joined (l := gl G) (E := gE G) (hb := gB G) (σ := σ) e8) rfl (by decide) xc_L_102 q1654 q1655 (xck_spec e7) rfl (by decide) (xst4 (Nat.le_of_ble_eq_true rfl)) (m_X12_joined e8).le (m_X12_joined e8).lim dL_law_795 ?_
  refine ww_pop2 (pc := 798) C dL_law_798 rfl ?_
  refine ww_goto (pc := 799) (tgt := 1289) C dL_law_799 (by decide) ?_
  refine ww_iinc (pc := 1289) (v := x3 + (6 : Int32)) (lv' := [(3, .int (x3 + (6 : Int32))), (0, .ref b), (1, .ref (gB G + r1)), (2, .ref (gB G + r2))]) C 3 dL_law_1289 rfl (congrArg (fun z => x3 + z) (show Int32.ofInt (6) = (6 : Int32) by decide)) (by decide) rfl ?_
  refine ww_goto (pc := 1292) (tgt := 18) C dL_law_1292 (by decide) ?_
  have hf := xsj hf
  subst hf
  refine ww_sub [1, 2, 3, 0] rfl ?_
  exact (hk.1 (x3 + (6 : Int32), σ9) rfl).2
theorem m_L_law_j778 {L : Nat} {xs : Nat → Int32} {σ : XS} {r1 : Nat} {r2 : Nat} {x3 : Int32} {t0 : Int64} {x : ((Int32 × XS) ⊕ (Int32 × XS))} (hf : f_L_law_j778 L xs σ r1 r2 x3 t0 = some x) : (∀ a' : Int32 × XS, x = .inl a' → xext σ a'.2) ∧ (∀ b1 : Int32 × XS, x = .inr b1 → xext σ b1.2) := by
  have hm := xext.rf (σ := σ)
  obtain ⟨v2, e1, hf⟩ := xbd hf
  obtain ⟨v4, e3, hf⟩ := xbd hf
  obtain ⟨v6, e5, hf⟩ := xbd hf
  obtain ⟨_, e7, hf⟩ := xbd hf
  obtain ⟨⟨v10, σ9⟩, e8, hf⟩ := xbd hf
  dsimp only at hf
  have hm := hm.tr (m_X12_joined e8).ext
  have hf := xsj hf
  subst hf
  exact ⟨fun a' e => (by have h9 := Sum.inl.inj e; subst h9; exact hm), fun b e => xnc1 e⟩
theorem s_L_law_j816 {G : XG} (C : XC G cL_law RL (some .boolean) 4 13 468) {b L : Nat} {xs : Nat → Int32} (hS : XScr G b L xs) {σ : XS} {r1 : Nat} {r2 : Nat} {x3 : Int32} {t0 : Int32} {x : ((Int32 × XS) ⊕ (Int32 × XS))} (hf : f_L_law_j816 L xs σ r1 r2 x3 t0 = some x) (hk : (∀ a' : Int32 × XS, x = .inl a' → XUp G a'.2 ∧ WW G 18 [(0, .ref b), (1, .ref (gB G + r1)), (2, .ref (gB G + r2)), (3, .int a'.1)] [] a'.2) ∧ (∀ b1 : Int32 × XS, x = .inr b1 → XEndL G b b1)) : WW G 816 [(0, .ref b), (1, .ref (gB G + r1)), (2, .ref (gB G + r2)), (3, .int x3)] [.int t0] σ := by
  refine ww_pop (pc := 816) C dL_law_816 rfl ?_
  refine ww_aload_n (pc := 817) C 2 dL_law_817 rfl ?_
  refine ww_aload_n (pc := 818) C 0 dL_law_818 rfl ?_
  refine ww_iload_n (pc := 819) C 3 dL_law_819 rfl ?_
  refine ww_iconst (pc := 820) (v := (1 : Int32)) C dL_law_820 (by decide) ?_
  refine ww_iadd (pc := 821) C dL_law_821 ?_
  obtain ⟨v2, e1, hf⟩ := xbd hf
  refine ww_sld (pc := 822) C hS e1 dL_law_822 ?_
  refine ww_aload_n (pc := 823) C 0 dL_law_823 rfl ?_
  refine ww_iload_n (pc := 824) C 3 dL_law_824 rfl ?_
  refine ww_iconst (pc := 825) (v := (2 : Int32)) C dL_law_825 (by decide) ?_
  refine ww_iadd (pc := 826) C dL_law_826 ?_
  obtain ⟨v4, e3, hf⟩ := xbd hf
  refine ww_sld (pc := 827) C hS e3 dL_law_827 ?_
  obtain ⟨_, e5, hf⟩ := xbd hf
  obtain ⟨⟨v8, σ7⟩, e6, hf⟩ := xbd hf
  dsimp only at hf
  refine ww_callVi (pc := 828) (as := [.int v2, .int v4]) (st := []) C (k_X12_state (l := gl G) (E := gE G) (hb := gB G) (σ := σ) e6) rfl (by decide) xc_L_106 q1663 q1664 (xck_spec e5) rfl (by decide) (xst4 (Nat.le_of_ble_eq_true rfl)) (m_X12_state e6).le (m_X12_state e6).lim dL_law_828 ?_
  refine ww_pop (pc := 831) C dL_law_831 rfl ?_
  refine ww_goto (pc := 832) (tgt := 1289) C dL_law_832 (by decide) ?_
  refine ww_iinc (pc := 1289) (v := x3 + (6 : Int32)) (lv' := [(3, .int (x3 + (6 : Int32))), (0, .ref b), (1, .ref (gB G + r1)), (2, .ref (gB G + r2))]) C 3 dL_law_1289 rfl (congrArg (fun z => x3 + z) (show Int32.ofInt (6) = (6 : Int32) by decide)) (by decide) rfl ?_
  refine ww_goto (pc := 1292) (tgt := 18) C dL_law_1292 (by decide) ?_
  have hf := xsj hf
  subst hf
  refine ww_sub [1, 2, 3, 0] rfl ?_
  exact (hk.1 (x3 + (6 : Int32), σ7) rfl).2
theorem m_L_law_j816 {L : Nat} {xs : Nat → Int32} {σ : XS} {r1 : Nat} {r2 : Nat} {x3 : Int32} {t0 : Int32} {x : ((Int32 × XS) ⊕ (Int32 × XS))} (hf : f_L_law_j816 L xs σ r1 r2 x3 t0 = some x) : (∀ a' : Int32 × XS, x = .inl a' → xext σ a'.2) ∧ (∀ b1 : Int32 × XS, x = .inr b1 → xext σ b1.2) := by
  have hm := xext.rf (σ := σ)
  obtain ⟨v2, e1, hf⟩ := xbd hf
  obtain ⟨v4, e3, hf⟩ := xbd hf
  obtain ⟨_, e5, hf⟩ := xbd hf
  obtain ⟨⟨v8, σ7⟩, e6, hf⟩ := xbd hf
  dsimp only at hf
  have hm := hm.tr (m_X12_state e6).ext
  have hf := xsj hf
  subst hf
  exact ⟨fun a' e => (by have h9 := Sum.inl.inj e; subst h9; exact hm), fun b e => xnc1 e⟩
theorem s_L_law_j867 {G : XG} (C : XC G cL_law RL (some .boolean) 4 13 468) {b L : Nat} {xs : Nat → Int32} (hS : XScr G b L xs) {σ : XS} {r1 : Nat} {r2 : Nat} {x3 : Int32} {t0 : Nat} {t1 : Int32} {x : ((Int32 × XS) ⊕ (Int32 × XS))} (hf : f_L_law_j867 L xs σ r1 r2 x3 t0 t1 = some x) (hk : (∀ a' : Int32 × XS, x = .inl a' → XUp G a'.2 ∧ WW G 18 [(0, .ref b), (1, .ref (gB G + r1)), (2, .ref (gB G + r2)), (3, .int a'.1)] [] a'.2) ∧ (∀ b1 : Int32 × XS, x = .inr b1 → XEndL G b b1)) : WW G 867 [(0, .ref b), (1, .ref (gB G + r1)), (2, .ref (gB G + r2)), (3, .int x3)] [.int t1, .ref (gB G + t0)] σ := by
  obtain ⟨_, e1, hf⟩ := xbd hf
  obtain ⟨⟨v4, σ3⟩, e2, hf⟩ := xbd hf
  dsimp only at hf
  refine ww_callVi (pc := 867) (as := [.int t1]) (st := []) C (k_X12_stuck (l := gl G) (E := gE G) (hb := gB G) (σ := σ) e2) rfl (by decide) xc_L_111 q1671 q1672 (xck_spec e1) rfl (by decide) (xst4 (Nat.le_of_ble_eq_true rfl)) (m_X12_stuck e2).le (m_X12_stuck e2).lim dL_law_867 ?_
  refine ww_pop (pc := 870) C dL_law_870 rfl ?_
  refine ww_goto (pc := 871) (tgt := 1289) C dL_law_871 (by decide) ?_
  refine ww_iinc (pc := 1289) (v := x3 + (6 : Int32)) (lv' := [(3, .int (x3 + (6 : Int32))), (0, .ref b), (1, .ref (gB G + r1)), (2, .ref (gB G + r2))]) C 3 dL_law_1289 rfl (congrArg (fun z => x3 + z) (show Int32.ofInt (6) = (6 : Int32) by decide)) (by decide) rfl ?_
  refine ww_goto (pc := 1292) (tgt := 18) C dL_law_1292 (by decide) ?_
  have hf := xsj hf
  subst hf
  refine ww_sub [1, 2, 3, 0] rfl ?_
  exact (hk.1 (x3 + (6 : Int32), σ3) rfl).2
theorem m_L_law_j867 {L : Nat} {xs : Nat → Int32} {σ : XS} {r1 : Nat} {r2 : Nat} {x3 : Int32} {t0 : Nat} {t1 : Int32} {x : ((Int32 × XS) ⊕ (Int32 × XS))} (hf : f_L_law_j867 L xs σ r1 r2 x3 t0 t1 = some x) : (∀ a' : Int32 × XS, x = .inl a' → xext σ a'.2) ∧ (∀ b1 : Int32 × XS, x = .inr b1 → xext σ b1.2) := by
  have hm := xext.rf (σ := σ)
  obtain ⟨_, e1, hf⟩ := xbd hf
  obtain ⟨⟨v4, σ3⟩, e2, hf⟩ := xbd hf
  dsimp only at hf
  have hm := hm.tr (m_X12_stuck e2).ext
  have hf := xsj hf
  subst hf
  exact ⟨fun a' e => (by have h9 := Sum.inl.inj e; subst h9; exact hm), fun b e => xnc1 e⟩
theorem s_L_law_j852 {G : XG} (C : XC G cL_law RL (some .boolean) 4 13 468) {b L : Nat} {xs : Nat → Int32} (hS : XScr G b L xs) {σ : XS} {r1 : Nat} {r2 : Nat} {x3 : Int32} {t0 : Int32} {x : ((Int32 × XS) ⊕ (Int32 × XS))} (hf : f_L_law_j852 L xs σ r1 r2 x3 t0 = some x) (hk : (∀ a' : Int32 × XS, x = .inl a' → XUp G a'.2 ∧ WW G 18 [(0, .ref b), (1, .ref (gB G + r1)), (2, .ref (gB G + r2)), (3, .int a'.1)] [] a'.2) ∧ (∀ b1 : Int32 × XS, x = .inr b1 → XEndL G b b1)) : WW G 852 [(0, .ref b), (1, .ref (gB G + r1)), (2, .ref (gB G + r2)), (3, .int x3)] [.int t0] σ := by
  refine ww_pop (pc := 852) C dL_law_852 rfl ?_
  refine ww_aload_n (pc := 853) C 2 dL_law_853 rfl ?_
  refine ww_aload_n (pc := 854) C 0 dL_law_854 rfl ?_
  refine ww_iload_n (pc := 855) C 3 dL_law_855 rfl ?_
  refine ww_iconst (pc := 856) (v := (1 : Int32)) C dL_law_856 (by decide) ?_
  refine ww_iadd (pc := 857) C dL_law_857 ?_
  obtain ⟨v2, e1, hf⟩ := xbd hf
  refine ww_sld (pc := 858) C hS e1 dL_law_858 ?_
  refine ww_if_eq (pc := 859) (tgt := 866) C dL_law_859 (by decide) (fun q => ?_) (fun q => ?_)
  · have hf := xip q hf
    refine ww_iconst (pc := 866) (v := (0 : Int32)) C dL_law_866 (by decide) ?_
    refine ww_sub [0, 1, 2, 3] rfl ?_
    exact s_L_law_j867 C hS hf hk
  · have hf := xin q hf
    refine ww_iconst (pc := 862) (v := (1 : Int32)) C dL_law_862 (by decide) ?_
    refine ww_goto (pc := 863) (tgt := 867) C dL_law_863 (by decide) ?_
    refine ww_sub [0, 1, 2, 3] rfl ?_
    exact s_L_law_j867 C hS hf hk
theorem m_L_law_j852 {L : Nat} {xs : Nat → Int32} {σ : XS} {r1 : Nat} {r2 : Nat} {x3 : Int32} {t0 : Int32} {x : ((Int32 × XS) ⊕ (Int32 × XS))} (hf : f_L_law_j852 L xs σ r1 r2 x3 t0 = some x) : (∀ a' : Int32 × XS, x = .inl a' → xext σ a'.2) ∧ (∀ b1 : Int32 × XS, x = .inr b1 → xext σ b1.2) := by
  have hm := xext.rf (σ := σ)
  obtain ⟨v2, e1, hf⟩ := xbd hf
  by_cases q : v2 = 0
  · have hf := xip q hf
    exact ⟨fun a' e => hm.tr ((m_L_law_j867 hf).1 a' e), fun b1 eb1 => hm.tr ((m_L_law_j867 hf).2 b1 eb1)⟩
  · have hf := xin q hf
    exact ⟨fun a' e => hm.tr ((m_L_law_j867 hf).1 a' e), fun b1 eb1 => hm.tr ((m_L_law_j867 hf).2 b1 eb1)⟩
theorem s_L_law_j849 {G : XG} (C : XC G cL_law RL (some .boolean) 4 13 468) {b L : Nat} {xs : Nat → Int32} (hS : XScr G b L xs) {σ : XS} {r1 : Nat} {r2 : Nat} {x3 : Int32} {t0 : Nat} {t1 : Int32} {x : ((Int32 × XS) ⊕ (Int32 × XS))} (hf : f_L_law_j849 L xs σ r1 r2 x3 t0 t1 = some x) (hk : (∀ a' : Int32 × XS, x = .inl a' → XUp G a'.2 ∧ WW G 18 [(0, .ref b), (1, .ref (gB G + r1)), (2, .ref (gB G + r2)), (3, .int a'.1)] [] a'.2) ∧ (∀ b1 : Int32 × XS, x = .inr b1 → XEndL G b b1)) : WW G 849 [(0, .ref b), (1, .ref (gB G + r1)), (2, .ref (gB G + r2)), (3, .int x3)] [.int t1, .ref (gB G + t0)] σ := by
  obtain ⟨_, e1, hf⟩ := xbd hf
  obtain ⟨⟨v4, σ3⟩, e2, hf⟩ := xbd hf
  dsimp only at hf
  refine ww_callVi (pc := 849) (as := [.int t1]) (st := []) C (k_X11_stuck (l := gl G) (E := gE G) (hb := gB G) (σ := σ) e2) rfl (by decide) xc_L_107 q1031 q1032 (xck_spec e1) rfl (by decide) (xst4 (Nat.le_of_ble_eq_true rfl)) (m_X11_stuck e2).1 (fun q => by have hm9 := m_L_law_j852 hf; rcases x with a' | b90; exact XLim.mid q (m_X11_stuck e2) (hm9.1 a' rfl) (hk.1 a' rfl).1; have hm9 := hm9.2 _ rfl; have hk := hk.2 _ rfl; exact XLim.mid q (m_X11_stuck e2) hm9 hk.2.1) dL_law_849 ?_
  refine ww_sub [0, 1, 2, 3] rfl ?_
  exact s_L_law_j852 C hS hf hk
theorem m_L_law_j849 {L : Nat} {xs : Nat → Int32} {σ : XS} {r1 : Nat} {r2 : Nat} {x3 : Int32} {t0 : Nat} {t1 : Int32} {x : ((Int32 × XS) ⊕ (Int32 × XS))} (hf : f_L_law_j849 L xs σ r1 r2 x3 t0 t1 = some x) : (∀ a' : Int32 × XS, x = .inl a' → xext σ a'.2) ∧ (∀ b1 : Int32 × XS, x = .inr b1 → xext σ b1.2) := by
  have hm := xext.rf (σ := σ)
  obtain ⟨_, e1, hf⟩ := xbd hf
  obtain ⟨⟨v4, σ3⟩, e2, hf⟩ := xbd hf
  dsimp only at hf
  have hm := hm.tr (m_X11_stuck e2)
  exact ⟨fun a' e => hm.tr ((m_L_law_j852 hf).1 a' e), fun b1 eb1 => hm.tr ((m_L_law_j852 hf).2 b1 eb1)⟩
theorem s_L_law_j893 {G : XG} (C : XC G cL_law RL (some .boolean) 4 13 468) {b L : Nat} {xs : Nat → Int32} (hS : XScr G b L xs) {σ : XS} {r1 : Nat} {r2 : Nat} {x3 : Int32} {t0 : Int32} {x : ((Int32 × XS) ⊕ (Int32 × XS))} (hf : f_L_law_j893 L xs σ r1 r2 x3 t0 = some x) (hk : (∀ a' : Int32 × XS, x = .inl a' → XUp G a'.2 ∧ WW G 18 [(0, .ref b), (1, .ref (gB G + r1)), (2, .ref (gB G + r2)), (3, .int a'.1)] [] a'.2) ∧ (∀ b1 : Int32 × XS, x = .inr b1 → XEndL G b b1)) : WW G 893 [(0, .ref b), (1, .ref (gB G + r1)), (2, .ref (gB G + r2)), (3, .int x3)] [.int t0] σ := by
  refine ww_pop (pc := 893) C dL_law_893 rfl ?_
  refine ww_aload_n (pc := 894) C 2 dL_law_894 rfl ?_
  refine ww_aload_n (pc := 895) C 0 dL_law_895 rfl ?_
  refine ww_iload_n (pc := 896) C 3 dL_law_896 rfl ?_
  refine ww_iconst (pc := 897) (v := (1 : Int32)) C dL_law_897 (by decide) ?_
  refine ww_iadd (pc := 898) C dL_law_898 ?_
  obtain ⟨v2, e1, hf⟩ := xbd hf
  refine ww_sld (pc := 899) C hS e1 dL_law_899 ?_
  refine ww_aload_n (pc := 900) C 0 dL_law_900 rfl ?_
  refine ww_iload_n (pc := 901) C 3 dL_law_901 rfl ?_
  refine ww_iconst (pc := 902) (v := (2 : Int32)) C dL_law_902 (by decide) ?_
  refine ww_iadd (pc := 903) C dL_law_903 ?_
  obtain ⟨v4, e3, hf⟩ := xbd hf
  refine ww_sld (pc := 904) C hS e3 dL_law_904 ?_
  refine ww_aload_n (pc := 905) C 0 dL_law_905 rfl ?_
  refine ww_iload_n (pc := 906) C 3 dL_law_906 rfl ?_
  refine ww_iconst (pc := 907) (v := (3 : Int32)) C dL_law_907 (by decide) ?_
  refine ww_iadd (pc := 908) C dL_law_908 ?_
  obtain ⟨v6, e5, hf⟩ := xbd hf
  refine ww_sld (pc := 909) C hS e5 dL_law_909 ?_
  obtain ⟨_, e7, hf⟩ := xbd hf
  obtain ⟨v9, e8, hf⟩ := xbd hf
  refine ww_callVi (pc := 910) (as := [.int v2, .int v4, .int v6]) (st := []) C (k_X12_rows (l := gl G) (E := gE G) (hb := gB G) (σ := σ) e8) rfl (by decide) xc_L_116 q1711 q1712 (xck_spec e7) rfl (by decide) (xst4 (Nat.le_of_ble_eq_true rfl)) xsame.rf.le xsame.rf.lim dL_law_910 ?_
  refine ww_pop (pc := 913) C dL_law_913 rfl ?_
  refine ww_goto (pc := 914) (tgt := 1289) C dL_law_914 (by decide) ?_
  refine ww_iinc (pc := 1289) (v := x3 + (6 : Int32)) (lv' := [(3, .int (x3 + (6 : Int32))), (0, .ref b), (1, .ref (gB G + r1)), (2, .ref (gB G + r2))]) C 3 dL_law_1289 rfl (congrArg (fun z => x3 + z) (show Int32.ofInt (6) = (6 : Int32) by decide)) (by decide) rfl ?_
  refine ww_goto (pc := 1292) (tgt := 18) C dL_law_1292 (by decide) ?_
  have hf := xsj hf
  subst hf
  refine ww_sub [1, 2, 3, 0] rfl ?_
  exact (hk.1 (x3 + (6 : Int32), σ) rfl).2
theorem m_L_law_j893 {L : Nat} {xs : Nat → Int32} {σ : XS} {r1 : Nat} {r2 : Nat} {x3 : Int32} {t0 : Int32} {x : ((Int32 × XS) ⊕ (Int32 × XS))} (hf : f_L_law_j893 L xs σ r1 r2 x3 t0 = some x) : (∀ a' : Int32 × XS, x = .inl a' → xext σ a'.2) ∧ (∀ b1 : Int32 × XS, x = .inr b1 → xext σ b1.2) := by
  have hm := xext.rf (σ := σ)
  obtain ⟨v2, e1, hf⟩ := xbd hf
  obtain ⟨v4, e3, hf⟩ := xbd hf
  obtain ⟨v6, e5, hf⟩ := xbd hf
  obtain ⟨_, e7, hf⟩ := xbd hf
  obtain ⟨v9, e8, hf⟩ := xbd hf
  have hf := xsj hf
  subst hf
  exact ⟨fun a' e => (by have h9 := Sum.inl.inj e; subst h9; exact hm), fun b e => xnc1 e⟩
theorem s_L_law_j949 {G : XG} (C : XC G cL_law RL (some .boolean) 4 13 468) {b L : Nat} {xs : Nat → Int32} (hS : XScr G b L xs) {σ : XS} {r1 : Nat} {r2 : Nat} {x3 : Int32} {t0 : Int32} {x : ((Int32 × XS) ⊕ (Int32 × XS))} (hf : f_L_law_j949 L xs σ r1 r2 x3 t0 = some x) (hk : (∀ a' : Int32 × XS, x = .inl a' → XUp G a'.2 ∧ WW G 18 [(0, .ref b), (1, .ref (gB G + r1)), (2, .ref (gB G + r2)), (3, .int a'.1)] [] a'.2) ∧ (∀ b1 : Int32 × XS, x = .inr b1 → XEndL G b b1)) : WW G 949 [(0, .ref b), (1, .ref (gB G + r1)), (2, .ref (gB G + r2)), (3, .int x3)] [.int t0] σ := by
  refine ww_pop (pc := 949) C dL_law_949 rfl ?_
  refine ww_aload_n (pc := 950) C 2 dL_law_950 rfl ?_
  refine ww_aload_n (pc := 951) C 0 dL_law_951 rfl ?_
  refine ww_iload_n (pc := 952) C 3 dL_law_952 rfl ?_
  refine ww_iconst (pc := 953) (v := (1 : Int32)) C dL_law_953 (by decide) ?_
  refine ww_iadd (pc := 954) C dL_law_954 ?_
  obtain ⟨v2, e1, hf⟩ := xbd hf
  refine ww_sld (pc := 955) C hS e1 dL_law_955 ?_
  obtain ⟨_, e3, hf⟩ := xbd hf
  obtain ⟨⟨v6, σ5⟩, e4, hf⟩ := xbd hf
  dsimp only at hf
  refine ww_callVi (pc := 956) (as := [.int v2]) (st := []) C (k_X12_overlap (l := gl G) (E := gE G) (hb := gB G) (σ := σ) e4) rfl (by decide) xc_L_124 q1707 q1708 (xck_spec e3) rfl (by decide) (xst4 (Nat.le_of_ble_eq_true rfl)) (m_X12_overlap e4).le (m_X12_overlap e4).lim dL_law_956 ?_
  refine ww_pop (pc := 959) C dL_law_959 rfl ?_
  refine ww_goto (pc := 960) (tgt := 1289) C dL_law_960 (by decide) ?_
  refine ww_iinc (pc := 1289) (v := x3 + (6 : Int32)) (lv' := [(3, .int (x3 + (6 : Int32))), (0, .ref b), (1, .ref (gB G + r1)), (2, .ref (gB G + r2))]) C 3 dL_law_1289 rfl (congrArg (fun z => x3 + z) (show Int32.ofInt (6) = (6 : Int32) by decide)) (by decide) rfl ?_
  refine ww_goto (pc := 1292) (tgt := 18) C dL_law_1292 (by decide) ?_
  have hf := xsj hf
  subst hf
  refine ww_sub [1, 2, 3, 0] rfl ?_
  exact (hk.1 (x3 + (6 : Int32), σ5) rfl).2
theorem m_L_law_j949 {L : Nat} {xs : Nat → Int32} {σ : XS} {r1 : Nat} {r2 : Nat} {x3 : Int32} {t0 : Int32} {x : ((Int32 × XS) ⊕ (Int32 × XS))} (hf : f_L_law_j949 L xs σ r1 r2 x3 t0 = some x) : (∀ a' : Int32 × XS, x = .inl a' → xext σ a'.2) ∧ (∀ b1 : Int32 × XS, x = .inr b1 → xext σ b1.2) := by
  have hm := xext.rf (σ := σ)
  obtain ⟨v2, e1, hf⟩ := xbd hf
  obtain ⟨_, e3, hf⟩ := xbd hf
  obtain ⟨⟨v6, σ5⟩, e4, hf⟩ := xbd hf
  dsimp only at hf
  have hm := hm.tr (m_X12_overlap e4).ext
  have hf := xsj hf
  subst hf
  exact ⟨fun a' e => (by have h9 := Sum.inl.inj e; subst h9; exact hm), fun b e => xnc1 e⟩
theorem s_L_law_j972 {G : XG} (C : XC G cL_law RL (some .boolean) 4 13 468) {b L : Nat} {xs : Nat → Int32} (hS : XScr G b L xs) {σ : XS} {r1 : Nat} {r2 : Nat} {x3 : Int32} {t0 : Int32} {x : ((Int32 × XS) ⊕ (Int32 × XS))} (hf : f_L_law_j972 L xs σ r1 r2 x3 t0 = some x) (hk : (∀ a' : Int32 × XS, x = .inl a' → XUp G a'.2 ∧ WW G 18 [(0, .ref b), (1, .ref (gB G + r1)), (2, .ref (gB G + r2)), (3, .int a'.1)] [] a'.2) ∧ (∀ b1 : Int32 × XS, x = .inr b1 → XEndL G b b1)) : WW G 972 [(0, .ref b), (1, .ref (gB G + r1)), (2, .ref (gB G + r2)), (3, .int x3)] [.int t0] σ := by
  refine ww_pop (pc := 972) C dL_law_972 rfl ?_
  refine ww_aload_n (pc := 973) C 2 dL_law_973 rfl ?_
  refine ww_aload_n (pc := 974) C 0 dL_law_974 rfl ?_
  refine ww_iload_n (pc := 975) C 3 dL_law_975 rfl ?_
  refine ww_iconst (pc := 976) (v := (1 : Int32)) C dL_law_976 (by decide) ?_
  refine ww_iadd (pc := 977) C dL_law_977 ?_
  obtain ⟨v2, e1, hf⟩ := xbd hf
  refine ww_sld (pc := 978) C hS e1 dL_law_978 ?_
  obtain ⟨_, e3, hf⟩ := xbd hf
  obtain ⟨⟨v6, σ5⟩, e4, hf⟩ := xbd hf
  dsimp only at hf
  refine ww_callVi (pc := 979) (as := [.int v2]) (st := []) C (k_X12_basin (l := gl G) (E := gE G) (hb := gB G) (σ := σ) e4) rfl (by decide) xc_L_128 q1675 q1676 (xck_spec e3) rfl (by decide) (xst4 (Nat.le_of_ble_eq_true rfl)) (m_X12_basin e4).le (m_X12_basin e4).lim dL_law_979 ?_
  refine ww_pop (pc := 982) C dL_law_982 rfl ?_
  refine ww_goto (pc := 983) (tgt := 1289) C dL_law_983 (by decide) ?_
  refine ww_iinc (pc := 1289) (v := x3 + (6 : Int32)) (lv' := [(3, .int (x3 + (6 : Int32))), (0, .ref b), (1, .ref (gB G + r1)), (2, .ref (gB G + r2))]) C 3 dL_law_1289 rfl (congrArg (fun z => x3 + z) (show Int32.ofInt (6) = (6 : Int32) by decide)) (by decide) rfl ?_
  refine ww_goto (pc := 1292) (tgt := 18) C dL_law_1292 (by decide) ?_
  have hf := xsj hf
  subst hf
  refine ww_sub [1, 2, 3, 0] rfl ?_
  exact (hk.1 (x3 + (6 : Int32), σ5) rfl).2
theorem m_L_law_j972 {L : Nat} {xs : Nat → Int32} {σ : XS} {r1 : Nat} {r2 : Nat} {x3 : Int32} {t0 : Int32} {x : ((Int32 × XS) ⊕ (Int32 × XS))} (hf : f_L_law_j972 L xs σ r1 r2 x3 t0 = some x) : (∀ a' : Int32 × XS, x = .inl a' → xext σ a'.2) ∧ (∀ b1 : Int32 × XS, x = .inr b1 → xext σ b1.2) := by
  have hm := xext.rf (σ := σ)
  obtain ⟨v2, e1, hf⟩ := xbd hf
  obtain ⟨_, e3, hf⟩ := xbd hf
  obtain ⟨⟨v6, σ5⟩, e4, hf⟩ := xbd hf
  dsimp only at hf
  have hm := hm.tr (m_X12_basin e4).ext
  have hf := xsj hf
  subst hf
  exact ⟨fun a' e => (by have h9 := Sum.inl.inj e; subst h9; exact hm), fun b e => xnc1 e⟩
theorem s_L_law_j1000 {G : XG} (C : XC G cL_law RL (some .boolean) 4 13 468) {b L : Nat} {xs : Nat → Int32} (hS : XScr G b L xs) {σ : XS} {r1 : Nat} {r2 : Nat} {x3 : Int32} {t0 : Int32} {x : ((Int32 × XS) ⊕ (Int32 × XS))} (hf : f_L_law_j1000 L xs σ r1 r2 x3 t0 = some x) (hk : (∀ a' : Int32 × XS, x = .inl a' → XUp G a'.2 ∧ WW G 18 [(0, .ref b), (1, .ref (gB G + r1)), (2, .ref (gB G + r2)), (3, .int a'.1)] [] a'.2) ∧ (∀ b1 : Int32 × XS, x = .inr b1 → XEndL G b b1)) : WW G 1000 [(0, .ref b), (1, .ref (gB G + r1)), (2, .ref (gB G + r2)), (3, .int x3)] [.int t0] σ := by
  refine ww_pop (pc := 1000) C dL_law_1000 rfl ?_
  refine ww_aload_n (pc := 1001) C 2 dL_law_1001 rfl ?_
  refine ww_aload_n (pc := 1002) C 0 dL_law_1002 rfl ?_
  refine ww_iload_n (pc := 1003) C 3 dL_law_1003 rfl ?_
  refine ww_iconst (pc := 1004) (v := (1 : Int32)) C dL_law_1004 (by decide) ?_
  refine ww_iadd (pc := 1005) C dL_law_1005 ?_
  obtain ⟨v2, e1, hf⟩ := xbd hf
  refine ww_sld (pc := 1006) C hS e1 dL_law_1006 ?_
  refine ww_aload_n (pc := 1007) C 0 dL_law_1007 rfl ?_
  refine ww_iload_n (pc := 1008) C 3 dL_law_1008 rfl ?_
  refine ww_iconst (pc := 1009) (v := (2 : Int32)) C dL_law_1009 (by decide) ?_
  refine ww_iadd (pc := 1010) C dL_law_1010 ?_
  obtain ⟨v4, e3, hf⟩ := xbd hf
  refine ww_sld (pc := 1011) C hS e3 dL_law_1011 ?_
  obtain ⟨_, e5, hf⟩ := xbd hf
  obtain ⟨⟨v8, σ7⟩, e6, hf⟩ := xbd hf
  dsimp only at hf
  refine ww_callVi (pc := 1012) (as := [.int v2, .int v4]) (st := []) C (k_X12_stiff (l := gl G) (E := gE G) (hb := gB G) (σ := σ) e6) rfl (by decide) xc_L_132 q1703 q1704 (xck_spec e5) rfl (by decide) (xst4 (Nat.le_of_ble_eq_true rfl)) (m_X12_stiff e6).le (m_X12_stiff e6).lim dL_law_1012 ?_
  refine ww_pop (pc := 1015) C dL_law_1015 rfl ?_
  refine ww_goto (pc := 1016) (tgt := 1289) C dL_law_1016 (by decide) ?_
  refine ww_iinc (pc := 1289) (v := x3 + (6 : Int32)) (lv' := [(3, .int (x3 + (6 : Int32))), (0, .ref b), (1, .ref (gB G + r1)), (2, .ref (gB G + r2))]) C 3 dL_law_1289 rfl (congrArg (fun z => x3 + z) (show Int32.ofInt (6) = (6 : Int32) by decide)) (by decide) rfl ?_
  refine ww_goto (pc := 1292) (tgt := 18) C dL_law_1292 (by decide) ?_
  have hf := xsj hf
  subst hf
  refine ww_sub [1, 2, 3, 0] rfl ?_
  exact (hk.1 (x3 + (6 : Int32), σ7) rfl).2
theorem m_L_law_j1000 {L : Nat} {xs : Nat → Int32} {σ : XS} {r1 : Nat} {r2 : Nat} {x3 : Int32} {t0 : Int32} {x : ((Int32 × XS) ⊕ (Int32 × XS))} (hf : f_L_law_j1000 L xs σ r1 r2 x3 t0 = some x) : (∀ a' : Int32 × XS, x = .inl a' → xext σ a'.2) ∧ (∀ b1 : Int32 × XS, x = .inr b1 → xext σ b1.2) := by
  have hm := xext.rf (σ := σ)
  obtain ⟨v2, e1, hf⟩ := xbd hf
  obtain ⟨v4, e3, hf⟩ := xbd hf
  obtain ⟨_, e5, hf⟩ := xbd hf
  obtain ⟨⟨v8, σ7⟩, e6, hf⟩ := xbd hf
  dsimp only at hf
  have hm := hm.tr (m_X12_stiff e6).ext
  have hf := xsj hf
  subst hf
  exact ⟨fun a' e => (by have h9 := Sum.inl.inj e; subst h9; exact hm), fun b e => xnc1 e⟩
theorem s_L_law_j1028 {G : XG} (C : XC G cL_law RL (some .boolean) 4 13 468) {b L : Nat} {xs : Nat → Int32} (hS : XScr G b L xs) {σ : XS} {r1 : Nat} {r2 : Nat} {x3 : Int32} {t0 : Int32} {x : ((Int32 × XS) ⊕ (Int32 × XS))} (hf : f_L_law_j1028 L xs σ r1 r2 x3 t0 = some x) (hk : (∀ a' : Int32 × XS, x = .inl a' → XUp G a'.2 ∧ WW G 18 [(0, .ref b), (1, .ref (gB G + r1)), (2, .ref (gB G + r2)), (3, .int a'.1)] [] a'.2) ∧ (∀ b1 : Int32 × XS, x = .inr b1 → XEndL G b b1)) : WW G 1028 [(0, .ref b), (1, .ref (gB G + r1)), (2, .ref (gB G + r2)), (3, .int x3)] [.int t0] σ := by
  refine ww_pop (pc := 1028) C dL_law_1028 rfl ?_
  refine ww_aload_n (pc := 1029) C 2 dL_law_1029 rfl ?_
  refine ww_aload_n (pc := 1030) C 0 dL_law_1030 rfl ?_
  refine ww_iload_n (pc := 1031) C 3 dL_law_1031 rfl ?_
  refine ww_iconst (pc := 1032) (v := (1 : Int32)) C dL_law_1032 (by decide) ?_
  refine ww_iadd (pc := 1033) C dL_law_1033 ?_
  obtain ⟨v2, e1, hf⟩ := xbd hf
  refine ww_sld (pc := 1034) C hS e1 dL_law_1034 ?_
  obtain ⟨_, e3, hf⟩ := xbd hf
  obtain ⟨⟨v6, σ5⟩, e4, hf⟩ := xbd hf
  dsimp only at hf
  refine ww_callVi (pc := 1035) (as := [.int v2]) (st := []) C (k_X12_hill (l := gl G) (E := gE G) (hb := gB G) (σ := σ) e4) rfl (by decide) xc_L_136 q1679 q1680 (xck_spec e3) rfl (by decide) (xst4 (Nat.le_of_ble_eq_true rfl)) (m_X12_hill e4).le (m_X12_hill e4).lim dL_law_1035 ?_
  refine ww_pop (pc := 1038) C dL_law_1038 rfl ?_
  refine ww_goto (pc := 1039) (tgt := 1289) C dL_law_1039 (by decide) ?_
  refine ww_iinc (pc := 1289) (v := x3 + (6 : Int32)) (lv' := [(3, .int (x3 + (6 : Int32))), (0, .ref b), (1, .ref (gB G + r1)), (2, .ref (gB G + r2))]) C 3 dL_law_1289 rfl (congrArg (fun z => x3 + z) (show Int32.ofInt (6) = (6 : Int32) by decide)) (by decide) rfl ?_
  refine ww_goto (pc := 1292) (tgt := 18) C dL_law_1292 (by decide) ?_
  have hf := xsj hf
  subst hf
  refine ww_sub [1, 2, 3, 0] rfl ?_
  exact (hk.1 (x3 + (6 : Int32), σ5) rfl).2
theorem m_L_law_j1028 {L : Nat} {xs : Nat → Int32} {σ : XS} {r1 : Nat} {r2 : Nat} {x3 : Int32} {t0 : Int32} {x : ((Int32 × XS) ⊕ (Int32 × XS))} (hf : f_L_law_j1028 L xs σ r1 r2 x3 t0 = some x) : (∀ a' : Int32 × XS, x = .inl a' → xext σ a'.2) ∧ (∀ b1 : Int32 × XS, x = .inr b1 → xext σ b1.2) := by
  have hm := xext.rf (σ := σ)
  obtain ⟨v2, e1, hf⟩ := xbd hf
  obtain ⟨_, e3, hf⟩ := xbd hf
  obtain ⟨⟨v6, σ5⟩, e4, hf⟩ := xbd hf
  dsimp only at hf
  have hm := hm.tr (m_X12_hill e4).ext
  have hf := xsj hf
  subst hf
  exact ⟨fun a' e => (by have h9 := Sum.inl.inj e; subst h9; exact hm), fun b e => xnc1 e⟩
theorem s_L_law_j1056 {G : XG} (C : XC G cL_law RL (some .boolean) 4 13 468) {b L : Nat} {xs : Nat → Int32} (hS : XScr G b L xs) {σ : XS} {r1 : Nat} {r2 : Nat} {x3 : Int32} {t0 : Int32} {x : ((Int32 × XS) ⊕ (Int32 × XS))} (hf : f_L_law_j1056 L xs σ r1 r2 x3 t0 = some x) (hk : (∀ a' : Int32 × XS, x = .inl a' → XUp G a'.2 ∧ WW G 18 [(0, .ref b), (1, .ref (gB G + r1)), (2, .ref (gB G + r2)), (3, .int a'.1)] [] a'.2) ∧ (∀ b1 : Int32 × XS, x = .inr b1 → XEndL G b b1)) : WW G 1056 [(0, .ref b), (1, .ref (gB G + r1)), (2, .ref (gB G + r2)), (3, .int x3)] [.int t0] σ := by
  refine ww_pop (pc := 1056) C dL_law_1056 rfl ?_
  refine ww_aload_n (pc := 1057) C 2 dL_law_1057 rfl ?_
  refine ww_aload_n (pc := 1058) C 0 dL_law_1058 rfl ?_
  refine ww_iload_n (pc := 1059) C 3 dL_law_1059 rfl ?_
  refine ww_iconst (pc := 1060) (v := (1 : Int32)) C dL_law_1060 (by decide) ?_
  refine ww_iadd (pc := 1061) C dL_law_1061 ?_
  obtain ⟨v2, e1, hf⟩ := xbd hf
  refine ww_sld (pc := 1062) C hS e1 dL_law_1062 ?_
  refine ww_aload_n (pc := 1063) C 0 dL_law_1063 rfl ?_
  refine ww_iload_n (pc := 1064) C 3 dL_law_1064 rfl ?_
  refine ww_iconst (pc := 1065) (v := (2 : Int32)) C dL_law_1065 (by decide) ?_
  refine ww_iadd (pc := 1066) C dL_law_1066 ?_
  obtain ⟨v4, e3, hf⟩ := xbd hf
  refine ww_sld (pc := 1067) C hS e3 dL_law_1067 ?_
  obtain ⟨_, e5, hf⟩ := xbd hf
  obtain ⟨⟨v8, σ7⟩, e6, hf⟩ := xbd hf
  dsimp only at hf
  refine ww_callVi (pc := 1068) (as := [.int v2, .int v4]) (st := []) C (k_X12_pass (l := gl G) (E := gE G) (hb := gB G) (σ := σ) e6) rfl (by decide) xc_L_140 q1687 q1688 (xck_spec e5) rfl (by decide) (xst4 (Nat.le_of_ble_eq_true rfl)) (m_X12_pass e6).le (m_X12_pass e6).lim dL_law_1068 ?_
  refine ww_pop (pc := 1071) C dL_law_1071 rfl ?_
  refine ww_goto (pc := 1072) (tgt := 1289) C dL_law_1072 (by decide) ?_
  refine ww_iinc (pc := 1289) (v := x3 + (6 : Int32)) (lv' := [(3, .int (x3 + (6 : Int32))), (0, .ref b), (1, .ref (gB G + r1)), (2, .ref (gB G + r2))]) C 3 dL_law_1289 rfl (congrArg (fun z => x3 + z) (show Int32.ofInt (6) = (6 : Int32) by decide)) (by decide) rfl ?_
  refine ww_goto (pc := 1292) (tgt := 18) C dL_law_1292 (by decide) ?_
  have hf := xsj hf
  subst hf
  refine ww_sub [1, 2, 3, 0] rfl ?_
  exact (hk.1 (x3 + (6 : Int32), σ7) rfl).2
theorem m_L_law_j1056 {L : Nat} {xs : Nat → Int32} {σ : XS} {r1 : Nat} {r2 : Nat} {x3 : Int32} {t0 : Int32} {x : ((Int32 × XS) ⊕ (Int32 × XS))} (hf : f_L_law_j1056 L xs σ r1 r2 x3 t0 = some x) : (∀ a' : Int32 × XS, x = .inl a' → xext σ a'.2) ∧ (∀ b1 : Int32 × XS, x = .inr b1 → xext σ b1.2) := by
  have hm := xext.rf (σ := σ)
  obtain ⟨v2, e1, hf⟩ := xbd hf
  obtain ⟨v4, e3, hf⟩ := xbd hf
  obtain ⟨_, e5, hf⟩ := xbd hf
  obtain ⟨⟨v8, σ7⟩, e6, hf⟩ := xbd hf
  dsimp only at hf
  have hm := hm.tr (m_X12_pass e6).ext
  have hf := xsj hf
  subst hf
  exact ⟨fun a' e => (by have h9 := Sum.inl.inj e; subst h9; exact hm), fun b e => xnc1 e⟩
theorem s_L_law_j1084 {G : XG} (C : XC G cL_law RL (some .boolean) 4 13 468) {b L : Nat} {xs : Nat → Int32} (hS : XScr G b L xs) {σ : XS} {r1 : Nat} {r2 : Nat} {x3 : Int32} {t0 : Int32} {x : ((Int32 × XS) ⊕ (Int32 × XS))} (hf : f_L_law_j1084 L xs σ r1 r2 x3 t0 = some x) (hk : (∀ a' : Int32 × XS, x = .inl a' → XUp G a'.2 ∧ WW G 18 [(0, .ref b), (1, .ref (gB G + r1)), (2, .ref (gB G + r2)), (3, .int a'.1)] [] a'.2) ∧ (∀ b1 : Int32 × XS, x = .inr b1 → XEndL G b b1)) : WW G 1084 [(0, .ref b), (1, .ref (gB G + r1)), (2, .ref (gB G + r2)), (3, .int x3)] [.int t0] σ := by
  refine ww_pop (pc := 1084) C dL_law_1084 rfl ?_
  refine ww_aload_n (pc := 1085) C 2 dL_law_1085 rfl ?_
  refine ww_aload_n (pc := 1086) C 0 dL_law_1086 rfl ?_
  refine ww_iload_n (pc := 1087) C 3 dL_law_1087 rfl ?_
  refine ww_iconst (pc := 1088) (v := (1 : Int32)) C dL_law_1088 (by decide) ?_
  refine ww_iadd (pc := 1089) C dL_law_1089 ?_
  obtain ⟨v2, e1, hf⟩ := xbd hf
  refine ww_sld (pc := 1090) C hS e1 dL_law_1090 ?_
  obtain ⟨_, e3, hf⟩ := xbd hf
  obtain ⟨⟨v6, σ5⟩, e4, hf⟩ := xbd hf
  dsimp only at hf
  refine ww_callVi (pc := 1091) (as := [.int v2]) (st := []) C (k_X12_lakes (l := gl G) (E := gE G) (hb := gB G) (σ := σ) e4) rfl (by decide) xc_L_144 q1691 q1692 (xck_spec e3) rfl (by decide) (xst4 (Nat.le_of_ble_eq_true rfl)) (m_X12_lakes e4).le (m_X12_lakes e4).lim dL_law_1091 ?_
  refine ww_pop (pc := 1094) C dL_law_1094 rfl ?_
  refine ww_goto (pc := 1095) (tgt := 1289) C dL_law_1095 (by decide) ?_
  refine ww_iinc (pc := 1289) (v := x3 + (6 : Int32)) (lv' := [(3, .int (x3 + (6 : Int32))), (0, .ref b), (1, .ref (gB G + r1)), (2, .ref (gB G + r2))]) C 3 dL_law_1289 rfl (congrArg (fun z => x3 + z) (show Int32.ofInt (6) = (6 : Int32) by decide)) (by decide) rfl ?_
  refine ww_goto (pc := 1292) (tgt := 18) C dL_law_1292 (by decide) ?_
  have hf := xsj hf
  subst hf
  refine ww_sub [1, 2, 3, 0] rfl ?_
  exact (hk.1 (x3 + (6 : Int32), σ5) rfl).2
theorem m_L_law_j1084 {L : Nat} {xs : Nat → Int32} {σ : XS} {r1 : Nat} {r2 : Nat} {x3 : Int32} {t0 : Int32} {x : ((Int32 × XS) ⊕ (Int32 × XS))} (hf : f_L_law_j1084 L xs σ r1 r2 x3 t0 = some x) : (∀ a' : Int32 × XS, x = .inl a' → xext σ a'.2) ∧ (∀ b1 : Int32 × XS, x = .inr b1 → xext σ b1.2) := by
  have hm := xext.rf (σ := σ)
  obtain ⟨v2, e1, hf⟩ := xbd hf
  obtain ⟨_, e3, hf⟩ := xbd hf
  obtain ⟨⟨v6, σ5⟩, e4, hf⟩ := xbd hf
  dsimp only at hf
  have hm := hm.tr (m_X12_lakes e4).ext
  have hf := xsj hf
  subst hf
  exact ⟨fun a' e => (by have h9 := Sum.inl.inj e; subst h9; exact hm), fun b e => xnc1 e⟩
theorem s_L_law_j1107 {G : XG} (C : XC G cL_law RL (some .boolean) 4 13 468) {b L : Nat} {xs : Nat → Int32} (hS : XScr G b L xs) {σ : XS} {r1 : Nat} {r2 : Nat} {x3 : Int32} {t0 : Int64} {x : ((Int32 × XS) ⊕ (Int32 × XS))} (hf : f_L_law_j1107 L xs σ r1 r2 x3 t0 = some x) (hk : (∀ a' : Int32 × XS, x = .inl a' → XUp G a'.2 ∧ WW G 18 [(0, .ref b), (1, .ref (gB G + r1)), (2, .ref (gB G + r2)), (3, .int a'.1)] [] a'.2) ∧ (∀ b1 : Int32 × XS, x = .inr b1 → XEndL G b b1)) : WW G 1107 [(0, .ref b), (1, .ref (gB G + r1)), (2, .ref (gB G + r2)), (3, .int x3)] [.long t0] σ := by
  refine ww_pop2 (pc := 1107) C dL_law_1107 rfl ?_
  refine ww_aload_n (pc := 1108) C 2 dL_law_1108 rfl ?_
  refine ww_aload_n (pc := 1109) C 0 dL_law_1109 rfl ?_
  refine ww_iload_n (pc := 1110) C 3 dL_law_1110 rfl ?_
  refine ww_iconst (pc := 1111) (v := (1 : Int32)) C dL_law_1111 (by decide) ?_
  refine ww_iadd (pc := 1112) C dL_law_1112 ?_
  obtain ⟨v2, e1, hf⟩ := xbd hf
  refine ww_sld (pc := 1113) C hS e1 dL_law_1113 ?_
  obtain ⟨_, e3, hf⟩ := xbd hf
  obtain ⟨⟨v6, σ5⟩, e4, hf⟩ := xbd hf
  dsimp only at hf
  refine ww_callVj (pc := 1114) (as := [.int v2]) (st := []) C (k_X12_down (l := gl G) (E := gE G) (hb := gB G) (σ := σ) e4) rfl (by decide) xc_L_149 q1695 q1696 (xck_spec e3) rfl (by decide) (xst4 (Nat.le_of_ble_eq_true rfl)) (m_X12_down e4).le (m_X12_down e4).lim dL_law_1114 ?_
  refine ww_pop2 (pc := 1117) C dL_law_1117 rfl ?_
  refine ww_goto (pc := 1118) (tgt := 1289) C dL_law_1118 (by decide) ?_
  refine ww_iinc (pc := 1289) (v := x3 + (6 : Int32)) (lv' := [(3, .int (x3 + (6 : Int32))), (0, .ref b), (1, .ref (gB G + r1)), (2, .ref (gB G + r2))]) C 3 dL_law_1289 rfl (congrArg (fun z => x3 + z) (show Int32.ofInt (6) = (6 : Int32) by decide)) (by decide) rfl ?_
  refine ww_goto (pc := 1292) (tgt := 18) C dL_law_1292 (by decide) ?_
  have hf := xsj hf
  subst hf
  refine ww_sub [1, 2, 3, 0] rfl ?_
  exact (hk.1 (x3 + (6 : Int32), σ5) rfl).2
theorem m_L_law_j1107 {L : Nat} {xs : Nat → Int32} {σ : XS} {r1 : Nat} {r2 : Nat} {x3 : Int32} {t0 : Int64} {x : ((Int32 × XS) ⊕ (Int32 × XS))} (hf : f_L_law_j1107 L xs σ r1 r2 x3 t0 = some x) : (∀ a' : Int32 × XS, x = .inl a' → xext σ a'.2) ∧ (∀ b1 : Int32 × XS, x = .inr b1 → xext σ b1.2) := by
  have hm := xext.rf (σ := σ)
  obtain ⟨v2, e1, hf⟩ := xbd hf
  obtain ⟨_, e3, hf⟩ := xbd hf
  obtain ⟨⟨v6, σ5⟩, e4, hf⟩ := xbd hf
  dsimp only at hf
  have hm := hm.tr (m_X12_down e4).ext
  have hf := xsj hf
  subst hf
  exact ⟨fun a' e => (by have h9 := Sum.inl.inj e; subst h9; exact hm), fun b e => xnc1 e⟩
theorem s_L_law_j1135 {G : XG} (C : XC G cL_law RL (some .boolean) 4 13 468) {b L : Nat} {xs : Nat → Int32} (hS : XScr G b L xs) {σ : XS} {r1 : Nat} {r2 : Nat} {x3 : Int32} {t0 : Int32} {x : ((Int32 × XS) ⊕ (Int32 × XS))} (hf : f_L_law_j1135 L xs σ r1 r2 x3 t0 = some x) (hk : (∀ a' : Int32 × XS, x = .inl a' → XUp G a'.2 ∧ WW G 18 [(0, .ref b), (1, .ref (gB G + r1)), (2, .ref (gB G + r2)), (3, .int a'.1)] [] a'.2) ∧ (∀ b1 : Int32 × XS, x = .inr b1 → XEndL G b b1)) : WW G 1135 [(0, .ref b), (1, .ref (gB G + r1)), (2, .ref (gB G + r2)), (3, .int x3)] [.int t0] σ := by
  refine ww_pop (pc := 1135) C dL_law_1135 rfl ?_
  refine ww_aload_n (pc := 1136) C 2 dL_law_1136 rfl ?_
  refine ww_aload_n (pc := 1137) C 0 dL_law_1137 rfl ?_
  refine ww_iload_n (pc := 1138) C 3 dL_law_1138 rfl ?_
  refine ww_iconst (pc := 1139) (v := (1 : Int32)) C dL_law_1139 (by decide) ?_
  refine ww_iadd (pc := 1140) C dL_law_1140 ?_
  obtain ⟨v2, e1, hf⟩ := xbd hf
  refine ww_sld (pc := 1141) C hS e1 dL_law_1141 ?_
  refine ww_aload_n (pc := 1142) C 0 dL_law_1142 rfl ?_
  refine ww_iload_n (pc := 1143) C 3 dL_law_1143 rfl ?_
  refine ww_iconst (pc := 1144) (v := (2 : Int32)) C dL_law_1144 (by decide) ?_
  refine ww_iadd (pc := 1145) C dL_law_1145 ?_
  obtain ⟨v4, e3, hf⟩ := xbd hf
  refine ww_sld (pc := 1146) C hS e3 dL_law_1146 ?_
  obtain ⟨_, e5, hf⟩ := xbd hf
  obtain ⟨⟨v8, σ7⟩, e6, hf⟩ := xbd hf
  dsimp only at hf
  refine ww_callVi (pc := 1147) (as := [.int v2, .int v4]) (st := []) C (k_X12_nearest (l := gl G) (E := gE G) (hb := gB G) (σ := σ) e6) rfl (by decide) xc_L_153 q1699 q1700 (xck_spec e5) rfl (by decide) (xst4 (Nat.le_of_ble_eq_true rfl)) (m_X12_nearest e6).le (m_X12_nearest e6).lim dL_law_1147 ?_
  refine ww_pop (pc := 1150) C dL_law_1150 rfl ?_
  refine ww_goto (pc := 1151) (tgt := 1289) C dL_law_1151 (by decide) ?_
  refine ww_iinc (pc := 1289) (v := x3 + (6 : Int32)) (lv' := [(3, .int (x3 + (6 : Int32))), (0, .ref b), (1, .ref (gB G + r1)), (2, .ref (gB G + r2))]) C 3 dL_law_1289 rfl (congrArg (fun z => x3 + z) (show Int32.ofInt (6) = (6 : Int32) by decide)) (by decide) rfl ?_
  refine ww_goto (pc := 1292) (tgt := 18) C dL_law_1292 (by decide) ?_
  have hf := xsj hf
  subst hf
  refine ww_sub [1, 2, 3, 0] rfl ?_
  exact (hk.1 (x3 + (6 : Int32), σ7) rfl).2
theorem m_L_law_j1135 {L : Nat} {xs : Nat → Int32} {σ : XS} {r1 : Nat} {r2 : Nat} {x3 : Int32} {t0 : Int32} {x : ((Int32 × XS) ⊕ (Int32 × XS))} (hf : f_L_law_j1135 L xs σ r1 r2 x3 t0 = some x) : (∀ a' : Int32 × XS, x = .inl a' → xext σ a'.2) ∧ (∀ b1 : Int32 × XS, x = .inr b1 → xext σ b1.2) := by
  have hm := xext.rf (σ := σ)
  obtain ⟨v2, e1, hf⟩ := xbd hf
  obtain ⟨v4, e3, hf⟩ := xbd hf
  obtain ⟨_, e5, hf⟩ := xbd hf
  obtain ⟨⟨v8, σ7⟩, e6, hf⟩ := xbd hf
  dsimp only at hf
  have hm := hm.tr (m_X12_nearest e6).ext
  have hf := xsj hf
  subst hf
  exact ⟨fun a' e => (by have h9 := Sum.inl.inj e; subst h9; exact hm), fun b e => xnc1 e⟩
theorem s_L_law_j1275 {G : XG} (C : XC G cL_law RL (some .boolean) 4 13 468) {b L : Nat} {xs : Nat → Int32} (hS : XScr G b L xs) {σ : XS} {r1 : Nat} {r2 : Nat} {x3 : Int32} {t0 : Int32} {x : ((Int32 × XS) ⊕ (Int32 × XS))} (hf : f_L_law_j1275 L xs σ r1 r2 x3 t0 = some x) (hk : (∀ a' : Int32 × XS, x = .inl a' → XUp G a'.2 ∧ WW G 18 [(0, .ref b), (1, .ref (gB G + r1)), (2, .ref (gB G + r2)), (3, .int a'.1)] [] a'.2) ∧ (∀ b1 : Int32 × XS, x = .inr b1 → XEndL G b b1)) : WW G 1275 [(0, .ref b), (1, .ref (gB G + r1)), (2, .ref (gB G + r2)), (3, .int x3)] [.int t0] σ := by
  refine ww_pop (pc := 1275) C dL_law_1275 rfl ?_
  refine ww_aload_n (pc := 1276) C 2 dL_law_1276 rfl ?_
  refine ww_aload_n (pc := 1277) C 0 dL_law_1277 rfl ?_
  refine ww_iload_n (pc := 1278) C 3 dL_law_1278 rfl ?_
  refine ww_iconst (pc := 1279) (v := (1 : Int32)) C dL_law_1279 (by decide) ?_
  refine ww_iadd (pc := 1280) C dL_law_1280 ?_
  obtain ⟨v2, e1, hf⟩ := xbd hf
  refine ww_sld (pc := 1281) C hS e1 dL_law_1281 ?_
  obtain ⟨_, e3, hf⟩ := xbd hf
  obtain ⟨v5, e4, hf⟩ := xbd hf
  refine ww_callVi (pc := 1282) (as := [.int v2]) (st := []) C (k_X12_count (l := gl G) (E := gE G) (hb := gB G) (σ := σ) e4) rfl (by decide) xc_L_173 q1736 q1737 (xck_spec e3) rfl (by decide) (xst4 (Nat.le_of_ble_eq_true rfl)) xsame.rf.le xsame.rf.lim dL_law_1282 ?_
  refine ww_pop (pc := 1285) C dL_law_1285 rfl ?_
  refine ww_goto (pc := 1286) (tgt := 1289) C dL_law_1286 (by decide) ?_
  refine ww_iinc (pc := 1289) (v := x3 + (6 : Int32)) (lv' := [(3, .int (x3 + (6 : Int32))), (0, .ref b), (1, .ref (gB G + r1)), (2, .ref (gB G + r2))]) C 3 dL_law_1289 rfl (congrArg (fun z => x3 + z) (show Int32.ofInt (6) = (6 : Int32) by decide)) (by decide) rfl ?_
  refine ww_goto (pc := 1292) (tgt := 18) C dL_law_1292 (by decide) ?_
  have hf := xsj hf
  subst hf
  refine ww_sub [1, 2, 3, 0] rfl ?_
  exact (hk.1 (x3 + (6 : Int32), σ) rfl).2
theorem m_L_law_j1275 {L : Nat} {xs : Nat → Int32} {σ : XS} {r1 : Nat} {r2 : Nat} {x3 : Int32} {t0 : Int32} {x : ((Int32 × XS) ⊕ (Int32 × XS))} (hf : f_L_law_j1275 L xs σ r1 r2 x3 t0 = some x) : (∀ a' : Int32 × XS, x = .inl a' → xext σ a'.2) ∧ (∀ b1 : Int32 × XS, x = .inr b1 → xext σ b1.2) := by
  have hm := xext.rf (σ := σ)
  obtain ⟨v2, e1, hf⟩ := xbd hf
  obtain ⟨_, e3, hf⟩ := xbd hf
  obtain ⟨v5, e4, hf⟩ := xbd hf
  have hf := xsj hf
  subst hf
  exact ⟨fun a' e => (by have h9 := Sum.inl.inj e; subst h9; exact hm), fun b e => xnc1 e⟩
theorem m_L_law_l18 {L : Nat} {xs : Nat → Int32} {r1 : Nat} {r2 : Nat} {a : Int32 × XS} {x : Int32 × XS} (hf : xloop (f_L_law_b18 L xs r1 r2) a = some x) : xext a.2 x.2 := by
  refine xloop_ind (P := fun a => xext a.2 x.2) (fun a y hf hc he => ?_) hf
  obtain ⟨x3, σ⟩ := a
  have hy : (∀ a' : Int32 × XS, y = .inl a' → xext σ a'.2) ∧ (∀ b1 : Int32 × XS, y = .inr b1 → xext σ b1.2) := by
    have hm := xext.rf (σ := σ)
    by_cases q : ((Int32.ofNat L) - (6 : Int32)) < x3
    · have hf := xip q hf
      obtain ⟨b0, hg, e9⟩ := xmj hf
      subst e9
      have hf := hg
      refine ⟨fun a' e => xnc2 e, fun b e => ?_⟩
      have h9 := Sum.inr.inj e
      subst h9
      have hf := xsj hf
      subst hf
      exact hm
    · have hf := xin q hf
      obtain ⟨v2, e1, hf⟩ := xbd hf
      by_cases ho : (v2 &&& (63 : Int32)).toInt < 0 ∨ 36 < (v2 &&& (63 : Int32)).toInt
      · have hf := xsw_out ho rfl hf
        have hf := xsj hf
        subst hf
        exact ⟨fun a' e => (by have h9 := Sum.inl.inj e; subst h9; exact hm), fun b e => xnc1 e⟩
      · rcases (by omega : (v2 &&& (63 : Int32)).toInt = 0 + ((0 : Nat) : Int) ∨ (v2 &&& (63 : Int32)).toInt = 0 + ((1 : Nat) : Int) ∨ (v2 &&& (63 : Int32)).toInt = 0 + ((2 : Nat) : Int) ∨ (v2 &&& (63 : Int32)).toInt = 0 + ((3 : Nat) : Int) ∨ (v2 &&& (63 : Int32)).toInt = 0 + ((4 : Nat) : Int) ∨ (v2 &&& (63 : Int32)).toInt = 0 + ((5 : Nat) : Int) ∨ (v2 &&& (63 : Int32)).toInt = 0 + ((6 : Nat) : Int) ∨ (v2 &&& (63 : Int32)).toInt = 0 + ((7 : Nat) : Int) ∨ (v2 &&& (63 : Int32)).toInt = 0 + ((8 : Nat) : Int) ∨ (v2 &&& (63 : Int32)).toInt = 0 + ((9 : Nat) : Int) ∨ (v2 &&& (63 : Int32)).toInt = 0 + ((10 : Nat) : Int) ∨ (v2 &&& (63 : Int32)).toInt = 0 + ((11 : Nat) : Int) ∨ (v2 &&& (63 : Int32)).toInt = 0 + ((12 : Nat) : Int) ∨ (v2 &&& (63 : Int32)).toInt = 0 + ((13 : Nat) : Int) ∨ (v2 &&& (63 : Int32)).toInt = 0 + ((14 : Nat) : Int) ∨ (v2 &&& (63 : Int32)).toInt = 0 + ((15 : Nat) : Int) ∨ (v2 &&& (63 : Int32)).toInt = 0 + ((16 : Nat) : Int) ∨ (v2 &&& (63 : Int32)).toInt = 0 + ((17 : Nat) : Int) ∨ (v2 &&& (63 : Int32)).toInt = 0 + ((18 : Nat) : Int) ∨ (v2 &&& (63 : Int32)).toInt = 0 + ((19 : Nat) : Int) ∨ (v2 &&& (63 : Int32)).toInt = 0 + ((20 : Nat) : Int) ∨ (v2 &&& (63 : Int32)).toInt = 0 + ((21 : Nat) : Int) ∨ (v2 &&& (63 : Int32)).toInt = 0 + ((22 : Nat) : Int) ∨ (v2 &&& (63 : Int32)).toInt = 0 + ((23 : Nat) : Int) ∨ (v2 &&& (63 : Int32)).toInt = 0 + ((24 : Nat) : Int) ∨ (v2 &&& (63 : Int32)).toInt = 0 + ((25 : Nat) : Int) ∨ (v2 &&& (63 : Int32)).toInt = 0 + ((26 : Nat) : Int) ∨ (v2 &&& (63 : Int32)).toInt = 0 + ((27 : Nat) : Int) ∨ (v2 &&& (63 : Int32)).toInt = 0 + ((28 : Nat) : Int) ∨ (v2 &&& (63 : Int32)).toInt = 0 + ((29 : Nat) : Int) ∨ (v2 &&& (63 : Int32)).toInt = 0 + ((30 : Nat) : Int) ∨ (v2 &&& (63 : Int32)).toInt = 0 + ((31 : Nat) : Int) ∨ (v2 &&& (63 : Int32)).toInt = 0 + ((32 : Nat) : Int) ∨ (v2 &&& (63 : Int32)).toInt = 0 + ((33 : Nat) : Int) ∨ (v2 &&& (63 : Int32)).toInt = 0 + ((34 : Nat) : Int) ∨ (v2 &&& (63 : Int32)).toInt = 0 + ((35 : Nat) : Int) ∨ (v2 &&& (63 : Int32)).toInt = 0 + ((36 : Nat) : Int)) with hk1 | hk1 | hk1 | hk1 | hk1 | hk1 | hk1 | hk1 | hk1 | hk1 | hk1 | hk1 | hk1 | hk1 | hk1 | hk1 | hk1 | hk1 | hk1 | hk1 | hk1 | hk1 | hk1 | hk1 | hk1 | hk1 | hk1 | hk1 | hk1 | hk1 | hk1 | hk1 | hk1 | hk1 | hk1 | hk1 | hk1
        · have hf := xsw_in 0 hk1 rfl hf
          obtain ⟨v4, e3, hf⟩ := xbd hf
          obtain ⟨v6, e5, hf⟩ := xbd hf
          obtain ⟨v8, e7, hf⟩ := xbd hf
          obtain ⟨v10, e9, hf⟩ := xbd hf
          obtain ⟨v12, e11, hf⟩ := xbd hf
          obtain ⟨_, e13, hf⟩ := xbd hf
          obtain ⟨⟨v16, σ15⟩, e14, hf⟩ := xbd hf
          dsimp only at hf
          have hm := hm.tr (m_X11_feed e14).ext
          obtain ⟨v18, e17, hf⟩ := xbd hf
          obtain ⟨v20, e19, hf⟩ := xbd hf
          obtain ⟨v22, e21, hf⟩ := xbd hf
          obtain ⟨v24, e23, hf⟩ := xbd hf
          obtain ⟨v26, e25, hf⟩ := xbd hf
          obtain ⟨_, e27, hf⟩ := xbd hf
          obtain ⟨⟨v30, σ29⟩, e28, hf⟩ := xbd hf
          dsimp only at hf
          have hm := hm.tr (m_X12_feed e28).ext
          have hf := xsj hf
          subst hf
          exact ⟨fun a' e => (by have h9 := Sum.inl.inj e; subst h9; exact hm), fun b e => xnc1 e⟩
        · have hf := xsw_in 1 hk1 rfl hf
          obtain ⟨v4, e3, hf⟩ := xbd hf
          obtain ⟨_, e5, hf⟩ := xbd hf
          obtain ⟨⟨v8, σ7⟩, e6, hf⟩ := xbd hf
          dsimp only at hf
          have hm := hm.tr (m_X11_back e6).ext
          obtain ⟨v10, e9, hf⟩ := xbd hf
          obtain ⟨_, e11, hf⟩ := xbd hf
          obtain ⟨⟨v14, σ13⟩, e12, hf⟩ := xbd hf
          dsimp only at hf
          have hm := hm.tr (m_X12_back e12).ext
          have hf := xsj hf
          subst hf
          exact ⟨fun a' e => (by have h9 := Sum.inl.inj e; subst h9; exact hm), fun b e => xnc1 e⟩
        · have hf := xsw_in 2 hk1 rfl hf
          obtain ⟨_, e3, hf⟩ := xbd hf
          obtain ⟨⟨v6, σ5⟩, e4, hf⟩ := xbd hf
          dsimp only at hf
          have hm := hm.tr (m_X11_read e4).ext
          obtain ⟨_, e7, hf⟩ := xbd hf
          obtain ⟨⟨v10, σ9⟩, e8, hf⟩ := xbd hf
          dsimp only at hf
          have hm := hm.tr (m_X12_read e8).ext
          have hf := xsj hf
          subst hf
          exact ⟨fun a' e => (by have h9 := Sum.inl.inj e; subst h9; exact hm), fun b e => xnc1 e⟩
        · have hf := xsw_in 3 hk1 rfl hf
          obtain ⟨_, e3, hf⟩ := xbd hf
          obtain ⟨v5, e4, hf⟩ := xbd hf
          obtain ⟨_, e6, hf⟩ := xbd hf
          obtain ⟨v8, e7, hf⟩ := xbd hf
          have hf := xsj hf
          subst hf
          exact ⟨fun a' e => (by have h9 := Sum.inl.inj e; subst h9; exact hm), fun b e => xnc1 e⟩
        · have hf := xsw_in 4 hk1 rfl hf
          obtain ⟨v4, e3, hf⟩ := xbd hf
          obtain ⟨v6, e5, hf⟩ := xbd hf
          by_cases q : v6 = 0
          · have hf := xip q hf
            exact ⟨fun a' e => hm.tr ((m_L_law_j327 hf).1 a' e), fun b1 eb1 => hm.tr ((m_L_law_j327 hf).2 b1 eb1)⟩
          · have hf := xin q hf
            exact ⟨fun a' e => hm.tr ((m_L_law_j327 hf).1 a' e), fun b1 eb1 => hm.tr ((m_L_law_j327 hf).2 b1 eb1)⟩
        · have hf := xsw_in 5 hk1 rfl hf
          obtain ⟨v4, e3, hf⟩ := xbd hf
          obtain ⟨v6, e5, hf⟩ := xbd hf
          obtain ⟨_, e7, hf⟩ := xbd hf
          obtain ⟨⟨v10, σ9⟩, e8, hf⟩ := xbd hf
          dsimp only at hf
          have hm := hm.tr (m_X11_pull e8).ext
          obtain ⟨v12, e11, hf⟩ := xbd hf
          obtain ⟨v14, e13, hf⟩ := xbd hf
          obtain ⟨_, e15, hf⟩ := xbd hf
          obtain ⟨⟨v18, σ17⟩, e16, hf⟩ := xbd hf
          dsimp only at hf
          have hm := hm.tr (m_X12_pull e16).ext
          have hf := xsj hf
          subst hf
          exact ⟨fun a' e => (by have h9 := Sum.inl.inj e; subst h9; exact hm), fun b e => xnc1 e⟩
        · have hf := xsw_in 6 hk1 rfl hf
          obtain ⟨v4, e3, hf⟩ := xbd hf
          obtain ⟨v6, e5, hf⟩ := xbd hf
          obtain ⟨_, e7, hf⟩ := xbd hf
          obtain ⟨⟨v10, σ9⟩, e8, hf⟩ := xbd hf
          dsimp only at hf
          have hm := hm.tr (m_X11_pin e8).ext
          obtain ⟨v12, e11, hf⟩ := xbd hf
          obtain ⟨v14, e13, hf⟩ := xbd hf
          obtain ⟨_, e15, hf⟩ := xbd hf
          obtain ⟨⟨v18, σ17⟩, e16, hf⟩ := xbd hf
          dsimp only at hf
          have hm := hm.tr (m_X12_pin e16).ext
          have hf := xsj hf
          subst hf
          exact ⟨fun a' e => (by have h9 := Sum.inl.inj e; subst h9; exact hm), fun b e => xnc1 e⟩
        · have hf := xsw_in 7 hk1 rfl hf
          obtain ⟨v4, e3, hf⟩ := xbd hf
          obtain ⟨_, e5, hf⟩ := xbd hf
          obtain ⟨⟨v8, σ7⟩, e6, hf⟩ := xbd hf
          dsimp only at hf
          have hm := hm.tr (m_X11_glass e6).ext
          obtain ⟨v10, e9, hf⟩ := xbd hf
          obtain ⟨_, e11, hf⟩ := xbd hf
          obtain ⟨⟨v14, σ13⟩, e12, hf⟩ := xbd hf
          dsimp only at hf
          have hm := hm.tr (m_X12_glass e12).ext
          have hf := xsj hf
          subst hf
          exact ⟨fun a' e => (by have h9 := Sum.inl.inj e; subst h9; exact hm), fun b e => xnc1 e⟩
        · have hf := xsw_in 8 hk1 rfl hf
          obtain ⟨v4, e3, hf⟩ := xbd hf
          obtain ⟨_, e5, hf⟩ := xbd hf
          obtain ⟨⟨v8, σ7⟩, e6, hf⟩ := xbd hf
          dsimp only at hf
          have hm := hm.tr (m_X11_turn e6).ext
          obtain ⟨v10, e9, hf⟩ := xbd hf
          obtain ⟨_, e11, hf⟩ := xbd hf
          obtain ⟨⟨v14, σ13⟩, e12, hf⟩ := xbd hf
          dsimp only at hf
          have hm := hm.tr (m_X12_turn e12).ext
          have hf := xsj hf
          subst hf
          exact ⟨fun a' e => (by have h9 := Sum.inl.inj e; subst h9; exact hm), fun b e => xnc1 e⟩
        · have hf := xsw_in 9 hk1 rfl hf
          obtain ⟨_, e3, hf⟩ := xbd hf
          obtain ⟨⟨v6, σ5⟩, e4, hf⟩ := xbd hf
          dsimp only at hf
          have hm := hm.tr (m_X11_fall e4).ext
          obtain ⟨_, e7, hf⟩ := xbd hf
          obtain ⟨⟨v10, σ9⟩, e8, hf⟩ := xbd hf
          dsimp only at hf
          have hm := hm.tr (m_X12_fall e8).ext
          have hf := xsj hf
          subst hf
          exact ⟨fun a' e => (by have h9 := Sum.inl.inj e; subst h9; exact hm), fun b e => xnc1 e⟩
        · have hf := xsw_in 10 hk1 rfl hf
          obtain ⟨_, e3, hf⟩ := xbd hf
          obtain ⟨⟨v6, σ5⟩, e4, hf⟩ := xbd hf
          dsimp only at hf
          have hm := hm.tr (m_X11_undo e4).ext
          obtain ⟨_, e7, hf⟩ := xbd hf
          obtain ⟨⟨v10, σ9⟩, e8, hf⟩ := xbd hf
          dsimp only at hf
          have hm := hm.tr (m_X12_undo e8).ext
          by_cases q : v6 = v10
          · have hf := xip q hf
            have hf := xsj hf
            subst hf
            exact ⟨fun a' e => (by have h9 := Sum.inl.inj e; subst h9; exact hm), fun b e => xnc1 e⟩
          · have hf := xin q hf
            obtain ⟨b0, hg, e9⟩ := xmj hf
            subst e9
            have hf := hg
            refine ⟨fun a' e => xnc2 e, fun b e => ?_⟩
            have h9 := Sum.inr.inj e
            subst h9
            have hf := xsj hf
            subst hf
            exact hm
        · have hf := xsw_in 11 hk1 rfl hf
          obtain ⟨v4, e3, hf⟩ := xbd hf
          obtain ⟨v6, e5, hf⟩ := xbd hf
          obtain ⟨_, e7, hf⟩ := xbd hf
          obtain ⟨v9, e8, hf⟩ := xbd hf
          obtain ⟨v11, e10, hf⟩ := xbd hf
          obtain ⟨v13, e12, hf⟩ := xbd hf
          obtain ⟨_, e14, hf⟩ := xbd hf
          obtain ⟨v16, e15, hf⟩ := xbd hf
          have hf := xsj hf
          subst hf
          exact ⟨fun a' e => (by have h9 := Sum.inl.inj e; subst h9; exact hm), fun b e => xnc1 e⟩
        · have hf := xsw_in 12 hk1 rfl hf
          obtain ⟨v4, e3, hf⟩ := xbd hf
          obtain ⟨v6, e5, hf⟩ := xbd hf
          obtain ⟨_, e7, hf⟩ := xbd hf
          obtain ⟨⟨v10, σ9⟩, e8, hf⟩ := xbd hf
          dsimp only at hf
          have hm := hm.tr (m_X11_level e8)
          exact ⟨fun a' e => hm.tr ((m_L_law_j552 hf).1 a' e), fun b1 eb1 => hm.tr ((m_L_law_j552 hf).2 b1 eb1)⟩
        · have hf := xsw_in 13 hk1 rfl hf
          obtain ⟨v4, e3, hf⟩ := xbd hf
          obtain ⟨v6, e5, hf⟩ := xbd hf
          obtain ⟨_, e7, hf⟩ := xbd hf
          obtain ⟨⟨v10, σ9⟩, e8, hf⟩ := xbd hf
          dsimp only at hf
          have hm := hm.tr (m_X11_both e8)
          exact ⟨fun a' e => hm.tr ((m_L_law_j585 hf).1 a' e), fun b1 eb1 => hm.tr ((m_L_law_j585 hf).2 b1 eb1)⟩
        · have hf := xsw_in 14 hk1 rfl hf
          obtain ⟨v4, e3, hf⟩ := xbd hf
          obtain ⟨_, e5, hf⟩ := xbd hf
          obtain ⟨⟨v8, σ7⟩, e6, hf⟩ := xbd hf
          dsimp only at hf
          have hm := hm.tr (m_X11_broken e6)
          exact ⟨fun a' e => hm.tr ((m_L_law_j613 hf).1 a' e), fun b1 eb1 => hm.tr ((m_L_law_j613 hf).2 b1 eb1)⟩
        · have hf := xsw_in 15 hk1 rfl hf
          obtain ⟨v4, e3, hf⟩ := xbd hf
          obtain ⟨_, e5, hf⟩ := xbd hf
          obtain ⟨⟨v8, σ7⟩, e6, hf⟩ := xbd hf
          dsimp only at hf
          have hm := hm.tr (m_X11_ground e6)
          exact ⟨fun a' e => hm.tr ((m_L_law_j636 hf).1 a' e), fun b1 eb1 => hm.tr ((m_L_law_j636 hf).2 b1 eb1)⟩
        · have hf := xsw_in 16 hk1 rfl hf
          obtain ⟨v4, e3, hf⟩ := xbd hf
          obtain ⟨v6, e5, hf⟩ := xbd hf
          obtain ⟨v8, e7, hf⟩ := xbd hf
          obtain ⟨v10, e9, hf⟩ := xbd hf
          obtain ⟨_, e11, hf⟩ := xbd hf
          obtain ⟨⟨v14, σ13⟩, e12, hf⟩ := xbd hf
          dsimp only at hf
          have hm := hm.tr (m_X11_pair e12)
          exact ⟨fun a' e => hm.tr ((m_L_law_j674 hf).1 a' e), fun b1 eb1 => hm.tr ((m_L_law_j674 hf).2 b1 eb1)⟩
        · have hf := xsw_in 17 hk1 rfl hf
          obtain ⟨v4, e3, hf⟩ := xbd hf
          obtain ⟨v6, e5, hf⟩ := xbd hf
          obtain ⟨_, e7, hf⟩ := xbd hf
          obtain ⟨⟨v10, σ9⟩, e8, hf⟩ := xbd hf
          dsimp only at hf
          have hm := hm.tr (m_X11_mean e8)
          exact ⟨fun a' e => hm.tr ((m_L_law_j717 hf).1 a' e), fun b1 eb1 => hm.tr ((m_L_law_j717 hf).2 b1 eb1)⟩
        · have hf := xsw_in 18 hk1 rfl hf
          obtain ⟨v4, e3, hf⟩ := xbd hf
          obtain ⟨_, e5, hf⟩ := xbd hf
          obtain ⟨⟨v8, σ7⟩, e6, hf⟩ := xbd hf
          dsimp only at hf
          have hm := hm.tr (m_X11_value e6)
          exact ⟨fun a' e => hm.tr ((m_L_law_j745 hf).1 a' e), fun b1 eb1 => hm.tr ((m_L_law_j745 hf).2 b1 eb1)⟩
        · have hf := xsw_in 19 hk1 rfl hf
          obtain ⟨v4, e3, hf⟩ := xbd hf
          obtain ⟨v6, e5, hf⟩ := xbd hf
          obtain ⟨v8, e7, hf⟩ := xbd hf
          obtain ⟨_, e9, hf⟩ := xbd hf
          obtain ⟨⟨v12, σ11⟩, e10, hf⟩ := xbd hf
          dsimp only at hf
          have hm := hm.tr (m_X11_joined e10)
          exact ⟨fun a' e => hm.tr ((m_L_law_j778 hf).1 a' e), fun b1 eb1 => hm.tr ((m_L_law_j778 hf).2 b1 eb1)⟩
        · have hf := xsw_in 20 hk1 rfl hf
          obtain ⟨v4, e3, hf⟩ := xbd hf
          obtain ⟨v6, e5, hf⟩ := xbd hf
          obtain ⟨_, e7, hf⟩ := xbd hf
          obtain ⟨⟨v10, σ9⟩, e8, hf⟩ := xbd hf
          dsimp only at hf
          have hm := hm.tr (m_X11_state e8)
          exact ⟨fun a' e => hm.tr ((m_L_law_j816 hf).1 a' e), fun b1 eb1 => hm.tr ((m_L_law_j816 hf).2 b1 eb1)⟩
        · have hf := xsw_in 21 hk1 rfl hf
          obtain ⟨v4, e3, hf⟩ := xbd hf
          by_cases q : v4 = 0
          · have hf := xip q hf
            exact ⟨fun a' e => hm.tr ((m_L_law_j849 hf).1 a' e), fun b1 eb1 => hm.tr ((m_L_law_j849 hf).2 b1 eb1)⟩
          · have hf := xin q hf
            exact ⟨fun a' e => hm.tr ((m_L_law_j849 hf).1 a' e), fun b1 eb1 => hm.tr ((m_L_law_j849 hf).2 b1 eb1)⟩
        · have hf := xsw_in 22 hk1 rfl hf
          obtain ⟨v4, e3, hf⟩ := xbd hf
          obtain ⟨v6, e5, hf⟩ := xbd hf
          obtain ⟨v8, e7, hf⟩ := xbd hf
          obtain ⟨_, e9, hf⟩ := xbd hf
          obtain ⟨⟨v12, σ11⟩, e10, hf⟩ := xbd hf
          dsimp only at hf
          have hm := hm.tr (m_X11_rows e10)
          exact ⟨fun a' e => hm.tr ((m_L_law_j893 hf).1 a' e), fun b1 eb1 => hm.tr ((m_L_law_j893 hf).2 b1 eb1)⟩
        · have hf := xsw_in 23 hk1 rfl hf
          obtain ⟨v4, e3, hf⟩ := xbd hf
          obtain ⟨_, e5, hf⟩ := xbd hf
          obtain ⟨v7, e6, hf⟩ := xbd hf
          obtain ⟨v9, e8, hf⟩ := xbd hf
          obtain ⟨_, e10, hf⟩ := xbd hf
          obtain ⟨v12, e11, hf⟩ := xbd hf
          have hf := xsj hf
          subst hf
          exact ⟨fun a' e => (by have h9 := Sum.inl.inj e; subst h9; exact hm), fun b e => xnc1 e⟩
        · have hf := xsw_in 24 hk1 rfl hf
          obtain ⟨v4, e3, hf⟩ := xbd hf
          obtain ⟨_, e5, hf⟩ := xbd hf
          obtain ⟨⟨v8, σ7⟩, e6, hf⟩ := xbd hf
          dsimp only at hf
          have hm := hm.tr (m_X11_overlap e6)
          exact ⟨fun a' e => hm.tr ((m_L_law_j949 hf).1 a' e), fun b1 eb1 => hm.tr ((m_L_law_j949 hf).2 b1 eb1)⟩
        · have hf := xsw_in 25 hk1 rfl hf
          obtain ⟨v4, e3, hf⟩ := xbd hf
          obtain ⟨_, e5, hf⟩ := xbd hf
          obtain ⟨⟨v8, σ7⟩, e6, hf⟩ := xbd hf
          dsimp only at hf
          have hm := hm.tr (m_X11_basin e6)
          exact ⟨fun a' e => hm.tr ((m_L_law_j972 hf).1 a' e), fun b1 eb1 => hm.tr ((m_L_law_j972 hf).2 b1 eb1)⟩
        · have hf := xsw_in 26 hk1 rfl hf
          obtain ⟨v4, e3, hf⟩ := xbd hf
          obtain ⟨v6, e5, hf⟩ := xbd hf
          obtain ⟨_, e7, hf⟩ := xbd hf
          obtain ⟨⟨v10, σ9⟩, e8, hf⟩ := xbd hf
          dsimp only at hf
          have hm := hm.tr (m_X11_stiff e8)
          exact ⟨fun a' e => hm.tr ((m_L_law_j1000 hf).1 a' e), fun b1 eb1 => hm.tr ((m_L_law_j1000 hf).2 b1 eb1)⟩
        · have hf := xsw_in 27 hk1 rfl hf
          obtain ⟨v4, e3, hf⟩ := xbd hf
          obtain ⟨_, e5, hf⟩ := xbd hf
          obtain ⟨⟨v8, σ7⟩, e6, hf⟩ := xbd hf
          dsimp only at hf
          have hm := hm.tr (m_X11_hill e6)
          exact ⟨fun a' e => hm.tr ((m_L_law_j1028 hf).1 a' e), fun b1 eb1 => hm.tr ((m_L_law_j1028 hf).2 b1 eb1)⟩
        · have hf := xsw_in 28 hk1 rfl hf
          obtain ⟨v4, e3, hf⟩ := xbd hf
          obtain ⟨v6, e5, hf⟩ := xbd hf
          obtain ⟨_, e7, hf⟩ := xbd hf
          obtain ⟨⟨v10, σ9⟩, e8, hf⟩ := xbd hf
          dsimp only at hf
          have hm := hm.tr (m_X11_pass e8)
          exact ⟨fun a' e => hm.tr ((m_L_law_j1056 hf).1 a' e), fun b1 eb1 => hm.tr ((m_L_law_j1056 hf).2 b1 eb1)⟩
        · have hf := xsw_in 29 hk1 rfl hf
          obtain ⟨v4, e3, hf⟩ := xbd hf
          obtain ⟨_, e5, hf⟩ := xbd hf
          obtain ⟨⟨v8, σ7⟩, e6, hf⟩ := xbd hf
          dsimp only at hf
          have hm := hm.tr (m_X11_lakes e6)
          exact ⟨fun a' e => hm.tr ((m_L_law_j1084 hf).1 a' e), fun b1 eb1 => hm.tr ((m_L_law_j1084 hf).2 b1 eb1)⟩
        · have hf := xsw_in 30 hk1 rfl hf
          obtain ⟨v4, e3, hf⟩ := xbd hf
          obtain ⟨_, e5, hf⟩ := xbd hf
          obtain ⟨⟨v8, σ7⟩, e6, hf⟩ := xbd hf
          dsimp only at hf
          have hm := hm.tr (m_X11_down e6)
          exact ⟨fun a' e => hm.tr ((m_L_law_j1107 hf).1 a' e), fun b1 eb1 => hm.tr ((m_L_law_j1107 hf).2 b1 eb1)⟩
        · have hf := xsw_in 31 hk1 rfl hf
          obtain ⟨v4, e3, hf⟩ := xbd hf
          obtain ⟨v6, e5, hf⟩ := xbd hf
          obtain ⟨_, e7, hf⟩ := xbd hf
          obtain ⟨⟨v10, σ9⟩, e8, hf⟩ := xbd hf
          dsimp only at hf
          have hm := hm.tr (m_X11_nearest e8)
          exact ⟨fun a' e => hm.tr ((m_L_law_j1135 hf).1 a' e), fun b1 eb1 => hm.tr ((m_L_law_j1135 hf).2 b1 eb1)⟩
        · have hf := xsw_in 32 hk1 rfl hf
          obtain ⟨v4, e3, hf⟩ := xbd hf
          obtain ⟨_, e5, hf⟩ := xbd hf
          obtain ⟨v7, e6, hf⟩ := xbd hf
          obtain ⟨v9, e8, hf⟩ := xbd hf
          obtain ⟨_, e10, hf⟩ := xbd hf
          obtain ⟨v12, e11, hf⟩ := xbd hf
          have hf := xsj hf
          subst hf
          exact ⟨fun a' e => (by have h9 := Sum.inl.inj e; subst h9; exact hm), fun b e => xnc1 e⟩
        · have hf := xsw_in 33 hk1 rfl hf
          obtain ⟨v4, e3, hf⟩ := xbd hf
          obtain ⟨v6, e5, hf⟩ := xbd hf
          obtain ⟨v8, e7, hf⟩ := xbd hf
          obtain ⟨_, e9, hf⟩ := xbd hf
          obtain ⟨⟨v12, σ11⟩, e10, hf⟩ := xbd hf
          dsimp only at hf
          have hm := hm.tr (m_X11_wander e10).ext
          obtain ⟨v14, e13, hf⟩ := xbd hf
          obtain ⟨v16, e15, hf⟩ := xbd hf
          obtain ⟨v18, e17, hf⟩ := xbd hf
          obtain ⟨_, e19, hf⟩ := xbd hf
          obtain ⟨⟨v22, σ21⟩, e20, hf⟩ := xbd hf
          dsimp only at hf
          have hm := hm.tr (m_X12_wander e20).ext
          have hf := xsj hf
          subst hf
          exact ⟨fun a' e => (by have h9 := Sum.inl.inj e; subst h9; exact hm), fun b e => xnc1 e⟩
        · have hf := xsw_in 34 hk1 rfl hf
          obtain ⟨v4, e3, hf⟩ := xbd hf
          obtain ⟨_, e5, hf⟩ := xbd hf
          obtain ⟨⟨v8, σ7⟩, e6, hf⟩ := xbd hf
          dsimp only at hf
          have hm := hm.tr (m_X11_hold e6).ext
          obtain ⟨v10, e9, hf⟩ := xbd hf
          obtain ⟨_, e11, hf⟩ := xbd hf
          obtain ⟨⟨v14, σ13⟩, e12, hf⟩ := xbd hf
          dsimp only at hf
          have hm := hm.tr (m_X12_hold e12).ext
          have hf := xsj hf
          subst hf
          exact ⟨fun a' e => (by have h9 := Sum.inl.inj e; subst h9; exact hm), fun b e => xnc1 e⟩
        · have hf := xsw_in 35 hk1 rfl hf
          obtain ⟨v4, e3, hf⟩ := xbd hf
          obtain ⟨_, e5, hf⟩ := xbd hf
          obtain ⟨⟨v8, σ7⟩, e6, hf⟩ := xbd hf
          dsimp only at hf
          have hm := hm.tr (m_X11_restore e6).ext
          obtain ⟨v10, e9, hf⟩ := xbd hf
          obtain ⟨_, e11, hf⟩ := xbd hf
          obtain ⟨⟨v14, σ13⟩, e12, hf⟩ := xbd hf
          dsimp only at hf
          have hm := hm.tr (m_X12_restore e12).ext
          have hf := xsj hf
          subst hf
          exact ⟨fun a' e => (by have h9 := Sum.inl.inj e; subst h9; exact hm), fun b e => xnc1 e⟩
        · have hf := xsw_in 36 hk1 rfl hf
          obtain ⟨v4, e3, hf⟩ := xbd hf
          obtain ⟨_, e5, hf⟩ := xbd hf
          obtain ⟨⟨v8, σ7⟩, e6, hf⟩ := xbd hf
          dsimp only at hf
          have hm := hm.tr (m_X11_count e6)
          exact ⟨fun a' e => hm.tr ((m_L_law_j1275 hf).1 a' e), fun b1 eb1 => hm.tr ((m_L_law_j1275 hf).2 b1 eb1)⟩
  cases y with
  | inl a' =>
    have h1 := hc a' rfl
    have hm := hy.1 a' rfl
    exact hm.tr (h1)
  | inr b =>
    have h1 := he b rfl
    subst h1
    exact hy.2 _ rfl
theorem s_L_law_l18 {G : XG} (C : XC G cL_law RL (some .boolean) 4 13 468) {b L : Nat} {xs : Nat → Int32} (hS : XScr G b L xs) {r1 : Nat} {r2 : Nat} {a : Int32 × XS} {x : Int32 × XS} (hf : xloop (f_L_law_b18 L xs r1 r2) a = some x) (hk : XEndL G b x) : WW G 18 [(0, .ref b), (1, .ref (gB G + r1)), (2, .ref (gB G + r2)), (3, .int a.1)] [] a.2 := by
  refine xloop_ind2 (P := fun a => WW G 18 [(0, .ref b), (1, .ref (gB G + r1)), (2, .ref (gB G + r2)), (3, .int a.1)] [] a.2) (fun a y hf hc he => ?_) hf
  obtain ⟨x3, σ⟩ := a
  have hk : (∀ a' : Int32 × XS, y = .inl a' → XUp G a'.2 ∧ WW G 18 [(0, .ref b), (1, .ref (gB G + r1)), (2, .ref (gB G + r2)), (3, .int a'.1)] [] a'.2) ∧ (∀ b1 : Int32 × XS, y = .inr b1 → XEndL G b b1) := ⟨fun a' e => ⟨XUp.fin (m_L_law_l18 (hc a' e).1) hk.2.1, (hc a' e).2⟩, fun b e => by have h9 := he b e; subst h9; exact hk⟩
  refine ww_iload_n (pc := 18) C 3 dL_law_18 rfl ?_
  refine ww_aload_n (pc := 19) C 0 dL_law_19 rfl ?_
  refine ww_slen (pc := 20) C hS dL_law_20 ?_
  refine ww_bipush (pc := 21) (v := (6 : Int32)) C dL_law_21 (by decide) ?_
  refine ww_isub (pc := 23) C dL_law_23 ?_
  refine ww_icmp_gt (pc := 24) (tgt := 1295) C dL_law_24 (by decide) (fun q => ?_) (fun q => ?_)
  · have hf := xip q hf
    obtain ⟨b0, hg, e9⟩ := xmj hf
    subst e9
    have hf := hg
    have hk := hk.2 _ rfl
    refine ww_iconst (pc := 1295) (v := (1 : Int32)) C dL_law_1295 (by decide) ?_
    have hf := xsj hf
    subst hf
    exact ww_lawret (pc := 1296) C hS hk dL_law_1296
  · have hf := xin q hf
    refine ww_aload_n (pc := 27) C 0 dL_law_27 rfl ?_
    refine ww_iload_n (pc := 28) C 3 dL_law_28 rfl ?_
    obtain ⟨v2, e1, hf⟩ := xbd hf
    refine ww_sld (pc := 29) C hS e1 dL_law_29 ?_
    refine ww_bipush (pc := 30) (v := (63 : Int32)) C dL_law_30 (by decide) ?_
    refine ww_iand (pc := 32) C dL_law_32 ?_
    refine ww_table (pc := 33) C dL_law_33 (fun k hk1 hk2 => ?_) (fun ho => ?_)
    · rcases (by omega : k = 0 ∨ k = 1 ∨ k = 2 ∨ k = 3 ∨ k = 4 ∨ k = 5 ∨ k = 6 ∨ k = 7 ∨ k = 8 ∨ k = 9 ∨ k = 10 ∨ k = 11 ∨ k = 12 ∨ k = 13 ∨ k = 14 ∨ k = 15 ∨ k = 16 ∨ k = 17 ∨ k = 18 ∨ k = 19 ∨ k = 20 ∨ k = 21 ∨ k = 22 ∨ k = 23 ∨ k = 24 ∨ k = 25 ∨ k = 26 ∨ k = 27 ∨ k = 28 ∨ k = 29 ∨ k = 30 ∨ k = 31 ∨ k = 32 ∨ k = 33 ∨ k = 34 ∨ k = 35 ∨ k = 36) with rfl | rfl | rfl | rfl | rfl | rfl | rfl | rfl | rfl | rfl | rfl | rfl | rfl | rfl | rfl | rfl | rfl | rfl | rfl | rfl | rfl | rfl | rfl | rfl | rfl | rfl | rfl | rfl | rfl | rfl | rfl | rfl | rfl | rfl | rfl | rfl | rfl
      · refine ⟨196, 163, rfl, by decide, ?_⟩
        have hf := xsw_in 0 hk1 rfl hf
        refine ww_aload_n (pc := 196) C 1 dL_law_196 rfl ?_
        refine ww_aload_n (pc := 197) C 0 dL_law_197 rfl ?_
        refine ww_iload_n (pc := 198) C 3 dL_law_198 rfl ?_
        refine ww_iconst (pc := 199) (v := (1 : Int32)) C dL_law_199 (by decide) ?_
        refine ww_iadd (pc := 200) C dL_law_200 ?_
        obtain ⟨v4, e3, hf⟩ := xbd hf
        refine ww_sld (pc := 201) C hS e3 dL_law_201 ?_
        refine ww_aload_n (pc := 202) C 0 dL_law_202 rfl ?_
        refine ww_iload_n (pc := 203) C 3 dL_law_203 rfl ?_
        refine ww_iconst (pc := 204) (v := (2 : Int32)) C dL_law_204 (by decide) ?_
        refine ww_iadd (pc := 205) C dL_law_205 ?_
        obtain ⟨v6, e5, hf⟩ := xbd hf
        refine ww_sld (pc := 206) C hS e5 dL_law_206 ?_
        refine ww_aload_n (pc := 207) C 0 dL_law_207 rfl ?_
        refine ww_iload_n (pc := 208) C 3 dL_law_208 rfl ?_
        refine ww_iconst (pc := 209) (v := (3 : Int32)) C dL_law_209 (by decide) ?_
        refine ww_iadd (pc := 210) C dL_law_210 ?_
        obtain ⟨v8, e7, hf⟩ := xbd hf
        refine ww_sld (pc := 211) C hS e7 dL_law_211 ?_
        refine ww_aload_n (pc := 212) C 0 dL_law_212 rfl ?_
        refine ww_iload_n (pc := 213) C 3 dL_law_213 rfl ?_
        refine ww_iconst (pc := 214) (v := (4 : Int32)) C dL_law_214 (by decide) ?_
        refine ww_iadd (pc := 215) C dL_law_215 ?_
        obtain ⟨v10, e9, hf⟩ := xbd hf
        refine ww_sld (pc := 216) C hS e9 dL_law_216 ?_
        refine ww_aload_n (pc := 217) C 0 dL_law_217 rfl ?_
        refine ww_iload_n (pc := 218) C 3 dL_law_218 rfl ?_
        refine ww_iconst (pc := 219) (v := (5 : Int32)) C dL_law_219 (by decide) ?_
        refine ww_iadd (pc := 220) C dL_law_220 ?_
        obtain ⟨v12, e11, hf⟩ := xbd hf
        refine ww_sld (pc := 221) C hS e11 dL_law_221 ?_
        obtain ⟨_, e13, hf⟩ := xbd hf
        obtain ⟨⟨v16, σ15⟩, e14, hf⟩ := xbd hf
        dsimp only at hf
        refine ww_callVi (pc := 222) (as := [.int v4, .int v6, .int v8, .int v10, .int v12]) (st := []) C (k_X11_feed (l := gl G) (E := gE G) (hb := gB G) (σ := σ) e14) rfl (by decide) xc_L_13 q442 q443 (xck_spec e13) rfl (by decide) (xst4 (Nat.le_of_ble_eq_true rfl)) (m_X11_feed e14).le (m_X11_feed e14).lim dL_law_222 ?_
        refine ww_pop (pc := 225) C dL_law_225 rfl ?_
        refine ww_aload_n (pc := 226) C 2 dL_law_226 rfl ?_
        refine ww_aload_n (pc := 227) C 0 dL_law_227 rfl ?_
        refine ww_iload_n (pc := 228) C 3 dL_law_228 rfl ?_
        refine ww_iconst (pc := 229) (v := (1 : Int32)) C dL_law_229 (by decide) ?_
        refine ww_iadd (pc := 230) C dL_law_230 ?_
        obtain ⟨v18, e17, hf⟩ := xbd hf
        refine ww_sld (pc := 231) C hS e17 dL_law_231 ?_
        refine ww_aload_n (pc := 232) C 0 dL_law_232 rfl ?_
        refine ww_iload_n (pc := 233) C 3 dL_law_233 rfl ?_
        refine ww_iconst (pc := 234) (v := (2 : Int32)) C dL_law_234 (by decide) ?_
        refine ww_iadd (pc := 235) C dL_law_235 ?_
        obtain ⟨v20, e19, hf⟩ := xbd hf
        refine ww_sld (pc := 236) C hS e19 dL_law_236 ?_
        refine ww_aload_n (pc := 237) C 0 dL_law_237 rfl ?_
        refine ww_iload_n (pc := 238) C 3 dL_law_238 rfl ?_
        refine ww_iconst (pc := 239) (v := (3 : Int32)) C dL_law_239 (by decide) ?_
        refine ww_iadd (pc := 240) C dL_law_240 ?_
        obtain ⟨v22, e21, hf⟩ := xbd hf
        refine ww_sld (pc := 241) C hS e21 dL_law_241 ?_
        refine ww_aload_n (pc := 242) C 0 dL_law_242 rfl ?_
        refine ww_iload_n (pc := 243) C 3 dL_law_243 rfl ?_
        refine ww_iconst (pc := 244) (v := (4 : Int32)) C dL_law_244 (by decide) ?_
        refine ww_iadd (pc := 245) C dL_law_245 ?_
        obtain ⟨v24, e23, hf⟩ := xbd hf
        refine ww_sld (pc := 246) C hS e23 dL_law_246 ?_
        refine ww_aload_n (pc := 247) C 0 dL_law_247 rfl ?_
        refine ww_iload_n (pc := 248) C 3 dL_law_248 rfl ?_
        refine ww_iconst (pc := 249) (v := (5 : Int32)) C dL_law_249 (by decide) ?_
        refine ww_iadd (pc := 250) C dL_law_250 ?_
        obtain ⟨v26, e25, hf⟩ := xbd hf
        refine ww_sld (pc := 251) C hS e25 dL_law_251 ?_
        obtain ⟨_, e27, hf⟩ := xbd hf
        obtain ⟨⟨v30, σ29⟩, e28, hf⟩ := xbd hf
        dsimp only at hf
        refine ww_callVi (pc := 252) (as := [.int v18, .int v20, .int v22, .int v24, .int v26]) (st := []) C (k_X12_feed (l := gl G) (E := gE G) (hb := gB G) (σ := σ15) e28) rfl (by decide) xc_L_17 q1403 q1404 (xck_spec e27) rfl (by decide) (xst4 (Nat.le_of_ble_eq_true rfl)) (m_X12_feed e28).le (m_X12_feed e28).lim dL_law_252 ?_
        refine ww_pop (pc := 255) C dL_law_255 rfl ?_
        refine ww_goto (pc := 256) (tgt := 1289) C dL_law_256 (by decide) ?_
        refine ww_iinc (pc := 1289) (v := x3 + (6 : Int32)) (lv' := [(3, .int (x3 + (6 : Int32))), (0, .ref b), (1, .ref (gB G + r1)), (2, .ref (gB G + r2))]) C 3 dL_law_1289 rfl (congrArg (fun z => x3 + z) (show Int32.ofInt (6) = (6 : Int32) by decide)) (by decide) rfl ?_
        refine ww_goto (pc := 1292) (tgt := 18) C dL_law_1292 (by decide) ?_
        have hf := xsj hf
        subst hf
        refine ww_sub [1, 2, 3, 0] rfl ?_
        exact (hk.1 (x3 + (6 : Int32), σ29) rfl).2
      · refine ⟨259, 226, rfl, by decide, ?_⟩
        have hf := xsw_in 1 hk1 rfl hf
        refine ww_aload_n (pc := 259) C 1 dL_law_259 rfl ?_
        refine ww_aload_n (pc := 260) C 0 dL_law_260 rfl ?_
        refine ww_iload_n (pc := 261) C 3 dL_law_261 rfl ?_
        refine ww_iconst (pc := 262) (v := (1 : Int32)) C dL_law_262 (by decide) ?_
        refine ww_iadd (pc := 263) C dL_law_263 ?_
        obtain ⟨v4, e3, hf⟩ := xbd hf
        refine ww_sld (pc := 264) C hS e3 dL_law_264 ?_
        obtain ⟨_, e5, hf⟩ := xbd hf
        obtain ⟨⟨v8, σ7⟩, e6, hf⟩ := xbd hf
        dsimp only at hf
        refine ww_callVi (pc := 265) (as := [.int v4]) (st := []) C (k_X11_back (l := gl G) (E := gE G) (hb := gB G) (σ := σ) e6) rfl (by decide) xc_L_18 q450 q451 (xck_spec e5) rfl (by decide) (xst4 (Nat.le_of_ble_eq_true rfl)) (m_X11_back e6).le (m_X11_back e6).lim dL_law_265 ?_
        refine ww_pop (pc := 268) C dL_law_268 rfl ?_
        refine ww_aload_n (pc := 269) C 2 dL_law_269 rfl ?_
        refine ww_aload_n (pc := 270) C 0 dL_law_270 rfl ?_
        refine ww_iload_n (pc := 271) C 3 dL_law_271 rfl ?_
        refine ww_iconst (pc := 272) (v := (1 : Int32)) C dL_law_272 (by decide) ?_
        refine ww_iadd (pc := 273) C dL_law_273 ?_
        obtain ⟨v10, e9, hf⟩ := xbd hf
        refine ww_sld (pc := 274) C hS e9 dL_law_274 ?_
        obtain ⟨_, e11, hf⟩ := xbd hf
        obtain ⟨⟨v14, σ13⟩, e12, hf⟩ := xbd hf
        dsimp only at hf
        refine ww_callVi (pc := 275) (as := [.int v10]) (st := []) C (k_X12_back (l := gl G) (E := gE G) (hb := gB G) (σ := σ7) e12) rfl (by decide) xc_L_22 q1411 q1412 (xck_spec e11) rfl (by decide) (xst4 (Nat.le_of_ble_eq_true rfl)) (m_X12_back e12).le (m_X12_back e12).lim dL_law_275 ?_
        refine ww_pop (pc := 278) C dL_law_278 rfl ?_
        refine ww_goto (pc := 279) (tgt := 1289) C dL_law_279 (by decide) ?_
        refine ww_iinc (pc := 1289) (v := x3 + (6 : Int32)) (lv' := [(3, .int (x3 + (6 : Int32))), (0, .ref b), (1, .ref (gB G + r1)), (2, .ref (gB G + r2))]) C 3 dL_law_1289 rfl (congrArg (fun z => x3 + z) (show Int32.ofInt (6) = (6 : Int32) by decide)) (by decide) rfl ?_
        refine ww_goto (pc := 1292) (tgt := 18) C dL_law_1292 (by decide) ?_
        have hf := xsj hf
        subst hf
        refine ww_sub [1, 2, 3, 0] rfl ?_
        exact (hk.1 (x3 + (6 : Int32), σ13) rfl).2
      · refine ⟨282, 249, rfl, by decide, ?_⟩
        have hf := xsw_in 2 hk1 rfl hf
        refine ww_aload_n (pc := 282) C 1 dL_law_282 rfl ?_
        obtain ⟨_, e3, hf⟩ := xbd hf
        obtain ⟨⟨v6, σ5⟩, e4, hf⟩ := xbd hf
        dsimp only at hf
        refine ww_callVi (pc := 283) (as := []) (st := []) C (k_X11_read (l := gl G) (E := gE G) (hb := gB G) (σ := σ) e4) rfl (by decide) xc_L_23 q454 q455 (xck_spec e3) rfl (by decide) (xst4 (Nat.le_of_ble_eq_true rfl)) (m_X11_read e4).le (m_X11_read e4).lim dL_law_283 ?_
        refine ww_pop (pc := 286) C dL_law_286 rfl ?_
        refine ww_aload_n (pc := 287) C 2 dL_law_287 rfl ?_
        obtain ⟨_, e7, hf⟩ := xbd hf
        obtain ⟨⟨v10, σ9⟩, e8, hf⟩ := xbd hf
        dsimp only at hf
        refine ww_callVi (pc := 288) (as := []) (st := []) C (k_X12_read (l := gl G) (E := gE G) (hb := gB G) (σ := σ5) e8) rfl (by decide) xc_L_27 q1415 q1416 (xck_spec e7) rfl (by decide) (xst4 (Nat.le_of_ble_eq_true rfl)) (m_X12_read e8).le (m_X12_read e8).lim dL_law_288 ?_
        refine ww_pop (pc := 291) C dL_law_291 rfl ?_
        refine ww_goto (pc := 292) (tgt := 1289) C dL_law_292 (by decide) ?_
        refine ww_iinc (pc := 1289) (v := x3 + (6 : Int32)) (lv' := [(3, .int (x3 + (6 : Int32))), (0, .ref b), (1, .ref (gB G + r1)), (2, .ref (gB G + r2))]) C 3 dL_law_1289 rfl (congrArg (fun z => x3 + z) (show Int32.ofInt (6) = (6 : Int32) by decide)) (by decide) rfl ?_
        refine ww_goto (pc := 1292) (tgt := 18) C dL_law_1292 (by decide) ?_
        have hf := xsj hf
        subst hf
        refine ww_sub [1, 2, 3, 0] rfl ?_
        exact (hk.1 (x3 + (6 : Int32), σ9) rfl).2
      · refine ⟨295, 262, rfl, by decide, ?_⟩
        have hf := xsw_in 3 hk1 rfl hf
        refine ww_aload_n (pc := 295) C 1 dL_law_295 rfl ?_
        obtain ⟨_, e3, hf⟩ := xbd hf
        obtain ⟨v5, e4, hf⟩ := xbd hf
        refine ww_callVi (pc := 296) (as := []) (st := []) C (k_X11_place (l := gl G) (E := gE G) (hb := gB G) (σ := σ) e4) rfl (by decide) xc_L_28 q686 q687 (xck_spec e3) rfl (by decide) (xst4 (Nat.le_of_ble_eq_true rfl)) xsame.rf.le xsame.rf.lim dL_law_296 ?_
        refine ww_pop (pc := 299) C dL_law_299 rfl ?_
        refine ww_aload_n (pc := 300) C 2 dL_law_300 rfl ?_
        obtain ⟨_, e6, hf⟩ := xbd hf
        obtain ⟨v8, e7, hf⟩ := xbd hf
        refine ww_callVi (pc := 301) (as := []) (st := []) C (k_X12_place (l := gl G) (E := gE G) (hb := gB G) (σ := σ) e7) rfl (by decide) xc_L_31 q1499 q1500 (xck_spec e6) rfl (by decide) (xst4 (Nat.le_of_ble_eq_true rfl)) xsame.rf.le xsame.rf.lim dL_law_301 ?_
        refine ww_pop (pc := 304) C dL_law_304 rfl ?_
        refine ww_goto (pc := 305) (tgt := 1289) C dL_law_305 (by decide) ?_
        refine ww_iinc (pc := 1289) (v := x3 + (6 : Int32)) (lv' := [(3, .int (x3 + (6 : Int32))), (0, .ref b), (1, .ref (gB G + r1)), (2, .ref (gB G + r2))]) C 3 dL_law_1289 rfl (congrArg (fun z => x3 + z) (show Int32.ofInt (6) = (6 : Int32) by decide)) (by decide) rfl ?_
        refine ww_goto (pc := 1292) (tgt := 18) C dL_law_1292 (by decide) ?_
        have hf := xsj hf
        subst hf
        refine ww_sub [1, 2, 3, 0] rfl ?_
        exact (hk.1 (x3 + (6 : Int32), σ) rfl).2
      · refine ⟨308, 275, rfl, by decide, ?_⟩
        have hf := xsw_in 4 hk1 rfl hf
        refine ww_aload_n (pc := 308) C 1 dL_law_308 rfl ?_
        refine ww_aload_n (pc := 309) C 0 dL_law_309 rfl ?_
        refine ww_iload_n (pc := 310) C 3 dL_law_310 rfl ?_
        refine ww_iconst (pc := 311) (v := (1 : Int32)) C dL_law_311 (by decide) ?_
        refine ww_iadd (pc := 312) C dL_law_312 ?_
        obtain ⟨v4, e3, hf⟩ := xbd hf
        refine ww_sld (pc := 313) C hS e3 dL_law_313 ?_
        refine ww_aload_n (pc := 314) C 0 dL_law_314 rfl ?_
        refine ww_iload_n (pc := 315) C 3 dL_law_315 rfl ?_
        refine ww_iconst (pc := 316) (v := (2 : Int32)) C dL_law_316 (by decide) ?_
        refine ww_iadd (pc := 317) C dL_law_317 ?_
        obtain ⟨v6, e5, hf⟩ := xbd hf
        refine ww_sld (pc := 318) C hS e5 dL_law_318 ?_
        refine ww_if_eq (pc := 319) (tgt := 326) C dL_law_319 (by decide) (fun q => ?_) (fun q => ?_)
        · have hf := xip q hf
          refine ww_iconst (pc := 326) (v := (0 : Int32)) C dL_law_326 (by decide) ?_
          refine ww_sub [0, 1, 2, 3] rfl ?_
          exact s_L_law_j327 C hS hf hk
        · have hf := xin q hf
          refine ww_iconst (pc := 322) (v := (1 : Int32)) C dL_law_322 (by decide) ?_
          refine ww_goto (pc := 323) (tgt := 327) C dL_law_323 (by decide) ?_
          refine ww_sub [0, 1, 2, 3] rfl ?_
          exact s_L_law_j327 C hS hf hk
      · refine ⟨367, 334, rfl, by decide, ?_⟩
        have hf := xsw_in 5 hk1 rfl hf
        refine ww_aload_n (pc := 367) C 1 dL_law_367 rfl ?_
        refine ww_aload_n (pc := 368) C 0 dL_law_368 rfl ?_
        refine ww_iload_n (pc := 369) C 3 dL_law_369 rfl ?_
        refine ww_iconst (pc := 370) (v := (1 : Int32)) C dL_law_370 (by decide) ?_
        refine ww_iadd (pc := 371) C dL_law_371 ?_
        obtain ⟨v4, e3, hf⟩ := xbd hf
        refine ww_sld (pc := 372) C hS e3 dL_law_372 ?_
        refine ww_aload_n (pc := 373) C 0 dL_law_373 rfl ?_
        refine ww_iload_n (pc := 374) C 3 dL_law_374 rfl ?_
        refine ww_iconst (pc := 375) (v := (2 : Int32)) C dL_law_375 (by decide) ?_
        refine ww_iadd (pc := 376) C dL_law_376 ?_
        obtain ⟨v6, e5, hf⟩ := xbd hf
        refine ww_sld (pc := 377) C hS e5 dL_law_377 ?_
        obtain ⟨_, e7, hf⟩ := xbd hf
        obtain ⟨⟨v10, σ9⟩, e8, hf⟩ := xbd hf
        dsimp only at hf
        refine ww_callVi (pc := 378) (as := [.int v4, .int v6]) (st := []) C (k_X11_pull (l := gl G) (E := gE G) (hb := gB G) (σ := σ) e8) rfl (by decide) xc_L_37 q722 q723 (xck_spec e7) rfl (by decide) (xst4 (Nat.le_of_ble_eq_true rfl)) (m_X11_pull e8).le (m_X11_pull e8).lim dL_law_378 ?_
        refine ww_pop (pc := 381) C dL_law_381 rfl ?_
        refine ww_aload_n (pc := 382) C 2 dL_law_382 rfl ?_
        refine ww_aload_n (pc := 383) C 0 dL_law_383 rfl ?_
        refine ww_iload_n (pc := 384) C 3 dL_law_384 rfl ?_
        refine ww_iconst (pc := 385) (v := (1 : Int32)) C dL_law_385 (by decide) ?_
        refine ww_iadd (pc := 386) C dL_law_386 ?_
        obtain ⟨v12, e11, hf⟩ := xbd hf
        refine ww_sld (pc := 387) C hS e11 dL_law_387 ?_
        refine ww_aload_n (pc := 388) C 0 dL_law_388 rfl ?_
        refine ww_iload_n (pc := 389) C 3 dL_law_389 rfl ?_
        refine ww_iconst (pc := 390) (v := (2 : Int32)) C dL_law_390 (by decide) ?_
        refine ww_iadd (pc := 391) C dL_law_391 ?_
        obtain ⟨v14, e13, hf⟩ := xbd hf
        refine ww_sld (pc := 392) C hS e13 dL_law_392 ?_
        obtain ⟨_, e15, hf⟩ := xbd hf
        obtain ⟨⟨v18, σ17⟩, e16, hf⟩ := xbd hf
        dsimp only at hf
        refine ww_callVi (pc := 393) (as := [.int v12, .int v14]) (st := []) C (k_X12_pull (l := gl G) (E := gE G) (hb := gB G) (σ := σ9) e16) rfl (by decide) xc_L_41 q1522 q1523 (xck_spec e15) rfl (by decide) (xst4 (Nat.le_of_ble_eq_true rfl)) (m_X12_pull e16).le (m_X12_pull e16).lim dL_law_393 ?_
        refine ww_pop (pc := 396) C dL_law_396 rfl ?_
        refine ww_goto (pc := 397) (tgt := 1289) C dL_law_397 (by decide) ?_
        refine ww_iinc (pc := 1289) (v := x3 + (6 : Int32)) (lv' := [(3, .int (x3 + (6 : Int32))), (0, .ref b), (1, .ref (gB G + r1)), (2, .ref (gB G + r2))]) C 3 dL_law_1289 rfl (congrArg (fun z => x3 + z) (show Int32.ofInt (6) = (6 : Int32) by decide)) (by decide) rfl ?_
        refine ww_goto (pc := 1292) (tgt := 18) C dL_law_1292 (by decide) ?_
        have hf := xsj hf
        subst hf
        refine ww_sub [1, 2, 3, 0] rfl ?_
        exact (hk.1 (x3 + (6 : Int32), σ17) rfl).2
      · refine ⟨400, 367, rfl, by decide, ?_⟩
        have hf := xsw_in 6 hk1 rfl hf
        refine ww_aload_n (pc := 400) C 1 dL_law_400 rfl ?_
        refine ww_aload_n (pc := 401) C 0 dL_law_401 rfl ?_
        refine ww_iload_n (pc := 402) C 3 dL_law_402 rfl ?_
        refine ww_iconst (pc := 403) (v := (1 : Int32)) C dL_law_403 (by decide) ?_
        refine ww_iadd (pc := 404) C dL_law_404 ?_
        obtain ⟨v4, e3, hf⟩ := xbd hf
        refine ww_sld (pc := 405) C hS e3 dL_law_405 ?_
        refine ww_aload_n (pc := 406) C 0 dL_law_406 rfl ?_
        refine ww_iload_n (pc := 407) C 3 dL_law_407 rfl ?_
        refine ww_iconst (pc := 408) (v := (2 : Int32)) C dL_law_408 (by decide) ?_
        refine ww_iadd (pc := 409) C dL_law_409 ?_
        obtain ⟨v6, e5, hf⟩ := xbd hf
        refine ww_sld (pc := 410) C hS e5 dL_law_410 ?_
        obtain ⟨_, e7, hf⟩ := xbd hf
        obtain ⟨⟨v10, σ9⟩, e8, hf⟩ := xbd hf
        dsimp only at hf
        refine ww_callVi (pc := 411) (as := [.int v4, .int v6]) (st := []) C (k_X11_pin (l := gl G) (E := gE G) (hb := gB G) (σ := σ) e8) rfl (by decide) xc_L_42 q732 q733 (xck_spec e7) rfl (by decide) (xst4 (Nat.le_of_ble_eq_true rfl)) (m_X11_pin e8).le (m_X11_pin e8).lim dL_law_411 ?_
        refine ww_pop (pc := 414) C dL_law_414 rfl ?_
        refine ww_aload_n (pc := 415) C 2 dL_law_415 rfl ?_
        refine ww_aload_n (pc := 416) C 0 dL_law_416 rfl ?_
        refine ww_iload_n (pc := 417) C 3 dL_law_417 rfl ?_
        refine ww_iconst (pc := 418) (v := (1 : Int32)) C dL_law_418 (by decide) ?_
        refine ww_iadd (pc := 419) C dL_law_419 ?_
        obtain ⟨v12, e11, hf⟩ := xbd hf
        refine ww_sld (pc := 420) C hS e11 dL_law_420 ?_
        refine ww_aload_n (pc := 421) C 0 dL_law_421 rfl ?_
        refine ww_iload_n (pc := 422) C 3 dL_law_422 rfl ?_
        refine ww_iconst (pc := 423) (v := (2 : Int32)) C dL_law_423 (by decide) ?_
        refine ww_iadd (pc := 424) C dL_law_424 ?_
        obtain ⟨v14, e13, hf⟩ := xbd hf
        refine ww_sld (pc := 425) C hS e13 dL_law_425 ?_
        obtain ⟨_, e15, hf⟩ := xbd hf
        obtain ⟨⟨v18, σ17⟩, e16, hf⟩ := xbd hf
        dsimp only at hf
        refine ww_callVi (pc := 426) (as := [.int v12, .int v14]) (st := []) C (k_X12_pin (l := gl G) (E := gE G) (hb := gB G) (σ := σ9) e16) rfl (by decide) xc_L_45 q1526 q1527 (xck_spec e15) rfl (by decide) (xst4 (Nat.le_of_ble_eq_true rfl)) (m_X12_pin e16).le (m_X12_pin e16).lim dL_law_426 ?_
        refine ww_pop (pc := 429) C dL_law_429 rfl ?_
        refine ww_goto (pc := 430) (tgt := 1289) C dL_law_430 (by decide) ?_
        refine ww_iinc (pc := 1289) (v := x3 + (6 : Int32)) (lv' := [(3, .int (x3 + (6 : Int32))), (0, .ref b), (1, .ref (gB G + r1)), (2, .ref (gB G + r2))]) C 3 dL_law_1289 rfl (congrArg (fun z => x3 + z) (show Int32.ofInt (6) = (6 : Int32) by decide)) (by decide) rfl ?_
        refine ww_goto (pc := 1292) (tgt := 18) C dL_law_1292 (by decide) ?_
        have hf := xsj hf
        subst hf
        refine ww_sub [1, 2, 3, 0] rfl ?_
        exact (hk.1 (x3 + (6 : Int32), σ17) rfl).2
      · refine ⟨433, 400, rfl, by decide, ?_⟩
        have hf := xsw_in 7 hk1 rfl hf
        refine ww_aload_n (pc := 433) C 1 dL_law_433 rfl ?_
        refine ww_aload_n (pc := 434) C 0 dL_law_434 rfl ?_
        refine ww_iload_n (pc := 435) C 3 dL_law_435 rfl ?_
        refine ww_iconst (pc := 436) (v := (1 : Int32)) C dL_law_436 (by decide) ?_
        refine ww_iadd (pc := 437) C dL_law_437 ?_
        obtain ⟨v4, e3, hf⟩ := xbd hf
        refine ww_sld (pc := 438) C hS e3 dL_law_438 ?_
        obtain ⟨_, e5, hf⟩ := xbd hf
        obtain ⟨⟨v8, σ7⟩, e6, hf⟩ := xbd hf
        dsimp only at hf
        refine ww_callVi (pc := 439) (as := [.int v4]) (st := []) C (k_X11_glass (l := gl G) (E := gE G) (hb := gB G) (σ := σ) e6) rfl (by decide) xc_L_46 q750 q751 (xck_spec e5) rfl (by decide) (xst4 (Nat.le_of_ble_eq_true rfl)) (m_X11_glass e6).le (m_X11_glass e6).lim dL_law_439 ?_
        refine ww_pop (pc := 442) C dL_law_442 rfl ?_
        refine ww_aload_n (pc := 443) C 2 dL_law_443 rfl ?_
        refine ww_aload_n (pc := 444) C 0 dL_law_444 rfl ?_
        refine ww_iload_n (pc := 445) C 3 dL_law_445 rfl ?_
        refine ww_iconst (pc := 446) (v := (1 : Int32)) C dL_law_446 (by decide) ?_
        refine ww_iadd (pc := 447) C dL_law_447 ?_
        obtain ⟨v10, e9, hf⟩ := xbd hf
        refine ww_sld (pc := 448) C hS e9 dL_law_448 ?_
        obtain ⟨_, e11, hf⟩ := xbd hf
        obtain ⟨⟨v14, σ13⟩, e12, hf⟩ := xbd hf
        dsimp only at hf
        refine ww_callVi (pc := 449) (as := [.int v10]) (st := []) C (k_X12_glass (l := gl G) (E := gE G) (hb := gB G) (σ := σ7) e12) rfl (by decide) xc_L_50 q1530 q1531 (xck_spec e11) rfl (by decide) (xst4 (Nat.le_of_ble_eq_true rfl)) (m_X12_glass e12).le (m_X12_glass e12).lim dL_law_449 ?_
        refine ww_pop (pc := 452) C dL_law_452 rfl ?_
        refine ww_goto (pc := 453) (tgt := 1289) C dL_law_453 (by decide) ?_
        refine ww_iinc (pc := 1289) (v := x3 + (6 : Int32)) (lv' := [(3, .int (x3 + (6 : Int32))), (0, .ref b), (1, .ref (gB G + r1)), (2, .ref (gB G + r2))]) C 3 dL_law_1289 rfl (congrArg (fun z => x3 + z) (show Int32.ofInt (6) = (6 : Int32) by decide)) (by decide) rfl ?_
        refine ww_goto (pc := 1292) (tgt := 18) C dL_law_1292 (by decide) ?_
        have hf := xsj hf
        subst hf
        refine ww_sub [1, 2, 3, 0] rfl ?_
        exact (hk.1 (x3 + (6 : Int32), σ13) rfl).2
      · refine ⟨456, 423, rfl, by decide, ?_⟩
        have hf := xsw_in 8 hk1 rfl hf
        refine ww_aload_n (pc := 456) C 1 dL_law_456 rfl ?_
        refine ww_aload_n (pc := 457) C 0 dL_law_457 rfl ?_
        refine ww_iload_n (pc := 458) C 3 dL_law_458 rfl ?_
        refine ww_iconst (pc := 459) (v := (1 : Int32)) C dL_law_459 (by decide) ?_
        refine ww_iadd (pc := 460) C dL_law_460 ?_
        obtain ⟨v4, e3, hf⟩ := xbd hf
        refine ww_sld (pc := 461) C hS e3 dL_law_461 ?_
        obtain ⟨_, e5, hf⟩ := xbd hf
        obtain ⟨⟨v8, σ7⟩, e6, hf⟩ := xbd hf
        dsimp only at hf
        refine ww_callVi (pc := 462) (as := [.int v4]) (st := []) C (k_X11_turn (l := gl G) (E := gE G) (hb := gB G) (σ := σ) e6) rfl (by decide) xc_L_51 q765 q766 (xck_spec e5) rfl (by decide) (xst4 (Nat.le_of_ble_eq_true rfl)) (m_X11_turn e6).le (m_X11_turn e6).lim dL_law_462 ?_
        refine ww_pop (pc := 465) C dL_law_465 rfl ?_
        refine ww_aload_n (pc := 466) C 2 dL_law_466 rfl ?_
        refine ww_aload_n (pc := 467) C 0 dL_law_467 rfl ?_
        refine ww_iload_n (pc := 468) C 3 dL_law_468 rfl ?_
        refine ww_iconst (pc := 469) (v := (1 : Int32)) C dL_law_469 (by decide) ?_
        refine ww_iadd (pc := 470) C dL_law_470 ?_
        obtain ⟨v10, e9, hf⟩ := xbd hf
        refine ww_sld (pc := 471) C hS e9 dL_law_471 ?_
        obtain ⟨_, e11, hf⟩ := xbd hf
        obtain ⟨⟨v14, σ13⟩, e12, hf⟩ := xbd hf
        dsimp only at hf
        refine ww_callVi (pc := 472) (as := [.int v10]) (st := []) C (k_X12_turn (l := gl G) (E := gE G) (hb := gB G) (σ := σ7) e12) rfl (by decide) xc_L_54 q1542 q1543 (xck_spec e11) rfl (by decide) (xst4 (Nat.le_of_ble_eq_true rfl)) (m_X12_turn e12).le (m_X12_turn e12).lim dL_law_472 ?_
        refine ww_pop (pc := 475) C dL_law_475 rfl ?_
        refine ww_goto (pc := 476) (tgt := 1289) C dL_law_476 (by decide) ?_
        refine ww_iinc (pc := 1289) (v := x3 + (6 : Int32)) (lv' := [(3, .int (x3 + (6 : Int32))), (0, .ref b), (1, .ref (gB G + r1)), (2, .ref (gB G + r2))]) C 3 dL_law_1289 rfl (congrArg (fun z => x3 + z) (show Int32.ofInt (6) = (6 : Int32) by decide)) (by decide) rfl ?_
        refine ww_goto (pc := 1292) (tgt := 18) C dL_law_1292 (by decide) ?_
        have hf := xsj hf
        subst hf
        refine ww_sub [1, 2, 3, 0] rfl ?_
        exact (hk.1 (x3 + (6 : Int32), σ13) rfl).2
      · refine ⟨479, 446, rfl, by decide, ?_⟩
        have hf := xsw_in 9 hk1 rfl hf
        refine ww_aload_n (pc := 479) C 1 dL_law_479 rfl ?_
        obtain ⟨_, e3, hf⟩ := xbd hf
        obtain ⟨⟨v6, σ5⟩, e4, hf⟩ := xbd hf
        dsimp only at hf
        refine ww_callVi (pc := 480) (as := []) (st := []) C (k_X11_fall (l := gl G) (E := gE G) (hb := gB G) (σ := σ) e4) rfl (by decide) xc_L_55 q770 q771 (xck_spec e3) rfl (by decide) (xst4 (Nat.le_of_ble_eq_true rfl)) (m_X11_fall e4).le (m_X11_fall e4).lim dL_law_480 ?_
        refine ww_pop (pc := 483) C dL_law_483 rfl ?_
        refine ww_aload_n (pc := 484) C 2 dL_law_484 rfl ?_
        obtain ⟨_, e7, hf⟩ := xbd hf
        obtain ⟨⟨v10, σ9⟩, e8, hf⟩ := xbd hf
        dsimp only at hf
        refine ww_callVi (pc := 485) (as := []) (st := []) C (k_X12_fall (l := gl G) (E := gE G) (hb := gB G) (σ := σ5) e8) rfl (by decide) xc_L_58 q1546 q1547 (xck_spec e7) rfl (by decide) (xst4 (Nat.le_of_ble_eq_true rfl)) (m_X12_fall e8).le (m_X12_fall e8).lim dL_law_485 ?_
        refine ww_pop (pc := 488) C dL_law_488 rfl ?_
        refine ww_goto (pc := 489) (tgt := 1289) C dL_law_489 (by decide) ?_
        refine ww_iinc (pc := 1289) (v := x3 + (6 : Int32)) (lv' := [(3, .int (x3 + (6 : Int32))), (0, .ref b), (1, .ref (gB G + r1)), (2, .ref (gB G + r2))]) C 3 dL_law_1289 rfl (congrArg (fun z => x3 + z) (show Int32.ofInt (6) = (6 : Int32) by decide)) (by decide) rfl ?_
        refine ww_goto (pc := 1292) (tgt := 18) C dL_law_1292 (by decide) ?_
        have hf := xsj hf
        subst hf
        refine ww_sub [1, 2, 3, 0] rfl ?_
        exact (hk.1 (x3 + (6 : Int32), σ9) rfl).2
      · refine ⟨492, 459, rfl, by decide, ?_⟩
        have hf := xsw_in 10 hk1 rfl hf
        refine ww_aload_n (pc := 492) C 1 dL_law_492 rfl ?_
        obtain ⟨_, e3, hf⟩ := xbd hf
        obtain ⟨⟨v6, σ5⟩, e4, hf⟩ := xbd hf
        dsimp only at hf
        refine ww_callVi (pc := 493) (as := []) (st := []) C (k_X11_undo (l := gl G) (E := gE G) (hb := gB G) (σ := σ) e4) rfl (by decide) xc_L_59 q790 q791 (xck_spec e3) rfl (by decide) (xst4 (Nat.le_of_ble_eq_true rfl)) (m_X11_undo e4).le (m_X11_undo e4).lim dL_law_493 ?_
        refine ww_aload_n (pc := 496) C 2 dL_law_496 rfl ?_
        obtain ⟨_, e7, hf⟩ := xbd hf
        obtain ⟨⟨v10, σ9⟩, e8, hf⟩ := xbd hf
        dsimp only at hf
        refine ww_callVi (pc := 497) (as := []) (st := [.int v6]) C (k_X12_undo (l := gl G) (E := gE G) (hb := gB G) (σ := σ5) e8) rfl (by decide) xc_L_63 q1582 q1583 (xck_spec e7) rfl (by decide) (xst4 (Nat.le_of_ble_eq_true rfl)) (m_X12_undo e8).le (m_X12_undo e8).lim dL_law_497 ?_
        refine ww_icmp_eq (pc := 500) (tgt := 1289) C dL_law_500 (by decide) (fun q => ?_) (fun q => ?_)
        · have hf := xip q hf
          refine ww_iinc (pc := 1289) (v := x3 + (6 : Int32)) (lv' := [(3, .int (x3 + (6 : Int32))), (0, .ref b), (1, .ref (gB G + r1)), (2, .ref (gB G + r2))]) C 3 dL_law_1289 rfl (congrArg (fun z => x3 + z) (show Int32.ofInt (6) = (6 : Int32) by decide)) (by decide) rfl ?_
          refine ww_goto (pc := 1292) (tgt := 18) C dL_law_1292 (by decide) ?_
          have hf := xsj hf
          subst hf
          refine ww_sub [1, 2, 3, 0] rfl ?_
          exact (hk.1 (x3 + (6 : Int32), σ9) rfl).2
        · have hf := xin q hf
          obtain ⟨b0, hg, e9⟩ := xmj hf
          subst e9
          have hf := hg
          have hk := hk.2 _ rfl
          refine ww_iconst (pc := 503) (v := (0 : Int32)) C dL_law_503 (by decide) ?_
          have hf := xsj hf
          subst hf
          exact ww_lawret (pc := 504) C hS hk dL_law_504
      · refine ⟨505, 472, rfl, by decide, ?_⟩
        have hf := xsw_in 11 hk1 rfl hf
        refine ww_aload_n (pc := 505) C 1 dL_law_505 rfl ?_
        refine ww_aload_n (pc := 506) C 0 dL_law_506 rfl ?_
        refine ww_iload_n (pc := 507) C 3 dL_law_507 rfl ?_
        refine ww_iconst (pc := 508) (v := (1 : Int32)) C dL_law_508 (by decide) ?_
        refine ww_iadd (pc := 509) C dL_law_509 ?_
        obtain ⟨v4, e3, hf⟩ := xbd hf
        refine ww_sld (pc := 510) C hS e3 dL_law_510 ?_
        refine ww_aload_n (pc := 511) C 0 dL_law_511 rfl ?_
        refine ww_iload_n (pc := 512) C 3 dL_law_512 rfl ?_
        refine ww_iconst (pc := 513) (v := (2 : Int32)) C dL_law_513 (by decide) ?_
        refine ww_iadd (pc := 514) C dL_law_514 ?_
        obtain ⟨v6, e5, hf⟩ := xbd hf
        refine ww_sld (pc := 515) C hS e5 dL_law_515 ?_
        obtain ⟨_, e7, hf⟩ := xbd hf
        obtain ⟨v9, e8, hf⟩ := xbd hf
        refine ww_callVi (pc := 516) (as := [.int v4, .int v6]) (st := []) C (k_X11_site (l := gl G) (E := gE G) (hb := gB G) (σ := σ) e8) rfl (by decide) xc_L_64 q798 q799 (xck_spec e7) rfl (by decide) (xst4 (Nat.le_of_ble_eq_true rfl)) xsame.rf.le xsame.rf.lim dL_law_516 ?_
        refine ww_pop (pc := 519) C dL_law_519 rfl ?_
        refine ww_aload_n (pc := 520) C 2 dL_law_520 rfl ?_
        refine ww_aload_n (pc := 521) C 0 dL_law_521 rfl ?_
        refine ww_iload_n (pc := 522) C 3 dL_law_522 rfl ?_
        refine ww_iconst (pc := 523) (v := (1 : Int32)) C dL_law_523 (by decide) ?_
        refine ww_iadd (pc := 524) C dL_law_524 ?_
        obtain ⟨v11, e10, hf⟩ := xbd hf
        refine ww_sld (pc := 525) C hS e10 dL_law_525 ?_
        refine ww_aload_n (pc := 526) C 0 dL_law_526 rfl ?_
        refine ww_iload_n (pc := 527) C 3 dL_law_527 rfl ?_
        refine ww_iconst (pc := 528) (v := (2 : Int32)) C dL_law_528 (by decide) ?_
        refine ww_iadd (pc := 529) C dL_law_529 ?_
        obtain ⟨v13, e12, hf⟩ := xbd hf
        refine ww_sld (pc := 530) C hS e12 dL_law_530 ?_
        obtain ⟨_, e14, hf⟩ := xbd hf
        obtain ⟨v16, e15, hf⟩ := xbd hf
        refine ww_callVi (pc := 531) (as := [.int v11, .int v13]) (st := []) C (k_X12_site (l := gl G) (E := gE G) (hb := gB G) (σ := σ) e15) rfl (by decide) xc_L_68 q1594 q1595 (xck_spec e14) rfl (by decide) (xst4 (Nat.le_of_ble_eq_true rfl)) xsame.rf.le xsame.rf.lim dL_law_531 ?_
        refine ww_pop (pc := 534) C dL_law_534 rfl ?_
        refine ww_goto (pc := 535) (tgt := 1289) C dL_law_535 (by decide) ?_
        refine ww_iinc (pc := 1289) (v := x3 + (6 : Int32)) (lv' := [(3, .int (x3 + (6 : Int32))), (0, .ref b), (1, .ref (gB G + r1)), (2, .ref (gB G + r2))]) C 3 dL_law_1289 rfl (congrArg (fun z => x3 + z) (show Int32.ofInt (6) = (6 : Int32) by decide)) (by decide) rfl ?_
        refine ww_goto (pc := 1292) (tgt := 18) C dL_law_1292 (by decide) ?_
        have hf := xsj hf
        subst hf
        refine ww_sub [1, 2, 3, 0] rfl ?_
        exact (hk.1 (x3 + (6 : Int32), σ) rfl).2
      · refine ⟨538, 505, rfl, by decide, ?_⟩
        have hf := xsw_in 12 hk1 rfl hf
        refine ww_aload_n (pc := 538) C 1 dL_law_538 rfl ?_
        refine ww_aload_n (pc := 539) C 0 dL_law_539 rfl ?_
        refine ww_iload_n (pc := 540) C 3 dL_law_540 rfl ?_
        refine ww_iconst (pc := 541) (v := (1 : Int32)) C dL_law_541 (by decide) ?_
        refine ww_iadd (pc := 542) C dL_law_542 ?_
        obtain ⟨v4, e3, hf⟩ := xbd hf
        refine ww_sld (pc := 543) C hS e3 dL_law_543 ?_
        refine ww_aload_n (pc := 544) C 0 dL_law_544 rfl ?_
        refine ww_iload_n (pc := 545) C 3 dL_law_545 rfl ?_
        refine ww_iconst (pc := 546) (v := (2 : Int32)) C dL_law_546 (by decide) ?_
        refine ww_iadd (pc := 547) C dL_law_547 ?_
        obtain ⟨v6, e5, hf⟩ := xbd hf
        refine ww_sld (pc := 548) C hS e5 dL_law_548 ?_
        obtain ⟨_, e7, hf⟩ := xbd hf
        obtain ⟨⟨v10, σ9⟩, e8, hf⟩ := xbd hf
        dsimp only at hf
        refine ww_callVi (pc := 549) (as := [.int v4, .int v6]) (st := []) C (k_X11_level (l := gl G) (E := gE G) (hb := gB G) (σ := σ) e8) rfl (by decide) xc_L_69 q841 q842 (xck_spec e7) rfl (by decide) (xst4 (Nat.le_of_ble_eq_true rfl)) (m_X11_level e8).1 (fun q => by have hm9 := m_L_law_j552 hf; rcases y with a' | b90; exact XLim.mid q (m_X11_level e8) (hm9.1 a' rfl) (hk.1 a' rfl).1; have hm9 := hm9.2 _ rfl; have hk := hk.2 _ rfl; exact XLim.mid q (m_X11_level e8) hm9 hk.2.1) dL_law_549 ?_
        refine ww_sub [0, 1, 2, 3] rfl ?_
        exact s_L_law_j552 C hS hf hk
      · refine ⟨571, 538, rfl, by decide, ?_⟩
        have hf := xsw_in 13 hk1 rfl hf
        refine ww_aload_n (pc := 571) C 1 dL_law_571 rfl ?_
        refine ww_aload_n (pc := 572) C 0 dL_law_572 rfl ?_
        refine ww_iload_n (pc := 573) C 3 dL_law_573 rfl ?_
        refine ww_iconst (pc := 574) (v := (1 : Int32)) C dL_law_574 (by decide) ?_
        refine ww_iadd (pc := 575) C dL_law_575 ?_
        obtain ⟨v4, e3, hf⟩ := xbd hf
        refine ww_sld (pc := 576) C hS e3 dL_law_576 ?_
        refine ww_aload_n (pc := 577) C 0 dL_law_577 rfl ?_
        refine ww_iload_n (pc := 578) C 3 dL_law_578 rfl ?_
        refine ww_iconst (pc := 579) (v := (2 : Int32)) C dL_law_579 (by decide) ?_
        refine ww_iadd (pc := 580) C dL_law_580 ?_
        obtain ⟨v6, e5, hf⟩ := xbd hf
        refine ww_sld (pc := 581) C hS e5 dL_law_581 ?_
        obtain ⟨_, e7, hf⟩ := xbd hf
        obtain ⟨⟨v10, σ9⟩, e8, hf⟩ := xbd hf
        dsimp only at hf
        refine ww_callVi (pc := 582) (as := [.int v4, .int v6]) (st := []) C (k_X11_both (l := gl G) (E := gE G) (hb := gB G) (σ := σ) e8) rfl (by decide) xc_L_73 q929 q930 (xck_spec e7) rfl (by decide) (xst4 (Nat.le_of_ble_eq_true rfl)) (m_X11_both e8).1 (fun q => by have hm9 := m_L_law_j585 hf; rcases y with a' | b90; exact XLim.mid q (m_X11_both e8) (hm9.1 a' rfl) (hk.1 a' rfl).1; have hm9 := hm9.2 _ rfl; have hk := hk.2 _ rfl; exact XLim.mid q (m_X11_both e8) hm9 hk.2.1) dL_law_582 ?_
        refine ww_sub [0, 1, 2, 3] rfl ?_
        exact s_L_law_j585 C hS hf hk
      · refine ⟨604, 571, rfl, by decide, ?_⟩
        have hf := xsw_in 14 hk1 rfl hf
        refine ww_aload_n (pc := 604) C 1 dL_law_604 rfl ?_
        refine ww_aload_n (pc := 605) C 0 dL_law_605 rfl ?_
        refine ww_iload_n (pc := 606) C 3 dL_law_606 rfl ?_
        refine ww_iconst (pc := 607) (v := (1 : Int32)) C dL_law_607 (by decide) ?_
        refine ww_iadd (pc := 608) C dL_law_608 ?_
        obtain ⟨v4, e3, hf⟩ := xbd hf
        refine ww_sld (pc := 609) C hS e3 dL_law_609 ?_
        obtain ⟨_, e5, hf⟩ := xbd hf
        obtain ⟨⟨v8, σ7⟩, e6, hf⟩ := xbd hf
        dsimp only at hf
        refine ww_callVi (pc := 610) (as := [.int v4]) (st := []) C (k_X11_broken (l := gl G) (E := gE G) (hb := gB G) (σ := σ) e6) rfl (by decide) xc_L_77 q934 q935 (xck_spec e5) rfl (by decide) (xst4 (Nat.le_of_ble_eq_true rfl)) (m_X11_broken e6).1 (fun q => by have hm9 := m_L_law_j613 hf; rcases y with a' | b90; exact XLim.mid q (m_X11_broken e6) (hm9.1 a' rfl) (hk.1 a' rfl).1; have hm9 := hm9.2 _ rfl; have hk := hk.2 _ rfl; exact XLim.mid q (m_X11_broken e6) hm9 hk.2.1) dL_law_610 ?_
        refine ww_sub [0, 1, 2, 3] rfl ?_
        exact s_L_law_j613 C hS hf hk
      · refine ⟨627, 594, rfl, by decide, ?_⟩
        have hf := xsw_in 15 hk1 rfl hf
        refine ww_aload_n (pc := 627) C 1 dL_law_627 rfl ?_
        refine ww_aload_n (pc := 628) C 0 dL_law_628 rfl ?_
        refine ww_iload_n (pc := 629) C 3 dL_law_629 rfl ?_
        refine ww_iconst (pc := 630) (v := (1 : Int32)) C dL_law_630 (by decide) ?_
        refine ww_iadd (pc := 631) C dL_law_631 ?_
        obtain ⟨v4, e3, hf⟩ := xbd hf
        refine ww_sld (pc := 632) C hS e3 dL_law_632 ?_
        obtain ⟨_, e5, hf⟩ := xbd hf
        obtain ⟨⟨v8, σ7⟩, e6, hf⟩ := xbd hf
        dsimp only at hf
        refine ww_callVi (pc := 633) (as := [.int v4]) (st := []) C (k_X11_ground (l := gl G) (E := gE G) (hb := gB G) (σ := σ) e6) rfl (by decide) xc_L_81 q963 q964 (xck_spec e5) rfl (by decide) (xst4 (Nat.le_of_ble_eq_true rfl)) (m_X11_ground e6).1 (fun q => by have hm9 := m_L_law_j636 hf; rcases y with a' | b90; exact XLim.mid q (m_X11_ground e6) (hm9.1 a' rfl) (hk.1 a' rfl).1; have hm9 := hm9.2 _ rfl; have hk := hk.2 _ rfl; exact XLim.mid q (m_X11_ground e6) hm9 hk.2.1) dL_law_633 ?_
        refine ww_sub [0, 1, 2, 3] rfl ?_
        exact s_L_law_j636 C hS hf hk
      · refine ⟨650, 617, rfl, by decide, ?_⟩
        have hf := xsw_in 16 hk1 rfl hf
        refine ww_aload_n (pc := 650) C 1 dL_law_650 rfl ?_
        refine ww_aload_n (pc := 651) C 0 dL_law_651 rfl ?_
        refine ww_iload_n (pc := 652) C 3 dL_law_652 rfl ?_
        refine ww_iconst (pc := 653) (v := (1 : Int32)) C dL_law_653 (by decide) ?_
        refine ww_iadd (pc := 654) C dL_law_654 ?_
        obtain ⟨v4, e3, hf⟩ := xbd hf
        refine ww_sld (pc := 655) C hS e3 dL_law_655 ?_
        refine ww_aload_n (pc := 656) C 0 dL_law_656 rfl ?_
        refine ww_iload_n (pc := 657) C 3 dL_law_657 rfl ?_
        refine ww_iconst (pc := 658) (v := (2 : Int32)) C dL_law_658 (by decide) ?_
        refine ww_iadd (pc := 659) C dL_law_659 ?_
        obtain ⟨v6, e5, hf⟩ := xbd hf
        refine ww_sld (pc := 660) C hS e5 dL_law_660 ?_
        refine ww_aload_n (pc := 661) C 0 dL_law_661 rfl ?_
        refine ww_iload_n (pc := 662) C 3 dL_law_662 rfl ?_
        refine ww_iconst (pc := 663) (v := (3 : Int32)) C dL_law_663 (by decide) ?_
        refine ww_iadd (pc := 664) C dL_law_664 ?_
        obtain ⟨v8, e7, hf⟩ := xbd hf
        refine ww_sld (pc := 665) C hS e7 dL_law_665 ?_
        refine ww_aload_n (pc := 666) C 0 dL_law_666 rfl ?_
        refine ww_iload_n (pc := 667) C 3 dL_law_667 rfl ?_
        refine ww_iconst (pc := 668) (v := (4 : Int32)) C dL_law_668 (by decide) ?_
        refine ww_iadd (pc := 669) C dL_law_669 ?_
        obtain ⟨v10, e9, hf⟩ := xbd hf
        refine ww_sld (pc := 670) C hS e9 dL_law_670 ?_
        obtain ⟨_, e11, hf⟩ := xbd hf
        obtain ⟨⟨v14, σ13⟩, e12, hf⟩ := xbd hf
        dsimp only at hf
        refine ww_callVi (pc := 671) (as := [.int v4, .int v6, .int v8, .int v10]) (st := []) C (k_X11_pair (l := gl G) (E := gE G) (hb := gB G) (σ := σ) e12) rfl (by decide) xc_L_85 q967 q968 (xck_spec e11) rfl (by decide) (xst4 (Nat.le_of_ble_eq_true rfl)) (m_X11_pair e12).1 (fun q => by have hm9 := m_L_law_j674 hf; rcases y with a' | b90; exact XLim.mid q (m_X11_pair e12) (hm9.1 a' rfl) (hk.1 a' rfl).1; have hm9 := hm9.2 _ rfl; have hk := hk.2 _ rfl; exact XLim.mid q (m_X11_pair e12) hm9 hk.2.1) dL_law_671 ?_
        refine ww_sub [0, 1, 2, 3] rfl ?_
        exact s_L_law_j674 C hS hf hk
      · refine ⟨703, 670, rfl, by decide, ?_⟩
        have hf := xsw_in 17 hk1 rfl hf
        refine ww_aload_n (pc := 703) C 1 dL_law_703 rfl ?_
        refine ww_aload_n (pc := 704) C 0 dL_law_704 rfl ?_
        refine ww_iload_n (pc := 705) C 3 dL_law_705 rfl ?_
        refine ww_iconst (pc := 706) (v := (1 : Int32)) C dL_law_706 (by decide) ?_
        refine ww_iadd (pc := 707) C dL_law_707 ?_
        obtain ⟨v4, e3, hf⟩ := xbd hf
        refine ww_sld (pc := 708) C hS e3 dL_law_708 ?_
        refine ww_aload_n (pc := 709) C 0 dL_law_709 rfl ?_
        refine ww_iload_n (pc := 710) C 3 dL_law_710 rfl ?_
        refine ww_iconst (pc := 711) (v := (2 : Int32)) C dL_law_711 (by decide) ?_
        refine ww_iadd (pc := 712) C dL_law_712 ?_
        obtain ⟨v6, e5, hf⟩ := xbd hf
        refine ww_sld (pc := 713) C hS e5 dL_law_713 ?_
        obtain ⟨_, e7, hf⟩ := xbd hf
        obtain ⟨⟨v10, σ9⟩, e8, hf⟩ := xbd hf
        dsimp only at hf
        refine ww_callVi (pc := 714) (as := [.int v4, .int v6]) (st := []) C (k_X11_mean (l := gl G) (E := gE G) (hb := gB G) (σ := σ) e8) rfl (by decide) xc_L_90 q984 q985 (xck_spec e7) rfl (by decide) (xst4 (Nat.le_of_ble_eq_true rfl)) (m_X11_mean e8).1 (fun q => by have hm9 := m_L_law_j717 hf; rcases y with a' | b90; exact XLim.mid q (m_X11_mean e8) (hm9.1 a' rfl) (hk.1 a' rfl).1; have hm9 := hm9.2 _ rfl; have hk := hk.2 _ rfl; exact XLim.mid q (m_X11_mean e8) hm9 hk.2.1) dL_law_714 ?_
        refine ww_sub [0, 1, 2, 3] rfl ?_
        exact s_L_law_j717 C hS hf hk
      · refine ⟨736, 703, rfl, by decide, ?_⟩
        have hf := xsw_in 18 hk1 rfl hf
        refine ww_aload_n (pc := 736) C 1 dL_law_736 rfl ?_
        refine ww_aload_n (pc := 737) C 0 dL_law_737 rfl ?_
        refine ww_iload_n (pc := 738) C 3 dL_law_738 rfl ?_
        refine ww_iconst (pc := 739) (v := (1 : Int32)) C dL_law_739 (by decide) ?_
        refine ww_iadd (pc := 740) C dL_law_740 ?_
        obtain ⟨v4, e3, hf⟩ := xbd hf
        refine ww_sld (pc := 741) C hS e3 dL_law_741 ?_
        obtain ⟨_, e5, hf⟩ := xbd hf
        obtain ⟨⟨v8, σ7⟩, e6, hf⟩ := xbd hf
        dsimp only at hf
        refine ww_callVi (pc := 742) (as := [.int v4]) (st := []) C (k_X11_value (l := gl G) (E := gE G) (hb := gB G) (σ := σ) e6) rfl (by decide) xc_L_94 q992 q993 (xck_spec e5) rfl (by decide) (xst4 (Nat.le_of_ble_eq_true rfl)) (m_X11_value e6).1 (fun q => by have hm9 := m_L_law_j745 hf; rcases y with a' | b90; exact XLim.mid q (m_X11_value e6) (hm9.1 a' rfl) (hk.1 a' rfl).1; have hm9 := hm9.2 _ rfl; have hk := hk.2 _ rfl; exact XLim.mid q (m_X11_value e6) hm9 hk.2.1) dL_law_742 ?_
        refine ww_sub [0, 1, 2, 3] rfl ?_
        exact s_L_law_j745 C hS hf hk
      · refine ⟨759, 726, rfl, by decide, ?_⟩
        have hf := xsw_in 19 hk1 rfl hf
        refine ww_aload_n (pc := 759) C 1 dL_law_759 rfl ?_
        refine ww_aload_n (pc := 760) C 0 dL_law_760 rfl ?_
        refine ww_iload_n (pc := 761) C 3 dL_law_761 rfl ?_
        refine ww_iconst (pc := 762) (v := (1 : Int32)) C dL_law_762 (by decide) ?_
        refine ww_iadd (pc := 763) C dL_law_763 ?_
        obtain ⟨v4, e3, hf⟩ := xbd hf
        refine ww_sld (pc := 764) C hS e3 dL_law_764 ?_
        refine ww_aload_n (pc := 765) C 0 dL_law_765 rfl ?_
        refine ww_iload_n (pc := 766) C 3 dL_law_766 rfl ?_
        refine ww_iconst (pc := 767) (v := (2 : Int32)) C dL_law_767 (by decide) ?_
        refine ww_iadd (pc := 768) C dL_law_768 ?_
        obtain ⟨v6, e5, hf⟩ := xbd hf
        refine ww_sld (pc := 769) C hS e5 dL_law_769 ?_
        refine ww_aload_n (pc := 770) C 0 dL_law_770 rfl ?_
        refine ww_iload_n (pc := 771) C 3 dL_law_771 rfl ?_
        refine ww_iconst (pc := 772) (v := (3 : Int32)) C dL_law_772 (by decide) ?_
        refine ww_iadd (pc := 773) C dL_law_773 ?_
        obtain ⟨v8, e7, hf⟩ := xbd hf
        refine ww_sld (pc := 774) C hS e7 dL_law_774 ?_
        obtain ⟨_, e9, hf⟩ := xbd hf
        obtain ⟨⟨v12, σ11⟩, e10, hf⟩ := xbd hf
        dsimp only at hf
        refine ww_callVj (pc := 775) (as := [.int v4, .int v6, .int v8]) (st := []) C (k_X11_joined (l := gl G) (E := gE G) (hb := gB G) (σ := σ) e10) rfl (by decide) xc_L_98 q998 q999 (xck_spec e9) rfl (by decide) (xst4 (Nat.le_of_ble_eq_true rfl)) (m_X11_joined e10).1 (fun q => by have hm9 := m_L_law_j778 hf; rcases y with a' | b90; exact XLim.mid q (m_X11_joined e10) (hm9.1 a' rfl) (hk.1 a' rfl).1; have hm9 := hm9.2 _ rfl; have hk := hk.2 _ rfl; exact XLim.mid q (m_X11_joined e10) hm9 hk.2.1) dL_law_775 ?_
        refine ww_sub [0, 1, 2, 3] rfl ?_
        exact s_L_law_j778 C hS hf hk
      · refine ⟨802, 769, rfl, by decide, ?_⟩
        have hf := xsw_in 20 hk1 rfl hf
        refine ww_aload_n (pc := 802) C 1 dL_law_802 rfl ?_
        refine ww_aload_n (pc := 803) C 0 dL_law_803 rfl ?_
        refine ww_iload_n (pc := 804) C 3 dL_law_804 rfl ?_
        refine ww_iconst (pc := 805) (v := (1 : Int32)) C dL_law_805 (by decide) ?_
        refine ww_iadd (pc := 806) C dL_law_806 ?_
        obtain ⟨v4, e3, hf⟩ := xbd hf
        refine ww_sld (pc := 807) C hS e3 dL_law_807 ?_
        refine ww_aload_n (pc := 808) C 0 dL_law_808 rfl ?_
        refine ww_iload_n (pc := 809) C 3 dL_law_809 rfl ?_
        refine ww_iconst (pc := 810) (v := (2 : Int32)) C dL_law_810 (by decide) ?_
        refine ww_iadd (pc := 811) C dL_law_811 ?_
        obtain ⟨v6, e5, hf⟩ := xbd hf
        refine ww_sld (pc := 812) C hS e5 dL_law_812 ?_
        obtain ⟨_, e7, hf⟩ := xbd hf
        obtain ⟨⟨v10, σ9⟩, e8, hf⟩ := xbd hf
        dsimp only at hf
        refine ww_callVi (pc := 813) (as := [.int v4, .int v6]) (st := []) C (k_X11_state (l := gl G) (E := gE G) (hb := gB G) (σ := σ) e8) rfl (by decide) xc_L_103 q1062 q1063 (xck_spec e7) rfl (by decide) (xst4 (Nat.le_of_ble_eq_true rfl)) (m_X11_state e8).1 (fun q => by have hm9 := m_L_law_j816 hf; rcases y with a' | b90; exact XLim.mid q (m_X11_state e8) (hm9.1 a' rfl) (hk.1 a' rfl).1; have hm9 := hm9.2 _ rfl; have hk := hk.2 _ rfl; exact XLim.mid q (m_X11_state e8) hm9 hk.2.1) dL_law_813 ?_
        refine ww_sub [0, 1, 2, 3] rfl ?_
        exact s_L_law_j816 C hS hf hk
      · refine ⟨835, 802, rfl, by decide, ?_⟩
        have hf := xsw_in 21 hk1 rfl hf
        refine ww_aload_n (pc := 835) C 1 dL_law_835 rfl ?_
        refine ww_aload_n (pc := 836) C 0 dL_law_836 rfl ?_
        refine ww_iload_n (pc := 837) C 3 dL_law_837 rfl ?_
        refine ww_iconst (pc := 838) (v := (1 : Int32)) C dL_law_838 (by decide) ?_
        refine ww_iadd (pc := 839) C dL_law_839 ?_
        obtain ⟨v4, e3, hf⟩ := xbd hf
        refine ww_sld (pc := 840) C hS e3 dL_law_840 ?_
        refine ww_if_eq (pc := 841) (tgt := 848) C dL_law_841 (by decide) (fun q => ?_) (fun q => ?_)
        · have hf := xip q hf
          refine ww_iconst (pc := 848) (v := (0 : Int32)) C dL_law_848 (by decide) ?_
          refine ww_sub [0, 1, 2, 3] rfl ?_
          exact s_L_law_j849 C hS hf hk
        · have hf := xin q hf
          refine ww_iconst (pc := 844) (v := (1 : Int32)) C dL_law_844 (by decide) ?_
          refine ww_goto (pc := 845) (tgt := 849) C dL_law_845 (by decide) ?_
          refine ww_sub [0, 1, 2, 3] rfl ?_
          exact s_L_law_j849 C hS hf hk
      · refine ⟨874, 841, rfl, by decide, ?_⟩
        have hf := xsw_in 22 hk1 rfl hf
        refine ww_aload_n (pc := 874) C 1 dL_law_874 rfl ?_
        refine ww_aload_n (pc := 875) C 0 dL_law_875 rfl ?_
        refine ww_iload_n (pc := 876) C 3 dL_law_876 rfl ?_
        refine ww_iconst (pc := 877) (v := (1 : Int32)) C dL_law_877 (by decide) ?_
        refine ww_iadd (pc := 878) C dL_law_878 ?_
        obtain ⟨v4, e3, hf⟩ := xbd hf
        refine ww_sld (pc := 879) C hS e3 dL_law_879 ?_
        refine ww_aload_n (pc := 880) C 0 dL_law_880 rfl ?_
        refine ww_iload_n (pc := 881) C 3 dL_law_881 rfl ?_
        refine ww_iconst (pc := 882) (v := (2 : Int32)) C dL_law_882 (by decide) ?_
        refine ww_iadd (pc := 883) C dL_law_883 ?_
        obtain ⟨v6, e5, hf⟩ := xbd hf
        refine ww_sld (pc := 884) C hS e5 dL_law_884 ?_
        refine ww_aload_n (pc := 885) C 0 dL_law_885 rfl ?_
        refine ww_iload_n (pc := 886) C 3 dL_law_886 rfl ?_
        refine ww_iconst (pc := 887) (v := (3 : Int32)) C dL_law_887 (by decide) ?_
        refine ww_iadd (pc := 888) C dL_law_888 ?_
        obtain ⟨v8, e7, hf⟩ := xbd hf
        refine ww_sld (pc := 889) C hS e7 dL_law_889 ?_
        obtain ⟨_, e9, hf⟩ := xbd hf
        obtain ⟨⟨v12, σ11⟩, e10, hf⟩ := xbd hf
        dsimp only at hf
        refine ww_callVi (pc := 890) (as := [.int v4, .int v6, .int v8]) (st := []) C (k_X11_rows (l := gl G) (E := gE G) (hb := gB G) (σ := σ) e10) rfl (by decide) xc_L_112 q1040 q1041 (xck_spec e9) rfl (by decide) (xst4 (Nat.le_of_ble_eq_true rfl)) (m_X11_rows e10).1 (fun q => by have hm9 := m_L_law_j893 hf; rcases y with a' | b90; exact XLim.mid q (m_X11_rows e10) (hm9.1 a' rfl) (hk.1 a' rfl).1; have hm9 := hm9.2 _ rfl; have hk := hk.2 _ rfl; exact XLim.mid q (m_X11_rows e10) hm9 hk.2.1) dL_law_890 ?_
        refine ww_sub [0, 1, 2, 3] rfl ?_
        exact s_L_law_j893 C hS hf hk
      · refine ⟨917, 884, rfl, by decide, ?_⟩
        have hf := xsw_in 23 hk1 rfl hf
        refine ww_aload_n (pc := 917) C 1 dL_law_917 rfl ?_
        refine ww_aload_n (pc := 918) C 0 dL_law_918 rfl ?_
        refine ww_iload_n (pc := 919) C 3 dL_law_919 rfl ?_
        refine ww_iconst (pc := 920) (v := (1 : Int32)) C dL_law_920 (by decide) ?_
        refine ww_iadd (pc := 921) C dL_law_921 ?_
        obtain ⟨v4, e3, hf⟩ := xbd hf
        refine ww_sld (pc := 922) C hS e3 dL_law_922 ?_
        obtain ⟨_, e5, hf⟩ := xbd hf
        obtain ⟨v7, e6, hf⟩ := xbd hf
        refine ww_callVi (pc := 923) (as := [.int v4]) (st := []) C (k_X11_square (l := gl G) (E := gE G) (hb := gB G) (σ := σ) e6) rfl (by decide) xc_L_117 q817 q818 (xck_spec e5) rfl (by decide) (xst4 (Nat.le_of_ble_eq_true rfl)) xsame.rf.le xsame.rf.lim dL_law_923 ?_
        refine ww_pop (pc := 926) C dL_law_926 rfl ?_
        refine ww_aload_n (pc := 927) C 2 dL_law_927 rfl ?_
        refine ww_aload_n (pc := 928) C 0 dL_law_928 rfl ?_
        refine ww_iload_n (pc := 929) C 3 dL_law_929 rfl ?_
        refine ww_iconst (pc := 930) (v := (1 : Int32)) C dL_law_930 (by decide) ?_
        refine ww_iadd (pc := 931) C dL_law_931 ?_
        obtain ⟨v9, e8, hf⟩ := xbd hf
        refine ww_sld (pc := 932) C hS e8 dL_law_932 ?_
        obtain ⟨_, e10, hf⟩ := xbd hf
        obtain ⟨v12, e11, hf⟩ := xbd hf
        refine ww_callVi (pc := 933) (as := [.int v9]) (st := []) C (k_X12_square (l := gl G) (E := gE G) (hb := gB G) (σ := σ) e11) rfl (by decide) xc_L_120 q1715 q1716 (xck_spec e10) rfl (by decide) (xst4 (Nat.le_of_ble_eq_true rfl)) xsame.rf.le xsame.rf.lim dL_law_933 ?_
        refine ww_pop (pc := 936) C dL_law_936 rfl ?_
        refine ww_goto (pc := 937) (tgt := 1289) C dL_law_937 (by decide) ?_
        refine ww_iinc (pc := 1289) (v := x3 + (6 : Int32)) (lv' := [(3, .int (x3 + (6 : Int32))), (0, .ref b), (1, .ref (gB G + r1)), (2, .ref (gB G + r2))]) C 3 dL_law_1289 rfl (congrArg (fun z => x3 + z) (show Int32.ofInt (6) = (6 : Int32) by decide)) (by decide) rfl ?_
        refine ww_goto (pc := 1292) (tgt := 18) C dL_law_1292 (by decide) ?_
        have hf := xsj hf
        subst hf
        refine ww_sub [1, 2, 3, 0] rfl ?_
        exact (hk.1 (x3 + (6 : Int32), σ) rfl).2
      · refine ⟨940, 907, rfl, by decide, ?_⟩
        have hf := xsw_in 24 hk1 rfl hf
        refine ww_aload_n (pc := 940) C 1 dL_law_940 rfl ?_
        refine ww_aload_n (pc := 941) C 0 dL_law_941 rfl ?_
        refine ww_iload_n (pc := 942) C 3 dL_law_942 rfl ?_
        refine ww_iconst (pc := 943) (v := (1 : Int32)) C dL_law_943 (by decide) ?_
        refine ww_iadd (pc := 944) C dL_law_944 ?_
        obtain ⟨v4, e3, hf⟩ := xbd hf
        refine ww_sld (pc := 945) C hS e3 dL_law_945 ?_
        obtain ⟨_, e5, hf⟩ := xbd hf
        obtain ⟨⟨v8, σ7⟩, e6, hf⟩ := xbd hf
        dsimp only at hf
        refine ww_callVi (pc := 946) (as := [.int v4]) (st := []) C (k_X11_overlap (l := gl G) (E := gE G) (hb := gB G) (σ := σ) e6) rfl (by decide) xc_L_121 q1048 q1049 (xck_spec e5) rfl (by decide) (xst4 (Nat.le_of_ble_eq_true rfl)) (m_X11_overlap e6).1 (fun q => by have hm9 := m_L_law_j949 hf; rcases y with a' | b90; exact XLim.mid q (m_X11_overlap e6) (hm9.1 a' rfl) (hk.1 a' rfl).1; have hm9 := hm9.2 _ rfl; have hk := hk.2 _ rfl; exact XLim.mid q (m_X11_overlap e6) hm9 hk.2.1) dL_law_946 ?_
        refine ww_sub [0, 1, 2, 3] rfl ?_
        exact s_L_law_j949 C hS hf hk
      · refine ⟨963, 930, rfl, by decide, ?_⟩
        have hf := xsw_in 25 hk1 rfl hf
        refine ww_aload_n (pc := 963) C 1 dL_law_963 rfl ?_
        refine ww_aload_n (pc := 964) C 0 dL_law_964 rfl ?_
        refine ww_iload_n (pc := 965) C 3 dL_law_965 rfl ?_
        refine ww_iconst (pc := 966) (v := (1 : Int32)) C dL_law_966 (by decide) ?_
        refine ww_iadd (pc := 967) C dL_law_967 ?_
        obtain ⟨v4, e3, hf⟩ := xbd hf
        refine ww_sld (pc := 968) C hS e3 dL_law_968 ?_
        obtain ⟨_, e5, hf⟩ := xbd hf
        obtain ⟨⟨v8, σ7⟩, e6, hf⟩ := xbd hf
        dsimp only at hf
        refine ww_callVi (pc := 969) (as := [.int v4]) (st := []) C (k_X11_basin (l := gl G) (E := gE G) (hb := gB G) (σ := σ) e6) rfl (by decide) xc_L_125 q1105 q1106 (xck_spec e5) rfl (by decide) (xst4 (Nat.le_of_ble_eq_true rfl)) (m_X11_basin e6).1 (fun q => by have hm9 := m_L_law_j972 hf; rcases y with a' | b90; exact XLim.mid q (m_X11_basin e6) (hm9.1 a' rfl) (hk.1 a' rfl).1; have hm9 := hm9.2 _ rfl; have hk := hk.2 _ rfl; exact XLim.mid q (m_X11_basin e6) hm9 hk.2.1) dL_law_969 ?_
        refine ww_sub [0, 1, 2, 3] rfl ?_
        exact s_L_law_j972 C hS hf hk
      · refine ⟨986, 953, rfl, by decide, ?_⟩
        have hf := xsw_in 26 hk1 rfl hf
        refine ww_aload_n (pc := 986) C 1 dL_law_986 rfl ?_
        refine ww_aload_n (pc := 987) C 0 dL_law_987 rfl ?_
        refine ww_iload_n (pc := 988) C 3 dL_law_988 rfl ?_
        refine ww_iconst (pc := 989) (v := (1 : Int32)) C dL_law_989 (by decide) ?_
        refine ww_iadd (pc := 990) C dL_law_990 ?_
        obtain ⟨v4, e3, hf⟩ := xbd hf
        refine ww_sld (pc := 991) C hS e3 dL_law_991 ?_
        refine ww_aload_n (pc := 992) C 0 dL_law_992 rfl ?_
        refine ww_iload_n (pc := 993) C 3 dL_law_993 rfl ?_
        refine ww_iconst (pc := 994) (v := (2 : Int32)) C dL_law_994 (by decide) ?_
        refine ww_iadd (pc := 995) C dL_law_995 ?_
        obtain ⟨v6, e5, hf⟩ := xbd hf
        refine ww_sld (pc := 996) C hS e5 dL_law_996 ?_
        obtain ⟨_, e7, hf⟩ := xbd hf
        obtain ⟨⟨v10, σ9⟩, e8, hf⟩ := xbd hf
        dsimp only at hf
        refine ww_callVi (pc := 997) (as := [.int v4, .int v6]) (st := []) C (k_X11_stiff (l := gl G) (E := gE G) (hb := gB G) (σ := σ) e8) rfl (by decide) xc_L_129 q1057 q1058 (xck_spec e7) rfl (by decide) (xst4 (Nat.le_of_ble_eq_true rfl)) (m_X11_stiff e8).1 (fun q => by have hm9 := m_L_law_j1000 hf; rcases y with a' | b90; exact XLim.mid q (m_X11_stiff e8) (hm9.1 a' rfl) (hk.1 a' rfl).1; have hm9 := hm9.2 _ rfl; have hk := hk.2 _ rfl; exact XLim.mid q (m_X11_stiff e8) hm9 hk.2.1) dL_law_997 ?_
        refine ww_sub [0, 1, 2, 3] rfl ?_
        exact s_L_law_j1000 C hS hf hk
      · refine ⟨1019, 986, rfl, by decide, ?_⟩
        have hf := xsw_in 27 hk1 rfl hf
        refine ww_aload_n (pc := 1019) C 1 dL_law_1019 rfl ?_
        refine ww_aload_n (pc := 1020) C 0 dL_law_1020 rfl ?_
        refine ww_iload_n (pc := 1021) C 3 dL_law_1021 rfl ?_
        refine ww_iconst (pc := 1022) (v := (1 : Int32)) C dL_law_1022 (by decide) ?_
        refine ww_iadd (pc := 1023) C dL_law_1023 ?_
        obtain ⟨v4, e3, hf⟩ := xbd hf
        refine ww_sld (pc := 1024) C hS e3 dL_law_1024 ?_
        obtain ⟨_, e5, hf⟩ := xbd hf
        obtain ⟨⟨v8, σ7⟩, e6, hf⟩ := xbd hf
        dsimp only at hf
        refine ww_callVi (pc := 1025) (as := [.int v4]) (st := []) C (k_X11_hill (l := gl G) (E := gE G) (hb := gB G) (σ := σ) e6) rfl (by decide) xc_L_133 q1147 q1148 (xck_spec e5) rfl (by decide) (xst4 (Nat.le_of_ble_eq_true rfl)) (m_X11_hill e6).1 (fun q => by have hm9 := m_L_law_j1028 hf; rcases y with a' | b90; exact XLim.mid q (m_X11_hill e6) (hm9.1 a' rfl) (hk.1 a' rfl).1; have hm9 := hm9.2 _ rfl; have hk := hk.2 _ rfl; exact XLim.mid q (m_X11_hill e6) hm9 hk.2.1) dL_law_1025 ?_
        refine ww_sub [0, 1, 2, 3] rfl ?_
        exact s_L_law_j1028 C hS hf hk
      · refine ⟨1042, 1009, rfl, by decide, ?_⟩
        have hf := xsw_in 28 hk1 rfl hf
        refine ww_aload_n (pc := 1042) C 1 dL_law_1042 rfl ?_
        refine ww_aload_n (pc := 1043) C 0 dL_law_1043 rfl ?_
        refine ww_iload_n (pc := 1044) C 3 dL_law_1044 rfl ?_
        refine ww_iconst (pc := 1045) (v := (1 : Int32)) C dL_law_1045 (by decide) ?_
        refine ww_iadd (pc := 1046) C dL_law_1046 ?_
        obtain ⟨v4, e3, hf⟩ := xbd hf
        refine ww_sld (pc := 1047) C hS e3 dL_law_1047 ?_
        refine ww_aload_n (pc := 1048) C 0 dL_law_1048 rfl ?_
        refine ww_iload_n (pc := 1049) C 3 dL_law_1049 rfl ?_
        refine ww_iconst (pc := 1050) (v := (2 : Int32)) C dL_law_1050 (by decide) ?_
        refine ww_iadd (pc := 1051) C dL_law_1051 ?_
        obtain ⟨v6, e5, hf⟩ := xbd hf
        refine ww_sld (pc := 1052) C hS e5 dL_law_1052 ?_
        obtain ⟨_, e7, hf⟩ := xbd hf
        obtain ⟨⟨v10, σ9⟩, e8, hf⟩ := xbd hf
        dsimp only at hf
        refine ww_callVi (pc := 1053) (as := [.int v4, .int v6]) (st := []) C (k_X11_pass (l := gl G) (E := gE G) (hb := gB G) (σ := σ) e8) rfl (by decide) xc_L_137 q1182 q1183 (xck_spec e7) rfl (by decide) (xst4 (Nat.le_of_ble_eq_true rfl)) (m_X11_pass e8).1 (fun q => by have hm9 := m_L_law_j1056 hf; rcases y with a' | b90; exact XLim.mid q (m_X11_pass e8) (hm9.1 a' rfl) (hk.1 a' rfl).1; have hm9 := hm9.2 _ rfl; have hk := hk.2 _ rfl; exact XLim.mid q (m_X11_pass e8) hm9 hk.2.1) dL_law_1053 ?_
        refine ww_sub [0, 1, 2, 3] rfl ?_
        exact s_L_law_j1056 C hS hf hk
      · refine ⟨1075, 1042, rfl, by decide, ?_⟩
        have hf := xsw_in 29 hk1 rfl hf
        refine ww_aload_n (pc := 1075) C 1 dL_law_1075 rfl ?_
        refine ww_aload_n (pc := 1076) C 0 dL_law_1076 rfl ?_
        refine ww_iload_n (pc := 1077) C 3 dL_law_1077 rfl ?_
        refine ww_iconst (pc := 1078) (v := (1 : Int32)) C dL_law_1078 (by decide) ?_
        refine ww_iadd (pc := 1079) C dL_law_1079 ?_
        obtain ⟨v4, e3, hf⟩ := xbd hf
        refine ww_sld (pc := 1080) C hS e3 dL_law_1080 ?_
        obtain ⟨_, e5, hf⟩ := xbd hf
        obtain ⟨⟨v8, σ7⟩, e6, hf⟩ := xbd hf
        dsimp only at hf
        refine ww_callVi (pc := 1081) (as := [.int v4]) (st := []) C (k_X11_lakes (l := gl G) (E := gE G) (hb := gB G) (σ := σ) e6) rfl (by decide) xc_L_141 q1186 q1187 (xck_spec e5) rfl (by decide) (xst4 (Nat.le_of_ble_eq_true rfl)) (m_X11_lakes e6).1 (fun q => by have hm9 := m_L_law_j1084 hf; rcases y with a' | b90; exact XLim.mid q (m_X11_lakes e6) (hm9.1 a' rfl) (hk.1 a' rfl).1; have hm9 := hm9.2 _ rfl; have hk := hk.2 _ rfl; exact XLim.mid q (m_X11_lakes e6) hm9 hk.2.1) dL_law_1081 ?_
        refine ww_sub [0, 1, 2, 3] rfl ?_
        exact s_L_law_j1084 C hS hf hk
      · refine ⟨1098, 1065, rfl, by decide, ?_⟩
        have hf := xsw_in 30 hk1 rfl hf
        refine ww_aload_n (pc := 1098) C 1 dL_law_1098 rfl ?_
        refine ww_aload_n (pc := 1099) C 0 dL_law_1099 rfl ?_
        refine ww_iload_n (pc := 1100) C 3 dL_law_1100 rfl ?_
        refine ww_iconst (pc := 1101) (v := (1 : Int32)) C dL_law_1101 (by decide) ?_
        refine ww_iadd (pc := 1102) C dL_law_1102 ?_
        obtain ⟨v4, e3, hf⟩ := xbd hf
        refine ww_sld (pc := 1103) C hS e3 dL_law_1103 ?_
        obtain ⟨_, e5, hf⟩ := xbd hf
        obtain ⟨⟨v8, σ7⟩, e6, hf⟩ := xbd hf
        dsimp only at hf
        refine ww_callVj (pc := 1104) (as := [.int v4]) (st := []) C (k_X11_down (l := gl G) (E := gE G) (hb := gB G) (σ := σ) e6) rfl (by decide) xc_L_145 q1194 q1195 (xck_spec e5) rfl (by decide) (xst4 (Nat.le_of_ble_eq_true rfl)) (m_X11_down e6).1 (fun q => by have hm9 := m_L_law_j1107 hf; rcases y with a' | b90; exact XLim.mid q (m_X11_down e6) (hm9.1 a' rfl) (hk.1 a' rfl).1; have hm9 := hm9.2 _ rfl; have hk := hk.2 _ rfl; exact XLim.mid q (m_X11_down e6) hm9 hk.2.1) dL_law_1104 ?_
        refine ww_sub [0, 1, 2, 3] rfl ?_
        exact s_L_law_j1107 C hS hf hk
      · refine ⟨1121, 1088, rfl, by decide, ?_⟩
        have hf := xsw_in 31 hk1 rfl hf
        refine ww_aload_n (pc := 1121) C 1 dL_law_1121 rfl ?_
        refine ww_aload_n (pc := 1122) C 0 dL_law_1122 rfl ?_
        refine ww_iload_n (pc := 1123) C 3 dL_law_1123 rfl ?_
        refine ww_iconst (pc := 1124) (v := (1 : Int32)) C dL_law_1124 (by decide) ?_
        refine ww_iadd (pc := 1125) C dL_law_1125 ?_
        obtain ⟨v4, e3, hf⟩ := xbd hf
        refine ww_sld (pc := 1126) C hS e3 dL_law_1126 ?_
        refine ww_aload_n (pc := 1127) C 0 dL_law_1127 rfl ?_
        refine ww_iload_n (pc := 1128) C 3 dL_law_1128 rfl ?_
        refine ww_iconst (pc := 1129) (v := (2 : Int32)) C dL_law_1129 (by decide) ?_
        refine ww_iadd (pc := 1130) C dL_law_1130 ?_
        obtain ⟨v6, e5, hf⟩ := xbd hf
        refine ww_sld (pc := 1131) C hS e5 dL_law_1131 ?_
        obtain ⟨_, e7, hf⟩ := xbd hf
        obtain ⟨⟨v10, σ9⟩, e8, hf⟩ := xbd hf
        dsimp only at hf
        refine ww_callVi (pc := 1132) (as := [.int v4, .int v6]) (st := []) C (k_X11_nearest (l := gl G) (E := gE G) (hb := gB G) (σ := σ) e8) rfl (by decide) xc_L_150 q1083 q1084 (xck_spec e7) rfl (by decide) (xst4 (Nat.le_of_ble_eq_true rfl)) (m_X11_nearest e8).1 (fun q => by have hm9 := m_L_law_j1135 hf; rcases y with a' | b90; exact XLim.mid q (m_X11_nearest e8) (hm9.1 a' rfl) (hk.1 a' rfl).1; have hm9 := hm9.2 _ rfl; have hk := hk.2 _ rfl; exact XLim.mid q (m_X11_nearest e8) hm9 hk.2.1) dL_law_1132 ?_
        refine ww_sub [0, 1, 2, 3] rfl ?_
        exact s_L_law_j1135 C hS hf hk
      · refine ⟨1154, 1121, rfl, by decide, ?_⟩
        have hf := xsw_in 32 hk1 rfl hf
        refine ww_aload_n (pc := 1154) C 1 dL_law_1154 rfl ?_
        refine ww_aload_n (pc := 1155) C 0 dL_law_1155 rfl ?_
        refine ww_iload_n (pc := 1156) C 3 dL_law_1156 rfl ?_
        refine ww_iconst (pc := 1157) (v := (1 : Int32)) C dL_law_1157 (by decide) ?_
        refine ww_iadd (pc := 1158) C dL_law_1158 ?_
        obtain ⟨v4, e3, hf⟩ := xbd hf
        refine ww_sld (pc := 1159) C hS e3 dL_law_1159 ?_
        obtain ⟨_, e5, hf⟩ := xbd hf
        obtain ⟨v7, e6, hf⟩ := xbd hf
        refine ww_callVi (pc := 1160) (as := [.int v4]) (st := []) C (k_X11_cluster (l := gl G) (E := gE G) (hb := gB G) (σ := σ) e6) rfl (by decide) xc_L_154 q825 q826 (xck_spec e5) rfl (by decide) (xst4 (Nat.le_of_ble_eq_true rfl)) xsame.rf.le xsame.rf.lim dL_law_1160 ?_
        refine ww_pop (pc := 1163) C dL_law_1163 rfl ?_
        refine ww_aload_n (pc := 1164) C 2 dL_law_1164 rfl ?_
        refine ww_aload_n (pc := 1165) C 0 dL_law_1165 rfl ?_
        refine ww_iload_n (pc := 1166) C 3 dL_law_1166 rfl ?_
        refine ww_iconst (pc := 1167) (v := (1 : Int32)) C dL_law_1167 (by decide) ?_
        refine ww_iadd (pc := 1168) C dL_law_1168 ?_
        obtain ⟨v9, e8, hf⟩ := xbd hf
        refine ww_sld (pc := 1169) C hS e8 dL_law_1169 ?_
        obtain ⟨_, e10, hf⟩ := xbd hf
        obtain ⟨v12, e11, hf⟩ := xbd hf
        refine ww_callVi (pc := 1170) (as := [.int v9]) (st := []) C (k_X12_cluster (l := gl G) (E := gE G) (hb := gB G) (σ := σ) e11) rfl (by decide) xc_L_157 q1723 q1724 (xck_spec e10) rfl (by decide) (xst4 (Nat.le_of_ble_eq_true rfl)) xsame.rf.le xsame.rf.lim dL_law_1170 ?_
        refine ww_pop (pc := 1173) C dL_law_1173 rfl ?_
        refine ww_goto (pc := 1174) (tgt := 1289) C dL_law_1174 (by decide) ?_
        refine ww_iinc (pc := 1289) (v := x3 + (6 : Int32)) (lv' := [(3, .int (x3 + (6 : Int32))), (0, .ref b), (1, .ref (gB G + r1)), (2, .ref (gB G + r2))]) C 3 dL_law_1289 rfl (congrArg (fun z => x3 + z) (show Int32.ofInt (6) = (6 : Int32) by decide)) (by decide) rfl ?_
        refine ww_goto (pc := 1292) (tgt := 18) C dL_law_1292 (by decide) ?_
        have hf := xsj hf
        subst hf
        refine ww_sub [1, 2, 3, 0] rfl ?_
        exact (hk.1 (x3 + (6 : Int32), σ) rfl).2
      · refine ⟨1177, 1144, rfl, by decide, ?_⟩
        have hf := xsw_in 33 hk1 rfl hf
        refine ww_aload_n (pc := 1177) C 1 dL_law_1177 rfl ?_
        refine ww_aload_n (pc := 1178) C 0 dL_law_1178 rfl ?_
        refine ww_iload_n (pc := 1179) C 3 dL_law_1179 rfl ?_
        refine ww_iconst (pc := 1180) (v := (1 : Int32)) C dL_law_1180 (by decide) ?_
        refine ww_iadd (pc := 1181) C dL_law_1181 ?_
        obtain ⟨v4, e3, hf⟩ := xbd hf
        refine ww_sld (pc := 1182) C hS e3 dL_law_1182 ?_
        refine ww_aload_n (pc := 1183) C 0 dL_law_1183 rfl ?_
        refine ww_iload_n (pc := 1184) C 3 dL_law_1184 rfl ?_
        refine ww_iconst (pc := 1185) (v := (2 : Int32)) C dL_law_1185 (by decide) ?_
        refine ww_iadd (pc := 1186) C dL_law_1186 ?_
        obtain ⟨v6, e5, hf⟩ := xbd hf
        refine ww_sld (pc := 1187) C hS e5 dL_law_1187 ?_
        refine ww_aload_n (pc := 1188) C 0 dL_law_1188 rfl ?_
        refine ww_iload_n (pc := 1189) C 3 dL_law_1189 rfl ?_
        refine ww_iconst (pc := 1190) (v := (3 : Int32)) C dL_law_1190 (by decide) ?_
        refine ww_iadd (pc := 1191) C dL_law_1191 ?_
        obtain ⟨v8, e7, hf⟩ := xbd hf
        refine ww_sld (pc := 1192) C hS e7 dL_law_1192 ?_
        obtain ⟨_, e9, hf⟩ := xbd hf
        obtain ⟨⟨v12, σ11⟩, e10, hf⟩ := xbd hf
        dsimp only at hf
        refine ww_callVi (pc := 1193) (as := [.int v4, .int v6, .int v8]) (st := []) C (k_X11_wander (l := gl G) (E := gE G) (hb := gB G) (σ := σ) e10) rfl (by decide) xc_L_158 q1091 q1092 (xck_spec e9) rfl (by decide) (xst4 (Nat.le_of_ble_eq_true rfl)) (m_X11_wander e10).le (m_X11_wander e10).lim dL_law_1193 ?_
        refine ww_pop (pc := 1196) C dL_law_1196 rfl ?_
        refine ww_aload_n (pc := 1197) C 2 dL_law_1197 rfl ?_
        refine ww_aload_n (pc := 1198) C 0 dL_law_1198 rfl ?_
        refine ww_iload_n (pc := 1199) C 3 dL_law_1199 rfl ?_
        refine ww_iconst (pc := 1200) (v := (1 : Int32)) C dL_law_1200 (by decide) ?_
        refine ww_iadd (pc := 1201) C dL_law_1201 ?_
        obtain ⟨v14, e13, hf⟩ := xbd hf
        refine ww_sld (pc := 1202) C hS e13 dL_law_1202 ?_
        refine ww_aload_n (pc := 1203) C 0 dL_law_1203 rfl ?_
        refine ww_iload_n (pc := 1204) C 3 dL_law_1204 rfl ?_
        refine ww_iconst (pc := 1205) (v := (2 : Int32)) C dL_law_1205 (by decide) ?_
        refine ww_iadd (pc := 1206) C dL_law_1206 ?_
        obtain ⟨v16, e15, hf⟩ := xbd hf
        refine ww_sld (pc := 1207) C hS e15 dL_law_1207 ?_
        refine ww_aload_n (pc := 1208) C 0 dL_law_1208 rfl ?_
        refine ww_iload_n (pc := 1209) C 3 dL_law_1209 rfl ?_
        refine ww_iconst (pc := 1210) (v := (3 : Int32)) C dL_law_1210 (by decide) ?_
        refine ww_iadd (pc := 1211) C dL_law_1211 ?_
        obtain ⟨v18, e17, hf⟩ := xbd hf
        refine ww_sld (pc := 1212) C hS e17 dL_law_1212 ?_
        obtain ⟨_, e19, hf⟩ := xbd hf
        obtain ⟨⟨v22, σ21⟩, e20, hf⟩ := xbd hf
        dsimp only at hf
        refine ww_callVi (pc := 1213) (as := [.int v14, .int v16, .int v18]) (st := []) C (k_X12_wander (l := gl G) (E := gE G) (hb := gB G) (σ := σ11) e20) rfl (by decide) xc_L_161 q1731 q1732 (xck_spec e19) rfl (by decide) (xst4 (Nat.le_of_ble_eq_true rfl)) (m_X12_wander e20).le (m_X12_wander e20).lim dL_law_1213 ?_
        refine ww_pop (pc := 1216) C dL_law_1216 rfl ?_
        refine ww_goto (pc := 1217) (tgt := 1289) C dL_law_1217 (by decide) ?_
        refine ww_iinc (pc := 1289) (v := x3 + (6 : Int32)) (lv' := [(3, .int (x3 + (6 : Int32))), (0, .ref b), (1, .ref (gB G + r1)), (2, .ref (gB G + r2))]) C 3 dL_law_1289 rfl (congrArg (fun z => x3 + z) (show Int32.ofInt (6) = (6 : Int32) by decide)) (by decide) rfl ?_
        refine ww_goto (pc := 1292) (tgt := 18) C dL_law_1292 (by decide) ?_
        have hf := xsj hf
        subst hf
        refine ww_sub [1, 2, 3, 0] rfl ?_
        exact (hk.1 (x3 + (6 : Int32), σ21) rfl).2
      · refine ⟨1220, 1187, rfl, by decide, ?_⟩
        have hf := xsw_in 34 hk1 rfl hf
        refine ww_aload_n (pc := 1220) C 1 dL_law_1220 rfl ?_
        refine ww_aload_n (pc := 1221) C 0 dL_law_1221 rfl ?_
        refine ww_iload_n (pc := 1222) C 3 dL_law_1222 rfl ?_
        refine ww_iconst (pc := 1223) (v := (1 : Int32)) C dL_law_1223 (by decide) ?_
        refine ww_iadd (pc := 1224) C dL_law_1224 ?_
        obtain ⟨v4, e3, hf⟩ := xbd hf
        refine ww_sld (pc := 1225) C hS e3 dL_law_1225 ?_
        obtain ⟨_, e5, hf⟩ := xbd hf
        obtain ⟨⟨v8, σ7⟩, e6, hf⟩ := xbd hf
        dsimp only at hf
        refine ww_callVi (pc := 1226) (as := [.int v4]) (st := []) C (k_X11_hold (l := gl G) (E := gE G) (hb := gB G) (σ := σ) e6) rfl (by decide) xc_L_162 q1207 q1208 (xck_spec e5) rfl (by decide) (xst4 (Nat.le_of_ble_eq_true rfl)) (m_X11_hold e6).le (m_X11_hold e6).lim dL_law_1226 ?_
        refine ww_pop (pc := 1229) C dL_law_1229 rfl ?_
        refine ww_aload_n (pc := 1230) C 2 dL_law_1230 rfl ?_
        refine ww_aload_n (pc := 1231) C 0 dL_law_1231 rfl ?_
        refine ww_iload_n (pc := 1232) C 3 dL_law_1232 rfl ?_
        refine ww_iconst (pc := 1233) (v := (1 : Int32)) C dL_law_1233 (by decide) ?_
        refine ww_iadd (pc := 1234) C dL_law_1234 ?_
        obtain ⟨v10, e9, hf⟩ := xbd hf
        refine ww_sld (pc := 1235) C hS e9 dL_law_1235 ?_
        obtain ⟨_, e11, hf⟩ := xbd hf
        obtain ⟨⟨v14, σ13⟩, e12, hf⟩ := xbd hf
        dsimp only at hf
        refine ww_callVi (pc := 1236) (as := [.int v10]) (st := []) C (k_X12_hold (l := gl G) (E := gE G) (hb := gB G) (σ := σ7) e12) rfl (by decide) xc_L_165 q1586 q1587 (xck_spec e11) rfl (by decide) (xst4 (Nat.le_of_ble_eq_true rfl)) (m_X12_hold e12).le (m_X12_hold e12).lim dL_law_1236 ?_
        refine ww_pop (pc := 1239) C dL_law_1239 rfl ?_
        refine ww_goto (pc := 1240) (tgt := 1289) C dL_law_1240 (by decide) ?_
        refine ww_iinc (pc := 1289) (v := x3 + (6 : Int32)) (lv' := [(3, .int (x3 + (6 : Int32))), (0, .ref b), (1, .ref (gB G + r1)), (2, .ref (gB G + r2))]) C 3 dL_law_1289 rfl (congrArg (fun z => x3 + z) (show Int32.ofInt (6) = (6 : Int32) by decide)) (by decide) rfl ?_
        refine ww_goto (pc := 1292) (tgt := 18) C dL_law_1292 (by decide) ?_
        have hf := xsj hf
        subst hf
        refine ww_sub [1, 2, 3, 0] rfl ?_
        exact (hk.1 (x3 + (6 : Int32), σ13) rfl).2
      · refine ⟨1243, 1210, rfl, by decide, ?_⟩
        have hf := xsw_in 35 hk1 rfl hf
        refine ww_aload_n (pc := 1243) C 1 dL_law_1243 rfl ?_
        refine ww_aload_n (pc := 1244) C 0 dL_law_1244 rfl ?_
        refine ww_iload_n (pc := 1245) C 3 dL_law_1245 rfl ?_
        refine ww_iconst (pc := 1246) (v := (1 : Int32)) C dL_law_1246 (by decide) ?_
        refine ww_iadd (pc := 1247) C dL_law_1247 ?_
        obtain ⟨v4, e3, hf⟩ := xbd hf
        refine ww_sld (pc := 1248) C hS e3 dL_law_1248 ?_
        obtain ⟨_, e5, hf⟩ := xbd hf
        obtain ⟨⟨v8, σ7⟩, e6, hf⟩ := xbd hf
        dsimp only at hf
        refine ww_callVi (pc := 1249) (as := [.int v4]) (st := []) C (k_X11_restore (l := gl G) (E := gE G) (hb := gB G) (σ := σ) e6) rfl (by decide) xc_L_166 q1211 q1212 (xck_spec e5) rfl (by decide) (xst4 (Nat.le_of_ble_eq_true rfl)) (m_X11_restore e6).le (m_X11_restore e6).lim dL_law_1249 ?_
        refine ww_pop (pc := 1252) C dL_law_1252 rfl ?_
        refine ww_aload_n (pc := 1253) C 2 dL_law_1253 rfl ?_
        refine ww_aload_n (pc := 1254) C 0 dL_law_1254 rfl ?_
        refine ww_iload_n (pc := 1255) C 3 dL_law_1255 rfl ?_
        refine ww_iconst (pc := 1256) (v := (1 : Int32)) C dL_law_1256 (by decide) ?_
        refine ww_iadd (pc := 1257) C dL_law_1257 ?_
        obtain ⟨v10, e9, hf⟩ := xbd hf
        refine ww_sld (pc := 1258) C hS e9 dL_law_1258 ?_
        obtain ⟨_, e11, hf⟩ := xbd hf
        obtain ⟨⟨v14, σ13⟩, e12, hf⟩ := xbd hf
        dsimp only at hf
        refine ww_callVi (pc := 1259) (as := [.int v10]) (st := []) C (k_X12_restore (l := gl G) (E := gE G) (hb := gB G) (σ := σ7) e12) rfl (by decide) xc_L_169 q1590 q1591 (xck_spec e11) rfl (by decide) (xst4 (Nat.le_of_ble_eq_true rfl)) (m_X12_restore e12).le (m_X12_restore e12).lim dL_law_1259 ?_
        refine ww_pop (pc := 1262) C dL_law_1262 rfl ?_
        refine ww_goto (pc := 1263) (tgt := 1289) C dL_law_1263 (by decide) ?_
        refine ww_iinc (pc := 1289) (v := x3 + (6 : Int32)) (lv' := [(3, .int (x3 + (6 : Int32))), (0, .ref b), (1, .ref (gB G + r1)), (2, .ref (gB G + r2))]) C 3 dL_law_1289 rfl (congrArg (fun z => x3 + z) (show Int32.ofInt (6) = (6 : Int32) by decide)) (by decide) rfl ?_
        refine ww_goto (pc := 1292) (tgt := 18) C dL_law_1292 (by decide) ?_
        have hf := xsj hf
        subst hf
        refine ww_sub [1, 2, 3, 0] rfl ?_
        exact (hk.1 (x3 + (6 : Int32), σ13) rfl).2
      · refine ⟨1266, 1233, rfl, by decide, ?_⟩
        have hf := xsw_in 36 hk1 rfl hf
        refine ww_aload_n (pc := 1266) C 1 dL_law_1266 rfl ?_
        refine ww_aload_n (pc := 1267) C 0 dL_law_1267 rfl ?_
        refine ww_iload_n (pc := 1268) C 3 dL_law_1268 rfl ?_
        refine ww_iconst (pc := 1269) (v := (1 : Int32)) C dL_law_1269 (by decide) ?_
        refine ww_iadd (pc := 1270) C dL_law_1270 ?_
        obtain ⟨v4, e3, hf⟩ := xbd hf
        refine ww_sld (pc := 1271) C hS e3 dL_law_1271 ?_
        obtain ⟨_, e5, hf⟩ := xbd hf
        obtain ⟨⟨v8, σ7⟩, e6, hf⟩ := xbd hf
        dsimp only at hf
        refine ww_callVi (pc := 1272) (as := [.int v4]) (st := []) C (k_X11_count (l := gl G) (E := gE G) (hb := gB G) (σ := σ) e6) rfl (by decide) xc_L_170 q1215 q1216 (xck_spec e5) rfl (by decide) (xst4 (Nat.le_of_ble_eq_true rfl)) (m_X11_count e6).1 (fun q => by have hm9 := m_L_law_j1275 hf; rcases y with a' | b90; exact XLim.mid q (m_X11_count e6) (hm9.1 a' rfl) (hk.1 a' rfl).1; have hm9 := hm9.2 _ rfl; have hk := hk.2 _ rfl; exact XLim.mid q (m_X11_count e6) hm9 hk.2.1) dL_law_1272 ?_
        refine ww_sub [0, 1, 2, 3] rfl ?_
        exact s_L_law_j1275 C hS hf hk
    · refine ⟨1289, by decide, ?_⟩
      have hf := xsw_out ho rfl hf
      refine ww_iinc (pc := 1289) (v := x3 + (6 : Int32)) (lv' := [(3, .int (x3 + (6 : Int32))), (0, .ref b), (1, .ref (gB G + r1)), (2, .ref (gB G + r2))]) C 3 dL_law_1289 rfl (congrArg (fun z => x3 + z) (show Int32.ofInt (6) = (6 : Int32) by decide)) (by decide) rfl ?_
      refine ww_goto (pc := 1292) (tgt := 18) C dL_law_1292 (by decide) ?_
      have hf := xsj hf
      subst hf
      refine ww_sub [1, 2, 3, 0] rfl ?_
      exact (hk.1 (x3 + (6 : Int32), σ) rfl).2
theorem s_L_law_j15 {G : XG} (C : XC G cL_law RL (some .boolean) 4 13 468) {b L : Nat} {xs : Nat → Int32} (hS : XScr G b L xs) {σ : XS} {r1 : Nat} {t0 : Nat} {x : Int32 × XS} (hf : f_L_law_j15 L xs σ r1 t0 = some x) (hk : XEndL G b x) : WW G 15 [(0, .ref b), (1, .ref (gB G + r1))] [.ref (gB G + t0)] σ := by
  refine ww_astore_n (pc := 15) (lv' := [(2, .ref (gB G + t0)), (0, .ref b), (1, .ref (gB G + r1))]) C dL_law_15 (by decide) rfl ?_
  refine ww_iconst (pc := 16) (v := (0 : Int32)) C dL_law_16 (by decide) ?_
  refine ww_istore_n (pc := 17) (lv' := [(3, .int (0 : Int32)), (2, .ref (gB G + t0)), (0, .ref b), (1, .ref (gB G + r1))]) C dL_law_17 (by decide) rfl ?_
  refine ww_sub [2, 3, 1, 0] rfl ?_
  exact s_L_law_l18 C hS (a := ((0 : Int32), σ)) hf hk
theorem m_L_law_j15 {L : Nat} {xs : Nat → Int32} {σ : XS} {r1 : Nat} {t0 : Nat} {x : Int32 × XS} (hf : f_L_law_j15 L xs σ r1 t0 = some x) : xext σ x.2 := by
  have hm := xext.rf (σ := σ)
  exact hm.tr (m_L_law_l18 (a := ((0 : Int32), σ)) hf)
theorem s_L_law_j11 {G : XG} (C : XC G cL_law RL (some .boolean) 4 13 468) {b L : Nat} {xs : Nat → Int32} (hS : XScr G b L xs) {σ : XS} {r1 : Nat} {t0 : Nat} {x : Int32 × XS} (hf : f_L_law_j11 L xs σ r1 t0 = some x) (hk : XEndL G b x) : WW G 11 [(0, .ref b), (1, .ref (gB G + r1))] [.ref (gB G + t0)] σ := by
  refine ww_dup (pc := 11) C dL_law_11 rfl ?_
  obtain ⟨_, e1, hf⟩ := xbd hf
  obtain ⟨σ3, e2, hf⟩ := xbd hf
  refine ww_callIv (pc := 12) (as := []) (st := [.ref (gB G + t0)]) C (k_X12_init (l := gl G) (E := gE G) (hb := gB G) (σ := σ) e2) xc_L_12 rfl q1255 rfl (by decide) (xst4 (Nat.le_of_ble_eq_true rfl)) (m_X12_init e2).1 (fun q => by have hm9 := m_L_law_j15 hf; exact XLim.mid q (m_X12_init e2) hm9 hk.2.1) dL_law_12 ?_
  refine ww_sub [0, 1] rfl ?_
  exact s_L_law_j15 C hS hf hk
theorem m_L_law_j11 {L : Nat} {xs : Nat → Int32} {σ : XS} {r1 : Nat} {t0 : Nat} {x : Int32 × XS} (hf : f_L_law_j11 L xs σ r1 t0 = some x) : xext σ x.2 := by
  have hm := xext.rf (σ := σ)
  obtain ⟨_, e1, hf⟩ := xbd hf
  obtain ⟨σ3, e2, hf⟩ := xbd hf
  have hm := hm.tr (m_X12_init e2)
  exact hm.tr (m_L_law_j15 hf)
theorem s_L_law_j7 {G : XG} (C : XC G cL_law RL (some .boolean) 4 13 468) {b L : Nat} {xs : Nat → Int32} (hS : XScr G b L xs) {σ : XS} {t0 : Nat} {x : Int32 × XS} (hf : f_L_law_j7 L xs σ t0 = some x) (hk : XEndL G b x) : WW G 7 [(0, .ref b)] [.ref (gB G + t0)] σ := by
  refine ww_astore_n (pc := 7) (lv' := [(1, .ref (gB G + t0)), (0, .ref b)]) C dL_law_7 (by decide) rfl ?_
  obtain ⟨⟨z2, σ3⟩, e1, hf⟩ := xbd hf
  dsimp only at hf
  refine ww_new (pc := 8) (c := 12) C rfl (by decide) inX12 tyX12 tyX12_ok dfX12 q1252 q1253 q14 e1 (fun q => by have hm9 := m_L_law_j11 hf; exact XLim.mid q (xnO_ext e1) hm9 hk.2.1) dL_law_8 ?_
  refine ww_sub [1, 0] rfl ?_
  exact s_L_law_j11 C hS hf hk
theorem m_L_law_j7 {L : Nat} {xs : Nat → Int32} {σ : XS} {t0 : Nat} {x : Int32 × XS} (hf : f_L_law_j7 L xs σ t0 = some x) : xext σ x.2 := by
  have hm := xext.rf (σ := σ)
  obtain ⟨⟨z2, σ3⟩, e1, hf⟩ := xbd hf
  dsimp only at hf
  have hm := hm.tr (xnO_ext e1)
  exact hm.tr (m_L_law_j11 hf)
theorem s_L_law_j3 {G : XG} (C : XC G cL_law RL (some .boolean) 4 13 468) {b L : Nat} {xs : Nat → Int32} (hS : XScr G b L xs) {σ : XS} {t0 : Nat} {x : Int32 × XS} (hf : f_L_law_j3 L xs σ t0 = some x) (hk : XEndL G b x) : WW G 3 [(0, .ref b)] [.ref (gB G + t0)] σ := by
  refine ww_dup (pc := 3) C dL_law_3 rfl ?_
  obtain ⟨_, e1, hf⟩ := xbd hf
  obtain ⟨σ3, e2, hf⟩ := xbd hf
  refine ww_callIv (pc := 4) (as := []) (st := [.ref (gB G + t0)]) C (k_X11_init (l := gl G) (E := gE G) (hb := gB G) (σ := σ) e2) xc_L_9 rfl q25 rfl (by decide) (xst4 (Nat.le_of_ble_eq_true rfl)) (m_X11_init e2).1 (fun q => by have hm9 := m_L_law_j7 hf; exact XLim.mid q (m_X11_init e2) hm9 hk.2.1) dL_law_4 ?_
  refine ww_sub [0] rfl ?_
  exact s_L_law_j7 C hS hf hk
theorem m_L_law_j3 {L : Nat} {xs : Nat → Int32} {σ : XS} {t0 : Nat} {x : Int32 × XS} (hf : f_L_law_j3 L xs σ t0 = some x) : xext σ x.2 := by
  have hm := xext.rf (σ := σ)
  obtain ⟨_, e1, hf⟩ := xbd hf
  obtain ⟨σ3, e2, hf⟩ := xbd hf
  have hm := hm.tr (m_X11_init e2)
  exact hm.tr (m_L_law_j7 hf)
theorem s_L_law_e {G : XG} (C : XC G cL_law RL (some .boolean) 4 13 468) {b L : Nat} {xs : Nat → Int32} (hS : XScr G b L xs) {σ : XS} {x : Int32 × XS} (hf : f_L_law L xs σ = some x) (hk : XEndL G b x) : WW G 0 [(0, .ref b)] [] σ := by
  obtain ⟨⟨z2, σ3⟩, e1, hf⟩ := xbd hf
  dsimp only at hf
  refine ww_new (pc := 0) (c := 11) C rfl (by decide) inX11 tyX11 tyX11_ok dfX11 q22 q23 q1 e1 (fun q => by have hm9 := m_L_law_j3 hf; exact XLim.mid q (xnO_ext e1) hm9 hk.2.1) dL_law_0 ?_
  refine ww_sub [0] rfl ?_
  exact s_L_law_j3 C hS hf hk
theorem m_L_law {L : Nat} {xs : Nat → Int32} {σ : XS} {x : Int32 × XS} (hf : f_L_law L xs σ = some x) : xext σ x.2 := by
  have hm := xext.rf (σ := σ)
  obtain ⟨⟨z2, σ3⟩, e1, hf⟩ := xbd hf
  dsimp only at hf
  have hm := hm.tr (xnO_ext e1)
  exact hm.tr (m_L_law_j3 hf)
