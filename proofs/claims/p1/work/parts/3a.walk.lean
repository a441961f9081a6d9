noncomputable def f_L_law_j354 (L : Nat) (xs : Nat → Int32) (σ : XS) (r1 : Nat) (r2 : Nat) (x3 : Int32) (t0 : Int32) (t1 : Nat) (t2 : Int32) (t3 : Int32) : Option ((Int32 × XS) ⊕ (Int32 × XS)) := (xsq L xs (x3 + (3 : Int32))).bind fun v2 => (xck σ t1 12).bind fun _ => (f_X12_tie σ t1 t2 t3 v2).bind fun (v6, σ5) => if t0 = v6 then (some (.inl (x3 + (6 : Int32), σ5))) else (some ((0 : Int32), σ5)).map .inr
noncomputable def f_L_law_j327 (L : Nat) (xs : Nat → Int32) (σ : XS) (r1 : Nat) (r2 : Nat) (x3 : Int32) (t0 : Nat) (t1 : Int32) (t2 : Int32) : Option ((Int32 × XS) ⊕ (Int32 × XS)) := (xsq L xs (x3 + (3 : Int32))).bind fun v2 => (xck σ t0 11).bind fun _ => (f_X11_tie σ t0 t1 t2 v2).bind fun (v6, σ5) => (xsq L xs (x3 + (1 : Int32))).bind fun v8 => (xsq L xs (x3 + (2 : Int32))).bind fun v10 => if v10 = 0 then (f_L_law_j354 L xs σ5 r1 r2 x3 v6 r2 v8 (0 : Int32)) else f_L_law_j354 L xs σ5 r1 r2 x3 v6 r2 v8 (1 : Int32)
noncomputable def f_L_law_j552 (L : Nat) (xs : Nat → Int32) (σ : XS) (r1 : Nat) (r2 : Nat) (x3 : Int32) (t0 : Int32) : Option ((Int32 × XS) ⊕ (Int32 × XS)) := (xsq L xs (x3 + (1 : Int32))).bind fun v2 => (xsq L xs (x3 + (2 : Int32))).bind fun v4 => (xck σ r2 12).bind fun _ => (f_X12_level σ r2 v2 v4).bind fun (v8, σ7) => if t0 = v8 then (some (.inl (x3 + (6 : Int32), σ7))) else (some ((0 : Int32), σ7)).map .inr
noncomputable def f_L_law_j585 (L : Nat) (xs : Nat → Int32) (σ : XS) (r1 : Nat) (r2 : Nat) (x3 : Int32) (t0 : Int32) : Option ((Int32 × XS) ⊕ (Int32 × XS)) := (xsq L xs (x3 + (1 : Int32))).bind fun v2 => (xsq L xs (x3 + (2 : Int32))).bind fun v4 => (xck σ r2 12).bind fun _ => (f_X12_both σ r2 v2 v4).bind fun (v8, σ7) => if t0 = v8 then (some (.inl (x3 + (6 : Int32), σ7))) else (some ((0 : Int32), σ7)).map .inr
noncomputable def f_L_law_j613 (L : Nat) (xs : Nat → Int32) (σ : XS) (r1 : Nat) (r2 : Nat) (x3 : Int32) (t0 : Int32) : Option ((Int32 × XS) ⊕ (Int32 × XS)) := (xsq L xs (x3 + (1 : Int32))).bind fun v2 => (xck σ r2 12).bind fun _ => (f_X12_broken σ r2 v2).bind fun (v6, σ5) => if t0 = v6 then (some (.inl (x3 + (6 : Int32), σ5))) else (some ((0 : Int32), σ5)).map .inr
noncomputable def f_L_law_j636 (L : Nat) (xs : Nat → Int32) (σ : XS) (r1 : Nat) (r2 : Nat) (x3 : Int32) (t0 : Int32) : Option ((Int32 × XS) ⊕ (Int32 × XS)) := (xsq L xs (x3 + (1 : Int32))).bind fun v2 => (xck σ r2 12).bind fun _ => (f_X12_ground σ r2 v2).bind fun (v6, σ5) => if t0 = v6 then (some (.inl (x3 + (6 : Int32), σ5))) else (some ((0 : Int32), σ5)).map .inr
noncomputable def f_L_law_j674 (L : Nat) (xs : Nat → Int32) (σ : XS) (r1 : Nat) (r2 : Nat) (x3 : Int32) (t0 : Int32) : Option ((Int32 × XS) ⊕ (Int32 × XS)) := (xsq L xs (x3 + (1 : Int32))).bind fun v2 => (xsq L xs (x3 + (2 : Int32))).bind fun v4 => (xsq L xs (x3 + (3 : Int32))).bind fun v6 => (xsq L xs (x3 + (4 : Int32))).bind fun v8 => (xck σ r2 12).bind fun _ => (f_X12_pair σ r2 v2 v4 v6 v8).bind fun (v12, σ11) => if t0 = v12 then (some (.inl (x3 + (6 : Int32), σ11))) else (some ((0 : Int32), σ11)).map .inr
noncomputable def f_L_law_j717 (L : Nat) (xs : Nat → Int32) (σ : XS) (r1 : Nat) (r2 : Nat) (x3 : Int32) (t0 : Int32) : Option ((Int32 × XS) ⊕ (Int32 × XS)) := (xsq L xs (x3 + (1 : Int32))).bind fun v2 => (xsq L xs (x3 + (2 : Int32))).bind fun v4 => (xck σ r2 12).bind fun _ => (f_X12_mean σ r2 v2 v4).bind fun (v8, σ7) => if t0 = v8 then (some (.inl (x3 + (6 : Int32), σ7))) else (some ((0 : Int32), σ7)).map .inr
noncomputable def f_L_law_j745 (L : Nat) (xs : Nat → Int32) (σ : XS) (r1 : Nat) (r2 : Nat) (x3 : Int32) (t0 : Int32) : Option ((Int32 × XS) ⊕ (Int32 × XS)) := (xsq L xs (x3 + (1 : Int32))).bind fun v2 => (xck σ r2 12).bind fun _ => (f_X12_value σ r2 v2).bind fun (v6, σ5) => if t0 = v6 then (some (.inl (x3 + (6 : Int32), σ5))) else (some ((0 : Int32), σ5)).map .inr
noncomputable def f_L_law_j778 (L : Nat) (xs : Nat → Int32) (σ : XS) (r1 : Nat) (r2 : Nat) (x3 : Int32) (t0 : Int64) : Option ((Int32 × XS) ⊕ (Int32 × XS)) := (xsq L xs (x3 + (1 : Int32))).bind fun v2 => (xsq L xs (x3 + (2 : Int32))).bind fun v4 => (xsq L xs (x3 + (3 : Int32))).bind fun v6 => (xck σ r2 12).bind fun _ => (f_X12_joined σ r2 v2 v4 v6).bind fun (v10, σ9) => if (lg_cmp t0 v10) = 0 then (some (.inl (x3 + (6 : Int32), σ9))) else (some ((0 : Int32), σ9)).map .inr
noncomputable def f_L_law_j817 (L : Nat) (xs : Nat → Int32) (σ : XS) (r1 : Nat) (r2 : Nat) (x3 : Int32) (t0 : Int32) : Option ((Int32 × XS) ⊕ (Int32 × XS)) := (xsq L xs (x3 + (1 : Int32))).bind fun v2 => (xsq L xs (x3 + (2 : Int32))).bind fun v4 => (xck σ r2 12).bind fun _ => (f_X12_state σ r2 v2 v4).bind fun (v8, σ7) => if t0 = v8 then (some (.inl (x3 + (6 : Int32), σ7))) else (some ((0 : Int32), σ7)).map .inr
noncomputable def f_L_law_j867 (L : Nat) (xs : Nat → Int32) (σ : XS) (r1 : Nat) (r2 : Nat) (x3 : Int32) (t0 : Int32) (t1 : Nat) (t2 : Int32) : Option ((Int32 × XS) ⊕ (Int32 × XS)) := (xck σ t1 12).bind fun _ => (f_X12_stuck σ t1 t2).bind fun (v4, σ3) => if t0 = v4 then (some (.inl (x3 + (6 : Int32), σ3))) else (some ((0 : Int32), σ3)).map .inr
noncomputable def f_L_law_j853 (L : Nat) (xs : Nat → Int32) (σ : XS) (r1 : Nat) (r2 : Nat) (x3 : Int32) (t0 : Int32) : Option ((Int32 × XS) ⊕ (Int32 × XS)) := (xsq L xs (x3 + (1 : Int32))).bind fun v2 => if v2 = 0 then (f_L_law_j867 L xs σ r1 r2 x3 t0 r2 (0 : Int32)) else f_L_law_j867 L xs σ r1 r2 x3 t0 r2 (1 : Int32)
noncomputable def f_L_law_j850 (L : Nat) (xs : Nat → Int32) (σ : XS) (r1 : Nat) (r2 : Nat) (x3 : Int32) (t0 : Nat) (t1 : Int32) : Option ((Int32 × XS) ⊕ (Int32 × XS)) := (xck σ t0 11).bind fun _ => (f_X11_stuck σ t0 t1).bind fun (v4, σ3) => f_L_law_j853 L xs σ3 r1 r2 x3 v4
noncomputable def f_L_law_j894 (L : Nat) (xs : Nat → Int32) (σ : XS) (r1 : Nat) (r2 : Nat) (x3 : Int32) (t0 : Int32) : Option ((Int32 × XS) ⊕ (Int32 × XS)) := (xsq L xs (x3 + (1 : Int32))).bind fun v2 => (xsq L xs (x3 + (2 : Int32))).bind fun v4 => (xsq L xs (x3 + (3 : Int32))).bind fun v6 => (xck σ r2 12).bind fun _ => (f_X12_rows σ r2 v2 v4 v6).bind fun v9 => if t0 = v9 then (some (.inl (x3 + (6 : Int32), σ))) else (some ((0 : Int32), σ)).map .inr
noncomputable def f_L_law_j950 (L : Nat) (xs : Nat → Int32) (σ : XS) (r1 : Nat) (r2 : Nat) (x3 : Int32) (t0 : Int32) : Option ((Int32 × XS) ⊕ (Int32 × XS)) := (xsq L xs (x3 + (1 : Int32))).bind fun v2 => (xck σ r2 12).bind fun _ => (f_X12_overlap σ r2 v2).bind fun (v6, σ5) => if t0 = v6 then (some (.inl (x3 + (6 : Int32), σ5))) else (some ((0 : Int32), σ5)).map .inr
noncomputable def f_L_law_j973 (L : Nat) (xs : Nat → Int32) (σ : XS) (r1 : Nat) (r2 : Nat) (x3 : Int32) (t0 : Int32) : Option ((Int32 × XS) ⊕ (Int32 × XS)) := (xsq L xs (x3 + (1 : Int32))).bind fun v2 => (xck σ r2 12).bind fun _ => (f_X12_basin σ r2 v2).bind fun (v6, σ5) => if t0 = v6 then (some (.inl (x3 + (6 : Int32), σ5))) else (some ((0 : Int32), σ5)).map .inr
noncomputable def f_L_law_j1001 (L : Nat) (xs : Nat → Int32) (σ : XS) (r1 : Nat) (r2 : Nat) (x3 : Int32) (t0 : Int32) : Option ((Int32 × XS) ⊕ (Int32 × XS)) := (xsq L xs (x3 + (1 : Int32))).bind fun v2 => (xsq L xs (x3 + (2 : Int32))).bind fun v4 => (xck σ r2 12).bind fun _ => (f_X12_stiff σ r2 v2 v4).bind fun (v8, σ7) => if t0 = v8 then (some (.inl (x3 + (6 : Int32), σ7))) else (some ((0 : Int32), σ7)).map .inr
noncomputable def f_L_law_j1029 (L : Nat) (xs : Nat → Int32) (σ : XS) (r1 : Nat) (r2 : Nat) (x3 : Int32) (t0 : Int32) : Option ((Int32 × XS) ⊕ (Int32 × XS)) := (xsq L xs (x3 + (1 : Int32))).bind fun v2 => (xck σ r2 12).bind fun _ => (f_X12_hill σ r2 v2).bind fun (v6, σ5) => if t0 = v6 then (some (.inl (x3 + (6 : Int32), σ5))) else (some ((0 : Int32), σ5)).map .inr
noncomputable def f_L_law_j1057 (L : Nat) (xs : Nat → Int32) (σ : XS) (r1 : Nat) (r2 : Nat) (x3 : Int32) (t0 : Int32) : Option ((Int32 × XS) ⊕ (Int32 × XS)) := (xsq L xs (x3 + (1 : Int32))).bind fun v2 => (xsq L xs (x3 + (2 : Int32))).bind fun v4 => (xck σ r2 12).bind fun _ => (f_X12_pass σ r2 v2 v4).bind fun (v8, σ7) => if t0 = v8 then (some (.inl (x3 + (6 : Int32), σ7))) else (some ((0 : Int32), σ7)).map .inr
noncomputable def f_L_law_j1085 (L : Nat) (xs : Nat → Int32) (σ : XS) (r1 : Nat) (r2 : Nat) (x3 : Int32) (t0 : Int32) : Option ((Int32 × XS) ⊕ (Int32 × XS)) := (xsq L xs (x3 + (1 : Int32))).bind fun v2 => (xck σ r2 12).bind fun _ => (f_X12_lakes σ r2 v2).bind fun (v6, σ5) => if t0 = v6 then (some (.inl (x3 + (6 : Int32), σ5))) else (some ((0 : Int32), σ5)).map .inr
noncomputable def f_L_law_j1108 (L : Nat) (xs : Nat → Int32) (σ : XS) (r1 : Nat) (r2 : Nat) (x3 : Int32) (t0 : Int64) : Option ((Int32 × XS) ⊕ (Int32 × XS)) := (xsq L xs (x3 + (1 : Int32))).bind fun v2 => (xck σ r2 12).bind fun _ => (f_X12_down σ r2 v2).bind fun (v6, σ5) => if (lg_cmp t0 v6) = 0 then (some (.inl (x3 + (6 : Int32), σ5))) else (some ((0 : Int32), σ5)).map .inr
noncomputable def f_L_law_j1137 (L : Nat) (xs : Nat → Int32) (σ : XS) (r1 : Nat) (r2 : Nat) (x3 : Int32) (t0 : Int32) : Option ((Int32 × XS) ⊕ (Int32 × XS)) := (xsq L xs (x3 + (1 : Int32))).bind fun v2 => (xsq L xs (x3 + (2 : Int32))).bind fun v4 => (xck σ r2 12).bind fun _ => (f_X12_nearest σ r2 v2 v4).bind fun (v8, σ7) => if t0 = v8 then (some (.inl (x3 + (6 : Int32), σ7))) else (some ((0 : Int32), σ7)).map .inr
noncomputable def f_L_law_j1277 (L : Nat) (xs : Nat → Int32) (σ : XS) (r1 : Nat) (r2 : Nat) (x3 : Int32) (t0 : Int32) : Option ((Int32 × XS) ⊕ (Int32 × XS)) := (xsq L xs (x3 + (1 : Int32))).bind fun v2 => (xck σ r2 12).bind fun _ => (f_X12_count σ r2 v2).bind fun v5 => if t0 = v5 then (some (.inl (x3 + (6 : Int32), σ))) else (some ((0 : Int32), σ)).map .inr
noncomputable def f_L_law_b18 (L : Nat) (xs : Nat → Int32) (r1 : Nat) (r2 : Nat) : Int32 × XS → Option ((Int32 × XS) ⊕ (Int32 × XS)) := fun a => match a with
  | (x3, σ) => if ((Int32.ofNat L) - (6 : Int32)) < x3 then ((some ((1 : Int32), σ)).map .inr) else (xsq L xs x3).bind fun v2 => xsw (v2 &&& (63 : Int32)) (0) [(xsq L xs (x3 + (1 : Int32))).bind fun v4 => (xsq L xs (x3 + (2 : Int32))).bind fun v6 => (xsq L xs (x3 + (3 : Int32))).bind fun v8 => (xsq L xs (x3 + (4 : Int32))).bind fun v10 => (xsq L xs (x3 + (5 : Int32))).bind fun v12 => (xck σ r1 11).bind fun _ => (f_X11_feed σ r1 v4 v6 v8 v10 v12).bind fun (v16, σ15) => (xsq L xs (x3 + (1 : Int32))).bind fun v18 => (xsq L xs (x3 + (2 : Int32))).bind fun v20 => (xsq L xs (x3 + (3 : Int32))).bind fun v22 => (xsq L xs (x3 + (4 : Int32))).bind fun v24 => (xsq L xs (x3 + (5 : Int32))).bind fun v26 => (xck σ15 r2 12).bind fun _ => (f_X12_feed σ15 r2 v18 v20 v22 v24 v26).bind fun (v30, σ29) => if v16 = v30 then (some (.inl (x3 + (6 : Int32), σ29))) else (some ((0 : Int32), σ29)).map .inr, (xsq L xs (x3 + (1 : Int32))).bind fun v4 => (xck σ r1 11).bind fun _ => (f_X11_back σ r1 v4).bind fun (v8, σ7) => (xsq L xs (x3 + (1 : Int32))).bind fun v10 => (xck σ7 r2 12).bind fun _ => (f_X12_back σ7 r2 v10).bind fun (v14, σ13) => if v8 = v14 then (some (.inl (x3 + (6 : Int32), σ13))) else (some ((0 : Int32), σ13)).map .inr, (xck σ r1 11).bind fun _ => (f_X11_read σ r1).bind fun (v6, σ5) => (xck σ5 r2 12).bind fun _ => (f_X12_read σ5 r2).bind fun (v10, σ9) => if v6 = v10 then (some (.inl (x3 + (6 : Int32), σ9))) else (some ((0 : Int32), σ9)).map .inr, (xck σ r1 11).bind fun _ => (f_X11_place σ r1).bind fun v5 => (xck σ r2 12).bind fun _ => (f_X12_place σ r2).bind fun v8 => if v5 = v8 then (some (.inl (x3 + (6 : Int32), σ))) else (some ((0 : Int32), σ)).map .inr, (xsq L xs (x3 + (1 : Int32))).bind fun v4 => (xsq L xs (x3 + (2 : Int32))).bind fun v6 => if v6 = 0 then (f_L_law_j327 L xs σ r1 r2 x3 r1 v4 (0 : Int32)) else f_L_law_j327 L xs σ r1 r2 x3 r1 v4 (1 : Int32), (xsq L xs (x3 + (1 : Int32))).bind fun v4 => (xsq L xs (x3 + (2 : Int32))).bind fun v6 => (xck σ r1 11).bind fun _ => (f_X11_pull σ r1 v4 v6).bind fun (v10, σ9) => (xsq L xs (x3 + (1 : Int32))).bind fun v12 => (xsq L xs (x3 + (2 : Int32))).bind fun v14 => (xck σ9 r2 12).bind fun _ => (f_X12_pull σ9 r2 v12 v14).bind fun (v18, σ17) => if v10 = v18 then (some (.inl (x3 + (6 : Int32), σ17))) else (some ((0 : Int32), σ17)).map .inr, (xsq L xs (x3 + (1 : Int32))).bind fun v4 => (xsq L xs (x3 + (2 : Int32))).bind fun v6 => (xck σ r1 11).bind fun _ => (f_X11_pin σ r1 v4 v6).bind fun (v10, σ9) => (xsq L xs (x3 + (1 : Int32))).bind fun v12 => (xsq L xs (x3 + (2 : Int32))).bind fun v14 => (xck σ9 r2 12).bind fun _ => (f_X12_pin σ9 r2 v12 v14).bind fun (v18, σ17) => if v10 = v18 then (some (.inl (x3 + (6 : Int32), σ17))) else (some ((0 : Int32), σ17)).map .inr, (xsq L xs (x3 + (1 : Int32))).bind fun v4 => (xck σ r1 11).bind fun _ => (f_X11_glass σ r1 v4).bind fun (v8, σ7) => (xsq L xs (x3 + (1 : Int32))).bind fun v10 => (xck σ7 r2 12).bind fun _ => (f_X12_glass σ7 r2 v10).bind fun (v14, σ13) => if v8 = v14 then (some (.inl (x3 + (6 : Int32), σ13))) else (some ((0 : Int32), σ13)).map .inr, (xsq L xs (x3 + (1 : Int32))).bind fun v4 => (xck σ r1 11).bind fun _ => (f_X11_turn σ r1 v4).bind fun (v8, σ7) => (xsq L xs (x3 + (1 : Int32))).bind fun v10 => (xck σ7 r2 12).bind fun _ => (f_X12_turn σ7 r2 v10).bind fun (v14, σ13) => if v8 = v14 then (some (.inl (x3 + (6 : Int32), σ13))) else (some ((0 : Int32), σ13)).map .inr, (xck σ r1 11).bind fun _ => (f_X11_fall σ r1).bind fun (v6, σ5) => (xck σ5 r2 12).bind fun _ => (f_X12_fall σ5 r2).bind fun (v10, σ9) => if v6 = v10 then (some (.inl (x3 + (6 : Int32), σ9))) else (some ((0 : Int32), σ9)).map .inr, (xck σ r1 11).bind fun _ => (f_X11_undo σ r1).bind fun (v6, σ5) => (xck σ5 r2 12).bind fun _ => (f_X12_undo σ5 r2).bind fun (v10, σ9) => if v6 = v10 then (some (.inl (x3 + (6 : Int32), σ9))) else (some ((0 : Int32), σ9)).map .inr, (xsq L xs (x3 + (1 : Int32))).bind fun v4 => (xsq L xs (x3 + (2 : Int32))).bind fun v6 => (xck σ r1 11).bind fun _ => (f_X11_site σ r1 v4 v6).bind fun v9 => (xsq L xs (x3 + (1 : Int32))).bind fun v11 => (xsq L xs (x3 + (2 : Int32))).bind fun v13 => (xck σ r2 12).bind fun _ => (f_X12_site σ r2 v11 v13).bind fun v16 => if v9 = v16 then (some (.inl (x3 + (6 : Int32), σ))) else (some ((0 : Int32), σ)).map .inr, (xsq L xs (x3 + (1 : Int32))).bind fun v4 => (xsq L xs (x3 + (2 : Int32))).bind fun v6 => (xck σ r1 11).bind fun _ => (f_X11_level σ r1 v4 v6).bind fun (v10, σ9) => f_L_law_j552 L xs σ9 r1 r2 x3 v10, (xsq L xs (x3 + (1 : Int32))).bind fun v4 => (xsq L xs (x3 + (2 : Int32))).bind fun v6 => (xck σ r1 11).bind fun _ => (f_X11_both σ r1 v4 v6).bind fun (v10, σ9) => f_L_law_j585 L xs σ9 r1 r2 x3 v10, (xsq L xs (x3 + (1 : Int32))).bind fun v4 => (xck σ r1 11).bind fun _ => (f_X11_broken σ r1 v4).bind fun (v8, σ7) => f_L_law_j613 L xs σ7 r1 r2 x3 v8, (xsq L xs (x3 + (1 : Int32))).bind fun v4 => (xck σ r1 11).bind fun _ => (f_X11_ground σ r1 v4).bind fun (v8, σ7) => f_L_law_j636 L xs σ7 r1 r2 x3 v8, (xsq L xs (x3 + (1 : Int32))).bind fun v4 => (xsq L xs (x3 + (2 : Int32))).bind fun v6 => (xsq L xs (x3 + (3 : Int32))).bind fun v8 => (xsq L xs (x3 + (4 : Int32))).bind fun v10 => (xck σ r1 11).bind fun _ => (f_X11_pair σ r1 v4 v6 v8 v10).bind fun (v14, σ13) => f_L_law_j674 L xs σ13 r1 r2 x3 v14, (xsq L xs (x3 + (1 : Int32))).bind fun v4 => (xsq L xs (x3 + (2 : Int32))).bind fun v6 => (xck σ r1 11).bind fun _ => (f_X11_mean σ r1 v4 v6).bind fun (v10, σ9) => f_L_law_j717 L xs σ9 r1 r2 x3 v10, (xsq L xs (x3 + (1 : Int32))).bind fun v4 => (xck σ r1 11).bind fun _ => (f_X11_value σ r1 v4).bind fun (v8, σ7) => f_L_law_j745 L xs σ7 r1 r2 x3 v8, (xsq L xs (x3 + (1 : Int32))).bind fun v4 => (xsq L xs (x3 + (2 : Int32))).bind fun v6 => (xsq L xs (x3 + (3 : Int32))).bind fun v8 => (xck σ r1 11).bind fun _ => (f_X11_joined σ r1 v4 v6 v8).bind fun (v12, σ11) => f_L_law_j778 L xs σ11 r1 r2 x3 v12, (xsq L xs (x3 + (1 : Int32))).bind fun v4 => (xsq L xs (x3 + (2 : Int32))).bind fun v6 => (xck σ r1 11).bind fun _ => (f_X11_state σ r1 v4 v6).bind fun (v10, σ9) => f_L_law_j817 L xs σ9 r1 r2 x3 v10, (xsq L xs (x3 + (1 : Int32))).bind fun v4 => if v4 = 0 then (f_L_law_j850 L xs σ r1 r2 x3 r1 (0 : Int32)) else f_L_law_j850 L xs σ r1 r2 x3 r1 (1 : Int32), (xsq L xs (x3 + (1 : Int32))).bind fun v4 => (xsq L xs (x3 + (2 : Int32))).bind fun v6 => (xsq L xs (x3 + (3 : Int32))).bind fun v8 => (xck σ r1 11).bind fun _ => (f_X11_rows σ r1 v4 v6 v8).bind fun (v12, σ11) => f_L_law_j894 L xs σ11 r1 r2 x3 v12, (xsq L xs (x3 + (1 : Int32))).bind fun v4 => (xck σ r1 11).bind fun _ => (f_X11_square σ r1 v4).bind fun v7 => (xsq L xs (x3 + (1 : Int32))).bind fun v9 => (xck σ r2 12).bind fun _ => (f_X12_square σ r2 v9).bind fun v12 => if v7 = v12 then (some (.inl (x3 + (6 : Int32), σ))) else (some ((0 : Int32), σ)).map .inr, (xsq L xs (x3 + (1 : Int32))).bind fun v4 => (xck σ r1 11).bind fun _ => (f_X11_overlap σ r1 v4).bind fun (v8, σ7) => f_L_law_j950 L xs σ7 r1 r2 x3 v8, (xsq L xs (x3 + (1 : Int32))).bind fun v4 => (xck σ r1 11).bind fun _ => (f_X11_basin σ r1 v4).bind fun (v8, σ7) => f_L_law_j973 L xs σ7 r1 r2 x3 v8, (xsq L xs (x3 + (1 : Int32))).bind fun v4 => (xsq L xs (x3 + (2 : Int32))).bind fun v6 => (xck σ r1 11).bind fun _ => (f_X11_stiff σ r1 v4 v6).bind fun (v10, σ9) => f_L_law_j1001 L xs σ9 r1 r2 x3 v10, (xsq L xs (x3 + (1 : Int32))).bind fun v4 => (xck σ r1 11).bind fun _ => (f_X11_hill σ r1 v4).bind fun (v8, σ7) => f_L_law_j1029 L xs σ7 r1 r2 x3 v8, (xsq L xs (x3 + (1 : Int32))).bind fun v4 => (xsq L xs (x3 + (2 : Int32))).bind fun v6 => (xck σ r1 11).bind fun _ => (f_X11_pass σ r1 v4 v6).bind fun (v10, σ9) => f_L_law_j1057 L xs σ9 r1 r2 x3 v10, (xsq L xs (x3 + (1 : Int32))).bind fun v4 => (xck σ r1 11).bind fun _ => (f_X11_lakes σ r1 v4).bind fun (v8, σ7) => f_L_law_j1085 L xs σ7 r1 r2 x3 v8, (xsq L xs (x3 + (1 : Int32))).bind fun v4 => (xck σ r1 11).bind fun _ => (f_X11_down σ r1 v4).bind fun (v8, σ7) => f_L_law_j1108 L xs σ7 r1 r2 x3 v8, (xsq L xs (x3 + (1 : Int32))).bind fun v4 => (xsq L xs (x3 + (2 : Int32))).bind fun v6 => (xck σ r1 11).bind fun _ => (f_X11_nearest σ r1 v4 v6).bind fun (v10, σ9) => f_L_law_j1137 L xs σ9 r1 r2 x3 v10, (xsq L xs (x3 + (1 : Int32))).bind fun v4 => (xck σ r1 11).bind fun _ => (f_X11_cluster σ r1 v4).bind fun v7 => (xsq L xs (x3 + (1 : Int32))).bind fun v9 => (xck σ r2 12).bind fun _ => (f_X12_cluster σ r2 v9).bind fun v12 => if v7 = v12 then (some (.inl (x3 + (6 : Int32), σ))) else (some ((0 : Int32), σ)).map .inr, (xsq L xs (x3 + (1 : Int32))).bind fun v4 => (xsq L xs (x3 + (2 : Int32))).bind fun v6 => (xsq L xs (x3 + (3 : Int32))).bind fun v8 => (xck σ r1 11).bind fun _ => (f_X11_wander σ r1 v4 v6 v8).bind fun (v12, σ11) => (xsq L xs (x3 + (1 : Int32))).bind fun v14 => (xsq L xs (x3 + (2 : Int32))).bind fun v16 => (xsq L xs (x3 + (3 : Int32))).bind fun v18 => (xck σ11 r2 12).bind fun _ => (f_X12_wander σ11 r2 v14 v16 v18).bind fun (v22, σ21) => if v12 = v22 then (some (.inl (x3 + (6 : Int32), σ21))) else (some ((0 : Int32), σ21)).map .inr, (xsq L xs (x3 + (1 : Int32))).bind fun v4 => (xck σ r1 11).bind fun _ => (f_X11_hold σ r1 v4).bind fun (v8, σ7) => (xsq L xs (x3 + (1 : Int32))).bind fun v10 => (xck σ7 r2 12).bind fun _ => (f_X12_hold σ7 r2 v10).bind fun (v14, σ13) => if v8 = v14 then (some (.inl (x3 + (6 : Int32), σ13))) else (some ((0 : Int32), σ13)).map .inr, (xsq L xs (x3 + (1 : Int32))).bind fun v4 => (xck σ r1 11).bind fun _ => (f_X11_restore σ r1 v4).bind fun (v8, σ7) => (xsq L xs (x3 + (1 : Int32))).bind fun v10 => (xck σ7 r2 12).bind fun _ => (f_X12_restore σ7 r2 v10).bind fun (v14, σ13) => if v8 = v14 then (some (.inl (x3 + (6 : Int32), σ13))) else (some ((0 : Int32), σ13)).map .inr, (xsq L xs (x3 + (1 : Int32))).bind fun v4 => (xck σ r1 11).bind fun _ => (f_X11_count σ r1 v4).bind fun (v8, σ7) => f_L_law_j1277 L xs σ7 r1 r2 x3 v8] (some (.inl (x3 + (6 : Int32), σ)))
noncomputable def f_L_law_j15 (L : Nat) (xs : Nat → Int32) (σ : XS) (r1 : Nat) (t0 : Nat) : Option (Int32 × XS) := xloop (f_L_law_b18 L xs r1 t0) ((0 : Int32), σ)
noncomputable def f_L_law_j11 (L : Nat) (xs : Nat → Int32) (σ : XS) (r1 : Nat) (t0 : Nat) : Option (Int32 × XS) := (xck σ t0 12).bind fun _ => (f_X12_init σ t0).bind fun σ3 => f_L_law_j15 L xs σ3 r1 t0
noncomputable def f_L_law_j7 (L : Nat) (xs : Nat → Int32) (σ : XS) (t0 : Nat) : Option (Int32 × XS) := (xnO σ 12 45).bind fun (z2, σ3) => f_L_law_j11 L xs σ3 t0 z2
noncomputable def f_L_law_j3 (L : Nat) (xs : Nat → Int32) (σ : XS) (t0 : Nat) : Option (Int32 × XS) := (xck σ t0 11).bind fun _ => (f_X11_init σ t0).bind fun σ3 => f_L_law_j7 L xs σ3 t0
noncomputable def f_L_law (L : Nat) (xs : Nat → Int32) (σ : XS) : Option (Int32 × XS) := (xnO σ 11 16).bind fun (z2, σ3) => f_L_law_j3 L xs σ3 z2
theorem s_L_law_j354 {G : XG} (C : XC G cL_law RL (some .boolean) 4 13 470) {b L : Nat} {xs : Nat → Int32} (hS : XScr G b L xs) {σ : XS} {r1 : Nat} {r2 : Nat} {x3 : Int32} {t0 : Int32} {t1 : Nat} {t2 : Int32} {t3 : Int32} {x : ((Int32 × XS) ⊕ (Int32 × XS))} (hf : f_L_law_j354 L xs σ r1 r2 x3 t0 t1 t2 t3 = some x) (hk : (∀ a' : Int32 × XS, x = .inl a' → XUp G a'.2 ∧ WW G 18 [(0, .ref b), (1, .ref (gB G + r1)), (2, .ref (gB G + r2)), (3, .int a'.1)] [] a'.2) ∧ (∀ b1 : Int32 × XS, x = .inr b1 → XEndL G b b1)) : WW G 354 [(0, .ref b), (1, .ref (gB G + r1)), (2, .ref (gB G + r2)), (3, .int x3)] [.int t3, .int t2, .ref (gB G + t1), .int t0] σ := by
  refine ww_aload_n (pc := 354) C 0 dL_law_354 rfl ?_
  refine ww_iload_n (pc := 355) C 3 dL_law_355 rfl ?_
  refine ww_iconst (pc := 356) (v := (3 : Int32)) C dL_law_356 (by decide) ?_
  refine ww_iadd (pc := 357) C dL_law_357 ?_
  obtain ⟨v2, e1, hf⟩ := xbd hf
  refine ww_sld (pc := 358) C hS e1 dL_law_358 ?_
  obtain ⟨_, e3, hf⟩ := xbd hf
  obtain ⟨⟨v6, σ5⟩, e4, hf⟩ := xbd hf
  dsimp only at hf
  refine ww_callVi (pc := 359) (as := [.int t2, .int t3, .int v2]) (st := [.int t0]) C (k_X12_tie (l := gl G) (E := gE G) (hb := gB G) (σ := σ) e4) rfl (by decide) xc_L_36 q1503 q1504 (xck_spec e3) rfl (by decide) (xst4 (Nat.le_of_ble_eq_true rfl)) (m_X12_tie e4).le (m_X12_tie e4).lim dL_law_359 ?_
  refine ww_icmp_eq (pc := 362) (tgt := 1291) C dL_law_362 (by decide) (fun q => ?_) (fun q => ?_)
  · have hf := xip q hf
    refine ww_iinc (pc := 1291) (v := x3 + (6 : Int32)) (lv' := [(3, .int (x3 + (6 : Int32))), (0, .ref b), (1, .ref (gB G + r1)), (2, .ref (gB G + r2))]) C 3 dL_law_1291 rfl (congrArg (fun z => x3 + z) (show Int32.ofInt (6) = (6 : Int32) by decide)) (by decide) rfl ?_
    refine ww_goto (pc := 1294) (tgt := 18) C dL_law_1294 (by decide) ?_
    have hf := xsj hf
    subst hf
    refine ww_sub [1, 2, 3, 0] rfl ?_
    exact (hk.1 (x3 + (6 : Int32), σ5) rfl).2
  · have hf := xin q hf
    obtain ⟨b0, hg, e9⟩ := xmj hf
    subst e9
    have hf := hg
    have hk := hk.2 _ rfl
    refine ww_iconst (pc := 365) (v := (0 : Int32)) C dL_law_365 (by decide) ?_
    have hf := xsj hf
    subst hf
    exact ww_lawret (pc := 366) C hS hk dL_law_366
theorem m_L_law_j354 {L : Nat} {xs : Nat → Int32} {σ : XS} {r1 : Nat} {r2 : Nat} {x3 : Int32} {t0 : Int32} {t1 : Nat} {t2 : Int32} {t3 : Int32} {x : ((Int32 × XS) ⊕ (Int32 × XS))} (hf : f_L_law_j354 L xs σ r1 r2 x3 t0 t1 t2 t3 = some x) : (∀ a' : Int32 × XS, x = .inl a' → xext σ a'.2) ∧ (∀ b1 : Int32 × XS, x = .inr b1 → xext σ b1.2) := by
  have hm := xext.rf (σ := σ)
  obtain ⟨v2, e1, hf⟩ := xbd hf
  obtain ⟨_, e3, hf⟩ := xbd hf
  obtain ⟨⟨v6, σ5⟩, e4, hf⟩ := xbd hf
  dsimp only at hf
  have hm := hm.tr (m_X12_tie e4).ext
  by_cases q : t0 = v6
  · have hf := xip q hf
    have hf := xsj hf
    subst hf
    exact ⟨fun a' e => (by have h9 := Sum.inl.inj e; subst h9; exact hm), fun b e => xnc1 e⟩
  · have hf := xin q hf
    obtain ⟨b0, hg, e9⟩ := xmj hf
    subst e9
    have hf := hg
    refine ⟨fun a' e => xnc2 e, fun b e => ?_⟩
    have h9 := Sum.inr.inj e
    subst h9
    have hf := xsj hf
    subst hf
    exact hm
theorem s_L_law_j327 {G : XG} (C : XC G cL_law RL (some .boolean) 4 13 470) {b L : Nat} {xs : Nat → Int32} (hS : XScr G b L xs) {σ : XS} {r1 : Nat} {r2 : Nat} {x3 : Int32} {t0 : Nat} {t1 : Int32} {t2 : Int32} {x : ((Int32 × XS) ⊕ (Int32 × XS))} (hf : f_L_law_j327 L xs σ r1 r2 x3 t0 t1 t2 = some x) (hk : (∀ a' : Int32 × XS, x = .inl a' → XUp G a'.2 ∧ WW G 18 [(0, .ref b), (1, .ref (gB G + r1)), (2, .ref (gB G + r2)), (3, .int a'.1)] [] a'.2) ∧ (∀ b1 : Int32 × XS, x = .inr b1 → XEndL G b b1)) : WW G 327 [(0, .ref b), (1, .ref (gB G + r1)), (2, .ref (gB G + r2)), (3, .int x3)] [.int t2, .int t1, .ref (gB G + t0)] σ := by
  refine ww_aload_n (pc := 327) C 0 dL_law_327 rfl ?_
  refine ww_iload_n (pc := 328) C 3 dL_law_328 rfl ?_
  refine ww_iconst (pc := 329) (v := (3 : Int32)) C dL_law_329 (by decide) ?_
  refine ww_iadd (pc := 330) C dL_law_330 ?_
  obtain ⟨v2, e1, hf⟩ := xbd hf
  refine ww_sld (pc := 331) C hS e1 dL_law_331 ?_
  obtain ⟨_, e3, hf⟩ := xbd hf
  obtain ⟨⟨v6, σ5⟩, e4, hf⟩ := xbd hf
  dsimp only at hf
  refine ww_callVi (pc := 332) (as := [.int t1, .int t2, .int v2]) (st := []) C (k_X11_tie (l := gl G) (E := gE G) (hb := gB G) (σ := σ) e4) rfl (by decide) xc_L_32 q690 q691 (xck_spec e3) rfl (by decide) (xst4 (Nat.le_of_ble_eq_true rfl)) (m_X11_tie e4).le (m_X11_tie e4).lim dL_law_332 ?_
  refine ww_aload_n (pc := 335) C 2 dL_law_335 rfl ?_
  refine ww_aload_n (pc := 336) C 0 dL_law_336 rfl ?_
  refine ww_iload_n (pc := 337) C 3 dL_law_337 rfl ?_
  refine ww_iconst (pc := 338) (v := (1 : Int32)) C dL_law_338 (by decide) ?_
  refine ww_iadd (pc := 339) C dL_law_339 ?_
  obtain ⟨v8, e7, hf⟩ := xbd hf
  refine ww_sld (pc := 340) C hS e7 dL_law_340 ?_
  refine ww_aload_n (pc := 341) C 0 dL_law_341 rfl ?_
  refine ww_iload_n (pc := 342) C 3 dL_law_342 rfl ?_
  refine ww_iconst (pc := 343) (v := (2 : Int32)) C dL_law_343 (by decide) ?_
  refine ww_iadd (pc := 344) C dL_law_344 ?_
  obtain ⟨v10, e9, hf⟩ := xbd hf
  refine ww_sld (pc := 345) C hS e9 dL_law_345 ?_
  refine ww_if_eq (pc := 346) (tgt := 353) C dL_law_346 (by decide) (fun q => ?_) (fun q => ?_)
  · have hf := xip q hf
    refine ww_iconst (pc := 353) (v := (0 : Int32)) C dL_law_353 (by decide) ?_
    refine ww_sub [0, 1, 2, 3] rfl ?_
    exact s_L_law_j354 C hS hf hk
  · have hf := xin q hf
    refine ww_iconst (pc := 349) (v := (1 : Int32)) C dL_law_349 (by decide) ?_
    refine ww_goto (pc := 350) (tgt := 354) C dL_law_350 (by decide) ?_
    refine ww_sub [0, 1, 2, 3] rfl ?_
    exact s_L_law_j354 C hS hf hk
theorem m_L_law_j327 {L : Nat} {xs : Nat → Int32} {σ : XS} {r1 : Nat} {r2 : Nat} {x3 : Int32} {t0 : Nat} {t1 : Int32} {t2 : Int32} {x : ((Int32 × XS) ⊕ (Int32 × XS))} (hf : f_L_law_j327 L xs σ r1 r2 x3 t0 t1 t2 = some x) : (∀ a' : Int32 × XS, x = .inl a' → xext σ a'.2) ∧ (∀ b1 : Int32 × XS, x = .inr b1 → xext σ b1.2) := by
  have hm := xext.rf (σ := σ)
  obtain ⟨v2, e1, hf⟩ := xbd hf
  obtain ⟨_, e3, hf⟩ := xbd hf
  obtain ⟨⟨v6, σ5⟩, e4, hf⟩ := xbd hf
  dsimp only at hf
  have hm := hm.tr (m_X11_tie e4).ext
  obtain ⟨v8, e7, hf⟩ := xbd hf
  obtain ⟨v10, e9, hf⟩ := xbd hf
  by_cases q : v10 = 0
  · have hf := xip q hf
    exact ⟨fun a' e => hm.tr ((m_L_law_j354 hf).1 a' e), fun b1 eb1 => hm.tr ((m_L_law_j354 hf).2 b1 eb1)⟩
  · have hf := xin q hf
    exact ⟨fun a' e => hm.tr ((m_L_law_j354 hf).1 a' e), fun b1 eb1 => hm.tr ((m_L_law_j354 hf).2 b1 eb1)⟩
theorem s_L_law_j552 {G : XG} (C : XC G cL_law RL (some .boolean) 4 13 470) {b L : Nat} {xs : Nat → Int32} (hS : XScr G b L xs) {σ : XS} {r1 : Nat} {r2 : Nat} {x3 : Int32} {t0 : Int32} {x : ((Int32 × XS) ⊕ (Int32 × XS))} (hf : f_L_law_j552 L xs σ r1 r2 x3 t0 = some x) (hk : (∀ a' : Int32 × XS, x = .inl a' → XUp G a'.2 ∧ WW G 18 [(0, .ref b), (1, .ref (gB G + r1)), (2, .ref (gB G + r2)), (3, .int a'.1)] [] a'.2) ∧ (∀ b1 : Int32 × XS, x = .inr b1 → XEndL G b b1)) : WW G 552 [(0, .ref b), (1, .ref (gB G + r1)), (2, .ref (gB G + r2)), (3, .int x3)] [.int t0] σ := by
  refine ww_aload_n (pc := 552) C 2 dL_law_552 rfl ?_
  refine ww_aload_n (pc := 553) C 0 dL_law_553 rfl ?_
  refine ww_iload_n (pc := 554) C 3 dL_law_554 rfl ?_
  refine ww_iconst (pc := 555) (v := (1 : Int32)) C dL_law_555 (by decide) ?_
  refine ww_iadd (pc := 556) C dL_law_556 ?_
  obtain ⟨v2, e1, hf⟩ := xbd hf
  refine ww_sld (pc := 557) C hS e1 dL_law_557 ?_
  refine ww_aload_n (pc := 558) C 0 dL_law_558 rfl ?_
  refine ww_iload_n (pc := 559) C 3 dL_law_559 rfl ?_
  refine ww_iconst (pc := 560) (v := (2 : Int32)) C dL_law_560 (by decide) ?_
  refine ww_iadd (pc := 561) C dL_law_561 ?_
  obtain ⟨v4, e3, hf⟩ := xbd hf
  refine ww_sld (pc := 562) C hS e3 dL_law_562 ?_
  obtain ⟨_, e5, hf⟩ := xbd hf
  obtain ⟨⟨v8, σ7⟩, e6, hf⟩ := xbd hf
  dsimp only at hf
  refine ww_callVi (pc := 563) (as := [.int v2, .int v4]) (st := [.int t0]) C (k_X12_level (l := gl G) (E := gE G) (hb := gB G) (σ := σ) e6) rfl (by decide) xc_L_72 q1603 q1604 (xck_spec e5) rfl (by decide) (xst4 (Nat.le_of_ble_eq_true rfl)) (m_X12_level e6).le (m_X12_level e6).lim dL_law_563 ?_
  refine ww_icmp_eq (pc := 566) (tgt := 1291) C dL_law_566 (by decide) (fun q => ?_) (fun q => ?_)
  · have hf := xip q hf
    refine ww_iinc (pc := 1291) (v := x3 + (6 : Int32)) (lv' := [(3, .int (x3 + (6 : Int32))), (0, .ref b), (1, .ref (gB G + r1)), (2, .ref (gB G + r2))]) C 3 dL_law_1291 rfl (congrArg (fun z => x3 + z) (show Int32.ofInt (6) = (6 : Int32) by decide)) (by decide) rfl ?_
    refine ww_goto (pc := 1294) (tgt := 18) C dL_law_1294 (by decide) ?_
    have hf := xsj hf
    subst hf
    refine ww_sub [1, 2, 3, 0] rfl ?_
    exact (hk.1 (x3 + (6 : Int32), σ7) rfl).2
  · have hf := xin q hf
    obtain ⟨b0, hg, e9⟩ := xmj hf
    subst e9
    have hf := hg
    have hk := hk.2 _ rfl
    refine ww_iconst (pc := 569) (v := (0 : Int32)) C dL_law_569 (by decide) ?_
    have hf := xsj hf
    subst hf
    exact ww_lawret (pc := 570) C hS hk dL_law_570
theorem m_L_law_j552 {L : Nat} {xs : Nat → Int32} {σ : XS} {r1 : Nat} {r2 : Nat} {x3 : Int32} {t0 : Int32} {x : ((Int32 × XS) ⊕ (Int32 × XS))} (hf : f_L_law_j552 L xs σ r1 r2 x3 t0 = some x) : (∀ a' : Int32 × XS, x = .inl a' → xext σ a'.2) ∧ (∀ b1 : Int32 × XS, x = .inr b1 → xext σ b1.2) := by
  have hm := xext.rf (σ := σ)
  obtain ⟨v2, e1, hf⟩ := xbd hf
  obtain ⟨v4, e3, hf⟩ := xbd hf
  obtain ⟨_, e5, hf⟩ := xbd hf
  obtain ⟨⟨v8, σ7⟩, e6, hf⟩ := xbd hf
  dsimp only at hf
  have hm := hm.tr (m_X12_level e6).ext
  by_cases q : t0 = v8
  · have hf := xip q hf
    have hf := xsj hf
    subst hf
    exact ⟨fun a' e => (by have h9 := Sum.inl.inj e; subst h9; exact hm), fun b e => xnc1 e⟩
  · have hf := xin q hf
    obtain ⟨b0, hg, e9⟩ := xmj hf
    subst e9
    have hf := hg
    refine ⟨fun a' e => xnc2 e, fun b e => ?_⟩
    have h9 := Sum.inr.inj e
    subst h9
    have hf := xsj hf
    subst hf
    exact hm
theorem s_L_law_j585 {G : XG} (C : XC G cL_law RL (some .boolean) 4 13 470) {b L : Nat} {xs : Nat → Int32} (hS : XScr G b L xs) {σ : XS} {r1 : Nat} {r2 : Nat} {x3 : Int32} {t0 : Int32} {x : ((Int32 × XS) ⊕ (Int32 × XS))} (hf : f_L_law_j585 L xs σ r1 r2 x3 t0 = some x) (hk : (∀ a' : Int32 × XS, x = .inl a' → XUp G a'.2 ∧ WW G 18 [(0, .ref b), (1, .ref (gB G + r1)), (2, .ref (gB G + r2)), (3, .int a'.1)] [] a'.2) ∧ (∀ b1 : Int32 × XS, x = .inr b1 → XEndL G b b1)) : WW G 585 [(0, .ref b), (1, .ref (gB G + r1)), (2, .ref (gB G + r2)), (3, .int x3)] [.int t0] σ := by
  refine ww_aload_n (pc := 585) C 2 dL_law_585 rfl ?_
  refine ww_aload_n (pc := 586) C 0 dL_law_586 rfl ?_
  refine ww_iload_n (pc := 587) C 3 dL_law_587 rfl ?_
  refine ww_iconst (pc := 588) (v := (1 : Int32)) C dL_law_588 (by decide) ?_
  refine ww_iadd (pc := 589) C dL_law_589 ?_
  obtain ⟨v2, e1, hf⟩ := xbd hf
  refine ww_sld (pc := 590) C hS e1 dL_law_590 ?_
  refine ww_aload_n (pc := 591) C 0 dL_law_591 rfl ?_
  refine ww_iload_n (pc := 592) C 3 dL_law_592 rfl ?_
  refine ww_iconst (pc := 593) (v := (2 : Int32)) C dL_law_593 (by decide) ?_
  refine ww_iadd (pc := 594) C dL_law_594 ?_
  obtain ⟨v4, e3, hf⟩ := xbd hf
  refine ww_sld (pc := 595) C hS e3 dL_law_595 ?_
  obtain ⟨_, e5, hf⟩ := xbd hf
  obtain ⟨⟨v8, σ7⟩, e6, hf⟩ := xbd hf
  dsimp only at hf
  refine ww_callVi (pc := 596) (as := [.int v2, .int v4]) (st := [.int t0]) C (k_X12_both (l := gl G) (E := gE G) (hb := gB G) (σ := σ) e6) rfl (by decide) xc_L_76 q1618 q1619 (xck_spec e5) rfl (by decide) (xst4 (Nat.le_of_ble_eq_true rfl)) (m_X12_both e6).le (m_X12_both e6).lim dL_law_596 ?_
  refine ww_icmp_eq (pc := 599) (tgt := 1291) C dL_law_599 (by decide) (fun q => ?_) (fun q => ?_)
  · have hf := xip q hf
    refine ww_iinc (pc := 1291) (v := x3 + (6 : Int32)) (lv' := [(3, .int (x3 + (6 : Int32))), (0, .ref b), (1, .ref (gB G + r1)), (2, .ref (gB G + r2))]) C 3 dL_law_1291 rfl (congrArg (fun z => x3 + z) (show Int32.ofInt (6) = (6 : Int32) by decide)) (by decide) rfl ?_
    refine ww_goto (pc := 1294) (tgt := 18) C dL_law_1294 (by decide) ?_
    have hf := xsj hf
    subst hf
    refine ww_sub [1, 2, 3, 0] rfl ?_
    exact (hk.1 (x3 + (6 : Int32), σ7) rfl).2
  · have hf := xin q hf
    obtain ⟨b0, hg, e9⟩ := xmj hf
    subst e9
    have hf := hg
    have hk := hk.2 _ rfl
    refine ww_iconst (pc := 602) (v := (0 : Int32)) C dL_law_602 (by decide) ?_
    have hf := xsj hf
    subst hf
    exact ww_lawret (pc := 603) C hS hk dL_law_603
theorem m_L_law_j585 {L : Nat} {xs : Nat → Int32} {σ : XS} {r1 : Nat} {r2 : Nat} {x3 : Int32} {t0 : Int32} {x : ((Int32 × XS) ⊕ (Int32 × XS))} (hf : f_L_law_j585 L xs σ r1 r2 x3 t0 = some x) : (∀ a' : Int32 × XS, x = .inl a' → xext σ a'.2) ∧ (∀ b1 : Int32 × XS, x = .inr b1 → xext σ b1.2) := by
  have hm := xext.rf (σ := σ)
  obtain ⟨v2, e1, hf⟩ := xbd hf
  obtain ⟨v4, e3, hf⟩ := xbd hf
  obtain ⟨_, e5, hf⟩ := xbd hf
  obtain ⟨⟨v8, σ7⟩, e6, hf⟩ := xbd hf
  dsimp only at hf
  have hm := hm.tr (m_X12_both e6).ext
  by_cases q : t0 = v8
  · have hf := xip q hf
    have hf := xsj hf
    subst hf
    exact ⟨fun a' e => (by have h9 := Sum.inl.inj e; subst h9; exact hm), fun b e => xnc1 e⟩
  · have hf := xin q hf
    obtain ⟨b0, hg, e9⟩ := xmj hf
    subst e9
    have hf := hg
    refine ⟨fun a' e => xnc2 e, fun b e => ?_⟩
    have h9 := Sum.inr.inj e
    subst h9
    have hf := xsj hf
    subst hf
    exact hm
theorem s_L_law_j613 {G : XG} (C : XC G cL_law RL (some .boolean) 4 13 470) {b L : Nat} {xs : Nat → Int32} (hS : XScr G b L xs) {σ : XS} {r1 : Nat} {r2 : Nat} {x3 : Int32} {t0 : Int32} {x : ((Int32 × XS) ⊕ (Int32 × XS))} (hf : f_L_law_j613 L xs σ r1 r2 x3 t0 = some x) (hk : (∀ a' : Int32 × XS, x = .inl a' → XUp G a'.2 ∧ WW G 18 [(0, .ref b), (1, .ref (gB G + r1)), (2, .ref (gB G + r2)), (3, .int a'.1)] [] a'.2) ∧ (∀ b1 : Int32 × XS, x = .inr b1 → XEndL G b b1)) : WW G 613 [(0, .ref b), (1, .ref (gB G + r1)), (2, .ref (gB G + r2)), (3, .int x3)] [.int t0] σ := by
  refine ww_aload_n (pc := 613) C 2 dL_law_613 rfl ?_
  refine ww_aload_n (pc := 614) C 0 dL_law_614 rfl ?_
  refine ww_iload_n (pc := 615) C 3 dL_law_615 rfl ?_
  refine ww_iconst (pc := 616) (v := (1 : Int32)) C dL_law_616 (by decide) ?_
  refine ww_iadd (pc := 617) C dL_law_617 ?_
  obtain ⟨v2, e1, hf⟩ := xbd hf
  refine ww_sld (pc := 618) C hS e1 dL_law_618 ?_
  obtain ⟨_, e3, hf⟩ := xbd hf
  obtain ⟨⟨v6, σ5⟩, e4, hf⟩ := xbd hf
  dsimp only at hf
  refine ww_callVi (pc := 619) (as := [.int v2]) (st := [.int t0]) C (k_X12_broken (l := gl G) (E := gE G) (hb := gB G) (σ := σ) e4) rfl (by decide) xc_L_80 q1622 q1623 (xck_spec e3) rfl (by decide) (xst4 (Nat.le_of_ble_eq_true rfl)) (m_X12_broken e4).le (m_X12_broken e4).lim dL_law_619 ?_
  refine ww_icmp_eq (pc := 622) (tgt := 1291) C dL_law_622 (by decide) (fun q => ?_) (fun q => ?_)
  · have hf := xip q hf
    refine ww_iinc (pc := 1291) (v := x3 + (6 : Int32)) (lv' := [(3, .int (x3 + (6 : Int32))), (0, .ref b), (1, .ref (gB G + r1)), (2, .ref (gB G + r2))]) C 3 dL_law_1291 rfl (congrArg (fun z => x3 + z) (show Int32.ofInt (6) = (6 : Int32) by decide)) (by decide) rfl ?_
    refine ww_goto (pc := 1294) (tgt := 18) C dL_law_1294 (by decide) ?_
    have hf := xsj hf
    subst hf
    refine ww_sub [1, 2, 3, 0] rfl ?_
    exact (hk.1 (x3 + (6 : Int32), σ5) rfl).2
  · have hf := xin q hf
    obtain ⟨b0, hg, e9⟩ := xmj hf
    subst e9
    have hf := hg
    have hk := hk.2 _ rfl
    refine ww_iconst (pc := 625) (v := (0 : Int32)) C dL_law_625 (by decide) ?_
    have hf := xsj hf
    subst hf
    exact ww_lawret (pc := 626) C hS hk dL_law_626
theorem m_L_law_j613 {L : Nat} {xs : Nat → Int32} {σ : XS} {r1 : Nat} {r2 : Nat} {x3 : Int32} {t0 : Int32} {x : ((Int32 × XS) ⊕ (Int32 × XS))} (hf : f_L_law_j613 L xs σ r1 r2 x3 t0 = some x) : (∀ a' : Int32 × XS, x = .inl a' → xext σ a'.2) ∧ (∀ b1 : Int32 × XS, x = .inr b1 → xext σ b1.2) := by
  have hm := xext.rf (σ := σ)
  obtain ⟨v2, e1, hf⟩ := xbd hf
  obtain ⟨_, e3, hf⟩ := xbd hf
  obtain ⟨⟨v6, σ5⟩, e4, hf⟩ := xbd hf
  dsimp only at hf
  have hm := hm.tr (m_X12_broken e4).ext
  by_cases q : t0 = v6
  · have hf := xip q hf
    have hf := xsj hf
    subst hf
    exact ⟨fun a' e => (by have h9 := Sum.inl.inj e; subst h9; exact hm), fun b e => xnc1 e⟩
  · have hf := xin q hf
    obtain ⟨b0, hg, e9⟩ := xmj hf
    subst e9
    have hf := hg
    refine ⟨fun a' e => xnc2 e, fun b e => ?_⟩
    have h9 := Sum.inr.inj e
    subst h9
    have hf := xsj hf
    subst hf
    exact hm
theorem s_L_law_j636 {G : XG} (C : XC G cL_law RL (some .boolean) 4 13 470) {b L : Nat} {xs : Nat → Int32} (hS : XScr G b L xs) {σ : XS} {r1 : Nat} {r2 : Nat} {x3 : Int32} {t0 : Int32} {x : ((Int32 × XS) ⊕ (Int32 × XS))} (hf : f_L_law_j636 L xs σ r1 r2 x3 t0 = some x) (hk : (∀ a' : Int32 × XS, x = .inl a' → XUp G a'.2 ∧ WW G 18 [(0, .ref b), (1, .ref (gB G + r1)), (2, .ref (gB G + r2)), (3, .int a'.1)] [] a'.2) ∧ (∀ b1 : Int32 × XS, x = .inr b1 → XEndL G b b1)) : WW G 636 [(0, .ref b), (1, .ref (gB G + r1)), (2, .ref (gB G + r2)), (3, .int x3)] [.int t0] σ := by
  refine ww_aload_n (pc := 636) C 2 dL_law_636 rfl ?_
  refine ww_aload_n (pc := 637) C 0 dL_law_637 rfl ?_
  refine ww_iload_n (pc := 638) C 3 dL_law_638 rfl ?_
  refine ww_iconst (pc := 639) (v := (1 : Int32)) C dL_law_639 (by decide) ?_
  refine ww_iadd (pc := 640) C dL_law_640 ?_
  obtain ⟨v2, e1, hf⟩ := xbd hf
  refine ww_sld (pc := 641) C hS e1 dL_law_641 ?_
  obtain ⟨_, e3, hf⟩ := xbd hf
  obtain ⟨⟨v6, σ5⟩, e4, hf⟩ := xbd hf
  dsimp only at hf
  refine ww_callVi (pc := 642) (as := [.int v2]) (st := [.int t0]) C (k_X12_ground (l := gl G) (E := gE G) (hb := gB G) (σ := σ) e4) rfl (by decide) xc_L_84 q1633 q1634 (xck_spec e3) rfl (by decide) (xst4 (Nat.le_of_ble_eq_true rfl)) (m_X12_ground e4).le (m_X12_ground e4).lim dL_law_642 ?_
  refine ww_icmp_eq (pc := 645) (tgt := 1291) C dL_law_645 (by decide) (fun q => ?_) (fun q => ?_)
  · have hf := xip q hf
    refine ww_iinc (pc := 1291) (v := x3 + (6 : Int32)) (lv' := [(3, .int (x3 + (6 : Int32))), (0, .ref b), (1, .ref (gB G + r1)), (2, .ref (gB G + r2))]) C 3 dL_law_1291 rfl (congrArg (fun z => x3 + z) (show Int32.ofInt (6) = (6 : Int32) by decide)) (by decide) rfl ?_
    refine ww_goto (pc := 1294) (tgt := 18) C dL_law_1294 (by decide) ?_
    have hf := xsj hf
    subst hf
    refine ww_sub [1, 2, 3, 0] rfl ?_
    exact (hk.1 (x3 + (6 : Int32), σ5) rfl).2
  · have hf := xin q hf
    obtain ⟨b0, hg, e9⟩ := xmj hf
    subst e9
    have hf := hg
    have hk := hk.2 _ rfl
    refine ww_iconst (pc := 648) (v := (0 : Int32)) C dL_law_648 (by decide) ?_
    have hf := xsj hf
    subst hf
    exact ww_lawret (pc := 649) C hS hk dL_law_649
theorem m_L_law_j636 {L : Nat} {xs : Nat → Int32} {σ : XS} {r1 : Nat} {r2 : Nat} {x3 : Int32} {t0 : Int32} {x : ((Int32 × XS) ⊕ (Int32 × XS))} (hf : f_L_law_j636 L xs σ r1 r2 x3 t0 = some x) : (∀ a' : Int32 × XS, x = .inl a' → xext σ a'.2) ∧ (∀ b1 : Int32 × XS, x = .inr b1 → xext σ b1.2) := by
  have hm := xext.rf (σ := σ)
  obtain ⟨v2, e1, hf⟩ := xbd hf
  obtain ⟨_, e3, hf⟩ := xbd hf
  obtain ⟨⟨v6, σ5⟩, e4, hf⟩ := xbd hf
  dsimp only at hf
  have hm := hm.tr (m_X12_ground e4).ext
  by_cases q : t0 = v6
  · have hf := xip q hf
    have hf := xsj hf
    subst hf
    exact ⟨fun a' e => (by have h9 := Sum.inl.inj e; subst h9; exact hm), fun b e => xnc1 e⟩
  · have hf := xin q hf
    obtain ⟨b0, hg, e9⟩ := xmj hf
    subst e9
    have hf := hg
    refine ⟨fun a' e => xnc2 e, fun b e => ?_⟩
    have h9 := Sum.inr.inj e
    subst h9
    have hf := xsj hf
    subst hf
    exact hm
theorem s_L_law_j674 {G : XG} (C : XC G cL_law RL (some .boolean) 4 13 470) {b L : Nat} {xs : Nat → Int32} (hS : XScr G b L xs) {σ : XS} {r1 : Nat} {r2 : Nat} {x3 : Int32} {t0 : Int32} {x : ((Int32 × XS) ⊕ (Int32 × XS))} (hf : f_L_law_j674 L xs σ r1 r2 x3 t0 = some x) (hk : (∀ a' : Int32 × XS, x = .inl a' → XUp G a'.2 ∧ WW G 18 [(0, .ref b), (1, .ref (gB G + r1)), (2, .ref (gB G + r2)), (3, .int a'.1)] [] a'.2) ∧ (∀ b1 : Int32 × XS, x = .inr b1 → XEndL G b b1)) : WW G 674 [(0, .ref b), (1, .ref (gB G + r1)), (2, .ref (gB G + r2)), (3, .int x3)] [.int t0] σ := by
  refine ww_aload_n (pc := 674) C 2 dL_law_674 rfl ?_
  refine ww_aload_n (pc := 675) C 0 dL_law_675 rfl ?_
  refine ww_iload_n (pc := 676) C 3 dL_law_676 rfl ?_
  refine ww_iconst (pc := 677) (v := (1 : Int32)) C dL_law_677 (by decide) ?_
  refine ww_iadd (pc := 678) C dL_law_678 ?_
  obtain ⟨v2, e1, hf⟩ := xbd hf
  refine ww_sld (pc := 679) C hS e1 dL_law_679 ?_
  refine ww_aload_n (pc := 680) C 0 dL_law_680 rfl ?_
  refine ww_iload_n (pc := 681) C 3 dL_law_681 rfl ?_
  refine ww_iconst (pc := 682) (v := (2 : Int32)) C dL_law_682 (by decide) ?_
  refine ww_iadd (pc := 683) C dL_law_683 ?_
  obtain ⟨v4, e3, hf⟩ := xbd hf
  refine ww_sld (pc := 684) C hS e3 dL_law_684 ?_
  refine ww_aload_n (pc := 685) C 0 dL_law_685 rfl ?_
  refine ww_iload_n (pc := 686) C 3 dL_law_686 rfl ?_
  refine ww_iconst (pc := 687) (v := (3 : Int32)) C dL_law_687 (by decide) ?_
  refine ww_iadd (pc := 688) C dL_law_688 ?_
  obtain ⟨v6, e5, hf⟩ := xbd hf
  refine ww_sld (pc := 689) C hS e5 dL_law_689 ?_
  refine ww_aload_n (pc := 690) C 0 dL_law_690 rfl ?_
  refine ww_iload_n (pc := 691) C 3 dL_law_691 rfl ?_
  refine ww_iconst (pc := 692) (v := (4 : Int32)) C dL_law_692 (by decide) ?_
  refine ww_iadd (pc := 693) C dL_law_693 ?_
  obtain ⟨v8, e7, hf⟩ := xbd hf
  refine ww_sld (pc := 694) C hS e7 dL_law_694 ?_
  obtain ⟨_, e9, hf⟩ := xbd hf
  obtain ⟨⟨v12, σ11⟩, e10, hf⟩ := xbd hf
  dsimp only at hf
  refine ww_callVi (pc := 695) (as := [.int v2, .int v4, .int v6, .int v8]) (st := [.int t0]) C (k_X12_pair (l := gl G) (E := gE G) (hb := gB G) (σ := σ) e10) rfl (by decide) xc_L_89 q1637 q1638 (xck_spec e9) rfl (by decide) (xst4 (Nat.le_of_ble_eq_true rfl)) (m_X12_pair e10).le (m_X12_pair e10).lim dL_law_695 ?_
  refine ww_icmp_eq (pc := 698) (tgt := 1291) C dL_law_698 (by decide) (fun q => ?_) (fun q => ?_)
  · have hf := xip q hf
    refine ww_iinc (pc := 1291) (v := x3 + (6 : Int32)) (lv' := [(3, .int (x3 + (6 : Int32))), (0, .ref b), (1, .ref (gB G + r1)), (2, .ref (gB G + r2))]) C 3 dL_law_1291 rfl (congrArg (fun z => x3 + z) (show Int32.ofInt (6) = (6 : Int32) by decide)) (by decide) rfl ?_
    refine ww_goto (pc := 1294) (tgt := 18) C dL_law_1294 (by decide) ?_
    have hf := xsj hf
    subst hf
    refine ww_sub [1, 2, 3, 0] rfl ?_
    exact (hk.1 (x3 + (6 : Int32), σ11) rfl).2
  · have hf := xin q hf
    obtain ⟨b0, hg, e9⟩ := xmj hf
    subst e9
    have hf := hg
    have hk := hk.2 _ rfl
    refine ww_iconst (pc := 701) (v := (0 : Int32)) C dL_law_701 (by decide) ?_
    have hf := xsj hf
    subst hf
    exact ww_lawret (pc := 702) C hS hk dL_law_702
theorem m_L_law_j674 {L : Nat} {xs : Nat → Int32} {σ : XS} {r1 : Nat} {r2 : Nat} {x3 : Int32} {t0 : Int32} {x : ((Int32 × XS) ⊕ (Int32 × XS))} (hf : f_L_law_j674 L xs σ r1 r2 x3 t0 = some x) : (∀ a' : Int32 × XS, x = .inl a' → xext σ a'.2) ∧ (∀ b1 : Int32 × XS, x = .inr b1 → xext σ b1.2) := by
  have hm := xext.rf (σ := σ)
  obtain ⟨v2, e1, hf⟩ := xbd hf
  obtain ⟨v4, e3, hf⟩ := xbd hf
  obtain ⟨v6, e5, hf⟩ := xbd hf
  obtain ⟨v8, e7, hf⟩ := xbd hf
  obtain ⟨_, e9, hf⟩ := xbd hf
  obtain ⟨⟨v12, σ11⟩, e10, hf⟩ := xbd hf
  dsimp only at hf
  have hm := hm.tr (m_X12_pair e10).ext
  by_cases q : t0 = v12
  · have hf := xip q hf
    have hf := xsj hf
    subst hf
    exact ⟨fun a' e => (by have h9 := Sum.inl.inj e; subst h9; exact hm), fun b e => xnc1 e⟩
  · have hf := xin q hf
    obtain ⟨b0, hg, e9⟩ := xmj hf
    subst e9
    have hf := hg
    refine ⟨fun a' e => xnc2 e, fun b e => ?_⟩
    have h9 := Sum.inr.inj e
    subst h9
    have hf := xsj hf
    subst hf
    exact hm
theorem s_L_law_j717 {G : XG} (C : XC G cL_law RL (some .boolean) 4 13 470) {b L : Nat} {xs : Nat → Int32} (hS : XScr G b L xs) {σ : XS} {r1 : Nat} {r2 : Nat} {x3 : Int32} {t0 : Int32} {x : ((Int32 × XS) ⊕ (Int32 × XS))} (hf : f_L_law_j717 L xs σ r1 r2 x3 t0 = some x) (hk : (∀ a' : Int32 × XS, x = .inl a' → XUp G a'.2 ∧ WW G 18 [(0, .ref b), (1, .ref (gB G + r1)), (2, .ref (gB G + r2)), (3, .int a'.1)] [] a'.2) ∧ (∀ b1 : Int32 × XS, x = .inr b1 → XEndL G b b1)) : WW G 717 [(0, .ref b), (1, .ref (gB G + r1)), (2, .ref (gB G + r2)), (3, .int x3)] [.int t0] σ := by
  refine ww_aload_n (pc := 717) C 2 dL_law_717 rfl ?_
  refine ww_aload_n (pc := 718) C 0 dL_law_718 rfl ?_
  refine ww_iload_n (pc := 719) C 3 dL_law_719 rfl ?_
  refine ww_iconst (pc := 720) (v := (1 : Int32)) C dL_law_720 (by decide) ?_
  refine ww_iadd (pc := 721) C dL_law_721 ?_
  obtain ⟨v2, e1, hf⟩ := xbd hf
  refine ww_sld (pc := 722) C hS e1 dL_law_722 ?_
  refine ww_aload_n (pc := 723) C 0 dL_law_723 rfl ?_
  refine ww_iload_n (pc := 724) C 3 dL_law_724 rfl ?_
  refine ww_iconst (pc := 725) (v := (2 : Int32)) C dL_law_725 (by decide) ?_
  refine ww_iadd (pc := 726) C dL_law_726 ?_
  obtain ⟨v4, e3, hf⟩ := xbd hf
  refine ww_sld (pc := 727) C hS e3 dL_law_727 ?_
  obtain ⟨_, e5, hf⟩ := xbd hf
  obtain ⟨⟨v8, σ7⟩, e6, hf⟩ := xbd hf
  dsimp only at hf
  refine ww_callVi (pc := 728) (as := [.int v2, .int v4]) (st := [.int t0]) C (k_X12_mean (l := gl G) (E := gE G) (hb := gB G) (σ := σ) e6) rfl (by decide) xc_L_93 q1644 q1645 (xck_spec e5) rfl (by decide) (xst4 (Nat.le_of_ble_eq_true rfl)) (m_X12_mean e6).le (m_X12_mean e6).lim dL_law_728 ?_
  refine ww_icmp_eq (pc := 731) (tgt := 1291) C dL_law_731 (by decide) (fun q => ?_) (fun q => ?_)
  · have hf := xip q hf
    refine ww_iinc (pc := 1291) (v := x3 + (6 : Int32)) (lv' := [(3, .int (x3 + (6 : Int32))), (0, .ref b), (1, .ref (gB G + r1)), (2, .ref (gB G + r2))]) C 3 dL_law_1291 rfl (congrArg (fun z => x3 + z) (show Int32.ofInt (6) = (6 : Int32) by decide)) (by decide) rfl ?_
    refine ww_goto (pc := 1294) (tgt := 18) C dL_law_1294 (by decide) ?_
    have hf := xsj hf
    subst hf
    refine ww_sub [1, 2, 3, 0] rfl ?_
    exact (hk.1 (x3 + (6 : Int32), σ7) rfl).2
  · have hf := xin q hf
    obtain ⟨b0, hg, e9⟩ := xmj hf
    subst e9
    have hf := hg
    have hk := hk.2 _ rfl
    refine ww_iconst (pc := 734) (v := (0 : Int32)) C dL_law_734 (by decide) ?_
    have hf := xsj hf
    subst hf
    exact ww_lawret (pc := 735) C hS hk dL_law_735
theorem m_L_law_j717 {L : Nat} {xs : Nat → Int32} {σ : XS} {r1 : Nat} {r2 : Nat} {x3 : Int32} {t0 : Int32} {x : ((Int32 × XS) ⊕ (Int32 × XS))} (hf : f_L_law_j717 L xs σ r1 r2 x3 t0 = some x) : (∀ a' : Int32 × XS, x = .inl a' → xext σ a'.2) ∧ (∀ b1 : Int32 × XS, x = .inr b1 → xext σ b1.2) := by
  have hm := xext.rf (σ := σ)
  obtain ⟨v2, e1, hf⟩ := xbd hf
  obtain ⟨v4, e3, hf⟩ := xbd hf
  obtain ⟨_, e5, hf⟩ := xbd hf
  obtain ⟨⟨v8, σ7⟩, e6, hf⟩ := xbd hf
  dsimp only at hf
  have hm := hm.tr (m_X12_mean e6).ext
  by_cases q : t0 = v8
  · have hf := xip q hf
    have hf := xsj hf
    subst hf
    exact ⟨fun a' e => (by have h9 := Sum.inl.inj e; subst h9; exact hm), fun b e => xnc1 e⟩
  · have hf := xin q hf
    obtain ⟨b0, hg, e9⟩ := xmj hf
    subst e9
    have hf := hg
    refine ⟨fun a' e => xnc2 e, fun b e => ?_⟩
    have h9 := Sum.inr.inj e
    subst h9
    have hf := xsj hf
    subst hf
    exact hm
theorem s_L_law_j745 {G : XG} (C : XC G cL_law RL (some .boolean) 4 13 470) {b L : Nat} {xs : Nat → Int32} (hS : XScr G b L xs) {σ : XS} {r1 : Nat} {r2 : Nat} {x3 : Int32} {t0 : Int32} {x : ((Int32 × XS) ⊕ (Int32 × XS))} (hf : f_L_law_j745 L xs σ r1 r2 x3 t0 = some x) (hk : (∀ a' : Int32 × XS, x = .inl a' → XUp G a'.2 ∧ WW G 18 [(0, .ref b), (1, .ref (gB G + r1)), (2, .ref (gB G + r2)), (3, .int a'.1)] [] a'.2) ∧ (∀ b1 : Int32 × XS, x = .inr b1 → XEndL G b b1)) : WW G 745 [(0, .ref b), (1, .ref (gB G + r1)), (2, .ref (gB G + r2)), (3, .int x3)] [.int t0] σ := by
  refine ww_aload_n (pc := 745) C 2 dL_law_745 rfl ?_
  refine ww_aload_n (pc := 746) C 0 dL_law_746 rfl ?_
  refine ww_iload_n (pc := 747) C 3 dL_law_747 rfl ?_
  refine ww_iconst (pc := 748) (v := (1 : Int32)) C dL_law_748 (by decide) ?_
  refine ww_iadd (pc := 749) C dL_law_749 ?_
  obtain ⟨v2, e1, hf⟩ := xbd hf
  refine ww_sld (pc := 750) C hS e1 dL_law_750 ?_
  obtain ⟨_, e3, hf⟩ := xbd hf
  obtain ⟨⟨v6, σ5⟩, e4, hf⟩ := xbd hf
  dsimp only at hf
  refine ww_callVi (pc := 751) (as := [.int v2]) (st := [.int t0]) C (k_X12_value (l := gl G) (E := gE G) (hb := gB G) (σ := σ) e4) rfl (by decide) xc_L_97 q1648 q1649 (xck_spec e3) rfl (by decide) (xst4 (Nat.le_of_ble_eq_true rfl)) (m_X12_value e4).le (m_X12_value e4).lim dL_law_751 ?_
  refine ww_icmp_eq (pc := 754) (tgt := 1291) C dL_law_754 (by decide) (fun q => ?_) (fun q => ?_)
  · have hf := xip q hf
    refine ww_iinc (pc := 1291) (v := x3 + (6 : Int32)) (lv' := [(3, .int (x3 + (6 : Int32))), (0, .ref b), (1, .ref (gB G + r1)), (2, .ref (gB G + r2))]) C 3 dL_law_1291 rfl (congrArg (fun z => x3 + z) (show Int32.ofInt (6) = (6 : Int32) by decide)) (by decide) rfl ?_
    refine ww_goto (pc := 1294) (tgt := 18) C dL_law_1294 (by decide) ?_
    have hf := xsj hf
    subst hf
    refine ww_sub [1, 2, 3, 0] rfl ?_
    exact (hk.1 (x3 + (6 : Int32), σ5) rfl).2
  · have hf := xin q hf
    obtain ⟨b0, hg, e9⟩ := xmj hf
    subst e9
    have hf := hg
    have hk := hk.2 _ rfl
    refine ww_iconst (pc := 757) (v := (0 : Int32)) C dL_law_757 (by decide) ?_
    have hf := xsj hf
    subst hf
    exact ww_lawret (pc := 758) C hS hk dL_law_758
theorem m_L_law_j745 {L : Nat} {xs : Nat → Int32} {σ : XS} {r1 : Nat} {r2 : Nat} {x3 : Int32} {t0 : Int32} {x : ((Int32 × XS) ⊕ (Int32 × XS))} (hf : f_L_law_j745 L xs σ r1 r2 x3 t0 = some x) : (∀ a' : Int32 × XS, x = .inl a' → xext σ a'.2) ∧ (∀ b1 : Int32 × XS, x = .inr b1 → xext σ b1.2) := by
  have hm := xext.rf (σ := σ)
  obtain ⟨v2, e1, hf⟩ := xbd hf
  obtain ⟨_, e3, hf⟩ := xbd hf
  obtain ⟨⟨v6, σ5⟩, e4, hf⟩ := xbd hf
  dsimp only at hf
  have hm := hm.tr (m_X12_value e4).ext
  by_cases q : t0 = v6
  · have hf := xip q hf
    have hf := xsj hf
    subst hf
    exact ⟨fun a' e => (by have h9 := Sum.inl.inj e; subst h9; exact hm), fun b e => xnc1 e⟩
  · have hf := xin q hf
    obtain ⟨b0, hg, e9⟩ := xmj hf
    subst e9
    have hf := hg
    refine ⟨fun a' e => xnc2 e, fun b e => ?_⟩
    have h9 := Sum.inr.inj e
    subst h9
    have hf := xsj hf
    subst hf
    exact hm
theorem s_L_law_j778 {G : XG} (C : XC G cL_law RL (some .boolean) 4 13 470) {b L : Nat} {xs : Nat → Int32} (hS : XScr G b L xs) {σ : XS} {r1 : Nat} {r2 : Nat} {x3 : Int32} {t0 : Int64} {x : ((Int32 × XS) ⊕ (Int32 × XS))} (hf : f_L_law_j778 L xs σ r1 r2 x3 t0 = some x) (hk : (∀ a' : Int32 × XS, x = .inl a' → XUp G a'.2 ∧ WW G 18 [(0, .ref b), (1, .ref (gB G + r1)), (2, .ref (gB G + r2)), (3, .int a'.1)] [] a'.2) ∧ (∀ b1 : Int32 × XS, x = .inr b1 → XEndL G b b1)) : WW G 778 [(0, .ref b), (1, .ref (gB G + r1)), (2, .ref (gB G + r2)), (3, .int x3)] [.long t0] σ := by
  refine ww_aload_n (pc := 778) C 2 dL_law_778 rfl ?_
  refine ww_aload_n (pc := 779) C 0 dL_law_779 rfl ?_
  refine ww_iload_n (pc := 780) C 3 dL_law_780 rfl ?_
  refine ww_iconst (pc := 781) (v := (1 : Int32)) C dL_law_781 (by decide) ?_
  refine ww_iadd (pc := 782) C dL_law_782 ?_
  obtain ⟨v2, e1, hf⟩ := xbd hf
  refine ww_sld (pc := 783) C hS e1 dL_law_783 ?_
  refine ww_aload_n (pc := 784) C 0 dL_law_784 rfl ?_
  refine ww_iload_n (pc := 785) C 3 dL_law_785 rfl ?_
  refine ww_iconst (pc := 786) (v := (2 : Int32)) C dL_law_786 (by decide) ?_
  refine ww_iadd (pc := 787) C dL_law_787 ?_
  obtain ⟨v4, e3, hf⟩ := xbd hf
  refine ww_sld (pc := 788) C hS e3 dL_law_788 ?_
  refine ww_aload_n (pc := 789) C 0 dL_law_789 rfl ?_
  refine ww_iload_n (pc := 790) C 3 dL_law_790 rfl ?_
  refine ww_iconst (pc := 791) (v := (3 : Int32)) C dL_law_791 (by decide) ?_
  refine ww_iadd (pc := 792) C dL_law_792 ?_
  obtain ⟨v6, e5, hf⟩ := xbd hf
  refine ww_sld (pc := 793) C hS e5 dL_law_793 ?_
  obtain ⟨_, e7, hf⟩ := xbd hf
  obtain ⟨⟨v10, σ9⟩, e8, hf⟩ := xbd hf
  dsimp only at hf
  refine ww_callVj (pc := 794) (as := [.int v2, .int v4, .int v6]) (st := [.long t0]) C (k_X12_joined (l := gl G) (E := gE G) (hb := gB G) (σ := σ) e8) rfl (by decide) xc_L_102 q1654 q1655 (xck_spec e7) rfl (by decide) (xst4 (Nat.le_of_ble_eq_true rfl)) (m_X12_joined e8).le (m_X12_joined e8).lim dL_law_794 ?_
  refine ww_lcmp (pc := 797) C dL_law_797 ?_
  refine ww_if_eq (pc := 798) (tgt := 1291) C dL_law_798 (by decide) (fun q => ?_) (fun q => ?_)
  · have hf := xip q hf
    refine ww_iinc (pc := 1291) (v := x3 + (6 : Int32)) (lv' := [(3, .int (x3 + (6 : Int32))), (0, .ref b), (1, .ref (gB G + r1)), (2, .ref (gB G + r2))]) C 3 dL_law_1291 rfl (congrArg (fun z => x3 + z) (show Int32.ofInt (6) = (6 : Int32) by decide)) (by decide) rfl ?_
    refine ww_goto (pc := 1294) (tgt := 18) C dL_law_1294 (by decide) ?_
    have hf := xsj hf
    subst hf
    refine ww_sub [1, 2, 3, 0] rfl ?_
    exact (hk.1 (x3 + (6 : Int32), σ9) rfl).2
  · have hf := xin q hf
    obtain ⟨b0, hg, e9⟩ := xmj hf
    subst e9
    have hf := hg
    have hk := hk.2 _ rfl
    refine ww_iconst (pc := 801) (v := (0 : Int32)) C dL_law_801 (by decide) ?_
    have hf := xsj hf
    subst hf
    exact ww_lawret (pc := 802) C hS hk dL_law_802
theorem m_L_law_j778 {L : Nat} {xs : Nat → Int32} {σ : XS} {r1 : Nat} {r2 : Nat} {x3 : Int32} {t0 : Int64} {x : ((Int32 × XS) ⊕ (Int32 × XS))} (hf : f_L_law_j778 L xs σ r1 r2 x3 t0 = some x) : (∀ a' : Int32 × XS, x = .inl a' → xext σ a'.2) ∧ (∀ b1 : Int32 × XS, x = .inr b1 → xext σ b1.2) := by
  have hm := xext.rf (σ := σ)
  obtain ⟨v2, e1, hf⟩ := xbd hf
  obtain ⟨v4, e3, hf⟩ := xbd hf
  obtain ⟨v6, e5, hf⟩ := xbd hf
  obtain ⟨_, e7, hf⟩ := xbd hf
  obtain ⟨⟨v10, σ9⟩, e8, hf⟩ := xbd hf
  dsimp only at hf
  have hm := hm.tr (m_X12_joined e8).ext
  by_cases q : (lg_cmp t0 v10) = 0
  · have hf := xip q hf
    have hf := xsj hf
    subst hf
    exact ⟨fun a' e => (by have h9 := Sum.inl.inj e; subst h9; exact hm), fun b e => xnc1 e⟩
  · have hf := xin q hf
    obtain ⟨b0, hg, e9⟩ := xmj hf
    subst e9
    have hf := hg
    refine ⟨fun a' e => xnc2 e, fun b e => ?_⟩
    have h9 := Sum.inr.inj e
    subst h9
    have hf := xsj hf
    subst hf
    exact hm
theorem s_L_law_j817 {G : XG} (C : XC G cL_law RL (some .boolean) 4 13 470) {b L : Nat} {xs : Nat → Int32} (hS : XScr G b L xs) {σ : XS} {r1 : Nat} {r2 : Nat} {x3 : Int32} {t0 : Int32} {x : ((Int32 × XS) ⊕ (Int32 × XS))} (hf : f_L_law_j817 L xs σ r1 r2 x3 t0 = some x) (hk : (∀ a' : Int32 × XS, x = .inl a' → XUp G a'.2 ∧ WW G 18 [(0, .ref b), (1, .ref (gB G + r1)), (2, .ref (gB G + r2)), (3, .int a'.1)] [] a'.2) ∧ (∀ b1 : Int32 × XS, x = .inr b1 → XEndL G b b1)) : WW G 817 [(0, .ref b), (1, .ref (gB G + r1)), (2, .ref (gB G + r2)), (3, .int x3)] [.int t0] σ := by
  refine ww_aload_n (pc := 817) C 2 dL_law_817 rfl ?_
  refine ww_aload_n (pc := 818) C 0 dL_law_818 rfl ?_
  refine ww_iload_n (pc := 819) C 3 dL_law_819 rfl ?_
  refine ww_iconst (pc := 820) (v := (1 : Int32)) C dL_law_820 (by decide) ?_
  refine ww_iadd (pc := 821) C dL_law_821 ?_
  obtain ⟨v2, e1, hf⟩ := xbd hf
  refine ww_sld (pc := 822) C hS e1 dL_law_822 ?_
  refine ww_aload_n (pc := 823) C 0 dL_law_823 rfl ?_
  refine ww_iload_n (pc := 824) C 3 dL_law_824 rfl ?_
  refine ww_iconst (pc := 825) (v := (2 : Int32)) C dL_law_825 (by decide) ?_
  refine ww_iadd (pc := 826) C dL_law_826 ?_
  obtain ⟨v4, e3, hf⟩ := xbd hf
  refine ww_sld (pc := 827) C hS e3 dL_law_827 ?_
  obtain ⟨_, e5, hf⟩ := xbd hf
  obtain ⟨⟨v8, σ7⟩, e6, hf⟩ := xbd hf
  dsimp only at hf
  refine ww_callVi (pc := 828) (as := [.int v2, .int v4]) (st := [.int t0]) C (k_X12_state (l := gl G) (E := gE G) (hb := gB G) (σ := σ) e6) rfl (by decide) xc_L_106 q1663 q1664 (xck_spec e5) rfl (by decide) (xst4 (Nat.le_of_ble_eq_true rfl)) (m_X12_state e6).le (m_X12_state e6).lim dL_law_828 ?_
  refine ww_icmp_eq (pc := 831) (tgt := 1291) C dL_law_831 (by decide) (fun q => ?_) (fun q => ?_)
  · have hf := xip q hf
    refine ww_iinc (pc := 1291) (v := x3 + (6 : Int32)) (lv' := [(3, .int (x3 + (6 : Int32))), (0, .ref b), (1, .ref (gB G + r1)), (2, .ref (gB G + r2))]) C 3 dL_law_1291 rfl (congrArg (fun z => x3 + z) (show Int32.ofInt (6) = (6 : Int32) by decide)) (by decide) rfl ?_
    refine ww_goto (pc := 1294) (tgt := 18) C dL_law_1294 (by decide) ?_
    have hf := xsj hf
    subst hf
    refine ww_sub [1, 2, 3, 0] rfl ?_
    exact (hk.1 (x3 + (6 : Int32), σ7) rfl).2
  · have hf := xin q hf
    obtain ⟨b0, hg, e9⟩ := xmj hf
    subst e9
    have hf := hg
    have hk := hk.2 _ rfl
    refine ww_iconst (pc := 834) (v := (0 : Int32)) C dL_law_834 (by decide) ?_
    have hf := xsj hf
    subst hf
    exact ww_lawret (pc := 835) C hS hk dL_law_835
theorem m_L_law_j817 {L : Nat} {xs : Nat → Int32} {σ : XS} {r1 : Nat} {r2 : Nat} {x3 : Int32} {t0 : Int32} {x : ((Int32 × XS) ⊕ (Int32 × XS))} (hf : f_L_law_j817 L xs σ r1 r2 x3 t0 = some x) : (∀ a' : Int32 × XS, x = .inl a' → xext σ a'.2) ∧ (∀ b1 : Int32 × XS, x = .inr b1 → xext σ b1.2) := by
  have hm := xext.rf (σ := σ)
  obtain ⟨v2, e1, hf⟩ := xbd hf
  obtain ⟨v4, e3, hf⟩ := xbd hf
  obtain ⟨_, e5, hf⟩ := xbd hf
  obtain ⟨⟨v8, σ7⟩, e6, hf⟩ := xbd hf
  dsimp only at hf
  have hm := hm.tr (m_X12_state e6).ext
  by_cases q : t0 = v8
  · have hf := xip q hf
    have hf := xsj hf
    subst hf
    exact ⟨fun a' e => (by have h9 := Sum.inl.inj e; subst h9; exact hm), fun b e => xnc1 e⟩
  · have hf := xin q hf
    obtain ⟨b0, hg, e9⟩ := xmj hf
    subst e9
    have hf := hg
    refine ⟨fun a' e => xnc2 e, fun b e => ?_⟩
    have h9 := Sum.inr.inj e
    subst h9
    have hf := xsj hf
    subst hf
    exact hm
theorem s_L_law_j867 {G : XG} (C : XC G cL_law RL (some .boolean) 4 13 470) {b L : Nat} {xs : Nat → Int32} (hS : XScr G b L xs) {σ : XS} {r1 : Nat} {r2 : Nat} {x3 : Int32} {t0 : Int32} {t1 : Nat} {t2 : Int32} {x : ((Int32 × XS) ⊕ (Int32 × XS))} (hf : f_L_law_j867 L xs σ r1 r2 x3 t0 t1 t2 = some x) (hk : (∀ a' : Int32 × XS, x = .inl a' → XUp G a'.2 ∧ WW G 18 [(0, .ref b), (1, .ref (gB G + r1)), (2, .ref (gB G + r2)), (3, .int a'.1)] [] a'.2) ∧ (∀ b1 : Int32 × XS, x = .inr b1 → XEndL G b b1)) : WW G 867 [(0, .ref b), (1, .ref (gB G + r1)), (2, .ref (gB G + r2)), (3, .int x3)] [.int t2, .ref (gB G + t1), .int t0] σ := by
  obtain ⟨_, e1, hf⟩ := xbd hf
  obtain ⟨⟨v4, σ3⟩, e2, hf⟩ := xbd hf
  dsimp only at hf
  refine ww_callVi (pc := 867) (as := [.int t2]) (st := [.int t0]) C (k_X12_stuck (l := gl G) (E := gE G) (hb := gB G) (σ := σ) e2) rfl (by decide) xc_L_111 q1671 q1672 (xck_spec e1) rfl (by decide) (xst4 (Nat.le_of_ble_eq_true rfl)) (m_X12_stuck e2).le (m_X12_stuck e2).lim dL_law_867 ?_
  refine ww_icmp_eq (pc := 870) (tgt := 1291) C dL_law_870 (by decide) (fun q => ?_) (fun q => ?_)
  · have hf := xip q hf
    refine ww_iinc (pc := 1291) (v := x3 + (6 : Int32)) (lv' := [(3, .int (x3 + (6 : Int32))), (0, .ref b), (1, .ref (gB G + r1)), (2, .ref (gB G + r2))]) C 3 dL_law_1291 rfl (congrArg (fun z => x3 + z) (show Int32.ofInt (6) = (6 : Int32) by decide)) (by decide) rfl ?_
    refine ww_goto (pc := 1294) (tgt := 18) C dL_law_1294 (by decide) ?_
    have hf := xsj hf
    subst hf
    refine ww_sub [1, 2, 3, 0] rfl ?_
    exact (hk.1 (x3 + (6 : Int32), σ3) rfl).2
  · have hf := xin q hf
    obtain ⟨b0, hg, e9⟩ := xmj hf
    subst e9
    have hf := hg
    have hk := hk.2 _ rfl
    refine ww_iconst (pc := 873) (v := (0 : Int32)) C dL_law_873 (by decide) ?_
    have hf := xsj hf
    subst hf
    exact ww_lawret (pc := 874) C hS hk dL_law_874
theorem m_L_law_j867 {L : Nat} {xs : Nat → Int32} {σ : XS} {r1 : Nat} {r2 : Nat} {x3 : Int32} {t0 : Int32} {t1 : Nat} {t2 : Int32} {x : ((Int32 × XS) ⊕ (Int32 × XS))} (hf : f_L_law_j867 L xs σ r1 r2 x3 t0 t1 t2 = some x) : (∀ a' : Int32 × XS, x = .inl a' → xext σ a'.2) ∧ (∀ b1 : Int32 × XS, x = .inr b1 → xext σ b1.2) := by
  have hm := xext.rf (σ := σ)
  obtain ⟨_, e1, hf⟩ := xbd hf
  obtain ⟨⟨v4, σ3⟩, e2, hf⟩ := xbd hf
  dsimp only at hf
  have hm := hm.tr (m_X12_stuck e2).ext
  by_cases q : t0 = v4
  · have hf := xip q hf
    have hf := xsj hf
    subst hf
    exact ⟨fun a' e => (by have h9 := Sum.inl.inj e; subst h9; exact hm), fun b e => xnc1 e⟩
  · have hf := xin q hf
    obtain ⟨b0, hg, e9⟩ := xmj hf
    subst e9
    have hf := hg
    refine ⟨fun a' e => xnc2 e, fun b e => ?_⟩
    have h9 := Sum.inr.inj e
    subst h9
    have hf := xsj hf
    subst hf
    exact hm
theorem s_L_law_j853 {G : XG} (C : XC G cL_law RL (some .boolean) 4 13 470) {b L : Nat} {xs : Nat → Int32} (hS : XScr G b L xs) {σ : XS} {r1 : Nat} {r2 : Nat} {x3 : Int32} {t0 : Int32} {x : ((Int32 × XS) ⊕ (Int32 × XS))} (hf : f_L_law_j853 L xs σ r1 r2 x3 t0 = some x) (hk : (∀ a' : Int32 × XS, x = .inl a' → XUp G a'.2 ∧ WW G 18 [(0, .ref b), (1, .ref (gB G + r1)), (2, .ref (gB G + r2)), (3, .int a'.1)] [] a'.2) ∧ (∀ b1 : Int32 × XS, x = .inr b1 → XEndL G b b1)) : WW G 853 [(0, .ref b), (1, .ref (gB G + r1)), (2, .ref (gB G + r2)), (3, .int x3)] [.int t0] σ := by
  refine ww_aload_n (pc := 853) C 2 dL_law_853 rfl ?_
  refine ww_aload_n (pc := 854) C 0 dL_law_854 rfl ?_
  refine ww_iload_n (pc := 855) C 3 dL_law_855 rfl ?_
  refine ww_iconst (pc := 856) (v := (1 : Int32)) C dL_law_856 (by decide) ?_
  refine ww_iadd (pc := 857) C dL_law_857 ?_
  obtain ⟨v2, e1, hf⟩ := xbd hf
  refine ww_sld (pc := 858) C hS e1 dL_law_858 ?_
  refine ww_if_eq (pc := 859) (tgt := 866) C dL_law_859 (by decide) (fun q => ?_) (fun q => ?_)
  · have hf := xip q hf
    refine ww_iconst (pc := 866) (v := (0 : Int32)) C dL_law_866 (by decide) ?_
    refine ww_sub [0, 1, 2, 3] rfl ?_
    exact s_L_law_j867 C hS hf hk
  · have hf := xin q hf
    refine ww_iconst (pc := 862) (v := (1 : Int32)) C dL_law_862 (by decide) ?_
    refine ww_goto (pc := 863) (tgt := 867) C dL_law_863 (by decide) ?_
    refine ww_sub [0, 1, 2, 3] rfl ?_
    exact s_L_law_j867 C hS hf hk
theorem m_L_law_j853 {L : Nat} {xs : Nat → Int32} {σ : XS} {r1 : Nat} {r2 : Nat} {x3 : Int32} {t0 : Int32} {x : ((Int32 × XS) ⊕ (Int32 × XS))} (hf : f_L_law_j853 L xs σ r1 r2 x3 t0 = some x) : (∀ a' : Int32 × XS, x = .inl a' → xext σ a'.2) ∧ (∀ b1 : Int32 × XS, x = .inr b1 → xext σ b1.2) := by
  have hm := xext.rf (σ := σ)
  obtain ⟨v2, e1, hf⟩ := xbd hf
  by_cases q : v2 = 0
  · have hf := xip q hf
    exact ⟨fun a' e => hm.tr ((m_L_law_j867 hf).1 a' e), fun b1 eb1 => hm.tr ((m_L_law_j867 hf).2 b1 eb1)⟩
  · have hf := xin q hf
    exact ⟨fun a' e => hm.tr ((m_L_law_j867 hf).1 a' e), fun b1 eb1 => hm.tr ((m_L_law_j867 hf).2 b1 eb1)⟩
theorem s_L_law_j850 {G : XG} (C : XC G cL_law RL (some .boolean) 4 13 470) {b L : Nat} {xs : Nat → Int32} (hS : XScr G b L xs) {σ : XS} {r1 : Nat} {r2 : Nat} {x3 : Int32} {t0 : Nat} {t1 : Int32} {x : ((Int32 × XS) ⊕ (Int32 × XS))} (hf : f_L_law_j850 L xs σ r1 r2 x3 t0 t1 = some x) (hk : (∀ a' : Int32 × XS, x = .inl a' → XUp G a'.2 ∧ WW G 18 [(0, .ref b), (1, .ref (gB G + r1)), (2, .ref (gB G + r2)), (3, .int a'.1)] [] a'.2) ∧ (∀ b1 : Int32 × XS, x = .inr b1 → XEndL G b b1)) : WW G 850 [(0, .ref b), (1, .ref (gB G + r1)), (2, .ref (gB G + r2)), (3, .int x3)] [.int t1, .ref (gB G + t0)] σ := by
  obtain ⟨_, e1, hf⟩ := xbd hf
  obtain ⟨⟨v4, σ3⟩, e2, hf⟩ := xbd hf
  dsimp only at hf
  refine ww_callVi (pc := 850) (as := [.int t1]) (st := []) C (k_X11_stuck (l := gl G) (E := gE G) (hb := gB G) (σ := σ) e2) rfl (by decide) xc_L_107 q1031 q1032 (xck_spec e1) rfl (by decide) (xst4 (Nat.le_of_ble_eq_true rfl)) (m_X11_stuck e2).1 (fun q => by have hm9 := m_L_law_j853 hf; rcases x with a' | b90; exact XLim.mid q (m_X11_stuck e2) (hm9.1 a' rfl) (hk.1 a' rfl).1; have hm9 := hm9.2 _ rfl; have hk := hk.2 _ rfl; exact XLim.mid q (m_X11_stuck e2) hm9 hk.2.1) dL_law_850 ?_
  refine ww_sub [0, 1, 2, 3] rfl ?_
  exact s_L_law_j853 C hS hf hk
theorem m_L_law_j850 {L : Nat} {xs : Nat → Int32} {σ : XS} {r1 : Nat} {r2 : Nat} {x3 : Int32} {t0 : Nat} {t1 : Int32} {x : ((Int32 × XS) ⊕ (Int32 × XS))} (hf : f_L_law_j850 L xs σ r1 r2 x3 t0 t1 = some x) : (∀ a' : Int32 × XS, x = .inl a' → xext σ a'.2) ∧ (∀ b1 : Int32 × XS, x = .inr b1 → xext σ b1.2) := by
  have hm := xext.rf (σ := σ)
  obtain ⟨_, e1, hf⟩ := xbd hf
  obtain ⟨⟨v4, σ3⟩, e2, hf⟩ := xbd hf
  dsimp only at hf
  have hm := hm.tr (m_X11_stuck e2)
  exact ⟨fun a' e => hm.tr ((m_L_law_j853 hf).1 a' e), fun b1 eb1 => hm.tr ((m_L_law_j853 hf).2 b1 eb1)⟩
theorem s_L_law_j894 {G : XG} (C : XC G cL_law RL (some .boolean) 4 13 470) {b L : Nat} {xs : Nat → Int32} (hS : XScr G b L xs) {σ : XS} {r1 : Nat} {r2 : Nat} {x3 : Int32} {t0 : Int32} {x : ((Int32 × XS) ⊕ (Int32 × XS))} (hf : f_L_law_j894 L xs σ r1 r2 x3 t0 = some x) (hk : (∀ a' : Int32 × XS, x = .inl a' → XUp G a'.2 ∧ WW G 18 [(0, .ref b), (1, .ref (gB G + r1)), (2, .ref (gB G + r2)), (3, .int a'.1)] [] a'.2) ∧ (∀ b1 : Int32 × XS, x = .inr b1 → XEndL G b b1)) : WW G 894 [(0, .ref b), (1, .ref (gB G + r1)), (2, .ref (gB G + r2)), (3, .int x3)] [.int t0] σ := by
  refine ww_aload_n (pc := 894) C 2 dL_law_894 rfl ?_
  refine ww_aload_n (pc := 895) C 0 dL_law_895 rfl ?_
  refine ww_iload_n (pc := 896) C 3 dL_law_896 rfl ?_
  refine ww_iconst (pc := 897) (v := (1 : Int32)) C dL_law_897 (by decide) ?_
  refine ww_iadd (pc := 898) C dL_law_898 ?_
  obtain ⟨v2, e1, hf⟩ := xbd hf
  refine ww_sld (pc := 899) C hS e1 dL_law_899 ?_
  refine ww_aload_n (pc := 900) C 0 dL_law_900 rfl ?_
  refine ww_iload_n (pc := 901) C 3 dL_law_901 rfl ?_
  refine ww_iconst (pc := 902) (v := (2 : Int32)) C dL_law_902 (by decide) ?_
  refine ww_iadd (pc := 903) C dL_law_903 ?_
  obtain ⟨v4, e3, hf⟩ := xbd hf
  refine ww_sld (pc := 904) C hS e3 dL_law_904 ?_
  refine ww_aload_n (pc := 905) C 0 dL_law_905 rfl ?_
  refine ww_iload_n (pc := 906) C 3 dL_law_906 rfl ?_
  refine ww_iconst (pc := 907) (v := (3 : Int32)) C dL_law_907 (by decide) ?_
  refine ww_iadd (pc := 908) C dL_law_908 ?_
  obtain ⟨v6, e5, hf⟩ := xbd hf
  refine ww_sld (pc := 909) C hS e5 dL_law_909 ?_
  obtain ⟨_, e7, hf⟩ := xbd hf
  obtain ⟨v9, e8, hf⟩ := xbd hf
  refine ww_callVi (pc := 910) (as := [.int v2, .int v4, .int v6]) (st := [.int t0]) C (k_X12_rows (l := gl G) (E := gE G) (hb := gB G) (σ := σ) e8) rfl (by decide) xc_L_116 q1711 q1712 (xck_spec e7) rfl (by decide) (xst4 (Nat.le_of_ble_eq_true rfl)) xsame.rf.le xsame.rf.lim dL_law_910 ?_
  refine ww_icmp_eq (pc := 913) (tgt := 1291) C dL_law_913 (by decide) (fun q => ?_) (fun q => ?_)
  · have hf := xip q hf
    refine ww_iinc (pc := 1291) (v := x3 + (6 : Int32)) (lv' := [(3, .int (x3 + (6 : Int32))), (0, .ref b), (1, .ref (gB G + r1)), (2, .ref (gB G + r2))]) C 3 dL_law_1291 rfl (congrArg (fun z => x3 + z) (show Int32.ofInt (6) = (6 : Int32) by decide)) (by decide) rfl ?_
    refine ww_goto (pc := 1294) (tgt := 18) C dL_law_1294 (by decide) ?_
    have hf := xsj hf
    subst hf
    refine ww_sub [1, 2, 3, 0] rfl ?_
    exact (hk.1 (x3 + (6 : Int32), σ) rfl).2
  · have hf := xin q hf
    obtain ⟨b0, hg, e9⟩ := xmj hf
    subst e9
    have hf := hg
    have hk := hk.2 _ rfl
    refine ww_iconst (pc := 916) (v := (0 : Int32)) C dL_law_916 (by decide) ?_
    have hf := xsj hf
    subst hf
    exact ww_lawret (pc := 917) C hS hk dL_law_917
theorem m_L_law_j894 {L : Nat} {xs : Nat → Int32} {σ : XS} {r1 : Nat} {r2 : Nat} {x3 : Int32} {t0 : Int32} {x : ((Int32 × XS) ⊕ (Int32 × XS))} (hf : f_L_law_j894 L xs σ r1 r2 x3 t0 = some x) : (∀ a' : Int32 × XS, x = .inl a' → xext σ a'.2) ∧ (∀ b1 : Int32 × XS, x = .inr b1 → xext σ b1.2) := by
  have hm := xext.rf (σ := σ)
  obtain ⟨v2, e1, hf⟩ := xbd hf
  obtain ⟨v4, e3, hf⟩ := xbd hf
  obtain ⟨v6, e5, hf⟩ := xbd hf
  obtain ⟨_, e7, hf⟩ := xbd hf
  obtain ⟨v9, e8, hf⟩ := xbd hf
  by_cases q : t0 = v9
  · have hf := xip q hf
    have hf := xsj hf
    subst hf
    exact ⟨fun a' e => (by have h9 := Sum.inl.inj e; subst h9; exact hm), fun b e => xnc1 e⟩
  · have hf := xin q hf
    obtain ⟨b0, hg, e9⟩ := xmj hf
    subst e9
    have hf := hg
    refine ⟨fun a' e => xnc2 e, fun b e => ?_⟩
    have h9 := Sum.inr.inj e
    subst h9
    have hf := xsj hf
    subst hf
    exact hm
theorem s_L_law_j950 {G : XG} (C : XC G cL_law RL (some .boolean) 4 13 470) {b L : Nat} {xs : Nat → Int32} (hS : XScr G b L xs) {σ : XS} {r1 : Nat} {r2 : Nat} {x3 : Int32} {t0 : Int32} {x : ((Int32 × XS) ⊕ (Int32 × XS))} (hf : f_L_law_j950 L xs σ r1 r2 x3 t0 = some x) (hk : (∀ a' : Int32 × XS, x = .inl a' → XUp G a'.2 ∧ WW G 18 [(0, .ref b), (1, .ref (gB G + r1)), (2, .ref (gB G + r2)), (3, .int a'.1)] [] a'.2) ∧ (∀ b1 : Int32 × XS, x = .inr b1 → XEndL G b b1)) : WW G 950 [(0, .ref b), (1, .ref (gB G + r1)), (2, .ref (gB G + r2)), (3, .int x3)] [.int t0] σ := by
  refine ww_aload_n (pc := 950) C 2 dL_law_950 rfl ?_
  refine ww_aload_n (pc := 951) C 0 dL_law_951 rfl ?_
  refine ww_iload_n (pc := 952) C 3 dL_law_952 rfl ?_
  refine ww_iconst (pc := 953) (v := (1 : Int32)) C dL_law_953 (by decide) ?_
  refine ww_iadd (pc := 954) C dL_law_954 ?_
  obtain ⟨v2, e1, hf⟩ := xbd hf
  refine ww_sld (pc := 955) C hS e1 dL_law_955 ?_
  obtain ⟨_, e3, hf⟩ := xbd hf
  obtain ⟨⟨v6, σ5⟩, e4, hf⟩ := xbd hf
  dsimp only at hf
  refine ww_callVi (pc := 956) (as := [.int v2]) (st := [.int t0]) C (k_X12_overlap (l := gl G) (E := gE G) (hb := gB G) (σ := σ) e4) rfl (by decide) xc_L_124 q1707 q1708 (xck_spec e3) rfl (by decide) (xst4 (Nat.le_of_ble_eq_true rfl)) (m_X12_overlap e4).le (m_X12_overlap e4).lim dL_law_956 ?_
  refine ww_icmp_eq (pc := 959) (tgt := 1291) C dL_law_959 (by decide) (fun q => ?_) (fun q => ?_)
  · have hf := xip q hf
    refine ww_iinc (pc := 1291) (v := x3 + (6 : Int32)) (lv' := [(3, .int (x3 + (6 : Int32))), (0, .ref b), (1, .ref (gB G + r1)), (2, .ref (gB G + r2))]) C 3 dL_law_1291 rfl (congrArg (fun z => x3 + z) (show Int32.ofInt (6) = (6 : Int32) by decide)) (by decide) rfl ?_
    refine ww_goto (pc := 1294) (tgt := 18) C dL_law_1294 (by decide) ?_
    have hf := xsj hf
    subst hf
    refine ww_sub [1, 2, 3, 0] rfl ?_
    exact (hk.1 (x3 + (6 : Int32), σ5) rfl).2
  · have hf := xin q hf
    obtain ⟨b0, hg, e9⟩ := xmj hf
    subst e9
    have hf := hg
    have hk := hk.2 _ rfl
    refine ww_iconst (pc := 962) (v := (0 : Int32)) C dL_law_962 (by decide) ?_
    have hf := xsj hf
    subst hf
    exact ww_lawret (pc := 963) C hS hk dL_law_963
theorem m_L_law_j950 {L : Nat} {xs : Nat → Int32} {σ : XS} {r1 : Nat} {r2 : Nat} {x3 : Int32} {t0 : Int32} {x : ((Int32 × XS) ⊕ (Int32 × XS))} (hf : f_L_law_j950 L xs σ r1 r2 x3 t0 = some x) : (∀ a' : Int32 × XS, x = .inl a' → xext σ a'.2) ∧ (∀ b1 : Int32 × XS, x = .inr b1 → xext σ b1.2) := by
  have hm := xext.rf (σ := σ)
  obtain ⟨v2, e1, hf⟩ := xbd hf
  obtain ⟨_, e3, hf⟩ := xbd hf
  obtain ⟨⟨v6, σ5⟩, e4, hf⟩ := xbd hf
  dsimp only at hf
  have hm := hm.tr (m_X12_overlap e4).ext
  by_cases q : t0 = v6
  · have hf := xip q hf
    have hf := xsj hf
    subst hf
    exact ⟨fun a' e => (by have h9 := Sum.inl.inj e; subst h9; exact hm), fun b e => xnc1 e⟩
  · have hf := xin q hf
    obtain ⟨b0, hg, e9⟩ := xmj hf
    subst e9
    have hf := hg
    refine ⟨fun a' e => xnc2 e, fun b e => ?_⟩
    have h9 := Sum.inr.inj e
    subst h9
    have hf := xsj hf
    subst hf
    exact hm
theorem s_L_law_j973 {G : XG} (C : XC G cL_law RL (some .boolean) 4 13 470) {b L : Nat} {xs : Nat → Int32} (hS : XScr G b L xs) {σ : XS} {r1 : Nat} {r2 : Nat} {x3 : Int32} {t0 : Int32} {x : ((Int32 × XS) ⊕ (Int32 × XS))} (hf : f_L_law_j973 L xs σ r1 r2 x3 t0 = some x) (hk : (∀ a' : Int32 × XS, x = .inl a' → XUp G a'.2 ∧ WW G 18 [(0, .ref b), (1, .ref (gB G + r1)), (2, .ref (gB G + r2)), (3, .int a'.1)] [] a'.2) ∧ (∀ b1 : Int32 × XS, x = .inr b1 → XEndL G b b1)) : WW G 973 [(0, .ref b), (1, .ref (gB G + r1)), (2, .ref (gB G + r2)), (3, .int x3)] [.int t0] σ := by
  refine ww_aload_n (pc := 973) C 2 dL_law_973 rfl ?_
  refine ww_aload_n (pc := 974) C 0 dL_law_974 rfl ?_
  refine ww_iload_n (pc := 975) C 3 dL_law_975 rfl ?_
  refine ww_iconst (pc := 976) (v := (1 : Int32)) C dL_law_976 (by decide) ?_
  refine ww_iadd (pc := 977) C dL_law_977 ?_
  obtain ⟨v2, e1, hf⟩ := xbd hf
  refine ww_sld (pc := 978) C hS e1 dL_law_978 ?_
  obtain ⟨_, e3, hf⟩ := xbd hf
  obtain ⟨⟨v6, σ5⟩, e4, hf⟩ := xbd hf
  dsimp only at hf
  refine ww_callVi (pc := 979) (as := [.int v2]) (st := [.int t0]) C (k_X12_basin (l := gl G) (E := gE G) (hb := gB G) (σ := σ) e4) rfl (by decide) xc_L_128 q1675 q1676 (xck_spec e3) rfl (by decide) (xst4 (Nat.le_of_ble_eq_true rfl)) (m_X12_basin e4).le (m_X12_basin e4).lim dL_law_979 ?_
  refine ww_icmp_eq (pc := 982) (tgt := 1291) C dL_law_982 (by decide) (fun q => ?_) (fun q => ?_)
  · have hf := xip q hf
    refine ww_iinc (pc := 1291) (v := x3 + (6 : Int32)) (lv' := [(3, .int (x3 + (6 : Int32))), (0, .ref b), (1, .ref (gB G + r1)), (2, .ref (gB G + r2))]) C 3 dL_law_1291 rfl (congrArg (fun z => x3 + z) (show Int32.ofInt (6) = (6 : Int32) by decide)) (by decide) rfl ?_
    refine ww_goto (pc := 1294) (tgt := 18) C dL_law_1294 (by decide) ?_
    have hf := xsj hf
    subst hf
    refine ww_sub [1, 2, 3, 0] rfl ?_
    exact (hk.1 (x3 + (6 : Int32), σ5) rfl).2
  · have hf := xin q hf
    obtain ⟨b0, hg, e9⟩ := xmj hf
    subst e9
    have hf := hg
    have hk := hk.2 _ rfl
    refine ww_iconst (pc := 985) (v := (0 : Int32)) C dL_law_985 (by decide) ?_
    have hf := xsj hf
    subst hf
    exact ww_lawret (pc := 986) C hS hk dL_law_986
theorem m_L_law_j973 {L : Nat} {xs : Nat → Int32} {σ : XS} {r1 : Nat} {r2 : Nat} {x3 : Int32} {t0 : Int32} {x : ((Int32 × XS) ⊕ (Int32 × XS))} (hf : f_L_law_j973 L xs σ r1 r2 x3 t0 = some x) : (∀ a' : Int32 × XS, x = .inl a' → xext σ a'.2) ∧ (∀ b1 : Int32 × XS, x = .inr b1 → xext σ b1.2) := by
  have hm := xext.rf (σ := σ)
  obtain ⟨v2, e1, hf⟩ := xbd hf
  obtain ⟨_, e3, hf⟩ := xbd hf
  obtain ⟨⟨v6, σ5⟩, e4, hf⟩ := xbd hf
  dsimp only at hf
  have hm := hm.tr (m_X12_basin e4).ext
  by_cases q : t0 = v6
  · have hf := xip q hf
    have hf := xsj hf
    subst hf
    exact ⟨fun a' e => (by have h9 := Sum.inl.inj e; subst h9; exact hm), fun b e => xnc1 e⟩
  · have hf := xin q hf
    obtain ⟨b0, hg, e9⟩ := xmj hf
    subst e9
    have hf := hg
    refine ⟨fun a' e => xnc2 e, fun b e => ?_⟩
    have h9 := Sum.inr.inj e
    subst h9
    have hf := xsj hf
    subst hf
    exact hm
theorem s_L_law_j1001 {G : XG} (C : XC G cL_law RL (some .boolean) 4 13 470) {b L : Nat} {xs : Nat → Int32} (hS : XScr G b L xs) {σ : XS} {r1 : Nat} {r2 : Nat} {x3 : Int32} {t0 : Int32} {x : ((Int32 × XS) ⊕ (Int32 × XS))} (hf : f_L_law_j1001 L xs σ r1 r2 x3 t0 = some x) (hk : (∀ a' : Int32 × XS, x = .inl a' → XUp G a'.2 ∧ WW G 18 [(0, .ref b), (1, .ref (gB G + r1)), (2, .ref (gB G + r2)), (3, .int a'.1)] [] a'.2) ∧ (∀ b1 : Int32 × XS, x = .inr b1 → XEndL G b b1)) : WW G 1001 [(0, .ref b), (1, .ref (gB G + r1)), (2, .ref (gB G + r2)), (3, .int x3)] [.int t0] σ := by
  refine ww_aload_n (pc := 1001) C 2 dL_law_1001 rfl ?_
  refine ww_aload_n (pc := 1002) C 0 dL_law_1002 rfl ?_
  refine ww_iload_n (pc := 1003) C 3 dL_law_1003 rfl ?_
  refine ww_iconst (pc := 1004) (v := (1 : Int32)) C dL_law_1004 (by decide) ?_
  refine ww_iadd (pc := 1005) C dL_law_1005 ?_
  obtain ⟨v2, e1, hf⟩ := xbd hf
  refine ww_sld (pc := 1006) C hS e1 dL_law_1006 ?_
  refine ww_aload_n (pc := 1007) C 0 dL_law_1007 rfl ?_
  refine ww_iload_n (pc := 1008) C 3 dL_law_1008 rfl ?_
  refine ww_iconst (pc := 1009) (v := (2 : Int32)) C dL_law_1009 (by decide) ?_
  refine ww_iadd (pc := 1010) C dL_law_1010 ?_
  obtain ⟨v4, e3, hf⟩ := xbd hf
  refine ww_sld (pc := 1011) C hS e3 dL_law_1011 ?_
  obtain ⟨_, e5, hf⟩ := xbd hf
  obtain ⟨⟨v8, σ7⟩, e6, hf⟩ := xbd hf
  dsimp only at hf
  refine ww_callVi (pc := 1012) (as := [.int v2, .int v4]) (st := [.int t0]) C (k_X12_stiff (l := gl G) (E := gE G) (hb := gB G) (σ := σ) e6) rfl (by decide) xc_L_132 q1703 q1704 (xck_spec e5) rfl (by decide) (xst4 (Nat.le_of_ble_eq_true rfl)) (m_X12_stiff e6).le (m_X12_stiff e6).lim dL_law_1012 ?_
  refine ww_icmp_eq (pc := 1015) (tgt := 1291) C dL_law_1015 (by decide) (fun q => ?_) (fun q => ?_)
  · have hf := xip q hf
    refine ww_iinc (pc := 1291) (v := x3 + (6 : Int32)) (lv' := [(3, .int (x3 + (6 : Int32))), (0, .ref b), (1, .ref (gB G + r1)), (2, .ref (gB G + r2))]) C 3 dL_law_1291 rfl (congrArg (fun z => x3 + z) (show Int32.ofInt (6) = (6 : Int32) by decide)) (by decide) rfl ?_
    refine ww_goto (pc := 1294) (tgt := 18) C dL_law_1294 (by decide) ?_
    have hf := xsj hf
    subst hf
    refine ww_sub [1, 2, 3, 0] rfl ?_
    exact (hk.1 (x3 + (6 : Int32), σ7) rfl).2
  · have hf := xin q hf
    obtain ⟨b0, hg, e9⟩ := xmj hf
    subst e9
    have hf := hg
    have hk := hk.2 _ rfl
    refine ww_iconst (pc := 1018) (v := (0 : Int32)) C dL_law_1018 (by decide) ?_
    have hf := xsj hf
    subst hf
    exact ww_lawret (pc := 1019) C hS hk dL_law_1019
theorem m_L_law_j1001 {L : Nat} {xs : Nat → Int32} {σ : XS} {r1 : Nat} {r2 : Nat} {x3 : Int32} {t0 : Int32} {x : ((Int32 × XS) ⊕ (Int32 × XS))} (hf : f_L_law_j1001 L xs σ r1 r2 x3 t0 = some x) : (∀ a' : Int32 × XS, x = .inl a' → xext σ a'.2) ∧ (∀ b1 : Int32 × XS, x = .inr b1 → xext σ b1.2) := by
  have hm := xext.rf (σ := σ)
  obtain ⟨v2, e1, hf⟩ := xbd hf
  obtain ⟨v4, e3, hf⟩ := xbd hf
  obtain ⟨_, e5, hf⟩ := xbd hf
  obtain ⟨⟨v8, σ7⟩, e6, hf⟩ := xbd hf
  dsimp only at hf
  have hm := hm.tr (m_X12_stiff e6).ext
  by_cases q : t0 = v8
  · have hf := xip q hf
    have hf := xsj hf
    subst hf
    exact ⟨fun a' e => (by have h9 := Sum.inl.inj e; subst h9; exact hm), fun b e => xnc1 e⟩
  · have hf := xin q hf
    obtain ⟨b0, hg, e9⟩ := xmj hf
    subst e9
    have hf := hg
    refine ⟨fun a' e => xnc2 e, fun b e => ?_⟩
    have h9 := Sum.inr.inj e
    subst h9
    have hf := xsj hf
    subst hf
    exact hm
theorem s_L_law_j1029 {G : XG} (C : XC G cL_law RL (some .boolean) 4 13 470) {b L : Nat} {xs : Nat → Int32} (hS : XScr G b L xs) {σ : XS} {r1 : Nat} {r2 : Nat} {x3 : Int32} {t0 : Int32} {x : ((Int32 × XS) ⊕ (Int32 × XS))} (hf : f_L_law_j1029 L xs σ r1 r2 x3 t0 = some x) (hk : (∀ a' : Int32 × XS, x = .inl a' → XUp G a'.2 ∧ WW G 18 [(0, .ref b), (1, .ref (gB G + r1)), (2, .ref (gB G + r2)), (3, .int a'.1)] [] a'.2) ∧ (∀ b1 : Int32 × XS, x = .inr b1 → XEndL G b b1)) : WW G 1029 [(0, .ref b), (1, .ref (gB G + r1)), (2, .ref (gB G + r2)), (3, .int x3)] [.int t0] σ := by
  refine ww_aload_n (pc := 1029) C 2 dL_law_1029 rfl ?_
  refine ww_aload_n (pc := 1030) C 0 dL_law_1030 rfl ?_
  refine ww_iload_n (pc := 1031) C 3 dL_law_1031 rfl ?_
  refine ww_iconst (pc := 1032) (v := (1 : Int32)) C dL_law_1032 (by decide) ?_
  refine ww_iadd (pc := 1033) C dL_law_1033 ?_
  obtain ⟨v2, e1, hf⟩ := xbd hf
  refine ww_sld (pc := 1034) C hS e1 dL_law_1034 ?_
  obtain ⟨_, e3, hf⟩ := xbd hf
  obtain ⟨⟨v6, σ5⟩, e4, hf⟩ := xbd hf
  dsimp only at hf
  refine ww_callVi (pc := 1035) (as := [.int v2]) (st := [.int t0]) C (k_X12_hill (l := gl G) (E := gE G) (hb := gB G) (σ := σ) e4) rfl (by decide) xc_L_136 q1679 q1680 (xck_spec e3) rfl (by decide) (xst4 (Nat.le_of_ble_eq_true rfl)) (m_X12_hill e4).le (m_X12_hill e4).lim dL_law_1035 ?_
  refine ww_icmp_eq (pc := 1038) (tgt := 1291) C dL_law_1038 (by decide) (fun q => ?_) (fun q => ?_)
  · have hf := xip q hf
    refine ww_iinc (pc := 1291) (v := x3 + (6 : Int32)) (lv' := [(3, .int (x3 + (6 : Int32))), (0, .ref b), (1, .ref (gB G + r1)), (2, .ref (gB G + r2))]) C 3 dL_law_1291 rfl (congrArg (fun z => x3 + z) (show Int32.ofInt (6) = (6 : Int32) by decide)) (by decide) rfl ?_
    refine ww_goto (pc := 1294) (tgt := 18) C dL_law_1294 (by decide) ?_
    have hf := xsj hf
    subst hf
    refine ww_sub [1, 2, 3, 0] rfl ?_
    exact (hk.1 (x3 + (6 : Int32), σ5) rfl).2
  · have hf := xin q hf
    obtain ⟨b0, hg, e9⟩ := xmj hf
    subst e9
    have hf := hg
    have hk := hk.2 _ rfl
    refine ww_iconst (pc := 1041) (v := (0 : Int32)) C dL_law_1041 (by decide) ?_
    have hf := xsj hf
    subst hf
    exact ww_lawret (pc := 1042) C hS hk dL_law_1042
theorem m_L_law_j1029 {L : Nat} {xs : Nat → Int32} {σ : XS} {r1 : Nat} {r2 : Nat} {x3 : Int32} {t0 : Int32} {x : ((Int32 × XS) ⊕ (Int32 × XS))} (hf : f_L_law_j1029 L xs σ r1 r2 x3 t0 = some x) : (∀ a' : Int32 × XS, x = .inl a' → xext σ a'.2) ∧ (∀ b1 : Int32 × XS, x = .inr b1 → xext σ b1.2) := by
  have hm := xext.rf (σ := σ)
  obtain ⟨v2, e1, hf⟩ := xbd hf
  obtain ⟨_, e3, hf⟩ := xbd hf
  obtain ⟨⟨v6, σ5⟩, e4, hf⟩ := xbd hf
  dsimp only at hf
  have hm := hm.tr (m_X12_hill e4).ext
  by_cases q : t0 = v6
  · have hf := xip q hf
    have hf := xsj hf
    subst hf
    exact ⟨fun a' e => (by have h9 := Sum.inl.inj e; subst h9; exact hm), fun b e => xnc1 e⟩
  · have hf := xin q hf
    obtain ⟨b0, hg, e9⟩ := xmj hf
    subst e9
    have hf := hg
    refine ⟨fun a' e => xnc2 e, fun b e => ?_⟩
    have h9 := Sum.inr.inj e
    subst h9
    have hf := xsj hf
    subst hf
    exact hm
theorem s_L_law_j1057 {G : XG} (C : XC G cL_law RL (some .boolean) 4 13 470) {b L : Nat} {xs : Nat → Int32} (hS : XScr G b L xs) {σ : XS} {r1 : Nat} {r2 : Nat} {x3 : Int32} {t0 : Int32} {x : ((Int32 × XS) ⊕ (Int32 × XS))} (hf : f_L_law_j1057 L xs σ r1 r2 x3 t0 = some x) (hk : (∀ a' : Int32 × XS, x = .inl a' → XUp G a'.2 ∧ WW G 18 [(0, .ref b), (1, .ref (gB G + r1)), (2, .ref (gB G + r2)), (3, .int a'.1)] [] a'.2) ∧ (∀ b1 : Int32 × XS, x = .inr b1 → XEndL G b b1)) : WW G 1057 [(0, .ref b), (1, .ref (gB G + r1)), (2, .ref (gB G + r2)), (3, .int x3)] [.int t0] σ := by
  refine ww_aload_n (pc := 1057) C 2 dL_law_1057 rfl ?_
  refine ww_aload_n (pc := 1058) C 0 dL_law_1058 rfl ?_
  refine ww_iload_n (pc := 1059) C 3 dL_law_1059 rfl ?_
  refine ww_iconst (pc := 1060) (v := (1 : Int32)) C dL_law_1060 (by decide) ?_
  refine ww_iadd (pc := 1061) C dL_law_1061 ?_
  obtain ⟨v2, e1, hf⟩ := xbd hf
  refine ww_sld (pc := 1062) C hS e1 dL_law_1062 ?_
  refine ww_aload_n (pc := 1063) C 0 dL_law_1063 rfl ?_
  refine ww_iload_n (pc := 1064) C 3 dL_law_1064 rfl ?_
  refine ww_iconst (pc := 1065) (v := (2 : Int32)) C dL_law_1065 (by decide) ?_
  refine ww_iadd (pc := 1066) C dL_law_1066 ?_
  obtain ⟨v4, e3, hf⟩ := xbd hf
  refine ww_sld (pc := 1067) C hS e3 dL_law_1067 ?_
  obtain ⟨_, e5, hf⟩ := xbd hf
  obtain ⟨⟨v8, σ7⟩, e6, hf⟩ := xbd hf
  dsimp only at hf
  refine ww_callVi (pc := 1068) (as := [.int v2, .int v4]) (st := [.int t0]) C (k_X12_pass (l := gl G) (E := gE G) (hb := gB G) (σ := σ) e6) rfl (by decide) xc_L_140 q1687 q1688 (xck_spec e5) rfl (by decide) (xst4 (Nat.le_of_ble_eq_true rfl)) (m_X12_pass e6).le (m_X12_pass e6).lim dL_law_1068 ?_
  refine ww_icmp_eq (pc := 1071) (tgt := 1291) C dL_law_1071 (by decide) (fun q => ?_) (fun q => ?_)
  · have hf := xip q hf
    refine ww_iinc (pc := 1291) (v := x3 + (6 : Int32)) (lv' := [(3, .int (x3 + (6 : Int32))), (0, .ref b), (1, .ref (gB G + r1)), (2, .ref (gB G + r2))]) C 3 dL_law_1291 rfl (congrArg (fun z => x3 + z) (show Int32.ofInt (6) = (6 : Int32) by decide)) (by decide) rfl ?_
    refine ww_goto (pc := 1294) (tgt := 18) C dL_law_1294 (by decide) ?_
    have hf := xsj hf
    subst hf
    refine ww_sub [1, 2, 3, 0] rfl ?_
    exact (hk.1 (x3 + (6 : Int32), σ7) rfl).2
  · have hf := xin q hf
    obtain ⟨b0, hg, e9⟩ := xmj hf
    subst e9
    have hf := hg
    have hk := hk.2 _ rfl
    refine ww_iconst (pc := 1074) (v := (0 : Int32)) C dL_law_1074 (by decide) ?_
    have hf := xsj hf
    subst hf
    exact ww_lawret (pc := 1075) C hS hk dL_law_1075
theorem m_L_law_j1057 {L : Nat} {xs : Nat → Int32} {σ : XS} {r1 : Nat} {r2 : Nat} {x3 : Int32} {t0 : Int32} {x : ((Int32 × XS) ⊕ (Int32 × XS))} (hf : f_L_law_j1057 L xs σ r1 r2 x3 t0 = some x) : (∀ a' : Int32 × XS, x = .inl a' → xext σ a'.2) ∧ (∀ b1 : Int32 × XS, x = .inr b1 → xext σ b1.2) := by
  have hm := xext.rf (σ := σ)
  obtain ⟨v2, e1, hf⟩ := xbd hf
  obtain ⟨v4, e3, hf⟩ := xbd hf
  obtain ⟨_, e5, hf⟩ := xbd hf
  obtain ⟨⟨v8, σ7⟩, e6, hf⟩ := xbd hf
  dsimp only at hf
  have hm := hm.tr (m_X12_pass e6).ext
  by_cases q : t0 = v8
  · have hf := xip q hf
    have hf := xsj hf
    subst hf
    exact ⟨fun a' e => (by have h9 := Sum.inl.inj e; subst h9; exact hm), fun b e => xnc1 e⟩
  · have hf := xin q hf
    obtain ⟨b0, hg, e9⟩ := xmj hf
    subst e9
    have hf := hg
    refine ⟨fun a' e => xnc2 e, fun b e => ?_⟩
    have h9 := Sum.inr.inj e
    subst h9
    have hf := xsj hf
    subst hf
    exact hm
theorem s_L_law_j1085 {G : XG} (C : XC G cL_law RL (some .boolean) 4 13 470) {b L : Nat} {xs : Nat → Int32} (hS : XScr G b L xs) {σ : XS} {r1 : Nat} {r2 : Nat} {x3 : Int32} {t0 : Int32} {x : ((Int32 × XS) ⊕ (Int32 × XS))} (hf : f_L_law_j1085 L xs σ r1 r2 x3 t0 = some x) (hk : (∀ a' : Int32 × XS, x = .inl a' → XUp G a'.2 ∧ WW G 18 [(0, .ref b), (1, .ref (gB G + r1)), (2, .ref (gB G + r2)), (3, .int a'.1)] [] a'.2) ∧ (∀ b1 : Int32 × XS, x = .inr b1 → XEndL G b b1)) : WW G 1085 [(0, .ref b), (1, .ref (gB G + r1)), (2, .ref (gB G + r2)), (3, .int x3)] [.int t0] σ := by
  refine ww_aload_n (pc := 1085) C 2 dL_law_1085 rfl ?_
  refine ww_aload_n (pc := 1086) C 0 dL_law_1086 rfl ?_
  refine ww_iload_n (pc := 1087) C 3 dL_law_1087 rfl ?_
  refine ww_iconst (pc := 1088) (v := (1 : Int32)) C dL_law_1088 (by decide) ?_
  refine ww_iadd (pc := 1089) C dL_law_1089 ?_
  obtain ⟨v2, e1, hf⟩ := xbd hf
  refine ww_sld (pc := 1090) C hS e1 dL_law_1090 ?_
  obtain ⟨_, e3, hf⟩ := xbd hf
  obtain ⟨⟨v6, σ5⟩, e4, hf⟩ := xbd hf
  dsimp only at hf
  refine ww_callVi (pc := 1091) (as := [.int v2]) (st := [.int t0]) C (k_X12_lakes (l := gl G) (E := gE G) (hb := gB G) (σ := σ) e4) rfl (by decide) xc_L_144 q1691 q1692 (xck_spec e3) rfl (by decide) (xst4 (Nat.le_of_ble_eq_true rfl)) (m_X12_lakes e4).le (m_X12_lakes e4).lim dL_law_1091 ?_
  refine ww_icmp_eq (pc := 1094) (tgt := 1291) C dL_law_1094 (by decide) (fun q => ?_) (fun q => ?_)
  · have hf := xip q hf
    refine ww_iinc (pc := 1291) (v := x3 + (6 : Int32)) (lv' := [(3, .int (x3 + (6 : Int32))), (0, .ref b), (1, .ref (gB G + r1)), (2, .ref (gB G + r2))]) C 3 dL_law_1291 rfl (congrArg (fun z => x3 + z) (show Int32.ofInt (6) = (6 : Int32) by decide)) (by decide) rfl ?_
    refine ww_goto (pc := 1294) (tgt := 18) C dL_law_1294 (by decide) ?_
    have hf := xsj hf
    subst hf
    refine ww_sub [1, 2, 3, 0] rfl ?_
    exact (hk.1 (x3 + (6 : Int32), σ5) rfl).2
  · have hf := xin q hf
    obtain ⟨b0, hg, e9⟩ := xmj hf
    subst e9
    have hf := hg
    have hk := hk.2 _ rfl
    refine ww_iconst (pc := 1097) (v := (0 : Int32)) C dL_law_1097 (by decide) ?_
    have hf := xsj hf
    subst hf
    exact ww_lawret (pc := 1098) C hS hk dL_law_1098
theorem m_L_law_j1085 {L : Nat} {xs : Nat → Int32} {σ : XS} {r1 : Nat} {r2 : Nat} {x3 : Int32} {t0 : Int32} {x : ((Int32 × XS) ⊕ (Int32 × XS))} (hf : f_L_law_j1085 L xs σ r1 r2 x3 t0 = some x) : (∀ a' : Int32 × XS, x = .inl a' → xext σ a'.2) ∧ (∀ b1 : Int32 × XS, x = .inr b1 → xext σ b1.2) := by
  have hm := xext.rf (σ := σ)
  obtain ⟨v2, e1, hf⟩ := xbd hf
  obtain ⟨_, e3, hf⟩ := xbd hf
  obtain ⟨⟨v6, σ5⟩, e4, hf⟩ := xbd hf
  dsimp only at hf
  have hm := hm.tr (m_X12_lakes e4).ext
  by_cases q : t0 = v6
  · have hf := xip q hf
    have hf := xsj hf
    subst hf
    exact ⟨fun a' e => (by have h9 := Sum.inl.inj e; subst h9; exact hm), fun b e => xnc1 e⟩
  · have hf := xin q hf
    obtain ⟨b0, hg, e9⟩ := xmj hf
    subst e9
    have hf := hg
    refine ⟨fun a' e => xnc2 e, fun b e => ?_⟩
    have h9 := Sum.inr.inj e
    subst h9
    have hf := xsj hf
    subst hf
    exact hm
theorem s_L_law_j1108 {G : XG} (C : XC G cL_law RL (some .boolean) 4 13 470) {b L : Nat} {xs : Nat → Int32} (hS : XScr G b L xs) {σ : XS} {r1 : Nat} {r2 : Nat} {x3 : Int32} {t0 : Int64} {x : ((Int32 × XS) ⊕ (Int32 × XS))} (hf : f_L_law_j1108 L xs σ r1 r2 x3 t0 = some x) (hk : (∀ a' : Int32 × XS, x = .inl a' → XUp G a'.2 ∧ WW G 18 [(0, .ref b), (1, .ref (gB G + r1)), (2, .ref (gB G + r2)), (3, .int a'.1)] [] a'.2) ∧ (∀ b1 : Int32 × XS, x = .inr b1 → XEndL G b b1)) : WW G 1108 [(0, .ref b), (1, .ref (gB G + r1)), (2, .ref (gB G + r2)), (3, .int x3)] [.long t0] σ := by
  refine ww_aload_n (pc := 1108) C 2 dL_law_1108 rfl ?_
  refine ww_aload_n (pc := 1109) C 0 dL_law_1109 rfl ?_
  refine ww_iload_n (pc := 1110) C 3 dL_law_1110 rfl ?_
  refine ww_iconst (pc := 1111) (v := (1 : Int32)) C dL_law_1111 (by decide) ?_
  refine ww_iadd (pc := 1112) C dL_law_1112 ?_
  obtain ⟨v2, e1, hf⟩ := xbd hf
  refine ww_sld (pc := 1113) C hS e1 dL_law_1113 ?_
  obtain ⟨_, e3, hf⟩ := xbd hf
  obtain ⟨⟨v6, σ5⟩, e4, hf⟩ := xbd hf
  dsimp only at hf
  refine ww_callVj (pc := 1114) (as := [.int v2]) (st := [.long t0]) C (k_X12_down (l := gl G) (E := gE G) (hb := gB G) (σ := σ) e4) rfl (by decide) xc_L_149 q1695 q1696 (xck_spec e3) rfl (by decide) (xst4 (Nat.le_of_ble_eq_true rfl)) (m_X12_down e4).le (m_X12_down e4).lim dL_law_1114 ?_
  refine ww_lcmp (pc := 1117) C dL_law_1117 ?_
  refine ww_if_eq (pc := 1118) (tgt := 1291) C dL_law_1118 (by decide) (fun q => ?_) (fun q => ?_)
  · have hf := xip q hf
    refine ww_iinc (pc := 1291) (v := x3 + (6 : Int32)) (lv' := [(3, .int (x3 + (6 : Int32))), (0, .ref b), (1, .ref (gB G + r1)), (2, .ref (gB G + r2))]) C 3 dL_law_1291 rfl (congrArg (fun z => x3 + z) (show Int32.ofInt (6) = (6 : Int32) by decide)) (by decide) rfl ?_
    refine ww_goto (pc := 1294) (tgt := 18) C dL_law_1294 (by decide) ?_
    have hf := xsj hf
    subst hf
    refine ww_sub [1, 2, 3, 0] rfl ?_
    exact (hk.1 (x3 + (6 : Int32), σ5) rfl).2
  · have hf := xin q hf
    obtain ⟨b0, hg, e9⟩ := xmj hf
    subst e9
    have hf := hg
    have hk := hk.2 _ rfl
    refine ww_iconst (pc := 1121) (v := (0 : Int32)) C dL_law_1121 (by decide) ?_
    have hf := xsj hf
    subst hf
    exact ww_lawret (pc := 1122) C hS hk dL_law_1122
theorem m_L_law_j1108 {L : Nat} {xs : Nat → Int32} {σ : XS} {r1 : Nat} {r2 : Nat} {x3 : Int32} {t0 : Int64} {x : ((Int32 × XS) ⊕ (Int32 × XS))} (hf : f_L_law_j1108 L xs σ r1 r2 x3 t0 = some x) : (∀ a' : Int32 × XS, x = .inl a' → xext σ a'.2) ∧ (∀ b1 : Int32 × XS, x = .inr b1 → xext σ b1.2) := by
  have hm := xext.rf (σ := σ)
  obtain ⟨v2, e1, hf⟩ := xbd hf
  obtain ⟨_, e3, hf⟩ := xbd hf
  obtain ⟨⟨v6, σ5⟩, e4, hf⟩ := xbd hf
  dsimp only at hf
  have hm := hm.tr (m_X12_down e4).ext
  by_cases q : (lg_cmp t0 v6) = 0
  · have hf := xip q hf
    have hf := xsj hf
    subst hf
    exact ⟨fun a' e => (by have h9 := Sum.inl.inj e; subst h9; exact hm), fun b e => xnc1 e⟩
  · have hf := xin q hf
    obtain ⟨b0, hg, e9⟩ := xmj hf
    subst e9
    have hf := hg
    refine ⟨fun a' e => xnc2 e, fun b e => ?_⟩
    have h9 := Sum.inr.inj e
    subst h9
    have hf := xsj hf
    subst hf
    exact hm
theorem s_L_law_j1137 {G : XG} (C : XC G cL_law RL (some .boolean) 4 13 470) {b L : Nat} {xs : Nat → Int32} (hS : XScr G b L xs) {σ : XS} {r1 : Nat} {r2 : Nat} {x3 : Int32} {t0 : Int32} {x : ((Int32 × XS) ⊕ (Int32 × XS))} (hf : f_L_law_j1137 L xs σ r1 r2 x3 t0 = some x) (hk : (∀ a' : Int32 × XS, x = .inl a' → XUp G a'.2 ∧ WW G 18 [(0, .ref b), (1, .ref (gB G + r1)), (2, .ref (gB G + r2)), (3, .int a'.1)] [] a'.2) ∧ (∀ b1 : Int32 × XS, x = .inr b1 → XEndL G b b1)) : WW G 1137 [(0, .ref b), (1, .ref (gB G + r1)), (2, .ref (gB G + r2)), (3, .int x3)] [.int t0] σ := by
  refine ww_aload_n (pc := 1137) C 2 dL_law_1137 rfl ?_
  refine ww_aload_n (pc := 1138) C 0 dL_law_1138 rfl ?_
  refine ww_iload_n (pc := 1139) C 3 dL_law_1139 rfl ?_
  refine ww_iconst (pc := 1140) (v := (1 : Int32)) C dL_law_1140 (by decide) ?_
  refine ww_iadd (pc := 1141) C dL_law_1141 ?_
  obtain ⟨v2, e1, hf⟩ := xbd hf
  refine ww_sld (pc := 1142) C hS e1 dL_law_1142 ?_
  refine ww_aload_n (pc := 1143) C 0 dL_law_1143 rfl ?_
  refine ww_iload_n (pc := 1144) C 3 dL_law_1144 rfl ?_
  refine ww_iconst (pc := 1145) (v := (2 : Int32)) C dL_law_1145 (by decide) ?_
  refine ww_iadd (pc := 1146) C dL_law_1146 ?_
  obtain ⟨v4, e3, hf⟩ := xbd hf
  refine ww_sld (pc := 1147) C hS e3 dL_law_1147 ?_
  obtain ⟨_, e5, hf⟩ := xbd hf
  obtain ⟨⟨v8, σ7⟩, e6, hf⟩ := xbd hf
  dsimp only at hf
  refine ww_callVi (pc := 1148) (as := [.int v2, .int v4]) (st := [.int t0]) C (k_X12_nearest (l := gl G) (E := gE G) (hb := gB G) (σ := σ) e6) rfl (by decide) xc_L_153 q1699 q1700 (xck_spec e5) rfl (by decide) (xst4 (Nat.le_of_ble_eq_true rfl)) (m_X12_nearest e6).le (m_X12_nearest e6).lim dL_law_1148 ?_
  refine ww_icmp_eq (pc := 1151) (tgt := 1291) C dL_law_1151 (by decide) (fun q => ?_) (fun q => ?_)
  · have hf := xip q hf
    refine ww_iinc (pc := 1291) (v := x3 + (6 : Int32)) (lv' := [(3, .int (x3 + (6 : Int32))), (0, .ref b), (1, .ref (gB G + r1)), (2, .ref (gB G + r2))]) C 3 dL_law_1291 rfl (congrArg (fun z => x3 + z) (show Int32.ofInt (6) = (6 : Int32) by decide)) (by decide) rfl ?_
    refine ww_goto (pc := 1294) (tgt := 18) C dL_law_1294 (by decide) ?_
    have hf := xsj hf
    subst hf
    refine ww_sub [1, 2, 3, 0] rfl ?_
    exact (hk.1 (x3 + (6 : Int32), σ7) rfl).2
  · have hf := xin q hf
    obtain ⟨b0, hg, e9⟩ := xmj hf
    subst e9
    have hf := hg
    have hk := hk.2 _ rfl
    refine ww_iconst (pc := 1154) (v := (0 : Int32)) C dL_law_1154 (by decide) ?_
    have hf := xsj hf
    subst hf
    exact ww_lawret (pc := 1155) C hS hk dL_law_1155
theorem m_L_law_j1137 {L : Nat} {xs : Nat → Int32} {σ : XS} {r1 : Nat} {r2 : Nat} {x3 : Int32} {t0 : Int32} {x : ((Int32 × XS) ⊕ (Int32 × XS))} (hf : f_L_law_j1137 L xs σ r1 r2 x3 t0 = some x) : (∀ a' : Int32 × XS, x = .inl a' → xext σ a'.2) ∧ (∀ b1 : Int32 × XS, x = .inr b1 → xext σ b1.2) := by
  have hm := xext.rf (σ := σ)
  obtain ⟨v2, e1, hf⟩ := xbd hf
  obtain ⟨v4, e3, hf⟩ := xbd hf
  obtain ⟨_, e5, hf⟩ := xbd hf
  obtain ⟨⟨v8, σ7⟩, e6, hf⟩ := xbd hf
  dsimp only at hf
  have hm := hm.tr (m_X12_nearest e6).ext
  by_cases q : t0 = v8
  · have hf := xip q hf
    have hf := xsj hf
    subst hf
    exact ⟨fun a' e => (by have h9 := Sum.inl.inj e; subst h9; exact hm), fun b e => xnc1 e⟩
  · have hf := xin q hf
    obtain ⟨b0, hg, e9⟩ := xmj hf
    subst e9
    have hf := hg
    refine ⟨fun a' e => xnc2 e, fun b e => ?_⟩
    have h9 := Sum.inr.inj e
    subst h9
    have hf := xsj hf
    subst hf
    exact hm
theorem s_L_law_j1277 {G : XG} (C : XC G cL_law RL (some .boolean) 4 13 470) {b L : Nat} {xs : Nat → Int32} (hS : XScr G b L xs) {σ : XS} {r1 : Nat} {r2 : Nat} {x3 : Int32} {t0 : Int32} {x : ((Int32 × XS) ⊕ (Int32 × XS))} (hf : f_L_law_j1277 L xs σ r1 r2 x3 t0 = some x) (hk : (∀ a' : Int32 × XS, x = .inl a' → XUp G a'.2 ∧ WW G 18 [(0, .ref b), (1, .ref (gB G + r1)), (2, .ref (gB G + r2)), (3, .int a'.1)] [] a'.2) ∧ (∀ b1 : Int32 × XS, x = .inr b1 → XEndL G b b1)) : WW G 1277 [(0, .ref b), (1, .ref (gB G + r1)), (2, .ref (gB G + r2)), (3, .int x3)] [.int t0] σ := by
  refine ww_aload_n (pc := 1277) C 2 dL_law_1277 rfl ?_
  refine ww_aload_n (pc := 1278) C 0 dL_law_1278 rfl ?_
  refine ww_iload_n (pc := 1279) C 3 dL_law_1279 rfl ?_
  refine ww_iconst (pc := 1280) (v := (1 : Int32)) C dL_law_1280 (by decide) ?_
  refine ww_iadd (pc := 1281) C dL_law_1281 ?_
  obtain ⟨v2, e1, hf⟩ := xbd hf
  refine ww_sld (pc := 1282) C hS e1 dL_law_1282 ?_
  obtain ⟨_, e3, hf⟩ := xbd hf
  obtain ⟨v5, e4, hf⟩ := xbd hf
  refine ww_callVi (pc := 1283) (as := [.int v2]) (st := [.int t0]) C (k_X12_count (l := gl G) (E := gE G) (hb := gB G) (σ := σ) e4) rfl (by decide) xc_L_173 q1736 q1737 (xck_spec e3) rfl (by decide) (xst4 (Nat.le_of_ble_eq_true rfl)) xsame.rf.le xsame.rf.lim dL_law_1283 ?_
  refine ww_icmp_eq (pc := 1286) (tgt := 1291) C dL_law_1286 (by decide) (fun q => ?_) (fun q => ?_)
  · have hf := xip q hf
    refine ww_iinc (pc := 1291) (v := x3 + (6 : Int32)) (lv' := [(3, .int (x3 + (6 : Int32))), (0, .ref b), (1, .ref (gB G + r1)), (2, .ref (gB G + r2))]) C 3 dL_law_1291 rfl (congrArg (fun z => x3 + z) (show Int32.ofInt (6) = (6 : Int32) by decide)) (by decide) rfl ?_
    refine ww_goto (pc := 1294) (tgt := 18) C dL_law_1294 (by decide) ?_
    have hf := xsj hf
    subst hf
    refine ww_sub [1, 2, 3, 0] rfl ?_
    exact (hk.1 (x3 + (6 : Int32), σ) rfl).2
  · have hf := xin q hf
    obtain ⟨b0, hg, e9⟩ := xmj hf
    subst e9
    have hf := hg
    have hk := hk.2 _ rfl
    refine ww_iconst (pc := 1289) (v := (0 : Int32)) C dL_law_1289 (by decide) ?_
    have hf := xsj hf
    subst hf
    exact ww_lawret (pc := 1290) C hS hk dL_law_1290
theorem m_L_law_j1277 {L : Nat} {xs : Nat → Int32} {σ : XS} {r1 : Nat} {r2 : Nat} {x3 : Int32} {t0 : Int32} {x : ((Int32 × XS) ⊕ (Int32 × XS))} (hf : f_L_law_j1277 L xs σ r1 r2 x3 t0 = some x) : (∀ a' : Int32 × XS, x = .inl a' → xext σ a'.2) ∧ (∀ b1 : Int32 × XS, x = .inr b1 → xext σ b1.2) := by
  have hm := xext.rf (σ := σ)
  obtain ⟨v2, e1, hf⟩ := xbd hf
  obtain ⟨_, e3, hf⟩ := xbd hf
  obtain ⟨v5, e4, hf⟩ := xbd hf
  by_cases q : t0 = v5
  · have hf := xip q hf
    have hf := xsj hf
    subst hf
    exact ⟨fun a' e => (by have h9 := Sum.inl.inj e; subst h9; exact hm), fun b e => xnc1 e⟩
  · have hf := xin q hf
    obtain ⟨b0, hg, e9⟩ := xmj hf
    subst e9
    have hf := hg
    refine ⟨fun a' e => xnc2 e, fun b e => ?_⟩
    have h9 := Sum.inr.inj e
    subst h9
    have hf := xsj hf
    subst hf
    exact hm
theorem m_L_law_l18 {L : Nat} {xs : Nat → Int32} {r1 : Nat} {r2 : Nat} {a : Int32 × XS} {x : Int32 × XS} (hf : xloop (f_L_law_b18 L xs r1 r2) a = some x) : xext a.2 x.2 := by
  refine xloop_ind (P := fun a => xext a.2 x.2) (fun a y hf hc he => ?_) hf
  obtain ⟨x3, σ⟩ := a
  have hy : (∀ a' : Int32 × XS, y = .inl a' → xext σ a'.2) ∧ (∀ b1 : Int32 × XS, y = .inr b1 → xext σ b1.2) := by
    have hm := xext.rf (σ := σ)
    by_cases q : ((Int32.ofNat L) - (6 : Int32)) < x3
    · have hf := xip q hf
      obtain ⟨b0, hg, e9⟩ := xmj hf
      subst e9
      have hf := hg
      refine ⟨fun a' e => xnc2 e, fun b e => ?_⟩
      have h9 := Sum.inr.inj e
      subst h9
      have hf := xsj hf
      subst hf
      exact hm
    · have hf := xin q hf
      obtain ⟨v2, e1, hf⟩ := xbd hf
      by_cases ho : (v2 &&& (63 : Int32)).toInt < 0 ∨ 36 < (v2 &&& (63 : Int32)).toInt
      · have hf := xsw_out ho rfl hf
        have hf := xsj hf
        subst hf
        exact ⟨fun a' e => (by have h9 := Sum.inl.inj e; subst h9; exact hm), fun b e => xnc1 e⟩
      · rcases (by omega : (v2 &&& (63 : Int32)).toInt = 0 + ((0 : Nat) : Int) ∨ (v2 &&& (63 : Int32)).toInt = 0 + ((1 : Nat) : Int) ∨ (v2 &&& (63 : Int32)).toInt = 0 + ((2 : Nat) : Int) ∨ (v2 &&& (63 : Int32)).toInt = 0 + ((3 : Nat) : Int) ∨ (v2 &&& (63 : Int32)).toInt = 0 + ((4 : Nat) : Int) ∨ (v2 &&& (63 : Int32)).toInt = 0 + ((5 : Nat) : Int) ∨ (v2 &&& (63 : Int32)).toInt = 0 + ((6 : Nat) : Int) ∨ (v2 &&& (63 : Int32)).toInt = 0 + ((7 : Nat) : Int) ∨ (v2 &&& (63 : Int32)).toInt = 0 + ((8 : Nat) : Int) ∨ (v2 &&& (63 : Int32)).toInt = 0 + ((9 : Nat) : Int) ∨ (v2 &&& (63 : Int32)).toInt = 0 + ((10 : Nat) : Int) ∨ (v2 &&& (63 : Int32)).toInt = 0 + ((11 : Nat) : Int) ∨ (v2 &&& (63 : Int32)).toInt = 0 + ((12 : Nat) : Int) ∨ (v2 &&& (63 : Int32)).toInt = 0 + ((13 : Nat) : Int) ∨ (v2 &&& (63 : Int32)).toInt = 0 + ((14 : Nat) : Int) ∨ (v2 &&& (63 : Int32)).toInt = 0 + ((15 : Nat) : Int) ∨ (v2 &&& (63 : Int32)).toInt = 0 + ((16 : Nat) : Int) ∨ (v2 &&& (63 : Int32)).toInt = 0 + ((17 : Nat) : Int) ∨ (v2 &&& (63 : Int32)).toInt = 0 + ((18 : Nat) : Int) ∨ (v2 &&& (63 : Int32)).toInt = 0 + ((19 : Nat) : Int) ∨ (v2 &&& (63 : Int32)).toInt = 0 + ((20 : Nat) : Int) ∨ (v2 &&& (63 : Int32)).toInt = 0 + ((21 : Nat) : Int) ∨ (v2 &&& (63 : Int32)).toInt = 0 + ((22 : Nat) : Int) ∨ (v2 &&& (63 : Int32)).toInt = 0 + ((23 : Nat) : Int) ∨ (v2 &&& (63 : Int32)).toInt = 0 + ((24 : Nat) : Int) ∨ (v2 &&& (63 : Int32)).toInt = 0 + ((25 : Nat) : Int) ∨ (v2 &&& (63 : Int32)).toInt = 0 + ((26 : Nat) : Int) ∨ (v2 &&& (63 : Int32)).toInt = 0 + ((27 : Nat) : Int) ∨ (v2 &&& (63 : Int32)).toInt = 0 + ((28 : Nat) : Int) ∨ (v2 &&& (63 : Int32)).toInt = 0 + ((29 : Nat) : Int) ∨ (v2 &&& (63 : Int32)).toInt = 0 + ((30 : Nat) : Int) ∨ (v2 &&& (63 : Int32)).toInt = 0 + ((31 : Nat) : Int) ∨ (v2 &&& (63 : Int32)).toInt = 0 + ((32 : Nat) : Int) ∨ (v2 &&& (63 : Int32)).toInt = 0 + ((33 : Nat) : Int) ∨ (v2 &&& (63 : Int32)).toInt = 0 + ((34 : Nat) : Int) ∨ (v2 &&& (63 : Int32)).toInt = 0 + ((35 : Nat) : Int) ∨ (v2 &&& (63 : Int32)).toInt = 0 + ((36 : Nat) : Int)) with hk1 | hk1 | hk1 | hk1 | hk1 | hk1 | hk1 | hk1 | hk1 | hk1 | hk1 | hk1 | hk1 | hk1 | hk1 | hk1 | hk1 | hk1 | hk1 | hk1 | hk1 | hk1 | hk1 | hk1 | hk1 | hk1 | hk1 | hk1 | hk1 | hk1 | hk1 | hk1 | hk1 | hk1 | hk1 | hk1 | hk1
        · have hf := xsw_in 0 hk1 rfl hf
          obtain ⟨v4, e3, hf⟩ := xbd hf
          obtain ⟨v6, e5, hf⟩ := xbd hf
          obtain ⟨v8, e7, hf⟩ := xbd hf
          obtain ⟨v10, e9, hf⟩ := xbd hf
          obtain ⟨v12, e11, hf⟩ := xbd hf
          obtain ⟨_, e13, hf⟩ := xbd hf
          obtain ⟨⟨v16, σ15⟩, e14, hf⟩ := xbd hf
          dsimp only at hf
          have hm := hm.tr (m_X11_feed e14).ext
          obtain ⟨v18, e17, hf⟩ := xbd hf
          obtain ⟨v20, e19, hf⟩ := xbd hf
          obtain ⟨v22, e21, hf⟩ := xbd hf
          obtain ⟨v24, e23, hf⟩ := xbd hf
          obtain ⟨v26, e25, hf⟩ := xbd hf
          obtain ⟨_, e27, hf⟩ := xbd hf
          obtain ⟨⟨v30, σ29⟩, e28, hf⟩ := xbd hf
          dsimp only at hf
          have hm := hm.tr (m_X12_feed e28).ext
          by_cases q : v16 = v30
          · have hf := xip q hf
            have hf := xsj hf
            subst hf
            exact ⟨fun a' e => (by have h9 := Sum.inl.inj e; subst h9; exact hm), fun b e => xnc1 e⟩
          · have hf := xin q hf
            obtain ⟨b0, hg, e9⟩ := xmj hf
            subst e9
            have hf := hg
            refine ⟨fun a' e => xnc2 e, fun b e => ?_⟩
            have h9 := Sum.inr.inj e
            subst h9
            have hf := xsj hf
            subst hf
            exact hm
        · have hf := xsw_in 1 hk1 rfl hf
          obtain ⟨v4, e3, hf⟩ := xbd hf
          obtain ⟨_, e5, hf⟩ := xbd hf
          obtain ⟨⟨v8, σ7⟩, e6, hf⟩ := xbd hf
          dsimp only at hf
          have hm := hm.tr (m_X11_back e6).ext
          obtain ⟨v10, e9, hf⟩ := xbd hf
          obtain ⟨_, e11, hf⟩ := xbd hf
          obtain ⟨⟨v14, σ13⟩, e12, hf⟩ := xbd hf
          dsimp only at hf
          have hm := hm.tr (m_X12_back e12).ext
          by_cases q : v8 = v14
          · have hf := xip q hf
            have hf := xsj hf
            subst hf
            exact ⟨fun a' e => (by have h9 := Sum.inl.inj e; subst h9; exact hm), fun b e => xnc1 e⟩
          · have hf := xin q hf
            obtain ⟨b0, hg, e9⟩ := xmj hf
            subst e9
            have hf := hg
            refine ⟨fun a' e => xnc2 e, fun b e => ?_⟩
            have h9 := Sum.inr.inj e
            subst h9
            have hf := xsj hf
            subst hf
            exact hm
        · have hf := xsw_in 2 hk1 rfl hf
          obtain ⟨_, e3, hf⟩ := xbd hf
          obtain ⟨⟨v6, σ5⟩, e4, hf⟩ := xbd hf
          dsimp only at hf
          have hm := hm.tr (m_X11_read e4).ext
          obtain ⟨_, e7, hf⟩ := xbd hf
          obtain ⟨⟨v10, σ9⟩, e8, hf⟩ := xbd hf
          dsimp only at hf
          have hm := hm.tr (m_X12_read e8).ext
          by_cases q : v6 = v10
          · have hf := xip q hf
            have hf := xsj hf
            subst hf
            exact ⟨fun a' e => (by have h9 := Sum.inl.inj e; subst h9; exact hm), fun b e => xnc1 e⟩
          · have hf := xin q hf
            obtain ⟨b0, hg, e9⟩ := xmj hf
            subst e9
            have hf := hg
            refine ⟨fun a' e => xnc2 e, fun b e => ?_⟩
            have h9 := Sum.inr.inj e
            subst h9
            have hf := xsj hf
            subst hf
            exact hm
        · have hf := xsw_in 3 hk1 rfl hf
          obtain ⟨_, e3, hf⟩ := xbd hf
          obtain ⟨v5, e4, hf⟩ := xbd hf
          obtain ⟨_, e6, hf⟩ := xbd hf
          obtain ⟨v8, e7, hf⟩ := xbd hf
          by_cases q : v5 = v8
          · have hf := xip q hf
            have hf := xsj hf
            subst hf
            exact ⟨fun a' e => (by have h9 := Sum.inl.inj e; subst h9; exact hm), fun b e => xnc1 e⟩
          · have hf := xin q hf
            obtain ⟨b0, hg, e9⟩ := xmj hf
            subst e9
            have hf := hg
            refine ⟨fun a' e => xnc2 e, fun b e => ?_⟩
            have h9 := Sum.inr.inj e
            subst h9
            have hf := xsj hf
            subst hf
            exact hm
        · have hf := xsw_in 4 hk1 rfl hf
          obtain ⟨v4, e3, hf⟩ := xbd hf
          obtain ⟨v6, e5, hf⟩ := xbd hf
          by_cases q : v6 = 0
          · have hf := xip q hf
            exact ⟨fun a' e => hm.tr ((m_L_law_j327 hf).1 a' e), fun b1 eb1 => hm.tr ((m_L_law_j327 hf).2 b1 eb1)⟩
          · have hf := xin q hf
            exact ⟨fun a' e => hm.tr ((m_L_law_j327 hf).1 a' e), fun b1 eb1 => hm.tr ((m_L_law_j327 hf).2 b1 eb1)⟩
        · have hf := xsw_in 5 hk1 rfl hf
          obtain ⟨v4, e3, hf⟩ := xbd hf
          obtain ⟨v6, e5, hf⟩ := xbd hf
          obtain ⟨_, e7, hf⟩ := xbd hf
          obtain ⟨⟨v10, σ9⟩, e8, hf⟩ := xbd hf
          dsimp only at hf
          have hm := hm.tr (m_X11_pull e8).ext
          obtain ⟨v12, e11, hf⟩ := xbd hf
          obtain ⟨v14, e13, hf⟩ := xbd hf
          obtain ⟨_, e15, hf⟩ := xbd hf
          obtain ⟨⟨v18, σ17⟩, e16, hf⟩ := xbd hf
          dsimp only at hf
          have hm := hm.tr (m_X12_pull e16).ext
          by_cases q : v10 = v18
          · have hf := xip q hf
            have hf := xsj hf
            subst hf
            exact ⟨fun a' e => (by have h9 := Sum.inl.inj e; subst h9; exact hm), fun b e => xnc1 e⟩
          · have hf := xin q hf
            obtain ⟨b0, hg, e9⟩ := xmj hf
            subst e9
            have hf := hg
            refine ⟨fun a' e => xnc2 e, fun b e => ?_⟩
            have h9 := Sum.inr.inj e
            subst h9
            have hf := xsj hf
            subst hf
            exact hm
        · have hf := xsw_in 6 hk1 rfl hf
          obtain ⟨v4, e3, hf⟩ := xbd hf
          obtain ⟨v6, e5, hf⟩ := xbd hf
          obtain ⟨_, e7, hf⟩ := xbd hf
          obtain ⟨⟨v10, σ9⟩, e8, hf⟩ := xbd hf
          dsimp only at hf
          have hm := hm.tr (m_X11_pin e8).ext
          obtain ⟨v12, e11, hf⟩ := xbd hf
          obtain ⟨v14, e13, hf⟩ := xbd hf
          obtain ⟨_, e15, hf⟩ := xbd hf
          obtain ⟨⟨v18, σ17⟩, e16, hf⟩ := xbd hf
          dsimp only at hf
          have hm := hm.tr (m_X12_pin e16).ext
          by_cases q : v10 = v18
          · have hf := xip q hf
            have hf := xsj hf
            subst hf
            exact ⟨fun a' e => (by have h9 := Sum.inl.inj e; subst h9; exact hm), fun b e => xnc1 e⟩
          · have hf := xin q hf
            obtain ⟨b0, hg, e9⟩ := xmj hf
            subst e9
            have hf := hg
            refine ⟨fun a' e => xnc2 e, fun b e => ?_⟩
            have h9 := Sum.inr.inj e
            subst h9
            have hf := xsj hf
            subst hf
            exact hm
        · have hf := xsw_in 7 hk1 rfl hf
          obtain ⟨v4, e3, hf⟩ := xbd hf
          obtain ⟨_, e5, hf⟩ := xbd hf
          obtain ⟨⟨v8, σ7⟩, e6, hf⟩ := xbd hf
          dsimp only at hf
          have hm := hm.tr (m_X11_glass e6).ext
          obtain ⟨v10, e9, hf⟩ := xbd hf
          obtain ⟨_, e11, hf⟩ := xbd hf
          obtain ⟨⟨v14, σ13⟩, e12, hf⟩ := xbd hf
          dsimp only at hf
          have hm := hm.tr (m_X12_glass e12).ext
          by_cases q : v8 = v14
          · have hf := xip q hf
            have hf := xsj hf
            subst hf
            exact ⟨fun a' e => (by have h9 := Sum.inl.inj e; subst h9; exact hm), fun b e => xnc1 e⟩
          · have hf := xin q hf
            obtain ⟨b0, hg, e9⟩ := xmj hf
            subst e9
            have hf := hg
            refine ⟨fun a' e => xnc2 e, fun b e => ?_⟩
            have h9 := Sum.inr.inj e
            subst h9
            have hf := xsj hf
            subst hf
            exact hm
        · have hf := xsw_in 8 hk1 rfl hf
          obtain ⟨v4, e3, hf⟩ := xbd hf
          obtain ⟨_, e5, hf⟩ := xbd hf
          obtain ⟨⟨v8, σ7⟩, e6, hf⟩ := xbd hf
          dsimp only at hf
          have hm := hm.tr (m_X11_turn e6).ext
          obtain ⟨v10, e9, hf⟩ := xbd hf
          obtain ⟨_, e11, hf⟩ := xbd hf
          obtain ⟨⟨v14, σ13⟩, e12, hf⟩ := xbd hf
          dsimp only at hf
          have hm := hm.tr (m_X12_turn e12).ext
          by_cases q : v8 = v14
          · have hf := xip q hf
            have hf := xsj hf
            subst hf
            exact ⟨fun a' e => (by have h9 := Sum.inl.inj e; subst h9; exact hm), fun b e => xnc1 e⟩
          · have hf := xin q hf
            obtain ⟨b0, hg, e9⟩ := xmj hf
            subst e9
            have hf := hg
            refine ⟨fun a' e => xnc2 e, fun b e => ?_⟩
            have h9 := Sum.inr.inj e
            subst h9
            have hf := xsj hf
            subst hf
            exact hm
        · have hf := xsw_in 9 hk1 rfl hf
          obtain ⟨_, e3, hf⟩ := xbd hf
          obtain ⟨⟨v6, σ5⟩, e4, hf⟩ := xbd hf
          dsimp only at hf
          have hm := hm.tr (m_X11_fall e4).ext
          obtain ⟨_, e7, hf⟩ := xbd hf
          obtain ⟨⟨v10, σ9⟩, e8, hf⟩ := xbd hf
          dsimp only at hf
          have hm := hm.tr (m_X12_fall e8).ext
          by_cases q : v6 = v10
          · have hf := xip q hf
            have hf := xsj hf
            subst hf
            exact ⟨fun a' e => (by have h9 := Sum.inl.inj e; subst h9; exact hm), fun b e => xnc1 e⟩
          · have hf := xin q hf
            obtain ⟨b0, hg, e9⟩ := xmj hf
            subst e9
            have hf := hg
            refine ⟨fun a' e => xnc2 e, fun b e => ?_⟩
            have h9 := Sum.inr.inj e
            subst h9
            have hf := xsj hf
            subst hf
            exact hm
        · have hf := xsw_in 10 hk1 rfl hf
          obtain ⟨_, e3, hf⟩ := xbd hf
          obtain ⟨⟨v6, σ5⟩, e4, hf⟩ := xbd hf
          dsimp only at hf
          have hm := hm.tr (m_X11_undo e4).ext
          obtain ⟨_, e7, hf⟩ := xbd hf
          obtain ⟨⟨v10, σ9⟩, e8, hf⟩ := xbd hf
          dsimp only at hf
          have hm := hm.tr (m_X12_undo e8).ext
          by_cases q : v6 = v10
          · have hf := xip q hf
            have hf := xsj hf
            subst hf
            exact ⟨fun a' e => (by have h9 := Sum.inl.inj e; subst h9; exact hm), fun b e => xnc1 e⟩
          · have hf := xin q hf
            obtain ⟨b0, hg, e9⟩ := xmj hf
            subst e9
            have hf := hg
            refine ⟨fun a' e => xnc2 e, fun b e => ?_⟩
            have h9 := Sum.inr.inj e
            subst h9
            have hf := xsj hf
            subst hf
            exact hm
        · have hf := xsw_in 11 hk1 rfl hf
          obtain ⟨v4, e3, hf⟩ := xbd hf
          obtain ⟨v6, e5, hf⟩ := xbd hf
          obtain ⟨_, e7, hf⟩ := xbd hf
          obtain ⟨v9, e8, hf⟩ := xbd hf
          obtain ⟨v11, e10, hf⟩ := xbd hf
          obtain ⟨v13, e12, hf⟩ := xbd hf
          obtain ⟨_, e14, hf⟩ := xbd hf
          obtain ⟨v16, e15, hf⟩ := xbd hf
          by_cases q : v9 = v16
          · have hf := xip q hf
            have hf := xsj hf
            subst hf
            exact ⟨fun a' e => (by have h9 := Sum.inl.inj e; subst h9; exact hm), fun b e => xnc1 e⟩
          · have hf := xin q hf
            obtain ⟨b0, hg, e9⟩ := xmj hf
            subst e9
            have hf := hg
            refine ⟨fun a' e => xnc2 e, fun b e => ?_⟩
            have h9 := Sum.inr.inj e
            subst h9
            have hf := xsj hf
            subst hf
            exact hm
        · have hf := xsw_in 12 hk1 rfl hf
          obtain ⟨v4, e3, hf⟩ := xbd hf
          obtain ⟨v6, e5, hf⟩ := xbd hf
          obtain ⟨_, e7, hf⟩ := xbd hf
          obtain ⟨⟨v10, σ9⟩, e8, hf⟩ := xbd hf
          dsimp only at hf
          have hm := hm.tr (m_X11_level e8)
          exact ⟨fun a' e => hm.tr ((m_L_law_j552 hf).1 a' e), fun b1 eb1 => hm.tr ((m_L_law_j552 hf).2 b1 eb1)⟩
        · have hf := xsw_in 13 hk1 rfl hf
          obtain ⟨v4, e3, hf⟩ := xbd hf
          obtain ⟨v6, e5, hf⟩ := xbd hf
          obtain ⟨_, e7, hf⟩ := xbd hf
          obtain ⟨⟨v10, σ9⟩, e8, hf⟩ := xbd hf
          dsimp only at hf
          have hm := hm.tr (m_X11_both e8)
          exact ⟨fun a' e => hm.tr ((m_L_law_j585 hf).1 a' e), fun b1 eb1 => hm.tr ((m_L_law_j585 hf).2 b1 eb1)⟩
        · have hf := xsw_in 14 hk1 rfl hf
          obtain ⟨v4, e3, hf⟩ := xbd hf
          obtain ⟨_, e5, hf⟩ := xbd hf
          obtain ⟨⟨v8, σ7⟩, e6, hf⟩ := xbd hf
          dsimp only at hf
          have hm := hm.tr (m_X11_broken e6)
          exact ⟨fun a' e => hm.tr ((m_L_law_j613 hf).1 a' e), fun b1 eb1 => hm.tr ((m_L_law_j613 hf).2 b1 eb1)⟩
        · have hf := xsw_in 15 hk1 rfl hf
          obtain ⟨v4, e3, hf⟩ := xbd hf
          obtain ⟨_, e5, hf⟩ := xbd hf
          obtain ⟨⟨v8, σ7⟩, e6, hf⟩ := xbd hf
          dsimp only at hf
          have hm := hm.tr (m_X11_ground e6)
          exact ⟨fun a' e => hm.tr ((m_L_law_j636 hf).1 a' e), fun b1 eb1 => hm.tr ((m_L_law_j636 hf).2 b1 eb1)⟩
        · have hf := xsw_in 16 hk1 rfl hf
          obtain ⟨v4, e3, hf⟩ := xbd hf
          obtain ⟨v6, e5, hf⟩ := xbd hf
          obtain ⟨v8, e7, hf⟩ := xbd hf
          obtain ⟨v10, e9, hf⟩ := xbd hf
          obtain ⟨_, e11, hf⟩ := xbd hf
          obtain ⟨⟨v14, σ13⟩, e12, hf⟩ := xbd hf
          dsimp only at hf
          have hm := hm.tr (m_X11_pair e12)
          exact ⟨fun a' e => hm.tr ((m_L_law_j674 hf).1 a' e), fun b1 eb1 => hm.tr ((m_L_law_j674 hf).2 b1 eb1)⟩
        · have hf := xsw_in 17 hk1 rfl hf
          obtain ⟨v4, e3, hf⟩ := xbd hf
          obtain ⟨v6, e5, hf⟩ := xbd hf
          obtain ⟨_, e7, hf⟩ := xbd hf
          obtain ⟨⟨v10, σ9⟩, e8, hf⟩ := xbd hf
          dsimp only at hf
          have hm := hm.tr (m_X11_mean e8)
          exact ⟨fun a' e => hm.tr ((m_L_law_j717 hf).1 a' e), fun b1 eb1 => hm.tr ((m_L_law_j717 hf).2 b1 eb1)⟩
        · have hf := xsw_in 18 hk1 rfl hf
          obtain ⟨v4, e3, hf⟩ := xbd hf
          obtain ⟨_, e5, hf⟩ := xbd hf
          obtain ⟨⟨v8, σ7⟩, e6, hf⟩ := xbd hf
          dsimp only at hf
          have hm := hm.tr (m_X11_value e6)
          exact ⟨fun a' e => hm.tr ((m_L_law_j745 hf).1 a' e), fun b1 eb1 => hm.tr ((m_L_law_j745 hf).2 b1 eb1)⟩
        · have hf := xsw_in 19 hk1 rfl hf
          obtain ⟨v4, e3, hf⟩ := xbd hf
          obtain ⟨v6, e5, hf⟩ := xbd hf
          obtain ⟨v8, e7, hf⟩ := xbd hf
          obtain ⟨_, e9, hf⟩ := xbd hf
          obtain ⟨⟨v12, σ11⟩, e10, hf⟩ := xbd hf
          dsimp only at hf
          have hm := hm.tr (m_X11_joined e10)
          exact ⟨fun a' e => hm.tr ((m_L_law_j778 hf).1 a' e), fun b1 eb1 => hm.tr ((m_L_law_j778 hf).2 b1 eb1)⟩
        · have hf := xsw_in 20 hk1 rfl hf
          obtain ⟨v4, e3, hf⟩ := xbd hf
          obtain ⟨v6, e5, hf⟩ := xbd hf
          obtain ⟨_, e7, hf⟩ := xbd hf
          obtain ⟨⟨v10, σ9⟩, e8, hf⟩ := xbd hf
          dsimp only at hf
          have hm := hm.tr (m_X11_state e8)
          exact ⟨fun a' e => hm.tr ((m_L_law_j817 hf).1 a' e), fun b1 eb1 => hm.tr ((m_L_law_j817 hf).2 b1 eb1)⟩
        · have hf := xsw_in 21 hk1 rfl hf
          obtain ⟨v4, e3, hf⟩ := xbd hf
          by_cases q : v4 = 0
          · have hf := xip q hf
            exact ⟨fun a' e => hm.tr ((m_L_law_j850 hf).1 a' e), fun b1 eb1 => hm.tr ((m_L_law_j850 hf).2 b1 eb1)⟩
          · have hf := xin q hf
            exact ⟨fun a' e => hm.tr ((m_L_law_j850 hf).1 a' e), fun b1 eb1 => hm.tr ((m_L_law_j850 hf).2 b1 eb1)⟩
        · have hf := xsw_in 22 hk1 rfl hf
          obtain ⟨v4, e3, hf⟩ := xbd hf
          obtain ⟨v6, e5, hf⟩ := xbd hf
          obtain ⟨v8, e7, hf⟩ := xbd hf
          obtain ⟨_, e9, hf⟩ := xbd hf
          obtain ⟨⟨v12, σ11⟩, e10, hf⟩ := xbd hf
          dsimp only at hf
          have hm := hm.tr (m_X11_rows e10)
          exact ⟨fun a' e => hm.tr ((m_L_law_j894 hf).1 a' e), fun b1 eb1 => hm.tr ((m_L_law_j894 hf).2 b1 eb1)⟩
        · have hf := xsw_in 23 hk1 rfl hf
          obtain ⟨v4, e3, hf⟩ := xbd hf
          obtain ⟨_, e5, hf⟩ := xbd hf
          obtain ⟨v7, e6, hf⟩ := xbd hf
          obtain ⟨v9, e8, hf⟩ := xbd hf
          obtain ⟨_, e10, hf⟩ := xbd hf
          obtain ⟨v12, e11, hf⟩ := xbd hf
          by_cases q : v7 = v12
          · have hf := xip q hf
            have hf := xsj hf
            subst hf
            exact ⟨fun a' e => (by have h9 := Sum.inl.inj e; subst h9; exact hm), fun b e => xnc1 e⟩
          · have hf := xin q hf
            obtain ⟨b0, hg, e9⟩ := xmj hf
            subst e9
            have hf := hg
            refine ⟨fun a' e => xnc2 e, fun b e => ?_⟩
            have h9 := Sum.inr.inj e
            subst h9
            have hf := xsj hf
            subst hf
            exact hm
        · have hf := xsw_in 24 hk1 rfl hf
          obtain ⟨v4, e3, hf⟩ := xbd hf
          obtain ⟨_, e5, hf⟩ := xbd hf
          obtain ⟨⟨v8, σ7⟩, e6, hf⟩ := xbd hf
          dsimp only at hf
          have hm := hm.tr (m_X11_overlap e6)
          exact ⟨fun a' e => hm.tr ((m_L_law_j950 hf).1 a' e), fun b1 eb1 => hm.tr ((m_L_law_j950 hf).2 b1 eb1)⟩
        · have hf := xsw_in 25 hk1 rfl hf
          obtain ⟨v4, e3, hf⟩ := xbd hf
          obtain ⟨_, e5, hf⟩ := xbd hf
          obtain ⟨⟨v8, σ7⟩, e6, hf⟩ := xbd hf
          dsimp only at hf
          have hm := hm.tr (m_X11_basin e6)
          exact ⟨fun a' e => hm.tr ((m_L_law_j973 hf).1 a' e), fun b1 eb1 => hm.tr ((m_L_law_j973 hf).2 b1 eb1)⟩
        · have hf := xsw_in 26 hk1 rfl hf
          obtain ⟨v4, e3, hf⟩ := xbd hf
          obtain ⟨v6, e5, hf⟩ := xbd hf
          obtain ⟨_, e7, hf⟩ := xbd hf
          obtain ⟨⟨v10, σ9⟩, e8, hf⟩ := xbd hf
          dsimp only at hf
          have hm := hm.tr (m_X11_stiff e8)
          exact ⟨fun a' e => hm.tr ((m_L_law_j1001 hf).1 a' e), fun b1 eb1 => hm.tr ((m_L_law_j1001 hf).2 b1 eb1)⟩
        · have hf := xsw_in 27 hk1 rfl hf
          obtain ⟨v4, e3, hf⟩ := xbd hf
          obtain ⟨_, e5, hf⟩ := xbd hf
          obtain ⟨⟨v8, σ7⟩, e6, hf⟩ := xbd hf
          dsimp only at hf
          have hm := hm.tr (m_X11_hill e6)
          exact ⟨fun a' e => hm.tr ((m_L_law_j1029 hf).1 a' e), fun b1 eb1 => hm.tr ((m_L_law_j1029 hf).2 b1 eb1)⟩
        · have hf := xsw_in 28 hk1 rfl hf
          obtain ⟨v4, e3, hf⟩ := xbd hf
          obtain ⟨v6, e5, hf⟩ := xbd hf
          obtain ⟨_, e7, hf⟩ := xbd hf
          obtain ⟨⟨v10, σ9⟩, e8, hf⟩ := xbd hf
          dsimp only at hf
          have hm := hm.tr (m_X11_pass e8)
          exact ⟨fun a' e => hm.tr ((m_L_law_j1057 hf).1 a' e), fun b1 eb1 => hm.tr ((m_L_law_j1057 hf).2 b1 eb1)⟩
        · have hf := xsw_in 29 hk1 rfl hf
          obtain ⟨v4, e3, hf⟩ := xbd hf
          obtain ⟨_, e5, hf⟩ := xbd hf
          obtain ⟨⟨v8, σ7⟩, e6, hf⟩ := xbd hf
          dsimp only at hf
          have hm := hm.tr (m_X11_lakes e6)
          exact ⟨fun a' e => hm.tr ((m_L_law_j1085 hf).1 a' e), fun b1 eb1 => hm.tr ((m_L_law_j1085 hf).2 b1 eb1)⟩
        · have hf := xsw_in 30 hk1 rfl hf
          obtain ⟨v4, e3, hf⟩ := xbd hf
          obtain ⟨_, e5, hf⟩ := xbd hf
          obtain ⟨⟨v8, σ7⟩, e6, hf⟩ := xbd hf
          dsimp only at hf
          have hm := hm.tr (m_X11_down e6)
          exact ⟨fun a' e => hm.tr ((m_L_law_j1108 hf).1 a' e), fun b1 eb1 => hm.tr ((m_L_law_j1108 hf).2 b1 eb1)⟩
        · have hf := xsw_in 31 hk1 rfl hf
          obtain ⟨v4, e3, hf⟩ := xbd hf
          obtain ⟨v6, e5, hf⟩ := xbd hf
          obtain ⟨_, e7, hf⟩ := xbd hf
          obtain ⟨⟨v10, σ9⟩, e8, hf⟩ := xbd hf
          dsimp only at hf
          have hm := hm.tr (m_X11_nearest e8)
          exact ⟨fun a' e => hm.tr ((m_L_law_j1137 hf).1 a' e), fun b1 eb1 => hm.tr ((m_L_law_j1137 hf).2 b1 eb1)⟩
        · have hf := xsw_in 32 hk1 rfl hf
          obtain ⟨v4, e3, hf⟩ := xbd hf
          obtain ⟨_, e5, hf⟩ := xbd hf
          obtain ⟨v7, e6, hf⟩ := xbd hf
          obtain ⟨v9, e8, hf⟩ := xbd hf
          obtain ⟨_, e10, hf⟩ := xbd hf
          obtain ⟨v12, e11, hf⟩ := xbd hf
          by_cases q : v7 = v12
          · have hf := xip q hf
            have hf := xsj hf
            subst hf
            exact ⟨fun a' e => (by have h9 := Sum.inl.inj e; subst h9; exact hm), fun b e => xnc1 e⟩
          · have hf := xin q hf
            obtain ⟨b0, hg, e9⟩ := xmj hf
            subst e9
            have hf := hg
            refine ⟨fun a' e => xnc2 e, fun b e => ?_⟩
            have h9 := Sum.inr.inj e
            subst h9
            have hf := xsj hf
            subst hf
            exact hm
        · have hf := xsw_in 33 hk1 rfl hf
          obtain ⟨v4, e3, hf⟩ := xbd hf
          obtain ⟨v6, e5, hf⟩ := xbd hf
          obtain ⟨v8, e7, hf⟩ := xbd hf
          obtain ⟨_, e9, hf⟩ := xbd hf
          obtain ⟨⟨v12, σ11⟩, e10, hf⟩ := xbd hf
          dsimp only at hf
          have hm := hm.tr (m_X11_wander e10).ext
          obtain ⟨v14, e13, hf⟩ := xbd hf
          obtain ⟨v16, e15, hf⟩ := xbd hf
          obtain ⟨v18, e17, hf⟩ := xbd hf
          obtain ⟨_, e19, hf⟩ := xbd hf
          obtain ⟨⟨v22, σ21⟩, e20, hf⟩ := xbd hf
          dsimp only at hf
          have hm := hm.tr (m_X12_wander e20).ext
          by_cases q : v12 = v22
          · have hf := xip q hf
            have hf := xsj hf
            subst hf
            exact ⟨fun a' e => (by have h9 := Sum.inl.inj e; subst h9; exact hm), fun b e => xnc1 e⟩
          · have hf := xin q hf
            obtain ⟨b0, hg, e9⟩ := xmj hf
            subst e9
            have hf := hg
            refine ⟨fun a' e => xnc2 e, fun b e => ?_⟩
            have h9 := Sum.inr.inj e
            subst h9
            have hf := xsj hf
            subst hf
            exact hm
        · have hf := xsw_in 34 hk1 rfl hf
          obtain ⟨v4, e3, hf⟩ := xbd hf
          obtain ⟨_, e5, hf⟩ := xbd hf
          obtain ⟨⟨v8, σ7⟩, e6, hf⟩ := xbd hf
          dsimp only at hf
          have hm := hm.tr (m_X11_hold e6).ext
          obtain ⟨v10, e9, hf⟩ := xbd hf
          obtain ⟨_, e11, hf⟩ := xbd hf
          obtain ⟨⟨v14, σ13⟩, e12, hf⟩ := xbd hf
          dsimp only at hf
          have hm := hm.tr (m_X12_hold e12).ext
          by_cases q : v8 = v14
          · have hf := xip q hf
            have hf := xsj hf
            subst hf
            exact ⟨fun a' e => (by have h9 := Sum.inl.inj e; subst h9; exact hm), fun b e => xnc1 e⟩
          · have hf := xin q hf
            obtain ⟨b0, hg, e9⟩ := xmj hf
            subst e9
            have hf := hg
            refine ⟨fun a' e => xnc2 e, fun b e => ?_⟩
            have h9 := Sum.inr.inj e
            subst h9
            have hf := xsj hf
            subst hf
            exact hm
        · have hf := xsw_in 35 hk1 rfl hf
          obtain ⟨v4, e3, hf⟩ := xbd hf
          obtain ⟨_, e5, hf⟩ := xbd hf
          obtain ⟨⟨v8, σ7⟩, e6, hf⟩ := xbd hf
          dsimp only at hf
          have hm := hm.tr (m_X11_restore e6).ext
          obtain ⟨v10, e9, hf⟩ := xbd hf
          obtain ⟨_, e11, hf⟩ := xbd hf
          obtain ⟨⟨v14, σ13⟩, e12, hf⟩ := xbd hf
          dsimp only at hf
          have hm := hm.tr (m_X12_restore e12).ext
          by_cases q : v8 = v14
          · have hf := xip q hf
            have hf := xsj hf
            subst hf
            exact ⟨fun a' e => (by have h9 := Sum.inl.inj e; subst h9; exact hm), fun b e => xnc1 e⟩
          · have hf := xin q hf
            obtain ⟨b0, hg, e9⟩ := xmj hf
            subst e9
            have hf := hg
            refine ⟨fun a' e => xnc2 e, fun b e => ?_⟩
            have h9 := Sum.inr.inj e
            subst h9
            have hf := xsj hf
            subst hf
            exact hm
        · have hf := xsw_in 36 hk1 rfl hf
          obtain ⟨v4, e3, hf⟩ := xbd hf
          obtain ⟨_, e5, hf⟩ := xbd hf
          obtain ⟨⟨v8, σ7⟩, e6, hf⟩ := xbd hf
          dsimp only at hf
          have hm := hm.tr (m_X11_count e6)
          exact ⟨fun a' e => hm.tr ((m_L_law_j1277 hf).1 a' e), fun b1 eb1 => hm.tr ((m_L_law_j1277 hf).2 b1 eb1)⟩
  cases y with
  | inl a' =>
    have h1 := hc a' rfl
    have hm := hy.1 a' rfl
    exact hm.tr (h1)
  | inr b =>
    have h1 := he b rfl
    subst h1
    exact hy.2 _ rfl
theorem s_L_law_l18 {G : XG} (C : XC G cL_law RL (some .boolean) 4 13 470) {b L : Nat} {xs : Nat → Int32} (hS : XScr G b L xs) {r1 : Nat} {r2 : Nat} {a : Int32 × XS} {x : Int32 × XS} (hf : xloop (f_L_law_b18 L xs r1 r2) a = some x) (hk : XEndL G b x) : WW G 18 [(0, .ref b), (1, .ref (gB G + r1)), (2, .ref (gB G + r2)), (3, .int a.1)] [] a.2 := by
  refine xloop_ind2 (P := fun a => WW G 18 [(0, .ref b), (1, .ref (gB G + r1)), (2, .ref (gB G + r2)), (3, .int a.1)] [] a.2) (fun a y hf hc he => ?_) hf
  obtain ⟨x3, σ⟩ := a
  have hk : (∀ a' : Int32 × XS, y = .inl a' → XUp G a'.2 ∧ WW G 18 [(0, .ref b), (1, .ref (gB G + r1)), (2, .ref (gB G + r2)), (3, .int a'.1)] [] a'.2) ∧ (∀ b1 : Int32 × XS, y = .inr b1 → XEndL G b b1) := ⟨fun a' e => ⟨XUp.fin (m_L_law_l18 (hc a' e).1) hk.2.1, (hc a' e).2⟩, fun b e => by have h9 := he b e; subst h9; exact hk⟩
  refine ww_iload_n (pc := 18) C 3 dL_law_18 rfl ?_
  refine ww_aload_n (pc := 19) C 0 dL_law_19 rfl ?_
  refine ww_slen (pc := 20) C hS dL_law_20 ?_
  refine ww_bipush (pc := 21) (v := (6 : Int32)) C dL_law_21 (by decide) ?_
  refine ww_isub (pc := 23) C dL_law_23 ?_
  refine ww_icmp_gt (pc := 24) (tgt := 1297) C dL_law_24 (by decide) (fun q => ?_) (fun q => ?_)
  · have hf := xip q hf
    obtain ⟨b0, hg, e9⟩ := xmj hf
    subst e9
    have hf := hg
    have hk := hk.2 _ rfl
    refine ww_iconst (pc := 1297) (v := (1 : Int32)) C dL_law_1297 (by decide) ?_
    have hf := xsj hf
    subst hf
    exact ww_lawret (pc := 1298) C hS hk dL_law_1298
  · have hf := xin q hf
    refine ww_aload_n (pc := 27) C 0 dL_law_27 rfl ?_
    refine ww_iload_n (pc := 28) C 3 dL_law_28 rfl ?_
    obtain ⟨v2, e1, hf⟩ := xbd hf
    refine ww_sld (pc := 29) C hS e1 dL_law_29 ?_
    refine ww_bipush (pc := 30) (v := (63 : Int32)) C dL_law_30 (by decide) ?_
    refine ww_iand (pc := 32) C dL_law_32 ?_
    refine ww_table (pc := 33) C dL_law_33 (fun k hk1 hk2 => ?_) (fun ho => ?_)
    · rcases (by omega : k = 0 ∨ k = 1 ∨ k = 2 ∨ k = 3 ∨ k = 4 ∨ k = 5 ∨ k = 6 ∨ k = 7 ∨ k = 8 ∨ k = 9 ∨ k = 10 ∨ k = 11 ∨ k = 12 ∨ k = 13 ∨ k = 14 ∨ k = 15 ∨ k = 16 ∨ k = 17 ∨ k = 18 ∨ k = 19 ∨ k = 20 ∨ k = 21 ∨ k = 22 ∨ k = 23 ∨ k = 24 ∨ k = 25 ∨ k = 26 ∨ k = 27 ∨ k = 28 ∨ k = 29 ∨ k = 30 ∨ k = 31 ∨ k = 32 ∨ k = 33 ∨ k = 34 ∨ k = 35 ∨ k = 36) with rfl | rfl | rfl | rfl | rfl | rfl | rfl | rfl | rfl | rfl | rfl | rfl | rfl | rfl | rfl | rfl | rfl | rfl | rfl | rfl | rfl | rfl | rfl | rfl | rfl | rfl | rfl | rfl | rfl | rfl | rfl | rfl | rfl | rfl | rfl | rfl | rfl
      · refine ⟨196, 163, rfl, by decide, ?_⟩
        have hf := xsw_in 0 hk1 rfl hf
        refine ww_aload_n (pc := 196) C 1 dL_law_196 rfl ?_
        refine ww_aload_n (pc := 197) C 0 dL_law_197 rfl ?_
        refine ww_iload_n (pc := 198) C 3 dL_law_198 rfl ?_
        refine ww_iconst (pc := 199) (v := (1 : Int32)) C dL_law_199 (by decide) ?_
        refine ww_iadd (pc := 200) C dL_law_200 ?_
        obtain ⟨v4, e3, hf⟩ := xbd hf
        refine ww_sld (pc := 201) C hS e3 dL_law_201 ?_
        refine ww_aload_n (pc := 202) C 0 dL_law_202 rfl ?_
        refine ww_iload_n (pc := 203) C 3 dL_law_203 rfl ?_
        refine ww_iconst (pc := 204) (v := (2 : Int32)) C dL_law_204 (by decide) ?_
        refine ww_iadd (pc := 205) C dL_law_205 ?_
        obtain ⟨v6, e5, hf⟩ := xbd hf
        refine ww_sld (pc := 206) C hS e5 dL_law_206 ?_
        refine ww_aload_n (pc := 207) C 0 dL_law_207 rfl ?_
        refine ww_iload_n (pc := 208) C 3 dL_law_208 rfl ?_
        refine ww_iconst (pc := 209) (v := (3 : Int32)) C dL_law_209 (by decide) ?_
        refine ww_iadd (pc := 210) C dL_law_210 ?_
        obtain ⟨v8, e7, hf⟩ := xbd hf
        refine ww_sld (pc := 211) C hS e7 dL_law_211 ?_
        refine ww_aload_n (pc := 212) C 0 dL_law_212 rfl ?_
        refine ww_iload_n (pc := 213) C 3 dL_law_213 rfl ?_
        refine ww_iconst (pc := 214) (v := (4 : Int32)) C dL_law_214 (by decide) ?_
        refine ww_iadd (pc := 215) C dL_law_215 ?_
        obtain ⟨v10, e9, hf⟩ := xbd hf
        refine ww_sld (pc := 216) C hS e9 dL_law_216 ?_
        refine ww_aload_n (pc := 217) C 0 dL_law_217 rfl ?_
        refine ww_iload_n (pc := 218) C 3 dL_law_218 rfl ?_
        refine ww_iconst (pc := 219) (v := (5 : Int32)) C dL_law_219 (by decide) ?_
        refine ww_iadd (pc := 220) C dL_law_220 ?_
        obtain ⟨v12, e11, hf⟩ := xbd hf
        refine ww_sld (pc := 221) C hS e11 dL_law_221 ?_
        obtain ⟨_, e13, hf⟩ := xbd hf
        obtain ⟨⟨v16, σ15⟩, e14, hf⟩ := xbd hf
        dsimp only at hf
        refine ww_callVi (pc := 222) (as := [.int v4, .int v6, .int v8, .int v10, .int v12]) (st := []) C (k_X11_feed (l := gl G) (E := gE G) (hb := gB G) (σ := σ) e14) rfl (by decide) xc_L_13 q442 q443 (xck_spec e13) rfl (by decide) (xst4 (Nat.le_of_ble_eq_true rfl)) (m_X11_feed e14).le (m_X11_feed e14).lim dL_law_222 ?_
        refine ww_aload_n (pc := 225) C 2 dL_law_225 rfl ?_
        refine ww_aload_n (pc := 226) C 0 dL_law_226 rfl ?_
        refine ww_iload_n (pc := 227) C 3 dL_law_227 rfl ?_
        refine ww_iconst (pc := 228) (v := (1 : Int32)) C dL_law_228 (by decide) ?_
        refine ww_iadd (pc := 229) C dL_law_229 ?_
        obtain ⟨v18, e17, hf⟩ := xbd hf
        refine ww_sld (pc := 230) C hS e17 dL_law_230 ?_
        refine ww_aload_n (pc := 231) C 0 dL_law_231 rfl ?_
        refine ww_iload_n (pc := 232) C 3 dL_law_232 rfl ?_
        refine ww_iconst (pc := 233) (v := (2 : Int32)) C dL_law_233 (by decide) ?_
        refine ww_iadd (pc := 234) C dL_law_234 ?_
        obtain ⟨v20, e19, hf⟩ := xbd hf
        refine ww_sld (pc := 235) C hS e19 dL_law_235 ?_
        refine ww_aload_n (pc := 236) C 0 dL_law_236 rfl ?_
        refine ww_iload_n (pc := 237) C 3 dL_law_237 rfl ?_
        refine ww_iconst (pc := 238) (v := (3 : Int32)) C dL_law_238 (by decide) ?_
        refine ww_iadd (pc := 239) C dL_law_239 ?_
        obtain ⟨v22, e21, hf⟩ := xbd hf
        refine ww_sld (pc := 240) C hS e21 dL_law_240 ?_
        refine ww_aload_n (pc := 241) C 0 dL_law_241 rfl ?_
        refine ww_iload_n (pc := 242) C 3 dL_law_242 rfl ?_
        refine ww_iconst (pc := 243) (v := (4 : Int32)) C dL_law_243 (by decide) ?_
        refine ww_iadd (pc := 244) C dL_law_244 ?_
        obtain ⟨v24, e23, hf⟩ := xbd hf
        refine ww_sld (pc := 245) C hS e23 dL_law_245 ?_
        refine ww_aload_n (pc := 246) C 0 dL_law_246 rfl ?_
        refine ww_iload_n (pc := 247) C 3 dL_law_247 rfl ?_
        refine ww_iconst (pc := 248) (v := (5 : Int32)) C dL_law_248 (by decide) ?_
        refine ww_iadd (pc := 249) C dL_law_249 ?_
        obtain ⟨v26, e25, hf⟩ := xbd hf
        refine ww_sld (pc := 250) C hS e25 dL_law_250 ?_
        obtain ⟨_, e27, hf⟩ := xbd hf
        obtain ⟨⟨v30, σ29⟩, e28, hf⟩ := xbd hf
        dsimp only at hf
        refine ww_callVi (pc := 251) (as := [.int v18, .int v20, .int v22, .int v24, .int v26]) (st := [.int v16]) C (k_X12_feed (l := gl G) (E := gE G) (hb := gB G) (σ := σ15) e28) rfl (by decide) xc_L_17 q1403 q1404 (xck_spec e27) rfl (by decide) (xst4 (Nat.le_of_ble_eq_true rfl)) (m_X12_feed e28).le (m_X12_feed e28).lim dL_law_251 ?_
        refine ww_icmp_eq (pc := 254) (tgt := 1291) C dL_law_254 (by decide) (fun q => ?_) (fun q => ?_)
        · have hf := xip q hf
          refine ww_iinc (pc := 1291) (v := x3 + (6 : Int32)) (lv' := [(3, .int (x3 + (6 : Int32))), (0, .ref b), (1, .ref (gB G + r1)), (2, .ref (gB G + r2))]) C 3 dL_law_1291 rfl (congrArg (fun z => x3 + z) (show Int32.ofInt (6) = (6 : Int32) by decide)) (by decide) rfl ?_
          refine ww_goto (pc := 1294) (tgt := 18) C dL_law_1294 (by decide) ?_
          have hf := xsj hf
          subst hf
          refine ww_sub [1, 2, 3, 0] rfl ?_
          exact (hk.1 (x3 + (6 : Int32), σ29) rfl).2
        · have hf := xin q hf
          obtain ⟨b0, hg, e9⟩ := xmj hf
          subst e9
          have hf := hg
          have hk := hk.2 _ rfl
          refine ww_iconst (pc := 257) (v := (0 : Int32)) C dL_law_257 (by decide) ?_
          have hf := xsj hf
          subst hf
          exact ww_lawret (pc := 258) C hS hk dL_law_258
      · refine ⟨259, 226, rfl, by decide, ?_⟩
        have hf := xsw_in 1 hk1 rfl hf
        refine ww_aload_n (pc := 259) C 1 dL_law_259 rfl ?_
        refine ww_aload_n (pc := 260) C 0 dL_law_260 rfl ?_
        refine ww_iload_n (pc := 261) C 3 dL_law_261 rfl ?_
        refine ww_iconst (pc := 262) (v := (1 : Int32)) C dL_law_262 (by decide) ?_
        refine ww_iadd (pc := 263) C dL_law_263 ?_
        obtain ⟨v4, e3, hf⟩ := xbd hf
        refine ww_sld (pc := 264) C hS e3 dL_law_264 ?_
        obtain ⟨_, e5, hf⟩ := xbd hf
        obtain ⟨⟨v8, σ7⟩, e6, hf⟩ := xbd hf
        dsimp only at hf
        refine ww_callVi (pc := 265) (as := [.int v4]) (st := []) C (k_X11_back (l := gl G) (E := gE G) (hb := gB G) (σ := σ) e6) rfl (by decide) xc_L_18 q450 q451 (xck_spec e5) rfl (by decide) (xst4 (Nat.le_of_ble_eq_true rfl)) (m_X11_back e6).le (m_X11_back e6).lim dL_law_265 ?_
        refine ww_aload_n (pc := 268) C 2 dL_law_268 rfl ?_
        refine ww_aload_n (pc := 269) C 0 dL_law_269 rfl ?_
        refine ww_iload_n (pc := 270) C 3 dL_law_270 rfl ?_
        refine ww_iconst (pc := 271) (v := (1 : Int32)) C dL_law_271 (by decide) ?_
        refine ww_iadd (pc := 272) C dL_law_272 ?_
        obtain ⟨v10, e9, hf⟩ := xbd hf
        refine ww_sld (pc := 273) C hS e9 dL_law_273 ?_
        obtain ⟨_, e11, hf⟩ := xbd hf
        obtain ⟨⟨v14, σ13⟩, e12, hf⟩ := xbd hf
        dsimp only at hf
        refine ww_callVi (pc := 274) (as := [.int v10]) (st := [.int v8]) C (k_X12_back (l := gl G) (E := gE G) (hb := gB G) (σ := σ7) e12) rfl (by decide) xc_L_22 q1411 q1412 (xck_spec e11) rfl (by decide) (xst4 (Nat.le_of_ble_eq_true rfl)) (m_X12_back e12).le (m_X12_back e12).lim dL_law_274 ?_
        refine ww_icmp_eq (pc := 277) (tgt := 1291) C dL_law_277 (by decide) (fun q => ?_) (fun q => ?_)
        · have hf := xip q hf
          refine ww_iinc (pc := 1291) (v := x3 + (6 : Int32)) (lv' := [(3, .int (x3 + (6 : Int32))), (0, .ref b), (1, .ref (gB G + r1)), (2, .ref (gB G + r2))]) C 3 dL_law_1291 rfl (congrArg (fun z => x3 + z) (show Int32.ofInt (6) = (6 : Int32) by decide)) (by decide) rfl ?_
          refine ww_goto (pc := 1294) (tgt := 18) C dL_law_1294 (by decide) ?_
          have hf := xsj hf
          subst hf
          refine ww_sub [1, 2, 3, 0] rfl ?_
          exact (hk.1 (x3 + (6 : Int32), σ13) rfl).2
        · have hf := xin q hf
          obtain ⟨b0, hg, e9⟩ := xmj hf
          subst e9
          have hf := hg
          have hk := hk.2 _ rfl
          refine ww_iconst (pc := 280) (v := (0 : Int32)) C dL_law_280 (by decide) ?_
          have hf := xsj hf
          subst hf
          exact ww_lawret (pc := 281) C hS hk dL_law_281
      · refine ⟨282, 249, rfl, by decide, ?_⟩
        have hf := xsw_in 2 hk1 rfl hf
        refine ww_aload_n (pc := 282) C 1 dL_law_282 rfl ?_
        obtain ⟨_, e3, hf⟩ := xbd hf
        obtain ⟨⟨v6, σ5⟩, e4, hf⟩ := xbd hf
        dsimp only at hf
        refine ww_callVi (pc := 283) (as := []) (st := []) C (k_X11_read (l := gl G) (E := gE G) (hb := gB G) (σ := σ) e4) rfl (by decide) xc_L_23 q454 q455 (xck_spec e3) rfl (by decide) (xst4 (Nat.le_of_ble_eq_true rfl)) (m_X11_read e4).le (m_X11_read e4).lim dL_law_283 ?_
        refine ww_aload_n (pc := 286) C 2 dL_law_286 rfl ?_
        obtain ⟨_, e7, hf⟩ := xbd hf
        obtain ⟨⟨v10, σ9⟩, e8, hf⟩ := xbd hf
        dsimp only at hf
        refine ww_callVi (pc := 287) (as := []) (st := [.int v6]) C (k_X12_read (l := gl G) (E := gE G) (hb := gB G) (σ := σ5) e8) rfl (by decide) xc_L_27 q1415 q1416 (xck_spec e7) rfl (by decide) (xst4 (Nat.le_of_ble_eq_true rfl)) (m_X12_read e8).le (m_X12_read e8).lim dL_law_287 ?_
        refine ww_icmp_eq (pc := 290) (tgt := 1291) C dL_law_290 (by decide) (fun q => ?_) (fun q => ?_)
        · have hf := xip q hf
          refine ww_iinc (pc := 1291) (v := x3 + (6 : Int32)) (lv' := [(3, .int (x3 + (6 : Int32))), (0, .ref b), (1, .ref (gB G + r1)), (2, .ref (gB G + r2))]) C 3 dL_law_1291 rfl (congrArg (fun z => x3 + z) (show Int32.ofInt (6) = (6 : Int32) by decide)) (by decide) rfl ?_
          refine ww_goto (pc := 1294) (tgt := 18) C dL_law_1294 (by decide) ?_
          have hf := xsj hf
          subst hf
          refine ww_sub [1, 2, 3, 0] rfl ?_
          exact (hk.1 (x3 + (6 : Int32), σ9) rfl).2
        · have hf := xin q hf
          obtain ⟨b0, hg, e9⟩ := xmj hf
          subst e9
          have hf := hg
          have hk := hk.2 _ rfl
          refine ww_iconst (pc := 293) (v := (0 : Int32)) C dL_law_293 (by decide) ?_
          have hf := xsj hf
          subst hf
          exact ww_lawret (pc := 294) C hS hk dL_law_294
      · refine ⟨295, 262, rfl, by decide, ?_⟩
        have hf := xsw_in 3 hk1 rfl hf
        refine ww_aload_n (pc := 295) C 1 dL_law_295 rfl ?_
        obtain ⟨_, e3, hf⟩ := xbd hf
        obtain ⟨v5, e4, hf⟩ := xbd hf
        refine ww_callVi (pc := 296) (as := []) (st := []) C (k_X11_place (l := gl G) (E := gE G) (hb := gB G) (σ := σ) e4) rfl (by decide) xc_L_28 q686 q687 (xck_spec e3) rfl (by decide) (xst4 (Nat.le_of_ble_eq_true rfl)) xsame.rf.le xsame.rf.lim dL_law_296 ?_
        refine ww_aload_n (pc := 299) C 2 dL_law_299 rfl ?_
        obtain ⟨_, e6, hf⟩ := xbd hf
        obtain ⟨v8, e7, hf⟩ := xbd hf
        refine ww_callVi (pc := 300) (as := []) (st := [.int v5]) C (k_X12_place (l := gl G) (E := gE G) (hb := gB G) (σ := σ) e7) rfl (by decide) xc_L_31 q1499 q1500 (xck_spec e6) rfl (by decide) (xst4 (Nat.le_of_ble_eq_true rfl)) xsame.rf.le xsame.rf.lim dL_law_300 ?_
        refine ww_icmp_eq (pc := 303) (tgt := 1291) C dL_law_303 (by decide) (fun q => ?_) (fun q => ?_)
        · have hf := xip q hf
          refine ww_iinc (pc := 1291) (v := x3 + (6 : Int32)) (lv' := [(3, .int (x3 + (6 : Int32))), (0, .ref b), (1, .ref (gB G + r1)), (2, .ref (gB G + r2))]) C 3 dL_law_1291 rfl (congrArg (fun z => x3 + z) (show Int32.ofInt (6) = (6 : Int32) by decide)) (by decide) rfl ?_
          refine ww_goto (pc := 1294) (tgt := 18) C dL_law_1294 (by decide) ?_
          have hf := xsj hf
          subst hf
          refine ww_sub [1, 2, 3, 0] rfl ?_
          exact (hk.1 (x3 + (6 : Int32), σ) rfl).2
        · have hf := xin q hf
          obtain ⟨b0, hg, e9⟩ := xmj hf
          subst e9
          have hf := hg
          have hk := hk.2 _ rfl
          refine ww_iconst (pc := 306) (v := (0 : Int32)) C dL_law_306 (by decide) ?_
          have hf := xsj hf
          subst hf
          exact ww_lawret (pc := 307) C hS hk dL_law_307
      · refine ⟨308, 275, rfl, by decide, ?_⟩
        have hf := xsw_in 4 hk1 rfl hf
        refine ww_aload_n (pc := 308) C 1 dL_law_308 rfl ?_
        refine ww_aload_n (pc := 309) C 0 dL_law_309 rfl ?_
        refine ww_iload_n (pc := 310) C 3 dL_law_310 rfl ?_
        refine ww_iconst (pc := 311) (v := (1 : Int32)) C dL_law_311 (by decide) ?_
        refine ww_iadd (pc := 312) C dL_law_312 ?_
        obtain ⟨v4, e3, hf⟩ := xbd hf
        refine ww_sld (pc := 313) C hS e3 dL_law_313 ?_
        refine ww_aload_n (pc := 314) C 0 dL_law_314 rfl ?_
        refine ww_iload_n (pc := 315) C 3 dL_law_315 rfl ?_
        refine ww_iconst (pc := 316) (v := (2 : Int32)) C dL_law_316 (by decide) ?_
        refine ww_iadd (pc := 317) C dL_law_317 ?_
        obtain ⟨v6, e5, hf⟩ := xbd hf
        refine ww_sld (pc := 318) C hS e5 dL_law_318 ?_
        refine ww_if_eq (pc := 319) (tgt := 326) C dL_law_319 (by decide) (fun q => ?_) (fun q => ?_)
        · have hf := xip q hf
          refine ww_iconst (pc := 326) (v := (0 : Int32)) C dL_law_326 (by decide) ?_
          refine ww_sub [0, 1, 2, 3] rfl ?_
          exact s_L_law_j327 C hS hf hk
        · have hf := xin q hf
          refine ww_iconst (pc := 322) (v := (1 : Int32)) C dL_law_322 (by decide) ?_
          refine ww_goto (pc := 323) (tgt := 327) C dL_law_323 (by decide) ?_
          refine ww_sub [0, 1, 2, 3] rfl ?_
          exact s_L_law_j327 C hS hf hk
      · refine ⟨367, 334, rfl, by decide, ?_⟩
        have hf := xsw_in 5 hk1 rfl hf
        refine ww_aload_n (pc := 367) C 1 dL_law_367 rfl ?_
        refine ww_aload_n (pc := 368) C 0 dL_law_368 rfl ?_
        refine ww_iload_n (pc := 369) C 3 dL_law_369 rfl ?_
        refine ww_iconst (pc := 370) (v := (1 : Int32)) C dL_law_370 (by decide) ?_
        refine ww_iadd (pc := 371) C dL_law_371 ?_
        obtain ⟨v4, e3, hf⟩ := xbd hf
        refine ww_sld (pc := 372) C hS e3 dL_law_372 ?_
        refine ww_aload_n (pc := 373) C 0 dL_law_373 rfl ?_
        refine ww_iload_n (pc := 374) C 3 dL_law_374 rfl ?_
        refine ww_iconst (pc := 375) (v := (2 : Int32)) C dL_law_375 (by decide) ?_
        refine ww_iadd (pc := 376) C dL_law_376 ?_
        obtain ⟨v6, e5, hf⟩ := xbd hf
        refine ww_sld (pc := 377) C hS e5 dL_law_377 ?_
        obtain ⟨_, e7, hf⟩ := xbd hf
        obtain ⟨⟨v10, σ9⟩, e8, hf⟩ := xbd hf
        dsimp only at hf
        refine ww_callVi (pc := 378) (as := [.int v4, .int v6]) (st := []) C (k_X11_pull (l := gl G) (E := gE G) (hb := gB G) (σ := σ) e8) rfl (by decide) xc_L_37 q722 q723 (xck_spec e7) rfl (by decide) (xst4 (Nat.le_of_ble_eq_true rfl)) (m_X11_pull e8).le (m_X11_pull e8).lim dL_law_378 ?_
        refine ww_aload_n (pc := 381) C 2 dL_law_381 rfl ?_
        refine ww_aload_n (pc := 382) C 0 dL_law_382 rfl ?_
        refine ww_iload_n (pc := 383) C 3 dL_law_383 rfl ?_
        refine ww_iconst (pc := 384) (v := (1 : Int32)) C dL_law_384 (by decide) ?_
        refine ww_iadd (pc := 385) C dL_law_385 ?_
        obtain ⟨v12, e11, hf⟩ := xbd hf
        refine ww_sld (pc := 386) C hS e11 dL_law_386 ?_
        refine ww_aload_n (pc := 387) C 0 dL_law_387 rfl ?_
        refine ww_iload_n (pc := 388) C 3 dL_law_388 rfl ?_
        refine ww_iconst (pc := 389) (v := (2 : Int32)) C dL_law_389 (by decide) ?_
        refine ww_iadd (pc := 390) C dL_law_390 ?_
        obtain ⟨v14, e13, hf⟩ := xbd hf
        refine ww_sld (pc := 391) C hS e13 dL_law_391 ?_
        obtain ⟨_, e15, hf⟩ := xbd hf
        obtain ⟨⟨v18, σ17⟩, e16, hf⟩ := xbd hf
        dsimp only at hf
        refine ww_callVi (pc := 392) (as := [.int v12, .int v14]) (st := [.int v10]) C (k_X12_pull (l := gl G) (E := gE G) (hb := gB G) (σ := σ9) e16) rfl (by decide) xc_L_41 q1522 q1523 (xck_spec e15) rfl (by decide) (xst4 (Nat.le_of_ble_eq_true rfl)) (m_X12_pull e16).le (m_X12_pull e16).lim dL_law_392 ?_
        refine ww_icmp_eq (pc := 395) (tgt := 1291) C dL_law_395 (by decide) (fun q => ?_) (fun q => ?_)
        · have hf := xip q hf
          refine ww_iinc (pc := 1291) (v := x3 + (6 : Int32)) (lv' := [(3, .int (x3 + (6 : Int32))), (0, .ref b), (1, .ref (gB G + r1)), (2, .ref (gB G + r2))]) C 3 dL_law_1291 rfl (congrArg (fun z => x3 + z) (show Int32.ofInt (6) = (6 : Int32) by decide)) (by decide) rfl ?_
          refine ww_goto (pc := 1294) (tgt := 18) C dL_law_1294 (by decide) ?_
          have hf := xsj hf
          subst hf
          refine ww_sub [1, 2, 3, 0] rfl ?_
          exact (hk.1 (x3 + (6 : Int32), σ17) rfl).2
        · have hf := xin q hf
          obtain ⟨b0, hg, e9⟩ := xmj hf
          subst e9
          have hf := hg
          have hk := hk.2 _ rfl
          refine ww_iconst (pc := 398) (v := (0 : Int32)) C dL_law_398 (by decide) ?_
          have hf := xsj hf
          subst hf
          exact ww_lawret (pc := 399) C hS hk dL_law_399
      · refine ⟨400, 367, rfl, by decide, ?_⟩
        have hf := xsw_in 6 hk1 rfl hf
        refine ww_aload_n (pc := 400) C 1 dL_law_400 rfl ?_
        refine ww_aload_n (pc := 401) C 0 dL_law_401 rfl ?_
        refine ww_iload_n (pc := 402) C 3 dL_law_402 rfl ?_
        refine ww_iconst (pc := 403) (v := (1 : Int32)) C dL_law_403 (by decide) ?_
        refine ww_iadd (pc := 404) C dL_law_404 ?_
        obtain ⟨v4, e3, hf⟩ := xbd hf
        refine ww_sld (pc := 405) C hS e3 dL_law_405 ?_
        refine ww_aload_n (pc := 406) C 0 dL_law_406 rfl ?_
        refine ww_iload_n (pc := 407) C 3 dL_law_407 rfl ?_
        refine ww_iconst (pc := 408) (v := (2 : Int32)) C dL_law_408 (by decide) ?_
        refine ww_iadd (pc := 409) C dL_law_409 ?_
        obtain ⟨v6, e5, hf⟩ := xbd hf
        refine ww_sld (pc := 410) C hS e5 dL_law_410 ?_
        obtain ⟨_, e7, hf⟩ := xbd hf
        obtain ⟨⟨v10, σ9⟩, e8, hf⟩ := xbd hf
        dsimp only at hf
        refine ww_callVi (pc := 411) (as := [.int v4, .int v6]) (st := []) C (k_X11_pin (l := gl G) (E := gE G) (hb := gB G) (σ := σ) e8) rfl (by decide) xc_L_42 q732 q733 (xck_spec e7) rfl (by decide) (xst4 (Nat.le_of_ble_eq_true rfl)) (m_X11_pin e8).le (m_X11_pin e8).lim dL_law_411 ?_
        refine ww_aload_n (pc := 414) C 2 dL_law_414 rfl ?_
        refine ww_aload_n (pc := 415) C 0 dL_law_415 rfl ?_
        refine ww_iload_n (pc := 416) C 3 dL_law_416 rfl ?_
        refine ww_iconst (pc := 417) (v := (1 : Int32)) C dL_law_417 (by decide) ?_
        refine ww_iadd (pc := 418) C dL_law_418 ?_
        obtain ⟨v12, e11, hf⟩ := xbd hf
        refine ww_sld (pc := 419) C hS e11 dL_law_419 ?_
        refine ww_aload_n (pc := 420) C 0 dL_law_420 rfl ?_
        refine ww_iload_n (pc := 421) C 3 dL_law_421 rfl ?_
        refine ww_iconst (pc := 422) (v := (2 : Int32)) C dL_law_422 (by decide) ?_
        refine ww_iadd (pc := 423) C dL_law_423 ?_
        obtain ⟨v14, e13, hf⟩ := xbd hf
        refine ww_sld (pc := 424) C hS e13 dL_law_424 ?_
        obtain ⟨_, e15, hf⟩ := xbd hf
        obtain ⟨⟨v18, σ17⟩, e16, hf⟩ := xbd hf
        dsimp only at hf
        refine ww_callVi (pc := 425) (as := [.int v12, .int v14]) (st := [.int v10]) C (k_X12_pin (l := gl G) (E := gE G) (hb := gB G) (σ := σ9) e16) rfl (by decide) xc_L_45 q1526 q1527 (xck_spec e15) rfl (by decide) (xst4 (Nat.le_of_ble_eq_true rfl)) (m_X12_pin e16).le (m_X12_pin e16).lim dL_law_425 ?_
        refine ww_icmp_eq (pc := 428) (tgt := 1291) C dL_law_428 (by decide) (fun q => ?_) (fun q => ?_)
        · have hf := xip q hf
          refine ww_iinc (pc := 1291) (v := x3 + (6 : Int32)) (lv' := [(3, .int (x3 + (6 : Int32))), (0, .ref b), (1, .ref (gB G + r1)), (2, .ref (gB G + r2))]) C 3 dL_law_1291 rfl (congrArg (fun z => x3 + z) (show Int32.ofInt (6) = (6 : Int32) by decide)) (by decide) rfl ?_
          refine ww_goto (pc := 1294) (tgt := 18) C dL_law_1294 (by decide) ?_
          have hf := xsj hf
          subst hf
          refine ww_sub [1, 2, 3, 0] rfl ?_
          exact (hk.1 (x3 + (6 : Int32), σ17) rfl).2
        · have hf := xin q hf
          obtain ⟨b0, hg, e9⟩ := xmj hf
          subst e9
          have hf := hg
          have hk := hk.2 _ rfl
          refine ww_iconst (pc := 431) (v := (0 : Int32)) C dL_law_431 (by decide) ?_
          have hf := xsj hf
          subst hf
          exact ww_lawret (pc := 432) C hS hk dL_law_432
      · refine ⟨433, 400, rfl, by decide, ?_⟩
        have hf := xsw_in 7 hk1 rfl hf
        refine ww_aload_n (pc := 433) C 1 dL_law_433 rfl ?_
        refine ww_aload_n (pc := 434) C 0 dL_law_434 rfl ?_
        refine ww_iload_n (pc := 435) C 3 dL_law_435 rfl ?_
        refine ww_iconst (pc := 436) (v := (1 : Int32)) C dL_law_436 (by decide) ?_
        refine ww_iadd (pc := 437) C dL_law_437 ?_
        obtain ⟨v4, e3, hf⟩ := xbd hf
        refine ww_sld (pc := 438) C hS e3 dL_law_438 ?_
        obtain ⟨_, e5, hf⟩ := xbd hf
        obtain ⟨⟨v8, σ7⟩, e6, hf⟩ := xbd hf
        dsimp only at hf
        refine ww_callVi (pc := 439) (as := [.int v4]) (st := []) C (k_X11_glass (l := gl G) (E := gE G) (hb := gB G) (σ := σ) e6) rfl (by decide) xc_L_46 q750 q751 (xck_spec e5) rfl (by decide) (xst4 (Nat.le_of_ble_eq_true rfl)) (m_X11_glass e6).le (m_X11_glass e6).lim dL_law_439 ?_
        refine ww_aload_n (pc := 442) C 2 dL_law_442 rfl ?_
        refine ww_aload_n (pc := 443) C 0 dL_law_443 rfl ?_
        refine ww_iload_n (pc := 444) C 3 dL_law_444 rfl ?_
        refine ww_iconst (pc := 445) (v := (1 : Int32)) C dL_law_445 (by decide) ?_
        refine ww_iadd (pc := 446) C dL_law_446 ?_
        obtain ⟨v10, e9, hf⟩ := xbd hf
        refine ww_sld (pc := 447) C hS e9 dL_law_447 ?_
        obtain ⟨_, e11, hf⟩ := xbd hf
        obtain ⟨⟨v14, σ13⟩, e12, hf⟩ := xbd hf
        dsimp only at hf
        refine ww_callVi (pc := 448) (as := [.int v10]) (st := [.int v8]) C (k_X12_glass (l := gl G) (E := gE G) (hb := gB G) (σ := σ7) e12) rfl (by decide) xc_L_50 q1530 q1531 (xck_spec e11) rfl (by decide) (xst4 (Nat.le_of_ble_eq_true rfl)) (m_X12_glass e12).le (m_X12_glass e12).lim dL_law_448 ?_
        refine ww_icmp_eq (pc := 451) (tgt := 1291) C dL_law_451 (by decide) (fun q => ?_) (fun q => ?_)
        · have hf := xip q hf
          refine ww_iinc (pc := 1291) (v := x3 + (6 : Int32)) (lv' := [(3, .int (x3 + (6 : Int32))), (0, .ref b), (1, .ref (gB G + r1)), (2, .ref (gB G + r2))]) C 3 dL_law_1291 rfl (congrArg (fun z => x3 + z) (show Int32.ofInt (6) = (6 : Int32) by decide)) (by decide) rfl ?_
          refine ww_goto (pc := 1294) (tgt := 18) C dL_law_1294 (by decide) ?_
          have hf := xsj hf
          subst hf
          refine ww_sub [1, 2, 3, 0] rfl ?_
          exact (hk.1 (x3 + (6 : Int32), σ13) rfl).2
        · have hf := xin q hf
          obtain ⟨b0, hg, e9⟩ := xmj hf
          subst e9
          have hf := hg
          have hk := hk.2 _ rfl
          refine ww_iconst (pc := 454) (v := (0 : Int32)) C dL_law_454 (by decide) ?_
          have hf := xsj hf
          subst hf
          exact ww_lawret (pc := 455) C hS hk dL_law_455
      · refine ⟨456, 423, rfl, by decide, ?_⟩
        have hf := xsw_in 8 hk1 rfl hf
        refine ww_aload_n (pc := 456) C 1 dL_law_456 rfl ?_
        refine ww_aload_n (pc := 457) C 0 dL_law_457 rfl ?_
        refine ww_iload_n (pc := 458) C 3 dL_law_458 rfl ?_
        refine ww_iconst (pc := 459) (v := (1 : Int32)) C dL_law_459 (by decide) ?_
        refine ww_iadd (pc := 460) C dL_law_460 ?_
        obtain ⟨v4, e3, hf⟩ := xbd hf
        refine ww_sld (pc := 461) C hS e3 dL_law_461 ?_
        obtain ⟨_, e5, hf⟩ := xbd hf
        obtain ⟨⟨v8, σ7⟩, e6, hf⟩ := xbd hf
        dsimp only at hf
        refine ww_callVi (pc := 462) (as := [.int v4]) (st := []) C (k_X11_turn (l := gl G) (E := gE G) (hb := gB G) (σ := σ) e6) rfl (by decide) xc_L_51 q765 q766 (xck_spec e5) rfl (by decide) (xst4 (Nat.le_of_ble_eq_true rfl)) (m_X11_turn e6).le (m_X11_turn e6).lim dL_law_462 ?_
        refine ww_aload_n (pc := 465) C 2 dL_law_465 rfl ?_
        refine ww_aload_n (pc := 466) C 0 dL_law_466 rfl ?_
        refine ww_iload_n (pc := 467) C 3 dL_law_467 rfl ?_
        refine ww_iconst (pc := 468) (v := (1 : Int32)) C dL_law_468 (by decide) ?_
        refine ww_iadd (pc := 469) C dL_law_469 ?_
        obtain ⟨v10, e9, hf⟩ := xbd hf
        refine ww_sld (pc := 470) C hS e9 dL_law_470 ?_
        obtain ⟨_, e11, hf⟩ := xbd hf
        obtain ⟨⟨v14, σ13⟩, e12, hf⟩ := xbd hf
        dsimp only at hf
        refine ww_callVi (pc := 471) (as := [.int v10]) (st := [.int v8]) C (k_X12_turn (l := gl G) (E := gE G) (hb := gB G) (σ := σ7) e12) rfl (by decide) xc_L_54 q1542 q1543 (xck_spec e11) rfl (by decide) (xst4 (Nat.le_of_ble_eq_true rfl)) (m_X12_turn e12).le (m_X12_turn e12).lim dL_law_471 ?_
        refine ww_icmp_eq (pc := 474) (tgt := 1291) C dL_law_474 (by decide) (fun q => ?_) (fun q => ?_)
        · have hf := xip q hf
          refine ww_iinc (pc := 1291) (v := x3 + (6 : Int32)) (lv' := [(3, .int (x3 + (6 : Int32))), (0, .ref b), (1, .ref (gB G + r1)), (2, .ref (gB G + r2))]) C 3 dL_law_1291 rfl (congrArg (fun z => x3 + z) (show Int32.ofInt (6) = (6 : Int32) by decide)) (by decide) rfl ?_
          refine ww_goto (pc := 1294) (tgt := 18) C dL_law_1294 (by decide) ?_
          have hf := xsj hf
          subst hf
          refine ww_sub [1, 2, 3, 0] rfl ?_
          exact (hk.1 (x3 + (6 : Int32), σ13) rfl).2
        · have hf := xin q hf
          obtain ⟨b0, hg, e9⟩ := xmj hf
          subst e9
          have hf := hg
          have hk := hk.2 _ rfl
          refine ww_iconst (pc := 477) (v := (0 : Int32)) C dL_law_477 (by decide) ?_
          have hf := xsj hf
          subst hf
          exact ww_lawret (pc := 478) C hS hk dL_law_478
      · refine ⟨479, 446, rfl, by decide, ?_⟩
        have hf := xsw_in 9 hk1 rfl hf
        refine ww_aload_n (pc := 479) C 1 dL_law_479 rfl ?_
        obtain ⟨_, e3, hf⟩ := xbd hf
        obtain ⟨⟨v6, σ5⟩, e4, hf⟩ := xbd hf
        dsimp only at hf
        refine ww_callVi (pc := 480) (as := []) (st := []) C (k_X11_fall (l := gl G) (E := gE G) (hb := gB G) (σ := σ) e4) rfl (by decide) xc_L_55 q770 q771 (xck_spec e3) rfl (by decide) (xst4 (Nat.le_of_ble_eq_true rfl)) (m_X11_fall e4).le (m_X11_fall e4).lim dL_law_480 ?_
        refine ww_aload_n (pc := 483) C 2 dL_law_483 rfl ?_
        obtain ⟨_, e7, hf⟩ := xbd hf
        obtain ⟨⟨v10, σ9⟩, e8, hf⟩ := xbd hf
        dsimp only at hf
        refine ww_callVi (pc := 484) (as := []) (st := [.int v6]) C (k_X12_fall (l := gl G) (E := gE G) (hb := gB G) (σ := σ5) e8) rfl (by decide) xc_L_58 q1546 q1547 (xck_spec e7) rfl (by decide) (xst4 (Nat.le_of_ble_eq_true rfl)) (m_X12_fall e8).le (m_X12_fall e8).lim dL_law_484 ?_
        refine ww_icmp_eq (pc := 487) (tgt := 1291) C dL_law_487 (by decide) (fun q => ?_) (fun q => ?_)
        · have hf := xip q hf
          refine ww_iinc (pc := 1291) (v := x3 + (6 : Int32)) (lv' := [(3, .int (x3 + (6 : Int32))), (0, .ref b), (1, .ref (gB G + r1)), (2, .ref (gB G + r2))]) C 3 dL_law_1291 rfl (congrArg (fun z => x3 + z) (show Int32.ofInt (6) = (6 : Int32) by decide)) (by decide) rfl ?_
          refine ww_goto (pc := 1294) (tgt := 18) C dL_law_1294 (by decide) ?_
          have hf := xsj hf
          subst hf
          refine ww_sub [1, 2, 3, 0] rfl ?_
          exact (hk.1 (x3 + (6 : Int32), σ9) rfl).2
        · have hf := xin q hf
          obtain ⟨b0, hg, e9⟩ := xmj hf
          subst e9
          have hf := hg
          have hk := hk.2 _ rfl
          refine ww_iconst (pc := 490) (v := (0 : Int32)) C dL_law_490 (by decide) ?_
          have hf := xsj hf
          subst hf
          exact ww_lawret (pc := 491) C hS hk dL_law_491
      · refine ⟨492, 459, rfl, by decide, ?_⟩
        have hf := xsw_in 10 hk1 rfl hf
        refine ww_aload_n (pc := 492) C 1 dL_law_492 rfl ?_
        obtain ⟨_, e3, hf⟩ := xbd hf
        obtain ⟨⟨v6, σ5⟩, e4, hf⟩ := xbd hf
        dsimp only at hf
        refine ww_callVi (pc := 493) (as := []) (st := []) C (k_X11_undo (l := gl G) (E := gE G) (hb := gB G) (σ := σ) e4) rfl (by decide) xc_L_59 q790 q791 (xck_spec e3) rfl (by decide) (xst4 (Nat.le_of_ble_eq_true rfl)) (m_X11_undo e4).le (m_X11_undo e4).lim dL_law_493 ?_
        refine ww_aload_n (pc := 496) C 2 dL_law_496 rfl ?_
        obtain ⟨_, e7, hf⟩ := xbd hf
        obtain ⟨⟨v10, σ9⟩, e8, hf⟩ := xbd hf
        dsimp only at hf
        refine ww_callVi (pc := 497) (as := []) (st := [.int v6]) C (k_X12_undo (l := gl G) (E := gE G) (hb := gB G) (σ := σ5) e8) rfl (by decide) xc_L_63 q1582 q1583 (xck_spec e7) rfl (by decide) (xst4 (Nat.le_of_ble_eq_true rfl)) (m_X12_undo e8).le (m_X12_undo e8).lim dL_law_497 ?_
        refine ww_icmp_eq (pc := 500) (tgt := 1291) C dL_law_500 (by decide) (fun q => ?_) (fun q => ?_)
        · have hf := xip q hf
          refine ww_iinc (pc := 1291) (v := x3 + (6 : Int32)) (lv' := [(3, .int (x3 + (6 : Int32))), (0, .ref b), (1, .ref (gB G + r1)), (2, .ref (gB G + r2))]) C 3 dL_law_1291 rfl (congrArg (fun z => x3 + z) (show Int32.ofInt (6) = (6 : Int32) by decide)) (by decide) rfl ?_
          refine ww_goto (pc := 1294) (tgt := 18) C dL_law_1294 (by decide) ?_
          have hf := xsj hf
          subst hf
          refine ww_sub [1, 2, 3, 0] rfl ?_
          exact (hk.1 (x3 + (6 : Int32), σ9) rfl).2
        · have hf := xin q hf
          obtain ⟨b0, hg, e9⟩ := xmj hf
          subst e9
          have hf := hg
          have hk := hk.2 _ rfl
          refine ww_iconst (pc := 503) (v := (0 : Int32)) C dL_law_503 (by decide) ?_
          have hf := xsj hf
          subst hf
          exact ww_lawret (pc := 504) C hS hk dL_law_504
      · refine ⟨505, 472, rfl, by decide, ?_⟩
        have hf := xsw_in 11 hk1 rfl hf
        refine ww_aload_n (pc := 505) C 1 dL_law_505 rfl ?_
        refine ww_aload_n (pc := 506) C 0 dL_law_506 rfl ?_
        refine ww_iload_n (pc := 507) C 3 dL_law_507 rfl ?_
        refine ww_iconst (pc := 508) (v := (1 : Int32)) C dL_law_508 (by decide) ?_
        refine ww_iadd (pc := 509) C dL_law_509 ?_
        obtain ⟨v4, e3, hf⟩ := xbd hf
        refine ww_sld (pc := 510) C hS e3 dL_law_510 ?_
        refine ww_aload_n (pc := 511) C 0 dL_law_511 rfl ?_
        refine ww_iload_n (pc := 512) C 3 dL_law_512 rfl ?_
        refine ww_iconst (pc := 513) (v := (2 : Int32)) C dL_law_513 (by decide) ?_
        refine ww_iadd (pc := 514) C dL_law_514 ?_
        obtain ⟨v6, e5, hf⟩ := xbd hf
        refine ww_sld (pc := 515) C hS e5 dL_law_515 ?_
        obtain ⟨_, e7, hf⟩ := xbd hf
        obtain ⟨v9, e8, hf⟩ := xbd hf
        refine ww_callVi (pc := 516) (as := [.int v4, .int v6]) (st := []) C (k_X11_site (l := gl G) (E := gE G) (hb := gB G) (σ := σ) e8) rfl (by decide) xc_L_64 q798 q799 (xck_spec e7) rfl (by decide) (xst4 (Nat.le_of_ble_eq_true rfl)) xsame.rf.le xsame.rf.lim dL_law_516 ?_
        refine ww_aload_n (pc := 519) C 2 dL_law_519 rfl ?_
        refine ww_aload_n (pc := 520) C 0 dL_law_520 rfl ?_
        refine ww_iload_n (pc := 521) C 3 dL_law_521 rfl ?_
        refine ww_iconst (pc := 522) (v := (1 : Int32)) C dL_law_522 (by decide) ?_
        refine ww_iadd (pc := 523) C dL_law_523 ?_
        obtain ⟨v11, e10, hf⟩ := xbd hf
        refine ww_sld (pc := 524) C hS e10 dL_law_524 ?_
        refine ww_aload_n (pc := 525) C 0 dL_law_525 rfl ?_
        refine ww_iload_n (pc := 526) C 3 dL_law_526 rfl ?_
        refine ww_iconst (pc := 527) (v := (2 : Int32)) C dL_law_527 (by decide) ?_
        refine ww_iadd (pc := 528) C dL_law_528 ?_
        obtain ⟨v13, e12, hf⟩ := xbd hf
        refine ww_sld (pc := 529) C hS e12 dL_law_529 ?_
        obtain ⟨_, e14, hf⟩ := xbd hf
        obtain ⟨v16, e15, hf⟩ := xbd hf
        refine ww_callVi (pc := 530) (as := [.int v11, .int v13]) (st := [.int v9]) C (k_X12_site (l := gl G) (E := gE G) (hb := gB G) (σ := σ) e15) rfl (by decide) xc_L_68 q1594 q1595 (xck_spec e14) rfl (by decide) (xst4 (Nat.le_of_ble_eq_true rfl)) xsame.rf.le xsame.rf.lim dL_law_530 ?_
        refine ww_icmp_eq (pc := 533) (tgt := 1291) C dL_law_533 (by decide) (fun q => ?_) (fun q => ?_)
        · have hf := xip q hf
          refine ww_iinc (pc := 1291) (v := x3 + (6 : Int32)) (lv' := [(3, .int (x3 + (6 : Int32))), (0, .ref b), (1, .ref (gB G + r1)), (2, .ref (gB G + r2))]) C 3 dL_law_1291 rfl (congrArg (fun z => x3 + z) (show Int32.ofInt (6) = (6 : Int32) by decide)) (by decide) rfl ?_
          refine ww_goto (pc := 1294) (tgt := 18) C dL_law_1294 (by decide) ?_
          have hf := xsj hf
          subst hf
          refine ww_sub [1, 2, 3, 0] rfl ?_
          exact (hk.1 (x3 + (6 : Int32), σ) rfl).2
        · have hf := xin q hf
          obtain ⟨b0, hg, e9⟩ := xmj hf
          subst e9
          have hf := hg
          have hk := hk.2 _ rfl
          refine ww_iconst (pc := 536) (v := (0 : Int32)) C dL_law_536 (by decide) ?_
          have hf := xsj hf
          subst hf
          exact ww_lawret (pc := 537) C hS hk dL_law_537
      · refine ⟨538, 505, rfl, by decide, ?_⟩
        have hf := xsw_in 12 hk1 rfl hf
        refine ww_aload_n (pc := 538) C 1 dL_law_538 rfl ?_
        refine ww_aload_n (pc := 539) C 0 dL_law_539 rfl ?_
        refine ww_iload_n (pc := 540) C 3 dL_law_540 rfl ?_
        refine ww_iconst (pc := 541) (v := (1 : Int32)) C dL_law_541 (by decide) ?_
        refine ww_iadd (pc := 542) C dL_law_542 ?_
        obtain ⟨v4, e3, hf⟩ := xbd hf
        refine ww_sld (pc := 543) C hS e3 dL_law_543 ?_
        refine ww_aload_n (pc := 544) C 0 dL_law_544 rfl ?_
        refine ww_iload_n (pc := 545) C 3 dL_law_545 rfl ?_
        refine ww_iconst (pc := 546) (v := (2 : Int32)) C dL_law_546 (by decide) ?_
        refine ww_iadd (pc := 547) C dL_law_547 ?_
        obtain ⟨v6, e5, hf⟩ := xbd hf
        refine ww_sld (pc := 548) C hS e5 dL_law_548 ?_
        obtain ⟨_, e7, hf⟩ := xbd hf
        obtain ⟨⟨v10, σ9⟩, e8, hf⟩ := xbd hf
        dsimp only at hf
        refine ww_callVi (pc := 549) (as := [.int v4, .int v6]) (st := []) C (k_X11_level (l := gl G) (E := gE G) (hb := gB G) (σ := σ) e8) rfl (by decide) xc_L_69 q841 q842 (xck_spec e7) rfl (by decide) (xst4 (Nat.le_of_ble_eq_true rfl)) (m_X11_level e8).1 (fun q => by have hm9 := m_L_law_j552 hf; rcases y with a' | b90; exact XLim.mid q (m_X11_level e8) (hm9.1 a' rfl) (hk.1 a' rfl).1; have hm9 := hm9.2 _ rfl; have hk := hk.2 _ rfl; exact XLim.mid q (m_X11_level e8) hm9 hk.2.1) dL_law_549 ?_
        refine ww_sub [0, 1, 2, 3] rfl ?_
        exact s_L_law_j552 C hS hf hk
      · refine ⟨571, 538, rfl, by decide, ?_⟩
        have hf := xsw_in 13 hk1 rfl hf
        refine ww_aload_n (pc := 571) C 1 dL_law_571 rfl ?_
        refine ww_aload_n (pc := 572) C 0 dL_law_572 rfl ?_
        refine ww_iload_n (pc := 573) C 3 dL_law_573 rfl ?_
        refine ww_iconst (pc := 574) (v := (1 : Int32)) C dL_law_574 (by decide) ?_
        refine ww_iadd (pc := 575) C dL_law_575 ?_
        obtain ⟨v4, e3, hf⟩ := xbd hf
        refine ww_sld (pc := 576) C hS e3 dL_law_576 ?_
        refine ww_aload_n (pc := 577) C 0 dL_law_577 rfl ?_
        refine ww_iload_n (pc := 578) C 3 dL_law_578 rfl ?_
        refine ww_iconst (pc := 579) (v := (2 : Int32)) C dL_law_579 (by decide) ?_
        refine ww_iadd (pc := 580) C dL_law_580 ?_
        obtain ⟨v6, e5, hf⟩ := xbd hf
        refine ww_sld (pc := 581) C hS e5 dL_law_581 ?_
        obtain ⟨_, e7, hf⟩ := xbd hf
        obtain ⟨⟨v10, σ9⟩, e8, hf⟩ := xbd hf
        dsimp only at hf
        refine ww_callVi (pc := 582) (as := [.int v4, .int v6]) (st := []) C (k_X11_both (l := gl G) (E := gE G) (hb := gB G) (σ := σ) e8) rfl (by decide) xc_L_73 q929 q930 (xck_spec e7) rfl (by decide) (xst4 (Nat.le_of_ble_eq_true rfl)) (m_X11_both e8).1 (fun q => by have hm9 := m_L_law_j585 hf; rcases y with a' | b90; exact XLim.mid q (m_X11_both e8) (hm9.1 a' rfl) (hk.1 a' rfl).1; have hm9 := hm9.2 _ rfl; have hk := hk.2 _ rfl; exact XLim.mid q (m_X11_both e8) hm9 hk.2.1) dL_law_582 ?_
        refine ww_sub [0, 1, 2, 3] rfl ?_
        exact s_L_law_j585 C hS hf hk
      · refine ⟨604, 571, rfl, by decide, ?_⟩
        have hf := xsw_in 14 hk1 rfl hf
        refine ww_aload_n (pc := 604) C 1 dL_law_604 rfl ?_
        refine ww_aload_n (pc := 605) C 0 dL_law_605 rfl ?_
        refine ww_iload_n (pc := 606) C 3 dL_law_606 rfl ?_
        refine ww_iconst (pc := 607) (v := (1 : Int32)) C dL_law_607 (by decide) ?_
        refine ww_iadd (pc := 608) C dL_law_608 ?_
        obtain ⟨v4, e3, hf⟩ := xbd hf
        refine ww_sld (pc := 609) C hS e3 dL_law_609 ?_
        obtain ⟨_, e5, hf⟩ := xbd hf
        obtain ⟨⟨v8, σ7⟩, e6, hf⟩ := xbd hf
        dsimp only at hf
        refine ww_callVi (pc := 610) (as := [.int v4]) (st := []) C (k_X11_broken (l := gl G) (E := gE G) (hb := gB G) (σ := σ) e6) rfl (by decide) xc_L_77 q934 q935 (xck_spec e5) rfl (by decide) (xst4 (Nat.le_of_ble_eq_true rfl)) (m_X11_broken e6).1 (fun q => by have hm9 := m_L_law_j613 hf; rcases y with a' | b90; exact XLim.mid q (m_X11_broken e6) (hm9.1 a' rfl) (hk.1 a' rfl).1; have hm9 := hm9.2 _ rfl; have hk := hk.2 _ rfl; exact XLim.mid q (m_X11_broken e6) hm9 hk.2.1) dL_law_610 ?_
        refine ww_sub [0, 1, 2, 3] rfl ?_
        exact s_L_law_j613 C hS hf hk
      · refine ⟨627, 594, rfl, by decide, ?_⟩
        have hf := xsw_in 15 hk1 rfl hf
        refine ww_aload_n (pc := 627) C 1 dL_law_627 rfl ?_
        refine ww_aload_n (pc := 628) C 0 dL_law_628 rfl ?_
        refine ww_iload_n (pc := 629) C 3 dL_law_629 rfl ?_
        refine ww_iconst (pc := 630) (v := (1 : Int32)) C dL_law_630 (by decide) ?_
        refine ww_iadd (pc := 631) C dL_law_631 ?_
        obtain ⟨v4, e3, hf⟩ := xbd hf
        refine ww_sld (pc := 632) C hS e3 dL_law_632 ?_
        obtain ⟨_, e5, hf⟩ := xbd hf
        obtain ⟨⟨v8, σ7⟩, e6, hf⟩ := xbd hf
        dsimp only at hf
        refine ww_callVi (pc := 633) (as := [.int v4]) (st := []) C (k_X11_ground (l := gl G) (E := gE G) (hb := gB G) (σ := σ) e6) rfl (by decide) xc_L_81 q963 q964 (xck_spec e5) rfl (by decide) (xst4 (Nat.le_of_ble_eq_true rfl)) (m_X11_ground e6).1 (fun q => by have hm9 := m_L_law_j636 hf; rcases y with a' | b90; exact XLim.mid q (m_X11_ground e6) (hm9.1 a' rfl) (hk.1 a' rfl).1; have hm9 := hm9.2 _ rfl; have hk := hk.2 _ rfl; exact XLim.mid q (m_X11_ground e6) hm9 hk.2.1) dL_law_633 ?_
        refine ww_sub [0, 1, 2, 3] rfl ?_
        exact s_L_law_j636 C hS hf hk
      · refine ⟨650, 617, rfl, by decide, ?_⟩
        have hf := xsw_in 16 hk1 rfl hf
        refine ww_aload_n (pc := 650) C 1 dL_law_650 rfl ?_
        refine ww_aload_n (pc := 651) C 0 dL_law_651 rfl ?_
        refine ww_iload_n (pc := 652) C 3 dL_law_652 rfl ?_
        refine ww_iconst (pc := 653) (v := (1 : Int32)) C dL_law_653 (by decide) ?_
        refine ww_iadd (pc := 654) C dL_law_654 ?_
        obtain ⟨v4, e3, hf⟩ := xbd hf
        refine ww_sld (pc := 655) C hS e3 dL_law_655 ?_
        refine ww_aload_n (pc := 656) C 0 dL_law_656 rfl ?_
        refine ww_iload_n (pc := 657) C 3 dL_law_657 rfl ?_
        refine ww_iconst (pc := 658) (v := (2 : Int32)) C dL_law_658 (by decide) ?_
        refine ww_iadd (pc := 659) C dL_law_659 ?_
        obtain ⟨v6, e5, hf⟩ := xbd hf
        refine ww_sld (pc := 660) C hS e5 dL_law_660 ?_
        refine ww_aload_n (pc := 661) C 0 dL_law_661 rfl ?_
        refine ww_iload_n (pc := 662) C 3 dL_law_662 rfl ?_
        refine ww_iconst (pc := 663) (v := (3 : Int32)) C dL_law_663 (by decide) ?_
        refine ww_iadd (pc := 664) C dL_law_664 ?_
        obtain ⟨v8, e7, hf⟩ := xbd hf
        refine ww_sld (pc := 665) C hS e7 dL_law_665 ?_
        refine ww_aload_n (pc := 666) C 0 dL_law_666 rfl ?_
        refine ww_iload_n (pc := 667) C 3 dL_law_667 rfl ?_
        refine ww_iconst (pc := 668) (v := (4 : Int32)) C dL_law_668 (by decide) ?_
        refine ww_iadd (pc := 669) C dL_law_669 ?_
        obtain ⟨v10, e9, hf⟩ := xbd hf
        refine ww_sld (pc := 670) C hS e9 dL_law_670 ?_
        obtain ⟨_, e11, hf⟩ := xbd hf
        obtain ⟨⟨v14, σ13⟩, e12, hf⟩ := xbd hf
        dsimp only at hf
        refine ww_callVi (pc := 671) (as := [.int v4, .int v6, .int v8, .int v10]) (st := []) C (k_X11_pair (l := gl G) (E := gE G) (hb := gB G) (σ := σ) e12) rfl (by decide) xc_L_85 q967 q968 (xck_spec e11) rfl (by decide) (xst4 (Nat.le_of_ble_eq_true rfl)) (m_X11_pair e12).1 (fun q => by have hm9 := m_L_law_j674 hf; rcases y with a' | b90; exact XLim.mid q (m_X11_pair e12) (hm9.1 a' rfl) (hk.1 a' rfl).1; have hm9 := hm9.2 _ rfl; have hk := hk.2 _ rfl; exact XLim.mid q (m_X11_pair e12) hm9 hk.2.1) dL_law_671 ?_
        refine ww_sub [0, 1, 2, 3] rfl ?_
        exact s_L_law_j674 C hS hf hk
      · refine ⟨703, 670, rfl, by decide, ?_⟩
        have hf := xsw_in 17 hk1 rfl hf
        refine ww_aload_n (pc := 703) C 1 dL_law_703 rfl ?_
        refine ww_aload_n (pc := 704) C 0 dL_law_704 rfl ?_
        refine ww_iload_n (pc := 705) C 3 dL_law_705 rfl ?_
        refine ww_iconst (pc := 706) (v := (1 : Int32)) C dL_law_706 (by decide) ?_
        refine ww_iadd (pc := 707) C dL_law_707 ?_
        obtain ⟨v4, e3, hf⟩ := xbd hf
        refine ww_sld (pc := 708) C hS e3 dL_law_708 ?_
        refine ww_aload_n (pc := 709) C 0 dL_law_709 rfl ?_
        refine ww_iload_n (pc := 710) C 3 dL_law_710 rfl ?_
        refine ww_iconst (pc := 711) (v := (2 : Int32)) C dL_law_711 (by decide) ?_
        refine ww_iadd (pc := 712) C dL_law_712 ?_
        obtain ⟨v6, e5, hf⟩ := xbd hf
        refine ww_sld (pc := 713) C hS e5 dL_law_713 ?_
        obtain ⟨_, e7, hf⟩ := xbd hf
        obtain ⟨⟨v10, σ9⟩, e8, hf⟩ := xbd hf
        dsimp only at hf
        refine ww_callVi (pc := 714) (as := [.int v4, .int v6]) (st := []) C (k_X11_mean (l := gl G) (E := gE G) (hb := gB G) (σ := σ) e8) rfl (by decide) xc_L_90 q984 q985 (xck_spec e7) rfl (by decide) (xst4 (Nat.le_of_ble_eq_true rfl)) (m_X11_mean e8).1 (fun q => by have hm9 := m_L_law_j717 hf; rcases y with a' | b90; exact XLim.mid q (m_X11_mean e8) (hm9.1 a' rfl) (hk.1 a' rfl).1; have hm9 := hm9.2 _ rfl; have hk := hk.2 _ rfl; exact XLim.mid q (m_X11_mean e8) hm9 hk.2.1) dL_law_714 ?_
        refine ww_sub [0, 1, 2, 3] rfl ?_
        exact s_L_law_j717 C hS hf hk
      · refine ⟨736, 703, rfl, by decide, ?_⟩
        have hf := xsw_in 18 hk1 rfl hf
        refine ww_aload_n (pc := 736) C 1 dL_law_736 rfl ?_
        refine ww_aload_n (pc := 737) C 0 dL_law_737 rfl ?_
        refine ww_iload_n (pc := 738) C 3 dL_law_738 rfl ?_
        refine ww_iconst (pc := 739) (v := (1 : Int32)) C dL_law_739 (by decide) ?_
        refine ww_iadd (pc := 740) C dL_law_740 ?_
        obtain ⟨v4, e3, hf⟩ := xbd hf
        refine ww_sld (pc := 741) C hS e3 dL_law_741 ?_
        obtain ⟨_, e5, hf⟩ := xbd hf
        obtain ⟨⟨v8, σ7⟩, e6, hf⟩ := xbd hf
        dsimp only at hf
        refine ww_callVi (pc := 742) (as := [.int v4]) (st := []) C (k_X11_value (l := gl G) (E := gE G) (hb := gB G) (σ := σ) e6) rfl (by decide) xc_L_94 q992 q993 (xck_spec e5) rfl (by decide) (xst4 (Nat.le_of_ble_eq_true rfl)) (m_X11_value e6).1 (fun q => by have hm9 := m_L_law_j745 hf; rcases y with a' | b90; exact XLim.mid q (m_X11_value e6) (hm9.1 a' rfl) (hk.1 a' rfl).1; have hm9 := hm9.2 _ rfl; have hk := hk.2 _ rfl; exact XLim.mid q (m_X11_value e6) hm9 hk.2.1) dL_law_742 ?_
        refine ww_sub [0, 1, 2, 3] rfl ?_
        exact s_L_law_j745 C hS hf hk
      · refine ⟨759, 726, rfl, by decide, ?_⟩
        have hf := xsw_in 19 hk1 rfl hf
        refine ww_aload_n (pc := 759) C 1 dL_law_759 rfl ?_
        refine ww_aload_n (pc := 760) C 0 dL_law_760 rfl ?_
        refine ww_iload_n (pc := 761) C 3 dL_law_761 rfl ?_
        refine ww_iconst (pc := 762) (v := (1 : Int32)) C dL_law_762 (by decide) ?_
        refine ww_iadd (pc := 763) C dL_law_763 ?_
        obtain ⟨v4, e3, hf⟩ := xbd hf
        refine ww_sld (pc := 764) C hS e3 dL_law_764 ?_
        refine ww_aload_n (pc := 765) C 0 dL_law_765 rfl ?_
        refine ww_iload_n (pc := 766) C 3 dL_law_766 rfl ?_
        refine ww_iconst (pc := 767) (v := (2 : Int32)) C dL_law_767 (by decide) ?_
        refine ww_iadd (pc := 768) C dL_law_768 ?_
        obtain ⟨v6, e5, hf⟩ := xbd hf
        refine ww_sld (pc := 769) C hS e5 dL_law_769 ?_
        refine ww_aload_n (pc := 770) C 0 dL_law_770 rfl ?_
        refine ww_iload_n (pc := 771) C 3 dL_law_771 rfl ?_
        refine ww_iconst (pc := 772) (v := (3 : Int32)) C dL_law_772 (by decide) ?_
        refine ww_iadd (pc := 773) C dL_law_773 ?_
        obtain ⟨v8, e7, hf⟩ := xbd hf
        refine ww_sld (pc := 774) C hS e7 dL_law_774 ?_
        obtain ⟨_, e9, hf⟩ := xbd hf
        obtain ⟨⟨v12, σ11⟩, e10, hf⟩ := xbd hf
        dsimp only at hf
        refine ww_callVj (pc := 775) (as := [.int v4, .int v6, .int v8]) (st := []) C (k_X11_joined (l := gl G) (E := gE G) (hb := gB G) (σ := σ) e10) rfl (by decide) xc_L_98 q998 q999 (xck_spec e9) rfl (by decide) (xst4 (Nat.le_of_ble_eq_true rfl)) (m_X11_joined e10).1 (fun q => by have hm9 := m_L_law_j778 hf; rcases y with a' | b90; exact XLim.mid q (m_X11_joined e10) (hm9.1 a' rfl) (hk.1 a' rfl).1; have hm9 := hm9.2 _ rfl; have hk := hk.2 _ rfl; exact XLim.mid q (m_X11_joined e10) hm9 hk.2.1) dL_law_775 ?_
        refine ww_sub [0, 1, 2, 3] rfl ?_
        exact s_L_law_j778 C hS hf hk
      · refine ⟨803, 770, rfl, by decide, ?_⟩
        have hf := xsw_in 20 hk1 rfl hf
        refine ww_aload_n (pc := 803) C 1 dL_law_803 rfl ?_
        refine ww_aload_n (pc := 804) C 0 dL_law_804 rfl ?_
        refine ww_iload_n (pc := 805) C 3 dL_law_805 rfl ?_
        refine ww_iconst (pc := 806) (v := (1 : Int32)) C dL_law_806 (by decide) ?_
        refine ww_iadd (pc := 807) C dL_law_807 ?_
        obtain ⟨v4, e3, hf⟩ := xbd hf
        refine ww_sld (pc := 808) C hS e3 dL_law_808 ?_
        refine ww_aload_n (pc := 809) C 0 dL_law_809 rfl ?_
        refine ww_iload_n (pc := 810) C 3 dL_law_810 rfl ?_
        refine ww_iconst (pc := 811) (v := (2 : Int32)) C dL_law_811 (by decide) ?_
        refine ww_iadd (pc := 812) C dL_law_812 ?_
        obtain ⟨v6, e5, hf⟩ := xbd hf
        refine ww_sld (pc := 813) C hS e5 dL_law_813 ?_
        obtain ⟨_, e7, hf⟩ := xbd hf
        obtain ⟨⟨v10, σ9⟩, e8, hf⟩ := xbd hf
        dsimp only at hf
        refine ww_callVi (pc := 814) (as := [.int v4, .int v6]) (st := []) C (k_X11_state (l := gl G) (E := gE G) (hb := gB G) (σ := σ) e8) rfl (by decide) xc_L_103 q1062 q1063 (xck_spec e7) rfl (by decide) (xst4 (Nat.le_of_ble_eq_true rfl)) (m_X11_state e8).1 (fun q => by have hm9 := m_L_law_j817 hf; rcases y with a' | b90; exact XLim.mid q (m_X11_state e8) (hm9.1 a' rfl) (hk.1 a' rfl).1; have hm9 := hm9.2 _ rfl; have hk := hk.2 _ rfl; exact XLim.mid q (m_X11_state e8) hm9 hk.2.1) dL_law_814 ?_
        refine ww_sub [0, 1, 2, 3] rfl ?_
        exact s_L_law_j817 C hS hf hk
      · refine ⟨836, 803, rfl, by decide, ?_⟩
        have hf := xsw_in 21 hk1 rfl hf
        refine ww_aload_n (pc := 836) C 1 dL_law_836 rfl ?_
        refine ww_aload_n (pc := 837) C 0 dL_law_837 rfl ?_
        refine ww_iload_n (pc := 838) C 3 dL_law_838 rfl ?_
        refine ww_iconst (pc := 839) (v := (1 : Int32)) C dL_law_839 (by decide) ?_
        refine ww_iadd (pc := 840) C dL_law_840 ?_
        obtain ⟨v4, e3, hf⟩ := xbd hf
        refine ww_sld (pc := 841) C hS e3 dL_law_841 ?_
        refine ww_if_eq (pc := 842) (tgt := 849) C dL_law_842 (by decide) (fun q => ?_) (fun q => ?_)
        · have hf := xip q hf
          refine ww_iconst (pc := 849) (v := (0 : Int32)) C dL_law_849 (by decide) ?_
          refine ww_sub [0, 1, 2, 3] rfl ?_
          exact s_L_law_j850 C hS hf hk
        · have hf := xin q hf
          refine ww_iconst (pc := 845) (v := (1 : Int32)) C dL_law_845 (by decide) ?_
          refine ww_goto (pc := 846) (tgt := 850) C dL_law_846 (by decide) ?_
          refine ww_sub [0, 1, 2, 3] rfl ?_
          exact s_L_law_j850 C hS hf hk
      · refine ⟨875, 842, rfl, by decide, ?_⟩
        have hf := xsw_in 22 hk1 rfl hf
        refine ww_aload_n (pc := 875) C 1 dL_law_875 rfl ?_
        refine ww_aload_n (pc := 876) C 0 dL_law_876 rfl ?_
        refine ww_iload_n (pc := 877) C 3 dL_law_877 rfl ?_
        refine ww_iconst (pc := 878) (v := (1 : Int32)) C dL_law_878 (by decide) ?_
        refine ww_iadd (pc := 879) C dL_law_879 ?_
        obtain ⟨v4, e3, hf⟩ := xbd hf
        refine ww_sld (pc := 880) C hS e3 dL_law_880 ?_
        refine ww_aload_n (pc := 881) C 0 dL_law_881 rfl ?_
        refine ww_iload_n (pc := 882) C 3 dL_law_882 rfl ?_
        refine ww_iconst (pc := 883) (v := (2 : Int32)) C dL_law_883 (by decide) ?_
        refine ww_iadd (pc := 884) C dL_law_884 ?_
        obtain ⟨v6, e5, hf⟩ := xbd hf
        refine ww_sld (pc := 885) C hS e5 dL_law_885 ?_
        refine ww_aload_n (pc := 886) C 0 dL_law_886 rfl ?_
        refine ww_iload_n (pc := 887) C 3 dL_law_887 rfl ?_
        refine ww_iconst (pc := 888) (v := (3 : Int32)) C dL_law_888 (by decide) ?_
        refine ww_iadd (pc := 889) C dL_law_889 ?_
        obtain ⟨v8, e7, hf⟩ := xbd hf
        refine ww_sld (pc := 890) C hS e7 dL_law_890 ?_
        obtain ⟨_, e9, hf⟩ := xbd hf
        obtain ⟨⟨v12, σ11⟩, e10, hf⟩ := xbd hf
        dsimp only at hf
        refine ww_callVi (pc := 891) (as := [.int v4, .int v6, .int v8]) (st := []) C (k_X11_rows (l := gl G) (E := gE G) (hb := gB G) (σ := σ) e10) rfl (by decide) xc_L_112 q1040 q1041 (xck_spec e9) rfl (by decide) (xst4 (Nat.le_of_ble_eq_true rfl)) (m_X11_rows e10).1 (fun q => by have hm9 := m_L_law_j894 hf; rcases y with a' | b90; exact XLim.mid q (m_X11_rows e10) (hm9.1 a' rfl) (hk.1 a' rfl).1; have hm9 := hm9.2 _ rfl; have hk := hk.2 _ rfl; exact XLim.mid q (m_X11_rows e10) hm9 hk.2.1) dL_law_891 ?_
        refine ww_sub [0, 1, 2, 3] rfl ?_
        exact s_L_law_j894 C hS hf hk
      · refine ⟨918, 885, rfl, by decide, ?_⟩
        have hf := xsw_in 23 hk1 rfl hf
        refine ww_aload_n (pc := 918) C 1 dL_law_918 rfl ?_
        refine ww_aload_n (pc := 919) C 0 dL_law_919 rfl ?_
        refine ww_iload_n (pc := 920) C 3 dL_law_920 rfl ?_
        refine ww_iconst (pc := 921) (v := (1 : Int32)) C dL_law_921 (by decide) ?_
        refine ww_iadd (pc := 922) C dL_law_922 ?_
        obtain ⟨v4, e3, hf⟩ := xbd hf
        refine ww_sld (pc := 923) C hS e3 dL_law_923 ?_
        obtain ⟨_, e5, hf⟩ := xbd hf
        obtain ⟨v7, e6, hf⟩ := xbd hf
        refine ww_callVi (pc := 924) (as := [.int v4]) (st := []) C (k_X11_square (l := gl G) (E := gE G) (hb := gB G) (σ := σ) e6) rfl (by decide) xc_L_117 q817 q818 (xck_spec e5) rfl (by decide) (xst4 (Nat.le_of_ble_eq_true rfl)) xsame.rf.le xsame.rf.lim dL_law_924 ?_
        refine ww_aload_n (pc := 927) C 2 dL_law_927 rfl ?_
        refine ww_aload_n (pc := 928) C 0 dL_law_928 rfl ?_
        refine ww_iload_n (pc := 929) C 3 dL_law_929 rfl ?_
        refine ww_iconst (pc := 930) (v := (1 : Int32)) C dL_law_930 (by decide) ?_
        refine ww_iadd (pc := 931) C dL_law_931 ?_
        obtain ⟨v9, e8, hf⟩ := xbd hf
        refine ww_sld (pc := 932) C hS e8 dL_law_932 ?_
        obtain ⟨_, e10, hf⟩ := xbd hf
        obtain ⟨v12, e11, hf⟩ := xbd hf
        refine ww_callVi (pc := 933) (as := [.int v9]) (st := [.int v7]) C (k_X12_square (l := gl G) (E := gE G) (hb := gB G) (σ := σ) e11) rfl (by decide) xc_L_120 q1715 q1716 (xck_spec e10) rfl (by decide) (xst4 (Nat.le_of_ble_eq_true rfl)) xsame.rf.le xsame.rf.lim dL_law_933 ?_
        refine ww_icmp_eq (pc := 936) (tgt := 1291) C dL_law_936 (by decide) (fun q => ?_) (fun q => ?_)
        · have hf := xip q hf
          refine ww_iinc (pc := 1291) (v := x3 + (6 : Int32)) (lv' := [(3, .int (x3 + (6 : Int32))), (0, .ref b), (1, .ref (gB G + r1)), (2, .ref (gB G + r2))]) C 3 dL_law_1291 rfl (congrArg (fun z => x3 + z) (show Int32.ofInt (6) = (6 : Int32) by decide)) (by decide) rfl ?_
          refine ww_goto (pc := 1294) (tgt := 18) C dL_law_1294 (by decide) ?_
          have hf := xsj hf
          subst hf
          refine ww_sub [1, 2, 3, 0] rfl ?_
          exact (hk.1 (x3 + (6 : Int32), σ) rfl).2
        · have hf := xin q hf
          obtain ⟨b0, hg, e9⟩ := xmj hf
          subst e9
          have hf := hg
          have hk := hk.2 _ rfl
          refine ww_iconst (pc := 939) (v := (0 : Int32)) C dL_law_939 (by decide) ?_
          have hf := xsj hf
          subst hf
          exact ww_lawret (pc := 940) C hS hk dL_law_940
      · refine ⟨941, 908, rfl, by decide, ?_⟩
        have hf := xsw_in 24 hk1 rfl hf
        refine ww_aload_n (pc := 941) C 1 dL_law_941 rfl ?_
        refine ww_aload_n (pc := 942) C 0 dL_law_942 rfl ?_
        refine ww_iload_n (pc := 943) C 3 dL_law_943 rfl ?_
        refine ww_iconst (pc := 944) (v := (1 : Int32)) C dL_law_944 (by decide) ?_
        refine ww_iadd (pc := 945) C dL_law_945 ?_
        obtain ⟨v4, e3, hf⟩ := xbd hf
        refine ww_sld (pc := 946) C hS e3 dL_law_946 ?_
        obtain ⟨_, e5, hf⟩ := xbd hf
        obtain ⟨⟨v8, σ7⟩, e6, hf⟩ := xbd hf
        dsimp only at hf
        refine ww_callVi (pc := 947) (as := [.int v4]) (st := []) C (k_X11_overlap (l := gl G) (E := gE G) (hb := gB G) (σ := σ) e6) rfl (by decide) xc_L_121 q1048 q1049 (xck_spec e5) rfl (by decide) (xst4 (Nat.le_of_ble_eq_true rfl)) (m_X11_overlap e6).1 (fun q => by have hm9 := m_L_law_j950 hf; rcases y with a' | b90; exact XLim.mid q (m_X11_overlap e6) (hm9.1 a' rfl) (hk.1 a' rfl).1; have hm9 := hm9.2 _ rfl; have hk := hk.2 _ rfl; exact XLim.mid q (m_X11_overlap e6) hm9 hk.2.1) dL_law_947 ?_
        refine ww_sub [0, 1, 2, 3] rfl ?_
        exact s_L_law_j950 C hS hf hk
      · refine ⟨964, 931, rfl, by decide, ?_⟩
        have hf := xsw_in 25 hk1 rfl hf
        refine ww_aload_n (pc := 964) C 1 dL_law_964 rfl ?_
        refine ww_aload_n (pc := 965) C 0 dL_law_965 rfl ?_
        refine ww_iload_n (pc := 966) C 3 dL_law_966 rfl ?_
        refine ww_iconst (pc := 967) (v := (1 : Int32)) C dL_law_967 (by decide) ?_
        refine ww_iadd (pc := 968) C dL_law_968 ?_
        obtain ⟨v4, e3, hf⟩ := xbd hf
        refine ww_sld (pc := 969) C hS e3 dL_law_969 ?_
        obtain ⟨_, e5, hf⟩ := xbd hf
        obtain ⟨⟨v8, σ7⟩, e6, hf⟩ := xbd hf
        dsimp only at hf
        refine ww_callVi (pc := 970) (as := [.int v4]) (st := []) C (k_X11_basin (l := gl G) (E := gE G) (hb := gB G) (σ := σ) e6) rfl (by decide) xc_L_125 q1105 q1106 (xck_spec e5) rfl (by decide) (xst4 (Nat.le_of_ble_eq_true rfl)) (m_X11_basin e6).1 (fun q => by have hm9 := m_L_law_j973 hf; rcases y with a' | b90; exact XLim.mid q (m_X11_basin e6) (hm9.1 a' rfl) (hk.1 a' rfl).1; have hm9 := hm9.2 _ rfl; have hk := hk.2 _ rfl; exact XLim.mid q (m_X11_basin e6) hm9 hk.2.1) dL_law_970 ?_
        refine ww_sub [0, 1, 2, 3] rfl ?_
        exact s_L_law_j973 C hS hf hk
      · refine ⟨987, 954, rfl, by decide, ?_⟩
        have hf := xsw_in 26 hk1 rfl hf
        refine ww_aload_n (pc := 987) C 1 dL_law_987 rfl ?_
        refine ww_aload_n (pc := 988) C 0 dL_law_988 rfl ?_
        refine ww_iload_n (pc := 989) C 3 dL_law_989 rfl ?_
        refine ww_iconst (pc := 990) (v := (1 : Int32)) C dL_law_990 (by decide) ?_
        refine ww_iadd (pc := 991) C dL_law_991 ?_
        obtain ⟨v4, e3, hf⟩ := xbd hf
        refine ww_sld (pc := 992) C hS e3 dL_law_992 ?_
        refine ww_aload_n (pc := 993) C 0 dL_law_993 rfl ?_
        refine ww_iload_n (pc := 994) C 3 dL_law_994 rfl ?_
        refine ww_iconst (pc := 995) (v := (2 : Int32)) C dL_law_995 (by decide) ?_
        refine ww_iadd (pc := 996) C dL_law_996 ?_
        obtain ⟨v6, e5, hf⟩ := xbd hf
        refine ww_sld (pc := 997) C hS e5 dL_law_997 ?_
        obtain ⟨_, e7, hf⟩ := xbd hf
        obtain ⟨⟨v10, σ9⟩, e8, hf⟩ := xbd hf
        dsimp only at hf
        refine ww_callVi (pc := 998) (as := [.int v4, .int v6]) (st := []) C (k_X11_stiff (l := gl G) (E := gE G) (hb := gB G) (σ := σ) e8) rfl (by decide) xc_L_129 q1057 q1058 (xck_spec e7) rfl (by decide) (xst4 (Nat.le_of_ble_eq_true rfl)) (m_X11_stiff e8).1 (fun q => by have hm9 := m_L_law_j1001 hf; rcases y with a' | b90; exact XLim.mid q (m_X11_stiff e8) (hm9.1 a' rfl) (hk.1 a' rfl).1; have hm9 := hm9.2 _ rfl; have hk := hk.2 _ rfl; exact XLim.mid q (m_X11_stiff e8) hm9 hk.2.1) dL_law_998 ?_
        refine ww_sub [0, 1, 2, 3] rfl ?_
        exact s_L_law_j1001 C hS hf hk
      · refine ⟨1020, 987, rfl, by decide, ?_⟩
        have hf := xsw_in 27 hk1 rfl hf
        refine ww_aload_n (pc := 1020) C 1 dL_law_1020 rfl ?_
        refine ww_aload_n (pc := 1021) C 0 dL_law_1021 rfl ?_
        refine ww_iload_n (pc := 1022) C 3 dL_law_1022 rfl ?_
        refine ww_iconst (pc := 1023) (v := (1 : Int32)) C dL_law_1023 (by decide) ?_
        refine ww_iadd (pc := 1024) C dL_law_1024 ?_
        obtain ⟨v4, e3, hf⟩ := xbd hf
        refine ww_sld (pc := 1025) C hS e3 dL_law_1025 ?_
        obtain ⟨_, e5, hf⟩ := xbd hf
        obtain ⟨⟨v8, σ7⟩, e6, hf⟩ := xbd hf
        dsimp only at hf
        refine ww_callVi (pc := 1026) (as := [.int v4]) (st := []) C (k_X11_hill (l := gl G) (E := gE G) (hb := gB G) (σ := σ) e6) rfl (by decide) xc_L_133 q1147 q1148 (xck_spec e5) rfl (by decide) (xst4 (Nat.le_of_ble_eq_true rfl)) (m_X11_hill e6).1 (fun q => by have hm9 := m_L_law_j1029 hf; rcases y with a' | b90; exact XLim.mid q (m_X11_hill e6) (hm9.1 a' rfl) (hk.1 a' rfl).1; have hm9 := hm9.2 _ rfl; have hk := hk.2 _ rfl; exact XLim.mid q (m_X11_hill e6) hm9 hk.2.1) dL_law_1026 ?_
        refine ww_sub [0, 1, 2, 3] rfl ?_
        exact s_L_law_j1029 C hS hf hk
      · refine ⟨1043, 1010, rfl, by decide, ?_⟩
        have hf := xsw_in 28 hk1 rfl hf
        refine ww_aload_n (pc := 1043) C 1 dL_law_1043 rfl ?_
        refine ww_aload_n (pc := 1044) C 0 dL_law_1044 rfl ?_
        refine ww_iload_n (pc := 1045) C 3 dL_law_1045 rfl ?_
        refine ww_iconst (pc := 1046) (v := (1 : Int32)) C dL_law_1046 (by decide) ?_
        refine ww_iadd (pc := 1047) C dL_law_1047 ?_
        obtain ⟨v4, e3, hf⟩ := xbd hf
        refine ww_sld (pc := 1048) C hS e3 dL_law_1048 ?_
        refine ww_aload_n (pc := 1049) C 0 dL_law_1049 rfl ?_
        refine ww_iload_n (pc := 1050) C 3 dL_law_1050 rfl ?_
        refine ww_iconst (pc := 1051) (v := (2 : Int32)) C dL_law_1051 (by decide) ?_
        refine ww_iadd (pc := 1052) C dL_law_1052 ?_
        obtain ⟨v6, e5, hf⟩ := xbd hf
        refine ww_sld (pc := 1053) C hS e5 dL_law_1053 ?_
        obtain ⟨_, e7, hf⟩ := xbd hf
        obtain ⟨⟨v10, σ9⟩, e8, hf⟩ := xbd hf
        dsimp only at hf
        refine ww_callVi (pc := 1054) (as := [.int v4, .int v6]) (st := []) C (k_X11_pass (l := gl G) (E := gE G) (hb := gB G) (σ := σ) e8) rfl (by decide) xc_L_137 q1182 q1183 (xck_spec e7) rfl (by decide) (xst4 (Nat.le_of_ble_eq_true rfl)) (m_X11_pass e8).1 (fun q => by have hm9 := m_L_law_j1057 hf; rcases y with a' | b90; exact XLim.mid q (m_X11_pass e8) (hm9.1 a' rfl) (hk.1 a' rfl).1; have hm9 := hm9.2 _ rfl; have hk := hk.2 _ rfl; exact XLim.mid q (m_X11_pass e8) hm9 hk.2.1) dL_law_1054 ?_
        refine ww_sub [0, 1, 2, 3] rfl ?_
        exact s_L_law_j1057 C hS hf hk
      · refine ⟨1076, 1043, rfl, by decide, ?_⟩
        have hf := xsw_in 29 hk1 rfl hf
        refine ww_aload_n (pc := 1076) C 1 dL_law_1076 rfl ?_
        refine ww_aload_n (pc := 1077) C 0 dL_law_1077 rfl ?_
        refine ww_iload_n (pc := 1078) C 3 dL_law_1078 rfl ?_
        refine ww_iconst (pc := 1079) (v := (1 : Int32)) C dL_law_1079 (by decide) ?_
        refine ww_iadd (pc := 1080) C dL_law_1080 ?_
        obtain ⟨v4, e3, hf⟩ := xbd hf
        refine ww_sld (pc := 1081) C hS e3 dL_law_1081 ?_
        obtain ⟨_, e5, hf⟩ := xbd hf
        obtain ⟨⟨v8, σ7⟩, e6, hf⟩ := xbd hf
        dsimp only at hf
        refine ww_callVi (pc := 1082) (as := [.int v4]) (st := []) C (k_X11_lakes (l := gl G) (E := gE G) (hb := gB G) (σ := σ) e6) rfl (by decide) xc_L_141 q1186 q1187 (xck_spec e5) rfl (by decide) (xst4 (Nat.le_of_ble_eq_true rfl)) (m_X11_lakes e6).1 (fun q => by have hm9 := m_L_law_j1085 hf; rcases y with a' | b90; exact XLim.mid q (m_X11_lakes e6) (hm9.1 a' rfl) (hk.1 a' rfl).1; have hm9 := hm9.2 _ rfl; have hk := hk.2 _ rfl; exact XLim.mid q (m_X11_lakes e6) hm9 hk.2.1) dL_law_1082 ?_
        refine ww_sub [0, 1, 2, 3] rfl ?_
        exact s_L_law_j1085 C hS hf hk
      · refine ⟨1099, 1066, rfl, by decide, ?_⟩
        have hf := xsw_in 30 hk1 rfl hf
        refine ww_aload_n (pc := 1099) C 1 dL_law_1099 rfl ?_
        refine ww_aload_n (pc := 1100) C 0 dL_law_1100 rfl ?_
        refine ww_iload_n (pc := 1101) C 3 dL_law_1101 rfl ?_
        refine ww_iconst (pc := 1102) (v := (1 : Int32)) C dL_law_1102 (by decide) ?_
        refine ww_iadd (pc := 1103) C dL_law_1103 ?_
        obtain ⟨v4, e3, hf⟩ := xbd hf
        refine ww_sld (pc := 1104) C hS e3 dL_law_1104 ?_
        obtain ⟨_, e5, hf⟩ := xbd hf
        obtain ⟨⟨v8, σ7⟩, e6, hf⟩ := xbd hf
        dsimp only at hf
        refine ww_callVj (pc := 1105) (as := [.int v4]) (st := []) C (k_X11_down (l := gl G) (E := gE G) (hb := gB G) (σ := σ) e6) rfl (by decide) xc_L_145 q1194 q1195 (xck_spec e5) rfl (by decide) (xst4 (Nat.le_of_ble_eq_true rfl)) (m_X11_down e6).1 (fun q => by have hm9 := m_L_law_j1108 hf; rcases y with a' | b90; exact XLim.mid q (m_X11_down e6) (hm9.1 a' rfl) (hk.1 a' rfl).1; have hm9 := hm9.2 _ rfl; have hk := hk.2 _ rfl; exact XLim.mid q (m_X11_down e6) hm9 hk.2.1) dL_law_1105 ?_
        refine ww_sub [0, 1, 2, 3] rfl ?_
        exact s_L_law_j1108 C hS hf hk
      · refine ⟨1123, 1090, rfl, by decide, ?_⟩
        have hf := xsw_in 31 hk1 rfl hf
        refine ww_aload_n (pc := 1123) C 1 dL_law_1123 rfl ?_
        refine ww_aload_n (pc := 1124) C 0 dL_law_1124 rfl ?_
        refine ww_iload_n (pc := 1125) C 3 dL_law_1125 rfl ?_
        refine ww_iconst (pc := 1126) (v := (1 : Int32)) C dL_law_1126 (by decide) ?_
        refine ww_iadd (pc := 1127) C dL_law_1127 ?_
        obtain ⟨v4, e3, hf⟩ := xbd hf
        refine ww_sld (pc := 1128) C hS e3 dL_law_1128 ?_
        refine ww_aload_n (pc := 1129) C 0 dL_law_1129 rfl ?_
        refine ww_iload_n (pc := 1130) C 3 dL_law_1130 rfl ?_
        refine ww_iconst (pc := 1131) (v := (2 : Int32)) C dL_law_1131 (by decide) ?_
        refine ww_iadd (pc := 1132) C dL_law_1132 ?_
        obtain ⟨v6, e5, hf⟩ := xbd hf
        refine ww_sld (pc := 1133) C hS e5 dL_law_1133 ?_
        obtain ⟨_, e7, hf⟩ := xbd hf
        obtain ⟨⟨v10, σ9⟩, e8, hf⟩ := xbd hf
        dsimp only at hf
        refine ww_callVi (pc := 1134) (as := [.int v4, .int v6]) (st := []) C (k_X11_nearest (l := gl G) (E := gE G) (hb := gB G) (σ := σ) e8) rfl (by decide) xc_L_150 q1083 q1084 (xck_spec e7) rfl (by decide) (xst4 (Nat.le_of_ble_eq_true rfl)) (m_X11_nearest e8).1 (fun q => by have hm9 := m_L_law_j1137 hf; rcases y with a' | b90; exact XLim.mid q (m_X11_nearest e8) (hm9.1 a' rfl) (hk.1 a' rfl).1; have hm9 := hm9.2 _ rfl; have hk := hk.2 _ rfl; exact XLim.mid q (m_X11_nearest e8) hm9 hk.2.1) dL_law_1134 ?_
        refine ww_sub [0, 1, 2, 3] rfl ?_
        exact s_L_law_j1137 C hS hf hk
      · refine ⟨1156, 1123, rfl, by decide, ?_⟩
        have hf := xsw_in 32 hk1 rfl hf
        refine ww_aload_n (pc := 1156) C 1 dL_law_1156 rfl ?_
        refine ww_aload_n (pc := 1157) C 0 dL_law_1157 rfl ?_
        refine ww_iload_n (pc := 1158) C 3 dL_law_1158 rfl ?_
        refine ww_iconst (pc := 1159) (v := (1 : Int32)) C dL_law_1159 (by decide) ?_
        refine ww_iadd (pc := 1160) C dL_law_1160 ?_
        obtain ⟨v4, e3, hf⟩ := xbd hf
        refine ww_sld (pc := 1161) C hS e3 dL_law_1161 ?_
        obtain ⟨_, e5, hf⟩ := xbd hf
        obtain ⟨v7, e6, hf⟩ := xbd hf
        refine ww_callVi (pc := 1162) (as := [.int v4]) (st := []) C (k_X11_cluster (l := gl G) (E := gE G) (hb := gB G) (σ := σ) e6) rfl (by decide) xc_L_154 q825 q826 (xck_spec e5) rfl (by decide) (xst4 (Nat.le_of_ble_eq_true rfl)) xsame.rf.le xsame.rf.lim dL_law_1162 ?_
        refine ww_aload_n (pc := 1165) C 2 dL_law_1165 rfl ?_
        refine ww_aload_n (pc := 1166) C 0 dL_law_1166 rfl ?_
        refine ww_iload_n (pc := 1167) C 3 dL_law_1167 rfl ?_
        refine ww_iconst (pc := 1168) (v := (1 : Int32)) C dL_law_1168 (by decide) ?_
        refine ww_iadd (pc := 1169) C dL_law_1169 ?_
        obtain ⟨v9, e8, hf⟩ := xbd hf
        refine ww_sld (pc := 1170) C hS e8 dL_law_1170 ?_
        obtain ⟨_, e10, hf⟩ := xbd hf
        obtain ⟨v12, e11, hf⟩ := xbd hf
        refine ww_callVi (pc := 1171) (as := [.int v9]) (st := [.int v7]) C (k_X12_cluster (l := gl G) (E := gE G) (hb := gB G) (σ := σ) e11) rfl (by decide) xc_L_157 q1723 q1724 (xck_spec e10) rfl (by decide) (xst4 (Nat.le_of_ble_eq_true rfl)) xsame.rf.le xsame.rf.lim dL_law_1171 ?_
        refine ww_icmp_eq (pc := 1174) (tgt := 1291) C dL_law_1174 (by decide) (fun q => ?_) (fun q => ?_)
        · have hf := xip q hf
          refine ww_iinc (pc := 1291) (v := x3 + (6 : Int32)) (lv' := [(3, .int (x3 + (6 : Int32))), (0, .ref b), (1, .ref (gB G + r1)), (2, .ref (gB G + r2))]) C 3 dL_law_1291 rfl (congrArg (fun z => x3 + z) (show Int32.ofInt (6) = (6 : Int32) by decide)) (by decide) rfl ?_
          refine ww_goto (pc := 1294) (tgt := 18) C dL_law_1294 (by decide) ?_
          have hf := xsj hf
          subst hf
          refine ww_sub [1, 2, 3, 0] rfl ?_
          exact (hk.1 (x3 + (6 : Int32), σ) rfl).2
        · have hf := xin q hf
          obtain ⟨b0, hg, e9⟩ := xmj hf
          subst e9
          have hf := hg
          have hk := hk.2 _ rfl
          refine ww_iconst (pc := 1177) (v := (0 : Int32)) C dL_law_1177 (by decide) ?_
          have hf := xsj hf
          subst hf
          exact ww_lawret (pc := 1178) C hS hk dL_law_1178
      · refine ⟨1179, 1146, rfl, by decide, ?_⟩
        have hf := xsw_in 33 hk1 rfl hf
        refine ww_aload_n (pc := 1179) C 1 dL_law_1179 rfl ?_
        refine ww_aload_n (pc := 1180) C 0 dL_law_1180 rfl ?_
        refine ww_iload_n (pc := 1181) C 3 dL_law_1181 rfl ?_
        refine ww_iconst (pc := 1182) (v := (1 : Int32)) C dL_law_1182 (by decide) ?_
        refine ww_iadd (pc := 1183) C dL_law_1183 ?_
        obtain ⟨v4, e3, hf⟩ := xbd hf
        refine ww_sld (pc := 1184) C hS e3 dL_law_1184 ?_
        refine ww_aload_n (pc := 1185) C 0 dL_law_1185 rfl ?_
        refine ww_iload_n (pc := 1186) C 3 dL_law_1186 rfl ?_
        refine ww_iconst (pc := 1187) (v := (2 : Int32)) C dL_law_1187 (by decide) ?_
        refine ww_iadd (pc := 1188) C dL_law_1188 ?_
        obtain ⟨v6, e5, hf⟩ := xbd hf
        refine ww_sld (pc := 1189) C hS e5 dL_law_1189 ?_
        refine ww_aload_n (pc := 1190) C 0 dL_law_1190 rfl ?_
        refine ww_iload_n (pc := 1191) C 3 dL_law_1191 rfl ?_
        refine ww_iconst (pc := 1192) (v := (3 : Int32)) C dL_law_1192 (by decide) ?_
        refine ww_iadd (pc := 1193) C dL_law_1193 ?_
        obtain ⟨v8, e7, hf⟩ := xbd hf
        refine ww_sld (pc := 1194) C hS e7 dL_law_1194 ?_
        obtain ⟨_, e9, hf⟩ := xbd hf
        obtain ⟨⟨v12, σ11⟩, e10, hf⟩ := xbd hf
        dsimp only at hf
        refine ww_callVi (pc := 1195) (as := [.int v4, .int v6, .int v8]) (st := []) C (k_X11_wander (l := gl G) (E := gE G) (hb := gB G) (σ := σ) e10) rfl (by decide) xc_L_158 q1091 q1092 (xck_spec e9) rfl (by decide) (xst4 (Nat.le_of_ble_eq_true rfl)) (m_X11_wander e10).le (m_X11_wander e10).lim dL_law_1195 ?_
        refine ww_aload_n (pc := 1198) C 2 dL_law_1198 rfl ?_
        refine ww_aload_n (pc := 1199) C 0 dL_law_1199 rfl ?_
        refine ww_iload_n (pc := 1200) C 3 dL_law_1200 rfl ?_
        refine ww_iconst (pc := 1201) (v := (1 : Int32)) C dL_law_1201 (by decide) ?_
        refine ww_iadd (pc := 1202) C dL_law_1202 ?_
        obtain ⟨v14, e13, hf⟩ := xbd hf
        refine ww_sld (pc := 1203) C hS e13 dL_law_1203 ?_
        refine ww_aload_n (pc := 1204) C 0 dL_law_1204 rfl ?_
        refine ww_iload_n (pc := 1205) C 3 dL_law_1205 rfl ?_
        refine ww_iconst (pc := 1206) (v := (2 : Int32)) C dL_law_1206 (by decide) ?_
        refine ww_iadd (pc := 1207) C dL_law_1207 ?_
        obtain ⟨v16, e15, hf⟩ := xbd hf
        refine ww_sld (pc := 1208) C hS e15 dL_law_1208 ?_
        refine ww_aload_n (pc := 1209) C 0 dL_law_1209 rfl ?_
        refine ww_iload_n (pc := 1210) C 3 dL_law_1210 rfl ?_
        refine ww_iconst (pc := 1211) (v := (3 : Int32)) C dL_law_1211 (by decide) ?_
        refine ww_iadd (pc := 1212) C dL_law_1212 ?_
        obtain ⟨v18, e17, hf⟩ := xbd hf
        refine ww_sld (pc := 1213) C hS e17 dL_law_1213 ?_
        obtain ⟨_, e19, hf⟩ := xbd hf
        obtain ⟨⟨v22, σ21⟩, e20, hf⟩ := xbd hf
        dsimp only at hf
        refine ww_callVi (pc := 1214) (as := [.int v14, .int v16, .int v18]) (st := [.int v12]) C (k_X12_wander (l := gl G) (E := gE G) (hb := gB G) (σ := σ11) e20) rfl (by decide) xc_L_161 q1731 q1732 (xck_spec e19) rfl (by decide) (xst4 (Nat.le_of_ble_eq_true rfl)) (m_X12_wander e20).le (m_X12_wander e20).lim dL_law_1214 ?_
        refine ww_icmp_eq (pc := 1217) (tgt := 1291) C dL_law_1217 (by decide) (fun q => ?_) (fun q => ?_)
        · have hf := xip q hf
          refine ww_iinc (pc := 1291) (v := x3 + (6 : Int32)) (lv' := [(3, .int (x3 + (6 : Int32))), (0, .ref b), (1, .ref (gB G + r1)), (2, .ref (gB G + r2))]) C 3 dL_law_1291 rfl (congrArg (fun z => x3 + z) (show Int32.ofInt (6) = (6 : Int32) by decide)) (by decide) rfl ?_
          refine ww_goto (pc := 1294) (tgt := 18) C dL_law_1294 (by decide) ?_
          have hf := xsj hf
          subst hf
          refine ww_sub [1, 2, 3, 0] rfl ?_
          exact (hk.1 (x3 + (6 : Int32), σ21) rfl).2
        · have hf := xin q hf
          obtain ⟨b0, hg, e9⟩ := xmj hf
          subst e9
          have hf := hg
          have hk := hk.2 _ rfl
          refine ww_iconst (pc := 1220) (v := (0 : Int32)) C dL_law_1220 (by decide) ?_
          have hf := xsj hf
          subst hf
          exact ww_lawret (pc := 1221) C hS hk dL_law_1221
      · refine ⟨1222, 1189, rfl, by decide, ?_⟩
        have hf := xsw_in 34 hk1 rfl hf
        refine ww_aload_n (pc := 1222) C 1 dL_law_1222 rfl ?_
        refine ww_aload_n (pc := 1223) C 0 dL_law_1223 rfl ?_
        refine ww_iload_n (pc := 1224) C 3 dL_law_1224 rfl ?_
        refine ww_iconst (pc := 1225) (v := (1 : Int32)) C dL_law_1225 (by decide) ?_
        refine ww_iadd (pc := 1226) C dL_law_1226 ?_
        obtain ⟨v4, e3, hf⟩ := xbd hf
        refine ww_sld (pc := 1227) C hS e3 dL_law_1227 ?_
        obtain ⟨_, e5, hf⟩ := xbd hf
        obtain ⟨⟨v8, σ7⟩, e6, hf⟩ := xbd hf
        dsimp only at hf
        refine ww_callVi (pc := 1228) (as := [.int v4]) (st := []) C (k_X11_hold (l := gl G) (E := gE G) (hb := gB G) (σ := σ) e6) rfl (by decide) xc_L_162 q1207 q1208 (xck_spec e5) rfl (by decide) (xst4 (Nat.le_of_ble_eq_true rfl)) (m_X11_hold e6).le (m_X11_hold e6).lim dL_law_1228 ?_
        refine ww_aload_n (pc := 1231) C 2 dL_law_1231 rfl ?_
        refine ww_aload_n (pc := 1232) C 0 dL_law_1232 rfl ?_
        refine ww_iload_n (pc := 1233) C 3 dL_law_1233 rfl ?_
        refine ww_iconst (pc := 1234) (v := (1 : Int32)) C dL_law_1234 (by decide) ?_
        refine ww_iadd (pc := 1235) C dL_law_1235 ?_
        obtain ⟨v10, e9, hf⟩ := xbd hf
        refine ww_sld (pc := 1236) C hS e9 dL_law_1236 ?_
        obtain ⟨_, e11, hf⟩ := xbd hf
        obtain ⟨⟨v14, σ13⟩, e12, hf⟩ := xbd hf
        dsimp only at hf
        refine ww_callVi (pc := 1237) (as := [.int v10]) (st := [.int v8]) C (k_X12_hold (l := gl G) (E := gE G) (hb := gB G) (σ := σ7) e12) rfl (by decide) xc_L_165 q1586 q1587 (xck_spec e11) rfl (by decide) (xst4 (Nat.le_of_ble_eq_true rfl)) (m_X12_hold e12).le (m_X12_hold e12).lim dL_law_1237 ?_
        refine ww_icmp_eq (pc := 1240) (tgt := 1291) C dL_law_1240 (by decide) (fun q => ?_) (fun q => ?_)
        · have hf := xip q hf
          refine ww_iinc (pc := 1291) (v := x3 + (6 : Int32)) (lv' := [(3, .int (x3 + (6 : Int32))), (0, .ref b), (1, .ref (gB G + r1)), (2, .ref (gB G + r2))]) C 3 dL_law_1291 rfl (congrArg (fun z => x3 + z) (show Int32.ofInt (6) = (6 : Int32) by decide)) (by decide) rfl ?_
          refine ww_goto (pc := 1294) (tgt := 18) C dL_law_1294 (by decide) ?_
          have hf := xsj hf
          subst hf
          refine ww_sub [1, 2, 3, 0] rfl ?_
          exact (hk.1 (x3 + (6 : Int32), σ13) rfl).2
        · have hf := xin q hf
          obtain ⟨b0, hg, e9⟩ := xmj hf
          subst e9
          have hf := hg
          have hk := hk.2 _ rfl
          refine ww_iconst (pc := 1243) (v := (0 : Int32)) C dL_law_1243 (by decide) ?_
          have hf := xsj hf
          subst hf
          exact ww_lawret (pc := 1244) C hS hk dL_law_1244
      · refine ⟨1245, 1212, rfl, by decide, ?_⟩
        have hf := xsw_in 35 hk1 rfl hf
        refine ww_aload_n (pc := 1245) C 1 dL_law_1245 rfl ?_
        refine ww_aload_n (pc := 1246) C 0 dL_law_1246 rfl ?_
        refine ww_iload_n (pc := 1247) C 3 dL_law_1247 rfl ?_
        refine ww_iconst (pc := 1248) (v := (1 : Int32)) C dL_law_1248 (by decide) ?_
        refine ww_iadd (pc := 1249) C dL_law_1249 ?_
        obtain ⟨v4, e3, hf⟩ := xbd hf
        refine ww_sld (pc := 1250) C hS e3 dL_law_1250 ?_
        obtain ⟨_, e5, hf⟩ := xbd hf
        obtain ⟨⟨v8, σ7⟩, e6, hf⟩ := xbd hf
        dsimp only at hf
        refine ww_callVi (pc := 1251) (as := [.int v4]) (st := []) C (k_X11_restore (l := gl G) (E := gE G) (hb := gB G) (σ := σ) e6) rfl (by decide) xc_L_166 q1211 q1212 (xck_spec e5) rfl (by decide) (xst4 (Nat.le_of_ble_eq_true rfl)) (m_X11_restore e6).le (m_X11_restore e6).lim dL_law_1251 ?_
        refine ww_aload_n (pc := 1254) C 2 dL_law_1254 rfl ?_
        refine ww_aload_n (pc := 1255) C 0 dL_law_1255 rfl ?_
        refine ww_iload_n (pc := 1256) C 3 dL_law_1256 rfl ?_
        refine ww_iconst (pc := 1257) (v := (1 : Int32)) C dL_law_1257 (by decide) ?_
        refine ww_iadd (pc := 1258) C dL_law_1258 ?_
        obtain ⟨v10, e9, hf⟩ := xbd hf
        refine ww_sld (pc := 1259) C hS e9 dL_law_1259 ?_
        obtain ⟨_, e11, hf⟩ := xbd hf
        obtain ⟨⟨v14, σ13⟩, e12, hf⟩ := xbd hf
        dsimp only at hf
        refine ww_callVi (pc := 1260) (as := [.int v10]) (st := [.int v8]) C (k_X12_restore (l := gl G) (E := gE G) (hb := gB G) (σ := σ7) e12) rfl (by decide) xc_L_169 q1590 q1591 (xck_spec e11) rfl (by decide) (xst4 (Nat.le_of_ble_eq_true rfl)) (m_X12_restore e12).le (m_X12_restore e12).lim dL_law_1260 ?_
        refine ww_icmp_eq (pc := 1263) (tgt := 1291) C dL_law_1263 (by decide) (fun q => ?_) (fun q => ?_)
        · have hf := xip q hf
          refine ww_iinc (pc := 1291) (v := x3 + (6 : Int32)) (lv' := [(3, .int (x3 + (6 : Int32))), (0, .ref b), (1, .ref (gB G + r1)), (2, .ref (gB G + r2))]) C 3 dL_law_1291 rfl (congrArg (fun z => x3 + z) (show Int32.ofInt (6) = (6 : Int32) by decide)) (by decide) rfl ?_
          refine ww_goto (pc := 1294) (tgt := 18) C dL_law_1294 (by decide) ?_
          have hf := xsj hf
          subst hf
          refine ww_sub [1, 2, 3, 0] rfl ?_
          exact (hk.1 (x3 + (6 : Int32), σ13) rfl).2
        · have hf := xin q hf
          obtain ⟨b0, hg, e9⟩ := xmj hf
          subst e9
          have hf := hg
          have hk := hk.2 _ rfl
          refine ww_iconst (pc := 1266) (v := (0 : Int32)) C dL_law_1266 (by decide) ?_
          have hf := xsj hf
          subst hf
          exact ww_lawret (pc := 1267) C hS hk dL_law_1267
      · refine ⟨1268, 1235, rfl, by decide, ?_⟩
        have hf := xsw_in 36 hk1 rfl hf
        refine ww_aload_n (pc := 1268) C 1 dL_law_1268 rfl ?_
        refine ww_aload_n (pc := 1269) C 0 dL_law_1269 rfl ?_
        refine ww_iload_n (pc := 1270) C 3 dL_law_1270 rfl ?_
        refine ww_iconst (pc := 1271) (v := (1 : Int32)) C dL_law_1271 (by decide) ?_
        refine ww_iadd (pc := 1272) C dL_law_1272 ?_
        obtain ⟨v4, e3, hf⟩ := xbd hf
        refine ww_sld (pc := 1273) C hS e3 dL_law_1273 ?_
        obtain ⟨_, e5, hf⟩ := xbd hf
        obtain ⟨⟨v8, σ7⟩, e6, hf⟩ := xbd hf
        dsimp only at hf
        refine ww_callVi (pc := 1274) (as := [.int v4]) (st := []) C (k_X11_count (l := gl G) (E := gE G) (hb := gB G) (σ := σ) e6) rfl (by decide) xc_L_170 q1215 q1216 (xck_spec e5) rfl (by decide) (xst4 (Nat.le_of_ble_eq_true rfl)) (m_X11_count e6).1 (fun q => by have hm9 := m_L_law_j1277 hf; rcases y with a' | b90; exact XLim.mid q (m_X11_count e6) (hm9.1 a' rfl) (hk.1 a' rfl).1; have hm9 := hm9.2 _ rfl; have hk := hk.2 _ rfl; exact XLim.mid q (m_X11_count e6) hm9 hk.2.1) dL_law_1274 ?_
        refine ww_sub [0, 1, 2, 3] rfl ?_
        exact s_L_law_j1277 C hS hf hk
    · refine ⟨1291, by decide, ?_⟩
      have hf := xsw_out ho rfl hf
      refine ww_iinc (pc := 1291) (v := x3 + (6 : Int32)) (lv' := [(3, .int (x3 + (6 : Int32))), (0, .ref b), (1, .ref (gB G + r1)), (2, .ref (gB G + r2))]) C 3 dL_law_1291 rfl (congrArg (fun z => x3 + z) (show Int32.ofInt (6) = (6 : Int32) by decide)) (by decide) rfl ?_
      refine ww_goto (pc := 1294) (tgt := 18) C dL_law_1294 (by decide) ?_
      have hf := xsj hf
      subst hf
      refine ww_sub [1, 2, 3, 0] rfl ?_
      exact (hk.1 (x3 + (6 : Int32), σ) rfl).2
theorem s_L_law_j15 {G : XG} (C : XC G cL_law RL (some .boolean) 4 13 470) {b L : Nat} {xs : Nat → Int32} (hS : XScr G b L xs) {σ : XS} {r1 : Nat} {t0 : Nat} {x : Int32 × XS} (hf : f_L_law_j15 L xs σ r1 t0 = some x) (hk : XEndL G b x) : WW G 15 [(0, .ref b), (1, .ref (gB G + r1))] [.ref (gB G + t0)] σ := by
  refine ww_astore_n (pc := 15) (lv' := [(2, .ref (gB G + t0)), (0, .ref b), (1, .ref (gB G + r1))]) C dL_law_15 (by decide) rfl ?_
  refine ww_iconst (pc := 16) (v := (0 : Int32)) C dL_law_16 (by decide) ?_
  refine ww_istore_n (pc := 17) (lv' := [(3, .int (0 : Int32)), (2, .ref (gB G + t0)), (0, .ref b), (1, .ref (gB G + r1))]) C dL_law_17 (by decide) rfl ?_
  refine ww_sub [2, 3, 1, 0] rfl ?_
  exact s_L_law_l18 C hS (a := ((0 : Int32), σ)) hf hk
theorem m_L_law_j15 {L : Nat} {xs : Nat → Int32} {σ : XS} {r1 : Nat} {t0 : Nat} {x : Int32 × XS} (hf : f_L_law_j15 L xs σ r1 t0 = some x) : xext σ x.2 := by
  have hm := xext.rf (σ := σ)
  exact hm.tr (m_L_law_l18 (a := ((0 : Int32), σ)) hf)
theorem s_L_law_j11 {G : XG} (C : XC G cL_law RL (some .boolean) 4 13 470) {b L : Nat} {xs : Nat → Int32} (hS : XScr G b L xs) {σ : XS} {r1 : Nat} {t0 : Nat} {x : Int32 × XS} (hf : f_L_law_j11 L xs σ r1 t0 = some x) (hk : XEndL G b x) : WW G 11 [(0, .ref b), (1, .ref (gB G + r1))] [.ref (gB G + t0)] σ := by
  refine ww_dup (pc := 11) C dL_law_11 rfl ?_
  obtain ⟨_, e1, hf⟩ := xbd hf
  obtain ⟨σ3, e2, hf⟩ := xbd hf
  refine ww_callIv (pc := 12) (as := []) (st := [.ref (gB G + t0)]) C (k_X12_init (l := gl G) (E := gE G) (hb := gB G) (σ := σ) e2) xc_L_12 rfl q1255 rfl (by decide) (xst4 (Nat.le_of_ble_eq_true rfl)) (m_X12_init e2).1 (fun q => by have hm9 := m_L_law_j15 hf; exact XLim.mid q (m_X12_init e2) hm9 hk.2.1) dL_law_12 ?_
  refine ww_sub [0, 1] rfl ?_
  exact s_L_law_j15 C hS hf hk
theorem m_L_law_j11 {L : Nat} {xs : Nat → Int32} {σ : XS} {r1 : Nat} {t0 : Nat} {x : Int32 × XS} (hf : f_L_law_j11 L xs σ r1 t0 = some x) : xext σ x.2 := by
  have hm := xext.rf (σ := σ)
  obtain ⟨_, e1, hf⟩ := xbd hf
  obtain ⟨σ3, e2, hf⟩ := xbd hf
  have hm := hm.tr (m_X12_init e2)
  exact hm.tr (m_L_law_j15 hf)
theorem s_L_law_j7 {G : XG} (C : XC G cL_law RL (some .boolean) 4 13 470) {b L : Nat} {xs : Nat → Int32} (hS : XScr G b L xs) {σ : XS} {t0 : Nat} {x : Int32 × XS} (hf : f_L_law_j7 L xs σ t0 = some x) (hk : XEndL G b x) : WW G 7 [(0, .ref b)] [.ref (gB G + t0)] σ := by
  refine ww_astore_n (pc := 7) (lv' := [(1, .ref (gB G + t0)), (0, .ref b)]) C dL_law_7 (by decide) rfl ?_
  obtain ⟨⟨z2, σ3⟩, e1, hf⟩ := xbd hf
  dsimp only at hf
  refine ww_new (pc := 8) (c := 12) C rfl (by decide) inX12 tyX12 tyX12_ok dfX12 q1252 q1253 q14 e1 (fun q => by have hm9 := m_L_law_j11 hf; exact XLim.mid q (xnO_ext e1) hm9 hk.2.1) dL_law_8 ?_
  refine ww_sub [1, 0] rfl ?_
  exact s_L_law_j11 C hS hf hk
theorem m_L_law_j7 {L : Nat} {xs : Nat → Int32} {σ : XS} {t0 : Nat} {x : Int32 × XS} (hf : f_L_law_j7 L xs σ t0 = some x) : xext σ x.2 := by
  have hm := xext.rf (σ := σ)
  obtain ⟨⟨z2, σ3⟩, e1, hf⟩ := xbd hf
  dsimp only at hf
  have hm := hm.tr (xnO_ext e1)
  exact hm.tr (m_L_law_j11 hf)
theorem s_L_law_j3 {G : XG} (C : XC G cL_law RL (some .boolean) 4 13 470) {b L : Nat} {xs : Nat → Int32} (hS : XScr G b L xs) {σ : XS} {t0 : Nat} {x : Int32 × XS} (hf : f_L_law_j3 L xs σ t0 = some x) (hk : XEndL G b x) : WW G 3 [(0, .ref b)] [.ref (gB G + t0)] σ := by
  refine ww_dup (pc := 3) C dL_law_3 rfl ?_
  obtain ⟨_, e1, hf⟩ := xbd hf
  obtain ⟨σ3, e2, hf⟩ := xbd hf
  refine ww_callIv (pc := 4) (as := []) (st := [.ref (gB G + t0)]) C (k_X11_init (l := gl G) (E := gE G) (hb := gB G) (σ := σ) e2) xc_L_9 rfl q25 rfl (by decide) (xst4 (Nat.le_of_ble_eq_true rfl)) (m_X11_init e2).1 (fun q => by have hm9 := m_L_law_j7 hf; exact XLim.mid q (m_X11_init e2) hm9 hk.2.1) dL_law_4 ?_
  refine ww_sub [0] rfl ?_
  exact s_L_law_j7 C hS hf hk
theorem m_L_law_j3 {L : Nat} {xs : Nat → Int32} {σ : XS} {t0 : Nat} {x : Int32 × XS} (hf : f_L_law_j3 L xs σ t0 = some x) : xext σ x.2 := by
  have hm := xext.rf (σ := σ)
  obtain ⟨_, e1, hf⟩ := xbd hf
  obtain ⟨σ3, e2, hf⟩ := xbd hf
  have hm := hm.tr (m_X11_init e2)
  exact hm.tr (m_L_law_j7 hf)
theorem s_L_law_e {G : XG} (C : XC G cL_law RL (some .boolean) 4 13 470) {b L : Nat} {xs : Nat → Int32} (hS : XScr G b L xs) {σ : XS} {x : Int32 × XS} (hf : f_L_law L xs σ = some x) (hk : XEndL G b x) : WW G 0 [(0, .ref b)] [] σ := by
  obtain ⟨⟨z2, σ3⟩, e1, hf⟩ := xbd hf
  dsimp only at hf
  refine ww_new (pc := 0) (c := 11) C rfl (by decide) inX11 tyX11 tyX11_ok dfX11 q22 q23 q1 e1 (fun q => by have hm9 := m_L_law_j3 hf; exact XLim.mid q (xnO_ext e1) hm9 hk.2.1) dL_law_0 ?_
  refine ww_sub [0] rfl ?_
  exact s_L_law_j3 C hS hf hk
theorem m_L_law {L : Nat} {xs : Nat → Int32} {σ : XS} {x : Int32 × XS} (hf : f_L_law L xs σ = some x) : xext σ x.2 := by
  have hm := xext.rf (σ := σ)
  obtain ⟨⟨z2, σ3⟩, e1, hf⟩ := xbd hf
  dsimp only at hf
  have hm := hm.tr (xnO_ext e1)
  exact hm.tr (m_L_law_j3 hf)
