section
noncomputable def f_J6_bitCount_0f7a4 (x0 : Int32) : Option Int32 := some ((((((((x0 - (((x0.toUInt32 >>> ((1 : Int32).toUInt32 &&& Int32.toUInt32 31)).toInt32) &&& (1431655765 : Int32))) &&& (858993459 : Int32)) + ((((x0 - (((x0.toUInt32 >>> ((1 : Int32).toUInt32 &&& Int32.toUInt32 31)).toInt32) &&& (1431655765 : Int32))).toUInt32 >>> ((2 : Int32).toUInt32 &&& Int32.toUInt32 31)).toInt32) &&& (858993459 : Int32))) + (((((x0 - (((x0.toUInt32 >>> ((1 : Int32).toUInt32 &&& Int32.toUInt32 31)).toInt32) &&& (1431655765 : Int32))) &&& (858993459 : Int32)) + ((((x0 - (((x0.toUInt32 >>> ((1 : Int32).toUInt32 &&& Int32.toUInt32 31)).toInt32) &&& (1431655765 : Int32))).toUInt32 >>> ((2 : Int32).toUInt32 &&& Int32.toUInt32 31)).toInt32) &&& (858993459 : Int32))).toUInt32 >>> ((4 : Int32).toUInt32 &&& Int32.toUInt32 31)).toInt32)) &&& (252645135 : Int32)) + (((((((x0 - (((x0.toUInt32 >>> ((1 : Int32).toUInt32 &&& Int32.toUInt32 31)).toInt32) &&& (1431655765 : Int32))) &&& (858993459 : Int32)) + ((((x0 - (((x0.toUInt32 >>> ((1 : Int32).toUInt32 &&& Int32.toUInt32 31)).toInt32) &&& (1431655765 : Int32))).toUInt32 >>> ((2 : Int32).toUInt32 &&& Int32.toUInt32 31)).toInt32) &&& (858993459 : Int32))) + (((((x0 - (((x0.toUInt32 >>> ((1 : Int32).toUInt32 &&& Int32.toUInt32 31)).toInt32) &&& (1431655765 : Int32))) &&& (858993459 : Int32)) + ((((x0 - (((x0.toUInt32 >>> ((1 : Int32).toUInt32 &&& Int32.toUInt32 31)).toInt32) &&& (1431655765 : Int32))).toUInt32 >>> ((2 : Int32).toUInt32 &&& Int32.toUInt32 31)).toInt32) &&& (858993459 : Int32))).toUInt32 >>> ((4 : Int32).toUInt32 &&& Int32.toUInt32 31)).toInt32)) &&& (252645135 : Int32)).toUInt32 >>> ((8 : Int32).toUInt32 &&& Int32.toUInt32 31)).toInt32)) + ((((((((x0 - (((x0.toUInt32 >>> ((1 : Int32).toUInt32 &&& Int32.toUInt32 31)).toInt32) &&& (1431655765 : Int32))) &&& (858993459 : Int32)) + ((((x0 - (((x0.toUInt32 >>> ((1 : Int32).toUInt32 &&& Int32.toUInt32 31)).toInt32) &&& (1431655765 : Int32))).toUInt32 >>> ((2 : Int32).toUInt32 &&& Int32.toUInt32 31)).toInt32) &&& (858993459 : Int32))) + (((((x0 - (((x0.toUInt32 >>> ((1 : Int32).toUInt32 &&& Int32.toUInt32 31)).toInt32) &&& (1431655765 : Int32))) &&& (858993459 : Int32)) + ((((x0 - (((x0.toUInt32 >>> ((1 : Int32).toUInt32 &&& Int32.toUInt32 31)).toInt32) &&& (1431655765 : Int32))).toUInt32 >>> ((2 : Int32).toUInt32 &&& Int32.toUInt32 31)).toInt32) &&& (858993459 : Int32))).toUInt32 >>> ((4 : Int32).toUInt32 &&& Int32.toUInt32 31)).toInt32)) &&& (252645135 : Int32)) + (((((((x0 - (((x0.toUInt32 >>> ((1 : Int32).toUInt32 &&& Int32.toUInt32 31)).toInt32) &&& (1431655765 : Int32))) &&& (858993459 : Int32)) + ((((x0 - (((x0.toUInt32 >>> ((1 : Int32).toUInt32 &&& Int32.toUInt32 31)).toInt32) &&& (1431655765 : Int32))).toUInt32 >>> ((2 : Int32).toUInt32 &&& Int32.toUInt32 31)).toInt32) &&& (858993459 : Int32))) + (((((x0 - (((x0.toUInt32 >>> ((1 : Int32).toUInt32 &&& Int32.toUInt32 31)).toInt32) &&& (1431655765 : Int32))) &&& (858993459 : Int32)) + ((((x0 - (((x0.toUInt32 >>> ((1 : Int32).toUInt32 &&& Int32.toUInt32 31)).toInt32) &&& (1431655765 : Int32))).toUInt32 >>> ((2 : Int32).toUInt32 &&& Int32.toUInt32 31)).toInt32) &&& (858993459 : Int32))).toUInt32 >>> ((4 : Int32).toUInt32 &&& Int32.toUInt32 31)).toInt32)) &&& (252645135 : Int32)).toUInt32 >>> ((8 : Int32).toUInt32 &&& Int32.toUInt32 31)).toInt32)).toUInt32 >>> ((16 : Int32).toUInt32 &&& Int32.toUInt32 31)).toInt32)) &&& (63 : Int32))
theorem s_J6_bitCount_0f7a4_e {G : XG} (C : XC G cJ6_bitCount_0f7a4 RJ6 (some .int) 1 0 0) {σ : XS} {x0 : Int32} {x : Int32} (hf : f_J6_bitCount_0f7a4 x0 = some x) (hk : XEnd G (some (.int x)) σ) : WW G 0 [(0, .int x0)] [] σ := by
  refine ww_iload_n (pc := 0) C 0 dJ6_bitCount_0f7a4_0 rfl ?_
  refine ww_iload_n (pc := 1) C 0 dJ6_bitCount_0f7a4_1 rfl ?_
  refine ww_iconst (pc := 2) (v := (1 : Int32)) C dJ6_bitCount_0f7a4_2 (by decide) ?_
  refine ww_iushr (pc := 3) (v := (x0.toUInt32 >>> ((1 : Int32).toUInt32 &&& Int32.toUInt32 31)).toInt32) C dJ6_bitCount_0f7a4_3 rfl ?_
  refine ww_ldcw (pc := 4) C q885 dJ6_bitCount_0f7a4_4 ?_
  refine ww_iand (pc := 7) C dJ6_bitCount_0f7a4_7 ?_
  refine ww_isub (pc := 8) C dJ6_bitCount_0f7a4_8 ?_
  refine ww_istore_n (pc := 9) (lv' := [(0, .int (x0 - (((x0.toUInt32 >>> ((1 : Int32).toUInt32 &&& Int32.toUInt32 31)).toInt32) &&& (1431655765 : Int32))))]) C dJ6_bitCount_0f7a4_9 (by decide) rfl ?_
  refine ww_iload_n (pc := 10) C 0 dJ6_bitCount_0f7a4_10 rfl ?_
  refine ww_ldcw (pc := 11) C q886 dJ6_bitCount_0f7a4_11 ?_
  refine ww_iand (pc := 14) C dJ6_bitCount_0f7a4_14 ?_
  refine ww_iload_n (pc := 15) C 0 dJ6_bitCount_0f7a4_15 rfl ?_
  refine ww_iconst (pc := 16) (v := (2 : Int32)) C dJ6_bitCount_0f7a4_16 (by decide) ?_
  refine ww_iushr (pc := 17) (v := ((x0 - (((x0.toUInt32 >>> ((1 : Int32).toUInt32 &&& Int32.toUInt32 31)).toInt32) &&& (1431655765 : Int32))).toUInt32 >>> ((2 : Int32).toUInt32 &&& Int32.toUInt32 31)).toInt32) C dJ6_bitCount_0f7a4_17 rfl ?_
  refine ww_ldcw (pc := 18) C q886 dJ6_bitCount_0f7a4_18 ?_
  refine ww_iand (pc := 21) C dJ6_bitCount_0f7a4_21 ?_
  refine ww_iadd (pc := 22) C dJ6_bitCount_0f7a4_22 ?_
  refine ww_istore_n (pc := 23) (lv' := [(0, .int (((x0 - (((x0.toUInt32 >>> ((1 : Int32).toUInt32 &&& Int32.toUInt32 31)).toInt32) &&& (1431655765 : Int32))) &&& (858993459 : Int32)) + ((((x0 - (((x0.toUInt32 >>> ((1 : Int32).toUInt32 &&& Int32.toUInt32 31)).toInt32) &&& (1431655765 : Int32))).toUInt32 >>> ((2 : Int32).toUInt32 &&& Int32.toUInt32 31)).toInt32) &&& (858993459 : Int32))))]) C dJ6_bitCount_0f7a4_23 (by decide) rfl ?_
  refine ww_iload_n (pc := 24) C 0 dJ6_bitCount_0f7a4_24 rfl ?_
  refine ww_iload_n (pc := 25) C 0 dJ6_bitCount_0f7a4_25 rfl ?_
  refine ww_iconst (pc := 26) (v := (4 : Int32)) C dJ6_bitCount_0f7a4_26 (by decide) ?_
  refine ww_iushr (pc := 27) (v := ((((x0 - (((x0.toUInt32 >>> ((1 : Int32).toUInt32 &&& Int32.toUInt32 31)).toInt32) &&& (1431655765 : Int32))) &&& (858993459 : Int32)) + ((((x0 - (((x0.toUInt32 >>> ((1 : Int32).toUInt32 &&& Int32.toUInt32 31)).toInt32) &&& (1431655765 : Int32))).toUInt32 >>> ((2 : Int32).toUInt32 &&& Int32.toUInt32 31)).toInt32) &&& (858993459 : Int32))).toUInt32 >>> ((4 : Int32).toUInt32 &&& Int32.toUInt32 31)).toInt32) C dJ6_bitCount_0f7a4_27 rfl ?_
  refine ww_iadd (pc := 28) C dJ6_bitCount_0f7a4_28 ?_
  refine ww_ldcw (pc := 29) C q887 dJ6_bitCount_0f7a4_29 ?_
  refine ww_iand (pc := 32) C dJ6_bitCount_0f7a4_32 ?_
  refine ww_istore_n (pc := 33) (lv' := [(0, .int (((((x0 - (((x0.toUInt32 >>> ((1 : Int32).toUInt32 &&& Int32.toUInt32 31)).toInt32) &&& (1431655765 : Int32))) &&& (858993459 : Int32)) + ((((x0 - (((x0.toUInt32 >>> ((1 : Int32).toUInt32 &&& Int32.toUInt32 31)).toInt32) &&& (1431655765 : Int32))).toUInt32 >>> ((2 : Int32).toUInt32 &&& Int32.toUInt32 31)).toInt32) &&& (858993459 : Int32))) + (((((x0 - (((x0.toUInt32 >>> ((1 : Int32).toUInt32 &&& Int32.toUInt32 31)).toInt32) &&& (1431655765 : Int32))) &&& (858993459 : Int32)) + ((((x0 - (((x0.toUInt32 >>> ((1 : Int32).toUInt32 &&& Int32.toUInt32 31)).toInt32) &&& (1431655765 : Int32))).toUInt32 >>> ((2 : Int32).toUInt32 &&& Int32.toUInt32 31)).toInt32) &&& (858993459 : Int32))).toUInt32 >>> ((4 : Int32).toUInt32 &&& Int32.toUInt32 31)).toInt32)) &&& (252645135 : Int32)))]) C dJ6_bitCount_0f7a4_33 (by decide) rfl ?_
  refine ww_iload_n (pc := 34) C 0 dJ6_bitCount_0f7a4_34 rfl ?_
  refine ww_iload_n (pc := 35) C 0 dJ6_bitCount_0f7a4_35 rfl ?_
  refine ww_bipush (pc := 36) (v := (8 : Int32)) C dJ6_bitCount_0f7a4_36 (by decide) ?_
  refine ww_iushr (pc := 38) (v := ((((((x0 - (((x0.toUInt32 >>> ((1 : Int32).toUInt32 &&& Int32.toUInt32 31)).toInt32) &&& (1431655765 : Int32))) &&& (858993459 : Int32)) + ((((x0 - (((x0.toUInt32 >>> ((1 : Int32).toUInt32 &&& Int32.toUInt32 31)).toInt32) &&& (1431655765 : Int32))).toUInt32 >>> ((2 : Int32).toUInt32 &&& Int32.toUInt32 31)).toInt32) &&& (858993459 : Int32))) + (((((x0 - (((x0.toUInt32 >>> ((1 : Int32).toUInt32 &&& Int32.toUInt32 31)).toInt32) &&& (1431655765 : Int32))) &&& (858993459 : Int32)) + ((((x0 - (((x0.toUInt32 >>> ((1 : Int32).toUInt32 &&& Int32.toUInt32 31)).toInt32) &&& (1431655765 : Int32))).toUInt32 >>> ((2 : Int32).toUInt32 &&& Int32.toUInt32 31)).toInt32) &&& (858993459 : Int32))).toUInt32 >>> ((4 : Int32).toUInt32 &&& Int32.toUInt32 31)).toInt32)) &&& (252645135 : Int32)).toUInt32 >>> ((8 : Int32).toUInt32 &&& Int32.toUInt32 31)).toInt32) C dJ6_bitCount_0f7a4_38 rfl ?_
  refine ww_iadd (pc := 39) C dJ6_bitCount_0f7a4_39 ?_
  refine ww_istore_n (pc := 40) (lv' := [(0, .int ((((((x0 - (((x0.toUInt32 >>> ((1 : Int32).toUInt32 &&& Int32.toUInt32 31)).toInt32) &&& (1431655765 : Int32))) &&& (858993459 : Int32)) + ((((x0 - (((x0.toUInt32 >>> ((1 : Int32).toUInt32 &&& Int32.toUInt32 31)).toInt32) &&& (1431655765 : Int32))).toUInt32 >>> ((2 : Int32).toUInt32 &&& Int32.toUInt32 31)).toInt32) &&& (858993459 : Int32))) + (((((x0 - (((x0.toUInt32 >>> ((1 : Int32).toUInt32 &&& Int32.toUInt32 31)).toInt32) &&& (1431655765 : Int32))) &&& (858993459 : Int32)) + ((((x0 - (((x0.toUInt32 >>> ((1 : Int32).toUInt32 &&& Int32.toUInt32 31)).toInt32) &&& (1431655765 : Int32))).toUInt32 >>> ((2 : Int32).toUInt32 &&& Int32.toUInt32 31)).toInt32) &&& (858993459 : Int32))).toUInt32 >>> ((4 : Int32).toUInt32 &&& Int32.toUInt32 31)).toInt32)) &&& (252645135 : Int32)) + (((((((x0 - (((x0.toUInt32 >>> ((1 : Int32).toUInt32 &&& Int32.toUInt32 31)).toInt32) &&& (1431655765 : Int32))) &&& (858993459 : Int32)) + ((((x0 - (((x0.toUInt32 >>> ((1 : Int32).toUInt32 &&& Int32.toUInt32 31)).toInt32) &&& (1431655765 : Int32))).toUInt32 >>> ((2 : Int32).toUInt32 &&& Int32.toUInt32 31)).toInt32) &&& (858993459 : Int32))) + (((((x0 - (((x0.toUInt32 >>> ((1 : Int32).toUInt32 &&& Int32.toUInt32 31)).toInt32) &&& (1431655765 : Int32))) &&& (858993459 : Int32)) + ((((x0 - (((x0.toUInt32 >>> ((1 : Int32).toUInt32 &&& Int32.toUInt32 31)).toInt32) &&& (1431655765 : Int32))).toUInt32 >>> ((2 : Int32).toUInt32 &&& Int32.toUInt32 31)).toInt32) &&& (858993459 : Int32))).toUInt32 >>> ((4 : Int32).toUInt32 &&& Int32.toUInt32 31)).toInt32)) &&& (252645135 : Int32)).toUInt32 >>> ((8 : Int32).toUInt32 &&& Int32.toUInt32 31)).toInt32)))]) C dJ6_bitCount_0f7a4_40 (by decide) rfl ?_
  refine ww_iload_n (pc := 41) C 0 dJ6_bitCount_0f7a4_41 rfl ?_
  refine ww_iload_n (pc := 42) C 0 dJ6_bitCount_0f7a4_42 rfl ?_
  refine ww_bipush (pc := 43) (v := (16 : Int32)) C dJ6_bitCount_0f7a4_43 (by decide) ?_
  refine ww_iushr (pc := 45) (v := (((((((x0 - (((x0.toUInt32 >>> ((1 : Int32).toUInt32 &&& Int32.toUInt32 31)).toInt32) &&& (1431655765 : Int32))) &&& (858993459 : Int32)) + ((((x0 - (((x0.toUInt32 >>> ((1 : Int32).toUInt32 &&& Int32.toUInt32 31)).toInt32) &&& (1431655765 : Int32))).toUInt32 >>> ((2 : Int32).toUInt32 &&& Int32.toUInt32 31)).toInt32) &&& (858993459 : Int32))) + (((((x0 - (((x0.toUInt32 >>> ((1 : Int32).toUInt32 &&& Int32.toUInt32 31)).toInt32) &&& (1431655765 : Int32))) &&& (858993459 : Int32)) + ((((x0 - (((x0.toUInt32 >>> ((1 : Int32).toUInt32 &&& Int32.toUInt32 31)).toInt32) &&& (1431655765 : Int32))).toUInt32 >>> ((2 : Int32).toUInt32 &&& Int32.toUInt32 31)).toInt32) &&& (858993459 : Int32))).toUInt32 >>> ((4 : Int32).toUInt32 &&& Int32.toUInt32 31)).toInt32)) &&& (252645135 : Int32)) + (((((((x0 - (((x0.toUInt32 >>> ((1 : Int32).toUInt32 &&& Int32.toUInt32 31)).toInt32) &&& (1431655765 : Int32))) &&& (858993459 : Int32)) + ((((x0 - (((x0.toUInt32 >>> ((1 : Int32).toUInt32 &&& Int32.toUInt32 31)).toInt32) &&& (1431655765 : Int32))).toUInt32 >>> ((2 : Int32).toUInt32 &&& Int32.toUInt32 31)).toInt32) &&& (858993459 : Int32))) + (((((x0 - (((x0.toUInt32 >>> ((1 : Int32).toUInt32 &&& Int32.toUInt32 31)).toInt32) &&& (1431655765 : Int32))) &&& (858993459 : Int32)) + ((((x0 - (((x0.toUInt32 >>> ((1 : Int32).toUInt32 &&& Int32.toUInt32 31)).toInt32) &&& (1431655765 : Int32))).toUInt32 >>> ((2 : Int32).toUInt32 &&& Int32.toUInt32 31)).toInt32) &&& (858993459 : Int32))).toUInt32 >>> ((4 : Int32).toUInt32 &&& Int32.toUInt32 31)).toInt32)) &&& (252645135 : Int32)).toUInt32 >>> ((8 : Int32).toUInt32 &&& Int32.toUInt32 31)).toInt32)).toUInt32 >>> ((16 : Int32).toUInt32 &&& Int32.toUInt32 31)).toInt32) C dJ6_bitCount_0f7a4_45 rfl ?_
  refine ww_iadd (pc := 46) C dJ6_bitCount_0f7a4_46 ?_
  refine ww_istore_n (pc := 47) (lv' := [(0, .int (((((((x0 - (((x0.toUInt32 >>> ((1 : Int32).toUInt32 &&& Int32.toUInt32 31)).toInt32) &&& (1431655765 : Int32))) &&& (858993459 : Int32)) + ((((x0 - (((x0.toUInt32 >>> ((1 : Int32).toUInt32 &&& Int32.toUInt32 31)).toInt32) &&& (1431655765 : Int32))).toUInt32 >>> ((2 : Int32).toUInt32 &&& Int32.toUInt32 31)).toInt32) &&& (858993459 : Int32))) + (((((x0 - (((x0.toUInt32 >>> ((1 : Int32).toUInt32 &&& Int32.toUInt32 31)).toInt32) &&& (1431655765 : Int32))) &&& (858993459 : Int32)) + ((((x0 - (((x0.toUInt32 >>> ((1 : Int32).toUInt32 &&& Int32.toUInt32 31)).toInt32) &&& (1431655765 : Int32))).toUInt32 >>> ((2 : Int32).toUInt32 &&& Int32.toUInt32 31)).toInt32) &&& (858993459 : Int32))).toUInt32 >>> ((4 : Int32).toUInt32 &&& Int32.toUInt32 31)).toInt32)) &&& (252645135 : Int32)) + (((((((x0 - (((x0.toUInt32 >>> ((1 : Int32).toUInt32 &&& Int32.toUInt32 31)).toInt32) &&& (1431655765 : Int32))) &&& (858993459 : Int32)) + ((((x0 - (((x0.toUInt32 >>> ((1 : Int32).toUInt32 &&& Int32.toUInt32 31)).toInt32) &&& (1431655765 : Int32))).toUInt32 >>> ((2 : Int32).toUInt32 &&& Int32.toUInt32 31)).toInt32) &&& (858993459 : Int32))) + (((((x0 - (((x0.toUInt32 >>> ((1 : Int32).toUInt32 &&& Int32.toUInt32 31)).toInt32) &&& (1431655765 : Int32))) &&& (858993459 : Int32)) + ((((x0 - (((x0.toUInt32 >>> ((1 : Int32).toUInt32 &&& Int32.toUInt32 31)).toInt32) &&& (1431655765 : Int32))).toUInt32 >>> ((2 : Int32).toUInt32 &&& Int32.toUInt32 31)).toInt32) &&& (858993459 : Int32))).toUInt32 >>> ((4 : Int32).toUInt32 &&& Int32.toUInt32 31)).toInt32)) &&& (252645135 : Int32)).toUInt32 >>> ((8 : Int32).toUInt32 &&& Int32.toUInt32 31)).toInt32)) + ((((((((x0 - (((x0.toUInt32 >>> ((1 : Int32).toUInt32 &&& Int32.toUInt32 31)).toInt32) &&& (1431655765 : Int32))) &&& (858993459 : Int32)) + ((((x0 - (((x0.toUInt32 >>> ((1 : Int32).toUInt32 &&& Int32.toUInt32 31)).toInt32) &&& (1431655765 : Int32))).toUInt32 >>> ((2 : Int32).toUInt32 &&& Int32.toUInt32 31)).toInt32) &&& (858993459 : Int32))) + (((((x0 - (((x0.toUInt32 >>> ((1 : Int32).toUInt32 &&& Int32.toUInt32 31)).toInt32) &&& (1431655765 : Int32))) &&& (858993459 : Int32)) + ((((x0 - (((x0.toUInt32 >>> ((1 : Int32).toUInt32 &&& Int32.toUInt32 31)).toInt32) &&& (1431655765 : Int32))).toUInt32 >>> ((2 : Int32).toUInt32 &&& Int32.toUInt32 31)).toInt32) &&& (858993459 : Int32))).toUInt32 >>> ((4 : Int32).toUInt32 &&& Int32.toUInt32 31)).toInt32)) &&& (252645135 : Int32)) + (((((((x0 - (((x0.toUInt32 >>> ((1 : Int32).toUInt32 &&& Int32.toUInt32 31)).toInt32) &&& (1431655765 : Int32))) &&& (858993459 : Int32)) + ((((x0 - (((x0.toUInt32 >>> ((1 : Int32).toUInt32 &&& Int32.toUInt32 31)).toInt32) &&& (1431655765 : Int32))).toUInt32 >>> ((2 : Int32).toUInt32 &&& Int32.toUInt32 31)).toInt32) &&& (858993459 : Int32))) + (((((x0 - (((x0.toUInt32 >>> ((1 : Int32).toUInt32 &&& Int32.toUInt32 31)).toInt32) &&& (1431655765 : Int32))) &&& (858993459 : Int32)) + ((((x0 - (((x0.toUInt32 >>> ((1 : Int32).toUInt32 &&& Int32.toUInt32 31)).toInt32) &&& (1431655765 : Int32))).toUInt32 >>> ((2 : Int32).toUInt32 &&& Int32.toUInt32 31)).toInt32) &&& (858993459 : Int32))).toUInt32 >>> ((4 : Int32).toUInt32 &&& Int32.toUInt32 31)).toInt32)) &&& (252645135 : Int32)).toUInt32 >>> ((8 : Int32).toUInt32 &&& Int32.toUInt32 31)).toInt32)).toUInt32 >>> ((16 : Int32).toUInt32 &&& Int32.toUInt32 31)).toInt32)))]) C dJ6_bitCount_0f7a4_47 (by decide) rfl ?_
  refine ww_iload_n (pc := 48) C 0 dJ6_bitCount_0f7a4_48 rfl ?_
  refine ww_bipush (pc := 49) (v := (63 : Int32)) C dJ6_bitCount_0f7a4_49 (by decide) ?_
  refine ww_iand (pc := 51) C dJ6_bitCount_0f7a4_51 ?_
  have hf := xsj hf
  subst hf
  exact ww_iret (pc := 52) C hk dJ6_bitCount_0f7a4_52
theorem k_J6_bitCount_0f7a4 {l : Launch} {E : XD} {hb : Nat} {σ : XS} {x0 : Int32} {x : Int32} (h : f_J6_bitCount_0f7a4 x0 = some x) : XM l yJ6_bitCount_0f7a4 cJ6_bitCount_0f7a4 1 (some .int) 0 0 E hb [.int x0] σ (some (.int x)) σ := by
  refine xm_of (by decide) (Nat.le_of_ble_eq_true rfl) ⟨Nat.le_refl _, Nat.le_refl _⟩ (fun G hG C hl hQ => ?_)
  obtain ⟨rfl, rfl, rfl, hN⟩ := hG
  exact s_J6_bitCount_0f7a4_e C h hQ
noncomputable def f_J6_signum_0f7a4 (x0 : Int32) : Option Int32 := some ((x0 >>> ((31 : Int32) &&& 31)) ||| (((-x0).toUInt32 >>> ((31 : Int32).toUInt32 &&& Int32.toUInt32 31)).toInt32))
theorem s_J6_signum_0f7a4_e {G : XG} (C : XC G cJ6_signum_0f7a4 RJ6 (some .int) 1 0 0) {σ : XS} {x0 : Int32} {x : Int32} (hf : f_J6_signum_0f7a4 x0 = some x) (hk : XEnd G (some (.int x)) σ) : WW G 0 [(0, .int x0)] [] σ := by
  refine ww_iload_n (pc := 0) C 0 dJ6_signum_0f7a4_0 rfl ?_
  refine ww_bipush (pc := 1) (v := (31 : Int32)) C dJ6_signum_0f7a4_1 (by decide) ?_
  refine ww_ishr (pc := 3) C dJ6_signum_0f7a4_3 ?_
  refine ww_iload_n (pc := 4) C 0 dJ6_signum_0f7a4_4 rfl ?_
  refine ww_ineg (pc := 5) C dJ6_signum_0f7a4_5 ?_
  refine ww_bipush (pc := 6) (v := (31 : Int32)) C dJ6_signum_0f7a4_6 (by decide) ?_
  refine ww_iushr (pc := 8) (v := ((-x0).toUInt32 >>> ((31 : Int32).toUInt32 &&& Int32.toUInt32 31)).toInt32) C dJ6_signum_0f7a4_8 rfl ?_
  refine ww_ior (pc := 9) C dJ6_signum_0f7a4_9 ?_
  have hf := xsj hf
  subst hf
  exact ww_iret (pc := 10) C hk dJ6_signum_0f7a4_10
theorem k_J6_signum_0f7a4 {l : Launch} {E : XD} {hb : Nat} {σ : XS} {x0 : Int32} {x : Int32} (h : f_J6_signum_0f7a4 x0 = some x) : XM l yJ6_signum_0f7a4 cJ6_signum_0f7a4 1 (some .int) 0 0 E hb [.int x0] σ (some (.int x)) σ := by
  refine xm_of (by decide) (Nat.le_of_ble_eq_true rfl) ⟨Nat.le_refl _, Nat.le_refl _⟩ (fun G hG C hl hQ => ?_)
  obtain ⟨rfl, rfl, rfl, hN⟩ := hG
  exact s_J6_signum_0f7a4_e C h hQ
noncomputable def f_J7_fill_53178_b5 (r0 : Nat) (x1 : Int32) (x3 : Int32) : Int32 × XS → Option ((Int32 × XS) ⊕ (XS)) := fun a => match a with
  | (x2, σ) => if x3 ≤ x2 then ((some σ).map .inr) else (xsI σ 20 r0 x2 x1).bind fun σ2 => some (.inl (x2 + (1 : Int32), σ2))
noncomputable def f_J7_fill_53178 (σ : XS) (r0 : Nat) (x1 : Int32) : Option XS := (xal σ r0).bind fun v2 => xloop (f_J7_fill_53178_b5 r0 x1 v2) ((0 : Int32), σ)
theorem m_J7_fill_53178_l5 {r0 : Nat} {x1 : Int32} {x3 : Int32} {a : Int32 × XS} {x : XS} (hf : xloop (f_J7_fill_53178_b5 r0 x1 x3) a = some x) : xsame a.2 x := by
  refine xloop_ind (P := fun a => xsame a.2 x) (fun a y hf hc he => ?_) hf
  obtain ⟨x2, σ⟩ := a
  have hy : (∀ a' : Int32 × XS, y = .inl a' → xsame σ a'.2) ∧ (∀ b1 : XS, y = .inr b1 → xsame σ b1) := by
    have hm := xsame.rf (σ := σ)
    by_cases q : x3 ≤ x2
    · have hf := xip q hf
      obtain ⟨b0, hg, e9⟩ := xmj hf
      subst e9
      have hf := hg
      refine ⟨fun a' e => xnc2 e, fun b e => ?_⟩
      have h9 := Sum.inr.inj e
      subst h9
      have hf := xsj hf
      subst hf
      exact hm
    · have hf := xin q hf
      obtain ⟨σ2, e1, hf⟩ := xbd hf
      have hm := hm.tr (xsI_same e1)
      have hf := xsj hf
      subst hf
      exact ⟨fun a' e => (by have h9 := Sum.inl.inj e; subst h9; exact hm), fun b e => xnc1 e⟩
  cases y with
  | inl a' =>
    have h1 := hc a' rfl
    have hm := hy.1 a' rfl
    exact hm.tr (h1)
  | inr b =>
    have h1 := he b rfl
    subst h1
    exact hy.2 _ rfl
theorem s_J7_fill_53178_l5 {G : XG} (C : XC G cJ7_fill_53178 RJ7 none 4 0 0) {r0 : Nat} {x1 : Int32} {x3 : Int32} {a : Int32 × XS} {x : XS} (hf : xloop (f_J7_fill_53178_b5 r0 x1 x3) a = some x) (hk : XEnd G none x) : WW G 5 [(0, .ref (gB G + r0)), (1, .int x1), (2, .int a.1), (3, .int x3)] [] a.2 := by
  refine xloop_ind (P := fun a => WW G 5 [(0, .ref (gB G + r0)), (1, .int x1), (2, .int a.1), (3, .int x3)] [] a.2) (fun a y hf hc he => ?_) hf
  obtain ⟨x2, σ⟩ := a
  have hk : (∀ a' : Int32 × XS, y = .inl a' → WW G 5 [(0, .ref (gB G + r0)), (1, .int x1), (2, .int a'.1), (3, .int x3)] [] a'.2) ∧ (∀ b1 : XS, y = .inr b1 → XEnd G none b1) := ⟨hc, fun b e => by have h9 := he b e; subst h9; exact hk⟩
  refine ww_iload_n (pc := 5) C 2 dJ7_fill_53178_5 rfl ?_
  refine ww_iload_n (pc := 6) C 3 dJ7_fill_53178_6 rfl ?_
  refine ww_icmp_ge (pc := 7) (tgt := 20) C dJ7_fill_53178_7 (by decide) (fun q => ?_) (fun q => ?_)
  · have hf := xip q hf
    obtain ⟨b0, hg, e9⟩ := xmj hf
    subst e9
    have hf := hg
    have hk := hk.2 _ rfl
    have hf := xsj hf
    subst hf
    exact ww_vret (pc := 20) C hk dJ7_fill_53178_20
  · have hf := xin q hf
    refine ww_aload_n (pc := 10) C 0 dJ7_fill_53178_10 rfl ?_
    refine ww_iload_n (pc := 11) C 2 dJ7_fill_53178_11 rfl ?_
    refine ww_iload_n (pc := 12) C 1 dJ7_fill_53178_12 rfl ?_
    obtain ⟨σ2, e1, hf⟩ := xbd hf
    refine ww_iast (pc := 13) C e1 dJ7_fill_53178_13 ?_
    refine ww_iinc (pc := 14) (v := x2 + (1 : Int32)) (lv' := [(2, .int (x2 + (1 : Int32))), (0, .ref (gB G + r0)), (1, .int x1), (3, .int x3)]) C 2 dJ7_fill_53178_14 rfl (congrArg (fun z => x2 + z) (show Int32.ofInt (1) = (1 : Int32) by decide)) (by decide) rfl ?_
    refine ww_goto (pc := 17) (tgt := 5) C dJ7_fill_53178_17 (by decide) ?_
    have hf := xsj hf
    subst hf
    refine ww_sub [1, 2, 0, 3] rfl ?_
    exact hk.1 (x2 + (1 : Int32), σ2) rfl
theorem s_J7_fill_53178_e {G : XG} (C : XC G cJ7_fill_53178 RJ7 none 4 0 0) {σ : XS} {r0 : Nat} {x1 : Int32} {x : XS} (hf : f_J7_fill_53178 σ r0 x1 = some x) (hk : XEnd G none x) : WW G 0 [(0, .ref (gB G + r0)), (1, .int x1)] [] σ := by
  refine ww_iconst (pc := 0) (v := (0 : Int32)) C dJ7_fill_53178_0 (by decide) ?_
  refine ww_istore_n (pc := 1) (lv' := [(2, .int (0 : Int32)), (0, .ref (gB G + r0)), (1, .int x1)]) C dJ7_fill_53178_1 (by decide) rfl ?_
  refine ww_aload_n (pc := 2) C 1 dJ7_fill_53178_2 rfl ?_
  obtain ⟨v2, e1, hf⟩ := xbd hf
  refine ww_alen (pc := 3) C e1 dJ7_fill_53178_3 ?_
  refine ww_istore_n (pc := 4) (lv' := [(3, .int v2), (2, .int (0 : Int32)), (0, .ref (gB G + r0)), (1, .int x1)]) C dJ7_fill_53178_4 (by decide) rfl ?_
  refine ww_sub [2, 3, 1, 0] rfl ?_
  exact s_J7_fill_53178_l5 C (a := ((0 : Int32), σ)) hf hk
theorem m_J7_fill_53178 {σ : XS} {r0 : Nat} {x1 : Int32} {x : XS} (hf : f_J7_fill_53178 σ r0 x1 = some x) : xsame σ x := by
  have hm := xsame.rf (σ := σ)
  obtain ⟨v2, e1, hf⟩ := xbd hf
  exact hm.tr (m_J7_fill_53178_l5 (a := ((0 : Int32), σ)) hf)
theorem k_J7_fill_53178 {l : Launch} {E : XD} {hb : Nat} {σ : XS} {r0 : Nat} {x1 : Int32} {x : XS} (h : f_J7_fill_53178 σ r0 x1 = some x) : XM l yJ7_fill_53178 cJ7_fill_53178 4 none 0 0 E hb [.ref (hb + r0), .int x1] σ none x := by
  refine xm_of (by decide) (Nat.le_of_ble_eq_true rfl) (m_J7_fill_53178 h).le (fun G hG C hl hQ => ?_)
  obtain ⟨rfl, rfl, rfl, hN⟩ := hG
  exact s_J7_fill_53178_e C h hQ
noncomputable def f_J7_fill_d0a16_b6 (r0 : Nat) (w1 : Int64) (x4 : Int32) : Int32 × XS → Option ((Int32 × XS) ⊕ (XS)) := fun a => match a with
  | (x3, σ) => if x4 ≤ x3 then ((some σ).map .inr) else (xsL σ r0 x3 w1).bind fun σ2 => some (.inl (x3 + (1 : Int32), σ2))
noncomputable def f_J7_fill_d0a16 (σ : XS) (r0 : Nat) (w1 : Int64) : Option XS := (xal σ r0).bind fun v2 => xloop (f_J7_fill_d0a16_b6 r0 w1 v2) ((0 : Int32), σ)
theorem m_J7_fill_d0a16_l6 {r0 : Nat} {w1 : Int64} {x4 : Int32} {a : Int32 × XS} {x : XS} (hf : xloop (f_J7_fill_d0a16_b6 r0 w1 x4) a = some x) : xsame a.2 x := by
  refine xloop_ind (P := fun a => xsame a.2 x) (fun a y hf hc he => ?_) hf
  obtain ⟨x3, σ⟩ := a
  have hy : (∀ a' : Int32 × XS, y = .inl a' → xsame σ a'.2) ∧ (∀ b1 : XS, y = .inr b1 → xsame σ b1) := by
    have hm := xsame.rf (σ := σ)
    by_cases q : x4 ≤ x3
    · have hf := xip q hf
      obtain ⟨b0, hg, e9⟩ := xmj hf
      subst e9
      have hf := hg
      refine ⟨fun a' e => xnc2 e, fun b e => ?_⟩
      have h9 := Sum.inr.inj e
      subst h9
      have hf := xsj hf
      subst hf
      exact hm
    · have hf := xin q hf
      obtain ⟨σ2, e1, hf⟩ := xbd hf
      have hm := hm.tr (xsL_same e1)
      have hf := xsj hf
      subst hf
      exact ⟨fun a' e => (by have h9 := Sum.inl.inj e; subst h9; exact hm), fun b e => xnc1 e⟩
  cases y with
  | inl a' =>
    have h1 := hc a' rfl
    have hm := hy.1 a' rfl
    exact hm.tr (h1)
  | inr b =>
    have h1 := he b rfl
    subst h1
    exact hy.2 _ rfl
theorem s_J7_fill_d0a16_l6 {G : XG} (C : XC G cJ7_fill_d0a16 RJ7 none 5 0 0) {r0 : Nat} {w1 : Int64} {x4 : Int32} {a : Int32 × XS} {x : XS} (hf : xloop (f_J7_fill_d0a16_b6 r0 w1 x4) a = some x) (hk : XEnd G none x) : WW G 6 [(0, .ref (gB G + r0)), (1, .long w1), (3, .int a.1), (4, .int x4)] [] a.2 := by
  refine xloop_ind (P := fun a => WW G 6 [(0, .ref (gB G + r0)), (1, .long w1), (3, .int a.1), (4, .int x4)] [] a.2) (fun a y hf hc he => ?_) hf
  obtain ⟨x3, σ⟩ := a
  have hk : (∀ a' : Int32 × XS, y = .inl a' → WW G 6 [(0, .ref (gB G + r0)), (1, .long w1), (3, .int a'.1), (4, .int x4)] [] a'.2) ∧ (∀ b1 : XS, y = .inr b1 → XEnd G none b1) := ⟨hc, fun b e => by have h9 := he b e; subst h9; exact hk⟩
  refine ww_iload_n (pc := 6) C 2 dJ7_fill_d0a16_6 rfl ?_
  refine ww_iload (pc := 7) C 3 dJ7_fill_d0a16_7 rfl ?_
  refine ww_icmp_ge (pc := 9) (tgt := 22) C dJ7_fill_d0a16_9 (by decide) (fun q => ?_) (fun q => ?_)
  · have hf := xip q hf
    obtain ⟨b0, hg, e9⟩ := xmj hf
    subst e9
    have hf := hg
    have hk := hk.2 _ rfl
    have hf := xsj hf
    subst hf
    exact ww_vret (pc := 22) C hk dJ7_fill_d0a16_22
  · have hf := xin q hf
    refine ww_aload_n (pc := 12) C 0 dJ7_fill_d0a16_12 rfl ?_
    refine ww_iload_n (pc := 13) C 2 dJ7_fill_d0a16_13 rfl ?_
    refine ww_lload_n (pc := 14) C 1 dJ7_fill_d0a16_14 rfl ?_
    obtain ⟨σ2, e1, hf⟩ := xbd hf
    refine ww_last (pc := 15) C e1 dJ7_fill_d0a16_15 ?_
    refine ww_iinc (pc := 16) (v := x3 + (1 : Int32)) (lv' := [(3, .int (x3 + (1 : Int32))), (0, .ref (gB G + r0)), (1, .long w1), (4, .int x4)]) C 2 dJ7_fill_d0a16_16 rfl (congrArg (fun z => x3 + z) (show Int32.ofInt (1) = (1 : Int32) by decide)) (by decide) rfl ?_
    refine ww_goto (pc := 19) (tgt := 6) C dJ7_fill_d0a16_19 (by decide) ?_
    have hf := xsj hf
    subst hf
    refine ww_sub [1, 2, 0, 3] rfl ?_
    exact hk.1 (x3 + (1 : Int32), σ2) rfl
theorem s_J7_fill_d0a16_e {G : XG} (C : XC G cJ7_fill_d0a16 RJ7 none 5 0 0) {σ : XS} {r0 : Nat} {w1 : Int64} {x : XS} (hf : f_J7_fill_d0a16 σ r0 w1 = some x) (hk : XEnd G none x) : WW G 0 [(0, .ref (gB G + r0)), (1, .long w1)] [] σ := by
  refine ww_iconst (pc := 0) (v := (0 : Int32)) C dJ7_fill_d0a16_0 (by decide) ?_
  refine ww_istore_n (pc := 1) (lv' := [(3, .int (0 : Int32)), (0, .ref (gB G + r0)), (1, .long w1)]) C dJ7_fill_d0a16_1 (by decide) rfl ?_
  refine ww_aload_n (pc := 2) C 1 dJ7_fill_d0a16_2 rfl ?_
  obtain ⟨v2, e1, hf⟩ := xbd hf
  refine ww_alen (pc := 3) C e1 dJ7_fill_d0a16_3 ?_
  refine ww_istore (pc := 4) (lv' := [(4, .int v2), (3, .int (0 : Int32)), (0, .ref (gB G + r0)), (1, .long w1)]) C dJ7_fill_d0a16_4 (by decide) rfl ?_
  refine ww_sub [2, 3, 1, 0] rfl ?_
  exact s_J7_fill_d0a16_l6 C (a := ((0 : Int32), σ)) hf hk
theorem m_J7_fill_d0a16 {σ : XS} {r0 : Nat} {w1 : Int64} {x : XS} (hf : f_J7_fill_d0a16 σ r0 w1 = some x) : xsame σ x := by
  have hm := xsame.rf (σ := σ)
  obtain ⟨v2, e1, hf⟩ := xbd hf
  exact hm.tr (m_J7_fill_d0a16_l6 (a := ((0 : Int32), σ)) hf)
theorem k_J7_fill_d0a16 {l : Launch} {E : XD} {hb : Nat} {σ : XS} {r0 : Nat} {w1 : Int64} {x : XS} (h : f_J7_fill_d0a16 σ r0 w1 = some x) : XM l yJ7_fill_d0a16 cJ7_fill_d0a16 5 none 0 0 E hb [.ref (hb + r0), .long w1] σ none x := by
  refine xm_of (by decide) (Nat.le_of_ble_eq_true rfl) (m_J7_fill_d0a16 h).le (fun G hG C hl hQ => ?_)
  obtain ⟨rfl, rfl, rfl, hN⟩ := hG
  exact s_J7_fill_d0a16_e C h hQ
noncomputable def f_X0_fewest_b2 (σ : XS) (r0 : Nat) : Int32 → Option ((Int32) ⊕ (Int32)) := fun a => match a with
  | x1 => (xgR σ r0 0 0).bind fun z2 => (xal σ z2).bind fun v4 => if v4 ≤ x1 then ((some (0 : Int32)).map .inr) else (xgR σ r0 0 0).bind fun z6 => (xaI σ 20 z6 x1).bind fun v8 => if v8 ≤ 0 then (some (.inl (x1 + (1 : Int32)))) else (some x1).map .inr
noncomputable def f_X0_fewest (σ : XS) (r0 : Nat) : Option Int32 := xloop (f_X0_fewest_b2 σ r0) (0 : Int32)
theorem s_X0_fewest_l2 {G : XG} (C : XC G cX0_fewest RX0 (some .int) 2 0 0) {σ : XS} {r0 : Nat} {a : Int32} {x : Int32} (hf : xloop (f_X0_fewest_b2 σ r0) a = some x) (hk : XEnd G (some (.int x)) σ) : WW G 2 [(0, .ref (gB G + r0)), (1, .int a)] [] σ := by
  refine xloop_ind (P := fun a => WW G 2 [(0, .ref (gB G + r0)), (1, .int a)] [] σ) (fun a y hf hc he => ?_) hf
  obtain ⟨x1, rfl⟩ : ∃ z, z = a := ⟨_, rfl⟩
  have hk : (∀ a' : Int32, y = .inl a' → WW G 2 [(0, .ref (gB G + r0)), (1, .int a')] [] σ) ∧ (∀ b1 : Int32, y = .inr b1 → XEnd G (some (.int b1)) σ) := ⟨hc, fun b e => by have h9 := he b e; subst h9; exact hk⟩
  refine ww_iload_n (pc := 2) C 1 dX0_fewest_2 rfl ?_
  refine ww_aload_n (pc := 3) C 0 dX0_fewest_3 rfl ?_
  obtain ⟨z2, e1, hf⟩ := xbd hf
  refine gf_X0_9 (pc := 4) C e1 dX0_fewest_4 ?_
  obtain ⟨v4, e3, hf⟩ := xbd hf
  refine ww_alen (pc := 7) C e3 dX0_fewest_7 ?_
  refine ww_icmp_ge (pc := 8) (tgt := 28) C dX0_fewest_8 (by decide) (fun q => ?_) (fun q => ?_)
  · have hf := xip q hf
    obtain ⟨b0, hg, e9⟩ := xmj hf
    subst e9
    have hf := hg
    have hk := hk.2 _ rfl
    refine ww_iconst (pc := 28) (v := (0 : Int32)) C dX0_fewest_28 (by decide) ?_
    have hf := xsj hf
    subst hf
    exact ww_iret (pc := 29) C hk dX0_fewest_29
  · have hf := xin q hf
    refine ww_aload_n (pc := 11) C 0 dX0_fewest_11 rfl ?_
    obtain ⟨z6, e5, hf⟩ := xbd hf
    refine gf_X0_9 (pc := 12) C e5 dX0_fewest_12 ?_
    refine ww_iload_n (pc := 15) C 1 dX0_fewest_15 rfl ?_
    obtain ⟨v8, e7, hf⟩ := xbd hf
    refine ww_iald (pc := 16) C e7 dX0_fewest_16 ?_
    refine ww_if_le (pc := 17) (tgt := 22) C dX0_fewest_17 (by decide) (fun q => ?_) (fun q => ?_)
    · have hf := xip q hf
      refine ww_iinc (pc := 22) (v := x1 + (1 : Int32)) (lv' := [(1, .int (x1 + (1 : Int32))), (0, .ref (gB G + r0))]) C 1 dX0_fewest_22 rfl (congrArg (fun z => x1 + z) (show Int32.ofInt (1) = (1 : Int32) by decide)) (by decide) rfl ?_
      refine ww_goto (pc := 25) (tgt := 2) C dX0_fewest_25 (by decide) ?_
      have hf := xsj hf
      subst hf
      refine ww_sub [1, 0] rfl ?_
      exact hk.1 (x1 + (1 : Int32)) rfl
    · have hf := xin q hf
      obtain ⟨b0, hg, e9⟩ := xmj hf
      subst e9
      have hf := hg
      have hk := hk.2 _ rfl
      refine ww_iload_n (pc := 20) C 1 dX0_fewest_20 rfl ?_
      have hf := xsj hf
      subst hf
      exact ww_iret (pc := 21) C hk dX0_fewest_21
theorem s_X0_fewest_e {G : XG} (C : XC G cX0_fewest RX0 (some .int) 2 0 0) {σ : XS} {r0 : Nat} {x : Int32} (hf : f_X0_fewest σ r0 = some x) (hk : XEnd G (some (.int x)) σ) : WW G 0 [(0, .ref (gB G + r0))] [] σ := by
  refine ww_iconst (pc := 0) (v := (0 : Int32)) C dX0_fewest_0 (by decide) ?_
  refine ww_istore_n (pc := 1) (lv' := [(1, .int (0 : Int32)), (0, .ref (gB G + r0))]) C dX0_fewest_1 (by decide) rfl ?_
  refine ww_sub [1, 0] rfl ?_
  exact s_X0_fewest_l2 C (a := (0 : Int32)) hf hk
theorem k_X0_fewest {l : Launch} {E : XD} {hb : Nat} {σ : XS} {r0 : Nat} {x : Int32} (h : f_X0_fewest σ r0 = some x) : XM l yX0_fewest cX0_fewest 2 (some .int) 0 0 E hb [.ref (hb + r0)] σ (some (.int x)) σ := by
  refine xm_of (by decide) (Nat.le_of_ble_eq_true rfl) ⟨Nat.le_refl _, Nat.le_refl _⟩ (fun G hG C hl hQ => ?_)
  obtain ⟨rfl, rfl, rfl, hN⟩ := hG
  exact s_X0_fewest_e C h hQ
noncomputable def f_X3_endAt (σ : XS) (r0 : Nat) (x1 : Int32) : Option Int32 := if x1 < 0 then (some (-1 : Int32)) else (xgR σ r0 3 0).bind fun z2 => (xal σ z2).bind fun v4 => if v4 ≤ x1 then (some (-1 : Int32)) else (xgR σ r0 3 0).bind fun z6 => (xaI σ 20 z6 x1).bind fun v8 => some v8
theorem s_X3_endAt_e {G : XG} (C : XC G cX3_endAt RX3 (some .int) 2 0 0) {σ : XS} {r0 : Nat} {x1 : Int32} {x : Int32} (hf : f_X3_endAt σ r0 x1 = some x) (hk : XEnd G (some (.int x)) σ) : WW G 0 [(0, .ref (gB G + r0)), (1, .int x1)] [] σ := by
  refine ww_iload_n (pc := 0) C 1 dX3_endAt_0 rfl ?_
  refine ww_if_lt (pc := 1) (tgt := 22) C dX3_endAt_1 (by decide) (fun q => ?_) (fun q => ?_)
  · have hf := xip q hf
    refine ww_iconst (pc := 22) (v := (-1 : Int32)) C dX3_endAt_22 (by decide) ?_
    have hf := xsj hf
    subst hf
    exact ww_iret (pc := 23) C hk dX3_endAt_23
  · have hf := xin q hf
    refine ww_iload_n (pc := 4) C 1 dX3_endAt_4 rfl ?_
    refine ww_aload_n (pc := 5) C 0 dX3_endAt_5 rfl ?_
    obtain ⟨z2, e1, hf⟩ := xbd hf
    refine gf_X3_9 (pc := 6) C e1 dX3_endAt_6 ?_
    obtain ⟨v4, e3, hf⟩ := xbd hf
    refine ww_alen (pc := 9) C e3 dX3_endAt_9 ?_
    refine ww_icmp_ge (pc := 10) (tgt := 22) C dX3_endAt_10 (by decide) (fun q => ?_) (fun q => ?_)
    · have hf := xip q hf
      refine ww_iconst (pc := 22) (v := (-1 : Int32)) C dX3_endAt_22 (by decide) ?_
      have hf := xsj hf
      subst hf
      exact ww_iret (pc := 23) C hk dX3_endAt_23
    · have hf := xin q hf
      refine ww_aload_n (pc := 13) C 0 dX3_endAt_13 rfl ?_
      obtain ⟨z6, e5, hf⟩ := xbd hf
      refine gf_X3_9 (pc := 14) C e5 dX3_endAt_14 ?_
      refine ww_iload_n (pc := 17) C 1 dX3_endAt_17 rfl ?_
      obtain ⟨v8, e7, hf⟩ := xbd hf
      refine ww_iald (pc := 18) C e7 dX3_endAt_18 ?_
      refine ww_goto (pc := 19) (tgt := 23) C dX3_endAt_19 (by decide) ?_
      have hf := xsj hf
      subst hf
      exact ww_iret (pc := 23) C hk dX3_endAt_23
theorem k_X3_endAt {l : Launch} {E : XD} {hb : Nat} {σ : XS} {r0 : Nat} {x1 : Int32} {x : Int32} (h : f_X3_endAt σ r0 x1 = some x) : XM l yX3_endAt cX3_endAt 2 (some .int) 0 0 E hb [.ref (hb + r0), .int x1] σ (some (.int x)) σ := by
  refine xm_of (by decide) (Nat.le_of_ble_eq_true rfl) ⟨Nat.le_refl _, Nat.le_refl _⟩ (fun G hG C hl hQ => ?_)
  obtain ⟨rfl, rfl, rfl, hN⟩ := hG
  exact s_X3_endAt_e C h hQ
noncomputable def f_X6_bondAt (σ : XS) (r0 : Nat) (x1 : Int32) : Option Int32 := if x1 < 0 then (some (0 : Int32)) else (xgR σ r0 6 0).bind fun z2 => (xal σ z2).bind fun v4 => if v4 ≤ x1 then (some (0 : Int32)) else (xgR σ r0 6 0).bind fun z6 => (xaI σ 20 z6 x1).bind fun v8 => some v8
theorem s_X6_bondAt_e {G : XG} (C : XC G cX6_bondAt RX6 (some .int) 2 0 0) {σ : XS} {r0 : Nat} {x1 : Int32} {x : Int32} (hf : f_X6_bondAt σ r0 x1 = some x) (hk : XEnd G (some (.int x)) σ) : WW G 0 [(0, .ref (gB G + r0)), (1, .int x1)] [] σ := by
  refine ww_iload_n (pc := 0) C 1 dX6_bondAt_0 rfl ?_
  refine ww_if_lt (pc := 1) (tgt := 22) C dX6_bondAt_1 (by decide) (fun q => ?_) (fun q => ?_)
  · have hf := xip q hf
    refine ww_iconst (pc := 22) (v := (0 : Int32)) C dX6_bondAt_22 (by decide) ?_
    have hf := xsj hf
    subst hf
    exact ww_iret (pc := 23) C hk dX6_bondAt_23
  · have hf := xin q hf
    refine ww_iload_n (pc := 4) C 1 dX6_bondAt_4 rfl ?_
    refine ww_aload_n (pc := 5) C 0 dX6_bondAt_5 rfl ?_
    obtain ⟨z2, e1, hf⟩ := xbd hf
    refine gf_X6_9 (pc := 6) C e1 dX6_bondAt_6 ?_
    obtain ⟨v4, e3, hf⟩ := xbd hf
    refine ww_alen (pc := 9) C e3 dX6_bondAt_9 ?_
    refine ww_icmp_ge (pc := 10) (tgt := 22) C dX6_bondAt_10 (by decide) (fun q => ?_) (fun q => ?_)
    · have hf := xip q hf
      refine ww_iconst (pc := 22) (v := (0 : Int32)) C dX6_bondAt_22 (by decide) ?_
      have hf := xsj hf
      subst hf
      exact ww_iret (pc := 23) C hk dX6_bondAt_23
    · have hf := xin q hf
      refine ww_aload_n (pc := 13) C 0 dX6_bondAt_13 rfl ?_
      obtain ⟨z6, e5, hf⟩ := xbd hf
      refine gf_X6_9 (pc := 14) C e5 dX6_bondAt_14 ?_
      refine ww_iload_n (pc := 17) C 1 dX6_bondAt_17 rfl ?_
      obtain ⟨v8, e7, hf⟩ := xbd hf
      refine ww_iald (pc := 18) C e7 dX6_bondAt_18 ?_
      refine ww_goto (pc := 19) (tgt := 23) C dX6_bondAt_19 (by decide) ?_
      have hf := xsj hf
      subst hf
      exact ww_iret (pc := 23) C hk dX6_bondAt_23
theorem k_X6_bondAt {l : Launch} {E : XD} {hb : Nat} {σ : XS} {r0 : Nat} {x1 : Int32} {x : Int32} (h : f_X6_bondAt σ r0 x1 = some x) : XM l yX6_bondAt cX6_bondAt 2 (some .int) 0 0 E hb [.ref (hb + r0), .int x1] σ (some (.int x)) σ := by
  refine xm_of (by decide) (Nat.le_of_ble_eq_true rfl) ⟨Nat.le_refl _, Nat.le_refl _⟩ (fun G hG C hl hQ => ?_)
  obtain ⟨rfl, rfl, rfl, hN⟩ := hG
  exact s_X6_bondAt_e C h hQ
noncomputable def f_X2_seeLowerMates_b13 (r0 : Nat) (r1 : Nat) (r2 : Nat) (x3 : Int32) : Int32 × XS → Option ((Int32 × XS) ⊕ (XS)) := fun a => match a with
  | (x4, σ) => if (4 : Int32) ≤ x4 then ((some σ).map .inr) else (xgR σ r1 3 3).bind fun z2 => (xaI σ 20 z2 x3).bind fun v4 => if v4 ≤ x4 then ((some σ).map .inr) else (xgR σ r1 3 1).bind fun z6 => (xaI σ 20 z6 (((4 : Int32) * x3) + x4)).bind fun v8 => (xgR σ r1 3 2).bind fun z10 => (xaI σ 20 z10 (((4 : Int32) * x3) + x4)).bind fun v12 => if x3 ≤ v8 then (some (.inl (x4 + (1 : Int32), σ))) else if v12 < 0 then (some (.inl (x4 + (1 : Int32), σ))) else (xal σ r2).bind fun v14 => if v14 ≤ v12 then (some (.inl (x4 + (1 : Int32), σ))) else (xaI σ 20 r2 v12).bind fun v16 => if v16 = 0 then (some (.inl (x4 + (1 : Int32), σ))) else (xgR σ r0 2 0).bind fun z18 => (xgI σ r0 2 2).bind fun v20 => (xsI σ 20 z18 v20 v8).bind fun σ22 => (xgR σ22 r0 2 1).bind fun z24 => (xgI σ22 r0 2 2).bind fun v26 => (xaI σ22 20 r2 v12).bind fun v28 => (xsI σ22 20 z24 v26 v28).bind fun σ30 => (xgI σ30 r0 2 2).bind fun v32 => (xpI σ30 r0 2 2 (v32 + (1 : Int32))).bind fun σ34 => (xgI σ34 r0 2 3).bind fun v36 => (xpI σ34 r0 2 3 (xmin v36 v8)).bind fun σ38 => some (.inl (x4 + (1 : Int32), σ38))
noncomputable def f_X2_seeLowerMates (σ : XS) (r0 : Nat) (r1 : Nat) (r2 : Nat) (x3 : Int32) : Option XS := (xpI σ r0 2 2 (0 : Int32)).bind fun σ2 => (xpI σ2 r0 2 3 x3).bind fun σ4 => xloop (f_X2_seeLowerMates_b13 r0 r1 r2 x3) ((0 : Int32), σ4)
theorem m_X2_seeLowerMates_l13 {r0 : Nat} {r1 : Nat} {r2 : Nat} {x3 : Int32} {a : Int32 × XS} {x : XS} (hf : xloop (f_X2_seeLowerMates_b13 r0 r1 r2 x3) a = some x) : xsame a.2 x := by
  refine xloop_ind (P := fun a => xsame a.2 x) (fun a y hf hc he => ?_) hf
  obtain ⟨x4, σ⟩ := a
  have hy : (∀ a' : Int32 × XS, y = .inl a' → xsame σ a'.2) ∧ (∀ b1 : XS, y = .inr b1 → xsame σ b1) := by
    have hm := xsame.rf (σ := σ)
    by_cases q : (4 : Int32) ≤ x4
    · have hf := xip q hf
      obtain ⟨b0, hg, e9⟩ := xmj hf
      subst e9
      have hf := hg
      refine ⟨fun a' e => xnc2 e, fun b e => ?_⟩
      have h9 := Sum.inr.inj e
      subst h9
      have hf := xsj hf
      subst hf
      exact hm
    · have hf := xin q hf
      obtain ⟨z2, e1, hf⟩ := xbd hf
      obtain ⟨v4, e3, hf⟩ := xbd hf
      by_cases q : v4 ≤ x4
      · have hf := xip q hf
        obtain ⟨b0, hg, e9⟩ := xmj hf
        subst e9
        have hf := hg
        refine ⟨fun a' e => xnc2 e, fun b e => ?_⟩
        have h9 := Sum.inr.inj e
        subst h9
        have hf := xsj hf
        subst hf
        exact hm
      · have hf := xin q hf
        obtain ⟨z6, e5, hf⟩ := xbd hf
        obtain ⟨v8, e7, hf⟩ := xbd hf
        obtain ⟨z10, e9, hf⟩ := xbd hf
        obtain ⟨v12, e11, hf⟩ := xbd hf
        by_cases q : x3 ≤ v8
        · have hf := xip q hf
          have hf := xsj hf
          subst hf
          exact ⟨fun a' e => (by have h9 := Sum.inl.inj e; subst h9; exact hm), fun b e => xnc1 e⟩
        · have hf := xin q hf
          by_cases q : v12 < 0
          · have hf := xip q hf
            have hf := xsj hf
            subst hf
            exact ⟨fun a' e => (by have h9 := Sum.inl.inj e; subst h9; exact hm), fun b e => xnc1 e⟩
          · have hf := xin q hf
            obtain ⟨v14, e13, hf⟩ := xbd hf
            by_cases q : v14 ≤ v12
            · have hf := xip q hf
              have hf := xsj hf
              subst hf
              exact ⟨fun a' e => (by have h9 := Sum.inl.inj e; subst h9; exact hm), fun b e => xnc1 e⟩
            · have hf := xin q hf
              obtain ⟨v16, e15, hf⟩ := xbd hf
              by_cases q : v16 = 0
              · have hf := xip q hf
                have hf := xsj hf
                subst hf
                exact ⟨fun a' e => (by have h9 := Sum.inl.inj e; subst h9; exact hm), fun b e => xnc1 e⟩
              · have hf := xin q hf
                obtain ⟨z18, e17, hf⟩ := xbd hf
                obtain ⟨v20, e19, hf⟩ := xbd hf
                obtain ⟨σ22, e21, hf⟩ := xbd hf
                have hm := hm.tr (xsI_same e21)
                obtain ⟨z24, e23, hf⟩ := xbd hf
                obtain ⟨v26, e25, hf⟩ := xbd hf
                obtain ⟨v28, e27, hf⟩ := xbd hf
                obtain ⟨σ30, e29, hf⟩ := xbd hf
                have hm := hm.tr (xsI_same e29)
                obtain ⟨v32, e31, hf⟩ := xbd hf
                obtain ⟨σ34, e33, hf⟩ := xbd hf
                have hm := hm.tr (xpI_same e33)
                obtain ⟨v36, e35, hf⟩ := xbd hf
                obtain ⟨σ38, e37, hf⟩ := xbd hf
                have hm := hm.tr (xpI_same e37)
                have hf := xsj hf
                subst hf
                exact ⟨fun a' e => (by have h9 := Sum.inl.inj e; subst h9; exact hm), fun b e => xnc1 e⟩
  cases y with
  | inl a' =>
    have h1 := hc a' rfl
    have hm := hy.1 a' rfl
    exact hm.tr (h1)
  | inr b =>
    have h1 := he b rfl
    subst h1
    exact hy.2 _ rfl
theorem s_X2_seeLowerMates_l13 {G : XG} (C : XC G cX2_seeLowerMates RX2 none 7 1 21) {r0 : Nat} {r1 : Nat} {r2 : Nat} {x3 : Int32} {a : Int32 × XS} {x : XS} (hf : xloop (f_X2_seeLowerMates_b13 r0 r1 r2 x3) a = some x) (hk : XEnd G none x) : WW G 13 [(0, .ref (gB G + r0)), (1, .ref (gB G + r1)), (2, .ref (gB G + r2)), (3, .int x3), (4, .int a.1)] [] a.2 := by
  refine xloop_ind (P := fun a => WW G 13 [(0, .ref (gB G + r0)), (1, .ref (gB G + r1)), (2, .ref (gB G + r2)), (3, .int x3), (4, .int a.1)] [] a.2) (fun a y hf hc he => ?_) hf
  obtain ⟨x4, σ⟩ := a
  have hk : (∀ a' : Int32 × XS, y = .inl a' → WW G 13 [(0, .ref (gB G + r0)), (1, .ref (gB G + r1)), (2, .ref (gB G + r2)), (3, .int x3), (4, .int a'.1)] [] a'.2) ∧ (∀ b1 : XS, y = .inr b1 → XEnd G none b1) := ⟨hc, fun b e => by have h9 := he b e; subst h9; exact hk⟩
  refine ww_iload (pc := 13) C 4 dX2_seeLowerMates_13 rfl ?_
  refine ww_iconst (pc := 15) (v := (4 : Int32)) C dX2_seeLowerMates_15 (by decide) ?_
  refine ww_icmp_ge (pc := 16) (tgt := 134) C dX2_seeLowerMates_16 (by decide) (fun q => ?_) (fun q => ?_)
  · have hf := xip q hf
    obtain ⟨b0, hg, e9⟩ := xmj hf
    subst e9
    have hf := hg
    have hk := hk.2 _ rfl
    have hf := xsj hf
    subst hf
    exact ww_vret (pc := 134) C hk dX2_seeLowerMates_134
  · have hf := xin q hf
    refine ww_iload (pc := 19) C 4 dX2_seeLowerMates_19 rfl ?_
    refine ww_aload_n (pc := 21) C 1 dX2_seeLowerMates_21 rfl ?_
    obtain ⟨z2, e1, hf⟩ := xbd hf
    refine gf_X2_43 (pc := 22) C e1 dX2_seeLowerMates_22 ?_
    refine ww_iload_n (pc := 25) C 3 dX2_seeLowerMates_25 rfl ?_
    obtain ⟨v4, e3, hf⟩ := xbd hf
    refine ww_iald (pc := 26) C e3 dX2_seeLowerMates_26 ?_
    refine ww_icmp_ge (pc := 27) (tgt := 134) C dX2_seeLowerMates_27 (by decide) (fun q => ?_) (fun q => ?_)
    · have hf := xip q hf
      obtain ⟨b0, hg, e9⟩ := xmj hf
      subst e9
      have hf := hg
      have hk := hk.2 _ rfl
      have hf := xsj hf
      subst hf
      exact ww_vret (pc := 134) C hk dX2_seeLowerMates_134
    · have hf := xin q hf
      refine ww_aload_n (pc := 30) C 1 dX2_seeLowerMates_30 rfl ?_
      obtain ⟨z6, e5, hf⟩ := xbd hf
      refine gf_X2_48 (pc := 31) C e5 dX2_seeLowerMates_31 ?_
      refine ww_iconst (pc := 34) (v := (4 : Int32)) C dX2_seeLowerMates_34 (by decide) ?_
      refine ww_iload_n (pc := 35) C 3 dX2_seeLowerMates_35 rfl ?_
      refine ww_imul (pc := 36) C dX2_seeLowerMates_36 ?_
      refine ww_iload (pc := 37) C 4 dX2_seeLowerMates_37 rfl ?_
      refine ww_iadd (pc := 39) C dX2_seeLowerMates_39 ?_
      obtain ⟨v8, e7, hf⟩ := xbd hf
      refine ww_iald (pc := 40) C e7 dX2_seeLowerMates_40 ?_
      refine ww_istore (pc := 41) (lv' := [(5, .int v8), (0, .ref (gB G + r0)), (1, .ref (gB G + r1)), (2, .ref (gB G + r2)), (3, .int x3), (4, .int x4)]) C dX2_seeLowerMates_41 (by decide) rfl ?_
      refine ww_aload_n (pc := 43) C 2 dX2_seeLowerMates_43 rfl ?_
      obtain ⟨z10, e9, hf⟩ := xbd hf
      refine gf_X2_51 (pc := 44) C e9 dX2_seeLowerMates_44 ?_
      refine ww_iconst (pc := 47) (v := (4 : Int32)) C dX2_seeLowerMates_47 (by decide) ?_
      refine ww_iload_n (pc := 48) C 4 dX2_seeLowerMates_48 rfl ?_
      refine ww_imul (pc := 49) C dX2_seeLowerMates_49 ?_
      refine ww_iload (pc := 50) C 5 dX2_seeLowerMates_50 rfl ?_
      refine ww_iadd (pc := 52) C dX2_seeLowerMates_52 ?_
      obtain ⟨v12, e11, hf⟩ := xbd hf
      refine ww_iald (pc := 53) C e11 dX2_seeLowerMates_53 ?_
      refine ww_istore (pc := 54) (lv' := [(6, .int v12), (5, .int v8), (0, .ref (gB G + r0)), (1, .ref (gB G + r1)), (2, .ref (gB G + r2)), (3, .int x3), (4, .int x4)]) C dX2_seeLowerMates_54 (by decide) rfl ?_
      refine ww_iload (pc := 56) C 1 dX2_seeLowerMates_56 rfl ?_
      refine ww_iload_n (pc := 58) C 5 dX2_seeLowerMates_58 rfl ?_
      refine ww_icmp_ge (pc := 59) (tgt := 128) C dX2_seeLowerMates_59 (by decide) (fun q => ?_) (fun q => ?_)
      · have hf := xip q hf
        refine ww_iinc (pc := 128) (v := x4 + (1 : Int32)) (lv' := [(4, .int (x4 + (1 : Int32))), (6, .int v12), (5, .int v8), (0, .ref (gB G + r0)), (1, .ref (gB G + r1)), (2, .ref (gB G + r2)), (3, .int x3)]) C 6 dX2_seeLowerMates_128 rfl (congrArg (fun z => x4 + z) (show Int32.ofInt (1) = (1 : Int32) by decide)) (by decide) rfl ?_
        refine ww_goto (pc := 131) (tgt := 13) C dX2_seeLowerMates_131 (by decide) ?_
        have hf := xsj hf
        subst hf
        refine ww_sub [3, 4, 5, 6, 0] rfl ?_
        exact hk.1 (x4 + (1 : Int32), σ) rfl
      · have hf := xin q hf
        refine ww_iload (pc := 62) C 0 dX2_seeLowerMates_62 rfl ?_
        refine ww_if_lt (pc := 64) (tgt := 128) C dX2_seeLowerMates_64 (by decide) (fun q => ?_) (fun q => ?_)
        · have hf := xip q hf
          refine ww_iinc (pc := 128) (v := x4 + (1 : Int32)) (lv' := [(4, .int (x4 + (1 : Int32))), (6, .int v12), (5, .int v8), (0, .ref (gB G + r0)), (1, .ref (gB G + r1)), (2, .ref (gB G + r2)), (3, .int x3)]) C 6 dX2_seeLowerMates_128 rfl (congrArg (fun z => x4 + z) (show Int32.ofInt (1) = (1 : Int32) by decide)) (by decide) rfl ?_
          refine ww_goto (pc := 131) (tgt := 13) C dX2_seeLowerMates_131 (by decide) ?_
          have hf := xsj hf
          subst hf
          refine ww_sub [3, 4, 5, 6, 0] rfl ?_
          exact hk.1 (x4 + (1 : Int32), σ) rfl
        · have hf := xin q hf
          refine ww_iload (pc := 67) C 0 dX2_seeLowerMates_67 rfl ?_
          refine ww_aload_n (pc := 69) C 4 dX2_seeLowerMates_69 rfl ?_
          obtain ⟨v14, e13, hf⟩ := xbd hf
          refine ww_alen (pc := 70) C e13 dX2_seeLowerMates_70 ?_
          refine ww_icmp_ge (pc := 71) (tgt := 128) C dX2_seeLowerMates_71 (by decide) (fun q => ?_) (fun q => ?_)
          · have hf := xip q hf
            refine ww_iinc (pc := 128) (v := x4 + (1 : Int32)) (lv' := [(4, .int (x4 + (1 : Int32))), (6, .int v12), (5, .int v8), (0, .ref (gB G + r0)), (1, .ref (gB G + r1)), (2, .ref (gB G + r2)), (3, .int x3)]) C 6 dX2_seeLowerMates_128 rfl (congrArg (fun z => x4 + z) (show Int32.ofInt (1) = (1 : Int32) by decide)) (by decide) rfl ?_
            refine ww_goto (pc := 131) (tgt := 13) C dX2_seeLowerMates_131 (by decide) ?_
            have hf := xsj hf
            subst hf
            refine ww_sub [3, 4, 5, 6, 0] rfl ?_
            exact hk.1 (x4 + (1 : Int32), σ) rfl
          · have hf := xin q hf
            refine ww_aload_n (pc := 74) C 4 dX2_seeLowerMates_74 rfl ?_
            refine ww_iload (pc := 75) C 0 dX2_seeLowerMates_75 rfl ?_
            obtain ⟨v16, e15, hf⟩ := xbd hf
            refine ww_iald (pc := 77) C e15 dX2_seeLowerMates_77 ?_
            refine ww_if_eq (pc := 78) (tgt := 128) C dX2_seeLowerMates_78 (by decide) (fun q => ?_) (fun q => ?_)
            · have hf := xip q hf
              refine ww_iinc (pc := 128) (v := x4 + (1 : Int32)) (lv' := [(4, .int (x4 + (1 : Int32))), (6, .int v12), (5, .int v8), (0, .ref (gB G + r0)), (1, .ref (gB G + r1)), (2, .ref (gB G + r2)), (3, .int x3)]) C 6 dX2_seeLowerMates_128 rfl (congrArg (fun z => x4 + z) (show Int32.ofInt (1) = (1 : Int32) by decide)) (by decide) rfl ?_
              refine ww_goto (pc := 131) (tgt := 13) C dX2_seeLowerMates_131 (by decide) ?_
              have hf := xsj hf
              subst hf
              refine ww_sub [3, 4, 5, 6, 0] rfl ?_
              exact hk.1 (x4 + (1 : Int32), σ) rfl
            · have hf := xin q hf
              refine ww_aload_n (pc := 81) C 2 dX2_seeLowerMates_81 rfl ?_
              obtain ⟨z18, e17, hf⟩ := xbd hf
              refine gf_X2_9 (pc := 82) C e17 dX2_seeLowerMates_82 ?_
              refine ww_aload_n (pc := 85) C 2 dX2_seeLowerMates_85 rfl ?_
              obtain ⟨v20, e19, hf⟩ := xbd hf
              refine gf_X2_37 (pc := 86) C e19 dX2_seeLowerMates_86 ?_
              refine ww_iload (pc := 89) C 1 dX2_seeLowerMates_89 rfl ?_
              obtain ⟨σ22, e21, hf⟩ := xbd hf
              refine ww_iast (pc := 91) C e21 dX2_seeLowerMates_91 ?_
              refine ww_aload_n (pc := 92) C 2 dX2_seeLowerMates_92 rfl ?_
              obtain ⟨z24, e23, hf⟩ := xbd hf
              refine gf_X2_15 (pc := 93) C e23 dX2_seeLowerMates_93 ?_
              refine ww_aload_n (pc := 96) C 2 dX2_seeLowerMates_96 rfl ?_
              obtain ⟨v26, e25, hf⟩ := xbd hf
              refine gf_X2_37 (pc := 97) C e25 dX2_seeLowerMates_97 ?_
              refine ww_aload_n (pc := 100) C 4 dX2_seeLowerMates_100 rfl ?_
              refine ww_iload (pc := 101) C 0 dX2_seeLowerMates_101 rfl ?_
              obtain ⟨v28, e27, hf⟩ := xbd hf
              refine ww_iald (pc := 103) C e27 dX2_seeLowerMates_103 ?_
              obtain ⟨σ30, e29, hf⟩ := xbd hf
              refine ww_iast (pc := 104) C e29 dX2_seeLowerMates_104 ?_
              refine ww_aload_n (pc := 105) C 2 dX2_seeLowerMates_105 rfl ?_
              refine ww_dup (pc := 106) C dX2_seeLowerMates_106 rfl ?_
              obtain ⟨v32, e31, hf⟩ := xbd hf
              refine gf_X2_37 (pc := 107) C e31 dX2_seeLowerMates_107 ?_
              refine ww_iconst (pc := 110) (v := (1 : Int32)) C dX2_seeLowerMates_110 (by decide) ?_
              refine ww_iadd (pc := 111) C dX2_seeLowerMates_111 ?_
              obtain ⟨σ34, e33, hf⟩ := xbd hf
              refine pf_X2_37 (pc := 112) C e33 dX2_seeLowerMates_112 ?_
              refine ww_aload_n (pc := 115) C 2 dX2_seeLowerMates_115 rfl ?_
              refine ww_aload_n (pc := 116) C 2 dX2_seeLowerMates_116 rfl ?_
              obtain ⟨v36, e35, hf⟩ := xbd hf
              refine gf_X2_40 (pc := 117) C e35 dX2_seeLowerMates_117 ?_
              refine ww_iload (pc := 120) C 1 dX2_seeLowerMates_120 rfl ?_
              refine ww_mmin (pc := 122) C q860 q718 q20 qm_mmin ⟨by decide, Nat.le_trans (Nat.add_le_add_right (xst4 (Nat.le_of_ble_eq_true rfl)) 13) (by decide)⟩ dX2_seeLowerMates_122 ?_
              obtain ⟨σ38, e37, hf⟩ := xbd hf
              refine pf_X2_40 (pc := 125) C e37 dX2_seeLowerMates_125 ?_
              refine ww_iinc (pc := 128) (v := x4 + (1 : Int32)) (lv' := [(4, .int (x4 + (1 : Int32))), (6, .int v12), (5, .int v8), (0, .ref (gB G + r0)), (1, .ref (gB G + r1)), (2, .ref (gB G + r2)), (3, .int x3)]) C 6 dX2_seeLowerMates_128 rfl (congrArg (fun z => x4 + z) (show Int32.ofInt (1) = (1 : Int32) by decide)) (by decide) rfl ?_
              refine ww_goto (pc := 131) (tgt := 13) C dX2_seeLowerMates_131 (by decide) ?_
              have hf := xsj hf
              subst hf
              refine ww_sub [3, 4, 5, 6, 0] rfl ?_
              exact hk.1 (x4 + (1 : Int32), σ38) rfl
theorem s_X2_seeLowerMates_e {G : XG} (C : XC G cX2_seeLowerMates RX2 none 7 1 21) {σ : XS} {r0 : Nat} {r1 : Nat} {r2 : Nat} {x3 : Int32} {x : XS} (hf : f_X2_seeLowerMates σ r0 r1 r2 x3 = some x) (hk : XEnd G none x) : WW G 0 [(0, .ref (gB G + r0)), (1, .ref (gB G + r1)), (2, .ref (gB G + r2)), (3, .int x3)] [] σ := by
  refine ww_aload_n (pc := 0) C 0 dX2_seeLowerMates_0 rfl ?_
  refine ww_iconst (pc := 1) (v := (0 : Int32)) C dX2_seeLowerMates_1 (by decide) ?_
  obtain ⟨σ2, e1, hf⟩ := xbd hf
  refine pf_X2_37 (pc := 2) C e1 dX2_seeLowerMates_2 ?_
  refine ww_aload_n (pc := 5) C 0 dX2_seeLowerMates_5 rfl ?_
  refine ww_iload_n (pc := 6) C 3 dX2_seeLowerMates_6 rfl ?_
  obtain ⟨σ4, e3, hf⟩ := xbd hf
  refine pf_X2_40 (pc := 7) C e3 dX2_seeLowerMates_7 ?_
  refine ww_iconst (pc := 10) (v := (0 : Int32)) C dX2_seeLowerMates_10 (by decide) ?_
  refine ww_istore (pc := 11) (lv' := [(4, .int (0 : Int32)), (0, .ref (gB G + r0)), (1, .ref (gB G + r1)), (2, .ref (gB G + r2)), (3, .int x3)]) C dX2_seeLowerMates_11 (by decide) rfl ?_
  refine ww_sub [1, 2, 3, 4, 0] rfl ?_
  exact s_X2_seeLowerMates_l13 C (a := ((0 : Int32), σ4)) hf hk
theorem m_X2_seeLowerMates {σ : XS} {r0 : Nat} {r1 : Nat} {r2 : Nat} {x3 : Int32} {x : XS} (hf : f_X2_seeLowerMates σ r0 r1 r2 x3 = some x) : xsame σ x := by
  have hm := xsame.rf (σ := σ)
  obtain ⟨σ2, e1, hf⟩ := xbd hf
  have hm := hm.tr (xpI_same e1)
  obtain ⟨σ4, e3, hf⟩ := xbd hf
  have hm := hm.tr (xpI_same e3)
  exact hm.tr (m_X2_seeLowerMates_l13 (a := ((0 : Int32), σ4)) hf)
theorem k_X2_seeLowerMates {l : Launch} {E : XD} {hb : Nat} {σ : XS} {r0 : Nat} {r1 : Nat} {r2 : Nat} {x3 : Int32} {x : XS} (h : f_X2_seeLowerMates σ r0 r1 r2 x3 = some x) : XM l yX2_seeLowerMates cX2_seeLowerMates 7 none 1 21 E hb [.ref (hb + r0), .ref (hb + r1), .ref (hb + r2), .int x3] σ none x := by
  refine xm_of (by decide) (Nat.le_of_ble_eq_true rfl) (m_X2_seeLowerMates h).le (fun G hG C hl hQ => ?_)
  obtain ⟨rfl, rfl, rfl, hN⟩ := hG
  exact s_X2_seeLowerMates_e C h hQ
noncomputable def f_X2_pulledByMates_b4 (σ : XS) (r0 : Nat) (x1 : Int32) : Int32 × Int32 → Option ((Int32 × Int32) ⊕ (Int32)) := fun a => match a with
  | (x2, x3) => (xgI σ r0 2 2).bind fun v2 => if v2 ≤ x3 then ((some x2).map .inr) else if (4 : Int32) ≤ x3 then ((some x2).map .inr) else (xgR σ r0 2 0).bind fun z4 => (xaI σ 20 z4 x3).bind fun v6 => if ((x1 >>> (v6 &&& 31)) &&& (1 : Int32)) = (1 : Int32) then ((xgR σ r0 2 1).bind fun z8 => (xaI σ 20 z8 x3).bind fun v10 => some (.inl (x2 + v10, x3 + (1 : Int32)))) else (xgR σ r0 2 1).bind fun z8 => (xaI σ 20 z8 x3).bind fun v10 => some (.inl (x2 + (-v10), x3 + (1 : Int32)))
noncomputable def f_X2_pulledByMates (σ : XS) (r0 : Nat) (x1 : Int32) : Option Int32 := xloop (f_X2_pulledByMates_b4 σ r0 x1) ((0 : Int32), (0 : Int32))
theorem s_X2_pulledByMates_l4 {G : XG} (C : XC G cX2_pulledByMates RX2 (some .int) 4 0 0) {σ : XS} {r0 : Nat} {x1 : Int32} {a : Int32 × Int32} {x : Int32} (hf : xloop (f_X2_pulledByMates_b4 σ r0 x1) a = some x) (hk : XEnd G (some (.int x)) σ) : WW G 4 [(0, .ref (gB G + r0)), (1, .int x1), (2, .int a.1), (3, .int a.2)] [] σ := by
  refine xloop_ind (P := fun a => WW G 4 [(0, .ref (gB G + r0)), (1, .int x1), (2, .int a.1), (3, .int a.2)] [] σ) (fun a y hf hc he => ?_) hf
  obtain ⟨x2, x3⟩ := a
  have hk : (∀ a' : Int32 × Int32, y = .inl a' → WW G 4 [(0, .ref (gB G + r0)), (1, .int x1), (2, .int a'.1), (3, .int a'.2)] [] σ) ∧ (∀ b1 : Int32, y = .inr b1 → XEnd G (some (.int b1)) σ) := ⟨hc, fun b e => by have h9 := he b e; subst h9; exact hk⟩
  refine ww_iload_n (pc := 4) C 3 dX2_pulledByMates_4 rfl ?_
  refine ww_aload_n (pc := 5) C 0 dX2_pulledByMates_5 rfl ?_
  obtain ⟨v2, e1, hf⟩ := xbd hf
  refine gf_X2_37 (pc := 6) C e1 dX2_pulledByMates_6 ?_
  refine ww_icmp_ge (pc := 9) (tgt := 56) C dX2_pulledByMates_9 (by decide) (fun q => ?_) (fun q => ?_)
  · have hf := xip q hf
    obtain ⟨b0, hg, e9⟩ := xmj hf
    subst e9
    have hf := hg
    have hk := hk.2 _ rfl
    refine ww_iload_n (pc := 56) C 2 dX2_pulledByMates_56 rfl ?_
    have hf := xsj hf
    subst hf
    exact ww_iret (pc := 57) C hk dX2_pulledByMates_57
  · have hf := xin q hf
    refine ww_iload_n (pc := 12) C 3 dX2_pulledByMates_12 rfl ?_
    refine ww_iconst (pc := 13) (v := (4 : Int32)) C dX2_pulledByMates_13 (by decide) ?_
    refine ww_icmp_ge (pc := 14) (tgt := 56) C dX2_pulledByMates_14 (by decide) (fun q => ?_) (fun q => ?_)
    · have hf := xip q hf
      obtain ⟨b0, hg, e9⟩ := xmj hf
      subst e9
      have hf := hg
      have hk := hk.2 _ rfl
      refine ww_iload_n (pc := 56) C 2 dX2_pulledByMates_56 rfl ?_
      have hf := xsj hf
      subst hf
      exact ww_iret (pc := 57) C hk dX2_pulledByMates_57
    · have hf := xin q hf
      refine ww_iload_n (pc := 17) C 2 dX2_pulledByMates_17 rfl ?_
      refine ww_iload_n (pc := 18) C 1 dX2_pulledByMates_18 rfl ?_
      refine ww_aload_n (pc := 19) C 0 dX2_pulledByMates_19 rfl ?_
      obtain ⟨z4, e3, hf⟩ := xbd hf
      refine gf_X2_9 (pc := 20) C e3 dX2_pulledByMates_20 ?_
      refine ww_iload_n (pc := 23) C 3 dX2_pulledByMates_23 rfl ?_
      obtain ⟨v6, e5, hf⟩ := xbd hf
      refine ww_iald (pc := 24) C e5 dX2_pulledByMates_24 ?_
      refine ww_ishr (pc := 25) C dX2_pulledByMates_25 ?_
      refine ww_iconst (pc := 26) (v := (1 : Int32)) C dX2_pulledByMates_26 (by decide) ?_
      refine ww_iand (pc := 27) C dX2_pulledByMates_27 ?_
      refine ww_iconst (pc := 28) (v := (1 : Int32)) C dX2_pulledByMates_28 (by decide) ?_
      refine ww_icmp_ne (pc := 29) (tgt := 41) C dX2_pulledByMates_29 (by decide) (fun q => ?_) (fun q => ?_)
      · have hf := xin q hf
        refine ww_aload_n (pc := 41) C 0 dX2_pulledByMates_41 rfl ?_
        obtain ⟨z8, e7, hf⟩ := xbd hf
        refine gf_X2_15 (pc := 42) C e7 dX2_pulledByMates_42 ?_
        refine ww_iload_n (pc := 45) C 3 dX2_pulledByMates_45 rfl ?_
        obtain ⟨v10, e9, hf⟩ := xbd hf
        refine ww_iald (pc := 46) C e9 dX2_pulledByMates_46 ?_
        refine ww_ineg (pc := 47) C dX2_pulledByMates_47 ?_
        refine ww_iadd (pc := 48) C dX2_pulledByMates_48 ?_
        refine ww_istore_n (pc := 49) (lv' := [(2, .int (x2 + (-v10))), (0, .ref (gB G + r0)), (1, .int x1), (3, .int x3)]) C dX2_pulledByMates_49 (by decide) rfl ?_
        refine ww_iinc (pc := 50) (v := x3 + (1 : Int32)) (lv' := [(3, .int (x3 + (1 : Int32))), (2, .int (x2 + (-v10))), (0, .ref (gB G + r0)), (1, .int x1)]) C 3 dX2_pulledByMates_50 rfl (congrArg (fun z => x3 + z) (show Int32.ofInt (1) = (1 : Int32) by decide)) (by decide) rfl ?_
        refine ww_goto (pc := 53) (tgt := 4) C dX2_pulledByMates_53 (by decide) ?_
        have hf := xsj hf
        subst hf
        refine ww_sub [2, 3, 1, 0] rfl ?_
        exact hk.1 (x2 + (-v10), x3 + (1 : Int32)) rfl
      · have hf := xip q hf
        refine ww_aload_n (pc := 32) C 0 dX2_pulledByMates_32 rfl ?_
        obtain ⟨z8, e7, hf⟩ := xbd hf
        refine gf_X2_15 (pc := 33) C e7 dX2_pulledByMates_33 ?_
        refine ww_iload_n (pc := 36) C 3 dX2_pulledByMates_36 rfl ?_
        obtain ⟨v10, e9, hf⟩ := xbd hf
        refine ww_iald (pc := 37) C e9 dX2_pulledByMates_37 ?_
        refine ww_goto (pc := 38) (tgt := 48) C dX2_pulledByMates_38 (by decide) ?_
        refine ww_iadd (pc := 48) C dX2_pulledByMates_48 ?_
        refine ww_istore_n (pc := 49) (lv' := [(2, .int (x2 + v10)), (0, .ref (gB G + r0)), (1, .int x1), (3, .int x3)]) C dX2_pulledByMates_49 (by decide) rfl ?_
        refine ww_iinc (pc := 50) (v := x3 + (1 : Int32)) (lv' := [(3, .int (x3 + (1 : Int32))), (2, .int (x2 + v10)), (0, .ref (gB G + r0)), (1, .int x1)]) C 3 dX2_pulledByMates_50 rfl (congrArg (fun z => x3 + z) (show Int32.ofInt (1) = (1 : Int32) by decide)) (by decide) rfl ?_
        refine ww_goto (pc := 53) (tgt := 4) C dX2_pulledByMates_53 (by decide) ?_
        have hf := xsj hf
        subst hf
        refine ww_sub [2, 3, 1, 0] rfl ?_
        exact hk.1 (x2 + v10, x3 + (1 : Int32)) rfl
theorem s_X2_pulledByMates_e {G : XG} (C : XC G cX2_pulledByMates RX2 (some .int) 4 0 0) {σ : XS} {r0 : Nat} {x1 : Int32} {x : Int32} (hf : f_X2_pulledByMates σ r0 x1 = some x) (hk : XEnd G (some (.int x)) σ) : WW G 0 [(0, .ref (gB G + r0)), (1, .int x1)] [] σ := by
  refine ww_iconst (pc := 0) (v := (0 : Int32)) C dX2_pulledByMates_0 (by decide) ?_
  refine ww_istore_n (pc := 1) (lv' := [(2, .int (0 : Int32)), (0, .ref (gB G + r0)), (1, .int x1)]) C dX2_pulledByMates_1 (by decide) rfl ?_
  refine ww_iconst (pc := 2) (v := (0 : Int32)) C dX2_pulledByMates_2 (by decide) ?_
  refine ww_istore_n (pc := 3) (lv' := [(3, .int (0 : Int32)), (2, .int (0 : Int32)), (0, .ref (gB G + r0)), (1, .int x1)]) C dX2_pulledByMates_3 (by decide) rfl ?_
  refine ww_sub [2, 3, 1, 0] rfl ?_
  exact s_X2_pulledByMates_l4 C (a := ((0 : Int32), (0 : Int32))) hf hk
theorem k_X2_pulledByMates {l : Launch} {E : XD} {hb : Nat} {σ : XS} {r0 : Nat} {x1 : Int32} {x : Int32} (h : f_X2_pulledByMates σ r0 x1 = some x) : XM l yX2_pulledByMates cX2_pulledByMates 4 (some .int) 0 0 E hb [.ref (hb + r0), .int x1] σ (some (.int x)) σ := by
  refine xm_of (by decide) (Nat.le_of_ble_eq_true rfl) ⟨Nat.le_refl _, Nat.le_refl _⟩ (fun G hG C hl hQ => ?_)
  obtain ⟨rfl, rfl, rfl, hN⟩ := hG
  exact s_X2_pulledByMates_e C h hQ
noncomputable def f_X2_addSite_b35 (r0 : Nat) (x2 : Int32) (x3 : Int32) (x4 : Int32) (x5 : Int32) (x6 : Int32) : Int32 × XS → Option ((Int32 × XS) ⊕ ((Int32 × XS) ⊕ (XS))) := fun a => match a with
  | (x7, σ) => if (x5 + x4) ≤ x7 then ((some (.inl (x5 + x4, σ))).map .inr) else (xgR σ r0 2 4).bind fun z2 => (xal σ z2).bind fun v4 => if v4 ≤ (x3 + x7) then ((some (.inl (x5 + x4, σ))).map .inr) else (xgR σ r0 2 4).bind fun z6 => (xgR σ r0 2 4).bind fun z8 => (xaI σ 20 z8 x7).bind fun v10 => (xsI σ 20 z6 (x3 + x7) (v10 - x6)).bind fun σ12 => (xgR σ12 r0 2 4).bind fun z14 => (xaI σ12 20 z14 x7).bind fun v16 => (xsI σ12 20 z14 x7 (v16 + x6)).bind fun σ18 => some (.inl (x7 + (1 : Int32), σ18))
noncomputable def f_X2_addSite_b15 (r0 : Nat) (x2 : Int32) (x3 : Int32) (x4 : Int32) : Int32 × XS → Option ((Int32 × XS) ⊕ (XS)) := fun a => match a with
  | (x5, σ) => if x3 ≤ x5 then ((some σ).map .inr) else (xck σ r0 2).bind fun _ => (f_X2_pulledByMates σ r0 x5).bind fun v3 => xloop (f_X2_addSite_b35 r0 x2 x3 x4 x5 (x2 + v3)) (x5, σ)
noncomputable def f_X2_addSite (σ : XS) (r0 : Nat) (x1 : Int32) (x2 : Int32) : Option XS := (xgI σ r0 2 3).bind fun v2 => xloop (f_X2_addSite_b15 r0 x2 ((1 : Int32) <<< (x1 &&& 31)) ((1 : Int32) <<< (v2 &&& 31))) ((0 : Int32), σ)
theorem m_X2_addSite_l35 {r0 : Nat} {x2 : Int32} {x3 : Int32} {x4 : Int32} {x5 : Int32} {x6 : Int32} {a : Int32 × XS} {x : ((Int32 × XS) ⊕ (XS))} (hf : xloop (f_X2_addSite_b35 r0 x2 x3 x4 x5 x6) a = some x) : (∀ a' : Int32 × XS, x = .inl a' → xsame a.2 a'.2) ∧ (∀ b1 : XS, x = .inr b1 → xsame a.2 b1) := by
  refine xloop_ind (P := fun a => (∀ a' : Int32 × XS, x = .inl a' → xsame a.2 a'.2) ∧ (∀ b1 : XS, x = .inr b1 → xsame a.2 b1)) (fun a y hf hc he => ?_) hf
  obtain ⟨x7, σ⟩ := a
  have hy : (∀ a' : Int32 × XS, y = .inl a' → xsame σ a'.2) ∧ (∀ b2 : ((Int32 × XS) ⊕ (XS)), y = .inr b2 → (∀ a' : Int32 × XS, b2 = .inl a' → xsame σ a'.2) ∧ (∀ b1 : XS, b2 = .inr b1 → xsame σ b1)) := by
    have hm := xsame.rf (σ := σ)
    by_cases q : (x5 + x4) ≤ x7
    · have hf := xip q hf
      obtain ⟨b0, hg, e9⟩ := xmj hf
      subst e9
      have hf := hg
      refine ⟨fun a' e => xnc2 e, fun b e => ?_⟩
      have h9 := Sum.inr.inj e
      subst h9
      have hf := xsj hf
      subst hf
      exact ⟨fun a' e => (by have h9 := Sum.inl.inj e; subst h9; exact hm), fun b e => xnc1 e⟩
    · have hf := xin q hf
      obtain ⟨z2, e1, hf⟩ := xbd hf
      obtain ⟨v4, e3, hf⟩ := xbd hf
      by_cases q : v4 ≤ (x3 + x7)
      · have hf := xip q hf
        obtain ⟨b0, hg, e9⟩ := xmj hf
        subst e9
        have hf := hg
        refine ⟨fun a' e => xnc2 e, fun b e => ?_⟩
        have h9 := Sum.inr.inj e
        subst h9
        have hf := xsj hf
        subst hf
        exact ⟨fun a' e => (by have h9 := Sum.inl.inj e; subst h9; exact hm), fun b e => xnc1 e⟩
      · have hf := xin q hf
        obtain ⟨z6, e5, hf⟩ := xbd hf
        obtain ⟨z8, e7, hf⟩ := xbd hf
        obtain ⟨v10, e9, hf⟩ := xbd hf
        obtain ⟨σ12, e11, hf⟩ := xbd hf
        have hm := hm.tr (xsI_same e11)
        obtain ⟨z14, e13, hf⟩ := xbd hf
        obtain ⟨v16, e15, hf⟩ := xbd hf
        obtain ⟨σ18, e17, hf⟩ := xbd hf
        have hm := hm.tr (xsI_same e17)
        have hf := xsj hf
        subst hf
        exact ⟨fun a' e => (by have h9 := Sum.inl.inj e; subst h9; exact hm), fun b e => xnc1 e⟩
  cases y with
  | inl a' =>
    have h1 := hc a' rfl
    have hm := hy.1 a' rfl
    exact ⟨fun a' e => hm.tr ((h1).1 a' e), fun b1 eb1 => hm.tr ((h1).2 b1 eb1)⟩
  | inr b =>
    have h1 := he b rfl
    subst h1
    exact hy.2 _ rfl
theorem s_X2_addSite_l35 {G : XG} (C : XC G cX2_addSite RX2 none 8 1 23) {r0 : Nat} {x2 : Int32} {x3 : Int32} {x4 : Int32} {x5 : Int32} {x6 : Int32} {a : Int32 × XS} {x : ((Int32 × XS) ⊕ (XS))} (hf : xloop (f_X2_addSite_b35 r0 x2 x3 x4 x5 x6) a = some x) (hk : (∀ a' : Int32 × XS, x = .inl a' → WW G 15 [(0, .ref (gB G + r0)), (2, .int x2), (3, .int x3), (4, .int x4), (5, .int a'.1)] [] a'.2) ∧ (∀ b1 : XS, x = .inr b1 → XEnd G none b1)) : WW G 35 [(0, .ref (gB G + r0)), (2, .int x2), (3, .int x3), (4, .int x4), (5, .int x5), (6, .int x6), (7, .int a.1)] [] a.2 := by
  refine xloop_ind (P := fun a => WW G 35 [(0, .ref (gB G + r0)), (2, .int x2), (3, .int x3), (4, .int x4), (5, .int x5), (6, .int x6), (7, .int a.1)] [] a.2) (fun a y hf hc he => ?_) hf
  obtain ⟨x7, σ⟩ := a
  have hk : (∀ a' : Int32 × XS, y = .inl a' → WW G 35 [(0, .ref (gB G + r0)), (2, .int x2), (3, .int x3), (4, .int x4), (5, .int x5), (6, .int x6), (7, .int a'.1)] [] a'.2) ∧ (∀ b2 : ((Int32 × XS) ⊕ (XS)), y = .inr b2 → (∀ a' : Int32 × XS, b2 = .inl a' → WW G 15 [(0, .ref (gB G + r0)), (2, .int x2), (3, .int x3), (4, .int x4), (5, .int a'.1)] [] a'.2) ∧ (∀ b1 : XS, b2 = .inr b1 → XEnd G none b1)) := ⟨hc, fun b e => by have h9 := he b e; subst h9; exact hk⟩
  refine ww_iload (pc := 35) C 6 dX2_addSite_35 rfl ?_
  refine ww_iload (pc := 37) C 4 dX2_addSite_37 rfl ?_
  refine ww_iload (pc := 39) C 3 dX2_addSite_39 rfl ?_
  refine ww_iadd (pc := 41) C dX2_addSite_41 ?_
  refine ww_icmp_ge (pc := 42) (tgt := 94) C dX2_addSite_42 (by decide) (fun q => ?_) (fun q => ?_)
  · have hf := xip q hf
    obtain ⟨b0, hg, e9⟩ := xmj hf
    subst e9
    have hf := hg
    have hk := hk.2 _ rfl
    refine ww_iload (pc := 94) C 4 dX2_addSite_94 rfl ?_
    refine ww_iload (pc := 96) C 3 dX2_addSite_96 rfl ?_
    refine ww_iadd (pc := 98) C dX2_addSite_98 ?_
    refine ww_istore (pc := 99) (lv' := [(5, .int (x5 + x4)), (0, .ref (gB G + r0)), (2, .int x2), (3, .int x3), (4, .int x4), (6, .int x6), (7, .int x7)]) C dX2_addSite_99 (by decide) rfl ?_
    refine ww_goto (pc := 101) (tgt := 15) C dX2_addSite_101 (by decide) ?_
    have hf := xsj hf
    subst hf
    refine ww_sub [1, 2, 3, 4, 0] rfl ?_
    exact hk.1 (x5 + x4, σ) rfl
  · have hf := xin q hf
    refine ww_iload_n (pc := 45) C 2 dX2_addSite_45 rfl ?_
    refine ww_iload (pc := 46) C 6 dX2_addSite_46 rfl ?_
    refine ww_iadd (pc := 48) C dX2_addSite_48 ?_
    refine ww_aload_n (pc := 49) C 0 dX2_addSite_49 rfl ?_
    obtain ⟨z2, e1, hf⟩ := xbd hf
    refine gf_X2_18 (pc := 50) C e1 dX2_addSite_50 ?_
    obtain ⟨v4, e3, hf⟩ := xbd hf
    refine ww_alen (pc := 53) C e3 dX2_addSite_53 ?_
    refine ww_icmp_ge (pc := 54) (tgt := 94) C dX2_addSite_54 (by decide) (fun q => ?_) (fun q => ?_)
    · have hf := xip q hf
      obtain ⟨b0, hg, e9⟩ := xmj hf
      subst e9
      have hf := hg
      have hk := hk.2 _ rfl
      refine ww_iload (pc := 94) C 4 dX2_addSite_94 rfl ?_
      refine ww_iload (pc := 96) C 3 dX2_addSite_96 rfl ?_
      refine ww_iadd (pc := 98) C dX2_addSite_98 ?_
      refine ww_istore (pc := 99) (lv' := [(5, .int (x5 + x4)), (0, .ref (gB G + r0)), (2, .int x2), (3, .int x3), (4, .int x4), (6, .int x6), (7, .int x7)]) C dX2_addSite_99 (by decide) rfl ?_
      refine ww_goto (pc := 101) (tgt := 15) C dX2_addSite_101 (by decide) ?_
      have hf := xsj hf
      subst hf
      refine ww_sub [1, 2, 3, 4, 0] rfl ?_
      exact hk.1 (x5 + x4, σ) rfl
    · have hf := xin q hf
      refine ww_aload_n (pc := 57) C 0 dX2_addSite_57 rfl ?_
      obtain ⟨z6, e5, hf⟩ := xbd hf
      refine gf_X2_18 (pc := 58) C e5 dX2_addSite_58 ?_
      refine ww_iload_n (pc := 61) C 2 dX2_addSite_61 rfl ?_
      refine ww_iload (pc := 62) C 6 dX2_addSite_62 rfl ?_
      refine ww_iadd (pc := 64) C dX2_addSite_64 ?_
      refine ww_aload_n (pc := 65) C 0 dX2_addSite_65 rfl ?_
      obtain ⟨z8, e7, hf⟩ := xbd hf
      refine gf_X2_18 (pc := 66) C e7 dX2_addSite_66 ?_
      refine ww_iload (pc := 69) C 6 dX2_addSite_69 rfl ?_
      obtain ⟨v10, e9, hf⟩ := xbd hf
      refine ww_iald (pc := 71) C e9 dX2_addSite_71 ?_
      refine ww_iload (pc := 72) C 5 dX2_addSite_72 rfl ?_
      refine ww_isub (pc := 74) C dX2_addSite_74 ?_
      obtain ⟨σ12, e11, hf⟩ := xbd hf
      refine ww_iast (pc := 75) C e11 dX2_addSite_75 ?_
      refine ww_aload_n (pc := 76) C 0 dX2_addSite_76 rfl ?_
      obtain ⟨z14, e13, hf⟩ := xbd hf
      refine gf_X2_18 (pc := 77) C e13 dX2_addSite_77 ?_
      refine ww_iload (pc := 80) C 6 dX2_addSite_80 rfl ?_
      refine ww_dup2 (pc := 82) C dX2_addSite_82 rfl rfl ?_
      obtain ⟨v16, e15, hf⟩ := xbd hf
      refine ww_iald (pc := 83) C e15 dX2_addSite_83 ?_
      refine ww_iload (pc := 84) C 5 dX2_addSite_84 rfl ?_
      refine ww_iadd (pc := 86) C dX2_addSite_86 ?_
      obtain ⟨σ18, e17, hf⟩ := xbd hf
      refine ww_iast (pc := 87) C e17 dX2_addSite_87 ?_
      refine ww_iinc (pc := 88) (v := x7 + (1 : Int32)) (lv' := [(7, .int (x7 + (1 : Int32))), (0, .ref (gB G + r0)), (2, .int x2), (3, .int x3), (4, .int x4), (5, .int x5), (6, .int x6)]) C 6 dX2_addSite_88 rfl (congrArg (fun z => x7 + z) (show Int32.ofInt (1) = (1 : Int32) by decide)) (by decide) rfl ?_
      refine ww_goto (pc := 91) (tgt := 35) C dX2_addSite_91 (by decide) ?_
      have hf := xsj hf
      subst hf
      refine ww_sub [1, 2, 3, 4, 5, 6, 0] rfl ?_
      exact hk.1 (x7 + (1 : Int32), σ18) rfl
theorem m_X2_addSite_l15 {r0 : Nat} {x2 : Int32} {x3 : Int32} {x4 : Int32} {a : Int32 × XS} {x : XS} (hf : xloop (f_X2_addSite_b15 r0 x2 x3 x4) a = some x) : xsame a.2 x := by
  refine xloop_ind (P := fun a => xsame a.2 x) (fun a y hf hc he => ?_) hf
  obtain ⟨x5, σ⟩ := a
  have hy : (∀ a' : Int32 × XS, y = .inl a' → xsame σ a'.2) ∧ (∀ b1 : XS, y = .inr b1 → xsame σ b1) := by
    have hm := xsame.rf (σ := σ)
    by_cases q : x3 ≤ x5
    · have hf := xip q hf
      obtain ⟨b0, hg, e9⟩ := xmj hf
      subst e9
      have hf := hg
      refine ⟨fun a' e => xnc2 e, fun b e => ?_⟩
      have h9 := Sum.inr.inj e
      subst h9
      have hf := xsj hf
      subst hf
      exact hm
    · have hf := xin q hf
      obtain ⟨_, e1, hf⟩ := xbd hf
      obtain ⟨v3, e2, hf⟩ := xbd hf
      exact ⟨fun a' e => hm.tr ((m_X2_addSite_l35 (a := (x5, σ)) hf).1 a' e), fun b1 eb1 => hm.tr ((m_X2_addSite_l35 (a := (x5, σ)) hf).2 b1 eb1)⟩
  cases y with
  | inl a' =>
    have h1 := hc a' rfl
    have hm := hy.1 a' rfl
    exact hm.tr (h1)
  | inr b =>
    have h1 := he b rfl
    subst h1
    exact hy.2 _ rfl
theorem s_X2_addSite_l15 {G : XG} (C : XC G cX2_addSite RX2 none 8 1 23) {r0 : Nat} {x2 : Int32} {x3 : Int32} {x4 : Int32} {a : Int32 × XS} {x : XS} (hf : xloop (f_X2_addSite_b15 r0 x2 x3 x4) a = some x) (hk : XEnd G none x) : WW G 15 [(0, .ref (gB G + r0)), (2, .int x2), (3, .int x3), (4, .int x4), (5, .int a.1)] [] a.2 := by
  refine xloop_ind (P := fun a => WW G 15 [(0, .ref (gB G + r0)), (2, .int x2), (3, .int x3), (4, .int x4), (5, .int a.1)] [] a.2) (fun a y hf hc he => ?_) hf
  obtain ⟨x5, σ⟩ := a
  have hk : (∀ a' : Int32 × XS, y = .inl a' → WW G 15 [(0, .ref (gB G + r0)), (2, .int x2), (3, .int x3), (4, .int x4), (5, .int a'.1)] [] a'.2) ∧ (∀ b1 : XS, y = .inr b1 → XEnd G none b1) := ⟨hc, fun b e => by have h9 := he b e; subst h9; exact hk⟩
  refine ww_iload (pc := 15) C 4 dX2_addSite_15 rfl ?_
  refine ww_iload_n (pc := 17) C 2 dX2_addSite_17 rfl ?_
  refine ww_icmp_ge (pc := 18) (tgt := 104) C dX2_addSite_18 (by decide) (fun q => ?_) (fun q => ?_)
  · have hf := xip q hf
    obtain ⟨b0, hg, e9⟩ := xmj hf
    subst e9
    have hf := hg
    have hk := hk.2 _ rfl
    have hf := xsj hf
    subst hf
    exact ww_vret (pc := 104) C hk dX2_addSite_104
  · have hf := xin q hf
    refine ww_iload_n (pc := 21) C 1 dX2_addSite_21 rfl ?_
    refine ww_aload_n (pc := 22) C 0 dX2_addSite_22 rfl ?_
    refine ww_iload (pc := 23) C 4 dX2_addSite_23 rfl ?_
    obtain ⟨_, e1, hf⟩ := xbd hf
    obtain ⟨v3, e2, hf⟩ := xbd hf
    refine ww_callVi (pc := 25) (as := [.int x5]) (st := [.int x2]) C (k_X2_pulledByMates (l := gl G) (E := gE G) (hb := gB G) (σ := σ) e2) rfl (by decide) xc_X2_60 q867 qp61 (xck_spec e1) rfl (by decide) (xst4 (Nat.le_of_ble_eq_true rfl)) xsame.rf.le xsame.rf.lim dX2_addSite_25 ?_
    refine ww_iadd (pc := 28) C dX2_addSite_28 ?_
    refine ww_istore (pc := 29) (lv' := [(6, .int (x2 + v3)), (0, .ref (gB G + r0)), (2, .int x2), (3, .int x3), (4, .int x4), (5, .int x5)]) C dX2_addSite_29 (by decide) rfl ?_
    refine ww_iload (pc := 31) C 5 dX2_addSite_31 rfl ?_
    refine ww_istore (pc := 33) (lv' := [(7, .int x5), (6, .int (x2 + v3)), (0, .ref (gB G + r0)), (2, .int x2), (3, .int x3), (4, .int x4), (5, .int x5)]) C dX2_addSite_33 (by decide) rfl ?_
    refine ww_sub [2, 3, 4, 5, 6, 1, 0] rfl ?_
    exact s_X2_addSite_l35 C (a := (x5, σ)) hf hk
theorem s_X2_addSite_e {G : XG} (C : XC G cX2_addSite RX2 none 8 1 23) {σ : XS} {r0 : Nat} {x1 : Int32} {x2 : Int32} {x : XS} (hf : f_X2_addSite σ r0 x1 x2 = some x) (hk : XEnd G none x) : WW G 0 [(0, .ref (gB G + r0)), (1, .int x1), (2, .int x2)] [] σ := by
  refine ww_iconst (pc := 0) (v := (1 : Int32)) C dX2_addSite_0 (by decide) ?_
  refine ww_iload_n (pc := 1) C 1 dX2_addSite_1 rfl ?_
  refine ww_ishl (pc := 2) C dX2_addSite_2 ?_
  refine ww_istore_n (pc := 3) (lv' := [(3, .int ((1 : Int32) <<< (x1 &&& 31))), (0, .ref (gB G + r0)), (1, .int x1), (2, .int x2)]) C dX2_addSite_3 (by decide) rfl ?_
  refine ww_iconst (pc := 4) (v := (1 : Int32)) C dX2_addSite_4 (by decide) ?_
  refine ww_aload_n (pc := 5) C 1 dX2_addSite_5 rfl ?_
  obtain ⟨v2, e1, hf⟩ := xbd hf
  refine gf_X2_40 (pc := 6) C e1 dX2_addSite_6 ?_
  refine ww_ishl (pc := 9) C dX2_addSite_9 ?_
  refine ww_istore (pc := 10) (lv' := [(4, .int ((1 : Int32) <<< (v2 &&& 31))), (3, .int ((1 : Int32) <<< (x1 &&& 31))), (0, .ref (gB G + r0)), (1, .int x1), (2, .int x2)]) C dX2_addSite_10 (by decide) rfl ?_
  refine ww_iconst (pc := 12) (v := (0 : Int32)) C dX2_addSite_12 (by decide) ?_
  refine ww_istore (pc := 13) (lv' := [(5, .int (0 : Int32)), (4, .int ((1 : Int32) <<< (v2 &&& 31))), (3, .int ((1 : Int32) <<< (x1 &&& 31))), (0, .ref (gB G + r0)), (1, .int x1), (2, .int x2)]) C dX2_addSite_13 (by decide) rfl ?_
  refine ww_sub [3, 5, 2, 1, 0] rfl ?_
  exact s_X2_addSite_l15 C (a := ((0 : Int32), σ)) hf hk
theorem m_X2_addSite {σ : XS} {r0 : Nat} {x1 : Int32} {x2 : Int32} {x : XS} (hf : f_X2_addSite σ r0 x1 x2 = some x) : xsame σ x := by
  have hm := xsame.rf (σ := σ)
  obtain ⟨v2, e1, hf⟩ := xbd hf
  exact hm.tr (m_X2_addSite_l15 (a := ((0 : Int32), σ)) hf)
theorem k_X2_addSite {l : Launch} {E : XD} {hb : Nat} {σ : XS} {r0 : Nat} {x1 : Int32} {x2 : Int32} {x : XS} (h : f_X2_addSite σ r0 x1 x2 = some x) : XM l yX2_addSite cX2_addSite 8 none 1 23 E hb [.ref (hb + r0), .int x1, .int x2] σ none x := by
  refine xm_of (by decide) (Nat.le_of_ble_eq_true rfl) (m_X2_addSite h).le (fun G hG C hl hQ => ?_)
  obtain ⟨rfl, rfl, rfl, hN⟩ := hG
  exact s_X2_addSite_e C h hQ
noncomputable def f_X2_fill_b45 (r0 : Nat) (r1 : Nat) (r2 : Nat) (r3 : Nat) (x4 : Int32) : Int32 × XS → Option ((Int32 × XS) ⊕ (XS)) := fun a => match a with
  | (x5, σ) => if x4 ≤ x5 then ((some σ).map .inr) else (xal σ r3).bind fun v2 => if v2 ≤ x5 then ((some σ).map .inr) else (xck σ r0 2).bind fun _ => (f_X2_seeLowerMates σ r0 r1 r2 x5).bind fun σ5 => (xaI σ5 20 r3 x5).bind fun v7 => (xck σ5 r0 2).bind fun _ => (f_X2_addSite σ5 r0 x5 v7).bind fun σ10 => some (.inl (x5 + (1 : Int32), σ10))
noncomputable def f_X2_fill_j35 (σ : XS) (r0 : Nat) (r1 : Nat) (r2 : Nat) (r3 : Nat) (x4 : Int32) : Option XS := (xgR σ r0 2 4).bind fun z2 => (xsI σ 20 z2 (0 : Int32) (0 : Int32)).bind fun σ4 => xloop (f_X2_fill_b45 r0 r1 r2 r3 x4) ((0 : Int32), σ4)
noncomputable def f_X2_fill_j32 (σ : XS) (r0 : Nat) (r1 : Nat) (r2 : Nat) (r3 : Nat) (x4 : Int32) (t0 : Nat) (t1 : Nat) : Option XS := (xnz t1).bind fun _ => (xpR σ t0 2 4 t1).bind fun σ3 => f_X2_fill_j35 σ3 r0 r1 r2 r3 x4
noncomputable def f_X2_fill (σ : XS) (r0 : Nat) (r1 : Nat) (r2 : Nat) (r3 : Nat) (x4 : Int32) : Option XS := if x4 < 0 then (some σ) else if x4 ≤ (16 : Int32) then ((xgR σ r0 2 4).bind fun z2 => (xal σ z2).bind fun v4 => if ((1 : Int32) <<< (x4 &&& 31)) ≤ v4 then (f_X2_fill_j35 σ r0 r1 r2 r3 x4) else (xnA σ 20 ((1 : Int32) <<< (x4 &&& 31))).bind fun (z6, σ7) => f_X2_fill_j32 σ7 r0 r1 r2 r3 x4 r0 z6) else some σ
theorem m_X2_fill_l45 {r0 : Nat} {r1 : Nat} {r2 : Nat} {r3 : Nat} {x4 : Int32} {a : Int32 × XS} {x : XS} (hf : xloop (f_X2_fill_b45 r0 r1 r2 r3 x4) a = some x) : xext a.2 x := by
  refine xloop_ind (P := fun a => xext a.2 x) (fun a y hf hc he => ?_) hf
  obtain ⟨x5, σ⟩ := a
  have hy : (∀ a' : Int32 × XS, y = .inl a' → xext σ a'.2) ∧ (∀ b1 : XS, y = .inr b1 → xext σ b1) := by
    have hm := xext.rf (σ := σ)
    by_cases q : x4 ≤ x5
    · have hf := xip q hf
      obtain ⟨b0, hg, e9⟩ := xmj hf
      subst e9
      have hf := hg
      refine ⟨fun a' e => xnc2 e, fun b e => ?_⟩
      have h9 := Sum.inr.inj e
      subst h9
      have hf := xsj hf
      subst hf
      exact hm
    · have hf := xin q hf
      obtain ⟨v2, e1, hf⟩ := xbd hf
      by_cases q : v2 ≤ x5
      · have hf := xip q hf
        obtain ⟨b0, hg, e9⟩ := xmj hf
        subst e9
        have hf := hg
        refine ⟨fun a' e => xnc2 e, fun b e => ?_⟩
        have h9 := Sum.inr.inj e
        subst h9
        have hf := xsj hf
        subst hf
        exact hm
      · have hf := xin q hf
        obtain ⟨_, e3, hf⟩ := xbd hf
        obtain ⟨σ5, e4, hf⟩ := xbd hf
        have hm := hm.tr (m_X2_seeLowerMates e4).ext
        obtain ⟨v7, e6, hf⟩ := xbd hf
        obtain ⟨_, e8, hf⟩ := xbd hf
        obtain ⟨σ10, e9, hf⟩ := xbd hf
        have hm := hm.tr (m_X2_addSite e9).ext
        have hf := xsj hf
        subst hf
        exact ⟨fun a' e => (by have h9 := Sum.inl.inj e; subst h9; exact hm), fun b e => xnc1 e⟩
  cases y with
  | inl a' =>
    have h1 := hc a' rfl
    have hm := hy.1 a' rfl
    exact hm.tr (h1)
  | inr b =>
    have h1 := he b rfl
    subst h1
    exact hy.2 _ rfl
theorem s_X2_fill_l45 {G : XG} (C : XC G cX2_fill RX2 none 6 2 50) {r0 : Nat} {r1 : Nat} {r2 : Nat} {r3 : Nat} {x4 : Int32} {a : Int32 × XS} {x : XS} (hf : xloop (f_X2_fill_b45 r0 r1 r2 r3 x4) a = some x) (hk : XEnd G none x ∧ XUp G x) : WW G 45 [(0, .ref (gB G + r0)), (1, .ref (gB G + r1)), (2, .ref (gB G + r2)), (3, .ref (gB G + r3)), (4, .int x4), (5, .int a.1)] [] a.2 := by
  refine xloop_ind (P := fun a => WW G 45 [(0, .ref (gB G + r0)), (1, .ref (gB G + r1)), (2, .ref (gB G + r2)), (3, .ref (gB G + r3)), (4, .int x4), (5, .int a.1)] [] a.2) (fun a y hf hc he => ?_) hf
  obtain ⟨x5, σ⟩ := a
  have hk : (∀ a' : Int32 × XS, y = .inl a' → WW G 45 [(0, .ref (gB G + r0)), (1, .ref (gB G + r1)), (2, .ref (gB G + r2)), (3, .ref (gB G + r3)), (4, .int x4), (5, .int a'.1)] [] a'.2) ∧ (∀ b1 : XS, y = .inr b1 → XEnd G none b1 ∧ XUp G b1) := ⟨hc, fun b e => by have h9 := he b e; subst h9; exact hk⟩
  refine ww_iload (pc := 45) C 5 dX2_fill_45 rfl ?_
  refine ww_iload (pc := 47) C 4 dX2_fill_47 rfl ?_
  refine ww_icmp_ge (pc := 49) (tgt := 83) C dX2_fill_49 (by decide) (fun q => ?_) (fun q => ?_)
  · have hf := xip q hf
    obtain ⟨b0, hg, e9⟩ := xmj hf
    subst e9
    have hf := hg
    have hk := hk.2 _ rfl
    have hf := xsj hf
    subst hf
    exact ww_vret (pc := 83) C hk.1 dX2_fill_83
  · have hf := xin q hf
    refine ww_iload (pc := 52) C 5 dX2_fill_52 rfl ?_
    refine ww_aload_n (pc := 54) C 3 dX2_fill_54 rfl ?_
    obtain ⟨v2, e1, hf⟩ := xbd hf
    refine ww_alen (pc := 55) C e1 dX2_fill_55 ?_
    refine ww_icmp_ge (pc := 56) (tgt := 83) C dX2_fill_56 (by decide) (fun q => ?_) (fun q => ?_)
    · have hf := xip q hf
      obtain ⟨b0, hg, e9⟩ := xmj hf
      subst e9
      have hf := hg
      have hk := hk.2 _ rfl
      have hf := xsj hf
      subst hf
      exact ww_vret (pc := 83) C hk.1 dX2_fill_83
    · have hf := xin q hf
      refine ww_aload_n (pc := 59) C 0 dX2_fill_59 rfl ?_
      refine ww_aload_n (pc := 60) C 1 dX2_fill_60 rfl ?_
      refine ww_aload_n (pc := 61) C 2 dX2_fill_61 rfl ?_
      refine ww_iload (pc := 62) C 5 dX2_fill_62 rfl ?_
      obtain ⟨_, e3, hf⟩ := xbd hf
      obtain ⟨σ5, e4, hf⟩ := xbd hf
      refine ww_callVv (pc := 64) (as := [.ref (gB G + r1), .ref (gB G + r2), .int x5]) (st := []) C (k_X2_seeLowerMates (l := gl G) (E := gE G) (hb := gB G) (σ := σ) e4) rfl (by decide) xc_X2_29 q858 qp59 (xck_spec e3) rfl (by decide) (xst4 (Nat.le_of_ble_eq_true rfl)) (m_X2_seeLowerMates e4).le (m_X2_seeLowerMates e4).lim dX2_fill_64 ?_
      refine ww_aload_n (pc := 67) C 0 dX2_fill_67 rfl ?_
      refine ww_iload (pc := 68) C 5 dX2_fill_68 rfl ?_
      refine ww_aload_n (pc := 70) C 3 dX2_fill_70 rfl ?_
      refine ww_iload (pc := 71) C 5 dX2_fill_71 rfl ?_
      obtain ⟨v7, e6, hf⟩ := xbd hf
      refine ww_iald (pc := 73) C e6 dX2_fill_73 ?_
      obtain ⟨_, e8, hf⟩ := xbd hf
      obtain ⟨σ10, e9, hf⟩ := xbd hf
      refine ww_callVv (pc := 74) (as := [.int x5, .int v7]) (st := []) C (k_X2_addSite (l := gl G) (E := gE G) (hb := gB G) (σ := σ5) e9) rfl (by decide) xc_X2_33 q863 qp60 (xck_spec e8) rfl (by decide) (xst4 (Nat.le_of_ble_eq_true rfl)) (m_X2_addSite e9).le (m_X2_addSite e9).lim dX2_fill_74 ?_
      refine ww_iinc (pc := 77) (v := x5 + (1 : Int32)) (lv' := [(5, .int (x5 + (1 : Int32))), (0, .ref (gB G + r0)), (1, .ref (gB G + r1)), (2, .ref (gB G + r2)), (3, .ref (gB G + r3)), (4, .int x4)]) C 5 dX2_fill_77 rfl (congrArg (fun z => x5 + z) (show Int32.ofInt (1) = (1 : Int32) by decide)) (by decide) rfl ?_
      refine ww_goto (pc := 80) (tgt := 45) C dX2_fill_80 (by decide) ?_
      have hf := xsj hf
      subst hf
      refine ww_sub [1, 2, 3, 4, 5, 0] rfl ?_
      exact hk.1 (x5 + (1 : Int32), σ10) rfl
theorem s_X2_fill_j35 {G : XG} (C : XC G cX2_fill RX2 none 6 2 50) {σ : XS} {r0 : Nat} {r1 : Nat} {r2 : Nat} {r3 : Nat} {x4 : Int32} {x : XS} (hf : f_X2_fill_j35 σ r0 r1 r2 r3 x4 = some x) (hk : XEnd G none x ∧ XUp G x) : WW G 35 [(0, .ref (gB G + r0)), (1, .ref (gB G + r1)), (2, .ref (gB G + r2)), (3, .ref (gB G + r3)), (4, .int x4)] [] σ := by
  refine ww_aload_n (pc := 35) C 0 dX2_fill_35 rfl ?_
  obtain ⟨z2, e1, hf⟩ := xbd hf
  refine gf_X2_18 (pc := 36) C e1 dX2_fill_36 ?_
  refine ww_iconst (pc := 39) (v := (0 : Int32)) C dX2_fill_39 (by decide) ?_
  refine ww_iconst (pc := 40) (v := (0 : Int32)) C dX2_fill_40 (by decide) ?_
  obtain ⟨σ4, e3, hf⟩ := xbd hf
  refine ww_iast (pc := 41) C e3 dX2_fill_41 ?_
  refine ww_iconst (pc := 42) (v := (0 : Int32)) C dX2_fill_42 (by decide) ?_
  refine ww_istore (pc := 43) (lv' := [(5, .int (0 : Int32)), (0, .ref (gB G + r0)), (1, .ref (gB G + r1)), (2, .ref (gB G + r2)), (3, .ref (gB G + r3)), (4, .int x4)]) C dX2_fill_43 (by decide) rfl ?_
  refine ww_sub [1, 2, 3, 4, 5, 0] rfl ?_
  exact s_X2_fill_l45 C (a := ((0 : Int32), σ4)) hf hk
theorem m_X2_fill_j35 {σ : XS} {r0 : Nat} {r1 : Nat} {r2 : Nat} {r3 : Nat} {x4 : Int32} {x : XS} (hf : f_X2_fill_j35 σ r0 r1 r2 r3 x4 = some x) : xext σ x := by
  have hm := xext.rf (σ := σ)
  obtain ⟨z2, e1, hf⟩ := xbd hf
  obtain ⟨σ4, e3, hf⟩ := xbd hf
  have hm := hm.tr (xsI_same e3).ext
  exact hm.tr (m_X2_fill_l45 (a := ((0 : Int32), σ4)) hf)
theorem s_X2_fill_j32 {G : XG} (C : XC G cX2_fill RX2 none 6 2 50) {σ : XS} {r0 : Nat} {r1 : Nat} {r2 : Nat} {r3 : Nat} {x4 : Int32} {t0 : Nat} {t1 : Nat} {x : XS} (hf : f_X2_fill_j32 σ r0 r1 r2 r3 x4 t0 t1 = some x) (hk : XEnd G none x ∧ XUp G x) : WW G 32 [(0, .ref (gB G + r0)), (1, .ref (gB G + r1)), (2, .ref (gB G + r2)), (3, .ref (gB G + r3)), (4, .int x4)] [.ref (gB G + t1), .ref (gB G + t0)] σ := by
  obtain ⟨_, e1, hf⟩ := xbd hf
  obtain ⟨σ3, e2, hf⟩ := xbd hf
  refine pf_X2_18 (pc := 32) C (xnz_spec e1) e2 dX2_fill_32 ?_
  refine ww_sub [0, 1, 2, 3, 4] rfl ?_
  exact s_X2_fill_j35 C hf hk
theorem m_X2_fill_j32 {σ : XS} {r0 : Nat} {r1 : Nat} {r2 : Nat} {r3 : Nat} {x4 : Int32} {t0 : Nat} {t1 : Nat} {x : XS} (hf : f_X2_fill_j32 σ r0 r1 r2 r3 x4 t0 t1 = some x) : xext σ x := by
  have hm := xext.rf (σ := σ)
  obtain ⟨_, e1, hf⟩ := xbd hf
  obtain ⟨σ3, e2, hf⟩ := xbd hf
  have hm := hm.tr (xpR_same e2).ext
  exact hm.tr (m_X2_fill_j35 hf)
theorem s_X2_fill_e {G : XG} (C : XC G cX2_fill RX2 none 6 2 50) {σ : XS} {r0 : Nat} {r1 : Nat} {r2 : Nat} {r3 : Nat} {x4 : Int32} {x : XS} (hf : f_X2_fill σ r0 r1 r2 r3 x4 = some x) (hk : XEnd G none x ∧ XUp G x) : WW G 0 [(0, .ref (gB G + r0)), (1, .ref (gB G + r1)), (2, .ref (gB G + r2)), (3, .ref (gB G + r3)), (4, .int x4)] [] σ := by
  refine ww_iload (pc := 0) C 4 dX2_fill_0 rfl ?_
  refine ww_if_lt (pc := 2) (tgt := 12) C dX2_fill_2 (by decide) (fun q => ?_) (fun q => ?_)
  · have hf := xip q hf
    have hf := xsj hf
    subst hf
    exact ww_vret (pc := 12) C hk.1 dX2_fill_12
  · have hf := xin q hf
    refine ww_iload (pc := 5) C 4 dX2_fill_5 rfl ?_
    refine ww_bipush (pc := 7) (v := (16 : Int32)) C dX2_fill_7 (by decide) ?_
    refine ww_icmp_le (pc := 9) (tgt := 13) C dX2_fill_9 (by decide) (fun q => ?_) (fun q => ?_)
    · have hf := xip q hf
      refine ww_aload_n (pc := 13) C 0 dX2_fill_13 rfl ?_
      obtain ⟨z2, e1, hf⟩ := xbd hf
      refine gf_X2_18 (pc := 14) C e1 dX2_fill_14 ?_
      obtain ⟨v4, e3, hf⟩ := xbd hf
      refine ww_alen (pc := 17) C e3 dX2_fill_17 ?_
      refine ww_iconst (pc := 18) (v := (1 : Int32)) C dX2_fill_18 (by decide) ?_
      refine ww_iload (pc := 19) C 4 dX2_fill_19 rfl ?_
      refine ww_ishl (pc := 21) C dX2_fill_21 ?_
      refine ww_icmp_ge (pc := 22) (tgt := 35) C dX2_fill_22 (by decide) (fun q => ?_) (fun q => ?_)
      · have hf := xip q hf
        refine ww_sub [0, 1, 2, 3, 4] rfl ?_
        exact s_X2_fill_j35 C hf hk
      · have hf := xin q hf
        refine ww_aload_n (pc := 25) C 0 dX2_fill_25 rfl ?_
        refine ww_iconst (pc := 26) (v := (1 : Int32)) C dX2_fill_26 (by decide) ?_
        refine ww_iload (pc := 27) C 4 dX2_fill_27 rfl ?_
        refine ww_ishl (pc := 29) C dX2_fill_29 ?_
        obtain ⟨⟨z6, σ7⟩, e5, hf⟩ := xbd hf
        dsimp only at hf
        refine ww_newI (pc := 30) C q77 e5 (fun q => by have hm9 := m_X2_fill_j32 hf; exact XLim.mid q (xnA_ext e5) hm9 hk.2) dX2_fill_30 ?_
        refine ww_sub [0, 1, 2, 3, 4] rfl ?_
        exact s_X2_fill_j32 C hf hk
    · have hf := xin q hf
      have hf := xsj hf
      subst hf
      exact ww_vret (pc := 12) C hk.1 dX2_fill_12
theorem m_X2_fill {σ : XS} {r0 : Nat} {r1 : Nat} {r2 : Nat} {r3 : Nat} {x4 : Int32} {x : XS} (hf : f_X2_fill σ r0 r1 r2 r3 x4 = some x) : xext σ x := by
  have hm := xext.rf (σ := σ)
  by_cases q : x4 < 0
  · have hf := xip q hf
    have hf := xsj hf
    subst hf
    exact hm
  · have hf := xin q hf
    by_cases q : x4 ≤ (16 : Int32)
    · have hf := xip q hf
      obtain ⟨z2, e1, hf⟩ := xbd hf
      obtain ⟨v4, e3, hf⟩ := xbd hf
      by_cases q : ((1 : Int32) <<< (x4 &&& 31)) ≤ v4
      · have hf := xip q hf
        exact hm.tr (m_X2_fill_j35 hf)
      · have hf := xin q hf
        obtain ⟨⟨z6, σ7⟩, e5, hf⟩ := xbd hf
        dsimp only at hf
        have hm := hm.tr (xnA_ext e5)
        exact hm.tr (m_X2_fill_j32 hf)
    · have hf := xin q hf
      have hf := xsj hf
      subst hf
      exact hm
theorem k_X2_fill {l : Launch} {E : XD} {hb : Nat} {σ : XS} {r0 : Nat} {r1 : Nat} {r2 : Nat} {r3 : Nat} {x4 : Int32} {x : XS} (h : f_X2_fill σ r0 r1 r2 r3 x4 = some x) : XM l yX2_fill cX2_fill 6 none 2 50 E hb [.ref (hb + r0), .ref (hb + r1), .ref (hb + r2), .ref (hb + r3), .int x4] σ none x := by
  refine xm_of (by decide) (Nat.le_of_ble_eq_true rfl) (m_X2_fill h).1 (fun G hG C hl hQ => ?_)
  obtain ⟨rfl, rfl, rfl, hN⟩ := hG
  exact s_X2_fill_e C h ⟨hQ, hl.2⟩
noncomputable def f_X3_states (σ : XS) (r0 : Nat) : Option Int32 := (xgI σ r0 3 7).bind fun v2 => if v2 ≤ 0 then (some (0 : Int32)) else (xgI σ r0 3 7).bind fun v4 => some ((1 : Int32) <<< (v4 &&& 31))
theorem s_X3_states_e {G : XG} (C : XC G cX3_states RX3 (some .int) 1 0 0) {σ : XS} {r0 : Nat} {x : Int32} (hf : f_X3_states σ r0 = some x) (hk : XEnd G (some (.int x)) σ) : WW G 0 [(0, .ref (gB G + r0))] [] σ := by
  refine ww_aload_n (pc := 0) C 0 dX3_states_0 rfl ?_
  obtain ⟨v2, e1, hf⟩ := xbd hf
  refine gf_X3_40 (pc := 1) C e1 dX3_states_1 ?_
  refine ww_if_le (pc := 4) (tgt := 16) C dX3_states_4 (by decide) (fun q => ?_) (fun q => ?_)
  · have hf := xip q hf
    refine ww_iconst (pc := 16) (v := (0 : Int32)) C dX3_states_16 (by decide) ?_
    have hf := xsj hf
    subst hf
    exact ww_iret (pc := 17) C hk dX3_states_17
  · have hf := xin q hf
    refine ww_iconst (pc := 7) (v := (1 : Int32)) C dX3_states_7 (by decide) ?_
    refine ww_aload_n (pc := 8) C 0 dX3_states_8 rfl ?_
    obtain ⟨v4, e3, hf⟩ := xbd hf
    refine gf_X3_40 (pc := 9) C e3 dX3_states_9 ?_
    refine ww_ishl (pc := 12) C dX3_states_12 ?_
    refine ww_goto (pc := 13) (tgt := 17) C dX3_states_13 (by decide) ?_
    have hf := xsj hf
    subst hf
    exact ww_iret (pc := 17) C hk dX3_states_17
theorem k_X3_states {l : Launch} {E : XD} {hb : Nat} {σ : XS} {r0 : Nat} {x : Int32} (h : f_X3_states σ r0 = some x) : XM l yX3_states cX3_states 1 (some .int) 0 0 E hb [.ref (hb + r0)] σ (some (.int x)) σ := by
  refine xm_of (by decide) (Nat.le_of_ble_eq_true rfl) ⟨Nat.le_refl _, Nat.le_refl _⟩ (fun G hG C hl hQ => ?_)
  obtain ⟨rfl, rfl, rfl, hN⟩ := hG
  exact s_X3_states_e C h hQ
noncomputable def f_X2_of (σ : XS) (r0 : Nat) (x1 : Int32) : Option Int32 := if x1 < 0 then (some (0 : Int32)) else (xgR σ r0 2 4).bind fun z2 => (xal σ z2).bind fun v4 => if v4 ≤ x1 then (some (0 : Int32)) else (xgR σ r0 2 4).bind fun z6 => (xaI σ 20 z6 x1).bind fun v8 => some v8
theorem s_X2_of_e {G : XG} (C : XC G cX2_of RX2 (some .int) 2 0 0) {σ : XS} {r0 : Nat} {x1 : Int32} {x : Int32} (hf : f_X2_of σ r0 x1 = some x) (hk : XEnd G (some (.int x)) σ) : WW G 0 [(0, .ref (gB G + r0)), (1, .int x1)] [] σ := by
  refine ww_iload_n (pc := 0) C 1 dX2_of_0 rfl ?_
  refine ww_if_lt (pc := 1) (tgt := 22) C dX2_of_1 (by decide) (fun q => ?_) (fun q => ?_)
  · have hf := xip q hf
    refine ww_iconst (pc := 22) (v := (0 : Int32)) C dX2_of_22 (by decide) ?_
    have hf := xsj hf
    subst hf
    exact ww_iret (pc := 23) C hk dX2_of_23
  · have hf := xin q hf
    refine ww_iload_n (pc := 4) C 1 dX2_of_4 rfl ?_
    refine ww_aload_n (pc := 5) C 0 dX2_of_5 rfl ?_
    obtain ⟨z2, e1, hf⟩ := xbd hf
    refine gf_X2_18 (pc := 6) C e1 dX2_of_6 ?_
    obtain ⟨v4, e3, hf⟩ := xbd hf
    refine ww_alen (pc := 9) C e3 dX2_of_9 ?_
    refine ww_icmp_ge (pc := 10) (tgt := 22) C dX2_of_10 (by decide) (fun q => ?_) (fun q => ?_)
    · have hf := xip q hf
      refine ww_iconst (pc := 22) (v := (0 : Int32)) C dX2_of_22 (by decide) ?_
      have hf := xsj hf
      subst hf
      exact ww_iret (pc := 23) C hk dX2_of_23
    · have hf := xin q hf
      refine ww_aload_n (pc := 13) C 0 dX2_of_13 rfl ?_
      obtain ⟨z6, e5, hf⟩ := xbd hf
      refine gf_X2_18 (pc := 14) C e5 dX2_of_14 ?_
      refine ww_iload_n (pc := 17) C 1 dX2_of_17 rfl ?_
      obtain ⟨v8, e7, hf⟩ := xbd hf
      refine ww_iald (pc := 18) C e7 dX2_of_18 ?_
      refine ww_goto (pc := 19) (tgt := 23) C dX2_of_19 (by decide) ?_
      have hf := xsj hf
      subst hf
      exact ww_iret (pc := 23) C hk dX2_of_23
theorem k_X2_of {l : Launch} {E : XD} {hb : Nat} {σ : XS} {r0 : Nat} {x1 : Int32} {x : Int32} (h : f_X2_of σ r0 x1 = some x) : XM l yX2_of cX2_of 2 (some .int) 0 0 E hb [.ref (hb + r0), .int x1] σ (some (.int x)) σ := by
  refine xm_of (by decide) (Nat.le_of_ble_eq_true rfl) ⟨Nat.le_refl _, Nat.le_refl _⟩ (fun G hG C hl hQ => ?_)
  obtain ⟨rfl, rfl, rfl, hN⟩ := hG
  exact s_X2_of_e C h hQ
noncomputable def f_X6_allows (σ : XS) (r0 : Nat) (x1 : Int32) : Option Int32 := (xgI σ r0 6 2).bind fun v2 => (xgI σ r0 6 3).bind fun v4 => if (x1 &&& v2) = v4 then (some (1 : Int32)) else some (0 : Int32)
theorem s_X6_allows_e {G : XG} (C : XC G cX6_allows RX6 (some .boolean) 2 0 0) {σ : XS} {r0 : Nat} {x1 : Int32} {x : Int32} (hf : f_X6_allows σ r0 x1 = some x) (hk : XEnd G (some (.int x)) σ) : WW G 0 [(0, .ref (gB G + r0)), (1, .int x1)] [] σ := by
  refine ww_iload_n (pc := 0) C 1 dX6_allows_0 rfl ?_
  refine ww_aload_n (pc := 1) C 0 dX6_allows_1 rfl ?_
  obtain ⟨v2, e1, hf⟩ := xbd hf
  refine gf_X6_24 (pc := 2) C e1 dX6_allows_2 ?_
  refine ww_iand (pc := 5) C dX6_allows_5 ?_
  refine ww_aload_n (pc := 6) C 0 dX6_allows_6 rfl ?_
  obtain ⟨v4, e3, hf⟩ := xbd hf
  refine gf_X6_28 (pc := 7) C e3 dX6_allows_7 ?_
  refine ww_icmp_ne (pc := 10) (tgt := 17) C dX6_allows_10 (by decide) (fun q => ?_) (fun q => ?_)
  · have hf := xin q hf
    refine ww_iconst (pc := 17) (v := (0 : Int32)) C dX6_allows_17 (by decide) ?_
    have hf := xsj hf
    subst hf
    exact ww_zret (pc := 18) C rfl hk dX6_allows_18
  · have hf := xip q hf
    refine ww_iconst (pc := 13) (v := (1 : Int32)) C dX6_allows_13 (by decide) ?_
    refine ww_goto (pc := 14) (tgt := 18) C dX6_allows_14 (by decide) ?_
    have hf := xsj hf
    subst hf
    exact ww_zret (pc := 18) C rfl hk dX6_allows_18
theorem k_X6_allows {l : Launch} {E : XD} {hb : Nat} {σ : XS} {r0 : Nat} {x1 : Int32} {x : Int32} (h : f_X6_allows σ r0 x1 = some x) : XM l yX6_allows cX6_allows 2 (some .boolean) 0 0 E hb [.ref (hb + r0), .int x1] σ (some (.int x)) σ := by
  refine xm_of (by decide) (Nat.le_of_ble_eq_true rfl) ⟨Nat.le_refl _, Nat.le_refl _⟩ (fun G hG C hl hQ => ?_)
  obtain ⟨rfl, rfl, rfl, hN⟩ := hG
  exact s_X6_allows_e C h hQ
noncomputable def f_X0_gather_b98 (r0 : Nat) (r2 : Nat) (r3 : Nat) (x4 : Int32) (x5 : Int32) : Int32 × XS → Option ((Int32 × XS) ⊕ (XS)) := fun a => match a with
  | (x6, σ) => if x5 ≤ x6 then ((some σ).map .inr) else (xck σ r3 2).bind fun _ => (f_X2_of σ r3 x6).bind fun v3 => (xck σ r2 6).bind fun _ => (f_X6_allows σ r2 x6).bind fun v6 => if v6 = 0 then (some (.inl (x6 + (1 : Int32), σ))) else if ((x4 + v3) / (2 : Int32)) < 0 then (some (.inl (x6 + (1 : Int32), σ))) else (xgR σ r0 0 0).bind fun z8 => (xal σ z8).bind fun v10 => if v10 ≤ ((x4 + v3) / (2 : Int32)) then (some (.inl (x6 + (1 : Int32), σ))) else (xgR σ r0 0 0).bind fun z12 => (xaI σ 20 z12 ((x4 + v3) / (2 : Int32))).bind fun v14 => (xsI σ 20 z12 ((x4 + v3) / (2 : Int32)) (v14 + (1 : Int32))).bind fun σ16 => some (.inl (x6 + (1 : Int32), σ16))
noncomputable def f_X0_gather_j81 (σ : XS) (r0 : Nat) (r1 : Nat) (r2 : Nat) (r3 : Nat) (x4 : Int32) : Option XS := (xgR σ r0 0 0).bind fun z2 => (f_J7_fill_53178 σ z2 (0 : Int32)).bind fun σ4 => (xck σ4 r1 3).bind fun _ => (f_X3_states σ4 r1).bind fun v7 => xloop (f_X0_gather_b98 r0 r2 r3 x4 v7) ((0 : Int32), σ4)
noncomputable def f_X0_gather_j42 (σ : XS) (r0 : Nat) (r1 : Nat) (r2 : Nat) (r3 : Nat) (x4 : Int32) (x5 : Int32) (t0 : Nat) (t1 : Int32) (t2 : Int32) : Option ((Int32 × Int32 × XS) ⊕ (XS)) := (xsI σ 20 t0 t1 t2).bind fun σ2 => (xgR σ2 r0 0 1).bind fun z4 => (xaI σ2 20 z4 x5).bind fun v6 => some (.inl (x4 + (xabs v6), x5 + (1 : Int32), σ2))
noncomputable def f_X0_gather_b6 (r0 : Nat) (r1 : Nat) (r2 : Nat) (r3 : Nat) : Int32 × Int32 × XS → Option ((Int32 × Int32 × XS) ⊕ (XS)) := fun a => match a with
  | (x4, x5, σ) => if (32 : Int32) ≤ x5 then (((xgR σ r0 0 1).bind fun z2 => (xgR σ r0 0 2).bind fun z4 => (xgI σ r1 3 7).bind fun v6 => (xck σ r3 2).bind fun _ => (f_X2_fill σ r3 r1 z2 z4 v6).bind fun σ9 => f_X0_gather_j81 σ9 r0 r1 r2 r3 x4).map .inr) else (xgR σ r0 0 1).bind fun z2 => (xck σ r1 3).bind fun _ => (f_X3_endAt σ r1 x5).bind fun v5 => if v5 = (-1 : Int32) then (f_X0_gather_j42 σ r0 r1 r2 r3 x4 x5 z2 x5 (0 : Int32)) else (xck σ r2 6).bind fun _ => (f_X6_bondAt σ r2 x5).bind fun v8 => (f_J6_signum_0f7a4 v8).bind fun v10 => f_X0_gather_j42 σ r0 r1 r2 r3 x4 x5 z2 x5 v10
noncomputable def f_X0_gather (σ : XS) (r0 : Nat) (r1 : Nat) (r2 : Nat) (r3 : Nat) : Option XS := xloop (f_X0_gather_b6 r0 r1 r2 r3) ((0 : Int32), (0 : Int32), σ)
theorem m_X0_gather_l98 {r0 : Nat} {r2 : Nat} {r3 : Nat} {x4 : Int32} {x5 : Int32} {a : Int32 × XS} {x : XS} (hf : xloop (f_X0_gather_b98 r0 r2 r3 x4 x5) a = some x) : xext a.2 x := by
  refine xloop_ind (P := fun a => xext a.2 x) (fun a y hf hc he => ?_) hf
  obtain ⟨x6, σ⟩ := a
  have hy : (∀ a' : Int32 × XS, y = .inl a' → xext σ a'.2) ∧ (∀ b1 : XS, y = .inr b1 → xext σ b1) := by
    have hm := xext.rf (σ := σ)
    by_cases q : x5 ≤ x6
    · have hf := xip q hf
      obtain ⟨b0, hg, e9⟩ := xmj hf
      subst e9
      have hf := hg
      refine ⟨fun a' e => xnc2 e, fun b e => ?_⟩
      have h9 := Sum.inr.inj e
      subst h9
      have hf := xsj hf
      subst hf
      exact hm
    · have hf := xin q hf
      obtain ⟨_, e1, hf⟩ := xbd hf
      obtain ⟨v3, e2, hf⟩ := xbd hf
      obtain ⟨_, e4, hf⟩ := xbd hf
      obtain ⟨v6, e5, hf⟩ := xbd hf
      by_cases q : v6 = 0
      · have hf := xip q hf
        have hf := xsj hf
        subst hf
        exact ⟨fun a' e => (by have h9 := Sum.inl.inj e; subst h9; exact hm), fun b e => xnc1 e⟩
      · have hf := xin q hf
        by_cases q : ((x4 + v3) / (2 : Int32)) < 0
        · have hf := xip q hf
          have hf := xsj hf
          subst hf
          exact ⟨fun a' e => (by have h9 := Sum.inl.inj e; subst h9; exact hm), fun b e => xnc1 e⟩
        · have hf := xin q hf
          obtain ⟨z8, e7, hf⟩ := xbd hf
          obtain ⟨v10, e9, hf⟩ := xbd hf
          by_cases q : v10 ≤ ((x4 + v3) / (2 : Int32))
          · have hf := xip q hf
            have hf := xsj hf
            subst hf
            exact ⟨fun a' e => (by have h9 := Sum.inl.inj e; subst h9; exact hm), fun b e => xnc1 e⟩
          · have hf := xin q hf
            obtain ⟨z12, e11, hf⟩ := xbd hf
            obtain ⟨v14, e13, hf⟩ := xbd hf
            obtain ⟨σ16, e15, hf⟩ := xbd hf
            have hm := hm.tr (xsI_same e15).ext
            have hf := xsj hf
            subst hf
            exact ⟨fun a' e => (by have h9 := Sum.inl.inj e; subst h9; exact hm), fun b e => xnc1 e⟩
  cases y with
  | inl a' =>
    have h1 := hc a' rfl
    have hm := hy.1 a' rfl
    exact hm.tr (h1)
  | inr b =>
    have h1 := he b rfl
    subst h1
    exact hy.2 _ rfl
theorem s_X0_gather_l98 {G : XG} (C : XC G cX0_gather RX0 none 8 3 75) {r0 : Nat} {r2 : Nat} {r3 : Nat} {x4 : Int32} {x5 : Int32} {a : Int32 × XS} {x : XS} (hf : xloop (f_X0_gather_b98 r0 r2 r3 x4 x5) a = some x) (hk : XEnd G none x ∧ XUp G x) : WW G 98 [(0, .ref (gB G + r0)), (2, .ref (gB G + r2)), (3, .ref (gB G + r3)), (4, .int x4), (5, .int x5), (6, .int a.1)] [] a.2 := by
  refine xloop_ind (P := fun a => WW G 98 [(0, .ref (gB G + r0)), (2, .ref (gB G + r2)), (3, .ref (gB G + r3)), (4, .int x4), (5, .int x5), (6, .int a.1)] [] a.2) (fun a y hf hc he => ?_) hf
  obtain ⟨x6, σ⟩ := a
  have hk : (∀ a' : Int32 × XS, y = .inl a' → WW G 98 [(0, .ref (gB G + r0)), (2, .ref (gB G + r2)), (3, .ref (gB G + r3)), (4, .int x4), (5, .int x5), (6, .int a'.1)] [] a'.2) ∧ (∀ b1 : XS, y = .inr b1 → XEnd G none b1 ∧ XUp G b1) := ⟨hc, fun b e => by have h9 := he b e; subst h9; exact hk⟩
  refine ww_iload (pc := 98) C 5 dX0_gather_98 rfl ?_
  refine ww_iload (pc := 100) C 4 dX0_gather_100 rfl ?_
  refine ww_icmp_ge (pc := 102) (tgt := 159) C dX0_gather_102 (by decide) (fun q => ?_) (fun q => ?_)
  · have hf := xip q hf
    obtain ⟨b0, hg, e9⟩ := xmj hf
    subst e9
    have hf := hg
    have hk := hk.2 _ rfl
    have hf := xsj hf
    subst hf
    exact ww_vret (pc := 159) C hk.1 dX0_gather_159
  · have hf := xin q hf
    refine ww_iload (pc := 105) C 3 dX0_gather_105 rfl ?_
    refine ww_aload_n (pc := 107) C 2 dX0_gather_107 rfl ?_
    refine ww_iload (pc := 108) C 5 dX0_gather_108 rfl ?_
    obtain ⟨_, e1, hf⟩ := xbd hf
    obtain ⟨v3, e2, hf⟩ := xbd hf
    refine ww_callVi (pc := 110) (as := [.int x6]) (st := [.int x4]) C (k_X2_of (l := gl G) (E := gE G) (hb := gB G) (σ := σ) e2) rfl (by decide) xc_X0_64 q880 qp64 (xck_spec e1) rfl (by decide) (xst4 (Nat.le_of_ble_eq_true rfl)) xsame.rf.le xsame.rf.lim dX0_gather_110 ?_
    refine ww_iadd (pc := 113) C dX0_gather_113 ?_
    refine ww_iconst (pc := 114) (v := (2 : Int32)) C dX0_gather_114 (by decide) ?_
    refine ww_idiv (pc := 115) C dX0_gather_115 (by decide) ?_
    refine ww_istore (pc := 116) (lv' := [(7, .int ((x4 + v3) / (2 : Int32))), (0, .ref (gB G + r0)), (2, .ref (gB G + r2)), (3, .ref (gB G + r3)), (4, .int x4), (5, .int x5), (6, .int x6)]) C dX0_gather_116 (by decide) rfl ?_
    refine ww_aload_n (pc := 118) C 2 dX0_gather_118 rfl ?_
    refine ww_iload (pc := 119) C 6 dX0_gather_119 rfl ?_
    obtain ⟨_, e4, hf⟩ := xbd hf
    obtain ⟨v6, e5, hf⟩ := xbd hf
    refine ww_callVi (pc := 121) (as := [.int x6]) (st := []) C (k_X6_allows (l := gl G) (E := gE G) (hb := gB G) (σ := σ) e5) rfl (by decide) xc_X0_67 q890 qp65 (xck_spec e4) rfl (by decide) (xst4 (Nat.le_of_ble_eq_true rfl)) xsame.rf.le xsame.rf.lim dX0_gather_121 ?_
    refine ww_if_eq (pc := 124) (tgt := 153) C dX0_gather_124 (by decide) (fun q => ?_) (fun q => ?_)
    · have hf := xip q hf
      refine ww_iinc (pc := 153) (v := x6 + (1 : Int32)) (lv' := [(6, .int (x6 + (1 : Int32))), (7, .int ((x4 + v3) / (2 : Int32))), (0, .ref (gB G + r0)), (2, .ref (gB G + r2)), (3, .ref (gB G + r3)), (4, .int x4), (5, .int x5)]) C 6 dX0_gather_153 rfl (congrArg (fun z => x6 + z) (show Int32.ofInt (1) = (1 : Int32) by decide)) (by decide) rfl ?_
      refine ww_goto (pc := 156) (tgt := 98) C dX0_gather_156 (by decide) ?_
      have hf := xsj hf
      subst hf
      refine ww_sub [2, 3, 4, 5, 6, 0] rfl ?_
      exact hk.1 (x6 + (1 : Int32), σ) rfl
    · have hf := xin q hf
      refine ww_iload (pc := 127) C 0 dX0_gather_127 rfl ?_
      refine ww_if_lt (pc := 129) (tgt := 153) C dX0_gather_129 (by decide) (fun q => ?_) (fun q => ?_)
      · have hf := xip q hf
        refine ww_iinc (pc := 153) (v := x6 + (1 : Int32)) (lv' := [(6, .int (x6 + (1 : Int32))), (7, .int ((x4 + v3) / (2 : Int32))), (0, .ref (gB G + r0)), (2, .ref (gB G + r2)), (3, .ref (gB G + r3)), (4, .int x4), (5, .int x5)]) C 6 dX0_gather_153 rfl (congrArg (fun z => x6 + z) (show Int32.ofInt (1) = (1 : Int32) by decide)) (by decide) rfl ?_
        refine ww_goto (pc := 156) (tgt := 98) C dX0_gather_156 (by decide) ?_
        have hf := xsj hf
        subst hf
        refine ww_sub [2, 3, 4, 5, 6, 0] rfl ?_
        exact hk.1 (x6 + (1 : Int32), σ) rfl
      · have hf := xin q hf
        refine ww_iload (pc := 132) C 0 dX0_gather_132 rfl ?_
        refine ww_aload_n (pc := 134) C 1 dX0_gather_134 rfl ?_
        obtain ⟨z8, e7, hf⟩ := xbd hf
        refine gf_X0_9 (pc := 135) C e7 dX0_gather_135 ?_
        obtain ⟨v10, e9, hf⟩ := xbd hf
        refine ww_alen (pc := 138) C e9 dX0_gather_138 ?_
        refine ww_icmp_ge (pc := 139) (tgt := 153) C dX0_gather_139 (by decide) (fun q => ?_) (fun q => ?_)
        · have hf := xip q hf
          refine ww_iinc (pc := 153) (v := x6 + (1 : Int32)) (lv' := [(6, .int (x6 + (1 : Int32))), (7, .int ((x4 + v3) / (2 : Int32))), (0, .ref (gB G + r0)), (2, .ref (gB G + r2)), (3, .ref (gB G + r3)), (4, .int x4), (5, .int x5)]) C 6 dX0_gather_153 rfl (congrArg (fun z => x6 + z) (show Int32.ofInt (1) = (1 : Int32) by decide)) (by decide) rfl ?_
          refine ww_goto (pc := 156) (tgt := 98) C dX0_gather_156 (by decide) ?_
          have hf := xsj hf
          subst hf
          refine ww_sub [2, 3, 4, 5, 6, 0] rfl ?_
          exact hk.1 (x6 + (1 : Int32), σ) rfl
        · have hf := xin q hf
          refine ww_aload_n (pc := 142) C 1 dX0_gather_142 rfl ?_
          obtain ⟨z12, e11, hf⟩ := xbd hf
          refine gf_X0_9 (pc := 143) C e11 dX0_gather_143 ?_
          refine ww_iload (pc := 146) C 0 dX0_gather_146 rfl ?_
          refine ww_dup2 (pc := 148) C dX0_gather_148 rfl rfl ?_
          obtain ⟨v14, e13, hf⟩ := xbd hf
          refine ww_iald (pc := 149) C e13 dX0_gather_149 ?_
          refine ww_iconst (pc := 150) (v := (1 : Int32)) C dX0_gather_150 (by decide) ?_
          refine ww_iadd (pc := 151) C dX0_gather_151 ?_
          obtain ⟨σ16, e15, hf⟩ := xbd hf
          refine ww_iast (pc := 152) C e15 dX0_gather_152 ?_
          refine ww_iinc (pc := 153) (v := x6 + (1 : Int32)) (lv' := [(6, .int (x6 + (1 : Int32))), (7, .int ((x4 + v3) / (2 : Int32))), (0, .ref (gB G + r0)), (2, .ref (gB G + r2)), (3, .ref (gB G + r3)), (4, .int x4), (5, .int x5)]) C 6 dX0_gather_153 rfl (congrArg (fun z => x6 + z) (show Int32.ofInt (1) = (1 : Int32) by decide)) (by decide) rfl ?_
          refine ww_goto (pc := 156) (tgt := 98) C dX0_gather_156 (by decide) ?_
          have hf := xsj hf
          subst hf
          refine ww_sub [2, 3, 4, 5, 6, 0] rfl ?_
          exact hk.1 (x6 + (1 : Int32), σ16) rfl
theorem s_X0_gather_j81 {G : XG} (C : XC G cX0_gather RX0 none 8 3 75) {σ : XS} {r0 : Nat} {r1 : Nat} {r2 : Nat} {r3 : Nat} {x4 : Int32} {x : XS} (hf : f_X0_gather_j81 σ r0 r1 r2 r3 x4 = some x) (hk : XEnd G none x ∧ XUp G x) : WW G 81 [(0, .ref (gB G + r0)), (1, .ref (gB G + r1)), (2, .ref (gB G + r2)), (3, .ref (gB G + r3)), (4, .int x4)] [] σ := by
  refine ww_aload_n (pc := 81) C 0 dX0_gather_81 rfl ?_
  obtain ⟨z2, e1, hf⟩ := xbd hf
  refine gf_X0_9 (pc := 82) C e1 dX0_gather_82 ?_
  refine ww_iconst (pc := 85) (v := (0 : Int32)) C dX0_gather_85 (by decide) ?_
  obtain ⟨σ4, e3, hf⟩ := xbd hf
  refine ww_callSv (pc := 86) (as := [.ref (gB G + z2), .int (0 : Int32)]) (st := []) C (k_J7_fill_53178 (l := gl G) (E := gE G) (hb := gB G) (σ := σ) e3) xc_X0_55 q174 rfl (by decide) (xst4 (Nat.le_of_ble_eq_true rfl)) (m_J7_fill_53178 e3).le (m_J7_fill_53178 e3).lim dX0_gather_86 ?_
  refine ww_aload_n (pc := 89) C 1 dX0_gather_89 rfl ?_
  obtain ⟨_, e5, hf⟩ := xbd hf
  obtain ⟨v7, e6, hf⟩ := xbd hf
  refine ww_callVi (pc := 90) (as := []) (st := []) C (k_X3_states (l := gl G) (E := gE G) (hb := gB G) (σ := σ4) e6) rfl (by decide) xc_X0_60 q871 qp62 (xck_spec e5) rfl (by decide) (xst4 (Nat.le_of_ble_eq_true rfl)) xsame.rf.le xsame.rf.lim dX0_gather_90 ?_
  refine ww_istore (pc := 93) (lv' := [(5, .int v7), (0, .ref (gB G + r0)), (1, .ref (gB G + r1)), (2, .ref (gB G + r2)), (3, .ref (gB G + r3)), (4, .int x4)]) C dX0_gather_93 (by decide) rfl ?_
  refine ww_iconst (pc := 95) (v := (0 : Int32)) C dX0_gather_95 (by decide) ?_
  refine ww_istore (pc := 96) (lv' := [(6, .int (0 : Int32)), (5, .int v7), (0, .ref (gB G + r0)), (1, .ref (gB G + r1)), (2, .ref (gB G + r2)), (3, .ref (gB G + r3)), (4, .int x4)]) C dX0_gather_96 (by decide) rfl ?_
  refine ww_sub [2, 4, 5, 6, 1, 0] rfl ?_
  exact s_X0_gather_l98 C (a := ((0 : Int32), σ4)) hf hk
theorem m_X0_gather_j81 {σ : XS} {r0 : Nat} {r1 : Nat} {r2 : Nat} {r3 : Nat} {x4 : Int32} {x : XS} (hf : f_X0_gather_j81 σ r0 r1 r2 r3 x4 = some x) : xext σ x := by
  have hm := xext.rf (σ := σ)
  obtain ⟨z2, e1, hf⟩ := xbd hf
  obtain ⟨σ4, e3, hf⟩ := xbd hf
  have hm := hm.tr (m_J7_fill_53178 e3).ext
  obtain ⟨_, e5, hf⟩ := xbd hf
  obtain ⟨v7, e6, hf⟩ := xbd hf
  exact hm.tr (m_X0_gather_l98 (a := ((0 : Int32), σ4)) hf)
theorem s_X0_gather_j42 {G : XG} (C : XC G cX0_gather RX0 none 8 3 75) {σ : XS} {r0 : Nat} {r1 : Nat} {r2 : Nat} {r3 : Nat} {x4 : Int32} {x5 : Int32} {t0 : Nat} {t1 : Int32} {t2 : Int32} {x : ((Int32 × Int32 × XS) ⊕ (XS))} (hf : f_X0_gather_j42 σ r0 r1 r2 r3 x4 x5 t0 t1 t2 = some x) (hk : (∀ a' : Int32 × Int32 × XS, x = .inl a' → WW G 6 [(0, .ref (gB G + r0)), (1, .ref (gB G + r1)), (2, .ref (gB G + r2)), (3, .ref (gB G + r3)), (4, .int a'.1), (5, .int a'.2.1)] [] a'.2.2) ∧ (∀ b1 : XS, x = .inr b1 → XEnd G none b1 ∧ XUp G b1)) : WW G 42 [(0, .ref (gB G + r0)), (1, .ref (gB G + r1)), (2, .ref (gB G + r2)), (3, .ref (gB G + r3)), (4, .int x4), (5, .int x5)] [.int t2, .int t1, .ref (gB G + t0)] σ := by
  obtain ⟨σ2, e1, hf⟩ := xbd hf
  refine ww_iast (pc := 42) C e1 dX0_gather_42 ?_
  refine ww_iload (pc := 43) C 4 dX0_gather_43 rfl ?_
  refine ww_aload_n (pc := 45) C 0 dX0_gather_45 rfl ?_
  obtain ⟨z4, e3, hf⟩ := xbd hf
  refine gf_X0_15 (pc := 46) C e3 dX0_gather_46 ?_
  refine ww_iload (pc := 49) C 5 dX0_gather_49 rfl ?_
  obtain ⟨v6, e5, hf⟩ := xbd hf
  refine ww_iald (pc := 51) C e5 dX0_gather_51 ?_
  refine ww_mabs (pc := 52) C q950 q951 q20 qm_mabs ⟨by decide, Nat.le_trans (Nat.add_le_add_right (xst4 (Nat.le_of_ble_eq_true rfl)) 13) (by decide)⟩ dX0_gather_52 ?_
  refine ww_iadd (pc := 55) C dX0_gather_55 ?_
  refine ww_istore (pc := 56) (lv' := [(4, .int (x4 + (xabs v6))), (0, .ref (gB G + r0)), (1, .ref (gB G + r1)), (2, .ref (gB G + r2)), (3, .ref (gB G + r3)), (5, .int x5)]) C dX0_gather_56 (by decide) rfl ?_
  refine ww_iinc (pc := 58) (v := x5 + (1 : Int32)) (lv' := [(5, .int (x5 + (1 : Int32))), (4, .int (x4 + (xabs v6))), (0, .ref (gB G + r0)), (1, .ref (gB G + r1)), (2, .ref (gB G + r2)), (3, .ref (gB G + r3))]) C 5 dX0_gather_58 rfl (congrArg (fun z => x5 + z) (show Int32.ofInt (1) = (1 : Int32) by decide)) (by decide) rfl ?_
  refine ww_goto (pc := 61) (tgt := 6) C dX0_gather_61 (by decide) ?_
  have hf := xsj hf
  subst hf
  refine ww_sub [2, 3, 4, 5, 1, 0] rfl ?_
  exact hk.1 (x4 + (xabs v6), x5 + (1 : Int32), σ2) rfl
theorem m_X0_gather_j42 {σ : XS} {r0 : Nat} {r1 : Nat} {r2 : Nat} {r3 : Nat} {x4 : Int32} {x5 : Int32} {t0 : Nat} {t1 : Int32} {t2 : Int32} {x : ((Int32 × Int32 × XS) ⊕ (XS))} (hf : f_X0_gather_j42 σ r0 r1 r2 r3 x4 x5 t0 t1 t2 = some x) : (∀ a' : Int32 × Int32 × XS, x = .inl a' → xext σ a'.2.2) ∧ (∀ b1 : XS, x = .inr b1 → xext σ b1) := by
  have hm := xext.rf (σ := σ)
  obtain ⟨σ2, e1, hf⟩ := xbd hf
  have hm := hm.tr (xsI_same e1).ext
  obtain ⟨z4, e3, hf⟩ := xbd hf
  obtain ⟨v6, e5, hf⟩ := xbd hf
  have hf := xsj hf
  subst hf
  exact ⟨fun a' e => (by have h9 := Sum.inl.inj e; subst h9; exact hm), fun b e => xnc1 e⟩
theorem m_X0_gather_l6 {r0 : Nat} {r1 : Nat} {r2 : Nat} {r3 : Nat} {a : Int32 × Int32 × XS} {x : XS} (hf : xloop (f_X0_gather_b6 r0 r1 r2 r3) a = some x) : xext a.2.2 x := by
  refine xloop_ind (P := fun a => xext a.2.2 x) (fun a y hf hc he => ?_) hf
  obtain ⟨x4, x5, σ⟩ := a
  have hy : (∀ a' : Int32 × Int32 × XS, y = .inl a' → xext σ a'.2.2) ∧ (∀ b1 : XS, y = .inr b1 → xext σ b1) := by
    have hm := xext.rf (σ := σ)
    by_cases q : (32 : Int32) ≤ x5
    · have hf := xip q hf
      obtain ⟨b0, hg, e9⟩ := xmj hf
      subst e9
      have hf := hg
      refine ⟨fun a' e => xnc2 e, fun b e => ?_⟩
      have h9 := Sum.inr.inj e
      subst h9
      obtain ⟨z2, e1, hf⟩ := xbd hf
      obtain ⟨z4, e3, hf⟩ := xbd hf
      obtain ⟨v6, e5, hf⟩ := xbd hf
      obtain ⟨_, e7, hf⟩ := xbd hf
      obtain ⟨σ9, e8, hf⟩ := xbd hf
      have hm := hm.tr (m_X2_fill e8)
      exact hm.tr (m_X0_gather_j81 hf)
    · have hf := xin q hf
      obtain ⟨z2, e1, hf⟩ := xbd hf
      obtain ⟨_, e3, hf⟩ := xbd hf
      obtain ⟨v5, e4, hf⟩ := xbd hf
      by_cases q : v5 = (-1 : Int32)
      · have hf := xip q hf
        exact ⟨fun a' e => hm.tr ((m_X0_gather_j42 hf).1 a' e), fun b1 eb1 => hm.tr ((m_X0_gather_j42 hf).2 b1 eb1)⟩
      · have hf := xin q hf
        obtain ⟨_, e6, hf⟩ := xbd hf
        obtain ⟨v8, e7, hf⟩ := xbd hf
        obtain ⟨v10, e9, hf⟩ := xbd hf
        exact ⟨fun a' e => hm.tr ((m_X0_gather_j42 hf).1 a' e), fun b1 eb1 => hm.tr ((m_X0_gather_j42 hf).2 b1 eb1)⟩
  cases y with
  | inl a' =>
    have h1 := hc a' rfl
    have hm := hy.1 a' rfl
    exact hm.tr (h1)
  | inr b =>
    have h1 := he b rfl
    subst h1
    exact hy.2 _ rfl
theorem s_X0_gather_l6 {G : XG} (C : XC G cX0_gather RX0 none 8 3 75) {r0 : Nat} {r1 : Nat} {r2 : Nat} {r3 : Nat} {a : Int32 × Int32 × XS} {x : XS} (hf : xloop (f_X0_gather_b6 r0 r1 r2 r3) a = some x) (hk : XEnd G none x ∧ XUp G x) : WW G 6 [(0, .ref (gB G + r0)), (1, .ref (gB G + r1)), (2, .ref (gB G + r2)), (3, .ref (gB G + r3)), (4, .int a.1), (5, .int a.2.1)] [] a.2.2 := by
  refine xloop_ind (P := fun a => WW G 6 [(0, .ref (gB G + r0)), (1, .ref (gB G + r1)), (2, .ref (gB G + r2)), (3, .ref (gB G + r3)), (4, .int a.1), (5, .int a.2.1)] [] a.2.2) (fun a y hf hc he => ?_) hf
  obtain ⟨x4, x5, σ⟩ := a
  have hk : (∀ a' : Int32 × Int32 × XS, y = .inl a' → WW G 6 [(0, .ref (gB G + r0)), (1, .ref (gB G + r1)), (2, .ref (gB G + r2)), (3, .ref (gB G + r3)), (4, .int a'.1), (5, .int a'.2.1)] [] a'.2.2) ∧ (∀ b1 : XS, y = .inr b1 → XEnd G none b1 ∧ XUp G b1) := ⟨hc, fun b e => by have h9 := he b e; subst h9; exact hk⟩
  refine ww_iload (pc := 6) C 5 dX0_gather_6 rfl ?_
  refine ww_bipush (pc := 8) (v := (32 : Int32)) C dX0_gather_8 (by decide) ?_
  refine ww_icmp_ge (pc := 10) (tgt := 64) C dX0_gather_10 (by decide) (fun q => ?_) (fun q => ?_)
  · have hf := xip q hf
    obtain ⟨b0, hg, e9⟩ := xmj hf
    subst e9
    have hf := hg
    have hk := hk.2 _ rfl
    refine ww_aload_n (pc := 64) C 3 dX0_gather_64 rfl ?_
    refine ww_aload_n (pc := 65) C 1 dX0_gather_65 rfl ?_
    refine ww_aload_n (pc := 66) C 0 dX0_gather_66 rfl ?_
    obtain ⟨z2, e1, hf⟩ := xbd hf
    refine gf_X0_15 (pc := 67) C e1 dX0_gather_67 ?_
    refine ww_aload_n (pc := 70) C 0 dX0_gather_70 rfl ?_
    obtain ⟨z4, e3, hf⟩ := xbd hf
    refine gf_X0_18 (pc := 71) C e3 dX0_gather_71 ?_
    refine ww_aload_n (pc := 74) C 1 dX0_gather_74 rfl ?_
    obtain ⟨v6, e5, hf⟩ := xbd hf
    refine gf_X0_46 (pc := 75) C e5 dX0_gather_75 ?_
    obtain ⟨_, e7, hf⟩ := xbd hf
    obtain ⟨σ9, e8, hf⟩ := xbd hf
    refine ww_callVv (pc := 78) (as := [.ref (gB G + r1), .ref (gB G + z2), .ref (gB G + z4), .int v6]) (st := []) C (k_X2_fill (l := gl G) (E := gE G) (hb := gB G) (σ := σ) e8) rfl (by decide) xc_X0_49 q854 qp58 (xck_spec e7) rfl (by decide) (xst4 (Nat.le_of_ble_eq_true rfl)) (m_X2_fill e8).1 (fun q => by have hm9 := m_X0_gather_j81 hf; exact XLim.mid q (m_X2_fill e8) hm9 hk.2) dX0_gather_78 ?_
    refine ww_sub [0, 1, 2, 3, 4] rfl ?_
    exact s_X0_gather_j81 C hf hk
  · have hf := xin q hf
    refine ww_aload_n (pc := 13) C 0 dX0_gather_13 rfl ?_
    obtain ⟨z2, e1, hf⟩ := xbd hf
    refine gf_X0_15 (pc := 14) C e1 dX0_gather_14 ?_
    refine ww_iload (pc := 17) C 5 dX0_gather_17 rfl ?_
    refine ww_aload_n (pc := 19) C 1 dX0_gather_19 rfl ?_
    refine ww_iload (pc := 20) C 5 dX0_gather_20 rfl ?_
    obtain ⟨_, e3, hf⟩ := xbd hf
    obtain ⟨v5, e4, hf⟩ := xbd hf
    refine ww_callVi (pc := 22) (as := [.int x5]) (st := [.int x5, .ref (gB G + z2)]) C (k_X3_endAt (l := gl G) (E := gE G) (hb := gB G) (σ := σ) e4) rfl (by decide) xc_X0_25 q703 qp38 (xck_spec e3) rfl (by decide) (xst4 (Nat.le_of_ble_eq_true rfl)) xsame.rf.le xsame.rf.lim dX0_gather_22 ?_
    refine ww_iconst (pc := 25) (v := (-1 : Int32)) C dX0_gather_25 (by decide) ?_
    refine ww_icmp_ne (pc := 26) (tgt := 33) C dX0_gather_26 (by decide) (fun q => ?_) (fun q => ?_)
    · have hf := xin q hf
      refine ww_aload_n (pc := 33) C 2 dX0_gather_33 rfl ?_
      refine ww_iload (pc := 34) C 5 dX0_gather_34 rfl ?_
      obtain ⟨_, e6, hf⟩ := xbd hf
      obtain ⟨v8, e7, hf⟩ := xbd hf
      refine ww_callVi (pc := 36) (as := [.int x5]) (st := [.int x5, .ref (gB G + z2)]) C (k_X6_bondAt (l := gl G) (E := gE G) (hb := gB G) (σ := σ) e7) rfl (by decide) xc_X0_31 q710 qp39 (xck_spec e6) rfl (by decide) (xst4 (Nat.le_of_ble_eq_true rfl)) xsame.rf.le xsame.rf.lim dX0_gather_36 ?_
      obtain ⟨v10, e9, hf⟩ := xbd hf
      refine ww_callSi (pc := 39) (as := [.int v8]) (st := [.int x5, .ref (gB G + z2)]) C (k_J6_signum_0f7a4 (l := gl G) (E := gE G) (hb := gB G) (σ := σ) e9) xc_X0_36 q948 rfl (by decide) (xst4 (Nat.le_of_ble_eq_true rfl)) xsame.rf.le xsame.rf.lim dX0_gather_39 ?_
      refine ww_sub [0, 1, 2, 3, 4, 5] rfl ?_
      exact s_X0_gather_j42 C hf hk
    · have hf := xip q hf
      refine ww_iconst (pc := 29) (v := (0 : Int32)) C dX0_gather_29 (by decide) ?_
      refine ww_goto (pc := 30) (tgt := 42) C dX0_gather_30 (by decide) ?_
      refine ww_sub [0, 1, 2, 3, 4, 5] rfl ?_
      exact s_X0_gather_j42 C hf hk
theorem s_X0_gather_e {G : XG} (C : XC G cX0_gather RX0 none 8 3 75) {σ : XS} {r0 : Nat} {r1 : Nat} {r2 : Nat} {r3 : Nat} {x : XS} (hf : f_X0_gather σ r0 r1 r2 r3 = some x) (hk : XEnd G none x ∧ XUp G x) : WW G 0 [(0, .ref (gB G + r0)), (1, .ref (gB G + r1)), (2, .ref (gB G + r2)), (3, .ref (gB G + r3))] [] σ := by
  refine ww_iconst (pc := 0) (v := (0 : Int32)) C dX0_gather_0 (by decide) ?_
  refine ww_istore (pc := 1) (lv' := [(4, .int (0 : Int32)), (0, .ref (gB G + r0)), (1, .ref (gB G + r1)), (2, .ref (gB G + r2)), (3, .ref (gB G + r3))]) C dX0_gather_1 (by decide) rfl ?_
  refine ww_iconst (pc := 3) (v := (0 : Int32)) C dX0_gather_3 (by decide) ?_
  refine ww_istore (pc := 4) (lv' := [(5, .int (0 : Int32)), (4, .int (0 : Int32)), (0, .ref (gB G + r0)), (1, .ref (gB G + r1)), (2, .ref (gB G + r2)), (3, .ref (gB G + r3))]) C dX0_gather_4 (by decide) rfl ?_
  refine ww_sub [2, 3, 4, 5, 1, 0] rfl ?_
  exact s_X0_gather_l6 C (a := ((0 : Int32), (0 : Int32), σ)) hf hk
theorem m_X0_gather {σ : XS} {r0 : Nat} {r1 : Nat} {r2 : Nat} {r3 : Nat} {x : XS} (hf : f_X0_gather σ r0 r1 r2 r3 = some x) : xext σ x := by
  have hm := xext.rf (σ := σ)
  exact hm.tr (m_X0_gather_l6 (a := ((0 : Int32), (0 : Int32), σ)) hf)
theorem k_X0_gather {l : Launch} {E : XD} {hb : Nat} {σ : XS} {r0 : Nat} {r1 : Nat} {r2 : Nat} {r3 : Nat} {x : XS} (h : f_X0_gather σ r0 r1 r2 r3 = some x) : XM l yX0_gather cX0_gather 8 none 3 75 E hb [.ref (hb + r0), .ref (hb + r1), .ref (hb + r2), .ref (hb + r3)] σ none x := by
  refine xm_of (by decide) (Nat.le_of_ble_eq_true rfl) (m_X0_gather h).1 (fun G hG C hl hQ => ?_)
  obtain ⟨rfl, rfl, rfl, hN⟩ := hG
  exact s_X0_gather_e C h ⟨hQ, hl.2⟩
noncomputable def f_X0_init_j25 (σ : XS) (r0 : Nat) (t0 : Nat) (t1 : Nat) : Option XS := (xnz t1).bind fun _ => (xpR σ t0 0 2 t1).bind fun σ3 => (xpI σ3 r0 0 3 (-1 : Int32)).bind fun σ5 => some σ5
noncomputable def f_X0_init_j17 (σ : XS) (r0 : Nat) (t0 : Nat) (t1 : Nat) : Option XS := (xnz t1).bind fun _ => (xpR σ t0 0 1 t1).bind fun σ3 => (xnA σ3 20 (16 : Int32)).bind fun (z5, σ6) => f_X0_init_j25 σ6 r0 r0 z5
noncomputable def f_X0_init_j9 (σ : XS) (r0 : Nat) (t0 : Nat) (t1 : Nat) : Option XS := (xnz t1).bind fun _ => (xpR σ t0 0 0 t1).bind fun σ3 => (xnA σ3 20 (32 : Int32)).bind fun (z5, σ6) => f_X0_init_j17 σ6 r0 r0 z5
noncomputable def f_X0_init (σ : XS) (r0 : Nat) : Option XS := (xnA σ 20 (33 : Int32)).bind fun (z2, σ3) => f_X0_init_j9 σ3 r0 r0 z2
theorem s_X0_init_j25 {G : XG} (C : XC G cX0_init RX0 none 1 1 20) (hN : (gh G).name = "<init>") {σ : XS} {r0 : Nat} {t0 : Nat} {t1 : Nat} {x : XS} (hf : f_X0_init_j25 σ r0 t0 t1 = some x) (hk : XEnd G none x ∧ XUp G x) : WW G 25 [(0, .ref (gB G + r0))] [.ref (gB G + t1), .ref (gB G + t0)] σ := by
  obtain ⟨_, e1, hf⟩ := xbd hf
  obtain ⟨σ3, e2, hf⟩ := xbd hf
  refine pf_X0_18 (pc := 25) C hN (xnz_spec e1) e2 dX0_init_25 ?_
  refine ww_aload_n (pc := 28) C 0 dX0_init_28 rfl ?_
  refine ww_iconst (pc := 29) (v := (-1 : Int32)) C dX0_init_29 (by decide) ?_
  obtain ⟨σ5, e4, hf⟩ := xbd hf
  refine pf_X0_21 (pc := 30) C e4 dX0_init_30 ?_
  have hf := xsj hf
  subst hf
  exact ww_vret (pc := 33) C hk.1 dX0_init_33
theorem m_X0_init_j25 {σ : XS} {r0 : Nat} {t0 : Nat} {t1 : Nat} {x : XS} (hf : f_X0_init_j25 σ r0 t0 t1 = some x) : xext σ x := by
  have hm := xext.rf (σ := σ)
  obtain ⟨_, e1, hf⟩ := xbd hf
  obtain ⟨σ3, e2, hf⟩ := xbd hf
  have hm := hm.tr (xpR_same e2).ext
  obtain ⟨σ5, e4, hf⟩ := xbd hf
  have hm := hm.tr (xpI_same e4).ext
  have hf := xsj hf
  subst hf
  exact hm
theorem s_X0_init_j17 {G : XG} (C : XC G cX0_init RX0 none 1 1 20) (hN : (gh G).name = "<init>") {σ : XS} {r0 : Nat} {t0 : Nat} {t1 : Nat} {x : XS} (hf : f_X0_init_j17 σ r0 t0 t1 = some x) (hk : XEnd G none x ∧ XUp G x) : WW G 17 [(0, .ref (gB G + r0))] [.ref (gB G + t1), .ref (gB G + t0)] σ := by
  obtain ⟨_, e1, hf⟩ := xbd hf
  obtain ⟨σ3, e2, hf⟩ := xbd hf
  refine pf_X0_15 (pc := 17) C hN (xnz_spec e1) e2 dX0_init_17 ?_
  refine ww_aload_n (pc := 20) C 0 dX0_init_20 rfl ?_
  refine ww_bipush (pc := 21) (v := (16 : Int32)) C dX0_init_21 (by decide) ?_
  obtain ⟨⟨z5, σ6⟩, e4, hf⟩ := xbd hf
  dsimp only at hf
  refine ww_newI (pc := 23) C q77 e4 (fun q => by have hm9 := m_X0_init_j25 hf; exact XLim.mid q (xnA_ext e4) hm9 hk.2) dX0_init_23 ?_
  refine ww_sub [0] rfl ?_
  exact s_X0_init_j25 C hN hf hk
theorem m_X0_init_j17 {σ : XS} {r0 : Nat} {t0 : Nat} {t1 : Nat} {x : XS} (hf : f_X0_init_j17 σ r0 t0 t1 = some x) : xext σ x := by
  have hm := xext.rf (σ := σ)
  obtain ⟨_, e1, hf⟩ := xbd hf
  obtain ⟨σ3, e2, hf⟩ := xbd hf
  have hm := hm.tr (xpR_same e2).ext
  obtain ⟨⟨z5, σ6⟩, e4, hf⟩ := xbd hf
  dsimp only at hf
  have hm := hm.tr (xnA_ext e4)
  exact hm.tr (m_X0_init_j25 hf)
theorem s_X0_init_j9 {G : XG} (C : XC G cX0_init RX0 none 1 1 20) (hN : (gh G).name = "<init>") {σ : XS} {r0 : Nat} {t0 : Nat} {t1 : Nat} {x : XS} (hf : f_X0_init_j9 σ r0 t0 t1 = some x) (hk : XEnd G none x ∧ XUp G x) : WW G 9 [(0, .ref (gB G + r0))] [.ref (gB G + t1), .ref (gB G + t0)] σ := by
  obtain ⟨_, e1, hf⟩ := xbd hf
  obtain ⟨σ3, e2, hf⟩ := xbd hf
  refine pf_X0_9 (pc := 9) C hN (xnz_spec e1) e2 dX0_init_9 ?_
  refine ww_aload_n (pc := 12) C 0 dX0_init_12 rfl ?_
  refine ww_bipush (pc := 13) (v := (32 : Int32)) C dX0_init_13 (by decide) ?_
  obtain ⟨⟨z5, σ6⟩, e4, hf⟩ := xbd hf
  dsimp only at hf
  refine ww_newI (pc := 15) C q77 e4 (fun q => by have hm9 := m_X0_init_j17 hf; exact XLim.mid q (xnA_ext e4) hm9 hk.2) dX0_init_15 ?_
  refine ww_sub [0] rfl ?_
  exact s_X0_init_j17 C hN hf hk
theorem m_X0_init_j9 {σ : XS} {r0 : Nat} {t0 : Nat} {t1 : Nat} {x : XS} (hf : f_X0_init_j9 σ r0 t0 t1 = some x) : xext σ x := by
  have hm := xext.rf (σ := σ)
  obtain ⟨_, e1, hf⟩ := xbd hf
  obtain ⟨σ3, e2, hf⟩ := xbd hf
  have hm := hm.tr (xpR_same e2).ext
  obtain ⟨⟨z5, σ6⟩, e4, hf⟩ := xbd hf
  dsimp only at hf
  have hm := hm.tr (xnA_ext e4)
  exact hm.tr (m_X0_init_j17 hf)
theorem s_X0_init_e {G : XG} (C : XC G cX0_init RX0 none 1 1 20) (hN : (gh G).name = "<init>") {σ : XS} {r0 : Nat} {x : XS} (hf : f_X0_init σ r0 = some x) (hk : XEnd G none x ∧ XUp G x) : WW G 0 [(0, .ref (gB G + r0))] [] σ := by
  refine ww_aload_n (pc := 0) C 0 dX0_init_0 rfl ?_
  refine ww_objInit (pc := 1) C qo_X0_3 qoi qoc ⟨by decide, by decide⟩ dX0_init_1 ?_
  refine ww_aload_n (pc := 4) C 0 dX0_init_4 rfl ?_
  refine ww_bipush (pc := 5) (v := (33 : Int32)) C dX0_init_5 (by decide) ?_
  obtain ⟨⟨z2, σ3⟩, e1, hf⟩ := xbd hf
  dsimp only at hf
  refine ww_newI (pc := 7) C q77 e1 (fun q => by have hm9 := m_X0_init_j9 hf; exact XLim.mid q (xnA_ext e1) hm9 hk.2) dX0_init_7 ?_
  refine ww_sub [0] rfl ?_
  exact s_X0_init_j9 C hN hf hk
theorem m_X0_init {σ : XS} {r0 : Nat} {x : XS} (hf : f_X0_init σ r0 = some x) : xext σ x := by
  have hm := xext.rf (σ := σ)
  obtain ⟨⟨z2, σ3⟩, e1, hf⟩ := xbd hf
  dsimp only at hf
  have hm := hm.tr (xnA_ext e1)
  exact hm.tr (m_X0_init_j9 hf)
theorem k_X0_init {l : Launch} {E : XD} {hb : Nat} {σ : XS} {r0 : Nat} {x : XS} (h : f_X0_init σ r0 = some x) : XM l yX0_init cX0_init 1 none 1 20 E hb [.ref (hb + r0)] σ none x := by
  refine xm_of (by decide) (Nat.le_of_ble_eq_true rfl) (m_X0_init h).1 (fun G hG C hl hQ => ?_)
  obtain ⟨rfl, rfl, rfl, hN⟩ := hG
  exact s_X0_init_e C hN h ⟨hQ, hl.2⟩
noncomputable def f_X0_waysOf (σ : XS) (r0 : Nat) (x1 : Int32) : Option Int32 := if x1 < 0 then (some (0 : Int32)) else (xgR σ r0 0 0).bind fun z2 => (xal σ z2).bind fun v4 => if v4 ≤ x1 then (some (0 : Int32)) else (xgR σ r0 0 0).bind fun z6 => (xaI σ 20 z6 x1).bind fun v8 => some v8
theorem s_X0_waysOf_e {G : XG} (C : XC G cX0_waysOf RX0 (some .int) 2 0 0) {σ : XS} {r0 : Nat} {x1 : Int32} {x : Int32} (hf : f_X0_waysOf σ r0 x1 = some x) (hk : XEnd G (some (.int x)) σ) : WW G 0 [(0, .ref (gB G + r0)), (1, .int x1)] [] σ := by
  refine ww_iload_n (pc := 0) C 1 dX0_waysOf_0 rfl ?_
  refine ww_if_lt (pc := 1) (tgt := 22) C dX0_waysOf_1 (by decide) (fun q => ?_) (fun q => ?_)
  · have hf := xip q hf
    refine ww_iconst (pc := 22) (v := (0 : Int32)) C dX0_waysOf_22 (by decide) ?_
    have hf := xsj hf
    subst hf
    exact ww_iret (pc := 23) C hk dX0_waysOf_23
  · have hf := xin q hf
    refine ww_iload_n (pc := 4) C 1 dX0_waysOf_4 rfl ?_
    refine ww_aload_n (pc := 5) C 0 dX0_waysOf_5 rfl ?_
    obtain ⟨z2, e1, hf⟩ := xbd hf
    refine gf_X0_9 (pc := 6) C e1 dX0_waysOf_6 ?_
    obtain ⟨v4, e3, hf⟩ := xbd hf
    refine ww_alen (pc := 9) C e3 dX0_waysOf_9 ?_
    refine ww_icmp_ge (pc := 10) (tgt := 22) C dX0_waysOf_10 (by decide) (fun q => ?_) (fun q => ?_)
    · have hf := xip q hf
      refine ww_iconst (pc := 22) (v := (0 : Int32)) C dX0_waysOf_22 (by decide) ?_
      have hf := xsj hf
      subst hf
      exact ww_iret (pc := 23) C hk dX0_waysOf_23
    · have hf := xin q hf
      refine ww_aload_n (pc := 13) C 0 dX0_waysOf_13 rfl ?_
      obtain ⟨z6, e5, hf⟩ := xbd hf
      refine gf_X0_9 (pc := 14) C e5 dX0_waysOf_14 ?_
      refine ww_iload_n (pc := 17) C 1 dX0_waysOf_17 rfl ?_
      obtain ⟨v8, e7, hf⟩ := xbd hf
      refine ww_iald (pc := 18) C e7 dX0_waysOf_18 ?_
      refine ww_goto (pc := 19) (tgt := 23) C dX0_waysOf_19 (by decide) ?_
      have hf := xsj hf
      subst hf
      exact ww_iret (pc := 23) C hk dX0_waysOf_23
theorem k_X0_waysOf {l : Launch} {E : XD} {hb : Nat} {σ : XS} {r0 : Nat} {x1 : Int32} {x : Int32} (h : f_X0_waysOf σ r0 x1 = some x) : XM l yX0_waysOf cX0_waysOf 2 (some .int) 0 0 E hb [.ref (hb + r0), .int x1] σ (some (.int x)) σ := by
  refine xm_of (by decide) (Nat.le_of_ble_eq_true rfl) ⟨Nat.le_refl _, Nat.le_refl _⟩ (fun G hG C hl hQ => ?_)
  obtain ⟨rfl, rfl, rfl, hN⟩ := hG
  exact s_X0_waysOf_e C h hQ
noncomputable def f_X6_fieldAt (σ : XS) (r0 : Nat) (x1 : Int32) : Option Int32 := if x1 < 0 then (some (0 : Int32)) else (xgR σ r0 6 1).bind fun z2 => (xal σ z2).bind fun v4 => if v4 ≤ x1 then (some (0 : Int32)) else (xgR σ r0 6 1).bind fun z6 => (xaI σ 20 z6 x1).bind fun v8 => some v8
theorem s_X6_fieldAt_e {G : XG} (C : XC G cX6_fieldAt RX6 (some .int) 2 0 0) {σ : XS} {r0 : Nat} {x1 : Int32} {x : Int32} (hf : f_X6_fieldAt σ r0 x1 = some x) (hk : XEnd G (some (.int x)) σ) : WW G 0 [(0, .ref (gB G + r0)), (1, .int x1)] [] σ := by
  refine ww_iload_n (pc := 0) C 1 dX6_fieldAt_0 rfl ?_
  refine ww_if_lt (pc := 1) (tgt := 22) C dX6_fieldAt_1 (by decide) (fun q => ?_) (fun q => ?_)
  · have hf := xip q hf
    refine ww_iconst (pc := 22) (v := (0 : Int32)) C dX6_fieldAt_22 (by decide) ?_
    have hf := xsj hf
    subst hf
    exact ww_iret (pc := 23) C hk dX6_fieldAt_23
  · have hf := xin q hf
    refine ww_iload_n (pc := 4) C 1 dX6_fieldAt_4 rfl ?_
    refine ww_aload_n (pc := 5) C 0 dX6_fieldAt_5 rfl ?_
    obtain ⟨z2, e1, hf⟩ := xbd hf
    refine gf_X6_15 (pc := 6) C e1 dX6_fieldAt_6 ?_
    obtain ⟨v4, e3, hf⟩ := xbd hf
    refine ww_alen (pc := 9) C e3 dX6_fieldAt_9 ?_
    refine ww_icmp_ge (pc := 10) (tgt := 22) C dX6_fieldAt_10 (by decide) (fun q => ?_) (fun q => ?_)
    · have hf := xip q hf
      refine ww_iconst (pc := 22) (v := (0 : Int32)) C dX6_fieldAt_22 (by decide) ?_
      have hf := xsj hf
      subst hf
      exact ww_iret (pc := 23) C hk dX6_fieldAt_23
    · have hf := xin q hf
      refine ww_aload_n (pc := 13) C 0 dX6_fieldAt_13 rfl ?_
      obtain ⟨z6, e5, hf⟩ := xbd hf
      refine gf_X6_15 (pc := 14) C e5 dX6_fieldAt_14 ?_
      refine ww_iload_n (pc := 17) C 1 dX6_fieldAt_17 rfl ?_
      obtain ⟨v8, e7, hf⟩ := xbd hf
      refine ww_iald (pc := 18) C e7 dX6_fieldAt_18 ?_
      refine ww_goto (pc := 19) (tgt := 23) C dX6_fieldAt_19 (by decide) ?_
      have hf := xsj hf
      subst hf
      exact ww_iret (pc := 23) C hk dX6_fieldAt_23
theorem k_X6_fieldAt {l : Launch} {E : XD} {hb : Nat} {σ : XS} {r0 : Nat} {x1 : Int32} {x : Int32} (h : f_X6_fieldAt σ r0 x1 = some x) : XM l yX6_fieldAt cX6_fieldAt 2 (some .int) 0 0 E hb [.ref (hb + r0), .int x1] σ (some (.int x)) σ := by
  refine xm_of (by decide) (Nat.le_of_ble_eq_true rfl) ⟨Nat.le_refl _, Nat.le_refl _⟩ (fun G hG C hl hQ => ?_)
  obtain ⟨rfl, rfl, rfl, hN⟩ := hG
  exact s_X6_fieldAt_e C h hQ
noncomputable def f_X11_bitOf (x0 : Int32) (x1 : Int32) : Option Int32 := some ((x0 >>> (x1 &&& 31)) &&& (1 : Int32))
theorem s_X11_bitOf_e {G : XG} (C : XC G cX11_bitOf RX11 (some .int) 2 0 0) {σ : XS} {x0 : Int32} {x1 : Int32} {x : Int32} (hf : f_X11_bitOf x0 x1 = some x) (hk : XEnd G (some (.int x)) σ) : WW G 0 [(0, .int x0), (1, .int x1)] [] σ := by
  refine ww_iload_n (pc := 0) C 0 dX11_bitOf_0 rfl ?_
  refine ww_iload_n (pc := 1) C 1 dX11_bitOf_1 rfl ?_
  refine ww_ishr (pc := 2) C dX11_bitOf_2 ?_
  refine ww_iconst (pc := 3) (v := (1 : Int32)) C dX11_bitOf_3 (by decide) ?_
  refine ww_iand (pc := 4) C dX11_bitOf_4 ?_
  have hf := xsj hf
  subst hf
  exact ww_iret (pc := 5) C hk dX11_bitOf_5
theorem k_X11_bitOf {l : Launch} {E : XD} {hb : Nat} {σ : XS} {x0 : Int32} {x1 : Int32} {x : Int32} (h : f_X11_bitOf x0 x1 = some x) : XM l yX11_bitOf cX11_bitOf 2 (some .int) 0 0 E hb [.int x0, .int x1] σ (some (.int x)) σ := by
  refine xm_of (by decide) (Nat.le_of_ble_eq_true rfl) ⟨Nat.le_refl _, Nat.le_refl _⟩ (fun G hG C hl hQ => ?_)
  obtain ⟨rfl, rfl, rfl, hN⟩ := hG
  exact s_X11_bitOf_e C h hQ
noncomputable def f_X3_costOfTurn_j99 (σ : XS) (x2 : Int32) (x3 : Int32) (x4 : Int32) : Option Int32 := (f_X11_bitOf x2 x3).bind fun v2 => if v2 = (1 : Int32) then (some ((2 : Int32) * x4)) else some ((-2 : Int32) * x4)
noncomputable def f_X3_costOfTurn_b28 (σ : XS) (r0 : Nat) (r1 : Nat) (x2 : Int32) (x3 : Int32) (x5 : Int32) : Int32 × Int32 → Option ((Int32 × Int32) ⊕ (Int32)) := fun a => match a with
  | (x4, x6) => (xgR σ r0 3 3).bind fun z2 => (xaI σ 20 z2 x3).bind fun v4 => if (x5 + v4) ≤ x6 then ((f_X3_costOfTurn_j99 σ x2 x3 x4).map .inr) else (xgR σ r0 3 1).bind fun z6 => (xal σ z6).bind fun v8 => if v8 ≤ x6 then ((f_X3_costOfTurn_j99 σ x2 x3 x4).map .inr) else (xgR σ r0 3 2).bind fun z10 => (xaI σ 20 z10 x6).bind fun v12 => (xck σ r1 6).bind fun _ => (f_X6_bondAt σ r1 v12).bind fun v15 => (xgR σ r0 3 1).bind fun z17 => (xaI σ 20 z17 x6).bind fun v19 => (f_X11_bitOf x2 v19).bind fun v21 => if v21 = (1 : Int32) then (some (.inl (x4 + v15, x6 + (1 : Int32)))) else some (.inl (x4 + (-v15), x6 + (1 : Int32)))
noncomputable def f_X3_costOfTurn (σ : XS) (r0 : Nat) (r1 : Nat) (x2 : Int32) (x3 : Int32) : Option Int32 := if x3 < 0 then (some (0 : Int32)) else if x3 < (16 : Int32) then ((xck σ r1 6).bind fun _ => (f_X6_fieldAt σ r1 x3).bind fun v3 => xloop (f_X3_costOfTurn_b28 σ r0 r1 x2 x3 ((4 : Int32) * x3)) (v3, (4 : Int32) * x3)) else some (0 : Int32)
theorem s_X3_costOfTurn_j99 {G : XG} (C : XC G cX3_costOfTurn RX3 (some .int) 8 1 21) {σ : XS} {x2 : Int32} {x3 : Int32} {x4 : Int32} {x : Int32} (hf : f_X3_costOfTurn_j99 σ x2 x3 x4 = some x) (hk : XEnd G (some (.int x)) σ) : WW G 99 [(2, .int x2), (3, .int x3), (4, .int x4)] [] σ := by
  refine ww_iload_n (pc := 99) C 0 dX3_costOfTurn_99 rfl ?_
  refine ww_iload_n (pc := 100) C 1 dX3_costOfTurn_100 rfl ?_
  obtain ⟨v2, e1, hf⟩ := xbd hf
  refine ww_callSi (pc := 101) (as := [.int x2, .int x3]) (st := []) C (k_X11_bitOf (l := gl G) (E := gE G) (hb := gB G) (σ := σ) e1) xc_X3_62 q655 rfl (by decide) (xst4 (Nat.le_of_ble_eq_true rfl)) xsame.rf.le xsame.rf.lim dX3_costOfTurn_101 ?_
  refine ww_iconst (pc := 104) (v := (1 : Int32)) C dX3_costOfTurn_104 (by decide) ?_
  refine ww_icmp_ne (pc := 105) (tgt := 115) C dX3_costOfTurn_105 (by decide) (fun q => ?_) (fun q => ?_)
  · have hf := xin q hf
    refine ww_bipush (pc := 115) (v := (-2 : Int32)) C dX3_costOfTurn_115 (by decide) ?_
    refine ww_iload (pc := 117) C 2 dX3_costOfTurn_117 rfl ?_
    refine ww_imul (pc := 119) C dX3_costOfTurn_119 ?_
    have hf := xsj hf
    subst hf
    exact ww_iret (pc := 120) C hk dX3_costOfTurn_120
  · have hf := xip q hf
    refine ww_iconst (pc := 108) (v := (2 : Int32)) C dX3_costOfTurn_108 (by decide) ?_
    refine ww_iload (pc := 109) C 2 dX3_costOfTurn_109 rfl ?_
    refine ww_imul (pc := 111) C dX3_costOfTurn_111 ?_
    refine ww_goto (pc := 112) (tgt := 120) C dX3_costOfTurn_112 (by decide) ?_
    have hf := xsj hf
    subst hf
    exact ww_iret (pc := 120) C hk dX3_costOfTurn_120
theorem s_X3_costOfTurn_l28 {G : XG} (C : XC G cX3_costOfTurn RX3 (some .int) 8 1 21) {σ : XS} {r0 : Nat} {r1 : Nat} {x2 : Int32} {x3 : Int32} {x5 : Int32} {a : Int32 × Int32} {x : Int32} (hf : xloop (f_X3_costOfTurn_b28 σ r0 r1 x2 x3 x5) a = some x) (hk : XEnd G (some (.int x)) σ) : WW G 28 [(0, .ref (gB G + r0)), (1, .ref (gB G + r1)), (2, .int x2), (3, .int x3), (4, .int a.1), (5, .int x5), (6, .int a.2)] [] σ := by
  refine xloop_ind (P := fun a => WW G 28 [(0, .ref (gB G + r0)), (1, .ref (gB G + r1)), (2, .int x2), (3, .int x3), (4, .int a.1), (5, .int x5), (6, .int a.2)] [] σ) (fun a y hf hc he => ?_) hf
  obtain ⟨x4, x6⟩ := a
  have hk : (∀ a' : Int32 × Int32, y = .inl a' → WW G 28 [(0, .ref (gB G + r0)), (1, .ref (gB G + r1)), (2, .int x2), (3, .int x3), (4, .int a'.1), (5, .int x5), (6, .int a'.2)] [] σ) ∧ (∀ b1 : Int32, y = .inr b1 → XEnd G (some (.int b1)) σ) := ⟨hc, fun b e => by have h9 := he b e; subst h9; exact hk⟩
  refine ww_iload (pc := 28) C 6 dX3_costOfTurn_28 rfl ?_
  refine ww_iload (pc := 30) C 5 dX3_costOfTurn_30 rfl ?_
  refine ww_aload_n (pc := 32) C 0 dX3_costOfTurn_32 rfl ?_
  obtain ⟨z2, e1, hf⟩ := xbd hf
  refine gf_X3_21 (pc := 33) C e1 dX3_costOfTurn_33 ?_
  refine ww_iload_n (pc := 36) C 3 dX3_costOfTurn_36 rfl ?_
  obtain ⟨v4, e3, hf⟩ := xbd hf
  refine ww_iald (pc := 37) C e3 dX3_costOfTurn_37 ?_
  refine ww_iadd (pc := 38) C dX3_costOfTurn_38 ?_
  refine ww_icmp_ge (pc := 39) (tgt := 99) C dX3_costOfTurn_39 (by decide) (fun q => ?_) (fun q => ?_)
  · have hf := xip q hf
    obtain ⟨b0, hg, e9⟩ := xmj hf
    subst e9
    have hf := hg
    have hk := hk.2 _ rfl
    refine ww_sub [2, 3, 4] rfl ?_
    exact s_X3_costOfTurn_j99 C hf hk
  · have hf := xin q hf
    refine ww_iload (pc := 42) C 6 dX3_costOfTurn_42 rfl ?_
    refine ww_aload_n (pc := 44) C 0 dX3_costOfTurn_44 rfl ?_
    obtain ⟨z6, e5, hf⟩ := xbd hf
    refine gf_X3_15 (pc := 45) C e5 dX3_costOfTurn_45 ?_
    obtain ⟨v8, e7, hf⟩ := xbd hf
    refine ww_alen (pc := 48) C e7 dX3_costOfTurn_48 ?_
    refine ww_icmp_ge (pc := 49) (tgt := 99) C dX3_costOfTurn_49 (by decide) (fun q => ?_) (fun q => ?_)
    · have hf := xip q hf
      obtain ⟨b0, hg, e9⟩ := xmj hf
      subst e9
      have hf := hg
      have hk := hk.2 _ rfl
      refine ww_sub [2, 3, 4] rfl ?_
      exact s_X3_costOfTurn_j99 C hf hk
    · have hf := xin q hf
      refine ww_aload_n (pc := 52) C 1 dX3_costOfTurn_52 rfl ?_
      refine ww_aload_n (pc := 53) C 0 dX3_costOfTurn_53 rfl ?_
      obtain ⟨z10, e9, hf⟩ := xbd hf
      refine gf_X3_18 (pc := 54) C e9 dX3_costOfTurn_54 ?_
      refine ww_iload (pc := 57) C 6 dX3_costOfTurn_57 rfl ?_
      obtain ⟨v12, e11, hf⟩ := xbd hf
      refine ww_iald (pc := 59) C e11 dX3_costOfTurn_59 ?_
      obtain ⟨_, e13, hf⟩ := xbd hf
      obtain ⟨v15, e14, hf⟩ := xbd hf
      refine ww_callVi (pc := 60) (as := [.int v12]) (st := []) C (k_X6_bondAt (l := gl G) (E := gE G) (hb := gB G) (σ := σ) e14) rfl (by decide) xc_X3_70 q710 qp39 (xck_spec e13) rfl (by decide) (xst4 (Nat.le_of_ble_eq_true rfl)) xsame.rf.le xsame.rf.lim dX3_costOfTurn_60 ?_
      refine ww_istore (pc := 63) (lv' := [(7, .int v15), (0, .ref (gB G + r0)), (1, .ref (gB G + r1)), (2, .int x2), (3, .int x3), (4, .int x4), (5, .int x5), (6, .int x6)]) C dX3_costOfTurn_63 (by decide) rfl ?_
      refine ww_iload (pc := 65) C 5 dX3_costOfTurn_65 rfl ?_
      refine ww_iload_n (pc := 67) C 3 dX3_costOfTurn_67 rfl ?_
      refine ww_aload_n (pc := 68) C 1 dX3_costOfTurn_68 rfl ?_
      obtain ⟨z17, e16, hf⟩ := xbd hf
      refine gf_X3_15 (pc := 69) C e16 dX3_costOfTurn_69 ?_
      refine ww_iload (pc := 72) C 7 dX3_costOfTurn_72 rfl ?_
      obtain ⟨v19, e18, hf⟩ := xbd hf
      refine ww_iald (pc := 74) C e18 dX3_costOfTurn_74 ?_
      obtain ⟨v21, e20, hf⟩ := xbd hf
      refine ww_callSi (pc := 75) (as := [.int x2, .int v19]) (st := [.int x4]) C (k_X11_bitOf (l := gl G) (E := gE G) (hb := gB G) (σ := σ) e20) xc_X3_62 q655 rfl (by decide) (xst4 (Nat.le_of_ble_eq_true rfl)) xsame.rf.le xsame.rf.lim dX3_costOfTurn_75 ?_
      refine ww_iconst (pc := 78) (v := (1 : Int32)) C dX3_costOfTurn_78 (by decide) ?_
      refine ww_icmp_ne (pc := 79) (tgt := 87) C dX3_costOfTurn_79 (by decide) (fun q => ?_) (fun q => ?_)
      · have hf := xin q hf
        refine ww_iload (pc := 87) C 0 dX3_costOfTurn_87 rfl ?_
        refine ww_ineg (pc := 89) C dX3_costOfTurn_89 ?_
        refine ww_iadd (pc := 90) C dX3_costOfTurn_90 ?_
        refine ww_istore (pc := 91) (lv' := [(4, .int (x4 + (-v15))), (7, .int v15), (0, .ref (gB G + r0)), (1, .ref (gB G + r1)), (2, .int x2), (3, .int x3), (5, .int x5), (6, .int x6)]) C dX3_costOfTurn_91 (by decide) rfl ?_
        refine ww_iinc (pc := 93) (v := x6 + (1 : Int32)) (lv' := [(6, .int (x6 + (1 : Int32))), (4, .int (x4 + (-v15))), (7, .int v15), (0, .ref (gB G + r0)), (1, .ref (gB G + r1)), (2, .int x2), (3, .int x3), (5, .int x5)]) C 7 dX3_costOfTurn_93 rfl (congrArg (fun z => x6 + z) (show Int32.ofInt (1) = (1 : Int32) by decide)) (by decide) rfl ?_
        refine ww_goto (pc := 96) (tgt := 28) C dX3_costOfTurn_96 (by decide) ?_
        have hf := xsj hf
        subst hf
        refine ww_sub [3, 4, 5, 6, 1, 7, 0] rfl ?_
        exact hk.1 (x4 + (-v15), x6 + (1 : Int32)) rfl
      · have hf := xip q hf
        refine ww_iload (pc := 82) C 0 dX3_costOfTurn_82 rfl ?_
        refine ww_goto (pc := 84) (tgt := 90) C dX3_costOfTurn_84 (by decide) ?_
        refine ww_iadd (pc := 90) C dX3_costOfTurn_90 ?_
        refine ww_istore (pc := 91) (lv' := [(4, .int (x4 + v15)), (7, .int v15), (0, .ref (gB G + r0)), (1, .ref (gB G + r1)), (2, .int x2), (3, .int x3), (5, .int x5), (6, .int x6)]) C dX3_costOfTurn_91 (by decide) rfl ?_
        refine ww_iinc (pc := 93) (v := x6 + (1 : Int32)) (lv' := [(6, .int (x6 + (1 : Int32))), (4, .int (x4 + v15)), (7, .int v15), (0, .ref (gB G + r0)), (1, .ref (gB G + r1)), (2, .int x2), (3, .int x3), (5, .int x5)]) C 7 dX3_costOfTurn_93 rfl (congrArg (fun z => x6 + z) (show Int32.ofInt (1) = (1 : Int32) by decide)) (by decide) rfl ?_
        refine ww_goto (pc := 96) (tgt := 28) C dX3_costOfTurn_96 (by decide) ?_
        have hf := xsj hf
        subst hf
        refine ww_sub [3, 4, 5, 6, 1, 7, 0] rfl ?_
        exact hk.1 (x4 + v15, x6 + (1 : Int32)) rfl
theorem s_X3_costOfTurn_e {G : XG} (C : XC G cX3_costOfTurn RX3 (some .int) 8 1 21) {σ : XS} {r0 : Nat} {r1 : Nat} {x2 : Int32} {x3 : Int32} {x : Int32} (hf : f_X3_costOfTurn σ r0 r1 x2 x3 = some x) (hk : XEnd G (some (.int x)) σ) : WW G 0 [(0, .ref (gB G + r0)), (1, .ref (gB G + r1)), (2, .int x2), (3, .int x3)] [] σ := by
  refine ww_iload_n (pc := 0) C 3 dX3_costOfTurn_0 rfl ?_
  refine ww_if_lt (pc := 1) (tgt := 10) C dX3_costOfTurn_1 (by decide) (fun q => ?_) (fun q => ?_)
  · have hf := xip q hf
    refine ww_iconst (pc := 10) (v := (0 : Int32)) C dX3_costOfTurn_10 (by decide) ?_
    have hf := xsj hf
    subst hf
    exact ww_iret (pc := 11) C hk dX3_costOfTurn_11
  · have hf := xin q hf
    refine ww_iload_n (pc := 4) C 3 dX3_costOfTurn_4 rfl ?_
    refine ww_bipush (pc := 5) (v := (16 : Int32)) C dX3_costOfTurn_5 (by decide) ?_
    refine ww_icmp_lt (pc := 7) (tgt := 12) C dX3_costOfTurn_7 (by decide) (fun q => ?_) (fun q => ?_)
    · have hf := xip q hf
      refine ww_aload_n (pc := 12) C 1 dX3_costOfTurn_12 rfl ?_
      refine ww_iload_n (pc := 13) C 3 dX3_costOfTurn_13 rfl ?_
      obtain ⟨_, e1, hf⟩ := xbd hf
      obtain ⟨v3, e2, hf⟩ := xbd hf
      refine ww_callVi (pc := 14) (as := [.int x3]) (st := []) C (k_X6_fieldAt (l := gl G) (E := gE G) (hb := gB G) (σ := σ) e2) rfl (by decide) xc_X3_75 q728 qp41 (xck_spec e1) rfl (by decide) (xst4 (Nat.le_of_ble_eq_true rfl)) xsame.rf.le xsame.rf.lim dX3_costOfTurn_14 ?_
      refine ww_istore (pc := 17) (lv' := [(4, .int v3), (0, .ref (gB G + r0)), (1, .ref (gB G + r1)), (2, .int x2), (3, .int x3)]) C dX3_costOfTurn_17 (by decide) rfl ?_
      refine ww_iconst (pc := 19) (v := (4 : Int32)) C dX3_costOfTurn_19 (by decide) ?_
      refine ww_iload_n (pc := 20) C 4 dX3_costOfTurn_20 rfl ?_
      refine ww_imul (pc := 21) C dX3_costOfTurn_21 ?_
      refine ww_istore (pc := 22) (lv' := [(5, .int ((4 : Int32) * x3)), (4, .int v3), (0, .ref (gB G + r0)), (1, .ref (gB G + r1)), (2, .int x2), (3, .int x3)]) C dX3_costOfTurn_22 (by decide) rfl ?_
      refine ww_iload (pc := 24) C 0 dX3_costOfTurn_24 rfl ?_
      refine ww_istore (pc := 26) (lv' := [(6, .int ((4 : Int32) * x3)), (5, .int ((4 : Int32) * x3)), (4, .int v3), (0, .ref (gB G + r0)), (1, .ref (gB G + r1)), (2, .int x2), (3, .int x3)]) C dX3_costOfTurn_26 (by decide) rfl ?_
      refine ww_sub [3, 4, 5, 6, 2, 1, 0] rfl ?_
      exact s_X3_costOfTurn_l28 C (a := (v3, (4 : Int32) * x3)) hf hk
    · have hf := xin q hf
      refine ww_iconst (pc := 10) (v := (0 : Int32)) C dX3_costOfTurn_10 (by decide) ?_
      have hf := xsj hf
      subst hf
      exact ww_iret (pc := 11) C hk dX3_costOfTurn_11
theorem k_X3_costOfTurn {l : Launch} {E : XD} {hb : Nat} {σ : XS} {r0 : Nat} {r1 : Nat} {x2 : Int32} {x3 : Int32} {x : Int32} (h : f_X3_costOfTurn σ r0 r1 x2 x3 = some x) : XM l yX3_costOfTurn cX3_costOfTurn 8 (some .int) 1 21 E hb [.ref (hb + r0), .ref (hb + r1), .int x2, .int x3] σ (some (.int x)) σ := by
  refine xm_of (by decide) (Nat.le_of_ble_eq_true rfl) ⟨Nat.le_refl _, Nat.le_refl _⟩ (fun G hG C hl hQ => ?_)
  obtain ⟨rfl, rfl, rfl, hN⟩ := hG
  exact s_X3_costOfTurn_e C h hQ
noncomputable def f_X6_isPinned (σ : XS) (r0 : Nat) (x1 : Int32) : Option Int32 := (xgI σ r0 6 2).bind fun v2 => (f_X11_bitOf v2 x1).bind fun v4 => if v4 = (1 : Int32) then (some (1 : Int32)) else some (0 : Int32)
theorem s_X6_isPinned_e {G : XG} (C : XC G cX6_isPinned RX6 (some .boolean) 2 1 21) {σ : XS} {r0 : Nat} {x1 : Int32} {x : Int32} (hf : f_X6_isPinned σ r0 x1 = some x) (hk : XEnd G (some (.int x)) σ) : WW G 0 [(0, .ref (gB G + r0)), (1, .int x1)] [] σ := by
  refine ww_aload_n (pc := 0) C 0 dX6_isPinned_0 rfl ?_
  obtain ⟨v2, e1, hf⟩ := xbd hf
  refine gf_X6_24 (pc := 1) C e1 dX6_isPinned_1 ?_
  refine ww_iload_n (pc := 4) C 1 dX6_isPinned_4 rfl ?_
  obtain ⟨v4, e3, hf⟩ := xbd hf
  refine ww_callSi (pc := 5) (as := [.int v2, .int x1]) (st := []) C (k_X11_bitOf (l := gl G) (E := gE G) (hb := gB G) (σ := σ) e3) xc_X6_49 q655 rfl (by decide) (xst4 (Nat.le_of_ble_eq_true rfl)) xsame.rf.le xsame.rf.lim dX6_isPinned_5 ?_
  refine ww_iconst (pc := 8) (v := (1 : Int32)) C dX6_isPinned_8 (by decide) ?_
  refine ww_icmp_ne (pc := 9) (tgt := 16) C dX6_isPinned_9 (by decide) (fun q => ?_) (fun q => ?_)
  · have hf := xin q hf
    refine ww_iconst (pc := 16) (v := (0 : Int32)) C dX6_isPinned_16 (by decide) ?_
    have hf := xsj hf
    subst hf
    exact ww_zret (pc := 17) C rfl hk dX6_isPinned_17
  · have hf := xip q hf
    refine ww_iconst (pc := 12) (v := (1 : Int32)) C dX6_isPinned_12 (by decide) ?_
    refine ww_goto (pc := 13) (tgt := 17) C dX6_isPinned_13 (by decide) ?_
    have hf := xsj hf
    subst hf
    exact ww_zret (pc := 17) C rfl hk dX6_isPinned_17
theorem k_X6_isPinned {l : Launch} {E : XD} {hb : Nat} {σ : XS} {r0 : Nat} {x1 : Int32} {x : Int32} (h : f_X6_isPinned σ r0 x1 = some x) : XM l yX6_isPinned cX6_isPinned 2 (some .boolean) 1 21 E hb [.ref (hb + r0), .int x1] σ (some (.int x)) σ := by
  refine xm_of (by decide) (Nat.le_of_ble_eq_true rfl) ⟨Nat.le_refl _, Nat.le_refl _⟩ (fun G hG C hl hQ => ?_)
  obtain ⟨rfl, rfl, rfl, hN⟩ := hG
  exact s_X6_isPinned_e C h hQ
noncomputable def f_X3_steepest_b8 (σ : XS) (r0 : Nat) (r1 : Nat) (x2 : Int32) : Int32 × Int32 × Int32 → Option ((Int32 × Int32 × Int32) ⊕ (Int32)) := fun a => match a with
  | (x3, x4, x5) => (xgI σ r0 3 7).bind fun v2 => if v2 ≤ x5 then ((some x3).map .inr) else (xck σ r0 3).bind fun _ => (f_X3_costOfTurn σ r0 r1 x2 x5).bind fun v5 => if x4 ≤ v5 then (some (.inl (x3, x4, x5 + (1 : Int32)))) else (xck σ r1 6).bind fun _ => (f_X6_isPinned σ r1 x5).bind fun v8 => if v8 = 0 then (some (.inl (x5, v5, x5 + (1 : Int32)))) else some (.inl (x3, x4, x5 + (1 : Int32)))
noncomputable def f_X3_steepest (σ : XS) (r0 : Nat) (r1 : Nat) (x2 : Int32) : Option Int32 := xloop (f_X3_steepest_b8 σ r0 r1 x2) ((-1 : Int32), (0 : Int32), (0 : Int32))
theorem s_X3_steepest_l8 {G : XG} (C : XC G cX3_steepest RX3 (some .int) 7 2 48) {σ : XS} {r0 : Nat} {r1 : Nat} {x2 : Int32} {a : Int32 × Int32 × Int32} {x : Int32} (hf : xloop (f_X3_steepest_b8 σ r0 r1 x2) a = some x) (hk : XEnd G (some (.int x)) σ) : WW G 8 [(0, .ref (gB G + r0)), (1, .ref (gB G + r1)), (2, .int x2), (3, .int a.1), (4, .int a.2.1), (5, .int a.2.2)] [] σ := by
  refine xloop_ind (P := fun a => WW G 8 [(0, .ref (gB G + r0)), (1, .ref (gB G + r1)), (2, .int x2), (3, .int a.1), (4, .int a.2.1), (5, .int a.2.2)] [] σ) (fun a y hf hc he => ?_) hf
  obtain ⟨x3, x4, x5⟩ := a
  have hk : (∀ a' : Int32 × Int32 × Int32, y = .inl a' → WW G 8 [(0, .ref (gB G + r0)), (1, .ref (gB G + r1)), (2, .int x2), (3, .int a'.1), (4, .int a'.2.1), (5, .int a'.2.2)] [] σ) ∧ (∀ b1 : Int32, y = .inr b1 → XEnd G (some (.int b1)) σ) := ⟨hc, fun b e => by have h9 := he b e; subst h9; exact hk⟩
  refine ww_iload (pc := 8) C 5 dX3_steepest_8 rfl ?_
  refine ww_aload_n (pc := 10) C 0 dX3_steepest_10 rfl ?_
  obtain ⟨v2, e1, hf⟩ := xbd hf
  refine gf_X3_40 (pc := 11) C e1 dX3_steepest_11 ?_
  refine ww_icmp_ge (pc := 14) (tgt := 56) C dX3_steepest_14 (by decide) (fun q => ?_) (fun q => ?_)
  · have hf := xip q hf
    obtain ⟨b0, hg, e9⟩ := xmj hf
    subst e9
    have hf := hg
    have hk := hk.2 _ rfl
    refine ww_iload_n (pc := 56) C 3 dX3_steepest_56 rfl ?_
    have hf := xsj hf
    subst hf
    exact ww_iret (pc := 57) C hk dX3_steepest_57
  · have hf := xin q hf
    refine ww_aload_n (pc := 17) C 0 dX3_steepest_17 rfl ?_
    refine ww_aload_n (pc := 18) C 1 dX3_steepest_18 rfl ?_
    refine ww_iload_n (pc := 19) C 2 dX3_steepest_19 rfl ?_
    refine ww_iload (pc := 20) C 5 dX3_steepest_20 rfl ?_
    obtain ⟨_, e3, hf⟩ := xbd hf
    obtain ⟨v5, e4, hf⟩ := xbd hf
    refine ww_callVi (pc := 22) (as := [.ref (gB G + r1), .int x2, .int x5]) (st := []) C (k_X3_costOfTurn (l := gl G) (E := gE G) (hb := gB G) (σ := σ) e4) rfl (by decide) xc_X3_78 q783 qp47 (xck_spec e3) rfl (by decide) (xst4 (Nat.le_of_ble_eq_true rfl)) xsame.rf.le xsame.rf.lim dX3_steepest_22 ?_
    refine ww_istore (pc := 25) (lv' := [(6, .int v5), (0, .ref (gB G + r0)), (1, .ref (gB G + r1)), (2, .int x2), (3, .int x3), (4, .int x4), (5, .int x5)]) C dX3_steepest_25 (by decide) rfl ?_
    refine ww_iload (pc := 27) C 0 dX3_steepest_27 rfl ?_
    refine ww_iload (pc := 29) C 5 dX3_steepest_29 rfl ?_
    refine ww_icmp_ge (pc := 31) (tgt := 50) C dX3_steepest_31 (by decide) (fun q => ?_) (fun q => ?_)
    · have hf := xip q hf
      refine ww_iinc (pc := 50) (v := x5 + (1 : Int32)) (lv' := [(5, .int (x5 + (1 : Int32))), (6, .int v5), (0, .ref (gB G + r0)), (1, .ref (gB G + r1)), (2, .int x2), (3, .int x3), (4, .int x4)]) C 6 dX3_steepest_50 rfl (congrArg (fun z => x5 + z) (show Int32.ofInt (1) = (1 : Int32) by decide)) (by decide) rfl ?_
      refine ww_goto (pc := 53) (tgt := 8) C dX3_steepest_53 (by decide) ?_
      have hf := xsj hf
      subst hf
      refine ww_sub [2, 3, 4, 5, 6, 0] rfl ?_
      exact hk.1 (x3, x4, x5 + (1 : Int32)) rfl
    · have hf := xin q hf
      refine ww_aload_n (pc := 34) C 2 dX3_steepest_34 rfl ?_
      refine ww_iload (pc := 35) C 6 dX3_steepest_35 rfl ?_
      obtain ⟨_, e6, hf⟩ := xbd hf
      obtain ⟨v8, e7, hf⟩ := xbd hf
      refine ww_callVi (pc := 37) (as := [.int x5]) (st := []) C (k_X6_isPinned (l := gl G) (E := gE G) (hb := gB G) (σ := σ) e7) rfl (by decide) xc_X3_82 q741 qp43 (xck_spec e6) rfl (by decide) (xst4 (Nat.le_of_ble_eq_true rfl)) xsame.rf.le xsame.rf.lim dX3_steepest_37 ?_
      refine ww_if_ne (pc := 40) (tgt := 50) C dX3_steepest_40 (by decide) (fun q => ?_) (fun q => ?_)
      · have hf := xin q hf
        refine ww_iinc (pc := 50) (v := x5 + (1 : Int32)) (lv' := [(5, .int (x5 + (1 : Int32))), (6, .int v5), (0, .ref (gB G + r0)), (1, .ref (gB G + r1)), (2, .int x2), (3, .int x3), (4, .int x4)]) C 6 dX3_steepest_50 rfl (congrArg (fun z => x5 + z) (show Int32.ofInt (1) = (1 : Int32) by decide)) (by decide) rfl ?_
        refine ww_goto (pc := 53) (tgt := 8) C dX3_steepest_53 (by decide) ?_
        have hf := xsj hf
        subst hf
        refine ww_sub [2, 3, 4, 5, 6, 0] rfl ?_
        exact hk.1 (x3, x4, x5 + (1 : Int32)) rfl
      · have hf := xip q hf
        refine ww_iload (pc := 43) C 0 dX3_steepest_43 rfl ?_
        refine ww_istore (pc := 45) (lv' := [(4, .int v5), (6, .int v5), (0, .ref (gB G + r0)), (1, .ref (gB G + r1)), (2, .int x2), (3, .int x3), (5, .int x5)]) C dX3_steepest_45 (by decide) rfl ?_
        refine ww_iload (pc := 47) C 6 dX3_steepest_47 rfl ?_
        refine ww_istore_n (pc := 49) (lv' := [(3, .int x5), (4, .int v5), (6, .int v5), (0, .ref (gB G + r0)), (1, .ref (gB G + r1)), (2, .int x2), (5, .int x5)]) C dX3_steepest_49 (by decide) rfl ?_
        refine ww_iinc (pc := 50) (v := x5 + (1 : Int32)) (lv' := [(5, .int (x5 + (1 : Int32))), (3, .int x5), (4, .int v5), (6, .int v5), (0, .ref (gB G + r0)), (1, .ref (gB G + r1)), (2, .int x2)]) C 6 dX3_steepest_50 rfl (congrArg (fun z => x5 + z) (show Int32.ofInt (1) = (1 : Int32) by decide)) (by decide) rfl ?_
        refine ww_goto (pc := 53) (tgt := 8) C dX3_steepest_53 (by decide) ?_
        have hf := xsj hf
        subst hf
        refine ww_sub [4, 5, 6, 1, 2, 0] rfl ?_
        exact hk.1 (x5, v5, x5 + (1 : Int32)) rfl
theorem s_X3_steepest_e {G : XG} (C : XC G cX3_steepest RX3 (some .int) 7 2 48) {σ : XS} {r0 : Nat} {r1 : Nat} {x2 : Int32} {x : Int32} (hf : f_X3_steepest σ r0 r1 x2 = some x) (hk : XEnd G (some (.int x)) σ) : WW G 0 [(0, .ref (gB G + r0)), (1, .ref (gB G + r1)), (2, .int x2)] [] σ := by
  refine ww_iconst (pc := 0) (v := (-1 : Int32)) C dX3_steepest_0 (by decide) ?_
  refine ww_istore_n (pc := 1) (lv' := [(3, .int (-1 : Int32)), (0, .ref (gB G + r0)), (1, .ref (gB G + r1)), (2, .int x2)]) C dX3_steepest_1 (by decide) rfl ?_
  refine ww_iconst (pc := 2) (v := (0 : Int32)) C dX3_steepest_2 (by decide) ?_
  refine ww_istore (pc := 3) (lv' := [(4, .int (0 : Int32)), (3, .int (-1 : Int32)), (0, .ref (gB G + r0)), (1, .ref (gB G + r1)), (2, .int x2)]) C dX3_steepest_3 (by decide) rfl ?_
  refine ww_iconst (pc := 5) (v := (0 : Int32)) C dX3_steepest_5 (by decide) ?_
  refine ww_istore (pc := 6) (lv' := [(5, .int (0 : Int32)), (4, .int (0 : Int32)), (3, .int (-1 : Int32)), (0, .ref (gB G + r0)), (1, .ref (gB G + r1)), (2, .int x2)]) C dX3_steepest_6 (by decide) rfl ?_
  refine ww_sub [3, 4, 5, 2, 1, 0] rfl ?_
  exact s_X3_steepest_l8 C (a := ((-1 : Int32), (0 : Int32), (0 : Int32))) hf hk
theorem k_X3_steepest {l : Launch} {E : XD} {hb : Nat} {σ : XS} {r0 : Nat} {r1 : Nat} {x2 : Int32} {x : Int32} (h : f_X3_steepest σ r0 r1 x2 = some x) : XM l yX3_steepest cX3_steepest 7 (some .int) 2 48 E hb [.ref (hb + r0), .ref (hb + r1), .int x2] σ (some (.int x)) σ := by
  refine xm_of (by decide) (Nat.le_of_ble_eq_true rfl) ⟨Nat.le_refl _, Nat.le_refl _⟩ (fun G hG C hl hQ => ?_)
  obtain ⟨rfl, rfl, rfl, hN⟩ := hG
  exact s_X3_steepest_e C h hQ
noncomputable def f_X10_fallFrom_b24 (r0 : Nat) (r1 : Nat) (r2 : Nat) : Int32 × Int32 × XS → Option ((Int32 × Int32 × XS) ⊕ (XS)) := fun a => match a with
  | (x4, x5, σ) => if (289 : Int32) ≤ x5 then ((some σ).map .inr) else if x4 = (-1 : Int32) then ((some σ).map .inr) else (xgI σ r0 10 0).bind fun v2 => (xpI σ r0 10 0 (v2 ^^^ ((1 : Int32) <<< (x4 &&& 31)))).bind fun σ4 => (xgI σ4 r0 10 1).bind fun v6 => (xpI σ4 r0 10 1 (v6 + (1 : Int32))).bind fun σ8 => (xgI σ8 r0 10 0).bind fun v10 => (xck σ8 r1 3).bind fun _ => (f_X3_steepest σ8 r1 r2 v10).bind fun v13 => some (.inl (v13, x5 + (1 : Int32), σ8))
noncomputable def f_X10_fallFrom (σ : XS) (r0 : Nat) (r1 : Nat) (r2 : Nat) (x3 : Int32) : Option XS := (xpI σ r0 10 0 x3).bind fun σ2 => (xpI σ2 r0 10 1 (0 : Int32)).bind fun σ4 => (xgI σ4 r0 10 0).bind fun v6 => (xck σ4 r1 3).bind fun _ => (f_X3_steepest σ4 r1 r2 v6).bind fun v9 => xloop (f_X10_fallFrom_b24 r0 r1 r2) (v9, (0 : Int32), σ4)
theorem m_X10_fallFrom_l24 {r0 : Nat} {r1 : Nat} {r2 : Nat} {a : Int32 × Int32 × XS} {x : XS} (hf : xloop (f_X10_fallFrom_b24 r0 r1 r2) a = some x) : xsame a.2.2 x := by
  refine xloop_ind (P := fun a => xsame a.2.2 x) (fun a y hf hc he => ?_) hf
  obtain ⟨x4, x5, σ⟩ := a
  have hy : (∀ a' : Int32 × Int32 × XS, y = .inl a' → xsame σ a'.2.2) ∧ (∀ b1 : XS, y = .inr b1 → xsame σ b1) := by
    have hm := xsame.rf (σ := σ)
    by_cases q : (289 : Int32) ≤ x5
    · have hf := xip q hf
      obtain ⟨b0, hg, e9⟩ := xmj hf
      subst e9
      have hf := hg
      refine ⟨fun a' e => xnc2 e, fun b e => ?_⟩
      have h9 := Sum.inr.inj e
      subst h9
      have hf := xsj hf
      subst hf
      exact hm
    · have hf := xin q hf
      by_cases q : x4 = (-1 : Int32)
      · have hf := xip q hf
        obtain ⟨b0, hg, e9⟩ := xmj hf
        subst e9
        have hf := hg
        refine ⟨fun a' e => xnc2 e, fun b e => ?_⟩
        have h9 := Sum.inr.inj e
        subst h9
        have hf := xsj hf
        subst hf
        exact hm
      · have hf := xin q hf
        obtain ⟨v2, e1, hf⟩ := xbd hf
        obtain ⟨σ4, e3, hf⟩ := xbd hf
        have hm := hm.tr (xpI_same e3)
        obtain ⟨v6, e5, hf⟩ := xbd hf
        obtain ⟨σ8, e7, hf⟩ := xbd hf
        have hm := hm.tr (xpI_same e7)
        obtain ⟨v10, e9, hf⟩ := xbd hf
        obtain ⟨_, e11, hf⟩ := xbd hf
        obtain ⟨v13, e12, hf⟩ := xbd hf
        have hf := xsj hf
        subst hf
        exact ⟨fun a' e => (by have h9 := Sum.inl.inj e; subst h9; exact hm), fun b e => xnc1 e⟩
  cases y with
  | inl a' =>
    have h1 := hc a' rfl
    have hm := hy.1 a' rfl
    exact hm.tr (h1)
  | inr b =>
    have h1 := he b rfl
    subst h1
    exact hy.2 _ rfl
theorem s_X10_fallFrom_l24 {G : XG} (C : XC G cX10_fallFrom RX10 none 6 3 74) {r0 : Nat} {r1 : Nat} {r2 : Nat} {a : Int32 × Int32 × XS} {x : XS} (hf : xloop (f_X10_fallFrom_b24 r0 r1 r2) a = some x) (hk : XEnd G none x) : WW G 24 [(0, .ref (gB G + r0)), (1, .ref (gB G + r1)), (2, .ref (gB G + r2)), (4, .int a.1), (5, .int a.2.1)] [] a.2.2 := by
  refine xloop_ind (P := fun a => WW G 24 [(0, .ref (gB G + r0)), (1, .ref (gB G + r1)), (2, .ref (gB G + r2)), (4, .int a.1), (5, .int a.2.1)] [] a.2.2) (fun a y hf hc he => ?_) hf
  obtain ⟨x4, x5, σ⟩ := a
  have hk : (∀ a' : Int32 × Int32 × XS, y = .inl a' → WW G 24 [(0, .ref (gB G + r0)), (1, .ref (gB G + r1)), (2, .ref (gB G + r2)), (4, .int a'.1), (5, .int a'.2.1)] [] a'.2.2) ∧ (∀ b1 : XS, y = .inr b1 → XEnd G none b1) := ⟨hc, fun b e => by have h9 := he b e; subst h9; exact hk⟩
  refine ww_iload (pc := 24) C 4 dX10_fallFrom_24 rfl ?_
  refine ww_sipush (pc := 26) (v := (289 : Int32)) C dX10_fallFrom_26 (by decide) ?_
  refine ww_icmp_ge (pc := 29) (tgt := 78) C dX10_fallFrom_29 (by decide) (fun q => ?_) (fun q => ?_)
  · have hf := xip q hf
    obtain ⟨b0, hg, e9⟩ := xmj hf
    subst e9
    have hf := hg
    have hk := hk.2 _ rfl
    have hf := xsj hf
    subst hf
    exact ww_vret (pc := 78) C hk dX10_fallFrom_78
  · have hf := xin q hf
    refine ww_iload (pc := 32) C 3 dX10_fallFrom_32 rfl ?_
    refine ww_iconst (pc := 34) (v := (-1 : Int32)) C dX10_fallFrom_34 (by decide) ?_
    refine ww_icmp_eq (pc := 35) (tgt := 78) C dX10_fallFrom_35 (by decide) (fun q => ?_) (fun q => ?_)
    · have hf := xip q hf
      obtain ⟨b0, hg, e9⟩ := xmj hf
      subst e9
      have hf := hg
      have hk := hk.2 _ rfl
      have hf := xsj hf
      subst hf
      exact ww_vret (pc := 78) C hk dX10_fallFrom_78
    · have hf := xin q hf
      refine ww_aload_n (pc := 38) C 0 dX10_fallFrom_38 rfl ?_
      refine ww_dup (pc := 39) C dX10_fallFrom_39 rfl ?_
      obtain ⟨v2, e1, hf⟩ := xbd hf
      refine gf_X10_9 (pc := 40) C e1 dX10_fallFrom_40 ?_
      refine ww_iconst (pc := 43) (v := (1 : Int32)) C dX10_fallFrom_43 (by decide) ?_
      refine ww_iload (pc := 44) C 3 dX10_fallFrom_44 rfl ?_
      refine ww_ishl (pc := 46) C dX10_fallFrom_46 ?_
      refine ww_ixor (pc := 47) C dX10_fallFrom_47 ?_
      obtain ⟨σ4, e3, hf⟩ := xbd hf
      refine pf_X10_9 (pc := 48) C e3 dX10_fallFrom_48 ?_
      refine ww_aload_n (pc := 51) C 0 dX10_fallFrom_51 rfl ?_
      refine ww_dup (pc := 52) C dX10_fallFrom_52 rfl ?_
      obtain ⟨v6, e5, hf⟩ := xbd hf
      refine gf_X10_15 (pc := 53) C e5 dX10_fallFrom_53 ?_
      refine ww_iconst (pc := 56) (v := (1 : Int32)) C dX10_fallFrom_56 (by decide) ?_
      refine ww_iadd (pc := 57) C dX10_fallFrom_57 ?_
      obtain ⟨σ8, e7, hf⟩ := xbd hf
      refine pf_X10_15 (pc := 58) C e7 dX10_fallFrom_58 ?_
      refine ww_aload_n (pc := 61) C 1 dX10_fallFrom_61 rfl ?_
      refine ww_aload_n (pc := 62) C 2 dX10_fallFrom_62 rfl ?_
      refine ww_aload_n (pc := 63) C 0 dX10_fallFrom_63 rfl ?_
      obtain ⟨v10, e9, hf⟩ := xbd hf
      refine gf_X10_9 (pc := 64) C e9 dX10_fallFrom_64 ?_
      obtain ⟨_, e11, hf⟩ := xbd hf
      obtain ⟨v13, e12, hf⟩ := xbd hf
      refine ww_callVi (pc := 67) (as := [.ref (gB G + r2), .int v10]) (st := []) C (k_X3_steepest (l := gl G) (E := gE G) (hb := gB G) (σ := σ8) e12) rfl (by decide) xc_X10_18 q779 qp46 (xck_spec e11) rfl (by decide) (xst4 (Nat.le_of_ble_eq_true rfl)) xsame.rf.le xsame.rf.lim dX10_fallFrom_67 ?_
      refine ww_istore (pc := 70) (lv' := [(4, .int v13), (0, .ref (gB G + r0)), (1, .ref (gB G + r1)), (2, .ref (gB G + r2)), (5, .int x5)]) C dX10_fallFrom_70 (by decide) rfl ?_
      refine ww_iinc (pc := 72) (v := x5 + (1 : Int32)) (lv' := [(5, .int (x5 + (1 : Int32))), (4, .int v13), (0, .ref (gB G + r0)), (1, .ref (gB G + r1)), (2, .ref (gB G + r2))]) C 4 dX10_fallFrom_72 rfl (congrArg (fun z => x5 + z) (show Int32.ofInt (1) = (1 : Int32) by decide)) (by decide) rfl ?_
      refine ww_goto (pc := 75) (tgt := 24) C dX10_fallFrom_75 (by decide) ?_
      have hf := xsj hf
      subst hf
      refine ww_sub [2, 3, 4, 1, 0] rfl ?_
      exact hk.1 (v13, x5 + (1 : Int32), σ8) rfl
theorem s_X10_fallFrom_e {G : XG} (C : XC G cX10_fallFrom RX10 none 6 3 74) {σ : XS} {r0 : Nat} {r1 : Nat} {r2 : Nat} {x3 : Int32} {x : XS} (hf : f_X10_fallFrom σ r0 r1 r2 x3 = some x) (hk : XEnd G none x) : WW G 0 [(0, .ref (gB G + r0)), (1, .ref (gB G + r1)), (2, .ref (gB G + r2)), (3, .int x3)] [] σ := by
  refine ww_aload_n (pc := 0) C 0 dX10_fallFrom_0 rfl ?_
  refine ww_iload_n (pc := 1) C 3 dX10_fallFrom_1 rfl ?_
  obtain ⟨σ2, e1, hf⟩ := xbd hf
  refine pf_X10_9 (pc := 2) C e1 dX10_fallFrom_2 ?_
  refine ww_aload_n (pc := 5) C 0 dX10_fallFrom_5 rfl ?_
  refine ww_iconst (pc := 6) (v := (0 : Int32)) C dX10_fallFrom_6 (by decide) ?_
  obtain ⟨σ4, e3, hf⟩ := xbd hf
  refine pf_X10_15 (pc := 7) C e3 dX10_fallFrom_7 ?_
  refine ww_aload_n (pc := 10) C 1 dX10_fallFrom_10 rfl ?_
  refine ww_aload_n (pc := 11) C 2 dX10_fallFrom_11 rfl ?_
  refine ww_aload_n (pc := 12) C 0 dX10_fallFrom_12 rfl ?_
  obtain ⟨v6, e5, hf⟩ := xbd hf
  refine gf_X10_9 (pc := 13) C e5 dX10_fallFrom_13 ?_
  obtain ⟨_, e7, hf⟩ := xbd hf
  obtain ⟨v9, e8, hf⟩ := xbd hf
  refine ww_callVi (pc := 16) (as := [.ref (gB G + r2), .int v6]) (st := []) C (k_X3_steepest (l := gl G) (E := gE G) (hb := gB G) (σ := σ4) e8) rfl (by decide) xc_X10_18 q779 qp46 (xck_spec e7) rfl (by decide) (xst4 (Nat.le_of_ble_eq_true rfl)) xsame.rf.le xsame.rf.lim dX10_fallFrom_16 ?_
  refine ww_istore (pc := 19) (lv' := [(4, .int v9), (0, .ref (gB G + r0)), (1, .ref (gB G + r1)), (2, .ref (gB G + r2)), (3, .int x3)]) C dX10_fallFrom_19 (by decide) rfl ?_
  refine ww_iconst (pc := 21) (v := (0 : Int32)) C dX10_fallFrom_21 (by decide) ?_
  refine ww_istore (pc := 22) (lv' := [(5, .int (0 : Int32)), (4, .int v9), (0, .ref (gB G + r0)), (1, .ref (gB G + r1)), (2, .ref (gB G + r2)), (3, .int x3)]) C dX10_fallFrom_22 (by decide) rfl ?_
  refine ww_sub [2, 3, 4, 1, 0] rfl ?_
  exact s_X10_fallFrom_l24 C (a := (v9, (0 : Int32), σ4)) hf hk
theorem m_X10_fallFrom {σ : XS} {r0 : Nat} {r1 : Nat} {r2 : Nat} {x3 : Int32} {x : XS} (hf : f_X10_fallFrom σ r0 r1 r2 x3 = some x) : xsame σ x := by
  have hm := xsame.rf (σ := σ)
  obtain ⟨σ2, e1, hf⟩ := xbd hf
  have hm := hm.tr (xpI_same e1)
  obtain ⟨σ4, e3, hf⟩ := xbd hf
  have hm := hm.tr (xpI_same e3)
  obtain ⟨v6, e5, hf⟩ := xbd hf
  obtain ⟨_, e7, hf⟩ := xbd hf
  obtain ⟨v9, e8, hf⟩ := xbd hf
  exact hm.tr (m_X10_fallFrom_l24 (a := (v9, (0 : Int32), σ4)) hf)
theorem k_X10_fallFrom {l : Launch} {E : XD} {hb : Nat} {σ : XS} {r0 : Nat} {r1 : Nat} {r2 : Nat} {x3 : Int32} {x : XS} (h : f_X10_fallFrom σ r0 r1 r2 x3 = some x) : XM l yX10_fallFrom cX10_fallFrom 6 none 3 74 E hb [.ref (hb + r0), .ref (hb + r1), .ref (hb + r2), .int x3] σ none x := by
  refine xm_of (by decide) (Nat.le_of_ble_eq_true rfl) (m_X10_fallFrom h).le (fun G hG C hl hQ => ?_)
  obtain ⟨rfl, rfl, rfl, hN⟩ := hG
  exact s_X10_fallFrom_e C h hQ
noncomputable def f_X10_init (r0 : Nat) : Option Unit := some ()
theorem s_X10_init_e {G : XG} (C : XC G cX10_init RX10 none 1 1 20) (hN : (gh G).name = "<init>") {σ : XS} {r0 : Nat} {x : Unit} (hf : f_X10_init r0 = some x) (hk : XEnd G none σ) : WW G 0 [(0, .ref (gB G + r0))] [] σ := by
  refine ww_aload_n (pc := 0) C 0 dX10_init_0 rfl ?_
  refine ww_objInit (pc := 1) C qo_X10_3 qoi qoc ⟨by decide, by decide⟩ dX10_init_1 ?_
  have hf := xsj hf
  subst hf
  exact ww_vret (pc := 4) C hk dX10_init_4
theorem k_X10_init {l : Launch} {E : XD} {hb : Nat} {σ : XS} {r0 : Nat} {x : Unit} (h : f_X10_init r0 = some x) : XM l yX10_init cX10_init 1 none 1 20 E hb [.ref (hb + r0)] σ none σ := by
  refine xm_of (by decide) (Nat.le_of_ble_eq_true rfl) ⟨Nat.le_refl _, Nat.le_refl _⟩ (fun G hG C hl hQ => ?_)
  obtain ⟨rfl, rfl, rfl, hN⟩ := hG
  exact s_X10_init_e C hN h hQ
noncomputable def f_X3_startOf (x0 : Int32) : Option Int32 := if (16 : Int32) ≤ x0 then (some (x0 - (16 : Int32))) else some x0
theorem s_X3_startOf_e {G : XG} (C : XC G cX3_startOf RX3 (some .int) 1 0 0) {σ : XS} {x0 : Int32} {x : Int32} (hf : f_X3_startOf x0 = some x) (hk : XEnd G (some (.int x)) σ) : WW G 0 [(0, .int x0)] [] σ := by
  refine ww_iload_n (pc := 0) C 0 dX3_startOf_0 rfl ?_
  refine ww_bipush (pc := 1) (v := (16 : Int32)) C dX3_startOf_1 (by decide) ?_
  refine ww_icmp_ge (pc := 3) (tgt := 10) C dX3_startOf_3 (by decide) (fun q => ?_) (fun q => ?_)
  · have hf := xip q hf
    refine ww_iload_n (pc := 10) C 0 dX3_startOf_10 rfl ?_
    refine ww_bipush (pc := 11) (v := (16 : Int32)) C dX3_startOf_11 (by decide) ?_
    refine ww_isub (pc := 13) C dX3_startOf_13 ?_
    have hf := xsj hf
    subst hf
    exact ww_iret (pc := 14) C hk dX3_startOf_14
  · have hf := xin q hf
    refine ww_iload_n (pc := 6) C 0 dX3_startOf_6 rfl ?_
    refine ww_goto (pc := 7) (tgt := 14) C dX3_startOf_7 (by decide) ?_
    have hf := xsj hf
    subst hf
    exact ww_iret (pc := 14) C hk dX3_startOf_14
theorem k_X3_startOf {l : Launch} {E : XD} {hb : Nat} {σ : XS} {x0 : Int32} {x : Int32} (h : f_X3_startOf x0 = some x) : XM l yX3_startOf cX3_startOf 1 (some .int) 0 0 E hb [.int x0] σ (some (.int x)) σ := by
  refine xm_of (by decide) (Nat.le_of_ble_eq_true rfl) ⟨Nat.le_refl _, Nat.le_refl _⟩ (fun G hG C hl hQ => ?_)
  obtain ⟨rfl, rfl, rfl, hN⟩ := hG
  exact s_X3_startOf_e C h hQ
noncomputable def f_X3_isAlike (σ : XS) (r0 : Nat) (x1 : Int32) (x2 : Int32) : Option Int32 := (f_X3_startOf x2).bind fun v2 => (f_X11_bitOf x1 v2).bind fun v4 => (xck σ r0 3).bind fun _ => (f_X3_endAt σ r0 x2).bind fun v7 => (f_X11_bitOf x1 v7).bind fun v9 => if v4 = v9 then (some (1 : Int32)) else some (0 : Int32)
theorem s_X3_isAlike_e {G : XG} (C : XC G cX3_isAlike RX3 (some .boolean) 3 1 21) {σ : XS} {r0 : Nat} {x1 : Int32} {x2 : Int32} {x : Int32} (hf : f_X3_isAlike σ r0 x1 x2 = some x) (hk : XEnd G (some (.int x)) σ) : WW G 0 [(0, .ref (gB G + r0)), (1, .int x1), (2, .int x2)] [] σ := by
  refine ww_iload_n (pc := 0) C 1 dX3_isAlike_0 rfl ?_
  refine ww_iload_n (pc := 1) C 2 dX3_isAlike_1 rfl ?_
  obtain ⟨v2, e1, hf⟩ := xbd hf
  refine ww_callSi (pc := 2) (as := [.int x2]) (st := [.int x1]) C (k_X3_startOf (l := gl G) (E := gE G) (hb := gB G) (σ := σ) e1) xc_X3_47 q628 rfl (by decide) (xst4 (Nat.le_of_ble_eq_true rfl)) xsame.rf.le xsame.rf.lim dX3_isAlike_2 ?_
  obtain ⟨v4, e3, hf⟩ := xbd hf
  refine ww_callSi (pc := 5) (as := [.int x1, .int v2]) (st := []) C (k_X11_bitOf (l := gl G) (E := gE G) (hb := gB G) (σ := σ) e3) xc_X3_62 q655 rfl (by decide) (xst4 (Nat.le_of_ble_eq_true rfl)) xsame.rf.le xsame.rf.lim dX3_isAlike_5 ?_
  refine ww_iload_n (pc := 8) C 1 dX3_isAlike_8 rfl ?_
  refine ww_aload_n (pc := 9) C 0 dX3_isAlike_9 rfl ?_
  refine ww_iload_n (pc := 10) C 2 dX3_isAlike_10 rfl ?_
  obtain ⟨_, e5, hf⟩ := xbd hf
  obtain ⟨v7, e6, hf⟩ := xbd hf
  refine ww_callVi (pc := 11) (as := [.int x2]) (st := [.int x1, .int v4]) C (k_X3_endAt (l := gl G) (E := gE G) (hb := gB G) (σ := σ) e6) rfl (by decide) xc_X3_59 q703 qp38 (xck_spec e5) rfl (by decide) (xst4 (Nat.le_of_ble_eq_true rfl)) xsame.rf.le xsame.rf.lim dX3_isAlike_11 ?_
  obtain ⟨v9, e8, hf⟩ := xbd hf
  refine ww_callSi (pc := 14) (as := [.int x1, .int v7]) (st := [.int v4]) C (k_X11_bitOf (l := gl G) (E := gE G) (hb := gB G) (σ := σ) e8) xc_X3_62 q655 rfl (by decide) (xst4 (Nat.le_of_ble_eq_true rfl)) xsame.rf.le xsame.rf.lim dX3_isAlike_14 ?_
  refine ww_icmp_ne (pc := 17) (tgt := 24) C dX3_isAlike_17 (by decide) (fun q => ?_) (fun q => ?_)
  · have hf := xin q hf
    refine ww_iconst (pc := 24) (v := (0 : Int32)) C dX3_isAlike_24 (by decide) ?_
    have hf := xsj hf
    subst hf
    exact ww_zret (pc := 25) C rfl hk dX3_isAlike_25
  · have hf := xip q hf
    refine ww_iconst (pc := 20) (v := (1 : Int32)) C dX3_isAlike_20 (by decide) ?_
    refine ww_goto (pc := 21) (tgt := 25) C dX3_isAlike_21 (by decide) ?_
    have hf := xsj hf
    subst hf
    exact ww_zret (pc := 25) C rfl hk dX3_isAlike_25
theorem k_X3_isAlike {l : Launch} {E : XD} {hb : Nat} {σ : XS} {r0 : Nat} {x1 : Int32} {x2 : Int32} {x : Int32} (h : f_X3_isAlike σ r0 x1 x2 = some x) : XM l yX3_isAlike cX3_isAlike 3 (some .boolean) 1 21 E hb [.ref (hb + r0), .int x1, .int x2] σ (some (.int x)) σ := by
  refine xm_of (by decide) (Nat.le_of_ble_eq_true rfl) ⟨Nat.le_refl _, Nat.le_refl _⟩ (fun G hG C hl hQ => ?_)
  obtain ⟨rfl, rfl, rfl, hN⟩ := hG
  exact s_X3_isAlike_e C h hQ
noncomputable def f_X3_energyOf_b60 (σ : XS) (r0 : Nat) (r1 : Nat) (x2 : Int32) : Int32 × Int32 → Option ((Int32 × Int32) ⊕ (Int32)) := fun a => match a with
  | (x3, x4) => (xgI σ r0 3 7).bind fun v2 => if v2 ≤ x4 then ((some x3).map .inr) else (f_X11_bitOf x2 x4).bind fun v4 => if v4 = (1 : Int32) then ((xck σ r1 6).bind fun _ => (f_X6_fieldAt σ r1 x4).bind fun v7 => some (.inl (x3 + (-v7), x4 + (1 : Int32)))) else (xck σ r1 6).bind fun _ => (f_X6_fieldAt σ r1 x4).bind fun v7 => some (.inl (x3 + v7, x4 + (1 : Int32)))
noncomputable def f_X3_energyOf_b5 (σ : XS) (r0 : Nat) (r1 : Nat) (x2 : Int32) : Int32 × Int32 → Option ((Int32 × Int32) ⊕ (Int32)) := fun a => match a with
  | (x3, x4) => if (32 : Int32) ≤ x4 then ((xloop (f_X3_energyOf_b60 σ r0 r1 x2) (x3, (0 : Int32))).map .inr) else (xck σ r0 3).bind fun _ => (f_X3_endAt σ r0 x4).bind fun v3 => if v3 = (-1 : Int32) then (some (.inl (x3, x4 + (1 : Int32)))) else (xck σ r0 3).bind fun _ => (f_X3_isAlike σ r0 x2 x4).bind fun v6 => if v6 = 0 then ((xck σ r1 6).bind fun _ => (f_X6_bondAt σ r1 x4).bind fun v9 => some (.inl (x3 + v9, x4 + (1 : Int32)))) else (xck σ r1 6).bind fun _ => (f_X6_bondAt σ r1 x4).bind fun v9 => some (.inl (x3 + (-v9), x4 + (1 : Int32)))
noncomputable def f_X3_energyOf (σ : XS) (r0 : Nat) (r1 : Nat) (x2 : Int32) : Option Int32 := xloop (f_X3_energyOf_b5 σ r0 r1 x2) ((0 : Int32), (0 : Int32))
theorem s_X3_energyOf_l60 {G : XG} (C : XC G cX3_energyOf RX3 (some .int) 5 2 43) {σ : XS} {r0 : Nat} {r1 : Nat} {x2 : Int32} {a : Int32 × Int32} {x : Int32} (hf : xloop (f_X3_energyOf_b60 σ r0 r1 x2) a = some x) (hk : XEnd G (some (.int x)) σ) : WW G 60 [(0, .ref (gB G + r0)), (1, .ref (gB G + r1)), (2, .int x2), (3, .int a.1), (4, .int a.2)] [] σ := by
  refine xloop_ind (P := fun a => WW G 60 [(0, .ref (gB G + r0)), (1, .ref (gB G + r1)), (2, .int x2), (3, .int a.1), (4, .int a.2)] [] σ) (fun a y hf hc he => ?_) hf
  obtain ⟨x3, x4⟩ := a
  have hk : (∀ a' : Int32 × Int32, y = .inl a' → WW G 60 [(0, .ref (gB G + r0)), (1, .ref (gB G + r1)), (2, .int x2), (3, .int a'.1), (4, .int a'.2)] [] σ) ∧ (∀ b1 : Int32, y = .inr b1 → XEnd G (some (.int b1)) σ) := ⟨hc, fun b e => by have h9 := he b e; subst h9; exact hk⟩
  refine ww_iload (pc := 60) C 4 dX3_energyOf_60 rfl ?_
  refine ww_aload_n (pc := 62) C 0 dX3_energyOf_62 rfl ?_
  obtain ⟨v2, e1, hf⟩ := xbd hf
  refine gf_X3_40 (pc := 63) C e1 dX3_energyOf_63 ?_
  refine ww_icmp_ge (pc := 66) (tgt := 104) C dX3_energyOf_66 (by decide) (fun q => ?_) (fun q => ?_)
  · have hf := xip q hf
    obtain ⟨b0, hg, e9⟩ := xmj hf
    subst e9
    have hf := hg
    have hk := hk.2 _ rfl
    refine ww_iload_n (pc := 104) C 3 dX3_energyOf_104 rfl ?_
    have hf := xsj hf
    subst hf
    exact ww_iret (pc := 105) C hk dX3_energyOf_105
  · have hf := xin q hf
    refine ww_iload_n (pc := 69) C 3 dX3_energyOf_69 rfl ?_
    refine ww_iload_n (pc := 70) C 2 dX3_energyOf_70 rfl ?_
    refine ww_iload (pc := 71) C 4 dX3_energyOf_71 rfl ?_
    obtain ⟨v4, e3, hf⟩ := xbd hf
    refine ww_callSi (pc := 73) (as := [.int x2, .int x4]) (st := [.int x3]) C (k_X11_bitOf (l := gl G) (E := gE G) (hb := gB G) (σ := σ) e3) xc_X3_62 q655 rfl (by decide) (xst4 (Nat.le_of_ble_eq_true rfl)) xsame.rf.le xsame.rf.lim dX3_energyOf_73 ?_
    refine ww_iconst (pc := 76) (v := (1 : Int32)) C dX3_energyOf_76 (by decide) ?_
    refine ww_icmp_ne (pc := 77) (tgt := 90) C dX3_energyOf_77 (by decide) (fun q => ?_) (fun q => ?_)
    · have hf := xin q hf
      refine ww_aload_n (pc := 90) C 1 dX3_energyOf_90 rfl ?_
      refine ww_iload (pc := 91) C 4 dX3_energyOf_91 rfl ?_
      obtain ⟨_, e5, hf⟩ := xbd hf
      obtain ⟨v7, e6, hf⟩ := xbd hf
      refine ww_callVi (pc := 93) (as := [.int x4]) (st := [.int x3]) C (k_X6_fieldAt (l := gl G) (E := gE G) (hb := gB G) (σ := σ) e6) rfl (by decide) xc_X3_75 q728 qp41 (xck_spec e5) rfl (by decide) (xst4 (Nat.le_of_ble_eq_true rfl)) xsame.rf.le xsame.rf.lim dX3_energyOf_93 ?_
      refine ww_iadd (pc := 96) C dX3_energyOf_96 ?_
      refine ww_istore_n (pc := 97) (lv' := [(3, .int (x3 + v7)), (0, .ref (gB G + r0)), (1, .ref (gB G + r1)), (2, .int x2), (4, .int x4)]) C dX3_energyOf_97 (by decide) rfl ?_
      refine ww_iinc (pc := 98) (v := x4 + (1 : Int32)) (lv' := [(4, .int (x4 + (1 : Int32))), (3, .int (x3 + v7)), (0, .ref (gB G + r0)), (1, .ref (gB G + r1)), (2, .int x2)]) C 4 dX3_energyOf_98 rfl (congrArg (fun z => x4 + z) (show Int32.ofInt (1) = (1 : Int32) by decide)) (by decide) rfl ?_
      refine ww_goto (pc := 101) (tgt := 60) C dX3_energyOf_101 (by decide) ?_
      have hf := xsj hf
      subst hf
      refine ww_sub [2, 3, 4, 1, 0] rfl ?_
      exact hk.1 (x3 + v7, x4 + (1 : Int32)) rfl
    · have hf := xip q hf
      refine ww_aload_n (pc := 80) C 1 dX3_energyOf_80 rfl ?_
      refine ww_iload (pc := 81) C 4 dX3_energyOf_81 rfl ?_
      obtain ⟨_, e5, hf⟩ := xbd hf
      obtain ⟨v7, e6, hf⟩ := xbd hf
      refine ww_callVi (pc := 83) (as := [.int x4]) (st := [.int x3]) C (k_X6_fieldAt (l := gl G) (E := gE G) (hb := gB G) (σ := σ) e6) rfl (by decide) xc_X3_75 q728 qp41 (xck_spec e5) rfl (by decide) (xst4 (Nat.le_of_ble_eq_true rfl)) xsame.rf.le xsame.rf.lim dX3_energyOf_83 ?_
      refine ww_ineg (pc := 86) C dX3_energyOf_86 ?_
      refine ww_goto (pc := 87) (tgt := 96) C dX3_energyOf_87 (by decide) ?_
      refine ww_iadd (pc := 96) C dX3_energyOf_96 ?_
      refine ww_istore_n (pc := 97) (lv' := [(3, .int (x3 + (-v7))), (0, .ref (gB G + r0)), (1, .ref (gB G + r1)), (2, .int x2), (4, .int x4)]) C dX3_energyOf_97 (by decide) rfl ?_
      refine ww_iinc (pc := 98) (v := x4 + (1 : Int32)) (lv' := [(4, .int (x4 + (1 : Int32))), (3, .int (x3 + (-v7))), (0, .ref (gB G + r0)), (1, .ref (gB G + r1)), (2, .int x2)]) C 4 dX3_energyOf_98 rfl (congrArg (fun z => x4 + z) (show Int32.ofInt (1) = (1 : Int32) by decide)) (by decide) rfl ?_
      refine ww_goto (pc := 101) (tgt := 60) C dX3_energyOf_101 (by decide) ?_
      have hf := xsj hf
      subst hf
      refine ww_sub [2, 3, 4, 1, 0] rfl ?_
      exact hk.1 (x3 + (-v7), x4 + (1 : Int32)) rfl
theorem s_X3_energyOf_l5 {G : XG} (C : XC G cX3_energyOf RX3 (some .int) 5 2 43) {σ : XS} {r0 : Nat} {r1 : Nat} {x2 : Int32} {a : Int32 × Int32} {x : Int32} (hf : xloop (f_X3_energyOf_b5 σ r0 r1 x2) a = some x) (hk : XEnd G (some (.int x)) σ) : WW G 5 [(0, .ref (gB G + r0)), (1, .ref (gB G + r1)), (2, .int x2), (3, .int a.1), (4, .int a.2)] [] σ := by
  refine xloop_ind (P := fun a => WW G 5 [(0, .ref (gB G + r0)), (1, .ref (gB G + r1)), (2, .int x2), (3, .int a.1), (4, .int a.2)] [] σ) (fun a y hf hc he => ?_) hf
  obtain ⟨x3, x4⟩ := a
  have hk : (∀ a' : Int32 × Int32, y = .inl a' → WW G 5 [(0, .ref (gB G + r0)), (1, .ref (gB G + r1)), (2, .int x2), (3, .int a'.1), (4, .int a'.2)] [] σ) ∧ (∀ b1 : Int32, y = .inr b1 → XEnd G (some (.int b1)) σ) := ⟨hc, fun b e => by have h9 := he b e; subst h9; exact hk⟩
  refine ww_iload (pc := 5) C 4 dX3_energyOf_5 rfl ?_
  refine ww_bipush (pc := 7) (v := (32 : Int32)) C dX3_energyOf_7 (by decide) ?_
  refine ww_icmp_ge (pc := 9) (tgt := 57) C dX3_energyOf_9 (by decide) (fun q => ?_) (fun q => ?_)
  · have hf := xip q hf
    obtain ⟨b0, hg, e9⟩ := xmj hf
    subst e9
    have hf := hg
    have hk := hk.2 _ rfl
    refine ww_iconst (pc := 57) (v := (0 : Int32)) C dX3_energyOf_57 (by decide) ?_
    refine ww_istore (pc := 58) (lv' := [(4, .int (0 : Int32)), (0, .ref (gB G + r0)), (1, .ref (gB G + r1)), (2, .int x2), (3, .int x3)]) C dX3_energyOf_58 (by decide) rfl ?_
    refine ww_sub [1, 2, 3, 4, 0] rfl ?_
    exact s_X3_energyOf_l60 C (a := (x3, (0 : Int32))) hf hk
  · have hf := xin q hf
    refine ww_aload_n (pc := 12) C 0 dX3_energyOf_12 rfl ?_
    refine ww_iload (pc := 13) C 4 dX3_energyOf_13 rfl ?_
    obtain ⟨_, e1, hf⟩ := xbd hf
    obtain ⟨v3, e2, hf⟩ := xbd hf
    refine ww_callVi (pc := 15) (as := [.int x4]) (st := []) C (k_X3_endAt (l := gl G) (E := gE G) (hb := gB G) (σ := σ) e2) rfl (by decide) xc_X3_59 q703 qp38 (xck_spec e1) rfl (by decide) (xst4 (Nat.le_of_ble_eq_true rfl)) xsame.rf.le xsame.rf.lim dX3_energyOf_15 ?_
    refine ww_iconst (pc := 18) (v := (-1 : Int32)) C dX3_energyOf_18 (by decide) ?_
    refine ww_icmp_eq (pc := 19) (tgt := 51) C dX3_energyOf_19 (by decide) (fun q => ?_) (fun q => ?_)
    · have hf := xip q hf
      refine ww_iinc (pc := 51) (v := x4 + (1 : Int32)) (lv' := [(4, .int (x4 + (1 : Int32))), (0, .ref (gB G + r0)), (1, .ref (gB G + r1)), (2, .int x2), (3, .int x3)]) C 4 dX3_energyOf_51 rfl (congrArg (fun z => x4 + z) (show Int32.ofInt (1) = (1 : Int32) by decide)) (by decide) rfl ?_
      refine ww_goto (pc := 54) (tgt := 5) C dX3_energyOf_54 (by decide) ?_
      have hf := xsj hf
      subst hf
      refine ww_sub [1, 2, 3, 4, 0] rfl ?_
      exact hk.1 (x3, x4 + (1 : Int32)) rfl
    · have hf := xin q hf
      refine ww_iload_n (pc := 22) C 3 dX3_energyOf_22 rfl ?_
      refine ww_aload_n (pc := 23) C 0 dX3_energyOf_23 rfl ?_
      refine ww_iload_n (pc := 24) C 2 dX3_energyOf_24 rfl ?_
      refine ww_iload (pc := 25) C 4 dX3_energyOf_25 rfl ?_
      obtain ⟨_, e4, hf⟩ := xbd hf
      obtain ⟨v6, e5, hf⟩ := xbd hf
      refine ww_callVi (pc := 27) (as := [.int x2, .int x4]) (st := [.int x3]) C (k_X3_isAlike (l := gl G) (E := gE G) (hb := gB G) (σ := σ) e5) rfl (by decide) xc_X3_66 q838 qp55 (xck_spec e4) rfl (by decide) (xst4 (Nat.le_of_ble_eq_true rfl)) xsame.rf.le xsame.rf.lim dX3_energyOf_27 ?_
      refine ww_if_eq (pc := 30) (tgt := 43) C dX3_energyOf_30 (by decide) (fun q => ?_) (fun q => ?_)
      · have hf := xip q hf
        refine ww_aload_n (pc := 43) C 1 dX3_energyOf_43 rfl ?_
        refine ww_iload (pc := 44) C 4 dX3_energyOf_44 rfl ?_
        obtain ⟨_, e7, hf⟩ := xbd hf
        obtain ⟨v9, e8, hf⟩ := xbd hf
        refine ww_callVi (pc := 46) (as := [.int x4]) (st := [.int x3]) C (k_X6_bondAt (l := gl G) (E := gE G) (hb := gB G) (σ := σ) e8) rfl (by decide) xc_X3_70 q710 qp39 (xck_spec e7) rfl (by decide) (xst4 (Nat.le_of_ble_eq_true rfl)) xsame.rf.le xsame.rf.lim dX3_energyOf_46 ?_
        refine ww_iadd (pc := 49) C dX3_energyOf_49 ?_
        refine ww_istore_n (pc := 50) (lv' := [(3, .int (x3 + v9)), (0, .ref (gB G + r0)), (1, .ref (gB G + r1)), (2, .int x2), (4, .int x4)]) C dX3_energyOf_50 (by decide) rfl ?_
        refine ww_iinc (pc := 51) (v := x4 + (1 : Int32)) (lv' := [(4, .int (x4 + (1 : Int32))), (3, .int (x3 + v9)), (0, .ref (gB G + r0)), (1, .ref (gB G + r1)), (2, .int x2)]) C 4 dX3_energyOf_51 rfl (congrArg (fun z => x4 + z) (show Int32.ofInt (1) = (1 : Int32) by decide)) (by decide) rfl ?_
        refine ww_goto (pc := 54) (tgt := 5) C dX3_energyOf_54 (by decide) ?_
        have hf := xsj hf
        subst hf
        refine ww_sub [2, 3, 4, 1, 0] rfl ?_
        exact hk.1 (x3 + v9, x4 + (1 : Int32)) rfl
      · have hf := xin q hf
        refine ww_aload_n (pc := 33) C 1 dX3_energyOf_33 rfl ?_
        refine ww_iload (pc := 34) C 4 dX3_energyOf_34 rfl ?_
        obtain ⟨_, e7, hf⟩ := xbd hf
        obtain ⟨v9, e8, hf⟩ := xbd hf
        refine ww_callVi (pc := 36) (as := [.int x4]) (st := [.int x3]) C (k_X6_bondAt (l := gl G) (E := gE G) (hb := gB G) (σ := σ) e8) rfl (by decide) xc_X3_70 q710 qp39 (xck_spec e7) rfl (by decide) (xst4 (Nat.le_of_ble_eq_true rfl)) xsame.rf.le xsame.rf.lim dX3_energyOf_36 ?_
        refine ww_ineg (pc := 39) C dX3_energyOf_39 ?_
        refine ww_goto (pc := 40) (tgt := 49) C dX3_energyOf_40 (by decide) ?_
        refine ww_iadd (pc := 49) C dX3_energyOf_49 ?_
        refine ww_istore_n (pc := 50) (lv' := [(3, .int (x3 + (-v9))), (0, .ref (gB G + r0)), (1, .ref (gB G + r1)), (2, .int x2), (4, .int x4)]) C dX3_energyOf_50 (by decide) rfl ?_
        refine ww_iinc (pc := 51) (v := x4 + (1 : Int32)) (lv' := [(4, .int (x4 + (1 : Int32))), (3, .int (x3 + (-v9))), (0, .ref (gB G + r0)), (1, .ref (gB G + r1)), (2, .int x2)]) C 4 dX3_energyOf_51 rfl (congrArg (fun z => x4 + z) (show Int32.ofInt (1) = (1 : Int32) by decide)) (by decide) rfl ?_
        refine ww_goto (pc := 54) (tgt := 5) C dX3_energyOf_54 (by decide) ?_
        have hf := xsj hf
        subst hf
        refine ww_sub [2, 3, 4, 1, 0] rfl ?_
        exact hk.1 (x3 + (-v9), x4 + (1 : Int32)) rfl
theorem s_X3_energyOf_e {G : XG} (C : XC G cX3_energyOf RX3 (some .int) 5 2 43) {σ : XS} {r0 : Nat} {r1 : Nat} {x2 : Int32} {x : Int32} (hf : f_X3_energyOf σ r0 r1 x2 = some x) (hk : XEnd G (some (.int x)) σ) : WW G 0 [(0, .ref (gB G + r0)), (1, .ref (gB G + r1)), (2, .int x2)] [] σ := by
  refine ww_iconst (pc := 0) (v := (0 : Int32)) C dX3_energyOf_0 (by decide) ?_
  refine ww_istore_n (pc := 1) (lv' := [(3, .int (0 : Int32)), (0, .ref (gB G + r0)), (1, .ref (gB G + r1)), (2, .int x2)]) C dX3_energyOf_1 (by decide) rfl ?_
  refine ww_iconst (pc := 2) (v := (0 : Int32)) C dX3_energyOf_2 (by decide) ?_
  refine ww_istore (pc := 3) (lv' := [(4, .int (0 : Int32)), (3, .int (0 : Int32)), (0, .ref (gB G + r0)), (1, .ref (gB G + r1)), (2, .int x2)]) C dX3_energyOf_3 (by decide) rfl ?_
  refine ww_sub [2, 3, 4, 1, 0] rfl ?_
  exact s_X3_energyOf_l5 C (a := ((0 : Int32), (0 : Int32))) hf hk
theorem k_X3_energyOf {l : Launch} {E : XD} {hb : Nat} {σ : XS} {r0 : Nat} {r1 : Nat} {x2 : Int32} {x : Int32} (h : f_X3_energyOf σ r0 r1 x2 = some x) : XM l yX3_energyOf cX3_energyOf 5 (some .int) 2 43 E hb [.ref (hb + r0), .ref (hb + r1), .int x2] σ (some (.int x)) σ := by
  refine xm_of (by decide) (Nat.le_of_ble_eq_true rfl) ⟨Nat.le_refl _, Nat.le_refl _⟩ (fun G hG C hl hQ => ?_)
  obtain ⟨rfl, rfl, rfl, hN⟩ := hG
  exact s_X3_energyOf_e C h hQ
noncomputable def f_X11_nextLot (w0 : Int64) : Option Int64 := some (((w0 * (1103515245 : Int64)) + (12345 : Int64)) - ((w0 * (1103515245 : Int64)) + (12345 : Int64)) / (2147483648 : Int64) * (2147483648 : Int64))
theorem s_X11_nextLot_e {G : XG} (C : XC G cX11_nextLot RX11 (some .long) 2 0 0) {σ : XS} {w0 : Int64} {x : Int64} (hf : f_X11_nextLot w0 = some x) (hk : XEnd G (some (.long x)) σ) : WW G 0 [(0, .long w0)] [] σ := by
  refine ww_lload_n (pc := 0) C 0 dX11_nextLot_0 rfl ?_
  refine ww_ldc2 (pc := 1) C q757 dX11_nextLot_1 ?_
  refine ww_lmul (pc := 4) C dX11_nextLot_4 ?_
  refine ww_ldc2 (pc := 5) C q758 dX11_nextLot_5 ?_
  refine ww_ladd (pc := 8) C dX11_nextLot_8 ?_
  refine ww_ldc2 (pc := 9) C q759 dX11_nextLot_9 ?_
  refine ww_lrem (pc := 12) C dX11_nextLot_12 (by decide) ?_
  have hf := xsj hf
  subst hf
  exact ww_lret (pc := 13) C hk dX11_nextLot_13
theorem k_X11_nextLot {l : Launch} {E : XD} {hb : Nat} {σ : XS} {w0 : Int64} {x : Int64} (h : f_X11_nextLot w0 = some x) : XM l yX11_nextLot cX11_nextLot 2 (some .long) 0 0 E hb [.long w0] σ (some (.long x)) σ := by
  refine xm_of (by decide) (Nat.le_of_ble_eq_true rfl) ⟨Nat.le_refl _, Nat.le_refl _⟩ (fun G hG C hl hQ => ?_)
  obtain ⟨rfl, rfl, rfl, hN⟩ := hG
  exact s_X11_nextLot_e C h hQ
noncomputable def f_X11_lotOf (w0 : Int64) (x2 : Int32) : Option Int32 := if x2 ≤ 0 then (some (0 : Int32)) else (xdZ x2.toInt64).bind fun _ => some (((w0 / (65536 : Int64)) - (w0 / (65536 : Int64)) / x2.toInt64 * x2.toInt64).toInt32)
theorem s_X11_lotOf_e {G : XG} (C : XC G cX11_lotOf RX11 (some .int) 3 0 0) {σ : XS} {w0 : Int64} {x2 : Int32} {x : Int32} (hf : f_X11_lotOf w0 x2 = some x) (hk : XEnd G (some (.int x)) σ) : WW G 0 [(0, .long w0), (2, .int x2)] [] σ := by
  refine ww_iload_n (pc := 0) C 1 dX11_lotOf_0 rfl ?_
  refine ww_if_le (pc := 1) (tgt := 16) C dX11_lotOf_1 (by decide) (fun q => ?_) (fun q => ?_)
  · have hf := xip q hf
    refine ww_iconst (pc := 16) (v := (0 : Int32)) C dX11_lotOf_16 (by decide) ?_
    have hf := xsj hf
    subst hf
    exact ww_iret (pc := 17) C hk dX11_lotOf_17
  · have hf := xin q hf
    refine ww_lload_n (pc := 4) C 0 dX11_lotOf_4 rfl ?_
    refine ww_ldc2 (pc := 5) C q763 dX11_lotOf_5 ?_
    refine ww_ldiv (pc := 8) C dX11_lotOf_8 (by decide) ?_
    refine ww_iload_n (pc := 9) C 1 dX11_lotOf_9 rfl ?_
    refine ww_i2l (pc := 10) (v := x2.toInt64) C dX11_lotOf_10 rfl ?_
    obtain ⟨_, e1, hf⟩ := xbd hf
    refine ww_lrem (pc := 11) C dX11_lotOf_11 (xdZ_spec e1) ?_
    refine ww_l2i (pc := 12) (v := ((w0 / (65536 : Int64)) - (w0 / (65536 : Int64)) / x2.toInt64 * x2.toInt64).toInt32) C dX11_lotOf_12 rfl ?_
    refine ww_goto (pc := 13) (tgt := 17) C dX11_lotOf_13 (by decide) ?_
    have hf := xsj hf
    subst hf
    exact ww_iret (pc := 17) C hk dX11_lotOf_17
theorem k_X11_lotOf {l : Launch} {E : XD} {hb : Nat} {σ : XS} {w0 : Int64} {x2 : Int32} {x : Int32} (h : f_X11_lotOf w0 x2 = some x) : XM l yX11_lotOf cX11_lotOf 3 (some .int) 0 0 E hb [.long w0, .int x2] σ (some (.int x)) σ := by
  refine xm_of (by decide) (Nat.le_of_ble_eq_true rfl) ⟨Nat.le_refl _, Nat.le_refl _⟩ (fun G hG C hl hQ => ?_)
  obtain ⟨rfl, rfl, rfl, hN⟩ := hG
  exact s_X11_lotOf_e C h hQ
noncomputable def f_X10_strollFrom_b40 (r0 : Nat) (r1 : Nat) (r2 : Nat) (x3 : Int32) (x4 : Int32) : Int32 × Int64 × Int32 × XS → Option ((Int32 × Int64 × Int32 × XS) ⊕ (XS)) := fun a => match a with
  | (x5, w6, x8, σ) => if x3 ≤ x8 then ((some σ).map .inr) else (f_X11_nextLot w6).bind fun v2 => (xgI σ r1 3 7).bind fun v4 => (f_X11_lotOf v2 v4).bind fun v6 => (f_X11_nextLot v2).bind fun v8 => (xgI σ r0 10 0).bind fun v10 => (xck σ r1 3).bind fun _ => (f_X3_costOfTurn σ r1 r2 v10 v6).bind fun v13 => (xck σ r2 6).bind fun _ => (f_X6_isPinned σ r2 v6).bind fun v16 => if v16 = 0 then ((f_X11_lotOf v8 (100 : Int32)).bind fun v18 => if ((100 : Int32) - (x4 * v13)) ≤ v18 then (some (.inl (x5, v8, x8 + (1 : Int32), σ))) else (xgI σ r0 10 0).bind fun v20 => (xpI σ r0 10 0 (v20 ^^^ ((1 : Int32) <<< (v6 &&& 31)))).bind fun σ22 => (xgI σ22 r0 10 1).bind fun v24 => (xpI σ22 r0 10 1 (v24 + (1 : Int32))).bind fun σ26 => (xgI σ26 r0 10 2).bind fun v28 => (xpI σ26 r0 10 2 (xmin v28 (x5 + v13))).bind fun σ30 => some (.inl (x5 + v13, v8, x8 + (1 : Int32), σ30))) else some (.inl (x5, v8, x8 + (1 : Int32), σ))
noncomputable def f_X10_strollFrom (σ : XS) (r0 : Nat) (r1 : Nat) (r2 : Nat) (x3 : Int32) (x4 : Int32) : Option XS := (xgI σ r2 6 4).bind fun v2 => (xpI σ r0 10 0 v2).bind fun σ4 => (xpI σ4 r0 10 1 (0 : Int32)).bind fun σ6 => (xgI σ6 r0 10 0).bind fun v8 => (xck σ6 r1 3).bind fun _ => (f_X3_energyOf σ6 r1 r2 v8).bind fun v11 => (xpI σ6 r0 10 2 v11).bind fun σ13 => (xgI σ13 r2 6 5).bind fun v15 => xloop (f_X10_strollFrom_b40 r0 r1 r2 x3 x4) (v11, v15.toInt64, (0 : Int32), σ13)
theorem m_X10_strollFrom_l40 {r0 : Nat} {r1 : Nat} {r2 : Nat} {x3 : Int32} {x4 : Int32} {a : Int32 × Int64 × Int32 × XS} {x : XS} (hf : xloop (f_X10_strollFrom_b40 r0 r1 r2 x3 x4) a = some x) : xsame a.2.2.2 x := by
  refine xloop_ind (P := fun a => xsame a.2.2.2 x) (fun a y hf hc he => ?_) hf
  obtain ⟨x5, w6, x8, σ⟩ := a
  have hy : (∀ a' : Int32 × Int64 × Int32 × XS, y = .inl a' → xsame σ a'.2.2.2) ∧ (∀ b1 : XS, y = .inr b1 → xsame σ b1) := by
    have hm := xsame.rf (σ := σ)
    by_cases q : x3 ≤ x8
    · have hf := xip q hf
      obtain ⟨b0, hg, e9⟩ := xmj hf
      subst e9
      have hf := hg
      refine ⟨fun a' e => xnc2 e, fun b e => ?_⟩
      have h9 := Sum.inr.inj e
      subst h9
      have hf := xsj hf
      subst hf
      exact hm
    · have hf := xin q hf
      obtain ⟨v2, e1, hf⟩ := xbd hf
      obtain ⟨v4, e3, hf⟩ := xbd hf
      obtain ⟨v6, e5, hf⟩ := xbd hf
      obtain ⟨v8, e7, hf⟩ := xbd hf
      obtain ⟨v10, e9, hf⟩ := xbd hf
      obtain ⟨_, e11, hf⟩ := xbd hf
      obtain ⟨v13, e12, hf⟩ := xbd hf
      obtain ⟨_, e14, hf⟩ := xbd hf
      obtain ⟨v16, e15, hf⟩ := xbd hf
      by_cases q : v16 = 0
      · have hf := xip q hf
        obtain ⟨v18, e17, hf⟩ := xbd hf
        by_cases q : ((100 : Int32) - (x4 * v13)) ≤ v18
        · have hf := xip q hf
          have hf := xsj hf
          subst hf
          exact ⟨fun a' e => (by have h9 := Sum.inl.inj e; subst h9; exact hm), fun b e => xnc1 e⟩
        · have hf := xin q hf
          obtain ⟨v20, e19, hf⟩ := xbd hf
          obtain ⟨σ22, e21, hf⟩ := xbd hf
          have hm := hm.tr (xpI_same e21)
          obtain ⟨v24, e23, hf⟩ := xbd hf
          obtain ⟨σ26, e25, hf⟩ := xbd hf
          have hm := hm.tr (xpI_same e25)
          obtain ⟨v28, e27, hf⟩ := xbd hf
          obtain ⟨σ30, e29, hf⟩ := xbd hf
          have hm := hm.tr (xpI_same e29)
          have hf := xsj hf
          subst hf
          exact ⟨fun a' e => (by have h9 := Sum.inl.inj e; subst h9; exact hm), fun b e => xnc1 e⟩
      · have hf := xin q hf
        have hf := xsj hf
        subst hf
        exact ⟨fun a' e => (by have h9 := Sum.inl.inj e; subst h9; exact hm), fun b e => xnc1 e⟩
  cases y with
  | inl a' =>
    have h1 := hc a' rfl
    have hm := hy.1 a' rfl
    exact hm.tr (h1)
  | inr b =>
    have h1 := he b rfl
    subst h1
    exact hy.2 _ rfl
theorem s_X10_strollFrom_l40 {G : XG} (C : XC G cX10_strollFrom RX10 none 11 3 67) {r0 : Nat} {r1 : Nat} {r2 : Nat} {x3 : Int32} {x4 : Int32} {a : Int32 × Int64 × Int32 × XS} {x : XS} (hf : xloop (f_X10_strollFrom_b40 r0 r1 r2 x3 x4) a = some x) (hk : XEnd G none x) : WW G 40 [(0, .ref (gB G + r0)), (1, .ref (gB G + r1)), (2, .ref (gB G + r2)), (3, .int x3), (4, .int x4), (5, .int a.1), (6, .long a.2.1), (8, .int a.2.2.1)] [] a.2.2.2 := by
  refine xloop_ind (P := fun a => WW G 40 [(0, .ref (gB G + r0)), (1, .ref (gB G + r1)), (2, .ref (gB G + r2)), (3, .int x3), (4, .int x4), (5, .int a.1), (6, .long a.2.1), (8, .int a.2.2.1)] [] a.2.2.2) (fun a y hf hc he => ?_) hf
  obtain ⟨x5, w6, x8, σ⟩ := a
  have hk : (∀ a' : Int32 × Int64 × Int32 × XS, y = .inl a' → WW G 40 [(0, .ref (gB G + r0)), (1, .ref (gB G + r1)), (2, .ref (gB G + r2)), (3, .int x3), (4, .int x4), (5, .int a'.1), (6, .long a'.2.1), (8, .int a'.2.2.1)] [] a'.2.2.2) ∧ (∀ b1 : XS, y = .inr b1 → XEnd G none b1) := ⟨hc, fun b e => by have h9 := he b e; subst h9; exact hk⟩
  refine ww_iload (pc := 40) C 7 dX10_strollFrom_40 rfl ?_
  refine ww_iload_n (pc := 42) C 3 dX10_strollFrom_42 rfl ?_
  refine ww_icmp_ge (pc := 43) (tgt := 160) C dX10_strollFrom_43 (by decide) (fun q => ?_) (fun q => ?_)
  · have hf := xip q hf
    obtain ⟨b0, hg, e9⟩ := xmj hf
    subst e9
    have hf := hg
    have hk := hk.2 _ rfl
    have hf := xsj hf
    subst hf
    exact ww_vret (pc := 160) C hk dX10_strollFrom_160
  · have hf := xin q hf
    refine ww_lload (pc := 46) C 6 dX10_strollFrom_46 rfl ?_
    obtain ⟨v2, e1, hf⟩ := xbd hf
    refine ww_callSj (pc := 48) (as := [.long w6]) (st := []) C (k_X11_nextLot (l := gl G) (E := gE G) (hb := gB G) (σ := σ) e1) xc_X10_36 q755 rfl (by decide) (xst4 (Nat.le_of_ble_eq_true rfl)) xsame.rf.le xsame.rf.lim dX10_strollFrom_48 ?_
    refine ww_lstore (pc := 51) (lv' := [(6, .long v2), (0, .ref (gB G + r0)), (1, .ref (gB G + r1)), (2, .ref (gB G + r2)), (3, .int x3), (4, .int x4), (5, .int x5), (8, .int x8)]) C dX10_strollFrom_51 (by decide) rfl ?_
    refine ww_lload (pc := 53) C 0 dX10_strollFrom_53 rfl ?_
    refine ww_aload_n (pc := 55) C 2 dX10_strollFrom_55 rfl ?_
    obtain ⟨v4, e3, hf⟩ := xbd hf
    refine gf_X10_40 (pc := 56) C e3 dX10_strollFrom_56 ?_
    obtain ⟨v6, e5, hf⟩ := xbd hf
    refine ww_callSi (pc := 59) (as := [.long v2, .int v4]) (st := []) C (k_X11_lotOf (l := gl G) (E := gE G) (hb := gB G) (σ := σ) e5) xc_X10_43 q761 rfl (by decide) (xst4 (Nat.le_of_ble_eq_true rfl)) xsame.rf.le xsame.rf.lim dX10_strollFrom_59 ?_
    refine ww_istore (pc := 62) (lv' := [(9, .int v6), (6, .long v2), (0, .ref (gB G + r0)), (1, .ref (gB G + r1)), (2, .ref (gB G + r2)), (3, .int x3), (4, .int x4), (5, .int x5), (8, .int x8)]) C dX10_strollFrom_62 (by decide) rfl ?_
    refine ww_lload (pc := 64) C 1 dX10_strollFrom_64 rfl ?_
    obtain ⟨v8, e7, hf⟩ := xbd hf
    refine ww_callSj (pc := 66) (as := [.long v2]) (st := []) C (k_X11_nextLot (l := gl G) (E := gE G) (hb := gB G) (σ := σ) e7) xc_X10_36 q755 rfl (by decide) (xst4 (Nat.le_of_ble_eq_true rfl)) xsame.rf.le xsame.rf.lim dX10_strollFrom_66 ?_
    refine ww_lstore (pc := 69) (lv' := [(6, .long v8), (9, .int v6), (0, .ref (gB G + r0)), (1, .ref (gB G + r1)), (2, .ref (gB G + r2)), (3, .int x3), (4, .int x4), (5, .int x5), (8, .int x8)]) C dX10_strollFrom_69 (by decide) rfl ?_
    refine ww_aload_n (pc := 71) C 3 dX10_strollFrom_71 rfl ?_
    refine ww_aload_n (pc := 72) C 4 dX10_strollFrom_72 rfl ?_
    refine ww_aload_n (pc := 73) C 2 dX10_strollFrom_73 rfl ?_
    obtain ⟨v10, e9, hf⟩ := xbd hf
    refine gf_X10_9 (pc := 74) C e9 dX10_strollFrom_74 ?_
    refine ww_iload (pc := 77) C 1 dX10_strollFrom_77 rfl ?_
    obtain ⟨_, e11, hf⟩ := xbd hf
    obtain ⟨v13, e12, hf⟩ := xbd hf
    refine ww_callVi (pc := 79) (as := [.ref (gB G + r2), .int v10, .int v6]) (st := []) C (k_X3_costOfTurn (l := gl G) (E := gE G) (hb := gB G) (σ := σ) e12) rfl (by decide) xc_X10_47 q783 qp47 (xck_spec e11) rfl (by decide) (xst4 (Nat.le_of_ble_eq_true rfl)) xsame.rf.le xsame.rf.lim dX10_strollFrom_79 ?_
    refine ww_istore (pc := 82) (lv' := [(10, .int v13), (6, .long v8), (9, .int v6), (0, .ref (gB G + r0)), (1, .ref (gB G + r1)), (2, .ref (gB G + r2)), (3, .int x3), (4, .int x4), (5, .int x5), (8, .int x8)]) C dX10_strollFrom_82 (by decide) rfl ?_
    refine ww_aload_n (pc := 84) C 5 dX10_strollFrom_84 rfl ?_
    refine ww_iload (pc := 85) C 2 dX10_strollFrom_85 rfl ?_
    obtain ⟨_, e14, hf⟩ := xbd hf
    obtain ⟨v16, e15, hf⟩ := xbd hf
    refine ww_callVi (pc := 87) (as := [.int v6]) (st := []) C (k_X6_isPinned (l := gl G) (E := gE G) (hb := gB G) (σ := σ) e15) rfl (by decide) xc_X10_51 q741 qp43 (xck_spec e14) rfl (by decide) (xst4 (Nat.le_of_ble_eq_true rfl)) xsame.rf.le xsame.rf.lim dX10_strollFrom_87 ?_
    refine ww_if_ne (pc := 90) (tgt := 154) C dX10_strollFrom_90 (by decide) (fun q => ?_) (fun q => ?_)
    · have hf := xin q hf
      refine ww_iinc (pc := 154) (v := x8 + (1 : Int32)) (lv' := [(8, .int (x8 + (1 : Int32))), (10, .int v13), (6, .long v8), (9, .int v6), (0, .ref (gB G + r0)), (1, .ref (gB G + r1)), (2, .ref (gB G + r2)), (3, .int x3), (4, .int x4), (5, .int x5)]) C 9 dX10_strollFrom_154 rfl (congrArg (fun z => x8 + z) (show Int32.ofInt (1) = (1 : Int32) by decide)) (by decide) rfl ?_
      refine ww_goto (pc := 157) (tgt := 40) C dX10_strollFrom_157 (by decide) ?_
      have hf := xsj hf
      subst hf
      refine ww_sub [4, 5, 6, 7, 8, 9, 2, 0] rfl ?_
      exact hk.1 (x5, v8, x8 + (1 : Int32), σ) rfl
    · have hf := xip q hf
      refine ww_lload (pc := 93) C 1 dX10_strollFrom_93 rfl ?_
      refine ww_bipush (pc := 95) (v := (100 : Int32)) C dX10_strollFrom_95 (by decide) ?_
      obtain ⟨v18, e17, hf⟩ := xbd hf
      refine ww_callSi (pc := 97) (as := [.long v8, .int (100 : Int32)]) (st := []) C (k_X11_lotOf (l := gl G) (E := gE G) (hb := gB G) (σ := σ) e17) xc_X10_43 q761 rfl (by decide) (xst4 (Nat.le_of_ble_eq_true rfl)) xsame.rf.le xsame.rf.lim dX10_strollFrom_97 ?_
      refine ww_bipush (pc := 100) (v := (100 : Int32)) C dX10_strollFrom_100 (by decide) ?_
      refine ww_iload (pc := 102) C 7 dX10_strollFrom_102 rfl ?_
      refine ww_iload (pc := 104) C 0 dX10_strollFrom_104 rfl ?_
      refine ww_imul (pc := 106) C dX10_strollFrom_106 ?_
      refine ww_isub (pc := 107) C dX10_strollFrom_107 ?_
      refine ww_icmp_ge (pc := 108) (tgt := 154) C dX10_strollFrom_108 (by decide) (fun q => ?_) (fun q => ?_)
      · have hf := xip q hf
        refine ww_iinc (pc := 154) (v := x8 + (1 : Int32)) (lv' := [(8, .int (x8 + (1 : Int32))), (10, .int v13), (6, .long v8), (9, .int v6), (0, .ref (gB G + r0)), (1, .ref (gB G + r1)), (2, .ref (gB G + r2)), (3, .int x3), (4, .int x4), (5, .int x5)]) C 9 dX10_strollFrom_154 rfl (congrArg (fun z => x8 + z) (show Int32.ofInt (1) = (1 : Int32) by decide)) (by decide) rfl ?_
        refine ww_goto (pc := 157) (tgt := 40) C dX10_strollFrom_157 (by decide) ?_
        have hf := xsj hf
        subst hf
        refine ww_sub [4, 5, 6, 7, 8, 9, 2, 0] rfl ?_
        exact hk.1 (x5, v8, x8 + (1 : Int32), σ) rfl
      · have hf := xin q hf
        refine ww_aload_n (pc := 111) C 3 dX10_strollFrom_111 rfl ?_
        refine ww_dup (pc := 112) C dX10_strollFrom_112 rfl ?_
        obtain ⟨v20, e19, hf⟩ := xbd hf
        refine gf_X10_9 (pc := 113) C e19 dX10_strollFrom_113 ?_
        refine ww_iconst (pc := 116) (v := (1 : Int32)) C dX10_strollFrom_116 (by decide) ?_
        refine ww_iload (pc := 117) C 2 dX10_strollFrom_117 rfl ?_
        refine ww_ishl (pc := 119) C dX10_strollFrom_119 ?_
        refine ww_ixor (pc := 120) C dX10_strollFrom_120 ?_
        obtain ⟨σ22, e21, hf⟩ := xbd hf
        refine pf_X10_9 (pc := 121) C e21 dX10_strollFrom_121 ?_
        refine ww_aload_n (pc := 124) C 3 dX10_strollFrom_124 rfl ?_
        refine ww_dup (pc := 125) C dX10_strollFrom_125 rfl ?_
        obtain ⟨v24, e23, hf⟩ := xbd hf
        refine gf_X10_15 (pc := 126) C e23 dX10_strollFrom_126 ?_
        refine ww_iconst (pc := 129) (v := (1 : Int32)) C dX10_strollFrom_129 (by decide) ?_
        refine ww_iadd (pc := 130) C dX10_strollFrom_130 ?_
        obtain ⟨σ26, e25, hf⟩ := xbd hf
        refine pf_X10_15 (pc := 131) C e25 dX10_strollFrom_131 ?_
        refine ww_iload (pc := 134) C 8 dX10_strollFrom_134 rfl ?_
        refine ww_iload (pc := 136) C 0 dX10_strollFrom_136 rfl ?_
        refine ww_iadd (pc := 138) C dX10_strollFrom_138 ?_
        refine ww_istore (pc := 139) (lv' := [(5, .int (x5 + v13)), (10, .int v13), (6, .long v8), (9, .int v6), (0, .ref (gB G + r0)), (1, .ref (gB G + r1)), (2, .ref (gB G + r2)), (3, .int x3), (4, .int x4), (8, .int x8)]) C dX10_strollFrom_139 (by decide) rfl ?_
        refine ww_aload_n (pc := 141) C 4 dX10_strollFrom_141 rfl ?_
        refine ww_aload_n (pc := 142) C 4 dX10_strollFrom_142 rfl ?_
        obtain ⟨v28, e27, hf⟩ := xbd hf
        refine gf_X10_30 (pc := 143) C e27 dX10_strollFrom_143 ?_
        refine ww_iload (pc := 146) C 0 dX10_strollFrom_146 rfl ?_
        refine ww_mmin (pc := 148) C q1103 q718 q20 qm_mmin ⟨by decide, Nat.le_trans (Nat.add_le_add_right (xst4 (Nat.le_of_ble_eq_true rfl)) 13) (by decide)⟩ dX10_strollFrom_148 ?_
        obtain ⟨σ30, e29, hf⟩ := xbd hf
        refine pf_X10_30 (pc := 151) C e29 dX10_strollFrom_151 ?_
        refine ww_iinc (pc := 154) (v := x8 + (1 : Int32)) (lv' := [(8, .int (x8 + (1 : Int32))), (5, .int (x5 + v13)), (10, .int v13), (6, .long v8), (9, .int v6), (0, .ref (gB G + r0)), (1, .ref (gB G + r1)), (2, .ref (gB G + r2)), (3, .int x3), (4, .int x4)]) C 9 dX10_strollFrom_154 rfl (congrArg (fun z => x8 + z) (show Int32.ofInt (1) = (1 : Int32) by decide)) (by decide) rfl ?_
        refine ww_goto (pc := 157) (tgt := 40) C dX10_strollFrom_157 (by decide) ?_
        have hf := xsj hf
        subst hf
        refine ww_sub [5, 6, 7, 8, 9, 1, 3, 0] rfl ?_
        exact hk.1 (x5 + v13, v8, x8 + (1 : Int32), σ30) rfl
theorem s_X10_strollFrom_e {G : XG} (C : XC G cX10_strollFrom RX10 none 11 3 67) {σ : XS} {r0 : Nat} {r1 : Nat} {r2 : Nat} {x3 : Int32} {x4 : Int32} {x : XS} (hf : f_X10_strollFrom σ r0 r1 r2 x3 x4 = some x) (hk : XEnd G none x) : WW G 0 [(0, .ref (gB G + r0)), (1, .ref (gB G + r1)), (2, .ref (gB G + r2)), (3, .int x3), (4, .int x4)] [] σ := by
  refine ww_aload_n (pc := 0) C 0 dX10_strollFrom_0 rfl ?_
  refine ww_aload_n (pc := 1) C 2 dX10_strollFrom_1 rfl ?_
  obtain ⟨v2, e1, hf⟩ := xbd hf
  refine gf_X10_24 (pc := 2) C e1 dX10_strollFrom_2 ?_
  obtain ⟨σ4, e3, hf⟩ := xbd hf
  refine pf_X10_9 (pc := 5) C e3 dX10_strollFrom_5 ?_
  refine ww_aload_n (pc := 8) C 0 dX10_strollFrom_8 rfl ?_
  refine ww_iconst (pc := 9) (v := (0 : Int32)) C dX10_strollFrom_9 (by decide) ?_
  obtain ⟨σ6, e5, hf⟩ := xbd hf
  refine pf_X10_15 (pc := 10) C e5 dX10_strollFrom_10 ?_
  refine ww_aload_n (pc := 13) C 1 dX10_strollFrom_13 rfl ?_
  refine ww_aload_n (pc := 14) C 2 dX10_strollFrom_14 rfl ?_
  refine ww_aload_n (pc := 15) C 0 dX10_strollFrom_15 rfl ?_
  obtain ⟨v8, e7, hf⟩ := xbd hf
  refine gf_X10_9 (pc := 16) C e7 dX10_strollFrom_16 ?_
  obtain ⟨_, e9, hf⟩ := xbd hf
  obtain ⟨v11, e10, hf⟩ := xbd hf
  refine ww_callVi (pc := 19) (as := [.ref (gB G + r2), .int v8]) (st := []) C (k_X3_energyOf (l := gl G) (E := gE G) (hb := gB G) (σ := σ6) e10) rfl (by decide) xc_X10_27 q1071 qp89 (xck_spec e9) rfl (by decide) (xst4 (Nat.le_of_ble_eq_true rfl)) xsame.rf.le xsame.rf.lim dX10_strollFrom_19 ?_
  refine ww_istore (pc := 22) (lv' := [(5, .int v11), (0, .ref (gB G + r0)), (1, .ref (gB G + r1)), (2, .ref (gB G + r2)), (3, .int x3), (4, .int x4)]) C dX10_strollFrom_22 (by decide) rfl ?_
  refine ww_aload_n (pc := 24) C 1 dX10_strollFrom_24 rfl ?_
  refine ww_iload (pc := 25) C 0 dX10_strollFrom_25 rfl ?_
  obtain ⟨σ13, e12, hf⟩ := xbd hf
  refine pf_X10_30 (pc := 27) C e12 dX10_strollFrom_27 ?_
  refine ww_aload_n (pc := 30) C 3 dX10_strollFrom_30 rfl ?_
  obtain ⟨v15, e14, hf⟩ := xbd hf
  refine gf_X10_33 (pc := 31) C e14 dX10_strollFrom_31 ?_
  refine ww_i2l (pc := 34) (v := v15.toInt64) C dX10_strollFrom_34 rfl ?_
  refine ww_lstore (pc := 35) (lv' := [(6, .long v15.toInt64), (5, .int v11), (0, .ref (gB G + r0)), (1, .ref (gB G + r1)), (2, .ref (gB G + r2)), (3, .int x3), (4, .int x4)]) C dX10_strollFrom_35 (by decide) rfl ?_
  refine ww_iconst (pc := 37) (v := (0 : Int32)) C dX10_strollFrom_37 (by decide) ?_
  refine ww_istore (pc := 38) (lv' := [(8, .int (0 : Int32)), (6, .long v15.toInt64), (5, .int v11), (0, .ref (gB G + r0)), (1, .ref (gB G + r1)), (2, .ref (gB G + r2)), (3, .int x3), (4, .int x4)]) C dX10_strollFrom_38 (by decide) rfl ?_
  refine ww_sub [3, 4, 5, 6, 7, 2, 1, 0] rfl ?_
  exact s_X10_strollFrom_l40 C (a := (v11, v15.toInt64, (0 : Int32), σ13)) hf hk
theorem m_X10_strollFrom {σ : XS} {r0 : Nat} {r1 : Nat} {r2 : Nat} {x3 : Int32} {x4 : Int32} {x : XS} (hf : f_X10_strollFrom σ r0 r1 r2 x3 x4 = some x) : xsame σ x := by
  have hm := xsame.rf (σ := σ)
  obtain ⟨v2, e1, hf⟩ := xbd hf
  obtain ⟨σ4, e3, hf⟩ := xbd hf
  have hm := hm.tr (xpI_same e3)
  obtain ⟨σ6, e5, hf⟩ := xbd hf
  have hm := hm.tr (xpI_same e5)
  obtain ⟨v8, e7, hf⟩ := xbd hf
  obtain ⟨_, e9, hf⟩ := xbd hf
  obtain ⟨v11, e10, hf⟩ := xbd hf
  obtain ⟨σ13, e12, hf⟩ := xbd hf
  have hm := hm.tr (xpI_same e12)
  obtain ⟨v15, e14, hf⟩ := xbd hf
  exact hm.tr (m_X10_strollFrom_l40 (a := (v11, v15.toInt64, (0 : Int32), σ13)) hf)
theorem k_X10_strollFrom {l : Launch} {E : XD} {hb : Nat} {σ : XS} {r0 : Nat} {r1 : Nat} {r2 : Nat} {x3 : Int32} {x4 : Int32} {x : XS} (h : f_X10_strollFrom σ r0 r1 r2 x3 x4 = some x) : XM l yX10_strollFrom cX10_strollFrom 11 none 3 67 E hb [.ref (hb + r0), .ref (hb + r1), .ref (hb + r2), .int x3, .int x4] σ none x := by
  refine xm_of (by decide) (Nat.le_of_ble_eq_true rfl) (m_X10_strollFrom h).le (fun G hG C hl hQ => ?_)
  obtain ⟨rfl, rfl, rfl, hN⟩ := hG
  exact s_X10_strollFrom_e C h hQ
noncomputable def f_X11_back (σ : XS) (r0 : Nat) (x1 : Int32) : Option (Int32 × XS) := if x1 < 0 then (some ((-1 : Int32), σ)) else (xgR σ r0 11 0).bind fun z2 => (xgI σ z2 8 4).bind fun v4 => if x1 ≤ v4 then ((xgR σ r0 11 0).bind fun z6 => (xgI σ z6 8 4).bind fun v8 => (xpI σ z6 8 4 (v8 - x1)).bind fun σ10 => (xgR σ10 r0 11 0).bind fun z12 => (xgI σ10 z12 8 4).bind fun v14 => some (v14, σ10)) else some ((-1 : Int32), σ)
theorem s_X11_back_e {G : XG} (C : XC G cX11_back RX11 (some .int) 2 0 0) {σ : XS} {r0 : Nat} {x1 : Int32} {x : Int32 × XS} (hf : f_X11_back σ r0 x1 = some x) (hk : XEnd G (some (.int x.1)) x.2) : WW G 0 [(0, .ref (gB G + r0)), (1, .int x1)] [] σ := by
  refine ww_iload_n (pc := 0) C 1 dX11_back_0 rfl ?_
  refine ww_if_lt (pc := 1) (tgt := 15) C dX11_back_1 (by decide) (fun q => ?_) (fun q => ?_)
  · have hf := xip q hf
    refine ww_iconst (pc := 15) (v := (-1 : Int32)) C dX11_back_15 (by decide) ?_
    have hf := xsj hf
    subst hf
    exact ww_iret (pc := 16) C hk dX11_back_16
  · have hf := xin q hf
    refine ww_iload_n (pc := 4) C 1 dX11_back_4 rfl ?_
    refine ww_aload_n (pc := 5) C 0 dX11_back_5 rfl ?_
    obtain ⟨z2, e1, hf⟩ := xbd hf
    refine gf_X11_20 (pc := 6) C e1 dX11_back_6 ?_
    obtain ⟨v4, e3, hf⟩ := xbd hf
    refine gf_X11_102 (pc := 9) C e3 dX11_back_9 ?_
    refine ww_icmp_le (pc := 12) (tgt := 17) C dX11_back_12 (by decide) (fun q => ?_) (fun q => ?_)
    · have hf := xip q hf
      refine ww_aload_n (pc := 17) C 0 dX11_back_17 rfl ?_
      obtain ⟨z6, e5, hf⟩ := xbd hf
      refine gf_X11_20 (pc := 18) C e5 dX11_back_18 ?_
      refine ww_dup (pc := 21) C dX11_back_21 rfl ?_
      obtain ⟨v8, e7, hf⟩ := xbd hf
      refine gf_X11_102 (pc := 22) C e7 dX11_back_22 ?_
      refine ww_iload_n (pc := 25) C 1 dX11_back_25 rfl ?_
      refine ww_isub (pc := 26) C dX11_back_26 ?_
      obtain ⟨σ10, e9, hf⟩ := xbd hf
      refine pf_X11_102 (pc := 27) C e9 dX11_back_27 ?_
      refine ww_aload_n (pc := 30) C 0 dX11_back_30 rfl ?_
      obtain ⟨z12, e11, hf⟩ := xbd hf
      refine gf_X11_20 (pc := 31) C e11 dX11_back_31 ?_
      obtain ⟨v14, e13, hf⟩ := xbd hf
      refine gf_X11_102 (pc := 34) C e13 dX11_back_34 ?_
      have hf := xsj hf
      subst hf
      exact ww_iret (pc := 37) C hk dX11_back_37
    · have hf := xin q hf
      refine ww_iconst (pc := 15) (v := (-1 : Int32)) C dX11_back_15 (by decide) ?_
      have hf := xsj hf
      subst hf
      exact ww_iret (pc := 16) C hk dX11_back_16
theorem m_X11_back {σ : XS} {r0 : Nat} {x1 : Int32} {x : Int32 × XS} (hf : f_X11_back σ r0 x1 = some x) : xsame σ x.2 := by
  have hm := xsame.rf (σ := σ)
  by_cases q : x1 < 0
  · have hf := xip q hf
    have hf := xsj hf
    subst hf
    exact hm
  · have hf := xin q hf
    obtain ⟨z2, e1, hf⟩ := xbd hf
    obtain ⟨v4, e3, hf⟩ := xbd hf
    by_cases q : x1 ≤ v4
    · have hf := xip q hf
      obtain ⟨z6, e5, hf⟩ := xbd hf
      obtain ⟨v8, e7, hf⟩ := xbd hf
      obtain ⟨σ10, e9, hf⟩ := xbd hf
      have hm := hm.tr (xpI_same e9)
      obtain ⟨z12, e11, hf⟩ := xbd hf
      obtain ⟨v14, e13, hf⟩ := xbd hf
      have hf := xsj hf
      subst hf
      exact hm
    · have hf := xin q hf
      have hf := xsj hf
      subst hf
      exact hm
theorem k_X11_back {l : Launch} {E : XD} {hb : Nat} {σ : XS} {r0 : Nat} {x1 : Int32} {x : Int32 × XS} (h : f_X11_back σ r0 x1 = some x) : XM l yX11_back cX11_back 2 (some .int) 0 0 E hb [.ref (hb + r0), .int x1] σ (some (.int x.1)) x.2 := by
  refine xm_of (by decide) (Nat.le_of_ble_eq_true rfl) (m_X11_back h).le (fun G hG C hl hQ => ?_)
  obtain ⟨rfl, rfl, rfl, hN⟩ := hG
  exact s_X11_back_e C h hQ
noncomputable def f_X11_isSmall (σ : XS) (r0 : Nat) : Option Int32 := (xgR σ r0 11 2).bind fun z2 => (xgI σ z2 3 7).bind fun v4 => if (10 : Int32) < v4 then (some (0 : Int32)) else some (1 : Int32)
theorem s_X11_isSmall_e {G : XG} (C : XC G cX11_isSmall RX11 (some .boolean) 1 0 0) {σ : XS} {r0 : Nat} {x : Int32} (hf : f_X11_isSmall σ r0 = some x) (hk : XEnd G (some (.int x)) σ) : WW G 0 [(0, .ref (gB G + r0))] [] σ := by
  refine ww_aload_n (pc := 0) C 0 dX11_isSmall_0 rfl ?_
  obtain ⟨z2, e1, hf⟩ := xbd hf
  refine gf_X11_24 (pc := 1) C e1 dX11_isSmall_1 ?_
  obtain ⟨v4, e3, hf⟩ := xbd hf
  refine gf_X11_197 (pc := 4) C e3 dX11_isSmall_4 ?_
  refine ww_bipush (pc := 7) (v := (10 : Int32)) C dX11_isSmall_7 (by decide) ?_
  refine ww_icmp_gt (pc := 9) (tgt := 16) C dX11_isSmall_9 (by decide) (fun q => ?_) (fun q => ?_)
  · have hf := xip q hf
    refine ww_iconst (pc := 16) (v := (0 : Int32)) C dX11_isSmall_16 (by decide) ?_
    have hf := xsj hf
    subst hf
    exact ww_zret (pc := 17) C rfl hk dX11_isSmall_17
  · have hf := xin q hf
    refine ww_iconst (pc := 12) (v := (1 : Int32)) C dX11_isSmall_12 (by decide) ?_
    refine ww_goto (pc := 13) (tgt := 17) C dX11_isSmall_13 (by decide) ?_
    have hf := xsj hf
    subst hf
    exact ww_zret (pc := 17) C rfl hk dX11_isSmall_17
theorem k_X11_isSmall {l : Launch} {E : XD} {hb : Nat} {σ : XS} {r0 : Nat} {x : Int32} (h : f_X11_isSmall σ r0 = some x) : XM l yX11_isSmall cX11_isSmall 1 (some .boolean) 0 0 E hb [.ref (hb + r0)] σ (some (.int x)) σ := by
  refine xm_of (by decide) (Nat.le_of_ble_eq_true rfl) ⟨Nat.le_refl _, Nat.le_refl _⟩ (fun G hG C hl hQ => ?_)
  obtain ⟨rfl, rfl, rfl, hN⟩ := hG
  exact s_X11_isSmall_e C h hQ
noncomputable def f_X11_isLawful (σ : XS) (r0 : Nat) (x1 : Int32) : Option Int32 := if x1 < 0 then (some (0 : Int32)) else (xgR σ r0 11 2).bind fun z2 => (xck σ z2 3).bind fun _ => (f_X3_states σ z2).bind fun v5 => if v5 ≤ x1 then (some (0 : Int32)) else (xgR σ r0 11 3).bind fun z7 => (xck σ z7 6).bind fun _ => (f_X6_allows σ z7 x1).bind fun v10 => if v10 = 0 then (some (0 : Int32)) else some (1 : Int32)
theorem s_X11_isLawful_e {G : XG} (C : XC G cX11_isLawful RX11 (some .boolean) 2 1 21) {σ : XS} {r0 : Nat} {x1 : Int32} {x : Int32} (hf : f_X11_isLawful σ r0 x1 = some x) (hk : XEnd G (some (.int x)) σ) : WW G 0 [(0, .ref (gB G + r0)), (1, .int x1)] [] σ := by
  refine ww_iload_n (pc := 0) C 1 dX11_isLawful_0 rfl ?_
  refine ww_if_lt (pc := 1) (tgt := 30) C dX11_isLawful_1 (by decide) (fun q => ?_) (fun q => ?_)
  · have hf := xip q hf
    refine ww_iconst (pc := 30) (v := (0 : Int32)) C dX11_isLawful_30 (by decide) ?_
    have hf := xsj hf
    subst hf
    exact ww_zret (pc := 31) C rfl hk dX11_isLawful_31
  · have hf := xin q hf
    refine ww_iload_n (pc := 4) C 1 dX11_isLawful_4 rfl ?_
    refine ww_aload_n (pc := 5) C 0 dX11_isLawful_5 rfl ?_
    obtain ⟨z2, e1, hf⟩ := xbd hf
    refine gf_X11_24 (pc := 6) C e1 dX11_isLawful_6 ?_
    obtain ⟨_, e3, hf⟩ := xbd hf
    obtain ⟨v5, e4, hf⟩ := xbd hf
    refine ww_callVi (pc := 9) (as := []) (st := [.int x1]) C (k_X3_states (l := gl G) (E := gE G) (hb := gB G) (σ := σ) e4) rfl (by decide) xc_X11_291 q871 qp62 (xck_spec e3) rfl (by decide) (xst4 (Nat.le_of_ble_eq_true rfl)) xsame.rf.le xsame.rf.lim dX11_isLawful_9 ?_
    refine ww_icmp_ge (pc := 12) (tgt := 30) C dX11_isLawful_12 (by decide) (fun q => ?_) (fun q => ?_)
    · have hf := xip q hf
      refine ww_iconst (pc := 30) (v := (0 : Int32)) C dX11_isLawful_30 (by decide) ?_
      have hf := xsj hf
      subst hf
      exact ww_zret (pc := 31) C rfl hk dX11_isLawful_31
    · have hf := xin q hf
      refine ww_aload_n (pc := 15) C 0 dX11_isLawful_15 rfl ?_
      obtain ⟨z7, e6, hf⟩ := xbd hf
      refine gf_X11_31 (pc := 16) C e6 dX11_isLawful_16 ?_
      refine ww_iload_n (pc := 19) C 1 dX11_isLawful_19 rfl ?_
      obtain ⟨_, e8, hf⟩ := xbd hf
      obtain ⟨v10, e9, hf⟩ := xbd hf
      refine ww_callVi (pc := 20) (as := [.int x1]) (st := []) C (k_X6_allows (l := gl G) (E := gE G) (hb := gB G) (σ := σ) e9) rfl (by decide) xc_X11_295 q890 qp65 (xck_spec e8) rfl (by decide) (xst4 (Nat.le_of_ble_eq_true rfl)) xsame.rf.le xsame.rf.lim dX11_isLawful_20 ?_
      refine ww_if_eq (pc := 23) (tgt := 30) C dX11_isLawful_23 (by decide) (fun q => ?_) (fun q => ?_)
      · have hf := xip q hf
        refine ww_iconst (pc := 30) (v := (0 : Int32)) C dX11_isLawful_30 (by decide) ?_
        have hf := xsj hf
        subst hf
        exact ww_zret (pc := 31) C rfl hk dX11_isLawful_31
      · have hf := xin q hf
        refine ww_iconst (pc := 26) (v := (1 : Int32)) C dX11_isLawful_26 (by decide) ?_
        refine ww_goto (pc := 27) (tgt := 31) C dX11_isLawful_27 (by decide) ?_
        have hf := xsj hf
        subst hf
        exact ww_zret (pc := 31) C rfl hk dX11_isLawful_31
theorem k_X11_isLawful {l : Launch} {E : XD} {hb : Nat} {σ : XS} {r0 : Nat} {x1 : Int32} {x : Int32} (h : f_X11_isLawful σ r0 x1 = some x) : XM l yX11_isLawful cX11_isLawful 2 (some .boolean) 1 21 E hb [.ref (hb + r0), .int x1] σ (some (.int x)) σ := by
  refine xm_of (by decide) (Nat.le_of_ble_eq_true rfl) ⟨Nat.le_refl _, Nat.le_refl _⟩ (fun G hG C hl hQ => ?_)
  obtain ⟨rfl, rfl, rfl, hN⟩ := hG
  exact s_X11_isLawful_e C h hQ
noncomputable def f_X11_energiesNow_j49 (σ : XS) (r0 : Nat) : Option (Nat × XS) := (xgR σ r0 11 6).bind fun z2 => (xgR σ r0 11 3).bind fun z4 => (xgI σ z4 6 6).bind fun v6 => (xpI σ z2 2 5 v6).bind fun σ8 => (xgR σ8 r0 11 6).bind fun z10 => (xnz z10).bind fun _ => some (z10, σ8)
noncomputable def f_X11_energiesNow (σ : XS) (r0 : Nat) : Option (Nat × XS) := (xgR σ r0 11 6).bind fun z2 => (xgI σ z2 2 5).bind fun v4 => (xgR σ r0 11 3).bind fun z6 => (xgI σ z6 6 6).bind fun v8 => if v4 = v8 then ((xgR σ r0 11 6).bind fun z10 => (xnz z10).bind fun _ => some (z10, σ)) else (xgR σ r0 11 6).bind fun z10 => (xgR σ r0 11 2).bind fun z12 => (xgR σ r0 11 3).bind fun z14 => (xgR σ z14 6 0).bind fun z16 => (xgR σ r0 11 3).bind fun z18 => (xgR σ z18 6 1).bind fun z20 => (xgR σ r0 11 2).bind fun z22 => (xgI σ z22 3 7).bind fun v24 => (xck σ z10 2).bind fun _ => (f_X2_fill σ z10 z12 z16 z20 v24).bind fun σ27 => f_X11_energiesNow_j49 σ27 r0
theorem s_X11_energiesNow_j49 {G : XG} (C : XC G cX11_energiesNow RX11 (some (.object "SpinStrip$Energies")) 1 3 75) {σ : XS} {r0 : Nat} {x : Nat × XS} (hf : f_X11_energiesNow_j49 σ r0 = some x) (hk : XEnd G (some (xrv (gB G) x.1)) x.2 ∧ XUp G x.2) : WW G 49 [(0, .ref (gB G + r0))] [] σ := by
  refine ww_aload_n (pc := 49) C 0 dX11_energiesNow_49 rfl ?_
  obtain ⟨z2, e1, hf⟩ := xbd hf
  refine gf_X11_52 (pc := 50) C e1 dX11_energiesNow_50 ?_
  refine ww_aload_n (pc := 53) C 0 dX11_energiesNow_53 rfl ?_
  obtain ⟨z4, e3, hf⟩ := xbd hf
  refine gf_X11_31 (pc := 54) C e3 dX11_energiesNow_54 ?_
  obtain ⟨v6, e5, hf⟩ := xbd hf
  refine gf_X11_460 (pc := 57) C e5 dX11_energiesNow_57 ?_
  obtain ⟨σ8, e7, hf⟩ := xbd hf
  refine pf_X11_466 (pc := 60) C e7 dX11_energiesNow_60 ?_
  refine ww_aload_n (pc := 63) C 0 dX11_energiesNow_63 rfl ?_
  obtain ⟨z10, e9, hf⟩ := xbd hf
  refine gf_X11_52 (pc := 64) C e9 dX11_energiesNow_64 ?_
  obtain ⟨_, e11, hf⟩ := xbd hf
  have hf := xsj hf
  subst hf
  exact ww_aret (pc := 67) C (Or.inl ⟨_, rfl⟩) (xnz_spec e11) hk.1 dX11_energiesNow_67
theorem m_X11_energiesNow_j49 {σ : XS} {r0 : Nat} {x : Nat × XS} (hf : f_X11_energiesNow_j49 σ r0 = some x) : xext σ x.2 := by
  have hm := xext.rf (σ := σ)
  obtain ⟨z2, e1, hf⟩ := xbd hf
  obtain ⟨z4, e3, hf⟩ := xbd hf
  obtain ⟨v6, e5, hf⟩ := xbd hf
  obtain ⟨σ8, e7, hf⟩ := xbd hf
  have hm := hm.tr (xpI_same e7).ext
  obtain ⟨z10, e9, hf⟩ := xbd hf
  obtain ⟨_, e11, hf⟩ := xbd hf
  have hf := xsj hf
  subst hf
  exact hm
theorem s_X11_energiesNow_e {G : XG} (C : XC G cX11_energiesNow RX11 (some (.object "SpinStrip$Energies")) 1 3 75) {σ : XS} {r0 : Nat} {x : Nat × XS} (hf : f_X11_energiesNow σ r0 = some x) (hk : XEnd G (some (xrv (gB G) x.1)) x.2 ∧ XUp G x.2) : WW G 0 [(0, .ref (gB G + r0))] [] σ := by
  refine ww_aload_n (pc := 0) C 0 dX11_energiesNow_0 rfl ?_
  obtain ⟨z2, e1, hf⟩ := xbd hf
  refine gf_X11_52 (pc := 1) C e1 dX11_energiesNow_1 ?_
  obtain ⟨v4, e3, hf⟩ := xbd hf
  refine gf_X11_466 (pc := 4) C e3 dX11_energiesNow_4 ?_
  refine ww_aload_n (pc := 7) C 0 dX11_energiesNow_7 rfl ?_
  obtain ⟨z6, e5, hf⟩ := xbd hf
  refine gf_X11_31 (pc := 8) C e5 dX11_energiesNow_8 ?_
  obtain ⟨v8, e7, hf⟩ := xbd hf
  refine gf_X11_460 (pc := 11) C e7 dX11_energiesNow_11 ?_
  refine ww_icmp_eq (pc := 14) (tgt := 63) C dX11_energiesNow_14 (by decide) (fun q => ?_) (fun q => ?_)
  · have hf := xip q hf
    refine ww_aload_n (pc := 63) C 0 dX11_energiesNow_63 rfl ?_
    obtain ⟨z10, e9, hf⟩ := xbd hf
    refine gf_X11_52 (pc := 64) C e9 dX11_energiesNow_64 ?_
    obtain ⟨_, e11, hf⟩ := xbd hf
    have hf := xsj hf
    subst hf
    exact ww_aret (pc := 67) C (Or.inl ⟨_, rfl⟩) (xnz_spec e11) hk.1 dX11_energiesNow_67
  · have hf := xin q hf
    refine ww_aload_n (pc := 17) C 0 dX11_energiesNow_17 rfl ?_
    obtain ⟨z10, e9, hf⟩ := xbd hf
    refine gf_X11_52 (pc := 18) C e9 dX11_energiesNow_18 ?_
    refine ww_aload_n (pc := 21) C 0 dX11_energiesNow_21 rfl ?_
    obtain ⟨z12, e11, hf⟩ := xbd hf
    refine gf_X11_24 (pc := 22) C e11 dX11_energiesNow_22 ?_
    refine ww_aload_n (pc := 25) C 0 dX11_energiesNow_25 rfl ?_
    obtain ⟨z14, e13, hf⟩ := xbd hf
    refine gf_X11_31 (pc := 26) C e13 dX11_energiesNow_26 ?_
    obtain ⟨z16, e15, hf⟩ := xbd hf
    refine gf_X11_340 (pc := 29) C e15 dX11_energiesNow_29 ?_
    refine ww_aload_n (pc := 32) C 0 dX11_energiesNow_32 rfl ?_
    obtain ⟨z18, e17, hf⟩ := xbd hf
    refine gf_X11_31 (pc := 33) C e17 dX11_energiesNow_33 ?_
    obtain ⟨z20, e19, hf⟩ := xbd hf
    refine gf_X11_343 (pc := 36) C e19 dX11_energiesNow_36 ?_
    refine ww_aload_n (pc := 39) C 0 dX11_energiesNow_39 rfl ?_
    obtain ⟨z22, e21, hf⟩ := xbd hf
    refine gf_X11_24 (pc := 40) C e21 dX11_energiesNow_40 ?_
    obtain ⟨v24, e23, hf⟩ := xbd hf
    refine gf_X11_197 (pc := 43) C e23 dX11_energiesNow_43 ?_
    obtain ⟨_, e25, hf⟩ := xbd hf
    obtain ⟨σ27, e26, hf⟩ := xbd hf
    refine ww_callVv (pc := 46) (as := [.ref (gB G + z12), .ref (gB G + z16), .ref (gB G + z20), .int v24]) (st := []) C (k_X2_fill (l := gl G) (E := gE G) (hb := gB G) (σ := σ) e26) rfl (by decide) xc_X11_346 q854 qp58 (xck_spec e25) rfl (by decide) (xst4 (Nat.le_of_ble_eq_true rfl)) (m_X2_fill e26).1 (fun q => by have hm9 := m_X11_energiesNow_j49 hf; exact XLim.mid q (m_X2_fill e26) hm9 hk.2) dX11_energiesNow_46 ?_
    refine ww_sub [0] rfl ?_
    exact s_X11_energiesNow_j49 C hf hk
theorem m_X11_energiesNow {σ : XS} {r0 : Nat} {x : Nat × XS} (hf : f_X11_energiesNow σ r0 = some x) : xext σ x.2 := by
  have hm := xext.rf (σ := σ)
  obtain ⟨z2, e1, hf⟩ := xbd hf
  obtain ⟨v4, e3, hf⟩ := xbd hf
  obtain ⟨z6, e5, hf⟩ := xbd hf
  obtain ⟨v8, e7, hf⟩ := xbd hf
  by_cases q : v4 = v8
  · have hf := xip q hf
    obtain ⟨z10, e9, hf⟩ := xbd hf
    obtain ⟨_, e11, hf⟩ := xbd hf
    have hf := xsj hf
    subst hf
    exact hm
  · have hf := xin q hf
    obtain ⟨z10, e9, hf⟩ := xbd hf
    obtain ⟨z12, e11, hf⟩ := xbd hf
    obtain ⟨z14, e13, hf⟩ := xbd hf
    obtain ⟨z16, e15, hf⟩ := xbd hf
    obtain ⟨z18, e17, hf⟩ := xbd hf
    obtain ⟨z20, e19, hf⟩ := xbd hf
    obtain ⟨z22, e21, hf⟩ := xbd hf
    obtain ⟨v24, e23, hf⟩ := xbd hf
    obtain ⟨_, e25, hf⟩ := xbd hf
    obtain ⟨σ27, e26, hf⟩ := xbd hf
    have hm := hm.tr (m_X2_fill e26)
    exact hm.tr (m_X11_energiesNow_j49 hf)
theorem k_X11_energiesNow {l : Launch} {E : XD} {hb : Nat} {σ : XS} {r0 : Nat} {x : Nat × XS} (h : f_X11_energiesNow σ r0 = some x) : XM l yX11_energiesNow cX11_energiesNow 1 (some (.object "SpinStrip$Energies")) 3 75 E hb [.ref (hb + r0)] σ (some (xrv (hb) x.1)) x.2 := by
  refine xm_of (by decide) (Nat.le_of_ble_eq_true rfl) (m_X11_energiesNow h).1 (fun G hG C hl hQ => ?_)
  obtain ⟨rfl, rfl, rfl, hN⟩ := hG
  exact s_X11_energiesNow_e C h ⟨hQ, hl.2⟩
noncomputable def f_X4_listLevels_b7 (r0 : Nat) : Int32 × XS → Option ((Int32 × XS) ⊕ (XS)) := fun a => match a with
  | (x1, σ) => if (289 : Int32) ≤ x1 then ((some σ).map .inr) else (xgR σ r0 4 0).bind fun z2 => (xaI σ 20 z2 x1).bind fun v4 => if v4 ≤ 0 then (some (.inl (x1 + (1 : Int32), σ))) else (xgR σ r0 4 3).bind fun z6 => (xgI σ r0 4 4).bind fun v8 => (xsI σ 20 z6 v8 (x1 - (144 : Int32))).bind fun σ10 => (xgI σ10 r0 4 4).bind fun v12 => (xpI σ10 r0 4 4 (v12 + (1 : Int32))).bind fun σ14 => some (.inl (x1 + (1 : Int32), σ14))
noncomputable def f_X4_listLevels (σ : XS) (r0 : Nat) : Option XS := (xpI σ r0 4 4 (0 : Int32)).bind fun σ2 => xloop (f_X4_listLevels_b7 r0) ((0 : Int32), σ2)
theorem m_X4_listLevels_l7 {r0 : Nat} {a : Int32 × XS} {x : XS} (hf : xloop (f_X4_listLevels_b7 r0) a = some x) : xsame a.2 x := by
  refine xloop_ind (P := fun a => xsame a.2 x) (fun a y hf hc he => ?_) hf
  obtain ⟨x1, σ⟩ := a
  have hy : (∀ a' : Int32 × XS, y = .inl a' → xsame σ a'.2) ∧ (∀ b1 : XS, y = .inr b1 → xsame σ b1) := by
    have hm := xsame.rf (σ := σ)
    by_cases q : (289 : Int32) ≤ x1
    · have hf := xip q hf
      obtain ⟨b0, hg, e9⟩ := xmj hf
      subst e9
      have hf := hg
      refine ⟨fun a' e => xnc2 e, fun b e => ?_⟩
      have h9 := Sum.inr.inj e
      subst h9
      have hf := xsj hf
      subst hf
      exact hm
    · have hf := xin q hf
      obtain ⟨z2, e1, hf⟩ := xbd hf
      obtain ⟨v4, e3, hf⟩ := xbd hf
      by_cases q : v4 ≤ 0
      · have hf := xip q hf
        have hf := xsj hf
        subst hf
        exact ⟨fun a' e => (by have h9 := Sum.inl.inj e; subst h9; exact hm), fun b e => xnc1 e⟩
      · have hf := xin q hf
        obtain ⟨z6, e5, hf⟩ := xbd hf
        obtain ⟨v8, e7, hf⟩ := xbd hf
        obtain ⟨σ10, e9, hf⟩ := xbd hf
        have hm := hm.tr (xsI_same e9)
        obtain ⟨v12, e11, hf⟩ := xbd hf
        obtain ⟨σ14, e13, hf⟩ := xbd hf
        have hm := hm.tr (xpI_same e13)
        have hf := xsj hf
        subst hf
        exact ⟨fun a' e => (by have h9 := Sum.inl.inj e; subst h9; exact hm), fun b e => xnc1 e⟩
  cases y with
  | inl a' =>
    have h1 := hc a' rfl
    have hm := hy.1 a' rfl
    exact hm.tr (h1)
  | inr b =>
    have h1 := he b rfl
    subst h1
    exact hy.2 _ rfl
theorem s_X4_listLevels_l7 {G : XG} (C : XC G cX4_listLevels RX4 none 2 0 0) {r0 : Nat} {a : Int32 × XS} {x : XS} (hf : xloop (f_X4_listLevels_b7 r0) a = some x) (hk : XEnd G none x) : WW G 7 [(0, .ref (gB G + r0)), (1, .int a.1)] [] a.2 := by
  refine xloop_ind (P := fun a => WW G 7 [(0, .ref (gB G + r0)), (1, .int a.1)] [] a.2) (fun a y hf hc he => ?_) hf
  obtain ⟨x1, σ⟩ := a
  have hk : (∀ a' : Int32 × XS, y = .inl a' → WW G 7 [(0, .ref (gB G + r0)), (1, .int a'.1)] [] a'.2) ∧ (∀ b1 : XS, y = .inr b1 → XEnd G none b1) := ⟨hc, fun b e => by have h9 := he b e; subst h9; exact hk⟩
  refine ww_iload_n (pc := 7) C 1 dX4_listLevels_7 rfl ?_
  refine ww_sipush (pc := 8) (v := (289 : Int32)) C dX4_listLevels_8 (by decide) ?_
  refine ww_icmp_ge (pc := 11) (tgt := 53) C dX4_listLevels_11 (by decide) (fun q => ?_) (fun q => ?_)
  · have hf := xip q hf
    obtain ⟨b0, hg, e9⟩ := xmj hf
    subst e9
    have hf := hg
    have hk := hk.2 _ rfl
    have hf := xsj hf
    subst hf
    exact ww_vret (pc := 53) C hk dX4_listLevels_53
  · have hf := xin q hf
    refine ww_aload_n (pc := 14) C 0 dX4_listLevels_14 rfl ?_
    obtain ⟨z2, e1, hf⟩ := xbd hf
    refine gf_X4_9 (pc := 15) C e1 dX4_listLevels_15 ?_
    refine ww_iload_n (pc := 18) C 1 dX4_listLevels_18 rfl ?_
    obtain ⟨v4, e3, hf⟩ := xbd hf
    refine ww_iald (pc := 19) C e3 dX4_listLevels_19 ?_
    refine ww_if_le (pc := 20) (tgt := 47) C dX4_listLevels_20 (by decide) (fun q => ?_) (fun q => ?_)
    · have hf := xip q hf
      refine ww_iinc (pc := 47) (v := x1 + (1 : Int32)) (lv' := [(1, .int (x1 + (1 : Int32))), (0, .ref (gB G + r0))]) C 1 dX4_listLevels_47 rfl (congrArg (fun z => x1 + z) (show Int32.ofInt (1) = (1 : Int32) by decide)) (by decide) rfl ?_
      refine ww_goto (pc := 50) (tgt := 7) C dX4_listLevels_50 (by decide) ?_
      have hf := xsj hf
      subst hf
      refine ww_sub [1, 0] rfl ?_
      exact hk.1 (x1 + (1 : Int32), σ) rfl
    · have hf := xin q hf
      refine ww_aload_n (pc := 23) C 0 dX4_listLevels_23 rfl ?_
      obtain ⟨z6, e5, hf⟩ := xbd hf
      refine gf_X4_21 (pc := 24) C e5 dX4_listLevels_24 ?_
      refine ww_aload_n (pc := 27) C 0 dX4_listLevels_27 rfl ?_
      obtain ⟨v8, e7, hf⟩ := xbd hf
      refine gf_X4_54 (pc := 28) C e7 dX4_listLevels_28 ?_
      refine ww_iload_n (pc := 31) C 1 dX4_listLevels_31 rfl ?_
      refine ww_sipush (pc := 32) (v := (144 : Int32)) C dX4_listLevels_32 (by decide) ?_
      refine ww_isub (pc := 35) C dX4_listLevels_35 ?_
      obtain ⟨σ10, e9, hf⟩ := xbd hf
      refine ww_iast (pc := 36) C e9 dX4_listLevels_36 ?_
      refine ww_aload_n (pc := 37) C 0 dX4_listLevels_37 rfl ?_
      refine ww_dup (pc := 38) C dX4_listLevels_38 rfl ?_
      obtain ⟨v12, e11, hf⟩ := xbd hf
      refine gf_X4_54 (pc := 39) C e11 dX4_listLevels_39 ?_
      refine ww_iconst (pc := 42) (v := (1 : Int32)) C dX4_listLevels_42 (by decide) ?_
      refine ww_iadd (pc := 43) C dX4_listLevels_43 ?_
      obtain ⟨σ14, e13, hf⟩ := xbd hf
      refine pf_X4_54 (pc := 44) C e13 dX4_listLevels_44 ?_
      refine ww_iinc (pc := 47) (v := x1 + (1 : Int32)) (lv' := [(1, .int (x1 + (1 : Int32))), (0, .ref (gB G + r0))]) C 1 dX4_listLevels_47 rfl (congrArg (fun z => x1 + z) (show Int32.ofInt (1) = (1 : Int32) by decide)) (by decide) rfl ?_
      refine ww_goto (pc := 50) (tgt := 7) C dX4_listLevels_50 (by decide) ?_
      have hf := xsj hf
      subst hf
      refine ww_sub [1, 0] rfl ?_
      exact hk.1 (x1 + (1 : Int32), σ14) rfl
theorem s_X4_listLevels_e {G : XG} (C : XC G cX4_listLevels RX4 none 2 0 0) {σ : XS} {r0 : Nat} {x : XS} (hf : f_X4_listLevels σ r0 = some x) (hk : XEnd G none x) : WW G 0 [(0, .ref (gB G + r0))] [] σ := by
  refine ww_aload_n (pc := 0) C 0 dX4_listLevels_0 rfl ?_
  refine ww_iconst (pc := 1) (v := (0 : Int32)) C dX4_listLevels_1 (by decide) ?_
  obtain ⟨σ2, e1, hf⟩ := xbd hf
  refine pf_X4_54 (pc := 2) C e1 dX4_listLevels_2 ?_
  refine ww_iconst (pc := 5) (v := (0 : Int32)) C dX4_listLevels_5 (by decide) ?_
  refine ww_istore_n (pc := 6) (lv' := [(1, .int (0 : Int32)), (0, .ref (gB G + r0))]) C dX4_listLevels_6 (by decide) rfl ?_
  refine ww_sub [1, 0] rfl ?_
  exact s_X4_listLevels_l7 C (a := ((0 : Int32), σ2)) hf hk
theorem m_X4_listLevels {σ : XS} {r0 : Nat} {x : XS} (hf : f_X4_listLevels σ r0 = some x) : xsame σ x := by
  have hm := xsame.rf (σ := σ)
  obtain ⟨σ2, e1, hf⟩ := xbd hf
  have hm := hm.tr (xpI_same e1)
  exact hm.tr (m_X4_listLevels_l7 (a := ((0 : Int32), σ2)) hf)
theorem k_X4_listLevels {l : Launch} {E : XD} {hb : Nat} {σ : XS} {r0 : Nat} {x : XS} (h : f_X4_listLevels σ r0 = some x) : XM l yX4_listLevels cX4_listLevels 2 none 0 0 E hb [.ref (hb + r0)] σ none x := by
  refine xm_of (by decide) (Nat.le_of_ble_eq_true rfl) (m_X4_listLevels h).le (fun G hG C hl hQ => ?_)
  obtain ⟨rfl, rfl, rfl, hN⟩ := hG
  exact s_X4_listLevels_e C h hQ
noncomputable def f_X4_gather_b21 (r0 : Nat) (r1 : Nat) (r2 : Nat) : Int32 × XS → Option ((Int32 × XS) ⊕ (XS)) := fun a => match a with
  | (x4, σ) => if x4 < 0 then (((xck σ r0 4).bind fun _ => (f_X4_listLevels σ r0).bind fun σ3 => some σ3).map .inr) else (xck σ r1 2).bind fun _ => (f_X2_of σ r1 x4).bind fun v3 => (f_J6_bitCount_0f7a4 x4).bind fun v5 => (xck σ r2 6).bind fun _ => (f_X6_allows σ r2 x4).bind fun v8 => if v8 = 0 then (some (.inl (x4 + (-1 : Int32), σ))) else if (v3 + (144 : Int32)) < 0 then (some (.inl (x4 + (-1 : Int32), σ))) else if (289 : Int32) ≤ (v3 + (144 : Int32)) then (some (.inl (x4 + (-1 : Int32), σ))) else if (17 : Int32) ≤ v5 then (some (.inl (x4 + (-1 : Int32), σ))) else (xgR σ r0 4 1).bind fun z10 => (xsI σ 20 z10 (v3 + (144 : Int32)) x4).bind fun σ12 => (xgR σ12 r0 4 0).bind fun z14 => (xaI σ12 20 z14 (v3 + (144 : Int32))).bind fun v16 => (xsI σ12 20 z14 (v3 + (144 : Int32)) (v16 + (1 : Int32))).bind fun σ18 => (xgR σ18 r0 4 2).bind fun z20 => (xaI σ18 20 z20 (((v3 + (144 : Int32)) * (17 : Int32)) + v5)).bind fun v22 => (xsI σ18 20 z20 (((v3 + (144 : Int32)) * (17 : Int32)) + v5) (v22 + (1 : Int32))).bind fun σ24 => some (.inl (x4 + (-1 : Int32), σ24))
noncomputable def f_X4_gather (σ : XS) (r0 : Nat) (r1 : Nat) (r2 : Nat) (x3 : Int32) : Option XS := (xgR σ r0 4 0).bind fun z2 => (f_J7_fill_53178 σ z2 (0 : Int32)).bind fun σ4 => (xgR σ4 r0 4 2).bind fun z6 => (f_J7_fill_53178 σ4 z6 (0 : Int32)).bind fun σ8 => xloop (f_X4_gather_b21 r0 r1 r2) (x3 - (1 : Int32), σ8)
theorem m_X4_gather_l21 {r0 : Nat} {r1 : Nat} {r2 : Nat} {a : Int32 × XS} {x : XS} (hf : xloop (f_X4_gather_b21 r0 r1 r2) a = some x) : xsame a.2 x := by
  refine xloop_ind (P := fun a => xsame a.2 x) (fun a y hf hc he => ?_) hf
  obtain ⟨x4, σ⟩ := a
  have hy : (∀ a' : Int32 × XS, y = .inl a' → xsame σ a'.2) ∧ (∀ b1 : XS, y = .inr b1 → xsame σ b1) := by
    have hm := xsame.rf (σ := σ)
    by_cases q : x4 < 0
    · have hf := xip q hf
      obtain ⟨b0, hg, e9⟩ := xmj hf
      subst e9
      have hf := hg
      refine ⟨fun a' e => xnc2 e, fun b e => ?_⟩
      have h9 := Sum.inr.inj e
      subst h9
      obtain ⟨_, e1, hf⟩ := xbd hf
      obtain ⟨σ3, e2, hf⟩ := xbd hf
      have hm := hm.tr (m_X4_listLevels e2)
      have hf := xsj hf
      subst hf
      exact hm
    · have hf := xin q hf
      obtain ⟨_, e1, hf⟩ := xbd hf
      obtain ⟨v3, e2, hf⟩ := xbd hf
      obtain ⟨v5, e4, hf⟩ := xbd hf
      obtain ⟨_, e6, hf⟩ := xbd hf
      obtain ⟨v8, e7, hf⟩ := xbd hf
      by_cases q : v8 = 0
      · have hf := xip q hf
        have hf := xsj hf
        subst hf
        exact ⟨fun a' e => (by have h9 := Sum.inl.inj e; subst h9; exact hm), fun b e => xnc1 e⟩
      · have hf := xin q hf
        by_cases q : (v3 + (144 : Int32)) < 0
        · have hf := xip q hf
          have hf := xsj hf
          subst hf
          exact ⟨fun a' e => (by have h9 := Sum.inl.inj e; subst h9; exact hm), fun b e => xnc1 e⟩
        · have hf := xin q hf
          by_cases q : (289 : Int32) ≤ (v3 + (144 : Int32))
          · have hf := xip q hf
            have hf := xsj hf
            subst hf
            exact ⟨fun a' e => (by have h9 := Sum.inl.inj e; subst h9; exact hm), fun b e => xnc1 e⟩
          · have hf := xin q hf
            by_cases q : (17 : Int32) ≤ v5
            · have hf := xip q hf
              have hf := xsj hf
              subst hf
              exact ⟨fun a' e => (by have h9 := Sum.inl.inj e; subst h9; exact hm), fun b e => xnc1 e⟩
            · have hf := xin q hf
              obtain ⟨z10, e9, hf⟩ := xbd hf
              obtain ⟨σ12, e11, hf⟩ := xbd hf
              have hm := hm.tr (xsI_same e11)
              obtain ⟨z14, e13, hf⟩ := xbd hf
              obtain ⟨v16, e15, hf⟩ := xbd hf
              obtain ⟨σ18, e17, hf⟩ := xbd hf
              have hm := hm.tr (xsI_same e17)
              obtain ⟨z20, e19, hf⟩ := xbd hf
              obtain ⟨v22, e21, hf⟩ := xbd hf
              obtain ⟨σ24, e23, hf⟩ := xbd hf
              have hm := hm.tr (xsI_same e23)
              have hf := xsj hf
              subst hf
              exact ⟨fun a' e => (by have h9 := Sum.inl.inj e; subst h9; exact hm), fun b e => xnc1 e⟩
  cases y with
  | inl a' =>
    have h1 := hc a' rfl
    have hm := hy.1 a' rfl
    exact hm.tr (h1)
  | inr b =>
    have h1 := he b rfl
    subst h1
    exact hy.2 _ rfl
theorem s_X4_gather_l21 {G : XG} (C : XC G cX4_gather RX4 none 7 1 23) {r0 : Nat} {r1 : Nat} {r2 : Nat} {a : Int32 × XS} {x : XS} (hf : xloop (f_X4_gather_b21 r0 r1 r2) a = some x) (hk : XEnd G none x) : WW G 21 [(0, .ref (gB G + r0)), (1, .ref (gB G + r1)), (2, .ref (gB G + r2)), (4, .int a.1)] [] a.2 := by
  refine xloop_ind (P := fun a => WW G 21 [(0, .ref (gB G + r0)), (1, .ref (gB G + r1)), (2, .ref (gB G + r2)), (4, .int a.1)] [] a.2) (fun a y hf hc he => ?_) hf
  obtain ⟨x4, σ⟩ := a
  have hk : (∀ a' : Int32 × XS, y = .inl a' → WW G 21 [(0, .ref (gB G + r0)), (1, .ref (gB G + r1)), (2, .ref (gB G + r2)), (4, .int a'.1)] [] a'.2) ∧ (∀ b1 : XS, y = .inr b1 → XEnd G none b1) := ⟨hc, fun b e => by have h9 := he b e; subst h9; exact hk⟩
  refine ww_iload (pc := 21) C 3 dX4_gather_21 rfl ?_
  refine ww_if_lt (pc := 23) (tgt := 117) C dX4_gather_23 (by decide) (fun q => ?_) (fun q => ?_)
  · have hf := xip q hf
    obtain ⟨b0, hg, e9⟩ := xmj hf
    subst e9
    have hf := hg
    have hk := hk.2 _ rfl
    refine ww_aload_n (pc := 117) C 0 dX4_gather_117 rfl ?_
    obtain ⟨_, e1, hf⟩ := xbd hf
    obtain ⟨σ3, e2, hf⟩ := xbd hf
    refine ww_callVv (pc := 118) (as := []) (st := []) C (k_X4_listLevels (l := gl G) (E := gE G) (hb := gB G) (σ := σ) e2) rfl (by decide) xc_X4_51 q894 qp66 (xck_spec e1) rfl (by decide) (xst4 (Nat.le_of_ble_eq_true rfl)) (m_X4_listLevels e2).le (m_X4_listLevels e2).lim dX4_gather_118 ?_
    have hf := xsj hf
    subst hf
    exact ww_vret (pc := 121) C hk dX4_gather_121
  · have hf := xin q hf
    refine ww_aload_n (pc := 26) C 1 dX4_gather_26 rfl ?_
    refine ww_iload (pc := 27) C 3 dX4_gather_27 rfl ?_
    obtain ⟨_, e1, hf⟩ := xbd hf
    obtain ⟨v3, e2, hf⟩ := xbd hf
    refine ww_callVi (pc := 29) (as := [.int x4]) (st := []) C (k_X2_of (l := gl G) (E := gE G) (hb := gB G) (σ := σ) e2) rfl (by decide) xc_X4_34 q880 qp64 (xck_spec e1) rfl (by decide) (xst4 (Nat.le_of_ble_eq_true rfl)) xsame.rf.le xsame.rf.lim dX4_gather_29 ?_
    refine ww_sipush (pc := 32) (v := (144 : Int32)) C dX4_gather_32 (by decide) ?_
    refine ww_iadd (pc := 35) C dX4_gather_35 ?_
    refine ww_istore (pc := 36) (lv' := [(5, .int (v3 + (144 : Int32))), (0, .ref (gB G + r0)), (1, .ref (gB G + r1)), (2, .ref (gB G + r2)), (4, .int x4)]) C dX4_gather_36 (by decide) rfl ?_
    refine ww_iload (pc := 38) C 4 dX4_gather_38 rfl ?_
    obtain ⟨v5, e4, hf⟩ := xbd hf
    refine ww_callSi (pc := 40) (as := [.int x4]) (st := []) C (k_J6_bitCount_0f7a4 (l := gl G) (E := gE G) (hb := gB G) (σ := σ) e4) xc_X4_40 q883 rfl (by decide) (xst4 (Nat.le_of_ble_eq_true rfl)) xsame.rf.le xsame.rf.lim dX4_gather_40 ?_
    refine ww_istore (pc := 43) (lv' := [(6, .int v5), (5, .int (v3 + (144 : Int32))), (0, .ref (gB G + r0)), (1, .ref (gB G + r1)), (2, .ref (gB G + r2)), (4, .int x4)]) C dX4_gather_43 (by decide) rfl ?_
    refine ww_aload_n (pc := 45) C 4 dX4_gather_45 rfl ?_
    refine ww_iload (pc := 46) C 5 dX4_gather_46 rfl ?_
    obtain ⟨_, e6, hf⟩ := xbd hf
    obtain ⟨v8, e7, hf⟩ := xbd hf
    refine ww_callVi (pc := 48) (as := [.int x4]) (st := []) C (k_X6_allows (l := gl G) (E := gE G) (hb := gB G) (σ := σ) e7) rfl (by decide) xc_X4_45 q890 qp65 (xck_spec e6) rfl (by decide) (xst4 (Nat.le_of_ble_eq_true rfl)) xsame.rf.le xsame.rf.lim dX4_gather_48 ?_
    refine ww_if_eq (pc := 51) (tgt := 111) C dX4_gather_51 (by decide) (fun q => ?_) (fun q => ?_)
    · have hf := xip q hf
      refine ww_iinc (pc := 111) (v := x4 + (-1 : Int32)) (lv' := [(4, .int (x4 + (-1 : Int32))), (6, .int v5), (5, .int (v3 + (144 : Int32))), (0, .ref (gB G + r0)), (1, .ref (gB G + r1)), (2, .ref (gB G + r2))]) C 5 dX4_gather_111 rfl (congrArg (fun z => x4 + z) (show Int32.ofInt (-1) = (-1 : Int32) by decide)) (by decide) rfl ?_
      refine ww_goto (pc := 114) (tgt := 21) C dX4_gather_114 (by decide) ?_
      have hf := xsj hf
      subst hf
      refine ww_sub [3, 4, 5, 0] rfl ?_
      exact hk.1 (x4 + (-1 : Int32), σ) rfl
    · have hf := xin q hf
      refine ww_iload (pc := 54) C 1 dX4_gather_54 rfl ?_
      refine ww_if_lt (pc := 56) (tgt := 111) C dX4_gather_56 (by decide) (fun q => ?_) (fun q => ?_)
      · have hf := xip q hf
        refine ww_iinc (pc := 111) (v := x4 + (-1 : Int32)) (lv' := [(4, .int (x4 + (-1 : Int32))), (6, .int v5), (5, .int (v3 + (144 : Int32))), (0, .ref (gB G + r0)), (1, .ref (gB G + r1)), (2, .ref (gB G + r2))]) C 5 dX4_gather_111 rfl (congrArg (fun z => x4 + z) (show Int32.ofInt (-1) = (-1 : Int32) by decide)) (by decide) rfl ?_
        refine ww_goto (pc := 114) (tgt := 21) C dX4_gather_114 (by decide) ?_
        have hf := xsj hf
        subst hf
        refine ww_sub [3, 4, 5, 0] rfl ?_
        exact hk.1 (x4 + (-1 : Int32), σ) rfl
      · have hf := xin q hf
        refine ww_iload (pc := 59) C 1 dX4_gather_59 rfl ?_
        refine ww_sipush (pc := 61) (v := (289 : Int32)) C dX4_gather_61 (by decide) ?_
        refine ww_icmp_ge (pc := 64) (tgt := 111) C dX4_gather_64 (by decide) (fun q => ?_) (fun q => ?_)
        · have hf := xip q hf
          refine ww_iinc (pc := 111) (v := x4 + (-1 : Int32)) (lv' := [(4, .int (x4 + (-1 : Int32))), (6, .int v5), (5, .int (v3 + (144 : Int32))), (0, .ref (gB G + r0)), (1, .ref (gB G + r1)), (2, .ref (gB G + r2))]) C 5 dX4_gather_111 rfl (congrArg (fun z => x4 + z) (show Int32.ofInt (-1) = (-1 : Int32) by decide)) (by decide) rfl ?_
          refine ww_goto (pc := 114) (tgt := 21) C dX4_gather_114 (by decide) ?_
          have hf := xsj hf
          subst hf
          refine ww_sub [3, 4, 5, 0] rfl ?_
          exact hk.1 (x4 + (-1 : Int32), σ) rfl
        · have hf := xin q hf
          refine ww_iload (pc := 67) C 0 dX4_gather_67 rfl ?_
          refine ww_bipush (pc := 69) (v := (17 : Int32)) C dX4_gather_69 (by decide) ?_
          refine ww_icmp_ge (pc := 71) (tgt := 111) C dX4_gather_71 (by decide) (fun q => ?_) (fun q => ?_)
          · have hf := xip q hf
            refine ww_iinc (pc := 111) (v := x4 + (-1 : Int32)) (lv' := [(4, .int (x4 + (-1 : Int32))), (6, .int v5), (5, .int (v3 + (144 : Int32))), (0, .ref (gB G + r0)), (1, .ref (gB G + r1)), (2, .ref (gB G + r2))]) C 5 dX4_gather_111 rfl (congrArg (fun z => x4 + z) (show Int32.ofInt (-1) = (-1 : Int32) by decide)) (by decide) rfl ?_
            refine ww_goto (pc := 114) (tgt := 21) C dX4_gather_114 (by decide) ?_
            have hf := xsj hf
            subst hf
            refine ww_sub [3, 4, 5, 0] rfl ?_
            exact hk.1 (x4 + (-1 : Int32), σ) rfl
          · have hf := xin q hf
            refine ww_aload_n (pc := 74) C 2 dX4_gather_74 rfl ?_
            obtain ⟨z10, e9, hf⟩ := xbd hf
            refine gf_X4_15 (pc := 75) C e9 dX4_gather_75 ?_
            refine ww_iload (pc := 78) C 1 dX4_gather_78 rfl ?_
            refine ww_iload (pc := 80) C 5 dX4_gather_80 rfl ?_
            obtain ⟨σ12, e11, hf⟩ := xbd hf
            refine ww_iast (pc := 82) C e11 dX4_gather_82 ?_
            refine ww_aload_n (pc := 83) C 2 dX4_gather_83 rfl ?_
            obtain ⟨z14, e13, hf⟩ := xbd hf
            refine gf_X4_9 (pc := 84) C e13 dX4_gather_84 ?_
            refine ww_iload (pc := 87) C 1 dX4_gather_87 rfl ?_
            refine ww_dup2 (pc := 89) C dX4_gather_89 rfl rfl ?_
            obtain ⟨v16, e15, hf⟩ := xbd hf
            refine ww_iald (pc := 90) C e15 dX4_gather_90 ?_
            refine ww_iconst (pc := 91) (v := (1 : Int32)) C dX4_gather_91 (by decide) ?_
            refine ww_iadd (pc := 92) C dX4_gather_92 ?_
            obtain ⟨σ18, e17, hf⟩ := xbd hf
            refine ww_iast (pc := 93) C e17 dX4_gather_93 ?_
            refine ww_aload_n (pc := 94) C 2 dX4_gather_94 rfl ?_
            obtain ⟨z20, e19, hf⟩ := xbd hf
            refine gf_X4_18 (pc := 95) C e19 dX4_gather_95 ?_
            refine ww_iload (pc := 98) C 1 dX4_gather_98 rfl ?_
            refine ww_bipush (pc := 100) (v := (17 : Int32)) C dX4_gather_100 (by decide) ?_
            refine ww_imul (pc := 102) C dX4_gather_102 ?_
            refine ww_iload (pc := 103) C 0 dX4_gather_103 rfl ?_
            refine ww_iadd (pc := 105) C dX4_gather_105 ?_
            refine ww_dup2 (pc := 106) C dX4_gather_106 rfl rfl ?_
            obtain ⟨v22, e21, hf⟩ := xbd hf
            refine ww_iald (pc := 107) C e21 dX4_gather_107 ?_
            refine ww_iconst (pc := 108) (v := (1 : Int32)) C dX4_gather_108 (by decide) ?_
            refine ww_iadd (pc := 109) C dX4_gather_109 ?_
            obtain ⟨σ24, e23, hf⟩ := xbd hf
            refine ww_iast (pc := 110) C e23 dX4_gather_110 ?_
            refine ww_iinc (pc := 111) (v := x4 + (-1 : Int32)) (lv' := [(4, .int (x4 + (-1 : Int32))), (6, .int v5), (5, .int (v3 + (144 : Int32))), (0, .ref (gB G + r0)), (1, .ref (gB G + r1)), (2, .ref (gB G + r2))]) C 5 dX4_gather_111 rfl (congrArg (fun z => x4 + z) (show Int32.ofInt (-1) = (-1 : Int32) by decide)) (by decide) rfl ?_
            refine ww_goto (pc := 114) (tgt := 21) C dX4_gather_114 (by decide) ?_
            have hf := xsj hf
            subst hf
            refine ww_sub [3, 4, 5, 0] rfl ?_
            exact hk.1 (x4 + (-1 : Int32), σ24) rfl
theorem s_X4_gather_e {G : XG} (C : XC G cX4_gather RX4 none 7 1 23) {σ : XS} {r0 : Nat} {r1 : Nat} {r2 : Nat} {x3 : Int32} {x : XS} (hf : f_X4_gather σ r0 r1 r2 x3 = some x) (hk : XEnd G none x) : WW G 0 [(0, .ref (gB G + r0)), (1, .ref (gB G + r1)), (2, .ref (gB G + r2)), (3, .int x3)] [] σ := by
  refine ww_aload_n (pc := 0) C 0 dX4_gather_0 rfl ?_
  obtain ⟨z2, e1, hf⟩ := xbd hf
  refine gf_X4_9 (pc := 1) C e1 dX4_gather_1 ?_
  refine ww_iconst (pc := 4) (v := (0 : Int32)) C dX4_gather_4 (by decide) ?_
  obtain ⟨σ4, e3, hf⟩ := xbd hf
  refine ww_callSv (pc := 5) (as := [.ref (gB G + z2), .int (0 : Int32)]) (st := []) C (k_J7_fill_53178 (l := gl G) (E := gE G) (hb := gB G) (σ := σ) e3) xc_X4_28 q174 rfl (by decide) (xst4 (Nat.le_of_ble_eq_true rfl)) (m_J7_fill_53178 e3).le (m_J7_fill_53178 e3).lim dX4_gather_5 ?_
  refine ww_aload_n (pc := 8) C 0 dX4_gather_8 rfl ?_
  obtain ⟨z6, e5, hf⟩ := xbd hf
  refine gf_X4_18 (pc := 9) C e5 dX4_gather_9 ?_
  refine ww_iconst (pc := 12) (v := (0 : Int32)) C dX4_gather_12 (by decide) ?_
  obtain ⟨σ8, e7, hf⟩ := xbd hf
  refine ww_callSv (pc := 13) (as := [.ref (gB G + z6), .int (0 : Int32)]) (st := []) C (k_J7_fill_53178 (l := gl G) (E := gE G) (hb := gB G) (σ := σ4) e7) xc_X4_28 q174 rfl (by decide) (xst4 (Nat.le_of_ble_eq_true rfl)) (m_J7_fill_53178 e7).le (m_J7_fill_53178 e7).lim dX4_gather_13 ?_
  refine ww_iload_n (pc := 16) C 3 dX4_gather_16 rfl ?_
  refine ww_iconst (pc := 17) (v := (1 : Int32)) C dX4_gather_17 (by decide) ?_
  refine ww_isub (pc := 18) C dX4_gather_18 ?_
  refine ww_istore (pc := 19) (lv' := [(4, .int (x3 - (1 : Int32))), (0, .ref (gB G + r0)), (1, .ref (gB G + r1)), (2, .ref (gB G + r2)), (3, .int x3)]) C dX4_gather_19 (by decide) rfl ?_
  refine ww_sub [1, 2, 3, 0] rfl ?_
  exact s_X4_gather_l21 C (a := (x3 - (1 : Int32), σ8)) hf hk
theorem m_X4_gather {σ : XS} {r0 : Nat} {r1 : Nat} {r2 : Nat} {x3 : Int32} {x : XS} (hf : f_X4_gather σ r0 r1 r2 x3 = some x) : xsame σ x := by
  have hm := xsame.rf (σ := σ)
  obtain ⟨z2, e1, hf⟩ := xbd hf
  obtain ⟨σ4, e3, hf⟩ := xbd hf
  have hm := hm.tr (m_J7_fill_53178 e3)
  obtain ⟨z6, e5, hf⟩ := xbd hf
  obtain ⟨σ8, e7, hf⟩ := xbd hf
  have hm := hm.tr (m_J7_fill_53178 e7)
  exact hm.tr (m_X4_gather_l21 (a := (x3 - (1 : Int32), σ8)) hf)
theorem k_X4_gather {l : Launch} {E : XD} {hb : Nat} {σ : XS} {r0 : Nat} {r1 : Nat} {r2 : Nat} {x3 : Int32} {x : XS} (h : f_X4_gather σ r0 r1 r2 x3 = some x) : XM l yX4_gather cX4_gather 7 none 1 23 E hb [.ref (hb + r0), .ref (hb + r1), .ref (hb + r2), .int x3] σ none x := by
  refine xm_of (by decide) (Nat.le_of_ble_eq_true rfl) (m_X4_gather h).le (fun G hG C hl hQ => ?_)
  obtain ⟨rfl, rfl, rfl, hN⟩ := hG
  exact s_X4_gather_e C h hQ
noncomputable def f_X11_levelsNow_j4 (σ : XS) (r0 : Nat) (t0 : Nat) : Option (Nat × XS) := (xgR σ r0 11 8).bind fun z2 => (xgI σ z2 4 5).bind fun v4 => (xgR σ r0 11 3).bind fun z6 => (xgI σ z6 6 7).bind fun v8 => if v4 = v8 then ((xgR σ r0 11 8).bind fun z10 => (xnz z10).bind fun _ => some (z10, σ)) else (xgR σ r0 11 8).bind fun z10 => (xgR σ r0 11 6).bind fun z12 => (xgR σ r0 11 3).bind fun z14 => (xgR σ r0 11 2).bind fun z16 => (xck σ z16 3).bind fun _ => (f_X3_states σ z16).bind fun v19 => (xck σ z10 4).bind fun _ => (f_X4_gather σ z10 z12 z14 v19).bind fun σ22 => (xgR σ22 r0 11 8).bind fun z24 => (xgR σ22 r0 11 3).bind fun z26 => (xgI σ22 z26 6 7).bind fun v28 => (xpI σ22 z24 4 5 v28).bind fun σ30 => (xgR σ30 r0 11 8).bind fun z32 => (xnz z32).bind fun _ => some (z32, σ30)
noncomputable def f_X11_levelsNow (σ : XS) (r0 : Nat) : Option (Nat × XS) := (xck σ r0 11).bind fun _ => (f_X11_energiesNow σ r0).bind fun (z4, σ3) => (xnz z4).bind fun _ => f_X11_levelsNow_j4 σ3 r0 z4
theorem s_X11_levelsNow_j4 {G : XG} (C : XC G cX11_levelsNow RX11 (some (.object "SpinStrip$Levels")) 1 4 95) {σ : XS} {r0 : Nat} {t0 : Nat} {x : Nat × XS} (hf : f_X11_levelsNow_j4 σ r0 t0 = some x) (hk : XEnd G (some (xrv (gB G) x.1)) x.2 ∧ XUp G x.2) : WW G 4 [(0, .ref (gB G + r0))] [.ref (gB G + t0)] σ := by
  refine ww_pop (pc := 4) C dX11_levelsNow_4 rfl ?_
  refine ww_aload_n (pc := 5) C 0 dX11_levelsNow_5 rfl ?_
  obtain ⟨z2, e1, hf⟩ := xbd hf
  refine gf_X11_62 (pc := 6) C e1 dX11_levelsNow_6 ?_
  obtain ⟨v4, e3, hf⟩ := xbd hf
  refine gf_X11_469 (pc := 9) C e3 dX11_levelsNow_9 ?_
  refine ww_aload_n (pc := 12) C 0 dX11_levelsNow_12 rfl ?_
  obtain ⟨z6, e5, hf⟩ := xbd hf
  refine gf_X11_31 (pc := 13) C e5 dX11_levelsNow_13 ?_
  obtain ⟨v8, e7, hf⟩ := xbd hf
  refine gf_X11_463 (pc := 16) C e7 dX11_levelsNow_16 ?_
  refine ww_icmp_eq (pc := 19) (tgt := 58) C dX11_levelsNow_19 (by decide) (fun q => ?_) (fun q => ?_)
  · have hf := xip q hf
    refine ww_aload_n (pc := 58) C 0 dX11_levelsNow_58 rfl ?_
    obtain ⟨z10, e9, hf⟩ := xbd hf
    refine gf_X11_62 (pc := 59) C e9 dX11_levelsNow_59 ?_
    obtain ⟨_, e11, hf⟩ := xbd hf
    have hf := xsj hf
    subst hf
    exact ww_aret (pc := 62) C (Or.inl ⟨_, rfl⟩) (xnz_spec e11) hk.1 dX11_levelsNow_62
  · have hf := xin q hf
    refine ww_aload_n (pc := 22) C 0 dX11_levelsNow_22 rfl ?_
    obtain ⟨z10, e9, hf⟩ := xbd hf
    refine gf_X11_62 (pc := 23) C e9 dX11_levelsNow_23 ?_
    refine ww_aload_n (pc := 26) C 0 dX11_levelsNow_26 rfl ?_
    obtain ⟨z12, e11, hf⟩ := xbd hf
    refine gf_X11_52 (pc := 27) C e11 dX11_levelsNow_27 ?_
    refine ww_aload_n (pc := 30) C 0 dX11_levelsNow_30 rfl ?_
    obtain ⟨z14, e13, hf⟩ := xbd hf
    refine gf_X11_31 (pc := 31) C e13 dX11_levelsNow_31 ?_
    refine ww_aload_n (pc := 34) C 0 dX11_levelsNow_34 rfl ?_
    obtain ⟨z16, e15, hf⟩ := xbd hf
    refine gf_X11_24 (pc := 35) C e15 dX11_levelsNow_35 ?_
    obtain ⟨_, e17, hf⟩ := xbd hf
    obtain ⟨v19, e18, hf⟩ := xbd hf
    refine ww_callVi (pc := 38) (as := []) (st := [.ref (gB G + z14), .ref (gB G + z12), .ref (gB G + z10)]) C (k_X3_states (l := gl G) (E := gE G) (hb := gB G) (σ := σ) e18) rfl (by decide) xc_X11_291 q871 qp62 (xck_spec e17) rfl (by decide) (xst4 (Nat.le_of_ble_eq_true rfl)) xsame.rf.le xsame.rf.lim dX11_levelsNow_38 ?_
    obtain ⟨_, e20, hf⟩ := xbd hf
    obtain ⟨σ22, e21, hf⟩ := xbd hf
    refine ww_callVv (pc := 41) (as := [.ref (gB G + z12), .ref (gB G + z14), .int v19]) (st := []) C (k_X4_gather (l := gl G) (E := gE G) (hb := gB G) (σ := σ) e21) rfl (by decide) xc_X11_470 q875 qp63 (xck_spec e20) rfl (by decide) (xst4 (Nat.le_of_ble_eq_true rfl)) (m_X4_gather e21).le (m_X4_gather e21).lim dX11_levelsNow_41 ?_
    refine ww_aload_n (pc := 44) C 0 dX11_levelsNow_44 rfl ?_
    obtain ⟨z24, e23, hf⟩ := xbd hf
    refine gf_X11_62 (pc := 45) C e23 dX11_levelsNow_45 ?_
    refine ww_aload_n (pc := 48) C 0 dX11_levelsNow_48 rfl ?_
    obtain ⟨z26, e25, hf⟩ := xbd hf
    refine gf_X11_31 (pc := 49) C e25 dX11_levelsNow_49 ?_
    obtain ⟨v28, e27, hf⟩ := xbd hf
    refine gf_X11_463 (pc := 52) C e27 dX11_levelsNow_52 ?_
    obtain ⟨σ30, e29, hf⟩ := xbd hf
    refine pf_X11_469 (pc := 55) C e29 dX11_levelsNow_55 ?_
    refine ww_aload_n (pc := 58) C 0 dX11_levelsNow_58 rfl ?_
    obtain ⟨z32, e31, hf⟩ := xbd hf
    refine gf_X11_62 (pc := 59) C e31 dX11_levelsNow_59 ?_
    obtain ⟨_, e33, hf⟩ := xbd hf
    have hf := xsj hf
    subst hf
    exact ww_aret (pc := 62) C (Or.inl ⟨_, rfl⟩) (xnz_spec e33) hk.1 dX11_levelsNow_62
theorem m_X11_levelsNow_j4 {σ : XS} {r0 : Nat} {t0 : Nat} {x : Nat × XS} (hf : f_X11_levelsNow_j4 σ r0 t0 = some x) : xext σ x.2 := by
  have hm := xext.rf (σ := σ)
  obtain ⟨z2, e1, hf⟩ := xbd hf
  obtain ⟨v4, e3, hf⟩ := xbd hf
  obtain ⟨z6, e5, hf⟩ := xbd hf
  obtain ⟨v8, e7, hf⟩ := xbd hf
  by_cases q : v4 = v8
  · have hf := xip q hf
    obtain ⟨z10, e9, hf⟩ := xbd hf
    obtain ⟨_, e11, hf⟩ := xbd hf
    have hf := xsj hf
    subst hf
    exact hm
  · have hf := xin q hf
    obtain ⟨z10, e9, hf⟩ := xbd hf
    obtain ⟨z12, e11, hf⟩ := xbd hf
    obtain ⟨z14, e13, hf⟩ := xbd hf
    obtain ⟨z16, e15, hf⟩ := xbd hf
    obtain ⟨_, e17, hf⟩ := xbd hf
    obtain ⟨v19, e18, hf⟩ := xbd hf
    obtain ⟨_, e20, hf⟩ := xbd hf
    obtain ⟨σ22, e21, hf⟩ := xbd hf
    have hm := hm.tr (m_X4_gather e21).ext
    obtain ⟨z24, e23, hf⟩ := xbd hf
    obtain ⟨z26, e25, hf⟩ := xbd hf
    obtain ⟨v28, e27, hf⟩ := xbd hf
    obtain ⟨σ30, e29, hf⟩ := xbd hf
    have hm := hm.tr (xpI_same e29).ext
    obtain ⟨z32, e31, hf⟩ := xbd hf
    obtain ⟨_, e33, hf⟩ := xbd hf
    have hf := xsj hf
    subst hf
    exact hm
theorem s_X11_levelsNow_e {G : XG} (C : XC G cX11_levelsNow RX11 (some (.object "SpinStrip$Levels")) 1 4 95) {σ : XS} {r0 : Nat} {x : Nat × XS} (hf : f_X11_levelsNow σ r0 = some x) (hk : XEnd G (some (xrv (gB G) x.1)) x.2 ∧ XUp G x.2) : WW G 0 [(0, .ref (gB G + r0))] [] σ := by
  refine ww_aload_n (pc := 0) C 0 dX11_levelsNow_0 rfl ?_
  obtain ⟨_, e1, hf⟩ := xbd hf
  obtain ⟨⟨z4, σ3⟩, e2, hf⟩ := xbd hf
  dsimp only at hf
  obtain ⟨_, e5, hf⟩ := xbd hf
  refine ww_callVr (pc := 1) (as := []) (st := []) C (k_X11_energiesNow (l := gl G) (E := gE G) (hb := gB G) (σ := σ) e2) rfl (by decide) xc_X11_367 q850 qp57 (xck_spec e1) rfl (by decide) (xst4 (Nat.le_of_ble_eq_true rfl)) (m_X11_energiesNow e2).1 (fun q => by have hm9 := m_X11_levelsNow_j4 hf; exact XLim.mid q (m_X11_energiesNow e2) hm9 hk.2) dX11_levelsNow_1 ?_
  refine ww_nn (xnz_spec e5) ?_
  refine ww_sub [0] rfl ?_
  exact s_X11_levelsNow_j4 C hf hk
theorem m_X11_levelsNow {σ : XS} {r0 : Nat} {x : Nat × XS} (hf : f_X11_levelsNow σ r0 = some x) : xext σ x.2 := by
  have hm := xext.rf (σ := σ)
  obtain ⟨_, e1, hf⟩ := xbd hf
  obtain ⟨⟨z4, σ3⟩, e2, hf⟩ := xbd hf
  dsimp only at hf
  have hm := hm.tr (m_X11_energiesNow e2)
  obtain ⟨_, e5, hf⟩ := xbd hf
  exact hm.tr (m_X11_levelsNow_j4 hf)
theorem k_X11_levelsNow {l : Launch} {E : XD} {hb : Nat} {σ : XS} {r0 : Nat} {x : Nat × XS} (h : f_X11_levelsNow σ r0 = some x) : XM l yX11_levelsNow cX11_levelsNow 1 (some (.object "SpinStrip$Levels")) 4 95 E hb [.ref (hb + r0)] σ (some (xrv (hb) x.1)) x.2 := by
  refine xm_of (by decide) (Nat.le_of_ble_eq_true rfl) (m_X11_levelsNow h).1 (fun G hG C hl hQ => ?_)
  obtain ⟨rfl, rfl, rfl, hN⟩ := hG
  exact s_X11_levelsNow_e C h ⟨hQ, hl.2⟩
noncomputable def f_X9_putInOrder (σ : XS) (r0 : Nat) (x1 : Int32) (x2 : Int32) : Option XS := if x2 < 0 then (some σ) else if (289 : Int32) ≤ x2 then (some σ) else (xgR σ r0 9 1).bind fun z2 => (xaI σ 20 z2 x2).bind fun v4 => if v4 < 0 then (some σ) else (xgR σ r0 9 1).bind fun z6 => (xaI σ 20 z6 x2).bind fun v8 => if (1024 : Int32) ≤ v8 then (some σ) else (xgR σ r0 9 0).bind fun z10 => (xgR σ r0 9 1).bind fun z12 => (xaI σ 20 z12 x2).bind fun v14 => (xsI σ 20 z10 v14 x1).bind fun σ16 => (xgR σ16 r0 9 1).bind fun z18 => (xaI σ16 20 z18 x2).bind fun v20 => (xsI σ16 20 z18 x2 (v20 + (1 : Int32))).bind fun σ22 => some σ22
theorem s_X9_putInOrder_e {G : XG} (C : XC G cX9_putInOrder RX9 none 3 0 0) {σ : XS} {r0 : Nat} {x1 : Int32} {x2 : Int32} {x : XS} (hf : f_X9_putInOrder σ r0 x1 x2 = some x) (hk : XEnd G none x) : WW G 0 [(0, .ref (gB G + r0)), (1, .int x1), (2, .int x2)] [] σ := by
  refine ww_iload_n (pc := 0) C 2 dX9_putInOrder_0 rfl ?_
  refine ww_if_lt (pc := 1) (tgt := 54) C dX9_putInOrder_1 (by decide) (fun q => ?_) (fun q => ?_)
  · have hf := xip q hf
    have hf := xsj hf
    subst hf
    exact ww_vret (pc := 54) C hk dX9_putInOrder_54
  · have hf := xin q hf
    refine ww_iload_n (pc := 4) C 2 dX9_putInOrder_4 rfl ?_
    refine ww_sipush (pc := 5) (v := (289 : Int32)) C dX9_putInOrder_5 (by decide) ?_
    refine ww_icmp_ge (pc := 8) (tgt := 54) C dX9_putInOrder_8 (by decide) (fun q => ?_) (fun q => ?_)
    · have hf := xip q hf
      have hf := xsj hf
      subst hf
      exact ww_vret (pc := 54) C hk dX9_putInOrder_54
    · have hf := xin q hf
      refine ww_aload_n (pc := 11) C 0 dX9_putInOrder_11 rfl ?_
      obtain ⟨z2, e1, hf⟩ := xbd hf
      refine gf_X9_15 (pc := 12) C e1 dX9_putInOrder_12 ?_
      refine ww_iload_n (pc := 15) C 2 dX9_putInOrder_15 rfl ?_
      obtain ⟨v4, e3, hf⟩ := xbd hf
      refine ww_iald (pc := 16) C e3 dX9_putInOrder_16 ?_
      refine ww_if_lt (pc := 17) (tgt := 54) C dX9_putInOrder_17 (by decide) (fun q => ?_) (fun q => ?_)
      · have hf := xip q hf
        have hf := xsj hf
        subst hf
        exact ww_vret (pc := 54) C hk dX9_putInOrder_54
      · have hf := xin q hf
        refine ww_aload_n (pc := 20) C 0 dX9_putInOrder_20 rfl ?_
        obtain ⟨z6, e5, hf⟩ := xbd hf
        refine gf_X9_15 (pc := 21) C e5 dX9_putInOrder_21 ?_
        refine ww_iload_n (pc := 24) C 2 dX9_putInOrder_24 rfl ?_
        obtain ⟨v8, e7, hf⟩ := xbd hf
        refine ww_iald (pc := 25) C e7 dX9_putInOrder_25 ?_
        refine ww_sipush (pc := 26) (v := (1024 : Int32)) C dX9_putInOrder_26 (by decide) ?_
        refine ww_icmp_ge (pc := 29) (tgt := 54) C dX9_putInOrder_29 (by decide) (fun q => ?_) (fun q => ?_)
        · have hf := xip q hf
          have hf := xsj hf
          subst hf
          exact ww_vret (pc := 54) C hk dX9_putInOrder_54
        · have hf := xin q hf
          refine ww_aload_n (pc := 32) C 0 dX9_putInOrder_32 rfl ?_
          obtain ⟨z10, e9, hf⟩ := xbd hf
          refine gf_X9_9 (pc := 33) C e9 dX9_putInOrder_33 ?_
          refine ww_aload_n (pc := 36) C 0 dX9_putInOrder_36 rfl ?_
          obtain ⟨z12, e11, hf⟩ := xbd hf
          refine gf_X9_15 (pc := 37) C e11 dX9_putInOrder_37 ?_
          refine ww_iload_n (pc := 40) C 2 dX9_putInOrder_40 rfl ?_
          obtain ⟨v14, e13, hf⟩ := xbd hf
          refine ww_iald (pc := 41) C e13 dX9_putInOrder_41 ?_
          refine ww_iload_n (pc := 42) C 1 dX9_putInOrder_42 rfl ?_
          obtain ⟨σ16, e15, hf⟩ := xbd hf
          refine ww_iast (pc := 43) C e15 dX9_putInOrder_43 ?_
          refine ww_aload_n (pc := 44) C 0 dX9_putInOrder_44 rfl ?_
          obtain ⟨z18, e17, hf⟩ := xbd hf
          refine gf_X9_15 (pc := 45) C e17 dX9_putInOrder_45 ?_
          refine ww_iload_n (pc := 48) C 2 dX9_putInOrder_48 rfl ?_
          refine ww_dup2 (pc := 49) C dX9_putInOrder_49 rfl rfl ?_
          obtain ⟨v20, e19, hf⟩ := xbd hf
          refine ww_iald (pc := 50) C e19 dX9_putInOrder_50 ?_
          refine ww_iconst (pc := 51) (v := (1 : Int32)) C dX9_putInOrder_51 (by decide) ?_
          refine ww_iadd (pc := 52) C dX9_putInOrder_52 ?_
          obtain ⟨σ22, e21, hf⟩ := xbd hf
          refine ww_iast (pc := 53) C e21 dX9_putInOrder_53 ?_
          have hf := xsj hf
          subst hf
          exact ww_vret (pc := 54) C hk dX9_putInOrder_54
theorem m_X9_putInOrder {σ : XS} {r0 : Nat} {x1 : Int32} {x2 : Int32} {x : XS} (hf : f_X9_putInOrder σ r0 x1 x2 = some x) : xsame σ x := by
  have hm := xsame.rf (σ := σ)
  by_cases q : x2 < 0
  · have hf := xip q hf
    have hf := xsj hf
    subst hf
    exact hm
  · have hf := xin q hf
    by_cases q : (289 : Int32) ≤ x2
    · have hf := xip q hf
      have hf := xsj hf
      subst hf
      exact hm
    · have hf := xin q hf
      obtain ⟨z2, e1, hf⟩ := xbd hf
      obtain ⟨v4, e3, hf⟩ := xbd hf
      by_cases q : v4 < 0
      · have hf := xip q hf
        have hf := xsj hf
        subst hf
        exact hm
      · have hf := xin q hf
        obtain ⟨z6, e5, hf⟩ := xbd hf
        obtain ⟨v8, e7, hf⟩ := xbd hf
        by_cases q : (1024 : Int32) ≤ v8
        · have hf := xip q hf
          have hf := xsj hf
          subst hf
          exact hm
        · have hf := xin q hf
          obtain ⟨z10, e9, hf⟩ := xbd hf
          obtain ⟨z12, e11, hf⟩ := xbd hf
          obtain ⟨v14, e13, hf⟩ := xbd hf
          obtain ⟨σ16, e15, hf⟩ := xbd hf
          have hm := hm.tr (xsI_same e15)
          obtain ⟨z18, e17, hf⟩ := xbd hf
          obtain ⟨v20, e19, hf⟩ := xbd hf
          obtain ⟨σ22, e21, hf⟩ := xbd hf
          have hm := hm.tr (xsI_same e21)
          have hf := xsj hf
          subst hf
          exact hm
theorem k_X9_putInOrder {l : Launch} {E : XD} {hb : Nat} {σ : XS} {r0 : Nat} {x1 : Int32} {x2 : Int32} {x : XS} (h : f_X9_putInOrder σ r0 x1 x2 = some x) : XM l yX9_putInOrder cX9_putInOrder 3 none 0 0 E hb [.ref (hb + r0), .int x1, .int x2] σ none x := by
  refine xm_of (by decide) (Nat.le_of_ble_eq_true rfl) (m_X9_putInOrder h).le (fun G hG C hl hQ => ?_)
  obtain ⟨rfl, rfl, rfl, hN⟩ := hG
  exact s_X9_putInOrder_e C h hQ
end
section
noncomputable def f_X9_sort_b96 (r0 : Nat) (r1 : Nat) (r3 : Nat) (x5 : Int32) : Int32 × XS → Option ((Int32 × XS) ⊕ (XS)) := fun a => match a with
  | (x6, σ) => if x5 ≤ x6 then ((some σ).map .inr) else (xck σ r3 6).bind fun _ => (f_X6_allows σ r3 x6).bind fun v3 => if v3 = 0 then (some (.inl (x6 + (1 : Int32), σ))) else (xck σ r1 2).bind fun _ => (f_X2_of σ r1 x6).bind fun v6 => (xck σ r0 9).bind fun _ => (f_X9_putInOrder σ r0 x6 (v6 + (144 : Int32))).bind fun σ9 => some (.inl (x6 + (1 : Int32), σ9))
noncomputable def f_X9_sort_b24 (r0 : Nat) (r1 : Nat) (r2 : Nat) (r3 : Nat) : Int32 × XS → Option ((Int32 × XS) ⊕ (XS)) := fun a => match a with
  | (x5, σ) => if (289 : Int32) ≤ x5 then (((xgI σ r0 9 7).bind fun v2 => if v2 ≤ 0 then (xloop (f_X9_sort_b96 r0 r1 r3 (0 : Int32)) ((0 : Int32), σ)) else (xgI σ r0 9 7).bind fun v4 => if (10 : Int32) < v4 then (xloop (f_X9_sort_b96 r0 r1 r3 (0 : Int32)) ((0 : Int32), σ)) else (xgI σ r0 9 7).bind fun v6 => xloop (f_X9_sort_b96 r0 r1 r3 ((1 : Int32) <<< (v6 &&& 31))) ((0 : Int32), σ)).map .inr) else (xgR σ r0 9 1).bind fun z2 => (xgI σ r0 9 8).bind fun v4 => (xsI σ 20 z2 x5 v4).bind fun σ6 => (xgI σ6 r0 9 8).bind fun v8 => (xgR σ6 r2 4 0).bind fun z10 => (xaI σ6 20 z10 x5).bind fun v12 => (xpI σ6 r0 9 8 (v8 + v12)).bind fun σ14 => some (.inl (x5 + (1 : Int32), σ14))
noncomputable def f_X9_sort (σ : XS) (r0 : Nat) (r1 : Nat) (r2 : Nat) (r3 : Nat) (x4 : Int32) : Option XS := (xnz r1).bind fun _ => (xpR σ r0 9 5 r1).bind fun σ3 => (xnz r3).bind fun _ => (xpR σ3 r0 9 6 r3).bind fun σ6 => (xpI σ6 r0 9 7 x4).bind fun σ8 => (xpI σ8 r0 9 8 (0 : Int32)).bind fun σ10 => xloop (f_X9_sort_b24 r0 r1 r2 r3) ((0 : Int32), σ10)
theorem m_X9_sort_l96 {r0 : Nat} {r1 : Nat} {r3 : Nat} {x5 : Int32} {a : Int32 × XS} {x : XS} (hf : xloop (f_X9_sort_b96 r0 r1 r3 x5) a = some x) : xsame a.2 x := by
  refine xloop_ind (P := fun a => xsame a.2 x) (fun a y hf hc he => ?_) hf
  obtain ⟨x6, σ⟩ := a
  have hy : (∀ a' : Int32 × XS, y = .inl a' → xsame σ a'.2) ∧ (∀ b1 : XS, y = .inr b1 → xsame σ b1) := by
    have hm := xsame.rf (σ := σ)
    by_cases q : x5 ≤ x6
    · have hf := xip q hf
      obtain ⟨b0, hg, e9⟩ := xmj hf
      subst e9
      have hf := hg
      refine ⟨fun a' e => xnc2 e, fun b e => ?_⟩
      have h9 := Sum.inr.inj e
      subst h9
      have hf := xsj hf
      subst hf
      exact hm
    · have hf := xin q hf
      obtain ⟨_, e1, hf⟩ := xbd hf
      obtain ⟨v3, e2, hf⟩ := xbd hf
      by_cases q : v3 = 0
      · have hf := xip q hf
        have hf := xsj hf
        subst hf
        exact ⟨fun a' e => (by have h9 := Sum.inl.inj e; subst h9; exact hm), fun b e => xnc1 e⟩
      · have hf := xin q hf
        obtain ⟨_, e4, hf⟩ := xbd hf
        obtain ⟨v6, e5, hf⟩ := xbd hf
        obtain ⟨_, e7, hf⟩ := xbd hf
        obtain ⟨σ9, e8, hf⟩ := xbd hf
        have hm := hm.tr (m_X9_putInOrder e8)
        have hf := xsj hf
        subst hf
        exact ⟨fun a' e => (by have h9 := Sum.inl.inj e; subst h9; exact hm), fun b e => xnc1 e⟩
  cases y with
  | inl a' =>
    have h1 := hc a' rfl
    have hm := hy.1 a' rfl
    exact hm.tr (h1)
  | inr b =>
    have h1 := he b rfl
    subst h1
    exact hy.2 _ rfl
theorem s_X9_sort_l96 {G : XG} (C : XC G cX9_sort RX9 none 7 1 22) {r0 : Nat} {r1 : Nat} {r3 : Nat} {x5 : Int32} {a : Int32 × XS} {x : XS} (hf : xloop (f_X9_sort_b96 r0 r1 r3 x5) a = some x) (hk : XEnd G none x) : WW G 96 [(0, .ref (gB G + r0)), (1, .ref (gB G + r1)), (3, .ref (gB G + r3)), (5, .int x5), (6, .int a.1)] [] a.2 := by
  refine xloop_ind (P := fun a => WW G 96 [(0, .ref (gB G + r0)), (1, .ref (gB G + r1)), (3, .ref (gB G + r3)), (5, .int x5), (6, .int a.1)] [] a.2) (fun a y hf hc he => ?_) hf
  obtain ⟨x6, σ⟩ := a
  have hk : (∀ a' : Int32 × XS, y = .inl a' → WW G 96 [(0, .ref (gB G + r0)), (1, .ref (gB G + r1)), (3, .ref (gB G + r3)), (5, .int x5), (6, .int a'.1)] [] a'.2) ∧ (∀ b1 : XS, y = .inr b1 → XEnd G none b1) := ⟨hc, fun b e => by have h9 := he b e; subst h9; exact hk⟩
  refine ww_iload (pc := 96) C 4 dX9_sort_96 rfl ?_
  refine ww_iload (pc := 98) C 3 dX9_sort_98 rfl ?_
  refine ww_icmp_ge (pc := 100) (tgt := 134) C dX9_sort_100 (by decide) (fun q => ?_) (fun q => ?_)
  · have hf := xip q hf
    obtain ⟨b0, hg, e9⟩ := xmj hf
    subst e9
    have hf := hg
    have hk := hk.2 _ rfl
    have hf := xsj hf
    subst hf
    exact ww_vret (pc := 134) C hk dX9_sort_134
  · have hf := xin q hf
    refine ww_aload_n (pc := 103) C 2 dX9_sort_103 rfl ?_
    refine ww_iload (pc := 104) C 4 dX9_sort_104 rfl ?_
    obtain ⟨_, e1, hf⟩ := xbd hf
    obtain ⟨v3, e2, hf⟩ := xbd hf
    refine ww_callVi (pc := 106) (as := [.int x6]) (st := []) C (k_X6_allows (l := gl G) (E := gE G) (hb := gB G) (σ := σ) e2) rfl (by decide) xc_X9_50 q890 qp65 (xck_spec e1) rfl (by decide) (xst4 (Nat.le_of_ble_eq_true rfl)) xsame.rf.le xsame.rf.lim dX9_sort_106 ?_
    refine ww_if_eq (pc := 109) (tgt := 128) C dX9_sort_109 (by decide) (fun q => ?_) (fun q => ?_)
    · have hf := xip q hf
      refine ww_iinc (pc := 128) (v := x6 + (1 : Int32)) (lv' := [(6, .int (x6 + (1 : Int32))), (0, .ref (gB G + r0)), (1, .ref (gB G + r1)), (3, .ref (gB G + r3)), (5, .int x5)]) C 4 dX9_sort_128 rfl (congrArg (fun z => x6 + z) (show Int32.ofInt (1) = (1 : Int32) by decide)) (by decide) rfl ?_
      refine ww_goto (pc := 131) (tgt := 96) C dX9_sort_131 (by decide) ?_
      have hf := xsj hf
      subst hf
      refine ww_sub [1, 2, 3, 4, 0] rfl ?_
      exact hk.1 (x6 + (1 : Int32), σ) rfl
    · have hf := xin q hf
      refine ww_aload_n (pc := 112) C 0 dX9_sort_112 rfl ?_
      refine ww_iload (pc := 113) C 4 dX9_sort_113 rfl ?_
      refine ww_aload_n (pc := 115) C 1 dX9_sort_115 rfl ?_
      refine ww_iload (pc := 116) C 4 dX9_sort_116 rfl ?_
      obtain ⟨_, e4, hf⟩ := xbd hf
      obtain ⟨v6, e5, hf⟩ := xbd hf
      refine ww_callVi (pc := 118) (as := [.int x6]) (st := [.int x6, .ref (gB G + r0)]) C (k_X2_of (l := gl G) (E := gE G) (hb := gB G) (σ := σ) e5) rfl (by decide) xc_X9_56 q880 qp64 (xck_spec e4) rfl (by decide) (xst4 (Nat.le_of_ble_eq_true rfl)) xsame.rf.le xsame.rf.lim dX9_sort_118 ?_
      refine ww_sipush (pc := 121) (v := (144 : Int32)) C dX9_sort_121 (by decide) ?_
      refine ww_iadd (pc := 124) C dX9_sort_124 ?_
      obtain ⟨_, e7, hf⟩ := xbd hf
      obtain ⟨σ9, e8, hf⟩ := xbd hf
      refine ww_callVv (pc := 125) (as := [.int x6, .int (v6 + (144 : Int32))]) (st := []) C (k_X9_putInOrder (l := gl G) (E := gE G) (hb := gB G) (σ := σ) e8) rfl (by decide) xc_X9_62 q1124 qp97 (xck_spec e7) rfl (by decide) (xst4 (Nat.le_of_ble_eq_true rfl)) (m_X9_putInOrder e8).le (m_X9_putInOrder e8).lim dX9_sort_125 ?_
      refine ww_iinc (pc := 128) (v := x6 + (1 : Int32)) (lv' := [(6, .int (x6 + (1 : Int32))), (0, .ref (gB G + r0)), (1, .ref (gB G + r1)), (3, .ref (gB G + r3)), (5, .int x5)]) C 4 dX9_sort_128 rfl (congrArg (fun z => x6 + z) (show Int32.ofInt (1) = (1 : Int32) by decide)) (by decide) rfl ?_
      refine ww_goto (pc := 131) (tgt := 96) C dX9_sort_131 (by decide) ?_
      have hf := xsj hf
      subst hf
      refine ww_sub [1, 2, 3, 4, 0] rfl ?_
      exact hk.1 (x6 + (1 : Int32), σ9) rfl
theorem m_X9_sort_l24 {r0 : Nat} {r1 : Nat} {r2 : Nat} {r3 : Nat} {a : Int32 × XS} {x : XS} (hf : xloop (f_X9_sort_b24 r0 r1 r2 r3) a = some x) : xsame a.2 x := by
  refine xloop_ind (P := fun a => xsame a.2 x) (fun a y hf hc he => ?_) hf
  obtain ⟨x5, σ⟩ := a
  have hy : (∀ a' : Int32 × XS, y = .inl a' → xsame σ a'.2) ∧ (∀ b1 : XS, y = .inr b1 → xsame σ b1) := by
    have hm := xsame.rf (σ := σ)
    by_cases q : (289 : Int32) ≤ x5
    · have hf := xip q hf
      obtain ⟨b0, hg, e9⟩ := xmj hf
      subst e9
      have hf := hg
      refine ⟨fun a' e => xnc2 e, fun b e => ?_⟩
      have h9 := Sum.inr.inj e
      subst h9
      obtain ⟨v2, e1, hf⟩ := xbd hf
      by_cases q : v2 ≤ 0
      · have hf := xip q hf
        exact hm.tr (m_X9_sort_l96 (a := ((0 : Int32), σ)) hf)
      · have hf := xin q hf
        obtain ⟨v4, e3, hf⟩ := xbd hf
        by_cases q : (10 : Int32) < v4
        · have hf := xip q hf
          exact hm.tr (m_X9_sort_l96 (a := ((0 : Int32), σ)) hf)
        · have hf := xin q hf
          obtain ⟨v6, e5, hf⟩ := xbd hf
          exact hm.tr (m_X9_sort_l96 (a := ((0 : Int32), σ)) hf)
    · have hf := xin q hf
      obtain ⟨z2, e1, hf⟩ := xbd hf
      obtain ⟨v4, e3, hf⟩ := xbd hf
      obtain ⟨σ6, e5, hf⟩ := xbd hf
      have hm := hm.tr (xsI_same e5)
      obtain ⟨v8, e7, hf⟩ := xbd hf
      obtain ⟨z10, e9, hf⟩ := xbd hf
      obtain ⟨v12, e11, hf⟩ := xbd hf
      obtain ⟨σ14, e13, hf⟩ := xbd hf
      have hm := hm.tr (xpI_same e13)
      have hf := xsj hf
      subst hf
      exact ⟨fun a' e => (by have h9 := Sum.inl.inj e; subst h9; exact hm), fun b e => xnc1 e⟩
  cases y with
  | inl a' =>
    have h1 := hc a' rfl
    have hm := hy.1 a' rfl
    exact hm.tr (h1)
  | inr b =>
    have h1 := he b rfl
    subst h1
    exact hy.2 _ rfl
theorem s_X9_sort_l24 {G : XG} (C : XC G cX9_sort RX9 none 7 1 22) {r0 : Nat} {r1 : Nat} {r2 : Nat} {r3 : Nat} {a : Int32 × XS} {x : XS} (hf : xloop (f_X9_sort_b24 r0 r1 r2 r3) a = some x) (hk : XEnd G none x) : WW G 24 [(0, .ref (gB G + r0)), (1, .ref (gB G + r1)), (2, .ref (gB G + r2)), (3, .ref (gB G + r3)), (5, .int a.1)] [] a.2 := by
  refine xloop_ind (P := fun a => WW G 24 [(0, .ref (gB G + r0)), (1, .ref (gB G + r1)), (2, .ref (gB G + r2)), (3, .ref (gB G + r3)), (5, .int a.1)] [] a.2) (fun a y hf hc he => ?_) hf
  obtain ⟨x5, σ⟩ := a
  have hk : (∀ a' : Int32 × XS, y = .inl a' → WW G 24 [(0, .ref (gB G + r0)), (1, .ref (gB G + r1)), (2, .ref (gB G + r2)), (3, .ref (gB G + r3)), (5, .int a'.1)] [] a'.2) ∧ (∀ b1 : XS, y = .inr b1 → XEnd G none b1) := ⟨hc, fun b e => by have h9 := he b e; subst h9; exact hk⟩
  refine ww_iload (pc := 24) C 4 dX9_sort_24 rfl ?_
  refine ww_sipush (pc := 26) (v := (289 : Int32)) C dX9_sort_26 (by decide) ?_
  refine ww_icmp_ge (pc := 29) (tgt := 65) C dX9_sort_29 (by decide) (fun q => ?_) (fun q => ?_)
  · have hf := xip q hf
    obtain ⟨b0, hg, e9⟩ := xmj hf
    subst e9
    have hf := hg
    have hk := hk.2 _ rfl
    refine ww_aload_n (pc := 65) C 0 dX9_sort_65 rfl ?_
    obtain ⟨v2, e1, hf⟩ := xbd hf
    refine gf_X9_40 (pc := 66) C e1 dX9_sort_66 ?_
    refine ww_if_le (pc := 69) (tgt := 90) C dX9_sort_69 (by decide) (fun q => ?_) (fun q => ?_)
    · have hf := xip q hf
      refine ww_iconst (pc := 90) (v := (0 : Int32)) C dX9_sort_90 (by decide) ?_
      refine ww_istore (pc := 91) (lv' := [(5, .int (0 : Int32)), (0, .ref (gB G + r0)), (1, .ref (gB G + r1)), (2, .ref (gB G + r2)), (3, .ref (gB G + r3))]) C dX9_sort_91 (by decide) rfl ?_
      refine ww_iconst (pc := 93) (v := (0 : Int32)) C dX9_sort_93 (by decide) ?_
      refine ww_istore (pc := 94) (lv' := [(6, .int (0 : Int32)), (5, .int (0 : Int32)), (0, .ref (gB G + r0)), (1, .ref (gB G + r1)), (2, .ref (gB G + r2)), (3, .ref (gB G + r3))]) C dX9_sort_94 (by decide) rfl ?_
      refine ww_sub [2, 3, 5, 1, 0] rfl ?_
      exact s_X9_sort_l96 C (a := ((0 : Int32), σ)) hf hk
    · have hf := xin q hf
      refine ww_aload_n (pc := 72) C 0 dX9_sort_72 rfl ?_
      obtain ⟨v4, e3, hf⟩ := xbd hf
      refine gf_X9_40 (pc := 73) C e3 dX9_sort_73 ?_
      refine ww_bipush (pc := 76) (v := (10 : Int32)) C dX9_sort_76 (by decide) ?_
      refine ww_icmp_gt (pc := 78) (tgt := 90) C dX9_sort_78 (by decide) (fun q => ?_) (fun q => ?_)
      · have hf := xip q hf
        refine ww_iconst (pc := 90) (v := (0 : Int32)) C dX9_sort_90 (by decide) ?_
        refine ww_istore (pc := 91) (lv' := [(5, .int (0 : Int32)), (0, .ref (gB G + r0)), (1, .ref (gB G + r1)), (2, .ref (gB G + r2)), (3, .ref (gB G + r3))]) C dX9_sort_91 (by decide) rfl ?_
        refine ww_iconst (pc := 93) (v := (0 : Int32)) C dX9_sort_93 (by decide) ?_
        refine ww_istore (pc := 94) (lv' := [(6, .int (0 : Int32)), (5, .int (0 : Int32)), (0, .ref (gB G + r0)), (1, .ref (gB G + r1)), (2, .ref (gB G + r2)), (3, .ref (gB G + r3))]) C dX9_sort_94 (by decide) rfl ?_
        refine ww_sub [2, 3, 5, 1, 0] rfl ?_
        exact s_X9_sort_l96 C (a := ((0 : Int32), σ)) hf hk
      · have hf := xin q hf
        refine ww_iconst (pc := 81) (v := (1 : Int32)) C dX9_sort_81 (by decide) ?_
        refine ww_aload_n (pc := 82) C 0 dX9_sort_82 rfl ?_
        obtain ⟨v6, e5, hf⟩ := xbd hf
        refine gf_X9_40 (pc := 83) C e5 dX9_sort_83 ?_
        refine ww_ishl (pc := 86) C dX9_sort_86 ?_
        refine ww_goto (pc := 87) (tgt := 91) C dX9_sort_87 (by decide) ?_
        refine ww_istore (pc := 91) (lv' := [(5, .int ((1 : Int32) <<< (v6 &&& 31))), (0, .ref (gB G + r0)), (1, .ref (gB G + r1)), (2, .ref (gB G + r2)), (3, .ref (gB G + r3))]) C dX9_sort_91 (by decide) rfl ?_
        refine ww_iconst (pc := 93) (v := (0 : Int32)) C dX9_sort_93 (by decide) ?_
        refine ww_istore (pc := 94) (lv' := [(6, .int (0 : Int32)), (5, .int ((1 : Int32) <<< (v6 &&& 31))), (0, .ref (gB G + r0)), (1, .ref (gB G + r1)), (2, .ref (gB G + r2)), (3, .ref (gB G + r3))]) C dX9_sort_94 (by decide) rfl ?_
        refine ww_sub [2, 3, 5, 1, 0] rfl ?_
        exact s_X9_sort_l96 C (a := ((0 : Int32), σ)) hf hk
  · have hf := xin q hf
    refine ww_aload_n (pc := 32) C 0 dX9_sort_32 rfl ?_
    obtain ⟨z2, e1, hf⟩ := xbd hf
    refine gf_X9_15 (pc := 33) C e1 dX9_sort_33 ?_
    refine ww_iload (pc := 36) C 4 dX9_sort_36 rfl ?_
    refine ww_aload_n (pc := 38) C 0 dX9_sort_38 rfl ?_
    obtain ⟨v4, e3, hf⟩ := xbd hf
    refine gf_X9_43 (pc := 39) C e3 dX9_sort_39 ?_
    obtain ⟨σ6, e5, hf⟩ := xbd hf
    refine ww_iast (pc := 42) C e5 dX9_sort_42 ?_
    refine ww_aload_n (pc := 43) C 0 dX9_sort_43 rfl ?_
    refine ww_dup (pc := 44) C dX9_sort_44 rfl ?_
    obtain ⟨v8, e7, hf⟩ := xbd hf
    refine gf_X9_43 (pc := 45) C e7 dX9_sort_45 ?_
    refine ww_aload_n (pc := 48) C 2 dX9_sort_48 rfl ?_
    obtain ⟨z10, e9, hf⟩ := xbd hf
    refine gf_X9_46 (pc := 49) C e9 dX9_sort_49 ?_
    refine ww_iload (pc := 52) C 4 dX9_sort_52 rfl ?_
    obtain ⟨v12, e11, hf⟩ := xbd hf
    refine ww_iald (pc := 54) C e11 dX9_sort_54 ?_
    refine ww_iadd (pc := 55) C dX9_sort_55 ?_
    obtain ⟨σ14, e13, hf⟩ := xbd hf
    refine pf_X9_43 (pc := 56) C e13 dX9_sort_56 ?_
    refine ww_iinc (pc := 59) (v := x5 + (1 : Int32)) (lv' := [(5, .int (x5 + (1 : Int32))), (0, .ref (gB G + r0)), (1, .ref (gB G + r1)), (2, .ref (gB G + r2)), (3, .ref (gB G + r3))]) C 4 dX9_sort_59 rfl (congrArg (fun z => x5 + z) (show Int32.ofInt (1) = (1 : Int32) by decide)) (by decide) rfl ?_
    refine ww_goto (pc := 62) (tgt := 24) C dX9_sort_62 (by decide) ?_
    have hf := xsj hf
    subst hf
    refine ww_sub [1, 2, 3, 4, 0] rfl ?_
    exact hk.1 (x5 + (1 : Int32), σ14) rfl
theorem s_X9_sort_e {G : XG} (C : XC G cX9_sort RX9 none 7 1 22) {σ : XS} {r0 : Nat} {r1 : Nat} {r2 : Nat} {r3 : Nat} {x4 : Int32} {x : XS} (hf : f_X9_sort σ r0 r1 r2 r3 x4 = some x) (hk : XEnd G none x) : WW G 0 [(0, .ref (gB G + r0)), (1, .ref (gB G + r1)), (2, .ref (gB G + r2)), (3, .ref (gB G + r3)), (4, .int x4)] [] σ := by
  refine ww_aload_n (pc := 0) C 0 dX9_sort_0 rfl ?_
  refine ww_aload_n (pc := 1) C 1 dX9_sort_1 rfl ?_
  obtain ⟨_, e1, hf⟩ := xbd hf
  obtain ⟨σ3, e2, hf⟩ := xbd hf
  refine pf_X9_32 (pc := 2) C (xnz_spec e1) e2 dX9_sort_2 ?_
  refine ww_aload_n (pc := 5) C 0 dX9_sort_5 rfl ?_
  refine ww_aload_n (pc := 6) C 3 dX9_sort_6 rfl ?_
  obtain ⟨_, e4, hf⟩ := xbd hf
  obtain ⟨σ6, e5, hf⟩ := xbd hf
  refine pf_X9_36 (pc := 7) C (xnz_spec e4) e5 dX9_sort_7 ?_
  refine ww_aload_n (pc := 10) C 0 dX9_sort_10 rfl ?_
  refine ww_iload (pc := 11) C 4 dX9_sort_11 rfl ?_
  obtain ⟨σ8, e7, hf⟩ := xbd hf
  refine pf_X9_40 (pc := 13) C e7 dX9_sort_13 ?_
  refine ww_aload_n (pc := 16) C 0 dX9_sort_16 rfl ?_
  refine ww_iconst (pc := 17) (v := (0 : Int32)) C dX9_sort_17 (by decide) ?_
  obtain ⟨σ10, e9, hf⟩ := xbd hf
  refine pf_X9_43 (pc := 18) C e9 dX9_sort_18 ?_
  refine ww_iconst (pc := 21) (v := (0 : Int32)) C dX9_sort_21 (by decide) ?_
  refine ww_istore (pc := 22) (lv' := [(5, .int (0 : Int32)), (0, .ref (gB G + r0)), (1, .ref (gB G + r1)), (2, .ref (gB G + r2)), (3, .ref (gB G + r3)), (4, .int x4)]) C dX9_sort_22 (by decide) rfl ?_
  refine ww_sub [1, 2, 3, 4, 0] rfl ?_
  exact s_X9_sort_l24 C (a := ((0 : Int32), σ10)) hf hk
theorem m_X9_sort {σ : XS} {r0 : Nat} {r1 : Nat} {r2 : Nat} {r3 : Nat} {x4 : Int32} {x : XS} (hf : f_X9_sort σ r0 r1 r2 r3 x4 = some x) : xsame σ x := by
  have hm := xsame.rf (σ := σ)
  obtain ⟨_, e1, hf⟩ := xbd hf
  obtain ⟨σ3, e2, hf⟩ := xbd hf
  have hm := hm.tr (xpR_same e2)
  obtain ⟨_, e4, hf⟩ := xbd hf
  obtain ⟨σ6, e5, hf⟩ := xbd hf
  have hm := hm.tr (xpR_same e5)
  obtain ⟨σ8, e7, hf⟩ := xbd hf
  have hm := hm.tr (xpI_same e7)
  obtain ⟨σ10, e9, hf⟩ := xbd hf
  have hm := hm.tr (xpI_same e9)
  exact hm.tr (m_X9_sort_l24 (a := ((0 : Int32), σ10)) hf)
theorem k_X9_sort {l : Launch} {E : XD} {hb : Nat} {σ : XS} {r0 : Nat} {r1 : Nat} {r2 : Nat} {r3 : Nat} {x4 : Int32} {x : XS} (h : f_X9_sort σ r0 r1 r2 r3 x4 = some x) : XM l yX9_sort cX9_sort 7 none 1 22 E hb [.ref (hb + r0), .ref (hb + r1), .ref (hb + r2), .ref (hb + r3), .int x4] σ none x := by
  refine xm_of (by decide) (Nat.le_of_ble_eq_true rfl) (m_X9_sort h).le (fun G hG C hl hQ => ?_)
  obtain ⟨rfl, rfl, rfl, hN⟩ := hG
  exact s_X9_sort_e C h hQ
noncomputable def f_X11_terrainNow_j4 (σ : XS) (r0 : Nat) (t0 : Nat) : Option (Nat × XS) := (xgR σ r0 11 10).bind fun z2 => (xgI σ z2 9 10).bind fun v4 => (xgR σ r0 11 3).bind fun z6 => (xgI σ z6 6 7).bind fun v8 => if v4 = v8 then ((xgR σ r0 11 10).bind fun z10 => (xnz z10).bind fun _ => some (z10, σ)) else (xgR σ r0 11 10).bind fun z10 => (xgR σ r0 11 6).bind fun z12 => (xgR σ r0 11 3).bind fun z14 => (xgR σ r0 11 2).bind fun z16 => (xgI σ z16 3 7).bind fun v18 => (xck σ z10 9).bind fun _ => (f_X9_sort σ z10 z12 t0 z14 v18).bind fun σ21 => (xgR σ21 r0 11 10).bind fun z23 => (xgR σ21 r0 11 3).bind fun z25 => (xgI σ21 z25 6 7).bind fun v27 => (xpI σ21 z23 9 10 v27).bind fun σ29 => (xgR σ29 r0 11 10).bind fun z31 => (xnz z31).bind fun _ => some (z31, σ29)
noncomputable def f_X11_terrainNow (σ : XS) (r0 : Nat) : Option (Nat × XS) := (xck σ r0 11).bind fun _ => (f_X11_levelsNow σ r0).bind fun (z4, σ3) => (xnz z4).bind fun _ => f_X11_terrainNow_j4 σ3 r0 z4
theorem s_X11_terrainNow_j4 {G : XG} (C : XC G cX11_terrainNow RX11 (some (.object "SpinStrip$Terrain")) 2 5 115) {σ : XS} {r0 : Nat} {t0 : Nat} {x : Nat × XS} (hf : f_X11_terrainNow_j4 σ r0 t0 = some x) (hk : XEnd G (some (xrv (gB G) x.1)) x.2 ∧ XUp G x.2) : WW G 4 [(0, .ref (gB G + r0))] [.ref (gB G + t0)] σ := by
  refine ww_astore_n (pc := 4) (lv' := [(1, .ref (gB G + t0)), (0, .ref (gB G + r0))]) C dX11_terrainNow_4 (by decide) rfl ?_
  refine ww_aload_n (pc := 5) C 1 dX11_terrainNow_5 rfl ?_
  obtain ⟨z2, e1, hf⟩ := xbd hf
  refine gf_X11_76 (pc := 6) C e1 dX11_terrainNow_6 ?_
  obtain ⟨v4, e3, hf⟩ := xbd hf
  refine gf_X11_478 (pc := 9) C e3 dX11_terrainNow_9 ?_
  refine ww_aload_n (pc := 12) C 1 dX11_terrainNow_12 rfl ?_
  obtain ⟨z6, e5, hf⟩ := xbd hf
  refine gf_X11_31 (pc := 13) C e5 dX11_terrainNow_13 ?_
  obtain ⟨v8, e7, hf⟩ := xbd hf
  refine gf_X11_463 (pc := 16) C e7 dX11_terrainNow_16 ?_
  refine ww_icmp_eq (pc := 19) (tgt := 59) C dX11_terrainNow_19 (by decide) (fun q => ?_) (fun q => ?_)
  · have hf := xip q hf
    refine ww_aload_n (pc := 59) C 1 dX11_terrainNow_59 rfl ?_
    obtain ⟨z10, e9, hf⟩ := xbd hf
    refine gf_X11_76 (pc := 60) C e9 dX11_terrainNow_60 ?_
    obtain ⟨_, e11, hf⟩ := xbd hf
    have hf := xsj hf
    subst hf
    exact ww_aret (pc := 63) C (Or.inl ⟨_, rfl⟩) (xnz_spec e11) hk.1 dX11_terrainNow_63
  · have hf := xin q hf
    refine ww_aload_n (pc := 22) C 1 dX11_terrainNow_22 rfl ?_
    obtain ⟨z10, e9, hf⟩ := xbd hf
    refine gf_X11_76 (pc := 23) C e9 dX11_terrainNow_23 ?_
    refine ww_aload_n (pc := 26) C 1 dX11_terrainNow_26 rfl ?_
    obtain ⟨z12, e11, hf⟩ := xbd hf
    refine gf_X11_52 (pc := 27) C e11 dX11_terrainNow_27 ?_
    refine ww_aload_n (pc := 30) C 0 dX11_terrainNow_30 rfl ?_
    refine ww_aload_n (pc := 31) C 1 dX11_terrainNow_31 rfl ?_
    obtain ⟨z14, e13, hf⟩ := xbd hf
    refine gf_X11_31 (pc := 32) C e13 dX11_terrainNow_32 ?_
    refine ww_aload_n (pc := 35) C 1 dX11_terrainNow_35 rfl ?_
    obtain ⟨z16, e15, hf⟩ := xbd hf
    refine gf_X11_24 (pc := 36) C e15 dX11_terrainNow_36 ?_
    obtain ⟨v18, e17, hf⟩ := xbd hf
    refine gf_X11_197 (pc := 39) C e17 dX11_terrainNow_39 ?_
    obtain ⟨_, e19, hf⟩ := xbd hf
    obtain ⟨σ21, e20, hf⟩ := xbd hf
    refine ww_callVv (pc := 42) (as := [.ref (gB G + z12), .ref (gB G + t0), .ref (gB G + z14), .int v18]) (st := []) C (k_X9_sort (l := gl G) (E := gE G) (hb := gB G) (σ := σ) e20) rfl (by decide) xc_X11_479 q1118 qp96 (xck_spec e19) rfl (by decide) (xst4 (Nat.le_of_ble_eq_true rfl)) (m_X9_sort e20).le (m_X9_sort e20).lim dX11_terrainNow_42 ?_
    refine ww_aload_n (pc := 45) C 1 dX11_terrainNow_45 rfl ?_
    obtain ⟨z23, e22, hf⟩ := xbd hf
    refine gf_X11_76 (pc := 46) C e22 dX11_terrainNow_46 ?_
    refine ww_aload_n (pc := 49) C 1 dX11_terrainNow_49 rfl ?_
    obtain ⟨z25, e24, hf⟩ := xbd hf
    refine gf_X11_31 (pc := 50) C e24 dX11_terrainNow_50 ?_
    obtain ⟨v27, e26, hf⟩ := xbd hf
    refine gf_X11_463 (pc := 53) C e26 dX11_terrainNow_53 ?_
    obtain ⟨σ29, e28, hf⟩ := xbd hf
    refine pf_X11_478 (pc := 56) C e28 dX11_terrainNow_56 ?_
    refine ww_aload_n (pc := 59) C 1 dX11_terrainNow_59 rfl ?_
    obtain ⟨z31, e30, hf⟩ := xbd hf
    refine gf_X11_76 (pc := 60) C e30 dX11_terrainNow_60 ?_
    obtain ⟨_, e32, hf⟩ := xbd hf
    have hf := xsj hf
    subst hf
    exact ww_aret (pc := 63) C (Or.inl ⟨_, rfl⟩) (xnz_spec e32) hk.1 dX11_terrainNow_63
theorem m_X11_terrainNow_j4 {σ : XS} {r0 : Nat} {t0 : Nat} {x : Nat × XS} (hf : f_X11_terrainNow_j4 σ r0 t0 = some x) : xext σ x.2 := by
  have hm := xext.rf (σ := σ)
  obtain ⟨z2, e1, hf⟩ := xbd hf
  obtain ⟨v4, e3, hf⟩ := xbd hf
  obtain ⟨z6, e5, hf⟩ := xbd hf
  obtain ⟨v8, e7, hf⟩ := xbd hf
  by_cases q : v4 = v8
  · have hf := xip q hf
    obtain ⟨z10, e9, hf⟩ := xbd hf
    obtain ⟨_, e11, hf⟩ := xbd hf
    have hf := xsj hf
    subst hf
    exact hm
  · have hf := xin q hf
    obtain ⟨z10, e9, hf⟩ := xbd hf
    obtain ⟨z12, e11, hf⟩ := xbd hf
    obtain ⟨z14, e13, hf⟩ := xbd hf
    obtain ⟨z16, e15, hf⟩ := xbd hf
    obtain ⟨v18, e17, hf⟩ := xbd hf
    obtain ⟨_, e19, hf⟩ := xbd hf
    obtain ⟨σ21, e20, hf⟩ := xbd hf
    have hm := hm.tr (m_X9_sort e20).ext
    obtain ⟨z23, e22, hf⟩ := xbd hf
    obtain ⟨z25, e24, hf⟩ := xbd hf
    obtain ⟨v27, e26, hf⟩ := xbd hf
    obtain ⟨σ29, e28, hf⟩ := xbd hf
    have hm := hm.tr (xpI_same e28).ext
    obtain ⟨z31, e30, hf⟩ := xbd hf
    obtain ⟨_, e32, hf⟩ := xbd hf
    have hf := xsj hf
    subst hf
    exact hm
theorem s_X11_terrainNow_e {G : XG} (C : XC G cX11_terrainNow RX11 (some (.object "SpinStrip$Terrain")) 2 5 115) {σ : XS} {r0 : Nat} {x : Nat × XS} (hf : f_X11_terrainNow σ r0 = some x) (hk : XEnd G (some (xrv (gB G) x.1)) x.2 ∧ XUp G x.2) : WW G 0 [(0, .ref (gB G + r0))] [] σ := by
  refine ww_aload_n (pc := 0) C 0 dX11_terrainNow_0 rfl ?_
  obtain ⟨_, e1, hf⟩ := xbd hf
  obtain ⟨⟨z4, σ3⟩, e2, hf⟩ := xbd hf
  dsimp only at hf
  obtain ⟨_, e5, hf⟩ := xbd hf
  refine ww_callVr (pc := 1) (as := []) (st := []) C (k_X11_levelsNow (l := gl G) (E := gE G) (hb := gB G) (σ := σ) e2) rfl (by decide) xc_X11_251 q846 qp56 (xck_spec e1) rfl (by decide) (xst4 (Nat.le_of_ble_eq_true rfl)) (m_X11_levelsNow e2).1 (fun q => by have hm9 := m_X11_terrainNow_j4 hf; exact XLim.mid q (m_X11_levelsNow e2) hm9 hk.2) dX11_terrainNow_1 ?_
  refine ww_nn (xnz_spec e5) ?_
  refine ww_sub [0] rfl ?_
  exact s_X11_terrainNow_j4 C hf hk
theorem m_X11_terrainNow {σ : XS} {r0 : Nat} {x : Nat × XS} (hf : f_X11_terrainNow σ r0 = some x) : xext σ x.2 := by
  have hm := xext.rf (σ := σ)
  obtain ⟨_, e1, hf⟩ := xbd hf
  obtain ⟨⟨z4, σ3⟩, e2, hf⟩ := xbd hf
  dsimp only at hf
  have hm := hm.tr (m_X11_levelsNow e2)
  obtain ⟨_, e5, hf⟩ := xbd hf
  exact hm.tr (m_X11_terrainNow_j4 hf)
theorem k_X11_terrainNow {l : Launch} {E : XD} {hb : Nat} {σ : XS} {r0 : Nat} {x : Nat × XS} (h : f_X11_terrainNow σ r0 = some x) : XM l yX11_terrainNow cX11_terrainNow 2 (some (.object "SpinStrip$Terrain")) 5 115 E hb [.ref (hb + r0)] σ (some (xrv (hb) x.1)) x.2 := by
  refine xm_of (by decide) (Nat.le_of_ble_eq_true rfl) (m_X11_terrainNow h).1 (fun G hG C hl hQ => ?_)
  obtain ⟨rfl, rfl, rfl, hN⟩ := hG
  exact s_X11_terrainNow_e C h ⟨hQ, hl.2⟩
noncomputable def f_X9_canTurn (σ : XS) (r0 : Nat) (x1 : Int32) : Option Int32 := (xgN σ r0 9 6).bind fun z2 => if z2 = 0 then (some (0 : Int32)) else (xgN σ r0 9 6).bind fun z4 => if z4 = 0 then (none) else (xck σ z4 6).bind fun _ => (f_X6_isPinned σ z4 x1).bind fun v7 => if v7 = 0 then (some (1 : Int32)) else some (0 : Int32)
theorem s_X9_canTurn_e {G : XG} (C : XC G cX9_canTurn RX9 (some .boolean) 2 2 42) {σ : XS} {r0 : Nat} {x1 : Int32} {x : Int32} (hf : f_X9_canTurn σ r0 x1 = some x) (hk : XEnd G (some (.int x)) σ) : WW G 0 [(0, .ref (gB G + r0)), (1, .int x1)] [] σ := by
  refine ww_aload_n (pc := 0) C 0 dX9_canTurn_0 rfl ?_
  obtain ⟨z2, e1, hf⟩ := xbd hf
  refine gf_X9_36 (pc := 1) C e1 dX9_canTurn_1 ?_
  refine ww_nul (fun q => ?_) (fun q => ?_)
  · have hf := xip q hf
    refine ww_ifnullN (pc := 4) (tgt := 22) C dX9_canTurn_4 (by decide) ?_
    refine ww_iconst (pc := 22) (v := (0 : Int32)) C dX9_canTurn_22 (by decide) ?_
    have hf := xsj hf
    subst hf
    exact ww_zret (pc := 23) C rfl hk dX9_canTurn_23
  · have hf := xin q hf
    refine ww_ifnull (pc := 4) C dX9_canTurn_4 ?_
    refine ww_aload_n (pc := 7) C 0 dX9_canTurn_7 rfl ?_
    obtain ⟨z4, e3, hf⟩ := xbd hf
    refine gf_X9_36 (pc := 8) C e3 dX9_canTurn_8 ?_
    refine ww_nul (fun q => ?_) (fun q => ?_)
    · have hf := xip q hf
      refine ww_iload_n (pc := 11) C 1 dX9_canTurn_11 rfl ?_
      exact absurd hf (fun h => by cases h)
    · have hf := xin q hf
      refine ww_iload_n (pc := 11) C 1 dX9_canTurn_11 rfl ?_
      obtain ⟨_, e5, hf⟩ := xbd hf
      obtain ⟨v7, e6, hf⟩ := xbd hf
      refine ww_callVi (pc := 12) (as := [.int x1]) (st := []) C (k_X6_isPinned (l := gl G) (E := gE G) (hb := gB G) (σ := σ) e6) rfl (by decide) xc_X9_66 q741 qp43 (xck_spec e5) rfl (by decide) (xst4 (Nat.le_of_ble_eq_true rfl)) xsame.rf.le xsame.rf.lim dX9_canTurn_12 ?_
      refine ww_if_ne (pc := 15) (tgt := 22) C dX9_canTurn_15 (by decide) (fun q => ?_) (fun q => ?_)
      · have hf := xin q hf
        refine ww_iconst (pc := 22) (v := (0 : Int32)) C dX9_canTurn_22 (by decide) ?_
        have hf := xsj hf
        subst hf
        exact ww_zret (pc := 23) C rfl hk dX9_canTurn_23
      · have hf := xip q hf
        refine ww_iconst (pc := 18) (v := (1 : Int32)) C dX9_canTurn_18 (by decide) ?_
        refine ww_goto (pc := 19) (tgt := 23) C dX9_canTurn_19 (by decide) ?_
        have hf := xsj hf
        subst hf
        exact ww_zret (pc := 23) C rfl hk dX9_canTurn_23
theorem k_X9_canTurn {l : Launch} {E : XD} {hb : Nat} {σ : XS} {r0 : Nat} {x1 : Int32} {x : Int32} (h : f_X9_canTurn σ r0 x1 = some x) : XM l yX9_canTurn cX9_canTurn 2 (some .boolean) 2 42 E hb [.ref (hb + r0), .int x1] σ (some (.int x)) σ := by
  refine xm_of (by decide) (Nat.le_of_ble_eq_true rfl) ⟨Nat.le_refl _, Nat.le_refl _⟩ (fun G hG C hl hQ => ?_)
  obtain ⟨rfl, rfl, rfl, hN⟩ := hG
  exact s_X9_canTurn_e C h hQ
noncomputable def f_X9_energyOf (σ : XS) (r0 : Nat) (x1 : Int32) : Option Int32 := (xgN σ r0 9 5).bind fun z2 => if z2 = 0 then (some (0 : Int32)) else (xgN σ r0 9 5).bind fun z4 => if z4 = 0 then (none) else (xck σ z4 2).bind fun _ => (f_X2_of σ z4 x1).bind fun v7 => some v7
theorem s_X9_energyOf_e {G : XG} (C : XC G cX9_energyOf RX9 (some .int) 2 1 21) {σ : XS} {r0 : Nat} {x1 : Int32} {x : Int32} (hf : f_X9_energyOf σ r0 x1 = some x) (hk : XEnd G (some (.int x)) σ) : WW G 0 [(0, .ref (gB G + r0)), (1, .int x1)] [] σ := by
  refine ww_aload_n (pc := 0) C 0 dX9_energyOf_0 rfl ?_
  obtain ⟨z2, e1, hf⟩ := xbd hf
  refine gf_X9_32 (pc := 1) C e1 dX9_energyOf_1 ?_
  refine ww_nul (fun q => ?_) (fun q => ?_)
  · have hf := xip q hf
    refine ww_ifnonnullN (pc := 4) C dX9_energyOf_4 ?_
    refine ww_iconst (pc := 7) (v := (0 : Int32)) C dX9_energyOf_7 (by decide) ?_
    refine ww_goto (pc := 8) (tgt := 19) C dX9_energyOf_8 (by decide) ?_
    have hf := xsj hf
    subst hf
    exact ww_iret (pc := 19) C hk dX9_energyOf_19
  · have hf := xin q hf
    refine ww_ifnonnull (pc := 4) (tgt := 11) C dX9_energyOf_4 (by decide) ?_
    refine ww_aload_n (pc := 11) C 0 dX9_energyOf_11 rfl ?_
    obtain ⟨z4, e3, hf⟩ := xbd hf
    refine gf_X9_32 (pc := 12) C e3 dX9_energyOf_12 ?_
    refine ww_nul (fun q => ?_) (fun q => ?_)
    · have hf := xip q hf
      refine ww_iload_n (pc := 15) C 1 dX9_energyOf_15 rfl ?_
      exact absurd hf (fun h => by cases h)
    · have hf := xin q hf
      refine ww_iload_n (pc := 15) C 1 dX9_energyOf_15 rfl ?_
      obtain ⟨_, e5, hf⟩ := xbd hf
      obtain ⟨v7, e6, hf⟩ := xbd hf
      refine ww_callVi (pc := 16) (as := [.int x1]) (st := []) C (k_X2_of (l := gl G) (E := gE G) (hb := gB G) (σ := σ) e6) rfl (by decide) xc_X9_56 q880 qp64 (xck_spec e5) rfl (by decide) (xst4 (Nat.le_of_ble_eq_true rfl)) xsame.rf.le xsame.rf.lim dX9_energyOf_16 ?_
      have hf := xsj hf
      subst hf
      exact ww_iret (pc := 19) C hk dX9_energyOf_19
theorem k_X9_energyOf {l : Launch} {E : XD} {hb : Nat} {σ : XS} {r0 : Nat} {x1 : Int32} {x : Int32} (h : f_X9_energyOf σ r0 x1 = some x) : XM l yX9_energyOf cX9_energyOf 2 (some .int) 1 21 E hb [.ref (hb + r0), .int x1] σ (some (.int x)) σ := by
  refine xm_of (by decide) (Nat.le_of_ble_eq_true rfl) ⟨Nat.le_refl _, Nat.le_refl _⟩ (fun G hG C hl hQ => ?_)
  obtain ⟨rfl, rfl, rfl, hN⟩ := hG
  exact s_X9_energyOf_e C h hQ
noncomputable def f_X9_steepestFrom_b4 (σ : XS) (r0 : Nat) (x1 : Int32) : Int32 × Int32 → Option ((Int32 × Int32) ⊕ (Int32)) := fun a => match a with
  | (x2, x3) => (xgI σ r0 9 7).bind fun v2 => if v2 ≤ x3 then ((some x2).map .inr) else (xck σ r0 9).bind fun _ => (f_X9_canTurn σ r0 x3).bind fun v5 => if v5 = 0 then (some (.inl (x2, x3 + (1 : Int32)))) else (xck σ r0 9).bind fun _ => (f_X9_energyOf σ r0 (x1 ^^^ ((1 : Int32) <<< (x3 &&& 31)))).bind fun v8 => (xck σ r0 9).bind fun _ => (f_X9_energyOf σ r0 x2).bind fun v11 => if v11 ≤ v8 then (some (.inl (x2, x3 + (1 : Int32)))) else some (.inl (x1 ^^^ ((1 : Int32) <<< (x3 &&& 31)), x3 + (1 : Int32)))
noncomputable def f_X9_steepestFrom (σ : XS) (r0 : Nat) (x1 : Int32) : Option Int32 := xloop (f_X9_steepestFrom_b4 σ r0 x1) (x1, (0 : Int32))
theorem s_X9_steepestFrom_l4 {G : XG} (C : XC G cX9_steepestFrom RX9 (some .int) 5 3 63) {σ : XS} {r0 : Nat} {x1 : Int32} {a : Int32 × Int32} {x : Int32} (hf : xloop (f_X9_steepestFrom_b4 σ r0 x1) a = some x) (hk : XEnd G (some (.int x)) σ) : WW G 4 [(0, .ref (gB G + r0)), (1, .int x1), (2, .int a.1), (3, .int a.2)] [] σ := by
  refine xloop_ind (P := fun a => WW G 4 [(0, .ref (gB G + r0)), (1, .int x1), (2, .int a.1), (3, .int a.2)] [] σ) (fun a y hf hc he => ?_) hf
  obtain ⟨x2, x3⟩ := a
  have hk : (∀ a' : Int32 × Int32, y = .inl a' → WW G 4 [(0, .ref (gB G + r0)), (1, .int x1), (2, .int a'.1), (3, .int a'.2)] [] σ) ∧ (∀ b1 : Int32, y = .inr b1 → XEnd G (some (.int b1)) σ) := ⟨hc, fun b e => by have h9 := he b e; subst h9; exact hk⟩
  refine ww_iload_n (pc := 4) C 3 dX9_steepestFrom_4 rfl ?_
  refine ww_aload_n (pc := 5) C 0 dX9_steepestFrom_5 rfl ?_
  obtain ⟨v2, e1, hf⟩ := xbd hf
  refine gf_X9_40 (pc := 6) C e1 dX9_steepestFrom_6 ?_
  refine ww_icmp_ge (pc := 9) (tgt := 50) C dX9_steepestFrom_9 (by decide) (fun q => ?_) (fun q => ?_)
  · have hf := xip q hf
    obtain ⟨b0, hg, e9⟩ := xmj hf
    subst e9
    have hf := hg
    have hk := hk.2 _ rfl
    refine ww_iload_n (pc := 50) C 2 dX9_steepestFrom_50 rfl ?_
    have hf := xsj hf
    subst hf
    exact ww_iret (pc := 51) C hk dX9_steepestFrom_51
  · have hf := xin q hf
    refine ww_iload_n (pc := 12) C 1 dX9_steepestFrom_12 rfl ?_
    refine ww_iconst (pc := 13) (v := (1 : Int32)) C dX9_steepestFrom_13 (by decide) ?_
    refine ww_iload_n (pc := 14) C 3 dX9_steepestFrom_14 rfl ?_
    refine ww_ishl (pc := 15) C dX9_steepestFrom_15 ?_
    refine ww_ixor (pc := 16) C dX9_steepestFrom_16 ?_
    refine ww_istore (pc := 17) (lv' := [(4, .int (x1 ^^^ ((1 : Int32) <<< (x3 &&& 31)))), (0, .ref (gB G + r0)), (1, .int x1), (2, .int x2), (3, .int x3)]) C dX9_steepestFrom_17 (by decide) rfl ?_
    refine ww_aload_n (pc := 19) C 1 dX9_steepestFrom_19 rfl ?_
    refine ww_iload_n (pc := 20) C 4 dX9_steepestFrom_20 rfl ?_
    obtain ⟨_, e3, hf⟩ := xbd hf
    obtain ⟨v5, e4, hf⟩ := xbd hf
    refine ww_callVi (pc := 21) (as := [.int x3]) (st := []) C (k_X9_canTurn (l := gl G) (E := gE G) (hb := gB G) (σ := σ) e4) rfl (by decide) xc_X9_87 q1136 qp100 (xck_spec e3) rfl (by decide) (xst4 (Nat.le_of_ble_eq_true rfl)) xsame.rf.le xsame.rf.lim dX9_steepestFrom_21 ?_
    refine ww_if_eq (pc := 24) (tgt := 44) C dX9_steepestFrom_24 (by decide) (fun q => ?_) (fun q => ?_)
    · have hf := xip q hf
      refine ww_iinc (pc := 44) (v := x3 + (1 : Int32)) (lv' := [(3, .int (x3 + (1 : Int32))), (4, .int (x1 ^^^ ((1 : Int32) <<< (x3 &&& 31)))), (0, .ref (gB G + r0)), (1, .int x1), (2, .int x2)]) C 4 dX9_steepestFrom_44 rfl (congrArg (fun z => x3 + z) (show Int32.ofInt (1) = (1 : Int32) by decide)) (by decide) rfl ?_
      refine ww_goto (pc := 47) (tgt := 4) C dX9_steepestFrom_47 (by decide) ?_
      have hf := xsj hf
      subst hf
      refine ww_sub [2, 3, 4, 0] rfl ?_
      exact hk.1 (x2, x3 + (1 : Int32)) rfl
    · have hf := xin q hf
      refine ww_aload_n (pc := 27) C 1 dX9_steepestFrom_27 rfl ?_
      refine ww_iload (pc := 28) C 0 dX9_steepestFrom_28 rfl ?_
      obtain ⟨_, e6, hf⟩ := xbd hf
      obtain ⟨v8, e7, hf⟩ := xbd hf
      refine ww_callVi (pc := 30) (as := [.int (x1 ^^^ ((1 : Int32) <<< (x3 &&& 31)))]) (st := []) C (k_X9_energyOf (l := gl G) (E := gE G) (hb := gB G) (σ := σ) e7) rfl (by decide) xc_X9_100 q1141 qp101 (xck_spec e6) rfl (by decide) (xst4 (Nat.le_of_ble_eq_true rfl)) xsame.rf.le xsame.rf.lim dX9_steepestFrom_30 ?_
      refine ww_aload_n (pc := 33) C 1 dX9_steepestFrom_33 rfl ?_
      refine ww_iload_n (pc := 34) C 3 dX9_steepestFrom_34 rfl ?_
      obtain ⟨_, e9, hf⟩ := xbd hf
      obtain ⟨v11, e10, hf⟩ := xbd hf
      refine ww_callVi (pc := 35) (as := [.int x2]) (st := [.int v8]) C (k_X9_energyOf (l := gl G) (E := gE G) (hb := gB G) (σ := σ) e10) rfl (by decide) xc_X9_100 q1141 qp101 (xck_spec e9) rfl (by decide) (xst4 (Nat.le_of_ble_eq_true rfl)) xsame.rf.le xsame.rf.lim dX9_steepestFrom_35 ?_
      refine ww_icmp_ge (pc := 38) (tgt := 44) C dX9_steepestFrom_38 (by decide) (fun q => ?_) (fun q => ?_)
      · have hf := xip q hf
        refine ww_iinc (pc := 44) (v := x3 + (1 : Int32)) (lv' := [(3, .int (x3 + (1 : Int32))), (4, .int (x1 ^^^ ((1 : Int32) <<< (x3 &&& 31)))), (0, .ref (gB G + r0)), (1, .int x1), (2, .int x2)]) C 4 dX9_steepestFrom_44 rfl (congrArg (fun z => x3 + z) (show Int32.ofInt (1) = (1 : Int32) by decide)) (by decide) rfl ?_
        refine ww_goto (pc := 47) (tgt := 4) C dX9_steepestFrom_47 (by decide) ?_
        have hf := xsj hf
        subst hf
        refine ww_sub [2, 3, 4, 0] rfl ?_
        exact hk.1 (x2, x3 + (1 : Int32)) rfl
      · have hf := xin q hf
        refine ww_iload (pc := 41) C 0 dX9_steepestFrom_41 rfl ?_
        refine ww_istore_n (pc := 43) (lv' := [(2, .int (x1 ^^^ ((1 : Int32) <<< (x3 &&& 31)))), (4, .int (x1 ^^^ ((1 : Int32) <<< (x3 &&& 31)))), (0, .ref (gB G + r0)), (1, .int x1), (3, .int x3)]) C dX9_steepestFrom_43 (by decide) rfl ?_
        refine ww_iinc (pc := 44) (v := x3 + (1 : Int32)) (lv' := [(3, .int (x3 + (1 : Int32))), (2, .int (x1 ^^^ ((1 : Int32) <<< (x3 &&& 31)))), (4, .int (x1 ^^^ ((1 : Int32) <<< (x3 &&& 31)))), (0, .ref (gB G + r0)), (1, .int x1)]) C 4 dX9_steepestFrom_44 rfl (congrArg (fun z => x3 + z) (show Int32.ofInt (1) = (1 : Int32) by decide)) (by decide) rfl ?_
        refine ww_goto (pc := 47) (tgt := 4) C dX9_steepestFrom_47 (by decide) ?_
        have hf := xsj hf
        subst hf
        refine ww_sub [3, 4, 1, 0] rfl ?_
        exact hk.1 (x1 ^^^ ((1 : Int32) <<< (x3 &&& 31)), x3 + (1 : Int32)) rfl
theorem s_X9_steepestFrom_e {G : XG} (C : XC G cX9_steepestFrom RX9 (some .int) 5 3 63) {σ : XS} {r0 : Nat} {x1 : Int32} {x : Int32} (hf : f_X9_steepestFrom σ r0 x1 = some x) (hk : XEnd G (some (.int x)) σ) : WW G 0 [(0, .ref (gB G + r0)), (1, .int x1)] [] σ := by
  refine ww_iload_n (pc := 0) C 1 dX9_steepestFrom_0 rfl ?_
  refine ww_istore_n (pc := 1) (lv' := [(2, .int x1), (0, .ref (gB G + r0)), (1, .int x1)]) C dX9_steepestFrom_1 (by decide) rfl ?_
  refine ww_iconst (pc := 2) (v := (0 : Int32)) C dX9_steepestFrom_2 (by decide) ?_
  refine ww_istore_n (pc := 3) (lv' := [(3, .int (0 : Int32)), (2, .int x1), (0, .ref (gB G + r0)), (1, .int x1)]) C dX9_steepestFrom_3 (by decide) rfl ?_
  refine ww_sub [2, 3, 1, 0] rfl ?_
  exact s_X9_steepestFrom_l4 C (a := (x1, (0 : Int32))) hf hk
theorem k_X9_steepestFrom {l : Launch} {E : XD} {hb : Nat} {σ : XS} {r0 : Nat} {x1 : Int32} {x : Int32} (h : f_X9_steepestFrom σ r0 x1 = some x) : XM l yX9_steepestFrom cX9_steepestFrom 5 (some .int) 3 63 E hb [.ref (hb + r0), .int x1] σ (some (.int x)) σ := by
  refine xm_of (by decide) (Nat.le_of_ble_eq_true rfl) ⟨Nat.le_refl _, Nat.le_refl _⟩ (fun G hG C hl hQ => ?_)
  obtain ⟨rfl, rfl, rfl, hN⟩ := hG
  exact s_X9_steepestFrom_e C h hQ
noncomputable def f_X9_isState (x0 : Int32) : Option Int32 := if x0 < 0 then (some (0 : Int32)) else if (1024 : Int32) ≤ x0 then (some (0 : Int32)) else some (1 : Int32)
theorem s_X9_isState_e {G : XG} (C : XC G cX9_isState RX9 (some .boolean) 1 0 0) {σ : XS} {x0 : Int32} {x : Int32} (hf : f_X9_isState x0 = some x) (hk : XEnd G (some (.int x)) σ) : WW G 0 [(0, .int x0)] [] σ := by
  refine ww_iload_n (pc := 0) C 0 dX9_isState_0 rfl ?_
  refine ww_if_lt (pc := 1) (tgt := 15) C dX9_isState_1 (by decide) (fun q => ?_) (fun q => ?_)
  · have hf := xip q hf
    refine ww_iconst (pc := 15) (v := (0 : Int32)) C dX9_isState_15 (by decide) ?_
    have hf := xsj hf
    subst hf
    exact ww_zret (pc := 16) C rfl hk dX9_isState_16
  · have hf := xin q hf
    refine ww_iload_n (pc := 4) C 0 dX9_isState_4 rfl ?_
    refine ww_sipush (pc := 5) (v := (1024 : Int32)) C dX9_isState_5 (by decide) ?_
    refine ww_icmp_ge (pc := 8) (tgt := 15) C dX9_isState_8 (by decide) (fun q => ?_) (fun q => ?_)
    · have hf := xip q hf
      refine ww_iconst (pc := 15) (v := (0 : Int32)) C dX9_isState_15 (by decide) ?_
      have hf := xsj hf
      subst hf
      exact ww_zret (pc := 16) C rfl hk dX9_isState_16
    · have hf := xin q hf
      refine ww_iconst (pc := 11) (v := (1 : Int32)) C dX9_isState_11 (by decide) ?_
      refine ww_goto (pc := 12) (tgt := 16) C dX9_isState_12 (by decide) ?_
      have hf := xsj hf
      subst hf
      exact ww_zret (pc := 16) C rfl hk dX9_isState_16
theorem k_X9_isState {l : Launch} {E : XD} {hb : Nat} {σ : XS} {x0 : Int32} {x : Int32} (h : f_X9_isState x0 = some x) : XM l yX9_isState cX9_isState 1 (some .boolean) 0 0 E hb [.int x0] σ (some (.int x)) σ := by
  refine xm_of (by decide) (Nat.le_of_ble_eq_true rfl) ⟨Nat.le_refl _, Nat.le_refl _⟩ (fun G hG C hl hQ => ?_)
  obtain ⟨rfl, rfl, rfl, hN⟩ := hG
  exact s_X9_isState_e C h hQ
noncomputable def f_X9_basinOf_j93 (σ : XS) (r0 : Nat) (x1 : Int32) (x2 : Int32) (x3 : Int32) (x5 : Int32) : Option ((Int32 × Int32 × XS) ⊕ (Int32 × XS)) := if x5 = x1 then (some (.inl (x2 + (1 : Int32), x3 + (1 : Int32), σ))) else some (.inl (x2 + (0 : Int32), x3 + (1 : Int32), σ))
noncomputable def f_X9_basinOf_j66 (σ : XS) (r0 : Nat) (x1 : Int32) (x2 : Int32) (x3 : Int32) (t0 : Int32) : Option ((Int32 × Int32 × XS) ⊕ (Int32 × XS)) := (xgR σ r0 9 0).bind fun z2 => (xaI σ 20 z2 x3).bind fun v4 => (f_X9_isState v4).bind fun v6 => if v6 = 0 then (f_X9_basinOf_j93 σ r0 x1 x2 x3 t0) else (xgR σ r0 9 3).bind fun z8 => (xgR σ r0 9 0).bind fun z10 => (xaI σ 20 z10 x3).bind fun v12 => (xsI σ 20 z8 v12 t0).bind fun σ14 => f_X9_basinOf_j93 σ14 r0 x1 x2 x3 t0
noncomputable def f_X9_basinOf_b4 (r0 : Nat) (x1 : Int32) : Int32 × Int32 × XS → Option ((Int32 × Int32 × XS) ⊕ (Int32 × XS)) := fun a => match a with
  | (x2, x3, σ) => (xgI σ r0 9 8).bind fun v2 => if v2 ≤ x3 then ((some (x2, σ)).map .inr) else if (1024 : Int32) ≤ x3 then ((some (x2, σ)).map .inr) else (xgR σ r0 9 0).bind fun z4 => (xaI σ 20 z4 x3).bind fun v6 => (xck σ r0 9).bind fun _ => (f_X9_steepestFrom σ r0 v6).bind fun v9 => (xgR σ r0 9 0).bind fun z11 => (xaI σ 20 z11 x3).bind fun v13 => if v9 = v13 then ((xgR σ r0 9 0).bind fun z15 => (xaI σ 20 z15 x3).bind fun v17 => f_X9_basinOf_j66 σ r0 x1 x2 x3 v17) else (f_X9_isState v9).bind fun v15 => if v15 = 0 then ((xgR σ r0 9 0).bind fun z17 => (xaI σ 20 z17 x3).bind fun v19 => f_X9_basinOf_j66 σ r0 x1 x2 x3 v19) else (xgR σ r0 9 3).bind fun z17 => (xaI σ 20 z17 v9).bind fun v19 => f_X9_basinOf_j66 σ r0 x1 x2 x3 v19
noncomputable def f_X9_basinOf (σ : XS) (r0 : Nat) (x1 : Int32) : Option (Int32 × XS) := xloop (f_X9_basinOf_b4 r0 x1) ((0 : Int32), (0 : Int32), σ)
theorem s_X9_basinOf_j93 {G : XG} (C : XC G cX9_basinOf RX9 (some .int) 6 4 87) {σ : XS} {r0 : Nat} {x1 : Int32} {x2 : Int32} {x3 : Int32} {x5 : Int32} {x : ((Int32 × Int32 × XS) ⊕ (Int32 × XS))} (hf : f_X9_basinOf_j93 σ r0 x1 x2 x3 x5 = some x) (hk : (∀ a' : Int32 × Int32 × XS, x = .inl a' → WW G 4 [(0, .ref (gB G + r0)), (1, .int x1), (2, .int a'.1), (3, .int a'.2.1)] [] a'.2.2) ∧ (∀ b1 : Int32 × XS, x = .inr b1 → XEnd G (some (.int b1.1)) b1.2)) : WW G 93 [(0, .ref (gB G + r0)), (1, .int x1), (2, .int x2), (3, .int x3), (5, .int x5)] [] σ := by
  refine ww_iload_n (pc := 93) C 2 dX9_basinOf_93 rfl ?_
  refine ww_iload (pc := 94) C 4 dX9_basinOf_94 rfl ?_
  refine ww_iload_n (pc := 96) C 1 dX9_basinOf_96 rfl ?_
  refine ww_icmp_ne (pc := 97) (tgt := 104) C dX9_basinOf_97 (by decide) (fun q => ?_) (fun q => ?_)
  · have hf := xin q hf
    refine ww_iconst (pc := 104) (v := (0 : Int32)) C dX9_basinOf_104 (by decide) ?_
    refine ww_iadd (pc := 105) C dX9_basinOf_105 ?_
    refine ww_istore_n (pc := 106) (lv' := [(2, .int (x2 + (0 : Int32))), (0, .ref (gB G + r0)), (1, .int x1), (3, .int x3), (5, .int x5)]) C dX9_basinOf_106 (by decide) rfl ?_
    refine ww_iinc (pc := 107) (v := x3 + (1 : Int32)) (lv' := [(3, .int (x3 + (1 : Int32))), (2, .int (x2 + (0 : Int32))), (0, .ref (gB G + r0)), (1, .int x1), (5, .int x5)]) C 3 dX9_basinOf_107 rfl (congrArg (fun z => x3 + z) (show Int32.ofInt (1) = (1 : Int32) by decide)) (by decide) rfl ?_
    refine ww_goto (pc := 110) (tgt := 4) C dX9_basinOf_110 (by decide) ?_
    have hf := xsj hf
    subst hf
    refine ww_sub [2, 3, 1, 0] rfl ?_
    exact hk.1 (x2 + (0 : Int32), x3 + (1 : Int32), σ) rfl
  · have hf := xip q hf
    refine ww_iconst (pc := 100) (v := (1 : Int32)) C dX9_basinOf_100 (by decide) ?_
    refine ww_goto (pc := 101) (tgt := 105) C dX9_basinOf_101 (by decide) ?_
    refine ww_iadd (pc := 105) C dX9_basinOf_105 ?_
    refine ww_istore_n (pc := 106) (lv' := [(2, .int (x2 + (1 : Int32))), (0, .ref (gB G + r0)), (1, .int x1), (3, .int x3), (5, .int x5)]) C dX9_basinOf_106 (by decide) rfl ?_
    refine ww_iinc (pc := 107) (v := x3 + (1 : Int32)) (lv' := [(3, .int (x3 + (1 : Int32))), (2, .int (x2 + (1 : Int32))), (0, .ref (gB G + r0)), (1, .int x1), (5, .int x5)]) C 3 dX9_basinOf_107 rfl (congrArg (fun z => x3 + z) (show Int32.ofInt (1) = (1 : Int32) by decide)) (by decide) rfl ?_
    refine ww_goto (pc := 110) (tgt := 4) C dX9_basinOf_110 (by decide) ?_
    have hf := xsj hf
    subst hf
    refine ww_sub [2, 3, 1, 0] rfl ?_
    exact hk.1 (x2 + (1 : Int32), x3 + (1 : Int32), σ) rfl
theorem m_X9_basinOf_j93 {σ : XS} {r0 : Nat} {x1 : Int32} {x2 : Int32} {x3 : Int32} {x5 : Int32} {x : ((Int32 × Int32 × XS) ⊕ (Int32 × XS))} (hf : f_X9_basinOf_j93 σ r0 x1 x2 x3 x5 = some x) : (∀ a' : Int32 × Int32 × XS, x = .inl a' → xsame σ a'.2.2) ∧ (∀ b1 : Int32 × XS, x = .inr b1 → xsame σ b1.2) := by
  have hm := xsame.rf (σ := σ)
  by_cases q : x5 = x1
  · have hf := xip q hf
    have hf := xsj hf
    subst hf
    exact ⟨fun a' e => (by have h9 := Sum.inl.inj e; subst h9; exact hm), fun b e => xnc1 e⟩
  · have hf := xin q hf
    have hf := xsj hf
    subst hf
    exact ⟨fun a' e => (by have h9 := Sum.inl.inj e; subst h9; exact hm), fun b e => xnc1 e⟩
theorem s_X9_basinOf_j66 {G : XG} (C : XC G cX9_basinOf RX9 (some .int) 6 4 87) {σ : XS} {r0 : Nat} {x1 : Int32} {x2 : Int32} {x3 : Int32} {t0 : Int32} {x : ((Int32 × Int32 × XS) ⊕ (Int32 × XS))} (hf : f_X9_basinOf_j66 σ r0 x1 x2 x3 t0 = some x) (hk : (∀ a' : Int32 × Int32 × XS, x = .inl a' → WW G 4 [(0, .ref (gB G + r0)), (1, .int x1), (2, .int a'.1), (3, .int a'.2.1)] [] a'.2.2) ∧ (∀ b1 : Int32 × XS, x = .inr b1 → XEnd G (some (.int b1.1)) b1.2)) : WW G 66 [(0, .ref (gB G + r0)), (1, .int x1), (2, .int x2), (3, .int x3)] [.int t0] σ := by
  refine ww_istore (pc := 66) (lv' := [(5, .int t0), (0, .ref (gB G + r0)), (1, .int x1), (2, .int x2), (3, .int x3)]) C dX9_basinOf_66 (by decide) rfl ?_
  refine ww_aload_n (pc := 68) C 1 dX9_basinOf_68 rfl ?_
  obtain ⟨z2, e1, hf⟩ := xbd hf
  refine gf_X9_9 (pc := 69) C e1 dX9_basinOf_69 ?_
  refine ww_iload_n (pc := 72) C 4 dX9_basinOf_72 rfl ?_
  obtain ⟨v4, e3, hf⟩ := xbd hf
  refine ww_iald (pc := 73) C e3 dX9_basinOf_73 ?_
  obtain ⟨v6, e5, hf⟩ := xbd hf
  refine ww_callSi (pc := 74) (as := [.int v4]) (st := []) C (k_X9_isState (l := gl G) (E := gE G) (hb := gB G) (σ := σ) e5) xc_X9_69 q1144 rfl (by decide) (xst4 (Nat.le_of_ble_eq_true rfl)) xsame.rf.le xsame.rf.lim dX9_basinOf_74 ?_
  refine ww_if_eq (pc := 77) (tgt := 93) C dX9_basinOf_77 (by decide) (fun q => ?_) (fun q => ?_)
  · have hf := xip q hf
    refine ww_sub [1, 2, 3, 4, 0] rfl ?_
    exact s_X9_basinOf_j93 C hf hk
  · have hf := xin q hf
    refine ww_aload_n (pc := 80) C 1 dX9_basinOf_80 rfl ?_
    obtain ⟨z8, e7, hf⟩ := xbd hf
    refine gf_X9_21 (pc := 81) C e7 dX9_basinOf_81 ?_
    refine ww_aload_n (pc := 84) C 1 dX9_basinOf_84 rfl ?_
    obtain ⟨z10, e9, hf⟩ := xbd hf
    refine gf_X9_9 (pc := 85) C e9 dX9_basinOf_85 ?_
    refine ww_iload_n (pc := 88) C 4 dX9_basinOf_88 rfl ?_
    obtain ⟨v12, e11, hf⟩ := xbd hf
    refine ww_iald (pc := 89) C e11 dX9_basinOf_89 ?_
    refine ww_iload (pc := 90) C 0 dX9_basinOf_90 rfl ?_
    obtain ⟨σ14, e13, hf⟩ := xbd hf
    refine ww_iast (pc := 92) C e13 dX9_basinOf_92 ?_
    refine ww_sub [1, 2, 3, 4, 0] rfl ?_
    exact s_X9_basinOf_j93 C hf hk
theorem m_X9_basinOf_j66 {σ : XS} {r0 : Nat} {x1 : Int32} {x2 : Int32} {x3 : Int32} {t0 : Int32} {x : ((Int32 × Int32 × XS) ⊕ (Int32 × XS))} (hf : f_X9_basinOf_j66 σ r0 x1 x2 x3 t0 = some x) : (∀ a' : Int32 × Int32 × XS, x = .inl a' → xsame σ a'.2.2) ∧ (∀ b1 : Int32 × XS, x = .inr b1 → xsame σ b1.2) := by
  have hm := xsame.rf (σ := σ)
  obtain ⟨z2, e1, hf⟩ := xbd hf
  obtain ⟨v4, e3, hf⟩ := xbd hf
  obtain ⟨v6, e5, hf⟩ := xbd hf
  by_cases q : v6 = 0
  · have hf := xip q hf
    exact ⟨fun a' e => hm.tr ((m_X9_basinOf_j93 hf).1 a' e), fun b1 eb1 => hm.tr ((m_X9_basinOf_j93 hf).2 b1 eb1)⟩
  · have hf := xin q hf
    obtain ⟨z8, e7, hf⟩ := xbd hf
    obtain ⟨z10, e9, hf⟩ := xbd hf
    obtain ⟨v12, e11, hf⟩ := xbd hf
    obtain ⟨σ14, e13, hf⟩ := xbd hf
    have hm := hm.tr (xsI_same e13)
    exact ⟨fun a' e => hm.tr ((m_X9_basinOf_j93 hf).1 a' e), fun b1 eb1 => hm.tr ((m_X9_basinOf_j93 hf).2 b1 eb1)⟩
theorem m_X9_basinOf_l4 {r0 : Nat} {x1 : Int32} {a : Int32 × Int32 × XS} {x : Int32 × XS} (hf : xloop (f_X9_basinOf_b4 r0 x1) a = some x) : xsame a.2.2 x.2 := by
  refine xloop_ind (P := fun a => xsame a.2.2 x.2) (fun a y hf hc he => ?_) hf
  obtain ⟨x2, x3, σ⟩ := a
  have hy : (∀ a' : Int32 × Int32 × XS, y = .inl a' → xsame σ a'.2.2) ∧ (∀ b1 : Int32 × XS, y = .inr b1 → xsame σ b1.2) := by
    have hm := xsame.rf (σ := σ)
    obtain ⟨v2, e1, hf⟩ := xbd hf
    by_cases q : v2 ≤ x3
    · have hf := xip q hf
      obtain ⟨b0, hg, e9⟩ := xmj hf
      subst e9
      have hf := hg
      refine ⟨fun a' e => xnc2 e, fun b e => ?_⟩
      have h9 := Sum.inr.inj e
      subst h9
      have hf := xsj hf
      subst hf
      exact hm
    · have hf := xin q hf
      by_cases q : (1024 : Int32) ≤ x3
      · have hf := xip q hf
        obtain ⟨b0, hg, e9⟩ := xmj hf
        subst e9
        have hf := hg
        refine ⟨fun a' e => xnc2 e, fun b e => ?_⟩
        have h9 := Sum.inr.inj e
        subst h9
        have hf := xsj hf
        subst hf
        exact hm
      · have hf := xin q hf
        obtain ⟨z4, e3, hf⟩ := xbd hf
        obtain ⟨v6, e5, hf⟩ := xbd hf
        obtain ⟨_, e7, hf⟩ := xbd hf
        obtain ⟨v9, e8, hf⟩ := xbd hf
        obtain ⟨z11, e10, hf⟩ := xbd hf
        obtain ⟨v13, e12, hf⟩ := xbd hf
        by_cases q : v9 = v13
        · have hf := xip q hf
          obtain ⟨z15, e14, hf⟩ := xbd hf
          obtain ⟨v17, e16, hf⟩ := xbd hf
          exact ⟨fun a' e => hm.tr ((m_X9_basinOf_j66 hf).1 a' e), fun b1 eb1 => hm.tr ((m_X9_basinOf_j66 hf).2 b1 eb1)⟩
        · have hf := xin q hf
          obtain ⟨v15, e14, hf⟩ := xbd hf
          by_cases q : v15 = 0
          · have hf := xip q hf
            obtain ⟨z17, e16, hf⟩ := xbd hf
            obtain ⟨v19, e18, hf⟩ := xbd hf
            exact ⟨fun a' e => hm.tr ((m_X9_basinOf_j66 hf).1 a' e), fun b1 eb1 => hm.tr ((m_X9_basinOf_j66 hf).2 b1 eb1)⟩
          · have hf := xin q hf
            obtain ⟨z17, e16, hf⟩ := xbd hf
            obtain ⟨v19, e18, hf⟩ := xbd hf
            exact ⟨fun a' e => hm.tr ((m_X9_basinOf_j66 hf).1 a' e), fun b1 eb1 => hm.tr ((m_X9_basinOf_j66 hf).2 b1 eb1)⟩
  cases y with
  | inl a' =>
    have h1 := hc a' rfl
    have hm := hy.1 a' rfl
    exact hm.tr (h1)
  | inr b =>
    have h1 := he b rfl
    subst h1
    exact hy.2 _ rfl
theorem s_X9_basinOf_l4 {G : XG} (C : XC G cX9_basinOf RX9 (some .int) 6 4 87) {r0 : Nat} {x1 : Int32} {a : Int32 × Int32 × XS} {x : Int32 × XS} (hf : xloop (f_X9_basinOf_b4 r0 x1) a = some x) (hk : XEnd G (some (.int x.1)) x.2) : WW G 4 [(0, .ref (gB G + r0)), (1, .int x1), (2, .int a.1), (3, .int a.2.1)] [] a.2.2 := by
  refine xloop_ind (P := fun a => WW G 4 [(0, .ref (gB G + r0)), (1, .int x1), (2, .int a.1), (3, .int a.2.1)] [] a.2.2) (fun a y hf hc he => ?_) hf
  obtain ⟨x2, x3, σ⟩ := a
  have hk : (∀ a' : Int32 × Int32 × XS, y = .inl a' → WW G 4 [(0, .ref (gB G + r0)), (1, .int x1), (2, .int a'.1), (3, .int a'.2.1)] [] a'.2.2) ∧ (∀ b1 : Int32 × XS, y = .inr b1 → XEnd G (some (.int b1.1)) b1.2) := ⟨hc, fun b e => by have h9 := he b e; subst h9; exact hk⟩
  refine ww_iload_n (pc := 4) C 3 dX9_basinOf_4 rfl ?_
  refine ww_aload_n (pc := 5) C 0 dX9_basinOf_5 rfl ?_
  obtain ⟨v2, e1, hf⟩ := xbd hf
  refine gf_X9_43 (pc := 6) C e1 dX9_basinOf_6 ?_
  refine ww_icmp_ge (pc := 9) (tgt := 113) C dX9_basinOf_9 (by decide) (fun q => ?_) (fun q => ?_)
  · have hf := xip q hf
    obtain ⟨b0, hg, e9⟩ := xmj hf
    subst e9
    have hf := hg
    have hk := hk.2 _ rfl
    refine ww_iload_n (pc := 113) C 2 dX9_basinOf_113 rfl ?_
    have hf := xsj hf
    subst hf
    exact ww_iret (pc := 114) C hk dX9_basinOf_114
  · have hf := xin q hf
    refine ww_iload_n (pc := 12) C 3 dX9_basinOf_12 rfl ?_
    refine ww_sipush (pc := 13) (v := (1024 : Int32)) C dX9_basinOf_13 (by decide) ?_
    refine ww_icmp_ge (pc := 16) (tgt := 113) C dX9_basinOf_16 (by decide) (fun q => ?_) (fun q => ?_)
    · have hf := xip q hf
      obtain ⟨b0, hg, e9⟩ := xmj hf
      subst e9
      have hf := hg
      have hk := hk.2 _ rfl
      refine ww_iload_n (pc := 113) C 2 dX9_basinOf_113 rfl ?_
      have hf := xsj hf
      subst hf
      exact ww_iret (pc := 114) C hk dX9_basinOf_114
    · have hf := xin q hf
      refine ww_aload_n (pc := 19) C 0 dX9_basinOf_19 rfl ?_
      refine ww_aload_n (pc := 20) C 0 dX9_basinOf_20 rfl ?_
      obtain ⟨z4, e3, hf⟩ := xbd hf
      refine gf_X9_9 (pc := 21) C e3 dX9_basinOf_21 ?_
      refine ww_iload_n (pc := 24) C 3 dX9_basinOf_24 rfl ?_
      obtain ⟨v6, e5, hf⟩ := xbd hf
      refine ww_iald (pc := 25) C e5 dX9_basinOf_25 ?_
      obtain ⟨_, e7, hf⟩ := xbd hf
      obtain ⟨v9, e8, hf⟩ := xbd hf
      refine ww_callVi (pc := 26) (as := [.int v6]) (st := []) C (k_X9_steepestFrom (l := gl G) (E := gE G) (hb := gB G) (σ := σ) e8) rfl (by decide) xc_X9_108 q1132 qp99 (xck_spec e7) rfl (by decide) (xst4 (Nat.le_of_ble_eq_true rfl)) xsame.rf.le xsame.rf.lim dX9_basinOf_26 ?_
      refine ww_istore (pc := 29) (lv' := [(4, .int v9), (0, .ref (gB G + r0)), (1, .int x1), (2, .int x2), (3, .int x3)]) C dX9_basinOf_29 (by decide) rfl ?_
      refine ww_iload (pc := 31) C 0 dX9_basinOf_31 rfl ?_
      refine ww_aload_n (pc := 33) C 1 dX9_basinOf_33 rfl ?_
      obtain ⟨z11, e10, hf⟩ := xbd hf
      refine gf_X9_9 (pc := 34) C e10 dX9_basinOf_34 ?_
      refine ww_iload_n (pc := 37) C 4 dX9_basinOf_37 rfl ?_
      obtain ⟨v13, e12, hf⟩ := xbd hf
      refine ww_iald (pc := 38) C e12 dX9_basinOf_38 ?_
      refine ww_icmp_eq (pc := 39) (tgt := 50) C dX9_basinOf_39 (by decide) (fun q => ?_) (fun q => ?_)
      · have hf := xip q hf
        refine ww_aload_n (pc := 50) C 1 dX9_basinOf_50 rfl ?_
        obtain ⟨z15, e14, hf⟩ := xbd hf
        refine gf_X9_9 (pc := 51) C e14 dX9_basinOf_51 ?_
        refine ww_iload_n (pc := 54) C 4 dX9_basinOf_54 rfl ?_
        obtain ⟨v17, e16, hf⟩ := xbd hf
        refine ww_iald (pc := 55) C e16 dX9_basinOf_55 ?_
        refine ww_goto (pc := 56) (tgt := 66) C dX9_basinOf_56 (by decide) ?_
        refine ww_sub [1, 2, 3, 4] rfl ?_
        exact s_X9_basinOf_j66 C hf hk
      · have hf := xin q hf
        refine ww_iload (pc := 42) C 0 dX9_basinOf_42 rfl ?_
        obtain ⟨v15, e14, hf⟩ := xbd hf
        refine ww_callSi (pc := 44) (as := [.int v9]) (st := []) C (k_X9_isState (l := gl G) (E := gE G) (hb := gB G) (σ := σ) e14) xc_X9_69 q1144 rfl (by decide) (xst4 (Nat.le_of_ble_eq_true rfl)) xsame.rf.le xsame.rf.lim dX9_basinOf_44 ?_
        refine ww_if_ne (pc := 47) (tgt := 59) C dX9_basinOf_47 (by decide) (fun q => ?_) (fun q => ?_)
        · have hf := xin q hf
          refine ww_aload_n (pc := 59) C 1 dX9_basinOf_59 rfl ?_
          obtain ⟨z17, e16, hf⟩ := xbd hf
          refine gf_X9_21 (pc := 60) C e16 dX9_basinOf_60 ?_
          refine ww_iload (pc := 63) C 0 dX9_basinOf_63 rfl ?_
          obtain ⟨v19, e18, hf⟩ := xbd hf
          refine ww_iald (pc := 65) C e18 dX9_basinOf_65 ?_
          refine ww_sub [1, 2, 3, 4] rfl ?_
          exact s_X9_basinOf_j66 C hf hk
        · have hf := xip q hf
          refine ww_aload_n (pc := 50) C 1 dX9_basinOf_50 rfl ?_
          obtain ⟨z17, e16, hf⟩ := xbd hf
          refine gf_X9_9 (pc := 51) C e16 dX9_basinOf_51 ?_
          refine ww_iload_n (pc := 54) C 4 dX9_basinOf_54 rfl ?_
          obtain ⟨v19, e18, hf⟩ := xbd hf
          refine ww_iald (pc := 55) C e18 dX9_basinOf_55 ?_
          refine ww_goto (pc := 56) (tgt := 66) C dX9_basinOf_56 (by decide) ?_
          refine ww_sub [1, 2, 3, 4] rfl ?_
          exact s_X9_basinOf_j66 C hf hk
theorem s_X9_basinOf_e {G : XG} (C : XC G cX9_basinOf RX9 (some .int) 6 4 87) {σ : XS} {r0 : Nat} {x1 : Int32} {x : Int32 × XS} (hf : f_X9_basinOf σ r0 x1 = some x) (hk : XEnd G (some (.int x.1)) x.2) : WW G 0 [(0, .ref (gB G + r0)), (1, .int x1)] [] σ := by
  refine ww_iconst (pc := 0) (v := (0 : Int32)) C dX9_basinOf_0 (by decide) ?_
  refine ww_istore_n (pc := 1) (lv' := [(2, .int (0 : Int32)), (0, .ref (gB G + r0)), (1, .int x1)]) C dX9_basinOf_1 (by decide) rfl ?_
  refine ww_iconst (pc := 2) (v := (0 : Int32)) C dX9_basinOf_2 (by decide) ?_
  refine ww_istore_n (pc := 3) (lv' := [(3, .int (0 : Int32)), (2, .int (0 : Int32)), (0, .ref (gB G + r0)), (1, .int x1)]) C dX9_basinOf_3 (by decide) rfl ?_
  refine ww_sub [2, 3, 1, 0] rfl ?_
  exact s_X9_basinOf_l4 C (a := ((0 : Int32), (0 : Int32), σ)) hf hk
theorem m_X9_basinOf {σ : XS} {r0 : Nat} {x1 : Int32} {x : Int32 × XS} (hf : f_X9_basinOf σ r0 x1 = some x) : xsame σ x.2 := by
  have hm := xsame.rf (σ := σ)
  exact hm.tr (m_X9_basinOf_l4 (a := ((0 : Int32), (0 : Int32), σ)) hf)
theorem k_X9_basinOf {l : Launch} {E : XD} {hb : Nat} {σ : XS} {r0 : Nat} {x1 : Int32} {x : Int32 × XS} (h : f_X9_basinOf σ r0 x1 = some x) : XM l yX9_basinOf cX9_basinOf 6 (some .int) 4 87 E hb [.ref (hb + r0), .int x1] σ (some (.int x.1)) x.2 := by
  refine xm_of (by decide) (Nat.le_of_ble_eq_true rfl) (m_X9_basinOf h).le (fun G hG C hl hQ => ?_)
  obtain ⟨rfl, rfl, rfl, hN⟩ := hG
  exact s_X9_basinOf_e C h hQ
noncomputable def f_X11_basin_j22 (σ : XS) (x1 : Int32) (t0 : Nat) : Option (Int32 × XS) := (xck σ t0 9).bind fun _ => (f_X9_basinOf σ t0 x1).bind fun (v4, σ3) => some (v4, σ3)
noncomputable def f_X11_basin (σ : XS) (r0 : Nat) (x1 : Int32) : Option (Int32 × XS) := (xck σ r0 11).bind fun _ => (f_X11_isSmall σ r0).bind fun v3 => if v3 = 0 then (some ((-100000 : Int32), σ)) else (xck σ r0 11).bind fun _ => (f_X11_isLawful σ r0 x1).bind fun v6 => if v6 = 0 then (some ((-100000 : Int32), σ)) else (xck σ r0 11).bind fun _ => (f_X11_terrainNow σ r0).bind fun (z10, σ9) => (xnz z10).bind fun _ => f_X11_basin_j22 σ9 x1 z10
theorem s_X11_basin_j22 {G : XG} (C : XC G cX11_basin RX11 (some .int) 2 6 136) {σ : XS} {x1 : Int32} {t0 : Nat} {x : Int32 × XS} (hf : f_X11_basin_j22 σ x1 t0 = some x) (hk : XEnd G (some (.int x.1)) x.2 ∧ XUp G x.2) : WW G 22 [(1, .int x1)] [.ref (gB G + t0)] σ := by
  refine ww_iload_n (pc := 22) C 0 dX11_basin_22 rfl ?_
  obtain ⟨_, e1, hf⟩ := xbd hf
  obtain ⟨⟨v4, σ3⟩, e2, hf⟩ := xbd hf
  dsimp only at hf
  refine ww_callVi (pc := 23) (as := [.int x1]) (st := []) C (k_X9_basinOf (l := gl G) (E := gE G) (hb := gB G) (σ := σ) e2) rfl (by decide) xc_X11_416 q1128 qp98 (xck_spec e1) rfl (by decide) (xst4 (Nat.le_of_ble_eq_true rfl)) (m_X9_basinOf e2).le (m_X9_basinOf e2).lim dX11_basin_23 ?_
  have hf := xsj hf
  subst hf
  exact ww_iret (pc := 26) C hk.1 dX11_basin_26
theorem m_X11_basin_j22 {σ : XS} {x1 : Int32} {t0 : Nat} {x : Int32 × XS} (hf : f_X11_basin_j22 σ x1 t0 = some x) : xext σ x.2 := by
  have hm := xext.rf (σ := σ)
  obtain ⟨_, e1, hf⟩ := xbd hf
  obtain ⟨⟨v4, σ3⟩, e2, hf⟩ := xbd hf
  dsimp only at hf
  have hm := hm.tr (m_X9_basinOf e2).ext
  have hf := xsj hf
  subst hf
  exact hm
theorem s_X11_basin_e {G : XG} (C : XC G cX11_basin RX11 (some .int) 2 6 136) {σ : XS} {r0 : Nat} {x1 : Int32} {x : Int32 × XS} (hf : f_X11_basin σ r0 x1 = some x) (hk : XEnd G (some (.int x.1)) x.2 ∧ XUp G x.2) : WW G 0 [(0, .ref (gB G + r0)), (1, .int x1)] [] σ := by
  refine ww_aload_n (pc := 0) C 0 dX11_basin_0 rfl ?_
  obtain ⟨_, e1, hf⟩ := xbd hf
  obtain ⟨v3, e2, hf⟩ := xbd hf
  refine ww_callVi (pc := 1) (as := []) (st := []) C (k_X11_isSmall (l := gl G) (E := gE G) (hb := gB G) (σ := σ) e2) rfl (by decide) xc_X11_408 q1110 qp94 (xck_spec e1) rfl (by decide) (xst4 (Nat.le_of_ble_eq_true rfl)) xsame.rf.le xsame.rf.lim dX11_basin_1 ?_
  refine ww_if_eq (pc := 4) (tgt := 15) C dX11_basin_4 (by decide) (fun q => ?_) (fun q => ?_)
  · have hf := xip q hf
    refine ww_ldc (pc := 15) C q801 dX11_basin_15 ?_
    have hf := xsj hf
    subst hf
    exact ww_iret (pc := 17) C hk.1 dX11_basin_17
  · have hf := xin q hf
    refine ww_aload_n (pc := 7) C 0 dX11_basin_7 rfl ?_
    refine ww_iload_n (pc := 8) C 1 dX11_basin_8 rfl ?_
    obtain ⟨_, e4, hf⟩ := xbd hf
    obtain ⟨v6, e5, hf⟩ := xbd hf
    refine ww_callVi (pc := 9) (as := [.int x1]) (st := []) C (k_X11_isLawful (l := gl G) (E := gE G) (hb := gB G) (σ := σ) e5) rfl (by decide) xc_X11_384 q1067 qp88 (xck_spec e4) rfl (by decide) (xst4 (Nat.le_of_ble_eq_true rfl)) xsame.rf.le xsame.rf.lim dX11_basin_9 ?_
    refine ww_if_ne (pc := 12) (tgt := 18) C dX11_basin_12 (by decide) (fun q => ?_) (fun q => ?_)
    · have hf := xin q hf
      refine ww_aload_n (pc := 18) C 0 dX11_basin_18 rfl ?_
      obtain ⟨_, e7, hf⟩ := xbd hf
      obtain ⟨⟨z10, σ9⟩, e8, hf⟩ := xbd hf
      dsimp only at hf
      obtain ⟨_, e11, hf⟩ := xbd hf
      refine ww_callVr (pc := 19) (as := []) (st := []) C (k_X11_terrainNow (l := gl G) (E := gE G) (hb := gB G) (σ := σ) e8) rfl (by decide) xc_X11_412 q1114 qp95 (xck_spec e7) rfl (by decide) (xst4 (Nat.le_of_ble_eq_true rfl)) (m_X11_terrainNow e8).1 (fun q => by have hm9 := m_X11_basin_j22 hf; exact XLim.mid q (m_X11_terrainNow e8) hm9 hk.2) dX11_basin_19 ?_
      refine ww_nn (xnz_spec e11) ?_
      refine ww_sub [1] rfl ?_
      exact s_X11_basin_j22 C hf hk
    · have hf := xip q hf
      refine ww_ldc (pc := 15) C q801 dX11_basin_15 ?_
      have hf := xsj hf
      subst hf
      exact ww_iret (pc := 17) C hk.1 dX11_basin_17
theorem m_X11_basin {σ : XS} {r0 : Nat} {x1 : Int32} {x : Int32 × XS} (hf : f_X11_basin σ r0 x1 = some x) : xext σ x.2 := by
  have hm := xext.rf (σ := σ)
  obtain ⟨_, e1, hf⟩ := xbd hf
  obtain ⟨v3, e2, hf⟩ := xbd hf
  by_cases q : v3 = 0
  · have hf := xip q hf
    have hf := xsj hf
    subst hf
    exact hm
  · have hf := xin q hf
    obtain ⟨_, e4, hf⟩ := xbd hf
    obtain ⟨v6, e5, hf⟩ := xbd hf
    by_cases q : v6 = 0
    · have hf := xip q hf
      have hf := xsj hf
      subst hf
      exact hm
    · have hf := xin q hf
      obtain ⟨_, e7, hf⟩ := xbd hf
      obtain ⟨⟨z10, σ9⟩, e8, hf⟩ := xbd hf
      dsimp only at hf
      have hm := hm.tr (m_X11_terrainNow e8)
      obtain ⟨_, e11, hf⟩ := xbd hf
      exact hm.tr (m_X11_basin_j22 hf)
theorem k_X11_basin {l : Launch} {E : XD} {hb : Nat} {σ : XS} {r0 : Nat} {x1 : Int32} {x : Int32 × XS} (h : f_X11_basin σ r0 x1 = some x) : XM l yX11_basin cX11_basin 2 (some .int) 6 136 E hb [.ref (hb + r0), .int x1] σ (some (.int x.1)) x.2 := by
  refine xm_of (by decide) (Nat.le_of_ble_eq_true rfl) (m_X11_basin h).1 (fun G hG C hl hQ => ?_)
  obtain ⟨rfl, rfl, rfl, hN⟩ := hG
  exact s_X11_basin_e C h ⟨hQ, hl.2⟩
noncomputable def f_X3_endOf_j107 (x0 : Int32) (x1 : Int32) (x4 : Int32) (x5 : Int32) (x6 : Int32) (t0 : Int32) : Option Int32 := if x1 ≤ (x5 + (1 : Int32)) then (if t0 = 0 then (some (-1 : Int32)) else some x6) else some (x4 + x0)
noncomputable def f_X3_endOf_j60 (x0 : Int32) (x4 : Int32) (x5 : Int32) (x6 : Int32) (t0 : Int32) : Option Int32 := if x0 ≤ (x6 + (1 : Int32)) then (if t0 = 0 then (some (-1 : Int32)) else some (x5 * x0)) else some (x4 + (1 : Int32))
noncomputable def f_X3_endOf (x0 : Int32) (x1 : Int32) (x2 : Int32) (x3 : Int32) : Option Int32 := (f_X3_startOf x3).bind fun v2 => if x0 < (1 : Int32) then (some (-1 : Int32)) else if v2 < 0 then (some (-1 : Int32)) else if v2 < (x0 * x1) then ((xdz x0).bind fun _ => (xdz x0).bind fun _ => if (16 : Int32) ≤ x3 then (if (x2 &&& (2 : Int32)) = 0 then (f_X3_endOf_j107 x0 x1 v2 (v2 / x0) (v2 - v2 / x0 * x0) (0 : Int32)) else if x1 ≤ (2 : Int32) then (f_X3_endOf_j107 x0 x1 v2 (v2 / x0) (v2 - v2 / x0 * x0) (0 : Int32)) else f_X3_endOf_j107 x0 x1 v2 (v2 / x0) (v2 - v2 / x0 * x0) (1 : Int32)) else if (x2 &&& (1 : Int32)) = 0 then (f_X3_endOf_j60 x0 v2 (v2 / x0) (v2 - v2 / x0 * x0) (0 : Int32)) else if x0 ≤ (2 : Int32) then (f_X3_endOf_j60 x0 v2 (v2 / x0) (v2 - v2 / x0 * x0) (0 : Int32)) else f_X3_endOf_j60 x0 v2 (v2 / x0) (v2 - v2 / x0 * x0) (1 : Int32)) else some (-1 : Int32)
theorem s_X3_endOf_j107 {G : XG} (C : XC G cX3_endOf RX3 (some .int) 8 1 20) {σ : XS} {x0 : Int32} {x1 : Int32} {x4 : Int32} {x5 : Int32} {x6 : Int32} {t0 : Int32} {x : Int32} (hf : f_X3_endOf_j107 x0 x1 x4 x5 x6 t0 = some x) (hk : XEnd G (some (.int x)) σ) : WW G 107 [(0, .int x0), (1, .int x1), (4, .int x4), (5, .int x5), (6, .int x6)] [.int t0] σ := by
  refine ww_istore (pc := 107) (lv' := [(7, .int t0), (0, .int x0), (1, .int x1), (4, .int x4), (5, .int x5), (6, .int x6)]) C dX3_endOf_107 (by decide) rfl ?_
  refine ww_iload (pc := 109) C 4 dX3_endOf_109 rfl ?_
  refine ww_iconst (pc := 111) (v := (1 : Int32)) C dX3_endOf_111 (by decide) ?_
  refine ww_iadd (pc := 112) C dX3_endOf_112 ?_
  refine ww_iload_n (pc := 113) C 2 dX3_endOf_113 rfl ?_
  refine ww_icmp_ge (pc := 114) (tgt := 124) C dX3_endOf_114 (by decide) (fun q => ?_) (fun q => ?_)
  · have hf := xip q hf
    refine ww_iload (pc := 124) C 0 dX3_endOf_124 rfl ?_
    refine ww_if_eq (pc := 126) (tgt := 134) C dX3_endOf_126 (by decide) (fun q => ?_) (fun q => ?_)
    · have hf := xip q hf
      refine ww_iconst (pc := 134) (v := (-1 : Int32)) C dX3_endOf_134 (by decide) ?_
      have hf := xsj hf
      subst hf
      exact ww_iret (pc := 135) C hk dX3_endOf_135
    · have hf := xin q hf
      refine ww_iload (pc := 129) C 5 dX3_endOf_129 rfl ?_
      refine ww_goto (pc := 131) (tgt := 135) C dX3_endOf_131 (by decide) ?_
      have hf := xsj hf
      subst hf
      exact ww_iret (pc := 135) C hk dX3_endOf_135
  · have hf := xin q hf
    refine ww_iload (pc := 117) C 3 dX3_endOf_117 rfl ?_
    refine ww_iload_n (pc := 119) C 1 dX3_endOf_119 rfl ?_
    refine ww_iadd (pc := 120) C dX3_endOf_120 ?_
    refine ww_goto (pc := 121) (tgt := 135) C dX3_endOf_121 (by decide) ?_
    have hf := xsj hf
    subst hf
    exact ww_iret (pc := 135) C hk dX3_endOf_135
theorem s_X3_endOf_j60 {G : XG} (C : XC G cX3_endOf RX3 (some .int) 8 1 20) {σ : XS} {x0 : Int32} {x4 : Int32} {x5 : Int32} {x6 : Int32} {t0 : Int32} {x : Int32} (hf : f_X3_endOf_j60 x0 x4 x5 x6 t0 = some x) (hk : XEnd G (some (.int x)) σ) : WW G 60 [(0, .int x0), (4, .int x4), (5, .int x5), (6, .int x6)] [.int t0] σ := by
  refine ww_istore (pc := 60) (lv' := [(7, .int t0), (0, .int x0), (4, .int x4), (5, .int x5), (6, .int x6)]) C dX3_endOf_60 (by decide) rfl ?_
  refine ww_iload (pc := 62) C 4 dX3_endOf_62 rfl ?_
  refine ww_iconst (pc := 64) (v := (1 : Int32)) C dX3_endOf_64 (by decide) ?_
  refine ww_iadd (pc := 65) C dX3_endOf_65 ?_
  refine ww_iload_n (pc := 66) C 1 dX3_endOf_66 rfl ?_
  refine ww_icmp_ge (pc := 67) (tgt := 77) C dX3_endOf_67 (by decide) (fun q => ?_) (fun q => ?_)
  · have hf := xip q hf
    refine ww_iload (pc := 77) C 0 dX3_endOf_77 rfl ?_
    refine ww_if_eq (pc := 79) (tgt := 89) C dX3_endOf_79 (by decide) (fun q => ?_) (fun q => ?_)
    · have hf := xip q hf
      refine ww_iconst (pc := 89) (v := (-1 : Int32)) C dX3_endOf_89 (by decide) ?_
      have hf := xsj hf
      subst hf
      exact ww_iret (pc := 90) C hk dX3_endOf_90
    · have hf := xin q hf
      refine ww_iload (pc := 82) C 3 dX3_endOf_82 rfl ?_
      refine ww_iload_n (pc := 84) C 1 dX3_endOf_84 rfl ?_
      refine ww_imul (pc := 85) C dX3_endOf_85 ?_
      refine ww_goto (pc := 86) (tgt := 90) C dX3_endOf_86 (by decide) ?_
      have hf := xsj hf
      subst hf
      exact ww_iret (pc := 90) C hk dX3_endOf_90
  · have hf := xin q hf
    refine ww_iload (pc := 70) C 2 dX3_endOf_70 rfl ?_
    refine ww_iconst (pc := 72) (v := (1 : Int32)) C dX3_endOf_72 (by decide) ?_
    refine ww_iadd (pc := 73) C dX3_endOf_73 ?_
    refine ww_goto (pc := 74) (tgt := 90) C dX3_endOf_74 (by decide) ?_
    have hf := xsj hf
    subst hf
    exact ww_iret (pc := 90) C hk dX3_endOf_90
theorem s_X3_endOf_e {G : XG} (C : XC G cX3_endOf RX3 (some .int) 8 1 20) {σ : XS} {x0 : Int32} {x1 : Int32} {x2 : Int32} {x3 : Int32} {x : Int32} (hf : f_X3_endOf x0 x1 x2 x3 = some x) (hk : XEnd G (some (.int x)) σ) : WW G 0 [(0, .int x0), (1, .int x1), (2, .int x2), (3, .int x3)] [] σ := by
  refine ww_iload_n (pc := 0) C 3 dX3_endOf_0 rfl ?_
  obtain ⟨v2, e1, hf⟩ := xbd hf
  refine ww_callSi (pc := 1) (as := [.int x3]) (st := []) C (k_X3_startOf (l := gl G) (E := gE G) (hb := gB G) (σ := σ) e1) xc_X3_47 q628 rfl (by decide) (xst4 (Nat.le_of_ble_eq_true rfl)) xsame.rf.le xsame.rf.lim dX3_endOf_1 ?_
  refine ww_istore (pc := 4) (lv' := [(4, .int v2), (0, .int x0), (1, .int x1), (2, .int x2), (3, .int x3)]) C dX3_endOf_4 (by decide) rfl ?_
  refine ww_iload_n (pc := 6) C 1 dX3_endOf_6 rfl ?_
  refine ww_iconst (pc := 7) (v := (1 : Int32)) C dX3_endOf_7 (by decide) ?_
  refine ww_icmp_lt (pc := 8) (tgt := 24) C dX3_endOf_8 (by decide) (fun q => ?_) (fun q => ?_)
  · have hf := xip q hf
    refine ww_iconst (pc := 24) (v := (-1 : Int32)) C dX3_endOf_24 (by decide) ?_
    have hf := xsj hf
    subst hf
    exact ww_iret (pc := 25) C hk dX3_endOf_25
  · have hf := xin q hf
    refine ww_iload (pc := 11) C 0 dX3_endOf_11 rfl ?_
    refine ww_if_lt (pc := 13) (tgt := 24) C dX3_endOf_13 (by decide) (fun q => ?_) (fun q => ?_)
    · have hf := xip q hf
      refine ww_iconst (pc := 24) (v := (-1 : Int32)) C dX3_endOf_24 (by decide) ?_
      have hf := xsj hf
      subst hf
      exact ww_iret (pc := 25) C hk dX3_endOf_25
    · have hf := xin q hf
      refine ww_iload (pc := 16) C 0 dX3_endOf_16 rfl ?_
      refine ww_iload_n (pc := 18) C 1 dX3_endOf_18 rfl ?_
      refine ww_iload_n (pc := 19) C 2 dX3_endOf_19 rfl ?_
      refine ww_imul (pc := 20) C dX3_endOf_20 ?_
      refine ww_icmp_lt (pc := 21) (tgt := 26) C dX3_endOf_21 (by decide) (fun q => ?_) (fun q => ?_)
      · have hf := xip q hf
        refine ww_iload (pc := 26) C 0 dX3_endOf_26 rfl ?_
        refine ww_iload_n (pc := 28) C 1 dX3_endOf_28 rfl ?_
        obtain ⟨_, e3, hf⟩ := xbd hf
        refine ww_idiv (pc := 29) C dX3_endOf_29 (xdz_spec e3) ?_
        refine ww_istore (pc := 30) (lv' := [(5, .int (v2 / x0)), (4, .int v2), (0, .int x0), (1, .int x1), (2, .int x2), (3, .int x3)]) C dX3_endOf_30 (by decide) rfl ?_
        refine ww_iload (pc := 32) C 1 dX3_endOf_32 rfl ?_
        refine ww_iload_n (pc := 34) C 2 dX3_endOf_34 rfl ?_
        obtain ⟨_, e4, hf⟩ := xbd hf
        refine ww_irem (pc := 35) C dX3_endOf_35 (xdz_spec e4) ?_
        refine ww_istore (pc := 36) (lv' := [(6, .int (v2 - v2 / x0 * x0)), (5, .int (v2 / x0)), (4, .int v2), (0, .int x0), (1, .int x1), (2, .int x2), (3, .int x3)]) C dX3_endOf_36 (by decide) rfl ?_
        refine ww_iload_n (pc := 38) C 6 dX3_endOf_38 rfl ?_
        refine ww_bipush (pc := 39) (v := (16 : Int32)) C dX3_endOf_39 (by decide) ?_
        refine ww_icmp_ge (pc := 41) (tgt := 91) C dX3_endOf_41 (by decide) (fun q => ?_) (fun q => ?_)
        · have hf := xip q hf
          refine ww_iload_n (pc := 91) C 5 dX3_endOf_91 rfl ?_
          refine ww_iconst (pc := 92) (v := (2 : Int32)) C dX3_endOf_92 (by decide) ?_
          refine ww_iand (pc := 93) C dX3_endOf_93 ?_
          refine ww_if_eq (pc := 94) (tgt := 106) C dX3_endOf_94 (by decide) (fun q => ?_) (fun q => ?_)
          · have hf := xip q hf
            refine ww_iconst (pc := 106) (v := (0 : Int32)) C dX3_endOf_106 (by decide) ?_
            refine ww_sub [3, 4, 2, 1, 0] rfl ?_
            exact s_X3_endOf_j107 C hf hk
          · have hf := xin q hf
            refine ww_iload_n (pc := 97) C 4 dX3_endOf_97 rfl ?_
            refine ww_iconst (pc := 98) (v := (2 : Int32)) C dX3_endOf_98 (by decide) ?_
            refine ww_icmp_le (pc := 99) (tgt := 106) C dX3_endOf_99 (by decide) (fun q => ?_) (fun q => ?_)
            · have hf := xip q hf
              refine ww_iconst (pc := 106) (v := (0 : Int32)) C dX3_endOf_106 (by decide) ?_
              refine ww_sub [3, 4, 2, 1, 0] rfl ?_
              exact s_X3_endOf_j107 C hf hk
            · have hf := xin q hf
              refine ww_iconst (pc := 102) (v := (1 : Int32)) C dX3_endOf_102 (by decide) ?_
              refine ww_goto (pc := 103) (tgt := 107) C dX3_endOf_103 (by decide) ?_
              refine ww_sub [3, 4, 2, 1, 0] rfl ?_
              exact s_X3_endOf_j107 C hf hk
        · have hf := xin q hf
          refine ww_iload_n (pc := 44) C 5 dX3_endOf_44 rfl ?_
          refine ww_iconst (pc := 45) (v := (1 : Int32)) C dX3_endOf_45 (by decide) ?_
          refine ww_iand (pc := 46) C dX3_endOf_46 ?_
          refine ww_if_eq (pc := 47) (tgt := 59) C dX3_endOf_47 (by decide) (fun q => ?_) (fun q => ?_)
          · have hf := xip q hf
            refine ww_iconst (pc := 59) (v := (0 : Int32)) C dX3_endOf_59 (by decide) ?_
            refine ww_sub [3, 2, 1, 0] rfl ?_
            exact s_X3_endOf_j60 C hf hk
          · have hf := xin q hf
            refine ww_iload_n (pc := 50) C 3 dX3_endOf_50 rfl ?_
            refine ww_iconst (pc := 51) (v := (2 : Int32)) C dX3_endOf_51 (by decide) ?_
            refine ww_icmp_le (pc := 52) (tgt := 59) C dX3_endOf_52 (by decide) (fun q => ?_) (fun q => ?_)
            · have hf := xip q hf
              refine ww_iconst (pc := 59) (v := (0 : Int32)) C dX3_endOf_59 (by decide) ?_
              refine ww_sub [3, 2, 1, 0] rfl ?_
              exact s_X3_endOf_j60 C hf hk
            · have hf := xin q hf
              refine ww_iconst (pc := 55) (v := (1 : Int32)) C dX3_endOf_55 (by decide) ?_
              refine ww_goto (pc := 56) (tgt := 60) C dX3_endOf_56 (by decide) ?_
              refine ww_sub [3, 2, 1, 0] rfl ?_
              exact s_X3_endOf_j60 C hf hk
      · have hf := xin q hf
        refine ww_iconst (pc := 24) (v := (-1 : Int32)) C dX3_endOf_24 (by decide) ?_
        have hf := xsj hf
        subst hf
        exact ww_iret (pc := 25) C hk dX3_endOf_25
theorem k_X3_endOf {l : Launch} {E : XD} {hb : Nat} {σ : XS} {x0 : Int32} {x1 : Int32} {x2 : Int32} {x3 : Int32} {x : Int32} (h : f_X3_endOf x0 x1 x2 x3 = some x) : XM l yX3_endOf cX3_endOf 8 (some .int) 1 20 E hb [.int x0, .int x1, .int x2, .int x3] σ (some (.int x)) σ := by
  refine xm_of (by decide) (Nat.le_of_ble_eq_true rfl) ⟨Nat.le_refl _, Nat.le_refl _⟩ (fun G hG C hl hQ => ?_)
  obtain ⟨rfl, rfl, rfl, hN⟩ := hG
  exact s_X3_endOf_e C h hQ
noncomputable def f_X3_addMate (σ : XS) (r0 : Nat) (x1 : Int32) (x2 : Int32) (x3 : Int32) : Option XS := if x1 < 0 then (some σ) else if (16 : Int32) ≤ x1 then (some σ) else (xgR σ r0 3 3).bind fun z2 => (xaI σ 20 z2 x1).bind fun v4 => if v4 < (4 : Int32) then ((xgR σ r0 3 3).bind fun z6 => (xaI σ 20 z6 x1).bind fun v8 => (xgR σ r0 3 1).bind fun z10 => (xsI σ 20 z10 (((4 : Int32) * x1) + v8) x2).bind fun σ12 => (xgR σ12 r0 3 2).bind fun z14 => (xsI σ12 20 z14 (((4 : Int32) * x1) + v8) x3).bind fun σ16 => (xgR σ16 r0 3 3).bind fun z18 => (xaI σ16 20 z18 x1).bind fun v20 => (xsI σ16 20 z18 x1 (v20 + (1 : Int32))).bind fun σ22 => some σ22) else some σ
theorem s_X3_addMate_e {G : XG} (C : XC G cX3_addMate RX3 none 5 0 0) {σ : XS} {r0 : Nat} {x1 : Int32} {x2 : Int32} {x3 : Int32} {x : XS} (hf : f_X3_addMate σ r0 x1 x2 x3 = some x) (hk : XEnd G none x) : WW G 0 [(0, .ref (gB G + r0)), (1, .int x1), (2, .int x2), (3, .int x3)] [] σ := by
  refine ww_iload_n (pc := 0) C 1 dX3_addMate_0 rfl ?_
  refine ww_if_lt (pc := 1) (tgt := 20) C dX3_addMate_1 (by decide) (fun q => ?_) (fun q => ?_)
  · have hf := xip q hf
    have hf := xsj hf
    subst hf
    exact ww_vret (pc := 20) C hk dX3_addMate_20
  · have hf := xin q hf
    refine ww_iload_n (pc := 4) C 1 dX3_addMate_4 rfl ?_
    refine ww_bipush (pc := 5) (v := (16 : Int32)) C dX3_addMate_5 (by decide) ?_
    refine ww_icmp_ge (pc := 7) (tgt := 20) C dX3_addMate_7 (by decide) (fun q => ?_) (fun q => ?_)
    · have hf := xip q hf
      have hf := xsj hf
      subst hf
      exact ww_vret (pc := 20) C hk dX3_addMate_20
    · have hf := xin q hf
      refine ww_aload_n (pc := 10) C 0 dX3_addMate_10 rfl ?_
      obtain ⟨z2, e1, hf⟩ := xbd hf
      refine gf_X3_21 (pc := 11) C e1 dX3_addMate_11 ?_
      refine ww_iload_n (pc := 14) C 1 dX3_addMate_14 rfl ?_
      obtain ⟨v4, e3, hf⟩ := xbd hf
      refine ww_iald (pc := 15) C e3 dX3_addMate_15 ?_
      refine ww_iconst (pc := 16) (v := (4 : Int32)) C dX3_addMate_16 (by decide) ?_
      refine ww_icmp_lt (pc := 17) (tgt := 21) C dX3_addMate_17 (by decide) (fun q => ?_) (fun q => ?_)
      · have hf := xip q hf
        refine ww_iconst (pc := 21) (v := (4 : Int32)) C dX3_addMate_21 (by decide) ?_
        refine ww_iload_n (pc := 22) C 1 dX3_addMate_22 rfl ?_
        refine ww_imul (pc := 23) C dX3_addMate_23 ?_
        refine ww_aload_n (pc := 24) C 0 dX3_addMate_24 rfl ?_
        obtain ⟨z6, e5, hf⟩ := xbd hf
        refine gf_X3_21 (pc := 25) C e5 dX3_addMate_25 ?_
        refine ww_iload_n (pc := 28) C 1 dX3_addMate_28 rfl ?_
        obtain ⟨v8, e7, hf⟩ := xbd hf
        refine ww_iald (pc := 29) C e7 dX3_addMate_29 ?_
        refine ww_iadd (pc := 30) C dX3_addMate_30 ?_
        refine ww_istore (pc := 31) (lv' := [(4, .int (((4 : Int32) * x1) + v8)), (0, .ref (gB G + r0)), (1, .int x1), (2, .int x2), (3, .int x3)]) C dX3_addMate_31 (by decide) rfl ?_
        refine ww_aload_n (pc := 33) C 1 dX3_addMate_33 rfl ?_
        obtain ⟨z10, e9, hf⟩ := xbd hf
        refine gf_X3_15 (pc := 34) C e9 dX3_addMate_34 ?_
        refine ww_iload (pc := 37) C 0 dX3_addMate_37 rfl ?_
        refine ww_iload_n (pc := 39) C 3 dX3_addMate_39 rfl ?_
        obtain ⟨σ12, e11, hf⟩ := xbd hf
        refine ww_iast (pc := 40) C e11 dX3_addMate_40 ?_
        refine ww_aload_n (pc := 41) C 1 dX3_addMate_41 rfl ?_
        obtain ⟨z14, e13, hf⟩ := xbd hf
        refine gf_X3_18 (pc := 42) C e13 dX3_addMate_42 ?_
        refine ww_iload (pc := 45) C 0 dX3_addMate_45 rfl ?_
        refine ww_iload_n (pc := 47) C 4 dX3_addMate_47 rfl ?_
        obtain ⟨σ16, e15, hf⟩ := xbd hf
        refine ww_iast (pc := 48) C e15 dX3_addMate_48 ?_
        refine ww_aload_n (pc := 49) C 1 dX3_addMate_49 rfl ?_
        obtain ⟨z18, e17, hf⟩ := xbd hf
        refine gf_X3_21 (pc := 50) C e17 dX3_addMate_50 ?_
        refine ww_iload_n (pc := 53) C 2 dX3_addMate_53 rfl ?_
        refine ww_dup2 (pc := 54) C dX3_addMate_54 rfl rfl ?_
        obtain ⟨v20, e19, hf⟩ := xbd hf
        refine ww_iald (pc := 55) C e19 dX3_addMate_55 ?_
        refine ww_iconst (pc := 56) (v := (1 : Int32)) C dX3_addMate_56 (by decide) ?_
        refine ww_iadd (pc := 57) C dX3_addMate_57 ?_
        obtain ⟨σ22, e21, hf⟩ := xbd hf
        refine ww_iast (pc := 58) C e21 dX3_addMate_58 ?_
        have hf := xsj hf
        subst hf
        exact ww_vret (pc := 59) C hk dX3_addMate_59
      · have hf := xin q hf
        have hf := xsj hf
        subst hf
        exact ww_vret (pc := 20) C hk dX3_addMate_20
theorem m_X3_addMate {σ : XS} {r0 : Nat} {x1 : Int32} {x2 : Int32} {x3 : Int32} {x : XS} (hf : f_X3_addMate σ r0 x1 x2 x3 = some x) : xsame σ x := by
  have hm := xsame.rf (σ := σ)
  by_cases q : x1 < 0
  · have hf := xip q hf
    have hf := xsj hf
    subst hf
    exact hm
  · have hf := xin q hf
    by_cases q : (16 : Int32) ≤ x1
    · have hf := xip q hf
      have hf := xsj hf
      subst hf
      exact hm
    · have hf := xin q hf
      obtain ⟨z2, e1, hf⟩ := xbd hf
      obtain ⟨v4, e3, hf⟩ := xbd hf
      by_cases q : v4 < (4 : Int32)
      · have hf := xip q hf
        obtain ⟨z6, e5, hf⟩ := xbd hf
        obtain ⟨v8, e7, hf⟩ := xbd hf
        obtain ⟨z10, e9, hf⟩ := xbd hf
        obtain ⟨σ12, e11, hf⟩ := xbd hf
        have hm := hm.tr (xsI_same e11)
        obtain ⟨z14, e13, hf⟩ := xbd hf
        obtain ⟨σ16, e15, hf⟩ := xbd hf
        have hm := hm.tr (xsI_same e15)
        obtain ⟨z18, e17, hf⟩ := xbd hf
        obtain ⟨v20, e19, hf⟩ := xbd hf
        obtain ⟨σ22, e21, hf⟩ := xbd hf
        have hm := hm.tr (xsI_same e21)
        have hf := xsj hf
        subst hf
        exact hm
      · have hf := xin q hf
        have hf := xsj hf
        subst hf
        exact hm
theorem k_X3_addMate {l : Launch} {E : XD} {hb : Nat} {σ : XS} {r0 : Nat} {x1 : Int32} {x2 : Int32} {x3 : Int32} {x : XS} (h : f_X3_addMate σ r0 x1 x2 x3 = some x) : XM l yX3_addMate cX3_addMate 5 none 0 0 E hb [.ref (hb + r0), .int x1, .int x2, .int x3] σ none x := by
  refine xm_of (by decide) (Nat.le_of_ble_eq_true rfl) (m_X3_addMate h).le (fun G hG C hl hQ => ?_)
  obtain ⟨rfl, rfl, rfl, hN⟩ := hG
  exact s_X3_addMate_e C h hQ
noncomputable def f_X3_lay_b39 (r0 : Nat) : Int32 × XS → Option ((Int32 × XS) ⊕ (XS)) := fun a => match a with
  | (x4, σ) => if (32 : Int32) ≤ x4 then ((some σ).map .inr) else (xgR σ r0 3 0).bind fun z2 => (xgI σ r0 3 4).bind fun v4 => (xgI σ r0 3 5).bind fun v6 => (xgI σ r0 3 6).bind fun v8 => (f_X3_endOf v4 v6 v8 x4).bind fun v10 => (xsI σ 20 z2 x4 v10).bind fun σ12 => (xgR σ12 r0 3 0).bind fun z14 => (xaI σ12 20 z14 x4).bind fun v16 => if v16 = (-1 : Int32) then (some (.inl (x4 + (1 : Int32), σ12))) else (f_X3_startOf x4).bind fun v18 => (xgR σ12 r0 3 0).bind fun z20 => (xaI σ12 20 z20 x4).bind fun v22 => (xck σ12 r0 3).bind fun _ => (f_X3_addMate σ12 r0 v18 v22 x4).bind fun σ25 => (xgR σ25 r0 3 0).bind fun z27 => (xaI σ25 20 z27 x4).bind fun v29 => (f_X3_startOf x4).bind fun v31 => (xck σ25 r0 3).bind fun _ => (f_X3_addMate σ25 r0 v29 v31 x4).bind fun σ34 => some (.inl (x4 + (1 : Int32), σ34))
noncomputable def f_X3_lay (σ : XS) (r0 : Nat) (x1 : Int32) (x2 : Int32) (x3 : Int32) : Option XS := (xpI σ r0 3 4 x1).bind fun σ2 => (xpI σ2 r0 3 5 x2).bind fun σ4 => (xpI σ4 r0 3 6 x3).bind fun σ6 => (xgI σ6 r0 3 4).bind fun v8 => (xgI σ6 r0 3 5).bind fun v10 => (xpI σ6 r0 3 7 (v8 * v10)).bind fun σ12 => (xgR σ12 r0 3 3).bind fun z14 => (f_J7_fill_53178 σ12 z14 (0 : Int32)).bind fun σ16 => xloop (f_X3_lay_b39 r0) ((0 : Int32), σ16)
theorem m_X3_lay_l39 {r0 : Nat} {a : Int32 × XS} {x : XS} (hf : xloop (f_X3_lay_b39 r0) a = some x) : xsame a.2 x := by
  refine xloop_ind (P := fun a => xsame a.2 x) (fun a y hf hc he => ?_) hf
  obtain ⟨x4, σ⟩ := a
  have hy : (∀ a' : Int32 × XS, y = .inl a' → xsame σ a'.2) ∧ (∀ b1 : XS, y = .inr b1 → xsame σ b1) := by
    have hm := xsame.rf (σ := σ)
    by_cases q : (32 : Int32) ≤ x4
    · have hf := xip q hf
      obtain ⟨b0, hg, e9⟩ := xmj hf
      subst e9
      have hf := hg
      refine ⟨fun a' e => xnc2 e, fun b e => ?_⟩
      have h9 := Sum.inr.inj e
      subst h9
      have hf := xsj hf
      subst hf
      exact hm
    · have hf := xin q hf
      obtain ⟨z2, e1, hf⟩ := xbd hf
      obtain ⟨v4, e3, hf⟩ := xbd hf
      obtain ⟨v6, e5, hf⟩ := xbd hf
      obtain ⟨v8, e7, hf⟩ := xbd hf
      obtain ⟨v10, e9, hf⟩ := xbd hf
      obtain ⟨σ12, e11, hf⟩ := xbd hf
      have hm := hm.tr (xsI_same e11)
      obtain ⟨z14, e13, hf⟩ := xbd hf
      obtain ⟨v16, e15, hf⟩ := xbd hf
      by_cases q : v16 = (-1 : Int32)
      · have hf := xip q hf
        have hf := xsj hf
        subst hf
        exact ⟨fun a' e => (by have h9 := Sum.inl.inj e; subst h9; exact hm), fun b e => xnc1 e⟩
      · have hf := xin q hf
        obtain ⟨v18, e17, hf⟩ := xbd hf
        obtain ⟨z20, e19, hf⟩ := xbd hf
        obtain ⟨v22, e21, hf⟩ := xbd hf
        obtain ⟨_, e23, hf⟩ := xbd hf
        obtain ⟨σ25, e24, hf⟩ := xbd hf
        have hm := hm.tr (m_X3_addMate e24)
        obtain ⟨z27, e26, hf⟩ := xbd hf
        obtain ⟨v29, e28, hf⟩ := xbd hf
        obtain ⟨v31, e30, hf⟩ := xbd hf
        obtain ⟨_, e32, hf⟩ := xbd hf
        obtain ⟨σ34, e33, hf⟩ := xbd hf
        have hm := hm.tr (m_X3_addMate e33)
        have hf := xsj hf
        subst hf
        exact ⟨fun a' e => (by have h9 := Sum.inl.inj e; subst h9; exact hm), fun b e => xnc1 e⟩
  cases y with
  | inl a' =>
    have h1 := hc a' rfl
    have hm := hy.1 a' rfl
    exact hm.tr (h1)
  | inr b =>
    have h1 := he b rfl
    subst h1
    exact hy.2 _ rfl
theorem s_X3_lay_l39 {G : XG} (C : XC G cX3_lay RX3 none 5 2 47) {r0 : Nat} {a : Int32 × XS} {x : XS} (hf : xloop (f_X3_lay_b39 r0) a = some x) (hk : XEnd G none x) : WW G 39 [(0, .ref (gB G + r0)), (4, .int a.1)] [] a.2 := by
  refine xloop_ind (P := fun a => WW G 39 [(0, .ref (gB G + r0)), (4, .int a.1)] [] a.2) (fun a y hf hc he => ?_) hf
  obtain ⟨x4, σ⟩ := a
  have hk : (∀ a' : Int32 × XS, y = .inl a' → WW G 39 [(0, .ref (gB G + r0)), (4, .int a'.1)] [] a'.2) ∧ (∀ b1 : XS, y = .inr b1 → XEnd G none b1) := ⟨hc, fun b e => by have h9 := he b e; subst h9; exact hk⟩
  refine ww_iload (pc := 39) C 1 dX3_lay_39 rfl ?_
  refine ww_bipush (pc := 41) (v := (32 : Int32)) C dX3_lay_41 (by decide) ?_
  refine ww_icmp_ge (pc := 43) (tgt := 123) C dX3_lay_43 (by decide) (fun q => ?_) (fun q => ?_)
  · have hf := xip q hf
    obtain ⟨b0, hg, e9⟩ := xmj hf
    subst e9
    have hf := hg
    have hk := hk.2 _ rfl
    have hf := xsj hf
    subst hf
    exact ww_vret (pc := 123) C hk dX3_lay_123
  · have hf := xin q hf
    refine ww_aload_n (pc := 46) C 0 dX3_lay_46 rfl ?_
    obtain ⟨z2, e1, hf⟩ := xbd hf
    refine gf_X3_9 (pc := 47) C e1 dX3_lay_47 ?_
    refine ww_iload (pc := 50) C 1 dX3_lay_50 rfl ?_
    refine ww_aload_n (pc := 52) C 0 dX3_lay_52 rfl ?_
    obtain ⟨v4, e3, hf⟩ := xbd hf
    refine gf_X3_30 (pc := 53) C e3 dX3_lay_53 ?_
    refine ww_aload_n (pc := 56) C 0 dX3_lay_56 rfl ?_
    obtain ⟨v6, e5, hf⟩ := xbd hf
    refine gf_X3_34 (pc := 57) C e5 dX3_lay_57 ?_
    refine ww_aload_n (pc := 60) C 0 dX3_lay_60 rfl ?_
    obtain ⟨v8, e7, hf⟩ := xbd hf
    refine gf_X3_37 (pc := 61) C e7 dX3_lay_61 ?_
    refine ww_iload (pc := 64) C 1 dX3_lay_64 rfl ?_
    obtain ⟨v10, e9, hf⟩ := xbd hf
    refine ww_callSi (pc := 66) (as := [.int v4, .int v6, .int v8, .int x4]) (st := [.int x4, .ref (gB G + z2)]) C (k_X3_endOf (l := gl G) (E := gE G) (hb := gB G) (σ := σ) e9) xc_X3_43 q625 rfl (by decide) (xst4 (Nat.le_of_ble_eq_true rfl)) xsame.rf.le xsame.rf.lim dX3_lay_66 ?_
    obtain ⟨σ12, e11, hf⟩ := xbd hf
    refine ww_iast (pc := 69) C e11 dX3_lay_69 ?_
    refine ww_aload_n (pc := 70) C 0 dX3_lay_70 rfl ?_
    obtain ⟨z14, e13, hf⟩ := xbd hf
    refine gf_X3_9 (pc := 71) C e13 dX3_lay_71 ?_
    refine ww_iload (pc := 74) C 1 dX3_lay_74 rfl ?_
    obtain ⟨v16, e15, hf⟩ := xbd hf
    refine ww_iald (pc := 76) C e15 dX3_lay_76 ?_
    refine ww_iconst (pc := 77) (v := (-1 : Int32)) C dX3_lay_77 (by decide) ?_
    refine ww_icmp_eq (pc := 78) (tgt := 117) C dX3_lay_78 (by decide) (fun q => ?_) (fun q => ?_)
    · have hf := xip q hf
      refine ww_iinc (pc := 117) (v := x4 + (1 : Int32)) (lv' := [(4, .int (x4 + (1 : Int32))), (0, .ref (gB G + r0))]) C 1 dX3_lay_117 rfl (congrArg (fun z => x4 + z) (show Int32.ofInt (1) = (1 : Int32) by decide)) (by decide) rfl ?_
      refine ww_goto (pc := 120) (tgt := 39) C dX3_lay_120 (by decide) ?_
      have hf := xsj hf
      subst hf
      refine ww_sub [1, 0] rfl ?_
      exact hk.1 (x4 + (1 : Int32), σ12) rfl
    · have hf := xin q hf
      refine ww_aload_n (pc := 81) C 0 dX3_lay_81 rfl ?_
      refine ww_iload (pc := 82) C 1 dX3_lay_82 rfl ?_
      obtain ⟨v18, e17, hf⟩ := xbd hf
      refine ww_callSi (pc := 84) (as := [.int x4]) (st := [.ref (gB G + r0)]) C (k_X3_startOf (l := gl G) (E := gE G) (hb := gB G) (σ := σ12) e17) xc_X3_47 q628 rfl (by decide) (xst4 (Nat.le_of_ble_eq_true rfl)) xsame.rf.le xsame.rf.lim dX3_lay_84 ?_
      refine ww_aload_n (pc := 87) C 0 dX3_lay_87 rfl ?_
      obtain ⟨z20, e19, hf⟩ := xbd hf
      refine gf_X3_9 (pc := 88) C e19 dX3_lay_88 ?_
      refine ww_iload (pc := 91) C 1 dX3_lay_91 rfl ?_
      obtain ⟨v22, e21, hf⟩ := xbd hf
      refine ww_iald (pc := 93) C e21 dX3_lay_93 ?_
      refine ww_iload (pc := 94) C 1 dX3_lay_94 rfl ?_
      obtain ⟨_, e23, hf⟩ := xbd hf
      obtain ⟨σ25, e24, hf⟩ := xbd hf
      refine ww_callVv (pc := 96) (as := [.int v18, .int v22, .int x4]) (st := []) C (k_X3_addMate (l := gl G) (E := gE G) (hb := gB G) (σ := σ12) e24) rfl (by decide) xc_X3_51 q668 qp32 (xck_spec e23) rfl (by decide) (xst4 (Nat.le_of_ble_eq_true rfl)) (m_X3_addMate e24).le (m_X3_addMate e24).lim dX3_lay_96 ?_
      refine ww_aload_n (pc := 99) C 0 dX3_lay_99 rfl ?_
      refine ww_aload_n (pc := 100) C 0 dX3_lay_100 rfl ?_
      obtain ⟨z27, e26, hf⟩ := xbd hf
      refine gf_X3_9 (pc := 101) C e26 dX3_lay_101 ?_
      refine ww_iload (pc := 104) C 1 dX3_lay_104 rfl ?_
      obtain ⟨v29, e28, hf⟩ := xbd hf
      refine ww_iald (pc := 106) C e28 dX3_lay_106 ?_
      refine ww_iload (pc := 107) C 1 dX3_lay_107 rfl ?_
      obtain ⟨v31, e30, hf⟩ := xbd hf
      refine ww_callSi (pc := 109) (as := [.int x4]) (st := [.int v29, .ref (gB G + r0)]) C (k_X3_startOf (l := gl G) (E := gE G) (hb := gB G) (σ := σ25) e30) xc_X3_47 q628 rfl (by decide) (xst4 (Nat.le_of_ble_eq_true rfl)) xsame.rf.le xsame.rf.lim dX3_lay_109 ?_
      refine ww_iload (pc := 112) C 1 dX3_lay_112 rfl ?_
      obtain ⟨_, e32, hf⟩ := xbd hf
      obtain ⟨σ34, e33, hf⟩ := xbd hf
      refine ww_callVv (pc := 114) (as := [.int v29, .int v31, .int x4]) (st := []) C (k_X3_addMate (l := gl G) (E := gE G) (hb := gB G) (σ := σ25) e33) rfl (by decide) xc_X3_51 q668 qp32 (xck_spec e32) rfl (by decide) (xst4 (Nat.le_of_ble_eq_true rfl)) (m_X3_addMate e33).le (m_X3_addMate e33).lim dX3_lay_114 ?_
      refine ww_iinc (pc := 117) (v := x4 + (1 : Int32)) (lv' := [(4, .int (x4 + (1 : Int32))), (0, .ref (gB G + r0))]) C 1 dX3_lay_117 rfl (congrArg (fun z => x4 + z) (show Int32.ofInt (1) = (1 : Int32) by decide)) (by decide) rfl ?_
      refine ww_goto (pc := 120) (tgt := 39) C dX3_lay_120 (by decide) ?_
      have hf := xsj hf
      subst hf
      refine ww_sub [1, 0] rfl ?_
      exact hk.1 (x4 + (1 : Int32), σ34) rfl
theorem s_X3_lay_e {G : XG} (C : XC G cX3_lay RX3 none 5 2 47) {σ : XS} {r0 : Nat} {x1 : Int32} {x2 : Int32} {x3 : Int32} {x : XS} (hf : f_X3_lay σ r0 x1 x2 x3 = some x) (hk : XEnd G none x) : WW G 0 [(0, .ref (gB G + r0)), (1, .int x1), (2, .int x2), (3, .int x3)] [] σ := by
  refine ww_aload_n (pc := 0) C 0 dX3_lay_0 rfl ?_
  refine ww_iload_n (pc := 1) C 1 dX3_lay_1 rfl ?_
  obtain ⟨σ2, e1, hf⟩ := xbd hf
  refine pf_X3_30 (pc := 2) C e1 dX3_lay_2 ?_
  refine ww_aload_n (pc := 5) C 0 dX3_lay_5 rfl ?_
  refine ww_iload_n (pc := 6) C 2 dX3_lay_6 rfl ?_
  obtain ⟨σ4, e3, hf⟩ := xbd hf
  refine pf_X3_34 (pc := 7) C e3 dX3_lay_7 ?_
  refine ww_aload_n (pc := 10) C 0 dX3_lay_10 rfl ?_
  refine ww_iload_n (pc := 11) C 3 dX3_lay_11 rfl ?_
  obtain ⟨σ6, e5, hf⟩ := xbd hf
  refine pf_X3_37 (pc := 12) C e5 dX3_lay_12 ?_
  refine ww_aload_n (pc := 15) C 0 dX3_lay_15 rfl ?_
  refine ww_aload_n (pc := 16) C 0 dX3_lay_16 rfl ?_
  obtain ⟨v8, e7, hf⟩ := xbd hf
  refine gf_X3_30 (pc := 17) C e7 dX3_lay_17 ?_
  refine ww_aload_n (pc := 20) C 0 dX3_lay_20 rfl ?_
  obtain ⟨v10, e9, hf⟩ := xbd hf
  refine gf_X3_34 (pc := 21) C e9 dX3_lay_21 ?_
  refine ww_imul (pc := 24) C dX3_lay_24 ?_
  obtain ⟨σ12, e11, hf⟩ := xbd hf
  refine pf_X3_40 (pc := 25) C e11 dX3_lay_25 ?_
  refine ww_aload_n (pc := 28) C 0 dX3_lay_28 rfl ?_
  obtain ⟨z14, e13, hf⟩ := xbd hf
  refine gf_X3_21 (pc := 29) C e13 dX3_lay_29 ?_
  refine ww_iconst (pc := 32) (v := (0 : Int32)) C dX3_lay_32 (by decide) ?_
  obtain ⟨σ16, e15, hf⟩ := xbd hf
  refine ww_callSv (pc := 33) (as := [.ref (gB G + z14), .int (0 : Int32)]) (st := []) C (k_J7_fill_53178 (l := gl G) (E := gE G) (hb := gB G) (σ := σ12) e15) xc_X3_24 q174 rfl (by decide) (xst4 (Nat.le_of_ble_eq_true rfl)) (m_J7_fill_53178 e15).le (m_J7_fill_53178 e15).lim dX3_lay_33 ?_
  refine ww_iconst (pc := 36) (v := (0 : Int32)) C dX3_lay_36 (by decide) ?_
  refine ww_istore (pc := 37) (lv' := [(4, .int (0 : Int32)), (0, .ref (gB G + r0)), (1, .int x1), (2, .int x2), (3, .int x3)]) C dX3_lay_37 (by decide) rfl ?_
  refine ww_sub [1, 0] rfl ?_
  exact s_X3_lay_l39 C (a := ((0 : Int32), σ16)) hf hk
theorem m_X3_lay {σ : XS} {r0 : Nat} {x1 : Int32} {x2 : Int32} {x3 : Int32} {x : XS} (hf : f_X3_lay σ r0 x1 x2 x3 = some x) : xsame σ x := by
  have hm := xsame.rf (σ := σ)
  obtain ⟨σ2, e1, hf⟩ := xbd hf
  have hm := hm.tr (xpI_same e1)
  obtain ⟨σ4, e3, hf⟩ := xbd hf
  have hm := hm.tr (xpI_same e3)
  obtain ⟨σ6, e5, hf⟩ := xbd hf
  have hm := hm.tr (xpI_same e5)
  obtain ⟨v8, e7, hf⟩ := xbd hf
  obtain ⟨v10, e9, hf⟩ := xbd hf
  obtain ⟨σ12, e11, hf⟩ := xbd hf
  have hm := hm.tr (xpI_same e11)
  obtain ⟨z14, e13, hf⟩ := xbd hf
  obtain ⟨σ16, e15, hf⟩ := xbd hf
  have hm := hm.tr (m_J7_fill_53178 e15)
  exact hm.tr (m_X3_lay_l39 (a := ((0 : Int32), σ16)) hf)
theorem k_X3_lay {l : Launch} {E : XD} {hb : Nat} {σ : XS} {r0 : Nat} {x1 : Int32} {x2 : Int32} {x3 : Int32} {x : XS} (h : f_X3_lay σ r0 x1 x2 x3 = some x) : XM l yX3_lay cX3_lay 5 none 2 47 E hb [.ref (hb + r0), .int x1, .int x2, .int x3] σ none x := by
  refine xm_of (by decide) (Nat.le_of_ble_eq_true rfl) (m_X3_lay h).le (fun G hG C hl hQ => ?_)
  obtain ⟨rfl, rfl, rfl, hN⟩ := hG
  exact s_X3_lay_e C h hQ
noncomputable def f_X6_copyFrom (σ : XS) (r0 : Nat) (r1 : Nat) : Option XS := (xgR σ r1 6 0).bind fun z2 => (xgR σ r0 6 0).bind fun z4 => (xcp σ z2 (0 : Int32) z4 (0 : Int32) (32 : Int32)).bind fun σ6 => (xgR σ6 r1 6 1).bind fun z8 => (xgR σ6 r0 6 1).bind fun z10 => (xcp σ6 z8 (0 : Int32) z10 (0 : Int32) (16 : Int32)).bind fun σ12 => (xgI σ12 r1 6 2).bind fun v14 => (xpI σ12 r0 6 2 v14).bind fun σ16 => (xgI σ16 r1 6 3).bind fun v18 => (xpI σ16 r0 6 3 v18).bind fun σ20 => (xgI σ20 r1 6 4).bind fun v22 => (xpI σ20 r0 6 4 v22).bind fun σ24 => (xgI σ24 r1 6 5).bind fun v26 => (xpI σ24 r0 6 5 v26).bind fun σ28 => (xgI σ28 r1 6 6).bind fun v30 => (xpI σ28 r0 6 6 v30).bind fun σ32 => (xgI σ32 r1 6 7).bind fun v34 => (xpI σ32 r0 6 7 v34).bind fun σ36 => some σ36
theorem s_X6_copyFrom_e {G : XG} (C : XC G cX6_copyFrom RX6 none 2 1 40) {σ : XS} {r0 : Nat} {r1 : Nat} {x : XS} (hf : f_X6_copyFrom σ r0 r1 = some x) (hk : XEnd G none x) : WW G 0 [(0, .ref (gB G + r0)), (1, .ref (gB G + r1))] [] σ := by
  refine ww_aload_n (pc := 0) C 1 dX6_copyFrom_0 rfl ?_
  obtain ⟨z2, e1, hf⟩ := xbd hf
  refine gf_X6_9 (pc := 1) C e1 dX6_copyFrom_1 ?_
  refine ww_iconst (pc := 4) (v := (0 : Int32)) C dX6_copyFrom_4 (by decide) ?_
  refine ww_aload_n (pc := 5) C 0 dX6_copyFrom_5 rfl ?_
  obtain ⟨z4, e3, hf⟩ := xbd hf
  refine gf_X6_9 (pc := 6) C e3 dX6_copyFrom_6 ?_
  refine ww_iconst (pc := 9) (v := (0 : Int32)) C dX6_copyFrom_9 (by decide) ?_
  refine ww_bipush (pc := 10) (v := (32 : Int32)) C dX6_copyFrom_10 (by decide) ?_
  obtain ⟨σ6, e5, hf⟩ := xbd hf
  refine ww_copy (pc := 12) C qa_X6_37 qan qas qai ⟨by decide, by decide⟩ e5 dX6_copyFrom_12 ?_
  refine ww_aload_n (pc := 15) C 1 dX6_copyFrom_15 rfl ?_
  obtain ⟨z8, e7, hf⟩ := xbd hf
  refine gf_X6_15 (pc := 16) C e7 dX6_copyFrom_16 ?_
  refine ww_iconst (pc := 19) (v := (0 : Int32)) C dX6_copyFrom_19 (by decide) ?_
  refine ww_aload_n (pc := 20) C 0 dX6_copyFrom_20 rfl ?_
  obtain ⟨z10, e9, hf⟩ := xbd hf
  refine gf_X6_15 (pc := 21) C e9 dX6_copyFrom_21 ?_
  refine ww_iconst (pc := 24) (v := (0 : Int32)) C dX6_copyFrom_24 (by decide) ?_
  refine ww_bipush (pc := 25) (v := (16 : Int32)) C dX6_copyFrom_25 (by decide) ?_
  obtain ⟨σ12, e11, hf⟩ := xbd hf
  refine ww_copy (pc := 27) C qa_X6_37 qan qas qai ⟨by decide, by decide⟩ e11 dX6_copyFrom_27 ?_
  refine ww_aload_n (pc := 30) C 0 dX6_copyFrom_30 rfl ?_
  refine ww_aload_n (pc := 31) C 1 dX6_copyFrom_31 rfl ?_
  obtain ⟨v14, e13, hf⟩ := xbd hf
  refine gf_X6_24 (pc := 32) C e13 dX6_copyFrom_32 ?_
  obtain ⟨σ16, e15, hf⟩ := xbd hf
  refine pf_X6_24 (pc := 35) C e15 dX6_copyFrom_35 ?_
  refine ww_aload_n (pc := 38) C 0 dX6_copyFrom_38 rfl ?_
  refine ww_aload_n (pc := 39) C 1 dX6_copyFrom_39 rfl ?_
  obtain ⟨v18, e17, hf⟩ := xbd hf
  refine gf_X6_28 (pc := 40) C e17 dX6_copyFrom_40 ?_
  obtain ⟨σ20, e19, hf⟩ := xbd hf
  refine pf_X6_28 (pc := 43) C e19 dX6_copyFrom_43 ?_
  refine ww_aload_n (pc := 46) C 0 dX6_copyFrom_46 rfl ?_
  refine ww_aload_n (pc := 47) C 1 dX6_copyFrom_47 rfl ?_
  obtain ⟨v22, e21, hf⟩ := xbd hf
  refine gf_X6_31 (pc := 48) C e21 dX6_copyFrom_48 ?_
  obtain ⟨σ24, e23, hf⟩ := xbd hf
  refine pf_X6_31 (pc := 51) C e23 dX6_copyFrom_51 ?_
  refine ww_aload_n (pc := 54) C 0 dX6_copyFrom_54 rfl ?_
  refine ww_aload_n (pc := 55) C 1 dX6_copyFrom_55 rfl ?_
  obtain ⟨v26, e25, hf⟩ := xbd hf
  refine gf_X6_34 (pc := 56) C e25 dX6_copyFrom_56 ?_
  obtain ⟨σ28, e27, hf⟩ := xbd hf
  refine pf_X6_34 (pc := 59) C e27 dX6_copyFrom_59 ?_
  refine ww_aload_n (pc := 62) C 0 dX6_copyFrom_62 rfl ?_
  refine ww_aload_n (pc := 63) C 1 dX6_copyFrom_63 rfl ?_
  obtain ⟨v30, e29, hf⟩ := xbd hf
  refine gf_X6_43 (pc := 64) C e29 dX6_copyFrom_64 ?_
  obtain ⟨σ32, e31, hf⟩ := xbd hf
  refine pf_X6_43 (pc := 67) C e31 dX6_copyFrom_67 ?_
  refine ww_aload_n (pc := 70) C 0 dX6_copyFrom_70 rfl ?_
  refine ww_aload_n (pc := 71) C 1 dX6_copyFrom_71 rfl ?_
  obtain ⟨v34, e33, hf⟩ := xbd hf
  refine gf_X6_46 (pc := 72) C e33 dX6_copyFrom_72 ?_
  obtain ⟨σ36, e35, hf⟩ := xbd hf
  refine pf_X6_46 (pc := 75) C e35 dX6_copyFrom_75 ?_
  have hf := xsj hf
  subst hf
  exact ww_vret (pc := 78) C hk dX6_copyFrom_78
theorem m_X6_copyFrom {σ : XS} {r0 : Nat} {r1 : Nat} {x : XS} (hf : f_X6_copyFrom σ r0 r1 = some x) : xsame σ x := by
  have hm := xsame.rf (σ := σ)
  obtain ⟨z2, e1, hf⟩ := xbd hf
  obtain ⟨z4, e3, hf⟩ := xbd hf
  obtain ⟨σ6, e5, hf⟩ := xbd hf
  have hm := hm.tr (xcp_same e5)
  obtain ⟨z8, e7, hf⟩ := xbd hf
  obtain ⟨z10, e9, hf⟩ := xbd hf
  obtain ⟨σ12, e11, hf⟩ := xbd hf
  have hm := hm.tr (xcp_same e11)
  obtain ⟨v14, e13, hf⟩ := xbd hf
  obtain ⟨σ16, e15, hf⟩ := xbd hf
  have hm := hm.tr (xpI_same e15)
  obtain ⟨v18, e17, hf⟩ := xbd hf
  obtain ⟨σ20, e19, hf⟩ := xbd hf
  have hm := hm.tr (xpI_same e19)
  obtain ⟨v22, e21, hf⟩ := xbd hf
  obtain ⟨σ24, e23, hf⟩ := xbd hf
  have hm := hm.tr (xpI_same e23)
  obtain ⟨v26, e25, hf⟩ := xbd hf
  obtain ⟨σ28, e27, hf⟩ := xbd hf
  have hm := hm.tr (xpI_same e27)
  obtain ⟨v30, e29, hf⟩ := xbd hf
  obtain ⟨σ32, e31, hf⟩ := xbd hf
  have hm := hm.tr (xpI_same e31)
  obtain ⟨v34, e33, hf⟩ := xbd hf
  obtain ⟨σ36, e35, hf⟩ := xbd hf
  have hm := hm.tr (xpI_same e35)
  have hf := xsj hf
  subst hf
  exact hm
theorem k_X6_copyFrom {l : Launch} {E : XD} {hb : Nat} {σ : XS} {r0 : Nat} {r1 : Nat} {x : XS} (h : f_X6_copyFrom σ r0 r1 = some x) : XM l yX6_copyFrom cX6_copyFrom 2 none 1 40 E hb [.ref (hb + r0), .ref (hb + r1)] σ none x := by
  refine xm_of (by decide) (Nat.le_of_ble_eq_true rfl) (m_X6_copyFrom h).le (fun G hG C hl hQ => ?_)
  obtain ⟨rfl, rfl, rfl, hN⟩ := hG
  exact s_X6_copyFrom_e C h hQ
noncomputable def f_X5_forget (σ : XS) (r0 : Nat) : Option XS := (xpI σ r0 5 1 (0 : Int32)).bind fun σ2 => (xpI σ2 r0 5 2 (0 : Int32)).bind fun σ4 => some σ4
theorem s_X5_forget_e {G : XG} (C : XC G cX5_forget RX5 none 1 0 0) {σ : XS} {r0 : Nat} {x : XS} (hf : f_X5_forget σ r0 = some x) (hk : XEnd G none x) : WW G 0 [(0, .ref (gB G + r0))] [] σ := by
  refine ww_aload_n (pc := 0) C 0 dX5_forget_0 rfl ?_
  refine ww_iconst (pc := 1) (v := (0 : Int32)) C dX5_forget_1 (by decide) ?_
  obtain ⟨σ2, e1, hf⟩ := xbd hf
  refine pf_X5_18 (pc := 2) C e1 dX5_forget_2 ?_
  refine ww_aload_n (pc := 5) C 0 dX5_forget_5 rfl ?_
  refine ww_iconst (pc := 6) (v := (0 : Int32)) C dX5_forget_6 (by decide) ?_
  obtain ⟨σ4, e3, hf⟩ := xbd hf
  refine pf_X5_22 (pc := 7) C e3 dX5_forget_7 ?_
  have hf := xsj hf
  subst hf
  exact ww_vret (pc := 10) C hk dX5_forget_10
theorem m_X5_forget {σ : XS} {r0 : Nat} {x : XS} (hf : f_X5_forget σ r0 = some x) : xsame σ x := by
  have hm := xsame.rf (σ := σ)
  obtain ⟨σ2, e1, hf⟩ := xbd hf
  have hm := hm.tr (xpI_same e1)
  obtain ⟨σ4, e3, hf⟩ := xbd hf
  have hm := hm.tr (xpI_same e3)
  have hf := xsj hf
  subst hf
  exact hm
theorem k_X5_forget {l : Launch} {E : XD} {hb : Nat} {σ : XS} {r0 : Nat} {x : XS} (h : f_X5_forget σ r0 = some x) : XM l yX5_forget cX5_forget 1 none 0 0 E hb [.ref (hb + r0)] σ none x := by
  refine xm_of (by decide) (Nat.le_of_ble_eq_true rfl) (m_X5_forget h).le (fun G hG C hl hQ => ?_)
  obtain ⟨rfl, rfl, rfl, hN⟩ := hG
  exact s_X5_forget_e C h hQ
noncomputable def f_X11_stampTies (σ : XS) (r0 : Nat) : Option XS := (xgI σ r0 11 15).bind fun v2 => (xpI σ r0 11 15 (v2 + (1 : Int32))).bind fun σ4 => (xgR σ4 r0 11 3).bind fun z6 => (xgI σ4 r0 11 15).bind fun v8 => (xpI σ4 z6 6 6 v8).bind fun σ10 => (xgR σ10 r0 11 3).bind fun z12 => (xgI σ10 r0 11 15).bind fun v14 => (xpI σ10 z12 6 7 v14).bind fun σ16 => some σ16
theorem s_X11_stampTies_e {G : XG} (C : XC G cX11_stampTies RX11 none 1 0 0) {σ : XS} {r0 : Nat} {x : XS} (hf : f_X11_stampTies σ r0 = some x) (hk : XEnd G none x) : WW G 0 [(0, .ref (gB G + r0))] [] σ := by
  refine ww_aload_n (pc := 0) C 0 dX11_stampTies_0 rfl ?_
  refine ww_dup (pc := 1) C dX11_stampTies_1 rfl ?_
  obtain ⟨v2, e1, hf⟩ := xbd hf
  refine gf_X11_99 (pc := 2) C e1 dX11_stampTies_2 ?_
  refine ww_iconst (pc := 5) (v := (1 : Int32)) C dX11_stampTies_5 (by decide) ?_
  refine ww_iadd (pc := 6) C dX11_stampTies_6 ?_
  obtain ⟨σ4, e3, hf⟩ := xbd hf
  refine pf_X11_99 (pc := 7) C e3 dX11_stampTies_7 ?_
  refine ww_aload_n (pc := 10) C 0 dX11_stampTies_10 rfl ?_
  obtain ⟨z6, e5, hf⟩ := xbd hf
  refine gf_X11_31 (pc := 11) C e5 dX11_stampTies_11 ?_
  refine ww_aload_n (pc := 14) C 0 dX11_stampTies_14 rfl ?_
  obtain ⟨v8, e7, hf⟩ := xbd hf
  refine gf_X11_99 (pc := 15) C e7 dX11_stampTies_15 ?_
  obtain ⟨σ10, e9, hf⟩ := xbd hf
  refine pf_X11_460 (pc := 18) C e9 dX11_stampTies_18 ?_
  refine ww_aload_n (pc := 21) C 0 dX11_stampTies_21 rfl ?_
  obtain ⟨z12, e11, hf⟩ := xbd hf
  refine gf_X11_31 (pc := 22) C e11 dX11_stampTies_22 ?_
  refine ww_aload_n (pc := 25) C 0 dX11_stampTies_25 rfl ?_
  obtain ⟨v14, e13, hf⟩ := xbd hf
  refine gf_X11_99 (pc := 26) C e13 dX11_stampTies_26 ?_
  obtain ⟨σ16, e15, hf⟩ := xbd hf
  refine pf_X11_463 (pc := 29) C e15 dX11_stampTies_29 ?_
  have hf := xsj hf
  subst hf
  exact ww_vret (pc := 32) C hk dX11_stampTies_32
theorem m_X11_stampTies {σ : XS} {r0 : Nat} {x : XS} (hf : f_X11_stampTies σ r0 = some x) : xsame σ x := by
  have hm := xsame.rf (σ := σ)
  obtain ⟨v2, e1, hf⟩ := xbd hf
  obtain ⟨σ4, e3, hf⟩ := xbd hf
  have hm := hm.tr (xpI_same e3)
  obtain ⟨z6, e5, hf⟩ := xbd hf
  obtain ⟨v8, e7, hf⟩ := xbd hf
  obtain ⟨σ10, e9, hf⟩ := xbd hf
  have hm := hm.tr (xpI_same e9)
  obtain ⟨z12, e11, hf⟩ := xbd hf
  obtain ⟨v14, e13, hf⟩ := xbd hf
  obtain ⟨σ16, e15, hf⟩ := xbd hf
  have hm := hm.tr (xpI_same e15)
  have hf := xsj hf
  subst hf
  exact hm
theorem k_X11_stampTies {l : Launch} {E : XD} {hb : Nat} {σ : XS} {r0 : Nat} {x : XS} (h : f_X11_stampTies σ r0 = some x) : XM l yX11_stampTies cX11_stampTies 1 none 0 0 E hb [.ref (hb + r0)] σ none x := by
  refine xm_of (by decide) (Nat.le_of_ble_eq_true rfl) (m_X11_stampTies h).le (fun G hG C hl hQ => ?_)
  obtain ⟨rfl, rfl, rfl, hN⟩ := hG
  exact s_X11_stampTies_e C h hQ
noncomputable def f_X11_beginAnew_b65 (r0 : Nat) : Int32 × XS → Option ((Int32 × XS) ⊕ (XS)) := fun a => match a with
  | (x1, σ) => (xgR σ r0 11 5).bind fun z2 => (xal σ z2).bind fun v4 => if v4 ≤ x1 then (((xck σ r0 11).bind fun _ => (f_X11_stampTies σ r0).bind fun σ7 => some σ7).map .inr) else (xgR σ r0 11 5).bind fun z6 => (xaR σ 25 z6 x1).bind fun z8 => (xpI σ z8 7 2 (0 : Int32)).bind fun σ10 => some (.inl (x1 + (1 : Int32), σ10))
noncomputable def f_X11_beginAnew (σ : XS) (r0 : Nat) : Option XS := (xgR σ r0 11 2).bind fun z2 => (xgR σ r0 11 1).bind fun z4 => (xgI σ z4 1 5).bind fun v6 => (xgR σ r0 11 1).bind fun z8 => (xgI σ z8 1 6).bind fun v10 => (xgR σ r0 11 1).bind fun z12 => (xgI σ z12 1 7).bind fun v14 => (xck σ z2 3).bind fun _ => (f_X3_lay σ z2 v6 v10 v14).bind fun σ17 => (xgR σ17 r0 11 3).bind fun z19 => (xgR σ17 r0 11 1).bind fun z21 => (xgR σ17 z21 1 1).bind fun z23 => (xck σ17 z19 6).bind fun _ => (f_X6_copyFrom σ17 z19 z23).bind fun σ26 => (xgR σ26 r0 11 3).bind fun z28 => (xgR σ26 r0 11 3).bind fun z30 => (xgI σ26 z30 6 3).bind fun v32 => (xpI σ26 z28 6 4 v32).bind fun σ34 => (xgR σ34 r0 11 4).bind fun z36 => (xck σ34 z36 5).bind fun _ => (f_X5_forget σ34 z36).bind fun σ39 => xloop (f_X11_beginAnew_b65 r0) ((0 : Int32), σ39)
theorem m_X11_beginAnew_l65 {r0 : Nat} {a : Int32 × XS} {x : XS} (hf : xloop (f_X11_beginAnew_b65 r0) a = some x) : xsame a.2 x := by
  refine xloop_ind (P := fun a => xsame a.2 x) (fun a y hf hc he => ?_) hf
  obtain ⟨x1, σ⟩ := a
  have hy : (∀ a' : Int32 × XS, y = .inl a' → xsame σ a'.2) ∧ (∀ b1 : XS, y = .inr b1 → xsame σ b1) := by
    have hm := xsame.rf (σ := σ)
    obtain ⟨z2, e1, hf⟩ := xbd hf
    obtain ⟨v4, e3, hf⟩ := xbd hf
    by_cases q : v4 ≤ x1
    · have hf := xip q hf
      obtain ⟨b0, hg, e9⟩ := xmj hf
      subst e9
      have hf := hg
      refine ⟨fun a' e => xnc2 e, fun b e => ?_⟩
      have h9 := Sum.inr.inj e
      subst h9
      obtain ⟨_, e5, hf⟩ := xbd hf
      obtain ⟨σ7, e6, hf⟩ := xbd hf
      have hm := hm.tr (m_X11_stampTies e6)
      have hf := xsj hf
      subst hf
      exact hm
    · have hf := xin q hf
      obtain ⟨z6, e5, hf⟩ := xbd hf
      obtain ⟨z8, e7, hf⟩ := xbd hf
      obtain ⟨σ10, e9, hf⟩ := xbd hf
      have hm := hm.tr (xpI_same e9)
      have hf := xsj hf
      subst hf
      exact ⟨fun a' e => (by have h9 := Sum.inl.inj e; subst h9; exact hm), fun b e => xnc1 e⟩
  cases y with
  | inl a' =>
    have h1 := hc a' rfl
    have hm := hy.1 a' rfl
    exact hm.tr (h1)
  | inr b =>
    have h1 := he b rfl
    subst h1
    exact hy.2 _ rfl
theorem s_X11_beginAnew_l65 {G : XG} (C : XC G cX11_beginAnew RX11 none 2 3 71) {r0 : Nat} {a : Int32 × XS} {x : XS} (hf : xloop (f_X11_beginAnew_b65 r0) a = some x) (hk : XEnd G none x) : WW G 65 [(0, .ref (gB G + r0)), (1, .int a.1)] [] a.2 := by
  refine xloop_ind (P := fun a => WW G 65 [(0, .ref (gB G + r0)), (1, .int a.1)] [] a.2) (fun a y hf hc he => ?_) hf
  obtain ⟨x1, σ⟩ := a
  have hk : (∀ a' : Int32 × XS, y = .inl a' → WW G 65 [(0, .ref (gB G + r0)), (1, .int a'.1)] [] a'.2) ∧ (∀ b1 : XS, y = .inr b1 → XEnd G none b1) := ⟨hc, fun b e => by have h9 := he b e; subst h9; exact hk⟩
  refine ww_iload_n (pc := 65) C 1 dX11_beginAnew_65 rfl ?_
  refine ww_aload_n (pc := 66) C 0 dX11_beginAnew_66 rfl ?_
  obtain ⟨z2, e1, hf⟩ := xbd hf
  refine gf_X11_44 (pc := 67) C e1 dX11_beginAnew_67 ?_
  obtain ⟨v4, e3, hf⟩ := xbd hf
  refine ww_alen (pc := 70) C e3 dX11_beginAnew_70 ?_
  refine ww_icmp_ge (pc := 71) (tgt := 90) C dX11_beginAnew_71 (by decide) (fun q => ?_) (fun q => ?_)
  · have hf := xip q hf
    obtain ⟨b0, hg, e9⟩ := xmj hf
    subst e9
    have hf := hg
    have hk := hk.2 _ rfl
    refine ww_aload_n (pc := 90) C 0 dX11_beginAnew_90 rfl ?_
    obtain ⟨_, e5, hf⟩ := xbd hf
    obtain ⟨σ7, e6, hf⟩ := xbd hf
    refine ww_callVv (pc := 91) (as := []) (st := []) C (k_X11_stampTies (l := gl G) (E := gE G) (hb := gB G) (σ := σ) e6) rfl (by decide) xc_X11_154 q683 qp35 (xck_spec e5) rfl (by decide) (xst4 (Nat.le_of_ble_eq_true rfl)) (m_X11_stampTies e6).le (m_X11_stampTies e6).lim dX11_beginAnew_91 ?_
    have hf := xsj hf
    subst hf
    exact ww_vret (pc := 94) C hk dX11_beginAnew_94
  · have hf := xin q hf
    refine ww_aload_n (pc := 74) C 0 dX11_beginAnew_74 rfl ?_
    obtain ⟨z6, e5, hf⟩ := xbd hf
    refine gf_X11_44 (pc := 75) C e5 dX11_beginAnew_75 ?_
    refine ww_iload_n (pc := 78) C 1 dX11_beginAnew_78 rfl ?_
    obtain ⟨z8, e7, hf⟩ := xbd hf
    refine ww_aald (pc := 79) (by decide) C e7 dX11_beginAnew_79 ?_
    refine ww_iconst (pc := 80) (v := (0 : Int32)) C dX11_beginAnew_80 (by decide) ?_
    obtain ⟨σ10, e9, hf⟩ := xbd hf
    refine pf_X11_150 (pc := 81) C (Or.inl rfl) e9 dX11_beginAnew_81 ?_
    refine ww_iinc (pc := 84) (v := x1 + (1 : Int32)) (lv' := [(1, .int (x1 + (1 : Int32))), (0, .ref (gB G + r0))]) C 1 dX11_beginAnew_84 rfl (congrArg (fun z => x1 + z) (show Int32.ofInt (1) = (1 : Int32) by decide)) (by decide) rfl ?_
    refine ww_goto (pc := 87) (tgt := 65) C dX11_beginAnew_87 (by decide) ?_
    have hf := xsj hf
    subst hf
    refine ww_sub [1, 0] rfl ?_
    exact hk.1 (x1 + (1 : Int32), σ10) rfl
theorem s_X11_beginAnew_e {G : XG} (C : XC G cX11_beginAnew RX11 none 2 3 71) {σ : XS} {r0 : Nat} {x : XS} (hf : f_X11_beginAnew σ r0 = some x) (hk : XEnd G none x) : WW G 0 [(0, .ref (gB G + r0))] [] σ := by
  refine ww_aload_n (pc := 0) C 0 dX11_beginAnew_0 rfl ?_
  obtain ⟨z2, e1, hf⟩ := xbd hf
  refine gf_X11_24 (pc := 1) C e1 dX11_beginAnew_1 ?_
  refine ww_aload_n (pc := 4) C 0 dX11_beginAnew_4 rfl ?_
  obtain ⟨z4, e3, hf⟩ := xbd hf
  refine gf_X11_12 (pc := 5) C e3 dX11_beginAnew_5 ?_
  obtain ⟨v6, e5, hf⟩ := xbd hf
  refine gf_X11_121 (pc := 8) C e5 dX11_beginAnew_8 ?_
  refine ww_aload_n (pc := 11) C 0 dX11_beginAnew_11 rfl ?_
  obtain ⟨z8, e7, hf⟩ := xbd hf
  refine gf_X11_12 (pc := 12) C e7 dX11_beginAnew_12 ?_
  obtain ⟨v10, e9, hf⟩ := xbd hf
  refine gf_X11_124 (pc := 15) C e9 dX11_beginAnew_15 ?_
  refine ww_aload_n (pc := 18) C 0 dX11_beginAnew_18 rfl ?_
  obtain ⟨z12, e11, hf⟩ := xbd hf
  refine gf_X11_12 (pc := 19) C e11 dX11_beginAnew_19 ?_
  obtain ⟨v14, e13, hf⟩ := xbd hf
  refine gf_X11_127 (pc := 22) C e13 dX11_beginAnew_22 ?_
  obtain ⟨_, e15, hf⟩ := xbd hf
  obtain ⟨σ17, e16, hf⟩ := xbd hf
  refine ww_callVv (pc := 25) (as := [.int v6, .int v10, .int v14]) (st := []) C (k_X3_lay (l := gl G) (E := gE G) (hb := gB G) (σ := σ) e16) rfl (by decide) xc_X11_130 q663 qp31 (xck_spec e15) rfl (by decide) (xst4 (Nat.le_of_ble_eq_true rfl)) (m_X3_lay e16).le (m_X3_lay e16).lim dX11_beginAnew_25 ?_
  refine ww_aload_n (pc := 28) C 0 dX11_beginAnew_28 rfl ?_
  obtain ⟨z19, e18, hf⟩ := xbd hf
  refine gf_X11_31 (pc := 29) C e18 dX11_beginAnew_29 ?_
  refine ww_aload_n (pc := 32) C 0 dX11_beginAnew_32 rfl ?_
  obtain ⟨z21, e20, hf⟩ := xbd hf
  refine gf_X11_12 (pc := 33) C e20 dX11_beginAnew_33 ?_
  obtain ⟨z23, e22, hf⟩ := xbd hf
  refine gf_X11_134 (pc := 36) C e22 dX11_beginAnew_36 ?_
  obtain ⟨_, e24, hf⟩ := xbd hf
  obtain ⟨σ26, e25, hf⟩ := xbd hf
  refine ww_callVv (pc := 39) (as := [.ref (gB G + z23)]) (st := []) C (k_X6_copyFrom (l := gl G) (E := gE G) (hb := gB G) (σ := σ17) e25) rfl (by decide) xc_X11_137 q672 qp33 (xck_spec e24) rfl (by decide) (xst4 (Nat.le_of_ble_eq_true rfl)) (m_X6_copyFrom e25).le (m_X6_copyFrom e25).lim dX11_beginAnew_39 ?_
  refine ww_aload_n (pc := 42) C 0 dX11_beginAnew_42 rfl ?_
  obtain ⟨z28, e27, hf⟩ := xbd hf
  refine gf_X11_31 (pc := 43) C e27 dX11_beginAnew_43 ?_
  refine ww_aload_n (pc := 46) C 0 dX11_beginAnew_46 rfl ?_
  obtain ⟨z30, e29, hf⟩ := xbd hf
  refine gf_X11_31 (pc := 47) C e29 dX11_beginAnew_47 ?_
  obtain ⟨v32, e31, hf⟩ := xbd hf
  refine gf_X11_141 (pc := 50) C e31 dX11_beginAnew_50 ?_
  obtain ⟨σ34, e33, hf⟩ := xbd hf
  refine pf_X11_144 (pc := 53) C e33 dX11_beginAnew_53 ?_
  refine ww_aload_n (pc := 56) C 0 dX11_beginAnew_56 rfl ?_
  obtain ⟨z36, e35, hf⟩ := xbd hf
  refine gf_X11_38 (pc := 57) C e35 dX11_beginAnew_57 ?_
  obtain ⟨_, e37, hf⟩ := xbd hf
  obtain ⟨σ39, e38, hf⟩ := xbd hf
  refine ww_callVv (pc := 60) (as := []) (st := []) C (k_X5_forget (l := gl G) (E := gE G) (hb := gB G) (σ := σ34) e38) rfl (by decide) xc_X11_147 q679 qp34 (xck_spec e37) rfl (by decide) (xst4 (Nat.le_of_ble_eq_true rfl)) (m_X5_forget e38).le (m_X5_forget e38).lim dX11_beginAnew_60 ?_
  refine ww_iconst (pc := 63) (v := (0 : Int32)) C dX11_beginAnew_63 (by decide) ?_
  refine ww_istore_n (pc := 64) (lv' := [(1, .int (0 : Int32)), (0, .ref (gB G + r0))]) C dX11_beginAnew_64 (by decide) rfl ?_
  refine ww_sub [1, 0] rfl ?_
  exact s_X11_beginAnew_l65 C (a := ((0 : Int32), σ39)) hf hk
theorem m_X11_beginAnew {σ : XS} {r0 : Nat} {x : XS} (hf : f_X11_beginAnew σ r0 = some x) : xsame σ x := by
  have hm := xsame.rf (σ := σ)
  obtain ⟨z2, e1, hf⟩ := xbd hf
  obtain ⟨z4, e3, hf⟩ := xbd hf
  obtain ⟨v6, e5, hf⟩ := xbd hf
  obtain ⟨z8, e7, hf⟩ := xbd hf
  obtain ⟨v10, e9, hf⟩ := xbd hf
  obtain ⟨z12, e11, hf⟩ := xbd hf
  obtain ⟨v14, e13, hf⟩ := xbd hf
  obtain ⟨_, e15, hf⟩ := xbd hf
  obtain ⟨σ17, e16, hf⟩ := xbd hf
  have hm := hm.tr (m_X3_lay e16)
  obtain ⟨z19, e18, hf⟩ := xbd hf
  obtain ⟨z21, e20, hf⟩ := xbd hf
  obtain ⟨z23, e22, hf⟩ := xbd hf
  obtain ⟨_, e24, hf⟩ := xbd hf
  obtain ⟨σ26, e25, hf⟩ := xbd hf
  have hm := hm.tr (m_X6_copyFrom e25)
  obtain ⟨z28, e27, hf⟩ := xbd hf
  obtain ⟨z30, e29, hf⟩ := xbd hf
  obtain ⟨v32, e31, hf⟩ := xbd hf
  obtain ⟨σ34, e33, hf⟩ := xbd hf
  have hm := hm.tr (xpI_same e33)
  obtain ⟨z36, e35, hf⟩ := xbd hf
  obtain ⟨_, e37, hf⟩ := xbd hf
  obtain ⟨σ39, e38, hf⟩ := xbd hf
  have hm := hm.tr (m_X5_forget e38)
  exact hm.tr (m_X11_beginAnew_l65 (a := ((0 : Int32), σ39)) hf)
theorem k_X11_beginAnew {l : Launch} {E : XD} {hb : Nat} {σ : XS} {r0 : Nat} {x : XS} (h : f_X11_beginAnew σ r0 = some x) : XM l yX11_beginAnew cX11_beginAnew 2 none 3 71 E hb [.ref (hb + r0)] σ none x := by
  refine xm_of (by decide) (Nat.le_of_ble_eq_true rfl) (m_X11_beginAnew h).le (fun G hG C hl hQ => ?_)
  obtain ⟨rfl, rfl, rfl, hN⟩ := hG
  exact s_X11_beginAnew_e C h hQ
noncomputable def f_X11_bondOrNoTie (σ : XS) (r0 : Nat) (x1 : Int32) : Option Int32 := if x1 = (-1 : Int32) then (some (100 : Int32)) else (xgR σ r0 11 3).bind fun z2 => (xck σ z2 6).bind fun _ => (f_X6_bondAt σ z2 x1).bind fun v5 => some v5
theorem s_X11_bondOrNoTie_e {G : XG} (C : XC G cX11_bondOrNoTie RX11 (some .int) 2 1 21) {σ : XS} {r0 : Nat} {x1 : Int32} {x : Int32} (hf : f_X11_bondOrNoTie σ r0 x1 = some x) (hk : XEnd G (some (.int x)) σ) : WW G 0 [(0, .ref (gB G + r0)), (1, .int x1)] [] σ := by
  refine ww_iload_n (pc := 0) C 1 dX11_bondOrNoTie_0 rfl ?_
  refine ww_iconst (pc := 1) (v := (-1 : Int32)) C dX11_bondOrNoTie_1 (by decide) ?_
  refine ww_icmp_ne (pc := 2) (tgt := 10) C dX11_bondOrNoTie_2 (by decide) (fun q => ?_) (fun q => ?_)
  · have hf := xin q hf
    refine ww_aload_n (pc := 10) C 0 dX11_bondOrNoTie_10 rfl ?_
    obtain ⟨z2, e1, hf⟩ := xbd hf
    refine gf_X11_31 (pc := 11) C e1 dX11_bondOrNoTie_11 ?_
    refine ww_iload_n (pc := 14) C 1 dX11_bondOrNoTie_14 rfl ?_
    obtain ⟨_, e3, hf⟩ := xbd hf
    obtain ⟨v5, e4, hf⟩ := xbd hf
    refine ww_callVi (pc := 15) (as := [.int x1]) (st := []) C (k_X6_bondAt (l := gl G) (E := gE G) (hb := gB G) (σ := σ) e4) rfl (by decide) xc_X11_165 q710 qp39 (xck_spec e3) rfl (by decide) (xst4 (Nat.le_of_ble_eq_true rfl)) xsame.rf.le xsame.rf.lim dX11_bondOrNoTie_15 ?_
    have hf := xsj hf
    subst hf
    exact ww_iret (pc := 18) C hk dX11_bondOrNoTie_18
  · have hf := xip q hf
    refine ww_bipush (pc := 5) (v := (100 : Int32)) C dX11_bondOrNoTie_5 (by decide) ?_
    refine ww_goto (pc := 7) (tgt := 18) C dX11_bondOrNoTie_7 (by decide) ?_
    have hf := xsj hf
    subst hf
    exact ww_iret (pc := 18) C hk dX11_bondOrNoTie_18
theorem k_X11_bondOrNoTie {l : Launch} {E : XD} {hb : Nat} {σ : XS} {r0 : Nat} {x1 : Int32} {x : Int32} (h : f_X11_bondOrNoTie σ r0 x1 = some x) : XM l yX11_bondOrNoTie cX11_bondOrNoTie 2 (some .int) 1 21 E hb [.ref (hb + r0), .int x1] σ (some (.int x)) σ := by
  refine xm_of (by decide) (Nat.le_of_ble_eq_true rfl) ⟨Nat.le_refl _, Nat.le_refl _⟩ (fun G hG C hl hQ => ?_)
  obtain ⟨rfl, rfl, rfl, hN⟩ := hG
  exact s_X11_bondOrNoTie_e C h hQ
noncomputable def f_X4_isEnergy (x0 : Int32) : Option Int32 := if x0 < (-144 : Int32) then (some (0 : Int32)) else if (144 : Int32) < x0 then (some (0 : Int32)) else some (1 : Int32)
theorem s_X4_isEnergy_e {G : XG} (C : XC G cX4_isEnergy RX4 (some .boolean) 1 0 0) {σ : XS} {x0 : Int32} {x : Int32} (hf : f_X4_isEnergy x0 = some x) (hk : XEnd G (some (.int x)) σ) : WW G 0 [(0, .int x0)] [] σ := by
  refine ww_iload_n (pc := 0) C 0 dX4_isEnergy_0 rfl ?_
  refine ww_sipush (pc := 1) (v := (-144 : Int32)) C dX4_isEnergy_1 (by decide) ?_
  refine ww_icmp_lt (pc := 4) (tgt := 18) C dX4_isEnergy_4 (by decide) (fun q => ?_) (fun q => ?_)
  · have hf := xip q hf
    refine ww_iconst (pc := 18) (v := (0 : Int32)) C dX4_isEnergy_18 (by decide) ?_
    have hf := xsj hf
    subst hf
    exact ww_zret (pc := 19) C rfl hk dX4_isEnergy_19
  · have hf := xin q hf
    refine ww_iload_n (pc := 7) C 0 dX4_isEnergy_7 rfl ?_
    refine ww_sipush (pc := 8) (v := (144 : Int32)) C dX4_isEnergy_8 (by decide) ?_
    refine ww_icmp_gt (pc := 11) (tgt := 18) C dX4_isEnergy_11 (by decide) (fun q => ?_) (fun q => ?_)
    · have hf := xip q hf
      refine ww_iconst (pc := 18) (v := (0 : Int32)) C dX4_isEnergy_18 (by decide) ?_
      have hf := xsj hf
      subst hf
      exact ww_zret (pc := 19) C rfl hk dX4_isEnergy_19
    · have hf := xin q hf
      refine ww_iconst (pc := 14) (v := (1 : Int32)) C dX4_isEnergy_14 (by decide) ?_
      refine ww_goto (pc := 15) (tgt := 19) C dX4_isEnergy_15 (by decide) ?_
      have hf := xsj hf
      subst hf
      exact ww_zret (pc := 19) C rfl hk dX4_isEnergy_19
theorem k_X4_isEnergy {l : Launch} {E : XD} {hb : Nat} {σ : XS} {x0 : Int32} {x : Int32} (h : f_X4_isEnergy x0 = some x) : XM l yX4_isEnergy cX4_isEnergy 1 (some .boolean) 0 0 E hb [.int x0] σ (some (.int x)) σ := by
  refine xm_of (by decide) (Nat.le_of_ble_eq_true rfl) ⟨Nat.le_refl _, Nat.le_refl _⟩ (fun G hG C hl hQ => ?_)
  obtain ⟨rfl, rfl, rfl, hN⟩ := hG
  exact s_X4_isEnergy_e C h hQ
noncomputable def f_X4_waysWithUps_j22 (σ : XS) (r0 : Nat) (x1 : Int32) (x2 : Int32) (t0 : Int32) : Option Int32 := if t0 = 0 then (some (0 : Int32)) else (xgR σ r0 4 2).bind fun z2 => (xaI σ 20 z2 (((x1 + (144 : Int32)) * (17 : Int32)) + x2)).bind fun v4 => some v4
noncomputable def f_X4_waysWithUps (σ : XS) (r0 : Nat) (x1 : Int32) (x2 : Int32) : Option Int32 := (f_X4_isEnergy x1).bind fun v2 => if v2 = 0 then (f_X4_waysWithUps_j22 σ r0 x1 x2 (0 : Int32)) else if x2 < 0 then (f_X4_waysWithUps_j22 σ r0 x1 x2 (0 : Int32)) else if (17 : Int32) ≤ x2 then (f_X4_waysWithUps_j22 σ r0 x1 x2 (0 : Int32)) else f_X4_waysWithUps_j22 σ r0 x1 x2 (1 : Int32)
theorem s_X4_waysWithUps_j22 {G : XG} (C : XC G cX4_waysWithUps RX4 (some .int) 4 1 20) {σ : XS} {r0 : Nat} {x1 : Int32} {x2 : Int32} {t0 : Int32} {x : Int32} (hf : f_X4_waysWithUps_j22 σ r0 x1 x2 t0 = some x) (hk : XEnd G (some (.int x)) σ) : WW G 22 [(0, .ref (gB G + r0)), (1, .int x1), (2, .int x2)] [.int t0] σ := by
  refine ww_istore_n (pc := 22) (lv' := [(3, .int t0), (0, .ref (gB G + r0)), (1, .int x1), (2, .int x2)]) C dX4_waysWithUps_22 (by decide) rfl ?_
  refine ww_iload_n (pc := 23) C 0 dX4_waysWithUps_23 rfl ?_
  refine ww_if_eq (pc := 24) (tgt := 45) C dX4_waysWithUps_24 (by decide) (fun q => ?_) (fun q => ?_)
  · have hf := xip q hf
    refine ww_iconst (pc := 45) (v := (0 : Int32)) C dX4_waysWithUps_45 (by decide) ?_
    have hf := xsj hf
    subst hf
    exact ww_iret (pc := 46) C hk dX4_waysWithUps_46
  · have hf := xin q hf
    refine ww_aload_n (pc := 27) C 1 dX4_waysWithUps_27 rfl ?_
    obtain ⟨z2, e1, hf⟩ := xbd hf
    refine gf_X4_18 (pc := 28) C e1 dX4_waysWithUps_28 ?_
    refine ww_iload_n (pc := 31) C 2 dX4_waysWithUps_31 rfl ?_
    refine ww_sipush (pc := 32) (v := (144 : Int32)) C dX4_waysWithUps_32 (by decide) ?_
    refine ww_iadd (pc := 35) C dX4_waysWithUps_35 ?_
    refine ww_bipush (pc := 36) (v := (17 : Int32)) C dX4_waysWithUps_36 (by decide) ?_
    refine ww_imul (pc := 38) C dX4_waysWithUps_38 ?_
    refine ww_iload_n (pc := 39) C 3 dX4_waysWithUps_39 rfl ?_
    refine ww_iadd (pc := 40) C dX4_waysWithUps_40 ?_
    obtain ⟨v4, e3, hf⟩ := xbd hf
    refine ww_iald (pc := 41) C e3 dX4_waysWithUps_41 ?_
    refine ww_goto (pc := 42) (tgt := 46) C dX4_waysWithUps_42 (by decide) ?_
    have hf := xsj hf
    subst hf
    exact ww_iret (pc := 46) C hk dX4_waysWithUps_46
theorem s_X4_waysWithUps_e {G : XG} (C : XC G cX4_waysWithUps RX4 (some .int) 4 1 20) {σ : XS} {r0 : Nat} {x1 : Int32} {x2 : Int32} {x : Int32} (hf : f_X4_waysWithUps σ r0 x1 x2 = some x) (hk : XEnd G (some (.int x)) σ) : WW G 0 [(0, .ref (gB G + r0)), (1, .int x1), (2, .int x2)] [] σ := by
  refine ww_iload_n (pc := 0) C 1 dX4_waysWithUps_0 rfl ?_
  obtain ⟨v2, e1, hf⟩ := xbd hf
  refine ww_callSi (pc := 1) (as := [.int x1]) (st := []) C (k_X4_isEnergy (l := gl G) (E := gE G) (hb := gB G) (σ := σ) e1) xc_X4_58 q909 rfl (by decide) (xst4 (Nat.le_of_ble_eq_true rfl)) xsame.rf.le xsame.rf.lim dX4_waysWithUps_1 ?_
  refine ww_if_eq (pc := 4) (tgt := 21) C dX4_waysWithUps_4 (by decide) (fun q => ?_) (fun q => ?_)
  · have hf := xip q hf
    refine ww_iconst (pc := 21) (v := (0 : Int32)) C dX4_waysWithUps_21 (by decide) ?_
    refine ww_sub [0, 1, 2] rfl ?_
    exact s_X4_waysWithUps_j22 C hf hk
  · have hf := xin q hf
    refine ww_iload_n (pc := 7) C 2 dX4_waysWithUps_7 rfl ?_
    refine ww_if_lt (pc := 8) (tgt := 21) C dX4_waysWithUps_8 (by decide) (fun q => ?_) (fun q => ?_)
    · have hf := xip q hf
      refine ww_iconst (pc := 21) (v := (0 : Int32)) C dX4_waysWithUps_21 (by decide) ?_
      refine ww_sub [0, 1, 2] rfl ?_
      exact s_X4_waysWithUps_j22 C hf hk
    · have hf := xin q hf
      refine ww_iload_n (pc := 11) C 2 dX4_waysWithUps_11 rfl ?_
      refine ww_bipush (pc := 12) (v := (17 : Int32)) C dX4_waysWithUps_12 (by decide) ?_
      refine ww_icmp_ge (pc := 14) (tgt := 21) C dX4_waysWithUps_14 (by decide) (fun q => ?_) (fun q => ?_)
      · have hf := xip q hf
        refine ww_iconst (pc := 21) (v := (0 : Int32)) C dX4_waysWithUps_21 (by decide) ?_
        refine ww_sub [0, 1, 2] rfl ?_
        exact s_X4_waysWithUps_j22 C hf hk
      · have hf := xin q hf
        refine ww_iconst (pc := 17) (v := (1 : Int32)) C dX4_waysWithUps_17 (by decide) ?_
        refine ww_goto (pc := 18) (tgt := 22) C dX4_waysWithUps_18 (by decide) ?_
        refine ww_sub [0, 1, 2] rfl ?_
        exact s_X4_waysWithUps_j22 C hf hk
theorem k_X4_waysWithUps {l : Launch} {E : XD} {hb : Nat} {σ : XS} {r0 : Nat} {x1 : Int32} {x2 : Int32} {x : Int32} (h : f_X4_waysWithUps σ r0 x1 x2 = some x) : XM l yX4_waysWithUps cX4_waysWithUps 4 (some .int) 1 20 E hb [.ref (hb + r0), .int x1, .int x2] σ (some (.int x)) σ := by
  refine xm_of (by decide) (Nat.le_of_ble_eq_true rfl) ⟨Nat.le_refl _, Nat.le_refl _⟩ (fun G hG C hl hQ => ?_)
  obtain ⟨rfl, rfl, rfl, hN⟩ := hG
  exact s_X4_waysWithUps_e C h hQ
noncomputable def f_X11_both_j4 (σ : XS) (x1 : Int32) (x2 : Int32) (t0 : Nat) : Option (Int32 × XS) := (xck σ t0 4).bind fun _ => (f_X4_waysWithUps σ t0 x1 x2).bind fun v3 => some (v3, σ)
noncomputable def f_X11_both (σ : XS) (r0 : Nat) (x1 : Int32) (x2 : Int32) : Option (Int32 × XS) := (xck σ r0 11).bind fun _ => (f_X11_levelsNow σ r0).bind fun (z4, σ3) => (xnz z4).bind fun _ => f_X11_both_j4 σ3 x1 x2 z4
theorem s_X11_both_j4 {G : XG} (C : XC G cX11_both RX11 (some .int) 3 5 115) {σ : XS} {x1 : Int32} {x2 : Int32} {t0 : Nat} {x : Int32 × XS} (hf : f_X11_both_j4 σ x1 x2 t0 = some x) (hk : XEnd G (some (.int x.1)) x.2 ∧ XUp G x.2) : WW G 4 [(1, .int x1), (2, .int x2)] [.ref (gB G + t0)] σ := by
  refine ww_iload_n (pc := 4) C 0 dX11_both_4 rfl ?_
  refine ww_iload_n (pc := 5) C 1 dX11_both_5 rfl ?_
  obtain ⟨_, e1, hf⟩ := xbd hf
  obtain ⟨v3, e2, hf⟩ := xbd hf
  refine ww_callVi (pc := 6) (as := [.int x1, .int x2]) (st := []) C (k_X4_waysWithUps (l := gl G) (E := gE G) (hb := gB G) (σ := σ) e2) rfl (by decide) xc_X11_276 q921 qp72 (xck_spec e1) rfl (by decide) (xst4 (Nat.le_of_ble_eq_true rfl)) xsame.rf.le xsame.rf.lim dX11_both_6 ?_
  have hf := xsj hf
  subst hf
  exact ww_iret (pc := 9) C hk.1 dX11_both_9
theorem m_X11_both_j4 {σ : XS} {x1 : Int32} {x2 : Int32} {t0 : Nat} {x : Int32 × XS} (hf : f_X11_both_j4 σ x1 x2 t0 = some x) : xext σ x.2 := by
  have hm := xext.rf (σ := σ)
  obtain ⟨_, e1, hf⟩ := xbd hf
  obtain ⟨v3, e2, hf⟩ := xbd hf
  have hf := xsj hf
  subst hf
  exact hm
theorem s_X11_both_e {G : XG} (C : XC G cX11_both RX11 (some .int) 3 5 115) {σ : XS} {r0 : Nat} {x1 : Int32} {x2 : Int32} {x : Int32 × XS} (hf : f_X11_both σ r0 x1 x2 = some x) (hk : XEnd G (some (.int x.1)) x.2 ∧ XUp G x.2) : WW G 0 [(0, .ref (gB G + r0)), (1, .int x1), (2, .int x2)] [] σ := by
  refine ww_aload_n (pc := 0) C 0 dX11_both_0 rfl ?_
  obtain ⟨_, e1, hf⟩ := xbd hf
  obtain ⟨⟨z4, σ3⟩, e2, hf⟩ := xbd hf
  dsimp only at hf
  obtain ⟨_, e5, hf⟩ := xbd hf
  refine ww_callVr (pc := 1) (as := []) (st := []) C (k_X11_levelsNow (l := gl G) (E := gE G) (hb := gB G) (σ := σ) e2) rfl (by decide) xc_X11_251 q846 qp56 (xck_spec e1) rfl (by decide) (xst4 (Nat.le_of_ble_eq_true rfl)) (m_X11_levelsNow e2).1 (fun q => by have hm9 := m_X11_both_j4 hf; exact XLim.mid q (m_X11_levelsNow e2) hm9 hk.2) dX11_both_1 ?_
  refine ww_nn (xnz_spec e5) ?_
  refine ww_sub [1, 2] rfl ?_
  exact s_X11_both_j4 C hf hk
theorem m_X11_both {σ : XS} {r0 : Nat} {x1 : Int32} {x2 : Int32} {x : Int32 × XS} (hf : f_X11_both σ r0 x1 x2 = some x) : xext σ x.2 := by
  have hm := xext.rf (σ := σ)
  obtain ⟨_, e1, hf⟩ := xbd hf
  obtain ⟨⟨z4, σ3⟩, e2, hf⟩ := xbd hf
  dsimp only at hf
  have hm := hm.tr (m_X11_levelsNow e2)
  obtain ⟨_, e5, hf⟩ := xbd hf
  exact hm.tr (m_X11_both_j4 hf)
theorem k_X11_both {l : Launch} {E : XD} {hb : Nat} {σ : XS} {r0 : Nat} {x1 : Int32} {x2 : Int32} {x : Int32 × XS} (h : f_X11_both σ r0 x1 x2 = some x) : XM l yX11_both cX11_both 3 (some .int) 5 115 E hb [.ref (hb + r0), .int x1, .int x2] σ (some (.int x.1)) x.2 := by
  refine xm_of (by decide) (Nat.le_of_ble_eq_true rfl) (m_X11_both h).1 (fun G hG C hl hQ => ?_)
  obtain ⟨rfl, rfl, rfl, hN⟩ := hG
  exact s_X11_both_e C h ⟨hQ, hl.2⟩
noncomputable def f_X11_breaksNow_j36 (σ : XS) (r0 : Nat) : Option (Nat × XS) := (xgR σ r0 11 9).bind fun z2 => (xgR σ r0 11 3).bind fun z4 => (xgI σ z4 6 7).bind fun v6 => (xpI σ z2 0 3 v6).bind fun σ8 => (xgR σ8 r0 11 9).bind fun z10 => (xnz z10).bind fun _ => some (z10, σ8)
noncomputable def f_X11_breaksNow (σ : XS) (r0 : Nat) : Option (Nat × XS) := (xgR σ r0 11 9).bind fun z2 => (xgI σ z2 0 3).bind fun v4 => (xgR σ r0 11 3).bind fun z6 => (xgI σ z6 6 7).bind fun v8 => if v4 = v8 then ((xgR σ r0 11 9).bind fun z10 => (xnz z10).bind fun _ => some (z10, σ)) else (xgR σ r0 11 9).bind fun z10 => (xgR σ r0 11 2).bind fun z12 => (xgR σ r0 11 3).bind fun z14 => (xgR σ r0 11 7).bind fun z16 => (xck σ z10 0).bind fun _ => (f_X0_gather σ z10 z12 z14 z16).bind fun σ19 => f_X11_breaksNow_j36 σ19 r0
theorem s_X11_breaksNow_j36 {G : XG} (C : XC G cX11_breaksNow RX11 (some (.object "SpinStrip$Breaks")) 1 4 102) {σ : XS} {r0 : Nat} {x : Nat × XS} (hf : f_X11_breaksNow_j36 σ r0 = some x) (hk : XEnd G (some (xrv (gB G) x.1)) x.2 ∧ XUp G x.2) : WW G 36 [(0, .ref (gB G + r0))] [] σ := by
  refine ww_aload_n (pc := 36) C 0 dX11_breaksNow_36 rfl ?_
  obtain ⟨z2, e1, hf⟩ := xbd hf
  refine gf_X11_69 (pc := 37) C e1 dX11_breaksNow_37 ?_
  refine ww_aload_n (pc := 40) C 0 dX11_breaksNow_40 rfl ?_
  obtain ⟨z4, e3, hf⟩ := xbd hf
  refine gf_X11_31 (pc := 41) C e3 dX11_breaksNow_41 ?_
  obtain ⟨v6, e5, hf⟩ := xbd hf
  refine gf_X11_463 (pc := 44) C e5 dX11_breaksNow_44 ?_
  obtain ⟨σ8, e7, hf⟩ := xbd hf
  refine pf_X11_474 (pc := 47) C e7 dX11_breaksNow_47 ?_
  refine ww_aload_n (pc := 50) C 0 dX11_breaksNow_50 rfl ?_
  obtain ⟨z10, e9, hf⟩ := xbd hf
  refine gf_X11_69 (pc := 51) C e9 dX11_breaksNow_51 ?_
  obtain ⟨_, e11, hf⟩ := xbd hf
  have hf := xsj hf
  subst hf
  exact ww_aret (pc := 54) C (Or.inl ⟨_, rfl⟩) (xnz_spec e11) hk.1 dX11_breaksNow_54
theorem m_X11_breaksNow_j36 {σ : XS} {r0 : Nat} {x : Nat × XS} (hf : f_X11_breaksNow_j36 σ r0 = some x) : xext σ x.2 := by
  have hm := xext.rf (σ := σ)
  obtain ⟨z2, e1, hf⟩ := xbd hf
  obtain ⟨z4, e3, hf⟩ := xbd hf
  obtain ⟨v6, e5, hf⟩ := xbd hf
  obtain ⟨σ8, e7, hf⟩ := xbd hf
  have hm := hm.tr (xpI_same e7).ext
  obtain ⟨z10, e9, hf⟩ := xbd hf
  obtain ⟨_, e11, hf⟩ := xbd hf
  have hf := xsj hf
  subst hf
  exact hm
theorem s_X11_breaksNow_e {G : XG} (C : XC G cX11_breaksNow RX11 (some (.object "SpinStrip$Breaks")) 1 4 102) {σ : XS} {r0 : Nat} {x : Nat × XS} (hf : f_X11_breaksNow σ r0 = some x) (hk : XEnd G (some (xrv (gB G) x.1)) x.2 ∧ XUp G x.2) : WW G 0 [(0, .ref (gB G + r0))] [] σ := by
  refine ww_aload_n (pc := 0) C 0 dX11_breaksNow_0 rfl ?_
  obtain ⟨z2, e1, hf⟩ := xbd hf
  refine gf_X11_69 (pc := 1) C e1 dX11_breaksNow_1 ?_
  obtain ⟨v4, e3, hf⟩ := xbd hf
  refine gf_X11_474 (pc := 4) C e3 dX11_breaksNow_4 ?_
  refine ww_aload_n (pc := 7) C 0 dX11_breaksNow_7 rfl ?_
  obtain ⟨z6, e5, hf⟩ := xbd hf
  refine gf_X11_31 (pc := 8) C e5 dX11_breaksNow_8 ?_
  obtain ⟨v8, e7, hf⟩ := xbd hf
  refine gf_X11_463 (pc := 11) C e7 dX11_breaksNow_11 ?_
  refine ww_icmp_eq (pc := 14) (tgt := 50) C dX11_breaksNow_14 (by decide) (fun q => ?_) (fun q => ?_)
  · have hf := xip q hf
    refine ww_aload_n (pc := 50) C 0 dX11_breaksNow_50 rfl ?_
    obtain ⟨z10, e9, hf⟩ := xbd hf
    refine gf_X11_69 (pc := 51) C e9 dX11_breaksNow_51 ?_
    obtain ⟨_, e11, hf⟩ := xbd hf
    have hf := xsj hf
    subst hf
    exact ww_aret (pc := 54) C (Or.inl ⟨_, rfl⟩) (xnz_spec e11) hk.1 dX11_breaksNow_54
  · have hf := xin q hf
    refine ww_aload_n (pc := 17) C 0 dX11_breaksNow_17 rfl ?_
    obtain ⟨z10, e9, hf⟩ := xbd hf
    refine gf_X11_69 (pc := 18) C e9 dX11_breaksNow_18 ?_
    refine ww_aload_n (pc := 21) C 0 dX11_breaksNow_21 rfl ?_
    obtain ⟨z12, e11, hf⟩ := xbd hf
    refine gf_X11_24 (pc := 22) C e11 dX11_breaksNow_22 ?_
    refine ww_aload_n (pc := 25) C 0 dX11_breaksNow_25 rfl ?_
    obtain ⟨z14, e13, hf⟩ := xbd hf
    refine gf_X11_31 (pc := 26) C e13 dX11_breaksNow_26 ?_
    refine ww_aload_n (pc := 29) C 0 dX11_breaksNow_29 rfl ?_
    obtain ⟨z16, e15, hf⟩ := xbd hf
    refine gf_X11_56 (pc := 30) C e15 dX11_breaksNow_30 ?_
    obtain ⟨_, e17, hf⟩ := xbd hf
    obtain ⟨σ19, e18, hf⟩ := xbd hf
    refine ww_callVv (pc := 33) (as := [.ref (gB G + z12), .ref (gB G + z14), .ref (gB G + z16)]) (st := []) C (k_X0_gather (l := gl G) (E := gE G) (hb := gB G) (σ := σ) e18) rfl (by decide) xc_X11_475 q943 qp75 (xck_spec e17) rfl (by decide) (xst4 (Nat.le_of_ble_eq_true rfl)) (m_X0_gather e18).1 (fun q => by have hm9 := m_X11_breaksNow_j36 hf; exact XLim.mid q (m_X0_gather e18) hm9 hk.2) dX11_breaksNow_33 ?_
    refine ww_sub [0] rfl ?_
    exact s_X11_breaksNow_j36 C hf hk
theorem m_X11_breaksNow {σ : XS} {r0 : Nat} {x : Nat × XS} (hf : f_X11_breaksNow σ r0 = some x) : xext σ x.2 := by
  have hm := xext.rf (σ := σ)
  obtain ⟨z2, e1, hf⟩ := xbd hf
  obtain ⟨v4, e3, hf⟩ := xbd hf
  obtain ⟨z6, e5, hf⟩ := xbd hf
  obtain ⟨v8, e7, hf⟩ := xbd hf
  by_cases q : v4 = v8
  · have hf := xip q hf
    obtain ⟨z10, e9, hf⟩ := xbd hf
    obtain ⟨_, e11, hf⟩ := xbd hf
    have hf := xsj hf
    subst hf
    exact hm
  · have hf := xin q hf
    obtain ⟨z10, e9, hf⟩ := xbd hf
    obtain ⟨z12, e11, hf⟩ := xbd hf
    obtain ⟨z14, e13, hf⟩ := xbd hf
    obtain ⟨z16, e15, hf⟩ := xbd hf
    obtain ⟨_, e17, hf⟩ := xbd hf
    obtain ⟨σ19, e18, hf⟩ := xbd hf
    have hm := hm.tr (m_X0_gather e18)
    exact hm.tr (m_X11_breaksNow_j36 hf)
theorem k_X11_breaksNow {l : Launch} {E : XD} {hb : Nat} {σ : XS} {r0 : Nat} {x : Nat × XS} (h : f_X11_breaksNow σ r0 = some x) : XM l yX11_breaksNow cX11_breaksNow 1 (some (.object "SpinStrip$Breaks")) 4 102 E hb [.ref (hb + r0)] σ (some (xrv (hb) x.1)) x.2 := by
  refine xm_of (by decide) (Nat.le_of_ble_eq_true rfl) (m_X11_breaksNow h).1 (fun G hG C hl hQ => ?_)
  obtain ⟨rfl, rfl, rfl, hN⟩ := hG
  exact s_X11_breaksNow_e C h ⟨hQ, hl.2⟩
noncomputable def f_X11_broken_j4 (σ : XS) (x1 : Int32) (t0 : Nat) : Option (Int32 × XS) := (xck σ t0 0).bind fun _ => (f_X0_waysOf σ t0 x1).bind fun v3 => some (v3, σ)
noncomputable def f_X11_broken (σ : XS) (r0 : Nat) (x1 : Int32) : Option (Int32 × XS) := (xck σ r0 11).bind fun _ => (f_X11_breaksNow σ r0).bind fun (z4, σ3) => (xnz z4).bind fun _ => f_X11_broken_j4 σ3 x1 z4
theorem s_X11_broken_j4 {G : XG} (C : XC G cX11_broken RX11 (some .int) 2 5 122) {σ : XS} {x1 : Int32} {t0 : Nat} {x : Int32 × XS} (hf : f_X11_broken_j4 σ x1 t0 = some x) (hk : XEnd G (some (.int x.1)) x.2 ∧ XUp G x.2) : WW G 4 [(1, .int x1)] [.ref (gB G + t0)] σ := by
  refine ww_iload_n (pc := 4) C 0 dX11_broken_4 rfl ?_
  obtain ⟨_, e1, hf⟩ := xbd hf
  obtain ⟨v3, e2, hf⟩ := xbd hf
  refine ww_callVi (pc := 5) (as := [.int x1]) (st := []) C (k_X0_waysOf (l := gl G) (E := gE G) (hb := gB G) (σ := σ) e2) rfl (by decide) xc_X11_283 q960 qp76 (xck_spec e1) rfl (by decide) (xst4 (Nat.le_of_ble_eq_true rfl)) xsame.rf.le xsame.rf.lim dX11_broken_5 ?_
  have hf := xsj hf
  subst hf
  exact ww_iret (pc := 8) C hk.1 dX11_broken_8
theorem m_X11_broken_j4 {σ : XS} {x1 : Int32} {t0 : Nat} {x : Int32 × XS} (hf : f_X11_broken_j4 σ x1 t0 = some x) : xext σ x.2 := by
  have hm := xext.rf (σ := σ)
  obtain ⟨_, e1, hf⟩ := xbd hf
  obtain ⟨v3, e2, hf⟩ := xbd hf
  have hf := xsj hf
  subst hf
  exact hm
theorem s_X11_broken_e {G : XG} (C : XC G cX11_broken RX11 (some .int) 2 5 122) {σ : XS} {r0 : Nat} {x1 : Int32} {x : Int32 × XS} (hf : f_X11_broken σ r0 x1 = some x) (hk : XEnd G (some (.int x.1)) x.2 ∧ XUp G x.2) : WW G 0 [(0, .ref (gB G + r0)), (1, .int x1)] [] σ := by
  refine ww_aload_n (pc := 0) C 0 dX11_broken_0 rfl ?_
  obtain ⟨_, e1, hf⟩ := xbd hf
  obtain ⟨⟨z4, σ3⟩, e2, hf⟩ := xbd hf
  dsimp only at hf
  obtain ⟨_, e5, hf⟩ := xbd hf
  refine ww_callVr (pc := 1) (as := []) (st := []) C (k_X11_breaksNow (l := gl G) (E := gE G) (hb := gB G) (σ := σ) e2) rfl (by decide) xc_X11_279 q939 qp74 (xck_spec e1) rfl (by decide) (xst4 (Nat.le_of_ble_eq_true rfl)) (m_X11_breaksNow e2).1 (fun q => by have hm9 := m_X11_broken_j4 hf; exact XLim.mid q (m_X11_breaksNow e2) hm9 hk.2) dX11_broken_1 ?_
  refine ww_nn (xnz_spec e5) ?_
  refine ww_sub [1] rfl ?_
  exact s_X11_broken_j4 C hf hk
theorem m_X11_broken {σ : XS} {r0 : Nat} {x1 : Int32} {x : Int32 × XS} (hf : f_X11_broken σ r0 x1 = some x) : xext σ x.2 := by
  have hm := xext.rf (σ := σ)
  obtain ⟨_, e1, hf⟩ := xbd hf
  obtain ⟨⟨z4, σ3⟩, e2, hf⟩ := xbd hf
  dsimp only at hf
  have hm := hm.tr (m_X11_breaksNow e2)
  obtain ⟨_, e5, hf⟩ := xbd hf
  exact hm.tr (m_X11_broken_j4 hf)
theorem k_X11_broken {l : Launch} {E : XD} {hb : Nat} {σ : XS} {r0 : Nat} {x1 : Int32} {x : Int32 × XS} (h : f_X11_broken σ r0 x1 = some x) : XM l yX11_broken cX11_broken 2 (some .int) 5 122 E hb [.ref (hb + r0), .int x1] σ (some (.int x.1)) x.2 := by
  refine xm_of (by decide) (Nat.le_of_ble_eq_true rfl) (m_X11_broken h).1 (fun G hG C hl hQ => ?_)
  obtain ⟨rfl, rfl, rfl, hN⟩ := hG
  exact s_X11_broken_e C h ⟨hQ, hl.2⟩
noncomputable def f_X3_hasSite (σ : XS) (r0 : Nat) (x1 : Int32) : Option Int32 := if x1 < 0 then (some (0 : Int32)) else (xgI σ r0 3 7).bind fun v2 => if v2 ≤ x1 then (some (0 : Int32)) else some (1 : Int32)
theorem s_X3_hasSite_e {G : XG} (C : XC G cX3_hasSite RX3 (some .boolean) 2 0 0) {σ : XS} {r0 : Nat} {x1 : Int32} {x : Int32} (hf : f_X3_hasSite σ r0 x1 = some x) (hk : XEnd G (some (.int x)) σ) : WW G 0 [(0, .ref (gB G + r0)), (1, .int x1)] [] σ := by
  refine ww_iload_n (pc := 0) C 1 dX3_hasSite_0 rfl ?_
  refine ww_if_lt (pc := 1) (tgt := 16) C dX3_hasSite_1 (by decide) (fun q => ?_) (fun q => ?_)
  · have hf := xip q hf
    refine ww_iconst (pc := 16) (v := (0 : Int32)) C dX3_hasSite_16 (by decide) ?_
    have hf := xsj hf
    subst hf
    exact ww_zret (pc := 17) C rfl hk dX3_hasSite_17
  · have hf := xin q hf
    refine ww_iload_n (pc := 4) C 1 dX3_hasSite_4 rfl ?_
    refine ww_aload_n (pc := 5) C 0 dX3_hasSite_5 rfl ?_
    obtain ⟨v2, e1, hf⟩ := xbd hf
    refine gf_X3_40 (pc := 6) C e1 dX3_hasSite_6 ?_
    refine ww_icmp_ge (pc := 9) (tgt := 16) C dX3_hasSite_9 (by decide) (fun q => ?_) (fun q => ?_)
    · have hf := xip q hf
      refine ww_iconst (pc := 16) (v := (0 : Int32)) C dX3_hasSite_16 (by decide) ?_
      have hf := xsj hf
      subst hf
      exact ww_zret (pc := 17) C rfl hk dX3_hasSite_17
    · have hf := xin q hf
      refine ww_iconst (pc := 12) (v := (1 : Int32)) C dX3_hasSite_12 (by decide) ?_
      refine ww_goto (pc := 13) (tgt := 17) C dX3_hasSite_13 (by decide) ?_
      have hf := xsj hf
      subst hf
      exact ww_zret (pc := 17) C rfl hk dX3_hasSite_17
theorem k_X3_hasSite {l : Launch} {E : XD} {hb : Nat} {σ : XS} {r0 : Nat} {x1 : Int32} {x : Int32} (h : f_X3_hasSite σ r0 x1 = some x) : XM l yX3_hasSite cX3_hasSite 2 (some .boolean) 0 0 E hb [.ref (hb + r0), .int x1] σ (some (.int x)) σ := by
  refine xm_of (by decide) (Nat.le_of_ble_eq_true rfl) ⟨Nat.le_refl _, Nat.le_refl _⟩ (fun G hG C hl hQ => ?_)
  obtain ⟨rfl, rfl, rfl, hN⟩ := hG
  exact s_X3_hasSite_e C h hQ
noncomputable def f_X3_grownCluster_b5 (σ : XS) (r0 : Nat) (x1 : Int32) : Int32 × Int32 → Option ((Int32 × Int32) ⊕ (Int32)) := fun a => match a with
  | (x3, x4) => if (32 : Int32) ≤ x4 then ((some x3).map .inr) else (xck σ r0 3).bind fun _ => (f_X3_endAt σ r0 x4).bind fun v3 => if v3 = (-1 : Int32) then (some (.inl (x3, x4 + (1 : Int32)))) else (xck σ r0 3).bind fun _ => (f_X3_isAlike σ r0 x1 x4).bind fun v6 => if v6 = 0 then (some (.inl (x3, x4 + (1 : Int32)))) else (f_X3_startOf x4).bind fun v8 => (xck σ r0 3).bind fun _ => (f_X3_endAt σ r0 x4).bind fun v11 => if (x3 &&& (((1 : Int32) <<< (v8 &&& 31)) ||| ((1 : Int32) <<< (v11 &&& 31)))) = 0 then (some (.inl (x3, x4 + (1 : Int32)))) else some (.inl (x3 ||| (((1 : Int32) <<< (v8 &&& 31)) ||| ((1 : Int32) <<< (v11 &&& 31))), x4 + (1 : Int32)))
noncomputable def f_X3_grownCluster (σ : XS) (r0 : Nat) (x1 : Int32) (x2 : Int32) : Option Int32 := xloop (f_X3_grownCluster_b5 σ r0 x1) (x2, (0 : Int32))
theorem s_X3_grownCluster_l5 {G : XG} (C : XC G cX3_grownCluster RX3 (some .int) 6 2 43) {σ : XS} {r0 : Nat} {x1 : Int32} {a : Int32 × Int32} {x : Int32} (hf : xloop (f_X3_grownCluster_b5 σ r0 x1) a = some x) (hk : XEnd G (some (.int x)) σ) : WW G 5 [(0, .ref (gB G + r0)), (1, .int x1), (3, .int a.1), (4, .int a.2)] [] σ := by
  refine xloop_ind (P := fun a => WW G 5 [(0, .ref (gB G + r0)), (1, .int x1), (3, .int a.1), (4, .int a.2)] [] σ) (fun a y hf hc he => ?_) hf
  obtain ⟨x3, x4⟩ := a
  have hk : (∀ a' : Int32 × Int32, y = .inl a' → WW G 5 [(0, .ref (gB G + r0)), (1, .int x1), (3, .int a'.1), (4, .int a'.2)] [] σ) ∧ (∀ b1 : Int32, y = .inr b1 → XEnd G (some (.int b1)) σ) := ⟨hc, fun b e => by have h9 := he b e; subst h9; exact hk⟩
  refine ww_iload (pc := 5) C 3 dX3_grownCluster_5 rfl ?_
  refine ww_bipush (pc := 7) (v := (32 : Int32)) C dX3_grownCluster_7 (by decide) ?_
  refine ww_icmp_ge (pc := 9) (tgt := 72) C dX3_grownCluster_9 (by decide) (fun q => ?_) (fun q => ?_)
  · have hf := xip q hf
    obtain ⟨b0, hg, e9⟩ := xmj hf
    subst e9
    have hf := hg
    have hk := hk.2 _ rfl
    refine ww_iload_n (pc := 72) C 2 dX3_grownCluster_72 rfl ?_
    have hf := xsj hf
    subst hf
    exact ww_iret (pc := 73) C hk dX3_grownCluster_73
  · have hf := xin q hf
    refine ww_aload_n (pc := 12) C 0 dX3_grownCluster_12 rfl ?_
    refine ww_iload (pc := 13) C 3 dX3_grownCluster_13 rfl ?_
    obtain ⟨_, e1, hf⟩ := xbd hf
    obtain ⟨v3, e2, hf⟩ := xbd hf
    refine ww_callVi (pc := 15) (as := [.int x4]) (st := []) C (k_X3_endAt (l := gl G) (E := gE G) (hb := gB G) (σ := σ) e2) rfl (by decide) xc_X3_59 q703 qp38 (xck_spec e1) rfl (by decide) (xst4 (Nat.le_of_ble_eq_true rfl)) xsame.rf.le xsame.rf.lim dX3_grownCluster_15 ?_
    refine ww_iconst (pc := 18) (v := (-1 : Int32)) C dX3_grownCluster_18 (by decide) ?_
    refine ww_icmp_eq (pc := 19) (tgt := 66) C dX3_grownCluster_19 (by decide) (fun q => ?_) (fun q => ?_)
    · have hf := xip q hf
      refine ww_iinc (pc := 66) (v := x4 + (1 : Int32)) (lv' := [(4, .int (x4 + (1 : Int32))), (0, .ref (gB G + r0)), (1, .int x1), (3, .int x3)]) C 3 dX3_grownCluster_66 rfl (congrArg (fun z => x4 + z) (show Int32.ofInt (1) = (1 : Int32) by decide)) (by decide) rfl ?_
      refine ww_goto (pc := 69) (tgt := 5) C dX3_grownCluster_69 (by decide) ?_
      have hf := xsj hf
      subst hf
      refine ww_sub [1, 2, 3, 0] rfl ?_
      exact hk.1 (x3, x4 + (1 : Int32)) rfl
    · have hf := xin q hf
      refine ww_aload_n (pc := 22) C 0 dX3_grownCluster_22 rfl ?_
      refine ww_iload_n (pc := 23) C 1 dX3_grownCluster_23 rfl ?_
      refine ww_iload (pc := 24) C 3 dX3_grownCluster_24 rfl ?_
      obtain ⟨_, e4, hf⟩ := xbd hf
      obtain ⟨v6, e5, hf⟩ := xbd hf
      refine ww_callVi (pc := 26) (as := [.int x1, .int x4]) (st := []) C (k_X3_isAlike (l := gl G) (E := gE G) (hb := gB G) (σ := σ) e5) rfl (by decide) xc_X3_66 q838 qp55 (xck_spec e4) rfl (by decide) (xst4 (Nat.le_of_ble_eq_true rfl)) xsame.rf.le xsame.rf.lim dX3_grownCluster_26 ?_
      refine ww_if_eq (pc := 29) (tgt := 66) C dX3_grownCluster_29 (by decide) (fun q => ?_) (fun q => ?_)
      · have hf := xip q hf
        refine ww_iinc (pc := 66) (v := x4 + (1 : Int32)) (lv' := [(4, .int (x4 + (1 : Int32))), (0, .ref (gB G + r0)), (1, .int x1), (3, .int x3)]) C 3 dX3_grownCluster_66 rfl (congrArg (fun z => x4 + z) (show Int32.ofInt (1) = (1 : Int32) by decide)) (by decide) rfl ?_
        refine ww_goto (pc := 69) (tgt := 5) C dX3_grownCluster_69 (by decide) ?_
        have hf := xsj hf
        subst hf
        refine ww_sub [1, 2, 3, 0] rfl ?_
        exact hk.1 (x3, x4 + (1 : Int32)) rfl
      · have hf := xin q hf
        refine ww_iconst (pc := 32) (v := (1 : Int32)) C dX3_grownCluster_32 (by decide) ?_
        refine ww_iload (pc := 33) C 3 dX3_grownCluster_33 rfl ?_
        obtain ⟨v8, e7, hf⟩ := xbd hf
        refine ww_callSi (pc := 35) (as := [.int x4]) (st := [.int (1 : Int32)]) C (k_X3_startOf (l := gl G) (E := gE G) (hb := gB G) (σ := σ) e7) xc_X3_47 q628 rfl (by decide) (xst4 (Nat.le_of_ble_eq_true rfl)) xsame.rf.le xsame.rf.lim dX3_grownCluster_35 ?_
        refine ww_ishl (pc := 38) C dX3_grownCluster_38 ?_
        refine ww_iconst (pc := 39) (v := (1 : Int32)) C dX3_grownCluster_39 (by decide) ?_
        refine ww_aload_n (pc := 40) C 0 dX3_grownCluster_40 rfl ?_
        refine ww_iload (pc := 41) C 3 dX3_grownCluster_41 rfl ?_
        obtain ⟨_, e9, hf⟩ := xbd hf
        obtain ⟨v11, e10, hf⟩ := xbd hf
        refine ww_callVi (pc := 43) (as := [.int x4]) (st := [.int (1 : Int32), .int ((1 : Int32) <<< (v8 &&& 31))]) C (k_X3_endAt (l := gl G) (E := gE G) (hb := gB G) (σ := σ) e10) rfl (by decide) xc_X3_59 q703 qp38 (xck_spec e9) rfl (by decide) (xst4 (Nat.le_of_ble_eq_true rfl)) xsame.rf.le xsame.rf.lim dX3_grownCluster_43 ?_
        refine ww_ishl (pc := 46) C dX3_grownCluster_46 ?_
        refine ww_ior (pc := 47) C dX3_grownCluster_47 ?_
        refine ww_istore (pc := 48) (lv' := [(5, .int (((1 : Int32) <<< (v8 &&& 31)) ||| ((1 : Int32) <<< (v11 &&& 31)))), (0, .ref (gB G + r0)), (1, .int x1), (3, .int x3), (4, .int x4)]) C dX3_grownCluster_48 (by decide) rfl ?_
        refine ww_iload_n (pc := 50) C 3 dX3_grownCluster_50 rfl ?_
        refine ww_iload (pc := 51) C 0 dX3_grownCluster_51 rfl ?_
        refine ww_iand (pc := 53) C dX3_grownCluster_53 ?_
        refine ww_if_eq (pc := 54) (tgt := 64) C dX3_grownCluster_54 (by decide) (fun q => ?_) (fun q => ?_)
        · have hf := xip q hf
          refine ww_iload_n (pc := 64) C 3 dX3_grownCluster_64 rfl ?_
          refine ww_istore_n (pc := 65) (lv' := [(3, .int x3), (5, .int (((1 : Int32) <<< (v8 &&& 31)) ||| ((1 : Int32) <<< (v11 &&& 31)))), (0, .ref (gB G + r0)), (1, .int x1), (4, .int x4)]) C dX3_grownCluster_65 (by decide) rfl ?_
          refine ww_iinc (pc := 66) (v := x4 + (1 : Int32)) (lv' := [(4, .int (x4 + (1 : Int32))), (3, .int x3), (5, .int (((1 : Int32) <<< (v8 &&& 31)) ||| ((1 : Int32) <<< (v11 &&& 31)))), (0, .ref (gB G + r0)), (1, .int x1)]) C 4 dX3_grownCluster_66 rfl (congrArg (fun z => x4 + z) (show Int32.ofInt (1) = (1 : Int32) by decide)) (by decide) rfl ?_
          refine ww_goto (pc := 69) (tgt := 5) C dX3_grownCluster_69 (by decide) ?_
          have hf := xsj hf
          subst hf
          refine ww_sub [3, 4, 1, 0] rfl ?_
          exact hk.1 (x3, x4 + (1 : Int32)) rfl
        · have hf := xin q hf
          refine ww_iload_n (pc := 57) C 3 dX3_grownCluster_57 rfl ?_
          refine ww_iload (pc := 58) C 0 dX3_grownCluster_58 rfl ?_
          refine ww_ior (pc := 60) C dX3_grownCluster_60 ?_
          refine ww_goto (pc := 61) (tgt := 65) C dX3_grownCluster_61 (by decide) ?_
          refine ww_istore_n (pc := 65) (lv' := [(3, .int (x3 ||| (((1 : Int32) <<< (v8 &&& 31)) ||| ((1 : Int32) <<< (v11 &&& 31))))), (5, .int (((1 : Int32) <<< (v8 &&& 31)) ||| ((1 : Int32) <<< (v11 &&& 31)))), (0, .ref (gB G + r0)), (1, .int x1), (4, .int x4)]) C dX3_grownCluster_65 (by decide) rfl ?_
          refine ww_iinc (pc := 66) (v := x4 + (1 : Int32)) (lv' := [(4, .int (x4 + (1 : Int32))), (3, .int (x3 ||| (((1 : Int32) <<< (v8 &&& 31)) ||| ((1 : Int32) <<< (v11 &&& 31))))), (5, .int (((1 : Int32) <<< (v8 &&& 31)) ||| ((1 : Int32) <<< (v11 &&& 31)))), (0, .ref (gB G + r0)), (1, .int x1)]) C 4 dX3_grownCluster_66 rfl (congrArg (fun z => x4 + z) (show Int32.ofInt (1) = (1 : Int32) by decide)) (by decide) rfl ?_
          refine ww_goto (pc := 69) (tgt := 5) C dX3_grownCluster_69 (by decide) ?_
          have hf := xsj hf
          subst hf
          refine ww_sub [3, 4, 1, 0] rfl ?_
          exact hk.1 (x3 ||| (((1 : Int32) <<< (v8 &&& 31)) ||| ((1 : Int32) <<< (v11 &&& 31))), x4 + (1 : Int32)) rfl
theorem s_X3_grownCluster_e {G : XG} (C : XC G cX3_grownCluster RX3 (some .int) 6 2 43) {σ : XS} {r0 : Nat} {x1 : Int32} {x2 : Int32} {x : Int32} (hf : f_X3_grownCluster σ r0 x1 x2 = some x) (hk : XEnd G (some (.int x)) σ) : WW G 0 [(0, .ref (gB G + r0)), (1, .int x1), (2, .int x2)] [] σ := by
  refine ww_iload_n (pc := 0) C 2 dX3_grownCluster_0 rfl ?_
  refine ww_istore_n (pc := 1) (lv' := [(3, .int x2), (0, .ref (gB G + r0)), (1, .int x1), (2, .int x2)]) C dX3_grownCluster_1 (by decide) rfl ?_
  refine ww_iconst (pc := 2) (v := (0 : Int32)) C dX3_grownCluster_2 (by decide) ?_
  refine ww_istore (pc := 3) (lv' := [(4, .int (0 : Int32)), (3, .int x2), (0, .ref (gB G + r0)), (1, .int x1), (2, .int x2)]) C dX3_grownCluster_3 (by decide) rfl ?_
  refine ww_sub [2, 3, 1, 0] rfl ?_
  exact s_X3_grownCluster_l5 C (a := (x2, (0 : Int32))) hf hk
theorem k_X3_grownCluster {l : Launch} {E : XD} {hb : Nat} {σ : XS} {r0 : Nat} {x1 : Int32} {x2 : Int32} {x : Int32} (h : f_X3_grownCluster σ r0 x1 x2 = some x) : XM l yX3_grownCluster cX3_grownCluster 6 (some .int) 2 43 E hb [.ref (hb + r0), .int x1, .int x2] σ (some (.int x)) σ := by
  refine xm_of (by decide) (Nat.le_of_ble_eq_true rfl) ⟨Nat.le_refl _, Nat.le_refl _⟩ (fun G hG C hl hQ => ?_)
  obtain ⟨rfl, rfl, rfl, hN⟩ := hG
  exact s_X3_grownCluster_e C h hQ
noncomputable def f_X3_clusterOf_b10 (σ : XS) (r0 : Nat) (x1 : Int32) : Int32 × Int32 × Int32 → Option ((Int32 × Int32 × Int32) ⊕ (Int32)) := fun a => match a with
  | (x3, x4, x5) => if (16 : Int32) ≤ x5 then ((some x3).map .inr) else if x3 = x4 then ((some x3).map .inr) else (xck σ r0 3).bind fun _ => (f_X3_grownCluster σ r0 x1 x3).bind fun v3 => some (.inl (v3, x3, x5 + (1 : Int32)))
noncomputable def f_X3_clusterOf (σ : XS) (r0 : Nat) (x1 : Int32) (x2 : Int32) : Option Int32 := xloop (f_X3_clusterOf_b10 σ r0 x1) ((1 : Int32) <<< (x2 &&& 31), (0 : Int32), (0 : Int32))
theorem s_X3_clusterOf_l10 {G : XG} (C : XC G cX3_clusterOf RX3 (some .int) 6 3 68) {σ : XS} {r0 : Nat} {x1 : Int32} {a : Int32 × Int32 × Int32} {x : Int32} (hf : xloop (f_X3_clusterOf_b10 σ r0 x1) a = some x) (hk : XEnd G (some (.int x)) σ) : WW G 10 [(0, .ref (gB G + r0)), (1, .int x1), (3, .int a.1), (4, .int a.2.1), (5, .int a.2.2)] [] σ := by
  refine xloop_ind (P := fun a => WW G 10 [(0, .ref (gB G + r0)), (1, .int x1), (3, .int a.1), (4, .int a.2.1), (5, .int a.2.2)] [] σ) (fun a y hf hc he => ?_) hf
  obtain ⟨x3, x4, x5⟩ := a
  have hk : (∀ a' : Int32 × Int32 × Int32, y = .inl a' → WW G 10 [(0, .ref (gB G + r0)), (1, .int x1), (3, .int a'.1), (4, .int a'.2.1), (5, .int a'.2.2)] [] σ) ∧ (∀ b1 : Int32, y = .inr b1 → XEnd G (some (.int b1)) σ) := ⟨hc, fun b e => by have h9 := he b e; subst h9; exact hk⟩
  refine ww_iload (pc := 10) C 4 dX3_clusterOf_10 rfl ?_
  refine ww_bipush (pc := 12) (v := (16 : Int32)) C dX3_clusterOf_12 (by decide) ?_
  refine ww_icmp_ge (pc := 14) (tgt := 39) C dX3_clusterOf_14 (by decide) (fun q => ?_) (fun q => ?_)
  · have hf := xip q hf
    obtain ⟨b0, hg, e9⟩ := xmj hf
    subst e9
    have hf := hg
    have hk := hk.2 _ rfl
    refine ww_iload_n (pc := 39) C 2 dX3_clusterOf_39 rfl ?_
    have hf := xsj hf
    subst hf
    exact ww_iret (pc := 40) C hk dX3_clusterOf_40
  · have hf := xin q hf
    refine ww_iload_n (pc := 17) C 2 dX3_clusterOf_17 rfl ?_
    refine ww_iload (pc := 18) C 3 dX3_clusterOf_18 rfl ?_
    refine ww_icmp_eq (pc := 20) (tgt := 39) C dX3_clusterOf_20 (by decide) (fun q => ?_) (fun q => ?_)
    · have hf := xip q hf
      obtain ⟨b0, hg, e9⟩ := xmj hf
      subst e9
      have hf := hg
      have hk := hk.2 _ rfl
      refine ww_iload_n (pc := 39) C 2 dX3_clusterOf_39 rfl ?_
      have hf := xsj hf
      subst hf
      exact ww_iret (pc := 40) C hk dX3_clusterOf_40
    · have hf := xin q hf
      refine ww_iload_n (pc := 23) C 2 dX3_clusterOf_23 rfl ?_
      refine ww_istore (pc := 24) (lv' := [(4, .int x3), (0, .ref (gB G + r0)), (1, .int x1), (3, .int x3), (5, .int x5)]) C dX3_clusterOf_24 (by decide) rfl ?_
      refine ww_aload_n (pc := 26) C 1 dX3_clusterOf_26 rfl ?_
      refine ww_iload_n (pc := 27) C 2 dX3_clusterOf_27 rfl ?_
      refine ww_iload_n (pc := 28) C 3 dX3_clusterOf_28 rfl ?_
      obtain ⟨_, e1, hf⟩ := xbd hf
      obtain ⟨v3, e2, hf⟩ := xbd hf
      refine ww_callVi (pc := 29) (as := [.int x1, .int x3]) (st := []) C (k_X3_grownCluster (l := gl G) (E := gE G) (hb := gB G) (σ := σ) e2) rfl (by decide) xc_X3_89 q834 qp54 (xck_spec e1) rfl (by decide) (xst4 (Nat.le_of_ble_eq_true rfl)) xsame.rf.le xsame.rf.lim dX3_clusterOf_29 ?_
      refine ww_istore_n (pc := 32) (lv' := [(3, .int v3), (4, .int x3), (0, .ref (gB G + r0)), (1, .int x1), (5, .int x5)]) C dX3_clusterOf_32 (by decide) rfl ?_
      refine ww_iinc (pc := 33) (v := x5 + (1 : Int32)) (lv' := [(5, .int (x5 + (1 : Int32))), (3, .int v3), (4, .int x3), (0, .ref (gB G + r0)), (1, .int x1)]) C 4 dX3_clusterOf_33 rfl (congrArg (fun z => x5 + z) (show Int32.ofInt (1) = (1 : Int32) by decide)) (by decide) rfl ?_
      refine ww_goto (pc := 36) (tgt := 10) C dX3_clusterOf_36 (by decide) ?_
      have hf := xsj hf
      subst hf
      refine ww_sub [3, 4, 1, 2, 0] rfl ?_
      exact hk.1 (v3, x3, x5 + (1 : Int32)) rfl
theorem s_X3_clusterOf_e {G : XG} (C : XC G cX3_clusterOf RX3 (some .int) 6 3 68) {σ : XS} {r0 : Nat} {x1 : Int32} {x2 : Int32} {x : Int32} (hf : f_X3_clusterOf σ r0 x1 x2 = some x) (hk : XEnd G (some (.int x)) σ) : WW G 0 [(0, .ref (gB G + r0)), (1, .int x1), (2, .int x2)] [] σ := by
  refine ww_iconst (pc := 0) (v := (1 : Int32)) C dX3_clusterOf_0 (by decide) ?_
  refine ww_iload_n (pc := 1) C 2 dX3_clusterOf_1 rfl ?_
  refine ww_ishl (pc := 2) C dX3_clusterOf_2 ?_
  refine ww_istore_n (pc := 3) (lv' := [(3, .int ((1 : Int32) <<< (x2 &&& 31))), (0, .ref (gB G + r0)), (1, .int x1), (2, .int x2)]) C dX3_clusterOf_3 (by decide) rfl ?_
  refine ww_iconst (pc := 4) (v := (0 : Int32)) C dX3_clusterOf_4 (by decide) ?_
  refine ww_istore (pc := 5) (lv' := [(4, .int (0 : Int32)), (3, .int ((1 : Int32) <<< (x2 &&& 31))), (0, .ref (gB G + r0)), (1, .int x1), (2, .int x2)]) C dX3_clusterOf_5 (by decide) rfl ?_
  refine ww_iconst (pc := 7) (v := (0 : Int32)) C dX3_clusterOf_7 (by decide) ?_
  refine ww_istore (pc := 8) (lv' := [(5, .int (0 : Int32)), (4, .int (0 : Int32)), (3, .int ((1 : Int32) <<< (x2 &&& 31))), (0, .ref (gB G + r0)), (1, .int x1), (2, .int x2)]) C dX3_clusterOf_8 (by decide) rfl ?_
  refine ww_sub [3, 4, 2, 1, 0] rfl ?_
  exact s_X3_clusterOf_l10 C (a := ((1 : Int32) <<< (x2 &&& 31), (0 : Int32), (0 : Int32))) hf hk
theorem k_X3_clusterOf {l : Launch} {E : XD} {hb : Nat} {σ : XS} {r0 : Nat} {x1 : Int32} {x2 : Int32} {x : Int32} (h : f_X3_clusterOf σ r0 x1 x2 = some x) : XM l yX3_clusterOf cX3_clusterOf 6 (some .int) 3 68 E hb [.ref (hb + r0), .int x1, .int x2] σ (some (.int x)) σ := by
  refine xm_of (by decide) (Nat.le_of_ble_eq_true rfl) ⟨Nat.le_refl _, Nat.le_refl _⟩ (fun G hG C hl hQ => ?_)
  obtain ⟨rfl, rfl, rfl, hN⟩ := hG
  exact s_X3_clusterOf_e C h hQ
noncomputable def f_X11_cluster (σ : XS) (r0 : Nat) (x1 : Int32) : Option Int32 := (xgR σ r0 11 2).bind fun z2 => (xck σ z2 3).bind fun _ => (f_X3_hasSite σ z2 x1).bind fun v5 => if v5 = 0 then (some (-1 : Int32)) else (xgR σ r0 11 2).bind fun z7 => (xgR σ r0 11 3).bind fun z9 => (xgI σ z9 6 4).bind fun v11 => (xck σ z7 3).bind fun _ => (f_X3_clusterOf σ z7 v11 x1).bind fun v14 => some v14
theorem s_X11_cluster_e {G : XG} (C : XC G cX11_cluster RX11 (some .int) 2 4 93) {σ : XS} {r0 : Nat} {x1 : Int32} {x : Int32} (hf : f_X11_cluster σ r0 x1 = some x) (hk : XEnd G (some (.int x)) σ) : WW G 0 [(0, .ref (gB G + r0)), (1, .int x1)] [] σ := by
  refine ww_aload_n (pc := 0) C 0 dX11_cluster_0 rfl ?_
  obtain ⟨z2, e1, hf⟩ := xbd hf
  refine gf_X11_24 (pc := 1) C e1 dX11_cluster_1 ?_
  refine ww_iload_n (pc := 4) C 1 dX11_cluster_4 rfl ?_
  obtain ⟨_, e3, hf⟩ := xbd hf
  obtain ⟨v5, e4, hf⟩ := xbd hf
  refine ww_callVi (pc := 5) (as := [.int x1]) (st := []) C (k_X3_hasSite (l := gl G) (E := gE G) (hb := gB G) (σ := σ) e4) rfl (by decide) xc_X11_176 q699 qp37 (xck_spec e3) rfl (by decide) (xst4 (Nat.le_of_ble_eq_true rfl)) xsame.rf.le xsame.rf.lim dX11_cluster_5 ?_
  refine ww_if_ne (pc := 8) (tgt := 13) C dX11_cluster_8 (by decide) (fun q => ?_) (fun q => ?_)
  · have hf := xin q hf
    refine ww_aload_n (pc := 13) C 0 dX11_cluster_13 rfl ?_
    obtain ⟨z7, e6, hf⟩ := xbd hf
    refine gf_X11_24 (pc := 14) C e6 dX11_cluster_14 ?_
    refine ww_aload_n (pc := 17) C 0 dX11_cluster_17 rfl ?_
    obtain ⟨z9, e8, hf⟩ := xbd hf
    refine gf_X11_31 (pc := 18) C e8 dX11_cluster_18 ?_
    obtain ⟨v11, e10, hf⟩ := xbd hf
    refine gf_X11_144 (pc := 21) C e10 dX11_cluster_21 ?_
    refine ww_iload_n (pc := 24) C 1 dX11_cluster_24 rfl ?_
    obtain ⟨_, e12, hf⟩ := xbd hf
    obtain ⟨v14, e13, hf⟩ := xbd hf
    refine ww_callVi (pc := 25) (as := [.int v11, .int x1]) (st := []) C (k_X3_clusterOf (l := gl G) (E := gE G) (hb := gB G) (σ := σ) e13) rfl (by decide) xc_X11_248 q830 qp53 (xck_spec e12) rfl (by decide) (xst4 (Nat.le_of_ble_eq_true rfl)) xsame.rf.le xsame.rf.lim dX11_cluster_25 ?_
    have hf := xsj hf
    subst hf
    exact ww_iret (pc := 28) C hk dX11_cluster_28
  · have hf := xip q hf
    refine ww_iconst (pc := 11) (v := (-1 : Int32)) C dX11_cluster_11 (by decide) ?_
    have hf := xsj hf
    subst hf
    exact ww_iret (pc := 12) C hk dX11_cluster_12
theorem k_X11_cluster {l : Launch} {E : XD} {hb : Nat} {σ : XS} {r0 : Nat} {x1 : Int32} {x : Int32} (h : f_X11_cluster σ r0 x1 = some x) : XM l yX11_cluster cX11_cluster 2 (some .int) 4 93 E hb [.ref (hb + r0), .int x1] σ (some (.int x)) σ := by
  refine xm_of (by decide) (Nat.le_of_ble_eq_true rfl) ⟨Nat.le_refl _, Nat.le_refl _⟩ (fun G hG C hl hQ => ?_)
  obtain ⟨rfl, rfl, rfl, hN⟩ := hG
  exact s_X11_cluster_e C h hQ
noncomputable def f_X11_commonDivisor_b7 : Int32 × Int32 × Int32 → Option ((Int32 × Int32 × Int32) ⊕ (Int32)) := fun a => match a with
  | (x2, x3, x4) => if (64 : Int32) ≤ x4 then ((some x2).map .inr) else if x3 = 0 then ((some x2).map .inr) else (xdz x3).bind fun _ => some (.inl (x3, x2 - x2 / x3 * x3, x4 + (1 : Int32)))
noncomputable def f_X11_commonDivisor (x0 : Int32) (x1 : Int32) : Option Int32 := xloop f_X11_commonDivisor_b7 (x0, x1, (0 : Int32))
theorem s_X11_commonDivisor_l7 {G : XG} (C : XC G cX11_commonDivisor RX11 (some .int) 6 0 0) {σ : XS} {a : Int32 × Int32 × Int32} {x : Int32} (hf : xloop (f_X11_commonDivisor_b7) a = some x) (hk : XEnd G (some (.int x)) σ) : WW G 7 [(2, .int a.1), (3, .int a.2.1), (4, .int a.2.2)] [] σ := by
  refine xloop_ind (P := fun a => WW G 7 [(2, .int a.1), (3, .int a.2.1), (4, .int a.2.2)] [] σ) (fun a y hf hc he => ?_) hf
  obtain ⟨x2, x3, x4⟩ := a
  have hk : (∀ a' : Int32 × Int32 × Int32, y = .inl a' → WW G 7 [(2, .int a'.1), (3, .int a'.2.1), (4, .int a'.2.2)] [] σ) ∧ (∀ b1 : Int32, y = .inr b1 → XEnd G (some (.int b1)) σ) := ⟨hc, fun b e => by have h9 := he b e; subst h9; exact hk⟩
  refine ww_iload (pc := 7) C 2 dX11_commonDivisor_7 rfl ?_
  refine ww_bipush (pc := 9) (v := (64 : Int32)) C dX11_commonDivisor_9 (by decide) ?_
  refine ww_icmp_ge (pc := 11) (tgt := 34) C dX11_commonDivisor_11 (by decide) (fun q => ?_) (fun q => ?_)
  · have hf := xip q hf
    obtain ⟨b0, hg, e9⟩ := xmj hf
    subst e9
    have hf := hg
    have hk := hk.2 _ rfl
    refine ww_iload_n (pc := 34) C 0 dX11_commonDivisor_34 rfl ?_
    have hf := xsj hf
    subst hf
    exact ww_iret (pc := 35) C hk dX11_commonDivisor_35
  · have hf := xin q hf
    refine ww_iload_n (pc := 14) C 1 dX11_commonDivisor_14 rfl ?_
    refine ww_if_eq (pc := 15) (tgt := 34) C dX11_commonDivisor_15 (by decide) (fun q => ?_) (fun q => ?_)
    · have hf := xip q hf
      obtain ⟨b0, hg, e9⟩ := xmj hf
      subst e9
      have hf := hg
      have hk := hk.2 _ rfl
      refine ww_iload_n (pc := 34) C 0 dX11_commonDivisor_34 rfl ?_
      have hf := xsj hf
      subst hf
      exact ww_iret (pc := 35) C hk dX11_commonDivisor_35
    · have hf := xin q hf
      refine ww_iload_n (pc := 18) C 0 dX11_commonDivisor_18 rfl ?_
      refine ww_iload_n (pc := 19) C 1 dX11_commonDivisor_19 rfl ?_
      obtain ⟨_, e1, hf⟩ := xbd hf
      refine ww_irem (pc := 20) C dX11_commonDivisor_20 (xdz_spec e1) ?_
      refine ww_istore (pc := 21) (lv' := [(5, .int (x2 - x2 / x3 * x3)), (2, .int x2), (3, .int x3), (4, .int x4)]) C dX11_commonDivisor_21 (by decide) rfl ?_
      refine ww_iload_n (pc := 23) C 2 dX11_commonDivisor_23 rfl ?_
      refine ww_istore_n (pc := 24) (lv' := [(2, .int x3), (5, .int (x2 - x2 / x3 * x3)), (3, .int x3), (4, .int x4)]) C dX11_commonDivisor_24 (by decide) rfl ?_
      refine ww_iload (pc := 25) C 1 dX11_commonDivisor_25 rfl ?_
      refine ww_istore_n (pc := 27) (lv' := [(3, .int (x2 - x2 / x3 * x3)), (2, .int x3), (5, .int (x2 - x2 / x3 * x3)), (4, .int x4)]) C dX11_commonDivisor_27 (by decide) rfl ?_
      refine ww_iinc (pc := 28) (v := x4 + (1 : Int32)) (lv' := [(4, .int (x4 + (1 : Int32))), (3, .int (x2 - x2 / x3 * x3)), (2, .int x3), (5, .int (x2 - x2 / x3 * x3))]) C 3 dX11_commonDivisor_28 rfl (congrArg (fun z => x4 + z) (show Int32.ofInt (1) = (1 : Int32) by decide)) (by decide) rfl ?_
      refine ww_goto (pc := 31) (tgt := 7) C dX11_commonDivisor_31 (by decide) ?_
      have hf := xsj hf
      subst hf
      refine ww_sub [2, 1, 0] rfl ?_
      exact hk.1 (x3, x2 - x2 / x3 * x3, x4 + (1 : Int32)) rfl
theorem s_X11_commonDivisor_e {G : XG} (C : XC G cX11_commonDivisor RX11 (some .int) 6 0 0) {σ : XS} {x0 : Int32} {x1 : Int32} {x : Int32} (hf : f_X11_commonDivisor x0 x1 = some x) (hk : XEnd G (some (.int x)) σ) : WW G 0 [(0, .int x0), (1, .int x1)] [] σ := by
  refine ww_iload_n (pc := 0) C 0 dX11_commonDivisor_0 rfl ?_
  refine ww_istore_n (pc := 1) (lv' := [(2, .int x0), (0, .int x0), (1, .int x1)]) C dX11_commonDivisor_1 (by decide) rfl ?_
  refine ww_iload_n (pc := 2) C 2 dX11_commonDivisor_2 rfl ?_
  refine ww_istore_n (pc := 3) (lv' := [(3, .int x1), (2, .int x0), (0, .int x0), (1, .int x1)]) C dX11_commonDivisor_3 (by decide) rfl ?_
  refine ww_iconst (pc := 4) (v := (0 : Int32)) C dX11_commonDivisor_4 (by decide) ?_
  refine ww_istore (pc := 5) (lv' := [(4, .int (0 : Int32)), (3, .int x1), (2, .int x0), (0, .int x0), (1, .int x1)]) C dX11_commonDivisor_5 (by decide) rfl ?_
  refine ww_sub [2, 1, 0] rfl ?_
  exact s_X11_commonDivisor_l7 C (a := (x0, x1, (0 : Int32))) hf hk
theorem k_X11_commonDivisor {l : Launch} {E : XD} {hb : Nat} {σ : XS} {x0 : Int32} {x1 : Int32} {x : Int32} (h : f_X11_commonDivisor x0 x1 = some x) : XM l yX11_commonDivisor cX11_commonDivisor 6 (some .int) 0 0 E hb [.int x0, .int x1] σ (some (.int x)) σ := by
  refine xm_of (by decide) (Nat.le_of_ble_eq_true rfl) ⟨Nat.le_refl _, Nat.le_refl _⟩ (fun G hG C hl hQ => ?_)
  obtain ⟨rfl, rfl, rfl, hN⟩ := hG
  exact s_X11_commonDivisor_e C h hQ
noncomputable def f_X11_countStates (σ : XS) (r0 : Nat) : Option Int32 := (xgR σ r0 11 2).bind fun z2 => (xgI σ z2 3 7).bind fun v4 => if v4 = 0 then (some (0 : Int32)) else (xgR σ r0 11 2).bind fun z6 => (xgI σ z6 3 7).bind fun v8 => (xgR σ r0 11 3).bind fun z10 => (xgI σ z10 6 2).bind fun v12 => (f_J6_bitCount_0f7a4 v12).bind fun v14 => some ((1 : Int32) <<< ((v8 - v14) &&& 31))
theorem s_X11_countStates_e {G : XG} (C : XC G cX11_countStates RX11 (some .int) 1 1 20) {σ : XS} {r0 : Nat} {x : Int32} (hf : f_X11_countStates σ r0 = some x) (hk : XEnd G (some (.int x)) σ) : WW G 0 [(0, .ref (gB G + r0))] [] σ := by
  refine ww_aload_n (pc := 0) C 0 dX11_countStates_0 rfl ?_
  obtain ⟨z2, e1, hf⟩ := xbd hf
  refine gf_X11_24 (pc := 1) C e1 dX11_countStates_1 ?_
  obtain ⟨v4, e3, hf⟩ := xbd hf
  refine gf_X11_197 (pc := 4) C e3 dX11_countStates_4 ?_
  refine ww_if_ne (pc := 7) (tgt := 14) C dX11_countStates_7 (by decide) (fun q => ?_) (fun q => ?_)
  · have hf := xin q hf
    refine ww_iconst (pc := 14) (v := (1 : Int32)) C dX11_countStates_14 (by decide) ?_
    refine ww_aload_n (pc := 15) C 0 dX11_countStates_15 rfl ?_
    obtain ⟨z6, e5, hf⟩ := xbd hf
    refine gf_X11_24 (pc := 16) C e5 dX11_countStates_16 ?_
    obtain ⟨v8, e7, hf⟩ := xbd hf
    refine gf_X11_197 (pc := 19) C e7 dX11_countStates_19 ?_
    refine ww_aload_n (pc := 22) C 0 dX11_countStates_22 rfl ?_
    obtain ⟨z10, e9, hf⟩ := xbd hf
    refine gf_X11_31 (pc := 23) C e9 dX11_countStates_23 ?_
    obtain ⟨v12, e11, hf⟩ := xbd hf
    refine gf_X11_191 (pc := 26) C e11 dX11_countStates_26 ?_
    obtain ⟨v14, e13, hf⟩ := xbd hf
    refine ww_callSi (pc := 29) (as := [.int v12]) (st := [.int v8, .int (1 : Int32)]) C (k_J6_bitCount_0f7a4 (l := gl G) (E := gE G) (hb := gB G) (σ := σ) e13) xc_X11_374 q883 rfl (by decide) (xst4 (Nat.le_of_ble_eq_true rfl)) xsame.rf.le xsame.rf.lim dX11_countStates_29 ?_
    refine ww_isub (pc := 32) C dX11_countStates_32 ?_
    refine ww_ishl (pc := 33) C dX11_countStates_33 ?_
    have hf := xsj hf
    subst hf
    exact ww_iret (pc := 34) C hk dX11_countStates_34
  · have hf := xip q hf
    refine ww_iconst (pc := 10) (v := (0 : Int32)) C dX11_countStates_10 (by decide) ?_
    refine ww_goto (pc := 11) (tgt := 34) C dX11_countStates_11 (by decide) ?_
    have hf := xsj hf
    subst hf
    exact ww_iret (pc := 34) C hk dX11_countStates_34
theorem k_X11_countStates {l : Launch} {E : XD} {hb : Nat} {σ : XS} {r0 : Nat} {x : Int32} (h : f_X11_countStates σ r0 = some x) : XM l yX11_countStates cX11_countStates 1 (some .int) 1 20 E hb [.ref (hb + r0)] σ (some (.int x)) σ := by
  refine xm_of (by decide) (Nat.le_of_ble_eq_true rfl) ⟨Nat.le_refl _, Nat.le_refl _⟩ (fun G hG C hl hQ => ?_)
  obtain ⟨rfl, rfl, rfl, hN⟩ := hG
  exact s_X11_countStates_e C h hQ
noncomputable def f_X3_countTies_b4 (σ : XS) (r0 : Nat) : Int32 × Int32 → Option ((Int32 × Int32) ⊕ (Int32)) := fun a => match a with
  | (x1, x2) => if (32 : Int32) ≤ x2 then ((some x1).map .inr) else (xck σ r0 3).bind fun _ => (f_X3_endAt σ r0 x2).bind fun v3 => if v3 = (-1 : Int32) then (some (.inl (x1, x2 + (1 : Int32)))) else some (.inl (x1 + (1 : Int32), x2 + (1 : Int32)))
noncomputable def f_X3_countTies (σ : XS) (r0 : Nat) : Option Int32 := xloop (f_X3_countTies_b4 σ r0) ((0 : Int32), (0 : Int32))
theorem s_X3_countTies_l4 {G : XG} (C : XC G cX3_countTies RX3 (some .int) 3 1 21) {σ : XS} {r0 : Nat} {a : Int32 × Int32} {x : Int32} (hf : xloop (f_X3_countTies_b4 σ r0) a = some x) (hk : XEnd G (some (.int x)) σ) : WW G 4 [(0, .ref (gB G + r0)), (1, .int a.1), (2, .int a.2)] [] σ := by
  refine xloop_ind (P := fun a => WW G 4 [(0, .ref (gB G + r0)), (1, .int a.1), (2, .int a.2)] [] σ) (fun a y hf hc he => ?_) hf
  obtain ⟨x1, x2⟩ := a
  have hk : (∀ a' : Int32 × Int32, y = .inl a' → WW G 4 [(0, .ref (gB G + r0)), (1, .int a'.1), (2, .int a'.2)] [] σ) ∧ (∀ b1 : Int32, y = .inr b1 → XEnd G (some (.int b1)) σ) := ⟨hc, fun b e => by have h9 := he b e; subst h9; exact hk⟩
  refine ww_iload_n (pc := 4) C 2 dX3_countTies_4 rfl ?_
  refine ww_bipush (pc := 5) (v := (32 : Int32)) C dX3_countTies_5 (by decide) ?_
  refine ww_icmp_ge (pc := 7) (tgt := 28) C dX3_countTies_7 (by decide) (fun q => ?_) (fun q => ?_)
  · have hf := xip q hf
    obtain ⟨b0, hg, e9⟩ := xmj hf
    subst e9
    have hf := hg
    have hk := hk.2 _ rfl
    refine ww_iload_n (pc := 28) C 1 dX3_countTies_28 rfl ?_
    have hf := xsj hf
    subst hf
    exact ww_iret (pc := 29) C hk dX3_countTies_29
  · have hf := xin q hf
    refine ww_aload_n (pc := 10) C 0 dX3_countTies_10 rfl ?_
    refine ww_iload_n (pc := 11) C 2 dX3_countTies_11 rfl ?_
    obtain ⟨_, e1, hf⟩ := xbd hf
    obtain ⟨v3, e2, hf⟩ := xbd hf
    refine ww_callVi (pc := 12) (as := [.int x2]) (st := []) C (k_X3_endAt (l := gl G) (E := gE G) (hb := gB G) (σ := σ) e2) rfl (by decide) xc_X3_59 q703 qp38 (xck_spec e1) rfl (by decide) (xst4 (Nat.le_of_ble_eq_true rfl)) xsame.rf.le xsame.rf.lim dX3_countTies_12 ?_
    refine ww_iconst (pc := 15) (v := (-1 : Int32)) C dX3_countTies_15 (by decide) ?_
    refine ww_icmp_eq (pc := 16) (tgt := 22) C dX3_countTies_16 (by decide) (fun q => ?_) (fun q => ?_)
    · have hf := xip q hf
      refine ww_iinc (pc := 22) (v := x2 + (1 : Int32)) (lv' := [(2, .int (x2 + (1 : Int32))), (0, .ref (gB G + r0)), (1, .int x1)]) C 2 dX3_countTies_22 rfl (congrArg (fun z => x2 + z) (show Int32.ofInt (1) = (1 : Int32) by decide)) (by decide) rfl ?_
      refine ww_goto (pc := 25) (tgt := 4) C dX3_countTies_25 (by decide) ?_
      have hf := xsj hf
      subst hf
      refine ww_sub [1, 2, 0] rfl ?_
      exact hk.1 (x1, x2 + (1 : Int32)) rfl
    · have hf := xin q hf
      refine ww_iinc (pc := 19) (v := x1 + (1 : Int32)) (lv' := [(1, .int (x1 + (1 : Int32))), (0, .ref (gB G + r0)), (2, .int x2)]) C 1 dX3_countTies_19 rfl (congrArg (fun z => x1 + z) (show Int32.ofInt (1) = (1 : Int32) by decide)) (by decide) rfl ?_
      refine ww_iinc (pc := 22) (v := x2 + (1 : Int32)) (lv' := [(2, .int (x2 + (1 : Int32))), (1, .int (x1 + (1 : Int32))), (0, .ref (gB G + r0))]) C 2 dX3_countTies_22 rfl (congrArg (fun z => x2 + z) (show Int32.ofInt (1) = (1 : Int32) by decide)) (by decide) rfl ?_
      refine ww_goto (pc := 25) (tgt := 4) C dX3_countTies_25 (by decide) ?_
      have hf := xsj hf
      subst hf
      refine ww_sub [2, 1, 0] rfl ?_
      exact hk.1 (x1 + (1 : Int32), x2 + (1 : Int32)) rfl
theorem s_X3_countTies_e {G : XG} (C : XC G cX3_countTies RX3 (some .int) 3 1 21) {σ : XS} {r0 : Nat} {x : Int32} (hf : f_X3_countTies σ r0 = some x) (hk : XEnd G (some (.int x)) σ) : WW G 0 [(0, .ref (gB G + r0))] [] σ := by
  refine ww_iconst (pc := 0) (v := (0 : Int32)) C dX3_countTies_0 (by decide) ?_
  refine ww_istore_n (pc := 1) (lv' := [(1, .int (0 : Int32)), (0, .ref (gB G + r0))]) C dX3_countTies_1 (by decide) rfl ?_
  refine ww_iconst (pc := 2) (v := (0 : Int32)) C dX3_countTies_2 (by decide) ?_
  refine ww_istore_n (pc := 3) (lv' := [(2, .int (0 : Int32)), (1, .int (0 : Int32)), (0, .ref (gB G + r0))]) C dX3_countTies_3 (by decide) rfl ?_
  refine ww_sub [2, 1, 0] rfl ?_
  exact s_X3_countTies_l4 C (a := ((0 : Int32), (0 : Int32))) hf hk
theorem k_X3_countTies {l : Launch} {E : XD} {hb : Nat} {σ : XS} {r0 : Nat} {x : Int32} (h : f_X3_countTies σ r0 = some x) : XM l yX3_countTies cX3_countTies 3 (some .int) 1 21 E hb [.ref (hb + r0)] σ (some (.int x)) σ := by
  refine xm_of (by decide) (Nat.le_of_ble_eq_true rfl) ⟨Nat.le_refl _, Nat.le_refl _⟩ (fun G hG C hl hQ => ?_)
  obtain ⟨rfl, rfl, rfl, hN⟩ := hG
  exact s_X3_countTies_e C h hQ
noncomputable def f_X11_countFullSlots_b4 (σ : XS) (r0 : Nat) : Int32 × Int32 → Option ((Int32 × Int32) ⊕ (Int32)) := fun a => match a with
  | (x1, x2) => (xgR σ r0 11 5).bind fun z2 => (xal σ z2).bind fun v4 => if v4 ≤ x2 then ((some x1).map .inr) else (xgR σ r0 11 5).bind fun z6 => (xaR σ 25 z6 x2).bind fun z8 => (xgI σ z8 7 2).bind fun v10 => if v10 = 0 then (some (.inl (x1, x2 + (1 : Int32)))) else some (.inl (x1 + (1 : Int32), x2 + (1 : Int32)))
noncomputable def f_X11_countFullSlots (σ : XS) (r0 : Nat) : Option Int32 := xloop (f_X11_countFullSlots_b4 σ r0) ((0 : Int32), (0 : Int32))
theorem s_X11_countFullSlots_l4 {G : XG} (C : XC G cX11_countFullSlots RX11 (some .int) 3 0 0) {σ : XS} {r0 : Nat} {a : Int32 × Int32} {x : Int32} (hf : xloop (f_X11_countFullSlots_b4 σ r0) a = some x) (hk : XEnd G (some (.int x)) σ) : WW G 4 [(0, .ref (gB G + r0)), (1, .int a.1), (2, .int a.2)] [] σ := by
  refine xloop_ind (P := fun a => WW G 4 [(0, .ref (gB G + r0)), (1, .int a.1), (2, .int a.2)] [] σ) (fun a y hf hc he => ?_) hf
  obtain ⟨x1, x2⟩ := a
  have hk : (∀ a' : Int32 × Int32, y = .inl a' → WW G 4 [(0, .ref (gB G + r0)), (1, .int a'.1), (2, .int a'.2)] [] σ) ∧ (∀ b1 : Int32, y = .inr b1 → XEnd G (some (.int b1)) σ) := ⟨hc, fun b e => by have h9 := he b e; subst h9; exact hk⟩
  refine ww_iload_n (pc := 4) C 2 dX11_countFullSlots_4 rfl ?_
  refine ww_aload_n (pc := 5) C 0 dX11_countFullSlots_5 rfl ?_
  obtain ⟨z2, e1, hf⟩ := xbd hf
  refine gf_X11_44 (pc := 6) C e1 dX11_countFullSlots_6 ?_
  obtain ⟨v4, e3, hf⟩ := xbd hf
  refine ww_alen (pc := 9) C e3 dX11_countFullSlots_9 ?_
  refine ww_icmp_ge (pc := 10) (tgt := 34) C dX11_countFullSlots_10 (by decide) (fun q => ?_) (fun q => ?_)
  · have hf := xip q hf
    obtain ⟨b0, hg, e9⟩ := xmj hf
    subst e9
    have hf := hg
    have hk := hk.2 _ rfl
    refine ww_iload_n (pc := 34) C 1 dX11_countFullSlots_34 rfl ?_
    have hf := xsj hf
    subst hf
    exact ww_iret (pc := 35) C hk dX11_countFullSlots_35
  · have hf := xin q hf
    refine ww_aload_n (pc := 13) C 0 dX11_countFullSlots_13 rfl ?_
    obtain ⟨z6, e5, hf⟩ := xbd hf
    refine gf_X11_44 (pc := 14) C e5 dX11_countFullSlots_14 ?_
    refine ww_iload_n (pc := 17) C 2 dX11_countFullSlots_17 rfl ?_
    obtain ⟨z8, e7, hf⟩ := xbd hf
    refine ww_aald (pc := 18) (by decide) C e7 dX11_countFullSlots_18 ?_
    obtain ⟨v10, e9, hf⟩ := xbd hf
    refine gf_X11_150 (pc := 19) C e9 dX11_countFullSlots_19 ?_
    refine ww_if_eq (pc := 22) (tgt := 28) C dX11_countFullSlots_22 (by decide) (fun q => ?_) (fun q => ?_)
    · have hf := xip q hf
      refine ww_iinc (pc := 28) (v := x2 + (1 : Int32)) (lv' := [(2, .int (x2 + (1 : Int32))), (0, .ref (gB G + r0)), (1, .int x1)]) C 2 dX11_countFullSlots_28 rfl (congrArg (fun z => x2 + z) (show Int32.ofInt (1) = (1 : Int32) by decide)) (by decide) rfl ?_
      refine ww_goto (pc := 31) (tgt := 4) C dX11_countFullSlots_31 (by decide) ?_
      have hf := xsj hf
      subst hf
      refine ww_sub [1, 2, 0] rfl ?_
      exact hk.1 (x1, x2 + (1 : Int32)) rfl
    · have hf := xin q hf
      refine ww_iinc (pc := 25) (v := x1 + (1 : Int32)) (lv' := [(1, .int (x1 + (1 : Int32))), (0, .ref (gB G + r0)), (2, .int x2)]) C 1 dX11_countFullSlots_25 rfl (congrArg (fun z => x1 + z) (show Int32.ofInt (1) = (1 : Int32) by decide)) (by decide) rfl ?_
      refine ww_iinc (pc := 28) (v := x2 + (1 : Int32)) (lv' := [(2, .int (x2 + (1 : Int32))), (1, .int (x1 + (1 : Int32))), (0, .ref (gB G + r0))]) C 2 dX11_countFullSlots_28 rfl (congrArg (fun z => x2 + z) (show Int32.ofInt (1) = (1 : Int32) by decide)) (by decide) rfl ?_
      refine ww_goto (pc := 31) (tgt := 4) C dX11_countFullSlots_31 (by decide) ?_
      have hf := xsj hf
      subst hf
      refine ww_sub [2, 1, 0] rfl ?_
      exact hk.1 (x1 + (1 : Int32), x2 + (1 : Int32)) rfl
theorem s_X11_countFullSlots_e {G : XG} (C : XC G cX11_countFullSlots RX11 (some .int) 3 0 0) {σ : XS} {r0 : Nat} {x : Int32} (hf : f_X11_countFullSlots σ r0 = some x) (hk : XEnd G (some (.int x)) σ) : WW G 0 [(0, .ref (gB G + r0))] [] σ := by
  refine ww_iconst (pc := 0) (v := (0 : Int32)) C dX11_countFullSlots_0 (by decide) ?_
  refine ww_istore_n (pc := 1) (lv' := [(1, .int (0 : Int32)), (0, .ref (gB G + r0))]) C dX11_countFullSlots_1 (by decide) rfl ?_
  refine ww_iconst (pc := 2) (v := (0 : Int32)) C dX11_countFullSlots_2 (by decide) ?_
  refine ww_istore_n (pc := 3) (lv' := [(2, .int (0 : Int32)), (1, .int (0 : Int32)), (0, .ref (gB G + r0))]) C dX11_countFullSlots_3 (by decide) rfl ?_
  refine ww_sub [2, 1, 0] rfl ?_
  exact s_X11_countFullSlots_l4 C (a := ((0 : Int32), (0 : Int32))) hf hk
theorem k_X11_countFullSlots {l : Launch} {E : XD} {hb : Nat} {σ : XS} {r0 : Nat} {x : Int32} (h : f_X11_countFullSlots σ r0 = some x) : XM l yX11_countFullSlots cX11_countFullSlots 3 (some .int) 0 0 E hb [.ref (hb + r0)] σ (some (.int x)) σ := by
  refine xm_of (by decide) (Nat.le_of_ble_eq_true rfl) ⟨Nat.le_refl _, Nat.le_refl _⟩ (fun G hG C hl hQ => ?_)
  obtain ⟨rfl, rfl, rfl, hN⟩ := hG
  exact s_X11_countFullSlots_e C h hQ
noncomputable def f_X3_countClusters_b7 (σ : XS) (r0 : Nat) (x1 : Int32) : Int32 × Int32 × Int32 → Option ((Int32 × Int32 × Int32) ⊕ (Int32)) := fun a => match a with
  | (x2, x3, x4) => (xgI σ r0 3 7).bind fun v2 => if v2 ≤ x4 then ((some x3).map .inr) else (f_X11_bitOf x2 x4).bind fun v4 => if v4 = 0 then ((xck σ r0 3).bind fun _ => (f_X3_clusterOf σ r0 x1 x4).bind fun v7 => some (.inl (x2 ||| v7, x3 + (1 : Int32), x4 + (1 : Int32)))) else some (.inl (x2, x3, x4 + (1 : Int32)))
noncomputable def f_X3_countClusters (σ : XS) (r0 : Nat) (x1 : Int32) : Option Int32 := xloop (f_X3_countClusters_b7 σ r0 x1) ((0 : Int32), (0 : Int32), (0 : Int32))
theorem s_X3_countClusters_l7 {G : XG} (C : XC G cX3_countClusters RX3 (some .int) 5 4 93) {σ : XS} {r0 : Nat} {x1 : Int32} {a : Int32 × Int32 × Int32} {x : Int32} (hf : xloop (f_X3_countClusters_b7 σ r0 x1) a = some x) (hk : XEnd G (some (.int x)) σ) : WW G 7 [(0, .ref (gB G + r0)), (1, .int x1), (2, .int a.1), (3, .int a.2.1), (4, .int a.2.2)] [] σ := by
  refine xloop_ind (P := fun a => WW G 7 [(0, .ref (gB G + r0)), (1, .int x1), (2, .int a.1), (3, .int a.2.1), (4, .int a.2.2)] [] σ) (fun a y hf hc he => ?_) hf
  obtain ⟨x2, x3, x4⟩ := a
  have hk : (∀ a' : Int32 × Int32 × Int32, y = .inl a' → WW G 7 [(0, .ref (gB G + r0)), (1, .int x1), (2, .int a'.1), (3, .int a'.2.1), (4, .int a'.2.2)] [] σ) ∧ (∀ b1 : Int32, y = .inr b1 → XEnd G (some (.int b1)) σ) := ⟨hc, fun b e => by have h9 := he b e; subst h9; exact hk⟩
  refine ww_iload (pc := 7) C 4 dX3_countClusters_7 rfl ?_
  refine ww_aload_n (pc := 9) C 0 dX3_countClusters_9 rfl ?_
  obtain ⟨v2, e1, hf⟩ := xbd hf
  refine gf_X3_40 (pc := 10) C e1 dX3_countClusters_10 ?_
  refine ww_icmp_ge (pc := 13) (tgt := 44) C dX3_countClusters_13 (by decide) (fun q => ?_) (fun q => ?_)
  · have hf := xip q hf
    obtain ⟨b0, hg, e9⟩ := xmj hf
    subst e9
    have hf := hg
    have hk := hk.2 _ rfl
    refine ww_iload_n (pc := 44) C 3 dX3_countClusters_44 rfl ?_
    have hf := xsj hf
    subst hf
    exact ww_iret (pc := 45) C hk dX3_countClusters_45
  · have hf := xin q hf
    refine ww_iload_n (pc := 16) C 2 dX3_countClusters_16 rfl ?_
    refine ww_iload (pc := 17) C 4 dX3_countClusters_17 rfl ?_
    obtain ⟨v4, e3, hf⟩ := xbd hf
    refine ww_callSi (pc := 19) (as := [.int x2, .int x4]) (st := []) C (k_X11_bitOf (l := gl G) (E := gE G) (hb := gB G) (σ := σ) e3) xc_X3_62 q655 rfl (by decide) (xst4 (Nat.le_of_ble_eq_true rfl)) xsame.rf.le xsame.rf.lim dX3_countClusters_19 ?_
    refine ww_if_ne (pc := 22) (tgt := 38) C dX3_countClusters_22 (by decide) (fun q => ?_) (fun q => ?_)
    · have hf := xin q hf
      refine ww_iinc (pc := 38) (v := x4 + (1 : Int32)) (lv' := [(4, .int (x4 + (1 : Int32))), (0, .ref (gB G + r0)), (1, .int x1), (2, .int x2), (3, .int x3)]) C 4 dX3_countClusters_38 rfl (congrArg (fun z => x4 + z) (show Int32.ofInt (1) = (1 : Int32) by decide)) (by decide) rfl ?_
      refine ww_goto (pc := 41) (tgt := 7) C dX3_countClusters_41 (by decide) ?_
      have hf := xsj hf
      subst hf
      refine ww_sub [1, 2, 3, 4, 0] rfl ?_
      exact hk.1 (x2, x3, x4 + (1 : Int32)) rfl
    · have hf := xip q hf
      refine ww_iload_n (pc := 25) C 2 dX3_countClusters_25 rfl ?_
      refine ww_aload_n (pc := 26) C 0 dX3_countClusters_26 rfl ?_
      refine ww_iload_n (pc := 27) C 1 dX3_countClusters_27 rfl ?_
      refine ww_iload (pc := 28) C 4 dX3_countClusters_28 rfl ?_
      obtain ⟨_, e5, hf⟩ := xbd hf
      obtain ⟨v7, e6, hf⟩ := xbd hf
      refine ww_callVi (pc := 30) (as := [.int x1, .int x4]) (st := [.int x2]) C (k_X3_clusterOf (l := gl G) (E := gE G) (hb := gB G) (σ := σ) e6) rfl (by decide) xc_X3_92 q830 qp53 (xck_spec e5) rfl (by decide) (xst4 (Nat.le_of_ble_eq_true rfl)) xsame.rf.le xsame.rf.lim dX3_countClusters_30 ?_
      refine ww_ior (pc := 33) C dX3_countClusters_33 ?_
      refine ww_istore_n (pc := 34) (lv' := [(2, .int (x2 ||| v7)), (0, .ref (gB G + r0)), (1, .int x1), (3, .int x3), (4, .int x4)]) C dX3_countClusters_34 (by decide) rfl ?_
      refine ww_iinc (pc := 35) (v := x3 + (1 : Int32)) (lv' := [(3, .int (x3 + (1 : Int32))), (2, .int (x2 ||| v7)), (0, .ref (gB G + r0)), (1, .int x1), (4, .int x4)]) C 3 dX3_countClusters_35 rfl (congrArg (fun z => x3 + z) (show Int32.ofInt (1) = (1 : Int32) by decide)) (by decide) rfl ?_
      refine ww_iinc (pc := 38) (v := x4 + (1 : Int32)) (lv' := [(4, .int (x4 + (1 : Int32))), (3, .int (x3 + (1 : Int32))), (2, .int (x2 ||| v7)), (0, .ref (gB G + r0)), (1, .int x1)]) C 4 dX3_countClusters_38 rfl (congrArg (fun z => x4 + z) (show Int32.ofInt (1) = (1 : Int32) by decide)) (by decide) rfl ?_
      refine ww_goto (pc := 41) (tgt := 7) C dX3_countClusters_41 (by decide) ?_
      have hf := xsj hf
      subst hf
      refine ww_sub [3, 4, 2, 1, 0] rfl ?_
      exact hk.1 (x2 ||| v7, x3 + (1 : Int32), x4 + (1 : Int32)) rfl
theorem s_X3_countClusters_e {G : XG} (C : XC G cX3_countClusters RX3 (some .int) 5 4 93) {σ : XS} {r0 : Nat} {x1 : Int32} {x : Int32} (hf : f_X3_countClusters σ r0 x1 = some x) (hk : XEnd G (some (.int x)) σ) : WW G 0 [(0, .ref (gB G + r0)), (1, .int x1)] [] σ := by
  refine ww_iconst (pc := 0) (v := (0 : Int32)) C dX3_countClusters_0 (by decide) ?_
  refine ww_istore_n (pc := 1) (lv' := [(2, .int (0 : Int32)), (0, .ref (gB G + r0)), (1, .int x1)]) C dX3_countClusters_1 (by decide) rfl ?_
  refine ww_iconst (pc := 2) (v := (0 : Int32)) C dX3_countClusters_2 (by decide) ?_
  refine ww_istore_n (pc := 3) (lv' := [(3, .int (0 : Int32)), (2, .int (0 : Int32)), (0, .ref (gB G + r0)), (1, .int x1)]) C dX3_countClusters_3 (by decide) rfl ?_
  refine ww_iconst (pc := 4) (v := (0 : Int32)) C dX3_countClusters_4 (by decide) ?_
  refine ww_istore (pc := 5) (lv' := [(4, .int (0 : Int32)), (3, .int (0 : Int32)), (2, .int (0 : Int32)), (0, .ref (gB G + r0)), (1, .int x1)]) C dX3_countClusters_5 (by decide) rfl ?_
  refine ww_sub [3, 4, 2, 1, 0] rfl ?_
  exact s_X3_countClusters_l7 C (a := ((0 : Int32), (0 : Int32), (0 : Int32))) hf hk
theorem k_X3_countClusters {l : Launch} {E : XD} {hb : Nat} {σ : XS} {r0 : Nat} {x1 : Int32} {x : Int32} (h : f_X3_countClusters σ r0 x1 = some x) : XM l yX3_countClusters cX3_countClusters 5 (some .int) 4 93 E hb [.ref (hb + r0), .int x1] σ (some (.int x)) σ := by
  refine xm_of (by decide) (Nat.le_of_ble_eq_true rfl) ⟨Nat.le_refl _, Nat.le_refl _⟩ (fun G hG C hl hQ => ?_)
  obtain ⟨rfl, rfl, rfl, hN⟩ := hG
  exact s_X3_countClusters_e C h hQ
noncomputable def f_X3_greatestCluster_b4 (σ : XS) (r0 : Nat) (x1 : Int32) : Int32 × Int32 → Option ((Int32 × Int32) ⊕ (Int32)) := fun a => match a with
  | (x2, x3) => (xgI σ r0 3 7).bind fun v2 => if v2 ≤ x3 then ((some x2).map .inr) else (xck σ r0 3).bind fun _ => (f_X3_clusterOf σ r0 x1 x3).bind fun v5 => (f_J6_bitCount_0f7a4 v5).bind fun v7 => some (.inl (xmax x2 v7, x3 + (1 : Int32)))
noncomputable def f_X3_greatestCluster (σ : XS) (r0 : Nat) (x1 : Int32) : Option Int32 := xloop (f_X3_greatestCluster_b4 σ r0 x1) ((0 : Int32), (0 : Int32))
theorem s_X3_greatestCluster_l4 {G : XG} (C : XC G cX3_greatestCluster RX3 (some .int) 4 4 93) {σ : XS} {r0 : Nat} {x1 : Int32} {a : Int32 × Int32} {x : Int32} (hf : xloop (f_X3_greatestCluster_b4 σ r0 x1) a = some x) (hk : XEnd G (some (.int x)) σ) : WW G 4 [(0, .ref (gB G + r0)), (1, .int x1), (2, .int a.1), (3, .int a.2)] [] σ := by
  refine xloop_ind (P := fun a => WW G 4 [(0, .ref (gB G + r0)), (1, .int x1), (2, .int a.1), (3, .int a.2)] [] σ) (fun a y hf hc he => ?_) hf
  obtain ⟨x2, x3⟩ := a
  have hk : (∀ a' : Int32 × Int32, y = .inl a' → WW G 4 [(0, .ref (gB G + r0)), (1, .int x1), (2, .int a'.1), (3, .int a'.2)] [] σ) ∧ (∀ b1 : Int32, y = .inr b1 → XEnd G (some (.int b1)) σ) := ⟨hc, fun b e => by have h9 := he b e; subst h9; exact hk⟩
  refine ww_iload_n (pc := 4) C 3 dX3_greatestCluster_4 rfl ?_
  refine ww_aload_n (pc := 5) C 0 dX3_greatestCluster_5 rfl ?_
  obtain ⟨v2, e1, hf⟩ := xbd hf
  refine gf_X3_40 (pc := 6) C e1 dX3_greatestCluster_6 ?_
  refine ww_icmp_ge (pc := 9) (tgt := 32) C dX3_greatestCluster_9 (by decide) (fun q => ?_) (fun q => ?_)
  · have hf := xip q hf
    obtain ⟨b0, hg, e9⟩ := xmj hf
    subst e9
    have hf := hg
    have hk := hk.2 _ rfl
    refine ww_iload_n (pc := 32) C 2 dX3_greatestCluster_32 rfl ?_
    have hf := xsj hf
    subst hf
    exact ww_iret (pc := 33) C hk dX3_greatestCluster_33
  · have hf := xin q hf
    refine ww_iload_n (pc := 12) C 2 dX3_greatestCluster_12 rfl ?_
    refine ww_aload_n (pc := 13) C 0 dX3_greatestCluster_13 rfl ?_
    refine ww_iload_n (pc := 14) C 1 dX3_greatestCluster_14 rfl ?_
    refine ww_iload_n (pc := 15) C 3 dX3_greatestCluster_15 rfl ?_
    obtain ⟨_, e3, hf⟩ := xbd hf
    obtain ⟨v5, e4, hf⟩ := xbd hf
    refine ww_callVi (pc := 16) (as := [.int x1, .int x3]) (st := [.int x2]) C (k_X3_clusterOf (l := gl G) (E := gE G) (hb := gB G) (σ := σ) e4) rfl (by decide) xc_X3_92 q830 qp53 (xck_spec e3) rfl (by decide) (xst4 (Nat.le_of_ble_eq_true rfl)) xsame.rf.le xsame.rf.lim dX3_greatestCluster_16 ?_
    obtain ⟨v7, e6, hf⟩ := xbd hf
    refine ww_callSi (pc := 19) (as := [.int v5]) (st := [.int x2]) C (k_J6_bitCount_0f7a4 (l := gl G) (E := gE G) (hb := gB G) (σ := σ) e6) xc_X3_95 q883 rfl (by decide) (xst4 (Nat.le_of_ble_eq_true rfl)) xsame.rf.le xsame.rf.lim dX3_greatestCluster_19 ?_
    refine ww_mmax (pc := 22) C q1240 q1241 q20 qm_mmax ⟨by decide, Nat.le_trans (Nat.add_le_add_right (xst4 (Nat.le_of_ble_eq_true rfl)) 13) (by decide)⟩ dX3_greatestCluster_22 ?_
    refine ww_istore_n (pc := 25) (lv' := [(2, .int (xmax x2 v7)), (0, .ref (gB G + r0)), (1, .int x1), (3, .int x3)]) C dX3_greatestCluster_25 (by decide) rfl ?_
    refine ww_iinc (pc := 26) (v := x3 + (1 : Int32)) (lv' := [(3, .int (x3 + (1 : Int32))), (2, .int (xmax x2 v7)), (0, .ref (gB G + r0)), (1, .int x1)]) C 3 dX3_greatestCluster_26 rfl (congrArg (fun z => x3 + z) (show Int32.ofInt (1) = (1 : Int32) by decide)) (by decide) rfl ?_
    refine ww_goto (pc := 29) (tgt := 4) C dX3_greatestCluster_29 (by decide) ?_
    have hf := xsj hf
    subst hf
    refine ww_sub [2, 3, 1, 0] rfl ?_
    exact hk.1 (xmax x2 v7, x3 + (1 : Int32)) rfl
theorem s_X3_greatestCluster_e {G : XG} (C : XC G cX3_greatestCluster RX3 (some .int) 4 4 93) {σ : XS} {r0 : Nat} {x1 : Int32} {x : Int32} (hf : f_X3_greatestCluster σ r0 x1 = some x) (hk : XEnd G (some (.int x)) σ) : WW G 0 [(0, .ref (gB G + r0)), (1, .int x1)] [] σ := by
  refine ww_iconst (pc := 0) (v := (0 : Int32)) C dX3_greatestCluster_0 (by decide) ?_
  refine ww_istore_n (pc := 1) (lv' := [(2, .int (0 : Int32)), (0, .ref (gB G + r0)), (1, .int x1)]) C dX3_greatestCluster_1 (by decide) rfl ?_
  refine ww_iconst (pc := 2) (v := (0 : Int32)) C dX3_greatestCluster_2 (by decide) ?_
  refine ww_istore_n (pc := 3) (lv' := [(3, .int (0 : Int32)), (2, .int (0 : Int32)), (0, .ref (gB G + r0)), (1, .int x1)]) C dX3_greatestCluster_3 (by decide) rfl ?_
  refine ww_sub [2, 3, 1, 0] rfl ?_
  exact s_X3_greatestCluster_l4 C (a := ((0 : Int32), (0 : Int32))) hf hk
theorem k_X3_greatestCluster {l : Launch} {E : XD} {hb : Nat} {σ : XS} {r0 : Nat} {x1 : Int32} {x : Int32} (h : f_X3_greatestCluster σ r0 x1 = some x) : XM l yX3_greatestCluster cX3_greatestCluster 4 (some .int) 4 93 E hb [.ref (hb + r0), .int x1] σ (some (.int x)) σ := by
  refine xm_of (by decide) (Nat.le_of_ble_eq_true rfl) ⟨Nat.le_refl _, Nat.le_refl _⟩ (fun G hG C hl hQ => ?_)
  obtain ⟨rfl, rfl, rfl, hN⟩ := hG
  exact s_X3_greatestCluster_e C h hQ
noncomputable def f_X3_squareOf (σ : XS) (r0 : Nat) (r1 : Nat) (x2 : Int32) : Option Int32 := (xck σ r0 3).bind fun _ => (f_X3_endAt σ r0 x2).bind fun v3 => (xck σ r0 3).bind fun _ => (f_X3_endAt σ r0 ((16 : Int32) + x2)).bind fun v6 => if v3 = (-1 : Int32) then (some (-2 : Int32)) else if v6 = (-1 : Int32) then (some (-2 : Int32)) else (xck σ r1 6).bind fun _ => (f_X6_bondAt σ r1 x2).bind fun v9 => (xck σ r1 6).bind fun _ => (f_X6_bondAt σ r1 ((16 : Int32) + x2)).bind fun v12 => (xck σ r1 6).bind fun _ => (f_X6_bondAt σ r1 ((16 : Int32) + v3)).bind fun v15 => (xck σ r1 6).bind fun _ => (f_X6_bondAt σ r1 v6).bind fun v18 => if 0 ≤ (((v9 * v12) * v15) * v18) then (some (0 : Int32)) else some (1 : Int32)
theorem s_X3_squareOf_e {G : XG} (C : XC G cX3_squareOf RX3 (some .int) 6 1 21) {σ : XS} {r0 : Nat} {r1 : Nat} {x2 : Int32} {x : Int32} (hf : f_X3_squareOf σ r0 r1 x2 = some x) (hk : XEnd G (some (.int x)) σ) : WW G 0 [(0, .ref (gB G + r0)), (1, .ref (gB G + r1)), (2, .int x2)] [] σ := by
  refine ww_aload_n (pc := 0) C 0 dX3_squareOf_0 rfl ?_
  refine ww_iload_n (pc := 1) C 2 dX3_squareOf_1 rfl ?_
  obtain ⟨_, e1, hf⟩ := xbd hf
  obtain ⟨v3, e2, hf⟩ := xbd hf
  refine ww_callVi (pc := 2) (as := [.int x2]) (st := []) C (k_X3_endAt (l := gl G) (E := gE G) (hb := gB G) (σ := σ) e2) rfl (by decide) xc_X3_59 q703 qp38 (xck_spec e1) rfl (by decide) (xst4 (Nat.le_of_ble_eq_true rfl)) xsame.rf.le xsame.rf.lim dX3_squareOf_2 ?_
  refine ww_istore_n (pc := 5) (lv' := [(3, .int v3), (0, .ref (gB G + r0)), (1, .ref (gB G + r1)), (2, .int x2)]) C dX3_squareOf_5 (by decide) rfl ?_
  refine ww_aload_n (pc := 6) C 1 dX3_squareOf_6 rfl ?_
  refine ww_bipush (pc := 7) (v := (16 : Int32)) C dX3_squareOf_7 (by decide) ?_
  refine ww_iload_n (pc := 9) C 3 dX3_squareOf_9 rfl ?_
  refine ww_iadd (pc := 10) C dX3_squareOf_10 ?_
  obtain ⟨_, e4, hf⟩ := xbd hf
  obtain ⟨v6, e5, hf⟩ := xbd hf
  refine ww_callVi (pc := 11) (as := [.int ((16 : Int32) + x2)]) (st := []) C (k_X3_endAt (l := gl G) (E := gE G) (hb := gB G) (σ := σ) e5) rfl (by decide) xc_X3_59 q703 qp38 (xck_spec e4) rfl (by decide) (xst4 (Nat.le_of_ble_eq_true rfl)) xsame.rf.le xsame.rf.lim dX3_squareOf_11 ?_
  refine ww_istore (pc := 14) (lv' := [(4, .int v6), (3, .int v3), (0, .ref (gB G + r0)), (1, .ref (gB G + r1)), (2, .int x2)]) C dX3_squareOf_14 (by decide) rfl ?_
  refine ww_iload_n (pc := 16) C 1 dX3_squareOf_16 rfl ?_
  refine ww_iconst (pc := 17) (v := (-1 : Int32)) C dX3_squareOf_17 (by decide) ?_
  refine ww_icmp_eq (pc := 18) (tgt := 27) C dX3_squareOf_18 (by decide) (fun q => ?_) (fun q => ?_)
  · have hf := xip q hf
    refine ww_bipush (pc := 27) (v := (-2 : Int32)) C dX3_squareOf_27 (by decide) ?_
    have hf := xsj hf
    subst hf
    exact ww_iret (pc := 29) C hk dX3_squareOf_29
  · have hf := xin q hf
    refine ww_iload (pc := 21) C 0 dX3_squareOf_21 rfl ?_
    refine ww_iconst (pc := 23) (v := (-1 : Int32)) C dX3_squareOf_23 (by decide) ?_
    refine ww_icmp_ne (pc := 24) (tgt := 30) C dX3_squareOf_24 (by decide) (fun q => ?_) (fun q => ?_)
    · have hf := xin q hf
      refine ww_aload_n (pc := 30) C 3 dX3_squareOf_30 rfl ?_
      refine ww_iload_n (pc := 31) C 4 dX3_squareOf_31 rfl ?_
      obtain ⟨_, e7, hf⟩ := xbd hf
      obtain ⟨v9, e8, hf⟩ := xbd hf
      refine ww_callVi (pc := 32) (as := [.int x2]) (st := []) C (k_X6_bondAt (l := gl G) (E := gE G) (hb := gB G) (σ := σ) e8) rfl (by decide) xc_X3_70 q710 qp39 (xck_spec e7) rfl (by decide) (xst4 (Nat.le_of_ble_eq_true rfl)) xsame.rf.le xsame.rf.lim dX3_squareOf_32 ?_
      refine ww_aload_n (pc := 35) C 3 dX3_squareOf_35 rfl ?_
      refine ww_bipush (pc := 36) (v := (16 : Int32)) C dX3_squareOf_36 (by decide) ?_
      refine ww_iload_n (pc := 38) C 4 dX3_squareOf_38 rfl ?_
      refine ww_iadd (pc := 39) C dX3_squareOf_39 ?_
      obtain ⟨_, e10, hf⟩ := xbd hf
      obtain ⟨v12, e11, hf⟩ := xbd hf
      refine ww_callVi (pc := 40) (as := [.int ((16 : Int32) + x2)]) (st := [.int v9]) C (k_X6_bondAt (l := gl G) (E := gE G) (hb := gB G) (σ := σ) e11) rfl (by decide) xc_X3_70 q710 qp39 (xck_spec e10) rfl (by decide) (xst4 (Nat.le_of_ble_eq_true rfl)) xsame.rf.le xsame.rf.lim dX3_squareOf_40 ?_
      refine ww_imul (pc := 43) C dX3_squareOf_43 ?_
      refine ww_aload_n (pc := 44) C 3 dX3_squareOf_44 rfl ?_
      refine ww_bipush (pc := 45) (v := (16 : Int32)) C dX3_squareOf_45 (by decide) ?_
      refine ww_iload_n (pc := 47) C 1 dX3_squareOf_47 rfl ?_
      refine ww_iadd (pc := 48) C dX3_squareOf_48 ?_
      obtain ⟨_, e13, hf⟩ := xbd hf
      obtain ⟨v15, e14, hf⟩ := xbd hf
      refine ww_callVi (pc := 49) (as := [.int ((16 : Int32) + v3)]) (st := [.int (v9 * v12)]) C (k_X6_bondAt (l := gl G) (E := gE G) (hb := gB G) (σ := σ) e14) rfl (by decide) xc_X3_70 q710 qp39 (xck_spec e13) rfl (by decide) (xst4 (Nat.le_of_ble_eq_true rfl)) xsame.rf.le xsame.rf.lim dX3_squareOf_49 ?_
      refine ww_imul (pc := 52) C dX3_squareOf_52 ?_
      refine ww_aload_n (pc := 53) C 3 dX3_squareOf_53 rfl ?_
      refine ww_iload (pc := 54) C 0 dX3_squareOf_54 rfl ?_
      obtain ⟨_, e16, hf⟩ := xbd hf
      obtain ⟨v18, e17, hf⟩ := xbd hf
      refine ww_callVi (pc := 56) (as := [.int v6]) (st := [.int ((v9 * v12) * v15)]) C (k_X6_bondAt (l := gl G) (E := gE G) (hb := gB G) (σ := σ) e17) rfl (by decide) xc_X3_70 q710 qp39 (xck_spec e16) rfl (by decide) (xst4 (Nat.le_of_ble_eq_true rfl)) xsame.rf.le xsame.rf.lim dX3_squareOf_56 ?_
      refine ww_imul (pc := 59) C dX3_squareOf_59 ?_
      refine ww_istore (pc := 60) (lv' := [(5, .int (((v9 * v12) * v15) * v18)), (4, .int v6), (3, .int v3), (0, .ref (gB G + r0)), (1, .ref (gB G + r1)), (2, .int x2)]) C dX3_squareOf_60 (by decide) rfl ?_
      refine ww_iload (pc := 62) C 0 dX3_squareOf_62 rfl ?_
      refine ww_if_ge (pc := 64) (tgt := 71) C dX3_squareOf_64 (by decide) (fun q => ?_) (fun q => ?_)
      · have hf := xip q hf
        refine ww_iconst (pc := 71) (v := (0 : Int32)) C dX3_squareOf_71 (by decide) ?_
        have hf := xsj hf
        subst hf
        exact ww_iret (pc := 72) C hk dX3_squareOf_72
      · have hf := xin q hf
        refine ww_iconst (pc := 67) (v := (1 : Int32)) C dX3_squareOf_67 (by decide) ?_
        refine ww_goto (pc := 68) (tgt := 72) C dX3_squareOf_68 (by decide) ?_
        have hf := xsj hf
        subst hf
        exact ww_iret (pc := 72) C hk dX3_squareOf_72
    · have hf := xip q hf
      refine ww_bipush (pc := 27) (v := (-2 : Int32)) C dX3_squareOf_27 (by decide) ?_
      have hf := xsj hf
      subst hf
      exact ww_iret (pc := 29) C hk dX3_squareOf_29
theorem k_X3_squareOf {l : Launch} {E : XD} {hb : Nat} {σ : XS} {r0 : Nat} {r1 : Nat} {x2 : Int32} {x : Int32} (h : f_X3_squareOf σ r0 r1 x2 = some x) : XM l yX3_squareOf cX3_squareOf 6 (some .int) 1 21 E hb [.ref (hb + r0), .ref (hb + r1), .int x2] σ (some (.int x)) σ := by
  refine xm_of (by decide) (Nat.le_of_ble_eq_true rfl) ⟨Nat.le_refl _, Nat.le_refl _⟩ (fun G hG C hl hQ => ?_)
  obtain ⟨rfl, rfl, rfl, hN⟩ := hG
  exact s_X3_squareOf_e C h hQ
noncomputable def f_X3_countOddSquares_b4 (σ : XS) (r0 : Nat) (r1 : Nat) : Int32 × Int32 → Option ((Int32 × Int32) ⊕ (Int32)) := fun a => match a with
  | (x2, x3) => (xgI σ r0 3 7).bind fun v2 => if v2 ≤ x3 then ((some x2).map .inr) else (xck σ r0 3).bind fun _ => (f_X3_squareOf σ r0 r1 x3).bind fun v5 => if v5 = (1 : Int32) then (some (.inl (x2 + (1 : Int32), x3 + (1 : Int32)))) else some (.inl (x2, x3 + (1 : Int32)))
noncomputable def f_X3_countOddSquares (σ : XS) (r0 : Nat) (r1 : Nat) : Option Int32 := xloop (f_X3_countOddSquares_b4 σ r0 r1) ((0 : Int32), (0 : Int32))
theorem s_X3_countOddSquares_l4 {G : XG} (C : XC G cX3_countOddSquares RX3 (some .int) 4 2 46) {σ : XS} {r0 : Nat} {r1 : Nat} {a : Int32 × Int32} {x : Int32} (hf : xloop (f_X3_countOddSquares_b4 σ r0 r1) a = some x) (hk : XEnd G (some (.int x)) σ) : WW G 4 [(0, .ref (gB G + r0)), (1, .ref (gB G + r1)), (2, .int a.1), (3, .int a.2)] [] σ := by
  refine xloop_ind (P := fun a => WW G 4 [(0, .ref (gB G + r0)), (1, .ref (gB G + r1)), (2, .int a.1), (3, .int a.2)] [] σ) (fun a y hf hc he => ?_) hf
  obtain ⟨x2, x3⟩ := a
  have hk : (∀ a' : Int32 × Int32, y = .inl a' → WW G 4 [(0, .ref (gB G + r0)), (1, .ref (gB G + r1)), (2, .int a'.1), (3, .int a'.2)] [] σ) ∧ (∀ b1 : Int32, y = .inr b1 → XEnd G (some (.int b1)) σ) := ⟨hc, fun b e => by have h9 := he b e; subst h9; exact hk⟩
  refine ww_iload_n (pc := 4) C 3 dX3_countOddSquares_4 rfl ?_
  refine ww_aload_n (pc := 5) C 0 dX3_countOddSquares_5 rfl ?_
  obtain ⟨v2, e1, hf⟩ := xbd hf
  refine gf_X3_40 (pc := 6) C e1 dX3_countOddSquares_6 ?_
  refine ww_icmp_ge (pc := 9) (tgt := 31) C dX3_countOddSquares_9 (by decide) (fun q => ?_) (fun q => ?_)
  · have hf := xip q hf
    obtain ⟨b0, hg, e9⟩ := xmj hf
    subst e9
    have hf := hg
    have hk := hk.2 _ rfl
    refine ww_iload_n (pc := 31) C 2 dX3_countOddSquares_31 rfl ?_
    have hf := xsj hf
    subst hf
    exact ww_iret (pc := 32) C hk dX3_countOddSquares_32
  · have hf := xin q hf
    refine ww_aload_n (pc := 12) C 0 dX3_countOddSquares_12 rfl ?_
    refine ww_aload_n (pc := 13) C 1 dX3_countOddSquares_13 rfl ?_
    refine ww_iload_n (pc := 14) C 3 dX3_countOddSquares_14 rfl ?_
    obtain ⟨_, e3, hf⟩ := xbd hf
    obtain ⟨v5, e4, hf⟩ := xbd hf
    refine ww_callVi (pc := 15) (as := [.ref (gB G + r1), .int x3]) (st := []) C (k_X3_squareOf (l := gl G) (E := gE G) (hb := gB G) (σ := σ) e4) rfl (by decide) xc_X3_85 q822 qp52 (xck_spec e3) rfl (by decide) (xst4 (Nat.le_of_ble_eq_true rfl)) xsame.rf.le xsame.rf.lim dX3_countOddSquares_15 ?_
    refine ww_iconst (pc := 18) (v := (1 : Int32)) C dX3_countOddSquares_18 (by decide) ?_
    refine ww_icmp_ne (pc := 19) (tgt := 25) C dX3_countOddSquares_19 (by decide) (fun q => ?_) (fun q => ?_)
    · have hf := xin q hf
      refine ww_iinc (pc := 25) (v := x3 + (1 : Int32)) (lv' := [(3, .int (x3 + (1 : Int32))), (0, .ref (gB G + r0)), (1, .ref (gB G + r1)), (2, .int x2)]) C 3 dX3_countOddSquares_25 rfl (congrArg (fun z => x3 + z) (show Int32.ofInt (1) = (1 : Int32) by decide)) (by decide) rfl ?_
      refine ww_goto (pc := 28) (tgt := 4) C dX3_countOddSquares_28 (by decide) ?_
      have hf := xsj hf
      subst hf
      refine ww_sub [1, 2, 3, 0] rfl ?_
      exact hk.1 (x2, x3 + (1 : Int32)) rfl
    · have hf := xip q hf
      refine ww_iinc (pc := 22) (v := x2 + (1 : Int32)) (lv' := [(2, .int (x2 + (1 : Int32))), (0, .ref (gB G + r0)), (1, .ref (gB G + r1)), (3, .int x3)]) C 2 dX3_countOddSquares_22 rfl (congrArg (fun z => x2 + z) (show Int32.ofInt (1) = (1 : Int32) by decide)) (by decide) rfl ?_
      refine ww_iinc (pc := 25) (v := x3 + (1 : Int32)) (lv' := [(3, .int (x3 + (1 : Int32))), (2, .int (x2 + (1 : Int32))), (0, .ref (gB G + r0)), (1, .ref (gB G + r1))]) C 3 dX3_countOddSquares_25 rfl (congrArg (fun z => x3 + z) (show Int32.ofInt (1) = (1 : Int32) by decide)) (by decide) rfl ?_
      refine ww_goto (pc := 28) (tgt := 4) C dX3_countOddSquares_28 (by decide) ?_
      have hf := xsj hf
      subst hf
      refine ww_sub [2, 3, 1, 0] rfl ?_
      exact hk.1 (x2 + (1 : Int32), x3 + (1 : Int32)) rfl
theorem s_X3_countOddSquares_e {G : XG} (C : XC G cX3_countOddSquares RX3 (some .int) 4 2 46) {σ : XS} {r0 : Nat} {r1 : Nat} {x : Int32} (hf : f_X3_countOddSquares σ r0 r1 = some x) (hk : XEnd G (some (.int x)) σ) : WW G 0 [(0, .ref (gB G + r0)), (1, .ref (gB G + r1))] [] σ := by
  refine ww_iconst (pc := 0) (v := (0 : Int32)) C dX3_countOddSquares_0 (by decide) ?_
  refine ww_istore_n (pc := 1) (lv' := [(2, .int (0 : Int32)), (0, .ref (gB G + r0)), (1, .ref (gB G + r1))]) C dX3_countOddSquares_1 (by decide) rfl ?_
  refine ww_iconst (pc := 2) (v := (0 : Int32)) C dX3_countOddSquares_2 (by decide) ?_
  refine ww_istore_n (pc := 3) (lv' := [(3, .int (0 : Int32)), (2, .int (0 : Int32)), (0, .ref (gB G + r0)), (1, .ref (gB G + r1))]) C dX3_countOddSquares_3 (by decide) rfl ?_
  refine ww_sub [2, 3, 1, 0] rfl ?_
  exact s_X3_countOddSquares_l4 C (a := ((0 : Int32), (0 : Int32))) hf hk
theorem k_X3_countOddSquares {l : Launch} {E : XD} {hb : Nat} {σ : XS} {r0 : Nat} {r1 : Nat} {x : Int32} (h : f_X3_countOddSquares σ r0 r1 = some x) : XM l yX3_countOddSquares cX3_countOddSquares 4 (some .int) 2 46 E hb [.ref (hb + r0), .ref (hb + r1)] σ (some (.int x)) σ := by
  refine xm_of (by decide) (Nat.le_of_ble_eq_true rfl) ⟨Nat.le_refl _, Nat.le_refl _⟩ (fun G hG C hl hQ => ?_)
  obtain ⟨rfl, rfl, rfl, hN⟩ := hG
  exact s_X3_countOddSquares_e C h hQ
noncomputable def f_X11_count_j192 (σ : XS) (t0 : Nat) : Option (Int32 × XS) := (xck σ t0 0).bind fun _ => (f_X0_fewest σ t0).bind fun v3 => some (v3, σ)
noncomputable def f_X11_count (σ : XS) (r0 : Nat) (x1 : Int32) : Option (Int32 × XS) := xsw x1 (0) [(xgR σ r0 11 2).bind fun z2 => (xgI σ z2 3 4).bind fun v4 => some (v4, σ), (xgR σ r0 11 2).bind fun z2 => (xgI σ z2 3 5).bind fun v4 => some (v4, σ), (xgR σ r0 11 3).bind fun z2 => (xgI σ z2 6 4).bind fun v4 => some (v4, σ), (xck σ r0 11).bind fun _ => (f_X11_countStates σ r0).bind fun v3 => some (v3, σ), (xgR σ r0 11 3).bind fun z2 => (xgI σ z2 6 2).bind fun v4 => some (v4, σ), (xgR σ r0 11 2).bind fun z2 => (xck σ z2 3).bind fun _ => (f_X3_countTies σ z2).bind fun v5 => some (v5, σ), (xgR σ r0 11 0).bind fun z2 => (xgI σ z2 8 4).bind fun v4 => some (v4, σ), (xgR σ r0 11 4).bind fun z2 => (xgI σ z2 5 2).bind fun v4 => some (v4, σ), (xck σ r0 11).bind fun _ => (f_X11_countFullSlots σ r0).bind fun v3 => some (v3, σ), (xgR σ r0 11 3).bind fun z2 => (xgI σ z2 6 5).bind fun v4 => some (v4, σ), (xgR σ r0 11 2).bind fun z2 => (xgR σ r0 11 3).bind fun z4 => (xgI σ z4 6 4).bind fun v6 => (xck σ z2 3).bind fun _ => (f_X3_countClusters σ z2 v6).bind fun v9 => some (v9, σ), (xgR σ r0 11 2).bind fun z2 => (xgR σ r0 11 3).bind fun z4 => (xgI σ z4 6 4).bind fun v6 => (xck σ z2 3).bind fun _ => (f_X3_greatestCluster σ z2 v6).bind fun v9 => some (v9, σ), (xgR σ r0 11 2).bind fun z2 => (xgI σ z2 3 6).bind fun v4 => some (v4, σ), (xck σ r0 11).bind fun _ => (f_X11_breaksNow σ r0).bind fun (z4, σ3) => (xnz z4).bind fun _ => f_X11_count_j192 σ3 z4, (xgR σ r0 11 2).bind fun z2 => (xgR σ r0 11 3).bind fun z4 => (xck σ z2 3).bind fun _ => (f_X3_countOddSquares σ z2 z4).bind fun v7 => some (v7, σ)] (some ((-1 : Int32), σ))
theorem s_X11_count_j192 {G : XG} (C : XC G cX11_count RX11 (some .int) 2 5 122) {σ : XS} {t0 : Nat} {x : Int32 × XS} (hf : f_X11_count_j192 σ t0 = some x) (hk : XEnd G (some (.int x.1)) x.2 ∧ XUp G x.2) : WW G 192 [] [.ref (gB G + t0)] σ := by
  obtain ⟨_, e1, hf⟩ := xbd hf
  obtain ⟨v3, e2, hf⟩ := xbd hf
  refine ww_callVi (pc := 192) (as := []) (st := []) C (k_X0_fewest (l := gl G) (E := gE G) (hb := gB G) (σ := σ) e2) rfl (by decide) xc_X11_453 q1245 qp117 (xck_spec e1) rfl (by decide) (xst4 (Nat.le_of_ble_eq_true rfl)) xsame.rf.le xsame.rf.lim dX11_count_192 ?_
  have hf := xsj hf
  subst hf
  exact ww_iret (pc := 195) C hk.1 dX11_count_195
theorem m_X11_count_j192 {σ : XS} {t0 : Nat} {x : Int32 × XS} (hf : f_X11_count_j192 σ t0 = some x) : xext σ x.2 := by
  have hm := xext.rf (σ := σ)
  obtain ⟨_, e1, hf⟩ := xbd hf
  obtain ⟨v3, e2, hf⟩ := xbd hf
  have hf := xsj hf
  subst hf
  exact hm
theorem s_X11_count_e {G : XG} (C : XC G cX11_count RX11 (some .int) 2 5 122) {σ : XS} {r0 : Nat} {x1 : Int32} {x : Int32 × XS} (hf : f_X11_count σ r0 x1 = some x) (hk : XEnd G (some (.int x.1)) x.2 ∧ XUp G x.2) : WW G 0 [(0, .ref (gB G + r0)), (1, .int x1)] [] σ := by
  refine ww_iload_n (pc := 0) C 1 dX11_count_0 rfl ?_
  refine ww_table (pc := 1) C dX11_count_1 (fun k hk1 hk2 => ?_) (fun ho => ?_)
  · rcases (by omega : k = 0 ∨ k = 1 ∨ k = 2 ∨ k = 3 ∨ k = 4 ∨ k = 5 ∨ k = 6 ∨ k = 7 ∨ k = 8 ∨ k = 9 ∨ k = 10 ∨ k = 11 ∨ k = 12 ∨ k = 13 ∨ k = 14) with rfl | rfl | rfl | rfl | rfl | rfl | rfl | rfl | rfl | rfl | rfl | rfl | rfl | rfl | rfl
    · refine ⟨76, 75, rfl, by decide, ?_⟩
      have hf := xsw_in 0 hk1 rfl hf
      refine ww_aload_n (pc := 76) C 0 dX11_count_76 rfl ?_
      obtain ⟨z2, e1, hf⟩ := xbd hf
      refine gf_X11_24 (pc := 77) C e1 dX11_count_77 ?_
      obtain ⟨v4, e3, hf⟩ := xbd hf
      refine gf_X11_362 (pc := 80) C e3 dX11_count_80 ?_
      have hf := xsj hf
      subst hf
      exact ww_iret (pc := 83) C hk.1 dX11_count_83
    · refine ⟨84, 83, rfl, by decide, ?_⟩
      have hf := xsw_in 1 hk1 rfl hf
      refine ww_aload_n (pc := 84) C 0 dX11_count_84 rfl ?_
      obtain ⟨z2, e1, hf⟩ := xbd hf
      refine gf_X11_24 (pc := 85) C e1 dX11_count_85 ?_
      obtain ⟨v4, e3, hf⟩ := xbd hf
      refine gf_X11_361 (pc := 88) C e3 dX11_count_88 ?_
      have hf := xsj hf
      subst hf
      exact ww_iret (pc := 91) C hk.1 dX11_count_91
    · refine ⟨92, 91, rfl, by decide, ?_⟩
      have hf := xsw_in 2 hk1 rfl hf
      refine ww_aload_n (pc := 92) C 0 dX11_count_92 rfl ?_
      obtain ⟨z2, e1, hf⟩ := xbd hf
      refine gf_X11_31 (pc := 93) C e1 dX11_count_93 ?_
      obtain ⟨v4, e3, hf⟩ := xbd hf
      refine gf_X11_144 (pc := 96) C e3 dX11_count_96 ?_
      have hf := xsj hf
      subst hf
      exact ww_iret (pc := 99) C hk.1 dX11_count_99
    · refine ⟨100, 99, rfl, by decide, ?_⟩
      have hf := xsw_in 3 hk1 rfl hf
      refine ww_aload_n (pc := 100) C 0 dX11_count_100 rfl ?_
      obtain ⟨_, e1, hf⟩ := xbd hf
      obtain ⟨v3, e2, hf⟩ := xbd hf
      refine ww_callVi (pc := 101) (as := []) (st := []) C (k_X11_countStates (l := gl G) (E := gE G) (hb := gB G) (σ := σ) e2) rfl (by decide) xc_X11_433 q1220 qp112 (xck_spec e1) rfl (by decide) (xst4 (Nat.le_of_ble_eq_true rfl)) xsame.rf.le xsame.rf.lim dX11_count_101 ?_
      have hf := xsj hf
      subst hf
      exact ww_iret (pc := 104) C hk.1 dX11_count_104
    · refine ⟨105, 104, rfl, by decide, ?_⟩
      have hf := xsw_in 4 hk1 rfl hf
      refine ww_aload_n (pc := 105) C 0 dX11_count_105 rfl ?_
      obtain ⟨z2, e1, hf⟩ := xbd hf
      refine gf_X11_31 (pc := 106) C e1 dX11_count_106 ?_
      obtain ⟨v4, e3, hf⟩ := xbd hf
      refine gf_X11_191 (pc := 109) C e3 dX11_count_109 ?_
      have hf := xsj hf
      subst hf
      exact ww_iret (pc := 112) C hk.1 dX11_count_112
    · refine ⟨113, 112, rfl, by decide, ?_⟩
      have hf := xsw_in 5 hk1 rfl hf
      refine ww_aload_n (pc := 113) C 0 dX11_count_113 rfl ?_
      obtain ⟨z2, e1, hf⟩ := xbd hf
      refine gf_X11_24 (pc := 114) C e1 dX11_count_114 ?_
      obtain ⟨_, e3, hf⟩ := xbd hf
      obtain ⟨v5, e4, hf⟩ := xbd hf
      refine ww_callVi (pc := 117) (as := []) (st := []) C (k_X3_countTies (l := gl G) (E := gE G) (hb := gB G) (σ := σ) e4) rfl (by decide) xc_X11_436 q1224 qp113 (xck_spec e3) rfl (by decide) (xst4 (Nat.le_of_ble_eq_true rfl)) xsame.rf.le xsame.rf.lim dX11_count_117 ?_
      have hf := xsj hf
      subst hf
      exact ww_iret (pc := 120) C hk.1 dX11_count_120
    · refine ⟨121, 120, rfl, by decide, ?_⟩
      have hf := xsw_in 6 hk1 rfl hf
      refine ww_aload_n (pc := 121) C 0 dX11_count_121 rfl ?_
      obtain ⟨z2, e1, hf⟩ := xbd hf
      refine gf_X11_20 (pc := 122) C e1 dX11_count_122 ?_
      obtain ⟨v4, e3, hf⟩ := xbd hf
      refine gf_X11_102 (pc := 125) C e3 dX11_count_125 ?_
      have hf := xsj hf
      subst hf
      exact ww_iret (pc := 128) C hk.1 dX11_count_128
    · refine ⟨129, 128, rfl, by decide, ?_⟩
      have hf := xsw_in 7 hk1 rfl hf
      refine ww_aload_n (pc := 129) C 0 dX11_count_129 rfl ?_
      obtain ⟨z2, e1, hf⟩ := xbd hf
      refine gf_X11_38 (pc := 130) C e1 dX11_count_130 ?_
      obtain ⟨v4, e3, hf⟩ := xbd hf
      refine gf_X11_439 (pc := 133) C e3 dX11_count_133 ?_
      have hf := xsj hf
      subst hf
      exact ww_iret (pc := 136) C hk.1 dX11_count_136
    · refine ⟨137, 136, rfl, by decide, ?_⟩
      have hf := xsw_in 8 hk1 rfl hf
      refine ww_aload_n (pc := 137) C 0 dX11_count_137 rfl ?_
      obtain ⟨_, e1, hf⟩ := xbd hf
      obtain ⟨v3, e2, hf⟩ := xbd hf
      refine ww_callVi (pc := 138) (as := []) (st := []) C (k_X11_countFullSlots (l := gl G) (E := gE G) (hb := gB G) (σ := σ) e2) rfl (by decide) xc_X11_440 q1228 qp114 (xck_spec e1) rfl (by decide) (xst4 (Nat.le_of_ble_eq_true rfl)) xsame.rf.le xsame.rf.lim dX11_count_138 ?_
      have hf := xsj hf
      subst hf
      exact ww_iret (pc := 141) C hk.1 dX11_count_141
    · refine ⟨142, 141, rfl, by decide, ?_⟩
      have hf := xsw_in 9 hk1 rfl hf
      refine ww_aload_n (pc := 142) C 0 dX11_count_142 rfl ?_
      obtain ⟨z2, e1, hf⟩ := xbd hf
      refine gf_X11_31 (pc := 143) C e1 dX11_count_143 ?_
      obtain ⟨v4, e3, hf⟩ := xbd hf
      refine gf_X11_443 (pc := 146) C e3 dX11_count_146 ?_
      have hf := xsj hf
      subst hf
      exact ww_iret (pc := 149) C hk.1 dX11_count_149
    · refine ⟨150, 149, rfl, by decide, ?_⟩
      have hf := xsw_in 10 hk1 rfl hf
      refine ww_aload_n (pc := 150) C 0 dX11_count_150 rfl ?_
      obtain ⟨z2, e1, hf⟩ := xbd hf
      refine gf_X11_24 (pc := 151) C e1 dX11_count_151 ?_
      refine ww_aload_n (pc := 154) C 0 dX11_count_154 rfl ?_
      obtain ⟨z4, e3, hf⟩ := xbd hf
      refine gf_X11_31 (pc := 155) C e3 dX11_count_155 ?_
      obtain ⟨v6, e5, hf⟩ := xbd hf
      refine gf_X11_144 (pc := 158) C e5 dX11_count_158 ?_
      obtain ⟨_, e7, hf⟩ := xbd hf
      obtain ⟨v9, e8, hf⟩ := xbd hf
      refine ww_callVi (pc := 161) (as := [.int v6]) (st := []) C (k_X3_countClusters (l := gl G) (E := gE G) (hb := gB G) (σ := σ) e8) rfl (by decide) xc_X11_446 q1232 qp115 (xck_spec e7) rfl (by decide) (xst4 (Nat.le_of_ble_eq_true rfl)) xsame.rf.le xsame.rf.lim dX11_count_161 ?_
      have hf := xsj hf
      subst hf
      exact ww_iret (pc := 164) C hk.1 dX11_count_164
    · refine ⟨165, 164, rfl, by decide, ?_⟩
      have hf := xsw_in 11 hk1 rfl hf
      refine ww_aload_n (pc := 165) C 0 dX11_count_165 rfl ?_
      obtain ⟨z2, e1, hf⟩ := xbd hf
      refine gf_X11_24 (pc := 166) C e1 dX11_count_166 ?_
      refine ww_aload_n (pc := 169) C 0 dX11_count_169 rfl ?_
      obtain ⟨z4, e3, hf⟩ := xbd hf
      refine gf_X11_31 (pc := 170) C e3 dX11_count_170 ?_
      obtain ⟨v6, e5, hf⟩ := xbd hf
      refine gf_X11_144 (pc := 173) C e5 dX11_count_173 ?_
      obtain ⟨_, e7, hf⟩ := xbd hf
      obtain ⟨v9, e8, hf⟩ := xbd hf
      refine ww_callVi (pc := 176) (as := [.int v6]) (st := []) C (k_X3_greatestCluster (l := gl G) (E := gE G) (hb := gB G) (σ := σ) e8) rfl (by decide) xc_X11_449 q1237 qp116 (xck_spec e7) rfl (by decide) (xst4 (Nat.le_of_ble_eq_true rfl)) xsame.rf.le xsame.rf.lim dX11_count_176 ?_
      have hf := xsj hf
      subst hf
      exact ww_iret (pc := 179) C hk.1 dX11_count_179
    · refine ⟨180, 179, rfl, by decide, ?_⟩
      have hf := xsw_in 12 hk1 rfl hf
      refine ww_aload_n (pc := 180) C 0 dX11_count_180 rfl ?_
      obtain ⟨z2, e1, hf⟩ := xbd hf
      refine gf_X11_24 (pc := 181) C e1 dX11_count_181 ?_
      obtain ⟨v4, e3, hf⟩ := xbd hf
      refine gf_X11_452 (pc := 184) C e3 dX11_count_184 ?_
      have hf := xsj hf
      subst hf
      exact ww_iret (pc := 187) C hk.1 dX11_count_187
    · refine ⟨188, 187, rfl, by decide, ?_⟩
      have hf := xsw_in 13 hk1 rfl hf
      refine ww_aload_n (pc := 188) C 0 dX11_count_188 rfl ?_
      obtain ⟨_, e1, hf⟩ := xbd hf
      obtain ⟨⟨z4, σ3⟩, e2, hf⟩ := xbd hf
      dsimp only at hf
      obtain ⟨_, e5, hf⟩ := xbd hf
      refine ww_callVr (pc := 189) (as := []) (st := []) C (k_X11_breaksNow (l := gl G) (E := gE G) (hb := gB G) (σ := σ) e2) rfl (by decide) xc_X11_279 q939 qp74 (xck_spec e1) rfl (by decide) (xst4 (Nat.le_of_ble_eq_true rfl)) (m_X11_breaksNow e2).1 (fun q => by have hm9 := m_X11_count_j192 hf; exact XLim.mid q (m_X11_breaksNow e2) hm9 hk.2) dX11_count_189 ?_
      refine ww_nn (xnz_spec e5) ?_
      refine ww_sub [] rfl ?_
      exact s_X11_count_j192 C hf hk
    · refine ⟨196, 195, rfl, by decide, ?_⟩
      have hf := xsw_in 14 hk1 rfl hf
      refine ww_aload_n (pc := 196) C 0 dX11_count_196 rfl ?_
      obtain ⟨z2, e1, hf⟩ := xbd hf
      refine gf_X11_24 (pc := 197) C e1 dX11_count_197 ?_
      refine ww_aload_n (pc := 200) C 0 dX11_count_200 rfl ?_
      obtain ⟨z4, e3, hf⟩ := xbd hf
      refine gf_X11_31 (pc := 201) C e3 dX11_count_201 ?_
      obtain ⟨_, e5, hf⟩ := xbd hf
      obtain ⟨v7, e6, hf⟩ := xbd hf
      refine ww_callVi (pc := 204) (as := [.ref (gB G + z4)]) (st := []) C (k_X3_countOddSquares (l := gl G) (E := gE G) (hb := gB G) (σ := σ) e6) rfl (by decide) xc_X11_456 q1249 qp118 (xck_spec e5) rfl (by decide) (xst4 (Nat.le_of_ble_eq_true rfl)) xsame.rf.le xsame.rf.lim dX11_count_204 ?_
      have hf := xsj hf
      subst hf
      exact ww_iret (pc := 207) C hk.1 dX11_count_207
  · refine ⟨208, by decide, ?_⟩
    have hf := xsw_out ho rfl hf
    refine ww_iconst (pc := 208) (v := (-1 : Int32)) C dX11_count_208 (by decide) ?_
    have hf := xsj hf
    subst hf
    exact ww_iret (pc := 209) C hk.1 dX11_count_209
theorem m_X11_count {σ : XS} {r0 : Nat} {x1 : Int32} {x : Int32 × XS} (hf : f_X11_count σ r0 x1 = some x) : xext σ x.2 := by
  have hm := xext.rf (σ := σ)
  by_cases ho : (x1).toInt < 0 ∨ 14 < (x1).toInt
  · have hf := xsw_out ho rfl hf
    have hf := xsj hf
    subst hf
    exact hm
  · rcases (by omega : (x1).toInt = 0 + ((0 : Nat) : Int) ∨ (x1).toInt = 0 + ((1 : Nat) : Int) ∨ (x1).toInt = 0 + ((2 : Nat) : Int) ∨ (x1).toInt = 0 + ((3 : Nat) : Int) ∨ (x1).toInt = 0 + ((4 : Nat) : Int) ∨ (x1).toInt = 0 + ((5 : Nat) : Int) ∨ (x1).toInt = 0 + ((6 : Nat) : Int) ∨ (x1).toInt = 0 + ((7 : Nat) : Int) ∨ (x1).toInt = 0 + ((8 : Nat) : Int) ∨ (x1).toInt = 0 + ((9 : Nat) : Int) ∨ (x1).toInt = 0 + ((10 : Nat) : Int) ∨ (x1).toInt = 0 + ((11 : Nat) : Int) ∨ (x1).toInt = 0 + ((12 : Nat) : Int) ∨ (x1).toInt = 0 + ((13 : Nat) : Int) ∨ (x1).toInt = 0 + ((14 : Nat) : Int)) with hk1 | hk1 | hk1 | hk1 | hk1 | hk1 | hk1 | hk1 | hk1 | hk1 | hk1 | hk1 | hk1 | hk1 | hk1
    · have hf := xsw_in 0 hk1 rfl hf
      obtain ⟨z2, e1, hf⟩ := xbd hf
      obtain ⟨v4, e3, hf⟩ := xbd hf
      have hf := xsj hf
      subst hf
      exact hm
    · have hf := xsw_in 1 hk1 rfl hf
      obtain ⟨z2, e1, hf⟩ := xbd hf
      obtain ⟨v4, e3, hf⟩ := xbd hf
      have hf := xsj hf
      subst hf
      exact hm
    · have hf := xsw_in 2 hk1 rfl hf
      obtain ⟨z2, e1, hf⟩ := xbd hf
      obtain ⟨v4, e3, hf⟩ := xbd hf
      have hf := xsj hf
      subst hf
      exact hm
    · have hf := xsw_in 3 hk1 rfl hf
      obtain ⟨_, e1, hf⟩ := xbd hf
      obtain ⟨v3, e2, hf⟩ := xbd hf
      have hf := xsj hf
      subst hf
      exact hm
    · have hf := xsw_in 4 hk1 rfl hf
      obtain ⟨z2, e1, hf⟩ := xbd hf
      obtain ⟨v4, e3, hf⟩ := xbd hf
      have hf := xsj hf
      subst hf
      exact hm
    · have hf := xsw_in 5 hk1 rfl hf
      obtain ⟨z2, e1, hf⟩ := xbd hf
      obtain ⟨_, e3, hf⟩ := xbd hf
      obtain ⟨v5, e4, hf⟩ := xbd hf
      have hf := xsj hf
      subst hf
      exact hm
    · have hf := xsw_in 6 hk1 rfl hf
      obtain ⟨z2, e1, hf⟩ := xbd hf
      obtain ⟨v4, e3, hf⟩ := xbd hf
      have hf := xsj hf
      subst hf
      exact hm
    · have hf := xsw_in 7 hk1 rfl hf
      obtain ⟨z2, e1, hf⟩ := xbd hf
      obtain ⟨v4, e3, hf⟩ := xbd hf
      have hf := xsj hf
      subst hf
      exact hm
    · have hf := xsw_in 8 hk1 rfl hf
      obtain ⟨_, e1, hf⟩ := xbd hf
      obtain ⟨v3, e2, hf⟩ := xbd hf
      have hf := xsj hf
      subst hf
      exact hm
    · have hf := xsw_in 9 hk1 rfl hf
      obtain ⟨z2, e1, hf⟩ := xbd hf
      obtain ⟨v4, e3, hf⟩ := xbd hf
      have hf := xsj hf
      subst hf
      exact hm
    · have hf := xsw_in 10 hk1 rfl hf
      obtain ⟨z2, e1, hf⟩ := xbd hf
      obtain ⟨z4, e3, hf⟩ := xbd hf
      obtain ⟨v6, e5, hf⟩ := xbd hf
      obtain ⟨_, e7, hf⟩ := xbd hf
      obtain ⟨v9, e8, hf⟩ := xbd hf
      have hf := xsj hf
      subst hf
      exact hm
    · have hf := xsw_in 11 hk1 rfl hf
      obtain ⟨z2, e1, hf⟩ := xbd hf
      obtain ⟨z4, e3, hf⟩ := xbd hf
      obtain ⟨v6, e5, hf⟩ := xbd hf
      obtain ⟨_, e7, hf⟩ := xbd hf
      obtain ⟨v9, e8, hf⟩ := xbd hf
      have hf := xsj hf
      subst hf
      exact hm
    · have hf := xsw_in 12 hk1 rfl hf
      obtain ⟨z2, e1, hf⟩ := xbd hf
      obtain ⟨v4, e3, hf⟩ := xbd hf
      have hf := xsj hf
      subst hf
      exact hm
    · have hf := xsw_in 13 hk1 rfl hf
      obtain ⟨_, e1, hf⟩ := xbd hf
      obtain ⟨⟨z4, σ3⟩, e2, hf⟩ := xbd hf
      dsimp only at hf
      have hm := hm.tr (m_X11_breaksNow e2)
      obtain ⟨_, e5, hf⟩ := xbd hf
      exact hm.tr (m_X11_count_j192 hf)
    · have hf := xsw_in 14 hk1 rfl hf
      obtain ⟨z2, e1, hf⟩ := xbd hf
      obtain ⟨z4, e3, hf⟩ := xbd hf
      obtain ⟨_, e5, hf⟩ := xbd hf
      obtain ⟨v7, e6, hf⟩ := xbd hf
      have hf := xsj hf
      subst hf
      exact hm
theorem k_X11_count {l : Launch} {E : XD} {hb : Nat} {σ : XS} {r0 : Nat} {x1 : Int32} {x : Int32 × XS} (h : f_X11_count σ r0 x1 = some x) : XM l yX11_count cX11_count 2 (some .int) 5 122 E hb [.ref (hb + r0), .int x1] σ (some (.int x.1)) x.2 := by
  refine xm_of (by decide) (Nat.le_of_ble_eq_true rfl) (m_X11_count h).1 (fun G hG C hl hQ => ?_)
  obtain ⟨rfl, rfl, rfl, hN⟩ := hG
  exact s_X11_count_e C h ⟨hQ, hl.2⟩
noncomputable def f_X11_countAlike_b15 (σ : XS) (r0 : Nat) (x1 : Int32) (x2 : Int32) (x3 : Int32) (x4 : Int32) : Int32 × Int32 → Option ((Int32 × Int32) ⊕ (Int32)) := fun a => match a with
  | (x5, x6) => if x4 ≤ x6 then ((some x5).map .inr) else (xgR σ r0 11 3).bind fun z2 => (xck σ z2 6).bind fun _ => (f_X6_allows σ z2 x6).bind fun v5 => if v5 = 0 then (some (.inl (x5, x6 + (1 : Int32)))) else (xgR σ r0 11 6).bind fun z7 => (xck σ z7 2).bind fun _ => (f_X2_of σ z7 x6).bind fun v10 => if v10 = x3 then ((f_X11_bitOf x6 x1).bind fun v12 => (f_X11_bitOf x6 x2).bind fun v14 => if v12 = v14 then (some (.inl (x5 + (1 : Int32), x6 + (1 : Int32)))) else some (.inl (x5, x6 + (1 : Int32)))) else some (.inl (x5, x6 + (1 : Int32)))
noncomputable def f_X11_countAlike (σ : XS) (r0 : Nat) (x1 : Int32) (x2 : Int32) (x3 : Int32) : Option Int32 := (xgR σ r0 11 2).bind fun z2 => (xck σ z2 3).bind fun _ => (f_X3_states σ z2).bind fun v5 => xloop (f_X11_countAlike_b15 σ r0 x1 x2 x3 v5) ((0 : Int32), (0 : Int32))
theorem s_X11_countAlike_l15 {G : XG} (C : XC G cX11_countAlike RX11 (some .int) 7 1 21) {σ : XS} {r0 : Nat} {x1 : Int32} {x2 : Int32} {x3 : Int32} {x4 : Int32} {a : Int32 × Int32} {x : Int32} (hf : xloop (f_X11_countAlike_b15 σ r0 x1 x2 x3 x4) a = some x) (hk : XEnd G (some (.int x)) σ) : WW G 15 [(0, .ref (gB G + r0)), (1, .int x1), (2, .int x2), (3, .int x3), (4, .int x4), (5, .int a.1), (6, .int a.2)] [] σ := by
  refine xloop_ind (P := fun a => WW G 15 [(0, .ref (gB G + r0)), (1, .int x1), (2, .int x2), (3, .int x3), (4, .int x4), (5, .int a.1), (6, .int a.2)] [] σ) (fun a y hf hc he => ?_) hf
  obtain ⟨x5, x6⟩ := a
  have hk : (∀ a' : Int32 × Int32, y = .inl a' → WW G 15 [(0, .ref (gB G + r0)), (1, .int x1), (2, .int x2), (3, .int x3), (4, .int x4), (5, .int a'.1), (6, .int a'.2)] [] σ) ∧ (∀ b1 : Int32, y = .inr b1 → XEnd G (some (.int b1)) σ) := ⟨hc, fun b e => by have h9 := he b e; subst h9; exact hk⟩
  refine ww_iload (pc := 15) C 6 dX11_countAlike_15 rfl ?_
  refine ww_iload (pc := 17) C 4 dX11_countAlike_17 rfl ?_
  refine ww_icmp_ge (pc := 19) (tgt := 71) C dX11_countAlike_19 (by decide) (fun q => ?_) (fun q => ?_)
  · have hf := xip q hf
    obtain ⟨b0, hg, e9⟩ := xmj hf
    subst e9
    have hf := hg
    have hk := hk.2 _ rfl
    refine ww_iload (pc := 71) C 5 dX11_countAlike_71 rfl ?_
    have hf := xsj hf
    subst hf
    exact ww_iret (pc := 73) C hk dX11_countAlike_73
  · have hf := xin q hf
    refine ww_aload_n (pc := 22) C 0 dX11_countAlike_22 rfl ?_
    obtain ⟨z2, e1, hf⟩ := xbd hf
    refine gf_X11_31 (pc := 23) C e1 dX11_countAlike_23 ?_
    refine ww_iload (pc := 26) C 6 dX11_countAlike_26 rfl ?_
    obtain ⟨_, e3, hf⟩ := xbd hf
    obtain ⟨v5, e4, hf⟩ := xbd hf
    refine ww_callVi (pc := 28) (as := [.int x6]) (st := []) C (k_X6_allows (l := gl G) (E := gE G) (hb := gB G) (σ := σ) e4) rfl (by decide) xc_X11_295 q890 qp65 (xck_spec e3) rfl (by decide) (xst4 (Nat.le_of_ble_eq_true rfl)) xsame.rf.le xsame.rf.lim dX11_countAlike_28 ?_
    refine ww_if_eq (pc := 31) (tgt := 65) C dX11_countAlike_31 (by decide) (fun q => ?_) (fun q => ?_)
    · have hf := xip q hf
      refine ww_iinc (pc := 65) (v := x6 + (1 : Int32)) (lv' := [(6, .int (x6 + (1 : Int32))), (0, .ref (gB G + r0)), (1, .int x1), (2, .int x2), (3, .int x3), (4, .int x4), (5, .int x5)]) C 6 dX11_countAlike_65 rfl (congrArg (fun z => x6 + z) (show Int32.ofInt (1) = (1 : Int32) by decide)) (by decide) rfl ?_
      refine ww_goto (pc := 68) (tgt := 15) C dX11_countAlike_68 (by decide) ?_
      have hf := xsj hf
      subst hf
      refine ww_sub [1, 2, 3, 4, 5, 6, 0] rfl ?_
      exact hk.1 (x5, x6 + (1 : Int32)) rfl
    · have hf := xin q hf
      refine ww_aload_n (pc := 34) C 0 dX11_countAlike_34 rfl ?_
      obtain ⟨z7, e6, hf⟩ := xbd hf
      refine gf_X11_52 (pc := 35) C e6 dX11_countAlike_35 ?_
      refine ww_iload (pc := 38) C 6 dX11_countAlike_38 rfl ?_
      obtain ⟨_, e8, hf⟩ := xbd hf
      obtain ⟨v10, e9, hf⟩ := xbd hf
      refine ww_callVi (pc := 40) (as := [.int x6]) (st := []) C (k_X2_of (l := gl G) (E := gE G) (hb := gB G) (σ := σ) e9) rfl (by decide) xc_X11_298 q880 qp64 (xck_spec e8) rfl (by decide) (xst4 (Nat.le_of_ble_eq_true rfl)) xsame.rf.le xsame.rf.lim dX11_countAlike_40 ?_
      refine ww_iload_n (pc := 43) C 3 dX11_countAlike_43 rfl ?_
      refine ww_icmp_ne (pc := 44) (tgt := 65) C dX11_countAlike_44 (by decide) (fun q => ?_) (fun q => ?_)
      · have hf := xin q hf
        refine ww_iinc (pc := 65) (v := x6 + (1 : Int32)) (lv' := [(6, .int (x6 + (1 : Int32))), (0, .ref (gB G + r0)), (1, .int x1), (2, .int x2), (3, .int x3), (4, .int x4), (5, .int x5)]) C 6 dX11_countAlike_65 rfl (congrArg (fun z => x6 + z) (show Int32.ofInt (1) = (1 : Int32) by decide)) (by decide) rfl ?_
        refine ww_goto (pc := 68) (tgt := 15) C dX11_countAlike_68 (by decide) ?_
        have hf := xsj hf
        subst hf
        refine ww_sub [1, 2, 3, 4, 5, 6, 0] rfl ?_
        exact hk.1 (x5, x6 + (1 : Int32)) rfl
      · have hf := xip q hf
        refine ww_iload (pc := 47) C 6 dX11_countAlike_47 rfl ?_
        refine ww_iload_n (pc := 49) C 1 dX11_countAlike_49 rfl ?_
        obtain ⟨v12, e11, hf⟩ := xbd hf
        refine ww_callSi (pc := 50) (as := [.int x6, .int x1]) (st := []) C (k_X11_bitOf (l := gl G) (E := gE G) (hb := gB G) (σ := σ) e11) xc_X11_236 q655 rfl (by decide) (xst4 (Nat.le_of_ble_eq_true rfl)) xsame.rf.le xsame.rf.lim dX11_countAlike_50 ?_
        refine ww_iload (pc := 53) C 6 dX11_countAlike_53 rfl ?_
        refine ww_iload_n (pc := 55) C 2 dX11_countAlike_55 rfl ?_
        obtain ⟨v14, e13, hf⟩ := xbd hf
        refine ww_callSi (pc := 56) (as := [.int x6, .int x2]) (st := [.int v12]) C (k_X11_bitOf (l := gl G) (E := gE G) (hb := gB G) (σ := σ) e13) xc_X11_236 q655 rfl (by decide) (xst4 (Nat.le_of_ble_eq_true rfl)) xsame.rf.le xsame.rf.lim dX11_countAlike_56 ?_
        refine ww_icmp_ne (pc := 59) (tgt := 65) C dX11_countAlike_59 (by decide) (fun q => ?_) (fun q => ?_)
        · have hf := xin q hf
          refine ww_iinc (pc := 65) (v := x6 + (1 : Int32)) (lv' := [(6, .int (x6 + (1 : Int32))), (0, .ref (gB G + r0)), (1, .int x1), (2, .int x2), (3, .int x3), (4, .int x4), (5, .int x5)]) C 6 dX11_countAlike_65 rfl (congrArg (fun z => x6 + z) (show Int32.ofInt (1) = (1 : Int32) by decide)) (by decide) rfl ?_
          refine ww_goto (pc := 68) (tgt := 15) C dX11_countAlike_68 (by decide) ?_
          have hf := xsj hf
          subst hf
          refine ww_sub [1, 2, 3, 4, 5, 6, 0] rfl ?_
          exact hk.1 (x5, x6 + (1 : Int32)) rfl
        · have hf := xip q hf
          refine ww_iinc (pc := 62) (v := x5 + (1 : Int32)) (lv' := [(5, .int (x5 + (1 : Int32))), (0, .ref (gB G + r0)), (1, .int x1), (2, .int x2), (3, .int x3), (4, .int x4), (6, .int x6)]) C 5 dX11_countAlike_62 rfl (congrArg (fun z => x5 + z) (show Int32.ofInt (1) = (1 : Int32) by decide)) (by decide) rfl ?_
          refine ww_iinc (pc := 65) (v := x6 + (1 : Int32)) (lv' := [(6, .int (x6 + (1 : Int32))), (5, .int (x5 + (1 : Int32))), (0, .ref (gB G + r0)), (1, .int x1), (2, .int x2), (3, .int x3), (4, .int x4)]) C 6 dX11_countAlike_65 rfl (congrArg (fun z => x6 + z) (show Int32.ofInt (1) = (1 : Int32) by decide)) (by decide) rfl ?_
          refine ww_goto (pc := 68) (tgt := 15) C dX11_countAlike_68 (by decide) ?_
          have hf := xsj hf
          subst hf
          refine ww_sub [2, 3, 4, 5, 6, 1, 0] rfl ?_
          exact hk.1 (x5 + (1 : Int32), x6 + (1 : Int32)) rfl
theorem s_X11_countAlike_e {G : XG} (C : XC G cX11_countAlike RX11 (some .int) 7 1 21) {σ : XS} {r0 : Nat} {x1 : Int32} {x2 : Int32} {x3 : Int32} {x : Int32} (hf : f_X11_countAlike σ r0 x1 x2 x3 = some x) (hk : XEnd G (some (.int x)) σ) : WW G 0 [(0, .ref (gB G + r0)), (1, .int x1), (2, .int x2), (3, .int x3)] [] σ := by
  refine ww_aload_n (pc := 0) C 0 dX11_countAlike_0 rfl ?_
  obtain ⟨z2, e1, hf⟩ := xbd hf
  refine gf_X11_24 (pc := 1) C e1 dX11_countAlike_1 ?_
  obtain ⟨_, e3, hf⟩ := xbd hf
  obtain ⟨v5, e4, hf⟩ := xbd hf
  refine ww_callVi (pc := 4) (as := []) (st := []) C (k_X3_states (l := gl G) (E := gE G) (hb := gB G) (σ := σ) e4) rfl (by decide) xc_X11_291 q871 qp62 (xck_spec e3) rfl (by decide) (xst4 (Nat.le_of_ble_eq_true rfl)) xsame.rf.le xsame.rf.lim dX11_countAlike_4 ?_
  refine ww_istore (pc := 7) (lv' := [(4, .int v5), (0, .ref (gB G + r0)), (1, .int x1), (2, .int x2), (3, .int x3)]) C dX11_countAlike_7 (by decide) rfl ?_
  refine ww_iconst (pc := 9) (v := (0 : Int32)) C dX11_countAlike_9 (by decide) ?_
  refine ww_istore (pc := 10) (lv' := [(5, .int (0 : Int32)), (4, .int v5), (0, .ref (gB G + r0)), (1, .int x1), (2, .int x2), (3, .int x3)]) C dX11_countAlike_10 (by decide) rfl ?_
  refine ww_iconst (pc := 12) (v := (0 : Int32)) C dX11_countAlike_12 (by decide) ?_
  refine ww_istore (pc := 13) (lv' := [(6, .int (0 : Int32)), (5, .int (0 : Int32)), (4, .int v5), (0, .ref (gB G + r0)), (1, .int x1), (2, .int x2), (3, .int x3)]) C dX11_countAlike_13 (by decide) rfl ?_
  refine ww_sub [3, 4, 5, 6, 2, 1, 0] rfl ?_
  exact s_X11_countAlike_l15 C (a := ((0 : Int32), (0 : Int32))) hf hk
theorem k_X11_countAlike {l : Launch} {E : XD} {hb : Nat} {σ : XS} {r0 : Nat} {x1 : Int32} {x2 : Int32} {x3 : Int32} {x : Int32} (h : f_X11_countAlike σ r0 x1 x2 x3 = some x) : XM l yX11_countAlike cX11_countAlike 7 (some .int) 1 21 E hb [.ref (hb + r0), .int x1, .int x2, .int x3] σ (some (.int x)) σ := by
  refine xm_of (by decide) (Nat.le_of_ble_eq_true rfl) ⟨Nat.le_refl _, Nat.le_refl _⟩ (fun G hG C hl hQ => ?_)
  obtain ⟨rfl, rfl, rfl, hN⟩ := hG
  exact s_X11_countAlike_e C h hQ
noncomputable def f_X11_countJoinedLevels_b4 (σ : XS) (r0 : Nat) : Int32 × Int32 → Option ((Int32 × Int32) ⊕ (Int32)) := fun a => match a with
  | (x1, x2) => (xgR σ r0 11 12).bind fun z2 => (xal σ z2).bind fun v4 => if v4 ≤ x2 then ((some x1).map .inr) else (xgR σ r0 11 12).bind fun z6 => (xaL σ z6 x2).bind fun v8 => if (lg_cmp v8 (0 : Int64)) = 0 then (some (.inl (x1, x2 + (1 : Int32)))) else some (.inl (x1 + (1 : Int32), x2 + (1 : Int32)))
noncomputable def f_X11_countJoinedLevels (σ : XS) (r0 : Nat) : Option Int32 := xloop (f_X11_countJoinedLevels_b4 σ r0) ((0 : Int32), (0 : Int32))
theorem s_X11_countJoinedLevels_l4 {G : XG} (C : XC G cX11_countJoinedLevels RX11 (some .int) 3 0 0) {σ : XS} {r0 : Nat} {a : Int32 × Int32} {x : Int32} (hf : xloop (f_X11_countJoinedLevels_b4 σ r0) a = some x) (hk : XEnd G (some (.int x)) σ) : WW G 4 [(0, .ref (gB G + r0)), (1, .int a.1), (2, .int a.2)] [] σ := by
  refine xloop_ind (P := fun a => WW G 4 [(0, .ref (gB G + r0)), (1, .int a.1), (2, .int a.2)] [] σ) (fun a y hf hc he => ?_) hf
  obtain ⟨x1, x2⟩ := a
  have hk : (∀ a' : Int32 × Int32, y = .inl a' → WW G 4 [(0, .ref (gB G + r0)), (1, .int a'.1), (2, .int a'.2)] [] σ) ∧ (∀ b1 : Int32, y = .inr b1 → XEnd G (some (.int b1)) σ) := ⟨hc, fun b e => by have h9 := he b e; subst h9; exact hk⟩
  refine ww_iload_n (pc := 4) C 2 dX11_countJoinedLevels_4 rfl ?_
  refine ww_aload_n (pc := 5) C 0 dX11_countJoinedLevels_5 rfl ?_
  obtain ⟨z2, e1, hf⟩ := xbd hf
  refine gf_X11_87 (pc := 6) C e1 dX11_countJoinedLevels_6 ?_
  obtain ⟨v4, e3, hf⟩ := xbd hf
  refine ww_alen (pc := 9) C e3 dX11_countJoinedLevels_9 ?_
  refine ww_icmp_ge (pc := 10) (tgt := 33) C dX11_countJoinedLevels_10 (by decide) (fun q => ?_) (fun q => ?_)
  · have hf := xip q hf
    obtain ⟨b0, hg, e9⟩ := xmj hf
    subst e9
    have hf := hg
    have hk := hk.2 _ rfl
    refine ww_iload_n (pc := 33) C 1 dX11_countJoinedLevels_33 rfl ?_
    have hf := xsj hf
    subst hf
    exact ww_iret (pc := 34) C hk dX11_countJoinedLevels_34
  · have hf := xin q hf
    refine ww_aload_n (pc := 13) C 0 dX11_countJoinedLevels_13 rfl ?_
    obtain ⟨z6, e5, hf⟩ := xbd hf
    refine gf_X11_87 (pc := 14) C e5 dX11_countJoinedLevels_14 ?_
    refine ww_iload_n (pc := 17) C 2 dX11_countJoinedLevels_17 rfl ?_
    obtain ⟨v8, e7, hf⟩ := xbd hf
    refine ww_lald (pc := 18) C e7 dX11_countJoinedLevels_18 ?_
    refine ww_lconst (pc := 19) (v := (0 : Int64)) C dX11_countJoinedLevels_19 (by decide) ?_
    refine ww_lcmp (pc := 20) C dX11_countJoinedLevels_20 ?_
    refine ww_if_eq (pc := 21) (tgt := 27) C dX11_countJoinedLevels_21 (by decide) (fun q => ?_) (fun q => ?_)
    · have hf := xip q hf
      refine ww_iinc (pc := 27) (v := x2 + (1 : Int32)) (lv' := [(2, .int (x2 + (1 : Int32))), (0, .ref (gB G + r0)), (1, .int x1)]) C 2 dX11_countJoinedLevels_27 rfl (congrArg (fun z => x2 + z) (show Int32.ofInt (1) = (1 : Int32) by decide)) (by decide) rfl ?_
      refine ww_goto (pc := 30) (tgt := 4) C dX11_countJoinedLevels_30 (by decide) ?_
      have hf := xsj hf
      subst hf
      refine ww_sub [1, 2, 0] rfl ?_
      exact hk.1 (x1, x2 + (1 : Int32)) rfl
    · have hf := xin q hf
      refine ww_iinc (pc := 24) (v := x1 + (1 : Int32)) (lv' := [(1, .int (x1 + (1 : Int32))), (0, .ref (gB G + r0)), (2, .int x2)]) C 1 dX11_countJoinedLevels_24 rfl (congrArg (fun z => x1 + z) (show Int32.ofInt (1) = (1 : Int32) by decide)) (by decide) rfl ?_
      refine ww_iinc (pc := 27) (v := x2 + (1 : Int32)) (lv' := [(2, .int (x2 + (1 : Int32))), (1, .int (x1 + (1 : Int32))), (0, .ref (gB G + r0))]) C 2 dX11_countJoinedLevels_27 rfl (congrArg (fun z => x2 + z) (show Int32.ofInt (1) = (1 : Int32) by decide)) (by decide) rfl ?_
      refine ww_goto (pc := 30) (tgt := 4) C dX11_countJoinedLevels_30 (by decide) ?_
      have hf := xsj hf
      subst hf
      refine ww_sub [2, 1, 0] rfl ?_
      exact hk.1 (x1 + (1 : Int32), x2 + (1 : Int32)) rfl
theorem s_X11_countJoinedLevels_e {G : XG} (C : XC G cX11_countJoinedLevels RX11 (some .int) 3 0 0) {σ : XS} {r0 : Nat} {x : Int32} (hf : f_X11_countJoinedLevels σ r0 = some x) (hk : XEnd G (some (.int x)) σ) : WW G 0 [(0, .ref (gB G + r0))] [] σ := by
  refine ww_iconst (pc := 0) (v := (0 : Int32)) C dX11_countJoinedLevels_0 (by decide) ?_
  refine ww_istore_n (pc := 1) (lv' := [(1, .int (0 : Int32)), (0, .ref (gB G + r0))]) C dX11_countJoinedLevels_1 (by decide) rfl ?_
  refine ww_iconst (pc := 2) (v := (0 : Int32)) C dX11_countJoinedLevels_2 (by decide) ?_
  refine ww_istore_n (pc := 3) (lv' := [(2, .int (0 : Int32)), (1, .int (0 : Int32)), (0, .ref (gB G + r0))]) C dX11_countJoinedLevels_3 (by decide) rfl ?_
  refine ww_sub [2, 1, 0] rfl ?_
  exact s_X11_countJoinedLevels_l4 C (a := ((0 : Int32), (0 : Int32))) hf hk
theorem k_X11_countJoinedLevels {l : Launch} {E : XD} {hb : Nat} {σ : XS} {r0 : Nat} {x : Int32} (h : f_X11_countJoinedLevels σ r0 = some x) : XM l yX11_countJoinedLevels cX11_countJoinedLevels 3 (some .int) 0 0 E hb [.ref (hb + r0)] σ (some (.int x)) σ := by
  refine xm_of (by decide) (Nat.le_of_ble_eq_true rfl) ⟨Nat.le_refl _, Nat.le_refl _⟩ (fun G hG C hl hQ => ?_)
  obtain ⟨rfl, rfl, rfl, hN⟩ := hG
  exact s_X11_countJoinedLevels_e C h hQ
noncomputable def f_X11_countWays_b17 (r1 : Nat) (r2 : Nat) (r3 : Nat) (x4 : Int32) : Int32 × XS → Option ((Int32 × XS) ⊕ (XS)) := fun a => match a with
  | (x5, σ) => if x4 ≤ x5 then ((some σ).map .inr) else (xck σ r2 2).bind fun _ => (f_X2_of σ r2 x5).bind fun v3 => (xck σ r3 6).bind fun _ => (f_X6_allows σ r3 x5).bind fun v6 => if v6 = 0 then (some (.inl (x5 + (1 : Int32), σ))) else if (v3 + (144 : Int32)) < 0 then (some (.inl (x5 + (1 : Int32), σ))) else (xal σ r1).bind fun v8 => if v8 ≤ (v3 + (144 : Int32)) then (some (.inl (x5 + (1 : Int32), σ))) else (xaI σ 20 r1 (v3 + (144 : Int32))).bind fun v10 => (xsI σ 20 r1 (v3 + (144 : Int32)) (v10 + (1 : Int32))).bind fun σ12 => some (.inl (x5 + (1 : Int32), σ12))
noncomputable def f_X11_countWays (σ : XS) (r0 : Nat) (r1 : Nat) (r2 : Nat) (r3 : Nat) : Option XS := (xgR σ r0 11 2).bind fun z2 => (xck σ z2 3).bind fun _ => (f_X3_states σ z2).bind fun v5 => (f_J7_fill_53178 σ r1 (0 : Int32)).bind fun σ7 => xloop (f_X11_countWays_b17 r1 r2 r3 v5) ((0 : Int32), σ7)
theorem m_X11_countWays_l17 {r1 : Nat} {r2 : Nat} {r3 : Nat} {x4 : Int32} {a : Int32 × XS} {x : XS} (hf : xloop (f_X11_countWays_b17 r1 r2 r3 x4) a = some x) : xsame a.2 x := by
  refine xloop_ind (P := fun a => xsame a.2 x) (fun a y hf hc he => ?_) hf
  obtain ⟨x5, σ⟩ := a
  have hy : (∀ a' : Int32 × XS, y = .inl a' → xsame σ a'.2) ∧ (∀ b1 : XS, y = .inr b1 → xsame σ b1) := by
    have hm := xsame.rf (σ := σ)
    by_cases q : x4 ≤ x5
    · have hf := xip q hf
      obtain ⟨b0, hg, e9⟩ := xmj hf
      subst e9
      have hf := hg
      refine ⟨fun a' e => xnc2 e, fun b e => ?_⟩
      have h9 := Sum.inr.inj e
      subst h9
      have hf := xsj hf
      subst hf
      exact hm
    · have hf := xin q hf
      obtain ⟨_, e1, hf⟩ := xbd hf
      obtain ⟨v3, e2, hf⟩ := xbd hf
      obtain ⟨_, e4, hf⟩ := xbd hf
      obtain ⟨v6, e5, hf⟩ := xbd hf
      by_cases q : v6 = 0
      · have hf := xip q hf
        have hf := xsj hf
        subst hf
        exact ⟨fun a' e => (by have h9 := Sum.inl.inj e; subst h9; exact hm), fun b e => xnc1 e⟩
      · have hf := xin q hf
        by_cases q : (v3 + (144 : Int32)) < 0
        · have hf := xip q hf
          have hf := xsj hf
          subst hf
          exact ⟨fun a' e => (by have h9 := Sum.inl.inj e; subst h9; exact hm), fun b e => xnc1 e⟩
        · have hf := xin q hf
          obtain ⟨v8, e7, hf⟩ := xbd hf
          by_cases q : v8 ≤ (v3 + (144 : Int32))
          · have hf := xip q hf
            have hf := xsj hf
            subst hf
            exact ⟨fun a' e => (by have h9 := Sum.inl.inj e; subst h9; exact hm), fun b e => xnc1 e⟩
          · have hf := xin q hf
            obtain ⟨v10, e9, hf⟩ := xbd hf
            obtain ⟨σ12, e11, hf⟩ := xbd hf
            have hm := hm.tr (xsI_same e11)
            have hf := xsj hf
            subst hf
            exact ⟨fun a' e => (by have h9 := Sum.inl.inj e; subst h9; exact hm), fun b e => xnc1 e⟩
  cases y with
  | inl a' =>
    have h1 := hc a' rfl
    have hm := hy.1 a' rfl
    exact hm.tr (h1)
  | inr b =>
    have h1 := he b rfl
    subst h1
    exact hy.2 _ rfl
theorem s_X11_countWays_l17 {G : XG} (C : XC G cX11_countWays RX11 none 7 1 23) {r1 : Nat} {r2 : Nat} {r3 : Nat} {x4 : Int32} {a : Int32 × XS} {x : XS} (hf : xloop (f_X11_countWays_b17 r1 r2 r3 x4) a = some x) (hk : XEnd G none x) : WW G 17 [(1, .ref (gB G + r1)), (2, .ref (gB G + r2)), (3, .ref (gB G + r3)), (4, .int x4), (5, .int a.1)] [] a.2 := by
  refine xloop_ind (P := fun a => WW G 17 [(1, .ref (gB G + r1)), (2, .ref (gB G + r2)), (3, .ref (gB G + r3)), (4, .int x4), (5, .int a.1)] [] a.2) (fun a y hf hc he => ?_) hf
  obtain ⟨x5, σ⟩ := a
  have hk : (∀ a' : Int32 × XS, y = .inl a' → WW G 17 [(1, .ref (gB G + r1)), (2, .ref (gB G + r2)), (3, .ref (gB G + r3)), (4, .int x4), (5, .int a'.1)] [] a'.2) ∧ (∀ b1 : XS, y = .inr b1 → XEnd G none b1) := ⟨hc, fun b e => by have h9 := he b e; subst h9; exact hk⟩
  refine ww_iload (pc := 17) C 4 dX11_countWays_17 rfl ?_
  refine ww_iload (pc := 19) C 3 dX11_countWays_19 rfl ?_
  refine ww_icmp_ge (pc := 21) (tgt := 71) C dX11_countWays_21 (by decide) (fun q => ?_) (fun q => ?_)
  · have hf := xip q hf
    obtain ⟨b0, hg, e9⟩ := xmj hf
    subst e9
    have hf := hg
    have hk := hk.2 _ rfl
    have hf := xsj hf
    subst hf
    exact ww_vret (pc := 71) C hk dX11_countWays_71
  · have hf := xin q hf
    refine ww_aload_n (pc := 24) C 1 dX11_countWays_24 rfl ?_
    refine ww_iload (pc := 25) C 4 dX11_countWays_25 rfl ?_
    obtain ⟨_, e1, hf⟩ := xbd hf
    obtain ⟨v3, e2, hf⟩ := xbd hf
    refine ww_callVi (pc := 27) (as := [.int x5]) (st := []) C (k_X2_of (l := gl G) (E := gE G) (hb := gB G) (σ := σ) e2) rfl (by decide) xc_X11_298 q880 qp64 (xck_spec e1) rfl (by decide) (xst4 (Nat.le_of_ble_eq_true rfl)) xsame.rf.le xsame.rf.lim dX11_countWays_27 ?_
    refine ww_sipush (pc := 30) (v := (144 : Int32)) C dX11_countWays_30 (by decide) ?_
    refine ww_iadd (pc := 33) C dX11_countWays_33 ?_
    refine ww_istore (pc := 34) (lv' := [(6, .int (v3 + (144 : Int32))), (1, .ref (gB G + r1)), (2, .ref (gB G + r2)), (3, .ref (gB G + r3)), (4, .int x4), (5, .int x5)]) C dX11_countWays_34 (by decide) rfl ?_
    refine ww_aload_n (pc := 36) C 3 dX11_countWays_36 rfl ?_
    refine ww_iload (pc := 37) C 5 dX11_countWays_37 rfl ?_
    obtain ⟨_, e4, hf⟩ := xbd hf
    obtain ⟨v6, e5, hf⟩ := xbd hf
    refine ww_callVi (pc := 39) (as := [.int x5]) (st := []) C (k_X6_allows (l := gl G) (E := gE G) (hb := gB G) (σ := σ) e5) rfl (by decide) xc_X11_295 q890 qp65 (xck_spec e4) rfl (by decide) (xst4 (Nat.le_of_ble_eq_true rfl)) xsame.rf.le xsame.rf.lim dX11_countWays_39 ?_
    refine ww_if_eq (pc := 42) (tgt := 65) C dX11_countWays_42 (by decide) (fun q => ?_) (fun q => ?_)
    · have hf := xip q hf
      refine ww_iinc (pc := 65) (v := x5 + (1 : Int32)) (lv' := [(5, .int (x5 + (1 : Int32))), (6, .int (v3 + (144 : Int32))), (1, .ref (gB G + r1)), (2, .ref (gB G + r2)), (3, .ref (gB G + r3)), (4, .int x4)]) C 5 dX11_countWays_65 rfl (congrArg (fun z => x5 + z) (show Int32.ofInt (1) = (1 : Int32) by decide)) (by decide) rfl ?_
      refine ww_goto (pc := 68) (tgt := 17) C dX11_countWays_68 (by decide) ?_
      have hf := xsj hf
      subst hf
      refine ww_sub [2, 3, 4, 5, 0] rfl ?_
      exact hk.1 (x5 + (1 : Int32), σ) rfl
    · have hf := xin q hf
      refine ww_iload (pc := 45) C 0 dX11_countWays_45 rfl ?_
      refine ww_if_lt (pc := 47) (tgt := 65) C dX11_countWays_47 (by decide) (fun q => ?_) (fun q => ?_)
      · have hf := xip q hf
        refine ww_iinc (pc := 65) (v := x5 + (1 : Int32)) (lv' := [(5, .int (x5 + (1 : Int32))), (6, .int (v3 + (144 : Int32))), (1, .ref (gB G + r1)), (2, .ref (gB G + r2)), (3, .ref (gB G + r3)), (4, .int x4)]) C 5 dX11_countWays_65 rfl (congrArg (fun z => x5 + z) (show Int32.ofInt (1) = (1 : Int32) by decide)) (by decide) rfl ?_
        refine ww_goto (pc := 68) (tgt := 17) C dX11_countWays_68 (by decide) ?_
        have hf := xsj hf
        subst hf
        refine ww_sub [2, 3, 4, 5, 0] rfl ?_
        exact hk.1 (x5 + (1 : Int32), σ) rfl
      · have hf := xin q hf
        refine ww_iload (pc := 50) C 0 dX11_countWays_50 rfl ?_
        refine ww_aload_n (pc := 52) C 1 dX11_countWays_52 rfl ?_
        obtain ⟨v8, e7, hf⟩ := xbd hf
        refine ww_alen (pc := 53) C e7 dX11_countWays_53 ?_
        refine ww_icmp_ge (pc := 54) (tgt := 65) C dX11_countWays_54 (by decide) (fun q => ?_) (fun q => ?_)
        · have hf := xip q hf
          refine ww_iinc (pc := 65) (v := x5 + (1 : Int32)) (lv' := [(5, .int (x5 + (1 : Int32))), (6, .int (v3 + (144 : Int32))), (1, .ref (gB G + r1)), (2, .ref (gB G + r2)), (3, .ref (gB G + r3)), (4, .int x4)]) C 5 dX11_countWays_65 rfl (congrArg (fun z => x5 + z) (show Int32.ofInt (1) = (1 : Int32) by decide)) (by decide) rfl ?_
          refine ww_goto (pc := 68) (tgt := 17) C dX11_countWays_68 (by decide) ?_
          have hf := xsj hf
          subst hf
          refine ww_sub [2, 3, 4, 5, 0] rfl ?_
          exact hk.1 (x5 + (1 : Int32), σ) rfl
        · have hf := xin q hf
          refine ww_aload_n (pc := 57) C 1 dX11_countWays_57 rfl ?_
          refine ww_iload (pc := 58) C 0 dX11_countWays_58 rfl ?_
          refine ww_dup2 (pc := 60) C dX11_countWays_60 rfl rfl ?_
          obtain ⟨v10, e9, hf⟩ := xbd hf
          refine ww_iald (pc := 61) C e9 dX11_countWays_61 ?_
          refine ww_iconst (pc := 62) (v := (1 : Int32)) C dX11_countWays_62 (by decide) ?_
          refine ww_iadd (pc := 63) C dX11_countWays_63 ?_
          obtain ⟨σ12, e11, hf⟩ := xbd hf
          refine ww_iast (pc := 64) C e11 dX11_countWays_64 ?_
          refine ww_iinc (pc := 65) (v := x5 + (1 : Int32)) (lv' := [(5, .int (x5 + (1 : Int32))), (6, .int (v3 + (144 : Int32))), (1, .ref (gB G + r1)), (2, .ref (gB G + r2)), (3, .ref (gB G + r3)), (4, .int x4)]) C 5 dX11_countWays_65 rfl (congrArg (fun z => x5 + z) (show Int32.ofInt (1) = (1 : Int32) by decide)) (by decide) rfl ?_
          refine ww_goto (pc := 68) (tgt := 17) C dX11_countWays_68 (by decide) ?_
          have hf := xsj hf
          subst hf
          refine ww_sub [2, 3, 4, 5, 0] rfl ?_
          exact hk.1 (x5 + (1 : Int32), σ12) rfl
theorem s_X11_countWays_e {G : XG} (C : XC G cX11_countWays RX11 none 7 1 23) {σ : XS} {r0 : Nat} {r1 : Nat} {r2 : Nat} {r3 : Nat} {x : XS} (hf : f_X11_countWays σ r0 r1 r2 r3 = some x) (hk : XEnd G none x) : WW G 0 [(0, .ref (gB G + r0)), (1, .ref (gB G + r1)), (2, .ref (gB G + r2)), (3, .ref (gB G + r3))] [] σ := by
  refine ww_aload_n (pc := 0) C 0 dX11_countWays_0 rfl ?_
  obtain ⟨z2, e1, hf⟩ := xbd hf
  refine gf_X11_24 (pc := 1) C e1 dX11_countWays_1 ?_
  obtain ⟨_, e3, hf⟩ := xbd hf
  obtain ⟨v5, e4, hf⟩ := xbd hf
  refine ww_callVi (pc := 4) (as := []) (st := []) C (k_X3_states (l := gl G) (E := gE G) (hb := gB G) (σ := σ) e4) rfl (by decide) xc_X11_291 q871 qp62 (xck_spec e3) rfl (by decide) (xst4 (Nat.le_of_ble_eq_true rfl)) xsame.rf.le xsame.rf.lim dX11_countWays_4 ?_
  refine ww_istore (pc := 7) (lv' := [(4, .int v5), (0, .ref (gB G + r0)), (1, .ref (gB G + r1)), (2, .ref (gB G + r2)), (3, .ref (gB G + r3))]) C dX11_countWays_7 (by decide) rfl ?_
  refine ww_aload_n (pc := 9) C 2 dX11_countWays_9 rfl ?_
  refine ww_iconst (pc := 10) (v := (0 : Int32)) C dX11_countWays_10 (by decide) ?_
  obtain ⟨σ7, e6, hf⟩ := xbd hf
  refine ww_callSv (pc := 11) (as := [.ref (gB G + r1), .int (0 : Int32)]) (st := []) C (k_J7_fill_53178 (l := gl G) (E := gE G) (hb := gB G) (σ := σ) e6) xc_X11_354 q174 rfl (by decide) (xst4 (Nat.le_of_ble_eq_true rfl)) (m_J7_fill_53178 e6).le (m_J7_fill_53178 e6).lim dX11_countWays_11 ?_
  refine ww_iconst (pc := 14) (v := (0 : Int32)) C dX11_countWays_14 (by decide) ?_
  refine ww_istore (pc := 15) (lv' := [(5, .int (0 : Int32)), (4, .int v5), (0, .ref (gB G + r0)), (1, .ref (gB G + r1)), (2, .ref (gB G + r2)), (3, .ref (gB G + r3))]) C dX11_countWays_15 (by decide) rfl ?_
  refine ww_sub [3, 4, 5, 1, 0] rfl ?_
  exact s_X11_countWays_l17 C (a := ((0 : Int32), σ7)) hf hk
theorem m_X11_countWays {σ : XS} {r0 : Nat} {r1 : Nat} {r2 : Nat} {r3 : Nat} {x : XS} (hf : f_X11_countWays σ r0 r1 r2 r3 = some x) : xsame σ x := by
  have hm := xsame.rf (σ := σ)
  obtain ⟨z2, e1, hf⟩ := xbd hf
  obtain ⟨_, e3, hf⟩ := xbd hf
  obtain ⟨v5, e4, hf⟩ := xbd hf
  obtain ⟨σ7, e6, hf⟩ := xbd hf
  have hm := hm.tr (m_J7_fill_53178 e6)
  exact hm.tr (m_X11_countWays_l17 (a := ((0 : Int32), σ7)) hf)
theorem k_X11_countWays {l : Launch} {E : XD} {hb : Nat} {σ : XS} {r0 : Nat} {r1 : Nat} {r2 : Nat} {r3 : Nat} {x : XS} (h : f_X11_countWays σ r0 r1 r2 r3 = some x) : XM l yX11_countWays cX11_countWays 7 none 1 23 E hb [.ref (hb + r0), .ref (hb + r1), .ref (hb + r2), .ref (hb + r3)] σ none x := by
  refine xm_of (by decide) (Nat.le_of_ble_eq_true rfl) (m_X11_countWays h).le (fun G hG C hl hQ => ?_)
  obtain ⟨rfl, rfl, rfl, hN⟩ := hG
  exact s_X11_countWays_e C h hQ
noncomputable def f_X9_waysFrom_b8 (σ : XS) (r0 : Nat) (x1 : Int32) : Int64 × Int32 × Int32 → Option ((Int64 × Int32 × Int32) ⊕ (Int64)) := fun a => match a with
  | (w2, x4, x5) => (xgI σ r0 9 7).bind fun v2 => if v2 ≤ x5 then ((if x4 = 0 then (some w2) else some (1 : Int64)).map .inr) else (xck σ r0 9).bind fun _ => (f_X9_canTurn σ r0 x5).bind fun v5 => if v5 = 0 then (some (.inl (w2, x4, x5 + (1 : Int32)))) else (f_X9_isState (x1 ^^^ ((1 : Int32) <<< (x5 &&& 31)))).bind fun v7 => if v7 = 0 then (some (.inl (w2, x4, x5 + (1 : Int32)))) else (xck σ r0 9).bind fun _ => (f_X9_energyOf σ r0 (x1 ^^^ ((1 : Int32) <<< (x5 &&& 31)))).bind fun v10 => (xck σ r0 9).bind fun _ => (f_X9_energyOf σ r0 x1).bind fun v13 => if v13 ≤ v10 then (some (.inl (w2, x4, x5 + (1 : Int32)))) else (xgR σ r0 9 4).bind fun z15 => (xaL σ z15 (x1 ^^^ ((1 : Int32) <<< (x5 &&& 31)))).bind fun v17 => some (.inl (w2 + v17, (0 : Int32), x5 + (1 : Int32)))
noncomputable def f_X9_waysFrom (σ : XS) (r0 : Nat) (x1 : Int32) : Option Int64 := xloop (f_X9_waysFrom_b8 σ r0 x1) ((0 : Int64), (1 : Int32), (0 : Int32))
theorem s_X9_waysFrom_l8 {G : XG} (C : XC G cX9_waysFrom RX9 (some .long) 7 3 63) {σ : XS} {r0 : Nat} {x1 : Int32} {a : Int64 × Int32 × Int32} {x : Int64} (hf : xloop (f_X9_waysFrom_b8 σ r0 x1) a = some x) (hk : XEnd G (some (.long x)) σ) : WW G 8 [(0, .ref (gB G + r0)), (1, .int x1), (2, .long a.1), (4, .int a.2.1), (5, .int a.2.2)] [] σ := by
  refine xloop_ind (P := fun a => WW G 8 [(0, .ref (gB G + r0)), (1, .int x1), (2, .long a.1), (4, .int a.2.1), (5, .int a.2.2)] [] σ) (fun a y hf hc he => ?_) hf
  obtain ⟨w2, x4, x5⟩ := a
  have hk : (∀ a' : Int64 × Int32 × Int32, y = .inl a' → WW G 8 [(0, .ref (gB G + r0)), (1, .int x1), (2, .long a'.1), (4, .int a'.2.1), (5, .int a'.2.2)] [] σ) ∧ (∀ b1 : Int64, y = .inr b1 → XEnd G (some (.long b1)) σ) := ⟨hc, fun b e => by have h9 := he b e; subst h9; exact hk⟩
  refine ww_iload (pc := 8) C 4 dX9_waysFrom_8 rfl ?_
  refine ww_aload_n (pc := 10) C 0 dX9_waysFrom_10 rfl ?_
  obtain ⟨v2, e1, hf⟩ := xbd hf
  refine gf_X9_40 (pc := 11) C e1 dX9_waysFrom_11 ?_
  refine ww_icmp_ge (pc := 14) (tgt := 75) C dX9_waysFrom_14 (by decide) (fun q => ?_) (fun q => ?_)
  · have hf := xip q hf
    obtain ⟨b0, hg, e9⟩ := xmj hf
    subst e9
    have hf := hg
    have hk := hk.2 _ rfl
    refine ww_iload (pc := 75) C 3 dX9_waysFrom_75 rfl ?_
    refine ww_if_eq (pc := 77) (tgt := 84) C dX9_waysFrom_77 (by decide) (fun q => ?_) (fun q => ?_)
    · have hf := xip q hf
      refine ww_lload_n (pc := 84) C 2 dX9_waysFrom_84 rfl ?_
      have hf := xsj hf
      subst hf
      exact ww_lret (pc := 85) C hk dX9_waysFrom_85
    · have hf := xin q hf
      refine ww_lconst (pc := 80) (v := (1 : Int64)) C dX9_waysFrom_80 (by decide) ?_
      refine ww_goto (pc := 81) (tgt := 85) C dX9_waysFrom_81 (by decide) ?_
      have hf := xsj hf
      subst hf
      exact ww_lret (pc := 85) C hk dX9_waysFrom_85
  · have hf := xin q hf
    refine ww_iload_n (pc := 17) C 1 dX9_waysFrom_17 rfl ?_
    refine ww_iconst (pc := 18) (v := (1 : Int32)) C dX9_waysFrom_18 (by decide) ?_
    refine ww_iload (pc := 19) C 4 dX9_waysFrom_19 rfl ?_
    refine ww_ishl (pc := 21) C dX9_waysFrom_21 ?_
    refine ww_ixor (pc := 22) C dX9_waysFrom_22 ?_
    refine ww_istore (pc := 23) (lv' := [(6, .int (x1 ^^^ ((1 : Int32) <<< (x5 &&& 31)))), (0, .ref (gB G + r0)), (1, .int x1), (2, .long w2), (4, .int x4), (5, .int x5)]) C dX9_waysFrom_23 (by decide) rfl ?_
    refine ww_aload_n (pc := 25) C 1 dX9_waysFrom_25 rfl ?_
    refine ww_iload (pc := 26) C 5 dX9_waysFrom_26 rfl ?_
    obtain ⟨_, e3, hf⟩ := xbd hf
    obtain ⟨v5, e4, hf⟩ := xbd hf
    refine ww_callVi (pc := 28) (as := [.int x5]) (st := []) C (k_X9_canTurn (l := gl G) (E := gE G) (hb := gB G) (σ := σ) e4) rfl (by decide) xc_X9_87 q1136 qp100 (xck_spec e3) rfl (by decide) (xst4 (Nat.le_of_ble_eq_true rfl)) xsame.rf.le xsame.rf.lim dX9_waysFrom_28 ?_
    refine ww_if_eq (pc := 31) (tgt := 69) C dX9_waysFrom_31 (by decide) (fun q => ?_) (fun q => ?_)
    · have hf := xip q hf
      refine ww_iinc (pc := 69) (v := x5 + (1 : Int32)) (lv' := [(5, .int (x5 + (1 : Int32))), (6, .int (x1 ^^^ ((1 : Int32) <<< (x5 &&& 31)))), (0, .ref (gB G + r0)), (1, .int x1), (2, .long w2), (4, .int x4)]) C 5 dX9_waysFrom_69 rfl (congrArg (fun z => x5 + z) (show Int32.ofInt (1) = (1 : Int32) by decide)) (by decide) rfl ?_
      refine ww_goto (pc := 72) (tgt := 8) C dX9_waysFrom_72 (by decide) ?_
      have hf := xsj hf
      subst hf
      refine ww_sub [2, 3, 4, 5, 0] rfl ?_
      exact hk.1 (w2, x4, x5 + (1 : Int32)) rfl
    · have hf := xin q hf
      refine ww_iload (pc := 34) C 0 dX9_waysFrom_34 rfl ?_
      obtain ⟨v7, e6, hf⟩ := xbd hf
      refine ww_callSi (pc := 36) (as := [.int (x1 ^^^ ((1 : Int32) <<< (x5 &&& 31)))]) (st := []) C (k_X9_isState (l := gl G) (E := gE G) (hb := gB G) (σ := σ) e6) xc_X9_69 q1144 rfl (by decide) (xst4 (Nat.le_of_ble_eq_true rfl)) xsame.rf.le xsame.rf.lim dX9_waysFrom_36 ?_
      refine ww_if_eq (pc := 39) (tgt := 69) C dX9_waysFrom_39 (by decide) (fun q => ?_) (fun q => ?_)
      · have hf := xip q hf
        refine ww_iinc (pc := 69) (v := x5 + (1 : Int32)) (lv' := [(5, .int (x5 + (1 : Int32))), (6, .int (x1 ^^^ ((1 : Int32) <<< (x5 &&& 31)))), (0, .ref (gB G + r0)), (1, .int x1), (2, .long w2), (4, .int x4)]) C 5 dX9_waysFrom_69 rfl (congrArg (fun z => x5 + z) (show Int32.ofInt (1) = (1 : Int32) by decide)) (by decide) rfl ?_
        refine ww_goto (pc := 72) (tgt := 8) C dX9_waysFrom_72 (by decide) ?_
        have hf := xsj hf
        subst hf
        refine ww_sub [2, 3, 4, 5, 0] rfl ?_
        exact hk.1 (w2, x4, x5 + (1 : Int32)) rfl
      · have hf := xin q hf
        refine ww_aload_n (pc := 42) C 1 dX9_waysFrom_42 rfl ?_
        refine ww_iload (pc := 43) C 0 dX9_waysFrom_43 rfl ?_
        obtain ⟨_, e8, hf⟩ := xbd hf
        obtain ⟨v10, e9, hf⟩ := xbd hf
        refine ww_callVi (pc := 45) (as := [.int (x1 ^^^ ((1 : Int32) <<< (x5 &&& 31)))]) (st := []) C (k_X9_energyOf (l := gl G) (E := gE G) (hb := gB G) (σ := σ) e9) rfl (by decide) xc_X9_100 q1141 qp101 (xck_spec e8) rfl (by decide) (xst4 (Nat.le_of_ble_eq_true rfl)) xsame.rf.le xsame.rf.lim dX9_waysFrom_45 ?_
        refine ww_aload_n (pc := 48) C 1 dX9_waysFrom_48 rfl ?_
        refine ww_iload_n (pc := 49) C 2 dX9_waysFrom_49 rfl ?_
        obtain ⟨_, e11, hf⟩ := xbd hf
        obtain ⟨v13, e12, hf⟩ := xbd hf
        refine ww_callVi (pc := 50) (as := [.int x1]) (st := [.int v10]) C (k_X9_energyOf (l := gl G) (E := gE G) (hb := gB G) (σ := σ) e12) rfl (by decide) xc_X9_100 q1141 qp101 (xck_spec e11) rfl (by decide) (xst4 (Nat.le_of_ble_eq_true rfl)) xsame.rf.le xsame.rf.lim dX9_waysFrom_50 ?_
        refine ww_icmp_ge (pc := 53) (tgt := 69) C dX9_waysFrom_53 (by decide) (fun q => ?_) (fun q => ?_)
        · have hf := xip q hf
          refine ww_iinc (pc := 69) (v := x5 + (1 : Int32)) (lv' := [(5, .int (x5 + (1 : Int32))), (6, .int (x1 ^^^ ((1 : Int32) <<< (x5 &&& 31)))), (0, .ref (gB G + r0)), (1, .int x1), (2, .long w2), (4, .int x4)]) C 5 dX9_waysFrom_69 rfl (congrArg (fun z => x5 + z) (show Int32.ofInt (1) = (1 : Int32) by decide)) (by decide) rfl ?_
          refine ww_goto (pc := 72) (tgt := 8) C dX9_waysFrom_72 (by decide) ?_
          have hf := xsj hf
          subst hf
          refine ww_sub [2, 3, 4, 5, 0] rfl ?_
          exact hk.1 (w2, x4, x5 + (1 : Int32)) rfl
        · have hf := xin q hf
          refine ww_lload_n (pc := 56) C 3 dX9_waysFrom_56 rfl ?_
          refine ww_aload_n (pc := 57) C 1 dX9_waysFrom_57 rfl ?_
          obtain ⟨z15, e14, hf⟩ := xbd hf
          refine gf_X9_24 (pc := 58) C e14 dX9_waysFrom_58 ?_
          refine ww_iload (pc := 61) C 0 dX9_waysFrom_61 rfl ?_
          obtain ⟨v17, e16, hf⟩ := xbd hf
          refine ww_lald (pc := 63) C e16 dX9_waysFrom_63 ?_
          refine ww_ladd (pc := 64) C dX9_waysFrom_64 ?_
          refine ww_lstore_n (pc := 65) (lv' := [(2, .long (w2 + v17)), (6, .int (x1 ^^^ ((1 : Int32) <<< (x5 &&& 31)))), (0, .ref (gB G + r0)), (1, .int x1), (4, .int x4), (5, .int x5)]) C dX9_waysFrom_65 (by decide) rfl ?_
          refine ww_iconst (pc := 66) (v := (0 : Int32)) C dX9_waysFrom_66 (by decide) ?_
          refine ww_istore (pc := 67) (lv' := [(4, .int (0 : Int32)), (2, .long (w2 + v17)), (6, .int (x1 ^^^ ((1 : Int32) <<< (x5 &&& 31)))), (0, .ref (gB G + r0)), (1, .int x1), (5, .int x5)]) C dX9_waysFrom_67 (by decide) rfl ?_
          refine ww_iinc (pc := 69) (v := x5 + (1 : Int32)) (lv' := [(5, .int (x5 + (1 : Int32))), (4, .int (0 : Int32)), (2, .long (w2 + v17)), (6, .int (x1 ^^^ ((1 : Int32) <<< (x5 &&& 31)))), (0, .ref (gB G + r0)), (1, .int x1)]) C 5 dX9_waysFrom_69 rfl (congrArg (fun z => x5 + z) (show Int32.ofInt (1) = (1 : Int32) by decide)) (by decide) rfl ?_
          refine ww_goto (pc := 72) (tgt := 8) C dX9_waysFrom_72 (by decide) ?_
          have hf := xsj hf
          subst hf
          refine ww_sub [4, 5, 2, 1, 0] rfl ?_
          exact hk.1 (w2 + v17, (0 : Int32), x5 + (1 : Int32)) rfl
theorem s_X9_waysFrom_e {G : XG} (C : XC G cX9_waysFrom RX9 (some .long) 7 3 63) {σ : XS} {r0 : Nat} {x1 : Int32} {x : Int64} (hf : f_X9_waysFrom σ r0 x1 = some x) (hk : XEnd G (some (.long x)) σ) : WW G 0 [(0, .ref (gB G + r0)), (1, .int x1)] [] σ := by
  refine ww_lconst (pc := 0) (v := (0 : Int64)) C dX9_waysFrom_0 (by decide) ?_
  refine ww_lstore_n (pc := 1) (lv' := [(2, .long (0 : Int64)), (0, .ref (gB G + r0)), (1, .int x1)]) C dX9_waysFrom_1 (by decide) rfl ?_
  refine ww_iconst (pc := 2) (v := (1 : Int32)) C dX9_waysFrom_2 (by decide) ?_
  refine ww_istore (pc := 3) (lv' := [(4, .int (1 : Int32)), (2, .long (0 : Int64)), (0, .ref (gB G + r0)), (1, .int x1)]) C dX9_waysFrom_3 (by decide) rfl ?_
  refine ww_iconst (pc := 5) (v := (0 : Int32)) C dX9_waysFrom_5 (by decide) ?_
  refine ww_istore (pc := 6) (lv' := [(5, .int (0 : Int32)), (4, .int (1 : Int32)), (2, .long (0 : Int64)), (0, .ref (gB G + r0)), (1, .int x1)]) C dX9_waysFrom_6 (by decide) rfl ?_
  refine ww_sub [3, 4, 2, 1, 0] rfl ?_
  exact s_X9_waysFrom_l8 C (a := ((0 : Int64), (1 : Int32), (0 : Int32))) hf hk
theorem k_X9_waysFrom {l : Launch} {E : XD} {hb : Nat} {σ : XS} {r0 : Nat} {x1 : Int32} {x : Int64} (h : f_X9_waysFrom σ r0 x1 = some x) : XM l yX9_waysFrom cX9_waysFrom 7 (some .long) 3 63 E hb [.ref (hb + r0), .int x1] σ (some (.long x)) σ := by
  refine xm_of (by decide) (Nat.le_of_ble_eq_true rfl) ⟨Nat.le_refl _, Nat.le_refl _⟩ (fun G hG C hl hQ => ?_)
  obtain ⟨rfl, rfl, rfl, hN⟩ := hG
  exact s_X9_waysFrom_e C h hQ
end
