noncomputable def f_J6_bitCount_0f7a4 (x0 : Int32) : Option Int32 := some ((((((((x0 - (((x0.toUInt32 >>> ((1 : Int32).toUInt32 &&& Int32.toUInt32 31)).toInt32) &&& (1431655765 : Int32))) &&& (858993459 : Int32)) + ((((x0 - (((x0.toUInt32 >>> ((1 : Int32).toUInt32 &&& Int32.toUInt32 31)).toInt32) &&& (1431655765 : Int32))).toUInt32 >>> ((2 : Int32).toUInt32 &&& Int32.toUInt32 31)).toInt32) &&& (858993459 : Int32))) + (((((x0 - (((x0.toUInt32 >>> ((1 : Int32).toUInt32 &&& Int32.toUInt32 31)).toInt32) &&& (1431655765 : Int32))) &&& (858993459 : Int32)) + ((((x0 - (((x0.toUInt32 >>> ((1 : Int32).toUInt32 &&& Int32.toUInt32 31)).toInt32) &&& (1431655765 : Int32))).toUInt32 >>> ((2 : Int32).toUInt32 &&& Int32.toUInt32 31)).toInt32) &&& (858993459 : Int32))).toUInt32 >>> ((4 : Int32).toUInt32 &&& Int32.toUInt32 31)).toInt32)) &&& (252645135 : Int32)) + (((((((x0 - (((x0.toUInt32 >>> ((1 : Int32).toUInt32 &&& Int32.toUInt32 31)).toInt32) &&& (1431655765 : Int32))) &&& (858993459 : Int32)) + ((((x0 - (((x0.toUInt32 >>> ((1 : Int32).toUInt32 &&& Int32.toUInt32 31)).toInt32) &&& (1431655765 : Int32))).toUInt32 >>> ((2 : Int32).toUInt32 &&& Int32.toUInt32 31)).toInt32) &&& (858993459 : Int32))) + (((((x0 - (((x0.toUInt32 >>> ((1 : Int32).toUInt32 &&& Int32.toUInt32 31)).toInt32) &&& (1431655765 : Int32))) &&& (858993459 : Int32)) + ((((x0 - (((x0.toUInt32 >>> ((1 : Int32).toUInt32 &&& Int32.toUInt32 31)).toInt32) &&& (1431655765 : Int32))).toUInt32 >>> ((2 : Int32).toUInt32 &&& Int32.toUInt32 31)).toInt32) &&& (858993459 : Int32))).toUInt32 >>> ((4 : Int32).toUInt32 &&& Int32.toUInt32 31)).toInt32)) &&& (252645135 : Int32)).toUInt32 >>> ((8 : Int32).toUInt32 &&& Int32.toUInt32 31)).toInt32)) + ((((((((x0 - (((x0.toUInt32 >>> ((1 : Int32).toUInt32 &&& Int32.toUInt32 31)).toInt32) &&& (1431655765 : Int32))) &&& (858993459 : Int32)) + ((((x0 - (((x0.toUInt32 >>> ((1 : Int32).toUInt32 &&& Int32.toUInt32 31)).toInt32) &&& (1431655765 : Int32))).toUInt32 >>> ((2 : Int32).toUInt32 &&& Int32.toUInt32 31)).toInt32) &&& (858993459 : Int32))) + (((((x0 - (((x0.toUInt32 >>> ((1 : Int32).toUInt32 &&& Int32.toUInt32 31)).toInt32) &&& (1431655765 : Int32))) &&& (858993459 : Int32)) + ((((x0 - (((x0.toUInt32 >>> ((1 : Int32).toUInt32 &&& Int32.toUInt32 31)).toInt32) &&& (1431655765 : Int32))).toUInt32 >>> ((2 : Int32).toUInt32 &&& Int32.toUInt32 31)).toInt32) &&& (858993459 : Int32))).toUInt32 >>> ((4 : Int32).toUInt32 &&& Int32.toUInt32 31)).toInt32)) &&& (252645135 : Int32)) + (((((((x0 - (((x0.toUInt32 >>> ((1 : Int32).toUInt32 &&& Int32.toUInt32 31)).toInt32) &&& (1431655765 : Int32))) &&& (858993459 : Int32)) + ((((x0 - (((x0.toUInt32 >>> ((1 : Int32).toUInt32 &&& Int32.toUInt32 31)).toInt32) &&& (1431655765 : Int32))).toUInt32 >>> ((2 : Int32).toUInt32 &&& Int32.toUInt32 31)).toInt32) &&& (858993459 : Int32))) + (((((x0 - (((x0.toUInt32 >>> ((1 : Int32).toUInt32 &&& Int32.toUInt32 31)).toInt32) &&& (1431655765 : Int32))) &&& (858993459 : Int32)) + ((((x0 - (((x0.toUInt32 >>> ((1 : Int32).toUInt32 &&& Int32.toUInt32 31)).toInt32) &&& (1431655765 : Int32))).toUInt32 >>> ((2 : Int32).toUInt32 &&& Int32.toUInt32 31)).toInt32) &&& (858993459 : Int32))).toUInt32 >>> ((4 : Int32).toUInt32 &&& Int32.toUInt32 31)).toInt32)) &&& (252645135 : Int32)).toUInt32 >>> ((8 : Int32).toUInt32 &&& Int32.toUInt32 31)).toInt32)).toUInt32 >>> ((16 : Int32).toUInt32 &&& Int32.toUInt32 31)).toInt32)) &&& (63 : Int32))
theorem s_J6_bitCount_0f7a4_e {G : XG} (C : XC G cJ6_bitCount_0f7a4 RJ6 (some .int) 1 0 0) {σ : XS} {x0 : Int32} {x : Int32} (hf : f_J6_bitCount_0f7a4 x0 = some x) (hk : XEnd G (some (.int x)) σ) : WW G 0 [(0, .int x0)] [] σ := by
  refine ww_iload_n (pc := 0) C 0 dJ6_bitCount_0f7a4_0 rfl ?_
  refine ww_iload_n (pc := 1) C 0 dJ6_bitCount_0f7a4_1 rfl ?_
  refine ww_iconst (pc := 2) (v := (1 : Int32)) C dJ6_bitCount_0f7a4_2 (by decide) ?_
  refine ww_iushr (pc := 3) (v := (x0.toUInt32 >>> ((1 : Int32).toUInt32 &&& Int32.toUInt32 31)).toInt32) C dJ6_bitCount_0f7a4_3 rfl ?_
  refine ww_ldcw (pc := 4) C q885 dJ6_bitCount_0f7a4_4 ?_
  refine ww_iand (pc := 7) C dJ6_bitCount_0f7a4_7 ?_
  refine ww_isub (pc := 8) C dJ6_bitCount_0f7a4_8 ?_
  refine ww_istore_n (pc := 9) (lv' := [(0, .int (x0 - (((x0.toUInt32 >>> ((1 : Int32).toUInt32 &&& Int32.toUInt32 31)).toInt32) &&& (1431655765 : Int32))))]) C dJ6_bitCount_0f7a4_9 (by decide) rfl ?_
  refine ww_iload_n (pc := 10) C 0 dJ6_bitCount_0f7a4_10 rfl ?_
  refine ww_ldcw (pc := 11) C q886 dJ6_bitCount_0f7a4_11 ?_
  refine ww_iand (pc := 14) C dJ6_bitCount_0f7a4_14 ?_
  refine ww_iload_n (pc := 15) C 0 dJ6_bitCount_0f7a4_15 rfl ?_
  refine ww_iconst (pc := 16) (v := (2 : Int32)) C dJ6_bitCount_0f7a4_16 (by decide) ?_
  refine ww_iushr (pc := 17) (v := ((x0 - (((x0.toUInt32 >>> ((1 : Int32).toUInt32 &&& Int32.toUInt32 31)).toInt32) &&& (1431655765 : Int32))).toUInt32 >>> ((2 : Int32).toUInt32 &&& Int32.toUInt32 31)).toInt32) C dJ6_bitCount_0f7a4_17 rfl ?_
  refine ww_ldcw (pc := 18) C q886 dJ6_bitCount_0f7a4_18 ?_
  refine ww_iand (pc := 21) C dJ6_bitCount_0f7a4_21 ?_
  refine ww_iadd (pc := 22) C dJ6_bitCount_0f7a4_22 ?_
  refine ww_istore_n (pc := 23) (lv' := [(0, .int (((x0 - (((x0.toUInt32 >>> ((1 : Int32).toUInt32 &&& Int32.toUInt32 31)).toInt32) &&& (1431655765 : Int32))) &&& (858993459 : Int32)) + ((((x0 - (((x0.toUInt32 >>> ((1 : Int32).toUInt32 &&& Int32.toUInt32 31)).toInt32) &&& (1431655765 : Int32))).toUInt32 >>> ((2 : Int32).toUInt32 &&& Int32.toUInt32 31)).toInt32) &&& (858993459 : Int32))))]) C dJ6_bitCount_0f7a4_23 (by decide) rfl ?_
  refine ww_iload_n (pc := 24) C 0 dJ6_bitCount_0f7a4_24 rfl ?_
  refine ww_iload_n (pc := 25) C 0 dJ6_bitCount_0f7a4_25 rfl ?_
  refine ww_iconst (pc := 26) (v := (4 : Int32)) C dJ6_bitCount_0f7a4_26 (by decide) ?_
  refine ww_iushr (pc := 27) (v := ((((x0 - (((x0.toUInt32 >>> ((1 : Int32).toUInt32 &&& Int32.toUInt32 31)).toInt32) &&& (1431655765 : Int32))) &&& (858993459 : Int32)) + ((((x0 - (((x0.toUInt32 >>> ((1 : Int32).toUInt32 &&& Int32.toUInt32 31)).toInt32) &&& (1431655765 : Int32))).toUInt32 >>> ((2 : Int32).toUInt32 &&& Int32.toUInt32 31)).toInt32) &&& (858993459 : Int32))).toUInt32 >>> ((4 : Int32).toUInt32 &&& Int32.toUInt32 31)).toInt32) C dJ6_bitCount_0f7a4_27 rfl ?_
  refine ww_iadd (pc := 28) C dJ6_bitCount_0f7a4_28 ?_
  refine ww_ldcw (pc := 29) C q887 dJ6_bitCount_0f7a4_29 ?_
  refine ww_iand (pc := 32) C dJ6_bitCount_0f7a4_32 ?_
  refine ww_istore_n (pc := 33) (lv' := [(0, .int (((((x0 - (((x0.toUInt32 >>> ((1 : Int32).toUInt32 &&& Int32.toUInt32 31)).toInt32) &&& (1431655765 : Int32))) &&& (858993459 : Int32)) + ((((x0 - (((x0.toUInt32 >>> ((1 : Int32).toUInt32 &&& Int32.toUInt32 31)).toInt32) &&& (1431655765 : Int32))).toUInt32 >>> ((2 : Int32).toUInt32 &&& Int32.toUInt32 31)).toInt32) &&& (858993459 : Int32))) + (((((x0 - (((x0.toUInt32 >>> ((1 : Int32).toUInt32 &&& Int32.toUInt32 31)).toInt32) &&& (1431655765 : Int32))) &&& (858993459 : Int32)) + ((((x0 - (((x0.toUInt32 >>> ((1 : Int32).toUInt32 &&& Int32.toUInt32 31)).toInt32) &&& (1431655765 : Int32))).toUInt32 >>> ((2 : Int32).toUInt32 &&& Int32.toUInt32 31)).toInt32) &&& (858993459 : Int32))).toUInt32 >>> ((4 : Int32).toUInt32 &&& Int32.toUInt32 31)).toInt32)) &&& (252645135 : Int32)))]) C dJ6_bitCount_0f7a4_33 (by decide) rfl ?_
  refine ww_iload_n (pc := 34) C 0 dJ6_bitCount_0f7a4_34 rfl ?_
  refine ww_iload_n (pc := 35) C 0 dJ6_bitCount_0f7a4_35 rfl ?_
  refine ww_bipush (pc := 36) (v := (8 : Int32)) C dJ6_bitCount_0f7a4_36 (by decide) ?_
  refine ww_iushr (pc := 38) (v := ((((((x0 - (((x0.toUInt32 >>> ((1 : Int32).toUInt32 &&& Int32.toUInt32 31)).toInt32) &&& (1431655765 : Int32))) &&& (858993459 : Int32)) + ((((x0 - (((x0.toUInt32 >>> ((1 : Int32).toUInt32 &&& Int32.toUInt32 31)).toInt32) &&& (1431655765 : Int32))).toUInt32 >>> ((2 : Int32).toUInt32 &&& Int32.toUInt32 31)).toInt32) &&& (858993459 : Int32))) + (((((x0 - (((x0.toUInt32 >>> ((1 : Int32).toUInt32 &&& Int32.toUInt32 31)).toInt32) &&& (1431655765 : Int32))) &&& (858993459 : Int32)) + ((((x0 - (((x0.toUInt32 >>> ((1 : Int32).toUInt32 &&& Int32.toUInt32 31)).toInt32) &&& (1431655765 : Int32))).toUInt32 >>> ((2 : Int32).toUInt32 &&& Int32.toUInt32 31)).toInt32) &&& (858993459 : Int32))).toUInt32 >>> ((4 : Int32).toUInt32 &&& Int32.toUInt32 31)).toInt32)) &&& (252645135 : Int32)).toUInt32 >>> ((8 : Int32).toUInt32 &&& Int32.toUInt32 31)).toInt32) C dJ6_bitCount_0f7a4_38 rfl ?_
  refine ww_iadd (pc := 39) C dJ6_bitCount_0f7a4_39 ?_
  refine ww_istore_n (pc := 40) (lv' := [(0, .int ((((((x0 - (((x0.toUInt32 >>> ((1 : Int32).toUInt32 &&& Int32.toUInt32 31)).toInt32) &&& (1431655765 : Int32))) &&& (858993459 : Int32)) + ((((x0 - (((x0.toUInt32 >>> ((1 : Int32).toUInt32 &&& Int32.toUInt32 31)).toInt32) &&& (1431655765 : Int32))).toUInt32 >>> ((2 : Int32).toUInt32 &&& Int32.toUInt32 31)).toInt32) &&& (858993459 : Int32))) + (((((x0 - (((x0.toUInt32 >>> ((1 : Int32).toUInt32 &&& Int32.toUInt32 31)).toInt32) &&& (1431655765 : Int32))) &&& (858993459 : Int32)) + ((((x0 - (((x0.toUInt32 >>> ((1 : Int32).toUInt32 &&& Int32.toUInt32 31)).toInt32) &&& (1431655765 : Int32))).toUInt32 >>> ((2 : Int32).toUInt32 &&& Int32.toUInt32 31)).toInt32) &&& (858993459 : Int32))).toUInt32 >>> ((4 : Int32).toUInt32 &&& Int32.toUInt32 31)).toInt32)) &&& (252645135 : Int32)) + (((((((x0 - (((x0.toUInt32 >>> ((1 : Int32).toUInt32 &&& Int32.toUInt32 31)).toInt32) &&& (1431655765 : Int32))) &&& (858993459 : Int32)) + ((((x0 - (((x0.toUInt32 >>> ((1 : Int32).toUInt32 &&& Int32.toUInt32 31)).toInt32) &&& (1431655765 : Int32))).toUInt32 >>> ((2 : Int32).toUInt32 &&& Int32.toUInt32 31)).toInt32) &&& (858993459 : Int32))) + (((((x0 - (((x0.toUInt32 >>> ((1 : Int32).toUInt32 &&& Int32.toUInt32 31)).toInt32) &&& (1431655765 : Int32))) &&& (858993459 : Int32)) + ((((x0 - (((x0.toUInt32 >>> ((1 : Int32).toUInt32 &&& Int32.toUInt32 31)).toInt32) &&& (1431655765 : Int32))).toUInt32 >>> ((2 : Int32).toUInt32 &&& Int32.toUInt32 31)).toInt32) &&& (858993459 : Int32))).toUInt32 >>> ((4 : Int32).toUInt32 &&& Int32.toUInt32 31)).toInt32)) &&& (252645135 : Int32)).toUInt32 >>> ((8 : Int32).toUInt32 &&& Int32.toUInt32 31)).toInt32)))]) C dJ6_bitCount_0f7a4_40 (by decide) rfl ?_
  refine ww_iload_n (pc := 41) C 0 dJ6_bitCount_0f7a4_41 rfl ?_
  refine ww_iload_n (pc := 42) C 0 dJ6_bitCount_0f7a4_42 rfl ?_
  refine ww_bipush (pc := 43) (v := (16 : Int32)) C dJ6_bitCount_0f7a4_43 (by decide) ?_
  refine ww_iushr (pc := 45) (v := (((((((x0 - (((x0.toUInt32 >>> ((1 : Int32).toUInt32 &&& Int32.toUInt32 31)).toInt32) &&& (1431655765 : Int32))) &&& (858993459 : Int32)) + ((((x0 - (((x0.toUInt32 >>> ((1 : Int32).toUInt32 &&& Int32.toUInt32 31)).toInt32) &&& (1431655765 : Int32))).toUInt32 >>> ((2 : Int32).toUInt32 &&& Int32.toUInt32 31)).toInt32) &&& (858993459 : Int32))) + (((((x0 - (((x0.toUInt32 >>> ((1 : Int32).toUInt32 &&& Int32.toUInt32 31)).toInt32) &&& (1431655765 : Int32))) &&& (858993459 : Int32)) + ((((x0 - (((x0.toUInt32 >>> ((1 : Int32).toUInt32 &&& Int32.toUInt32 31)).toInt32) &&& (1431655765 : Int32))).toUInt32 >>> ((2 : Int32).toUInt32 &&& Int32.toUInt32 31)).toInt32) &&& (858993459 : Int32))).toUInt32 >>> ((4 : Int32).toUInt32 &&& Int32.toUInt32 31)).toInt32)) &&& (252645135 : Int32)) + (((((((x0 - (((x0.toUInt32 >>> ((1 : Int32).toUInt32 &&& Int32.toUInt32 31)).toInt32) &&& (1431655765 : Int32))) &&& (858993459 : Int32)) + ((((x0 - (((x0.toUInt32 >>> ((1 : Int32).toUInt32 &&& Int32.toUInt32 31)).toInt32) &&& (1431655765 : Int32))).toUInt32 >>> ((2 : Int32).toUInt32 &&& Int32.toUInt32 31)).toInt32) &&& (858993459 : Int32))) + (((((x0 - (((x0.toUInt32 >>> ((1 : Int32).toUInt32 &&& Int32.toUInt32 31)).toInt32) &&& (1431655765 : Int32))) &&& (858993459 : Int32)) + ((((x0 - (((x0.toUInt32 >>> ((1 : Int32).toUInt32 &&& Int32.toUInt32 31)).toInt32) &&& (1431655765 : Int32))).toUInt32 >>> ((2 : Int32).toUInt32 &&& Int32.toUInt32 31)).toInt32) &&& (858993459 : Int32))).toUInt32 >>> ((4 : Int32).toUInt32 &&& Int32.toUInt32 31)).toInt32)) &&& (252645135 : Int32)).toUInt32 >>> ((8 : Int32).toUInt32 &&& Int32.toUInt32 31)).toInt32)).toUInt32 >>> ((16 : Int32).toUInt32 &&& Int32.toUInt32 31)).toInt32) C dJ6_bitCount_0f7a4_45 rfl ?_
  refine ww_iadd (pc := 46) C dJ6_bitCount_0f7a4_46 ?_
  refine ww_istore_n (pc := 47) (lv' := [(0, .int (((((((x0 - (((x0.toUInt32 >>> ((1 : Int32).toUInt32 &&& Int32.toUInt32 31)).toInt32) &&& (1431655765 : Int32))) &&& (858993459 : Int32)) + ((((x0 - (((x0.toUInt32 >>> ((1 : Int32).toUInt32 &&& Int32.toUInt32 31)).toInt32) &&& (1431655765 : Int32))).toUInt32 >>> ((2 : Int32).toUInt32 &&& Int32.toUInt32 31)).toInt32) &&& (858993459 : Int32))) + (((((x0 - (((x0.toUInt32 >>> ((1 : Int32).toUInt32 &&& Int32.toUInt32 31)).toInt32) &&& (1431655765 : Int32))) &&& (858993459 : Int32)) + ((((x0 - (((x0.toUInt32 >>> ((1 : Int32).toUInt32 &&& Int32.toUInt32 31)).toInt32) &&& (1431655765 : Int32))).toUInt32 >>> ((2 : Int32).toUInt32 &&& Int32.toUInt32 31)).toInt32) &&& (858993459 : Int32))).toUInt32 >>> ((4 : Int32).toUInt32 &&& Int32.toUInt32 31)).toInt32)) &&& (252645135 : Int32)) + (((((((x0 - (((x0.toUInt32 >>> ((1 : Int32).toUInt32 &&& Int32.toUInt32 31)).toInt32) &&& (1431655765 : Int32))) &&& (858993459 : Int32)) + ((((x0 - (((x0.toUInt32 >>> ((1 : Int32).toUInt32 &&& Int32.toUInt32 31)).toInt32) &&& (1431655765 : Int32))).toUInt32 >>> ((2 : Int32).toUInt32 &&& Int32.toUInt32 31)).toInt32) &&& (858993459 : Int32))) + (((((x0 - (((x0.toUInt32 >>> ((1 : Int32).toUInt32 &&& Int32.toUInt32 31)).toInt32) &&& (1431655765 : Int32))) &&& (858993459 : Int32)) + ((((x0 - (((x0.toUInt32 >>> ((1 : Int32).toUInt32 &&& Int32.toUInt32 31)).toInt32) &&& (1431655765 : Int32))).toUInt32 >>> ((2 : Int32).toUInt32 &&& Int32.toUInt32 31)).toInt32) &&& (858993459 : Int32))).toUInt32 >>> ((4 : Int32).toUInt32 &&& Int32.toUInt32 31)).toInt32)) &&& (252645135 : Int32)).toUInt32 >>> ((8 : Int32).toUInt32 &&& Int32.toUInt32 31)).toInt32)) + ((((((((x0 - (((x0.toUInt32 >>> ((1 : Int32).toUInt32 &&& Int32.toUInt32 31)).toInt32) &&& (1431655765 : Int32))) &&& (858993459 : Int32)) + ((((x0 - (((x0.toUInt32 >>> ((1 : Int32).toUInt32 &&& Int32.toUInt32 31)).toInt32) &&& (1431655765 : Int32))).toUInt32 >>> ((2 : Int32).toUInt32 &&& Int32.toUInt32 31)).toInt32) &&& (858993459 : Int32))) + (((((x0 - (((x0.toUInt32 >>> ((1 : Int32).toUInt32 &&& Int32.toUInt32 31)).toInt32) &&& (1431655765 : Int32))) &&& (858993459 : Int32)) + ((((x0 - (((x0.toUInt32 >>> ((1 : Int32).toUInt32 &&& Int32.toUInt32 31)).toInt32) &&& (1431655765 : Int32))).toUInt32 >>> ((2 : Int32).toUInt32 &&& Int32.toUInt32 31)).toInt32) &&& (858993459 : Int32))).toUInt32 >>> ((4 : Int32).toUInt32 &&& Int32.toUInt32 31)).toInt32)) &&& (252645135 : Int32)) + (((((((x0 - (((x0.toUInt32 >>> ((1 : Int32).toUInt32 &&& Int32.toUInt32 31)).toInt32) &&& (1431655765 : Int32))) &&& (858993459 : Int32)) + ((((x0 - (((x0.toUInt32 >>> ((1 : Int32).toUInt32 &&& Int32.toUInt32 31)).toInt32) &&& (1431655765 : Int32))).toUInt32 >>> ((2 : Int32).toUInt32 &&& Int32.toUInt32 31)).toInt32) &&& (858993459 : Int32))) + (((((x0 - (((x0.toUInt32 >>> ((1 : Int32).toUInt32 &&& Int32.toUInt32 31)).toInt32) &&& (1431655765 : Int32))) &&& (858993459 : Int32)) + ((((x0 - (((x0.toUInt32 >>> ((1 : Int32).toUInt32 &&& Int32.toUInt32 31)).toInt32) &&& (1431655765 : Int32))).toUInt32 >>> ((2 : Int32).toUInt32 &&& Int32.toUInt32 31)).toInt32) &&& (858993459 : Int32))).toUInt32 >>> ((4 : Int32).toUInt32 &&& Int32.toUInt32 31)).toInt32)) &&& (252645135 : Int32)).toUInt32 >>> ((8 : Int32).toUInt32 &&& Int32.toUInt32 31)).toInt32)).toUInt32 >>> ((16 : Int32).toUInt32 &&& Int32.toUInt32 31)).toInt32)))]) C dJ6_bitCount_0f7a4_47 (by decide) rfl ?_
  refine ww_iload_n (pc := 48) C 0 dJ6_bitCount_0f7a4_48 rfl ?_
  refine ww_bipush (pc := 49) (v := (63 : Int32)) C dJ6_bitCount_0f7a4_49 (by decide) ?_
  refine ww_iand (pc := 51) C dJ6_bitCount_0f7a4_51 ?_
  have hf := xsj hf
  subst hf
  exact ww_iret (pc := 52) C hk dJ6_bitCount_0f7a4_52
theorem k_J6_bitCount_0f7a4 {l : Launch} {E : XD} {hb : Nat} {σ : XS} {x0 : Int32} {x : Int32} (h : f_J6_bitCount_0f7a4 x0 = some x) : XM l yJ6_bitCount_0f7a4 cJ6_bitCount_0f7a4 1 (some .int) 0 0 E hb [.int x0] σ (some (.int x)) σ := by
  refine xm_of (by decide) (Nat.le_of_ble_eq_true rfl) ⟨Nat.le_refl _, Nat.le_refl _⟩ (fun G hG C hl hQ => ?_)
  obtain ⟨rfl, rfl, rfl, hN⟩ := hG
  exact s_J6_bitCount_0f7a4_e C h hQ
noncomputable def f_J6_signum_0f7a4 (x0 : Int32) : Option Int32 := some ((x0 >>> ((31 : Int32) &&& 31)) ||| (((-x0).toUInt32 >>> ((31 : Int32).toUInt32 &&& Int32.toUInt32 31)).toInt32))
theorem s_J6_signum_0f7a4_e {G : XG} (C : XC G cJ6_signum_0f7a4 RJ6 (some .int) 1 0 0) {σ : XS} {x0 : Int32} {x : Int32} (hf : f_J6_signum_0f7a4 x0 = some x) (hk : XEnd G (some (.int x)) σ) : WW G 0 [(0, .int x0)] [] σ := by
  refine ww_iload_n (pc := 0) C 0 dJ6_signum_0f7a4_0 rfl ?_
  refine ww_bipush (pc := 1) (v := (31 : Int32)) C dJ6_signum_0f7a4_1 (by decide) ?_
  refine ww_ishr (pc := 3) C dJ6_signum_0f7a4_3 ?_
  refine ww_iload_n (pc := 4) C 0 dJ6_signum_0f7a4_4 rfl ?_
  refine ww_ineg (pc := 5) C dJ6_signum_0f7a4_5 ?_
  refine ww_bipush (pc := 6) (v := (31 : Int32)) C dJ6_signum_0f7a4_6 (by decide) ?_
  refine ww_iushr (pc := 8) (v := ((-x0).toUInt32 >>> ((31 : Int32).toUInt32 &&& Int32.toUInt32 31)).toInt32) C dJ6_signum_0f7a4_8 rfl ?_
  refine ww_ior (pc := 9) C dJ6_signum_0f7a4_9 ?_
  have hf := xsj hf
  subst hf
  exact ww_iret (pc := 10) C hk dJ6_signum_0f7a4_10
theorem k_J6_signum_0f7a4 {l : Launch} {E : XD} {hb : Nat} {σ : XS} {x0 : Int32} {x : Int32} (h : f_J6_signum_0f7a4 x0 = some x) : XM l yJ6_signum_0f7a4 cJ6_signum_0f7a4 1 (some .int) 0 0 E hb [.int x0] σ (some (.int x)) σ := by
  refine xm_of (by decide) (Nat.le_of_ble_eq_true rfl) ⟨Nat.le_refl _, Nat.le_refl _⟩ (fun G hG C hl hQ => ?_)
  obtain ⟨rfl, rfl, rfl, hN⟩ := hG
  exact s_J6_signum_0f7a4_e C h hQ
noncomputable def f_J7_fill_53178_b5 (r0 : Nat) (x1 : Int32) (x3 : Int32) : Int32 × XS → Option ((Int32 × XS) ⊕ (XS)) := fun a => match a with
  | (x2, σ) => if x3 ≤ x2 then ((some σ).map .inr) else (xsI σ 20 r0 x2 x1).bind fun σ2 => some (.inl (x2 + (1 : Int32), σ2))
noncomputable def f_J7_fill_53178 (σ : XS) (r0 : Nat) (x1 : Int32) : Option XS := (xal σ r0).bind fun v2 => xloop (f_J7_fill_53178_b5 r0 x1 v2) ((0 : Int32), σ)
theorem m_J7_fill_53178_l5 {r0 : Nat} {x1 : Int32} {x3 : Int32} {a : Int32 × XS} {x : XS} (hf : xloop (f_J7_fill_53178_b5 r0 x1 x3) a = some x) : xsame a.2 x := by
  refine xloop_ind (P := fun a => xsame a.2 x) (fun a y hf hc he => ?_) hf
  obtain ⟨x2, σ⟩ := a
  have hy : (∀ a' : Int32 × XS, y = .inl a' → xsame σ a'.2) ∧ (∀ b1 : XS, y = .inr b1 → xsame σ b1) := by
    have hm := xsame.rf (σ := σ)
    by_cases q : x3 ≤ x2
    · have hf := xip q hf
      obtain ⟨b0, hg, e9⟩ := xmj hf
      subst e9
      have hf := hg
      refine ⟨fun a' e => xnc2 e, fun b e => ?_⟩
      have h9 := Sum.inr.inj e
      subst h9
      have hf := xsj hf
      subst hf
      exact hm
    · have hf := xin q hf
      obtain ⟨σ2, e1, hf⟩ := xbd hf
      have hm := hm.tr (xsI_same e1)
      have hf := xsj hf
      subst hf
      exact ⟨fun a' e => (by have h9 := Sum.inl.inj e; subst h9; exact hm), fun b e => xnc1 e⟩
  cases y with
  | inl a' =>
    have h1 := hc a' rfl
    have hm := hy.1 a' rfl
    exact hm.tr (h1)
  | inr b =>
    have h1 := he b rfl
    subst h1
    exact hy.2 _ rfl
theorem s_J7_fill_53178_l5 {G : XG} (C : XC G cJ7_fill_53178 RJ7 none 4 0 0) {r0 : Nat} {x1 : Int32} {x3 : Int32} {a : Int32 × XS} {x : XS} (hf : xloop (f_J7_fill_53178_b5 r0 x1 x3) a = some x) (hk : XEnd G none x) : WW G 5 [(0, .ref (gB G + r0)), (1, .int x1), (2, .int a.1), (3, .int x3)] [] a.2 := by
  refine xloop_ind (P := fun a => WW G 5 [(0, .ref (gB G + r0)), (1, .int x1), (2, .int a.1), (3, .int x3)] [] a.2) (fun a y hf hc he => ?_) hf
  obtain ⟨x2, σ⟩ := a
  have hk : (∀ a' : Int32 × XS, y = .inl a' → WW G 5 [(0, .ref (gB G + r0)), (1, .int x1), (2, .int a'.1), (3, .int x3)] [] a'.2) ∧ (∀ b1 : XS, y = .inr b1 → XEnd G none b1) := ⟨hc, fun b e => by have h9 := he b e; subst h9; exact hk⟩
  refine ww_iload_n (pc := 5) C 2 dJ7_fill_53178_5 rfl ?_
  refine ww_iload_n (pc := 6) C 3 dJ7_fill_53178_6 rfl ?_
  refine ww_icmp_ge (pc := 7) (tgt := 20) C dJ7_fill_53178_7 (by decide) (fun q => ?_) (fun q => ?_)
  · have hf := xip q hf
    obtain ⟨b0, hg, e9⟩ := xmj hf
    subst e9
    have hf := hg
    have hk := hk.2 _ rfl
    have hf := xsj hf
    subst hf
    exact ww_vret (pc := 20) C hk dJ7_fill_53178_20
  · have hf := xin q hf
    refine ww_aload_n (pc := 10) C 0 dJ7_fill_53178_10 rfl ?_
    refine ww_iload_n (pc := 11) C 2 dJ7_fill_53178_11 rfl ?_
    refine ww_iload_n (pc := 12) C 1 dJ7_fill_53178_12 rfl ?_
    obtain ⟨σ2, e1, hf⟩ := xbd hf
    refine ww_iast (pc := 13) C e1 dJ7_fill_53178_13 ?_
    refine ww_iinc (pc := 14) (v := x2 + (1 : Int32)) (lv' := [(2, .int (x2 + (1 : Int32))), (0, .ref (gB G + r0)), (1, .int x1), (3, .int x3)]) C 2 dJ7_fill_53178_14 rfl (congrArg (fun z => x2 + z) (show Int32.ofInt (1) = (1 : Int32) by decide)) (by decide) rfl ?_
    refine ww_goto (pc := 17) (tgt := 5) C dJ7_fill_53178_17 (by decide) ?_
    have hf := xsj hf
    subst hf
    refine ww_sub [1, 2, 0, 3] rfl ?_
    exact hk.1 (x2 + (1 : Int32), σ2) rfl
theorem s_J7_fill_53178_e {G : XG} (C : XC G cJ7_fill_53178 RJ7 none 4 0 0) {σ : XS} {r0 : Nat} {x1 : Int32} {x : XS} (hf : f_J7_fill_53178 σ r0 x1 = some x) (hk : XEnd G none x) : WW G 0 [(0, .ref (gB G + r0)), (1, .int x1)] [] σ := by
  refine ww_iconst (pc := 0) (v := (0 : Int32)) C dJ7_fill_53178_0 (by decide) ?_
  refine ww_istore_n (pc := 1) (lv' := [(2, .int (0 : Int32)), (0, .ref (gB G + r0)), (1, .int x1)]) C dJ7_fill_53178_1 (by decide) rfl ?_
  refine ww_aload_n (pc := 2) C 1 dJ7_fill_53178_2 rfl ?_
  obtain ⟨v2, e1, hf⟩ := xbd hf
  refine ww_alen (pc := 3) C e1 dJ7_fill_53178_3 ?_
  refine ww_istore_n (pc := 4) (lv' := [(3, .int v2), (2, .int (0 : Int32)), (0, .ref (gB G + r0)), (1, .int x1)]) C dJ7_fill_53178_4 (by decide) rfl ?_
  refine ww_sub [2, 3, 1, 0] rfl ?_
  exact s_J7_fill_53178_l5 C (a := ((0 : Int32), σ)) hf hk
theorem m_J7_fill_53178 {σ : XS} {r0 : Nat} {x1 : Int32} {x : XS} (hf : f_J7_fill_53178 σ r0 x1 = some x) : xsame σ x := by
  have hm := xsame.rf (σ := σ)
  obtain ⟨v2, e1, hf⟩ := xbd hf
  exact hm.tr (m_J7_fill_53178_l5 (a := ((0 : Int32), σ)) hf)
theorem k_J7_fill_53178 {l : Launch} {E : XD} {hb : Nat} {σ : XS} {r0 : Nat} {x1 : Int32} {x : XS} (h : f_J7_fill_53178 σ r0 x1 = some x) : XM l yJ7_fill_53178 cJ7_fill_53178 4 none 0 0 E hb [.ref (hb + r0), .int x1] σ none x := by
  refine xm_of (by decide) (Nat.le_of_ble_eq_true rfl) (m_J7_fill_53178 h).le (fun G hG C hl hQ => ?_)
  obtain ⟨rfl, rfl, rfl, hN⟩ := hG
  exact s_J7_fill_53178_e C h hQ
noncomputable def f_J7_fill_d0a16_b6 (r0 : Nat) (w1 : Int64) (x4 : Int32) : Int32 × XS → Option ((Int32 × XS) ⊕ (XS)) := fun a => match a with
  | (x3, σ) => if x4 ≤ x3 then ((some σ).map .inr) else (xsL σ r0 x3 w1).bind fun σ2 => some (.inl (x3 + (1 : Int32), σ2))
noncomputable def f_J7_fill_d0a16 (σ : XS) (r0 : Nat) (w1 : Int64) : Option XS := (xal σ r0).bind fun v2 => xloop (f_J7_fill_d0a16_b6 r0 w1 v2) ((0 : Int32), σ)
theorem m_J7_fill_d0a16_l6 {r0 : Nat} {w1 : Int64} {x4 : Int32} {a : Int32 × XS} {x : XS} (hf : xloop (f_J7_fill_d0a16_b6 r0 w1 x4) a = some x) : xsame a.2 x := by
  refine xloop_ind (P := fun a => xsame a.2 x) (fun a y hf hc he => ?_) hf
  obtain ⟨x3, σ⟩ := a
  have hy : (∀ a' : Int32 × XS, y = .inl a' → xsame σ a'.2) ∧ (∀ b1 : XS, y = .inr b1 → xsame σ b1) := by
    have hm := xsame.rf (σ := σ)
    by_cases q : x4 ≤ x3
    · have hf := xip q hf
      obtain ⟨b0, hg, e9⟩ := xmj hf
      subst e9
      have hf := hg
      refine ⟨fun a' e => xnc2 e, fun b e => ?_⟩
      have h9 := Sum.inr.inj e
      subst h9
      have hf := xsj hf
      subst hf
      exact hm
    · have hf := xin q hf
      obtain ⟨σ2, e1, hf⟩ := xbd hf
      have hm := hm.tr (xsL_same e1)
      have hf := xsj hf
      subst hf
      exact ⟨fun a' e => (by have h9 := Sum.inl.inj e; subst h9; exact hm), fun b e => xnc1 e⟩
  cases y with
  | inl a' =>
    have h1 := hc a' rfl
    have hm := hy.1 a' rfl
    exact hm.tr (h1)
  | inr b =>
    have h1 := he b rfl
    subst h1
    exact hy.2 _ rfl
theorem s_J7_fill_d0a16_l6 {G : XG} (C : XC G cJ7_fill_d0a16 RJ7 none 5 0 0) {r0 : Nat} {w1 : Int64} {x4 : Int32} {a : Int32 × XS} {x : XS} (hf : xloop (f_J7_fill_d0a16_b6 r0 w1 x4) a = some x) (hk : XEnd G none x) : WW G 6 [(0, .ref (gB G + r0)), (1, .long w1), (3, .int a.1), (4, .int x4)] [] a.2 := by
  refine xloop_ind (P := fun a => WW G 6 [(0, .ref (gB G + r0)), (1, .long w1), (3, .int a.1), (4, .int x4)] [] a.2) (fun a y hf hc he => ?_) hf
  obtain ⟨x3, σ⟩ := a
  have hk : (∀ a' : Int32 × XS, y = .inl a' → WW G 6 [(0, .ref (gB G + r0)), (1, .long w1), (3, .int a'.1), (4, .int x4)] [] a'.2) ∧ (∀ b1 : XS, y = .inr b1 → XEnd G none b1) := ⟨hc, fun b e => by have h9 := he b e; subst h9; exact hk⟩
  refine ww_iload_n (pc := 6) C 2 dJ7_fill_d0a16_6 rfl ?_
  refine ww_iload (pc := 7) C 3 dJ7_fill_d0a16_7 rfl ?_
  refine ww_icmp_ge (pc := 9) (tgt := 22) C dJ7_fill_d0a16_9 (by decide) (fun q => ?_) (fun q => ?_)
  · have hf := xip q hf
    obtain ⟨b0, hg, e9⟩ := xmj hf
    subst e9
    have hf := hg
    have hk := hk.2 _ rfl
    have hf := xsj hf
    subst hf
    exact ww_vret (pc := 22) C hk dJ7_fill_d0a16_22
  · have hf := xin q hf
    refine ww_aload_n (pc := 12) C 0 dJ7_fill_d0a16_12 rfl ?_
    refine ww_iload_n (pc := 13) C 2 dJ7_fill_d0a16_13 rfl ?_
    refine ww_lload_n (pc := 14) C 1 dJ7_fill_d0a16_14 rfl ?_
    obtain ⟨σ2, e1, hf⟩ := xbd hf
    refine ww_last (pc := 15) C e1 dJ7_fill_d0a16_15 ?_
    refine ww_iinc (pc := 16) (v := x3 + (1 : Int32)) (lv' := [(3, .int (x3 + (1 : Int32))), (0, .ref (gB G + r0)), (1, .long w1), (4, .int x4)]) C 2 dJ7_fill_d0a16_16 rfl (congrArg (fun z => x3 + z) (show Int32.ofInt (1) = (1 : Int32) by decide)) (by decide) rfl ?_
    refine ww_goto (pc := 19) (tgt := 6) C dJ7_fill_d0a16_19 (by decide) ?_
    have hf := xsj hf
    subst hf
    refine ww_sub [1, 2, 0, 3] rfl ?_
    exact hk.1 (x3 + (1 : Int32), σ2) rfl
theorem s_J7_fill_d0a16_e {G : XG} (C : XC G cJ7_fill_d0a16 RJ7 none 5 0 0) {σ : XS} {r0 : Nat} {w1 : Int64} {x : XS} (hf : f_J7_fill_d0a16 σ r0 w1 = some x) (hk : XEnd G none x) : WW G 0 [(0, .ref (gB G + r0)), (1, .long w1)] [] σ := by
  refine ww_iconst (pc := 0) (v := (0 : Int32)) C dJ7_fill_d0a16_0 (by decide) ?_
  refine ww_istore_n (pc := 1) (lv' := [(3, .int (0 : Int32)), (0, .ref (gB G + r0)), (1, .long w1)]) C dJ7_fill_d0a16_1 (by decide) rfl ?_
  refine ww_aload_n (pc := 2) C 1 dJ7_fill_d0a16_2 rfl ?_
  obtain ⟨v2, e1, hf⟩ := xbd hf
  refine ww_alen (pc := 3) C e1 dJ7_fill_d0a16_3 ?_
  refine ww_istore (pc := 4) (lv' := [(4, .int v2), (3, .int (0 : Int32)), (0, .ref (gB G + r0)), (1, .long w1)]) C dJ7_fill_d0a16_4 (by decide) rfl ?_
  refine ww_sub [2, 3, 1, 0] rfl ?_
  exact s_J7_fill_d0a16_l6 C (a := ((0 : Int32), σ)) hf hk
theorem m_J7_fill_d0a16 {σ : XS} {r0 : Nat} {w1 : Int64} {x : XS} (hf : f_J7_fill_d0a16 σ r0 w1 = some x) : xsame σ x := by
  have hm := xsame.rf (σ := σ)
  obtain ⟨v2, e1, hf⟩ := xbd hf
  exact hm.tr (m_J7_fill_d0a16_l6 (a := ((0 : Int32), σ)) hf)
theorem k_J7_fill_d0a16 {l : Launch} {E : XD} {hb : Nat} {σ : XS} {r0 : Nat} {w1 : Int64} {x : XS} (h : f_J7_fill_d0a16 σ r0 w1 = some x) : XM l yJ7_fill_d0a16 cJ7_fill_d0a16 5 none 0 0 E hb [.ref (hb + r0), .long w1] σ none x := by
  refine xm_of (by decide) (Nat.le_of_ble_eq_true rfl) (m_J7_fill_d0a16 h).le (fun G hG C hl hQ => ?_)
  obtain ⟨rfl, rfl, rfl, hN⟩ := hG
  exact s_J7_fill_d0a16_e C h hQ
noncomputable def f_X0_fewest_b2 (σ : XS) (r0 : Nat) : Int32 → Option ((Int32) ⊕ (Int32)) := fun a => match a with
  | x1 => (xgR σ r0 0 0).bind fun z2 => (xal σ z2).bind fun v4 => if v4 ≤ x1 then ((some (0 : Int32)).map .inr) else (xgR σ r0 0 0).bind fun z6 => (xaI σ 20 z6 x1).bind fun v8 => if v8 ≤ 0 then (some (.inl (x1 + (1 : Int32)))) else (some x1).map .inr
noncomputable def f_X0_fewest (σ : XS) (r0 : Nat) : Option Int32 := xloop (f_X0_fewest_b2 σ r0) (0 : Int32)
theorem s_X0_fewest_l2 {G : XG} (C : XC G cX0_fewest RX0 (some .int) 2 0 0) {σ : XS} {r0 : Nat} {a : Int32} {x : Int32} (hf : xloop (f_X0_fewest_b2 σ r0) a = some x) (hk : XEnd G (some (.int x)) σ) : WW G 2 [(0, .ref (gB G + r0)), (1, .int a)] [] σ := by
  refine xloop_ind (P := fun a => WW G 2 [(0, .ref (gB G + r0)), (1, .int a)] [] σ) (fun a y hf hc he => ?_) hf
  obtain ⟨x1, rfl⟩ : ∃ z, z = a := ⟨_, rfl⟩
  have hk : (∀ a' : Int32, y = .inl a' → WW G 2 [(0, .ref (gB G + r0)), (1, .int a')] [] σ) ∧ (∀ b1 : Int32, y = .inr b1 → XEnd G (some (.int b1)) σ) := ⟨hc, fun b e => by have h9 := he b e; subst h9; exact hk⟩
  refine ww_iload_n (pc := 2) C 1 dX0_fewest_2 rfl ?_
  refine ww_aload_n (pc := 3) C 0 dX0_fewest_3 rfl ?_
  obtain ⟨z2, e1, hf⟩ := xbd hf
  refine gf_X0_9 (pc := 4) C e1 dX0_fewest_4 ?_
  obtain ⟨v4, e3, hf⟩ := xbd hf
  refine ww_alen (pc := 7) C e3 dX0_fewest_7 ?_
  refine ww_icmp_ge (pc := 8) (tgt := 28) C dX0_fewest_8 (by decide) (fun q => ?_) (fun q => ?_)
  · have hf := xip q hf
    obtain ⟨b0, hg, e9⟩ := xmj hf
    subst e9
    have hf := hg
    have hk := hk.2 _ rfl
    refine ww_iconst (pc := 28) (v := (0 : Int32)) C dX0_fewest_28 (by decide) ?_
    have hf := xsj hf
    subst hf
    exact ww_iret (pc := 29) C hk dX0_fewest_29
  · have hf := xin q hf
    refine ww_aload_n (pc := 11) C 0 dX0_fewest_11 rfl ?_
    obtain ⟨z6, e5, hf⟩ := xbd hf
    refine gf_X0_9 (pc := 12) C e5 dX0_fewest_12 ?_
    refine ww_iload_n (pc := 15) C 1 dX0_fewest_15 rfl ?_
    obtain ⟨v8, e7, hf⟩ := xbd hf
    refine ww_iald (pc := 16) C e7 dX0_fewest_16 ?_
    refine ww_if_le (pc := 17) (tgt := 22) C dX0_fewest_17 (by decide) (fun q => ?_) (fun q => ?_)
    · have hf := xip q hf
      refine ww_iinc (pc := 22) (v := x1 + (1 : Int32)) (lv' := [(1, .int (x1 + (1 : Int32))), (0, .ref (gB G + r0))]) C 1 dX0_fewest_22 rfl (congrArg (fun z => x1 + z) (show Int32.ofInt (1) = (1 : Int32) by decide)) (by decide) rfl ?_
      refine ww_goto (pc := 25) (tgt := 2) C dX0_fewest_25 (by decide) ?_
      have hf := xsj hf
      subst hf
      refine ww_sub [1, 0] rfl ?_
      exact hk.1 (x1 + (1 : Int32)) rfl
    · have hf := xin q hf
      obtain ⟨b0, hg, e9⟩ := xmj hf
      subst e9
      have hf := hg
      have hk := hk.2 _ rfl
      refine ww_iload_n (pc := 20) C 1 dX0_fewest_20 rfl ?_
      have hf := xsj hf
      subst hf
      exact ww_iret (pc := 21) C hk dX0_fewest_21
theorem s_X0_fewest_e {G : XG} (C : XC G cX0_fewest RX0 (some .int) 2 0 0) {σ : XS} {r0 : Nat} {x : Int32} (hf : f_X0_fewest σ r0 = some x) (hk : XEnd G (some (.int x)) σ) : WW G 0 [(0, .ref (gB G + r0))] [] σ := by
  refine ww_iconst (pc := 0) (v := (0 : Int32)) C dX0_fewest_0 (by decide) ?_
  refine ww_istore_n (pc := 1) (lv' := [(1, .int (0 : Int32)), (0, .ref (gB G + r0))]) C dX0_fewest_1 (by decide) rfl ?_
  refine ww_sub [1, 0] rfl ?_
  exact s_X0_fewest_l2 C (a := (0 : Int32)) hf hk
theorem k_X0_fewest {l : Launch} {E : XD} {hb : Nat} {σ : XS} {r0 : Nat} {x : Int32} (h : f_X0_fewest σ r0 = some x) : XM l yX0_fewest cX0_fewest 2 (some .int) 0 0 E hb [.ref (hb + r0)] σ (some (.int x)) σ := by
  refine xm_of (by decide) (Nat.le_of_ble_eq_true rfl) ⟨Nat.le_refl _, Nat.le_refl _⟩ (fun G hG C hl hQ => ?_)
  obtain ⟨rfl, rfl, rfl, hN⟩ := hG
  exact s_X0_fewest_e C h hQ
noncomputable def f_X3_endAt (σ : XS) (r0 : Nat) (x1 : Int32) : Option Int32 := if x1 < 0 then (some (-1 : Int32)) else (xgR σ r0 3 0).bind fun z2 => (xal σ z2).bind fun v4 => if v4 ≤ x1 then (some (-1 : Int32)) else (xgR σ r0 3 0).bind fun z6 => (xaI σ 20 z6 x1).bind fun v8 => some v8
theorem s_X3_endAt_e {G : XG} (C : XC G cX3_endAt RX3 (some .int) 2 0 0) {σ : XS} {r0 : Nat} {x1 : Int32} {x : Int32} (hf : f_X3_endAt σ r0 x1 = some x) (hk : XEnd G (some (.int x)) σ) : WW G 0 [(0, .ref (gB G + r0)), (1, .int x1)] [] σ := by
  refine ww_iload_n (pc := 0) C 1 dX3_endAt_0 rfl ?_
  refine ww_if_lt (pc := 1) (tgt := 22) C dX3_endAt_1 (by decide) (fun q => ?_) (fun q => ?_)
  · have hf := xip q hf
    refine ww_iconst (pc := 22) (v := (-1 : Int32)) C dX3_endAt_22 (by decide) ?_
    have hf := xsj hf
    subst hf
    exact ww_iret (pc := 23) C hk dX3_endAt_23
  · have hf := xin q hf
    refine ww_iload_n (pc := 4) C 1 dX3_endAt_4 rfl ?_
    refine ww_aload_n (pc := 5) C 0 dX3_endAt_5 rfl ?_
    obtain ⟨z2, e1, hf⟩ := xbd hf
    refine gf_X3_9 (pc := 6) C e1 dX3_endAt_6 ?_
    obtain ⟨v4, e3, hf⟩ := xbd hf
    refine ww_alen (pc := 9) C e3 dX3_endAt_9 ?_
    refine ww_icmp_ge (pc := 10) (tgt := 22) C dX3_endAt_10 (by decide) (fun q => ?_) (fun q => ?_)
    · have hf := xip q hf
      refine ww_iconst (pc := 22) (v := (-1 : Int32)) C dX3_endAt_22 (by decide) ?_
      have hf := xsj hf
      subst hf
      exact ww_iret (pc := 23) C hk dX3_endAt_23
    · have hf := xin q hf
      refine ww_aload_n (pc := 13) C 0 dX3_endAt_13 rfl ?_
      obtain ⟨z6, e5, hf⟩ := xbd hf
      refine gf_X3_9 (pc := 14) C e5 dX3_endAt_14 ?_
      refine ww_iload_n (pc := 17) C 1 dX3_endAt_17 rfl ?_
      obtain ⟨v8, e7, hf⟩ := xbd hf
      refine ww_iald (pc := 18) C e7 dX3_endAt_18 ?_
      refine ww_goto (pc := 19) (tgt := 23) C dX3_endAt_19 (by decide) ?_
      have hf := xsj hf
      subst hf
      exact ww_iret (pc := 23) C hk dX3_endAt_23
theorem k_X3_endAt {l : Launch} {E : XD} {hb : Nat} {σ : XS} {r0 : Nat} {x1 : Int32} {x : Int32} (h : f_X3_endAt σ r0 x1 = some x) : XM l yX3_endAt cX3_endAt 2 (some .int) 0 0 E hb [.ref (hb + r0), .int x1] σ (some (.int x)) σ := by
  refine xm_of (by decide) (Nat.le_of_ble_eq_true rfl) ⟨Nat.le_refl _, Nat.le_refl _⟩ (fun G hG C hl hQ => ?_)
  obtain ⟨rfl, rfl, rfl, hN⟩ := hG
  exact s_X3_endAt_e C h hQ
noncomputable def f_X6_bondAt (σ : XS) (r0 : Nat) (x1 : Int32) : Option Int32 := if x1 < 0 then (some (0 : Int32)) else (xgR σ r0 6 0).bind fun z2 => (xal σ z2).bind fun v4 => if v4 ≤ x1 then (some (0 : Int32)) else (xgR σ r0 6 0).bind fun z6 => (xaI σ 20 z6 x1).bind fun v8 => some v8
theorem s_X6_bondAt_e {G : XG} (C : XC G cX6_bondAt RX6 (some .int) 2 0 0) {σ : XS} {r0 : Nat} {x1 : Int32} {x : Int32} (hf : f_X6_bondAt σ r0 x1 = some x) (hk : XEnd G (some (.int x)) σ) : WW G 0 [(0, .ref (gB G + r0)), (1, .int x1)] [] σ := by
  refine ww_iload_n (pc := 0) C 1 dX6_bondAt_0 rfl ?_
  refine ww_if_lt (pc := 1) (tgt := 22) C dX6_bondAt_1 (by decide) (fun q => ?_) (fun q => ?_)
  · have hf := xip q hf
    refine ww_iconst (pc := 22) (v := (0 : Int32)) C dX6_bondAt_22 (by decide) ?_
    have hf := xsj hf
    subst hf
    exact ww_iret (pc := 23) C hk dX6_bondAt_23
  · have hf := xin q hf
    refine ww_iload_n (pc := 4) C 1 dX6_bondAt_4 rfl ?_
    refine ww_aload_n (pc := 5) C 0 dX6_bondAt_5 rfl ?_
    obtain ⟨z2, e1, hf⟩ := xbd hf
    refine gf_X6_9 (pc := 6) C e1 dX6_bondAt_6 ?_
    obtain ⟨v4, e3, hf⟩ := xbd hf
    refine ww_alen (pc := 9) C e3 dX6_bondAt_9 ?_
    refine ww_icmp_ge (pc := 10) (tgt := 22) C dX6_bondAt_10 (by decide) (fun q => ?_) (fun q => ?_)
    · have hf := xip q hf
      refine ww_iconst (pc := 22) (v := (0 : Int32)) C dX6_bondAt_22 (by decide) ?_
      have hf := xsj hf
      subst hf
      exact ww_iret (pc := 23) C hk dX6_bondAt_23
    · have hf := xin q hf
      refine ww_aload_n (pc := 13) C 0 dX6_bondAt_13 rfl ?_
      obtain ⟨z6, e5, hf⟩ := xbd hf
      refine gf_X6_9 (pc := 14) C e5 dX6_bondAt_14 ?_
      refine ww_iload_n (pc := 17) C 1 dX6_bondAt_17 rfl ?_
      obtain ⟨v8, e7, hf⟩ := xbd hf
      refine ww_iald (pc := 18) C e7 dX6_bondAt_18 ?_
      refine ww_goto (pc := 19) (tgt := 23) C dX6_bondAt_19 (by decide) ?_
      have hf := xsj hf
      subst hf
      exact ww_iret (pc := 23) C hk dX6_bondAt_23
theorem k_X6_bondAt {l : Launch} {E : XD} {hb : Nat} {σ : XS} {r0 : Nat} {x1 : Int32} {x : Int32} (h : f_X6_bondAt σ r0 x1 = some x) : XM l yX6_bondAt cX6_bondAt 2 (some .int) 0 0 E hb [.ref (hb + r0), .int x1] σ (some (.int x)) σ := by
  refine xm_of (by decide) (Nat.le_of_ble_eq_true rfl) ⟨Nat.le_refl _, Nat.le_refl _⟩ (fun G hG C hl hQ => ?_)
  obtain ⟨rfl, rfl, rfl, hN⟩ := hG
  exact s_X6_bondAt_e C h hQ
noncomputable def f_X2_seeLowerMates_b13 (r0 : Nat) (r1 : Nat) (r2 : Nat) (x3 : Int32) : Int32 × XS → Option ((Int32 × XS) ⊕ (XS)) := fun a => match a with
  | (x4, σ) => if (4 : Int32) ≤ x4 then ((some σ).map .inr) else (xgR σ r1 3 3).bind fun z2 => (xaI σ 20 z2 x3).bind fun v4 => if v4 ≤ x4 then ((some σ).map .inr) else (xgR σ r1 3 1).bind fun z6 => (xaI σ 20 z6 (((4 : Int32) * x3) + x4)).bind fun v8 => (xgR σ r1 3 2).bind fun z10 => (xaI σ 20 z10 (((4 : Int32) * x3) + x4)).bind fun v12 => if x3 ≤ v8 then (some (.inl (x4 + (1 : Int32), σ))) else if v12 < 0 then (some (.inl (x4 + (1 : Int32), σ))) else (xal σ r2).bind fun v14 => if v14 ≤ v12 then (some (.inl (x4 + (1 : Int32), σ))) else (xaI σ 20 r2 v12).bind fun v16 => if v16 = 0 then (some (.inl (x4 + (1 : Int32), σ))) else (xgR σ r0 2 0).bind fun z18 => (xgI σ r0 2 2).bind fun v20 => (xsI σ 20 z18 v20 v8).bind fun σ22 => (xgR σ22 r0 2 1).bind fun z24 => (xgI σ22 r0 2 2).bind fun v26 => (xaI σ22 20 r2 v12).bind fun v28 => (xsI σ22 20 z24 v26 v28).bind fun σ30 => (xgI σ30 r0 2 2).bind fun v32 => (xpI σ30 r0 2 2 (v32 + (1 : Int32))).bind fun σ34 => (xgI σ34 r0 2 3).bind fun v36 => (xpI σ34 r0 2 3 (xmin v36 v8)).bind fun σ38 => some (.inl (x4 + (1 : Int32), σ38))
noncomputable def f_X2_seeLowerMates (σ : XS) (r0 : Nat) (r1 : Nat) (r2 : Nat) (x3 : Int32) : Option XS := (xpI σ r0 2 2 (0 : Int32)).bind fun σ2 => (xpI σ2 r0 2 3 x3).bind fun σ4 => xloop (f_X2_seeLowerMates_b13 r0 r1 r2 x3) ((0 : Int32), σ4)
theorem m_X2_seeLowerMates_l13 {r0 : Nat} {r1 : Nat} {r2 : Nat} {x3 : Int32} {a : Int32 × XS} {x : XS} (hf : xloop (f_X2_seeLowerMates_b13 r0 r1 r2 x3) a = some x) : xsame a.2 x := by
  refine xloop_ind (P := fun a => xsame a.2 x) (fun a y hf hc he => ?_) hf
  obtain ⟨x4, σ⟩ := a
  have hy : (∀ a' : Int32 × XS, y = .inl a' → xsame σ a'.2) ∧ (∀ b1 : XS, y = .inr b1 → xsame σ b1) := by
    have hm := xsame.rf (σ := σ)
    by_cases q : (4 : Int32) ≤ x4
    · have hf := xip q hf
      obtain ⟨b0, hg, e9⟩ := xmj hf
      subst e9
      have hf := hg
      refine ⟨fun a' e => xnc2 e, fun b e => ?_⟩
      have h9 := Sum.inr.inj e
      subst h9
      have hf := xsj hf
      subst hf
      exact hm
    · have hf := xin q hf
      obtain ⟨z2, e1, hf⟩ := xbd hf
      obtain ⟨v4, e3, hf⟩ := xbd hf
      by_cases q : v4 ≤ x4
      · have hf := xip q hf
        obtain ⟨b0, hg, e9⟩ := xmj hf
        subst e9
        have hf := hg
        refine ⟨fun a' e => xnc2 e, fun b e => ?_⟩
        have h9 := Sum.inr.inj e
        subst h9
        have hf := xsj hf
        subst hf
        exact hm
      · have hf := xin q hf
        obtain ⟨z6, e5, hf⟩ := xbd hf
        obtain ⟨v8, e7, hf⟩ := xbd hf
        obtain ⟨z10, e9, hf⟩ := xbd hf
        obtain ⟨v12, e11, hf⟩ := xbd hf
        by_cases q : x3 ≤ v8
        · have hf := xip q hf
          have hf := xsj hf
          subst hf
          exact ⟨fun a' e => (by have h9 := Sum.inl.inj e; subst h9; exact hm), fun b e => xnc1 e⟩
        · have hf := xin q hf
          by_cases q : v12 < 0
          · have hf := xip q hf
            have hf := xsj hf
            subst hf
            exact ⟨fun a' e => (by have h9 := Sum.inl.inj e; subst h9; exact hm), fun b e => xnc1 e⟩
          · have hf := xin q hf
            obtain ⟨v14, e13, hf⟩ := xbd hf
            by_cases q : v14 ≤ v12
            · have hf := xip q hf
              have hf := xsj hf
              subst hf
              exact ⟨fun a' e => (by have h9 := Sum.inl.inj e; subst h9; exact hm), fun b e => xnc1 e⟩
            · have hf := xin q hf
              obtain ⟨v16, e15, hf⟩ := xbd hf
              by_cases q : v16 = 0
              · have hf := xip q hf
                have hf := xsj hf
                subst hf
                exact ⟨fun a' e => (by have h9 := Sum.inl.inj e; subst h9; exact hm), fun b e => xnc1 e⟩
              · have hf := xin q hf
                obtain ⟨z18, e17, hf⟩ := xbd hf
                obtain ⟨v20, e19, hf⟩ := xbd hf
                obtain ⟨σ22, e21, hf⟩ := xbd hf
                have hm := hm.tr (xsI_same e21)
                obtain ⟨z24, e23, hf⟩ := xbd hf
                obtain ⟨v26, e25, hf⟩ := xbd hf
                obtain ⟨v28, e27, hf⟩ := xbd hf
                obtain ⟨σ30, e29, hf⟩ := xbd hf
                have hm := hm.tr (xsI_same e29)
                obtain ⟨v32, e31, hf⟩ := xbd hf
                obtain ⟨σ34, e33, hf⟩ := xbd hf
                have hm := hm.tr (xpI_same e33)
                obtain ⟨v36, e35, hf⟩ := xbd hf
                obtain ⟨σ38, e37, hf⟩ := xbd hf
                have hm := hm.tr (xpI_same e37)
                have hf := xsj hf
                subst hf
                exact ⟨fun a' e => (by have h9 := Sum.inl.inj e; subst h9; exact hm), fun b e => xnc1 e⟩
  cases y with
  | inl a' =>
    have h1 := hc a' rfl
    have hm := hy.1 a' rfl
    exact hm.tr (h1)
  | inr b =>
    have h1 := he b rfl
    subst h1
    exact hy.2 _ rfl
theorem s_X2_seeLowerMates_l13 {G : XG} (C : XC G cX2_seeLowerMates RX2 none 7 1 21) {r0 : Nat} {r1 : Nat} {r2 : Nat} {x3 : Int32} {a : Int32 × XS} {x : XS} (hf : xloop (f_X2_seeLowerMates_b13 r0 r1 r2 x3) a = some x) (hk : XEnd G none x) : WW G 13 [(0, .ref (gB G + r0)), (1, .ref (gB G + r1)), (2, .ref (gB G + r2)), (3, .int x3), (4, .int a.1)] [] a.2 := by
  refine xloop_ind (P := fun a => WW G 13 [(0, .ref (gB G + r0)), (1, .ref (gB G + r1)), (2, .ref (gB G + r2)), (3, .int x3), (4, .int a.1)] [] a.2) (fun a y hf hc he => ?_) hf
  obtain ⟨x4, σ⟩ := a
  have hk : (∀ a' : Int32 × XS, y = .inl a' → WW G 13 [(0, .ref (gB G + r0)), (1, .ref (gB G + r1)), (2, .ref (gB G + r2)), (3, .int x3), (4, .int a'.1)] [] a'.2) ∧ (∀ b1 : XS, y = .inr b1 → XEnd G none b1) := ⟨hc, fun b e => by have h9 := he b e; subst h9; exact hk⟩
  refine ww_iload (pc := 13) C 4 dX2_seeLowerMates_13 rfl ?_
  refine ww_iconst (pc := 15) (v := (4 : Int32)) C dX2_seeLowerMates_15 (by decide) ?_
  refine ww_icmp_ge (pc := 16) (tgt := 134) C dX2_seeLowerMates_16 (by decide) (fun q => ?_) (fun q => ?_)
  · have hf := xip q hf
    obtain ⟨b0, hg, e9⟩ := xmj hf
    subst e9
    have hf := hg
    have hk := hk.2 _ rfl
    have hf := xsj hf
    subst hf
    exact ww_vret (pc := 134) C hk dX2_seeLowerMates_134
  · have hf := xin q hf
    refine ww_iload (pc := 19) C 4 dX2_seeLowerMates_19 rfl ?_
    refine ww_aload_n (pc := 21) C 1 dX2_seeLowerMates_21 rfl ?_
    obtain ⟨z2, e1, hf⟩ := xbd hf
    refine gf_X2_43 (pc := 22) C e1 dX2_seeLowerMates_22 ?_
    refine ww_iload_n (pc := 25) C 3 dX2_seeLowerMates_25 rfl ?_
    obtain ⟨v4, e3, hf⟩ := xbd hf
    refine ww_iald (pc := 26) C e3 dX2_seeLowerMates_26 ?_
    refine ww_icmp_ge (pc := 27) (tgt := 134) C dX2_seeLowerMates_27 (by decide) (fun q => ?_) (fun q => ?_)
    · have hf := xip q hf
      obtain ⟨b0, hg, e9⟩ := xmj hf
      subst e9
      have hf := hg
      have hk := hk.2 _ rfl
      have hf := xsj hf
      subst hf
      exact ww_vret (pc := 134) C hk dX2_seeLowerMates_134
    · have hf := xin q hf
      refine ww_aload_n (pc := 30) C 1 dX2_seeLowerMates_30 rfl ?_
      obtain ⟨z6, e5, hf⟩ := xbd hf
      refine gf_X2_48 (pc := 31) C e5 dX2_seeLowerMates_31 ?_
      refine ww_iconst (pc := 34) (v := (4 : Int32)) C dX2_seeLowerMates_34 (by decide) ?_
      refine ww_iload_n (pc := 35) C 3 dX2_seeLowerMates_35 rfl ?_
      refine ww_imul (pc := 36) C dX2_seeLowerMates_36 ?_
      refine ww_iload (pc := 37) C 4 dX2_seeLowerMates_37 rfl ?_
      refine ww_iadd (pc := 39) C dX2_seeLowerMates_39 ?_
      obtain ⟨v8, e7, hf⟩ := xbd hf
      refine ww_iald (pc := 40) C e7 dX2_seeLowerMates_40 ?_
      refine ww_istore (pc := 41) (lv' := [(5, .int v8), (0, .ref (gB G + r0)), (1, .ref (gB G + r1)), (2, .ref (gB G + r2)), (3, .int x3), (4, .int x4)]) C dX2_seeLowerMates_41 (by decide) rfl ?_
      refine ww_aload_n (pc := 43) C 2 dX2_seeLowerMates_43 rfl ?_
      obtain ⟨z10, e9, hf⟩ := xbd hf
      refine gf_X2_51 (pc := 44) C e9 dX2_seeLowerMates_44 ?_
      refine ww_iconst (pc := 47) (v := (4 : Int32)) C dX2_seeLowerMates_47 (by decide) ?_
      refine ww_iload_n (pc := 48) C 4 dX2_seeLowerMates_48 rfl ?_
      refine ww_imul (pc := 49) C dX2_seeLowerMates_49 ?_
      refine ww_iload (pc := 50) C 5 dX2_seeLowerMates_50 rfl ?_
      refine ww_iadd (pc := 52) C dX2_seeLowerMates_52 ?_
      obtain ⟨v12, e11, hf⟩ := xbd hf
      refine ww_iald (pc := 53) C e11 dX2_seeLowerMates_53 ?_
      refine ww_istore (pc := 54) (lv' := [(6, .int v12), (5, .int v8), (0, .ref (gB G + r0)), (1, .ref (gB G + r1)), (2, .ref (gB G + r2)), (3, .int x3), (4, .int x4)]) C dX2_seeLowerMates_54 (by decide) rfl ?_
      refine ww_iload (pc := 56) C 1 dX2_seeLowerMates_56 rfl ?_
      refine ww_iload_n (pc := 58) C 5 dX2_seeLowerMates_58 rfl ?_
      refine ww_icmp_ge (pc := 59) (tgt := 128) C dX2_seeLowerMates_59 (by decide) (fun q => ?_) (fun q => ?_)
      · have hf := xip q hf
        refine ww_iinc (pc := 128) (v := x4 + (1 : Int32)) (lv' := [(4, .int (x4 + (1 : Int32))), (6, .int v12), (5, .int v8), (0, .ref (gB G + r0)), (1, .ref (gB G + r1)), (2, .ref (gB G + r2)), (3, .int x3)]) C 6 dX2_seeLowerMates_128 rfl (congrArg (fun z => x4 + z) (show Int32.ofInt (1) = (1 : Int32) by decide)) (by decide) rfl ?_
        refine ww_goto (pc := 131) (tgt := 13) C dX2_seeLowerMates_131 (by decide) ?_
        have hf := xsj hf
        subst hf
        refine ww_sub [3, 4, 5, 6, 0] rfl ?_
        exact hk.1 (x4 + (1 : Int32), σ) rfl
      · have hf := xin q hf
        refine ww_iload (pc := 62) C 0 dX2_seeLowerMates_62 rfl ?_
        refine ww_if_lt (pc := 64) (tgt := 128) C dX2_seeLowerMates_64 (by decide) (fun q => ?_) (fun q => ?_)
        · have hf := xip q hf
          refine ww_iinc (pc := 128) (v := x4 + (1 : Int32)) (lv' := [(4, .int (x4 + (1 : Int32))), (6, .int v12), (5, .int v8), (0, .ref (gB G + r0)), (1, .ref (gB G + r1)), (2, .ref (gB G + r2)), (3, .int x3)]) C 6 dX2_seeLowerMates_128 rfl (congrArg (fun z => x4 + z) (show Int32.ofInt (1) = (1 : Int32) by decide)) (by decide) rfl ?_
          refine ww_goto (pc := 131) (tgt := 13) C dX2_seeLowerMates_131 (by decide) ?_
          have hf := xsj hf
          subst hf
          refine ww_sub [3, 4, 5, 6, 0] rfl ?_
          exact hk.1 (x4 + (1 : Int32), σ) rfl
        · have hf := xin q hf
          refine ww_iload (pc := 67) C 0 dX2_seeLowerMates_67 rfl ?_
          refine ww_aload_n (pc := 69) C 4 dX2_seeLowerMates_69 rfl ?_
          obtain ⟨v14, e13, hf⟩ := xbd hf
          refine ww_alen (pc := 70) C e13 dX2_seeLowerMates_70 ?_
          refine ww_icmp_ge (pc := 71) (tgt := 128) C dX2_seeLowerMates_71 (by decide) (fun q => ?_) (fun q => ?_)
          · have hf := xip q hf
            refine ww_iinc (pc := 128) (v := x4 + (1 : Int32)) (lv' := [(4, .int (x4 + (1 : Int32))), (6, .int v12), (5, .int v8), (0, .ref (gB G + r0)), (1, .ref (gB G + r1)), (2, .ref (gB G + r2)), (3, .int x3)]) C 6 dX2_seeLowerMates_128 rfl (congrArg (fun z => x4 + z) (show Int32.ofInt (1) = (1 : Int32) by decide)) (by decide) rfl ?_
            refine ww_goto (pc := 131) (tgt := 13) C dX2_seeLowerMates_131 (by decide) ?_
            have hf := xsj hf
            subst hf
            refine ww_sub [3, 4, 5, 6, 0] rfl ?_
            exact hk.1 (x4 + (1 : Int32), σ) rfl
          · have hf := xin q hf
            refine ww_aload_n (pc := 74) C 4 dX2_seeLowerMates_74 rfl ?_
            refine ww_iload (pc := 75) C 0 dX2_seeLowerMates_75 rfl ?_
            obtain ⟨v16, e15, hf⟩ := xbd hf
            refine ww_iald (pc := 77) C e15 dX2_seeLowerMates_77 ?_
            refine ww_if_eq (pc := 78) (tgt := 128) C dX2_seeLowerMates_78 (by decide) (fun q => ?_) (fun q => ?_)
            · have hf := xip q hf
              refine ww_iinc (pc := 128) (v := x4 + (1 : Int32)) (lv' := [(4, .int (x4 + (1 : Int32))), (6, .int v12), (5, .int v8), (0, .ref (gB G + r0)), (1, .ref (gB G + r1)), (2, .ref (gB G + r2)), (3, .int x3)]) C 6 dX2_seeLowerMates_128 rfl (congrArg (fun z => x4 + z) (show Int32.ofInt (1) = (1 : Int32) by decide)) (by decide) rfl ?_
              refine ww_goto (pc := 131) (tgt := 13) C dX2_seeLowerMates_131 (by decide) ?_
              have hf := xsj hf
              subst hf
              refine ww_sub [3, 4, 5, 6, 0] rfl ?_
              exact hk.1 (x4 + (1 : Int32), σ) rfl
            · have hf := xin q hf
              refine ww_aload_n (pc := 81) C 2 dX2_seeLowerMates_81 rfl ?_
              obtain ⟨z18, e17, hf⟩ := xbd hf
              refine gf_X2_9 (pc := 82) C e17 dX2_seeLowerMates_82 ?_
              refine ww_aload_n (pc := 85) C 2 dX2_seeLowerMates_85 rfl ?_
              obtain ⟨v20, e19, hf⟩ := xbd hf
              refine gf_X2_37 (pc := 86) C e19 dX2_seeLowerMates_86 ?_
              refine ww_iload (pc := 89) C 1 dX2_seeLowerMates_89 rfl ?_
              obtain ⟨σ22, e21, hf⟩ := xbd hf
              refine ww_iast (pc := 91) C e21 dX2_seeLowerMates_91 ?_
              refine ww_aload_n (pc := 92) C 2 dX2_seeLowerMates_92 rfl ?_
              obtain ⟨z24, e23, hf⟩ := xbd hf
              refine gf_X2_15 (pc := 93) C e23 dX2_seeLowerMates_93 ?_
              refine ww_aload_n (pc := 96) C 2 dX2_seeLowerMates_96 rfl ?_
              obtain ⟨v26, e25, hf⟩ := xbd hf
              refine gf_X2_37 (pc := 97) C e25 dX2_seeLowerMates_97 ?_
              refine ww_aload_n (pc := 100) C 4 dX2_seeLowerMates_100 rfl ?_
              refine ww_iload (pc := 101) C 0 dX2_seeLowerMates_101 rfl ?_
              obtain ⟨v28, e27, hf⟩ := xbd hf
              refine ww_iald (pc := 103) C e27 dX2_seeLowerMates_103 ?_
              obtain ⟨σ30, e29, hf⟩ := xbd hf
              refine ww_iast (pc := 104) C e29 dX2_seeLowerMates_104 ?_
              refine ww_aload_n (pc := 105) C 2 dX2_seeLowerMates_105 rfl ?_
              refine ww_dup (pc := 106) C dX2_seeLowerMates_106 rfl ?_
              obtain ⟨v32, e31, hf⟩ := xbd hf
              refine gf_X2_37 (pc := 107) C e31 dX2_seeLowerMates_107 ?_
              refine ww_iconst (pc := 110) (v := (1 : Int32)) C dX2_seeLowerMates_110 (by decide) ?_
              refine ww_iadd (pc := 111) C dX2_seeLowerMates_111 ?_
              obtain ⟨σ34, e33, hf⟩ := xbd hf
              refine pf_X2_37 (pc := 112) C e33 dX2_seeLowerMates_112 ?_
              refine ww_aload_n (pc := 115) C 2 dX2_seeLowerMates_115 rfl ?_
              refine ww_aload_n (pc := 116) C 2 dX2_seeLowerMates_116 rfl ?_
              obtain ⟨v36, e35, hf⟩ := xbd hf
              refine gf_X2_40 (pc := 117) C e35 dX2_seeLowerMates_117 ?_
              refine ww_iload (pc := 120) C 1 dX2_seeLowerMates_120 rfl ?_
              refine ww_mmin (pc := 122) C q860 q718 q20 qm_mmin ⟨by decide, Nat.le_trans (Nat.add_le_add_right (xst4 (Nat.le_of_ble_eq_true rfl)) 13) (by decide)⟩ dX2_seeLowerMates_122 ?_
              obtain ⟨σ38, e37, hf⟩ := xbd hf
              refine pf_X2_40 (pc := 125) C e37 dX2_seeLowerMates_125 ?_
              refine ww_iinc (pc := 128) (v := x4 + (1 : Int32)) (lv' := [(4, .int (x4 + (1 : Int32))), (6, .int v12), (5, .int v8), (0, .ref (gB G + r0)), (1, .ref (gB G + r1)), (2, .ref (gB G + r2)), (3, .int x3)]) C 6 dX2_seeLowerMates_128 rfl (congrArg (fun z => x4 + z) (show Int32.ofInt (1) = (1 : Int32) by decide)) (by decide) rfl ?_
              refine ww_goto (pc := 131) (tgt := 13) C dX2_seeLowerMates_131 (by decide) ?_
              have hf := xsj hf
              subst hf
              refine ww_sub [3, 4, 5, 6, 0] rfl ?_
              exact hk.1 (x4 + (1 : Int32), σ38) rfl
theorem s_X2_seeLowerMates_e {G : XG} (C : XC G cX2_seeLowerMates RX2 none 7 1 21) {σ : XS} {r0 : Nat} {r1 : Nat} {r2 : Nat} {x3 : Int32} {x : XS} (hf : f_X2_seeLowerMates σ r0 r1 r2 x3 = some x) (hk : XEnd G none x) : WW G 0 [(0, .ref (gB G + r0)), (1, .ref (gB G + r1)), (2, .ref (gB G + r2)), (3, .int x3)] [] σ := by
  refine ww_aload_n (pc := 0) C 0 dX2_seeLowerMates_0 rfl ?_
  refine ww_iconst (pc := 1) (v := (0 : Int32)) C dX2_seeLowerMates_1 (by decide) ?_
  obtain ⟨σ2, e1, hf⟩ := xbd hf
  refine pf_X2_37 (pc := 2) C e1 dX2_seeLowerMates_2 ?_
  refine ww_aload_n (pc := 5) C 0 dX2_seeLowerMates_5 rfl ?_
  refine ww_iload_n (pc := 6) C 3 dX2_seeLowerMates_6 rfl ?_
  obtain ⟨σ4, e3, hf⟩ := xbd hf
  refine pf_X2_40 (pc := 7) C e3 dX2_seeLowerMates_7 ?_
  refine ww_iconst (pc := 10) (v := (0 : Int32)) C dX2_seeLowerMates_10 (by decide) ?_
  refine ww_istore (pc := 11) (lv' := [(4, .int (0 : Int32)), (0, .ref (gB G + r0)), (1, .ref (gB G + r1)), (2, .ref (gB G + r2)), (3, .int x3)]) C dX2_seeLowerMates_11 (by decide) rfl ?_
  refine ww_sub [1, 2, 3, 4, 0] rfl ?_
  exact s_X2_seeLowerMates_l13 C (a := ((0 : Int32), σ4)) hf hk
theorem m_X2_seeLowerMates {σ : XS} {r0 : Nat} {r1 : Nat} {r2 : Nat} {x3 : Int32} {x : XS} (hf : f_X2_seeLowerMates σ r0 r1 r2 x3 = some x) : xsame σ x := by
  have hm := xsame.rf (σ := σ)
  obtain ⟨σ2, e1, hf⟩ := xbd hf
  have hm := hm.tr (xpI_same e1)
  obtain ⟨σ4, e3, hf⟩ := xbd hf
  have hm := hm.tr (xpI_same e3)
  exact hm.tr (m_X2_seeLowerMates_l13 (a := ((0 : Int32), σ4)) hf)
theorem k_X2_seeLowerMates {l : Launch} {E : XD} {hb : Nat} {σ : XS} {r0 : Nat} {r1 : Nat} {r2 : Nat} {x3 : Int32} {x : XS} (h : f_X2_seeLowerMates σ r0 r1 r2 x3 = some x) : XM l yX2_seeLowerMates cX2_seeLowerMates 7 none 1 21 E hb [.ref (hb + r0), .ref (hb + r1), .ref (hb + r2), .int x3] σ none x := by
  refine xm_of (by decide) (Nat.le_of_ble_eq_true rfl) (m_X2_seeLowerMates h).le (fun G hG C hl hQ => ?_)
  obtain ⟨rfl, rfl, rfl, hN⟩ := hG
  exact s_X2_seeLowerMates_e C h hQ
noncomputable def f_X2_pulledByMates_b4 (σ : XS) (r0 : Nat) (x1 : Int32) : Int32 × Int32 → Option ((Int32 × Int32) ⊕ (Int32)) := fun a => match a with
  | (x2, x3) => (xgI σ r0 2 2).bind fun v2 => if v2 ≤ x3 then ((some x2).map .inr) else if (4 : Int32) ≤ x3 then ((some x2).map .inr) else (xgR σ r0 2 0).bind fun z4 => (xaI σ 20 z4 x3).bind fun v6 => if ((x1 >>> (v6 &&& 31)) &&& (1 : Int32)) = (1 : Int32) then ((xgR σ r0 2 1).bind fun z8 => (xaI σ 20 z8 x3).bind fun v10 => some (.inl (x2 + v10, x3 + (1 : Int32)))) else (xgR σ r0 2 1).bind fun z8 => (xaI σ 20 z8 x3).bind fun v10 => some (.inl (x2 + (-v10), x3 + (1 : Int32)))
noncomputable def f_X2_pulledByMates (σ : XS) (r0 : Nat) (x1 : Int32) : Option Int32 := xloop (f_X2_pulledByMates_b4 σ r0 x1) ((0 : Int32), (0 : Int32))
theorem s_X2_pulledByMates_l4 {G : XG} (C : XC G cX2_pulledByMates RX2 (some .int) 4 0 0) {σ : XS} {r0 : Nat} {x1 : Int32} {a : Int32 × Int32} {x : Int32} (hf : xloop (f_X2_pulledByMates_b4 σ r0 x1) a = some x) (hk : XEnd G (some (.int x)) σ) : WW G 4 [(0, .ref (gB G + r0)), (1, .int x1), (2, .int a.1), (3, .int a.2)] [] σ := by
  refine xloop_ind (P := fun a => WW G 4 [(0, .ref (gB G + r0)), (1, .int x1), (2, .int a.1), (3, .int a.2)] [] σ) (fun a y hf hc he => ?_) hf
  obtain ⟨x2, x3⟩ := a
  have hk : (∀ a' : Int32 × Int32, y = .inl a' → WW G 4 [(0, .ref (gB G + r0)), (1, .int x1), (2, .int a'.1), (3, .int a'.2)] [] σ) ∧ (∀ b1 : Int32, y = .inr b1 → XEnd G (some (.int b1)) σ) := ⟨hc, fun b e => by have h9 := he b e; subst h9; exact hk⟩
  refine ww_iload_n (pc := 4) C 3 dX2_pulledByMates_4 rfl ?_
  refine ww_aload_n (pc := 5) C 0 dX2_pulledByMates_5 rfl ?_
  obtain ⟨v2, e1, hf⟩ := xbd hf
  refine gf_X2_37 (pc := 6) C e1 dX2_pulledByMates_6 ?_
  refine ww_icmp_ge (pc := 9) (tgt := 56) C dX2_pulledByMates_9 (by decide) (fun q => ?_) (fun q => ?_)
  · have hf := xip q hf
    obtain ⟨b0, hg, e9⟩ := xmj hf
    subst e9
    have hf := hg
    have hk := hk.2 _ rfl
    refine ww_iload_n (pc := 56) C 2 dX2_pulledByMates_56 rfl ?_
    have hf := xsj hf
    subst hf
    exact ww_iret (pc := 57) C hk dX2_pulledByMates_57
  · have hf := xin q hf
    refine ww_iload_n (pc := 12) C 3 dX2_pulledByMates_12 rfl ?_
    refine ww_iconst (pc := 13) (v := (4 : Int32)) C dX2_pulledByMates_13 (by decide) ?_
    refine ww_icmp_ge (pc := 14) (tgt := 56) C dX2_pulledByMates_14 (by decide) (fun q => ?_) (fun q => ?_)
    · have hf := xip q hf
      obtain ⟨b0, hg, e9⟩ := xmj hf
      subst e9
      have hf := hg
      have hk := hk.2 _ rfl
      refine ww_iload_n (pc := 56) C 2 dX2_pulledByMates_56 rfl ?_
      have hf := xsj hf
      subst hf
      exact ww_iret (pc := 57) C hk dX2_pulledByMates_57
    · have hf := xin q hf
      refine ww_iload_n (pc := 17) C 2 dX2_pulledByMates_17 rfl ?_
      refine ww_iload_n (pc := 18) C 1 dX2_pulledByMates_18 rfl ?_
      refine ww_aload_n (pc := 19) C 0 dX2_pulledByMates_19 rfl ?_
      obtain ⟨z4, e3, hf⟩ := xbd hf
      refine gf_X2_9 (pc := 20) C e3 dX2_pulledByMates_20 ?_
      refine ww_iload_n (pc := 23) C 3 dX2_pulledByMates_23 rfl ?_
      obtain ⟨v6, e5, hf⟩ := xbd hf
      refine ww_iald (pc := 24) C e5 dX2_pulledByMates_24 ?_
      refine ww_ishr (pc := 25) C dX2_pulledByMates_25 ?_
      refine ww_iconst (pc := 26) (v := (1 : Int32)) C dX2_pulledByMates_26 (by decide) ?_
      refine ww_iand (pc := 27) C dX2_pulledByMates_27 ?_
      refine ww_iconst (pc := 28) (v := (1 : Int32)) C dX2_pulledByMates_28 (by decide) ?_
      refine ww_icmp_ne (pc := 29) (tgt := 41) C dX2_pulledByMates_29 (by decide) (fun q => ?_) (fun q => ?_)
      · have hf := xin q hf
        refine ww_aload_n (pc := 41) C 0 dX2_pulledByMates_41 rfl ?_
        obtain ⟨z8, e7, hf⟩ := xbd hf
        refine gf_X2_15 (pc := 42) C e7 dX2_pulledByMates_42 ?_
        refine ww_iload_n (pc := 45) C 3 dX2_pulledByMates_45 rfl ?_
        obtain ⟨v10, e9, hf⟩ := xbd hf
        refine ww_iald (pc := 46) C e9 dX2_pulledByMates_46 ?_
        refine ww_ineg (pc := 47) C dX2_pulledByMates_47 ?_
        refine ww_iadd (pc := 48) C dX2_pulledByMates_48 ?_
        refine ww_istore_n (pc := 49) (lv' := [(2, .int (x2 + (-v10))), (0, .ref (gB G + r0)), (1, .int x1), (3, .int x3)]) C dX2_pulledByMates_49 (by decide) rfl ?_
        refine ww_iinc (pc := 50) (v := x3 + (1 : Int32)) (lv' := [(3, .int (x3 + (1 : Int32))), (2, .int (x2 + (-v10))), (0, .ref (gB G + r0)), (1, .int x1)]) C 3 dX2_pulledByMates_50 rfl (congrArg (fun z => x3 + z) (show Int32.ofInt (1) = (1 : Int32) by decide)) (by decide) rfl ?_
        refine ww_goto (pc := 53) (tgt := 4) C dX2_pulledByMates_53 (by decide) ?_
        have hf := xsj hf
        subst hf
        refine ww_sub [2, 3, 1, 0] rfl ?_
        exact hk.1 (x2 + (-v10), x3 + (1 : Int32)) rfl
      · have hf := xip q hf
        refine ww_aload_n (pc := 32) C 0 dX2_pulledByMates_32 rfl ?_
        obtain ⟨z8, e7, hf⟩ := xbd hf
        refine gf_X2_15 (pc := 33) C e7 dX2_pulledByMates_33 ?_
        refine ww_iload_n (pc := 36) C 3 dX2_pulledByMates_36 rfl ?_
        obtain ⟨v10, e9, hf⟩ := xbd hf
        refine ww_iald (pc := 37) C e9 dX2_pulledByMates_37 ?_
        refine ww_goto (pc := 38) (tgt := 48) C dX2_pulledByMates_38 (by decide) ?_
        refine ww_iadd (pc := 48) C dX2_pulledByMates_48 ?_
        refine ww_istore_n (pc := 49) (lv' := [(2, .int (x2 + v10)), (0, .ref (gB G + r0)), (1, .int x1), (3, .int x3)]) C dX2_pulledByMates_49 (by decide) rfl ?_
        refine ww_iinc (pc := 50) (v := x3 + (1 : Int32)) (lv' := [(3, .int (x3 + (1 : Int32))), (2, .int (x2 + v10)), (0, .ref (gB G + r0)), (1, .int x1)]) C 3 dX2_pulledByMates_50 rfl (congrArg (fun z => x3 + z) (show Int32.ofInt (1) = (1 : Int32) by decide)) (by decide) rfl ?_
        refine ww_goto (pc := 53) (tgt := 4) C dX2_pulledByMates_53 (by decide) ?_
        have hf := xsj hf
        subst hf
        refine ww_sub [2, 3, 1, 0] rfl ?_
        exact hk.1 (x2 + v10, x3 + (1 : Int32)) rfl
theorem s_X2_pulledByMates_e {G : XG} (C : XC G cX2_pulledByMates RX2 (some .int) 4 0 0) {σ : XS} {r0 : Nat} {x1 : Int32} {x : Int32} (hf : f_X2_pulledByMates σ r0 x1 = some x) (hk : XEnd G (some (.int x)) σ) : WW G 0 [(0, .ref (gB G + r0)), (1, .int x1)] [] σ := by
  refine ww_iconst (pc := 0) (v := (0 : Int32)) C dX2_pulledByMates_0 (by decide) ?_
  refine ww_istore_n (pc := 1) (lv' := [(2, .int (0 : Int32)), (0, .ref (gB G + r0)), (1, .int x1)]) C dX2_pulledByMates_1 (by decide) rfl ?_
  refine ww_iconst (pc := 2) (v := (0 : Int32)) C dX2_pulledByMates_2 (by decide) ?_
  refine ww_istore_n (pc := 3) (lv' := [(3, .int (0 : Int32)), (2, .int (0 : Int32)), (0, .ref (gB G + r0)), (1, .int x1)]) C dX2_pulledByMates_3 (by decide) rfl ?_
  refine ww_sub [2, 3, 1, 0] rfl ?_
  exact s_X2_pulledByMates_l4 C (a := ((0 : Int32), (0 : Int32))) hf hk
theorem k_X2_pulledByMates {l : Launch} {E : XD} {hb : Nat} {σ : XS} {r0 : Nat} {x1 : Int32} {x : Int32} (h : f_X2_pulledByMates σ r0 x1 = some x) : XM l yX2_pulledByMates cX2_pulledByMates 4 (some .int) 0 0 E hb [.ref (hb + r0), .int x1] σ (some (.int x)) σ := by
  refine xm_of (by decide) (Nat.le_of_ble_eq_true rfl) ⟨Nat.le_refl _, Nat.le_refl _⟩ (fun G hG C hl hQ => ?_)
  obtain ⟨rfl, rfl, rfl, hN⟩ := hG
  exact s_X2_pulledByMates_e C h hQ
noncomputable def f_X2_addSite_b35 (r0 : Nat) (x2 : Int32) (x3 : Int32) (x4 : Int32) (x5 : Int32) (x6 : Int32) : Int32 × XS → Option ((Int32 × XS) ⊕ ((Int32 × XS) ⊕ (XS))) := fun a => match a with
  | (x7, σ) => if (x5 + x4) ≤ x7 then ((some (.inl (x5 + x4, σ))).map .inr) else (xgR σ r0 2 4).bind fun z2 => (xal σ z2).bind fun v4 => if v4 ≤ (x3 + x7) then ((some (.inl (x5 + x4, σ))).map .inr) else (xgR σ r0 2 4).bind fun z6 => (xgR σ r0 2 4).bind fun z8 => (xaI σ 20 z8 x7).bind fun v10 => (xsI σ 20 z6 (x3 + x7) (v10 - x6)).bind fun σ12 => (xgR σ12 r0 2 4).bind fun z14 => (xaI σ12 20 z14 x7).bind fun v16 => (xsI σ12 20 z14 x7 (v16 + x6)).bind fun σ18 => some (.inl (x7 + (1 : Int32), σ18))
noncomputable def f_X2_addSite_b15 (r0 : Nat) (x2 : Int32) (x3 : Int32) (x4 : Int32) : Int32 × XS → Option ((Int32 × XS) ⊕ (XS)) := fun a => match a with
  | (x5, σ) => if x3 ≤ x5 then ((some σ).map .inr) else (xck σ r0 2).bind fun _ => (f_X2_pulledByMates σ r0 x5).bind fun v3 => xloop (f_X2_addSite_b35 r0 x2 x3 x4 x5 (x2 + v3)) (x5, σ)
noncomputable def f_X2_addSite (σ : XS) (r0 : Nat) (x1 : Int32) (x2 : Int32) : Option XS := (xgI σ r0 2 3).bind fun v2 => xloop (f_X2_addSite_b15 r0 x2 ((1 : Int32) <<< (x1 &&& 31)) ((1 : Int32) <<< (v2 &&& 31))) ((0 : Int32), σ)
theorem m_X2_addSite_l35 {r0 : Nat} {x2 : Int32} {x3 : Int32} {x4 : Int32} {x5 : Int32} {x6 : Int32} {a : Int32 × XS} {x : ((Int32 × XS) ⊕ (XS))} (hf : xloop (f_X2_addSite_b35 r0 x2 x3 x4 x5 x6) a = some x) : (∀ a' : Int32 × XS, x = .inl a' → xsame a.2 a'.2) ∧ (∀ b1 : XS, x = .inr b1 → xsame a.2 b1) := by
  refine xloop_ind (P := fun a => (∀ a' : Int32 × XS, x = .inl a' → xsame a.2 a'.2) ∧ (∀ b1 : XS, x = .inr b1 → xsame a.2 b1)) (fun a y hf hc he => ?_) hf
  obtain ⟨x7, σ⟩ := a
  have hy : (∀ a' : Int32 × XS, y = .inl a' → xsame σ a'.2) ∧ (∀ b2 : ((Int32 × XS) ⊕ (XS)), y = .inr b2 → (∀ a' : Int32 × XS, b2 = .inl a' → xsame σ a'.2) ∧ (∀ b1 : XS, b2 = .inr b1 → xsame σ b1)) := by
    have hm := xsame.rf (σ := σ)
    by_cases q : (x5 + x4) ≤ x7
    · have hf := xip q hf
      obtain ⟨b0, hg, e9⟩ := xmj hf
      subst e9
      have hf := hg
      refine ⟨fun a' e => xnc2 e, fun b e => ?_⟩
      have h9 := Sum.inr.inj e
      subst h9
      have hf := xsj hf
      subst hf
      exact ⟨fun a' e => (by have h9 := Sum.inl.inj e; subst h9; exact hm), fun b e => xnc1 e⟩
    · have hf := xin q hf
      obtain ⟨z2, e1, hf⟩ := xbd hf
      obtain ⟨v4, e3, hf⟩ := xbd hf
      by_cases q : v4 ≤ (x3 + x7)
      · have hf := xip q hf
        obtain ⟨b0, hg, e9⟩ := xmj hf
        subst e9
        have hf := hg
        refine ⟨fun a' e => xnc2 e, fun b e => ?_⟩
        have h9 := Sum.inr.inj e
        subst h9
        have hf := xsj hf
        subst hf
        exact ⟨fun a' e => (by have h9 := Sum.inl.inj e; subst h9; exact hm), fun b e => xnc1 e⟩
      · have hf := xin q hf
        obtain ⟨z6, e5, hf⟩ := xbd hf
        obtain ⟨z8, e7, hf⟩ := xbd hf
        obtain ⟨v10, e9, hf⟩ := xbd hf
        obtain ⟨σ12, e11, hf⟩ := xbd hf
        have hm := hm.tr (xsI_same e11)
        obtain ⟨z14, e13, hf⟩ := xbd hf
        obtain ⟨v16, e15, hf⟩ := xbd hf
        obtain ⟨σ18, e17, hf⟩ := xbd hf
        have hm := hm.tr (xsI_same e17)
        have hf := xsj hf
        subst hf
        exact ⟨fun a' e => (by have h9 := Sum.inl.inj e; subst h9; exact hm), fun b e => xnc1 e⟩
  cases y with
  | inl a' =>
    have h1 := hc a' rfl
    have hm := hy.1 a' rfl
    exact ⟨fun a' e => hm.tr ((h1).1 a' e), fun b1 eb1 => hm.tr ((h1).2 b1 eb1)⟩
  | inr b =>
    have h1 := he b rfl
    subst h1
    exact hy.2 _ rfl
theorem s_X2_addSite_l35 {G : XG} (C : XC G cX2_addSite RX2 none 8 1 23) {r0 : Nat} {x2 : Int32} {x3 : Int32} {x4 : Int32} {x5 : Int32} {x6 : Int32} {a : Int32 × XS} {x : ((Int32 × XS) ⊕ (XS))} (hf : xloop (f_X2_addSite_b35 r0 x2 x3 x4 x5 x6) a = some x) (hk : (∀ a' : Int32 × XS, x = .inl a' → WW G 15 [(0, .ref (gB G + r0)), (2, .int x2), (3, .int x3), (4, .int x4), (5, .int a'.1)] [] a'.2) ∧ (∀ b1 : XS, x = .inr b1 → XEnd G none b1)) : WW G 35 [(0, .ref (gB G + r0)), (2, .int x2), (3, .int x3), (4, .int x4), (5, .int x5), (6, .int x6), (7, .int a.1)] [] a.2 := by
  refine xloop_ind (P := fun a => WW G 35 [(0, .ref (gB G + r0)), (2, .int x2), (3, .int x3), (4, .int x4), (5, .int x5), (6, .int x6), (7, .int a.1)] [] a.2) (fun a y hf hc he => ?_) hf
  obtain ⟨x7, σ⟩ := a
  have hk : (∀ a' : Int32 × XS, y = .inl a' → WW G 35 [(0, .ref (gB G + r0)), (2, .int x2), (3, .int x3), (4, .int x4), (5, .int x5), (6, .int x6), (7, .int a'.1)] [] a'.2) ∧ (∀ b2 : ((Int32 × XS) ⊕ (XS)), y = .inr b2 → (∀ a' : Int32 × XS, b2 = .inl a' → WW G 15 [(0, .ref (gB G + r0)), (2, .int x2), (3, .int x3), (4, .int x4), (5, .int a'.1)] [] a'.2) ∧ (∀ b1 : XS, b2 = .inr b1 → XEnd G none b1)) := ⟨hc, fun b e => by have h9 := he b e; subst h9; exact hk⟩
  refine ww_iload (pc := 35) C 6 dX2_addSite_35 rfl ?_
  refine ww_iload (pc := 37) C 4 dX2_addSite_37 rfl ?_
  refine ww_iload (pc := 39) C 3 dX2_addSite_39 rfl ?_
  refine ww_iadd (pc := 41) C dX2_addSite_41 ?_
  refine ww_icmp_ge (pc := 42) (tgt := 94) C dX2_addSite_42 (by decide) (fun q => ?_) (fun q => ?_)
  · have hf := xip q hf
    obtain ⟨b0, hg, e9⟩ := xmj hf
    subst e9
    have hf := hg
    have hk := hk.2 _ rfl
    refine ww_iload (pc := 94) C 4 dX2_addSite_94 rfl ?_
    refine ww_iload (pc := 96) C 3 dX2_addSite_96 rfl ?_
    refine ww_iadd (pc := 98) C dX2_addSite_98 ?_
    refine ww_istore (pc := 99) (lv' := [(5, .int (x5 + x4)), (0, .ref (gB G + r0)), (2, .int x2), (3, .int x3), (4, .int x4), (6, .int x6), (7, .int x7)]) C dX2_addSite_99 (by decide) rfl ?_
    refine ww_goto (pc := 101) (tgt := 15) C dX2_addSite_101 (by decide) ?_
    have hf := xsj hf
    subst hf
    refine ww_sub [1, 2, 3, 4, 0] rfl ?_
    exact hk.1 (x5 + x4, σ) rfl
  · have hf := xin q hf
    refine ww_iload_n (pc := 45) C 2 dX2_addSite_45 rfl ?_
    refine ww_iload (pc := 46) C 6 dX2_addSite_46 rfl ?_
    refine ww_iadd (pc := 48) C dX2_addSite_48 ?_
    refine ww_aload_n (pc := 49) C 0 dX2_addSite_49 rfl ?_
    obtain ⟨z2, e1, hf⟩ := xbd hf
    refine gf_X2_18 (pc := 50) C e1 dX2_addSite_50 ?_
    obtain ⟨v4, e3, hf⟩ := xbd hf
    refine ww_alen (pc := 53) C e3 dX2_addSite_53 ?_
    refine ww_icmp_ge (pc := 54) (tgt := 94) C dX2_addSite_54 (by decide) (fun q => ?_) (fun q => ?_)
    · have hf := xip q hf
      obtain ⟨b0, hg, e9⟩ := xmj hf
      subst e9
      have hf := hg
      have hk := hk.2 _ rfl
      refine ww_iload (pc := 94) C 4 dX2_addSite_94 rfl ?_
      refine ww_iload (pc := 96) C 3 dX2_addSite_96 rfl ?_
      refine ww_iadd (pc := 98) C dX2_addSite_98 ?_
      refine ww_istore (pc := 99) (lv' := [(5, .int (x5 + x4)), (0, .ref (gB G + r0)), (2, .int x2), (3, .int x3), (4, .int x4), (6, .int x6), (7, .int x7)]) C dX2_addSite_99 (by decide) rfl ?_
      refine ww_goto (pc := 101) (tgt := 15) C dX2_addSite_101 (by decide) ?_
      have hf := xsj hf
      subst hf
      refine ww_sub [1, 2, 3, 4, 0] rfl ?_
      exact hk.1 (x5 + x4, σ) rfl
    · have hf := xin q hf
      refine ww_aload_n (pc := 57) C 0 dX2_addSite_57 rfl ?_
      obtain ⟨z6, e5, hf⟩ := xbd hf
      refine gf_X2_18 (pc := 58) C e5 dX2_addSite_58 ?_
      refine ww_iload_n (pc := 61) C 2 dX2_addSite_61 rfl ?_
      refine ww_iload (pc := 62) C 6 dX2_addSite_62 rfl ?_
      refine ww_iadd (pc := 64) C dX2_addSite_64 ?_
      refine ww_aload_n (pc := 65) C 0 dX2_addSite_65 rfl ?_
      obtain ⟨z8, e7, hf⟩ := xbd hf
      refine gf_X2_18 (pc := 66) C e7 dX2_addSite_66 ?_
      refine ww_iload (pc := 69) C 6 dX2_addSite_69 rfl ?_
      obtain ⟨v10, e9, hf⟩ := xbd hf
      refine ww_iald (pc := 71) C e9 dX2_addSite_71 ?_
      refine ww_iload (pc := 72) C 5 dX2_addSite_72 rfl ?_
      refine ww_isub (pc := 74) C dX2_addSite_74 ?_
      obtain ⟨σ12, e11, hf⟩ := xbd hf
      refine ww_iast (pc := 75) C e11 dX2_addSite_75 ?_
      refine ww_aload_n (pc := 76) C 0 dX2_addSite_76 rfl ?_
      obtain ⟨z14, e13, hf⟩ := xbd hf
      refine gf_X2_18 (pc := 77) C e13 dX2_addSite_77 ?_
      refine ww_iload (pc := 80) C 6 dX2_addSite_80 rfl ?_
      refine ww_dup2 (pc := 82) C dX2_addSite_82 rfl rfl ?_
      obtain ⟨v16, e15, hf⟩ := xbd hf
      refine ww_iald (pc := 83) C e15 dX2_addSite_83 ?_
      refine ww_iload (pc := 84) C 5 dX2_addSite_84 rfl ?_
      refine ww_iadd (pc := 86) C dX2_addSite_86 ?_
      obtain ⟨σ18, e17, hf⟩ := xbd hf
      refine ww_iast (pc := 87) C e17 dX2_addSite_87 ?_
      refine ww_iinc (pc := 88) (v := x7 + (1 : Int32)) (lv' := [(7, .int (x7 + (1 : Int32))), (0, .ref (gB G + r0)), (2, .int x2), (3, .int x3), (4, .int x4), (5, .int x5), (6, .int x6)]) C 6 dX2_addSite_88 rfl (congrArg (fun z => x7 + z) (show Int32.ofInt (1) = (1 : Int32) by decide)) (by decide) rfl ?_
      refine ww_goto (pc := 91) (tgt := 35) C dX2_addSite_91 (by decide) ?_
      have hf := xsj hf
      subst hf
      refine ww_sub [1, 2, 3, 4, 5, 6, 0] rfl ?_
      exact hk.1 (x7 + (1 : Int32), σ18) rfl
theorem m_X2_addSite_l15 {r0 : Nat} {x2 : Int32} {x3 : Int32} {x4 : Int32} {a : Int32 × XS} {x : XS} (hf : xloop (f_X2_addSite_b15 r0 x2 x3 x4) a = some x) : xsame a.2 x := by
  refine xloop_ind (P := fun a => xsame a.2 x) (fun a y hf hc he => ?_) hf
  obtain ⟨x5, σ⟩ := a
  have hy : (∀ a' : Int32 × XS, y = .inl a' → xsame σ a'.2) ∧ (∀ b1 : XS, y = .inr b1 → xsame σ b1) := by
    have hm := xsame.rf (σ := σ)
    by_cases q : x3 ≤ x5
    · have hf := xip q hf
      obtain ⟨b0, hg, e9⟩ := xmj hf
      subst e9
      have hf := hg
      refine ⟨fun a' e => xnc2 e, fun b e => ?_⟩
      have h9 := Sum.inr.inj e
      subst h9
      have hf := xsj hf
      subst hf
      exact hm
    · have hf := xin q hf
      obtain ⟨_, e1, hf⟩ := xbd hf
      obtain ⟨v3, e2, hf⟩ := xbd hf
      exact ⟨fun a' e => hm.tr ((m_X2_addSite_l35 (a := (x5, σ)) hf).1 a' e), fun b1 eb1 => hm.tr ((m_X2_addSite_l35 (a := (x5, σ)) hf).2 b1 eb1)⟩
  cases y with
  | inl a' =>
    have h1 := hc a' rfl
    have hm := hy.1 a' rfl
    exact hm.tr (h1)
  | inr b =>
    have h1 := he b rfl
    subst h1
    exact hy.2 _ rfl
theorem s_X2_addSite_l15 {G : XG} (C : XC G cX2_addSite RX2 none 8 1 23) {r0 : Nat} {x2 : Int32} {x3 : Int32} {x4 : Int32} {a : Int32 × XS} {x : XS} (hf : xloop (f_X2_addSite_b15 r0 x2 x3 x4) a = some x) (hk : XEnd G none x) : WW G 15 [(0, .ref (gB G + r0)), (2, .int x2), (3, .int x3), (4, .int x4), (5, .int a.1)] [] a.2 := by
  refine xloop_ind (P := fun a => WW G 15 [(0, .ref (gB G + r0)), (2, .int x2), (3, .int x3), (4, .int x4), (5, .int a.1)] [] a.2) (fun a y hf hc he => ?_) hf
  obtain ⟨x5, σ⟩ := a
  have hk : (∀ a' : Int32 × XS, y = .inl a' → WW G 15 [(0, .ref (gB G + r0)), (2, .int x2), (3, .int x3), (4, .int x4), (5, .int a'.1)] [] a'.2) ∧ (∀ b1 : XS, y = .inr b1 → XEnd G none b1) := ⟨hc, fun b e => by have h9 := he b e; subst h9; exact hk⟩
  refine ww_iload (pc := 15) C 4 dX2_addSite_15 rfl ?_
  refine ww_iload_n (pc := 17) C 2 dX2_addSite_17 rfl ?_
  refine ww_icmp_ge (pc := 18) (tgt := 104) C dX2_addSite_18 (by decide) (fun q => ?_) (fun q => ?_)
  · have hf := xip q hf
    obtain ⟨b0, hg, e9⟩ := xmj hf
    subst e9
    have hf := hg
    have hk := hk.2 _ rfl
    have hf := xsj hf
    subst hf
    exact ww_vret (pc := 104) C hk dX2_addSite_104
  · have hf := xin q hf
    refine ww_iload_n (pc := 21) C 1 dX2_addSite_21 rfl ?_
    refine ww_aload_n (pc := 22) C 0 dX2_addSite_22 rfl ?_
    refine ww_iload (pc := 23) C 4 dX2_addSite_23 rfl ?_
    obtain ⟨_, e1, hf⟩ := xbd hf
    obtain ⟨v3, e2, hf⟩ := xbd hf
    refine ww_callVi (pc := 25) (as := [.int x5]) (st := [.int x2]) C (k_X2_pulledByMates (l := gl G) (E := gE G) (hb := gB G) (σ := σ) e2) rfl (by decide) xc_X2_60 q867 qp61 (xck_spec e1) rfl (by decide) (xst4 (Nat.le_of_ble_eq_true rfl)) xsame.rf.le xsame.rf.lim dX2_addSite_25 ?_
    refine ww_iadd (pc := 28) C dX2_addSite_28 ?_
    refine ww_istore (pc := 29) (lv' := [(6, .int (x2 + v3)), (0, .ref (gB G + r0)), (2, .int x2), (3, .int x3), (4, .int x4), (5, .int x5)]) C dX2_addSite_29 (by decide) rfl ?_
    refine ww_iload (pc := 31) C 5 dX2_addSite_31 rfl ?_
    refine ww_istore (pc := 33) (lv' := [(7, .int x5), (6, .int (x2 + v3)), (0, .ref (gB G + r0)), (2, .int x2), (3, .int x3), (4, .int x4), (5, .int x5)]) C dX2_addSite_33 (by decide) rfl ?_
    refine ww_sub [2, 3, 4, 5, 6, 1, 0] rfl ?_
    exact s_X2_addSite_l35 C (a := (x5, σ)) hf hk
theorem s_X2_addSite_e {G : XG} (C : XC G cX2_addSite RX2 none 8 1 23) {σ : XS} {r0 : Nat} {x1 : Int32} {x2 : Int32} {x : XS} (hf : f_X2_addSite σ r0 x1 x2 = some x) (hk : XEnd G none x) : WW G 0 [(0, .ref (gB G + r0)), (1, .int x1), (2, .int x2)] [] σ := by
  refine ww_iconst (pc := 0) (v := (1 : Int32)) C dX2_addSite_0 (by decide) ?_
  refine ww_iload_n (pc := 1) C 1 dX2_addSite_1 rfl ?_
  refine ww_ishl (pc := 2) C dX2_addSite_2 ?_
  refine ww_istore_n (pc := 3) (lv' := [(3, .int ((1 : Int32) <<< (x1 &&& 31))), (0, .ref (gB G + r0)), (1, .int x1), (2, .int x2)]) C dX2_addSite_3 (by decide) rfl ?_
  refine ww_iconst (pc := 4) (v := (1 : Int32)) C dX2_addSite_4 (by decide) ?_
  refine ww_aload_n (pc := 5) C 1 dX2_addSite_5 rfl ?_
  obtain ⟨v2, e1, hf⟩ := xbd hf
  refine gf_X2_40 (pc := 6) C e1 dX2_addSite_6 ?_
  refine ww_ishl (pc := 9) C dX2_addSite_9 ?_
  refine ww_istore (pc := 10) (lv' := [(4, .int ((1 : Int32) <<< (v2 &&& 31))), (3, .int ((1 : Int32) <<< (x1 &&& 31))), (0, .ref (gB G + r0)), (1, .int x1), (2, .int x2)]) C dX2_addSite_10 (by decide) rfl ?_
  refine ww_iconst (pc := 12) (v := (0 : Int32)) C dX2_addSite_12 (by decide) ?_
  refine ww_istore (pc := 13) (lv' := [(5, .int (0 : Int32)), (4, .int ((1 : Int32) <<< (v2 &&& 31))), (3, .int ((1 : Int32) <<< (x1 &&& 31))), (0, .ref (gB G + r0)), (1, .int x1), (2, .int x2)]) C dX2_addSite_13 (by decide) rfl ?_
  refine ww_sub [3, 5, 2, 1, 0] rfl ?_
  exact s_X2_addSite_l15 C (a := ((0 : Int32), σ)) hf hk
theorem m_X2_addSite {σ : XS} {r0 : Nat} {x1 : Int32} {x2 : Int32} {x : XS} (hf : f_X2_addSite σ r0 x1 x2 = some x) : xsame σ x := by
  have hm := xsame.rf (σ := σ)
  obtain ⟨v2, e1, hf⟩ := xbd hf
  exact hm.tr (m_X2_addSite_l15 (a := ((0 : Int32), σ)) hf)
theorem k_X2_addSite {l : Launch} {E : XD} {hb : Nat} {σ : XS} {r0 : Nat} {x1 : Int32} {x2 : Int32} {x : XS} (h : f_X2_addSite σ r0 x1 x2 = some x) : XM l yX2_addSite cX2_addSite 8 none 1 23 E hb [.ref (hb + r0), .int x1, .int x2] σ none x := by
  refine xm_of (by decide) (Nat.le_of_ble_eq_true rfl) (m_X2_addSite h).le (fun G hG C hl hQ => ?_)
  obtain ⟨rfl, rfl, rfl, hN⟩ := hG
  exact s_X2_addSite_e C h hQ
noncomputable def f_X2_fill_b45 (r0 : Nat) (r1 : Nat) (r2 : Nat) (r3 : Nat) (x4 : Int32) : Int32 × XS → Option ((Int32 × XS) ⊕ (XS)) := fun a => match a with
  | (x5, σ) => if x4 ≤ x5 then ((some σ).map .inr) else (xal σ r3).bind fun v2 => if v2 ≤ x5 then ((some σ).map .inr) else (xck σ r0 2).bind fun _ => (f_X2_seeLowerMates σ r0 r1 r2 x5).bind fun σ5 => (xaI σ5 20 r3 x5).bind fun v7 => (xck σ5 r0 2).bind fun _ => (f_X2_addSite σ5 r0 x5 v7).bind fun σ10 => some (.inl (x5 + (1 : Int32), σ10))
noncomputable def f_X2_fill_j35 (σ : XS) (r0 : Nat) (r1 : Nat) (r2 : Nat) (r3 : Nat) (x4 : Int32) : Option XS := (xgR σ r0 2 4).bind fun z2 => (xsI σ 20 z2 (0 : Int32) (0 : Int32)).bind fun σ4 => xloop (f_X2_fill_b45 r0 r1 r2 r3 x4) ((0 : Int32), σ4)
noncomputable def f_X2_fill_j32 (σ : XS) (r0 : Nat) (r1 : Nat) (r2 : Nat) (r3 : Nat) (x4 : Int32) (t0 : Nat) (t1 : Nat) : Option XS := (xnz t1).bind fun _ => (xpR σ t0 2 4 t1).bind fun σ3 => f_X2_fill_j35 σ3 r0 r1 r2 r3 x4
noncomputable def f_X2_fill (σ : XS) (r0 : Nat) (r1 : Nat) (r2 : Nat) (r3 : Nat) (x4 : Int32) : Option XS := if x4 < 0 then (some σ) else if x4 ≤ (16 : Int32) then ((xgR σ r0 2 4).bind fun z2 => (xal σ z2).bind fun v4 => if ((1 : Int32) <<< (x4 &&& 31)) ≤ v4 then (f_X2_fill_j35 σ r0 r1 r2 r3 x4) else (xnA σ 20 ((1 : Int32) <<< (x4 &&& 31))).bind fun (z6, σ7) => f_X2_fill_j32 σ7 r0 r1 r2 r3 x4 r0 z6) else some σ
theorem m_X2_fill_l45 {r0 : Nat} {r1 : Nat} {r2 : Nat} {r3 : Nat} {x4 : Int32} {a : Int32 × XS} {x : XS} (hf : xloop (f_X2_fill_b45 r0 r1 r2 r3 x4) a = some x) : xext a.2 x := by
  refine xloop_ind (P := fun a => xext a.2 x) (fun a y hf hc he => ?_) hf
  obtain ⟨x5, σ⟩ := a
  have hy : (∀ a' : Int32 × XS, y = .inl a' → xext σ a'.2) ∧ (∀ b1 : XS, y = .inr b1 → xext σ b1) := by
    have hm := xext.rf (σ := σ)
    by_cases q : x4 ≤ x5
    · have hf := xip q hf
      obtain ⟨b0, hg, e9⟩ := xmj hf
      subst e9
      have hf := hg
      refine ⟨fun a' e => xnc2 e, fun b e => ?_⟩
      have h9 := Sum.inr.inj e
      subst h9
      have hf := xsj hf
      subst hf
      exact hm
    · have hf := xin q hf
      obtain ⟨v2, e1, hf⟩ := xbd hf
      by_cases q : v2 ≤ x5
      · have hf := xip q hf
        obtain ⟨b0, hg, e9⟩ := xmj hf
        subst e9
        have hf := hg
        refine ⟨fun a' e => xnc2 e, fun b e => ?_⟩
        have h9 := Sum.inr.inj e
        subst h9
        have hf := xsj hf
        subst hf
        exact hm
      · have hf := xin q hf
        obtain ⟨_, e3, hf⟩ := xbd hf
        obtain ⟨σ5, e4, hf⟩ := xbd hf
        have hm := hm.tr (m_X2_seeLowerMates e4).ext
        obtain ⟨v7, e6, hf⟩ := xbd hf
        obtain ⟨_, e8, hf⟩ := xbd hf
        obtain ⟨σ10, e9, hf⟩ := xbd hf
        have hm := hm.tr (m_X2_addSite e9).ext
        have hf := xsj hf
        subst hf
        exact ⟨fun a' e => (by have h9 := Sum.inl.inj e; subst h9; exact hm), fun b e => xnc1 e⟩
  cases y with
  | inl a' =>
    have h1 := hc a' rfl
    have hm := hy.1 a' rfl
    exact hm.tr (h1)
  | inr b =>
    have h1 := he b rfl
    subst h1
    exact hy.2 _ rfl
theorem s_X2_fill_l45 {G : XG} (C : XC G cX2_fill RX2 none 6 2 50) {r0 : Nat} {r1 : Nat} {r2 : Nat} {r3 : Nat} {x4 : Int32} {a : Int32 × XS} {x : XS} (hf : xloop (f_X2_fill_b45 r0 r1 r2 r3 x4) a = some x) (hk : XEnd G none x ∧ XUp G x) : WW G 45 [(0, .ref (gB G + r0)), (1, .ref (gB G + r1)), (2, .ref (gB G + r2)), (3, .ref (gB G + r3)), (4, .int x4), (5, .int a.1)] [] a.2 := by
  refine xloop_ind (P := fun a => WW G 45 [(0, .ref (gB G + r0)), (1, .ref (gB G + r1)), (2, .ref (gB G + r2)), (3, .ref (gB G + r3)), (4, .int x4), (5, .int a.1)] [] a.2) (fun a y hf hc he => ?_) hf
  obtain ⟨x5, σ⟩ := a
  have hk : (∀ a' : Int32 × XS, y = .inl a' → WW G 45 [(0, .ref (gB G + r0)), (1, .ref (gB G + r1)), (2, .ref (gB G + r2)), (3, .ref (gB G + r3)), (4, .int x4), (5, .int a'.1)] [] a'.2) ∧ (∀ b1 : XS, y = .inr b1 → XEnd G none b1 ∧ XUp G b1) := ⟨hc, fun b e => by have h9 := he b e; subst h9; exact hk⟩
  refine ww_iload (pc := 45) C 5 dX2_fill_45 rfl ?_
  refine ww_iload (pc := 47) C 4 dX2_fill_47 rfl ?_
  refine ww_icmp_ge (pc := 49) (tgt := 83) C dX2_fill_49 (by decide) (fun q => ?_) (fun q => ?_)
  · have hf := xip q hf
    obtain ⟨b0, hg, e9⟩ := xmj hf
    subst e9
    have hf := hg
    have hk := hk.2 _ rfl
    have hf := xsj hf
    subst hf
    exact ww_vret (pc := 83) C hk.1 dX2_fill_83
  · have hf := xin q hf
    refine ww_iload (pc := 52) C 5 dX2_fill_52 rfl ?_
    refine ww_aload_n (pc := 54) C 3 dX2_fill_54 rfl ?_
    obtain ⟨v2, e1, hf⟩ := xbd hf
    refine ww_alen (pc := 55) C e1 dX2_fill_55 ?_
    refine ww_icmp_ge (pc := 56) (tgt := 83) C dX2_fill_56 (by decide) (fun q => ?_) (fun q => ?_)
    · have hf := xip q hf
      obtain ⟨b0, hg, e9⟩ := xmj hf
      subst e9
      have hf := hg
      have hk := hk.2 _ rfl
      have hf := xsj hf
      subst hf
      exact ww_vret (pc := 83) C hk.1 dX2_fill_83
    · have hf := xin q hf
      refine ww_aload_n (pc := 59) C 0 dX2_fill_59 rfl ?_
      refine ww_aload_n (pc := 60) C 1 dX2_fill_60 rfl ?_
      refine ww_aload_n (pc := 61) C 2 dX2_fill_61 rfl ?_
      refine ww_iload (pc := 62) C 5 dX2_fill_62 rfl ?_
      obtain ⟨_, e3, hf⟩ := xbd hf
      obtain ⟨σ5, e4, hf⟩ := xbd hf
      refine ww_callVv (pc := 64) (as := [.ref (gB G + r1), .ref (gB G + r2), .int x5]) (st := []) C (k_X2_seeLowerMates (l := gl G) (E := gE G) (hb := gB G) (σ := σ) e4) rfl (by decide) xc_X2_29 q858 qp59 (xck_spec e3) rfl (by decide) (xst4 (Nat.le_of_ble_eq_true rfl)) (m_X2_seeLowerMates e4).le (m_X2_seeLowerMates e4).lim dX2_fill_64 ?_
      refine ww_aload_n (pc := 67) C 0 dX2_fill_67 rfl ?_
      refine ww_iload (pc := 68) C 5 dX2_fill_68 rfl ?_
      refine ww_aload_n (pc := 70) C 3 dX2_fill_70 rfl ?_
      refine ww_iload (pc := 71) C 5 dX2_fill_71 rfl ?_
      obtain ⟨v7, e6, hf⟩ := xbd hf
      refine ww_iald (pc := 73) C e6 dX2_fill_73 ?_
      obtain ⟨_, e8, hf⟩ := xbd hf
      obtain ⟨σ10, e9, hf⟩ := xbd hf
      refine ww_callVv (pc := 74) (as := [.int x5, .int v7]) (st := []) C (k_X2_addSite (l := gl G) (E := gE G) (hb := gB G) (σ := σ5) e9) rfl (by decide) xc_X2_33 q863 qp60 (xck_spec e8) rfl (by decide) (xst4 (Nat.le_of_ble_eq_true rfl)) (m_X2_addSite e9).le (m_X2_addSite e9).lim dX2_fill_74 ?_
      refine ww_iinc (pc := 77) (v := x5 + (1 : Int32)) (lv' := [(5, .int (x5 + (1 : Int32))), (0, .ref (gB G + r0)), (1, .ref (gB G + r1)), (2, .ref (gB G + r2)), (3, .ref (gB G + r3)), (4, .int x4)]) C 5 dX2_fill_77 rfl (congrArg (fun z => x5 + z) (show Int32.ofInt (1) = (1 : Int32) by decide)) (by decide) rfl ?_
      refine ww_goto (pc := 80) (tgt := 45) C dX2_fill_80 (by decide) ?_
      have hf := xsj hf
      subst hf
      refine ww_sub [1, 2, 3, 4, 5, 0] rfl ?_
      exact hk.1 (x5 + (1 : Int32), σ10) rfl
theorem s_X2_fill_j35 {G : XG} (C : XC G cX2_fill RX2 none 6 2 50) {σ : XS} {r0 : Nat} {r1 : Nat} {r2 : Nat} {r3 : Nat} {x4 : Int32} {x : XS} (hf : f_X2_fill_j35 σ r0 r1 r2 r3 x4 = some x) (hk : XEnd G none x ∧ XUp G x) : WW G 35 [(0, .ref (gB G + r0)), (1, .ref (gB G + r1)), (2, .ref (gB G + r2)), (3, .ref (gB G + r3)), (4, .int x4)] [] σ := by
  refine ww_aload_n (pc := 35) C 0 dX2_fill_35 rfl ?_
  obtain ⟨z2, e1, hf⟩ := xbd hf
  refine gf_X2_18 (pc := 36) C e1 dX2_fill_36 ?_
  refine ww_iconst (pc := 39) (v := (0 : Int32)) C dX2_fill_39 (by decide) ?_
  refine ww_iconst (pc := 40) (v := (0 : Int32)) C dX2_fill_40 (by decide) ?_
  obtain ⟨σ4, e3, hf⟩ := xbd hf
  refine ww_iast (pc := 41) C e3 dX2_fill_41 ?_
  refine ww_iconst (pc := 42) (v := (0 : Int32)) C dX2_fill_42 (by decide) ?_
  refine ww_istore (pc := 43) (lv' := [(5, .int (0 : Int32)), (0, .ref (gB G + r0)), (1, .ref (gB G + r1)), (2, .ref (gB G + r2)), (3, .ref (gB G + r3)), (4, .int x4)]) C dX2_fill_43 (by decide) rfl ?_
  refine ww_sub [1, 2, 3, 4, 5, 0] rfl ?_
  exact s_X2_fill_l45 C (a := ((0 : Int32), σ4)) hf hk
theorem m_X2_fill_j35 {σ : XS} {r0 : Nat} {r1 : Nat} {r2 : Nat} {r3 : Nat} {x4 : Int32} {x : XS} (hf : f_X2_fill_j35 σ r0 r1 r2 r3 x4 = some x) : xext σ x := by
  have hm := xext.rf (σ := σ)
  obtain ⟨z2, e1, hf⟩ := xbd hf
  obtain ⟨σ4, e3, hf⟩ := xbd hf
  have hm := hm.tr (xsI_same e3).ext
  exact hm.tr (m_X2_fill_l45 (a := ((0 : Int32), σ4)) hf)
theorem s_X2_fill_j32 {G : XG} (C : XC G cX2_fill RX2 none 6 2 50) {σ : XS} {r0 : Nat} {r1 : Nat} {r2 : Nat} {r3 : Nat} {x4 : Int32} {t0 : Nat} {t1 : Nat} {x : XS} (hf : f_X2_fill_j32 σ r0 r1 r2 r3 x4 t0 t1 = some x) (hk : XEnd G none x ∧ XUp G x) : WW G 32 [(0, .ref (gB G + r0)), (1, .ref (gB G + r1)), (2, .ref (gB G + r2)), (3, .ref (gB G + r3)), (4, .int x4)] [.ref (gB G + t1), .ref (gB G + t0)] σ := by
  obtain ⟨_, e1, hf⟩ := xbd hf
  obtain ⟨σ3, e2, hf⟩ := xbd hf
  refine pf_X2_18 (pc := 32) C (xnz_spec e1) e2 dX2_fill_32 ?_
  refine ww_sub [0, 1, 2, 3, 4] rfl ?_
  exact s_X2_fill_j35 C hf hk
theorem m_X2_fill_j32 {σ : XS} {r0 : Nat} {r1 : Nat} {r2 : Nat} {r3 : Nat} {x4 : Int32} {t0 : Nat} {t1 : Nat} {x : XS} (hf : f_X2_fill_j32 σ r0 r1 r2 r3 x4 t0 t1 = some x) : xext σ x := by
  have hm := xext.rf (σ := σ)
  obtain ⟨_, e1, hf⟩ := xbd hf
  obtain ⟨σ3, e2, hf⟩ := xbd hf
  have hm := hm.tr (xpR_same e2).ext
  exact hm.tr (m_X2_fill_j35 hf)
theorem s_X2_fill_e {G : XG} (C : XC G cX2_fill RX2 none 6 2 50) {σ : XS} {r0 : Nat} {r1 : Nat} {r2 : Nat} {r3 : Nat} {x4 : Int32} {x : XS} (hf : f_X2_fill σ r0 r1 r2 r3 x4 = some x) (hk : XEnd G none x ∧ XUp G x) : WW G 0 [(0, .ref (gB G + r0)), (1, .ref (gB G + r1)), (2, .ref (gB G + r2)), (3, .ref (gB G + r3)), (4, .int x4)] [] σ := by
  refine ww_iload (pc := 0) C 4 dX2_fill_0 rfl ?_
  refine ww_if_lt (pc := 2) (tgt := 12) C dX2_fill_2 (by decide) (fun q => ?_) (fun q => ?_)
  · have hf := xip q hf
    have hf := xsj hf
    subst hf
    exact ww_vret (pc := 12) C hk.1 dX2_fill_12
  · have hf := xin q hf
    refine ww_iload (pc := 5) C 4 dX2_fill_5 rfl ?_
    refine ww_bipush (pc := 7) (v := (16 : Int32)) C dX2_fill_7 (by decide) ?_
    refine ww_icmp_le (pc := 9) (tgt := 13) C dX2_fill_9 (by decide) (fun q => ?_) (fun q => ?_)
    · have hf := xip q hf
      refine ww_aload_n (pc := 13) C 0 dX2_fill_13 rfl ?_
      obtain ⟨z2, e1, hf⟩ := xbd hf
      refine gf_X2_18 (pc := 14) C e1 dX2_fill_14 ?_
      obtain ⟨v4, e3, hf⟩ := xbd hf
      refine ww_alen (pc := 17) C e3 dX2_fill_17 ?_
      refine ww_iconst (pc := 18) (v := (1 : Int32)) C dX2_fill_18 (by decide) ?_
      refine ww_iload (pc := 19) C 4 dX2_fill_19 rfl ?_
      refine ww_ishl (pc := 21) C dX2_fill_21 ?_
      refine ww_icmp_ge (pc := 22) (tgt := 35) C dX2_fill_22 (by decide) (fun q => ?_) (fun q => ?_)
      · have hf := xip q hf
        refine ww_sub [0, 1, 2, 3, 4] rfl ?_
        exact s_X2_fill_j35 C hf hk
      · have hf := xin q hf
        refine ww_aload_n (pc := 25) C 0 dX2_fill_25 rfl ?_
        refine ww_iconst (pc := 26) (v := (1 : Int32)) C dX2_fill_26 (by decide) ?_
        refine ww_iload (pc := 27) C 4 dX2_fill_27 rfl ?_
        refine ww_ishl (pc := 29) C dX2_fill_29 ?_
        obtain ⟨⟨z6, σ7⟩, e5, hf⟩ := xbd hf
        dsimp only at hf
        refine ww_newI (pc := 30) C q77 e5 (fun q => by have hm9 := m_X2_fill_j32 hf; exact XLim.mid q (xnA_ext e5) hm9 hk.2) dX2_fill_30 ?_
        refine ww_sub [0, 1, 2, 3, 4] rfl ?_
        exact s_X2_fill_j32 C hf hk
    · have hf := xin q hf
      have hf := xsj hf
      subst hf
      exact ww_vret (pc := 12) C hk.1 dX2_fill_12
theorem m_X2_fill {σ : XS} {r0 : Nat} {r1 : Nat} {r2 : Nat} {r3 : Nat} {x4 : Int32} {x : XS} (hf : f_X2_fill σ r0 r1 r2 r3 x4 = some x) : xext σ x := by
  have hm := xext.rf (σ := σ)
  by_cases q : x4 < 0
  · have hf := xip q hf
    have hf := xsj hf
    subst hf
    exact hm
  · have hf := xin q hf
    by_cases q : x4 ≤ (16 : Int32)
    · have hf := xip q hf
      obtain ⟨z2, e1, hf⟩ := xbd hf
      obtain ⟨v4, e3, hf⟩ := xbd hf
      by_cases q : ((1 : Int32) <<< (x4 &&& 31)) ≤ v4
      · have hf := xip q hf
        exact hm.tr (m_X2_fill_j35 hf)
      · have hf := xin q hf
        obtain ⟨⟨z6, σ7⟩, e5, hf⟩ := xbd hf
        dsimp only at hf
        have hm := hm.tr (xnA_ext e5)
        exact hm.tr (m_X2_fill_j32 hf)
    · have hf := xin q hf
      have hf := xsj hf
      subst hf
      exact hm
theorem k_X2_fill {l : Launch} {E : XD} {hb : Nat} {σ : XS} {r0 : Nat} {r1 : Nat} {r2 : Nat} {r3 : Nat} {x4 : Int32} {x : XS} (h : f_X2_fill σ r0 r1 r2 r3 x4 = some x) : XM l yX2_fill cX2_fill 6 none 2 50 E hb [.ref (hb + r0), .ref (hb + r1), .ref (hb + r2), .ref (hb + r3), .int x4] σ none x := by
  refine xm_of (by decide) (Nat.le_of_ble_eq_true rfl) (m_X2_fill h).1 (fun G hG C hl hQ => ?_)
  obtain ⟨rfl, rfl, rfl, hN⟩ := hG
  exact s_X2_fill_e C h ⟨hQ, hl.2⟩
noncomputable def f_X3_states (σ : XS) (r0 : Nat) : Option Int32 := (xgI σ r0 3 7).bind fun v2 => if v2 ≤ 0 then (some (0 : Int32)) else (xgI σ r0 3 7).bind fun v4 => some ((1 : Int32) <<< (v4 &&& 31))
theorem s_X3_states_e {G : XG} (C : XC G cX3_states RX3 (some .int) 1 0 0) {σ : XS} {r0 : Nat} {x : Int32} (hf : f_X3_states σ r0 = some x) (hk : XEnd G (some (.int x)) σ) : WW G 0 [(0, .ref (gB G + r0))] [] σ := by
  refine ww_aload_n (pc := 0) C 0 dX3_states_0 rfl ?_
  obtain ⟨v2, e1, hf⟩ := xbd hf
  refine gf_X3_40 (pc := 1) C e1 dX3_states_1 ?_
  refine ww_if_le (pc := 4) (tgt := 16) C dX3_states_4 (by decide) (fun q => ?_) (fun q => ?_)
  · have hf := xip q hf
    refine ww_iconst (pc := 16) (v := (0 : Int32)) C dX3_states_16 (by decide) ?_
    have hf := xsj hf
    subst hf
    exact ww_iret (pc := 17) C hk dX3_states_17
  · have hf := xin q hf
    refine ww_iconst (pc := 7) (v := (1 : Int32)) C dX3_states_7 (by decide) ?_
    refine ww_aload_n (pc := 8) C 0 dX3_states_8 rfl ?_
    obtain ⟨v4, e3, hf⟩ := xbd hf
    refine gf_X3_40 (pc := 9) C e3 dX3_states_9 ?_
    refine ww_ishl (pc := 12) C dX3_states_12 ?_
    refine ww_goto (pc := 13) (tgt := 17) C dX3_states_13 (by decide) ?_
    have hf := xsj hf
    subst hf
    exact ww_iret (pc := 17) C hk dX3_states_17
theorem k_X3_states {l : Launch} {E : XD} {hb : Nat} {σ : XS} {r0 : Nat} {x : Int32} (h : f_X3_states σ r0 = some x) : XM l yX3_states cX3_states 1 (some .int) 0 0 E hb [.ref (hb + r0)] σ (some (.int x)) σ := by
  refine xm_of (by decide) (Nat.le_of_ble_eq_true rfl) ⟨Nat.le_refl _, Nat.le_refl _⟩ (fun G hG C hl hQ => ?_)
  obtain ⟨rfl, rfl, rfl, hN⟩ := hG
  exact s_X3_states_e C h hQ
noncomputable def f_X2_of (σ : XS) (r0 : Nat) (x1 : Int32) : Option Int32 := if x1 < 0 then (some (0 : Int32)) else (xgR σ r0 2 4).bind fun z2 => (xal σ z2).bind fun v4 => if v4 ≤ x1 then (some (0 : Int32)) else (xgR σ r0 2 4).bind fun z6 => (xaI σ 20 z6 x1).bind fun v8 => some v8
theorem s_X2_of_e {G : XG} (C : XC G cX2_of RX2 (some .int) 2 0 0) {σ : XS} {r0 : Nat} {x1 : Int32} {x : Int32} (hf : f_X2_of σ r0 x1 = some x) (hk : XEnd G (some (.int x)) σ) : WW G 0 [(0, .ref (gB G + r0)), (1, .int x1)] [] σ := by
  refine ww_iload_n (pc := 0) C 1 dX2_of_0 rfl ?_
  refine ww_if_lt (pc := 1) (tgt := 22) C dX2_of_1 (by decide) (fun q => ?_) (fun q => ?_)
  · have hf := xip q hf
    refine ww_iconst (pc := 22) (v := (0 : Int32)) C dX2_of_22 (by decide) ?_
    have hf := xsj hf
    subst hf
    exact ww_iret (pc := 23) C hk dX2_of_23
  · have hf := xin q hf
    refine ww_iload_n (pc := 4) C 1 dX2_of_4 rfl ?_
    refine ww_aload_n (pc := 5) C 0 dX2_of_5 rfl ?_
    obtain ⟨z2, e1, hf⟩ := xbd hf
    refine gf_X2_18 (pc := 6) C e1 dX2_of_6 ?_
    obtain ⟨v4, e3, hf⟩ := xbd hf
    refine ww_alen (pc := 9) C e3 dX2_of_9 ?_
    refine ww_icmp_ge (pc := 10) (tgt := 22) C dX2_of_10 (by decide) (fun q => ?_) (fun q => ?_)
    · have hf := xip q hf
      refine ww_iconst (pc := 22) (v := (0 : Int32)) C dX2_of_22 (by decide) ?_
      have hf := xsj hf
      subst hf
      exact ww_iret (pc := 23) C hk dX2_of_23
    · have hf := xin q hf
      refine ww_aload_n (pc := 13) C 0 dX2_of_13 rfl ?_
      obtain ⟨z6, e5, hf⟩ := xbd hf
      refine gf_X2_18 (pc := 14) C e5 dX2_of_14 ?_
      refine ww_iload_n (pc := 17) C 1 dX2_of_17 rfl ?_
      obtain ⟨v8, e7, hf⟩ := xbd hf
      refine ww_iald (pc := 18) C e7 dX2_of_18 ?_
      refine ww_goto (pc := 19) (tgt := 23) C dX2_of_19 (by decide) ?_
      have hf := xsj hf
      subst hf
      exact ww_iret (pc := 23) C hk dX2_of_23
theorem k_X2_of {l : Launch} {E : XD} {hb : Nat} {σ : XS} {r0 : Nat} {x1 : Int32} {x : Int32} (h : f_X2_of σ r0 x1 = some x) : XM l yX2_of cX2_of 2 (some .int) 0 0 E hb [.ref (hb + r0), .int x1] σ (some (.int x)) σ := by
  refine xm_of (by decide) (Nat.le_of_ble_eq_true rfl) ⟨Nat.le_refl _, Nat.le_refl _⟩ (fun G hG C hl hQ => ?_)
  obtain ⟨rfl, rfl, rfl, hN⟩ := hG
  exact s_X2_of_e C h hQ
noncomputable def f_X6_allows (σ : XS) (r0 : Nat) (x1 : Int32) : Option Int32 := (xgI σ r0 6 2).bind fun v2 => (xgI σ r0 6 3).bind fun v4 => if (x1 &&& v2) = v4 then (some (1 : Int32)) else some (0 : Int32)
theorem s_X6_allows_e {G : XG} (C : XC G cX6_allows RX6 (some .boolean) 2 0 0) {σ : XS} {r0 : Nat} {x1 : Int32} {x : Int32} (hf : f_X6_allows σ r0 x1 = some x) (hk : XEnd G (some (.int x)) σ) : WW G 0 [(0, .ref (gB G + r0)), (1, .int x1)] [] σ := by
  refine ww_iload_n (pc := 0) C 1 dX6_allows_0 rfl ?_
  refine ww_aload_n (pc := 1) C 0 dX6_allows_1 rfl ?_
  obtain ⟨v2, e1, hf⟩ := xbd hf
  refine gf_X6_24 (pc := 2) C e1 dX6_allows_2 ?_
  refine ww_iand (pc := 5) C dX6_allows_5 ?_
  refine ww_aload_n (pc := 6) C 0 dX6_allows_6 rfl ?_
  obtain ⟨v4, e3, hf⟩ := xbd hf
  refine gf_X6_28 (pc := 7) C e3 dX6_allows_7 ?_
  refine ww_icmp_ne (pc := 10) (tgt := 17) C dX6_allows_10 (by decide) (fun q => ?_) (fun q => ?_)
  · have hf := xin q hf
    refine ww_iconst (pc := 17) (v := (0 : Int32)) C dX6_allows_17 (by decide) ?_
    have hf := xsj hf
    subst hf
    exact ww_zret (pc := 18) C rfl hk dX6_allows_18
  · have hf := xip q hf
    refine ww_iconst (pc := 13) (v := (1 : Int32)) C dX6_allows_13 (by decide) ?_
    refine ww_goto (pc := 14) (tgt := 18) C dX6_allows_14 (by decide) ?_
    have hf := xsj hf
    subst hf
    exact ww_zret (pc := 18) C rfl hk dX6_allows_18
theorem k_X6_allows {l : Launch} {E : XD} {hb : Nat} {σ : XS} {r0 : Nat} {x1 : Int32} {x : Int32} (h : f_X6_allows σ r0 x1 = some x) : XM l yX6_allows cX6_allows 2 (some .boolean) 0 0 E hb [.ref (hb + r0), .int x1] σ (some (.int x)) σ := by
  refine xm_of (by decide) (Nat.le_of_ble_eq_true rfl) ⟨Nat.le_refl _, Nat.le_refl _⟩ (fun G hG C hl hQ => ?_)
  obtain ⟨rfl, rfl, rfl, hN⟩ := hG
  exact s_X6_allows_e C h hQ
noncomputable def f_X0_gather_b98 (r0 : Nat) (r2 : Nat) (r3 : Nat) (x4 : Int32) (x5 : Int32) : Int32 × XS → Option ((Int32 × XS) ⊕ (XS)) := fun a => match a with
  | (x6, σ) => if x5 ≤ x6 then ((some σ).map .inr) else (xck σ r3 2).bind fun _ => (f_X2_of σ r3 x6).bind fun v3 => (xck σ r2 6).bind fun _ => (f_X6_allows σ r2 x6).bind fun v6 => if v6 = 0 then (some (.inl (x6 + (1 : Int32), σ))) else if ((x4 + v3) / (2 : Int32)) < 0 then (some (.inl (x6 + (1 : Int32), σ))) else (xgR σ r0 0 0).bind fun z8 => (xal σ z8).bind fun v10 => if v10 ≤ ((x4 + v3) / (2 : Int32)) then (some (.inl (x6 + (1 : Int32), σ))) else (xgR σ r0 0 0).bind fun z12 => (xaI σ 20 z12 ((x4 + v3) / (2 : Int32))).bind fun v14 => (xsI σ 20 z12 ((x4 + v3) / (2 : Int32)) (v14 + (1 : Int32))).bind fun σ16 => some (.inl (x6 + (1 : Int32), σ16))
noncomputable def f_X0_gather_j81 (σ : XS) (r0 : Nat) (r1 : Nat) (r2 : Nat) (r3 : Nat) (x4 : Int32) : Option XS := (xgR σ r0 0 0).bind fun z2 => (f_J7_fill_53178 σ z2 (0 : Int32)).bind fun σ4 => (xck σ4 r1 3).bind fun _ => (f_X3_states σ4 r1).bind fun v7 => xloop (f_X0_gather_b98 r0 r2 r3 x4 v7) ((0 : Int32), σ4)
noncomputable def f_X0_gather_j42 (σ : XS) (r0 : Nat) (r1 : Nat) (r2 : Nat) (r3 : Nat) (x4 : Int32) (x5 : Int32) (t0 : Nat) (t1 : Int32) (t2 : Int32) : Option ((Int32 × Int32 × XS) ⊕ (XS)) := (xsI σ 20 t0 t1 t2).bind fun σ2 => (xgR σ2 r0 0 1).bind fun z4 => (xaI σ2 20 z4 x5).bind fun v6 => some (.inl (x4 + (xabs v6), x5 + (1 : Int32), σ2))
noncomputable def f_X0_gather_b6 (r0 : Nat) (r1 : Nat) (r2 : Nat) (r3 : Nat) : Int32 × Int32 × XS → Option ((Int32 × Int32 × XS) ⊕ (XS)) := fun a => match a with
  | (x4, x5, σ) => if (32 : Int32) ≤ x5 then (((xgR σ r0 0 1).bind fun z2 => (xgR σ r0 0 2).bind fun z4 => (xgI σ r1 3 7).bind fun v6 => (xck σ r3 2).bind fun _ => (f_X2_fill σ r3 r1 z2 z4 v6).bind fun σ9 => f_X0_gather_j81 σ9 r0 r1 r2 r3 x4).map .inr) else (xgR σ r0 0 1).bind fun z2 => (xck σ r1 3).bind fun _ => (f_X3_endAt σ r1 x5).bind fun v5 => if v5 = (-1 : Int32) then (f_X0_gather_j42 σ r0 r1 r2 r3 x4 x5 z2 x5 (0 : Int32)) else (xck σ r2 6).bind fun _ => (f_X6_bondAt σ r2 x5).bind fun v8 => (f_J6_signum_0f7a4 v8).bind fun v10 => f_X0_gather_j42 σ r0 r1 r2 r3 x4 x5 z2 x5 v10
noncomputable def f_X0_gather (σ : XS) (r0 : Nat) (r1 : Nat) (r2 : Nat) (r3 : Nat) : Option XS := xloop (f_X0_gather_b6 r0 r1 r2 r3) ((0 : Int32), (0 : Int32), σ)
theorem m_X0_gather_l98 {r0 : Nat} {r2 : Nat} {r3 : Nat} {x4 : Int32} {x5 : Int32} {a : Int32 × XS} {x : XS} (hf : xloop (f_X0_gather_b98 r0 r2 r3 x4 x5) a = some x) : xext a.2 x := by
  refine xloop_ind (P := fun a => xext a.2 x) (fun a y hf hc he => ?_) hf
  obtain ⟨x6, σ⟩ := a
  have hy : (∀ a' : Int32 × XS, y = .inl a' → xext σ a'.2) ∧ (∀ b1 : XS, y = .inr b1 → xext σ b1) := by
    have hm := xext.rf (σ := σ)
    by_cases q : x5 ≤ x6
    · have hf := xip q hf
      obtain ⟨b0, hg, e9⟩ := xmj hf
      subst e9
      have hf := hg
      refine ⟨fun a' e => xnc2 e, fun b e => ?_⟩
      have h9 := Sum.inr.inj e
      subst h9
      have hf := xsj hf
      subst hf
      exact hm
    · have hf := xin q hf
      obtain ⟨_, e1, hf⟩ := xbd hf
      obtain ⟨v3, e2, hf⟩ := xbd hf
      obtain ⟨_, e4, hf⟩ := xbd hf
      obtain ⟨v6, e5, hf⟩ := xbd hf
      by_cases q : v6 = 0
      · have hf := xip q hf
        have hf := xsj hf
        subst hf
        exact ⟨fun a' e => (by have h9 := Sum.inl.inj e; subst h9; exact hm), fun b e => xnc1 e⟩
      · have hf := xin q hf
        by_cases q : ((x4 + v3) / (2 : Int32)) < 0
        · have hf := xip q hf
          have hf := xsj hf
          subst hf
          exact ⟨fun a' e => (by have h9 := Sum.inl.inj e; subst h9; exact hm), fun b e => xnc1 e⟩
        · have hf := xin q hf
          obtain ⟨z8, e7, hf⟩ := xbd hf
          obtain ⟨v10, e9, hf⟩ := xbd hf
          by_cases q : v10 ≤ ((x4 + v3) / (2 : Int32))
          · have hf := xip q hf
            have hf := xsj hf
            subst hf
            exact ⟨fun a' e => (by have h9 := Sum.inl.inj e; subst h9; exact hm), fun b e => xnc1 e⟩
          · have hf := xin q hf
            obtain ⟨z12, e11, hf⟩ := xbd hf
            obtain ⟨v14, e13, hf⟩ := xbd hf
            obtain ⟨σ16, e15, hf⟩ := xbd hf
            have hm := hm.tr (xsI_same e15).ext
            have hf := xsj hf
            subst hf
            exact ⟨fun a' e => (by have h9 := Sum.inl.inj e; subst h9; exact hm), fun b e => xnc1 e⟩
  cases y with
  | inl a' =>
    have h1 := hc a' rfl
    have hm := hy.1 a' rfl
    exact hm.tr (h1)
  | inr b =>
    have h1 := he b rfl
    subst h1
    exact hy.2 _ rfl
theorem s_X0_gather_l98 {G : XG} (C : XC G cX0_gather RX0 none 8 3 75) {r0 : Nat} {r2 : Nat} {r3 : Nat} {x4 : Int32} {x5 : Int32} {a : Int32 × XS} {x : XS} (hf : xloop (f_X0_gather_b98 r0 r2 r3 x4 x5) a = some x) (hk : XEnd G none x ∧ XUp G x) : WW G 98 [(0, .ref (gB G + r0)), (2, .ref (gB G + r2)), (3, .ref (gB G + r3)), (4, .int x4), (5, .int x5), (6, .int a.1)] [] a.2 := by
  refine xloop_ind (P := fun a => WW G 98 [(0, .ref (gB G + r0)), (2, .ref (gB G + r2)), (3, .ref (gB G + r3)), (4, .int x4), (5, .int x5), (6, .int a.1)] [] a.2) (fun a y hf hc he => ?_) hf
  obtain ⟨x6, σ⟩ := a
  have hk : (∀ a' : Int32 × XS, y = .inl a' → WW G 98 [(0, .ref (gB G + r0)), (2, .ref (gB G + r2)), (3, .ref (gB G + r3)), (4, .int x4), (5, .int x5), (6, .int a'.1)] [] a'.2) ∧ (∀ b1 : XS, y = .inr b1 → XEnd G none b1 ∧ XUp G b1) := ⟨hc, fun b e => by have h9 := he b e; subst h9; exact hk⟩
  refine ww_iload (pc := 98) C 5 dX0_gather_98 rfl ?_
  refine ww_iload (pc := 100) C 4 dX0_gather_100 rfl ?_
  refine ww_icmp_ge (pc := 102) (tgt := 159) C dX0_gather_102 (by decide) (fun q => ?_) (fun q => ?_)
  · have hf := xip q hf
    obtain ⟨b0, hg, e9⟩ := xmj hf
    subst e9
    have hf := hg
    have hk := hk.2 _ rfl
    have hf := xsj hf
    subst hf
    exact ww_vret (pc := 159) C hk.1 dX0_gather_159
  · have hf := xin q hf
    refine ww_iload (pc := 105) C 3 dX0_gather_105 rfl ?_
    refine ww_aload_n (pc := 107) C 2 dX0_gather_107 rfl ?_
    refine ww_iload (pc := 108) C 5 dX0_gather_108 rfl ?_
    obtain ⟨_, e1, hf⟩ := xbd hf
    obtain ⟨v3, e2, hf⟩ := xbd hf
    refine ww_callVi (pc := 110) (as := [.int x6]) (st := [.int x4]) C (k_X2_of (l := gl G) (E := gE G) (hb := gB G) (σ := σ) e2) rfl (by decide) xc_X0_64 q880 qp64 (xck_spec e1) rfl (by decide) (xst4 (Nat.le_of_ble_eq_true rfl)) xsame.rf.le xsame.rf.lim dX0_gather_110 ?_
    refine ww_iadd (pc := 113) C dX0_gather_113 ?_
    refine ww_iconst (pc := 114) (v := (2 : Int32)) C dX0_gather_114 (by decide) ?_
    refine ww_idiv (pc := 115) C dX0_gather_115 (by decide) ?_
    refine ww_istore (pc := 116) (lv' := [(7, .int ((x4 + v3) / (2 : Int32))), (0, .ref (gB G + r0)), (2, .ref (gB G + r2)), (3, .ref (gB G + r3)), (4, .int x4), (5, .int x5), (6, .int x6)]) C dX0_gather_116 (by decide) rfl ?_
    refine ww_aload_n (pc := 118) C 2 dX0_gather_118 rfl ?_
    refine ww_iload (pc := 119) C 6 dX0_gather_119 rfl ?_
    obtain ⟨_, e4, hf⟩ := xbd hf
    obtain ⟨v6, e5, hf⟩ := xbd hf
    refine ww_callVi (pc := 121) (as := [.int x6]) (st := []) C (k_X6_allows (l := gl G) (E := gE G) (hb := gB G) (σ := σ) e5) rfl (by decide) xc_X0_67 q890 qp65 (xck_spec e4) rfl (by decide) (xst4 (Nat.le_of_ble_eq_true rfl)) xsame.rf.le xsame.rf.lim dX0_gather_121 ?_
    refine ww_if_eq (pc := 124) (tgt := 153) C dX0_gather_124 (by decide) (fun q => ?_) (fun q => ?_)
    · have hf := xip q hf
      refine ww_iinc (pc := 153) (v := x6 + (1 : Int32)) (lv' := [(6, .int (x6 + (1 : Int32))), (7, .int ((x4 + v3) / (2 : Int32))), (0, .ref (gB G + r0)), (2, .ref (gB G + r2)), (3, .ref (gB G + r3)), (4, .int x4), (5, .int x5)]) C 6 dX0_gather_153 rfl (congrArg (fun z => x6 + z) (show Int32.ofInt (1) = (1 : Int32) by decide)) (by decide) rfl ?_
      refine ww_goto (pc := 156) (tgt := 98) C dX0_gather_156 (by decide) ?_
      have hf := xsj hf
      subst hf
      refine ww_sub [2, 3, 4, 5, 6, 0] rfl ?_
      exact hk.1 (x6 + (1 : Int32), σ) rfl
    · have hf := xin q hf
      refine ww_iload (pc := 127) C 0 dX0_gather_127 rfl ?_
      refine ww_if_lt (pc := 129) (tgt := 153) C dX0_gather_129 (by decide) (fun q => ?_) (fun q => ?_)
      · have hf := xip q hf
        refine ww_iinc (pc := 153) (v := x6 + (1 : Int32)) (lv' := [(6, .int (x6 + (1 : Int32))), (7, .int ((x4 + v3) / (2 : Int32))), (0, .ref (gB G + r0)), (2, .ref (gB G + r2)), (3, .ref (gB G + r3)), (4, .int x4), (5, .int x5)]) C 6 dX0_gather_153 rfl (congrArg (fun z => x6 + z) (show Int32.ofInt (1) = (1 : Int32) by decide)) (by decide) rfl ?_
        refine ww_goto (pc := 156) (tgt := 98) C dX0_gather_156 (by decide) ?_
        have hf := xsj hf
        subst hf
        refine ww_sub [2, 3, 4, 5, 6, 0] rfl ?_
        exact hk.1 (x6 + (1 : Int32), σ) rfl
      · have hf := xin q hf
        refine ww_iload (pc := 132) C 0 dX0_gather_132 rfl ?_
        refine ww_aload_n (pc := 134) C 1 dX0_gather_134 rfl ?_
        obtain ⟨z8, e7, hf⟩ := xbd hf
        refine gf_X0_9 (pc := 135) C e7 dX0_gather_135 ?_
        obtain ⟨v10, e9, hf⟩ := xbd hf
        refine ww_alen (pc := 138) C e9 dX0_gather_138 ?_
        refine ww_icmp_ge (pc := 139) (tgt := 153) C dX0_gather_139 (by decide) (fun q => ?_) (fun q => ?_)
        · have hf := xip q hf
          refine ww_iinc (pc := 153) (v := x6 + (1 : Int32)) (lv' := [(6, .int (x6 + (1 : Int32))), (7, .int ((x4 + v3) / (2 : Int32))), (0, .ref (gB G + r0)), (2, .ref (gB G + r2)), (3, .ref (gB G + r3)), (4, .int x4), (5, .int x5)]) C 6 dX0_gather_153 rfl (congrArg (fun z => x6 + z) (show Int32.ofInt (1) = (1 : Int32) by decide)) (by decide) rfl ?_
          refine ww_goto (pc := 156) (tgt := 98) C dX0_gather_156 (by decide) ?_
          have hf := xsj hf
          subst hf
          refine ww_sub [2, 3, 4, 5, 6, 0] rfl ?_
          exact hk.1 (x6 + (1 : Int32), σ) rfl
        · have hf := xin q hf
          refine ww_aload_n (pc := 142) C 1 dX0_gather_142 rfl ?_
          obtain ⟨z12, e11, hf⟩ := xbd hf
          refine gf_X0_9 (pc := 143) C e11 dX0_gather_143 ?_
          refine ww_iload (pc := 146) C 0 dX0_gather_146 rfl ?_
          refine ww_dup2 (pc := 148) C dX0_gather_148 rfl rfl ?_
          obtain ⟨v14, e13, hf⟩ := xbd hf
          refine ww_iald (pc := 149) C e13 dX0_gather_149 ?_
          refine ww_iconst (pc := 150) (v := (1 : Int32)) C dX0_gather_150 (by decide) ?_
          refine ww_iadd (pc := 151) C dX0_gather_151 ?_
          obtain ⟨σ16, e15, hf⟩ := xbd hf
          refine ww_iast (pc := 152) C e15 dX0_gather_152 ?_
          refine ww_iinc (pc := 153) (v := x6 + (1 : Int32)) (lv' := [(6, .int (x6 + (1 : Int32))), (7, .int ((x4 + v3) / (2 : Int32))), (0, .ref (gB G + r0)), (2, .ref (gB G + r2)), (3, .ref (gB G + r3)), (4, .int x4), (5, .int x5)]) C 6 dX0_gather_153 rfl (congrArg (fun z => x6 + z) (show Int32.ofInt (1) = (1 : Int32) by decide)) (by decide) rfl ?_
          refine ww_goto (pc := 156) (tgt := 98) C dX0_gather_156 (by decide) ?_
          have hf := xsj hf
          subst hf
          refine ww_sub [2, 3, 4, 5, 6, 0] rfl ?_
          exact hk.1 (x6 + (1 : Int32), σ16) rfl
theorem s_X0_gather_j81 {G : XG} (C : XC G cX0_gather RX0 none 8 3 75) {σ : XS} {r0 : Nat} {r1 : Nat} {r2 : Nat} {r3 : Nat} {x4 : Int32} {x : XS} (hf : f_X0_gather_j81 σ r0 r1 r2 r3 x4 = some x) (hk : XEnd G none x ∧ XUp G x) : WW G 81 [(0, .ref (gB G + r0)), (1, .ref (gB G + r1)), (2, .ref (gB G + r2)), (3, .ref (gB G + r3)), (4, .int x4)] [] σ := by
  refine ww_aload_n (pc := 81) C 0 dX0_gather_81 rfl ?_
  obtain ⟨z2, e1, hf⟩ := xbd hf
  refine gf_X0_9 (pc := 82) C e1 dX0_gather_82 ?_
  refine ww_iconst (pc := 85) (v := (0 : Int32)) C dX0_gather_85 (by decide) ?_
  obtain ⟨σ4, e3, hf⟩ := xbd hf
  refine ww_callSv (pc := 86) (as := [.ref (gB G + z2), .int (0 : Int32)]) (st := []) C (k_J7_fill_53178 (l := gl G) (E := gE G) (hb := gB G) (σ := σ) e3) xc_X0_55 q174 rfl (by decide) (xst4 (Nat.le_of_ble_eq_true rfl)) (m_J7_fill_53178 e3).le (m_J7_fill_53178 e3).lim dX0_gather_86 ?_
  refine ww_aload_n (pc := 89) C 1 dX0_gather_89 rfl ?_
  obtain ⟨_, e5, hf⟩ := xbd hf
  obtain ⟨v7, e6, hf⟩ := xbd hf
  refine ww_callVi (pc := 90) (as := []) (st := []) C (k_X3_states (l := gl G) (E := gE G) (hb := gB G) (σ := σ4) e6) rfl (by decide) xc_X0_60 q871 qp62 (xck_spec e5) rfl (by decide) (xst4 (Nat.le_of_ble_eq_true rfl)) xsame.rf.le xsame.rf.lim dX0_gather_90 ?_
  refine ww_istore (pc := 93) (lv' := [(5, .int v7), (0, .ref (gB G + r0)), (1, .ref (gB G + r1)), (2, .ref (gB G + r2)), (3, .ref (gB G + r3)), (4, .int x4)]) C dX0_gather_93 (by decide) rfl ?_
  refine ww_iconst (pc := 95) (v := (0 : Int32)) C dX0_gather_95 (by decide) ?_
  refine ww_istore (pc := 96) (lv' := [(6, .int (0 : Int32)), (5, .int v7), (0, .ref (gB G + r0)), (1, .ref (gB G + r1)), (2, .ref (gB G + r2)), (3, .ref (gB G + r3)), (4, .int x4)]) C dX0_gather_96 (by decide) rfl ?_
  refine ww_sub [2, 4, 5, 6, 1, 0] rfl ?_
  exact s_X0_gather_l98 C (a := ((0 : Int32), σ4)) hf hk
theorem m_X0_gather_j81 {σ : XS} {r0 : Nat} {r1 : Nat} {r2 : Nat} {r3 : Nat} {x4 : Int32} {x : XS} (hf : f_X0_gather_j81 σ r0 r1 r2 r3 x4 = some x) : xext σ x := by
  have hm := xext.rf (σ := σ)
  obtain ⟨z2, e1, hf⟩ := xbd hf
  obtain ⟨σ4, e3, hf⟩ := xbd hf
  have hm := hm.tr (m_J7_fill_53178 e3).ext
  obtain ⟨_, e5, hf⟩ := xbd hf
  obtain ⟨v7, e6, hf⟩ := xbd hf
  exact hm.tr (m_X0_gather_l98 (a := ((0 : Int32), σ4)) hf)
theorem s_X0_gather_j42 {G : XG} (C : XC G cX0_gather RX0 none 8 3 75) {σ : XS} {r0 : Nat} {r1 : Nat} {r2 : Nat} {r3 : Nat} {x4 : Int32} {x5 : Int32} {t0 : Nat} {t1 : Int32} {t2 : Int32} {x : ((Int32 × Int32 × XS) ⊕ (XS))} (hf : f_X0_gather_j42 σ r0 r1 r2 r3 x4 x5 t0 t1 t2 = some x) (hk : (∀ a' : Int32 × Int32 × XS, x = .inl a' → WW G 6 [(0, .ref (gB G + r0)), (1, .ref (gB G + r1)), (2, .ref (gB G + r2)), (3, .ref (gB G + r3)), (4, .int a'.1), (5, .int a'.2.1)] [] a'.2.2) ∧ (∀ b1 : XS, x = .inr b1 → XEnd G none b1 ∧ XUp G b1)) : WW G 42 [(0, .ref (gB G + r0)), (1, .ref (gB G + r1)), (2, .ref (gB G + r2)), (3, .ref (gB G + r3)), (4, .int x4), (5, .int x5)] [.int t2, .int t1, .ref (gB G + t0)] σ := by
  obtain ⟨σ2, e1, hf⟩ := xbd hf
  refine ww_iast (pc := 42) C e1 dX0_gather_42 ?_
  refine ww_iload (pc := 43) C 4 dX0_gather_43 rfl ?_
  refine ww_aload_n (pc := 45) C 0 dX0_gather_45 rfl ?_
  obtain ⟨z4, e3, hf⟩ := xbd hf
  refine gf_X0_15 (pc := 46) C e3 dX0_gather_46 ?_
  refine ww_iload (pc := 49) C 5 dX0_gather_49 rfl ?_
  obtain ⟨v6, e5, hf⟩ := xbd hf
  refine ww_iald (pc := 51) C e5 dX0_gather_51 ?_
  refine ww_mabs (pc := 52) C q950 q951 q20 qm_mabs ⟨by decide, Nat.le_trans (Nat.add_le_add_right (xst4 (Nat.le_of_ble_eq_true rfl)) 13) (by decide)⟩ dX0_gather_52 ?_
  refine ww_iadd (pc := 55) C dX0_gather_55 ?_
  refine ww_istore (pc := 56) (lv' := [(4, .int (x4 + (xabs v6))), (0, .ref (gB G + r0)), (1, .ref (gB G + r1)), (2, .ref (gB G + r2)), (3, .ref (gB G + r3)), (5, .int x5)]) C dX0_gather_56 (by decide) rfl ?_
  refine ww_iinc (pc := 58) (v := x5 + (1 : Int32)) (lv' := [(5, .int (x5 + (1 : Int32))), (4, .int (x4 + (xabs v6))), (0, .ref (gB G + r0)), (1, .ref (gB G + r1)), (2, .ref (gB G + r2)), (3, .ref (gB G + r3))]) C 5 dX0_gather_58 rfl (congrArg (fun z => x5 + z) (show Int32.ofInt (1) = (1 : Int32) by decide)) (by decide) rfl ?_
  refine ww_goto (pc := 61) (tgt := 6) C dX0_gather_61 (by decide) ?_
  have hf := xsj hf
  subst hf
  refine ww_sub [2, 3, 4, 5, 1, 0] rfl ?_
  exact hk.1 (x4 + (xabs v6), x5 + (1 : Int32), σ2) rfl
theorem m_X0_gather_j42 {σ : XS} {r0 : Nat} {r1 : Nat} {r2 : Nat} {r3 : Nat} {x4 : Int32} {x5 : Int32} {t0 : Nat} {t1 : Int32} {t2 : Int32} {x : ((Int32 × Int32 × XS) ⊕ (XS))} (hf : f_X0_gather_j42 σ r0 r1 r2 r3 x4 x5 t0 t1 t2 = some x) : (∀ a' : Int32 × Int32 × XS, x = .inl a' → xext σ a'.2.2) ∧ (∀ b1 : XS, x = .inr b1 → xext σ b1) := by
  have hm := xext.rf (σ := σ)
  obtain ⟨σ2, e1, hf⟩ := xbd hf
  have hm := hm.tr (xsI_same e1).ext
  obtain ⟨z4, e3, hf⟩ := xbd hf
  obtain ⟨v6, e5, hf⟩ := xbd hf
  have hf := xsj hf
  subst hf
  exact ⟨fun a' e => (by have h9 := Sum.inl.inj e; subst h9; exact hm), fun b e => xnc1 e⟩
theorem m_X0_gather_l6 {r0 : Nat} {r1 : Nat} {r2 : Nat} {r3 : Nat} {a : Int32 × Int32 × XS} {x : XS} (hf : xloop (f_X0_gather_b6 r0 r1 r2 r3) a = some x) : xext a.2.2 x := by
  refine xloop_ind (P := fun a => xext a.2.2 x) (fun a y hf hc he => ?_) hf
  obtain ⟨x4, x5, σ⟩ := a
  have hy : (∀ a' : Int32 × Int32 × XS, y = .inl a' → xext σ a'.2.2) ∧ (∀ b1 : XS, y = .inr b1 → xext σ b1) := by
    have hm := xext.rf (σ := σ)
    by_cases q : (32 : Int32) ≤ x5
    · have hf := xip q hf
      obtain ⟨b0, hg, e9⟩ := xmj hf
      subst e9
      have hf := hg
      refine ⟨fun a' e => xnc2 e, fun b e => ?_⟩
      have h9 := Sum.inr.inj e
      subst h9
      obtain ⟨z2, e1, hf⟩ := xbd hf
      obtain ⟨z4, e3, hf⟩ := xbd hf
      obtain ⟨v6, e5, hf⟩ := xbd hf
      obtain ⟨_, e7, hf⟩ := xbd hf
      obtain ⟨σ9, e8, hf⟩ := xbd hf
      have hm := hm.tr (m_X2_fill e8)
      exact hm.tr (m_X0_gather_j81 hf)
    · have hf := xin q hf
      obtain ⟨z2, e1, hf⟩ := xbd hf
      obtain ⟨_, e3, hf⟩ := xbd hf
      obtain ⟨v5, e4, hf⟩ := xbd hf
      by_cases q : v5 = (-1 : Int32)
      · have hf := xip q hf
        exact ⟨fun a' e => hm.tr ((m_X0_gather_j42 hf).1 a' e), fun b1 eb1 => hm.tr ((m_X0_gather_j42 hf).2 b1 eb1)⟩
      · have hf := xin q hf
        obtain ⟨_, e6, hf⟩ := xbd hf
        obtain ⟨v8, e7, hf⟩ := xbd hf
        obtain ⟨v10, e9, hf⟩ := xbd hf
        exact ⟨fun a' e => hm.tr ((m_X0_gather_j42 hf).1 a' e), fun b1 eb1 => hm.tr ((m_X0_gather_j42 hf).2 b1 eb1)⟩
  cases y with
  | inl a' =>
    have h1 := hc a' rfl
    have hm := hy.1 a' rfl
    exact hm.tr (h1)
  | inr b =>
    have h1 := he b rfl
    subst h1
    exact hy.2 _ rfl
theorem s_X0_gather_l6 {G : XG} (C : XC G cX0_gather RX0 none 8 3 75) {r0 : Nat} {r1 : Nat} {r2 : Nat} {r3 : Nat} {a : Int32 × Int32 × XS} {x : XS} (hf : xloop (f_X0_gather_b6 r0 r1 r2 r3) a = some x) (hk : XEnd G none x ∧ XUp G x) : WW G 6 [(0, .ref (gB G + r0)), (1, .ref (gB G + r1)), (2, .ref (gB G + r2)), (3, .ref (gB G + r3)), (4, .int a.1), (5, .int a.2.1)] [] a.2.2 := by
  refine xloop_ind (P := fun a => WW G 6 [(0, .ref (gB G + r0)), (1, .ref (gB G + r1)), (2, .ref (gB G + r2)), (3, .ref (gB G + r3)), (4, .int a.1), (5, .int a.2.1)] [] a.2.2) (fun a y hf hc he => ?_) hf
  obtain ⟨x4, x5, σ⟩ := a
  have hk : (∀ a' : Int32 × Int32 × XS, y = .inl a' → WW G 6 [(0, .ref (gB G + r0)), (1, .ref (gB G + r1)), (2, .ref (gB G + r2)), (3, .ref (gB G + r3)), (4, .int a'.1), (5, .int a'.2.1)] [] a'.2.2) ∧ (∀ b1 : XS, y = .inr b1 → XEnd G none b1 ∧ XUp G b1) := ⟨hc, fun b e => by have h9 := he b e; subst h9; exact hk⟩
  refine ww_iload (pc := 6) C 5 dX0_gather_6 rfl ?_
  refine ww_bipush (pc := 8) (v := (32 : Int32)) C dX0_gather_8 (by decide) ?_
  refine ww_icmp_ge (pc := 10) (tgt := 64) C dX0_gather_10 (by decide) (fun q => ?_) (fun q => ?_)
  · have hf := xip q hf
    obtain ⟨b0, hg, e9⟩ := xmj hf
    subst e9
    have hf := hg
    have hk := hk.2 _ rfl
    refine ww_aload_n (pc := 64) C 3 dX0_gather_64 rfl ?_
    refine ww_aload_n (pc := 65) C 1 dX0_gather_65 rfl ?_
    refine ww_aload_n (pc := 66) C 0 dX0_gather_66 rfl ?_
    obtain ⟨z2, e1, hf⟩ := xbd hf
    refine gf_X0_15 (pc := 67) C e1 dX0_gather_67 ?_
    refine ww_aload_n (pc := 70) C 0 dX0_gather_70 rfl ?_
    obtain ⟨z4, e3, hf⟩ := xbd hf
    refine gf_X0_18 (pc := 71) C e3 dX0_gather_71 ?_
    refine ww_aload_n (pc := 74) C 1 dX0_gather_74 rfl ?_
    obtain ⟨v6, e5, hf⟩ := xbd hf
    refine gf_X0_46 (pc := 75) C e5 dX0_gather_75 ?_
    obtain ⟨_, e7, hf⟩ := xbd hf
    obtain ⟨σ9, e8, hf⟩ := xbd hf
    refine ww_callVv (pc := 78) (as := [.ref (gB G + r1), .ref (gB G + z2), .ref (gB G + z4), .int v6]) (st := []) C (k_X2_fill (l := gl G) (E := gE G) (hb := gB G) (σ := σ) e8) rfl (by decide) xc_X0_49 q854 qp58 (xck_spec e7) rfl (by decide) (xst4 (Nat.le_of_ble_eq_true rfl)) (m_X2_fill e8).1 (fun q => by have hm9 := m_X0_gather_j81 hf; exact XLim.mid q (m_X2_fill e8) hm9 hk.2) dX0_gather_78 ?_
    refine ww_sub [0, 1, 2, 3, 4] rfl ?_
    exact s_X0_gather_j81 C hf hk
  · have hf := xin q hf
    refine ww_aload_n (pc := 13) C 0 dX0_gather_13 rfl ?_
    obtain ⟨z2, e1, hf⟩ := xbd hf
    refine gf_X0_15 (pc := 14) C e1 dX0_gather_14 ?_
    refine ww_iload (pc := 17) C 5 dX0_gather_17 rfl ?_
    refine ww_aload_n (pc := 19) C 1 dX0_gather_19 rfl ?_
    refine ww_iload (pc := 20) C 5 dX0_gather_20 rfl ?_
    obtain ⟨_, e3, hf⟩ := xbd hf
    obtain ⟨v5, e4, hf⟩ := xbd hf
    refine ww_callVi (pc := 22) (as := [.int x5]) (st := [.int x5, .ref (gB G + z2)]) C (k_X3_endAt (l := gl G) (E := gE G) (hb := gB G) (σ := σ) e4) rfl (by decide) xc_X0_25 q703 qp38 (xck_spec e3) rfl (by decide) (xst4 (Nat.le_of_ble_eq_true rfl)) xsame.rf.le xsame.rf.lim dX0_gather_22 ?_
    refine ww_iconst (pc := 25) (v := (-1 : Int32)) C dX0_gather_25 (by decide) ?_
    refine ww_icmp_ne (pc := 26) (tgt := 33) C dX0_gather_26 (by decide) (fun q => ?_) (fun q => ?_)
    · have hf := xin q hf
      refine ww_aload_n (pc := 33) C 2 dX0_gather_33 rfl ?_
      refine ww_iload (pc := 34) C 5 dX0_gather_34 rfl ?_
      obtain ⟨_, e6, hf⟩ := xbd hf
      obtain ⟨v8, e7, hf⟩ := xbd hf
      refine ww_callVi (pc := 36) (as := [.int x5]) (st := [.int x5, .ref (gB G + z2)]) C (k_X6_bondAt (l := gl G) (E := gE G) (hb := gB G) (σ := σ) e7) rfl (by decide) xc_X0_31 q710 qp39 (xck_spec e6) rfl (by decide) (xst4 (Nat.le_of_ble_eq_true rfl)) xsame.rf.le xsame.rf.lim dX0_gather_36 ?_
      obtain ⟨v10, e9, hf⟩ := xbd hf
      refine ww_callSi (pc := 39) (as := [.int v8]) (st := [.int x5, .ref (gB G + z2)]) C (k_J6_signum_0f7a4 (l := gl G) (E := gE G) (hb := gB G) (σ := σ) e9) xc_X0_36 q948 rfl (by decide) (xst4 (Nat.le_of_ble_eq_true rfl)) xsame.rf.le xsame.rf.lim dX0_gather_39 ?_
      refine ww_sub [0, 1, 2, 3, 4, 5] rfl ?_
      exact s_X0_gather_j42 C hf hk
    · have hf := xip q hf
      refine ww_iconst (pc := 29) (v := (0 : Int32)) C dX0_gather_29 (by decide) ?_
      refine ww_goto (pc := 30) (tgt := 42) C dX0_gather_30 (by decide) ?_
      refine ww_sub [0, 1, 2, 3, 4, 5] rfl ?_
      exact s_X0_gather_j42 C hf hk
theorem s_X0_gather_e {G : XG} (C : XC G cX0_gather RX0 none 8 3 75) {σ : XS} {r0 : Nat} {r1 : Nat} {r2 : Nat} {r3 : Nat} {x : XS} (hf : f_X0_gather σ r0 r1 r2 r3 = some x) (hk : XEnd G none x ∧ XUp G x) : WW G 0 [(0, .ref (gB G + r0)), (1, .ref (gB G + r1)), (2, .ref (gB G + r2)), (3, .ref (gB G + r3))] [] σ := by
  refine ww_iconst (pc := 0) (v := (0 : Int32)) C dX0_gather_0 (by decide) ?_
  refine ww_istore (pc := 1) (lv' := [(4, .int (0 : Int32)), (0, .ref (gB G + r0)), (1, .ref (gB G + r1)), (2, .ref (gB G + r2)), (3, .ref (gB G + r3))]) C dX0_gather_1 (by decide) rfl ?_
  refine ww_iconst (pc := 3) (v := (0 : Int32)) C dX0_gather_3 (by decide) ?_
  refine ww_istore (pc := 4) (lv' := [(5, .int (0 : Int32)), (4, .int (0 : Int32)), (0, .ref (gB G + r0)), (1, .ref (gB G + r1)), (2, .ref (gB G + r2)), (3, .ref (gB G + r3))]) C dX0_gather_4 (by decide) rfl ?_
  refine ww_sub [2, 3, 4, 5, 1, 0] rfl ?_
  exact s_X0_gather_l6 C (a := ((0 : Int32), (0 : Int32), σ)) hf hk
theorem m_X0_gather {σ : XS} {r0 : Nat} {r1 : Nat} {r2 : Nat} {r3 : Nat} {x : XS} (hf : f_X0_gather σ r0 r1 r2 r3 = some x) : xext σ x := by
  have hm := xext.rf (σ := σ)
  exact hm.tr (m_X0_gather_l6 (a := ((0 : Int32), (0 : Int32), σ)) hf)
theorem k_X0_gather {l : Launch} {E : XD} {hb : Nat} {σ : XS} {r0 : Nat} {r1 : Nat} {r2 : Nat} {r3 : Nat} {x : XS} (h : f_X0_gather σ r0 r1 r2 r3 = some x) : XM l yX0_gather cX0_gather 8 none 3 75 E hb [.ref (hb + r0), .ref (hb + r1), .ref (hb + r2), .ref (hb + r3)] σ none x := by
  refine xm_of (by decide) (Nat.le_of_ble_eq_true rfl) (m_X0_gather h).1 (fun G hG C hl hQ => ?_)
  obtain ⟨rfl, rfl, rfl, hN⟩ := hG
  exact s_X0_gather_e C h ⟨hQ, hl.2⟩
noncomputable def f_X0_init_j25 (σ : XS) (r0 : Nat) (t0 : Nat) (t1 : Nat) : Option XS := (xnz t1).bind fun _ => (xpR σ t0 0 2 t1).bind fun σ3 => (xpI σ3 r0 0 3 (-1 : Int32)).bind fun σ5 => some σ5
noncomputable def f_X0_init_j17 (σ : XS) (r0 : Nat) (t0 : Nat) (t1 : Nat) : Option XS := (xnz t1).bind fun _ => (xpR σ t0 0 1 t1).bind fun σ3 => (xnA σ3 20 (16 : Int32)).bind fun (z5, σ6) => f_X0_init_j25 σ6 r0 r0 z5
noncomputable def f_X0_init_j9 (σ : XS) (r0 : Nat) (t0 : Nat) (t1 : Nat) : Option XS := (xnz t1).bind fun _ => (xpR σ t0 0 0 t1).bind fun σ3 => (xnA σ3 20 (32 : Int32)).bind fun (z5, σ6) => f_X0_init_j17 σ6 r0 r0 z5
noncomputable def f_X0_init (σ : XS) (r0 : Nat) : Option XS := (xnA σ 20 (33 : Int32)).bind fun (z2, σ3) => f_X0_init_j9 σ3 r0 r0 z2
theorem s_X0_init_j25 {G : XG} (C : XC G cX0_init RX0 none 1 1 20) (hN : (gh G).name = "<init>") {σ : XS} {r0 : Nat} {t0 : Nat} {t1 : Nat} {x : XS} (hf : f_X0_init_j25 σ r0 t0 t1 = some x) (hk : XEnd G none x ∧ XUp G x) : WW G 25 [(0, .ref (gB G + r0))] [.ref (gB G + t1), .ref (gB G + t0)] σ := by
  obtain ⟨_, e1, hf⟩ := xbd hf
  obtain ⟨σ3, e2, hf⟩ := xbd hf
  refine pf_X0_18 (pc := 25) C hN (xnz_spec e1) e2 dX0_init_25 ?_
  refine ww_aload_n (pc := 28) C 0 dX0_init_28 rfl ?_
  refine ww_iconst (pc := 29) (v := (-1 : Int32)) C dX0_init_29 (by decide) ?_
  obtain ⟨σ5, e4, hf⟩ := xbd hf
  refine pf_X0_21 (pc := 30) C e4 dX0_init_30 ?_
  have hf := xsj hf
  subst hf
  exact ww_vret (pc := 33) C hk.1 dX0_init_33
theorem m_X0_init_j25 {σ : XS} {r0 : Nat} {t0 : Nat} {t1 : Nat} {x : XS} (hf : f_X0_init_j25 σ r0 t0 t1 = some x) : xext σ x := by
  have hm := xext.rf (σ := σ)
  obtain ⟨_, e1, hf⟩ := xbd hf
  obtain ⟨σ3, e2, hf⟩ := xbd hf
  have hm := hm.tr (xpR_same e2).ext
  obtain ⟨σ5, e4, hf⟩ := xbd hf
  have hm := hm.tr (xpI_same e4).ext
  have hf := xsj hf
  subst hf
  exact hm
theorem s_X0_init_j17 {G : XG} (C : XC G cX0_init RX0 none 1 1 20) (hN : (gh G).name = "<init>") {σ : XS} {r0 : Nat} {t0 : Nat} {t1 : Nat} {x : XS} (hf : f_X0_init_j17 σ r0 t0 t1 = some x) (hk : XEnd G none x ∧ XUp G x) : WW G 17 [(0, .ref (gB G + r0))] [.ref (gB G + t1), .ref (gB G + t0)] σ := by
  obtain ⟨_, e1, hf⟩ := xbd hf
  obtain ⟨σ3, e2, hf⟩ := xbd hf
  refine pf_X0_15 (pc := 17) C hN (xnz_spec e1) e2 dX0_init_17 ?_
  refine ww_aload_n (pc := 20) C 0 dX0_init_20 rfl ?_
  refine ww_bipush (pc := 21) (v := (16 : Int32)) C dX0_init_21 (by decide) ?_
  obtain ⟨⟨z5, σ6⟩, e4, hf⟩ := xbd hf
  dsimp only at hf
  refine ww_newI (pc := 23) C q77 e4 (fun q => by have hm9 := m_X0_init_j25 hf; exact XLim.mid q (xnA_ext e4) hm9 hk.2) dX0_init_23 ?_
  refine ww_sub [0] rfl ?_
  exact s_X0_init_j25 C hN hf hk
theorem m_X0_init_j17 {σ : XS} {r0 : Nat} {t0 : Nat} {t1 : Nat} {x : XS} (hf : f_X0_init_j17 σ r0 t0 t1 = some x) : xext σ x := by
  have hm := xext.rf (σ := σ)
  obtain ⟨_, e1, hf⟩ := xbd hf
  obtain ⟨σ3, e2, hf⟩ := xbd hf
  have hm := hm.tr (xpR_same e2).ext
  obtain ⟨⟨z5, σ6⟩, e4, hf⟩ := xbd hf
  dsimp only at hf
  have hm := hm.tr (xnA_ext e4)
  exact hm.tr (m_X0_init_j25 hf)
theorem s_X0_init_j9 {G : XG} (C : XC G cX0_init RX0 none 1 1 20) (hN : (gh G).name = "<init>") {σ : XS} {r0 : Nat} {t0 : Nat} {t1 : Nat} {x : XS} (hf : f_X0_init_j9 σ r0 t0 t1 = some x) (hk : XEnd G none x ∧ XUp G x) : WW G 9 [(0, .ref (gB G + r0))] [.ref (gB G + t1), .ref (gB G + t0)] σ := by
  obtain ⟨_, e1, hf⟩ := xbd hf
  obtain ⟨σ3, e2, hf⟩ := xbd hf
  refine pf_X0_9 (pc := 9) C hN (xnz_spec e1) e2 dX0_init_9 ?_
  refine ww_aload_n (pc := 12) C 0 dX0_init_12 rfl ?_
  refine ww_bipush (pc := 13) (v := (32 : Int32)) C dX0_init_13 (by decide) ?_
  obtain ⟨⟨z5, σ6⟩, e4, hf⟩ := xbd hf
  dsimp only at hf
  refine ww_newI (pc := 15) C q77 e4 (fun q => by have hm9 := m_X0_init_j17 hf; exact XLim.mid q (xnA_ext e4) hm9 hk.2) dX0_init_15 ?_
  refine ww_sub [0] rfl ?_
  exact s_X0_init_j17 C hN hf hk
theorem m_X0_init_j9 {σ : XS} {r0 : Nat} {t0 : Nat} {t1 : Nat} {x : XS} (hf : f_X0_init_j9 σ r0 t0 t1 = some x) : xext σ x := by
  have hm := xext.rf (σ := σ)
  obtain ⟨_, e1, hf⟩ := xbd hf
  obtain ⟨σ3, e2, hf⟩ := xbd hf
  have hm := hm.tr (xpR_same e2).ext
  obtain ⟨⟨z5, σ6⟩, e4, hf⟩ := xbd hf
  dsimp only at hf
  have hm := hm.tr (xnA_ext e4)
  exact hm.tr (m_X0_init_j17 hf)
theorem s_X0_init_e {G : XG} (C : XC G cX0_init RX0 none 1 1 20) (hN : (gh G).name = "<init>") {σ : XS} {r0 : Nat} {x : XS} (hf : f_X0_init σ r0 = some x) (hk : XEnd G none x ∧ XUp G x) : WW G 0 [(0, .ref (gB G + r0))] [] σ := by
  refine ww_aload_n (pc := 0) C 0 dX0_init_0 rfl ?_
  refine ww_objInit (pc := 1) C qo_X0_3 qoi qoc ⟨by decide, by decide⟩ dX0_init_1 ?_
  refine ww_aload_n (pc := 4) C 0 dX0_init_4 rfl ?_
  refine ww_bipush (pc := 5) (v := (33 : Int32)) C dX0_init_5 (by decide) ?_
  obtain ⟨⟨z2, σ3⟩, e1, hf⟩ := xbd hf
  dsimp only at hf
  refine ww_newI (pc := 7) C q77 e1 (fun q => by have hm9 := m_X0_init_j9 hf; exact XLim.mid q (xnA_ext e1) hm9 hk.2) dX0_init_7 ?_
  refine ww_sub [0] rfl ?_
  exact s_X0_init_j9 C hN hf hk
theorem m_X0_init {σ : XS} {r0 : Nat} {x : XS} (hf : f_X0_init σ r0 = some x) : xext σ x := by
  have hm := xext.rf (σ := σ)
  obtain ⟨⟨z2, σ3⟩, e1, hf⟩ := xbd hf
  dsimp only at hf
  have hm := hm.tr (xnA_ext e1)
  exact hm.tr (m_X0_init_j9 hf)
theorem k_X0_init {l : Launch} {E : XD} {hb : Nat} {σ : XS} {r0 : Nat} {x : XS} (h : f_X0_init σ r0 = some x) : XM l yX0_init cX0_init 1 none 1 20 E hb [.ref (hb + r0)] σ none x := by
  refine xm_of (by decide) (Nat.le_of_ble_eq_true rfl) (m_X0_init h).1 (fun G hG C hl hQ => ?_)
  obtain ⟨rfl, rfl, rfl, hN⟩ := hG
  exact s_X0_init_e C hN h ⟨hQ, hl.2⟩
noncomputable def f_X0_waysOf (σ : XS) (r0 : Nat) (x1 : Int32) : Option Int32 := if x1 < 0 then (some (0 : Int32)) else (xgR σ r0 0 0).bind fun z2 => (xal σ z2).bind fun v4 => if v4 ≤ x1 then (some (0 : Int32)) else (xgR σ r0 0 0).bind fun z6 => (xaI σ 20 z6 x1).bind fun v8 => some v8
theorem s_X0_waysOf_e {G : XG} (C : XC G cX0_waysOf RX0 (some .int) 2 0 0) {σ : XS} {r0 : Nat} {x1 : Int32} {x : Int32} (hf : f_X0_waysOf σ r0 x1 = some x) (hk : XEnd G (some (.int x)) σ) : WW G 0 [(0, .ref (gB G + r0)), (1, .int x1)] [] σ := by
  refine ww_iload_n (pc := 0) C 1 dX0_waysOf_0 rfl ?_
  refine ww_if_lt (pc := 1) (tgt := 22) C dX0_waysOf_1 (by decide) (fun q => ?_) (fun q => ?_)
  · have hf := xip q hf
    refine ww_iconst (pc := 22) (v := (0 : Int32)) C dX0_waysOf_22 (by decide) ?_
    have hf := xsj hf
    subst hf
    exact ww_iret (pc := 23) C hk dX0_waysOf_23
  · have hf := xin q hf
    refine ww_iload_n (pc := 4) C 1 dX0_waysOf_4 rfl ?_
    refine ww_aload_n (pc := 5) C 0 dX0_waysOf_5 rfl ?_
    obtain ⟨z2, e1, hf⟩ := xbd hf
    refine gf_X0_9 (pc := 6) C e1 dX0_waysOf_6 ?_
    obtain ⟨v4, e3, hf⟩ := xbd hf
    refine ww_alen (pc := 9) C e3 dX0_waysOf_9 ?_
    refine ww_icmp_ge (pc := 10) (tgt := 22) C dX0_waysOf_10 (by decide) (fun q => ?_) (fun q => ?_)
    · have hf := xip q hf
      refine ww_iconst (pc := 22) (v := (0 : Int32)) C dX0_waysOf_22 (by decide) ?_
      have hf := xsj hf
      subst hf
      exact ww_iret (pc := 23) C hk dX0_waysOf_23
    · have hf := xin q hf
      refine ww_aload_n (pc := 13) C 0 dX0_waysOf_13 rfl ?_
      obtain ⟨z6, e5, hf⟩ := xbd hf
      refine gf_X0_9 (pc := 14) C e5 dX0_waysOf_14 ?_
      refine ww_iload_n (pc := 17) C 1 dX0_waysOf_17 rfl ?_
      obtain ⟨v8, e7, hf⟩ := xbd hf
      refine ww_iald (pc := 18) C e7 dX0_waysOf_18 ?_
      refine ww_goto (pc := 19) (tgt := 23) C dX0_waysOf_19 (by decide) ?_
      have hf := xsj hf
      subst hf
      exact ww_iret (pc := 23) C hk dX0_waysOf_23
theorem k_X0_waysOf {l : Launch} {E : XD} {hb : Nat} {σ : XS} {r0 : Nat} {x1 : Int32} {x : Int32} (h : f_X0_waysOf σ r0 x1 = some x) : XM l yX0_waysOf cX0_waysOf 2 (some .int) 0 0 E hb [.ref (hb + r0), .int x1] σ (some (.int x)) σ := by
  refine xm_of (by decide) (Nat.le_of_ble_eq_true rfl) ⟨Nat.le_refl _, Nat.le_refl _⟩ (fun G hG C hl hQ => ?_)
  obtain ⟨rfl, rfl, rfl, hN⟩ := hG
  exact s_X0_waysOf_e C h hQ
noncomputable def f_X6_fieldAt (σ : XS) (r0 : Nat) (x1 : Int32) : Option Int32 := if x1 < 0 then (some (0 : Int32)) else (xgR σ r0 6 1).bind fun z2 => (xal σ z2).bind fun v4 => if v4 ≤ x1 then (some (0 : Int32)) else (xgR σ r0 6 1).bind fun z6 => (xaI σ 20 z6 x1).bind fun v8 => some v8
theorem s_X6_fieldAt_e {G : XG} (C : XC G cX6_fieldAt RX6 (some .int) 2 0 0) {σ : XS} {r0 : Nat} {x1 : Int32} {x : Int32} (hf : f_X6_fieldAt σ r0 x1 = some x) (hk : XEnd G (some (.int x)) σ) : WW G 0 [(0, .ref (gB G + r0)), (1, .int x1)] [] σ := by
  refine ww_iload_n (pc := 0) C 1 dX6_fieldAt_0 rfl ?_
  refine ww_if_lt (pc := 1) (tgt := 22) C dX6_fieldAt_1 (by decide) (fun q => ?_) (fun q => ?_)
  · have hf := xip q hf
    refine ww_iconst (pc := 22) (v := (0 : Int32)) C dX6_fieldAt_22 (by decide) ?_
    have hf := xsj hf
    subst hf
    exact ww_iret (pc := 23) C hk dX6_fieldAt_23
  · have hf := xin q hf
    refine ww_iload_n (pc := 4) C 1 dX6_fieldAt_4 rfl ?_
    refine ww_aload_n (pc := 5) C 0 dX6_fieldAt_5 rfl ?_
    obtain ⟨z2, e1, hf⟩ := xbd hf
    refine gf_X6_15 (pc := 6) C e1 dX6_fieldAt_6 ?_
    obtain ⟨v4, e3, hf⟩ := xbd hf
    refine ww_alen (pc := 9) C e3 dX6_fieldAt_9 ?_
    refine ww_icmp_ge (pc := 10) (tgt := 22) C dX6_fieldAt_10 (by decide) (fun q => ?_) (fun q => ?_)
    · have hf := xip q hf
      refine ww_iconst (pc := 22) (v := (0 : Int32)) C dX6_fieldAt_22 (by decide) ?_
      have hf := xsj hf
      subst hf
      exact ww_iret (pc := 23) C hk dX6_fieldAt_23
    · have hf := xin q hf
      refine ww_aload_n (pc := 13) C 0 dX6_fieldAt_13 rfl ?_
      obtain ⟨z6, e5, hf⟩ := xbd hf
      refine gf_X6_15 (pc := 14) C e5 dX6_fieldAt_14 ?_
      refine ww_iload_n (pc := 17) C 1 dX6_fieldAt_17 rfl ?_
      obtain ⟨v8, e7, hf⟩ := xbd hf
      refine ww_iald (pc := 18) C e7 dX6_fieldAt_18 ?_
      refine ww_goto (pc := 19) (tgt := 23) C dX6_fieldAt_19 (by decide) ?_
      have hf := xsj hf
      subst hf
      exact ww_iret (pc := 23) C hk dX6_fieldAt_23
theorem k_X6_fieldAt {l : Launch} {E : XD} {hb : Nat} {σ : XS} {r0 : Nat} {x1 : Int32} {x : Int32} (h : f_X6_fieldAt σ r0 x1 = some x) : XM l yX6_fieldAt cX6_fieldAt 2 (some .int) 0 0 E hb [.ref (hb + r0), .int x1] σ (some (.int x)) σ := by
  refine xm_of (by decide) (Nat.le_of_ble_eq_true rfl) ⟨Nat.le_refl _, Nat.le_refl _⟩ (fun G hG C hl hQ => ?_)
  obtain ⟨rfl, rfl, rfl, hN⟩ := hG
  exact s_X6_fieldAt_e C h hQ
noncomputable def f_X11_bitOf (x0 : Int32) (x1 : Int32) : Option Int32 := some ((x0 >>> (x1 &&& 31)) &&& (1 : Int32))
theorem s_X11_bitOf_e {G : XG} (C : XC G cX11_bitOf RX11 (some .int) 2 0 0) {σ : XS} {x0 : Int32} {x1 : Int32} {x : Int32} (hf : f_X11_bitOf x0 x1 = some x) (hk : XEnd G (some (.int x)) σ) : WW G 0 [(0, .int x0), (1, .int x1)] [] σ := by
  refine ww_iload_n (pc := 0) C 0 dX11_bitOf_0 rfl ?_
  refine ww_iload_n (pc := 1) C 1 dX11_bitOf_1 rfl ?_
  refine ww_ishr (pc := 2) C dX11_bitOf_2 ?_
  refine ww_iconst (pc := 3) (v := (1 : Int32)) C dX11_bitOf_3 (by decide) ?_
  refine ww_iand (pc := 4) C dX11_bitOf_4 ?_
  have hf := xsj hf
  subst hf
  exact ww_iret (pc := 5) C hk dX11_bitOf_5
theorem k_X11_bitOf {l : Launch} {E : XD} {hb : Nat} {σ : XS} {x0 : Int32} {x1 : Int32} {x : Int32} (h : f_X11_bitOf x0 x1 = some x) : XM l yX11_bitOf cX11_bitOf 2 (some .int) 0 0 E hb [.int x0, .int x1] σ (some (.int x)) σ := by
  refine xm_of (by decide) (Nat.le_of_ble_eq_true rfl) ⟨Nat.le_refl _, Nat.le_refl _⟩ (fun G hG C hl hQ => ?_)
  obtain ⟨rfl, rfl, rfl, hN⟩ := hG
  exact s_X11_bitOf_e C h hQ
noncomputable def f_X3_costOfTurn_j99 (σ : XS) (x2 : Int32) (x3 : Int32) (x4 : Int32) : Option Int32 := (f_X11_bitOf x2 x3).bind fun v2 => if v2 = (1 : Int32) then (some ((2 : Int32) * x4)) else some ((-2 : Int32) * x4)
noncomputable def f_X3_costOfTurn_b28 (σ : XS) (r0 : Nat) (r1 : Nat) (x2 : Int32) (x3 : Int32) (x5 : Int32) : Int32 × Int32 → Option ((Int32 × Int32) ⊕ (Int32)) := fun a => match a with
  | (x4, x6) => (xgR σ r0 3 3).bind fun z2 => (xaI σ 20 z2 x3).bind fun v4 => if (x5 + v4) ≤ x6 then ((f_X3_costOfTurn_j99 σ x2 x3 x4).map .inr) else (xgR σ r0 3 1).bind fun z6 => (xal σ z6).bind fun v8 => if v8 ≤ x6 then ((f_X3_costOfTurn_j99 σ x2 x3 x4).map .inr) else (xgR σ r0 3 2).bind fun z10 => (xaI σ 20 z10 x6).bind fun v12 => (xck σ r1 6).bind fun _ => (f_X6_bondAt σ r1 v12).bind fun v15 => (xgR σ r0 3 1).bind fun z17 => (xaI σ 20 z17 x6).bind fun v19 => (f_X11_bitOf x2 v19).bind fun v21 => if v21 = (1 : Int32) then (some (.inl (x4 + v15, x6 + (1 : Int32)))) else some (.inl (x4 + (-v15), x6 + (1 : Int32)))
noncomputable def f_X3_costOfTurn (σ : XS) (r0 : Nat) (r1 : Nat) (x2 : Int32) (x3 : Int32) : Option Int32 := if x3 < 0 then (some (0 : Int32)) else if x3 < (16 : Int32) then ((xck σ r1 6).bind fun _ => (f_X6_fieldAt σ r1 x3).bind fun v3 => xloop (f_X3_costOfTurn_b28 σ r0 r1 x2 x3 ((4 : Int32) * x3)) (v3, (4 : Int32) * x3)) else some (0 : Int32)
theorem s_X3_costOfTurn_j99 {G : XG} (C : XC G cX3_costOfTurn RX3 (some .int) 8 1 21) {σ : XS} {x2 : Int32} {x3 : Int32} {x4 : Int32} {x : Int32} (hf : f_X3_costOfTurn_j99 σ x2 x3 x4 = some x) (hk : XEnd G (some (.int x)) σ) : WW G 99 [(2, .int x2), (3, .int x3), (4, .int x4)] [] σ := by
  refine ww_iload_n (pc := 99) C 0 dX3_costOfTurn_99 rfl ?_
  refine ww_iload_n (pc := 100) C 1 dX3_costOfTurn_100 rfl ?_
  obtain ⟨v2, e1, hf⟩ := xbd hf
  refine ww_callSi (pc := 101) (as := [.int x2, .int x3]) (st := []) C (k_X11_bitOf (l := gl G) (E := gE G) (hb := gB G) (σ := σ) e1) xc_X3_62 q655 rfl (by decide) (xst4 (Nat.le_of_ble_eq_true rfl)) xsame.rf.le xsame.rf.lim dX3_costOfTurn_101 ?_
  refine ww_iconst (pc := 104) (v := (1 : Int32)) C dX3_costOfTurn_104 (by decide) ?_
  refine ww_icmp_ne (pc := 105) (tgt := 115) C dX3_costOfTurn_105 (by decide) (fun q => ?_) (fun q => ?_)
  · have hf := xin q hf
    refine ww_bipush (pc := 115) (v := (-2 : Int32)) C dX3_costOfTurn_115 (by decide) ?_
    refine ww_iload (pc := 117) C 2 dX3_costOfTurn_117 rfl ?_
    refine ww_imul (pc := 119) C dX3_costOfTurn_119 ?_
    have hf := xsj hf
    subst hf
    exact ww_iret (pc := 120) C hk dX3_costOfTurn_120
  · have hf := xip q hf
    refine ww_iconst (pc := 108) (v := (2 : Int32)) C dX3_costOfTurn_108 (by decide) ?_
    refine ww_iload (pc := 109) C 2 dX3_costOfTurn_109 rfl ?_
    refine ww_imul (pc := 111) C dX3_costOfTurn_111 ?_
    refine ww_goto (pc := 112) (tgt := 120) C dX3_costOfTurn_112 (by decide) ?_
    have hf := xsj hf
    subst hf
    exact ww_iret (pc := 120) C hk dX3_costOfTurn_120
theorem s_X3_costOfTurn_l28 {G : XG} (C : XC G cX3_costOfTurn RX3 (some .int) 8 1 21) {σ : XS} {r0 : Nat} {r1 : Nat} {x2 : Int32} {x3 : Int32} {x5 : Int32} {a : Int32 × Int32} {x : Int32} (hf : xloop (f_X3_costOfTurn_b28 σ r0 r1 x2 x3 x5) a = some x) (hk : XEnd G (some (.int x)) σ) : WW G 28 [(0, .ref (gB G + r0)), (1, .ref (gB G + r1)), (2, .int x2), (3, .int x3), (4, .int a.1), (5, .int x5), (6, .int a.2)] [] σ := by
  refine xloop_ind (P := fun a => WW G 28 [(0, .ref (gB G + r0)), (1, .ref (gB G + r1)), (2, .int x2), (3, .int x3), (4, .int a.1), (5, .int x5), (6, .int a.2)] [] σ) (fun a y hf hc he => ?_) hf
  obtain ⟨x4, x6⟩ := a
  have hk : (∀ a' : Int32 × Int32, y = .inl a' → WW G 28 [(0, .ref (gB G + r0)), (1, .ref (gB G + r1)), (2, .int x2), (3, .int x3), (4, .int a'.1), (5, .int x5), (6, .int a'.2)] [] σ) ∧ (∀ b1 : Int32, y = .inr b1 → XEnd G (some (.int b1)) σ) := ⟨hc, fun b e => by have h9 := he b e; subst h9; exact hk⟩
  refine ww_iload (pc := 28) C 6 dX3_costOfTurn_28 rfl ?_
  refine ww_iload (pc := 30) C 5 dX3_costOfTurn_30 rfl ?_
  refine ww_aload_n (pc := 32) C 0 dX3_costOfTurn_32 rfl ?_
  obtain ⟨z2, e1, hf⟩ := xbd hf
  refine gf_X3_21 (pc := 33) C e1 dX3_costOfTurn_33 ?_
  refine ww_iload_n (pc := 36) C 3 dX3_costOfTurn_36 rfl ?_
  obtain ⟨v4, e3, hf⟩ := xbd hf
  refine ww_iald (pc := 37) C e3 dX3_costOfTurn_37 ?_
  refine ww_iadd (pc := 38) C dX3_costOfTurn_38 ?_
  refine ww_icmp_ge (pc := 39) (tgt := 99) C dX3_costOfTurn_39 (by decide) (fun q => ?_) (fun q => ?_)
  · have hf := xip q hf
    obtain ⟨b0, hg, e9⟩ := xmj hf
    subst e9
    have hf := hg
    have hk := hk.2 _ rfl
    refine ww_sub [2, 3, 4] rfl ?_
    exact s_X3_costOfTurn_j99 C hf hk
  · have hf := xin q hf
    refine ww_iload (pc := 42) C 6 dX3_costOfTurn_42 rfl ?_
    refine ww_aload_n (pc := 44) C 0 dX3_costOfTurn_44 rfl ?_
    obtain ⟨z6, e5, hf⟩ := xbd hf
    refine gf_X3_15 (pc := 45) C e5 dX3_costOfTurn_45 ?_
    obtain ⟨v8, e7, hf⟩ := xbd hf
    refine ww_alen (pc := 48) C e7 dX3_costOfTurn_48 ?_
    refine ww_icmp_ge (pc := 49) (tgt := 99) C dX3_costOfTurn_49 (by decide) (fun q => ?_) (fun q => ?_)
    · have hf := xip q hf
      obtain ⟨b0, hg, e9⟩ := xmj hf
      subst e9
      have hf := hg
      have hk := hk.2 _ rfl
      refine ww_sub [2, 3, 4] rfl ?_
      exact s_X3_costOfTurn_j99 C hf hk
    · have hf := xin q hf
      refine ww_aload_n (pc := 52) C 1 dX3_costOfTurn_52 rfl ?_
      refine ww_aload_n (pc := 53) C 0 dX3_costOfTurn_53 rfl ?_
      obtain ⟨z10, e9, hf⟩ := xbd hf
      refine gf_X3_18 (pc := 54) C e9 dX3_costOfTurn_54 ?_
      refine ww_iload (pc := 57) C 6 dX3_costOfTurn_57 rfl ?_
      obtain ⟨v12, e11, hf⟩ := xbd hf
      refine ww_iald (pc := 59) C e11 dX3_costOfTurn_59 ?_
      obtain ⟨_, e13, hf⟩ := xbd hf
      obtain ⟨v15, e14, hf⟩ := xbd hf
      refine ww_callVi (pc := 60) (as := [.int v12]) (st := []) C (k_X6_bondAt (l := gl G) (E := gE G) (hb := gB G) (σ := σ) e14) rfl (by decide) xc_X3_70 q710 qp39 (xck_spec e13) rfl (by decide) (xst4 (Nat.le_of_ble_eq_true rfl)) xsame.rf.le xsame.rf.lim dX3_costOfTurn_60 ?_
      refine ww_istore (pc := 63) (lv' := [(7, .int v15), (0, .ref (gB G + r0)), (1, .ref (gB G + r1)), (2, .int x2), (3, .int x3), (4, .int x4), (5, .int x5), (6, .int x6)]) C dX3_costOfTurn_63 (by decide) rfl ?_
      refine ww_iload (pc := 65) C 5 dX3_costOfTurn_65 rfl ?_
      refine ww_iload_n (pc := 67) C 3 dX3_costOfTurn_67 rfl ?_
      refine ww_aload_n (pc := 68) C 1 dX3_costOfTurn_68 rfl ?_
      obtain ⟨z17, e16, hf⟩ := xbd hf
      refine gf_X3_15 (pc := 69) C e16 dX3_costOfTurn_69 ?_
      refine ww_iload (pc := 72) C 7 dX3_costOfTurn_72 rfl ?_
      obtain ⟨v19, e18, hf⟩ := xbd hf
      refine ww_iald (pc := 74) C e18 dX3_costOfTurn_74 ?_
      obtain ⟨v21, e20, hf⟩ := xbd hf
      refine ww_callSi (pc := 75) (as := [.int x2, .int v19]) (st := [.int x4]) C (k_X11_bitOf (l := gl G) (E := gE G) (hb := gB G) (σ := σ) e20) xc_X3_62 q655 rfl (by decide) (xst4 (Nat.le_of_ble_eq_true rfl)) xsame.rf.le xsame.rf.lim dX3_costOfTurn_75 ?_
      refine ww_iconst (pc := 78) (v := (1 : Int32)) C dX3_costOfTurn_78 (by decide) ?_
      refine ww_icmp_ne (pc := 79) (tgt := 87) C dX3_costOfTurn_79 (by decide) (fun q => ?_) (fun q => ?_)
      · have hf := xin q hf
        refine ww_iload (pc := 87) C 0 dX3_costOfTurn_87 rfl ?_
        refine ww_ineg (pc := 89) C dX3_costOfTurn_89 ?_
        refine ww_iadd (pc := 90) C dX3_costOfTurn_90 ?_
        refine ww_istore (pc := 91) (lv' := [(4, .int (x4 + (-v15))), (7, .int v15), (0, .ref (gB G + r0)), (1, .ref (gB G + r1)), (2, .int x2), (3, .int x3), (5, .int x5), (6, .int x6)]) C dX3_costOfTurn_91 (by decide) rfl ?_
        refine ww_iinc (pc := 93) (v := x6 + (1 : Int32)) (lv' := [(6, .int (x6 + (1 : Int32))), (4, .int (x4 + (-v15))), (7, .int v15), (0, .ref (gB G + r0)), (1, .ref (gB G + r1)), (2, .int x2), (3, .int x3), (5, .int x5)]) C 7 dX3_costOfTurn_93 rfl (congrArg (fun z => x6 + z) (show Int32.ofInt (1) = (1 : Int32) by decide)) (by decide) rfl ?_
        refine ww_goto (pc := 96) (tgt := 28) C dX3_costOfTurn_96 (by decide) ?_
        have hf := xsj hf
        subst hf
        refine ww_sub [3, 4, 5, 6, 1, 7, 0] rfl ?_
        exact hk.1 (x4 + (-v15), x6 + (1 : Int32)) rfl
      · have hf := xip q hf
        refine ww_iload (pc := 82) C 0 dX3_costOfTurn_82 rfl ?_
        refine ww_goto (pc := 84) (tgt := 90) C dX3_costOfTurn_84 (by decide) ?_
        refine ww_iadd (pc := 90) C dX3_costOfTurn_90 ?_
        refine ww_istore (pc := 91) (lv' := [(4, .int (x4 + v15)), (7, .int v15), (0, .ref (gB G + r0)), (1, .ref (gB G + r1)), (2, .int x2), (3, .int x3), (5, .int x5), (6, .int x6)]) C dX3_costOfTurn_91 (by decide) rfl ?_
        refine ww_iinc (pc := 93) (v := x6 + (1 : Int32)) (lv' := [(6, .int (x6 + (1 : Int32))), (4, .int (x4 + v15)), (7, .int v15), (0, .ref (gB G + r0)), (1, .ref (gB G + r1)), (2, .int x2), (3, .int x3), (5, .int x5)]) C 7 dX3_costOfTurn_93 rfl (congrArg (fun z => x6 + z) (show Int32.ofInt (1) = (1 : Int32) by decide)) (by decide) rfl ?_
        refine ww_goto (pc := 96) (tgt := 28) C dX3_costOfTurn_96 (by decide) ?_
        have hf := xsj hf
        subst hf
        refine ww_sub [3, 4, 5, 6, 1, 7, 0] rfl ?_
        exact hk.1 (x4 + v15, x6 + (1 : Int32)) rfl
theorem s_X3_costOfTurn_e {G : XG} (C : XC G cX3_costOfTurn RX3 (some .int) 8 1 21) {σ : XS} {r0 : Nat} {r1 : Nat} {x2 : Int32} {x3 : Int32} {x : Int32} (hf : f_X3_costOfTurn σ r0 r1 x2 x3 = some x) (hk : XEnd G (some (.int x)) σ) : WW G 0 [(0, .ref (gB G + r0)), (1, .ref (gB G + r1)), (2, .int x2), (3, .int x3)] [] σ := by
  refine ww_iload_n (pc := 0) C 3 dX3_costOfTurn_0 rfl ?_
  refine ww_if_lt (pc := 1) (tgt := 10) C dX3_costOfTurn_1 (by decide) (fun q => ?_) (fun q => ?_)
  · have hf := xip q hf
    refine ww_iconst (pc := 10) (v := (0 : Int32)) C dX3_costOfTurn_10 (by decide) ?_
    have hf := xsj hf
    subst hf
    exact ww_iret (pc := 11) C hk dX3_costOfTurn_11
  · have hf := xin q hf
    refine ww_iload_n (pc := 4) C 3 dX3_costOfTurn_4 rfl ?_
    refine ww_bipush (pc := 5) (v := (16 : Int32)) C dX3_costOfTurn_5 (by decide) ?_
    refine ww_icmp_lt (pc := 7) (tgt := 12) C dX3_costOfTurn_7 (by decide) (fun q => ?_) (fun q => ?_)
    · have hf := xip q hf
      refine ww_aload_n (pc := 12) C 1 dX3_costOfTurn_12 rfl ?_
      refine ww_iload_n (pc := 13) C 3 dX3_costOfTurn_13 rfl ?_
      obtain ⟨_, e1, hf⟩ := xbd hf
      obtain ⟨v3, e2, hf⟩ := xbd hf
      refine ww_callVi (pc := 14) (as := [.int x3]) (st := []) C (k_X6_fieldAt (l := gl G) (E := gE G) (hb := gB G) (σ := σ) e2) rfl (by decide) xc_X3_75 q728 qp41 (xck_spec e1) rfl (by decide) (xst4 (Nat.le_of_ble_eq_true rfl)) xsame.rf.le xsame.rf.lim dX3_costOfTurn_14 ?_
      refine ww_istore (pc := 17) (lv' := [(4, .int v3), (0, .ref (gB G + r0)), (1, .ref (gB G + r1)), (2, .int x2), (3, .int x3)]) C dX3_costOfTurn_17 (by decide) rfl ?_
      refine ww_iconst (pc := 19) (v := (4 : Int32)) C dX3_costOfTurn_19 (by decide) ?_
      refine ww_iload_n (pc := 20) C 4 dX3_costOfTurn_20 rfl ?_
      refine ww_imul (pc := 21) C dX3_costOfTurn_21 ?_
      refine ww_istore (pc := 22) (lv' := [(5, .int ((4 : Int32) * x3)), (4, .int v3), (0, .ref (gB G + r0)), (1, .ref (gB G + r1)), (2, .int x2), (3, .int x3)]) C dX3_costOfTurn_22 (by decide) rfl ?_
      refine ww_iload (pc := 24) C 0 dX3_costOfTurn_24 rfl ?_
      refine ww_istore (pc := 26) (lv' := [(6, .int ((4 : Int32) * x3)), (5, .int ((4 : Int32) * x3)), (4, .int v3), (0, .ref (gB G + r0)), (1, .ref (gB G + r1)), (2, .int x2), (3, .int x3)]) C dX3_costOfTurn_26 (by decide) rfl ?_
      refine ww_sub [3, 4, 5, 6, 2, 1, 0] rfl ?_
      exact s_X3_costOfTurn_l28 C (a := (v3, (4 : Int32) * x3)) hf hk
    · have hf := xin q hf
      refine ww_iconst (pc := 10) (v := (0 : Int32)) C dX3_costOfTurn_10 (by decide) ?_
      have hf := xsj hf
      subst hf
      exact ww_iret (pc := 11) C hk dX3_costOfTurn_11
theorem k_X3_costOfTurn {l : Launch} {E : XD} {hb : Nat} {σ : XS} {r0 : Nat} {r1 : Nat} {x2 : Int32} {x3 : Int32} {x : Int32} (h : f_X3_costOfTurn σ r0 r1 x2 x3 = some x) : XM l yX3_costOfTurn cX3_costOfTurn 8 (some .int) 1 21 E hb [.ref (hb + r0), .ref (hb + r1), .int x2, .int x3] σ (some (.int x)) σ := by
  refine xm_of (by decide) (Nat.le_of_ble_eq_true rfl) ⟨Nat.le_refl _, Nat.le_refl _⟩ (fun G hG C hl hQ => ?_)
  obtain ⟨rfl, rfl, rfl, hN⟩ := hG
  exact s_X3_costOfTurn_e C h hQ
noncomputable def f_X6_isPinned (σ : XS) (r0 : Nat) (x1 : Int32) : Option Int32 := (xgI σ r0 6 2).bind fun v2 => (f_X11_bitOf v2 x1).bind fun v4 => if v4 = (1 : Int32) then (some (1 : Int32)) else some (0 : Int32)
theorem s_X6_isPinned_e {G : XG} (C : XC G cX6_isPinned RX6 (some .boolean) 2 1 21) {σ : XS} {r0 : Nat} {x1 : Int32} {x : Int32} (hf : f_X6_isPinned σ r0 x1 = some x) (hk : XEnd G (some (.int x)) σ) : WW G 0 [(0, .ref (gB G + r0)), (1, .int x1)] [] σ := by
  refine ww_aload_n (pc := 0) C 0 dX6_isPinned_0 rfl ?_
  obtain ⟨v2, e1, hf⟩ := xbd hf
  refine gf_X6_24 (pc := 1) C e1 dX6_isPinned_1 ?_
  refine ww_iload_n (pc := 4) C 1 dX6_isPinned_4 rfl ?_
  obtain ⟨v4, e3, hf⟩ := xbd hf
  refine ww_callSi (pc := 5) (as := [.int v2, .int x1]) (st := []) C (k_X11_bitOf (l := gl G) (E := gE G) (hb := gB G) (σ := σ) e3) xc_X6_49 q655 rfl (by decide) (xst4 (Nat.le_of_ble_eq_true rfl)) xsame.rf.le xsame.rf.lim dX6_isPinned_5 ?_
  refine ww_iconst (pc := 8) (v := (1 : Int32)) C dX6_isPinned_8 (by decide) ?_
  refine ww_icmp_ne (pc := 9) (tgt := 16) C dX6_isPinned_9 (by decide) (fun q => ?_) (fun q => ?_)
  · have hf := xin q hf
    refine ww_iconst (pc := 16) (v := (0 : Int32)) C dX6_isPinned_16 (by decide) ?_
    have hf := xsj hf
    subst hf
    exact ww_zret (pc := 17) C rfl hk dX6_isPinned_17
  · have hf := xip q hf
    refine ww_iconst (pc := 12) (v := (1 : Int32)) C dX6_isPinned_12 (by decide) ?_
    refine ww_goto (pc := 13) (tgt := 17) C dX6_isPinned_13 (by decide) ?_
    have hf := xsj hf
    subst hf
    exact ww_zret (pc := 17) C rfl hk dX6_isPinned_17
theorem k_X6_isPinned {l : Launch} {E : XD} {hb : Nat} {σ : XS} {r0 : Nat} {x1 : Int32} {x : Int32} (h : f_X6_isPinned σ r0 x1 = some x) : XM l yX6_isPinned cX6_isPinned 2 (some .boolean) 1 21 E hb [.ref (hb + r0), .int x1] σ (some (.int x)) σ := by
  refine xm_of (by decide) (Nat.le_of_ble_eq_true rfl) ⟨Nat.le_refl _, Nat.le_refl _⟩ (fun G hG C hl hQ => ?_)
  obtain ⟨rfl, rfl, rfl, hN⟩ := hG
  exact s_X6_isPinned_e C h hQ
noncomputable def f_X3_steepest_b8 (σ : XS) (r0 : Nat) (r1 : Nat) (x2 : Int32) : Int32 × Int32 × Int32 → Option ((Int32 × Int32 × Int32) ⊕ (Int32)) := fun a => match a with
  | (x3, x4, x5) => (xgI σ r0 3 7).bind fun v2 => if v2 ≤ x5 then ((some x3).map .inr) else (xck σ r0 3).bind fun _ => (f_X3_costOfTurn σ r0 r1 x2 x5).bind fun v5 => if x4 ≤ v5 then (some (.inl (x3, x4, x5 + (1 : Int32)))) else (xck σ r1 6).bind fun _ => (f_X6_isPinned σ r1 x5).bind fun v8 => if v8 = 0 then (some (.inl (x5, v5, x5 + (1 : Int32)))) else some (.inl (x3, x4, x5 + (1 : Int32)))
noncomputable def f_X3_steepest (σ : XS) (r0 : Nat) (r1 : Nat) (x2 : Int32) : Option Int32 := xloop (f_X3_steepest_b8 σ r0 r1 x2) ((-1 : Int32), (0 : Int32), (0 : Int32))
theorem s_X3_steepest_l8 {G : XG} (C : XC G cX3_steepest RX3 (some .int) 7 2 48) {σ : XS} {r0 : Nat} {r1 : Nat} {x2 : Int32} {a : Int32 × Int32 × Int32} {x : Int32} (hf : xloop (f_X3_steepest_b8 σ r0 r1 x2) a = some x) (hk : XEnd G (some (.int x)) σ) : WW G 8 [(0, .ref (gB G + r0)), (1, .ref (gB G + r1)), (2, .int x2), (3, .int a.1), (4, .int a.2.1), (5, .int a.2.2)] [] σ := by
  refine xloop_ind (P := fun a => WW G 8 [(0, .ref (gB G + r0)), (1, .ref (gB G + r1)), (2, .int x2), (3, .int a.1), (4, .int a.2.1), (5, .int a.2.2)] [] σ) (fun a y hf hc he => ?_) hf
  obtain ⟨x3, x4, x5⟩ := a
  have hk : (∀ a' : Int32 × Int32 × Int32, y = .inl a' → WW G 8 [(0, .ref (gB G + r0)), (1, .ref (gB G + r1)), (2, .int x2), (3, .int a'.1), (4, .int a'.2.1), (5, .int a'.2.2)] [] σ) ∧ (∀ b1 : Int32, y = .inr b1 → XEnd G (some (.int b1)) σ) := ⟨hc, fun b e => by have h9 := he b e; subst h9; exact hk⟩
  refine ww_iload (pc := 8) C 5 dX3_steepest_8 rfl ?_
  refine ww_aload_n (pc := 10) C 0 dX3_steepest_10 rfl ?_
  obtain ⟨v2, e1, hf⟩ := xbd hf
  refine gf_X3_40 (pc := 11) C e1 dX3_steepest_11 ?_
  refine ww_icmp_ge (pc := 14) (tgt := 56) C dX3_steepest_14 (by decide) (fun q => ?_) (fun q => ?_)
  · have hf := xip q hf
    obtain ⟨b0, hg, e9⟩ := xmj hf
    subst e9
    have hf := hg
    have hk := hk.2 _ rfl
    refine ww_iload_n (pc := 56) C 3 dX3_steepest_56 rfl ?_
    have hf := xsj hf
    subst hf
    exact ww_iret (pc := 57) C hk dX3_steepest_57
  · have hf := xin q hf
    refine ww_aload_n (pc := 17) C 0 dX3_steepest_17 rfl ?_
    refine ww_aload_n (pc := 18) C 1 dX3_steepest_18 rfl ?_
    refine ww_iload_n (pc := 19) C 2 dX3_steepest_19 rfl ?_
    refine ww_iload (pc := 20) C 5 dX3_steepest_20 rfl ?_
    obtain ⟨_, e3, hf⟩ := xbd hf
    obtain ⟨v5, e4, hf⟩ := xbd hf
    refine ww_callVi (pc := 22) (as := [.ref (gB G + r1), .int x2, .int x5]) (st := []) C (k_X3_costOfTurn (l := gl G) (E := gE G) (hb := gB G) (σ := σ) e4) rfl (by decide) xc_X3_78 q783 qp47 (xck_spec e3) rfl (by decide) (xst4 (Nat.le_of_ble_eq_true rfl)) xsame.rf.le xsame.rf.lim dX3_steepest_22 ?_
    refine ww_istore (pc := 25) (lv' := [(6, .int v5), (0, .ref (gB G + r0)), (1, .ref (gB G + r1)), (2, .int x2), (3, .int x3), (4, .int x4), (5, .int x5)]) C dX3_steepest_25 (by decide) rfl ?_
    refine ww_iload (pc := 27) C 0 dX3_steepest_27 rfl ?_
    refine ww_iload (pc := 29) C 5 dX3_steepest_29 rfl ?_
    refine ww_icmp_ge (pc := 31) (tgt := 50) C dX3_steepest_31 (by decide) (fun q => ?_) (fun q => ?_)
    · have hf := xip q hf
      refine ww_iinc (pc := 50) (v := x5 + (1 : Int32)) (lv' := [(5, .int (x5 + (1 : Int32))), (6, .int v5), (0, .ref (gB G + r0)), (1, .ref (gB G + r1)), (2, .int x2), (3, .int x3), (4, .int x4)]) C 6 dX3_steepest_50 rfl (congrArg (fun z => x5 + z) (show Int32.ofInt (1) = (1 : Int32) by decide)) (by decide) rfl ?_
      refine ww_goto (pc := 53) (tgt := 8) C dX3_steepest_53 (by decide) ?_
      have hf := xsj hf
      subst hf
      refine ww_sub [2, 3, 4, 5, 6, 0] rfl ?_
      exact hk.1 (x3, x4, x5 + (1 : Int32)) rfl
    · have hf := xin q hf
      refine ww_aload_n (pc := 34) C 2 dX3_steepest_34 rfl ?_
      refine ww_iload (pc := 35) C 6 dX3_steepest_35 rfl ?_
      obtain ⟨_, e6, hf⟩ := xbd hf
      obtain ⟨v8, e7, hf⟩ := xbd hf
      refine ww_callVi (pc := 37) (as := [.int x5]) (st := []) C (k_X6_isPinned (l := gl G) (E := gE G) (hb := gB G) (σ := σ) e7) rfl (by decide) xc_X3_82 q741 qp43 (xck_spec e6) rfl (by decide) (xst4 (Nat.le_of_ble_eq_true rfl)) xsame.rf.le xsame.rf.lim dX3_steepest_37 ?_
      refine ww_if_ne (pc := 40) (tgt := 50) C dX3_steepest_40 (by decide) (fun q => ?_) (fun q => ?_)
      · have hf := xin q hf
        refine ww_iinc (pc := 50) (v := x5 + (1 : Int32)) (lv' := [(5, .int (x5 + (1 : Int32))), (6, .int v5), (0, .ref (gB G + r0)), (1, .ref (gB G + r1)), (2, .int x2), (3, .int x3), (4, .int x4)]) C 6 dX3_steepest_50 rfl (congrArg (fun z => x5 + z) (show Int32.ofInt (1) = (1 : Int32) by decide)) (by decide) rfl ?_
        refine ww_goto (pc := 53) (tgt := 8) C dX3_steepest_53 (by decide) ?_
        have hf := xsj hf
        subst hf
        refine ww_sub [2, 3, 4, 5, 6, 0] rfl ?_
        exact hk.1 (x3, x4, x5 + (1 : Int32)) rfl
      · have hf := xip q hf
        refine ww_iload (pc := 43) C 0 dX3_steepest_43 rfl ?_
        refine ww_istore (pc := 45) (lv' := [(4, .int v5), (6, .int v5), (0, .ref (gB G + r0)), (1, .ref (gB G + r1)), (2, .int x2), (3, .int x3), (5, .int x5)]) C dX3_steepest_45 (by decide) rfl ?_
        refine ww_iload (pc := 47) C 6 dX3_steepest_47 rfl ?_
        refine ww_istore_n (pc := 49) (lv' := [(3, .int x5), (4, .int v5), (6, .int v5), (0, .ref (gB G + r0)), (1, .ref (gB G + r1)), (2, .int x2), (5, .int x5)]) C dX3_steepest_49 (by decide) rfl ?_
        refine ww_iinc (pc := 50) (v := x5 + (1 : Int32)) (lv' := [(5, .int (x5 + (1 : Int32))), (3, .int x5), (4, .int v5), (6, .int v5), (0, .ref (gB G + r0)), (1, .ref (gB G + r1)), (2, .int x2)]) C 6 dX3_steepest_50 rfl (congrArg (fun z => x5 + z) (show Int32.ofInt (1) = (1 : Int32) by decide)) (by decide) rfl ?_
        refine ww_goto (pc := 53) (tgt := 8) C dX3_steepest_53 (by decide) ?_
        have hf := xsj hf
        subst hf
        refine ww_sub [4, 5, 6, 1, 2, 0] rfl ?_
        exact hk.1 (x5, v5, x5 + (1 : Int32)) rfl
theorem s_X3_steepest_e {G : XG} (C : XC G cX3_steepest RX3 (some .int) 7 2 48) {σ : XS} {r0 : Nat} {r1 : Nat} {x2 : Int32} {x : Int32} (hf : f_X3_steepest σ r0 r1 x2 = some x) (hk : XEnd G (some (.int x)) σ) : WW G 0 [(0, .ref (gB G + r0)), (1, .ref (gB G + r1)), (2, .int x2)] [] σ := by
  refine ww_iconst (pc := 0) (v := (-1 : Int32)) C dX3_steepest_0 (by decide) ?_
  refine ww_istore_n (pc := 1) (lv' := [(3, .int (-1 : Int32)), (0, .ref (gB G + r0)), (1, .ref (gB G + r1)), (2, .int x2)]) C dX3_steepest_1 (by decide) rfl ?_
  refine ww_iconst (pc := 2) (v := (0 : Int32)) C dX3_steepest_2 (by decide) ?_
  refine ww_istore (pc := 3) (lv' := [(4, .int (0 : Int32)), (3, .int (-1 : Int32)), (0, .ref (gB G + r0)), (1, .ref (gB G + r1)), (2, .int x2)]) C dX3_steepest_3 (by decide) rfl ?_
  refine ww_iconst (pc := 5) (v := (0 : Int32)) C dX3_steepest_5 (by decide) ?_
  refine ww_istore (pc := 6) (lv' := [(5, .int (0 : Int32)), (4, .int (0 : Int32)), (3, .int (-1 : Int32)), (0, .ref (gB G + r0)), (1, .ref (gB G + r1)), (2, .int x2)]) C dX3_steepest_6 (by decide) rfl ?_
  refine ww_sub [3, 4, 5, 2, 1, 0] rfl ?_
  exact s_X3_steepest_l8 C (a := ((-1 : Int32), (0 : Int32), (0 : Int32))) hf hk
theorem k_X3_steepest {l : Launch} {E : XD} {hb : Nat} {σ : XS} {r0 : Nat} {r1 : Nat} {x2 : Int32} {x : Int32} (h : f_X3_steepest σ r0 r1 x2 = some x) : XM l yX3_steepest cX3_steepest 7 (some .int) 2 48 E hb [.ref (hb + r0), .ref (hb + r1), .int x2] σ (some (.int x)) σ := by
  refine xm_of (by decide) (Nat.le_of_ble_eq_true rfl) ⟨Nat.le_refl _, Nat.le_refl _⟩ (fun G hG C hl hQ => ?_)
  obtain ⟨rfl, rfl, rfl, hN⟩ := hG
  exact s_X3_steepest_e C h hQ
noncomputable def f_X10_fallFrom_b24 (r0 : Nat) (r1 : Nat) (r2 : Nat) : Int32 × Int32 × XS → Option ((Int32 × Int32 × XS) ⊕ (XS)) := fun a => match a with
  | (x4, x5, σ) => if (289 : Int32) ≤ x5 then ((some σ).map .inr) else if x4 = (-1 : Int32) then ((some σ).map .inr) else (xgI σ r0 10 0).bind fun v2 => (xpI σ r0 10 0 (v2 ^^^ ((1 : Int32) <<< (x4 &&& 31)))).bind fun σ4 => (xgI σ4 r0 10 1).bind fun v6 => (xpI σ4 r0 10 1 (v6 + (1 : Int32))).bind fun σ8 => (xgI σ8 r0 10 0).bind fun v10 => (xck σ8 r1 3).bind fun _ => (f_X3_steepest σ8 r1 r2 v10).bind fun v13 => some (.inl (v13, x5 + (1 : Int32), σ8))
noncomputable def f_X10_fallFrom (σ : XS) (r0 : Nat) (r1 : Nat) (r2 : Nat) (x3 : Int32) : Option XS := (xpI σ r0 10 0 x3).bind fun σ2 => (xpI σ2 r0 10 1 (0 : Int32)).bind fun σ4 => (xgI σ4 r0 10 0).bind fun v6 => (xck σ4 r1 3).bind fun _ => (f_X3_steepest σ4 r1 r2 v6).bind fun v9 => xloop (f_X10_fallFrom_b24 r0 r1 r2) (v9, (0 : Int32), σ4)
theorem m_X10_fallFrom_l24 {r0 : Nat} {r1 : Nat} {r2 : Nat} {a : Int32 × Int32 × XS} {x : XS} (hf : xloop (f_X10_fallFrom_b24 r0 r1 r2) a = some x) : xsame a.2.2 x := by
  refine xloop_ind (P := fun a => xsame a.2.2 x) (fun a y hf hc he => ?_) hf
  obtain ⟨x4, x5, σ⟩ := a
  have hy : (∀ a' : Int32 × Int32 × XS, y = .inl a' → xsame σ a'.2.2) ∧ (∀ b1 : XS, y = .inr b1 → xsame σ b1) := by
    have hm := xsame.rf (σ := σ)
    by_cases q : (289 : Int32) ≤ x5
    · have hf := xip q hf
      obtain ⟨b0, hg, e9⟩ := xmj hf
      subst e9
      have hf := hg
      refine ⟨fun a' e => xnc2 e, fun b e => ?_⟩
      have h9 := Sum.inr.inj e
      subst h9
      have hf := xsj hf
      subst hf
      exact hm
    · have hf := xin q hf
      by_cases q : x4 = (-1 : Int32)
      · have hf := xip q hf
        obtain ⟨b0, hg, e9⟩ := xmj hf
        subst e9
        have hf := hg
        refine ⟨fun a' e => xnc2 e, fun b e => ?_⟩
        have h9 := Sum.inr.inj e
        subst h9
        have hf := xsj hf
        subst hf
        exact hm
      · have hf := xin q hf
        obtain ⟨v2, e1, hf⟩ := xbd hf
        obtain ⟨σ4, e3, hf⟩ := xbd hf
        have hm := hm.tr (xpI_same e3)
        obtain ⟨v6, e5, hf⟩ := xbd hf
        obtain ⟨σ8, e7, hf⟩ := xbd hf
        have hm := hm.tr (xpI_same e7)
        obtain ⟨v10, e9, hf⟩ := xbd hf
        obtain ⟨_, e11, hf⟩ := xbd hf
        obtain ⟨v13, e12, hf⟩ := xbd hf
        have hf := xsj hf
        subst hf
        exact ⟨fun a' e => (by have h9 := Sum.inl.inj e; subst h9; exact hm), fun b e => xnc1 e⟩
  cases y with
  | inl a' =>
    have h1 := hc a' rfl
    have hm := hy.1 a' rfl
    exact hm.tr (h1)
  | inr b =>
    have h1 := he b rfl
    subst h1
    exact hy.2 _ rfl
theorem s_X10_fallFrom_l24 {G : XG} (C : XC G cX10_fallFrom RX10 none 6 3 74) {r0 : Nat} {r1 : Nat} {r2 : Nat} {a : Int32 × Int32 × XS} {x : XS} (hf : xloop (f_X10_fallFrom_b24 r0 r1 r2) a = some x) (hk : XEnd G none x) : WW G 24 [(0, .ref (gB G + r0)), (1, .ref (gB G + r1)), (2, .ref (gB G + r2)), (4, .int a.1), (5, .int a.2.1)] [] a.2.2 := by
  refine xloop_ind (P := fun a => WW G 24 [(0, .ref (gB G + r0)), (1, .ref (gB G + r1)), (2, .ref (gB G + r2)), (4, .int a.1), (5, .int a.2.1)] [] a.2.2) (fun a y hf hc he => ?_) hf
  obtain ⟨x4, x5, σ⟩ := a
  have hk : (∀ a' : Int32 × Int32 × XS, y = .inl a' → WW G 24 [(0, .ref (gB G + r0)), (1, .ref (gB G + r1)), (2, .ref (gB G + r2)), (4, .int a'.1), (5, .int a'.2.1)] [] a'.2.2) ∧ (∀ b1 : XS, y = .inr b1 → XEnd G none b1) := ⟨hc, fun b e => by have h9 := he b e; subst h9; exact hk⟩
  refine ww_iload (pc := 24) C 4 dX10_fallFrom_24 rfl ?_
  refine ww_sipush (pc := 26) (v := (289 : Int32)) C dX10_fallFrom_26 (by decide) ?_
  refine ww_icmp_ge (pc := 29) (tgt := 78) C dX10_fallFrom_29 (by decide) (fun q => ?_) (fun q => ?_)
  · have hf := xip q hf
    obtain ⟨b0, hg, e9⟩ := xmj hf
    subst e9
    have hf := hg
    have hk := hk.2 _ rfl
    have hf := xsj hf
    subst hf
    exact ww_vret (pc := 78) C hk dX10_fallFrom_78
  · have hf := xin q hf
    refine ww_iload (pc := 32) C 3 dX10_fallFrom_32 rfl ?_
    refine ww_iconst (pc := 34) (v := (-1 : Int32)) C dX10_fallFrom_34 (by decide) ?_
    refine ww_icmp_eq (pc := 35) (tgt := 78) C dX10_fallFrom_35 (by decide) (fun q => ?_) (fun q => ?_)
    · have hf := xip q hf
      obtain ⟨b0, hg, e9⟩ := xmj hf
      subst e9
      have hf := hg
      have hk := hk.2 _ rfl
      have hf := xsj hf
      subst hf
      exact ww_vret (pc := 78) C hk dX10_fallFrom_78
    · have hf := xin q hf
      refine ww_aload_n (pc := 38) C 0 dX10_fallFrom_38 rfl ?_
      refine ww_dup (pc := 39) C dX10_fallFrom_39 rfl ?_
      obtain ⟨v2, e1, hf⟩ := xbd hf
      refine gf_X10_9 (pc := 40) C e1 dX10_fallFrom_40 ?_
      refine ww_iconst (pc := 43) (v := (1 : Int32)) C dX10_fallFrom_43 (by decide) ?_
      refine ww_iload (pc := 44) C 3 dX10_fallFrom_44 rfl ?_
      refine ww_ishl (pc := 46) C dX10_fallFrom_46 ?_
      refine ww_ixor (pc := 47) C dX10_fallFrom_47 ?_
      obtain ⟨σ4, e3, hf⟩ := xbd hf
      refine pf_X10_9 (pc := 48) C e3 dX10_fallFrom_48 ?_
      refine ww_aload_n (pc := 51) C 0 dX10_fallFrom_51 rfl ?_
      refine ww_dup (pc := 52) C dX10_fallFrom_52 rfl ?_
      obtain ⟨v6, e5, hf⟩ := xbd hf
      refine gf_X10_15 (pc := 53) C e5 dX10_fallFrom_53 ?_
      refine ww_iconst (pc := 56) (v := (1 : Int32)) C dX10_fallFrom_56 (by decide) ?_
      refine ww_iadd (pc := 57) C dX10_fallFrom_57 ?_
      obtain ⟨σ8, e7, hf⟩ := xbd hf
      refine pf_X10_15 (pc := 58) C e7 dX10_fallFrom_58 ?_
      refine ww_aload_n (pc := 61) C 1 dX10_fallFrom_61 rfl ?_
      refine ww_aload_n (pc := 62) C 2 dX10_fallFrom_62 rfl ?_
      refine ww_aload_n (pc := 63) C 0 dX10_fallFrom_63 rfl ?_
      obtain ⟨v10, e9, hf⟩ := xbd hf
      refine gf_X10_9 (pc := 64) C e9 dX10_fallFrom_64 ?_
      obtain ⟨_, e11, hf⟩ := xbd hf
      obtain ⟨v13, e12, hf⟩ := xbd hf
      refine ww_callVi (pc := 67) (as := [.ref (gB G + r2), .int v10]) (st := []) C (k_X3_steepest (l := gl G) (E := gE G) (hb := gB G) (σ := σ8) e12) rfl (by decide) xc_X10_18 q779 qp46 (xck_spec e11) rfl (by decide) (xst4 (Nat.le_of_ble_eq_true rfl)) xsame.rf.le xsame.rf.lim dX10_fallFrom_67 ?_
      refine ww_istore (pc := 70) (lv' := [(4, .int v13), (0, .ref (gB G + r0)), (1, .ref (gB G + r1)), (2, .ref (gB G + r2)), (5, .int x5)]) C dX10_fallFrom_70 (by decide) rfl ?_
      refine ww_iinc (pc := 72) (v := x5 + (1 : Int32)) (lv' := [(5, .int (x5 + (1 : Int32))), (4, .int v13), (0, .ref (gB G + r0)), (1, .ref (gB G + r1)), (2, .ref (gB G + r2))]) C 4 dX10_fallFrom_72 rfl (congrArg (fun z => x5 + z) (show Int32.ofInt (1) = (1 : Int32) by decide)) (by decide) rfl ?_
      refine ww_goto (pc := 75) (tgt := 24) C dX10_fallFrom_75 (by decide) ?_
      have hf := xsj hf
      subst hf
      refine ww_sub [2, 3, 4, 1, 0] rfl ?_
      exact hk.1 (v13, x5 + (1 : Int32), σ8) rfl
theorem s_X10_fallFrom_e {G : XG} (C : XC G cX10_fallFrom RX10 none 6 3 74) {σ : XS} {r0 : Nat} {r1 : Nat} {r2 : Nat} {x3 : Int32} {x : XS} (hf : f_X10_fallFrom σ r0 r1 r2 x3 = some x) (hk : XEnd G none x) : WW G 0 [(0, .ref (gB G + r0)), (1, .ref (gB G + r1)), (2, .ref (gB G + r2)), (3, .int x3)] [] σ := by
  refine ww_aload_n (pc := 0) C 0 dX10_fallFrom_0 rfl ?_
  refine ww_iload_n (pc := 1) C 3 dX10_fallFrom_1 rfl ?_
  obtain ⟨σ2, e1, hf⟩ := xbd hf
  refine pf_X10_9 (pc := 2) C e1 dX10_fallFrom_2 ?_
  refine ww_aload_n (pc := 5) C 0 dX10_fallFrom_5 rfl ?_
  refine ww_iconst (pc := 6) (v := (0 : Int32)) C dX10_fallFrom_6 (by decide) ?_
  obtain ⟨σ4, e3, hf⟩ := xbd hf
  refine pf_X10_15 (pc := 7) C e3 dX10_fallFrom_7 ?_
  refine ww_aload_n (pc := 10) C 1 dX10_fallFrom_10 rfl ?_
  refine ww_aload_n (pc := 11) C 2 dX10_fallFrom_11 rfl ?_
  refine ww_aload_n (pc := 12) C 0 dX10_fallFrom_12 rfl ?_
  obtain ⟨v6, e5, hf⟩ := xbd hf
  refine gf_X10_9 (pc := 13) C e5 dX10_fallFrom_13 ?_
  obtain ⟨_, e7, hf⟩ := xbd hf
  obtain ⟨v9, e8, hf⟩ := xbd hf
  refine ww_callVi (pc := 16) (as := [.ref (gB G + r2), .int v6]) (st := []) C (k_X3_steepest (l := gl G) (E := gE G) (hb := gB G) (σ := σ4) e8) rfl (by decide) xc_X10_18 q779 qp46 (xck_spec e7) rfl (by decide) (xst4 (Nat.le_of_ble_eq_true rfl)) xsame.rf.le xsame.rf.lim dX10_fallFrom_16 ?_
  refine ww_istore (pc := 19) (lv' := [(4, .int v9), (0, .ref (gB G + r0)), (1, .ref (gB G + r1)), (2, .ref (gB G + r2)), (3, .int x3)]) C dX10_fallFrom_19 (by decide) rfl ?_
  refine ww_iconst (pc := 21) (v := (0 : Int32)) C dX10_fallFrom_21 (by decide) ?_
  refine ww_istore (pc := 22) (lv' := [(5, .int (0 : Int32)), (4, .int v9), (0, .ref (gB G + r0)), (1, .ref (gB G + r1)), (2, .ref (gB G + r2)), (3, .int x3)]) C dX10_fallFrom_22 (by decide) rfl ?_
  refine ww_sub [2, 3, 4, 1, 0] rfl ?_
  exact s_X10_fallFrom_l24 C (a := (v9, (0 : Int32), σ4)) hf hk
theorem m_X10_fallFrom {σ : XS} {r0 : Nat} {r1 : Nat} {r2 : Nat} {x3 : Int32} {x : XS} (hf : f_X10_fallFrom σ r0 r1 r2 x3 = some x) : xsame σ x := by
  have hm := xsame.rf (σ := σ)
  obtain ⟨σ2, e1, hf⟩ := xbd hf
  have hm := hm.tr (xpI_same e1)
  obtain ⟨σ4, e3, hf⟩ := xbd hf
  have hm := hm.tr (xpI_same e3)
  obtain ⟨v6, e5, hf⟩ := xbd hf
  obtain ⟨_, e7, hf⟩ := xbd hf
  obtain ⟨v9, e8, hf⟩ := xbd hf
  exact hm.tr (m_X10_fallFrom_l24 (a := (v9, (0 : Int32), σ4)) hf)
theorem k_X10_fallFrom {l : Launch} {E : XD} {hb : Nat} {σ : XS} {r0 : Nat} {r1 : Nat} {r2 : Nat} {x3 : Int32} {x : XS} (h : f_X10_fallFrom σ r0 r1 r2 x3 = some x) : XM l yX10_fallFrom cX10_fallFrom 6 none 3 74 E hb [.ref (hb + r0), .ref (hb + r1), .ref (hb + r2), .int x3] σ none x := by
  refine xm_of (by decide) (Nat.le_of_ble_eq_true rfl) (m_X10_fallFrom h).le (fun G hG C hl hQ => ?_)
  obtain ⟨rfl, rfl, rfl, hN⟩ := hG
  exact s_X10_fallFrom_e C h hQ
noncomputable def f_X10_init (r0 : Nat) : Option Unit := some ()
theorem s_X10_init_e {G : XG} (C : XC G cX10_init RX10 none 1 1 20) (hN : (gh G).name = "<init>") {σ : XS} {r0 : Nat} {x : Unit} (hf : f_X10_init r0 = some x) (hk : XEnd G none σ) : WW G 0 [(0, .ref (gB G + r0))] [] σ := by
  refine ww_aload_n (pc := 0) C 0 dX10_init_0 rfl ?_
  refine ww_objInit (pc := 1) C qo_X10_3 qoi qoc ⟨by decide, by decide⟩ dX10_init_1 ?_
  have hf := xsj hf
  subst hf
  exact ww_vret (pc := 4) C hk dX10_init_4
theorem k_X10_init {l : Launch} {E : XD} {hb : Nat} {σ : XS} {r0 : Nat} {x : Unit} (h : f_X10_init r0 = some x) : XM l yX10_init cX10_init 1 none 1 20 E hb [.ref (hb + r0)] σ none σ := by
  refine xm_of (by decide) (Nat.le_of_ble_eq_true rfl) ⟨Nat.le_refl _, Nat.le_refl _⟩ (fun G hG C hl hQ => ?_)
  obtain ⟨rfl, rfl, rfl, hN⟩ := hG
  exact s_X10_init_e C hN h hQ
noncomputable def f_X3_startOf (x0 : Int32) : Option Int32 := if (16 : Int32) ≤ x0 then (some (x0 - (16 : Int32))) else some x0
theorem s_X3_startOf_e {G : XG} (C : XC G cX3_startOf RX3 (some .int) 1 0 0) {σ : XS} {x0 : Int32} {x : Int32} (hf : f_X3_startOf x0 = some x) (hk : XEnd G (some (.int x)) σ) : WW G 0 [(0, .int x0)] [] σ := by
  refine ww_iload_n (pc := 0) C 0 dX3_startOf_0 rfl ?_
  refine ww_bipush (pc := 1) (v := (16 : Int32)) C dX3_startOf_1 (by decide) ?_
  refine ww_icmp_ge (pc := 3) (tgt := 10) C dX3_startOf_3 (by decide) (fun q => ?_) (fun q => ?_)
  · have hf := xip q hf
    refine ww_iload_n (pc := 10) C 0 dX3_startOf_10 rfl ?_
    refine ww_bipush (pc := 11) (v := (16 : Int32)) C dX3_startOf_11 (by decide) ?_
    refine ww_isub (pc := 13) C dX3_startOf_13 ?_
    have hf := xsj hf
    subst hf
    exact ww_iret (pc := 14) C hk dX3_startOf_14
  · have hf := xin q hf
    refine ww_iload_n (pc := 6) C 0 dX3_startOf_6 rfl ?_
    refine ww_goto (pc := 7) (tgt := 14) C dX3_startOf_7 (by decide) ?_
    have hf := xsj hf
    subst hf
    exact ww_iret (pc := 14) C hk dX3_startOf_14
theorem k_X3_startOf {l : Launch} {E : XD} {hb : Nat} {σ : XS} {x0 : Int32} {x : Int32} (h : f_X3_startOf x0 = some x) : XM l yX3_startOf cX3_startOf 1 (some .int) 0 0 E hb [.int x0] σ (some (.int x)) σ := by
  refine xm_of (by decide) (Nat.le_of_ble_eq_true rfl) ⟨Nat.le_refl _, Nat.le_refl _⟩ (fun G hG C hl hQ => ?_)
  obtain ⟨rfl, rfl, rfl, hN⟩ := hG
  exact s_X3_startOf_e C h hQ
noncomputable def f_X3_isAlike (σ : XS) (r0 : Nat) (x1 : Int32) (x2 : Int32) : Option Int32 := (f_X3_startOf x2).bind fun v2 => (f_X11_bitOf x1 v2).bind fun v4 => (xck σ r0 3).bind fun _ => (f_X3_endAt σ r0 x2).bind fun v7 => (f_X11_bitOf x1 v7).bind fun v9 => if v4 = v9 then (some (1 : Int32)) else some (0 : Int32)
theorem s_X3_isAlike_e {G : XG} (C : XC G cX3_isAlike RX3 (some .boolean) 3 1 21) {σ : XS} {r0 : Nat} {x1 : Int32} {x2 : Int32} {x : Int32} (hf : f_X3_isAlike σ r0 x1 x2 = some x) (hk : XEnd G (some (.int x)) σ) : WW G 0 [(0, .ref (gB G + r0)), (1, .int x1), (2, .int x2)] [] σ := by
  refine ww_iload_n (pc := 0) C 1 dX3_isAlike_0 rfl ?_
  refine ww_iload_n (pc := 1) C 2 dX3_isAlike_1 rfl ?_
  obtain ⟨v2, e1, hf⟩ := xbd hf
  refine ww_callSi (pc := 2) (as := [.int x2]) (st := [.int x1]) C (k_X3_startOf (l := gl G) (E := gE G) (hb := gB G) (σ := σ) e1) xc_X3_47 q628 rfl (by decide) (xst4 (Nat.le_of_ble_eq_true rfl)) xsame.rf.le xsame.rf.lim dX3_isAlike_2 ?_
  obtain ⟨v4, e3, hf⟩ := xbd hf
  refine ww_callSi (pc := 5) (as := [.int x1, .int v2]) (st := []) C (k_X11_bitOf (l := gl G) (E := gE G) (hb := gB G) (σ := σ) e3) xc_X3_62 q655 rfl (by decide) (xst4 (Nat.le_of_ble_eq_true rfl)) xsame.rf.le xsame.rf.lim dX3_isAlike_5 ?_
  refine ww_iload_n (pc := 8) C 1 dX3_isAlike_8 rfl ?_
  refine ww_aload_n (pc := 9) C 0 dX3_isAlike_9 rfl ?_
  refine ww_iload_n (pc := 10) C 2 dX3_isAlike_10 rfl ?_
  obtain ⟨_, e5, hf⟩ := xbd hf
  obtain ⟨v7, e6, hf⟩ := xbd hf
  refine ww_callVi (pc := 11) (as := [.int x2]) (st := [.int x1, .int v4]) C (k_X3_endAt (l := gl G) (E := gE G) (hb := gB G) (σ := σ) e6) rfl (by decide) xc_X3_59 q703 qp38 (xck_spec e5) rfl (by decide) (xst4 (Nat.le_of_ble_eq_true rfl)) xsame.rf.le xsame.rf.lim dX3_isAlike_11 ?_
  obtain ⟨v9, e8, hf⟩ := xbd hf
  refine ww_callSi (pc := 14) (as := [.int x1, .int v7]) (st := [.int v4]) C (k_X11_bitOf (l := gl G) (E := gE G) (hb := gB G) (σ := σ) e8) xc_X3_62 q655 rfl (by decide) (xst4 (Nat.le_of_ble_eq_true rfl)) xsame.rf.le xsame.rf.lim dX3_isAlike_14 ?_
  refine ww_icmp_ne (pc := 17) (tgt := 24) C dX3_isAlike_17 (by decide) (fun q => ?_) (fun q => ?_)
  · have hf := xin q hf
    refine ww_iconst (pc := 24) (v := (0 : Int32)) C dX3_isAlike_24 (by decide) ?_
    have hf := xsj hf
    subst hf
    exact ww_zret (pc := 25) C rfl hk dX3_isAlike_25
  · have hf := xip q hf
    refine ww_iconst (pc := 20) (v := (1 : Int32)) C dX3_isAlike_20 (by decide) ?_
    refine ww_goto (pc := 21) (tgt := 25) C dX3_isAlike_21 (by decide) ?_
    have hf := xsj hf
    subst hf
    exact ww_zret (pc := 25) C rfl hk dX3_isAlike_25
theorem k_X3_isAlike {l : Launch} {E : XD} {hb : Nat} {σ : XS} {r0 : Nat} {x1 : Int32} {x2 : Int32} {x : Int32} (h : f_X3_isAlike σ r0 x1 x2 = some x) : XM l yX3_isAlike cX3_isAlike 3 (some .boolean) 1 21 E hb [.ref (hb + r0), .int x1, .int x2] σ (some (.int x)) σ := by
  refine xm_of (by decide) (Nat.le_of_ble_eq_true rfl) ⟨Nat.le_refl _, Nat.le_refl _⟩ (fun G hG C hl hQ => ?_)
  obtain ⟨rfl, rfl, rfl, hN⟩ := hG
  exact s_X3_isAlike_e C h hQ
noncomputable def f_X3_energyOf_b60 (σ : XS) (r0 : Nat) (r1 : Nat) (x2 : Int32) : Int32 × Int32 → Option ((Int32 × Int32) ⊕ (Int32)) := fun a => match a with
  | (x3, x4) => (xgI σ r0 3 7).bind fun v2 => if v2 ≤ x4 then ((some x3).map .inr) else (f_X11_bitOf x2 x4).bind fun v4 => if v4 = (1 : Int32) then ((xck σ r1 6).bind fun _ => (f_X6_fieldAt σ r1 x4).bind fun v7 => some (.inl (x3 + (-v7), x4 + (1 : Int32)))) else (xck σ r1 6).bind fun _ => (f_X6_fieldAt σ r1 x4).bind fun v7 => some (.inl (x3 + v7, x4 + (1 : Int32)))
noncomputable def f_X3_energyOf_b5 (σ : XS) (r0 : Nat) (r1 : Nat) (x2 : Int32) : Int32 × Int32 → Option ((Int32 × Int32) ⊕ (Int32)) := fun a => match a with
  | (x3, x4) => if (32 : Int32) ≤ x4 then ((xloop (f_X3_energyOf_b60 σ r0 r1 x2) (x3, (0 : Int32))).map .inr) else (xck σ r0 3).bind fun _ => (f_X3_endAt σ r0 x4).bind fun v3 => if v3 = (-1 : Int32) then (some (.inl (x3, x4 + (1 : Int32)))) else (xck σ r0 3).bind fun _ => (f_X3_isAlike σ r0 x2 x4).bind fun v6 => if v6 = 0 then ((xck σ r1 6).bind fun _ => (f_X6_bondAt σ r1 x4).bind fun v9 => some (.inl (x3 + v9, x4 + (1 : Int32)))) else (xck σ r1 6).bind fun _ => (f_X6_bondAt σ r1 x4).bind fun v9 => some (.inl (x3 + (-v9), x4 + (1 : Int32)))
noncomputable def f_X3_energyOf (σ : XS) (r0 : Nat) (r1 : Nat) (x2 : Int32) : Option Int32 := xloop (f_X3_energyOf_b5 σ r0 r1 x2) ((0 : Int32), (0 : Int32))
theorem s_X3_energyOf_l60 {G : XG} (C : XC G cX3_energyOf RX3 (some .int) 5 2 43) {σ : XS} {r0 : Nat} {r1 : Nat} {x2 : Int32} {a : Int32 × Int32} {x : Int32} (hf : xloop (f_X3_energyOf_b60 σ r0 r1 x2) a = some x) (hk : XEnd G (some (.int x)) σ) : WW G 60 [(0, .ref (gB G + r0)), (1, .ref (gB G + r1)), (2, .int x2), (3, .int a.1), (4, .int a.2)] [] σ := by
  refine xloop_ind (P := fun a => WW G 60 [(0, .ref (gB G + r0)), (1, .ref (gB G + r1)), (2, .int x2), (3, .int a.1), (4, .int a.2)] [] σ) (fun a y hf hc he => ?_) hf
  obtain ⟨x3, x4⟩ := a
  have hk : (∀ a' : Int32 × Int32, y = .inl a' → WW G 60 [(0, .ref (gB G + r0)), (1, .ref (gB G + r1)), (2, .int x2), (3, .int a'.1), (4, .int a'.2)] [] σ) ∧ (∀ b1 : Int32, y = .inr b1 → XEnd G (some (.int b1)) σ) := ⟨hc, fun b e => by have h9 := he b e; subst h9; exact hk⟩
  refine ww_iload (pc := 60) C 4 dX3_energyOf_60 rfl ?_
  refine ww_aload_n (pc := 62) C 0 dX3_energyOf_62 rfl ?_
  obtain ⟨v2, e1, hf⟩ := xbd hf
  refine gf_X3_40 (pc := 63) C e1 dX3_energyOf_63 ?_
  refine ww_icmp_ge (pc := 66) (tgt := 104) C dX3_energyOf_66 (by decide) (fun q => ?_) (fun q => ?_)
  · have hf := xip q hf
    obtain ⟨b0, hg, e9⟩ := xmj hf
    subst e9
    have hf := hg
    have hk := hk.2 _ rfl
    refine ww_iload_n (pc := 104) C 3 dX3_energyOf_104 rfl ?_
    have hf := xsj hf
    subst hf
    exact ww_iret (pc := 105) C hk dX3_energyOf_105
  · have hf := xin q hf
    refine ww_iload_n (pc := 69) C 3 dX3_energyOf_69 rfl ?_
    refine ww_iload_n (pc := 70) C 2 dX3_energyOf_70 rfl ?_
    refine ww_iload (pc := 71) C 4 dX3_energyOf_71 rfl ?_
    obtain ⟨v4, e3, hf⟩ := xbd hf
    refine ww_callSi (pc := 73) (as := [.int x2, .int x4]) (st := [.int x3]) C (k_X11_bitOf (l := gl G) (E := gE G) (hb := gB G) (σ := σ) e3) xc_X3_62 q655 rfl (by decide) (xst4 (Nat.le_of_ble_eq_true rfl)) xsame.rf.le xsame.rf.lim dX3_energyOf_73 ?_
    refine ww_iconst (pc := 76) (v := (1 : Int32)) C dX3_energyOf_76 (by decide) ?_
    refine ww_icmp_ne (pc := 77) (tgt := 90) C dX3_energyOf_77 (by decide) (fun q => ?_) (fun q => ?_)
    · have hf := xin q hf
      refine ww_aload_n (pc := 90) C 1 dX3_energyOf_90 rfl ?_
      refine ww_iload (pc := 91) C 4 dX3_energyOf_91 rfl ?_
      obtain ⟨_, e5, hf⟩ := xbd hf
      obtain ⟨v7, e6, hf⟩ := xbd hf
      refine ww_callVi (pc := 93) (as := [.int x4]) (st := [.int x3]) C (k_X6_fieldAt (l := gl G) (E := gE G) (hb := gB G) (σ := σ) e6) rfl (by decide) xc_X3_75 q728 qp41 (xck_spec e5) rfl (by decide) (xst4 (Nat.le_of_ble_eq_true rfl)) xsame.rf.le xsame.rf.lim dX3_energyOf_93 ?_
      refine ww_iadd (pc := 96) C dX3_energyOf_96 ?_
      refine ww_istore_n (pc := 97) (lv' := [(3, .int (x3 + v7)), (0, .ref (gB G + r0)), (1, .ref (gB G + r1)), (2, .int x2), (4, .int x4)]) C dX3_energyOf_97 (by decide) rfl ?_
      refine ww_iinc (pc := 98) (v := x4 + (1 : Int32)) (lv' := [(4, .int (x4 + (1 : Int32))), (3, .int (x3 + v7)), (0, .ref (gB G + r0)), (1, .ref (gB G + r1)), (2, .int x2)]) C 4 dX3_energyOf_98 rfl (congrArg (fun z => x4 + z) (show Int32.ofInt (1) = (1 : Int32) by decide)) (by decide) rfl ?_
      refine ww_goto (pc := 101) (tgt := 60) C dX3_energyOf_101 (by decide) ?_
      have hf := xsj hf
      subst hf
      refine ww_sub [2, 3, 4, 1, 0] rfl ?_
      exact hk.1 (x3 + v7, x4 + (1 : Int32)) rfl
    · have hf := xip q hf
      refine ww_aload_n (pc := 80) C 1 dX3_energyOf_80 rfl ?_
      refine ww_iload (pc := 81) C 4 dX3_energyOf_81 rfl ?_
      obtain ⟨_, e5, hf⟩ := xbd hf
      obtain ⟨v7, e6, hf⟩ := xbd hf
      refine ww_callVi (pc := 83) (as := [.int x4]) (st := [.int x3]) C (k_X6_fieldAt (l := gl G) (E := gE G) (hb := gB G) (σ := σ) e6) rfl (by decide) xc_X3_75 q728 qp41 (xck_spec e5) rfl (by decide) (xst4 (Nat.le_of_ble_eq_true rfl)) xsame.rf.le xsame.rf.lim dX3_energyOf_83 ?_
      refine ww_ineg (pc := 86) C dX3_energyOf_86 ?_
      refine ww_goto (pc := 87) (tgt := 96) C dX3_energyOf_87 (by decide) ?_
      refine ww_iadd (pc := 96) C dX3_energyOf_96 ?_
      refine ww_istore_n (pc := 97) (lv' := [(3, .int (x3 + (-v7))), (0, .ref (gB G + r0)), (1, .ref (gB G + r1)), (2, .int x2), (4, .int x4)]) C dX3_energyOf_97 (by decide) rfl ?_
      refine ww_iinc (pc := 98) (v := x4 + (1 : Int32)) (lv' := [(4, .int (x4 + (1 : Int32))), (3, .int (x3 + (-v7))), (0, .ref (gB G + r0)), (1, .ref (gB G + r1)), (2, .int x2)]) C 4 dX3_energyOf_98 rfl (congrArg (fun z => x4 + z) (show Int32.ofInt (1) = (1 : Int32) by decide)) (by decide) rfl ?_
      refine ww_goto (pc := 101) (tgt := 60) C dX3_energyOf_101 (by decide) ?_
      have hf := xsj hf
      subst hf
      refine ww_sub [2, 3, 4, 1, 0] rfl ?_
      exact hk.1 (x3 + (-v7), x4 + (1 : Int32)) rfl
theorem s_X3_energyOf_l5 {G : XG} (C : XC G cX3_energyOf RX3 (some .int) 5 2 43) {σ : XS} {r0 : Nat} {r1 : Nat} {x2 : Int32} {a : Int32 × Int32} {x : Int32} (hf : xloop (f_X3_energyOf_b5 σ r0 r1 x2) a = some x) (hk : XEnd G (some (.int x)) σ) : WW G 5 [(0, .ref (gB G + r0)), (1, .ref (gB G + r1)), (2, .int x2), (3, .int a.1), (4, .int a.2)] [] σ := by
  refine xloop_ind (P := fun a => WW G 5 [(0, .ref (gB G + r0)), (1, .ref (gB G + r1)), (2, .int x2), (3, .int a.1), (4, .int a.2)] [] σ) (fun a y hf hc he => ?_) hf
  obtain ⟨x3, x4⟩ := a
  have hk : (∀ a' : Int32 × Int32, y = .inl a' → WW G 5 [(0, .ref (gB G + r0)), (1, .ref (gB G + r1)), (2, .int x2), (3, .int a'.1), (4, .int a'.2)] [] σ) ∧ (∀ b1 : Int32, y = .inr b1 → XEnd G (some (.int b1)) σ) := ⟨hc, fun b e => by have h9 := he b e; subst h9; exact hk⟩
  refine ww_iload (pc := 5) C 4 dX3_energyOf_5 rfl ?_
  refine ww_bipush (pc := 7) (v := (32 : Int32)) C dX3_energyOf_7 (by decide) ?_
  refine ww_icmp_ge (pc := 9) (tgt := 57) C dX3_energyOf_9 (by decide) (fun q => ?_) (fun q => ?_)
  · have hf := xip q hf
    obtain ⟨b0, hg, e9⟩ := xmj hf
    subst e9
    have hf := hg
    have hk := hk.2 _ rfl
    refine ww_iconst (pc := 57) (v := (0 : Int32)) C dX3_energyOf_57 (by decide) ?_
    refine ww_istore (pc := 58) (lv' := [(4, .int (0 : Int32)), (0, .ref (gB G + r0)), (1, .ref (gB G + r1)), (2, .int x2), (3, .int x3)]) C dX3_energyOf_58 (by decide) rfl ?_
    refine ww_sub [1, 2, 3, 4, 0] rfl ?_
    exact s_X3_energyOf_l60 C (a := (x3, (0 : Int32))) hf hk
  · have hf := xin q hf
    refine ww_aload_n (pc := 12) C 0 dX3_energyOf_12 rfl ?_
    refine ww_iload (pc := 13) C 4 dX3_energyOf_13 rfl ?_
    obtain ⟨_, e1, hf⟩ := xbd hf
    obtain ⟨v3, e2, hf⟩ := xbd hf
    refine ww_callVi (pc := 15) (as := [.int x4]) (st := []) C (k_X3_endAt (l := gl G) (E := gE G) (hb := gB G) (σ := σ) e2) rfl (by decide) xc_X3_59 q703 qp38 (xck_spec e1) rfl (by decide) (xst4 (Nat.le_of_ble_eq_true rfl)) xsame.rf.le xsame.rf.lim dX3_energyOf_15 ?_
    refine ww_iconst (pc := 18) (v := (-1 : Int32)) C dX3_energyOf_18 (by decide) ?_
    refine ww_icmp_eq (pc := 19) (tgt := 51) C dX3_energyOf_19 (by decide) (fun q => ?_) (fun q => ?_)
    · have hf := xip q hf
      refine ww_iinc (pc := 51) (v := x4 + (1 : Int32)) (lv' := [(4, .int (x4 + (1 : Int32))), (0, .ref (gB G + r0)), (1, .ref (gB G + r1)), (2, .int x2), (3, .int x3)]) C 4 dX3_energyOf_51 rfl (congrArg (fun z => x4 + z) (show Int32.ofInt (1) = (1 : Int32) by decide)) (by decide) rfl ?_
      refine ww_goto (pc := 54) (tgt := 5) C dX3_energyOf_54 (by decide) ?_
      have hf := xsj hf
      subst hf
      refine ww_sub [1, 2, 3, 4, 0] rfl ?_
      exact hk.1 (x3, x4 + (1 : Int32)) rfl
    · have hf := xin q hf
      refine ww_iload_n (pc := 22) C 3 dX3_energyOf_22 rfl ?_
      refine ww_aload_n (pc := 23) C 0 dX3_energyOf_23 rfl ?_
      refine ww_iload_n (pc := 24) C 2 dX3_energyOf_24 rfl ?_
      refine ww_iload (pc := 25) C 4 dX3_energyOf_25 rfl ?_
      obtain ⟨_, e4, hf⟩ := xbd hf
      obtain ⟨v6, e5, hf⟩ := xbd hf
      refine ww_callVi (pc := 27) (as := [.int x2, .int x4]) (st := [.int x3]) C (k_X3_isAlike (l := gl G) (E := gE G) (hb := gB G) (σ := σ) e5) rfl (by decide) xc_X3_66 q838 qp55 (xck_spec e4) rfl (by decide) (xst4 (Nat.le_of_ble_eq_true rfl)) xsame.rf.le xsame.rf.lim dX3_energyOf_27 ?_
      refine ww_if_eq (pc := 30) (tgt := 43) C dX3_energyOf_30 (by decide) (fun q => ?_) (fun q => ?_)
      · have hf := xip q hf
        refine ww_aload_n (pc := 43) C 1 dX3_energyOf_43 rfl ?_
        refine ww_iload (pc := 44) C 4 dX3_energyOf_44 rfl ?_
        obtain ⟨_, e7, hf⟩ := xbd hf
        obtain ⟨v9, e8, hf⟩ := xbd hf
        refine ww_callVi (pc := 46) (as := [.int x4]) (st := [.int x3]) C (k_X6_bondAt (l := gl G) (E := gE G) (hb := gB G) (σ := σ) e8) rfl (by decide) xc_X3_70 q710 qp39 (xck_spec e7) rfl (by decide) (xst4 (Nat.le_of_ble_eq_true rfl)) xsame.rf.le xsame.rf.lim dX3_energyOf_46 ?_
        refine ww_iadd (pc := 49) C dX3_energyOf_49 ?_
        refine ww_istore_n (pc := 50) (lv' := [(3, .int (x3 + v9)), (0, .ref (gB G + r0)), (1, .ref (gB G + r1)), (2, .int x2), (4, .int x4)]) C dX3_energyOf_50 (by decide) rfl ?_
        refine ww_iinc (pc := 51) (v := x4 + (1 : Int32)) (lv' := [(4, .int (x4 + (1 : Int32))), (3, .int (x3 + v9)), (0, .ref (gB G + r0)), (1, .ref (gB G + r1)), (2, .int x2)]) C 4 dX3_energyOf_51 rfl (congrArg (fun z => x4 + z) (show Int32.ofInt (1) = (1 : Int32) by decide)) (by decide) rfl ?_
        refine ww_goto (pc := 54) (tgt := 5) C dX3_energyOf_54 (by decide) ?_
        have hf := xsj hf
        subst hf
        refine ww_sub [2, 3, 4, 1, 0] rfl ?_
        exact hk.1 (x3 + v9, x4 + (1 : Int32)) rfl
      · have hf := xin q hf
        refine ww_aload_n (pc := 33) C 1 dX3_energyOf_33 rfl ?_
        refine ww_iload (pc := 34) C 4 dX3_energyOf_34 rfl ?_
        obtain ⟨_, e7, hf⟩ := xbd hf
        obtain ⟨v9, e8, hf⟩ := xbd hf
        refine ww_callVi (pc := 36) (as := [.int x4]) (st := [.int x3]) C (k_X6_bondAt (l := gl G) (E := gE G) (hb := gB G) (σ := σ) e8) rfl (by decide) xc_X3_70 q710 qp39 (xck_spec e7) rfl (by decide) (xst4 (Nat.le_of_ble_eq_true rfl)) xsame.rf.le xsame.rf.lim dX3_energyOf_36 ?_
        refine ww_ineg (pc := 39) C dX3_energyOf_39 ?_
        refine ww_goto (pc := 40) (tgt := 49) C dX3_energyOf_40 (by decide) ?_
        refine ww_iadd (pc := 49) C dX3_energyOf_49 ?_
        refine ww_istore_n (pc := 50) (lv' := [(3, .int (x3 + (-v9))), (0, .ref (gB G + r0)), (1, .ref (gB G + r1)), (2, .int x2), (4, .int x4)]) C dX3_energyOf_50 (by decide) rfl ?_
        refine ww_iinc (pc := 51) (v := x4 + (1 : Int32)) (lv' := [(4, .int (x4 + (1 : Int32))), (3, .int (x3 + (-v9))), (0, .ref (gB G + r0)), (1, .ref (gB G + r1)), (2, .int x2)]) C 4 dX3_energyOf_51 rfl (congrArg (fun z => x4 + z) (show Int32.ofInt (1) = (1 : Int32) by decide)) (by decide) rfl ?_
        refine ww_goto (pc := 54) (tgt := 5) C dX3_energyOf_54 (by decide) ?_
        have hf := xsj hf
        subst hf
        refine ww_sub [2, 3, 4, 1, 0] rfl ?_
        exact hk.1 (x3 + (-v9), x4 + (1 : Int32)) rfl
theorem s_X3_energyOf_e {G : XG} (C : XC G cX3_energyOf RX3 (some .int) 5 2 43) {σ : XS} {r0 : Nat} {r1 : Nat} {x2 : Int32} {x : Int32} (hf : f_X3_energyOf σ r0 r1 x2 = some x) (hk : XEnd G (some (.int x)) σ) : WW G 0 [(0, .ref (gB G + r0)), (1, .ref (gB G + r1)), (2, .int x2)] [] σ := by
  refine ww_iconst (pc := 0) (v := (0 : Int32)) C dX3_energyOf_0 (by decide) ?_
  refine ww_istore_n (pc := 1) (lv' := [(3, .int (0 : Int32)), (0, .ref (gB G + r0)), (1, .ref (gB G + r1)), (2, .int x2)]) C dX3_energyOf_1 (by decide) rfl ?_
  refine ww_iconst (pc := 2) (v := (0 : Int32)) C dX3_energyOf_2 (by decide) ?_
  refine ww_istore (pc := 3) (lv' := [(4, .int (0 : Int32)), (3, .int (0 : Int32)), (0, .ref (gB G + r0)), (1, .ref (gB G + r1)), (2, .int x2)]) C dX3_energyOf_3 (by decide) rfl ?_
  refine ww_sub [2, 3, 4, 1, 0] rfl ?_
  exact s_X3_energyOf_l5 C (a := ((0 : Int32), (0 : Int32))) hf hk
theorem k_X3_energyOf {l : Launch} {E : XD} {hb : Nat} {σ : XS} {r0 : Nat} {r1 : Nat} {x2 : Int32} {x : Int32} (h : f_X3_energyOf σ r0 r1 x2 = some x) : XM l yX3_energyOf cX3_energyOf 5 (some .int) 2 43 E hb [.ref (hb + r0), .ref (hb + r1), .int x2] σ (some (.int x)) σ := by
  refine xm_of (by decide) (Nat.le_of_ble_eq_true rfl) ⟨Nat.le_refl _, Nat.le_refl _⟩ (fun G hG C hl hQ => ?_)
  obtain ⟨rfl, rfl, rfl, hN⟩ := hG
  exact s_X3_energyOf_e C h hQ
noncomputable def f_X11_nextLot (w0 : Int64) : Option Int64 := some (((w0 * (1103515245 : Int64)) + (12345 : Int64)) - ((w0 * (1103515245 : Int64)) + (12345 : Int64)) / (2147483648 : Int64) * (2147483648 : Int64))
theorem s_X11_nextLot_e {G : XG} (C : XC G cX11_nextLot RX11 (some .long) 2 0 0) {σ : XS} {w0 : Int64} {x : Int64} (hf : f_X11_nextLot w0 = some x) (hk : XEnd G (some (.long x)) σ) : WW G 0 [(0, .long w0)] [] σ := by
  refine ww_lload_n (pc := 0) C 0 dX11_nextLot_0 rfl ?_
  refine ww_ldc2 (pc := 1) C q757 dX11_nextLot_1 ?_
  refine ww_lmul (pc := 4) C dX11_nextLot_4 ?_
  refine ww_ldc2 (pc := 5) C q758 dX11_nextLot_5 ?_
  refine ww_ladd (pc := 8) C dX11_nextLot_8 ?_
  refine ww_ldc2 (pc := 9) C q759 dX11_nextLot_9 ?_
  refine ww_lrem (pc := 12) C dX11_nextLot_12 (by decide) ?_
  have hf := xsj hf
  subst hf
  exact ww_lret (pc := 13) C hk dX11_nextLot_13
theorem k_X11_nextLot {l : Launch} {E : XD} {hb : Nat} {σ : XS} {w0 : Int64} {x : Int64} (h : f_X11_nextLot w0 = some x) : XM l yX11_nextLot cX11_nextLot 2 (some .long) 0 0 E hb [.long w0] σ (some (.long x)) σ := by
  refine xm_of (by decide) (Nat.le_of_ble_eq_true rfl) ⟨Nat.le_refl _, Nat.le_refl _⟩ (fun G hG C hl hQ => ?_)
  obtain ⟨rfl, rfl, rfl, hN⟩ := hG
  exact s_X11_nextLot_e C h hQ
noncomputable def f_X11_lotOf (w0 : Int64) (x2 : Int32) : Option Int32 := if x2 ≤ 0 then (some (0 : Int32)) else (xdZ x2.toInt64).bind fun _ => some (((w0 / (65536 : Int64)) - (w0 / (65536 : Int64)) / x2.toInt64 * x2.toInt64).toInt32)
theorem s_X11_lotOf_e {G : XG} (C : XC G cX11_lotOf RX11 (some .int) 3 0 0) {σ : XS} {w0 : Int64} {x2 : Int32} {x : Int32} (hf : f_X11_lotOf w0 x2 = some x) (hk : XEnd G (some (.int x)) σ) : WW G 0 [(0, .long w0), (2, .int x2)] [] σ := by
  refine ww_iload_n (pc := 0) C 1 dX11_lotOf_0 rfl ?_
  refine ww_if_le (pc := 1) (tgt := 16) C dX11_lotOf_1 (by decide) (fun q => ?_) (fun q => ?_)
  · have hf := xip q hf
    refine ww_iconst (pc := 16) (v := (0 : Int32)) C dX11_lotOf_16 (by decide) ?_
    have hf := xsj hf
    subst hf
    exact ww_iret (pc := 17) C hk dX11_lotOf_17
  · have hf := xin q hf
    refine ww_lload_n (pc := 4) C 0 dX11_lotOf_4 rfl ?_
    refine ww_ldc2 (pc := 5) C q763 dX11_lotOf_5 ?_
    refine ww_ldiv (pc := 8) C dX11_lotOf_8 (by decide) ?_
    refine ww_iload_n (pc := 9) C 1 dX11_lotOf_9 rfl ?_
    refine ww_i2l (pc := 10) (v := x2.toInt64) C dX11_lotOf_10 rfl ?_
    obtain ⟨_, e1, hf⟩ := xbd hf
    refine ww_lrem (pc := 11) C dX11_lotOf_11 (xdZ_spec e1) ?_
    refine ww_l2i (pc := 12) (v := ((w0 / (65536 : Int64)) - (w0 / (65536 : Int64)) / x2.toInt64 * x2.toInt64).toInt32) C dX11_lotOf_12 rfl ?_
    refine ww_goto (pc := 13) (tgt := 17) C dX11_lotOf_13 (by decide) ?_
    have hf := xsj hf
    subst hf
    exact ww_iret (pc := 17) C hk dX11_lotOf_17
theorem k_X11_lotOf {l : Launch} {E : XD} {hb : Nat} {σ : XS} {w0 : Int64} {x2 : Int32} {x : Int32} (h : f_X11_lotOf w0 x2 = some x) : XM l yX11_lotOf cX11_lotOf 3 (some .int) 0 0 E hb [.long w0, .int x2] σ (some (.int x)) σ := by
  refine xm_of (by decide) (Nat.le_of_ble_eq_true rfl) ⟨Nat.le_refl _, Nat.le_refl _⟩ (fun G hG C hl hQ => ?_)
  obtain ⟨rfl, rfl, rfl, hN⟩ := hG
  exact s_X11_lotOf_e C h hQ
noncomputable def f_X10_strollFrom_b40 (r0 : Nat) (r1 : Nat) (r2 : Nat) (x3 : Int32) (x4 : Int32) : Int32 × Int64 × Int32 × XS → Option ((Int32 × Int64 × Int32 × XS) ⊕ (XS)) := fun a => match a with
  | (x5, w6, x8, σ) => if x3 ≤ x8 then ((some σ).map .inr) else (f_X11_nextLot w6).bind fun v2 => (xgI σ r1 3 7).bind fun v4 => (f_X11_lotOf v2 v4).bind fun v6 => (f_X11_nextLot v2).bind fun v8 => (xgI σ r0 10 0).bind fun v10 => (xck σ r1 3).bind fun _ => (f_X3_costOfTurn σ r1 r2 v10 v6).bind fun v13 => (xck σ r2 6).bind fun _ => (f_X6_isPinned σ r2 v6).bind fun v16 => if v16 = 0 then ((f_X11_lotOf v8 (100 : Int32)).bind fun v18 => if ((100 : Int32) - (x4 * v13)) ≤ v18 then (some (.inl (x5, v8, x8 + (1 : Int32), σ))) else (xgI σ r0 10 0).bind fun v20 => (xpI σ r0 10 0 (v20 ^^^ ((1 : Int32) <<< (v6 &&& 31)))).bind fun σ22 => (xgI σ22 r0 10 1).bind fun v24 => (xpI σ22 r0 10 1 (v24 + (1 : Int32))).bind fun σ26 => (xgI σ26 r0 10 2).bind fun v28 => (xpI σ26 r0 10 2 (xmin v28 (x5 + v13))).bind fun σ30 => some (.inl (x5 + v13, v8, x8 + (1 : Int32), σ30))) else some (.inl (x5, v8, x8 + (1 : Int32), σ))
noncomputable def f_X10_strollFrom (σ : XS) (r0 : Nat) (r1 : Nat) (r2 : Nat) (x3 : Int32) (x4 : Int32) : Option XS := (xgI σ r2 6 4).bind fun v2 => (xpI σ r0 10 0 v2).bind fun σ4 => (xpI σ4 r0 10 1 (0 : Int32)).bind fun σ6 => (xgI σ6 r0 10 0).bind fun v8 => (xck σ6 r1 3).bind fun _ => (f_X3_energyOf σ6 r1 r2 v8).bind fun v11 => (xpI σ6 r0 10 2 v11).bind fun σ13 => (xgI σ13 r2 6 5).bind fun v15 => xloop (f_X10_strollFrom_b40 r0 r1 r2 x3 x4) (v11, v15.toInt64, (0 : Int32), σ13)
theorem m_X10_strollFrom_l40 {r0 : Nat} {r1 : Nat} {r2 : Nat} {x3 : Int32} {x4 : Int32} {a : Int32 × Int64 × Int32 × XS} {x : XS} (hf : xloop (f_X10_strollFrom_b40 r0 r1 r2 x3 x4) a = some x) : xsame a.2.2.2 x := by
  refine xloop_ind (P := fun a => xsame a.2.2.2 x) (fun a y hf hc he => ?_) hf
  obtain ⟨x5, w6, x8, σ⟩ := a
  have hy : (∀ a' : Int32 × Int64 × Int32 × XS, y = .inl a' → xsame σ a'.2.2.2) ∧ (∀ b1 : XS, y = .inr b1 → xsame σ b1) := by
    have hm := xsame.rf (σ := σ)
    by_cases q : x3 ≤ x8
    · have hf := xip q hf
      obtain ⟨b0, hg, e9⟩ := xmj hf
      subst e9
      have hf := hg
      refine ⟨fun a' e => xnc2 e, fun b e => ?_⟩
      have h9 := Sum.inr.inj e
      subst h9
      have hf := xsj hf
      subst hf
      exact hm
    · have hf := xin q hf
      obtain ⟨v2, e1, hf⟩ := xbd hf
      obtain ⟨v4, e3, hf⟩ := xbd hf
      obtain ⟨v6, e5, hf⟩ := xbd hf
      obtain ⟨v8, e7, hf⟩ := xbd hf
      obtain ⟨v10, e9, hf⟩ := xbd hf
      obtain ⟨_, e11, hf⟩ := xbd hf
      obtain ⟨v13, e12, hf⟩ := xbd hf
      obtain ⟨_, e14, hf⟩ := xbd hf
      obtain ⟨v16, e15, hf⟩ := xbd hf
      by_cases q : v16 = 0
      · have hf := xip q hf
        obtain ⟨v18, e17, hf⟩ := xbd hf
        by_cases q : ((100 : Int32) - (x4 * v13)) ≤ v18
        · have hf := xip q hf
          have hf := xsj hf
          subst hf
          exact ⟨fun a' e => (by have h9 := Sum.inl.inj e; subst h9; exact hm), fun b e => xnc1 e⟩
        · have hf := xin q hf
          obtain ⟨v20, e19, hf⟩ := xbd hf
          obtain ⟨σ22, e21, hf⟩ := xbd hf
          have hm := hm.tr (xpI_same e21)
          obtain ⟨v24, e23, hf⟩ := xbd hf
          obtain ⟨σ26, e25, hf⟩ := xbd hf
          have hm := hm.tr (xpI_same e25)
          obtain ⟨v28, e27, hf⟩ := xbd hf
          obtain ⟨σ30, e29, hf⟩ := xbd hf
          have hm := hm.tr (xpI_same e29)
          have hf := xsj hf
          subst hf
          exact ⟨fun a' e => (by have h9 := Sum.inl.inj e; subst h9; exact hm), fun b e => xnc1 e⟩
      · have hf := xin q hf
        have hf := xsj hf
        subst hf
        exact ⟨fun a' e => (by have h9 := Sum.inl.inj e; subst h9; exact hm), fun b e => xnc1 e⟩
  cases y with
  | inl a' =>
    have h1 := hc a' rfl
    have hm := hy.1 a' rfl
    exact hm.tr (h1)
  | inr b =>
    have h1 := he b rfl
    subst h1
    exact hy.2 _ rfl
theorem s_X10_strollFrom_l40 {G : XG} (C : XC G cX10_strollFrom RX10 none 11 3 67) {r0 : Nat} {r1 : Nat} {r2 : Nat} {x3 : Int32} {x4 : Int32} {a : Int32 × Int64 × Int32 × XS} {x : XS} (hf : xloop (f_X10_strollFrom_b40 r0 r1 r2 x3 x4) a = some x) (hk : XEnd G none x) : WW G 40 [(0, .ref (gB G + r0)), (1, .ref (gB G + r1)), (2, .ref (gB G + r2)), (3, .int x3), (4, .int x4), (5, .int a.1), (6, .long a.2.1), (8, .int a.2.2.1)] [] a.2.2.2 := by
  refine xloop_ind (P := fun a => WW G 40 [(0, .ref (gB G + r0)), (1, .ref (gB G + r1)), (2, .ref (gB G + r2)), (3, .int x3), (4, .int x4), (5, .int a.1), (6, .long a.2.1), (8, .int a.2.2.1)] [] a.2.2.2) (fun a y hf hc he => ?_) hf
  obtain ⟨x5, w6, x8, σ⟩ := a
  have hk : (∀ a' : Int32 × Int64 × Int32 × XS, y = .inl a' → WW G 40 [(0, .ref (gB G + r0)), (1, .ref (gB G + r1)), (2, .ref (gB G + r2)), (3, .int x3), (4, .int x4), (5, .int a'.1), (6, .long a'.2.1), (8, .int a'.2.2.1)] [] a'.2.2.2) ∧ (∀ b1 : XS, y = .inr b1 → XEnd G none b1) := ⟨hc, fun b e => by have h9 := he b e; subst h9; exact hk⟩
  refine ww_iload (pc := 40) C 7 dX10_strollFrom_40 rfl ?_
  refine ww_iload_n (pc := 42) C 3 dX10_strollFrom_42 rfl ?_
  refine ww_icmp_ge (pc := 43) (tgt := 160) C dX10_strollFrom_43 (by decide) (fun q => ?_) (fun q => ?_)
  · have hf := xip q hf
    obtain ⟨b0, hg, e9⟩ := xmj hf
    subst e9
    have hf := hg
    have hk := hk.2 _ rfl
    have hf := xsj hf
    subst hf
    exact ww_vret (pc := 160) C hk dX10_strollFrom_160
  · have hf := xin q hf
    refine ww_lload (pc := 46) C 6 dX10_strollFrom_46 rfl ?_
    obtain ⟨v2, e1, hf⟩ := xbd hf
    refine ww_callSj (pc := 48) (as := [.long w6]) (st := []) C (k_X11_nextLot (l := gl G) (E := gE G) (hb := gB G) (σ := σ) e1) xc_X10_36 q755 rfl (by decide) (xst4 (Nat.le_of_ble_eq_true rfl)) xsame.rf.le xsame.rf.lim dX10_strollFrom_48 ?_
    refine ww_lstore (pc := 51) (lv' := [(6, .long v2), (0, .ref (gB G + r0)), (1, .ref (gB G + r1)), (2, .ref (gB G + r2)), (3, .int x3), (4, .int x4), (5, .int x5), (8, .int x8)]) C dX10_strollFrom_51 (by decide) rfl ?_
    refine ww_lload (pc := 53) C 0 dX10_strollFrom_53 rfl ?_
    refine ww_aload_n (pc := 55) C 2 dX10_strollFrom_55 rfl ?_
    obtain ⟨v4, e3, hf⟩ := xbd hf
    refine gf_X10_40 (pc := 56) C e3 dX10_strollFrom_56 ?_
    obtain ⟨v6, e5, hf⟩ := xbd hf
    refine ww_callSi (pc := 59) (as := [.long v2, .int v4]) (st := []) C (k_X11_lotOf (l := gl G) (E := gE G) (hb := gB G) (σ := σ) e5) xc_X10_43 q761 rfl (by decide) (xst4 (Nat.le_of_ble_eq_true rfl)) xsame.rf.le xsame.rf.lim dX10_strollFrom_59 ?_
    refine ww_istore (pc := 62) (lv' := [(9, .int v6), (6, .long v2), (0, .ref (gB G + r0)), (1, .ref (gB G + r1)), (2, .ref (gB G + r2)), (3, .int x3), (4, .int x4), (5, .int x5), (8, .int x8)]) C dX10_strollFrom_62 (by decide) rfl ?_
    refine ww_lload (pc := 64) C 1 dX10_strollFrom_64 rfl ?_
    obtain ⟨v8, e7, hf⟩ := xbd hf
    refine ww_callSj (pc := 66) (as := [.long v2]) (st := []) C (k_X11_nextLot (l := gl G) (E := gE G) (hb := gB G) (σ := σ) e7) xc_X10_36 q755 rfl (by decide) (xst4 (Nat.le_of_ble_eq_true rfl)) xsame.rf.le xsame.rf.lim dX10_strollFrom_66 ?_
    refine ww_lstore (pc := 69) (lv' := [(6, .long v8), (9, .int v6), (0, .ref (gB G + r0)), (1, .ref (gB G + r1)), (2, .ref (gB G + r2)), (3, .int x3), (4, .int x4), (5, .int x5), (8, .int x8)]) C dX10_strollFrom_69 (by decide) rfl ?_
    refine ww_aload_n (pc := 71) C 3 dX10_strollFrom_71 rfl ?_
    refine ww_aload_n (pc := 72) C 4 dX10_strollFrom_72 rfl ?_
    refine ww_aload_n (pc := 73) C 2 dX10_strollFrom_73 rfl ?_
    obtain ⟨v10, e9, hf⟩ := xbd hf
    refine gf_X10_9 (pc := 74) C e9 dX10_strollFrom_74 ?_
    refine ww_iload (pc := 77) C 1 dX10_strollFrom_77 rfl ?_
    obtain ⟨_, e11, hf⟩ := xbd hf
    obtain ⟨v13, e12, hf⟩ := xbd hf
    refine ww_callVi (pc := 79) (as := [.ref (gB G + r2), .int v10, .int v6]) (st := []) C (k_X3_costOfTurn (l := gl G) (E := gE G) (hb := gB G) (σ := σ) e12) rfl (by decide) xc_X10_47 q783 qp47 (xck_spec e11) rfl (by decide) (xst4 (Nat.le_of_ble_eq_true rfl)) xsame.rf.le xsame.rf.lim dX10_strollFrom_79 ?_
    refine ww_istore (pc := 82) (lv' := [(10, .int v13), (6, .long v8), (9, .int v6), (0, .ref (gB G + r0)), (1, .ref (gB G + r1)), (2, .ref (gB G + r2)), (3, .int x3), (4, .int x4), (5, .int x5), (8, .int x8)]) C dX10_strollFrom_82 (by decide) rfl ?_
    refine ww_aload_n (pc := 84) C 5 dX10_strollFrom_84 rfl ?_
    refine ww_iload (pc := 85) C 2 dX10_strollFrom_85 rfl ?_
    obtain ⟨_, e14, hf⟩ := xbd hf
    obtain ⟨v16, e15, hf⟩ := xbd hf
    refine ww_callVi (pc := 87) (as := [.int v6]) (st := []) C (k_X6_isPinned (l := gl G) (E := gE G) (hb := gB G) (σ := σ) e15) rfl (by decide) xc_X10_51 q741 qp43 (xck_spec e14) rfl (by decide) (xst4 (Nat.le_of_ble_eq_true rfl)) xsame.rf.le xsame.rf.lim dX10_strollFrom_87 ?_
    refine ww_if_ne (pc := 90) (tgt := 154) C dX10_strollFrom_90 (by decide) (fun q => ?_) (fun q => ?_)
    · have hf := xin q hf
      refine ww_iinc (pc := 154) (v := x8 + (1 : Int32)) (lv' := [(8, .int (x8 + (1 : Int32))), (10, .int v13), (6, .long v8), (9, .int v6), (0, .ref (gB G + r0)), (1, .ref (gB G + r1)), (2, .ref (gB G + r2)), (3, .int x3), (4, .int x4), (5, .int x5)]) C 9 dX10_strollFrom_154 rfl (congrArg (fun z => x8 + z) (show Int32.ofInt (1) = (1 : Int32) by decide)) (by decide) rfl ?_
      refine ww_goto (pc := 157) (tgt := 40) C dX10_strollFrom_157 (by decide) ?_
      have hf := xsj hf
      subst hf
      refine ww_sub [4, 5, 6, 7, 8, 9, 2, 0] rfl ?_
      exact hk.1 (x5, v8, x8 + (1 : Int32), σ) rfl
    · have hf := xip q hf
      refine ww_lload (pc := 93) C 1 dX10_strollFrom_93 rfl ?_
      refine ww_bipush (pc := 95) (v := (100 : Int32)) C dX10_strollFrom_95 (by decide) ?_
      obtain ⟨v18, e17, hf⟩ := xbd hf
      refine ww_callSi (pc := 97) (as := [.long v8, .int (100 : Int32)]) (st := []) C (k_X11_lotOf (l := gl G) (E := gE G) (hb := gB G) (σ := σ) e17) xc_X10_43 q761 rfl (by decide) (xst4 (Nat.le_of_ble_eq_true rfl)) xsame.rf.le xsame.rf.lim dX10_strollFrom_97 ?_
      refine ww_bipush (pc := 100) (v := (100 : Int32)) C dX10_strollFrom_100 (by decide) ?_
      refine ww_iload (pc := 102) C 7 dX10_strollFrom_102 rfl ?_
      refine ww_iload (pc := 104) C 0 dX10_strollFrom_104 rfl ?_
      refine ww_imul (pc := 106) C dX10_strollFrom_106 ?_
      refine ww_isub (pc := 107) C dX10_strollFrom_107 ?_
      refine ww_icmp_ge (pc := 108) (tgt := 154) C dX10_strollFrom_108 (by decide) (fun q => ?_) (fun q => ?_)
      · have hf := xip q hf
        refine ww_iinc (pc := 154) (v := x8 + (1 : Int32)) (lv' := [(8, .int (x8 + (1 : Int32))), (10, .int v13), (6, .long v8), (9, .int v6), (0, .ref (gB G + r0)), (1, .ref (gB G + r1)), (2, .ref (gB G + r2)), (3, .int x3), (4, .int x4), (5, .int x5)]) C 9 dX10_strollFrom_154 rfl (congrArg (fun z => x8 + z) (show Int32.ofInt (1) = (1 : Int32) by decide)) (by decide) rfl ?_
        refine ww_goto (pc := 157) (tgt := 40) C dX10_strollFrom_157 (by decide) ?_
        have hf := xsj hf
        subst hf
        refine ww_sub [4, 5, 6, 7, 8, 9, 2, 0] rfl ?_
        exact hk.1 (x5, v8, x8 + (1 : Int32), σ) rfl
      · have hf := xin q hf
        refine ww_aload_n (pc := 111) C 3 dX10_strollFrom_111 rfl ?_
        refine ww_dup (pc := 112) C dX10_strollFrom_112 rfl ?_
        obtain ⟨v20, e19, hf⟩ := xbd hf
        refine gf_X10_9 (pc := 113) C e19 dX10_strollFrom_113 ?_
        refine ww_iconst (pc := 116) (v := (1 : Int32)) C dX10_strollFrom_116 (by decide) ?_
        refine ww_iload (pc := 117) C 2 dX10_strollFrom_117 rfl ?_
        refine ww_ishl (pc := 119) C dX10_strollFrom_119 ?_
        refine ww_ixor (pc := 120) C dX10_strollFrom_120 ?_
        obtain ⟨σ22, e21, hf⟩ := xbd hf
        refine pf_X10_9 (pc := 121) C e21 dX10_strollFrom_121 ?_
        refine ww_aload_n (pc := 124) C 3 dX10_strollFrom_124 rfl ?_
        refine ww_dup (pc := 125) C dX10_strollFrom_125 rfl ?_
        obtain ⟨v24, e23, hf⟩ := xbd hf
        refine gf_X10_15 (pc := 126) C e23 dX10_strollFrom_126 ?_
        refine ww_iconst (pc := 129) (v := (1 : Int32)) C dX10_strollFrom_129 (by decide) ?_
        refine ww_iadd (pc := 130) C dX10_strollFrom_130 ?_
        obtain ⟨σ26, e25, hf⟩ := xbd hf
        refine pf_X10_15 (pc := 131) C e25 dX10_strollFrom_131 ?_
        refine ww_iload (pc := 134) C 8 dX10_strollFrom_134 rfl ?_
        refine ww_iload (pc := 136) C 0 dX10_strollFrom_136 rfl ?_
        refine ww_iadd (pc := 138) C dX10_strollFrom_138 ?_
        refine ww_istore (pc := 139) (lv' := [(5, .int (x5 + v13)), (10, .int v13), (6, .long v8), (9, .int v6), (0, .ref (gB G + r0)), (1, .ref (gB G + r1)), (2, .ref (gB G + r2)), (3, .int x3), (4, .int x4), (8, .int x8)]) C dX10_strollFrom_139 (by decide) rfl ?_
        refine ww_aload_n (pc := 141) C 4 dX10_strollFrom_141 rfl ?_
        refine ww_aload_n (pc := 142) C 4 dX10_strollFrom_142 rfl ?_
        obtain ⟨v28, e27, hf⟩ := xbd hf
        refine gf_X10_30 (pc := 143) C e27 dX10_strollFrom_143 ?_
        refine ww_iload (pc := 146) C 0 dX10_strollFrom_146 rfl ?_
        refine ww_mmin (pc := 148) C q1103 q718 q20 qm_mmin ⟨by decide, Nat.le_trans (Nat.add_le_add_right (xst4 (Nat.le_of_ble_eq_true rfl)) 13) (by decide)⟩ dX10_strollFrom_148 ?_
        obtain ⟨σ30, e29, hf⟩ := xbd hf
        refine pf_X10_30 (pc := 151) C e29 dX10_strollFrom_151 ?_
        refine ww_iinc (pc := 154) (v := x8 + (1 : Int32)) (lv' := [(8, .int (x8 + (1 : Int32))), (5, .int (x5 + v13)), (10, .int v13), (6, .long v8), (9, .int v6), (0, .ref (gB G + r0)), (1, .ref (gB G + r1)), (2, .ref (gB G + r2)), (3, .int x3), (4, .int x4)]) C 9 dX10_strollFrom_154 rfl (congrArg (fun z => x8 + z) (show Int32.ofInt (1) = (1 : Int32) by decide)) (by decide) rfl ?_
        refine ww_goto (pc := 157) (tgt := 40) C dX10_strollFrom_157 (by decide) ?_
        have hf := xsj hf
        subst hf
        refine ww_sub [5, 6, 7, 8, 9, 1, 3, 0] rfl ?_
        exact hk.1 (x5 + v13, v8, x8 + (1 : Int32), σ30) rfl
theorem s_X10_strollFrom_e {G : XG} (C : XC G cX10_strollFrom RX10 none 11 3 67) {σ : XS} {r0 : Nat} {r1 : Nat} {r2 : Nat} {x3 : Int32} {x4 : Int32} {x : XS} (hf : f_X10_strollFrom σ r0 r1 r2 x3 x4 = some x) (hk : XEnd G none x) : WW G 0 [(0, .ref (gB G + r0)), (1, .ref (gB G + r1)), (2, .ref (gB G + r2)), (3, .int x3), (4, .int x4)] [] σ := by
  refine ww_aload_n (pc := 0) C 0 dX10_strollFrom_0 rfl ?_
  refine ww_aload_n (pc := 1) C 2 dX10_strollFrom_1 rfl ?_
  obtain ⟨v2, e1, hf⟩ := xbd hf
  refine gf_X10_24 (pc := 2) C e1 dX10_strollFrom_2 ?_
  obtain ⟨σ4, e3, hf⟩ := xbd hf
  refine pf_X10_9 (pc := 5) C e3 dX10_strollFrom_5 ?_
  refine ww_aload_n (pc := 8) C 0 dX10_strollFrom_8 rfl ?_
  refine ww_iconst (pc := 9) (v := (0 : Int32)) C dX10_strollFrom_9 (by decide) ?_
  obtain ⟨σ6, e5, hf⟩ := xbd hf
  refine pf_X10_15 (pc := 10) C e5 dX10_strollFrom_10 ?_
  refine ww_aload_n (pc := 13) C 1 dX10_strollFrom_13 rfl ?_
  refine ww_aload_n (pc := 14) C 2 dX10_strollFrom_14 rfl ?_
  refine ww_aload_n (pc := 15) C 0 dX10_strollFrom_15 rfl ?_
  obtain ⟨v8, e7, hf⟩ := xbd hf
  refine gf_X10_9 (pc := 16) C e7 dX10_strollFrom_16 ?_
  obtain ⟨_, e9, hf⟩ := xbd hf
  obtain ⟨v11, e10, hf⟩ := xbd hf
  refine ww_callVi (pc := 19) (as := [.ref (gB G + r2), .int v8]) (st := []) C (k_X3_energyOf (l := gl G) (E := gE G) (hb := gB G) (σ := σ6) e10) rfl (by decide) xc_X10_27 q1071 qp89 (xck_spec e9) rfl (by decide) (xst4 (Nat.le_of_ble_eq_true rfl)) xsame.rf.le xsame.rf.lim dX10_strollFrom_19 ?_
  refine ww_istore (pc := 22) (lv' := [(5, .int v11), (0, .ref (gB G + r0)), (1, .ref (gB G + r1)), (2, .ref (gB G + r2)), (3, .int x3), (4, .int x4)]) C dX10_strollFrom_22 (by decide) rfl ?_
  refine ww_aload_n (pc := 24) C 1 dX10_strollFrom_24 rfl ?_
  refine ww_iload (pc := 25) C 0 dX10_strollFrom_25 rfl ?_
  obtain ⟨σ13, e12, hf⟩ := xbd hf
  refine pf_X10_30 (pc := 27) C e12 dX10_strollFrom_27 ?_
  refine ww_aload_n (pc := 30) C 3 dX10_strollFrom_30 rfl ?_
  obtain ⟨v15, e14, hf⟩ := xbd hf
  refine gf_X10_33 (pc := 31) C e14 dX10_strollFrom_31 ?_
  refine ww_i2l (pc := 34) (v := v15.toInt64) C dX10_strollFrom_34 rfl ?_
  refine ww_lstore (pc := 35) (lv' := [(6, .long v15.toInt64), (5, .int v11), (0, .ref (gB G + r0)), (1, .ref (gB G + r1)), (2, .ref (gB G + r2)), (3, .int x3), (4, .int x4)]) C dX10_strollFrom_35 (by decide) rfl ?_
  refine ww_iconst (pc := 37) (v := (0 : Int32)) C dX10_strollFrom_37 (by decide) ?_
  refine ww_istore (pc := 38) (lv' := [(8, .int (0 : Int32)), (6, .long v15.toInt64), (5, .int v11), (0, .ref (gB G + r0)), (1, .ref (gB G + r1)), (2, .ref (gB G + r2)), (3, .int x3), (4, .int x4)]) C dX10_strollFrom_38 (by decide) rfl ?_
  refine ww_sub [3, 4, 5, 6, 7, 2, 1, 0] rfl ?_
  exact s_X10_strollFrom_l40 C (a := (v11, v15.toInt64, (0 : Int32), σ13)) hf hk
theorem m_X10_strollFrom {σ : XS} {r0 : Nat} {r1 : Nat} {r2 : Nat} {x3 : Int32} {x4 : Int32} {x : XS} (hf : f_X10_strollFrom σ r0 r1 r2 x3 x4 = some x) : xsame σ x := by
  have hm := xsame.rf (σ := σ)
  obtain ⟨v2, e1, hf⟩ := xbd hf
  obtain ⟨σ4, e3, hf⟩ := xbd hf
  have hm := hm.tr (xpI_same e3)
  obtain ⟨σ6, e5, hf⟩ := xbd hf
  have hm := hm.tr (xpI_same e5)
  obtain ⟨v8, e7, hf⟩ := xbd hf
  obtain ⟨_, e9, hf⟩ := xbd hf
  obtain ⟨v11, e10, hf⟩ := xbd hf
  obtain ⟨σ13, e12, hf⟩ := xbd hf
  have hm := hm.tr (xpI_same e12)
  obtain ⟨v15, e14, hf⟩ := xbd hf
  exact hm.tr (m_X10_strollFrom_l40 (a := (v11, v15.toInt64, (0 : Int32), σ13)) hf)
theorem k_X10_strollFrom {l : Launch} {E : XD} {hb : Nat} {σ : XS} {r0 : Nat} {r1 : Nat} {r2 : Nat} {x3 : Int32} {x4 : Int32} {x : XS} (h : f_X10_strollFrom σ r0 r1 r2 x3 x4 = some x) : XM l yX10_strollFrom cX10_strollFrom 11 none 3 67 E hb [.ref (hb + r0), .ref (hb + r1), .ref (hb + r2), .int x3, .int x4] σ none x := by
  refine xm_of (by decide) (Nat.le_of_ble_eq_true rfl) (m_X10_strollFrom h).le (fun G hG C hl hQ => ?_)
  obtain ⟨rfl, rfl, rfl, hN⟩ := hG
  exact s_X10_strollFrom_e C h hQ
noncomputable def f_X11_back (σ : XS) (r0 : Nat) (x1 : Int32) : Option (Int32 × XS) := if x1 < 0 then (some ((-1 : Int32), σ)) else (xgR σ r0 11 0).bind fun z2 => (xgI σ z2 8 4).bind fun v4 => if x1 ≤ v4 then ((xgR σ r0 11 0).bind fun z6 => (xgI σ z6 8 4).bind fun v8 => (xpI σ z6 8 4 (v8 - x1)).bind fun σ10 => (xgR σ10 r0 11 0).bind fun z12 => (xgI σ10 z12 8 4).bind fun v14 => some (v14, σ10)) else some ((-1 : Int32), σ)
theorem s_X11_back_e {G : XG} (C : XC G cX11_back RX11 (some .int) 2 0 0) {σ : XS} {r0 : Nat} {x1 : Int32} {x : Int32 × XS} (hf : f_X11_back σ r0 x1 = some x) (hk : XEnd G (some (.int x.1)) x.2) : WW G 0 [(0, .ref (gB G + r0)), (1, .int x1)] [] σ := by
  refine ww_iload_n (pc := 0) C 1 dX11_back_0 rfl ?_
  refine ww_if_lt (pc := 1) (tgt := 15) C dX11_back_1 (by decide) (fun q => ?_) (fun q => ?_)
  · have hf := xip q hf
    refine ww_iconst (pc := 15) (v := (-1 : Int32)) C dX11_back_15 (by decide) ?_
    have hf := xsj hf
    subst hf
    exact ww_iret (pc := 16) C hk dX11_back_16
  · have hf := xin q hf
    refine ww_iload_n (pc := 4) C 1 dX11_back_4 rfl ?_
    refine ww_aload_n (pc := 5) C 0 dX11_back_5 rfl ?_
    obtain ⟨z2, e1, hf⟩ := xbd hf
    refine gf_X11_20 (pc := 6) C e1 dX11_back_6 ?_
    obtain ⟨v4, e3, hf⟩ := xbd hf
    refine gf_X11_102 (pc := 9) C e3 dX11_back_9 ?_
    refine ww_icmp_le (pc := 12) (tgt := 17) C dX11_back_12 (by decide) (fun q => ?_) (fun q => ?_)
    · have hf := xip q hf
      refine ww_aload_n (pc := 17) C 0 dX11_back_17 rfl ?_
      obtain ⟨z6, e5, hf⟩ := xbd hf
      refine gf_X11_20 (pc := 18) C e5 dX11_back_18 ?_
      refine ww_dup (pc := 21) C dX11_back_21 rfl ?_
      obtain ⟨v8, e7, hf⟩ := xbd hf
      refine gf_X11_102 (pc := 22) C e7 dX11_back_22 ?_
      refine ww_iload_n (pc := 25) C 1 dX11_back_25 rfl ?_
      refine ww_isub (pc := 26) C dX11_back_26 ?_
      obtain ⟨σ10, e9, hf⟩ := xbd hf
      refine pf_X11_102 (pc := 27) C e9 dX11_back_27 ?_
      refine ww_aload_n (pc := 30) C 0 dX11_back_30 rfl ?_
      obtain ⟨z12, e11, hf⟩ := xbd hf
      refine gf_X11_20 (pc := 31) C e11 dX11_back_31 ?_
      obtain ⟨v14, e13, hf⟩ := xbd hf
      refine gf_X11_102 (pc := 34) C e13 dX11_back_34 ?_
      have hf := xsj hf
      subst hf
      exact ww_iret (pc := 37) C hk dX11_back_37
    · have hf := xin q hf
      refine ww_iconst (pc := 15) (v := (-1 : Int32)) C dX11_back_15 (by decide) ?_
      have hf := xsj hf
      subst hf
      exact ww_iret (pc := 16) C hk dX11_back_16
theorem m_X11_back {σ : XS} {r0 : Nat} {x1 : Int32} {x : Int32 × XS} (hf : f_X11_back σ r0 x1 = some x) : xsame σ x.2 := by
  have hm := xsame.rf (σ := σ)
  by_cases q : x1 < 0
  · have hf := xip q hf
    have hf := xsj hf
    subst hf
    exact hm
  · have hf := xin q hf
    obtain ⟨z2, e1, hf⟩ := xbd hf
    obtain ⟨v4, e3, hf⟩ := xbd hf
    by_cases q : x1 ≤ v4
    · have hf := xip q hf
      obtain ⟨z6, e5, hf⟩ := xbd hf
      obtain ⟨v8, e7, hf⟩ := xbd hf
      obtain ⟨σ10, e9, hf⟩ := xbd hf
      have hm := hm.tr (xpI_same e9)
      obtain ⟨z12, e11, hf⟩ := xbd hf
      obtain ⟨v14, e13, hf⟩ := xbd hf
      have hf := xsj hf
      subst hf
      exact hm
    · have hf := xin q hf
      have hf := xsj hf
      subst hf
      exact hm
theorem k_X11_back {l : Launch} {E : XD} {hb : Nat} {σ : XS} {r0 : Nat} {x1 : Int32} {x : Int32 × XS} (h : f_X11_back σ r0 x1 = some x) : XM l yX11_back cX11_back 2 (some .int) 0 0 E hb [.ref (hb + r0), .int x1] σ (some (.int x.1)) x.2 := by
  refine xm_of (by decide) (Nat.le_of_ble_eq_true rfl) (m_X11_back h).le (fun G hG C hl hQ => ?_)
  obtain ⟨rfl, rfl, rfl, hN⟩ := hG
  exact s_X11_back_e C h hQ
noncomputable def f_X11_isSmall (σ : XS) (r0 : Nat) : Option Int32 := (xgR σ r0 11 2).bind fun z2 => (xgI σ z2 3 7).bind fun v4 => if (10 : Int32) < v4 then (some (0 : Int32)) else some (1 : Int32)
theorem s_X11_isSmall_e {G : XG} (C : XC G cX11_isSmall RX11 (some .boolean) 1 0 0) {σ : XS} {r0 : Nat} {x : Int32} (hf : f_X11_isSmall σ r0 = some x) (hk : XEnd G (some (.int x)) σ) : WW G 0 [(0, .ref (gB G + r0))] [] σ := by
  refine ww_aload_n (pc := 0) C 0 dX11_isSmall_0 rfl ?_
  obtain ⟨z2, e1, hf⟩ := xbd hf
  refine gf_X11_24 (pc := 1) C e1 dX11_isSmall_1 ?_
  obtain ⟨v4, e3, hf⟩ := xbd hf
  refine gf_X11_197 (pc := 4) C e3 dX11_isSmall_4 ?_
  refine ww_bipush (pc := 7) (v := (10 : Int32)) C dX11_isSmall_7 (by decide) ?_
  refine ww_icmp_gt (pc := 9) (tgt := 16) C dX11_isSmall_9 (by decide) (fun q => ?_) (fun q => ?_)
  · have hf := xip q hf
    refine ww_iconst (pc := 16) (v := (0 : Int32)) C dX11_isSmall_16 (by decide) ?_
    have hf := xsj hf
    subst hf
    exact ww_zret (pc := 17) C rfl hk dX11_isSmall_17
  · have hf := xin q hf
    refine ww_iconst (pc := 12) (v := (1 : Int32)) C dX11_isSmall_12 (by decide) ?_
    refine ww_goto (pc := 13) (tgt := 17) C dX11_isSmall_13 (by decide) ?_
    have hf := xsj hf
    subst hf
    exact ww_zret (pc := 17) C rfl hk dX11_isSmall_17
theorem k_X11_isSmall {l : Launch} {E : XD} {hb : Nat} {σ : XS} {r0 : Nat} {x : Int32} (h : f_X11_isSmall σ r0 = some x) : XM l yX11_isSmall cX11_isSmall 1 (some .boolean) 0 0 E hb [.ref (hb + r0)] σ (some (.int x)) σ := by
  refine xm_of (by decide) (Nat.le_of_ble_eq_true rfl) ⟨Nat.le_refl _, Nat.le_refl _⟩ (fun G hG C hl hQ => ?_)
  obtain ⟨rfl, rfl, rfl, hN⟩ := hG
  exact s_X11_isSmall_e C h hQ
noncomputable def f_X11_isLawful (σ : XS) (r0 : Nat) (x1 : Int32) : Option Int32 := if x1 < 0 then (some (0 : Int32)) else (xgR σ r0 11 2).bind fun z2 => (xck σ z2 3).bind fun _ => (f_X3_states σ z2).bind fun v5 => if v5 ≤ x1 then (some (0 : Int32)) else (xgR σ r0 11 3).bind fun z7 => (xck σ z7 6).bind fun _ => (f_X6_allows σ z7 x1).bind fun v10 => if v10 = 0 then (some (0 : Int32)) else some (1 : Int32)
theorem s_X11_isLawful_e {G : XG} (C : XC G cX11_isLawful RX11 (some .boolean) 2 1 21) {σ : XS} {r0 : Nat} {x1 : Int32} {x : Int32} (hf : f_X11_isLawful σ r0 x1 = some x) (hk : XEnd G (some (.int x)) σ) : WW G 0 [(0, .ref (gB G + r0)), (1, .int x1)] [] σ := by
  refine ww_iload_n (pc := 0) C 1 dX11_isLawful_0 rfl ?_
  refine ww_if_lt (pc := 1) (tgt := 30) C dX11_isLawful_1 (by decide) (fun q => ?_) (fun q => ?_)
  · have hf := xip q hf
    refine ww_iconst (pc := 30) (v := (0 : Int32)) C dX11_isLawful_30 (by decide) ?_
    have hf := xsj hf
    subst hf
    exact ww_zret (pc := 31) C rfl hk dX11_isLawful_31
  · have hf := xin q hf
    refine ww_iload_n (pc := 4) C 1 dX11_isLawful_4 rfl ?_
    refine ww_aload_n (pc := 5) C 0 dX11_isLawful_5 rfl ?_
    obtain ⟨z2, e1, hf⟩ := xbd hf
    refine gf_X11_24 (pc := 6) C e1 dX11_isLawful_6 ?_
    obtain ⟨_, e3, hf⟩ := xbd hf
    obtain ⟨v5, e4, hf⟩ := xbd hf
    refine ww_callVi (pc := 9) (as := []) (st := [.int x1]) C (k_X3_states (l := gl G) (E := gE G) (hb := gB G) (σ := σ) e4) rfl (by decide) xc_X11_291 q871 qp62 (xck_spec e3) rfl (by decide) (xst4 (Nat.le_of_ble_eq_true rfl)) xsame.rf.le xsame.rf.lim dX11_isLawful_9 ?_
    refine ww_icmp_ge (pc := 12) (tgt := 30) C dX11_isLawful_12 (by decide) (fun q => ?_) (fun q => ?_)
    · have hf := xip q hf
      refine ww_iconst (pc := 30) (v := (0 : Int32)) C dX11_isLawful_30 (by decide) ?_
      have hf := xsj hf
      subst hf
      exact ww_zret (pc := 31) C rfl hk dX11_isLawful_31
    · have hf := xin q hf
      refine ww_aload_n (pc := 15) C 0 dX11_isLawful_15 rfl ?_
      obtain ⟨z7, e6, hf⟩ := xbd hf
      refine gf_X11_31 (pc := 16) C e6 dX11_isLawful_16 ?_
      refine ww_iload_n (pc := 19) C 1 dX11_isLawful_19 rfl ?_
      obtain ⟨_, e8, hf⟩ := xbd hf
      obtain ⟨v10, e9, hf⟩ := xbd hf
      refine ww_callVi (pc := 20) (as := [.int x1]) (st := []) C (k_X6_allows (l := gl G) (E := gE G) (hb := gB G) (σ := σ) e9) rfl (by decide) xc_X11_295 q890 qp65 (xck_spec e8) rfl (by decide) (xst4 (Nat.le_of_ble_eq_true rfl)) xsame.rf.le xsame.rf.lim dX11_isLawful_20 ?_
      refine ww_if_eq (pc := 23) (tgt := 30) C dX11_isLawful_23 (by decide) (fun q => ?_) (fun q => ?_)
      · have hf := xip q hf
        refine ww_iconst (pc := 30) (v := (0 : Int32)) C dX11_isLawful_30 (by decide) ?_
        have hf := xsj hf
        subst hf
        exact ww_zret (pc := 31) C rfl hk dX11_isLawful_31
      · have hf := xin q hf
        refine ww_iconst (pc := 26) (v := (1 : Int32)) C dX11_isLawful_26 (by decide) ?_
        refine ww_goto (pc := 27) (tgt := 31) C dX11_isLawful_27 (by decide) ?_
        have hf := xsj hf
        subst hf
        exact ww_zret (pc := 31) C rfl hk dX11_isLawful_31
theorem k_X11_isLawful {l : Launch} {E : XD} {hb : Nat} {σ : XS} {r0 : Nat} {x1 : Int32} {x : Int32} (h : f_X11_isLawful σ r0 x1 = some x) : XM l yX11_isLawful cX11_isLawful 2 (some .boolean) 1 21 E hb [.ref (hb + r0), .int x1] σ (some (.int x)) σ := by
  refine xm_of (by decide) (Nat.le_of_ble_eq_true rfl) ⟨Nat.le_refl _, Nat.le_refl _⟩ (fun G hG C hl hQ => ?_)
  obtain ⟨rfl, rfl, rfl, hN⟩ := hG
  exact s_X11_isLawful_e C h hQ
noncomputable def f_X11_energiesNow_j49 (σ : XS) (r0 : Nat) : Option (Nat × XS) := (xgR σ r0 11 6).bind fun z2 => (xgR σ r0 11 3).bind fun z4 => (xgI σ z4 6 6).bind fun v6 => (xpI σ z2 2 5 v6).bind fun σ8 => (xgR σ8 r0 11 6).bind fun z10 => (xnz z10).bind fun _ => some (z10, σ8)
noncomputable def f_X11_energiesNow (σ : XS) (r0 : Nat) : Option (Nat × XS) := (xgR σ r0 11 6).bind fun z2 => (xgI σ z2 2 5).bind fun v4 => (xgR σ r0 11 3).bind fun z6 => (xgI σ z6 6 6).bind fun v8 => if v4 = v8 then ((xgR σ r0 11 6).bind fun z10 => (xnz z10).bind fun _ => some (z10, σ)) else (xgR σ r0 11 6).bind fun z10 => (xgR σ r0 11 2).bind fun z12 => (xgR σ r0 11 3).bind fun z14 => (xgR σ z14 6 0).bind fun z16 => (xgR σ r0 11 3).bind fun z18 => (xgR σ z18 6 1).bind fun z20 => (xgR σ r0 11 2).bind fun z22 => (xgI σ z22 3 7).bind fun v24 => (xck σ z10 2).bind fun _ => (f_X2_fill σ z10 z12 z16 z20 v24).bind fun σ27 => f_X11_energiesNow_j49 σ27 r0
theorem s_X11_energiesNow_j49 {G : XG} (C : XC G cX11_energiesNow RX11 (some (.object "SpinStrip$Energies")) 1 3 75) {σ : XS} {r0 : Nat} {x : Nat × XS} (hf : f_X11_energiesNow_j49 σ r0 = some x) (hk : XEnd G (some (xrv (gB G) x.1)) x.2 ∧ XUp G x.2) : WW G 49 [(0, .ref (gB G + r0))] [] σ := by
  refine ww_aload_n (pc := 49) C 0 dX11_energiesNow_49 rfl ?_
  obtain ⟨z2, e1, hf⟩ := xbd hf
  refine gf_X11_52 (pc := 50) C e1 dX11_energiesNow_50 ?_
  refine ww_aload_n (pc := 53) C 0 dX11_energiesNow_53 rfl ?_
  obtain ⟨z4, e3, hf⟩ := xbd hf
  refine gf_X11_31 (pc := 54) C e3 dX11_energiesNow_54 ?_
  obtain ⟨v6, e5, hf⟩ := xbd hf
  refine gf_X11_460 (pc := 57) C e5 dX11_energiesNow_57 ?_
  obtain ⟨σ8, e7, hf⟩ := xbd hf
  refine pf_X11_466 (pc := 60) C e7 dX11_energiesNow_60 ?_
  refine ww_aload_n (pc := 63) C 0 dX11_energiesNow_63 rfl ?_
  obtain ⟨z10, e9, hf⟩ := xbd hf
  refine gf_X11_52 (pc := 64) C e9 dX11_energiesNow_64 ?_
  obtain ⟨_, e11, hf⟩ := xbd hf
  have hf := xsj hf
  subst hf
  exact ww_aret (pc := 67) C (Or.inl ⟨_, rfl⟩) (xnz_spec e11) hk.1 dX11_energiesNow_67
theorem m_X11_energiesNow_j49 {σ : XS} {r0 : Nat} {x : Nat × XS} (hf : f_X11_energiesNow_j49 σ r0 = some x) : xext σ x.2 := by
  have hm := xext.rf (σ := σ)
  obtain ⟨z2, e1, hf⟩ := xbd hf
  obtain ⟨z4, e3, hf⟩ := xbd hf
  obtain ⟨v6, e5, hf⟩ := xbd hf
  obtain ⟨σ8, e7, hf⟩ := xbd hf
  have hm := hm.tr (xpI_same e7).ext
  obtain ⟨z10, e9, hf⟩ := xbd hf
  obtain ⟨_, e11, hf⟩ := xbd hf
  have hf := xsj hf
  subst hf
  exact hm
theorem s_X11_energiesNow_e {G : XG} (C : XC G cX11_energiesNow RX11 (some (.object "SpinStrip$Energies")) 1 3 75) {σ : XS} {r0 : Nat} {x : Nat × XS} (hf : f_X11_energiesNow σ r0 = some x) (hk : XEnd G (some (xrv (gB G) x.1)) x.2 ∧ XUp G x.2) : WW G 0 [(0, .ref (gB G + r0))] [] σ := by
  refine ww_aload_n (pc := 0) C 0 dX11_energiesNow_0 rfl ?_
  obtain ⟨z2, e1, hf⟩ := xbd hf
  refine gf_X11_52 (pc := 1) C e1 dX11_energiesNow_1 ?_
  obtain ⟨v4, e3, hf⟩ := xbd hf
  refine gf_X11_466 (pc := 4) C e3 dX11_energiesNow_4 ?_
  refine ww_aload_n (pc := 7) C 0 dX11_energiesNow_7 rfl ?_
  obtain ⟨z6, e5, hf⟩ := xbd hf
  refine gf_X11_31 (pc := 8) C e5 dX11_energiesNow_8 ?_
  obtain ⟨v8, e7, hf⟩ := xbd hf
  refine gf_X11_460 (pc := 11) C e7 dX11_energiesNow_11 ?_
  refine ww_icmp_eq (pc := 14) (tgt := 63) C dX11_energiesNow_14 (by decide) (fun q => ?_) (fun q => ?_)
  · have hf := xip q hf
    refine ww_aload_n (pc := 63) C 0 dX11_energiesNow_63 rfl ?_
    obtain ⟨z10, e9, hf⟩ := xbd hf
    refine gf_X11_52 (pc := 64) C e9 dX11_energiesNow_64 ?_
    obtain ⟨_, e11, hf⟩ := xbd hf
    have hf := xsj hf
    subst hf
    exact ww_aret (pc := 67) C (Or.inl ⟨_, rfl⟩) (xnz_spec e11) hk.1 dX11_energiesNow_67
  · have hf := xin q hf
    refine ww_aload_n (pc := 17) C 0 dX11_energiesNow_17 rfl ?_
    obtain ⟨z10, e9, hf⟩ := xbd hf
    refine gf_X11_52 (pc := 18) C e9 dX11_energiesNow_18 ?_
    refine ww_aload_n (pc := 21) C 0 dX11_energiesNow_21 rfl ?_
    obtain ⟨z12, e11, hf⟩ := xbd hf
    refine gf_X11_24 (pc := 22) C e11 dX11_energiesNow_22 ?_
    refine ww_aload_n (pc := 25) C 0 dX11_energiesNow_25 rfl ?_
    obtain ⟨z14, e13, hf⟩ := xbd hf
    refine gf_X11_31 (pc := 26) C e13 dX11_energiesNow_26 ?_
    obtain ⟨z16, e15, hf⟩ := xbd hf
    refine gf_X11_340 (pc := 29) C e15 dX11_energiesNow_29 ?_
    refine ww_aload_n (pc := 32) C 0 dX11_energiesNow_32 rfl ?_
    obtain ⟨z18, e17, hf⟩ := xbd hf
    refine gf_X11_31 (pc := 33) C e17 dX11_energiesNow_33 ?_
    obtain ⟨z20, e19, hf⟩ := xbd hf
    refine gf_X11_343 (pc := 36) C e19 dX11_energiesNow_36 ?_
    refine ww_aload_n (pc := 39) C 0 dX11_energiesNow_39 rfl ?_
    obtain ⟨z22, e21, hf⟩ := xbd hf
    refine gf_X11_24 (pc := 40) C e21 dX11_energiesNow_40 ?_
    obtain ⟨v24, e23, hf⟩ := xbd hf
    refine gf_X11_197 (pc := 43) C e23 dX11_energiesNow_43 ?_
    obtain ⟨_, e25, hf⟩ := xbd hf
    obtain ⟨σ27, e26, hf⟩ := xbd hf
    refine ww_callVv (pc := 46) (as := [.ref (gB G + z12), .ref (gB G + z16), .ref (gB G + z20), .int v24]) (st := []) C (k_X2_fill (l := gl G) (E := gE G) (hb := gB G) (σ := σ) e26) rfl (by decide) xc_X11_346 q854 qp58 (xck_spec e25) rfl (by decide) (xst4 (Nat.le_of_ble_eq_true rfl)) (m_X2_fill e26).1 (fun q => by have hm9 := m_X11_energiesNow_j49 hf; exact XLim.mid q (m_X2_fill e26) hm9 hk.2) dX11_energiesNow_46 ?_
    refine ww_sub [0] rfl ?_
    exact s_X11_energiesNow_j49 C hf hk
theorem m_X11_energiesNow {σ : XS} {r0 : Nat} {x : Nat × XS} (hf : f_X11_energiesNow σ r0 = some x) : xext σ x.2 := by
  have hm := xext.rf (σ := σ)
  obtain ⟨z2, e1, hf⟩ := xbd hf
  obtain ⟨v4, e3, hf⟩ := xbd hf
  obtain ⟨z6, e5, hf⟩ := xbd hf
  obtain ⟨v8, e7, hf⟩ := xbd hf
  by_cases q : v4 = v8
  · have hf := xip q hf
    obtain ⟨z10, e9, hf⟩ := xbd hf
    obtain ⟨_, e11, hf⟩ := xbd hf
    have hf := xsj hf
    subst hf
    exact hm
  · have hf := xin q hf
    obtain ⟨z10, e9, hf⟩ := xbd hf
    obtain ⟨z12, e11, hf⟩ := xbd hf
    obtain ⟨z14, e13, hf⟩ := xbd hf
    obtain ⟨z16, e15, hf⟩ := xbd hf
    obtain ⟨z18, e17, hf⟩ := xbd hf
    obtain ⟨z20, e19, hf⟩ := xbd hf
    obtain ⟨z22, e21, hf⟩ := xbd hf
    obtain ⟨v24, e23, hf⟩ := xbd hf
    obtain ⟨_, e25, hf⟩ := xbd hf
    obtain ⟨σ27, e26, hf⟩ := xbd hf
    have hm := hm.tr (m_X2_fill e26)
    exact hm.tr (m_X11_energiesNow_j49 hf)
theorem k_X11_energiesNow {l : Launch} {E : XD} {hb : Nat} {σ : XS} {r0 : Nat} {x : Nat × XS} (h : f_X11_energiesNow σ r0 = some x) : XM l yX11_energiesNow cX11_energiesNow 1 (some (.object "SpinStrip$Energies")) 3 75 E hb [.ref (hb + r0)] σ (some (xrv (hb) x.1)) x.2 := by
  refine xm_of (by decide) (Nat.le_of_ble_eq_true rfl) (m_X11_energiesNow h).1 (fun G hG C hl hQ => ?_)
  obtain ⟨rfl, rfl, rfl, hN⟩ := hG
  exact s_X11_energiesNow_e C h ⟨hQ, hl.2⟩
noncomputable def f_X4_listLevels_b7 (r0 : Nat) : Int32 × XS → Option ((Int32 × XS) ⊕ (XS)) := fun a => match a with
  | (x1, σ) => if (289 : Int32) ≤ x1 then ((some σ).map .inr) else (xgR σ r0 4 0).bind fun z2 => (xaI σ 20 z2 x1).bind fun v4 => if v4 ≤ 0 then (some (.inl (x1 + (1 : Int32), σ))) else (xgR σ r0 4 3).bind fun z6 => (xgI σ r0 4 4).bind fun v8 => (xsI σ 20 z6 v8 (x1 - (144 : Int32))).bind fun σ10 => (xgI σ10 r0 4 4).bind fun v12 => (xpI σ10 r0 4 4 (v12 + (1 : Int32))).bind fun σ14 => some (.inl (x1 + (1 : Int32), σ14))
noncomputable def f_X4_listLevels (σ : XS) (r0 : Nat) : Option XS := (xpI σ r0 4 4 (0 : Int32)).bind fun σ2 => xloop (f_X4_listLevels_b7 r0) ((0 : Int32), σ2)
theorem m_X4_listLevels_l7 {r0 : Nat} {a : Int32 × XS} {x : XS} (hf : xloop (f_X4_listLevels_b7 r0) a = some x) : xsame a.2 x := by
  refine xloop_ind (P := fun a => xsame a.2 x) (fun a y hf hc he => ?_) hf
  obtain ⟨x1, σ⟩ := a
  have hy : (∀ a' : Int32 × XS, y = .inl a' → xsame σ a'.2) ∧ (∀ b1 : XS, y = .inr b1 → xsame σ b1) := by
    have hm := xsame.rf (σ := σ)
    by_cases q : (289 : Int32) ≤ x1
    · have hf := xip q hf
      obtain ⟨b0, hg, e9⟩ := xmj hf
      subst e9
      have hf := hg
      refine ⟨fun a' e => xnc2 e, fun b e => ?_⟩
      have h9 := Sum.inr.inj e
      subst h9
      have hf := xsj hf
      subst hf
      exact hm
    · have hf := xin q hf
      obtain ⟨z2, e1, hf⟩ := xbd hf
      obtain ⟨v4, e3, hf⟩ := xbd hf
      by_cases q : v4 ≤ 0
      · have hf := xip q hf
        have hf := xsj hf
        subst hf
        exact ⟨fun a' e => (by have h9 := Sum.inl.inj e; subst h9; exact hm), fun b e => xnc1 e⟩
      · have hf := xin q hf
        obtain ⟨z6, e5, hf⟩ := xbd hf
        obtain ⟨v8, e7, hf⟩ := xbd hf
        obtain ⟨σ10, e9, hf⟩ := xbd hf
        have hm := hm.tr (xsI_same e9)
        obtain ⟨v12, e11, hf⟩ := xbd hf
        obtain ⟨σ14, e13, hf⟩ := xbd hf
        have hm := hm.tr (xpI_same e13)
        have hf := xsj hf
        subst hf
        exact ⟨fun a' e => (by have h9 := Sum.inl.inj e; subst h9; exact hm), fun b e => xnc1 e⟩
  cases y with
  | inl a' =>
    have h1 := hc a' rfl
    have hm := hy.1 a' rfl
    exact hm.tr (h1)
  | inr b =>
    have h1 := he b rfl
    subst h1
    exact hy.2 _ rfl
theorem s_X4_listLevels_l7 {G : XG} (C : XC G cX4_listLevels RX4 none 2 0 0) {r0 : Nat} {a : Int32 × XS} {x : XS} (hf : xloop (f_X4_listLevels_b7 r0) a = some x) (hk : XEnd G none x) : WW G 7 [(0, .ref (gB G + r0)), (1, .int a.1)] [] a.2 := by
  refine xloop_ind (P := fun a => WW G 7 [(0, .ref (gB G + r0)), (1, .int a.1)] [] a.2) (fun a y hf hc he => ?_) hf
  obtain ⟨x1, σ⟩ := a
  have hk : (∀ a' : Int32 × XS, y = .inl a' → WW G 7 [(0, .ref (gB G + r0)), (1, .int a'.1)] [] a'.2) ∧ (∀ b1 : XS, y = .inr b1 → XEnd G none b1) := ⟨hc, fun b e => by have h9 := he b e; subst h9; exact hk⟩
  refine ww_iload_n (pc := 7) C 1 dX4_listLevels_7 rfl ?_
  refine ww_sipush (pc := 8) (v := (289 : Int32)) C dX4_listLevels_8 (by decide) ?_
  refine ww_icmp_ge (pc := 11) (tgt := 53) C dX4_listLevels_11 (by decide) (fun q => ?_) (fun q => ?_)
  · have hf := xip q hf
    obtain ⟨b0, hg, e9⟩ := xmj hf
    subst e9
    have hf := hg
    have hk := hk.2 _ rfl
    have hf := xsj hf
    subst hf
    exact ww_vret (pc := 53) C hk dX4_listLevels_53
  · have hf := xin q hf
    refine ww_aload_n (pc := 14) C 0 dX4_listLevels_14 rfl ?_
    obtain ⟨z2, e1, hf⟩ := xbd hf
    refine gf_X4_9 (pc := 15) C e1 dX4_listLevels_15 ?_
    refine ww_iload_n (pc := 18) C 1 dX4_listLevels_18 rfl ?_
    obtain ⟨v4, e3, hf⟩ := xbd hf
    refine ww_iald (pc := 19) C e3 dX4_listLevels_19 ?_
    refine ww_if_le (pc := 20) (tgt := 47) C dX4_listLevels_20 (by decide) (fun q => ?_) (fun q => ?_)
    · have hf := xip q hf
      refine ww_iinc (pc := 47) (v := x1 + (1 : Int32)) (lv' := [(1, .int (x1 + (1 : Int32))), (0, .ref (gB G + r0))]) C 1 dX4_listLevels_47 rfl (congrArg (fun z => x1 + z) (show Int32.ofInt (1) = (1 : Int32) by decide)) (by decide) rfl ?_
      refine ww_goto (pc := 50) (tgt := 7) C dX4_listLevels_50 (by decide) ?_
      have hf := xsj hf
      subst hf
      refine ww_sub [1, 0] rfl ?_
      exact hk.1 (x1 + (1 : Int32), σ) rfl
    · have hf := xin q hf
      refine ww_aload_n (pc := 23) C 0 dX4_listLevels_23 rfl ?_
      obtain ⟨z6, e5, hf⟩ := xbd hf
      refine gf_X4_21 (pc := 24) C e5 dX4_listLevels_24 ?_
      refine ww_aload_n (pc := 27) C 0 dX4_listLevels_27 rfl ?_
      obtain ⟨v8, e7, hf⟩ := xbd hf
      refine gf_X4_54 (pc := 28) C e7 dX4_listLevels_28 ?_
      refine ww_iload_n (pc := 31) C 1 dX4_listLevels_31 rfl ?_
      refine ww_sipush (pc := 32) (v := (144 : Int32)) C dX4_listLevels_32 (by decide) ?_
      refine ww_isub (pc := 35) C dX4_listLevels_35 ?_
      obtain ⟨σ10, e9, hf⟩ := xbd hf
      refine ww_iast (pc := 36) C e9 dX4_listLevels_36 ?_
      refine ww_aload_n (pc := 37) C 0 dX4_listLevels_37 rfl ?_
      refine ww_dup (pc := 38) C dX4_listLevels_38 rfl ?_
      obtain ⟨v12, e11, hf⟩ := xbd hf
      refine gf_X4_54 (pc := 39) C e11 dX4_listLevels_39 ?_
      refine ww_iconst (pc := 42) (v := (1 : Int32)) C dX4_listLevels_42 (by decide) ?_
      refine ww_iadd (pc := 43) C dX4_listLevels_43 ?_
      obtain ⟨σ14, e13, hf⟩ := xbd hf
      refine pf_X4_54 (pc := 44) C e13 dX4_listLevels_44 ?_
      refine ww_iinc (pc := 47) (v := x1 + (1 : Int32)) (lv' := [(1, .int (x1 + (1 : Int32))), (0, .ref (gB G + r0))]) C 1 dX4_listLevels_47 rfl (congrArg (fun z => x1 + z) (show Int32.ofInt (1) = (1 : Int32) by decide)) (by decide) rfl ?_
      refine ww_goto (pc := 50) (tgt := 7) C dX4_listLevels_50 (by decide) ?_
      have hf := xsj hf
      subst hf
      refine ww_sub [1, 0] rfl ?_
      exact hk.1 (x1 + (1 : Int32), σ14) rfl
theorem s_X4_listLevels_e {G : XG} (C : XC G cX4_listLevels RX4 none 2 0 0) {σ : XS} {r0 : Nat} {x : XS} (hf : f_X4_listLevels σ r0 = some x) (hk : XEnd G none x) : WW G 0 [(0, .ref (gB G + r0))] [] σ := by
  refine ww_aload_n (pc := 0) C 0 dX4_listLevels_0 rfl ?_
  refine ww_iconst (pc := 1) (v := (0 : Int32)) C dX4_listLevels_1 (by decide) ?_
  obtain ⟨σ2, e1, hf⟩ := xbd hf
  refine pf_X4_54 (pc := 2) C e1 dX4_listLevels_2 ?_
  refine ww_iconst (pc := 5) (v := (0 : Int32)) C dX4_listLevels_5 (by decide) ?_
  refine ww_istore_n (pc := 6) (lv' := [(1, .int (0 : Int32)), (0, .ref (gB G + r0))]) C dX4_listLevels_6 (by decide) rfl ?_
  refine ww_sub [1, 0] rfl ?_
  exact s_X4_listLevels_l7 C (a := ((0 : Int32), σ2)) hf hk
theorem m_X4_listLevels {σ : XS} {r0 : Nat} {x : XS} (hf : f_X4_listLevels σ r0 = some x) : xsame σ x := by
  have hm := xsame.rf (σ := σ)
  obtain ⟨σ2, e1, hf⟩ := xbd hf
  have hm := hm.tr (xpI_same e1)
  exact hm.tr (m_X4_listLevels_l7 (a := ((0 : Int32), σ2)) hf)
theorem k_X4_listLevels {l : Launch} {E : XD} {hb : Nat} {σ : XS} {r0 : Nat} {x : XS} (h : f_X4_listLevels σ r0 = some x) : XM l yX4_listLevels cX4_listLevels 2 none 0 0 E hb [.ref (hb + r0)] σ none x := by
  refine xm_of (by decide) (Nat.le_of_ble_eq_true rfl) (m_X4_listLevels h).le (fun G hG C hl hQ => ?_)
  obtain ⟨rfl, rfl, rfl, hN⟩ := hG
  exact s_X4_listLevels_e C h hQ
noncomputable def f_X4_gather_b21 (r0 : Nat) (r1 : Nat) (r2 : Nat) : Int32 × XS → Option ((Int32 × XS) ⊕ (XS)) := fun a => match a with
  | (x4, σ) => if x4 < 0 then (((xck σ r0 4).bind fun _ => (f_X4_listLevels σ r0).bind fun σ3 => some σ3).map .inr) else (xck σ r1 2).bind fun _ => (f_X2_of σ r1 x4).bind fun v3 => (f_J6_bitCount_0f7a4 x4).bind fun v5 => (xck σ r2 6).bind fun _ => (f_X6_allows σ r2 x4).bind fun v8 => if v8 = 0 then (some (.inl (x4 + (-1 : Int32), σ))) else if (v3 + (144 : Int32)) < 0 then (some (.inl (x4 + (-1 : Int32), σ))) else if (289 : Int32) ≤ (v3 + (144 : Int32)) then (some (.inl (x4 + (-1 : Int32), σ))) else if (17 : Int32) ≤ v5 then (some (.inl (x4 + (-1 : Int32), σ))) else (xgR σ r0 4 1).bind fun z10 => (xsI σ 20 z10 (v3 + (144 : Int32)) x4).bind fun σ12 => (xgR σ12 r0 4 0).bind fun z14 => (xaI σ12 20 z14 (v3 + (144 : Int32))).bind fun v16 => (xsI σ12 20 z14 (v3 + (144 : Int32)) (v16 + (1 : Int32))).bind fun σ18 => (xgR σ18 r0 4 2).bind fun z20 => (xaI σ18 20 z20 (((v3 + (144 : Int32)) * (17 : Int32)) + v5)).bind fun v22 => (xsI σ18 20 z20 (((v3 + (144 : Int32)) * (17 : Int32)) + v5) (v22 + (1 : Int32))).bind fun σ24 => some (.inl (x4 + (-1 : Int32), σ24))
noncomputable def f_X4_gather (σ : XS) (r0 : Nat) (r1 : Nat) (r2 : Nat) (x3 : Int32) : Option XS := (xgR σ r0 4 0).bind fun z2 => (f_J7_fill_53178 σ z2 (0 : Int32)).bind fun σ4 => (xgR σ4 r0 4 2).bind fun z6 => (f_J7_fill_53178 σ4 z6 (0 : Int32)).bind fun σ8 => xloop (f_X4_gather_b21 r0 r1 r2) (x3 - (1 : Int32), σ8)
theorem m_X4_gather_l21 {r0 : Nat} {r1 : Nat} {r2 : Nat} {a : Int32 × XS} {x : XS} (hf : xloop (f_X4_gather_b21 r0 r1 r2) a = some x) : xsame a.2 x := by
  refine xloop_ind (P := fun a => xsame a.2 x) (fun a y hf hc he => ?_) hf
  obtain ⟨x4, σ⟩ := a
  have hy : (∀ a' : Int32 × XS, y = .inl a' → xsame σ a'.2) ∧ (∀ b1 : XS, y = .inr b1 → xsame σ b1) := by
    have hm := xsame.rf (σ := σ)
    by_cases q : x4 < 0
    · have hf := xip q hf
      obtain ⟨b0, hg, e9⟩ := xmj hf
      subst e9
      have hf := hg
      refine ⟨fun a' e => xnc2 e, fun b e => ?_⟩
      have h9 := Sum.inr.inj e
      subst h9
      obtain ⟨_, e1, hf⟩ := xbd hf
      obtain ⟨σ3, e2, hf⟩ := xbd hf
      have hm := hm.tr (m_X4_listLevels e2)
      have hf := xsj hf
      subst hf
      exact hm
    · have hf := xin q hf
      obtain ⟨_, e1, hf⟩ := xbd hf
      obtain ⟨v3, e2, hf⟩ := xbd hf
      obtain ⟨v5, e4, hf⟩ := xbd hf
      obtain ⟨_, e6, hf⟩ := xbd hf
      obtain ⟨v8, e7, hf⟩ := xbd hf
      by_cases q : v8 = 0
      · have hf := xip q hf
        have hf := xsj hf
        subst hf
        exact ⟨fun a' e => (by have h9 := Sum.inl.inj e; subst h9; exact hm), fun b e => xnc1 e⟩
      · have hf := xin q hf
        by_cases q : (v3 + (144 : Int32)) < 0
        · have hf := xip q hf
          have hf := xsj hf
          subst hf
          exact ⟨fun a' e => (by have h9 := Sum.inl.inj e; subst h9; exact hm), fun b e => xnc1 e⟩
        · have hf := xin q hf
          by_cases q : (289 : Int32) ≤ (v3 + (144 : Int32))
          · have hf := xip q hf
            have hf := xsj hf
            subst hf
            exact ⟨fun a' e => (by have h9 := Sum.inl.inj e; subst h9; exact hm), fun b e => xnc1 e⟩
          · have hf := xin q hf
            by_cases q : (17 : Int32) ≤ v5
            · have hf := xip q hf
              have hf := xsj hf
              subst hf
              exact ⟨fun a' e => (by have h9 := Sum.inl.inj e; subst h9; exact hm), fun b e => xnc1 e⟩
            · have hf := xin q hf
              obtain ⟨z10, e9, hf⟩ := xbd hf
              obtain ⟨σ12, e11, hf⟩ := xbd hf
              have hm := hm.tr (xsI_same e11)
              obtain ⟨z14, e13, hf⟩ := xbd hf
              obtain ⟨v16, e15, hf⟩ := xbd hf
              obtain ⟨σ18, e17, hf⟩ := xbd hf
              have hm := hm.tr (xsI_same e17)
              obtain ⟨z20, e19, hf⟩ := xbd hf
              obtain ⟨v22, e21, hf⟩ := xbd hf
              obtain ⟨σ24, e23, hf⟩ := xbd hf
              have hm := hm.tr (xsI_same e23)
              have hf := xsj hf
              subst hf
              exact ⟨fun a' e => (by have h9 := Sum.inl.inj e; subst h9; exact hm), fun b e => xnc1 e⟩
  cases y with
  | inl a' =>
    have h1 := hc a' rfl
    have hm := hy.1 a' rfl
    exact hm.tr (h1)
  | inr b =>
    have h1 := he b rfl
    subst h1
    exact hy.2 _ rfl
theorem s_X4_gather_l21 {G : XG} (C : XC G cX4_gather RX4 none 7 1 23) {r0 : Nat} {r1 : Nat} {r2 : Nat} {a : Int32 × XS} {x : XS} (hf : xloop (f_X4_gather_b21 r0 r1 r2) a = some x) (hk : XEnd G none x) : WW G 21 [(0, .ref (gB G + r0)), (1, .ref (gB G + r1)), (2, .ref (gB G + r2)), (4, .int a.1)] [] a.2 := by
  refine xloop_ind (P := fun a => WW G 21 [(0, .ref (gB G + r0)), (1, .ref (gB G + r1)), (2, .ref (gB G + r2)), (4, .int a.1)] [] a.2) (fun a y hf hc he => ?_) hf
  obtain ⟨x4, σ⟩ := a
  have hk : (∀ a' : Int32 × XS, y = .inl a' → WW G 21 [(0, .ref (gB G + r0)), (1, .ref (gB G + r1)), (2, .ref (gB G + r2)), (4, .int a'.1)] [] a'.2) ∧ (∀ b1 : XS, y = .inr b1 → XEnd G none b1) := ⟨hc, fun b e => by have h9 := he b e; subst h9; exact hk⟩
  refine ww_iload (pc := 21) C 3 dX4_gather_21 rfl ?_
  refine ww_if_lt (pc := 23) (tgt := 117) C dX4_gather_23 (by decide) (fun q => ?_) (fun q => ?_)
  · have hf := xip q hf
    obtain ⟨b0, hg, e9⟩ := xmj hf
    subst e9
    have hf := hg
    have hk := hk.2 _ rfl
    refine ww_aload_n (pc := 117) C 0 dX4_gather_117 rfl ?_
    obtain ⟨_, e1, hf⟩ := xbd hf
    obtain ⟨σ3, e2, hf⟩ := xbd hf
    refine ww_callVv (pc := 118) (as := []) (st := []) C (k_X4_listLevels (l := gl G) (E := gE G) (hb := gB G) (σ := σ) e2) rfl (by decide) xc_X4_51 q894 qp66 (xck_spec e1) rfl (by decide) (xst4 (Nat.le_of_ble_eq_true rfl)) (m_X4_listLevels e2).le (m_X4_listLevels e2).lim dX4_gather_118 ?_
    have hf := xsj hf
    subst hf
    exact ww_vret (pc := 121) C hk dX4_gather_121
  · have hf := xin q hf
    refine ww_aload_n (pc := 26) C 1 dX4_gather_26 rfl ?_
    refine ww_iload (pc := 27) C 3 dX4_gather_27 rfl ?_
    obtain ⟨_, e1, hf⟩ := xbd hf
    obtain ⟨v3, e2, hf⟩ := xbd hf
    refine ww_callVi (pc := 29) (as := [.int x4]) (st := []) C (k_X2_of (l := gl G) (E := gE G) (hb := gB G) (σ := σ) e2) rfl (by decide) xc_X4_34 q880 qp64 (xck_spec e1) rfl (by decide) (xst4 (Nat.le_of_ble_eq_true rfl)) xsame.rf.le xsame.rf.lim dX4_gather_29 ?_
    refine ww_sipush (pc := 32) (v := (144 : Int32)) C dX4_gather_32 (by decide) ?_
    refine ww_iadd (pc := 35) C dX4_gather_35 ?_
    refine ww_istore (pc := 36) (lv' := [(5, .int (v3 + (144 : Int32))), (0, .ref (gB G + r0)), (1, .ref (gB G + r1)), (2, .ref (gB G + r2)), (4, .int x4)]) C dX4_gather_36 (by decide) rfl ?_
    refine ww_iload (pc := 38) C 4 dX4_gather_38 rfl ?_
    obtain ⟨v5, e4, hf⟩ := xbd hf
    refine ww_callSi (pc := 40) (as := [.int x4]) (st := []) C (k_J6_bitCount_0f7a4 (l := gl G) (E := gE G) (hb := gB G) (σ := σ) e4) xc_X4_40 q883 rfl (by decide) (xst4 (Nat.le_of_ble_eq_true rfl)) xsame.rf.le xsame.rf.lim dX4_gather_40 ?_
    refine ww_istore (pc := 43) (lv' := [(6, .int v5), (5, .int (v3 + (144 : Int32))), (0, .ref (gB G + r0)), (1, .ref (gB G + r1)), (2, .ref (gB G + r2)), (4, .int x4)]) C dX4_gather_43 (by decide) rfl ?_
    refine ww_aload_n (pc := 45) C 4 dX4_gather_45 rfl ?_
    refine ww_iload (pc := 46) C 5 dX4_gather_46 rfl ?_
    obtain ⟨_, e6, hf⟩ := xbd hf
    obtain ⟨v8, e7, hf⟩ := xbd hf
    refine ww_callVi (pc := 48) (as := [.int x4]) (st := []) C (k_X6_allows (l := gl G) (E := gE G) (hb := gB G) (σ := σ) e7) rfl (by decide) xc_X4_45 q890 qp65 (xck_spec e6) rfl (by decide) (xst4 (Nat.le_of_ble_eq_true rfl)) xsame.rf.le xsame.rf.lim dX4_gather_48 ?_
    refine ww_if_eq (pc := 51) (tgt := 111) C dX4_gather_51 (by decide) (fun q => ?_) (fun q => ?_)
    · have hf := xip q hf
      refine ww_iinc (pc := 111) (v := x4 + (-1 : Int32)) (lv' := [(4, .int (x4 + (-1 : Int32))), (6, .int v5), (5, .int (v3 + (144 : Int32))), (0, .ref (gB G + r0)), (1, .ref (gB G + r1)), (2, .ref (gB G + r2))]) C 5 dX4_gather_111 rfl (congrArg (fun z => x4 + z) (show Int32.ofInt (-1) = (-1 : Int32) by decide)) (by decide) rfl ?_
      refine ww_goto (pc := 114) (tgt := 21) C dX4_gather_114 (by decide) ?_
      have hf := xsj hf
      subst hf
      refine ww_sub [3, 4, 5, 0] rfl ?_
      exact hk.1 (x4 + (-1 : Int32), σ) rfl
    · have hf := xin q hf
      refine ww_iload (pc := 54) C 1 dX4_gather_54 rfl ?_
      refine ww_if_lt (pc := 56) (tgt := 111) C dX4_gather_56 (by decide) (fun q => ?_) (fun q => ?_)
      · have hf := xip q hf
        refine ww_iinc (pc := 111) (v := x4 + (-1 : Int32)) (lv' := [(4, .int (x4 + (-1 : Int32))), (6, .int v5), (5, .int (v3 + (144 : Int32))), (0, .ref (gB G + r0)), (1, .ref (gB G + r1)), (2, .ref (gB G + r2))]) C 5 dX4_gather_111 rfl (congrArg (fun z => x4 + z) (show Int32.ofInt (-1) = (-1 : Int32) by decide)) (by decide) rfl ?_
        refine ww_goto (pc := 114) (tgt := 21) C dX4_gather_114 (by decide) ?_
        have hf := xsj hf
        subst hf
        refine ww_sub [3, 4, 5, 0] rfl ?_
        exact hk.1 (x4 + (-1 : Int32), σ) rfl
      · have hf := xin q hf
        refine ww_iload (pc := 59) C 1 dX4_gather_59 rfl ?_
        refine ww_sipush (pc := 61) (v := (289 : Int32)) C dX4_gather_61 (by decide) ?_
        refine ww_icmp_ge (pc := 64) (tgt := 111) C dX4_gather_64 (by decide) (fun q => ?_) (fun q => ?_)
        · have hf := xip q hf
          refine ww_iinc (pc := 111) (v := x4 + (-1 : Int32)) (lv' := [(4, .int (x4 + (-1 : Int32))), (6, .int v5), (5, .int (v3 + (144 : Int32))), (0, .ref (gB G + r0)), (1, .ref (gB G + r1)), (2, .ref (gB G + r2))]) C 5 dX4_gather_111 rfl (congrArg (fun z => x4 + z) (show Int32.ofInt (-1) = (-1 : Int32) by decide)) (by decide) rfl ?_
          refine ww_goto (pc := 114) (tgt := 21) C dX4_gather_114 (by decide) ?_
          have hf := xsj hf
          subst hf
          refine ww_sub [3, 4, 5, 0] rfl ?_
          exact hk.1 (x4 + (-1 : Int32), σ) rfl
        · have hf := xin q hf
          refine ww_iload (pc := 67) C 0 dX4_gather_67 rfl ?_
          refine ww_bipush (pc := 69) (v := (17 : Int32)) C dX4_gather_69 (by decide) ?_
          refine ww_icmp_ge (pc := 71) (tgt := 111) C dX4_gather_71 (by decide) (fun q => ?_) (fun q => ?_)
          · have hf := xip q hf
            refine ww_iinc (pc := 111) (v := x4 + (-1 : Int32)) (lv' := [(4, .int (x4 + (-1 : Int32))), (6, .int v5), (5, .int (v3 + (144 : Int32))), (0, .ref (gB G + r0)), (1, .ref (gB G + r1)), (2, .ref (gB G + r2))]) C 5 dX4_gather_111 rfl (congrArg (fun z => x4 + z) (show Int32.ofInt (-1) = (-1 : Int32) by decide)) (by decide) rfl ?_
            refine ww_goto (pc := 114) (tgt := 21) C dX4_gather_114 (by decide) ?_
            have hf := xsj hf
            subst hf
            refine ww_sub [3, 4, 5, 0] rfl ?_
            exact hk.1 (x4 + (-1 : Int32), σ) rfl
          · have hf := xin q hf
            refine ww_aload_n (pc := 74) C 2 dX4_gather_74 rfl ?_
            obtain ⟨z10, e9, hf⟩ := xbd hf
            refine gf_X4_15 (pc := 75) C e9 dX4_gather_75 ?_
            refine ww_iload (pc := 78) C 1 dX4_gather_78 rfl ?_
            refine ww_iload (pc := 80) C 5 dX4_gather_80 rfl ?_
            obtain ⟨σ12, e11, hf⟩ := xbd hf
            refine ww_iast (pc := 82) C e11 dX4_gather_82 ?_
            refine ww_aload_n (pc := 83) C 2 dX4_gather_83 rfl ?_
            obtain ⟨z14, e13, hf⟩ := xbd hf
            refine gf_X4_9 (pc := 84) C e13 dX4_gather_84 ?_
            refine ww_iload (pc := 87) C 1 dX4_gather_87 rfl ?_
            refine ww_dup2 (pc := 89) C dX4_gather_89 rfl rfl ?_
            obtain ⟨v16, e15, hf⟩ := xbd hf
            refine ww_iald (pc := 90) C e15 dX4_gather_90 ?_
            refine ww_iconst (pc := 91) (v := (1 : Int32)) C dX4_gather_91 (by decide) ?_
            refine ww_iadd (pc := 92) C dX4_gather_92 ?_
            obtain ⟨σ18, e17, hf⟩ := xbd hf
            refine ww_iast (pc := 93) C e17 dX4_gather_93 ?_
            refine ww_aload_n (pc := 94) C 2 dX4_gather_94 rfl ?_
            obtain ⟨z20, e19, hf⟩ := xbd hf
            refine gf_X4_18 (pc := 95) C e19 dX4_gather_95 ?_
            refine ww_iload (pc := 98) C 1 dX4_gather_98 rfl ?_
            refine ww_bipush (pc := 100) (v := (17 : Int32)) C dX4_gather_100 (by decide) ?_
            refine ww_imul (pc := 102) C dX4_gather_102 ?_
            refine ww_iload (pc := 103) C 0 dX4_gather_103 rfl ?_
            refine ww_iadd (pc := 105) C dX4_gather_105 ?_
            refine ww_dup2 (pc := 106) C dX4_gather_106 rfl rfl ?_
            obtain ⟨v22, e21, hf⟩ := xbd hf
            refine ww_iald (pc := 107) C e21 dX4_gather_107 ?_
            refine ww_iconst (pc := 108) (v := (1 : Int32)) C dX4_gather_108 (by decide) ?_
            refine ww_iadd (pc := 109) C dX4_gather_109 ?_
            obtain ⟨σ24, e23, hf⟩ := xbd hf
            refine ww_iast (pc := 110) C e23 dX4_gather_110 ?_
            refine ww_iinc (pc := 111) (v := x4 + (-1 : Int32)) (lv' := [(4, .int (x4 + (-1 : Int32))), (6, .int v5), (5, .int (v3 + (144 : Int32))), (0, .ref (gB G + r0)), (1, .ref (gB G + r1)), (2, .ref (gB G + r2))]) C 5 dX4_gather_111 rfl (congrArg (fun z => x4 + z) (show Int32.ofInt (-1) = (-1 : Int32) by decide)) (by decide) rfl ?_
            refine ww_goto (pc := 114) (tgt := 21) C dX4_gather_114 (by decide) ?_
            have hf := xsj hf
            subst hf
            refine ww_sub [3, 4, 5, 0] rfl ?_
            exact hk.1 (x4 + (-1 : Int32), σ24) rfl
theorem s_X4_gather_e {G : XG} (C : XC G cX4_gather RX4 none 7 1 23) {σ : XS} {r0 : Nat} {r1 : Nat} {r2 : Nat} {x3 : Int32} {x : XS} (hf : f_X4_gather σ r0 r1 r2 x3 = some x) (hk : XEnd G none x) : WW G 0 [(0, .ref (gB G + r0)), (1, .ref (gB G + r1)), (2, .ref (gB G + r2)), (3, .int x3)] [] σ := by
  refine ww_aload_n (pc := 0) C 0 dX4_gather_0 rfl ?_
  obtain ⟨z2, e1, hf⟩ := xbd hf
  refine gf_X4_9 (pc := 1) C e1 dX4_gather_1 ?_
  refine ww_iconst (pc := 4) (v := (0 : Int32)) C dX4_gather_4 (by decide) ?_
  obtain ⟨σ4, e3, hf⟩ := xbd hf
  refine ww_callSv (pc := 5) (as := [.ref (gB G + z2), .int (0 : Int32)]) (st := []) C (k_J7_fill_53178 (l := gl G) (E := gE G) (hb := gB G) (σ := σ) e3) xc_X4_28 q174 rfl (by decide) (xst4 (Nat.le_of_ble_eq_true rfl)) (m_J7_fill_53178 e3).le (m_J7_fill_53178 e3).lim dX4_gather_5 ?_
  refine ww_aload_n (pc := 8) C 0 dX4_gather_8 rfl ?_
  obtain ⟨z6, e5, hf⟩ := xbd hf
  refine gf_X4_18 (pc := 9) C e5 dX4_gather_9 ?_
  refine ww_iconst (pc := 12) (v := (0 : Int32)) C dX4_gather_12 (by decide) ?_
  obtain ⟨σ8, e7, hf⟩ := xbd hf
  refine ww_callSv (pc := 13) (as := [.ref (gB G + z6), .int (0 : Int32)]) (st := []) C (k_J7_fill_53178 (l := gl G) (E := gE G) (hb := gB G) (σ := σ4) e7) xc_X4_28 q174 rfl (by decide) (xst4 (Nat.le_of_ble_eq_true rfl)) (m_J7_fill_53178 e7).le (m_J7_fill_53178 e7).lim dX4_gather_13 ?_
  refine ww_iload_n (pc := 16) C 3 dX4_gather_16 rfl ?_
  refine ww_iconst (pc := 17) (v := (1 : Int32)) C dX4_gather_17 (by decide) ?_
  refine ww_isub (pc := 18) C dX4_gather_18 ?_
  refine ww_istore (pc := 19) (lv' := [(4, .int (x3 - (1 : Int32))), (0, .ref (gB G + r0)), (1, .ref (gB G + r1)), (2, .ref (gB G + r2)), (3, .int x3)]) C dX4_gather_19 (by decide) rfl ?_
  refine ww_sub [1, 2, 3, 0] rfl ?_
  exact s_X4_gather_l21 C (a := (x3 - (1 : Int32), σ8)) hf hk
theorem m_X4_gather {σ : XS} {r0 : Nat} {r1 : Nat} {r2 : Nat} {x3 : Int32} {x : XS} (hf : f_X4_gather σ r0 r1 r2 x3 = some x) : xsame σ x := by
  have hm := xsame.rf (σ := σ)
  obtain ⟨z2, e1, hf⟩ := xbd hf
  obtain ⟨σ4, e3, hf⟩ := xbd hf
  have hm := hm.tr (m_J7_fill_53178 e3)
  obtain ⟨z6, e5, hf⟩ := xbd hf
  obtain ⟨σ8, e7, hf⟩ := xbd hf
  have hm := hm.tr (m_J7_fill_53178 e7)
  exact hm.tr (m_X4_gather_l21 (a := (x3 - (1 : Int32), σ8)) hf)
theorem k_X4_gather {l : Launch} {E : XD} {hb : Nat} {σ : XS} {r0 : Nat} {r1 : Nat} {r2 : Nat} {x3 : Int32} {x : XS} (h : f_X4_gather σ r0 r1 r2 x3 = some x) : XM l yX4_gather cX4_gather 7 none 1 23 E hb [.ref (hb + r0), .ref (hb + r1), .ref (hb + r2), .int x3] σ none x := by
  refine xm_of (by decide) (Nat.le_of_ble_eq_true rfl) (m_X4_gather h).le (fun G hG C hl hQ => ?_)
  obtain ⟨rfl, rfl, rfl, hN⟩ := hG
  exact s_X4_gather_e C h hQ
noncomputable def f_X11_levelsNow_j4 (σ : XS) (r0 : Nat) (t0 : Nat) : Option (Nat × XS) := (xgR σ r0 11 8).bind fun z2 => (xgI σ z2 4 5).bind fun v4 => (xgR σ r0 11 3).bind fun z6 => (xgI σ z6 6 7).bind fun v8 => if v4 = v8 then ((xgR σ r0 11 8).bind fun z10 => (xnz z10).bind fun _ => some (z10, σ)) else (xgR σ r0 11 8).bind fun z10 => (xgR σ r0 11 6).bind fun z12 => (xgR σ r0 11 3).bind fun z14 => (xgR σ r0 11 2).bind fun z16 => (xck σ z16 3).bind fun _ => (f_X3_states σ z16).bind fun v19 => (xck σ z10 4).bind fun _ => (f_X4_gather σ z10 z12 z14 v19).bind fun σ22 => (xgR σ22 r0 11 8).bind fun z24 => (xgR σ22 r0 11 3).bind fun z26 => (xgI σ22 z26 6 7).bind fun v28 => (xpI σ22 z24 4 5 v28).bind fun σ30 => (xgR σ30 r0 11 8).bind fun z32 => (xnz z32).bind fun _ => some (z32, σ30)
noncomputable def f_X11_levelsNow (σ : XS) (r0 : Nat) : Option (Nat × XS) := (xck σ r0 11).bind fun _ => (f_X11_energiesNow σ r0).bind fun (z4, σ3) => (xnz z4).bind fun _ => f_X11_levelsNow_j4 σ3 r0 z4
theorem s_X11_levelsNow_j4 {G : XG} (C : XC G cX11_levelsNow RX11 (some (.object "SpinStrip$Levels")) 1 4 95) {σ : XS} {r0 : Nat} {t0 : Nat} {x : Nat × XS} (hf : f_X11_levelsNow_j4 σ r0 t0 = some x) (hk : XEnd G (some (xrv (gB G) x.1)) x.2 ∧ XUp G x.2) : WW G 4 [(0, .ref (gB G + r0))] [.ref (gB G + t0)] σ := by
  refine ww_pop (pc := 4) C dX11_levelsNow_4 rfl ?_
  refine ww_aload_n (pc := 5) C 0 dX11_levelsNow_5 rfl ?_
  obtain ⟨z2, e1, hf⟩ := xbd hf
  refine gf_X11_62 (pc := 6) C e1 dX11_levelsNow_6 ?_
  obtain ⟨v4, e3, hf⟩ := xbd hf
  refine gf_X11_469 (pc := 9) C e3 dX11_levelsNow_9 ?_
  refine ww_aload_n (pc := 12) C 0 dX11_levelsNow_12 rfl ?_
  obtain ⟨z6, e5, hf⟩ := xbd hf
  refine gf_X11_31 (pc := 13) C e5 dX11_levelsNow_13 ?_
  obtain ⟨v8, e7, hf⟩ := xbd hf
  refine gf_X11_463 (pc := 16) C e7 dX11_levelsNow_16 ?_
  refine ww_icmp_eq (pc := 19) (tgt := 58) C dX11_levelsNow_19 (by decide) (fun q => ?_) (fun q => ?_)
  · have hf := xip q hf
    refine ww_aload_n (pc := 58) C 0 dX11_levelsNow_58 rfl ?_
    obtain ⟨z10, e9, hf⟩ := xbd hf
    refine gf_X11_62 (pc := 59) C e9 dX11_levelsNow_59 ?_
    obtain ⟨_, e11, hf⟩ := xbd hf
    have hf := xsj hf
    subst hf
    exact ww_aret (pc := 62) C (Or.inl ⟨_, rfl⟩) (xnz_spec e11) hk.1 dX11_levelsNow_62
  · have hf := xin q hf
    refine ww_aload_n (pc := 22) C 0 dX11_levelsNow_22 rfl ?_
    obtain ⟨z10, e9, hf⟩ := xbd hf
    refine gf_X11_62 (pc := 23) C e9 dX11_levelsNow_23 ?_
    refine ww_aload_n (pc := 26) C 0 dX11_levelsNow_26 rfl ?_
    obtain ⟨z12, e11, hf⟩ := xbd hf
    refine gf_X11_52 (pc := 27) C e11 dX11_levelsNow_27 ?_
    refine ww_aload_n (pc := 30) C 0 dX11_levelsNow_30 rfl ?_
    obtain ⟨z14, e13, hf⟩ := xbd hf
    refine gf_X11_31 (pc := 31) C e13 dX11_levelsNow_31 ?_
    refine ww_aload_n (pc := 34) C 0 dX11_levelsNow_34 rfl ?_
    obtain ⟨z16, e15, hf⟩ := xbd hf
    refine gf_X11_24 (pc := 35) C e15 dX11_levelsNow_35 ?_
    obtain ⟨_, e17, hf⟩ := xbd hf
    obtain ⟨v19, e18, hf⟩ := xbd hf
    refine ww_callVi (pc := 38) (as := []) (st := [.ref (gB G + z14), .ref (gB G + z12), .ref (gB G + z10)]) C (k_X3_states (l := gl G) (E := gE G) (hb := gB G) (σ := σ) e18) rfl (by decide) xc_X11_291 q871 qp62 (xck_spec e17) rfl (by decide) (xst4 (Nat.le_of_ble_eq_true rfl)) xsame.rf.le xsame.rf.lim dX11_levelsNow_38 ?_
    obtain ⟨_, e20, hf⟩ := xbd hf
    obtain ⟨σ22, e21, hf⟩ := xbd hf
    refine ww_callVv (pc := 41) (as := [.ref (gB G + z12), .ref (gB G + z14), .int v19]) (st := []) C (k_X4_gather (l := gl G) (E := gE G) (hb := gB G) (σ := σ) e21) rfl (by decide) xc_X11_470 q875 qp63 (xck_spec e20) rfl (by decide) (xst4 (Nat.le_of_ble_eq_true rfl)) (m_X4_gather e21).le (m_X4_gather e21).lim dX11_levelsNow_41 ?_
    refine ww_aload_n (pc := 44) C 0 dX11_levelsNow_44 rfl ?_
    obtain ⟨z24, e23, hf⟩ := xbd hf
    refine gf_X11_62 (pc := 45) C e23 dX11_levelsNow_45 ?_
    refine ww_aload_n (pc := 48) C 0 dX11_levelsNow_48 rfl ?_
    obtain ⟨z26, e25, hf⟩ := xbd hf
    refine gf_X11_31 (pc := 49) C e25 dX11_levelsNow_49 ?_
    obtain ⟨v28, e27, hf⟩ := xbd hf
    refine gf_X11_463 (pc := 52) C e27 dX11_levelsNow_52 ?_
    obtain ⟨σ30, e29, hf⟩ := xbd hf
    refine pf_X11_469 (pc := 55) C e29 dX11_levelsNow_55 ?_
    refine ww_aload_n (pc := 58) C 0 dX11_levelsNow_58 rfl ?_
    obtain ⟨z32, e31, hf⟩ := xbd hf
    refine gf_X11_62 (pc := 59) C e31 dX11_levelsNow_59 ?_
    obtain ⟨_, e33, hf⟩ := xbd hf
    have hf := xsj hf
    subst hf
    exact ww_aret (pc := 62) C (Or.inl ⟨_, rfl⟩) (xnz_spec e33) hk.1 dX11_levelsNow_62
theorem m_X11_levelsNow_j4 {σ : XS} {r0 : Nat} {t0 : Nat} {x : Nat × XS} (hf : f_X11_levelsNow_j4 σ r0 t0 = some x) : xext σ x.2 := by
  have hm := xext.rf (σ := σ)
  obtain ⟨z2, e1, hf⟩ := xbd hf
  obtain ⟨v4, e3, hf⟩ := xbd hf
  obtain ⟨z6, e5, hf⟩ := xbd hf
  obtain ⟨v8, e7, hf⟩ := xbd hf
  by_cases q : v4 = v8
  · have hf := xip q hf
    obtain ⟨z10, e9, hf⟩ := xbd hf
    obtain ⟨_, e11, hf⟩ := xbd hf
    have hf := xsj hf
    subst hf
    exact hm
  · have hf := xin q hf
    obtain ⟨z10, e9, hf⟩ := xbd hf
    obtain ⟨z12, e11, hf⟩ := xbd hf
    obtain ⟨z14, e13, hf⟩ := xbd hf
    obtain ⟨z16, e15, hf⟩ := xbd hf
    obtain ⟨_, e17, hf⟩ := xbd hf
    obtain ⟨v19, e18, hf⟩ := xbd hf
    obtain ⟨_, e20, hf⟩ := xbd hf
    obtain ⟨σ22, e21, hf⟩ := xbd hf
    have hm := hm.tr (m_X4_gather e21).ext
    obtain ⟨z24, e23, hf⟩ := xbd hf
    obtain ⟨z26, e25, hf⟩ := xbd hf
    obtain ⟨v28, e27, hf⟩ := xbd hf
    obtain ⟨σ30, e29, hf⟩ := xbd hf
    have hm := hm.tr (xpI_same e29).ext
    obtain ⟨z32, e31, hf⟩ := xbd hf
    obtain ⟨_, e33, hf⟩ := xbd hf
    have hf := xsj hf
    subst hf
    exact hm
theorem s_X11_levelsNow_e {G : XG} (C : XC G cX11_levelsNow RX11 (some (.object "SpinStrip$Levels")) 1 4 95) {σ : XS} {r0 : Nat} {x : Nat × XS} (hf : f_X11_levelsNow σ r0 = some x) (hk : XEnd G (some (xrv (gB G) x.1)) x.2 ∧ XUp G x.2) : WW G 0 [(0, .ref (gB G + r0))] [] σ := by
  refine ww_aload_n (pc := 0) C 0 dX11_levelsNow_0 rfl ?_
  obtain ⟨_, e1, hf⟩ := xbd hf
  obtain ⟨⟨z4, σ3⟩, e2, hf⟩ := xbd hf
  dsimp only at hf
  obtain ⟨_, e5, hf⟩ := xbd hf
  refine ww_callVr (pc := 1) (as := []) (st := []) C (k_X11_energiesNow (l := gl G) (E := gE G) (hb := gB G) (σ := σ) e2) rfl (by decide) xc_X11_367 q850 qp57 (xck_spec e1) rfl (by decide) (xst4 (Nat.le_of_ble_eq_true rfl)) (m_X11_energiesNow e2).1 (fun q => by have hm9 := m_X11_levelsNow_j4 hf; exact XLim.mid q (m_X11_energiesNow e2) hm9 hk.2) dX11_levelsNow_1 ?_
  refine ww_nn (xnz_spec e5) ?_
  refine ww_sub [0] rfl ?_
  exact s_X11_levelsNow_j4 C hf hk
theorem m_X11_levelsNow {σ : XS} {r0 : Nat} {x : Nat × XS} (hf : f_X11_levelsNow σ r0 = some x) : xext σ x.2 := by
  have hm := xext.rf (σ := σ)
  obtain ⟨_, e1, hf⟩ := xbd hf
  obtain ⟨⟨z4, σ3⟩, e2, hf⟩ := xbd hf
  dsimp only at hf
  have hm := hm.tr (m_X11_energiesNow e2)
  obtain ⟨_, e5, hf⟩ := xbd hf
  exact hm.tr (m_X11_levelsNow_j4 hf)
theorem k_X11_levelsNow {l : Launch} {E : XD} {hb : Nat} {σ : XS} {r0 : Nat} {x : Nat × XS} (h : f_X11_levelsNow σ r0 = some x) : XM l yX11_levelsNow cX11_levelsNow 1 (some (.object "SpinStrip$Levels")) 4 95 E hb [.ref (hb + r0)] σ (some (xrv (hb) x.1)) x.2 := by
  refine xm_of (by decide) (Nat.le_of_ble_eq_true rfl) (m_X11_levelsNow h).1 (fun G hG C hl hQ => ?_)
  obtain ⟨rfl, rfl, rfl, hN⟩ := hG
  exact s_X11_levelsNow_e C h ⟨hQ, hl.2⟩
noncomputable def f_X9_putInOrder (σ : XS) (r0 : Nat) (x1 : Int32) (x2 : Int32) : Option XS := if x2 < 0 then (some σ) else if (289 : Int32) ≤ x2 then (some σ) else (xgR σ r0 9 1).bind fun z2 => (xaI σ 20 z2 x2).bind fun v4 => if v4 < 0 then (some σ) else (xgR σ r0 9 1).bind fun z6 => (xaI σ 20 z6 x2).bind fun v8 => if (1024 : Int32) ≤ v8 then (some σ) else (xgR σ r0 9 0).bind fun z10 => (xgR σ r0 9 1).bind fun z12 => (xaI σ 20 z12 x2).bind fun v14 => (xsI σ 20 z10 v14 x1).bind fun σ16 => (xgR σ16 r0 9 1).bind fun z18 => (xaI σ16 20 z18 x2).bind fun v20 => (xsI σ16 20 z18 x2 (v20 + (1 : Int32))).bind fun σ22 => some σ22
theorem s_X9_putInOrder_e {G : XG} (C : XC G cX9_putInOrder RX9 none 3 0 0) {σ : XS} {r0 : Nat} {x1 : Int32} {x2 : Int32} {x : XS} (hf : f_X9_putInOrder σ r0 x1 x2 = some x) (hk : XEnd G none x) : WW G 0 [(0, .ref (gB G + r0)), (1, .int x1), (2, .int x2)] [] σ := by
  refine ww_iload_n (pc := 0) C 2 dX9_putInOrder_0 rfl ?_
  refine ww_if_lt (pc := 1) (tgt := 54) C dX9_putInOrder_1 (by decide) (fun q => ?_) (fun q => ?_)
  · have hf := xip q hf
    have hf := xsj hf
    subst hf
    exact ww_vret (pc := 54) C hk dX9_putInOrder_54
  · have hf := xin q hf
    refine ww_iload_n (pc := 4) C 2 dX9_putInOrder_4 rfl ?_
    refine ww_sipush (pc := 5) (v := (289 : Int32)) C dX9_putInOrder_5 (by decide) ?_
    refine ww_icmp_ge (pc := 8) (tgt := 54) C dX9_putInOrder_8 (by decide) (fun q => ?_) (fun q => ?_)
    · have hf := xip q hf
      have hf := xsj hf
      subst hf
      exact ww_vret (pc := 54) C hk dX9_putInOrder_54
    · have hf := xin q hf
      refine ww_aload_n (pc := 11) C 0 dX9_putInOrder_11 rfl ?_
      obtain ⟨z2, e1, hf⟩ := xbd hf
      refine gf_X9_15 (pc := 12) C e1 dX9_putInOrder_12 ?_
      refine ww_iload_n (pc := 15) C 2 dX9_putInOrder_15 rfl ?_
      obtain ⟨v4, e3, hf⟩ := xbd hf
      refine ww_iald (pc := 16) C e3 dX9_putInOrder_16 ?_
      refine ww_if_lt (pc := 17) (tgt := 54) C dX9_putInOrder_17 (by decide) (fun q => ?_) (fun q => ?_)
      · have hf := xip q hf
        have hf := xsj hf
        subst hf
        exact ww_vret (pc := 54) C hk dX9_putInOrder_54
      · have hf := xin q hf
        refine ww_aload_n (pc := 20) C 0 dX9_putInOrder_20 rfl ?_
        obtain ⟨z6, e5, hf⟩ := xbd hf
        refine gf_X9_15 (pc := 21) C e5 dX9_putInOrder_21 ?_
        refine ww_iload_n (pc := 24) C 2 dX9_putInOrder_24 rfl ?_
        obtain ⟨v8, e7, hf⟩ := xbd hf
        refine ww_iald (pc := 25) C e7 dX9_putInOrder_25 ?_
        refine ww_sipush (pc := 26) (v := (1024 : Int32)) C dX9_putInOrder_26 (by decide) ?_
        refine ww_icmp_ge (pc := 29) (tgt := 54) C dX9_putInOrder_29 (by decide) (fun q => ?_) (fun q => ?_)
        · have hf := xip q hf
          have hf := xsj hf
          subst hf
          exact ww_vret (pc := 54) C hk dX9_putInOrder_54
        · have hf := xin q hf
          refine ww_aload_n (pc := 32) C 0 dX9_putInOrder_32 rfl ?_
          obtain ⟨z10, e9, hf⟩ := xbd hf
          refine gf_X9_9 (pc := 33) C e9 dX9_putInOrder_33 ?_
          refine ww_aload_n (pc := 36) C 0 dX9_putInOrder_36 rfl ?_
          obtain ⟨z12, e11, hf⟩ := xbd hf
          refine gf_X9_15 (pc := 37) C e11 dX9_putInOrder_37 ?_
          refine ww_iload_n (pc := 40) C 2 dX9_putInOrder_40 rfl ?_
          obtain ⟨v14, e13, hf⟩ := xbd hf
          refine ww_iald (pc := 41) C e13 dX9_putInOrder_41 ?_
          refine ww_iload_n (pc := 42) C 1 dX9_putInOrder_42 rfl ?_
          obtain ⟨σ16, e15, hf⟩ := xbd hf
          refine ww_iast (pc := 43) C e15 dX9_putInOrder_43 ?_
          refine ww_aload_n (pc := 44) C 0 dX9_putInOrder_44 rfl ?_
          obtain ⟨z18, e17, hf⟩ := xbd hf
          refine gf_X9_15 (pc := 45) C e17 dX9_putInOrder_45 ?_
          refine ww_iload_n (pc := 48) C 2 dX9_putInOrder_48 rfl ?_
          refine ww_dup2 (pc := 49) C dX9_putInOrder_49 rfl rfl ?_
          obtain ⟨v20, e19, hf⟩ := xbd hf
          refine ww_iald (pc := 50) C e19 dX9_putInOrder_50 ?_
          refine ww_iconst (pc := 51) (v := (1 : Int32)) C dX9_putInOrder_51 (by decide) ?_
          refine ww_iadd (pc := 52) C dX9_putInOrder_52 ?_
          obtain ⟨σ22, e21, hf⟩ := xbd hf
          refine ww_iast (pc := 53) C e21 dX9_putInOrder_53 ?_
          have hf := xsj hf
          subst hf
          exact ww_vret (pc := 54) C hk dX9_putInOrder_54
theorem m_X9_putInOrder {σ : XS} {r0 : Nat} {x1 : Int32} {x2 : Int32} {x : XS} (hf : f_X9_putInOrder σ r0 x1 x2 = some x) : xsame σ x := by
  have hm := xsame.rf (σ := σ)
  by_cases q : x2 < 0
  · have hf := xip q hf
    have hf := xsj hf
    subst hf
    exact hm
  · have hf := xin q hf
    by_cases q : (289 : Int32) ≤ x2
    · have hf := xip q hf
      have hf := xsj hf
      subst hf
      exact hm
    · have hf := xin q hf
      obtain ⟨z2, e1, hf⟩ := xbd hf
      obtain ⟨v4, e3, hf⟩ := xbd hf
      by_cases q : v4 < 0
      · have hf := xip q hf
        have hf := xsj hf
        subst hf
        exact hm
      · have hf := xin q hf
        obtain ⟨z6, e5, hf⟩ := xbd hf
        obtain ⟨v8, e7, hf⟩ := xbd hf
        by_cases q : (1024 : Int32) ≤ v8
        · have hf := xip q hf
          have hf := xsj hf
          subst hf
          exact hm
        · have hf := xin q hf
          obtain ⟨z10, e9, hf⟩ := xbd hf
          obtain ⟨z12, e11, hf⟩ := xbd hf
          obtain ⟨v14, e13, hf⟩ := xbd hf
          obtain ⟨σ16, e15, hf⟩ := xbd hf
          have hm := hm.tr (xsI_same e15)
          obtain ⟨z18, e17, hf⟩ := xbd hf
          obtain ⟨v20, e19, hf⟩ := xbd hf
          obtain ⟨σ22, e21, hf⟩ := xbd hf
          have hm := hm.tr (xsI_same e21)
          have hf := xsj hf
          subst hf
          exact hm
theorem k_X9_putInOrder {l : Launch} {E : XD} {hb : Nat} {σ : XS} {r0 : Nat} {x1 : Int32} {x2 : Int32} {x : XS} (h : f_X9_putInOrder σ r0 x1 x2 = some x) : XM l yX9_putInOrder cX9_putInOrder 3 none 0 0 E hb [.ref (hb + r0), .int x1, .int x2] σ none x := by
  refine xm_of (by decide) (Nat.le_of_ble_eq_true rfl) (m_X9_putInOrder h).le (fun G hG C hl hQ => ?_)
  obtain ⟨rfl, rfl, rfl, hN⟩ := hG
  exact s_X9_putInOrder_e C h hQ
