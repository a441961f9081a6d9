/-! changes by hand: turn, tie, pull, pin -/
section NEWROW
variable {g : GD} {gT gP : GH} {st : Nat} {I I' : Nat → Nat → Int32}
def gUp (gT : GH) (t : Nat) (g : GD) (F : Nat → Int32) : GH := fun x => if x = t then (g, F) else gT x
theorem gUp_old {t x : Nat} {F : Nat → Int32} (h : x < t) : gUp gT t g F x = gT x := by unfold gUp; rw [if_neg (by omega)]
theorem gUp_new {t : Nat} {F : Nat → Int32} : gUp gT t g F t = (g, F) := by unfold gUp; rw [if_pos rfl]
/-- the state alone is another -/
theorem LV_state (hg : g ∈ gAll) {b : Nat} (H : LV g gT gP st I 16 (I 191)) (h0 : ∀ k, k ≠ 4 → I' 16 k = I 16 k) (h4 : I' 16 4 = nI b) (h1 : ∀ a k, 17 ≤ a → a ≤ 18 → I' a k = I a k) (hr : ∀ k, k ≠ 64 → I' 191 k = I 191 k) (hr4 : I' 191 64 = nI b) (hb : b < 2 ^ gSz g)
    (hl : ∀ i, i < gSz g → I 191 (48 + i) ≠ 0 → b.testBit i = decide (I 191 (48 + i) = 1)) : LV g gT gP st I' 16 (I' 191) := by
  have h16 := (gAll_b g hg).2.2.1
  obtain ⟨⟨e1, e2, ⟨p, u, e3, e4, e5, e6⟩, e7, e8⟩, ⟨o1, o2, ⟨b0, o3, o4, o5⟩, o6⟩, t, q, t1, t2, t3, t4, t5, t6, t7, t8⟩ := H
  refine ⟨⟨fun t ht => by rw [h1 _ _ (by omega) (by omega), hr _ (by omega)]; exact e1 t ht, fun i hi => by rw [h1 _ _ (by omega) (by omega), hr _ (by omega)]; exact e2 i hi, ⟨p, u, by rw [h0 _ (by omega)]; exact e3, by rw [h0 _ (by omega)]; exact e4, fun i => ?_, fun i => ?_⟩, by rw [h4, hr4], by rw [h0 _ (by omega), hr _ (by omega)]; exact e8⟩, ⟨fun k hk => by rw [hr _ (by omega)]; exact o1 k hk, fun i hi => by rw [hr _ (by omega)]; exact o2 i hi, ⟨b, hb, hr4, fun i hi => by rw [hr _ (by omega)]; exact hl i hi⟩, by rw [hr _ (by omega)]; exact o6⟩, t, q, t1, t2, by rw [h0 _ (by omega)]; exact t3, by rw [h0 _ (by omega)]; exact t4, t5, fun k hk => by rw [hr _ (by omega)]; exact t6 k hk, t7, fun k hk => by rw [hr _ (by omega)]; exact t8 k hk⟩
  · by_cases hi : i < gSz g
    · rw [e5, hr _ (by omega)]
    · rw [e5]; simp [hi]
  · by_cases hi : i < gSz g
    · rw [e6, hr _ (by omega)]
    · rw [e6]; simp [hi]
/-- one J is another -/
theorem LV_tie (hg : g ∈ gAll) {x : Nat} {v : Int32} (hx : x < 48) (hv : -3 ≤ v.toInt ∧ v.toInt ≤ 3) (H : LV g gT gP st I 16 (I 191)) (h0 : ∀ k, k < 6 → I' 16 k = I 16 k) (h6 : I' 16 6 = nI (st + 1)) (h7 : I' 16 7 = nI (st + 1))
    (hJ : ∀ t, t < 32 → I' 17 t = if t = x ∧ (gTo g t).isSome then v else I 17 t) (hF : ∀ i, i < 16 → I' 18 i = if 32 + i = x ∧ i < gSz g then v else I 18 i)
    (hr : ∀ k, I' 191 k = if k = x then v else I 191 k) : LV g (gUp gT (st + 1) g (I' 191)) (gUp gP (st + 1) g (I' 191)) (st + 1) I' 16 (I' 191) := by
  have h16 := (gAll_b g hg).2.2.1
  obtain ⟨⟨e1, e2, ⟨p, u, e3, e4, e5, e6⟩, e7, e8⟩, ⟨o1, o2, ⟨b0, o3, o4, o5⟩, o6⟩, -⟩ := H
  have hr2 : ∀ k, k ≠ x → I' 191 k = I 191 k := fun k hk => by rw [hr, if_neg hk]
  refine ⟨⟨fun t ht => ?_, fun i hi => ?_, ⟨p, u, by rw [h0 _ (by omega)]; exact e3, by rw [h0 _ (by omega)]; exact e4, fun i => ?_, fun i => ?_⟩, by rw [h0 _ (by omega), hr2 _ (by omega)]; exact e7, by rw [h0 _ (by omega), hr2 _ (by omega)]; exact e8⟩, ⟨fun k hk => ?_, fun i hi => by rw [hr2 _ (by omega)]; exact o2 i hi, ⟨b0, o3, by rw [hr2 _ (by omega)]; exact o4, fun i hi => by rw [hr2 _ (by omega)]; exact o5 i hi⟩, by rw [hr2 _ (by omega)]; exact o6⟩, st + 1, st + 1, Nat.le_refl _, Nat.le_refl _, h6, h7, by rw [gUp_new], fun k _ => by rw [gUp_new], by rw [gUp_new], fun k _ => by rw [gUp_new]⟩
  · rw [hJ t ht, hr t, e1 t ht]
    by_cases h1 : t = x
    · subst h1
      by_cases h2 : (gTo g t).isSome <;> simp [h2]
    · simp [h1]
  · rw [hF i hi, hr (32 + i), e2 i hi]
    by_cases h1 : 32 + i = x
    · subst h1
      by_cases h2 : i < gSz g <;> simp [h2]
    · simp [h1]
  · by_cases hi : i < gSz g
    · rw [e5, hr2 _ (by omega)]
    · rw [e5]; simp [hi]
  · by_cases hi : i < gSz g
    · rw [e6, hr2 _ (by omega)]
    · rw [e6]; simp [hi]
  · rw [hr]
    split
    · exact hv
    · exact o1 k hk
end NEWROW
theorem op_turn : Op_turn INV := by
  intro n σ hn ⟨g, gT, gP, st, H⟩ x
  have hS := H.shp
  have hG := H.grd
  have h16 := (gAll_b g hG.1).2.2.1
  by_cases hs : isS g x = true
  · obtain ⟨i, hi, rfl⟩ := isS_t hs
    obtain ⟨q, nx, ea, hq, hnx, hea, p1, p2, p3, p4, p8⟩ := H.pst
    have hN := H.now
    obtain ⟨⟨-, -, ⟨p, u, e3, e4, e5, e6⟩, e7, -⟩, ⟨-, o2, ⟨b, o3, o4, o5⟩, -⟩, -⟩ := hN
    have hp : p < 65536 := Nat.lt_pow_two_of_testBit (n := 16) p (fun j hj => by rw [e5]; simp; omega)
    have hb : b < 65536 := Nat.lt_of_lt_of_le o3 (Nat.pow_le_pow_right (by decide) h16)
    by_cases hpin : xI σ 191 (48 + i) = 0
    · have hpb : p.testBit i = false := by rw [e5]; simp [hpin]
      refine ⟨1, xw σ (xup (kpI (xI σ) nx q) 16 4 (nI (b ^^^ 2 ^ i))), xw σ (xup (mkI (xup (kpI (xI σ) nx q) 16 4 (nI (b ^^^ 2 ^ i))) ea q) 191 64 (nI (b ^^^ 2 ^ i))), ?_, ?_, g, gT, gP, st, ?_⟩
      · show f_X11_turn (xw σ (xI σ)) 1 (nI i) = _
        unfold f_X11_turn
        simp (disch := first | assumption | omega) only [Option.bind_some, Option.map_some, xw_gR, xw_gN, xw_al, xw_ck, xw_uI, xw_ur, xup_at, xur_at, if_true, if_false, reduceIte, and_true, true_and, and_false, false_and, not_true_eq_false, not_false_eq_true, Nat.reduceEqDiff, eq_self, Nat.reduceAdd, Nat.reduceMul, kC1, kG1, kP1, kR1_0, kR1_1, kR1_2, kR1_3, kR1_4, kR1_5, kR1_6, kR1_7, kR1_8, kR1_9, kR1_10, kR1_11, kR1_12, kR1_13, kC2, kG2, kP2, kR2_0, kR2_1, kC3, kG3, kP3, kR3_0, kR3_1, kR3_2, kR3_3, kL4, kA4, kS4, kL5, kA5, kS5, kL6, kA6, kS6, kL7, kA7, kS7, kC8, kG8, kP8, kR8_0, kR8_1, kL9, kA9, kS9, kL10, kA10, kS10, kC11, kG11, kP11, kR11_0, kR11_1, kR11_2, kR11_3, kL12, kA12, kS12, kL13, kA13, kS13, kL14, kA14, kS14, kL15, kA15, kS15, kC16, kG16, kP16, kR16_0, kR16_1, kL17, kA17, kS17, kL18, kA18, kS18, kC19, kG19, kP19, kR19_0, kL20, kL141, kL146, kA146, kS146, kL151, kA151, kS151, kL156, kA156, kS156, kC157, kG157, kP157, kR157_0, kR157_1, kL158, kA158, kS158, kL159, kA159, kS159, kC161, kG161, kP161, kR161_0, kR161_1, kL162, kA162, kS162, kL163, kA163, kS163, kC165, kG165, kP165, kR165_0, kR165_1, kR165_2, kR165_3, kL166, kA166, kS166, kL167, kA167, kS167, kL168, kA168, kS168, kL169, kA169, kS169, kC170, kG170, kP170, kR170_0, kR170_1, kR170_2, kL171, kA171, kS171, kL172, kA172, kS172, kL173, kA173, kS173, kC174, kG174, kP174, kR174_0, kR174_1, kR174_2, kR174_3, kR174_4, kL175, kA175, kS175, kL176, kA176, kS176, kL177, kA177, kS177, kL178, kA178, kS178, kL179, kC180, kG180, kP180, kL181, kL182, kA182, kS182, kC183, kG183, kP183, kR183_1, kR183_3, kR183_5, kR183_6, kR183_7, kR183_8, kR183_9, kR183_21, kR183_26, kR183_27, kR183_30, kR183_31, kR183_33, kR183_34, kR183_36, kR183_37, kR183_38, kR183_39, kR183_40, kR183_41, kR183_42, kR183_43, kR183_44, kL184, kA184, kS184, kL185, kA185, kS185, kL186, kA186, kS186, kL187, kA187, kS187, kL188, kA188, kS188, kL189, kL190, kL191, kA191, kS191, kL192, kA192, kS192, kL193, kA193, kS193, kL194, kA194, kS194, kL195, kA195, kS195, kL196, kA196, kS196, kL197, kA197, kS197, kL198, kA198, kS198, kL199, kA199, kS199, kL200, kA200, kS200, kL201, kL202, kA202, kS202, kL203, kA203, kS203, kL204, kA204, kS204, kL205, kL206, kA206, kS206, hasSite_ok hS hG, hs, isPinned_ok hS suA_16 e3 hp (show i < 32 by omega), hpb, keep_ok hS hnx hq p1 p2, show ((1 : Int32) = 0) = False from eq_false (by decide), show (nI 0 = 0) = True from eq_true rfl, kpI_out, e7, o4, nn_one, nn_xor, Bool.false_eq_true]
      · unfold f_X12_turn
        have hG2 : GRD (xup (kpI (xI σ) nx q) 16 4 (nI (b ^^^ 2 ^ i))) g := GRD_c (fun a k z => by unfold sGRD at z; rw [xup_at, if_neg (by omega), kpI_out (by omega) (by omega)]) hG
        have m1 : f_X12_marks (xw σ (xup (kpI (xI σ) nx q) 16 4 (nI (b ^^^ 2 ^ i)))) 183 = _ := marks_ok hS hea hq (by rw [xup_at, if_neg (by omega), kpI_out (by omega) (by omega)]; exact p3) (by rw [xup_at, if_neg (by omega), kpI_out (by omega) (by omega)]; exact p4)
        simp (disch := first | assumption | omega) only [Option.bind_some, Option.map_some, xw_gR, xw_gN, xw_al, xw_ck, xw_uI, xw_ur, xup_at, xur_at, if_true, if_false, reduceIte, and_true, true_and, and_false, false_and, not_true_eq_false, not_false_eq_true, Nat.reduceEqDiff, eq_self, Nat.reduceAdd, Nat.reduceMul, kC1, kG1, kP1, kR1_0, kR1_1, kR1_2, kR1_3, kR1_4, kR1_5, kR1_6, kR1_7, kR1_8, kR1_9, kR1_10, kR1_11, kR1_12, kR1_13, kC2, kG2, kP2, kR2_0, kR2_1, kC3, kG3, kP3, kR3_0, kR3_1, kR3_2, kR3_3, kL4, kA4, kS4, kL5, kA5, kS5, kL6, kA6, kS6, kL7, kA7, kS7, kC8, kG8, kP8, kR8_0, kR8_1, kL9, kA9, kS9, kL10, kA10, kS10, kC11, kG11, kP11, kR11_0, kR11_1, kR11_2, kR11_3, kL12, kA12, kS12, kL13, kA13, kS13, kL14, kA14, kS14, kL15, kA15, kS15, kC16, kG16, kP16, kR16_0, kR16_1, kL17, kA17, kS17, kL18, kA18, kS18, kC19, kG19, kP19, kR19_0, kL20, kL141, kL146, kA146, kS146, kL151, kA151, kS151, kL156, kA156, kS156, kC157, kG157, kP157, kR157_0, kR157_1, kL158, kA158, kS158, kL159, kA159, kS159, kC161, kG161, kP161, kR161_0, kR161_1, kL162, kA162, kS162, kL163, kA163, kS163, kC165, kG165, kP165, kR165_0, kR165_1, kR165_2, kR165_3, kL166, kA166, kS166, kL167, kA167, kS167, kL168, kA168, kS168, kL169, kA169, kS169, kC170, kG170, kP170, kR170_0, kR170_1, kR170_2, kL171, kA171, kS171, kL172, kA172, kS172, kL173, kA173, kS173, kC174, kG174, kP174, kR174_0, kR174_1, kR174_2, kR174_3, kR174_4, kL175, kA175, kS175, kL176, kA176, kS176, kL177, kA177, kS177, kL178, kA178, kS178, kL179, kC180, kG180, kP180, kL181, kL182, kA182, kS182, kC183, kG183, kP183, kR183_1, kR183_3, kR183_5, kR183_6, kR183_7, kR183_8, kR183_9, kR183_21, kR183_26, kR183_27, kR183_30, kR183_31, kR183_33, kR183_34, kR183_36, kR183_37, kR183_38, kR183_39, kR183_40, kR183_41, kR183_42, kR183_43, kR183_44, kL184, kA184, kS184, kL185, kA185, kS185, kL186, kA186, kS186, kL187, kA187, kS187, kL188, kA188, kS188, kL189, kL190, kL191, kA191, kS191, kL192, kA192, kS192, kL193, kA193, kS193, kL194, kA194, kS194, kL195, kA195, kS195, kL196, kA196, kS196, kL197, kA197, kS197, kL198, kA198, kS198, kL199, kA199, kS199, kL200, kA200, kS200, kL201, kL202, kA202, kS202, kL203, kA203, kS203, kL204, kA204, kS204, kL205, kL206, kA206, kS206, isSite_ok hS hG2, hs, show ((1 : Int32) = 0) = False from eq_false (by decide), show (48 : Int32) = nI 48 from rfl, show (64 : Int32) = nI 64 from rfl, nn_add, kpI_out, hpin, show ((0 : Int32) ≤ 0) = True from eq_true (by decide), m1, mkI_out, o4, nn_one, nn_xor]
      · refine H.hand hq hnx hea p3 p8 (I2 := xup (kpI (xI σ) nx q) 16 4 (nI (b ^^^ 2 ^ i))) ?_ ?_ (Nat.le_refl _) (Nat.le_succ_of_le H.stn) (fun _ _ => rfl) (fun _ _ => rfl) ?_ ?_ ?_
        · intro a k h; rw [xup_at, if_neg (by omega)]
        · intro a k h; rw [xup_at, if_neg (by omega)]
        · rw [xup_at, if_neg (by omega), mkI_out (by omega) (by omega), xup_at, if_neg (by omega), kpI_out (by omega) (by omega)]; exact H.sts
        · refine LV_state (I := xI σ) hG.1 (b := b ^^^ 2 ^ i) H.now ?_ ?_ ?_ ?_ ?_ ?_ ?_
          · intro k hk; rw [xup_at, if_neg (by omega), mkI_out (by omega) (by omega), xup_at, if_neg (by omega), kpI_out (by omega) (by omega)]
          · rw [xup_at, if_neg (by omega), mkI_out (by omega) (by omega), xup_at, if_pos ⟨rfl, rfl⟩]
          · intro a k h1 h2; rw [xup_at, if_neg (by omega), mkI_out (by omega) (by omega), xup_at, if_neg (by omega), kpI_out (by omega) (by omega)]
          · intro k hk; rw [xup_at, if_neg (by omega), mkI_out (by omega) (by omega), xup_at, if_neg (by omega), kpI_out (by omega) (by omega)]
          · rw [xup_at, if_pos ⟨rfl, rfl⟩]
          · exact Nat.xor_lt_two_pow o3 (Nat.pow_lt_pow_right (by decide) hi)
          · intro j hj hne
            rw [fb_bit_flip, ← o5 j hj hne]
            have : j ≠ i := fun z => hne (z ▸ hpin)
            simp [this]
        · refine KNW_c hG.1 (fun a k z => ?_) H.knw
          unfold sKNW at z
          rw [xup_at, if_neg (by omega), mkI_out (by omega) (by omega), xup_at, if_neg (by omega), kpI_out (by omega) (by omega)]
    · have hpb : p.testBit i = true := by rw [e5]; simp [hpin, hi]
      refine ⟨0, σ, σ, ?_, ?_, g, gT, gP, st, H.nop⟩
      · show f_X11_turn (xw σ (xI σ)) 1 (nI i) = _
        unfold f_X11_turn
        simp (disch := first | assumption | omega) only [Option.bind_some, Option.map_some, xw_gR, xw_gN, xw_al, xw_ck, xw_uI, xw_ur, xup_at, xur_at, if_true, if_false, reduceIte, and_true, true_and, and_false, false_and, not_true_eq_false, not_false_eq_true, Nat.reduceEqDiff, eq_self, Nat.reduceAdd, Nat.reduceMul, kC1, kG1, kP1, kR1_0, kR1_1, kR1_2, kR1_3, kR1_4, kR1_5, kR1_6, kR1_7, kR1_8, kR1_9, kR1_10, kR1_11, kR1_12, kR1_13, kC2, kG2, kP2, kR2_0, kR2_1, kC3, kG3, kP3, kR3_0, kR3_1, kR3_2, kR3_3, kL4, kA4, kS4, kL5, kA5, kS5, kL6, kA6, kS6, kL7, kA7, kS7, kC8, kG8, kP8, kR8_0, kR8_1, kL9, kA9, kS9, kL10, kA10, kS10, kC11, kG11, kP11, kR11_0, kR11_1, kR11_2, kR11_3, kL12, kA12, kS12, kL13, kA13, kS13, kL14, kA14, kS14, kL15, kA15, kS15, kC16, kG16, kP16, kR16_0, kR16_1, kL17, kA17, kS17, kL18, kA18, kS18, kC19, kG19, kP19, kR19_0, kL20, kL141, kL146, kA146, kS146, kL151, kA151, kS151, kL156, kA156, kS156, kC157, kG157, kP157, kR157_0, kR157_1, kL158, kA158, kS158, kL159, kA159, kS159, kC161, kG161, kP161, kR161_0, kR161_1, kL162, kA162, kS162, kL163, kA163, kS163, kC165, kG165, kP165, kR165_0, kR165_1, kR165_2, kR165_3, kL166, kA166, kS166, kL167, kA167, kS167, kL168, kA168, kS168, kL169, kA169, kS169, kC170, kG170, kP170, kR170_0, kR170_1, kR170_2, kL171, kA171, kS171, kL172, kA172, kS172, kL173, kA173, kS173, kC174, kG174, kP174, kR174_0, kR174_1, kR174_2, kR174_3, kR174_4, kL175, kA175, kS175, kL176, kA176, kS176, kL177, kA177, kS177, kL178, kA178, kS178, kL179, kC180, kG180, kP180, kL181, kL182, kA182, kS182, kC183, kG183, kP183, kR183_1, kR183_3, kR183_5, kR183_6, kR183_7, kR183_8, kR183_9, kR183_21, kR183_26, kR183_27, kR183_30, kR183_31, kR183_33, kR183_34, kR183_36, kR183_37, kR183_38, kR183_39, kR183_40, kR183_41, kR183_42, kR183_43, kR183_44, kL184, kA184, kS184, kL185, kA185, kS185, kL186, kA186, kS186, kL187, kA187, kS187, kL188, kA188, kS188, kL189, kL190, kL191, kA191, kS191, kL192, kA192, kS192, kL193, kA193, kS193, kL194, kA194, kS194, kL195, kA195, kS195, kL196, kA196, kS196, kL197, kA197, kS197, kL198, kA198, kS198, kL199, kA199, kS199, kL200, kA200, kS200, kL201, kL202, kA202, kS202, kL203, kA203, kS203, kL204, kA204, kS204, kL205, kL206, kA206, kS206, hasSite_ok hS hG, hs, isPinned_ok hS suA_16 e3 hp (show i < 32 by omega), hpb, show ((1 : Int32) = 0) = False from eq_false (by decide), show (nI 1 = 0) = False from eq_false (by decide)]
        rfl
      · show f_X12_turn (xw σ (xI σ)) 183 (nI i) = _
        unfold f_X12_turn
        have : ¬ (xI σ 191 (48 + i) ≤ 0) := by
          rcases (o2 i (by omega)).1 with z | z | z
          · exact absurd z hpin
          · rw [z]; decide
          · rw [z]; decide
        simp (disch := first | assumption | omega) only [Option.bind_some, Option.map_some, xw_gR, xw_gN, xw_al, xw_ck, xw_uI, xw_ur, xup_at, xur_at, if_true, if_false, reduceIte, and_true, true_and, and_false, false_and, not_true_eq_false, not_false_eq_true, Nat.reduceEqDiff, eq_self, Nat.reduceAdd, Nat.reduceMul, kC1, kG1, kP1, kR1_0, kR1_1, kR1_2, kR1_3, kR1_4, kR1_5, kR1_6, kR1_7, kR1_8, kR1_9, kR1_10, kR1_11, kR1_12, kR1_13, kC2, kG2, kP2, kR2_0, kR2_1, kC3, kG3, kP3, kR3_0, kR3_1, kR3_2, kR3_3, kL4, kA4, kS4, kL5, kA5, kS5, kL6, kA6, kS6, kL7, kA7, kS7, kC8, kG8, kP8, kR8_0, kR8_1, kL9, kA9, kS9, kL10, kA10, kS10, kC11, kG11, kP11, kR11_0, kR11_1, kR11_2, kR11_3, kL12, kA12, kS12, kL13, kA13, kS13, kL14, kA14, kS14, kL15, kA15, kS15, kC16, kG16, kP16, kR16_0, kR16_1, kL17, kA17, kS17, kL18, kA18, kS18, kC19, kG19, kP19, kR19_0, kL20, kL141, kL146, kA146, kS146, kL151, kA151, kS151, kL156, kA156, kS156, kC157, kG157, kP157, kR157_0, kR157_1, kL158, kA158, kS158, kL159, kA159, kS159, kC161, kG161, kP161, kR161_0, kR161_1, kL162, kA162, kS162, kL163, kA163, kS163, kC165, kG165, kP165, kR165_0, kR165_1, kR165_2, kR165_3, kL166, kA166, kS166, kL167, kA167, kS167, kL168, kA168, kS168, kL169, kA169, kS169, kC170, kG170, kP170, kR170_0, kR170_1, kR170_2, kL171, kA171, kS171, kL172, kA172, kS172, kL173, kA173, kS173, kC174, kG174, kP174, kR174_0, kR174_1, kR174_2, kR174_3, kR174_4, kL175, kA175, kS175, kL176, kA176, kS176, kL177, kA177, kS177, kL178, kA178, kS178, kL179, kC180, kG180, kP180, kL181, kL182, kA182, kS182, kC183, kG183, kP183, kR183_1, kR183_3, kR183_5, kR183_6, kR183_7, kR183_8, kR183_9, kR183_21, kR183_26, kR183_27, kR183_30, kR183_31, kR183_33, kR183_34, kR183_36, kR183_37, kR183_38, kR183_39, kR183_40, kR183_41, kR183_42, kR183_43, kR183_44, kL184, kA184, kS184, kL185, kA185, kS185, kL186, kA186, kS186, kL187, kA187, kS187, kL188, kA188, kS188, kL189, kL190, kL191, kA191, kS191, kL192, kA192, kS192, kL193, kA193, kS193, kL194, kA194, kS194, kL195, kA195, kS195, kL196, kA196, kS196, kL197, kA197, kS197, kL198, kA198, kS198, kL199, kA199, kS199, kL200, kA200, kS200, kL201, kL202, kA202, kS202, kL203, kA203, kS203, kL204, kA204, kS204, kL205, kL206, kA206, kS206, isSite_ok hS hG, hs, show ((1 : Int32) = 0) = False from eq_false (by decide), show (48 : Int32) = nI 48 from rfl, nn_add, this]
        rfl
  · refine ⟨0, σ, σ, ?_, ?_, g, gT, gP, st, H.nop⟩
    · show f_X11_turn (xw σ (xI σ)) 1 x = _
      unfold f_X11_turn
      simp (disch := first | assumption | omega) only [Option.bind_some, Option.map_some, xw_gR, xw_gN, xw_al, xw_ck, xw_uI, xw_ur, xup_at, xur_at, if_true, if_false, reduceIte, and_true, true_and, and_false, false_and, not_true_eq_false, not_false_eq_true, Nat.reduceEqDiff, eq_self, Nat.reduceAdd, Nat.reduceMul, kC1, kG1, kP1, kR1_0, kR1_1, kR1_2, kR1_3, kR1_4, kR1_5, kR1_6, kR1_7, kR1_8, kR1_9, kR1_10, kR1_11, kR1_12, kR1_13, kC2, kG2, kP2, kR2_0, kR2_1, kC3, kG3, kP3, kR3_0, kR3_1, kR3_2, kR3_3, kL4, kA4, kS4, kL5, kA5, kS5, kL6, kA6, kS6, kL7, kA7, kS7, kC8, kG8, kP8, kR8_0, kR8_1, kL9, kA9, kS9, kL10, kA10, kS10, kC11, kG11, kP11, kR11_0, kR11_1, kR11_2, kR11_3, kL12, kA12, kS12, kL13, kA13, kS13, kL14, kA14, kS14, kL15, kA15, kS15, kC16, kG16, kP16, kR16_0, kR16_1, kL17, kA17, kS17, kL18, kA18, kS18, kC19, kG19, kP19, kR19_0, kL20, kL141, kL146, kA146, kS146, kL151, kA151, kS151, kL156, kA156, kS156, kC157, kG157, kP157, kR157_0, kR157_1, kL158, kA158, kS158, kL159, kA159, kS159, kC161, kG161, kP161, kR161_0, kR161_1, kL162, kA162, kS162, kL163, kA163, kS163, kC165, kG165, kP165, kR165_0, kR165_1, kR165_2, kR165_3, kL166, kA166, kS166, kL167, kA167, kS167, kL168, kA168, kS168, kL169, kA169, kS169, kC170, kG170, kP170, kR170_0, kR170_1, kR170_2, kL171, kA171, kS171, kL172, kA172, kS172, kL173, kA173, kS173, kC174, kG174, kP174, kR174_0, kR174_1, kR174_2, kR174_3, kR174_4, kL175, kA175, kS175, kL176, kA176, kS176, kL177, kA177, kS177, kL178, kA178, kS178, kL179, kC180, kG180, kP180, kL181, kL182, kA182, kS182, kC183, kG183, kP183, kR183_1, kR183_3, kR183_5, kR183_6, kR183_7, kR183_8, kR183_9, kR183_21, kR183_26, kR183_27, kR183_30, kR183_31, kR183_33, kR183_34, kR183_36, kR183_37, kR183_38, kR183_39, kR183_40, kR183_41, kR183_42, kR183_43, kR183_44, kL184, kA184, kS184, kL185, kA185, kS185, kL186, kA186, kS186, kL187, kA187, kS187, kL188, kA188, kS188, kL189, kL190, kL191, kA191, kS191, kL192, kA192, kS192, kL193, kA193, kS193, kL194, kA194, kS194, kL195, kA195, kS195, kL196, kA196, kS196, kL197, kA197, kS197, kL198, kA198, kS198, kL199, kA199, kS199, kL200, kA200, kS200, kL201, kL202, kA202, kS202, kL203, kA203, kS203, kL204, kA204, kS204, kL205, kL206, kA206, kS206, hasSite_ok hS hG, hs]
      rfl
    · show f_X12_turn (xw σ (xI σ)) 183 x = _
      unfold f_X12_turn
      simp (disch := first | assumption | omega) only [Option.bind_some, Option.map_some, xw_gR, xw_gN, xw_al, xw_ck, xw_uI, xw_ur, xup_at, xur_at, if_true, if_false, reduceIte, and_true, true_and, and_false, false_and, not_true_eq_false, not_false_eq_true, Nat.reduceEqDiff, eq_self, Nat.reduceAdd, Nat.reduceMul, kC1, kG1, kP1, kR1_0, kR1_1, kR1_2, kR1_3, kR1_4, kR1_5, kR1_6, kR1_7, kR1_8, kR1_9, kR1_10, kR1_11, kR1_12, kR1_13, kC2, kG2, kP2, kR2_0, kR2_1, kC3, kG3, kP3, kR3_0, kR3_1, kR3_2, kR3_3, kL4, kA4, kS4, kL5, kA5, kS5, kL6, kA6, kS6, kL7, kA7, kS7, kC8, kG8, kP8, kR8_0, kR8_1, kL9, kA9, kS9, kL10, kA10, kS10, kC11, kG11, kP11, kR11_0, kR11_1, kR11_2, kR11_3, kL12, kA12, kS12, kL13, kA13, kS13, kL14, kA14, kS14, kL15, kA15, kS15, kC16, kG16, kP16, kR16_0, kR16_1, kL17, kA17, kS17, kL18, kA18, kS18, kC19, kG19, kP19, kR19_0, kL20, kL141, kL146, kA146, kS146, kL151, kA151, kS151, kL156, kA156, kS156, kC157, kG157, kP157, kR157_0, kR157_1, kL158, kA158, kS158, kL159, kA159, kS159, kC161, kG161, kP161, kR161_0, kR161_1, kL162, kA162, kS162, kL163, kA163, kS163, kC165, kG165, kP165, kR165_0, kR165_1, kR165_2, kR165_3, kL166, kA166, kS166, kL167, kA167, kS167, kL168, kA168, kS168, kL169, kA169, kS169, kC170, kG170, kP170, kR170_0, kR170_1, kR170_2, kL171, kA171, kS171, kL172, kA172, kS172, kL173, kA173, kS173, kC174, kG174, kP174, kR174_0, kR174_1, kR174_2, kR174_3, kR174_4, kL175, kA175, kS175, kL176, kA176, kS176, kL177, kA177, kS177, kL178, kA178, kS178, kL179, kC180, kG180, kP180, kL181, kL182, kA182, kS182, kC183, kG183, kP183, kR183_1, kR183_3, kR183_5, kR183_6, kR183_7, kR183_8, kR183_9, kR183_21, kR183_26, kR183_27, kR183_30, kR183_31, kR183_33, kR183_34, kR183_36, kR183_37, kR183_38, kR183_39, kR183_40, kR183_41, kR183_42, kR183_43, kR183_44, kL184, kA184, kS184, kL185, kA185, kS185, kL186, kA186, kS186, kL187, kA187, kS187, kL188, kA188, kS188, kL189, kL190, kL191, kA191, kS191, kL192, kA192, kS192, kL193, kA193, kS193, kL194, kA194, kS194, kL195, kA195, kS195, kL196, kA196, kS196, kL197, kA197, kS197, kL198, kA198, kS198, kL199, kA199, kS199, kL200, kA200, kS200, kL201, kL202, kA202, kS202, kL203, kA203, kS203, kL204, kA204, kS204, kL205, kL206, kA206, kS206, isSite_ok hS hG, hs]
      rfl
