theorem dz_at {c : ByteArray} {n k r : Nat} {l t : List UInt8} {b : UInt8} (h : (c.data.toList.drop n).take k = l) (h1 : l.drop r = b :: t) : c.data.toList[n + r]? = some b := by
  have e : l[r]? = some b := by
    have h2 : (l.drop r)[0]? = some b := by rw [h1]; rfl
    rw [List.getElem?_drop] at h2
    exact h2
  rw [← h, List.getElem?_take] at e
  split at e
  · rw [List.getElem?_drop] at e
    exact e
  · cases e
theorem dz_tl {l t : List UInt8} {r : Nat} {b : UInt8} (h1 : l.drop r = b :: t) : l.drop (r + 1) = t := by
  rw [← List.drop_drop, h1]
  rfl
theorem dz_u1 {c : ByteArray} {p m : Nat} {b : UInt8} (h : c.data.toList[p]? = some b) (e : b.toNat = m) : ((Reader.u1 : Decoder Nat).run c).run p = .ok (m, p + 1) := by
  have hp : p < c.size := by
    have h3 := (List.getElem?_eq_some_iff.mp h).1
    rw [Array.length_toList] at h3
    exact h3
  have hb : c[p] = b := by
    have h3 := (List.getElem?_eq_some_iff.mp h).2
    rw [Array.getElem_toList] at h3
    exact h3
  subst e
  unfold Reader.u1
  simp only [ReaderT.run_bind, StateT.run_bind]
  show (((dite (p < c.size) (fun hh => (do set (p + 1); pure c[p].toNat : Decoder Nat)) (fun _ => throw (HasTruncated.truncated p)) : Decoder Nat).run c).run p) = _
  rw [dif_pos hp]
  show Except.ok (c[p].toNat, p + 1) = _
  rw [hb]
theorem dz_u2 {c : ByteArray} {p m : Nat} {a b : UInt8} (h : c.data.toList[p]? = some a) (h2 : c.data.toList[p + 1]? = some b) (e : a.toNat * 256 + b.toNat = m) : ((Reader.u2 : Decoder Nat).run c).run p = .ok (m, p + 2) := by
  subst e
  unfold Reader.u2
  simp only [ReaderT.run_bind, StateT.run_bind, dz_u1 h rfl]
  show (((Reader.u1 : Decoder Nat).run c).run (p + 1) >>= fun x => Except.ok (a.toNat * 256 + x.1, x.2)) = _
  rw [dz_u1 h2 rfl]
  rfl
theorem dz_s1 {c : ByteArray} {p : Nat} {m : Int} {b : UInt8} (h : c.data.toList[p]? = some b) (e : Reader.signed 8 b.toNat = m) : ((Reader.s1 : Decoder Int).run c).run p = .ok (m, p + 1) := by
  subst e
  unfold Reader.s1
  simp only [ReaderT.run_map, StateT.run_map, dz_u1 h rfl]
  rfl
theorem dz_s2 {c : ByteArray} {p : Nat} {m : Int} {a b : UInt8} (h : c.data.toList[p]? = some a) (h2 : c.data.toList[p + 1]? = some b) (e : Reader.signed 16 (a.toNat * 256 + b.toNat) = m) : ((Reader.s2 : Decoder Int).run c).run p = .ok (m, p + 2) := by
  subst e
  unfold Reader.s2
  simp only [ReaderT.run_map, StateT.run_map, dz_u2 h h2 rfl]
  rfl
theorem dz_fin {c : ByteArray} {p m : Nat} {i : Instr} (hi : ((Decoder.instr p).run c).run p = .ok (i, p + m)) : decode c p = .ok (i, m) := by
  unfold decode Reader.runAt
  rw [hi]
  show Except.ok (i, p + m - p) = _
  rw [Nat.add_sub_cancel_left]
theorem dz_b {α β : Type} {x : Decoder α} {F : α → Decoder β} {c : ByteArray} {p q : Nat} {m : α} (e : (x.run c).run p = .ok (m, q)) : ((x >>= F).run c).run p = ((F m).run c).run q := by
  rw [ReaderT.run_bind, StateT.run_bind, e]
  rfl
set_option maxRecDepth 20000 in
theorem dz_1 {c : ByteArray} {n k r : Nat} {l t : List UInt8} (h : (c.data.toList.drop n).take k = l) (h1 : l.drop r = 1 :: t) : decode c (n + r) = .ok (.aconst_null, 1) := by
  refine dz_fin ?_
  rw [Decoder.instr]
  refine (dz_b (dz_u1 (m := 1) (dz_at h h1) rfl)).trans ?_
  rfl
set_option maxRecDepth 20000 in
theorem dz_2 {c : ByteArray} {n k r : Nat} {l t : List UInt8} (h : (c.data.toList.drop n).take k = l) (h1 : l.drop r = 2 :: t) : decode c (n + r) = .ok ((.iconst (-1)), 1) := by
  refine dz_fin ?_
  rw [Decoder.instr]
  refine (dz_b (dz_u1 (m := 2) (dz_at h h1) rfl)).trans ?_
  rfl
set_option maxRecDepth 20000 in
theorem dz_3 {c : ByteArray} {n k r : Nat} {l t : List UInt8} (h : (c.data.toList.drop n).take k = l) (h1 : l.drop r = 3 :: t) : decode c (n + r) = .ok ((.iconst 0), 1) := by
  refine dz_fin ?_
  rw [Decoder.instr]
  refine (dz_b (dz_u1 (m := 3) (dz_at h h1) rfl)).trans ?_
  rfl
set_option maxRecDepth 20000 in
theorem dz_4 {c : ByteArray} {n k r : Nat} {l t : List UInt8} (h : (c.data.toList.drop n).take k = l) (h1 : l.drop r = 4 :: t) : decode c (n + r) = .ok ((.iconst 1), 1) := by
  refine dz_fin ?_
  rw [Decoder.instr]
  refine (dz_b (dz_u1 (m := 4) (dz_at h h1) rfl)).trans ?_
  rfl
set_option maxRecDepth 20000 in
theorem dz_5 {c : ByteArray} {n k r : Nat} {l t : List UInt8} (h : (c.data.toList.drop n).take k = l) (h1 : l.drop r = 5 :: t) : decode c (n + r) = .ok ((.iconst 2), 1) := by
  refine dz_fin ?_
  rw [Decoder.instr]
  refine (dz_b (dz_u1 (m := 5) (dz_at h h1) rfl)).trans ?_
  rfl
set_option maxRecDepth 20000 in
theorem dz_6 {c : ByteArray} {n k r : Nat} {l t : List UInt8} (h : (c.data.toList.drop n).take k = l) (h1 : l.drop r = 6 :: t) : decode c (n + r) = .ok ((.iconst 3), 1) := by
  refine dz_fin ?_
  rw [Decoder.instr]
  refine (dz_b (dz_u1 (m := 6) (dz_at h h1) rfl)).trans ?_
  rfl
set_option maxRecDepth 20000 in
theorem dz_7 {c : ByteArray} {n k r : Nat} {l t : List UInt8} (h : (c.data.toList.drop n).take k = l) (h1 : l.drop r = 7 :: t) : decode c (n + r) = .ok ((.iconst 4), 1) := by
  refine dz_fin ?_
  rw [Decoder.instr]
  refine (dz_b (dz_u1 (m := 7) (dz_at h h1) rfl)).trans ?_
  rfl
set_option maxRecDepth 20000 in
theorem dz_8 {c : ByteArray} {n k r : Nat} {l t : List UInt8} (h : (c.data.toList.drop n).take k = l) (h1 : l.drop r = 8 :: t) : decode c (n + r) = .ok ((.iconst 5), 1) := by
  refine dz_fin ?_
  rw [Decoder.instr]
  refine (dz_b (dz_u1 (m := 8) (dz_at h h1) rfl)).trans ?_
  rfl
set_option maxRecDepth 20000 in
theorem dz_9 {c : ByteArray} {n k r : Nat} {l t : List UInt8} (h : (c.data.toList.drop n).take k = l) (h1 : l.drop r = 9 :: t) : decode c (n + r) = .ok ((.lconst 0), 1) := by
  refine dz_fin ?_
  rw [Decoder.instr]
  refine (dz_b (dz_u1 (m := 9) (dz_at h h1) rfl)).trans ?_
  rfl
set_option maxRecDepth 20000 in
theorem dz_10 {c : ByteArray} {n k r : Nat} {l t : List UInt8} (h : (c.data.toList.drop n).take k = l) (h1 : l.drop r = 10 :: t) : decode c (n + r) = .ok ((.lconst 1), 1) := by
  refine dz_fin ?_
  rw [Decoder.instr]
  refine (dz_b (dz_u1 (m := 10) (dz_at h h1) rfl)).trans ?_
  rfl
set_option maxRecDepth 20000 in
theorem dz_16 {c : ByteArray} {n k r : Nat} {l t : List UInt8} {a : UInt8} {m : Int} (h : (c.data.toList.drop n).take k = l) (h1 : l.drop r = 16 :: a :: t) (e : Reader.signed 8 a.toNat = m) : decode c (n + r) = .ok ((.bipush m), 2) := by
  refine dz_fin ?_
  rw [Decoder.instr]
  refine (dz_b (dz_u1 (m := 16) (dz_at h h1) rfl)).trans ?_
  show ((((Reader.s1 : Decoder Int) >>= fun x => pure ((.bipush x)) : Decoder Instr).run c).run (n + r + 1)) = _
  exact (dz_b (dz_s1 (dz_at (r := r + 1) h (dz_tl h1)) e)).trans rfl
set_option maxRecDepth 20000 in
theorem dz_17 {c : ByteArray} {n k r : Nat} {l t : List UInt8} {a b : UInt8} {m : Int} (h : (c.data.toList.drop n).take k = l) (h1 : l.drop r = 17 :: a :: b :: t) (e : Reader.signed 16 (a.toNat * 256 + b.toNat) = m) : decode c (n + r) = .ok ((.sipush m), 3) := by
  refine dz_fin ?_
  rw [Decoder.instr]
  refine (dz_b (dz_u1 (m := 17) (dz_at h h1) rfl)).trans ?_
  show ((((Reader.s2 : Decoder Int) >>= fun x => pure ((.sipush x)) : Decoder Instr).run c).run (n + r + 1)) = _
  exact (dz_b (dz_s2 (dz_at (r := r + 1) h (dz_tl h1)) (dz_at (r := r + 1 + 1) h (dz_tl (dz_tl h1))) e)).trans rfl
set_option maxRecDepth 20000 in
theorem dz_18 {c : ByteArray} {n k r : Nat} {l t : List UInt8} {a : UInt8} {m : Nat} (h : (c.data.toList.drop n).take k = l) (h1 : l.drop r = 18 :: a :: t) (e : a.toNat = m) : decode c (n + r) = .ok ((.ldc m), 2) := by
  refine dz_fin ?_
  rw [Decoder.instr]
  refine (dz_b (dz_u1 (m := 18) (dz_at h h1) rfl)).trans ?_
  show ((((Reader.u1 : Decoder Nat) >>= fun x => pure ((.ldc x)) : Decoder Instr).run c).run (n + r + 1)) = _
  exact (dz_b (dz_u1 (dz_at (r := r + 1) h (dz_tl h1)) e)).trans rfl
set_option maxRecDepth 20000 in
theorem dz_19 {c : ByteArray} {n k r : Nat} {l t : List UInt8} {a b : UInt8} {m : Nat} (h : (c.data.toList.drop n).take k = l) (h1 : l.drop r = 19 :: a :: b :: t) (e : a.toNat * 256 + b.toNat = m) : decode c (n + r) = .ok ((.ldc_w m), 3) := by
  refine dz_fin ?_
  rw [Decoder.instr]
  refine (dz_b (dz_u1 (m := 19) (dz_at h h1) rfl)).trans ?_
  show ((((Reader.u2 : Decoder Nat) >>= fun x => pure ((.ldc_w x)) : Decoder Instr).run c).run (n + r + 1)) = _
  exact (dz_b (dz_u2 (dz_at (r := r + 1) h (dz_tl h1)) (dz_at (r := r + 1 + 1) h (dz_tl (dz_tl h1))) e)).trans rfl
set_option maxRecDepth 20000 in
theorem dz_20 {c : ByteArray} {n k r : Nat} {l t : List UInt8} {a b : UInt8} {m : Nat} (h : (c.data.toList.drop n).take k = l) (h1 : l.drop r = 20 :: a :: b :: t) (e : a.toNat * 256 + b.toNat = m) : decode c (n + r) = .ok ((.ldc2_w m), 3) := by
  refine dz_fin ?_
  rw [Decoder.instr]
  refine (dz_b (dz_u1 (m := 20) (dz_at h h1) rfl)).trans ?_
  show ((((Reader.u2 : Decoder Nat) >>= fun x => pure ((.ldc2_w x)) : Decoder Instr).run c).run (n + r + 1)) = _
  exact (dz_b (dz_u2 (dz_at (r := r + 1) h (dz_tl h1)) (dz_at (r := r + 1 + 1) h (dz_tl (dz_tl h1))) e)).trans rfl
set_option maxRecDepth 20000 in
theorem dz_21 {c : ByteArray} {n k r : Nat} {l t : List UInt8} {a : UInt8} {m : Nat} (h : (c.data.toList.drop n).take k = l) (h1 : l.drop r = 21 :: a :: t) (e : a.toNat = m) : decode c (n + r) = .ok ((.iload m), 2) := by
  refine dz_fin ?_
  rw [Decoder.instr]
  refine (dz_b (dz_u1 (m := 21) (dz_at h h1) rfl)).trans ?_
  show ((((Reader.u1 : Decoder Nat) >>= fun x => pure ((.iload x)) : Decoder Instr).run c).run (n + r + 1)) = _
  exact (dz_b (dz_u1 (dz_at (r := r + 1) h (dz_tl h1)) e)).trans rfl
set_option maxRecDepth 20000 in
theorem dz_22 {c : ByteArray} {n k r : Nat} {l t : List UInt8} {a : UInt8} {m : Nat} (h : (c.data.toList.drop n).take k = l) (h1 : l.drop r = 22 :: a :: t) (e : a.toNat = m) : decode c (n + r) = .ok ((.lload m), 2) := by
  refine dz_fin ?_
  rw [Decoder.instr]
  refine (dz_b (dz_u1 (m := 22) (dz_at h h1) rfl)).trans ?_
  show ((((Reader.u1 : Decoder Nat) >>= fun x => pure ((.lload x)) : Decoder Instr).run c).run (n + r + 1)) = _
  exact (dz_b (dz_u1 (dz_at (r := r + 1) h (dz_tl h1)) e)).trans rfl
set_option maxRecDepth 20000 in
theorem dz_25 {c : ByteArray} {n k r : Nat} {l t : List UInt8} {a : UInt8} {m : Nat} (h : (c.data.toList.drop n).take k = l) (h1 : l.drop r = 25 :: a :: t) (e : a.toNat = m) : decode c (n + r) = .ok ((.aload m), 2) := by
  refine dz_fin ?_
  rw [Decoder.instr]
  refine (dz_b (dz_u1 (m := 25) (dz_at h h1) rfl)).trans ?_
  show ((((Reader.u1 : Decoder Nat) >>= fun x => pure ((.aload x)) : Decoder Instr).run c).run (n + r + 1)) = _
  exact (dz_b (dz_u1 (dz_at (r := r + 1) h (dz_tl h1)) e)).trans rfl
set_option maxRecDepth 20000 in
theorem dz_26 {c : ByteArray} {n k r : Nat} {l t : List UInt8} (h : (c.data.toList.drop n).take k = l) (h1 : l.drop r = 26 :: t) : decode c (n + r) = .ok ((.iload_n 0), 1) := by
  refine dz_fin ?_
  rw [Decoder.instr]
  refine (dz_b (dz_u1 (m := 26) (dz_at h h1) rfl)).trans ?_
  rfl
set_option maxRecDepth 20000 in
theorem dz_27 {c : ByteArray} {n k r : Nat} {l t : List UInt8} (h : (c.data.toList.drop n).take k = l) (h1 : l.drop r = 27 :: t) : decode c (n + r) = .ok ((.iload_n 1), 1) := by
  refine dz_fin ?_
  rw [Decoder.instr]
  refine (dz_b (dz_u1 (m := 27) (dz_at h h1) rfl)).trans ?_
  rfl
set_option maxRecDepth 20000 in
theorem dz_28 {c : ByteArray} {n k r : Nat} {l t : List UInt8} (h : (c.data.toList.drop n).take k = l) (h1 : l.drop r = 28 :: t) : decode c (n + r) = .ok ((.iload_n 2), 1) := by
  refine dz_fin ?_
  rw [Decoder.instr]
  refine (dz_b (dz_u1 (m := 28) (dz_at h h1) rfl)).trans ?_
  rfl
set_option maxRecDepth 20000 in
theorem dz_29 {c : ByteArray} {n k r : Nat} {l t : List UInt8} (h : (c.data.toList.drop n).take k = l) (h1 : l.drop r = 29 :: t) : decode c (n + r) = .ok ((.iload_n 3), 1) := by
  refine dz_fin ?_
  rw [Decoder.instr]
  refine (dz_b (dz_u1 (m := 29) (dz_at h h1) rfl)).trans ?_
  rfl
set_option maxRecDepth 20000 in
theorem dz_30 {c : ByteArray} {n k r : Nat} {l t : List UInt8} (h : (c.data.toList.drop n).take k = l) (h1 : l.drop r = 30 :: t) : decode c (n + r) = .ok ((.lload_n 0), 1) := by
  refine dz_fin ?_
  rw [Decoder.instr]
  refine (dz_b (dz_u1 (m := 30) (dz_at h h1) rfl)).trans ?_
  rfl
set_option maxRecDepth 20000 in
theorem dz_31 {c : ByteArray} {n k r : Nat} {l t : List UInt8} (h : (c.data.toList.drop n).take k = l) (h1 : l.drop r = 31 :: t) : decode c (n + r) = .ok ((.lload_n 1), 1) := by
  refine dz_fin ?_
  rw [Decoder.instr]
  refine (dz_b (dz_u1 (m := 31) (dz_at h h1) rfl)).trans ?_
  rfl
set_option maxRecDepth 20000 in
theorem dz_32 {c : ByteArray} {n k r : Nat} {l t : List UInt8} (h : (c.data.toList.drop n).take k = l) (h1 : l.drop r = 32 :: t) : decode c (n + r) = .ok ((.lload_n 2), 1) := by
  refine dz_fin ?_
  rw [Decoder.instr]
  refine (dz_b (dz_u1 (m := 32) (dz_at h h1) rfl)).trans ?_
  rfl
set_option maxRecDepth 20000 in
theorem dz_33 {c : ByteArray} {n k r : Nat} {l t : List UInt8} (h : (c.data.toList.drop n).take k = l) (h1 : l.drop r = 33 :: t) : decode c (n + r) = .ok ((.lload_n 3), 1) := by
  refine dz_fin ?_
  rw [Decoder.instr]
  refine (dz_b (dz_u1 (m := 33) (dz_at h h1) rfl)).trans ?_
  rfl
set_option maxRecDepth 20000 in
theorem dz_42 {c : ByteArray} {n k r : Nat} {l t : List UInt8} (h : (c.data.toList.drop n).take k = l) (h1 : l.drop r = 42 :: t) : decode c (n + r) = .ok ((.aload_n 0), 1) := by
  refine dz_fin ?_
  rw [Decoder.instr]
  refine (dz_b (dz_u1 (m := 42) (dz_at h h1) rfl)).trans ?_
  rfl
set_option maxRecDepth 20000 in
theorem dz_43 {c : ByteArray} {n k r : Nat} {l t : List UInt8} (h : (c.data.toList.drop n).take k = l) (h1 : l.drop r = 43 :: t) : decode c (n + r) = .ok ((.aload_n 1), 1) := by
  refine dz_fin ?_
  rw [Decoder.instr]
  refine (dz_b (dz_u1 (m := 43) (dz_at h h1) rfl)).trans ?_
  rfl
set_option maxRecDepth 20000 in
theorem dz_44 {c : ByteArray} {n k r : Nat} {l t : List UInt8} (h : (c.data.toList.drop n).take k = l) (h1 : l.drop r = 44 :: t) : decode c (n + r) = .ok ((.aload_n 2), 1) := by
  refine dz_fin ?_
  rw [Decoder.instr]
  refine (dz_b (dz_u1 (m := 44) (dz_at h h1) rfl)).trans ?_
  rfl
set_option maxRecDepth 20000 in
theorem dz_45 {c : ByteArray} {n k r : Nat} {l t : List UInt8} (h : (c.data.toList.drop n).take k = l) (h1 : l.drop r = 45 :: t) : decode c (n + r) = .ok ((.aload_n 3), 1) := by
  refine dz_fin ?_
  rw [Decoder.instr]
  refine (dz_b (dz_u1 (m := 45) (dz_at h h1) rfl)).trans ?_
  rfl
set_option maxRecDepth 20000 in
theorem dz_46 {c : ByteArray} {n k r : Nat} {l t : List UInt8} (h : (c.data.toList.drop n).take k = l) (h1 : l.drop r = 46 :: t) : decode c (n + r) = .ok (.iaload, 1) := by
  refine dz_fin ?_
  rw [Decoder.instr]
  refine (dz_b (dz_u1 (m := 46) (dz_at h h1) rfl)).trans ?_
  rfl
set_option maxRecDepth 20000 in
theorem dz_47 {c : ByteArray} {n k r : Nat} {l t : List UInt8} (h : (c.data.toList.drop n).take k = l) (h1 : l.drop r = 47 :: t) : decode c (n + r) = .ok (.laload, 1) := by
  refine dz_fin ?_
  rw [Decoder.instr]
  refine (dz_b (dz_u1 (m := 47) (dz_at h h1) rfl)).trans ?_
  rfl
set_option maxRecDepth 20000 in
theorem dz_50 {c : ByteArray} {n k r : Nat} {l t : List UInt8} (h : (c.data.toList.drop n).take k = l) (h1 : l.drop r = 50 :: t) : decode c (n + r) = .ok (.aaload, 1) := by
  refine dz_fin ?_
  rw [Decoder.instr]
  refine (dz_b (dz_u1 (m := 50) (dz_at h h1) rfl)).trans ?_
  rfl
set_option maxRecDepth 20000 in
theorem dz_51 {c : ByteArray} {n k r : Nat} {l t : List UInt8} (h : (c.data.toList.drop n).take k = l) (h1 : l.drop r = 51 :: t) : decode c (n + r) = .ok (.baload, 1) := by
  refine dz_fin ?_
  rw [Decoder.instr]
  refine (dz_b (dz_u1 (m := 51) (dz_at h h1) rfl)).trans ?_
  rfl
set_option maxRecDepth 20000 in
theorem dz_54 {c : ByteArray} {n k r : Nat} {l t : List UInt8} {a : UInt8} {m : Nat} (h : (c.data.toList.drop n).take k = l) (h1 : l.drop r = 54 :: a :: t) (e : a.toNat = m) : decode c (n + r) = .ok ((.istore m), 2) := by
  refine dz_fin ?_
  rw [Decoder.instr]
  refine (dz_b (dz_u1 (m := 54) (dz_at h h1) rfl)).trans ?_
  show ((((Reader.u1 : Decoder Nat) >>= fun x => pure ((.istore x)) : Decoder Instr).run c).run (n + r + 1)) = _
  exact (dz_b (dz_u1 (dz_at (r := r + 1) h (dz_tl h1)) e)).trans rfl
set_option maxRecDepth 20000 in
theorem dz_55 {c : ByteArray} {n k r : Nat} {l t : List UInt8} {a : UInt8} {m : Nat} (h : (c.data.toList.drop n).take k = l) (h1 : l.drop r = 55 :: a :: t) (e : a.toNat = m) : decode c (n + r) = .ok ((.lstore m), 2) := by
  refine dz_fin ?_
  rw [Decoder.instr]
  refine (dz_b (dz_u1 (m := 55) (dz_at h h1) rfl)).trans ?_
  show ((((Reader.u1 : Decoder Nat) >>= fun x => pure ((.lstore x)) : Decoder Instr).run c).run (n + r + 1)) = _
  exact (dz_b (dz_u1 (dz_at (r := r + 1) h (dz_tl h1)) e)).trans rfl
set_option maxRecDepth 20000 in
theorem dz_58 {c : ByteArray} {n k r : Nat} {l t : List UInt8} {a : UInt8} {m : Nat} (h : (c.data.toList.drop n).take k = l) (h1 : l.drop r = 58 :: a :: t) (e : a.toNat = m) : decode c (n + r) = .ok ((.astore m), 2) := by
  refine dz_fin ?_
  rw [Decoder.instr]
  refine (dz_b (dz_u1 (m := 58) (dz_at h h1) rfl)).trans ?_
  show ((((Reader.u1 : Decoder Nat) >>= fun x => pure ((.astore x)) : Decoder Instr).run c).run (n + r + 1)) = _
  exact (dz_b (dz_u1 (dz_at (r := r + 1) h (dz_tl h1)) e)).trans rfl
set_option maxRecDepth 20000 in
theorem dz_59 {c : ByteArray} {n k r : Nat} {l t : List UInt8} (h : (c.data.toList.drop n).take k = l) (h1 : l.drop r = 59 :: t) : decode c (n + r) = .ok ((.istore_n 0), 1) := by
  refine dz_fin ?_
  rw [Decoder.instr]
  refine (dz_b (dz_u1 (m := 59) (dz_at h h1) rfl)).trans ?_
  rfl
set_option maxRecDepth 20000 in
theorem dz_60 {c : ByteArray} {n k r : Nat} {l t : List UInt8} (h : (c.data.toList.drop n).take k = l) (h1 : l.drop r = 60 :: t) : decode c (n + r) = .ok ((.istore_n 1), 1) := by
  refine dz_fin ?_
  rw [Decoder.instr]
  refine (dz_b (dz_u1 (m := 60) (dz_at h h1) rfl)).trans ?_
  rfl
set_option maxRecDepth 20000 in
theorem dz_61 {c : ByteArray} {n k r : Nat} {l t : List UInt8} (h : (c.data.toList.drop n).take k = l) (h1 : l.drop r = 61 :: t) : decode c (n + r) = .ok ((.istore_n 2), 1) := by
  refine dz_fin ?_
  rw [Decoder.instr]
  refine (dz_b (dz_u1 (m := 61) (dz_at h h1) rfl)).trans ?_
  rfl
set_option maxRecDepth 20000 in
theorem dz_62 {c : ByteArray} {n k r : Nat} {l t : List UInt8} (h : (c.data.toList.drop n).take k = l) (h1 : l.drop r = 62 :: t) : decode c (n + r) = .ok ((.istore_n 3), 1) := by
  refine dz_fin ?_
  rw [Decoder.instr]
  refine (dz_b (dz_u1 (m := 62) (dz_at h h1) rfl)).trans ?_
  rfl
set_option maxRecDepth 20000 in
theorem dz_65 {c : ByteArray} {n k r : Nat} {l t : List UInt8} (h : (c.data.toList.drop n).take k = l) (h1 : l.drop r = 65 :: t) : decode c (n + r) = .ok ((.lstore_n 2), 1) := by
  refine dz_fin ?_
  rw [Decoder.instr]
  refine (dz_b (dz_u1 (m := 65) (dz_at h h1) rfl)).trans ?_
  rfl
set_option maxRecDepth 20000 in
theorem dz_66 {c : ByteArray} {n k r : Nat} {l t : List UInt8} (h : (c.data.toList.drop n).take k = l) (h1 : l.drop r = 66 :: t) : decode c (n + r) = .ok ((.lstore_n 3), 1) := by
  refine dz_fin ?_
  rw [Decoder.instr]
  refine (dz_b (dz_u1 (m := 66) (dz_at h h1) rfl)).trans ?_
  rfl
set_option maxRecDepth 20000 in
theorem dz_76 {c : ByteArray} {n k r : Nat} {l t : List UInt8} (h : (c.data.toList.drop n).take k = l) (h1 : l.drop r = 76 :: t) : decode c (n + r) = .ok ((.astore_n 1), 1) := by
  refine dz_fin ?_
  rw [Decoder.instr]
  refine (dz_b (dz_u1 (m := 76) (dz_at h h1) rfl)).trans ?_
  rfl
set_option maxRecDepth 20000 in
theorem dz_77 {c : ByteArray} {n k r : Nat} {l t : List UInt8} (h : (c.data.toList.drop n).take k = l) (h1 : l.drop r = 77 :: t) : decode c (n + r) = .ok ((.astore_n 2), 1) := by
  refine dz_fin ?_
  rw [Decoder.instr]
  refine (dz_b (dz_u1 (m := 77) (dz_at h h1) rfl)).trans ?_
  rfl
set_option maxRecDepth 20000 in
theorem dz_78 {c : ByteArray} {n k r : Nat} {l t : List UInt8} (h : (c.data.toList.drop n).take k = l) (h1 : l.drop r = 78 :: t) : decode c (n + r) = .ok ((.astore_n 3), 1) := by
  refine dz_fin ?_
  rw [Decoder.instr]
  refine (dz_b (dz_u1 (m := 78) (dz_at h h1) rfl)).trans ?_
  rfl
set_option maxRecDepth 20000 in
theorem dz_79 {c : ByteArray} {n k r : Nat} {l t : List UInt8} (h : (c.data.toList.drop n).take k = l) (h1 : l.drop r = 79 :: t) : decode c (n + r) = .ok (.iastore, 1) := by
  refine dz_fin ?_
  rw [Decoder.instr]
  refine (dz_b (dz_u1 (m := 79) (dz_at h h1) rfl)).trans ?_
  rfl
set_option maxRecDepth 20000 in
theorem dz_80 {c : ByteArray} {n k r : Nat} {l t : List UInt8} (h : (c.data.toList.drop n).take k = l) (h1 : l.drop r = 80 :: t) : decode c (n + r) = .ok (.lastore, 1) := by
  refine dz_fin ?_
  rw [Decoder.instr]
  refine (dz_b (dz_u1 (m := 80) (dz_at h h1) rfl)).trans ?_
  rfl
set_option maxRecDepth 20000 in
theorem dz_83 {c : ByteArray} {n k r : Nat} {l t : List UInt8} (h : (c.data.toList.drop n).take k = l) (h1 : l.drop r = 83 :: t) : decode c (n + r) = .ok (.aastore, 1) := by
  refine dz_fin ?_
  rw [Decoder.instr]
  refine (dz_b (dz_u1 (m := 83) (dz_at h h1) rfl)).trans ?_
  rfl
set_option maxRecDepth 20000 in
theorem dz_84 {c : ByteArray} {n k r : Nat} {l t : List UInt8} (h : (c.data.toList.drop n).take k = l) (h1 : l.drop r = 84 :: t) : decode c (n + r) = .ok (.bastore, 1) := by
  refine dz_fin ?_
  rw [Decoder.instr]
  refine (dz_b (dz_u1 (m := 84) (dz_at h h1) rfl)).trans ?_
  rfl
set_option maxRecDepth 20000 in
theorem dz_87 {c : ByteArray} {n k r : Nat} {l t : List UInt8} (h : (c.data.toList.drop n).take k = l) (h1 : l.drop r = 87 :: t) : decode c (n + r) = .ok (.pop, 1) := by
  refine dz_fin ?_
  rw [Decoder.instr]
  refine (dz_b (dz_u1 (m := 87) (dz_at h h1) rfl)).trans ?_
  rfl
set_option maxRecDepth 20000 in
theorem dz_88 {c : ByteArray} {n k r : Nat} {l t : List UInt8} (h : (c.data.toList.drop n).take k = l) (h1 : l.drop r = 88 :: t) : decode c (n + r) = .ok (.pop2, 1) := by
  refine dz_fin ?_
  rw [Decoder.instr]
  refine (dz_b (dz_u1 (m := 88) (dz_at h h1) rfl)).trans ?_
  rfl
set_option maxRecDepth 20000 in
theorem dz_89 {c : ByteArray} {n k r : Nat} {l t : List UInt8} (h : (c.data.toList.drop n).take k = l) (h1 : l.drop r = 89 :: t) : decode c (n + r) = .ok (.dup, 1) := by
  refine dz_fin ?_
  rw [Decoder.instr]
  refine (dz_b (dz_u1 (m := 89) (dz_at h h1) rfl)).trans ?_
  rfl
set_option maxRecDepth 20000 in
theorem dz_92 {c : ByteArray} {n k r : Nat} {l t : List UInt8} (h : (c.data.toList.drop n).take k = l) (h1 : l.drop r = 92 :: t) : decode c (n + r) = .ok (.dup2, 1) := by
  refine dz_fin ?_
  rw [Decoder.instr]
  refine (dz_b (dz_u1 (m := 92) (dz_at h h1) rfl)).trans ?_
  rfl
set_option maxRecDepth 20000 in
theorem dz_96 {c : ByteArray} {n k r : Nat} {l t : List UInt8} (h : (c.data.toList.drop n).take k = l) (h1 : l.drop r = 96 :: t) : decode c (n + r) = .ok (.iadd, 1) := by
  refine dz_fin ?_
  rw [Decoder.instr]
  refine (dz_b (dz_u1 (m := 96) (dz_at h h1) rfl)).trans ?_
  rfl
set_option maxRecDepth 20000 in
theorem dz_97 {c : ByteArray} {n k r : Nat} {l t : List UInt8} (h : (c.data.toList.drop n).take k = l) (h1 : l.drop r = 97 :: t) : decode c (n + r) = .ok (.ladd, 1) := by
  refine dz_fin ?_
  rw [Decoder.instr]
  refine (dz_b (dz_u1 (m := 97) (dz_at h h1) rfl)).trans ?_
  rfl
set_option maxRecDepth 20000 in
theorem dz_100 {c : ByteArray} {n k r : Nat} {l t : List UInt8} (h : (c.data.toList.drop n).take k = l) (h1 : l.drop r = 100 :: t) : decode c (n + r) = .ok (.isub, 1) := by
  refine dz_fin ?_
  rw [Decoder.instr]
  refine (dz_b (dz_u1 (m := 100) (dz_at h h1) rfl)).trans ?_
  rfl
set_option maxRecDepth 20000 in
theorem dz_104 {c : ByteArray} {n k r : Nat} {l t : List UInt8} (h : (c.data.toList.drop n).take k = l) (h1 : l.drop r = 104 :: t) : decode c (n + r) = .ok (.imul, 1) := by
  refine dz_fin ?_
  rw [Decoder.instr]
  refine (dz_b (dz_u1 (m := 104) (dz_at h h1) rfl)).trans ?_
  rfl
set_option maxRecDepth 20000 in
theorem dz_105 {c : ByteArray} {n k r : Nat} {l t : List UInt8} (h : (c.data.toList.drop n).take k = l) (h1 : l.drop r = 105 :: t) : decode c (n + r) = .ok (.lmul, 1) := by
  refine dz_fin ?_
  rw [Decoder.instr]
  refine (dz_b (dz_u1 (m := 105) (dz_at h h1) rfl)).trans ?_
  rfl
set_option maxRecDepth 20000 in
theorem dz_108 {c : ByteArray} {n k r : Nat} {l t : List UInt8} (h : (c.data.toList.drop n).take k = l) (h1 : l.drop r = 108 :: t) : decode c (n + r) = .ok (.idiv, 1) := by
  refine dz_fin ?_
  rw [Decoder.instr]
  refine (dz_b (dz_u1 (m := 108) (dz_at h h1) rfl)).trans ?_
  rfl
set_option maxRecDepth 20000 in
theorem dz_109 {c : ByteArray} {n k r : Nat} {l t : List UInt8} (h : (c.data.toList.drop n).take k = l) (h1 : l.drop r = 109 :: t) : decode c (n + r) = .ok (.ldiv, 1) := by
  refine dz_fin ?_
  rw [Decoder.instr]
  refine (dz_b (dz_u1 (m := 109) (dz_at h h1) rfl)).trans ?_
  rfl
set_option maxRecDepth 20000 in
theorem dz_112 {c : ByteArray} {n k r : Nat} {l t : List UInt8} (h : (c.data.toList.drop n).take k = l) (h1 : l.drop r = 112 :: t) : decode c (n + r) = .ok (.irem, 1) := by
  refine dz_fin ?_
  rw [Decoder.instr]
  refine (dz_b (dz_u1 (m := 112) (dz_at h h1) rfl)).trans ?_
  rfl
set_option maxRecDepth 20000 in
theorem dz_113 {c : ByteArray} {n k r : Nat} {l t : List UInt8} (h : (c.data.toList.drop n).take k = l) (h1 : l.drop r = 113 :: t) : decode c (n + r) = .ok (.lrem, 1) := by
  refine dz_fin ?_
  rw [Decoder.instr]
  refine (dz_b (dz_u1 (m := 113) (dz_at h h1) rfl)).trans ?_
  rfl
set_option maxRecDepth 20000 in
theorem dz_116 {c : ByteArray} {n k r : Nat} {l t : List UInt8} (h : (c.data.toList.drop n).take k = l) (h1 : l.drop r = 116 :: t) : decode c (n + r) = .ok (.ineg, 1) := by
  refine dz_fin ?_
  rw [Decoder.instr]
  refine (dz_b (dz_u1 (m := 116) (dz_at h h1) rfl)).trans ?_
  rfl
set_option maxRecDepth 20000 in
theorem dz_120 {c : ByteArray} {n k r : Nat} {l t : List UInt8} (h : (c.data.toList.drop n).take k = l) (h1 : l.drop r = 120 :: t) : decode c (n + r) = .ok (.ishl, 1) := by
  refine dz_fin ?_
  rw [Decoder.instr]
  refine (dz_b (dz_u1 (m := 120) (dz_at h h1) rfl)).trans ?_
  rfl
set_option maxRecDepth 20000 in
theorem dz_122 {c : ByteArray} {n k r : Nat} {l t : List UInt8} (h : (c.data.toList.drop n).take k = l) (h1 : l.drop r = 122 :: t) : decode c (n + r) = .ok (.ishr, 1) := by
  refine dz_fin ?_
  rw [Decoder.instr]
  refine (dz_b (dz_u1 (m := 122) (dz_at h h1) rfl)).trans ?_
  rfl
set_option maxRecDepth 20000 in
theorem dz_124 {c : ByteArray} {n k r : Nat} {l t : List UInt8} (h : (c.data.toList.drop n).take k = l) (h1 : l.drop r = 124 :: t) : decode c (n + r) = .ok (.iushr, 1) := by
  refine dz_fin ?_
  rw [Decoder.instr]
  refine (dz_b (dz_u1 (m := 124) (dz_at h h1) rfl)).trans ?_
  rfl
set_option maxRecDepth 20000 in
theorem dz_126 {c : ByteArray} {n k r : Nat} {l t : List UInt8} (h : (c.data.toList.drop n).take k = l) (h1 : l.drop r = 126 :: t) : decode c (n + r) = .ok (.iand, 1) := by
  refine dz_fin ?_
  rw [Decoder.instr]
  refine (dz_b (dz_u1 (m := 126) (dz_at h h1) rfl)).trans ?_
  rfl
set_option maxRecDepth 20000 in
theorem dz_128 {c : ByteArray} {n k r : Nat} {l t : List UInt8} (h : (c.data.toList.drop n).take k = l) (h1 : l.drop r = 128 :: t) : decode c (n + r) = .ok (.ior, 1) := by
  refine dz_fin ?_
  rw [Decoder.instr]
  refine (dz_b (dz_u1 (m := 128) (dz_at h h1) rfl)).trans ?_
  rfl
set_option maxRecDepth 20000 in
theorem dz_130 {c : ByteArray} {n k r : Nat} {l t : List UInt8} (h : (c.data.toList.drop n).take k = l) (h1 : l.drop r = 130 :: t) : decode c (n + r) = .ok (.ixor, 1) := by
  refine dz_fin ?_
  rw [Decoder.instr]
  refine (dz_b (dz_u1 (m := 130) (dz_at h h1) rfl)).trans ?_
  rfl
set_option maxRecDepth 20000 in
theorem dz_132 {c : ByteArray} {n k r : Nat} {l t : List UInt8} {a b : UInt8} {m : Nat} {m2 : Int} (h : (c.data.toList.drop n).take k = l) (h1 : l.drop r = 132 :: a :: b :: t) (e : a.toNat = m) (e2 : Reader.signed 8 b.toNat = m2) : decode c (n + r) = .ok (.iinc m m2, 3) := by
  refine dz_fin ?_
  rw [Decoder.instr]
  refine (dz_b (dz_u1 (m := 132) (dz_at h h1) rfl)).trans ?_
  show ((((Reader.u1 : Decoder Nat) >>= fun x => (Reader.s1 : Decoder Int) >>= fun y => pure (.iinc x y) : Decoder Instr).run c).run (n + r + 1)) = _
  exact (dz_b (dz_u1 (dz_at (r := r + 1) h (dz_tl h1)) e)).trans ((dz_b (dz_s1 (dz_at (r := r + 1 + 1) h (dz_tl (dz_tl h1))) e2)).trans rfl)
set_option maxRecDepth 20000 in
theorem dz_133 {c : ByteArray} {n k r : Nat} {l t : List UInt8} (h : (c.data.toList.drop n).take k = l) (h1 : l.drop r = 133 :: t) : decode c (n + r) = .ok (.i2l, 1) := by
  refine dz_fin ?_
  rw [Decoder.instr]
  refine (dz_b (dz_u1 (m := 133) (dz_at h h1) rfl)).trans ?_
  rfl
set_option maxRecDepth 20000 in
theorem dz_136 {c : ByteArray} {n k r : Nat} {l t : List UInt8} (h : (c.data.toList.drop n).take k = l) (h1 : l.drop r = 136 :: t) : decode c (n + r) = .ok (.l2i, 1) := by
  refine dz_fin ?_
  rw [Decoder.instr]
  refine (dz_b (dz_u1 (m := 136) (dz_at h h1) rfl)).trans ?_
  rfl
set_option maxRecDepth 20000 in
theorem dz_145 {c : ByteArray} {n k r : Nat} {l t : List UInt8} (h : (c.data.toList.drop n).take k = l) (h1 : l.drop r = 145 :: t) : decode c (n + r) = .ok (.i2b, 1) := by
  refine dz_fin ?_
  rw [Decoder.instr]
  refine (dz_b (dz_u1 (m := 145) (dz_at h h1) rfl)).trans ?_
  rfl
set_option maxRecDepth 20000 in
theorem dz_146 {c : ByteArray} {n k r : Nat} {l t : List UInt8} (h : (c.data.toList.drop n).take k = l) (h1 : l.drop r = 146 :: t) : decode c (n + r) = .ok (.i2c, 1) := by
  refine dz_fin ?_
  rw [Decoder.instr]
  refine (dz_b (dz_u1 (m := 146) (dz_at h h1) rfl)).trans ?_
  rfl
set_option maxRecDepth 20000 in
theorem dz_148 {c : ByteArray} {n k r : Nat} {l t : List UInt8} (h : (c.data.toList.drop n).take k = l) (h1 : l.drop r = 148 :: t) : decode c (n + r) = .ok (.lcmp, 1) := by
  refine dz_fin ?_
  rw [Decoder.instr]
  refine (dz_b (dz_u1 (m := 148) (dz_at h h1) rfl)).trans ?_
  rfl
set_option maxRecDepth 20000 in
theorem dz_153 {c : ByteArray} {n k r : Nat} {l t : List UInt8} {a b : UInt8} {m : Int} (h : (c.data.toList.drop n).take k = l) (h1 : l.drop r = 153 :: a :: b :: t) (e : Reader.signed 16 (a.toNat * 256 + b.toNat) = m) : decode c (n + r) = .ok ((.ifCond .eq m), 3) := by
  refine dz_fin ?_
  rw [Decoder.instr]
  refine (dz_b (dz_u1 (m := 153) (dz_at h h1) rfl)).trans ?_
  show ((((Reader.s2 : Decoder Int) >>= fun x => pure ((.ifCond .eq x)) : Decoder Instr).run c).run (n + r + 1)) = _
  exact (dz_b (dz_s2 (dz_at (r := r + 1) h (dz_tl h1)) (dz_at (r := r + 1 + 1) h (dz_tl (dz_tl h1))) e)).trans rfl
set_option maxRecDepth 20000 in
theorem dz_154 {c : ByteArray} {n k r : Nat} {l t : List UInt8} {a b : UInt8} {m : Int} (h : (c.data.toList.drop n).take k = l) (h1 : l.drop r = 154 :: a :: b :: t) (e : Reader.signed 16 (a.toNat * 256 + b.toNat) = m) : decode c (n + r) = .ok ((.ifCond .ne m), 3) := by
  refine dz_fin ?_
  rw [Decoder.instr]
  refine (dz_b (dz_u1 (m := 154) (dz_at h h1) rfl)).trans ?_
  show ((((Reader.s2 : Decoder Int) >>= fun x => pure ((.ifCond .ne x)) : Decoder Instr).run c).run (n + r + 1)) = _
  exact (dz_b (dz_s2 (dz_at (r := r + 1) h (dz_tl h1)) (dz_at (r := r + 1 + 1) h (dz_tl (dz_tl h1))) e)).trans rfl
set_option maxRecDepth 20000 in
theorem dz_155 {c : ByteArray} {n k r : Nat} {l t : List UInt8} {a b : UInt8} {m : Int} (h : (c.data.toList.drop n).take k = l) (h1 : l.drop r = 155 :: a :: b :: t) (e : Reader.signed 16 (a.toNat * 256 + b.toNat) = m) : decode c (n + r) = .ok ((.ifCond .lt m), 3) := by
  refine dz_fin ?_
  rw [Decoder.instr]
  refine (dz_b (dz_u1 (m := 155) (dz_at h h1) rfl)).trans ?_
  show ((((Reader.s2 : Decoder Int) >>= fun x => pure ((.ifCond .lt x)) : Decoder Instr).run c).run (n + r + 1)) = _
  exact (dz_b (dz_s2 (dz_at (r := r + 1) h (dz_tl h1)) (dz_at (r := r + 1 + 1) h (dz_tl (dz_tl h1))) e)).trans rfl
set_option maxRecDepth 20000 in
theorem dz_156 {c : ByteArray} {n k r : Nat} {l t : List UInt8} {a b : UInt8} {m : Int} (h : (c.data.toList.drop n).take k = l) (h1 : l.drop r = 156 :: a :: b :: t) (e : Reader.signed 16 (a.toNat * 256 + b.toNat) = m) : decode c (n + r) = .ok ((.ifCond .ge m), 3) := by
  refine dz_fin ?_
  rw [Decoder.instr]
  refine (dz_b (dz_u1 (m := 156) (dz_at h h1) rfl)).trans ?_
  show ((((Reader.s2 : Decoder Int) >>= fun x => pure ((.ifCond .ge x)) : Decoder Instr).run c).run (n + r + 1)) = _
  exact (dz_b (dz_s2 (dz_at (r := r + 1) h (dz_tl h1)) (dz_at (r := r + 1 + 1) h (dz_tl (dz_tl h1))) e)).trans rfl
set_option maxRecDepth 20000 in
theorem dz_157 {c : ByteArray} {n k r : Nat} {l t : List UInt8} {a b : UInt8} {m : Int} (h : (c.data.toList.drop n).take k = l) (h1 : l.drop r = 157 :: a :: b :: t) (e : Reader.signed 16 (a.toNat * 256 + b.toNat) = m) : decode c (n + r) = .ok ((.ifCond .gt m), 3) := by
  refine dz_fin ?_
  rw [Decoder.instr]
  refine (dz_b (dz_u1 (m := 157) (dz_at h h1) rfl)).trans ?_
  show ((((Reader.s2 : Decoder Int) >>= fun x => pure ((.ifCond .gt x)) : Decoder Instr).run c).run (n + r + 1)) = _
  exact (dz_b (dz_s2 (dz_at (r := r + 1) h (dz_tl h1)) (dz_at (r := r + 1 + 1) h (dz_tl (dz_tl h1))) e)).trans rfl
set_option maxRecDepth 20000 in
theorem dz_158 {c : ByteArray} {n k r : Nat} {l t : List UInt8} {a b : UInt8} {m : Int} (h : (c.data.toList.drop n).take k = l) (h1 : l.drop r = 158 :: a :: b :: t) (e : Reader.signed 16 (a.toNat * 256 + b.toNat) = m) : decode c (n + r) = .ok ((.ifCond .le m), 3) := by
  refine dz_fin ?_
  rw [Decoder.instr]
  refine (dz_b (dz_u1 (m := 158) (dz_at h h1) rfl)).trans ?_
  show ((((Reader.s2 : Decoder Int) >>= fun x => pure ((.ifCond .le x)) : Decoder Instr).run c).run (n + r + 1)) = _
  exact (dz_b (dz_s2 (dz_at (r := r + 1) h (dz_tl h1)) (dz_at (r := r + 1 + 1) h (dz_tl (dz_tl h1))) e)).trans rfl
set_option maxRecDepth 20000 in
theorem dz_159 {c : ByteArray} {n k r : Nat} {l t : List UInt8} {a b : UInt8} {m : Int} (h : (c.data.toList.drop n).take k = l) (h1 : l.drop r = 159 :: a :: b :: t) (e : Reader.signed 16 (a.toNat * 256 + b.toNat) = m) : decode c (n + r) = .ok ((.if_icmp .eq m), 3) := by
  refine dz_fin ?_
  rw [Decoder.instr]
  refine (dz_b (dz_u1 (m := 159) (dz_at h h1) rfl)).trans ?_
  show ((((Reader.s2 : Decoder Int) >>= fun x => pure ((.if_icmp .eq x)) : Decoder Instr).run c).run (n + r + 1)) = _
  exact (dz_b (dz_s2 (dz_at (r := r + 1) h (dz_tl h1)) (dz_at (r := r + 1 + 1) h (dz_tl (dz_tl h1))) e)).trans rfl
set_option maxRecDepth 20000 in
theorem dz_160 {c : ByteArray} {n k r : Nat} {l t : List UInt8} {a b : UInt8} {m : Int} (h : (c.data.toList.drop n).take k = l) (h1 : l.drop r = 160 :: a :: b :: t) (e : Reader.signed 16 (a.toNat * 256 + b.toNat) = m) : decode c (n + r) = .ok ((.if_icmp .ne m), 3) := by
  refine dz_fin ?_
  rw [Decoder.instr]
  refine (dz_b (dz_u1 (m := 160) (dz_at h h1) rfl)).trans ?_
  show ((((Reader.s2 : Decoder Int) >>= fun x => pure ((.if_icmp .ne x)) : Decoder Instr).run c).run (n + r + 1)) = _
  exact (dz_b (dz_s2 (dz_at (r := r + 1) h (dz_tl h1)) (dz_at (r := r + 1 + 1) h (dz_tl (dz_tl h1))) e)).trans rfl
set_option maxRecDepth 20000 in
theorem dz_161 {c : ByteArray} {n k r : Nat} {l t : List UInt8} {a b : UInt8} {m : Int} (h : (c.data.toList.drop n).take k = l) (h1 : l.drop r = 161 :: a :: b :: t) (e : Reader.signed 16 (a.toNat * 256 + b.toNat) = m) : decode c (n + r) = .ok ((.if_icmp .lt m), 3) := by
  refine dz_fin ?_
  rw [Decoder.instr]
  refine (dz_b (dz_u1 (m := 161) (dz_at h h1) rfl)).trans ?_
  show ((((Reader.s2 : Decoder Int) >>= fun x => pure ((.if_icmp .lt x)) : Decoder Instr).run c).run (n + r + 1)) = _
  exact (dz_b (dz_s2 (dz_at (r := r + 1) h (dz_tl h1)) (dz_at (r := r + 1 + 1) h (dz_tl (dz_tl h1))) e)).trans rfl
set_option maxRecDepth 20000 in
theorem dz_162 {c : ByteArray} {n k r : Nat} {l t : List UInt8} {a b : UInt8} {m : Int} (h : (c.data.toList.drop n).take k = l) (h1 : l.drop r = 162 :: a :: b :: t) (e : Reader.signed 16 (a.toNat * 256 + b.toNat) = m) : decode c (n + r) = .ok ((.if_icmp .ge m), 3) := by
  refine dz_fin ?_
  rw [Decoder.instr]
  refine (dz_b (dz_u1 (m := 162) (dz_at h h1) rfl)).trans ?_
  show ((((Reader.s2 : Decoder Int) >>= fun x => pure ((.if_icmp .ge x)) : Decoder Instr).run c).run (n + r + 1)) = _
  exact (dz_b (dz_s2 (dz_at (r := r + 1) h (dz_tl h1)) (dz_at (r := r + 1 + 1) h (dz_tl (dz_tl h1))) e)).trans rfl
set_option maxRecDepth 20000 in
theorem dz_163 {c : ByteArray} {n k r : Nat} {l t : List UInt8} {a b : UInt8} {m : Int} (h : (c.data.toList.drop n).take k = l) (h1 : l.drop r = 163 :: a :: b :: t) (e : Reader.signed 16 (a.toNat * 256 + b.toNat) = m) : decode c (n + r) = .ok ((.if_icmp .gt m), 3) := by
  refine dz_fin ?_
  rw [Decoder.instr]
  refine (dz_b (dz_u1 (m := 163) (dz_at h h1) rfl)).trans ?_
  show ((((Reader.s2 : Decoder Int) >>= fun x => pure ((.if_icmp .gt x)) : Decoder Instr).run c).run (n + r + 1)) = _
  exact (dz_b (dz_s2 (dz_at (r := r + 1) h (dz_tl h1)) (dz_at (r := r + 1 + 1) h (dz_tl (dz_tl h1))) e)).trans rfl
set_option maxRecDepth 20000 in
theorem dz_164 {c : ByteArray} {n k r : Nat} {l t : List UInt8} {a b : UInt8} {m : Int} (h : (c.data.toList.drop n).take k = l) (h1 : l.drop r = 164 :: a :: b :: t) (e : Reader.signed 16 (a.toNat * 256 + b.toNat) = m) : decode c (n + r) = .ok ((.if_icmp .le m), 3) := by
  refine dz_fin ?_
  rw [Decoder.instr]
  refine (dz_b (dz_u1 (m := 164) (dz_at h h1) rfl)).trans ?_
  show ((((Reader.s2 : Decoder Int) >>= fun x => pure ((.if_icmp .le x)) : Decoder Instr).run c).run (n + r + 1)) = _
  exact (dz_b (dz_s2 (dz_at (r := r + 1) h (dz_tl h1)) (dz_at (r := r + 1 + 1) h (dz_tl (dz_tl h1))) e)).trans rfl
set_option maxRecDepth 20000 in
theorem dz_167 {c : ByteArray} {n k r : Nat} {l t : List UInt8} {a b : UInt8} {m : Int} (h : (c.data.toList.drop n).take k = l) (h1 : l.drop r = 167 :: a :: b :: t) (e : Reader.signed 16 (a.toNat * 256 + b.toNat) = m) : decode c (n + r) = .ok ((.goto m), 3) := by
  refine dz_fin ?_
  rw [Decoder.instr]
  refine (dz_b (dz_u1 (m := 167) (dz_at h h1) rfl)).trans ?_
  show ((((Reader.s2 : Decoder Int) >>= fun x => pure ((.goto x)) : Decoder Instr).run c).run (n + r + 1)) = _
  exact (dz_b (dz_s2 (dz_at (r := r + 1) h (dz_tl h1)) (dz_at (r := r + 1 + 1) h (dz_tl (dz_tl h1))) e)).trans rfl
set_option maxRecDepth 20000 in
theorem dz_172 {c : ByteArray} {n k r : Nat} {l t : List UInt8} (h : (c.data.toList.drop n).take k = l) (h1 : l.drop r = 172 :: t) : decode c (n + r) = .ok (.ireturn, 1) := by
  refine dz_fin ?_
  rw [Decoder.instr]
  refine (dz_b (dz_u1 (m := 172) (dz_at h h1) rfl)).trans ?_
  rfl
set_option maxRecDepth 20000 in
theorem dz_173 {c : ByteArray} {n k r : Nat} {l t : List UInt8} (h : (c.data.toList.drop n).take k = l) (h1 : l.drop r = 173 :: t) : decode c (n + r) = .ok (.lreturn, 1) := by
  refine dz_fin ?_
  rw [Decoder.instr]
  refine (dz_b (dz_u1 (m := 173) (dz_at h h1) rfl)).trans ?_
  rfl
set_option maxRecDepth 20000 in
theorem dz_176 {c : ByteArray} {n k r : Nat} {l t : List UInt8} (h : (c.data.toList.drop n).take k = l) (h1 : l.drop r = 176 :: t) : decode c (n + r) = .ok (.areturn, 1) := by
  refine dz_fin ?_
  rw [Decoder.instr]
  refine (dz_b (dz_u1 (m := 176) (dz_at h h1) rfl)).trans ?_
  rfl
set_option maxRecDepth 20000 in
theorem dz_177 {c : ByteArray} {n k r : Nat} {l t : List UInt8} (h : (c.data.toList.drop n).take k = l) (h1 : l.drop r = 177 :: t) : decode c (n + r) = .ok (.return_, 1) := by
  refine dz_fin ?_
  rw [Decoder.instr]
  refine (dz_b (dz_u1 (m := 177) (dz_at h h1) rfl)).trans ?_
  rfl
set_option maxRecDepth 20000 in
theorem dz_178 {c : ByteArray} {n k r : Nat} {l t : List UInt8} {a b : UInt8} {m : Nat} (h : (c.data.toList.drop n).take k = l) (h1 : l.drop r = 178 :: a :: b :: t) (e : a.toNat * 256 + b.toNat = m) : decode c (n + r) = .ok ((.getstatic m), 3) := by
  refine dz_fin ?_
  rw [Decoder.instr]
  refine (dz_b (dz_u1 (m := 178) (dz_at h h1) rfl)).trans ?_
  show ((((Reader.u2 : Decoder Nat) >>= fun x => pure ((.getstatic x)) : Decoder Instr).run c).run (n + r + 1)) = _
  exact (dz_b (dz_u2 (dz_at (r := r + 1) h (dz_tl h1)) (dz_at (r := r + 1 + 1) h (dz_tl (dz_tl h1))) e)).trans rfl
set_option maxRecDepth 20000 in
theorem dz_180 {c : ByteArray} {n k r : Nat} {l t : List UInt8} {a b : UInt8} {m : Nat} (h : (c.data.toList.drop n).take k = l) (h1 : l.drop r = 180 :: a :: b :: t) (e : a.toNat * 256 + b.toNat = m) : decode c (n + r) = .ok ((.getfield m), 3) := by
  refine dz_fin ?_
  rw [Decoder.instr]
  refine (dz_b (dz_u1 (m := 180) (dz_at h h1) rfl)).trans ?_
  show ((((Reader.u2 : Decoder Nat) >>= fun x => pure ((.getfield x)) : Decoder Instr).run c).run (n + r + 1)) = _
  exact (dz_b (dz_u2 (dz_at (r := r + 1) h (dz_tl h1)) (dz_at (r := r + 1 + 1) h (dz_tl (dz_tl h1))) e)).trans rfl
set_option maxRecDepth 20000 in
theorem dz_181 {c : ByteArray} {n k r : Nat} {l t : List UInt8} {a b : UInt8} {m : Nat} (h : (c.data.toList.drop n).take k = l) (h1 : l.drop r = 181 :: a :: b :: t) (e : a.toNat * 256 + b.toNat = m) : decode c (n + r) = .ok ((.putfield m), 3) := by
  refine dz_fin ?_
  rw [Decoder.instr]
  refine (dz_b (dz_u1 (m := 181) (dz_at h h1) rfl)).trans ?_
  show ((((Reader.u2 : Decoder Nat) >>= fun x => pure ((.putfield x)) : Decoder Instr).run c).run (n + r + 1)) = _
  exact (dz_b (dz_u2 (dz_at (r := r + 1) h (dz_tl h1)) (dz_at (r := r + 1 + 1) h (dz_tl (dz_tl h1))) e)).trans rfl
set_option maxRecDepth 20000 in
theorem dz_182 {c : ByteArray} {n k r : Nat} {l t : List UInt8} {a b : UInt8} {m : Nat} (h : (c.data.toList.drop n).take k = l) (h1 : l.drop r = 182 :: a :: b :: t) (e : a.toNat * 256 + b.toNat = m) : decode c (n + r) = .ok ((.invokevirtual m), 3) := by
  refine dz_fin ?_
  rw [Decoder.instr]
  refine (dz_b (dz_u1 (m := 182) (dz_at h h1) rfl)).trans ?_
  show ((((Reader.u2 : Decoder Nat) >>= fun x => pure ((.invokevirtual x)) : Decoder Instr).run c).run (n + r + 1)) = _
  exact (dz_b (dz_u2 (dz_at (r := r + 1) h (dz_tl h1)) (dz_at (r := r + 1 + 1) h (dz_tl (dz_tl h1))) e)).trans rfl
set_option maxRecDepth 20000 in
theorem dz_183 {c : ByteArray} {n k r : Nat} {l t : List UInt8} {a b : UInt8} {m : Nat} (h : (c.data.toList.drop n).take k = l) (h1 : l.drop r = 183 :: a :: b :: t) (e : a.toNat * 256 + b.toNat = m) : decode c (n + r) = .ok ((.invokespecial m), 3) := by
  refine dz_fin ?_
  rw [Decoder.instr]
  refine (dz_b (dz_u1 (m := 183) (dz_at h h1) rfl)).trans ?_
  show ((((Reader.u2 : Decoder Nat) >>= fun x => pure ((.invokespecial x)) : Decoder Instr).run c).run (n + r + 1)) = _
  exact (dz_b (dz_u2 (dz_at (r := r + 1) h (dz_tl h1)) (dz_at (r := r + 1 + 1) h (dz_tl (dz_tl h1))) e)).trans rfl
set_option maxRecDepth 20000 in
theorem dz_184 {c : ByteArray} {n k r : Nat} {l t : List UInt8} {a b : UInt8} {m : Nat} (h : (c.data.toList.drop n).take k = l) (h1 : l.drop r = 184 :: a :: b :: t) (e : a.toNat * 256 + b.toNat = m) : decode c (n + r) = .ok ((.invokestatic m), 3) := by
  refine dz_fin ?_
  rw [Decoder.instr]
  refine (dz_b (dz_u1 (m := 184) (dz_at h h1) rfl)).trans ?_
  show ((((Reader.u2 : Decoder Nat) >>= fun x => pure ((.invokestatic x)) : Decoder Instr).run c).run (n + r + 1)) = _
  exact (dz_b (dz_u2 (dz_at (r := r + 1) h (dz_tl h1)) (dz_at (r := r + 1 + 1) h (dz_tl (dz_tl h1))) e)).trans rfl
set_option maxRecDepth 20000 in
theorem dz_187 {c : ByteArray} {n k r : Nat} {l t : List UInt8} {a b : UInt8} {m : Nat} (h : (c.data.toList.drop n).take k = l) (h1 : l.drop r = 187 :: a :: b :: t) (e : a.toNat * 256 + b.toNat = m) : decode c (n + r) = .ok ((.new m), 3) := by
  refine dz_fin ?_
  rw [Decoder.instr]
  refine (dz_b (dz_u1 (m := 187) (dz_at h h1) rfl)).trans ?_
  show ((((Reader.u2 : Decoder Nat) >>= fun x => pure ((.new x)) : Decoder Instr).run c).run (n + r + 1)) = _
  exact (dz_b (dz_u2 (dz_at (r := r + 1) h (dz_tl h1)) (dz_at (r := r + 1 + 1) h (dz_tl (dz_tl h1))) e)).trans rfl
set_option maxRecDepth 20000 in
theorem dz_189 {c : ByteArray} {n k r : Nat} {l t : List UInt8} {a b : UInt8} {m : Nat} (h : (c.data.toList.drop n).take k = l) (h1 : l.drop r = 189 :: a :: b :: t) (e : a.toNat * 256 + b.toNat = m) : decode c (n + r) = .ok ((.anewarray m), 3) := by
  refine dz_fin ?_
  rw [Decoder.instr]
  refine (dz_b (dz_u1 (m := 189) (dz_at h h1) rfl)).trans ?_
  show ((((Reader.u2 : Decoder Nat) >>= fun x => pure ((.anewarray x)) : Decoder Instr).run c).run (n + r + 1)) = _
  exact (dz_b (dz_u2 (dz_at (r := r + 1) h (dz_tl h1)) (dz_at (r := r + 1 + 1) h (dz_tl (dz_tl h1))) e)).trans rfl
set_option maxRecDepth 20000 in
theorem dz_190 {c : ByteArray} {n k r : Nat} {l t : List UInt8} (h : (c.data.toList.drop n).take k = l) (h1 : l.drop r = 190 :: t) : decode c (n + r) = .ok (.arraylength, 1) := by
  refine dz_fin ?_
  rw [Decoder.instr]
  refine (dz_b (dz_u1 (m := 190) (dz_at h h1) rfl)).trans ?_
  rfl
set_option maxRecDepth 20000 in
theorem dz_191 {c : ByteArray} {n k r : Nat} {l t : List UInt8} (h : (c.data.toList.drop n).take k = l) (h1 : l.drop r = 191 :: t) : decode c (n + r) = .ok (.athrow, 1) := by
  refine dz_fin ?_
  rw [Decoder.instr]
  refine (dz_b (dz_u1 (m := 191) (dz_at h h1) rfl)).trans ?_
  rfl
set_option maxRecDepth 20000 in
theorem dz_198 {c : ByteArray} {n k r : Nat} {l t : List UInt8} {a b : UInt8} {m : Int} (h : (c.data.toList.drop n).take k = l) (h1 : l.drop r = 198 :: a :: b :: t) (e : Reader.signed 16 (a.toNat * 256 + b.toNat) = m) : decode c (n + r) = .ok ((.ifnull m), 3) := by
  refine dz_fin ?_
  rw [Decoder.instr]
  refine (dz_b (dz_u1 (m := 198) (dz_at h h1) rfl)).trans ?_
  show ((((Reader.s2 : Decoder Int) >>= fun x => pure ((.ifnull x)) : Decoder Instr).run c).run (n + r + 1)) = _
  exact (dz_b (dz_s2 (dz_at (r := r + 1) h (dz_tl h1)) (dz_at (r := r + 1 + 1) h (dz_tl (dz_tl h1))) e)).trans rfl
set_option maxRecDepth 20000 in
theorem dz_199 {c : ByteArray} {n k r : Nat} {l t : List UInt8} {a b : UInt8} {m : Int} (h : (c.data.toList.drop n).take k = l) (h1 : l.drop r = 199 :: a :: b :: t) (e : Reader.signed 16 (a.toNat * 256 + b.toNat) = m) : decode c (n + r) = .ok ((.ifnonnull m), 3) := by
  refine dz_fin ?_
  rw [Decoder.instr]
  refine (dz_b (dz_u1 (m := 199) (dz_at h h1) rfl)).trans ?_
  show ((((Reader.s2 : Decoder Int) >>= fun x => pure ((.ifnonnull x)) : Decoder Instr).run c).run (n + r + 1)) = _
  exact (dz_b (dz_s2 (dz_at (r := r + 1) h (dz_tl h1)) (dz_at (r := r + 1 + 1) h (dz_tl (dz_tl h1))) e)).trans rfl
set_option maxRecDepth 20000 in
theorem dz_188_4 {c : ByteArray} {n k r : Nat} {l t : List UInt8} (h : (c.data.toList.drop n).take k = l) (h1 : l.drop r = 188 :: 4 :: t) : decode c (n + r) = .ok (.newarray .boolean, 2) := by
  refine dz_fin ?_
  rw [Decoder.instr]
  refine (dz_b (dz_u1 (m := 188) (dz_at h h1) rfl)).trans ?_
  show (((Decoder.newarray (n + r)).run c).run (n + r + 1)) = _
  rw [Decoder.newarray]
  exact (dz_b (dz_u1 (m := 4) (dz_at (r := r + 1) h (dz_tl h1)) rfl)).trans rfl
set_option maxRecDepth 20000 in
theorem dz_188_8 {c : ByteArray} {n k r : Nat} {l t : List UInt8} (h : (c.data.toList.drop n).take k = l) (h1 : l.drop r = 188 :: 8 :: t) : decode c (n + r) = .ok (.newarray .byte, 2) := by
  refine dz_fin ?_
  rw [Decoder.instr]
  refine (dz_b (dz_u1 (m := 188) (dz_at h h1) rfl)).trans ?_
  show (((Decoder.newarray (n + r)).run c).run (n + r + 1)) = _
  rw [Decoder.newarray]
  exact (dz_b (dz_u1 (m := 8) (dz_at (r := r + 1) h (dz_tl h1)) rfl)).trans rfl
set_option maxRecDepth 20000 in
theorem dz_188_10 {c : ByteArray} {n k r : Nat} {l t : List UInt8} (h : (c.data.toList.drop n).take k = l) (h1 : l.drop r = 188 :: 10 :: t) : decode c (n + r) = .ok (.newarray .int, 2) := by
  refine dz_fin ?_
  rw [Decoder.instr]
  refine (dz_b (dz_u1 (m := 188) (dz_at h h1) rfl)).trans ?_
  show (((Decoder.newarray (n + r)).run c).run (n + r + 1)) = _
  rw [Decoder.newarray]
  exact (dz_b (dz_u1 (m := 10) (dz_at (r := r + 1) h (dz_tl h1)) rfl)).trans rfl
set_option maxRecDepth 20000 in
theorem dz_188_11 {c : ByteArray} {n k r : Nat} {l t : List UInt8} (h : (c.data.toList.drop n).take k = l) (h1 : l.drop r = 188 :: 11 :: t) : decode c (n + r) = .ok (.newarray .long, 2) := by
  refine dz_fin ?_
  rw [Decoder.instr]
  refine (dz_b (dz_u1 (m := 188) (dz_at h h1) rfl)).trans ?_
  show (((Decoder.newarray (n + r)).run c).run (n + r + 1)) = _
  rw [Decoder.newarray]
  exact (dz_b (dz_u1 (m := 11) (dz_at (r := r + 1) h (dz_tl h1)) rfl)).trans rfl
