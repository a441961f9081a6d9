/-! THE CLAIM OUT OF ONE WALK OF THE LAW'S BODY. Your part is whole_start (and what it stands on); all else here is the same for every law, but numbers. -/
def R_law : String := "SpinStripLaw"
def lw_P (b : Addr) (xs : List Int32) (args : Array Value) (s : State) : Prop := args = #[.ref b] ∧ s.IntsAt b xs ∧ xs.length ≤ 3072 ∧ (Jvm.Cond.and given_1 narrow_1).before args s = true
def lw_Q (_ : Array Value) (s : State) (o : Outcome) (t : State) : Prop := o = .returned (some (.int 1)) ∧ Framed s o t [] 600000 7302250
def lw_Z (below : List Frame) (a : Array Value) (s : State) : State → Prop := fun t => ∃ o, t.status = .running ∧ Ended t below o ∧ lw_Q a s o t
/-- the law's own end, with 1 on the stack, nothing written that was there before, its room as the claim has it -/
theorem lw_ret {p : Program} {l : Launch} {e : Env} {s : State} {m : MethodId} {below : List Frame} {meth : Method} {c : Code} {b : Nat} (hx : p.tables.exec = Jvm.exec) (hb : c.code = code) (hr : meth.sig.returnType = ret) (hlocks : meth.locks = false) {pc : Nat} {H : Heap} {ls : Array Slot} (hdg : decode code pc = .ok (.ireturn, 1)) : W p l e room_1 s m #[Value.ref b] below meth c H [] 600000 7302250 (lw_Z below #[Value.ref b] s) (F0 m pc ls [.int 1]) := by
  intro T hT X
  obtain ⟨fs, hret, hrun, hended, hW, hframe⟩ := X.leave (v := some (.int 1)) (hlocks := hlocks) (fun h => by rw [hr] at h; cases h)
  have hmeth' : T.vm.method? m = some meth := X.method'
  refine ⟨T.setFrames fs, ?_, .returned (some (.int 1)), hrun, hended, rfl, ⟨_, rfl⟩, hW, hframe⟩
  jvm_step X.here [X.here.top, hx, hb, hdg, hmeth', hr, ret, narrow_b1]
  (try refine ⟨rfl, ?_⟩); (try refine ⟨rfl, ?_⟩)
  first | (intro acts; rw [hret _ acts rfl rfl rfl]) | rw [hret _ _ rfl rfl rfl]
  exact Steps.refl _
/-- what holds at the law's entry: the machine, the code, the tables' words (any of lw_tbl by 'hts w (by decide +kernel)'), the script of L ints xs at the cell b, what the Statement gives of the start (any of its parts by flat_of_before) -/
def lw_At (p : Program) (s : State) (m : MethodId) (meth : Method) (c : Code) (b L : Nat) (xs : Nat → Int32) : Prop :=
  p.tables.exec = Jvm.exec ∧ c.code = code ∧ meth.sig.returnType = ret ∧ c.maxLocals = 4 ∧ s.vm.findClass R_law = some m.cls ∧ (∀ w ∈ lw_tbl, w.before #[Value.ref b] s = true) ∧ va_X b L xs s s.heap ∧ b < s.heap.size ∧ meth.locks = false ∧ (Jvm.Cond.and given_1 narrow_1).before #[Value.ref b] s = true
/-! the law's own rows -/
def XScr (G : XG) (b L : Nat) (xs : Nat → Int32) : Prop := va_X b L xs (gs G) (gs G).heap ∧ b < (gs G).heap.size ∧ ¬ xA (gB G) b ∧ ga G = #[Value.ref b] ∧ (gs G).heap.size = gB G + 1 ∧ gR G = room_1 ∧ gn G = 0 ∧ gz G = 0
def xsq (L : Nat) (xs : Nat → Int32) (i : Int32) : Option Int32 := if i < 0 ∨ L ≤ i.toNatClampNeg then none else some (xs i.toNatClampNeg)
theorem xsq_spec {L : Nat} {xs : Nat → Int32} {i v : Int32} (e : xsq L xs i = some v) : vp_in i L ∧ xs i.toNatClampNeg = v := by
  unfold xsq at e
  by_cases h : i < 0 ∨ L ≤ i.toNatClampNeg
  · rw [if_pos h] at e; cases e
  · rw [if_neg h] at e; exact ⟨h, Option.some.inj e⟩
def XEndL (G : XG) (b : Nat) (x : Int32 × XS) : Prop := x.1 = 1 ∧ XUp G x.2 ∧ gQ G = lw_Z (gb G) #[Value.ref b] (gs G)
section XLAW
variable {G : XG} {rt : Option FieldType} {nL fr lo pc : Nat} {lv : List (Nat × Value)} {st : List Value} {σ : XS} {b L : Nat} {xs : Nat → Int32}
theorem ww_slen (C : XC G cL_law RL rt nL fr lo) (hS : XScr G b L xs) (hd : decode cL_law pc = .ok (.arraylength, 1)) (k : WW G (pc + 1) lv (.int (Int32.ofNat L) :: st) σ) : WW G pc lv (.ref b :: st) σ := fun H locs ls hJ h => va_slen C.hx C.hb hS.1 hS.2.1 hS.2.2.1 hJ.2.1 hd (k H locs ls hJ h)
theorem ww_sld (C : XC G cL_law RL rt nL fr lo) (hS : XScr G b L xs) {i v : Int32} (e : xsq L xs i = some v) (hd : decode cL_law pc = .ok (.iaload, 1)) (k : WW G (pc + 1) lv (.int v :: st) σ) : WW G pc lv (.int i :: .ref b :: st) σ := fun H locs ls hJ h => by
  obtain ⟨hin, rfl⟩ := xsq_spec e
  exact va_sld C.hx C.hb hS.1 hS.2.1 hS.2.2.1 hJ.2.1 hin hd (k H locs ls hJ h)
theorem ww_lawret (C : XC G cL_law RL (some .boolean) nL fr lo) (hS : XScr G b L xs) {v : Int32} (hk : XEndL G b (v, σ)) (hd : decode cL_law pc = .ok (.ireturn, 1)) : WW G pc lv [.int v] σ := fun H locs ls hJ h => by
  obtain ⟨hv, hu, hQ⟩ := hk
  obtain ⟨-, -, -, ha, hz, hR, hn0, hz0⟩ := hS
  dsimp only at hv
  subst hv
  have hu := hJ.2.2.2
  rw [hR, hn0, hz0] at hu
  unfold gW
  rw [hQ, ha, hR, hn0, hz0]
  refine va_forget (fun q hq => ?_) ?_
  · have := hJ.2.1.2.2 q hq
    rw [hz]
    exact this
  refine W.widen (k := 600000) (n := 7302250) ?_ ?_ ?_
  · have h1 : xn σ ≤ 0 + 600000 := hu.1
    omega
  · have h1 : xz σ ≤ 0 + 7302250 := hu.2
    omega
  exact lw_ret C.hx C.hb C.hr C.hlk hd
end XLAW
