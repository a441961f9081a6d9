/-! how many bits are set -/
def bC0 (s : Nat) : Nat := s - ((s >>> 1) &&& 1431655765)
def bC1 (s : Nat) : Nat := (bC0 s &&& 858993459) + ((bC0 s >>> 2) &&& 858993459)
def bC2 (s : Nat) : Nat := (bC1 s + (bC1 s >>> 4)) &&& 252645135
def bC3 (s : Nat) : Nat := bC2 s + (bC2 s >>> 8)
def bC4 (s : Nat) : Nat := bC3 s + (bC3 s >>> 16)
def pcT (s : Nat) : Nat := s % 2 + s / 2 % 2 + s / 4 % 2 + s / 8 % 2 + s / 16 % 2 + s / 32 % 2 + s / 64 % 2 + s / 128 % 2 + s / 256 % 2 + s / 512 % 2 + s / 1024 % 2 + s / 2048 % 2 + s / 4096 % 2 + s / 8192 % 2 + s / 16384 % 2 + s / 32768 % 2
def bCt (s : Nat) : Bool := (Nat.ble ((s >>> 1) &&& 1431655765) s) && (Nat.blt (bC1 s) 65536) && (Nat.blt (bC2 s) 65536) && (Nat.blt (bC3 s) 65536) && (Nat.beq (bC4 s &&& 63) (pcT s))
def bCf : Nat → (Nat → Bool) → Bool
  | 0, f => f 0
  | n + 1, f => f (n + 1)
theorem bCf_ok (n : Nat) (f : Nat → Bool) : bCf n f = f n := by cases n <;> rfl
def pcR (s : Nat) : Nat := (Nat.add (Nat.add (Nat.add (Nat.add (Nat.add (Nat.add (Nat.add (Nat.add (Nat.add (Nat.add (Nat.add (Nat.add (Nat.add (Nat.add (Nat.add (Nat.mod s 2) (Nat.mod (Nat.div s 2) 2)) (Nat.mod (Nat.div s 4) 2)) (Nat.mod (Nat.div s 8) 2)) (Nat.mod (Nat.div s 16) 2)) (Nat.mod (Nat.div s 32) 2)) (Nat.mod (Nat.div s 64) 2)) (Nat.mod (Nat.div s 128) 2)) (Nat.mod (Nat.div s 256) 2)) (Nat.mod (Nat.div s 512) 2)) (Nat.mod (Nat.div s 1024) 2)) (Nat.mod (Nat.div s 2048) 2)) (Nat.mod (Nat.div s 4096) 2)) (Nat.mod (Nat.div s 8192) 2)) (Nat.mod (Nat.div s 16384) 2)) (Nat.mod (Nat.div s 32768) 2))
def bCu (s : Nat) : Bool := bCf (Nat.land (Nat.shiftRight s 1) 1431655765) fun x => Nat.ble x s && bCf (Nat.sub s x) fun y => bCf (Nat.add (Nat.land y 858993459) (Nat.land (Nat.shiftRight y 2) 858993459)) fun z => Nat.ble (Nat.succ z) 65536 && bCf (Nat.land (Nat.add z (Nat.shiftRight z 4)) 252645135) fun v => Nat.ble (Nat.succ v) 65536 && bCf (Nat.add v (Nat.shiftRight v 8)) fun w => Nat.ble (Nat.succ w) 65536 && Nat.beq (Nat.land (Nat.add w (Nat.shiftRight w 16)) 63) (pcR s)
theorem bCu_ok (s : Nat) : bCu s = bCt s := by
  have e : bCu s = (Nat.ble ((s >>> 1) &&& 1431655765) s && (Nat.blt (bC1 s) 65536 && (Nat.blt (bC2 s) 65536 && (Nat.blt (bC3 s) 65536 && Nat.beq (bC4 s &&& 63) (pcT s))))) := by
    simp only [bCu, bCf_ok]
    rfl
  rw [e, bCt]
  simp only [Bool.and_assoc]
def bCall : Nat → Nat → Bool
  | 0, _ => true
  | n + 1, a => bCf a fun a => bCu a && bCu (a + 1) && bCu (a + 2) && bCu (a + 3) && bCu (a + 4) && bCu (a + 5) && bCu (a + 6) && bCu (a + 7) && bCall n (a + 8)
theorem bCall_ok : ∀ n a, bCall n a = true → ∀ s, a ≤ s → s < a + 8 * n → bCt s = true := by
  intro n
  induction n with
  | zero => intro a _ s h1 h2; omega
  | succ n ih =>
    intro a h s h1 h2
    simp only [bCall, bCf_ok, bCu_ok, Bool.and_eq_true] at h
    by_cases h3 : s < a + 8
    · rcases (show s = a ∨ s = a + 1 ∨ s = a + 2 ∨ s = a + 3 ∨ s = a + 4 ∨ s = a + 5 ∨ s = a + 6 ∨ s = a + 7 by omega) with q | q | q | q | q | q | q | q <;> rw [q] <;> simp [h]
    · exact ih (a + 8) h.2 s (by omega) (by omega)
set_option maxRecDepth 100000 in
theorem bC_all : bCall 8192 0 = true := by decide +kernel
