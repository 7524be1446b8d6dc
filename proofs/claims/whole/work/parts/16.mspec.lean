theorem cnt_b {f : Nat → Bool} {n : Nat} {b : Bool} (h : f n = b) : cnt f (n + 1) = cnt f n + b.toNat := by
  show cnt f n + (f n).toNat = _
  rw [h]
def cc2 (f g : Nat → Bool) : Nat → Nat
  | 0 => 0
  | n + 1 => cc2 f g n + ((f n).toNat + (g n).toNat)
theorem cc2_eq (f g : Nat → Bool) (n : Nat) : cc2 f g n = cnt f n + cnt g n := by
  induction n with
  | zero => rfl
  | succ n ih =>
    show cc2 f g n + ((f n).toNat + (g n).toNat) = (cnt f n + (f n).toNat) + (cnt g n + (g n).toNat)
    omega
theorem cc2_le (f g : Nat → Bool) (n : Nat) : cc2 f g n ≤ 2 * n := by
  rw [cc2_eq]
  have := cnt_le f n
  have := cnt_le g n
  omega
def cR (wn : Nat) (x0 x1 x2 x3 x4 x5 x6 x7 x8 : Int32) : Int32 := if wn = 0 then x0 else if wn = 1 then x1 else if wn = 2 then x2 else if wn = 3 then x3 else if wn = 4 then x4 else if wn = 5 then x5 else if wn = 6 then x6 else if wn = 7 then x7 else x8
