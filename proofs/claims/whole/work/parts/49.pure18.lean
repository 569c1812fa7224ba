/-! the reference's state in one row of 25 -/
def xF (mn : Nat → Int32) (ink : Nat → Nat) (t dd : Nat) : Nat → Int32 := fun j => if j < 8 then mn j else if j < 16 then nI (ink (j - 8)) else if j < 24 then nI (t.testBit (j - 16)).toNat else nI dd
section XF
variable {mn : Nat → Int32} {ink : Nat → Nat} {t dd c : Nat}
theorem xF_m (h : c < 8) : xF mn ink t dd c = mn c := if_pos h
theorem xF_i (h : c < 8) : xF mn ink t dd (8 + c) = nI (ink c) := by
  unfold xF
  rw [if_neg (by omega), if_pos (by omega), Nat.add_sub_cancel_left]
theorem xF_t (h : c < 8) : xF mn ink t dd (16 + c) = nI (t.testBit c).toNat := by
  unfold xF
  rw [if_neg (by omega), if_neg (by omega), if_pos (by omega), Nat.add_sub_cancel_left]
end XF
