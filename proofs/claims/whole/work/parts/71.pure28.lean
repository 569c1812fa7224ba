/-! the reference: asking, judging -/
theorem askA_0 {wt : Nat → Nat} {n : Nat} (h : fitN wt = 0) : askA wt n = none := by unfold askA; rw [if_pos h]
theorem tbF_00 (un : Nat → Nat) : ∀ n, tbF un 0 n = 0
  | 0 => rfl
  | n + 1 => by rw [tbF, if_neg (by rw [Nat.zero_testBit]; decide), tbF_00 un n]
