/-! the reference: merchant and clause -/
theorem gain_o (ch : Nat) (s r : Bool) : gainI 0 s r true = gainI ch s r true := by cases s <;> cases r <;> simp [gainI]
theorem rest_v {pa : Nat} (h : pa < 4) : nI (10 * (pa / 2) + pa % 2) = restV (some pa) := by
  obtain rfl | rfl | rfl | rfl : pa = 0 ∨ pa = 1 ∨ pa = 2 ∨ pa = 3 := by omega
  all_goals decide
