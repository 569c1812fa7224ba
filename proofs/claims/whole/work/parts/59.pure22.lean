/-! the reference: others' clauses -/
theorem oth_e {ink : Nat → Nat} {mn : Nat → Int32} {m : Int32} {c : Nat} : (ndf (bbits (fun c => decide (0 < ink c)) 8) (bdN ink mn m 0)).testBit c = (ndf (bbits (fun c => decide (0 < ink c)) 8) (bbits (fun c => decide (mn c = m)) 8)).testBit c := by
  rw [ndf_tb, ndf_tb, bdN, Nat.testBit_and]
  cases (bbits (fun c => decide (0 < ink c)) 8).testBit c <;> simp
theorem ng1 {a : Nat} (h : nI a < (-1 : Int32)) (ha : a < 2 ^ 31) : False := by
  have h0 : (0 : Int32) ≤ nI a := nI_pos' ha
  exact absurd (Int32.lt_of_le_of_lt h0 h) (by decide)
