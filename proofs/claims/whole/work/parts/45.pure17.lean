/-! the reference: bits -/
theorem low8 : ∀ a, a < 256 → a ≠ 0 → cnt (fun k => (a &&& (a - 1)).testBit k) 8 + 1 = cnt (fun k => a.testBit k) 8 := by decide +kernel
theorem cnt8_0 : cnt (fun k => (0 : Nat).testBit k) 8 = 0 := by decide
