/-! the reference: the sums as the class has them -/
theorem fo_e {cy Fs Ft : Nat → Nat} {t p B x : Nat} : (if ndf p B = 0 then x * (fun p => if kpN cy Fs Ft t p = 0 then 0 else 1) p else 0) = if decide (¬ kpN cy Fs Ft t p = 0) && decide (ndf p B = 0) then x * 1 else 0 := by
  show (if ndf p B = 0 then x * (if kpN cy Fs Ft t p = 0 then 0 else 1) else 0) = _
  by_cases h1 : ndf p B = 0 <;> by_cases h2 : kpN cy Fs Ft t p = 0 <;> simp [h1, h2]
theorem me_e {p B x y : Nat} : (if ndf p B = 0 then x * y else 0) = if true && decide (ndf p B = 0) then x * y else 0 := by
  by_cases h1 : ndf p B = 0 <;> simp [h1]
