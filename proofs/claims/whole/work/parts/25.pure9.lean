/-! what was told, the weights; rain by draws -/
def toldB (cy Fs Ft dm dy ds : Nat → Nat) (dk : Nat → Bool) (ink : Nat → Nat) (mn : Nat → Int32) (tu i : Nat) : Bool := dk i == (skF Fs Ft (bbits (fun c => decide (dy i < ink c)) 8 &&& bbits (fun c => decide (mn c = nI (dm i))) 8) tu (allS (cy 4)) (cy 5)).testBit (ds i)
def wtF (cy Fs Ft dm dy ds : Nat → Nat) (dk : Nat → Bool) (ink : Nat → Nat) (mn : Nat → Int32) (uc : Nat → Nat) (s : Nat) : Nat := if s < 2 ^ cy 6 then wF (cy 1) (toldB cy Fs Ft dm dy ds dk ink mn (tbF uc s (cy 6))) (cy 7) else 0
theorem wtF_le {cy Fs Ft dm dy ds : Nat → Nat} {dk : Nat → Bool} {ink : Nat → Nat} {mn : Nat → Int32} {uc : Nat → Nat} (h1 : cy 1 ≤ 100) (h2 : cy 7 ≤ 6) (s : Nat) : wtF cy Fs Ft dm dy ds dk ink mn uc s ≤ 1000000000000 := by
  unfold wtF
  split
  · refine Nat.le_trans (wF_le h1 _ _) ?_
    have : (100 : Nat) ^ cy 7 ≤ 100 ^ 6 := Nat.pow_le_pow_right (by decide) h2
    omega
  · omega
theorem rainIt_s (rain k : Nat) (x : (Nat → Nat) × Nat) : rainIt rain (k + 1) x = rainQ rain (rainIt rain k x) := rfl
