/-! the pages of the past: three cells a page -/
abbrev Pv : Type := (Nat → Nat) × (Nat → Int32) × Nat × Nat
def sg (E : Et) (pa : Nat → Nat × Nat × Nat) (pk : Nat → Pv) : Nat → Nat → va_W
  | _, 0 => []
  | i, n + 1 => ob (pa i).1 2 [.ref (pa i).2.1, .ref (pa i).2.2, .int (nI (pk i).2.2.1), .int (nI (pk i).2.2.2)] :: aN E (pa i).2.1 8 (pk i).1 :: aI E (pa i).2.2 8 (pk i).2.1 :: sg E pa pk (i + 1) n
abbrev seg (E : Et) (pa : Nat → Nat × Nat × Nat) (n : Nat) (pk : Nat → Pv) : va_W := sg E pa pk 0 n
def upR (pk : Nat → Pv) (i : Nat) (v : Pv) : Nat → Pv := fun j => bif Nat.beq j i then v else pk j
theorem upR_x (pk : Nat → Pv) (i : Nat) (v : Pv) : ∃ f : Nat → Pv, f = upR pk i v := ⟨_, rfl⟩
noncomputable def upP (pk : Nat → Pv) (i : Nat) (v : Pv) : Nat → Pv := Classical.choose (upR_x pk i v)
theorem upP_e (pk : Nat → Pv) (i : Nat) (v : Pv) : upP pk i v = upR pk i v := Classical.choose_spec (upR_x pk i v)
section SEGS
variable {E : Et} {pa : Nat → Nat × Nat × Nat} {pk : Nat → Pv} {c0 c1 c2 c3 c4 : Nat × va_E} {i : Nat}
abbrev pgW (E : Et) (q : Nat × Nat × Nat) (v : Pv) : va_W := [ob q.1 2 [.ref q.2.1, .ref q.2.2, .int (nI v.2.2.1), .int (nI v.2.2.2)], aN E q.2.1 8 v.1, aI E q.2.2 8 v.2.1]
theorem lt16 (h : i < 16) : i = 0 ∨ i = 1 ∨ i = 2 ∨ i = 3 ∨ i = 4 ∨ i = 5 ∨ i = 6 ∨ i = 7 ∨ i = 8 ∨ i = 9 ∨ i = 10 ∨ i = 11 ∨ i = 12 ∨ i = 13 ∨ i = 14 ∨ i = 15 := by omega
theorem lt3 (h : i < 3) : i = 0 ∨ i = 1 ∨ i = 2 := by omega
theorem nd5 (i : Nat) : va_nd [5 + 3 * i, 5 + 3 * i + 1, 5 + 3 * i + 2, 2, 3, 4] = true := by
  simp [va_nd]; omega
theorem nd5' (i : Nat) : va_nd [2, 3, 4, 5 + 3 * i, 5 + 3 * i + 1, 5 + 3 * i + 2] = true := by
  simp [va_nd]; omega
theorem sgA16 (h : i < 16) : [5 + 3 * i, 5 + 3 * i + 1, 5 + 3 * i + 2, 2, 3, 4].map (fun k => (([c0, c1, c2, c3, c4] : va_W) ++ seg E pa 16 pk)[k]?) = (pgW E (pa i) (pk i) ++ [c2, c3, c4]).map some := by
  rcases lt16 h with rfl | rfl | rfl | rfl | rfl | rfl | rfl | rfl | rfl | rfl | rfl | rfl | rfl | rfl | rfl | rfl <;> rfl
theorem sgA3 (h : i < 3) : [5 + 3 * i, 5 + 3 * i + 1, 5 + 3 * i + 2, 2, 3, 4].map (fun k => (([c0, c1, c2, c3, c4] : va_W) ++ seg E pa 3 pk)[k]?) = (pgW E (pa i) (pk i) ++ [c2, c3, c4]).map some := by
  rcases lt3 h with rfl | rfl | rfl <;> rfl
theorem sgB16 (h : i < 16) : [2, 3, 4, 5 + 3 * i, 5 + 3 * i + 1, 5 + 3 * i + 2].map (fun k => (([c0, c1, c2, c3, c4] : va_W) ++ seg E pa 16 pk)[k]?) = ([c2, c3, c4] ++ pgW E (pa i) (pk i)).map some := by
  rcases lt16 h with rfl | rfl | rfl | rfl | rfl | rfl | rfl | rfl | rfl | rfl | rfl | rfl | rfl | rfl | rfl | rfl <;> rfl
theorem sgB3 (h : i < 3) : [2, 3, 4, 5 + 3 * i, 5 + 3 * i + 1, 5 + 3 * i + 2].map (fun k => (([c0, c1, c2, c3, c4] : va_W) ++ seg E pa 3 pk)[k]?) = ([c2, c3, c4] ++ pgW E (pa i) (pk i)).map some := by
  rcases lt3 h with rfl | rfl | rfl <;> rfl
theorem sgP16 (h : i < 16) (v : Pv) : wput (([c0, c1, c2, c3, c4] : va_W) ++ seg E pa 16 pk) [5 + 3 * i, 5 + 3 * i + 1, 5 + 3 * i + 2, 2, 3, 4] (pgW E (pa i) v ++ [c2, c3, c4]) = ([c0, c1, c2, c3, c4] : va_W) ++ seg E pa 16 (upP pk i v) := by
  rw [upP_e]
  rcases lt16 h with rfl | rfl | rfl | rfl | rfl | rfl | rfl | rfl | rfl | rfl | rfl | rfl | rfl | rfl | rfl | rfl <;> rfl
theorem sgP3 (h : i < 3) (v : Pv) : wput (([c0, c1, c2, c3, c4] : va_W) ++ seg E pa 3 pk) [5 + 3 * i, 5 + 3 * i + 1, 5 + 3 * i + 2, 2, 3, 4] (pgW E (pa i) v ++ [c2, c3, c4]) = ([c0, c1, c2, c3, c4] : va_W) ++ seg E pa 3 (upP pk i v) := by
  rw [upP_e]
  rcases lt3 h with rfl | rfl | rfl <;> rfl
theorem sgQ16 {x2 x3 x4 : Nat × va_E} (h : i < 16) : wput (([c0, c1, c2, c3, c4] : va_W) ++ seg E pa 16 pk) [2, 3, 4, 5 + 3 * i, 5 + 3 * i + 1, 5 + 3 * i + 2] ([x2, x3, x4] ++ pgW E (pa i) (pk i)) = ([c0, c1, x2, x3, x4] : va_W) ++ seg E pa 16 pk := by
  rcases lt16 h with rfl | rfl | rfl | rfl | rfl | rfl | rfl | rfl | rfl | rfl | rfl | rfl | rfl | rfl | rfl | rfl <;> rfl
theorem sgQ3 {x2 x3 x4 : Nat × va_E} (h : i < 3) : wput (([c0, c1, c2, c3, c4] : va_W) ++ seg E pa 3 pk) [2, 3, 4, 5 + 3 * i, 5 + 3 * i + 1, 5 + 3 * i + 2] ([x2, x3, x4] ++ pgW E (pa i) (pk i)) = ([c0, c1, x2, x3, x4] : va_W) ++ seg E pa 3 pk := by
  rcases lt3 h with rfl | rfl | rfl <;> rfl
end SEGS
def kaA (ac : Nat) : Nat := if ac < 16 then ac + 1 else ac
def kaO (ac o : Nat) : Nat := if ac < 16 then o else (o + 1) % 16
theorem kaA_le {ac : Nat} (h : ac ≤ 16) : kaA ac ≤ 16 := by unfold kaA; split <;> omega
theorem kaO_lt {ac o : Nat} (h : o < 16) : kaO ac o < 16 := by unfold kaO; split <;> omega
/-! the tape -/
def byt (a s : Int32) : Int32 := vp_nar .byte ((a.toUInt32 >>> (s.toUInt32 &&& Int32.toUInt32 31)).toInt32).toInt8.toInt32
def tk4 (tp : Nat → Int32) (f : Nat) (a : Int32) : Nat → Int32 := upd (upd (upd (upd tp f (byt a (nI 24))) (f + 1) (byt a (nI 16))) (f + 1 + 1) (byt a (nI 8))) (f + 1 + 1 + 1) (byt a (nI 0))
/-! rain by draws: the first day on which he is free -/
noncomputable def frP (cy Fs Ft ink : Nat → Nat) (mn : Nat → Int32) (t sd : Nat) (m : Int32) (i : Nat) : Bool := decide (¬ kpN cy Fs Ft t (bdN (rainIt (cy 2) i (ink, sd)).1 mn m 0) = 0)
theorem frP_e {cy Fs Ft ink vg : Nat → Nat} {mn : Nat → Int32} {t sd vs i : Nat} {m : Int32} (hb : (vg, vs) = rainIt (cy 2) i (ink, sd)) : frP cy Fs Ft ink mn t sd m i = decide (¬ kpN cy Fs Ft t (bdN vg mn m 0) = 0) := by unfold frP; rw [← hb]
def szV (cy : Nat → Nat) (dd ac im fd : Nat) : Nat → Nat
  | 0 => cy 0 | 1 => cy 1 | 2 => cy 2 | 3 => cy 3 | 4 => cy 4 | 5 => cy 5 | 6 => cy 6 | 7 => cy 7
  | 8 => dd | 9 => ac | 10 => im | _ => fd
