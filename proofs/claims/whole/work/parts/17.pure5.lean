/-! the class's own words: men, clauses, sets; what binds, what keeps; the best of parts -/
abbrev okM (m : Int32) (n : Nat) : Prop := 0 ≤ m ∧ m < nI n
theorem okM_nat {m : Int32} {n : Nat} (h : okM m n) (hn : n < 2 ^ 31) : ∃ k, k < n ∧ m = nI k := by
  obtain ⟨k, hk, rfl⟩ := nI_of (x := m) (Int32.not_lt.mpr h.1)
  exact ⟨k, (nI_ltI hk hn).mp h.2, rfl⟩
theorem okM_of {k n : Nat} (h : k < n) (hn : n < 2 ^ 31) : okM (nI k) n := ⟨nI_pos' (by omega), nI_lt h hn⟩
def bdN (ink : Nat → Nat) (mn : Nat → Int32) (m : Int32) (da : Nat) : Nat := bbits (fun c => decide (da < ink c)) 8 &&& bbits (fun c => decide (mn c = m)) 8
theorem bdN_lt (ink : Nat → Nat) (mn : Nat → Int32) (m : Int32) (da : Nat) : bdN ink mn m da < 256 := Nat.lt_of_le_of_lt Nat.and_le_left (bbits_lt _ 8)
def kpN (cy Fs Ft : Nat → Nat) (tu bs : Nat) : Nat := skF Fs Ft bs tu (allS (cy 4)) (cy 5)
theorem kpN_lt {cy : Nat → Nat} (h : cy 4 ≤ 6) (Fs Ft : Nat → Nat) (tu bs : Nat) : kpN cy Fs Ft tu bs < 2 ^ 64 := Nat.lt_of_le_of_lt (skF_le _ _ _ _ _ _) (allS_lt h)
def inkS (ink : Nat → Nat) (bs : Nat) : Nat := fb_sm (fun c => if bs.testBit c then ink c else 0) 8
theorem inkS_le {ink : Nat → Nat} (h : ∀ c, ink c ≤ 40) (bs : Nat) : inkS ink bs ≤ 320 := by
  have : ∀ n, fb_sm (fun c => if bs.testBit c then ink c else 0) n ≤ n * 40 := by
    intro n
    induction n with
    | zero => simp [fb_sm]
    | succ n ih =>
      rw [fb_sm]
      have h1 : (if bs.testBit n then ink n else 0) ≤ 40 := by
        have := h n
        split <;> omega
      omega
  exact this 8
/-- the first of those that are right and cost least, from b on -/
def bestF (ok : Nat → Bool) (cost : Nat → Nat) (b : Nat) : Nat → Nat := foldN (fun p x => if ok p && decide (cost p < cost x) then p else x) b
theorem bestF_yes {ok : Nat → Bool} {cost : Nat → Nat} {b p : Nat} (h1 : ok p = true) (h2 : cost p < cost (bestF ok cost b p)) : bestF ok cost b (p + 1) = p := by
  show (if ok p && decide (cost p < cost (bestF ok cost b p)) then p else bestF ok cost b p) = p
  simp [h1, h2]
theorem bestF_no {ok : Nat → Bool} {cost : Nat → Nat} {b p : Nat} (h : ok p = false ∨ ¬ cost p < cost (bestF ok cost b p)) : bestF ok cost b (p + 1) = bestF ok cost b p := by
  show (if ok p && decide (cost p < cost (bestF ok cost b p)) then p else bestF ok cost b p) = bestF ok cost b p
  rcases h with h | h <;> simp [h]
theorem bestF_le {ok : Nat → Bool} {cost : Nat → Nat} {b : Nat} : ∀ {n : Nat}, n ≤ b + 1 → bestF ok cost b n ≤ b
  | 0, _ => Nat.le_refl _
  | n + 1, h => by
    show (if ok n && decide (cost n < cost (bestF ok cost b n)) then n else bestF ok cost b n) ≤ b
    have := bestF_le (ok := ok) (cost := cost) (b := b) (n := n) (by omega)
    split <;> omega
def pop8 (a : Nat) : Nat := cnt (fun k => a.testBit k) 8
def pop64 (a : Nat) : Nat := cnt (fun k => a.testBit k) 64
def optI : Option Nat → Int32
  | none => -2
  | some q => nI q
def askO (Lf : Nat → Nat) : Nat → Option Nat := foldN (fun k b => match b with
  | none => some k
  | some q => if Lf k < Lf q then some k else some q) none
theorem askO_0 {Lf : Nat → Nat} {k : Nat} (h : askO Lf k = none) : askO Lf (k + 1) = some k := by
  show (match askO Lf k with | none => some k | some q => if Lf k < Lf q then some k else some q) = some k
  rw [h]
theorem askO_1 {Lf : Nat → Nat} {k q : Nat} (h : askO Lf k = some q) (h2 : Lf k < Lf q) : askO Lf (k + 1) = some k := by
  show (match askO Lf k with | none => some k | some q => if Lf k < Lf q then some k else some q) = some k
  rw [h]; simp [h2]
theorem askO_2 {Lf : Nat → Nat} {k q : Nat} (h : askO Lf k = some q) (h2 : ¬ Lf k < Lf q) : askO Lf (k + 1) = some q := by
  show (match askO Lf k with | none => some k | some q => if Lf k < Lf q then some k else some q) = some q
  rw [h]; simp [h2]
theorem askO_lt {Lf : Nat → Nat} : ∀ {n q : Nat}, askO Lf n = some q → q < n
  | 0, _, h => by cases h
  | n + 1, q, h => by
    cases e : askO Lf n with
    | none => rw [askO_0 e] at h; cases h; omega
    | some r =>
      have hr := askO_lt e
      by_cases h2 : Lf n < Lf r
      · rw [askO_1 e h2] at h; cases h; omega
      · rw [askO_2 e h2] at h; cases h; omega
def lam (wt : Nat → Nat) (q : Nat) : Nat := max (cnt (fun s => decide (0 < wt s) && s.testBit q) 32) (cnt (fun s => decide (0 < wt s) && !s.testBit q) 32)
theorem lam_le (wt : Nat → Nat) (q : Nat) : lam wt q ≤ 32 := by
  have h1 := cnt_le (fun s => decide (0 < wt s) && s.testBit q) 32
  have h2 := cnt_le (fun s => decide (0 < wt s) && !s.testBit q) 32
  unfold lam
  omega
def fitN (wt : Nat → Nat) : Nat := bbits (fun s => decide (0 < wt s)) 32
theorem fitN_lt (wt : Nat → Nat) : fitN wt < 2 ^ 64 := Nat.lt_trans (bbits_lt _ 32) (by decide)
def askA (wt : Nat → Nat) (n : Nat) : Option Nat := if fitN wt = 0 then none else askO (lam wt) n
def chT (men : Nat) (ch : Int32) : Nat := if men = 0 then 1 else if 0 ≤ ch ∧ ch ≤ nI 9 then 0 else 2
def rwN (rain l a : Nat) : Nat := (100 - rain) ^ pop8 l * rain ^ (pop8 a - pop8 l)
theorem pop8_le (a : Nat) : pop8 a ≤ 8 := cnt_le _ 8
theorem pow6 {n : Nat} (h : n ≤ 6) : 2 ^ n < 2 ^ 31 := Nat.pow_lt_pow_right (by decide) (by omega)
