/-! the reader: names, sorts of lines, what may stand here -/
def optJ : Option Nat → Int32
  | none => -1
  | some q => nI q
theorem fst_lt {p : Nat → Bool} : ∀ (m c q : Nat), fst_ p m c = some q → q < c + m ∧ p q = true
  | 0, _, _, h => by cases h
  | m + 1, c, q, h => by
    rw [fst_] at h
    by_cases hp : p c = true
    · rw [if_pos hp] at h; cases h; exact ⟨by omega, hp⟩
    · rw [if_neg hp] at h; have := fst_lt m (c + 1) q h; exact ⟨by omega, this.2⟩
theorem optJ_ne {o : Option Nat} {n : Nat} (h : ∀ q, o = some q → q < n) (hn : n ≤ 2 ^ 31) : optJ o = -1 ↔ o = none := by
  cases o with
  | none => exact ⟨fun _ => rfl, fun _ => rfl⟩
  | some q => exact ⟨fun e => (nm1 e (Nat.lt_of_lt_of_le (h q rfl) hn)).elim, fun e => by cases e⟩
def lsP (rk : Nat) (rv : Int64) (kwd : Nat → Int64) (s : Nat) : Bool := decide (rk = 1 ∧ rv = kwd s)
def fuB (cy : Nat → Nat) : Nat → Bool
  | 1 => decide (4 ≤ cy 3) | 2 => decide (6 ≤ cy 4) | 3 => decide (8 ≤ cy 5) | 4 => decide (5 ≤ cy 6) | _ => decide (6 ≤ cy 7)
abbrev Rq : Type := Tk × Nat × Int32
noncomputable def psF (tp : Nat → Int32) (en : Nat) (b : Bool) (s : Rq) : Bool × Rq := if b then (true, advF tp en s.1.2.2.1 s.1.2.2.2, s.2) else (false, s.1, 1, nI s.1.2.1)
noncomputable def pwF (tp : Nat → Int32) (en : Nat) (lo hi : Int32) (s : Rq) : Int32 × Rq :=
  if ¬ s.1.1 = 2 then (-1, s.1, 1, nI s.1.2.1)
  else if s.1.2.2.2 < lo.toInt64 ∨ hi.toInt64 < s.1.2.2.2 then (-1, s.1, 4, nI s.1.2.1)
  else (s.1.2.2.2.toInt32, advF tp en s.1.2.2.1 s.1.2.2.2, s.2)
