/-! the first best, if any -/
def bestO (ok : Nat → Bool) (lt : Nat → Nat → Bool) : Nat → Option Nat := foldN (fun p b => if ok p then (match b with
  | none => some p
  | some q => if lt p q then some p else some q) else b) none
theorem bestO_s (ok : Nat → Bool) (lt : Nat → Nat → Bool) (p : Nat) : bestO ok lt (p + 1) = if ok p then (match bestO ok lt p with
  | none => some p
  | some q => if lt p q then some p else some q) else bestO ok lt p := rfl
theorem bestO_no {ok : Nat → Bool} {lt : Nat → Nat → Bool} {p : Nat} {o : Option Nat} (e : o = bestO ok lt p) (h : ok p = false) : o = bestO ok lt (p + 1) := by rw [bestO_s, h, ← e]; simp
theorem bestO_0 {ok : Nat → Bool} {lt : Nat → Nat → Bool} {p : Nat} (e : none = bestO ok lt p) (h : ok p = true) : some p = bestO ok lt (p + 1) := by rw [bestO_s, h, ← e]; simp
theorem bestO_1 {ok : Nat → Bool} {lt : Nat → Nat → Bool} {p q : Nat} (e : some q = bestO ok lt p) (h : ok p = true) (h2 : lt p q = true) : some p = bestO ok lt (p + 1) := by rw [bestO_s, h, ← e]; simp [h2]
theorem bestO_2 {ok : Nat → Bool} {lt : Nat → Nat → Bool} {p q : Nat} (e : some q = bestO ok lt p) (h : ok p = true) (h2 : lt p q = false) : some q = bestO ok lt (p + 1) := by rw [bestO_s, h, ← e]; simp [h2]
theorem bestO_lt {ok : Nat → Bool} {lt : Nat → Nat → Bool} : ∀ {n q : Nat}, some q = bestO ok lt n → q < n
  | 0, _, h => by cases h
  | n + 1, q, h => by
    rw [bestO_s] at h
    split at h
    · cases e : bestO ok lt n with
      | none => rw [e] at h; cases h; omega
      | some r =>
        have hr := bestO_lt e.symm
        rw [e] at h
        simp only [] at h
        split at h <;> cases h <;> omega
    · exact Nat.lt_succ_of_lt (bestO_lt h)
theorem bestO_cong {ok ok' : Nat → Bool} {lt lt' : Nat → Nat → Bool} : ∀ {n : Nat}, (∀ k, k < n → ok k = ok' k) → (∀ p q, p < n → q < n → lt p q = lt' p q) → bestO ok lt n = bestO ok' lt' n
  | 0, _, _ => rfl
  | n + 1, h, h2 => by
    have ih := bestO_cong (n := n) (fun k hk => h k (by omega)) (fun p q hp hq => h2 p q (by omega) (by omega))
    rw [bestO_s, bestO_s, h n (by omega), ih]
    cases e : bestO ok' lt' n with
    | none => rfl
    | some r =>
      have hr := bestO_lt e.symm
      simp only [h2 n r (by omega) (by omega)]
theorem pop64_le (a : Nat) : pop64 a ≤ 64 := cnt_le _ 64
theorem and_lt {a b n : Nat} (h : b < n) : a &&& b < n := Nat.lt_of_le_of_lt Nat.and_le_right h
theorem two_le {c n : Nat} (h : c ≤ n) : 2 ^ c ≤ 2 ^ n := Nat.pow_le_pow_right (by decide) h
theorem or_256 {a c : Nat} (ha : a < 256) (hc : c < 8) : a ||| 2 ^ c < 256 := Nat.or_lt_two_pow (n := 8) ha (Nat.pow_lt_pow_right (by decide) hc)
theorem np1 {k : Nat} (h : nI k ≤ (-1)) (hk : k < 2 ^ 31) : False := by
  rw [Int32.le_iff_toInt_le, nI_toInt hk] at h
  have e : (-1 : Int32).toInt = -1 := by decide
  omega
theorem nm2 {k : Nat} (h : nI k = (-2)) (hk : k < 2 ^ 31) : False := by
  have h1 := congrArg Int32.toInt h
  rw [nI_toInt hk] at h1
  have e : (-2 : Int32).toInt = -2 := by decide
  omega
theorem nm1 {k : Nat} (h : nI k = (-1)) (hk : k < 2 ^ 31) : False := by
  have h1 := congrArg Int32.toInt h
  rw [nI_toInt hk] at h1
  have e : (-1 : Int32).toInt = -1 := by decide
  omega
def hvI (f : Nat → Nat) : Option Nat → Int32
  | none => -1
  | some q => nI (f q)
