/-! the first place, numbers behind checks -/
abbrev tn (x : Int32) : Nat := x.toNatClampNeg
theorem tn_n {k : Nat} (h : k < 2 ^ 31) : tn (nI k) = k := nI_clamp h
def fst_ (p : Nat → Bool) : Nat → Nat → Option Nat
  | 0, _ => none
  | m + 1, c => if p c then some c else fst_ p m (c + 1)
theorem fst_no {p : Nat → Bool} {m c : Nat} (hm : c < m) (h : p c = false) : fst_ p (m - c) c = fst_ p (m - (c + 1)) (c + 1) := by
  rw [show m - c = (m - (c + 1)) + 1 by omega, fst_]; simp [h]
theorem fst_hit {p : Nat → Bool} {m c : Nat} (hm : c < m) (h : p c = true) : fst_ p (m - c) c = some c := by
  rw [show m - c = (m - (c + 1)) + 1 by omega, fst_]; simp [h]
theorem fst_cong {p q : Nat → Bool} : ∀ (m c : Nat), (∀ k, c ≤ k → k < c + m → p k = q k) → fst_ p m c = fst_ q m c
  | 0, _, _ => rfl
  | m + 1, c, h => by rw [fst_, fst_, h c (Nat.le_refl c) (by omega), fst_cong m (c + 1) (fun k h1 h2 => h k (by omega) (by omega))]
theorem ahead_nat {n : Int32} {b : Nat} (h : 0 ≤ n ∧ n ≤ nI b) (hb : b < 2 ^ 31) : ∃ k, k ≤ b ∧ n = nI k := by
  obtain ⟨k, hk, rfl⟩ := nI_of (x := n) (Int32.not_lt.mpr h.1)
  exact ⟨k, (nI_leI hk hb).mp h.2, rfl⟩
theorem chT_0 {men : Nat} {ch : Int32} (h : chT men ch = 0) : ¬ men = 0 ∧ ∃ k, k ≤ 9 ∧ ch = nI k := by
  unfold chT at h
  split at h
  · cases h
  · split at h
    · rename_i h1 h2
      exact ⟨h1, ahead_nat h2 (by decide)⟩
    · cases h
theorem chT_le (men : Nat) (ch : Int32) : chT men ch ≤ 2 := by
  unfold chT
  split
  · omega
  · split <;> omega
def clV (f0 f1 : Nat → Nat) (f2 mn : Nat → Int32) (ink f4 : Nat → Nat) (t c w : Nat) : Int32 := match w with
  | 0 => nI (f0 c)
  | 1 => nI (f1 c)
  | 2 => f2 c
  | 3 => mn c
  | 4 => nI (ink c)
  | 5 => nI (t.testBit c).toNat
  | _ => nI (f4 c)
theorem tb_and1 (t c : Nat) : t / 2 ^ c &&& 1 = (t.testBit c).toNat := by rw [Nat.and_one_is_mod, tb_div]
def maV (ink : Nat → Nat) (mn : Nat → Int32) (m : Int32) (w : Nat) : Int32 := match w with
  | 0 => nI (bbits (fun c => decide (mn c = m)) 8)
  | 1 => nI (bdN ink mn m 0)
  | _ => nI (inkS ink (bdN ink mn m 0))
def restV (o : Option Nat) : Int32 := match o with
  | none => -2
  | some pa => nI ((if 2 ≤ pa then 10 else 0) + (if ¬ pa &&& 1 = 0 then 1 else 0))
def ww (wt : Nat → Nat) (tu : Nat) : Nat := fb_sm (fun s => if s &&& tu = tu then wt s else 0) 32
theorem ww_le {wt : Nat → Nat} (h : ∀ s, wt s ≤ 1000000000000) (tu : Nat) : ww wt tu < 2 ^ 63 := by
  have : ∀ n, fb_sm (fun s => if s &&& tu = tu then wt s else 0) n ≤ n * 1000000000000 := by
    intro n
    induction n with
    | zero => simp [fb_sm]
    | succ n ih =>
      rw [fb_sm]
      have h1 : (if n &&& tu = tu then wt n else 0) ≤ 1000000000000 := by
        have := h n
        split <;> omega
      omega
  have := this 32
  unfold ww
  omega
theorem wt62 {wt : Nat → Nat} (h : ∀ s, wt s ≤ 1000000000000) : ∀ s, wt s < 2 ^ 62 := fun s => Nat.lt_of_le_of_lt (h s) (by decide)
theorem optI_ne {q : Nat} (h : q < 2 ^ 31) : ¬ optI (some q) = (-2) := fun e => nm2 e h
theorem cy0 {n : Nat} (h : ¬ n = 0) : decide (n = 0) = false := decide_eq_false h
theorem askA_lt {wt : Nat → Nat} {n q : Nat} (h : askA wt n = some q) : q < n := by
  unfold askA at h
  split at h
  · cases h
  · exact askO_lt h
theorem askA_s0 {wt : Nat → Nat} {k : Nat} {o : Option Nat} (h : o = askA wt k) (hf : fitN wt = 0) : o = askA wt (k + 1) := by
  rw [h]; unfold askA; rw [if_pos hf, if_pos hf]
theorem askA_s1 {wt : Nat → Nat} {k : Nat} (h : none = askA wt k) (hf : ¬ fitN wt = 0) : some k = askA wt (k + 1) := by
  unfold askA at *; rw [if_neg hf] at *; exact (askO_0 h.symm).symm
theorem askA_s2 {wt : Nat → Nat} {k q : Nat} (h : some q = askA wt k) (hf : ¬ fitN wt = 0) (h2 : lam wt k < lam wt q) : some k = askA wt (k + 1) := by
  unfold askA at *; rw [if_neg hf] at *; exact (askO_1 h.symm h2).symm
theorem askA_s3 {wt : Nat → Nat} {k q : Nat} (h : some q = askA wt k) (hf : ¬ fitN wt = 0) (h2 : ¬ lam wt k < lam wt q) : some q = askA wt (k + 1) := by
  unfold askA at *; rw [if_neg hf] at *; exact (askO_2 h.symm h2).symm
/-- together: the first with most bits -/
theorem bestF_swap : True := trivial
def togF (ok : Nat → Bool) : Nat → Nat := foldN (fun p x => if ok p && decide (pop8 x < pop8 p) then p else x) 0
theorem togF_yes {ok : Nat → Bool} {p : Nat} (h1 : ok p = true) (h2 : pop8 (togF ok p) < pop8 p) : togF ok (p + 1) = p := by
  show (if ok p && decide (pop8 (togF ok p) < pop8 p) then p else togF ok p) = p
  simp [h1, h2]
theorem togF_no {ok : Nat → Bool} {p : Nat} (h : ok p = false ∨ ¬ pop8 (togF ok p) < pop8 p) : togF ok (p + 1) = togF ok p := by
  show (if ok p && decide (pop8 (togF ok p) < pop8 p) then p else togF ok p) = togF ok p
  rcases h with h | h <;> simp [h]
theorem togF_le {ok : Nat → Bool} : ∀ {n : Nat}, togF ok n ≤ n
  | 0 => Nat.le_refl _
  | n + 1 => by
    show (if ok n && decide (pop8 (togF ok n) < pop8 n) then n else togF ok n) ≤ n + 1
    have := togF_le (ok := ok) (n := n)
    split <;> omega
def mbF (f : Nat → Nat) : Nat → Nat := foldN (fun m b => if f m < f b then m else b) 0
theorem mbF_yes {f : Nat → Nat} {m : Nat} (h : f m < f (mbF f m)) : mbF f (m + 1) = m := by show (if f m < f (mbF f m) then m else mbF f m) = m; simp [h]
theorem mbF_no {f : Nat → Nat} {m : Nat} (h : ¬ f m < f (mbF f m)) : mbF f (m + 1) = mbF f m := by show (if f m < f (mbF f m) then m else mbF f m) = mbF f m; simp [h]
theorem mbF_1 (f : Nat → Nat) : mbF f 1 = 0 := by show (if f 0 < f 0 then 0 else 0) = 0; simp
def alV (f : Nat → Nat) : Option Nat → Int32
  | none => -2
  | some q => nI (f q)
