/-! the reference's names beside the class's -/
def NR (nm : Rnm) (nc : Nat) (na : Nat → Int64) (ns nu : Nat → Nat) : Prop := nc = nm.1 ∧ ∀ i, i < nm.1 → ns i + 1 = nm.2.2.1 i ∧ nu i = nm.2.2.2 i ∧ ∃ v, v < 27 ^ 8 ∧ nm.2.1 i = lN v ∧ na i = lN (cvN 8 v)
theorem fst_cg {p q : Nat → Bool} : ∀ (m c : Nat), (∀ i, c ≤ i → i < c + m → p i = q i) → fst_ p m c = fst_ q m c
  | 0, _, _ => rfl
  | m + 1, c, h => by rw [fst_, fst_, h c (Nat.le_refl _) (by omega), fst_cg m (c + 1) (fun i h1 h2 => h i (by omega) (by omega))]
noncomputable def knS (kwd : Nat → Int64) (so : Nat) (nm : Rnm) (k : Tk) : Rx Nat :=
  if k.1 = 1 ∧ fst_ (lsP k.1 k.2.2.2 kwd) 6 0 = none then
    match fst_ (fun i => decide (nm.2.1 i = k.2.2.2)) nm.1 0 with
    | none => .inl (2, k.2.1)
    | some q => if nm.2.2.1 q = so then .inr (nm.2.2.2 q) else .inl (2, k.2.1)
  else .inl (1, k.2.1)
theorem pn_kn {tp : Nat → Int32} {en : Nat} {kwd : Nat → Int64} {so us : Nat} {nm : Rnm} {k : Tk} : pnS tp en kwd so us nm k = sb (knS kwd so nm k) (fun x => if us.testBit x then .inl (3, k.2.1) else .inr (x, advK tp en k)) := by
  unfold pnS knS
  by_cases h : k.1 = 1 ∧ fst_ (lsP k.1 k.2.2.2 kwd) 6 0 = none
  · rw [if_pos h, if_pos h]
    cases fst_ (fun i => decide (nm.2.1 i = k.2.2.2)) nm.1 0 with
    | none => rfl
    | some q =>
      show (if nm.2.2.1 q = so then _ else _) = sb (if nm.2.2.1 q = so then _ else _) _
      by_cases h2 : nm.2.2.1 q = so
      · rw [if_pos h2, if_pos h2]; rfl
      · rw [if_neg h2, if_neg h2]; rfl
  · rw [if_neg h, if_neg h]; rfl
section KN
variable {k : Tk} {so8 so pl sp nc q : Nat} {wd : Int64} {nb : Int32} {kwd : Nat → Int64} {nm : Rnm} {na : Nat → Int64} {ns nu : Nat → Nat}
theorem nr_f (h : T8 k so pl sp wd nb) (hn : NR nm nc na ns nu) (hk : k.1 = 1) : fst_ (fun i => decide (na i = wd)) nc 0 = fst_ (fun i => decide (nm.2.1 i = k.2.2.2)) nm.1 0 := by
  rw [hn.1]
  refine fst_cg _ _ (fun i _ hi => ?_)
  obtain ⟨-, -, v, a1, a2, a3⟩ := hn.2 i (by omega)
  obtain ⟨-, h⟩ := h
  have hx : ∃ w, w < 27 ^ 8 ∧ k.2.2.2 = lN w ∧ wd = lN (cvN 8 w) := by
    rcases h with h | h | h | h | h | h
    · omega
    · exact h.2.2.2
    · omega
    · omega
    · omega
    · omega
  obtain ⟨w, b1, b2, b3⟩ := hx
  show decide (na i = wd) = decide (nm.2.1 i = k.2.2.2)
  rw [a2, a3, b2, b3]
  have e1 := lN_inj (a := cvN 8 v) (b := cvN 8 w) (cv_8 _) (cv_8 _)
  have e2 := lN_inj (a := v) (b := w) (Nat.lt_trans a1 (by decide)) (Nat.lt_trans b1 (by decide))
  by_cases z : v = w
  · rw [z, decide_eq_true rfl, decide_eq_true rfl]
  · rw [decide_eq_false (fun y => z (cv_inj 8 v w a1 b1 (e1.mp y))), decide_eq_false (fun y => z (e2.mp y))]
theorem kn_1 (h : ¬ (k.1 = 1 ∧ fst_ (lsP k.1 k.2.2.2 kwd) 6 0 = none)) : knS kwd so nm k = .inl (1, k.2.1) := if_neg h
theorem kn_2 (h : k.1 = 1 ∧ fst_ (lsP k.1 k.2.2.2 kwd) 6 0 = none) (h2 : fst_ (fun i => decide (nm.2.1 i = k.2.2.2)) nm.1 0 = none) : knS kwd so nm k = .inl (2, k.2.1) := by unfold knS; rw [if_pos h, h2]
theorem kn_3 (h : k.1 = 1 ∧ fst_ (lsP k.1 k.2.2.2 kwd) 6 0 = none) (h2 : fst_ (fun i => decide (nm.2.1 i = k.2.2.2)) nm.1 0 = some q) (h3 : ¬ nm.2.2.1 q = so) : knS kwd so nm k = .inl (2, k.2.1) := by unfold knS; rw [if_pos h, h2]; exact if_neg h3
theorem kn_0 (h : k.1 = 1 ∧ fst_ (lsP k.1 k.2.2.2 kwd) 6 0 = none) (h2 : fst_ (fun i => decide (nm.2.1 i = k.2.2.2)) nm.1 0 = some q) (h3 : nm.2.2.1 q = so) : knS kwd so nm k = .inr (nm.2.2.2 q) := by unfold knS; rw [if_pos h, h2]; exact if_pos h3
end KN
