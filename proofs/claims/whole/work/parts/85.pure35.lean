/-! reading: lines -/
theorem tk_lt {en k p n : Nat} {v : Int64} (h : tkO en (k, p, n, v)) : k < 2 ^ 31 := Nat.lt_of_le_of_lt h.1 (by decide)
noncomputable def headF (tp : Nat → Int32) (en : Nat) (k : Tk) : Rx (Nat × Nat × Nat × Tk) :=
  sb (wdS tp en 6 k) fun k1 => sb (whS tp en 0 9 k1) fun x1 => sb (wdS tp en 7 x1.2) fun k2 => sb (whS tp en 0 100 k2) fun x2 => sb (wdS tp en 8 x2.2) fun k3 => sb (whS tp en 0 100 k3) fun x3 => .inr (x1.1, x2.1, x3.1, x3.2)
noncomputable def foP (rk : Nat) (rv : Int64) (i : Nat) : Bool := decide (rk = 1 ∧ rv = lN (pkS 27 (11 + i)))
noncomputable def foS (tp : Nat → Int32) (en : Nat) (k : Tk) : Rx (Nat × Tk) := match fst_ (foP k.1 k.2.2.2) 6 0 with
  | none => .inl (1, k.2.1)
  | some q => .inr (q, advK tp en k)
noncomputable def clauseF (tp : Nat → Int32) (en : Nat) (kwd : Nat → Int64) (c : Nat) (nm : Rnm) (k : Tk) : Rx (Rnm × Nat × Nat × Nat × Nat × Int32 × Tk) :=
  sb (nmS tp en kwd 3 c nm k) fun y => sb (wdS tp en 9 y.2) fun k1 => sb (pnS tp en kwd 1 0 y.1 k1) fun m => sb (wdS tp en 10 m.2) fun k2 => sb (whS tp en 1 40 k2) fun ik => sb (foS tp en ik.2) fun fo => sb (pnS tp en kwd 2 0 y.1 fo.2) fun a =>
    if fo.1 ≤ 1 then .inr (y.1, m.1, ik.1, fo.1, a.1, -2, a.2) else sb (pnS tp en kwd 2 (2 ^ a.1) y.1 a.2) fun b => .inr (y.1, m.1, ik.1, fo.1, a.1, nI b.1, b.2)
noncomputable def kbS (tp : Nat → Int32) (en : Nat) (k : Tk) : Rx (Bool × Tk) :=
  if k.1 = 1 ∧ k.2.2.2 = lN (pkS 27 18) then .inr (true, advK tp en k) else if k.1 = 1 ∧ k.2.2.2 = lN (pkS 27 19) then .inr (false, advK tp en k) else .inl (1, k.2.1)
noncomputable def dsF (tp : Nat → Int32) (en : Nat) (kwd : Nat → Int64) (nm : Rnm) : Nat → Nat → Tk → Rx (Nat × Tk)
  | 0, s, k => .inr (s, k)
  | n + 1, s, k => sb (pnS tp en kwd 2 s nm k) fun d => if d.2.1 = 4 then dsF tp en kwd nm n (s ||| 2 ^ d.1) (advK tp en d.2) else .inr (s ||| 2 ^ d.1, d.2)
noncomputable def setF (tp : Nat → Int32) (en : Nat) (kwd : Nat → Int64) (nm : Rnm) (k : Tk) : Rx (Nat × Tk) := if k.1 = 0 ∨ k.1 = 3 then .inr (0, k) else dsF tp en kwd nm 7 0 k
noncomputable def didF (tp : Nat → Int32) (en : Nat) (kwd : Nat → Int64) (nm : Rnm) (k : Tk) : Rx (Nat × Nat × Bool × Nat × Tk) :=
  sb (pnS tp en kwd 1 0 nm k) fun m => sb (wdS tp en 17 m.2) fun k1 => sb (whS tp en 0 40 k1) fun dy => sb (kbS tp en dy.2) fun kb => sb (setF tp en kwd nm kb.2) fun st => .inr (m.1, dy.1, kb.1, st.1, st.2)
theorem fo_ok {tp : Nat → Int32} {en q : Nat} {k k' : Tk} (h : fst_ (foP k.1 k.2.2.2) 6 0 = some q) (hA : advK tp en k = k') : foS tp en k = .inr (q, k') := by unfold foS; rw [h, hA]
theorem fo_no {tp : Nat → Int32} {en : Nat} {k : Tk} (h : fst_ (foP k.1 k.2.2.2) 6 0 = none) : foS tp en k = .inl (1, k.2.1) := by unfold foS; rw [h]
theorem kb_1 {tp : Nat → Int32} {en : Nat} {k k' : Tk} (h : decide (k.1 = 1 ∧ k.2.2.2 = lN (pkS 27 18)) = true) (hA : advK tp en k = k') : kbS tp en k = .inr (decide (k.1 = 1 ∧ k.2.2.2 = lN (pkS 27 18)), k') := by
  unfold kbS; rw [if_pos (of_decide_eq_true h), h, hA]
theorem kb_2 {tp : Nat → Int32} {en : Nat} {k k' : Tk} (h : decide (k.1 = 1 ∧ k.2.2.2 = lN (pkS 27 18)) = false) (h2 : decide (k.1 = 1 ∧ k.2.2.2 = lN (pkS 27 19)) = true) (hA : advK tp en k = k') : kbS tp en k = .inr (decide (k.1 = 1 ∧ k.2.2.2 = lN (pkS 27 18)), k') := by
  unfold kbS; rw [if_neg (of_decide_eq_false h), if_pos (of_decide_eq_true h2), h, hA]
theorem kb_0 {tp : Nat → Int32} {en : Nat} {k : Tk} (h : decide (k.1 = 1 ∧ k.2.2.2 = lN (pkS 27 18)) = false) (h2 : decide (k.1 = 1 ∧ k.2.2.2 = lN (pkS 27 19)) = false) : kbS tp en k = .inl (1, k.2.1) := by
  unfold kbS; rw [if_neg (of_decide_eq_false h), if_neg (of_decide_eq_false h2)]
theorem up_bd {f : Nat → Nat} {n x b : Nat} (h : ∀ i, i < n → f i ≤ b) (hx : x ≤ b) : ∀ i, i < n + 1 → upN f n x i ≤ b := by
  intro i hi
  unfold upN
  split
  · exact hx
  · exact h i (by omega)
theorem up_bl {f : Nat → Nat} {n x b : Nat} (h : ∀ i, i < n → f i < b) (hx : x < b) : ∀ i, i < n + 1 → upN f n x i < b := by
  intro i hi
  unfold upN
  split
  · exact hx
  · exact h i (by omega)
