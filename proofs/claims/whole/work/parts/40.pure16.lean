/-! names told, names passed -/
abbrev Rnm : Type := Nat × (Nat → Int64) × (Nat → Nat) × (Nat → Nat)
def nmP (rv : Int64) (nms : Nat → Int64) (i : Nat) : Bool := decide (nms i = rv)
noncomputable def tnF (tp : Nat → Int32) (en : Nat) (kwd : Nat → Int64) (so nu : Nat) (s : Rq) (w : Rnm) : Bool × Rq × Rnm :=
  if s.1.1 = 1 ∧ fst_ (lsP s.1.1 s.1.2.2.2 kwd) 6 0 = none then
    if fst_ (fun i => decide (w.2.1 i = s.1.2.2.2)) w.1 0 = none ∧ w.1 < 18 then (true, (advF tp en s.1.2.2.1 s.1.2.2.2, s.2), (w.1 + 1, vp_updL w.2.1 w.1 s.1.2.2.2, upN w.2.2.1 w.1 so, upN w.2.2.2 w.1 nu))
    else (false, (s.1, 3, nI s.1.2.1), w)
  else (false, (s.1, 1, nI s.1.2.1), w)
noncomputable def pnF (tp : Nat → Int32) (en : Nat) (kwd : Nat → Int64) (so us : Nat) (s : Rq) (w : Rnm) : Int32 × Rq :=
  if s.1.1 = 1 ∧ fst_ (lsP s.1.1 s.1.2.2.2 kwd) 6 0 = none then
    match fst_ (fun i => decide (w.2.1 i = s.1.2.2.2)) w.1 0 with
    | none => (-1, s.1, 2, nI s.1.2.1)
    | some q => if w.2.2.1 q = so then (if us.testBit (w.2.2.2 q) then (-1, s.1, 3, nI s.1.2.1) else (nI (w.2.2.2 q), advF tp en s.1.2.2.1 s.1.2.2.2, s.2)) else (-1, s.1, 2, nI s.1.2.1)
  else (-1, s.1, 1, nI s.1.2.1)
section NM
variable {tp : Nat → Int32} {en : Nat} {kwd : Nat → Int64} {so nu us : Nat} {s : Rq} {w : Rnm} {q : Nat}
theorem tn_no (h : ¬ (s.1.1 = 1 ∧ fst_ (lsP s.1.1 s.1.2.2.2 kwd) 6 0 = none)) : tnF tp en kwd so nu s w = (false, (s.1, 1, nI s.1.2.1), w) := by rw [tnF, if_neg h]
theorem tn_ag (h : s.1.1 = 1 ∧ fst_ (lsP s.1.1 s.1.2.2.2 kwd) 6 0 = none) (h2 : ¬ (fst_ (fun i => decide (w.2.1 i = s.1.2.2.2)) w.1 0 = none ∧ w.1 < 18)) : tnF tp en kwd so nu s w = (false, (s.1, 3, nI s.1.2.1), w) := by rw [tnF, if_pos h, if_neg h2]
theorem tn_ok (h : s.1.1 = 1 ∧ fst_ (lsP s.1.1 s.1.2.2.2 kwd) 6 0 = none) (h2 : fst_ (fun i => decide (w.2.1 i = s.1.2.2.2)) w.1 0 = none ∧ w.1 < 18) : tnF tp en kwd so nu s w = (true, (advF tp en s.1.2.2.1 s.1.2.2.2, s.2), (w.1 + 1, vp_updL w.2.1 w.1 s.1.2.2.2, upN w.2.2.1 w.1 so, upN w.2.2.2 w.1 nu)) := by rw [tnF, if_pos h, if_pos h2]
theorem pn_no (h : ¬ (s.1.1 = 1 ∧ fst_ (lsP s.1.1 s.1.2.2.2 kwd) 6 0 = none)) : pnF tp en kwd so us s w = (-1, s.1, 1, nI s.1.2.1) := by rw [pnF, if_neg h]
theorem pn_un (h : s.1.1 = 1 ∧ fst_ (lsP s.1.1 s.1.2.2.2 kwd) 6 0 = none) (h2 : fst_ (fun i => decide (w.2.1 i = s.1.2.2.2)) w.1 0 = none) : pnF tp en kwd so us s w = (-1, s.1, 2, nI s.1.2.1) := by rw [pnF, if_pos h, h2]
theorem pn_so (h : s.1.1 = 1 ∧ fst_ (lsP s.1.1 s.1.2.2.2 kwd) 6 0 = none) (h2 : fst_ (fun i => decide (w.2.1 i = s.1.2.2.2)) w.1 0 = some q) (h3 : ¬ w.2.2.1 q = so) : pnF tp en kwd so us s w = (-1, s.1, 2, nI s.1.2.1) := by rw [pnF, if_pos h, h2]; exact if_neg h3
theorem pn_ag (h : s.1.1 = 1 ∧ fst_ (lsP s.1.1 s.1.2.2.2 kwd) 6 0 = none) (h2 : fst_ (fun i => decide (w.2.1 i = s.1.2.2.2)) w.1 0 = some q) (h3 : w.2.2.1 q = so) (h4 : us.testBit (w.2.2.2 q) = true) : pnF tp en kwd so us s w = (-1, s.1, 3, nI s.1.2.1) := by rw [pnF, if_pos h, h2]; exact (if_pos h3).trans (if_pos h4)
theorem pn_ok (h : s.1.1 = 1 ∧ fst_ (lsP s.1.1 s.1.2.2.2 kwd) 6 0 = none) (h2 : fst_ (fun i => decide (w.2.1 i = s.1.2.2.2)) w.1 0 = some q) (h3 : w.2.2.1 q = so) (h4 : us.testBit (w.2.2.2 q) = false) : pnF tp en kwd so us s w = (nI (w.2.2.2 q), advF tp en s.1.2.2.1 s.1.2.2.2, s.2) := by rw [pnF, if_pos h, h2]; exact (if_pos h3).trans (if_neg (by rw [h4]; decide))
end NM
