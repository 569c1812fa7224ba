/-! a clause is read: the class tells its name first, the reference last -/
theorem sb_as {α β γ : Type} (a : Rx α) (f : α → Rx β) (g : β → Rx γ) : sb (sb a f) g = sb a (fun x => sb (f x) g) := by
  cases a with
  | inl e => rfl
  | inr x => rfl
theorem fst_ap (p : Nat → Bool) : ∀ (m c : Nat), fst_ p (m + 1) c = (fst_ p m c).orElse (fun _ => if p (c + m) = true then some (c + m) else none)
  | 0, c => by
    rw [fst_, fst_, fst_]
    cases p c <;> simp
  | m + 1, c => by
    rw [fst_, fst_ap p m (c + 1), fst_, show c + (m + 1) = c + 1 + m by omega]
    cases p c <;> simp
theorem pn_new {tp : Nat → Int32} {en : Nat} {kwd : Nat → Int64} {so us x : Nat} {nm : Rnm} {w : Int64} {k : Tk} (hso : ¬ so = 3) : pnS tp en kwd so us (nm.1 + 1, vp_updL nm.2.1 nm.1 w, upN nm.2.2.1 nm.1 3, upN nm.2.2.2 nm.1 x) k = pnS tp en kwd so us nm k := by
  unfold pnS
  by_cases h : k.1 = 1 ∧ fst_ (lsP k.1 k.2.2.2 kwd) 6 0 = none
  · rw [if_pos h, if_pos h]
    have e : fst_ (fun i => decide (vp_updL nm.2.1 nm.1 w i = k.2.2.2)) (nm.1 + 1) 0 = (fst_ (fun i => decide (nm.2.1 i = k.2.2.2)) nm.1 0).orElse (fun _ => if decide (w = k.2.2.2) = true then some nm.1 else none) := by
      rw [fst_ap, Nat.zero_add, uL_at]
      congr 1
      exact fst_cg _ _ (fun i _ hi => by show decide (vp_updL nm.2.1 nm.1 w i = _) = _; rw [uL_ne (by omega)])
    show (match fst_ (fun i => decide (vp_updL nm.2.1 nm.1 w i = k.2.2.2)) (nm.1 + 1) 0 with | none => _ | some q => _) = _
    rw [e]
    cases hf : fst_ (fun i => decide (nm.2.1 i = k.2.2.2)) nm.1 0 with
    | some q =>
      have hq := (fst_lt _ _ _ hf).1
      show (if upN nm.2.2.1 nm.1 3 q = so then (if us.testBit (upN nm.2.2.2 nm.1 x q) then (Sum.inl (3, k.2.1) : Rx (Nat × Tk)) else Sum.inr (upN nm.2.2.2 nm.1 x q, advK tp en k)) else Sum.inl (2, k.2.1)) = _
      rw [upN_ne _ _ (by omega), upN_ne _ _ (by omega)]
    | none =>
      by_cases hw : decide (w = k.2.2.2) = true
      · show (match (if decide (w = k.2.2.2) = true then some nm.1 else none) with | none => _ | some q => _) = _
        rw [if_pos hw]
        show (if upN nm.2.2.1 nm.1 3 nm.1 = so then _ else _) = _
        rw [upN_at, if_neg (fun z => hso z.symm)]
      · show (match (if decide (w = k.2.2.2) = true then some nm.1 else none) with | none => _ | some q => _) = _
        rw [if_neg hw]
  · rw [if_neg h, if_neg h]
