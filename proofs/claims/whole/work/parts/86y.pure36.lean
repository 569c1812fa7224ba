/-! reading: the lines of a city one after the other, and what holds of what was read -/
abbrev Ac : Type := (Nat → Nat) × (Nat → Nat) × (Nat → Int32) × (Nat → Nat) × (Nat → Nat) × (Nat → Nat) × (Nat → Nat)
abbrev Dc : Type := (Nat → Nat) × (Nat → Nat) × (Nat → Nat) × (Nat → Nat) × (Nat → Bool)
abbrev Ls : Type := Bool × Rnm × (Nat → Nat) × Ac × Dc × Tk
noncomputable def lnF (tp : Nat → Int32) (en : Nat) (kwd : Nat → Int64) (so : Nat) (hd : Bool) (nm : Rnm) (cy : Nat → Nat) (A : Ac) (D : Dc) (k : Tk) : Rx Ls := match so with
  | 0 => sb (headF tp en k) fun x => .inr (true, nm, upN (upN (upN cy 0 x.1) 1 x.2.1) 2 x.2.2.1, A, D, x.2.2.2)
  | 1 => sb (nmS tp en kwd 1 (cy 3) nm k) fun y => .inr (hd, y.1, upN cy 3 (cy 3 + 1), A, D, y.2)
  | 2 => sb (nmS tp en kwd 2 (cy 4) nm k) fun y => .inr (hd, y.1, upN cy 4 (cy 4 + 1), A, D, y.2)
  | 3 => sb (clauseF tp en kwd (cy 5) nm k) fun y => .inr (hd, y.1, upN cy 5 (cy 5 + 1), (upN A.1 (cy 5) y.2.2.2.1, upN A.2.1 (cy 5) y.2.2.2.2.1, upd A.2.2.1 (cy 5) y.2.2.2.2.2.1, upN A.2.2.2.1 (cy 5) y.2.1, upN A.2.2.2.2.1 (cy 5) y.2.2.1, upN A.2.2.2.2.2.1 (cy 5) (strN y.2.2.2.1 (swI (nI y.2.2.2.2.1)) (swI y.2.2.2.2.2.1)), upN A.2.2.2.2.2.2 (cy 5) (turN y.2.2.2.1 (swI (nI y.2.2.2.2.1)) (swI y.2.2.2.2.2.1))), D, y.2.2.2.2.2.2)
  | 4 => sb (pnS tp en kwd 3 (tbF D.1 (2 ^ cy 6 - 1) (cy 6)) nm k) fun y => .inr (hd, nm, upN cy 6 (cy 6 + 1), A, (upN D.1 (cy 6) y.1, D.2), y.2)
  | _ => sb (didF tp en kwd nm k) fun y => .inr (hd, nm, upN cy 7 (cy 7 + 1), A, (D.1, upN D.2.1 (cy 7) y.1, upN D.2.2.1 (cy 7) y.2.1, upN D.2.2.2.1 (cy 7) y.2.2.2.1, upB D.2.2.2.2 (cy 7) y.2.2.1), y.2.2.2.2)
noncomputable def lineF (tp : Nat → Int32) (en : Nat) (kwd : Nat → Int64) (s : Ls) : Rx Ls := match fst_ (lsP s.2.2.2.2.2.1 s.2.2.2.2.2.2.2.2 kwd) 6 0 with
  | none => .inl (1, s.2.2.2.2.2.2.1)
  | some so => if so = 0 ∧ s.1 = true then .inl (3, s.2.2.2.2.2.2.1) else if ¬ so = 0 ∧ s.1 = false then .inl (6, s.2.2.2.2.2.2.1) else if ¬ so = 0 ∧ fuB s.2.2.1 so = true then .inl (5, s.2.2.2.2.2.2.1) else lnF tp en kwd so s.1 s.2.1 s.2.2.1 s.2.2.2.1 s.2.2.2.2.1 (advK tp en s.2.2.2.2.2)
section LN
variable {tp : Nat → Int32} {en : Nat} {kwd : Nat → Int64} {hd : Bool} {nm : Rnm} {cy : Nat → Nat} {A : Ac} {D : Dc} {k k' : Tk} {so : Nat}
theorem ln_no (h : fst_ (lsP k.1 k.2.2.2 kwd) 6 0 = none) : lineF tp en kwd (hd, nm, cy, A, D, k) = .inl (1, k.2.1) := by unfold lineF; rw [h]
theorem ln_ag (h : fst_ (lsP k.1 k.2.2.2 kwd) 6 0 = some 0) (hh : hd = true) : lineF tp en kwd (hd, nm, cy, A, D, k) = .inl (3, k.2.1) := by unfold lineF; rw [h]; exact if_pos ⟨rfl, hh⟩
theorem ln_la (h : fst_ (lsP k.1 k.2.2.2 kwd) 6 0 = some so) (h0 : ¬ so = 0) (hh : hd = false) : lineF tp en kwd (hd, nm, cy, A, D, k) = .inl (6, k.2.1) := by unfold lineF; rw [h]; exact (if_neg (fun q => h0 q.1)).trans (if_pos ⟨h0, hh⟩)
theorem ln_fu (h : fst_ (lsP k.1 k.2.2.2 kwd) 6 0 = some so) (h0 : ¬ so = 0) (hh : hd = true) (hf : fuB cy so = true) : lineF tp en kwd (hd, nm, cy, A, D, k) = .inl (5, k.2.1) := by unfold lineF; rw [h]; exact (if_neg (fun q => h0 q.1)).trans ((if_neg (fun q => Bool.noConfusion (hh.symm.trans q.2))).trans (if_pos ⟨h0, hf⟩))
theorem ln_go (h : fst_ (lsP k.1 k.2.2.2 kwd) 6 0 = some so) (h0 : ¬ so = 0) (hh : hd = true) (hf : fuB cy so = false) (hA : advK tp en k = k') : lineF tp en kwd (hd, nm, cy, A, D, k) = lnF tp en kwd so hd nm cy A D k' := by
  unfold lineF; rw [h, ← hA]; exact (if_neg (fun q => h0 q.1)).trans ((if_neg (fun q => Bool.noConfusion (hh.symm.trans q.2))).trans (if_neg (fun q => by rw [hf] at q; exact absurd q.2 (by decide))))
theorem ln_g0 (h : fst_ (lsP k.1 k.2.2.2 kwd) 6 0 = some 0) (hh : hd = false) (hA : advK tp en k = k') : lineF tp en kwd (hd, nm, cy, A, D, k) = lnF tp en kwd 0 hd nm cy A D k' := by
  unfold lineF; rw [h, ← hA]; exact (if_neg (fun q => Bool.noConfusion (hh.symm.trans q.2))).trans ((if_neg (fun q => absurd rfl q.1)).trans (if_neg (fun q => absurd rfl q.1)))
end LN
noncomputable def ctF (tp : Nat → Int32) (en : Nat) (kwd : Nat → Int64) : Nat → Ls → Rx Ls
  | 0, s => .inl (1, s.2.2.2.2.2.2.1)
  | n + 1, s => sb (lineF tp en kwd s) fun s' => if s'.2.2.2.2.2.1 = 0 then (if 0 < s'.2.2.1 3 ∧ 0 < s'.2.2.1 4 then .inr s' else .inl (6, s'.2.2.2.2.2.2.1)) else if s'.2.2.2.2.2.1 = 3 then ctF tp en kwd n (s'.1, s'.2.1, s'.2.2.1, s'.2.2.2.1, s'.2.2.2.2.1, advK tp en s'.2.2.2.2.2) else .inl (1, s'.2.2.2.2.2.2.1)
/-- what holds of what was read -/
def RIn (nm : Rnm) (cy : Nat → Nat) : Prop := nm.1 = cy 3 + cy 4 + cy 5 ∧ cy 3 ≤ 4 ∧ cy 4 ≤ 6 ∧ cy 5 ≤ 8 ∧ ∀ i, i < nm.1 → (nm.2.2.1 i = 1 ∧ nm.2.2.2 i < cy 3) ∨ (nm.2.2.1 i = 2 ∧ nm.2.2.2 i < cy 4) ∨ (nm.2.2.1 i = 3 ∧ nm.2.2.2 i < cy 5)
def okU (fo a : Nat) (x : Int32) (D : Nat) : Prop := (x = -2 ∧ fo ≤ 1) ∨ (¬ fo ≤ 1 ∧ ∃ y, y < D ∧ y ≠ a ∧ x = nI y)
def RIc (cy : Nat → Nat) (A : Ac) : Prop := (∀ c, A.2.2.2.2.1 c ≤ 40) ∧ ∀ c, c < cy 5 → A.1 c ≤ 5 ∧ A.2.1 c < cy 4 ∧ okU (A.1 c) (A.2.1 c) (A.2.2.1 c) (cy 4) ∧ A.2.2.2.1 c < cy 3 ∧ 1 ≤ A.2.2.2.2.1 c ∧ A.2.2.2.2.2.1 c = strN (A.1 c) (swI (nI (A.2.1 c))) (swI (A.2.2.1 c)) ∧ A.2.2.2.2.2.2 c = turN (A.1 c) (swI (nI (A.2.1 c))) (swI (A.2.2.1 c))
def RId (cy : Nat → Nat) (D : Dc) : Prop := cy 6 ≤ 5 ∧ (∀ j, j < cy 6 → D.1 j < cy 5) ∧ (∀ j, j < cy 6 → ∀ i, i < j → D.1 i ≠ D.1 j) ∧ cy 7 ≤ 6 ∧ ∀ i, i < cy 7 → D.2.1 i < cy 3 ∧ D.2.2.1 i ≤ 40 ∧ D.2.2.2.1 i < 2 ^ cy 4
def RIh (hd : Bool) (cy : Nat → Nat) : Prop := (hd = false → cy 3 = 0 ∧ cy 4 = 0 ∧ cy 5 = 0 ∧ cy 6 = 0 ∧ cy 7 = 0) ∧ (hd = true → cy 0 ≤ 9 ∧ cy 1 ≤ 100 ∧ cy 2 ≤ 100)
def RI (s : Ls) : Prop := RIn s.2.1 s.2.2.1 ∧ RIc s.2.2.1 s.2.2.2.1 ∧ RId s.2.2.1 s.2.2.2.2.1 ∧ RIh s.1 s.2.2.1
section MEM
variable {tp : Nat → Int32} {en : Nat} {kwd : Nat → Int64} {nm : Rnm} {k k' : Tk} {so us x lo hi i nu : Nat}
theorem sb_inr {α β : Type} {x : Rx α} {f : α → Rx β} {b : β} (h : sb x f = .inr b) : ∃ a, x = .inr a ∧ f a = .inr b := by
  cases x with
  | inl e => cases h
  | inr a => exact ⟨a, rfl, h⟩
theorem pn_mem (h : pnS tp en kwd so us nm k = .inr (x, k')) : (∃ q, q < nm.1 ∧ nm.2.2.1 q = so ∧ nm.2.2.2 q = x) ∧ us.testBit x = false ∧ k' = advK tp en k := by
  unfold pnS at h
  split at h
  · split at h
    · cases h
    · rename_i q hq
      split at h
      · rename_i hs
        split at h
        · cases h
        · rename_i hu
          have := (fst_lt _ _ _ hq).1
          cases h
          exact ⟨⟨q, by omega, hs, rfl⟩, by simpa using hu, rfl⟩
      · cases h
  · cases h
theorem nm_mem {y : Rnm} (h : nmS tp en kwd so nu nm k = .inr (y, k')) : y = (nm.1 + 1, vp_updL nm.2.1 nm.1 k.2.2.2, upN nm.2.2.1 nm.1 so, upN nm.2.2.2 nm.1 nu) ∧ nm.1 < 18 ∧ k' = advK tp en k := by
  unfold nmS at h
  split at h
  · split at h
    · rename_i hq
      cases h
      exact ⟨rfl, hq.2, rfl⟩
    · cases h
  · cases h
theorem wh_mem (h : whS tp en lo hi k = .inr (x, k')) : lo ≤ x ∧ x ≤ hi ∧ k' = advK tp en k := by
  unfold whS at h
  split at h
  · split at h
    · rename_i hq
      cases h
      exact ⟨hq.1, hq.2, rfl⟩
    · cases h
  · cases h
theorem fo_mem (h : foS tp en k = .inr (x, k')) : x < 6 ∧ k' = advK tp en k := by
  unfold foS at h
  split at h
  · cases h
  · rename_i q hq
    cases h
    have := (fst_lt _ _ _ hq).1
    exact ⟨by omega, rfl⟩
theorem or_pow {s d D : Nat} (hs : s < 2 ^ D) (hd : d < D) : s ||| 2 ^ d < 2 ^ D := Nat.or_lt_two_pow hs (Nat.pow_lt_pow_right (by decide) hd)
theorem ds_lt {D : Nat} (hD : ∀ q, q < nm.1 → nm.2.2.1 q = 2 → nm.2.2.2 q < D) : ∀ (n s : Nat) (k k' : Tk) (x : Nat), s < 2 ^ D → dsF tp en kwd nm n s k = .inr (x, k') → x < 2 ^ D
  | 0, s, k, k', x, hs, h => by cases h; exact hs
  | n + 1, s, k, k', x, hs, h => by
    rw [dsF] at h
    obtain ⟨⟨d, kd⟩, h1, h2⟩ := sb_inr h
    obtain ⟨⟨q, q1, q2, q3⟩, -, -⟩ := pn_mem h1
    have hd : d < D := by rw [← q3]; exact hD q q1 q2
    simp only at h2
    split at h2
    · exact ds_lt hD n _ _ k' x (or_pow hs hd) h2
    · cases h2
      exact or_pow hs hd
theorem set_lt {D : Nat} (hD : ∀ q, q < nm.1 → nm.2.2.1 q = 2 → nm.2.2.2 q < D) (h : setF tp en kwd nm k = .inr (x, k')) : x < 2 ^ D := by
  unfold setF at h
  split at h
  · cases h
    exact Nat.pow_pos (by decide)
  · exact ds_lt hD 7 0 k k' x (Nat.pow_pos (by decide)) h
end MEM
