/-! the reader: blanks, runs, tokens -/
def spcF (tp : Nat → Int32) (en : Nat) : Nat → Nat → Nat
  | 0, p => p
  | n + 1, p => if p < en ∧ tp p = nI 32 then spcF tp en n (p + 1) else p
def runF (tp : Nat → Int32) (en : Nat) (lo hi bs ol : Int32) : Nat → Nat × Int64 → Nat × Int64
  | 0, w => w
  | n + 1, w => if w.1 < en ∧ ¬ tp w.1 < lo ∧ ¬ hi < tp w.1 then runF tp en lo hi bs ol n (w.1 + 1, w.2 * bs.toInt64 + (tp w.1 - lo + ol).toInt64) else w
abbrev Tk : Type := Nat × Nat × Nat × Int64
def advG (tp : Nat → Int32) (en p : Nat) (v : Int64) : Tk :=
  if en ≤ p then (0, p, p, v)
  else if ¬ tp p < nI 97 ∧ ¬ nI 122 < tp p then
    (if 8 < (runF tp en (nI 97) (nI 122) (nI 27) (nI 1) (en - p) (p, lN 0)).1 - p then 5 else 1, p, (runF tp en (nI 97) (nI 122) (nI 27) (nI 1) (en - p) (p, lN 0)).1, (runF tp en (nI 97) (nI 122) (nI 27) (nI 1) (en - p) (p, lN 0)).2)
  else if ¬ tp p < nI 48 ∧ ¬ nI 57 < tp p then
    (if 3 < (runF tp en (nI 48) (nI 57) (nI 10) (nI 0) (en - p) (p, lN 0)).1 - p then 5 else 2, p, (runF tp en (nI 48) (nI 57) (nI 10) (nI 0) (en - p) (p, lN 0)).1, (runF tp en (nI 48) (nI 57) (nI 10) (nI 0) (en - p) (p, lN 0)).2)
  else (if tp p = nI 59 then 3 else if tp p = nI 44 then 4 else 5, p, p + 1, v)
theorem advF_x (tp : Nat → Int32) (en nx : Nat) (v : Int64) : ∃ r, r = advG tp en (spcF tp en (en - nx) nx) v := ⟨_, rfl⟩
noncomputable def advF (tp : Nat → Int32) (en nx : Nat) (v : Int64) : Tk := Classical.choose (advF_x tp en nx v)
theorem advF_e (tp : Nat → Int32) (en nx : Nat) (v : Int64) : advF tp en nx v = advG tp en (spcF tp en (en - nx) nx) v := Classical.choose_spec (advF_x tp en nx v)
section RD
variable {tp : Nat → Int32} {en p nx : Nat} {lo hi bs ol : Int32} {v : Int64}
theorem spc_go (h1 : p < en) (h2 : tp p = nI 32) : spcF tp en (en - p) p = spcF tp en (en - (p + 1)) (p + 1) := by
  rw [show en - p = (en - (p + 1)) + 1 by omega, spcF, if_pos ⟨h1, h2⟩]
theorem spc_end (h : en ≤ p) : spcF tp en (en - p) p = p := by rw [show en - p = 0 by omega, spcF]
theorem spc_no (h1 : p < en) (h2 : ¬ tp p = nI 32) : spcF tp en (en - p) p = p := by
  rw [show en - p = (en - (p + 1)) + 1 by omega, spcF, if_neg (fun q => h2 q.2)]
theorem run_go (h1 : p < en) (h2 : ¬ tp p < lo) (h3 : ¬ hi < tp p) : runF tp en lo hi bs ol (en - p) (p, v) = runF tp en lo hi bs ol (en - (p + 1)) (p + 1, v * bs.toInt64 + (tp p - lo + ol).toInt64) := by
  rw [show en - p = (en - (p + 1)) + 1 by omega, runF, if_pos ⟨h1, h2, h3⟩]
theorem run_end (h : en ≤ p) : runF tp en lo hi bs ol (en - p) (p, v) = (p, v) := by rw [show en - p = 0 by omega, runF]
theorem run_no (h1 : p < en) (h : tp p < lo ∨ hi < tp p) : runF tp en lo hi bs ol (en - p) (p, v) = (p, v) := by
  rw [show en - p = (en - (p + 1)) + 1 by omega, runF, if_neg (fun q => by rcases h with h | h; exact q.2.1 h; exact q.2.2 h)]
theorem run_le : ∀ (n : Nat) (w : Nat × Int64), w.1 ≤ (runF tp en lo hi bs ol n w).1 ∧ (runF tp en lo hi bs ol n w).1 ≤ w.1 + n
  | 0, w => by rw [runF]; omega
  | n + 1, w => by
    rw [runF]
    split
    · have h := run_le n (w.1 + 1, w.2 * bs.toInt64 + (tp w.1 - lo + ol).toInt64)
      have h1 := h.1
      have h2 := h.2
      simp only at h1 h2
      omega
    · omega
theorem run_ge (n p : Nat) (v : Int64) : p ≤ (runF tp en lo hi bs ol n (p, v)).1 := (run_le n (p, v)).1
theorem run_sub (n p : Nat) (v : Int64) : (runF tp en lo hi bs ol n (p, v)).1 - p ≤ n := by
  have h : (runF tp en lo hi bs ol n (p, v)).1 ≤ p + n := (run_le n (p, v)).2
  omega
theorem adv_end (hs : spcF tp en (en - nx) nx = p) (h : en ≤ p) : advF tp en nx v = (0, p, p, v) := by rw [advF_e, hs, advG, if_pos h]
theorem adv_w (hs : spcF tp en (en - nx) nx = p) (h : p < en) (h1 : ¬ tp p < nI 97) (h2 : ¬ nI 122 < tp p) : advF tp en nx v = (if 8 < (runF tp en (nI 97) (nI 122) (nI 27) (nI 1) (en - p) (p, lN 0)).1 - p then 5 else 1, p, (runF tp en (nI 97) (nI 122) (nI 27) (nI 1) (en - p) (p, lN 0)).1, (runF tp en (nI 97) (nI 122) (nI 27) (nI 1) (en - p) (p, lN 0)).2) := by rw [advF_e, hs, advG, if_neg (Nat.not_le.mpr h), if_pos ⟨h1, h2⟩]
theorem adv_d (hs : spcF tp en (en - nx) nx = p) (h : p < en) (h0 : tp p < nI 97 ∨ nI 122 < tp p) (h1 : ¬ tp p < nI 48) (h2 : ¬ nI 57 < tp p) : advF tp en nx v = (if 3 < (runF tp en (nI 48) (nI 57) (nI 10) (nI 0) (en - p) (p, lN 0)).1 - p then 5 else 2, p, (runF tp en (nI 48) (nI 57) (nI 10) (nI 0) (en - p) (p, lN 0)).1, (runF tp en (nI 48) (nI 57) (nI 10) (nI 0) (en - p) (p, lN 0)).2) := by rw [advF_e, hs, advG, if_neg (Nat.not_le.mpr h), if_neg (fun q => by rcases h0 with z | z; exact q.1 z; exact q.2 z), if_pos ⟨h1, h2⟩]
theorem adv_o (hs : spcF tp en (en - nx) nx = p) (h : p < en) (h0 : tp p < nI 97 ∨ nI 122 < tp p) (h1 : tp p < nI 48 ∨ nI 57 < tp p) : advF tp en nx v = (if tp p = nI 59 then 3 else if tp p = nI 44 then 4 else 5, p, p + 1, v) := by rw [advF_e, hs, advG, if_neg (Nat.not_le.mpr h), if_neg (fun q => by rcases h0 with z | z; exact q.1 z; exact q.2 z), if_neg (fun q => by rcases h1 with z | z; exact q.1 z; exact q.2 z)]
end RD
