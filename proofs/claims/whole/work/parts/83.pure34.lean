/-! reading: tokens passed one after the other -/
abbrev Rx (α : Type) : Type := (Nat × Nat) ⊕ α
def sb {α β : Type} (x : Rx α) (f : α → Rx β) : Rx β := match x with
  | .inl e => .inl e
  | .inr a => f a
theorem sb_e {α β : Type} (e : Nat × Nat) (f : α → Rx β) : sb (.inl e) f = .inl e := rfl
theorem sb_k {α β : Type} (a : α) (f : α → Rx β) : sb (.inr a) f = f a := rfl
noncomputable def advK (tp : Nat → Int32) (en : Nat) (k : Tk) : Tk := advF tp en k.2.2.1 k.2.2.2
/-- a token that is in order -/
def tkO (en : Nat) (k : Tk) : Prop := k.1 ≤ 5 ∧ k.2.1 ≤ k.2.2.1 ∧ k.2.2.1 ≤ en ∧ (¬ k.1 = 0 → k.2.1 < k.2.2.1)
theorem spc_ge {tp : Nat → Int32} {en : Nat} : ∀ (n p : Nat), p ≤ en → p ≤ spcF tp en n p ∧ spcF tp en n p ≤ en
  | 0, p, h => by rw [spcF]; omega
  | n + 1, p, h => by
    rw [spcF]
    split
    · rename_i q
      have q1 : p < en := q.1
      have := spc_ge (tp := tp) (en := en) n (p + 1) (by omega)
      omega
    · omega
theorem run_en {tp : Nat → Int32} {en : Nat} {lo hi bs ol : Int32} : ∀ (n : Nat) (w : Nat × Int64), w.1 ≤ en → (runF tp en lo hi bs ol n w).1 ≤ en
  | 0, w, h => by rw [runF]; exact h
  | n + 1, w, h => by
    rw [runF]
    split
    · rename_i q
      have q1 : w.1 < en := q.1
      exact run_en n _ (by show w.1 + 1 ≤ en; omega)
    · exact h
theorem run_gt {tp : Nat → Int32} {en p : Nat} {lo hi bs ol : Int32} {v : Int64} (h1 : p < en) (h2 : ¬ tp p < lo) (h3 : ¬ hi < tp p) : p < (runF tp en lo hi bs ol (en - p) (p, v)).1 := by
  rw [run_go h1 h2 h3]
  have := run_ge (tp := tp) (en := en) (lo := lo) (hi := hi) (bs := bs) (ol := ol) (en - (p + 1)) (p + 1) (v * bs.toInt64 + (tp p - lo + ol).toInt64)
  omega
theorem adv_ok {tp : Nat → Int32} {en nx : Nat} {v : Int64} (h : nx ≤ en) : tkO en (advF tp en nx v) ∧ nx ≤ (advF tp en nx v).2.1 := by
  have hs := spc_ge (tp := tp) (en - nx) nx h
  rw [advF_e]
  generalize spcF tp en (en - nx) nx = p at hs
  unfold advG tkO
  by_cases h1 : en ≤ p
  · rw [if_pos h1]
    refine ⟨⟨?_, Nat.le_refl _, ?_, fun q => absurd rfl q⟩, hs.1⟩
    · show 0 ≤ 5; omega
    · show p ≤ en; omega
  · rw [if_neg h1]
    by_cases h2 : ¬ tp p < nI 97 ∧ ¬ nI 122 < tp p
    · rw [if_pos h2]
      have g1 := run_gt (bs := nI 27) (ol := nI 1) (v := lN 0) (show p < en by omega) h2.1 h2.2
      have g2 := run_en (tp := tp) (lo := nI 97) (hi := nI 122) (bs := nI 27) (ol := nI 1) (en - p) (p, lN 0) (show p ≤ en by omega)
      refine ⟨⟨?_, Nat.le_of_lt g1, g2, fun _ => g1⟩, hs.1⟩
      show (if _ then 5 else 1) ≤ 5
      split <;> omega
    · rw [if_neg h2]
      by_cases h3 : ¬ tp p < nI 48 ∧ ¬ nI 57 < tp p
      · rw [if_pos h3]
        have g1 := run_gt (bs := nI 10) (ol := nI 0) (v := lN 0) (show p < en by omega) h3.1 h3.2
        have g2 := run_en (tp := tp) (lo := nI 48) (hi := nI 57) (bs := nI 10) (ol := nI 0) (en - p) (p, lN 0) (show p ≤ en by omega)
        refine ⟨⟨?_, Nat.le_of_lt g1, g2, fun _ => g1⟩, hs.1⟩
        show (if _ then 5 else 2) ≤ 5
        split <;> omega
      · rw [if_neg h3]
        refine ⟨⟨?_, ?_, ?_, fun _ => ?_⟩, hs.1⟩
        · show (if _ then 3 else if _ then 4 else 5) ≤ 5
          split
          · omega
          · split <;> omega
        · show p ≤ p + 1; omega
        · show p + 1 ≤ en; omega
        · show p < p + 1; omega
theorem advK_ok {tp : Nat → Int32} {en : Nat} {k : Tk} (h : tkO en k) : tkO en (advK tp en k) ∧ k.2.2.1 ≤ (advK tp en k).2.1 := adv_ok h.2.2.1
/-- what may stand here -/
noncomputable def wdS (tp : Nat → Int32) (en i : Nat) (k : Tk) : Rx Tk := if k.1 = 1 ∧ k.2.2.2 = lN (pkS 27 i) then .inr (advK tp en k) else .inl (1, k.2.1)
def vlN (v : Int64) : Nat := v.toBitVec.toNat
noncomputable def whS (tp : Nat → Int32) (en lo hi : Nat) (k : Tk) : Rx (Nat × Tk) := if k.1 = 2 then (if lo ≤ vlN k.2.2.2 ∧ vlN k.2.2.2 ≤ hi then .inr (vlN k.2.2.2, advK tp en k) else .inl (4, k.2.1)) else .inl (1, k.2.1)
def isN (kwd : Nat → Int64) (k : Tk) : Prop := k.1 = 1 ∧ fst_ (lsP k.1 k.2.2.2 kwd) 6 0 = none
noncomputable def pnS (tp : Nat → Int32) (en : Nat) (kwd : Nat → Int64) (so us : Nat) (nm : Rnm) (k : Tk) : Rx (Nat × Tk) :=
  if k.1 = 1 ∧ fst_ (lsP k.1 k.2.2.2 kwd) 6 0 = none then
    match fst_ (fun i => decide (nm.2.1 i = k.2.2.2)) nm.1 0 with
    | none => .inl (2, k.2.1)
    | some q => if nm.2.2.1 q = so then (if us.testBit (nm.2.2.2 q) then .inl (3, k.2.1) else .inr (nm.2.2.2 q, advK tp en k)) else .inl (2, k.2.1)
  else .inl (1, k.2.1)
noncomputable def nmS (tp : Nat → Int32) (en : Nat) (kwd : Nat → Int64) (so nu : Nat) (nm : Rnm) (k : Tk) : Rx (Rnm × Tk) :=
  if k.1 = 1 ∧ fst_ (lsP k.1 k.2.2.2 kwd) 6 0 = none then
    if fst_ (fun i => decide (nm.2.1 i = k.2.2.2)) nm.1 0 = none ∧ nm.1 < 18 then .inr ((nm.1 + 1, vp_updL nm.2.1 nm.1 k.2.2.2, upN nm.2.2.1 nm.1 so, upN nm.2.2.2 nm.1 nu), advK tp en k)
    else .inl (3, k.2.1)
  else .inl (1, k.2.1)
theorem vl_lN {v : Nat} (h : v < 2 ^ 64) : vlN (lN v) = v := wb_tn h
theorem vl_e (v : Int64) : v = lN (vlN v) := by
  obtain ⟨n, h, rfl⟩ := wb_of v
  rw [vl_lN h]
theorem vl_in {v : Int64} {lo hi : Nat} (hl : lo < 2 ^ 31) (hh : hi < 2 ^ 31) : (¬ (v < (nI lo).toInt64 ∨ (nI hi).toInt64 < v)) ↔ (lo ≤ vlN v ∧ vlN v ≤ hi) := by
  obtain ⟨n, h, rfl⟩ := wb_of v
  rw [vl_lN h, nI_l hl, nI_l hh]
  have el : (lN lo).toInt = lo := pf_lI (by omega)
  have eh : (lN hi).toInt = hi := pf_lI (by omega)
  rw [Int64.lt_iff_toInt_lt, Int64.lt_iff_toInt_lt, el, eh]
  rcases Nat.lt_or_ge n (2 ^ 63) with q | q
  · rw [pf_lI q]; omega
  · have hneg : (lN n).toInt < 0 := by
      show (BitVec.ofNat 64 n).toInt < 0
      rw [BitVec.toInt_eq_toNat_cond, BitVec.toNat_ofNat, Nat.mod_eq_of_lt h, if_neg (by omega)]
      omega
    omega
theorem vl_i {v : Int64} {hi : Nat} (h : vlN v ≤ hi) (hh : hi < 2 ^ 31) : v.toInt32 = nI (vlN v) := by
  obtain ⟨n, h9, rfl⟩ := wb_of v
  rw [vl_lN h9, lN_i]
