theorem gsS_x (K : Nat → Int64) (ink : Nat → Nat) (men : Nat) (w : Gw) : ∃ r, r = gsF K ink men 8 0 0 w := ⟨_, rfl⟩
noncomputable def gsS (K : Nat → Int64) (ink : Nat → Nat) (men : Nat) (w : Gw) : Bool × Gw := Classical.choose (gsS_x K ink men w)
theorem gsS_e (K : Nat → Int64) (ink : Nat → Nat) (men : Nat) (w : Gw) : gsS K ink men w = gsF K ink men 8 0 0 w := Classical.choose_spec (gsS_x K ink men w)
noncomputable def fmW (K : Nat → Int64) (ink : Nat → Nat) (w : Gw) : Nat → Gw
  | 0 => w
  | m + 1 => (gsS K ink m (fmW K ink w m)).2
noncomputable def fmP (K : Nat → Int64) (ink : Nat → Nat) (w : Gw) (m : Nat) : Bool := (gsS K ink m (fmW K ink w m)).1
noncomputable def fmN (K : Nat → Int64) (ink : Nat → Nat) (w : Gw) (most : Nat) : Nat := (fst_ (fmP K ink w) most 0).getD most
theorem fmW_s (K : Nat → Int64) (ink : Nat → Nat) (w : Gw) (m : Nat) : fmW K ink w (m + 1) = (gsS K ink m (fmW K ink w m)).2 := rfl
theorem fmN_hit {K : Nat → Int64} {ink : Nat → Nat} {w : Gw} {most m : Nat} (hq : fst_ (fmP K ink w) most 0 = fst_ (fmP K ink w) (most - m) m) (hm : m < most) (h : (gsS K ink m (fmW K ink w m)).1 = true) : fmN K ink w most = m := by
  unfold fmN; rw [hq, fst_hit hm h]; rfl
theorem fmN_end {K : Nat → Int64} {ink : Nat → Nat} {w : Gw} {most m : Nat} (hq : fst_ (fmP K ink w) most 0 = fst_ (fmP K ink w) (most - m) m) (hm : most ≤ m) : fmN K ink w most = most := by
  unfold fmN; rw [hq, show most - m = 0 by omega]; rfl
