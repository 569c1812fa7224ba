/-! spread over men: the search -/
abbrev Gw : Type := (Nat → Int32) × (Nat → Int64)
def gsB (us : Nat) (sl : Nat → Int64) (m : Nat) : Int64 := if m < us then sl m else -1
def gsL (go : Nat → Gw → Bool × Gw) (kc : Int64) (c us : Nat) : Nat → Nat → Gw → Bool × Gw
  | 0, _, w => (false, w)
  | j + 1, m, w => if gsB us w.2 m &&& kc = 0 then gsL go kc c us j (m + 1) w else
      if (go (max us (m + 1)) (upd w.1 c (nI m), vp_updL w.2 m (gsB us w.2 m &&& kc))).1 then go (max us (m + 1)) (upd w.1 c (nI m), vp_updL w.2 m (gsB us w.2 m &&& kc))
      else gsL go kc c us j (m + 1) ((go (max us (m + 1)) (upd w.1 c (nI m), vp_updL w.2 m (gsB us w.2 m &&& kc))).2.1, vp_updL (go (max us (m + 1)) (upd w.1 c (nI m), vp_updL w.2 m (gsB us w.2 m &&& kc))).2.2 m (gsB us w.2 m))
def glim (us men : Nat) : Nat := min (min (us + 1) men) 8
def gsF (K : Nat → Int64) (ink : Nat → Nat) (men : Nat) : Nat → Nat → Nat → Gw → Bool × Gw
  | 0, _, _, w => (true, w)
  | n + 1, c, us, w => if ink c = 0 then gsF K ink men n (c + 1) us (upd w.1 c (-2), w.2) else gsL (gsF K ink men n (c + 1)) (K c) c us (glim us men) 0 w
def gsK (cy Fs Ft : Nat → Nat) (t c : Nat) : Int64 := lN (kpN cy Fs Ft t (2 ^ c))
section GS
variable {K : Nat → Int64} {ink : Nat → Nat} {men n c us : Nat} {w : Gw} {go : Nat → Gw → Bool × Gw} {kc : Int64} {lim m : Nat}
theorem gsF_z (h : ink c = 0) : gsF K ink men (n + 1) c us w = gsF K ink men n (c + 1) us (upd w.1 c (-2), w.2) := by rw [gsF, if_pos h]
theorem gsF_n (h : ¬ ink c = 0) : gsF K ink men (n + 1) c us w = gsL (gsF K ink men n (c + 1)) (K c) c us (glim us men - 0) 0 w := by rw [gsF, if_neg h]; rfl
theorem gsL_skip (hm : m < lim) (h : gsB us w.2 m &&& kc = 0) : gsL go kc c us (lim - m) m w = gsL go kc c us (lim - (m + 1)) (m + 1) w := by
  rw [show lim - m = (lim - (m + 1)) + 1 by omega, gsL, if_pos h]
theorem gsL_yes (hm : m < lim) (h : ¬ gsB us w.2 m &&& kc = 0) (hg : (go (max us (m + 1)) (upd w.1 c (nI m), vp_updL w.2 m (gsB us w.2 m &&& kc))).1 = true) : gsL go kc c us (lim - m) m w = go (max us (m + 1)) (upd w.1 c (nI m), vp_updL w.2 m (gsB us w.2 m &&& kc)) := by
  rw [show lim - m = (lim - (m + 1)) + 1 by omega, gsL, if_neg h, if_pos hg]
theorem gsL_back (hm : m < lim) (h : ¬ gsB us w.2 m &&& kc = 0) (hg : (go (max us (m + 1)) (upd w.1 c (nI m), vp_updL w.2 m (gsB us w.2 m &&& kc))).1 = false) : gsL go kc c us (lim - m) m w = gsL go kc c us (lim - (m + 1)) (m + 1) ((go (max us (m + 1)) (upd w.1 c (nI m), vp_updL w.2 m (gsB us w.2 m &&& kc))).2.1, vp_updL (go (max us (m + 1)) (upd w.1 c (nI m), vp_updL w.2 m (gsB us w.2 m &&& kc))).2.2 m (gsB us w.2 m)) := by
  rw [show lim - m = (lim - (m + 1)) + 1 by omega, gsL, if_neg h, if_neg (by rw [hg]; decide)]
theorem gsL_end (hm : lim ≤ m) : gsL go kc c us (lim - m) m w = (false, w) := by rw [show lim - m = 0 by omega, gsL]
theorem gsB_lt {sl : Nat → Int64} (h : m < us) : gsB us sl m = sl m := if_pos h
theorem gsB_ge {sl : Nat → Int64} (h : ¬ m < us) : gsB us sl m = -1 := if_neg h
theorem nI_max2 {a b : Nat} (ha : a < 2 ^ 31) (hb : b < 2 ^ 31) : (if nI a < nI b then nI b else nI a) = nI (max a b) := by
  by_cases h : a < b
  · rw [if_pos ((nI_ltI ha hb).mpr h), Nat.max_eq_right (Nat.le_of_lt h)]
  · rw [if_neg (fun q => h ((nI_ltI ha hb).mp q)), Nat.max_eq_left (Nat.not_lt.mp h)]
end GS
