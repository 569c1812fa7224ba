/-! the reference: rows of the past -/
def rowX (p : Pv) : Nat → Int32 := xF p.2.1 p.1 p.2.2.1 p.2.2.2
def rwF (pp : Nat → Pv) : Nat → Int32 := fun n => rowX (pp (n / 25)) (n % 25)
def shP (pp : Nat → Pv) : Nat → Pv := fun i => if i < 15 then pp (i + 1) else pp i
def rmP (pp : Nat → Pv) (ac : Nat) (cur : Pv) : Nat → Pv := fun i => if ac < 16 then (if i = ac then cur else pp i) else (if i = 15 then cur else pp (i + 1))
theorem rw_at (pp : Nat → Pv) {a k : Nat} (hk : k < 25) : rwF pp (25 * a + k) = rowX (pp a) k := by
  unfold rwF
  rw [show (25 * a + k) / 25 = a by omega, show (25 * a + k) % 25 = k by omega]
theorem rw_25 (pp : Nat → Pv) (k : Nat) : rwF pp (k + 25) = rwF (fun i => pp (i + 1)) k := by
  unfold rwF
  rw [show (k + 25) / 25 = k / 25 + 1 by omega, show (k + 25) % 25 = k % 25 by omega]
def wrF (B : Nat → Int32) (a : Nat) (vf : Nat → Int32) (k : Nat) : Nat → Int32 := fun j => if 25 * a ≤ j ∧ j < 25 * a + k then vf (j - 25 * a) else B j
theorem wrF_0 (B : Nat → Int32) (a : Nat) (vf : Nat → Int32) : wrF B a vf 0 = B := by
  funext j
  unfold wrF
  rw [if_neg (by omega)]
theorem wrF_s (B : Nat → Int32) (a : Nat) (vf : Nat → Int32) (k : Nat) : upd (wrF B a vf k) (25 * a + k) (vf k) = wrF B a vf (k + 1) := by
  funext j
  unfold upd
  by_cases h : j = 25 * a + k
  · rw [if_pos h]
    unfold wrF
    rw [if_pos (by omega), show j - 25 * a = k by omega]
  · rw [if_neg h]
    unfold wrF
    by_cases h2 : 25 * a ≤ j ∧ j < 25 * a + k
    · rw [if_pos h2, if_pos (by omega)]
    · rw [if_neg h2, if_neg (by omega)]
theorem wrF_e (pp : Nat → Pv) (a : Nat) (cur : Pv) (j : Nat) : wrF (rwF pp) a (rowX cur) 25 j = rwF (fun i => if i = a then cur else pp i) j := by
  unfold wrF
  by_cases h : 25 * a ≤ j ∧ j < 25 * a + 25
  · rw [if_pos h]
    unfold rwF
    show rowX cur (j - 25 * a) = rowX (if j / 25 = a then cur else pp (j / 25)) (j % 25)
    rw [if_pos (by omega), show j - 25 * a = j % 25 by omega]
  · rw [if_neg h]
    unfold rwF
    show rowX (pp (j / 25)) (j % 25) = rowX (if j / 25 = a then cur else pp (j / 25)) (j % 25)
    rw [if_neg (by omega)]
theorem rm_lo {pp : Nat → Pv} {ac : Nat} {cur : Pv} (h : ac < 16) (j : Nat) : wrF (rwF pp) ac (rowX cur) 25 j = rwF (rmP pp ac cur) j := by
  rw [wrF_e]
  unfold rwF rmP
  rw [if_pos h]
theorem rm_hi {pp : Nat → Pv} {ac : Nat} {cur : Pv} (h : ac = 16) (j : Nat) (hj : j < 400) : wrF (rwF (shP pp)) (ac - 1) (rowX cur) 25 j = rwF (rmP pp ac cur) j := by
  subst h
  rw [wrF_e]
  unfold rwF rmP shP
  show rowX (if j / 25 = 15 then cur else if j / 25 < 15 then pp (j / 25 + 1) else pp (j / 25)) (j % 25) = rowX (if 16 < 16 then (if j / 25 = 16 then cur else pp (j / 25)) else (if j / 25 = 15 then cur else pp (j / 25 + 1))) (j % 25)
  rw [if_neg (show ¬ 16 < 16 by decide)]
  by_cases h2 : j / 25 = 15
  · rw [if_pos h2, if_pos h2]
  · rw [if_neg h2, if_neg h2, if_pos (by omega)]
theorem sh_e {pp : Nat → Pv} {vg : Nat → Int32} (h1 : ∀ j, j < 375 → vg j = rwF (fun i => pp (i + 1)) j) (h2 : ∀ j, 375 ≤ j → vg j = rwF pp j) (j : Nat) (hj : j < 400) : vg j = rwF (shP pp) j := by
  rcases Nat.lt_or_ge j 375 with h | h
  · rw [h1 j h]
    unfold rwF shP
    rw [if_pos (by omega)]
  · rw [h2 j h]
    unfold rwF shP
    rw [if_neg (by omega)]
theorem xF_upT {mn : Nat → Int32} {ink : Nat → Nat} {t dd c : Nat} (h : c < 8) : upd (xF mn ink t dd) (16 + c) (nI ((t ^^^ 2 ^ c).testBit c).toNat) = xF mn ink (t ^^^ 2 ^ c) dd := by
  funext j
  by_cases hj : j = 16 + c
  · subst hj
    rw [xF_t h, upd, if_pos rfl]
  · rw [upd, if_neg hj]
    unfold xF
    by_cases h1 : j < 8
    · rw [if_pos h1, if_pos h1]
    · rw [if_neg h1, if_neg h1]
      by_cases h2 : j < 16
      · rw [if_pos h2, if_pos h2]
      · rw [if_neg h2, if_neg h2]
        by_cases h3 : j < 24
        · rw [if_pos h3, if_pos h3, Nat.testBit_xor, Nat.testBit_two_pow, decide_eq_false (by omega), Bool.xor_false]
        · rw [if_neg h3, if_neg h3]
theorem xb_e (t c : Nat) : 1 - (t.testBit c).toNat = ((t ^^^ 2 ^ c).testBit c).toNat := by
  rw [Nat.testBit_xor, Nat.testBit_two_pow_self]
  cases t.testBit c <;> rfl
theorem rainF_z {rain : Nat} {x : (Nat → Nat) × Nat} {k : Nat} (hz : ∀ c, k ≤ c → x.1 c = 0) : ∀ n c, k ≤ c → (rainF rain n x).1 c = 0
  | 0, c, h => hz c h
  | n + 1, c, h => by
    have ih := rainF_z hz (rain := rain) n
    rcases Nat.lt_or_ge 0 ((rainF rain n x).1 n) with q | q
    · rcases Nat.lt_or_ge ((75 * (rainF rain n x).2 + 74) % 65537 % 100) rain with r | r
      · rw [rainF_wet (by omega) (by omega)]
        show upN _ n 0 c = 0
        unfold upN
        split
        · rfl
        · exact ih c h
      · rw [rainF_dry (by omega) (by omega)]
        exact ih c h
    · rw [rainF_no (by omega)]
      exact ih c h
theorem rainF_k {rain : Nat} {x : (Nat → Nat) × Nat} {k : Nat} (hz : ∀ c, k ≤ c → x.1 c = 0) : ∀ n, rainF rain (k + n) x = rainF rain k x
  | 0 => rfl
  | n + 1 => by
    rw [show k + (n + 1) = (k + n) + 1 by omega, rainF_no (by rw [rainF_z hz _ _ (by omega)]; decide), rainF_k hz n]
theorem rainQ_k {rain : Nat} {ink : Nat → Nat} {sd k : Nat} (hk : k ≤ 8) (hz : ∀ c, k ≤ c → ink c = 0) : rainF rain k (fun c => ink c - 1, sd) = rainQ rain (ink, sd) := by
  rw [rainD_eq]
  obtain ⟨r, hr⟩ : ∃ r, 8 = k + r := ⟨8 - k, by omega⟩
  rw [hr]
  exact (rainF_k (fun c hc => by show ink c - 1 = 0; rw [hz c hc]) r).symm
theorem rainQ_z {rain : Nat} {x : (Nat → Nat) × Nat} {k : Nat} (hz : ∀ c, k ≤ c → x.1 c = 0) : ∀ c, k ≤ c → (rainQ rain x).1 c = 0 := by
  obtain ⟨ink, sd⟩ := x
  intro c hc
  rw [rainD_eq]
  exact rainF_z (fun c hc => by have h9 : ink c = 0 := hz c hc; show ink c - 1 = 0; rw [h9]) _ c hc
theorem rainIt_z {rain : Nat} {x : (Nat → Nat) × Nat} {k : Nat} (hz : ∀ c, k ≤ c → x.1 c = 0) : ∀ n c, k ≤ c → (rainIt rain n x).1 c = 0
  | 0, c, h => hz c h
  | n + 1, c, h => by rw [rainIt_s]; exact rainQ_z (rainIt_z hz n) c h
theorem upN_le {f : Nat → Nat} {b i x : Nat} (h : ∀ c, f c ≤ b) (hx : x ≤ b) : ∀ c, upN f i x c ≤ b := by
  intro c
  unfold upN
  split
  · exact hx
  · exact h c
theorem sz_out {w : Int32} (h : w.toInt < 0 ∨ (11 : Int) < w.toInt) : ¬ (nI 0 ≤ w ∧ w ≤ nI 10) := by
  rintro ⟨h1, h2⟩
  rw [Int32.le_iff_toInt_le] at h1 h2
  have e1 : (nI 0).toInt = 0 := by decide
  have e2 : (nI 10).toInt = 10 := by decide
  omega
