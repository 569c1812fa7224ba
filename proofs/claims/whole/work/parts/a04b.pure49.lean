/-! answers of both told alike -/
theorem rg_nat {w : Int32} {n : Nat} (hn : n < 2 ^ 31) (h : 0 ≤ w ∧ w ≤ nI n) : ∃ k, k ≤ n ∧ w = nI k := by
  obtain ⟨k, hk, rfl⟩ := nI_of (x := w) (Int32.not_lt.mpr h.1)
  exact ⟨k, (nI_leI hk hn).mp h.2, rfl⟩
theorem ti_e {w : Int32} {n : Nat} {b : Int} (hb : (nI n).toInt = b) : (w.toInt < 0 ∨ b < w.toInt) ↔ ¬ (0 ≤ w ∧ w ≤ nI n) := by
  rw [Int32.le_iff_toInt_le, Int32.le_iff_toInt_le, hb, show (0 : Int32).toInt = 0 from rfl]
  omega
theorem bb_ltk {ink : Nat → Nat} {k : Nat} (hz : ∀ c, k ≤ c → ink c = 0) : bbits (fun c => decide (0 < ink c)) 8 < 2 ^ k := by
  apply Nat.lt_pow_two_of_testBit
  intro i hi
  rw [bbits_tb, hz i hi]
  exact Bool.and_false _
theorem kth_ng {p : Nat → Bool} {i : Int32} (h : ¬ 0 ≤ i) : ∀ (m c c0 : Nat), c0 + m ≤ 2 ^ 31 → kth p i m c c0 = -1
  | 0, _, _, _ => rfl
  | m + 1, c, c0, hm => by
    rw [kth]
    split
    · rw [if_neg (fun e => h (by rw [← e]; exact nI_pos' (by omega)))]
      exact kth_ng h m (c + 1) (c0 + 1) (by omega)
    · exact kth_ng h m (c + 1) c0 (by omega)
theorem kth_64 {cy Fs Ft : Nat → Nat} {t bs : Nat} {i : Int32} (hd : cy 4 ≤ 6) : kth (fun s => (kpN cy Fs Ft t bs).testBit s) i 64 0 0 = kth (fun s => (kpN cy Fs Ft t bs).testBit s) i (2 ^ cy 4) 0 0 := by
  have h64 : 2 ^ cy 4 ≤ 64 := pow64 hd
  rw [show 64 = 2 ^ cy 4 + (64 - 2 ^ cy 4) by omega]
  refine kth_ext _ _ _ _ (fun s hs => ?_)
  exact Nat.testBit_lt_two_pow (Nat.lt_of_lt_of_le (kpN_ltD cy Fs Ft t bs) (Nat.pow_le_pow_right (by decide) (by omega)))
theorem cl_e {f0 f1 gf go_ ink f4 gi : Nat → Nat} {f2 gt_ mn : Nat → Int32} {t c w : Nat} (h : gi c = f4 c ∧ gf c = f0 c ∧ go_ c = f1 c ∧ gt_ c = f2 c) : clV f0 f1 f2 mn ink f4 t c w = clV gf go_ gt_ mn ink gi t c w := by
  unfold clV
  rw [h.1, h.2.1, h.2.2.1, h.2.2.2]
theorem sw_w {a : Prop} [Decidable a] {b : Prop} [Decidable b] (h : a) : (if b then 1 else 0 : Nat) = if a ∧ ¬ b then 0 else 1 := by
  by_cases q : b
  · rw [if_pos q, if_neg (fun z => z.2 q)]
  · rw [if_neg q, if_pos ⟨h, q⟩]
