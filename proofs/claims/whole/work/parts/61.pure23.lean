/-! the reference: days ahead -/
theorem bd_sub {ink : Nat → Nat} {mn : Nat → Int32} {m : Int32} {n : Nat} : bdN (fun c => ink c - n) mn m 0 = bdN ink mn m n := by
  unfold bdN
  congr 1
  refine bbits_cong (fun k _ => ?_)
  show decide (0 < ink k - n) = decide (n < ink k)
  by_cases h : n < ink k
  · rw [decide_eq_true h, decide_eq_true (by omega)]
  · rw [decide_eq_false h, decide_eq_false (by omega)]
theorem bd_40 {ink : Nat → Nat} {mn : Nat → Int32} {m : Int32} {n : Nat} (h : ∀ c, ink c ≤ 40) (hn : 40 ≤ n) : bdN ink mn m n = 0 := by
  unfold bdN
  rw [bbits_zero.mpr (fun k _ => decide_eq_false (by have := h k; omega)), Nat.zero_and]
theorem skF_0 (Fs Ft : Nat → Nat) (t a0 : Nat) : ∀ n, skF Fs Ft 0 t a0 n = a0
  | 0 => rfl
  | n + 1 => by rw [skF, if_neg (by rw [Nat.zero_testBit]; decide), skF_0 Fs Ft t a0 n]
theorem kp_0 {cy Fs Ft : Nat → Nat} {t s : Nat} (hs : s < 2 ^ cy 4) : (kpN cy Fs Ft t 0).testBit s = true := by rw [kpN, skF_0, all_tb hs]
theorem kp_40 {cy Fs Ft : Nat → Nat} {ink : Nat → Nat} {mn : Nat → Int32} {m : Int32} {t n : Nat} (h : ∀ c, ink c ≤ 40) (hn : 40 ≤ n) : ¬ kpN cy Fs Ft t (bdN ink mn m n) = 0 := by
  rw [bd_40 h hn]
  intro q
  have := kp_0 (cy := cy) (Fs := Fs) (Ft := Ft) (t := t) (s := 0) (Nat.pow_pos (by decide))
  rw [q, Nat.zero_testBit] at this
  cases this
theorem xF_step {mn : Nat → Int32} {ink : Nat → Nat} {t dd n : Nat} : xF mn (fun c => ink c - n - 1) t (dd + n + 1) = xF mn (fun c => ink c - (n + 1)) t (dd + (n + 1)) := by
  rw [show (fun c => ink c - n - 1) = fun c => ink c - (n + 1) from funext (fun c => by omega), Nat.add_assoc]
theorem mine_e {mn : Nat → Int32} {k m : Nat} (hk : k ≤ 8) (hz : ∀ c, k ≤ c → mn c = -1) (hm : m < 2 ^ 31) : bbits (fun c => decide (mn c = nI m)) k = bbits (fun c => decide (mn c = nI m)) 8 := by
  refine tb_ext 8 (Nat.lt_of_lt_of_le (bbits_lt _ k) (Nat.pow_le_pow_right (by decide) hk)) (bbits_lt _ 8) (fun j hj => ?_)
  rw [bbits_tb, bbits_tb, decide_eq_true hj, Bool.true_and]
  by_cases h : j < k
  · rw [decide_eq_true h, Bool.true_and]
  · rw [decide_eq_false h, hz j (by omega), decide_eq_false (fun q => nm1 q.symm hm)]; rfl
