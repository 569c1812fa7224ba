/-! sums over the parts of a set of clauses; rain day by day -/
theorem sm_mul (c : Nat) (f : Nat → Nat) : ∀ n, fb_sm (fun k => c * f k) n = c * fb_sm f n
  | 0 => rfl
  | n + 1 => by rw [fb_sm, fb_sm, sm_mul c f n, Nat.mul_add]
theorem ndf_0 {a b : Nat} : ndf a b = 0 ↔ ∀ k, a.testBit k = true → b.testBit k = true := by
  constructor
  · intro h k hk
    have h1 := ndf_tb a b k
    rw [h] at h1
    cases hb : b.testBit k with
    | true => rfl
    | false => rw [hk, hb] at h1; simp at h1
  · intro h
    apply Nat.eq_of_testBit_eq
    intro k
    rw [ndf_tb]
    cases ha : a.testBit k with
    | true => rw [h k ha]; simp
    | false => simp
theorem tb_hi {k n i : Nat} (hk : k < 2 ^ n) : (2 ^ n + k).testBit i = if i < n then k.testBit i else decide (i = n) := by
  have e := Nat.testBit_two_pow_mul_add 1 hk i
  rw [Nat.mul_one] at e
  rw [e]
  split
  · rfl
  · rename_i h
    by_cases hi : i = n
    · subst hi; simp
    · have : ¬ i - n = 0 := by omega
      rw [show (1 : Nat) = 2 ^ 0 from rfl, Nat.testBit_two_pow]
      have h3 : ¬ 0 = i - n := by omega
      simp [hi, h3]
theorem cnt_sub {p q : Nat → Bool} : ∀ {n : Nat}, (∀ k, k < n → p k = true → q k = true) → cnt p n ≤ cnt q n
  | 0, _ => Nat.le_refl _
  | n + 1, h => by
    have ih := cnt_sub (n := n) (fun k hk => h k (by omega))
    rw [cnt, cnt]
    by_cases hp : p n = true
    · rw [hp, h n (by omega) hp]; simp; exact ih
    · rw [if_neg hp]; omega
/-- over all parts of al: a for each in it, b for each out of it -/
theorem part_sum (a b al : Nat) : ∀ n, fb_sm (fun p => if ndf p al = 0 then a ^ cnt (fun k => p.testBit k) n * b ^ (cnt (fun k => al.testBit k) n - cnt (fun k => p.testBit k) n) else 0) (2 ^ n) = (a + b) ^ cnt (fun k => al.testBit k) n
  | 0 => by
    have : ndf 0 al = 0 := ndf_0.mpr (fun k h => by simp at h)
    show fb_sm _ 1 = _
    simp [fb_sm, cnt, this]
  | n + 1 => by
    have ih := part_sum a b al n
    rw [show (2 : Nat) ^ (n + 1) = 2 ^ n + 2 ^ n by rw [Nat.pow_succ]; omega, fb_sm_split]
    have lo : ∀ p, p < 2 ^ n → cnt (fun k => p.testBit k) (n + 1) = cnt (fun k => p.testBit k) n := by
      intro p hp
      rw [cnt, Nat.testBit_lt_two_pow hp]; simp
    have hi : ∀ p, p < 2 ^ n → cnt (fun k => (2 ^ n + p).testBit k) (n + 1) = cnt (fun k => p.testBit k) n + 1 := by
      intro p hp
      rw [cnt, tb_hi hp]
      simp only [Nat.lt_irrefl, if_false, decide_true, if_true]
      congr 1
      apply cnt_cong
      intro k hk
      rw [tb_hi hp, if_pos hk]
    have sub : ∀ p, ndf p al = 0 → cnt (fun k => p.testBit k) n ≤ cnt (fun k => al.testBit k) n := fun p h => cnt_sub (fun k _ hk => ndf_0.mp h k hk)
    by_cases hal : al.testBit n = true
    · have e : cnt (fun k => al.testBit k) (n + 1) = cnt (fun k => al.testBit k) n + 1 := by rw [cnt, hal]; simp
      rw [e]
      have s1 : fb_sm (fun p => if ndf p al = 0 then a ^ cnt (fun k => p.testBit k) (n + 1) * b ^ (cnt (fun k => al.testBit k) n + 1 - cnt (fun k => p.testBit k) (n + 1)) else 0) (2 ^ n) = b * (a + b) ^ cnt (fun k => al.testBit k) n := by
        rw [← ih, ← sm_mul]
        apply fb_sm_cong
        intro p hp
        rw [lo p hp]
        by_cases hq : ndf p al = 0
        · rw [if_pos hq, if_pos hq, show cnt (fun k => al.testBit k) n + 1 - cnt (fun k => p.testBit k) n = (cnt (fun k => al.testBit k) n - cnt (fun k => p.testBit k) n) + 1 by have := sub p hq; omega, Nat.pow_succ]
          ac_rfl
        · rw [if_neg hq, if_neg hq, Nat.mul_zero]
      have s2 : fb_sm (fun p => (fun p => if ndf p al = 0 then a ^ cnt (fun k => p.testBit k) (n + 1) * b ^ (cnt (fun k => al.testBit k) n + 1 - cnt (fun k => p.testBit k) (n + 1)) else 0) (2 ^ n + p)) (2 ^ n) = a * (a + b) ^ cnt (fun k => al.testBit k) n := by
        rw [← ih, ← sm_mul]
        apply fb_sm_cong
        intro p hp
        have hq : ndf (2 ^ n + p) al = 0 ↔ ndf p al = 0 := by
          rw [ndf_0, ndf_0]
          constructor
          · intro h k hk
            by_cases hkn : k < n
            · exact h k (by rw [tb_hi hp, if_pos hkn]; exact hk)
            · rw [Nat.testBit_lt_two_pow (Nat.lt_of_lt_of_le hp (Nat.pow_le_pow_right (by decide) (Nat.not_lt.mp hkn)))] at hk; cases hk
          · intro h k hk
            rw [tb_hi hp] at hk
            split at hk
            · exact h k hk
            · rw [of_decide_eq_true hk]; exact hal
        show (if ndf (2 ^ n + p) al = 0 then _ else 0) = _
        rw [hi p hp]
        by_cases h2 : ndf p al = 0
        · rw [if_pos (hq.mpr h2), if_pos h2, Nat.add_sub_add_right, Nat.pow_succ]
          ac_rfl
        · rw [if_neg (fun z => h2 (hq.mp z)), if_neg h2, Nat.mul_zero]
      rw [s1, s2, Nat.pow_succ, ← Nat.add_mul, Nat.mul_comm, Nat.add_comm b a]
    · have hal : al.testBit n = false := by simpa using hal
      have e : cnt (fun k => al.testBit k) (n + 1) = cnt (fun k => al.testBit k) n := by rw [cnt, hal]; simp
      rw [e]
      have s1 : fb_sm (fun p => if ndf p al = 0 then a ^ cnt (fun k => p.testBit k) (n + 1) * b ^ (cnt (fun k => al.testBit k) n - cnt (fun k => p.testBit k) (n + 1)) else 0) (2 ^ n) = (a + b) ^ cnt (fun k => al.testBit k) n := by
        rw [← ih]
        apply fb_sm_cong
        intro p hp
        rw [lo p hp]
      have s2 : fb_sm (fun p => (fun p => if ndf p al = 0 then a ^ cnt (fun k => p.testBit k) (n + 1) * b ^ (cnt (fun k => al.testBit k) n - cnt (fun k => p.testBit k) (n + 1)) else 0) (2 ^ n + p)) (2 ^ n) = 0 := by
        have : ∀ m, m ≤ 2 ^ n → fb_sm (fun p => (fun p => if ndf p al = 0 then a ^ cnt (fun k => p.testBit k) (n + 1) * b ^ (cnt (fun k => al.testBit k) n - cnt (fun k => p.testBit k) (n + 1)) else 0) (2 ^ n + p)) m = 0 := by
          intro m
          induction m with
          | zero => intro _; rfl
          | succ m ihm =>
            intro hm
            rw [fb_sm, ihm (by omega)]
            show 0 + (if ndf (2 ^ n + m) al = 0 then _ else 0) = 0
            rw [if_neg, Nat.add_zero]
            intro h
            have := ndf_0.mp h n (by rw [tb_hi (by omega)]; simp)
            rw [hal] at this; cases this
        exact this _ (Nat.le_refl _)
      rw [s1, s2, Nat.add_zero]
theorem ndf_le {p al : Nat} (h : ndf p al = 0) : p ≤ al := by
  have : p &&& al = p := by
    apply Nat.eq_of_testBit_eq
    intro k
    rw [Nat.testBit_and]
    cases hp : p.testBit k with
    | true => rw [ndf_0.mp h k hp]; rfl
    | false => rfl
  rw [← this]; exact Nat.and_le_right
theorem sm_le {f g : Nat → Nat} : ∀ {n : Nat}, (∀ k, k < n → f k ≤ g k) → fb_sm f n ≤ fb_sm g n
  | 0, _ => Nat.le_refl _
  | n + 1, h => by
    have := sm_le (n := n) (fun k hk => h k (by omega))
    have := h n (by omega)
    rw [fb_sm, fb_sm]; omega
theorem sm_more {f : Nat → Nat} {m n : Nat} (h : m ≤ n) : fb_sm f m ≤ fb_sm f n := by
  obtain ⟨k, rfl⟩ : ∃ k, n = m + k := ⟨n - m, by omega⟩
  exact fb_sm_mono f m k
/-- a weighted sum over the parts of what binds stays below the long's bound -/
theorem rain_lt {rain al : Nat} (hr : rain ≤ 100) (hal : al < 256) (g : Nat → Nat) (hg : ∀ p, g p ≤ 64) (ok : Nat → Bool) : fb_sm (fun p => if ok p && decide (ndf p al = 0) then rwN rain p al * g p else 0) (al + 1) < 2 ^ 63 := by
  have h1 : fb_sm (fun p => if ok p && decide (ndf p al = 0) then rwN rain p al * g p else 0) (al + 1) ≤ fb_sm (fun p => 64 * (if ndf p al = 0 then (100 - rain) ^ cnt (fun k => p.testBit k) 8 * rain ^ (cnt (fun k => al.testBit k) 8 - cnt (fun k => p.testBit k) 8) else 0)) (2 ^ 8) := by
    refine Nat.le_trans (sm_more (show al + 1 ≤ 2 ^ 8 by omega)) (sm_le (fun p hp => ?_))
    by_cases hq : ndf p al = 0
    · rw [if_pos hq]
      split
      · rw [Nat.mul_comm 64]
        exact Nat.mul_le_mul (Nat.le_refl _) (hg p)
      · exact Nat.zero_le _
    · simp [hq]
  have h2 := part_sum (100 - rain) rain al 8
  rw [sm_mul, h2, show 100 - rain + rain = 100 by omega] at h1
  have h3 : (100 : Nat) ^ cnt (fun k => al.testBit k) 8 ≤ 100 ^ 8 := Nat.pow_le_pow_right (by decide) (cnt_le _ 8)
  have h4 : (64 : Nat) * 100 ^ 8 < 2 ^ 63 := by decide
  have h5 := Nat.mul_le_mul (Nat.le_refl 64) h3
  omega
theorem pop_le {p al : Nat} (h : ndf p al = 0) : pop8 p ≤ pop8 al := cnt_sub (fun k _ hk => ndf_0.mp h k hk)
theorem pow100 {n : Nat} (h : n ≤ 8) : 100 ^ n < 2 ^ 63 := Nat.lt_of_le_of_lt (Nat.pow_le_pow_right (by decide) h) (by decide : (100 : Nat) ^ 8 < 2 ^ 63)
theorem powr {r n : Nat} (hr : r ≤ 100) (h : n ≤ 8) : r ^ n < 2 ^ 63 := Nat.lt_of_le_of_lt (Nat.pow_le_pow_left hr n) (pow100 h)
noncomputable def rainIt (rain : Nat) : Nat → (Nat → Nat) × Nat → (Nat → Nat) × Nat
  | 0, x => x
  | k + 1, x => rainQ rain (rainIt rain k x)
theorem rainIt_lt {rain : Nat} {x : (Nat → Nat) × Nat} (h : x.2 < 65537) : ∀ k, (rainIt rain k x).2 < 65537
  | 0 => h
  | k + 1 => by rw [rainIt]; exact rainD_lt (rainIt_lt h k)
theorem rainIt_le {rain : Nat} {x : (Nat → Nat) × Nat} {b : Nat} (h : ∀ c, x.1 c ≤ b) : ∀ k c, (rainIt rain k x).1 c ≤ b
  | 0, c => h c
  | k + 1, c => by rw [rainIt]; exact rainD_le (rainIt_le h k) c
def brkN (cy Fs Ft : Nat → Nat) (t bs s : Nat) : Nat := cnt (fun c => bs.testBit c && !(kpN cy Fs Ft t (2 ^ c)).testBit s) (cy 5)
