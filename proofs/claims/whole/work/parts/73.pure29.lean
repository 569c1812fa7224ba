/-! the reference: products and sums over what is washed off -/
def prG (B w : Nat) (a b : Nat → Nat) : Nat → Nat := foldN (fun c x => if B.testBit c then x * (if w.testBit c then a c else b c) else x) 1
def prS (B : Nat) (f : Nat → Nat) : Nat → Nat := foldN (fun c x => if B.testBit c then x * f c else x) 1
theorem prG_n {B w n : Nat} {a b : Nat → Nat} (h : B.testBit n = false) : prG B w a b (n + 1) = prG B w a b n := by show (if B.testBit n then prG B w a b n * _ else prG B w a b n) = _; simp [h]
theorem prG_1 {B w n : Nat} {a b : Nat → Nat} (h : B.testBit n = true) (h2 : w.testBit n = true) : prG B w a b (n + 1) = prG B w a b n * a n := by show (if B.testBit n then prG B w a b n * (if w.testBit n then a n else b n) else prG B w a b n) = _; simp [h, h2]
theorem prG_0 {B w n : Nat} {a b : Nat → Nat} (h : B.testBit n = true) (h2 : w.testBit n = false) : prG B w a b (n + 1) = prG B w a b n * b n := by show (if B.testBit n then prG B w a b n * (if w.testBit n then a n else b n) else prG B w a b n) = _; simp [h, h2]
theorem prS_n {B n : Nat} {f : Nat → Nat} (h : B.testBit n = false) : prS B f (n + 1) = prS B f n := by show (if B.testBit n then prS B f n * f n else prS B f n) = _; simp [h]
theorem prS_1 {B n : Nat} {f : Nat → Nat} (h : B.testBit n = true) : prS B f (n + 1) = prS B f n * f n := by show (if B.testBit n then prS B f n * f n else prS B f n) = _; simp [h]
theorem prG_c {B w w' : Nat} {a b : Nat → Nat} : ∀ {n : Nat}, (∀ k, k < n → w.testBit k = w'.testBit k) → prG B w a b n = prG B w' a b n
  | 0, _ => rfl
  | n + 1, h => by
    have ih := prG_c (B := B) (a := a) (b := b) (n := n) (fun k hk => h k (by omega))
    cases hB : B.testBit n with
    | false => rw [prG_n hB, prG_n hB, ih]
    | true =>
      cases hw : w.testBit n with
      | false => rw [prG_0 hB hw, prG_0 hB (by rw [← h n (by omega)]; exact hw), ih]
      | true => rw [prG_1 hB hw, prG_1 hB (by rw [← h n (by omega)]; exact hw), ih]
theorem pg_sum (a b : Nat → Nat) (B : Nat) : ∀ n, fb_sm (fun w => if ndf w B = 0 then prG B w a b n else 0) (2 ^ n) = prS B (fun c => a c + b c) n
  | 0 => by
    have : ndf 0 B = 0 := ndf_0.mpr (fun k h => by simp at h)
    show fb_sm _ 1 = _
    simp [fb_sm, this]
    rfl
  | n + 1 => by
    have ih := pg_sum a b B n
    rw [show (2 : Nat) ^ (n + 1) = 2 ^ n + 2 ^ n by rw [Nat.pow_succ]; omega, fb_sm_split]
    have lo : ∀ p, p < 2 ^ n → p.testBit n = false := fun p hp => Nat.testBit_lt_two_pow hp
    have hi : ∀ p, p < 2 ^ n → (2 ^ n + p).testBit n = true := by
      intro p hp
      rw [tb_hi hp]; simp
    have sm : ∀ p, p < 2 ^ n → prG B (2 ^ n + p) a b n = prG B p a b n := fun p hp => prG_c (fun k hk => by rw [tb_hi hp, if_pos hk])
    cases hB : B.testBit n with
    | true =>
      have s1 : fb_sm (fun w => if ndf w B = 0 then prG B w a b (n + 1) else 0) (2 ^ n) = b n * prS B (fun c => a c + b c) n := by
        rw [← ih, ← sm_mul]
        apply fb_sm_cong
        intro p hp
        rw [prG_0 hB (lo p hp)]
        split
        · rw [Nat.mul_comm]
        · rw [Nat.mul_zero]
      have s2 : fb_sm (fun p => (fun w => if ndf w B = 0 then prG B w a b (n + 1) else 0) (2 ^ n + p)) (2 ^ n) = a n * prS B (fun c => a c + b c) n := by
        rw [← ih, ← sm_mul]
        apply fb_sm_cong
        intro p hp
        have hq : ndf (2 ^ n + p) B = 0 ↔ ndf p B = 0 := by
          rw [ndf_0, ndf_0]
          constructor
          · intro h k hk
            by_cases hkn : k < n
            · exact h k (by rw [tb_hi hp, if_pos hkn]; exact hk)
            · rw [Nat.testBit_lt_two_pow (Nat.lt_of_lt_of_le hp (Nat.pow_le_pow_right (by decide) (Nat.not_lt.mp hkn)))] at hk; cases hk
          · intro h k hk
            rw [tb_hi hp] at hk
            split at hk
            · exact h k hk
            · rw [of_decide_eq_true hk]; exact hB
        show (if ndf (2 ^ n + p) B = 0 then prG B (2 ^ n + p) a b (n + 1) else 0) = a n * (if ndf p B = 0 then prG B p a b n else 0)
        rw [prG_1 hB (hi p hp), sm p hp]
        by_cases h2 : ndf p B = 0
        · rw [if_pos (hq.mpr h2), if_pos h2, Nat.mul_comm]
        · rw [if_neg (fun z => h2 (hq.mp z)), if_neg h2, Nat.mul_zero]
      rw [s1, s2, prS_1 hB, ← Nat.add_mul, Nat.mul_comm, Nat.add_comm (b n)]
    | false =>
      have s1 : fb_sm (fun w => if ndf w B = 0 then prG B w a b (n + 1) else 0) (2 ^ n) = prS B (fun c => a c + b c) n := by
        rw [← ih]
        apply fb_sm_cong
        intro p hp
        rw [prG_n hB]
      have s2 : ∀ m, m ≤ 2 ^ n → fb_sm (fun p => (fun w => if ndf w B = 0 then prG B w a b (n + 1) else 0) (2 ^ n + p)) m = 0 := by
        intro m
        induction m with
        | zero => intro _; rfl
        | succ m ihm =>
          intro hm
          rw [fb_sm, ihm (by omega)]
          show 0 + (if ndf (2 ^ n + m) B = 0 then _ else 0) = 0
          rw [if_neg, Nat.add_zero]
          intro h
          have := ndf_0.mp h n (hi m (by omega))
          rw [hB] at this; cases this
      rw [s1, s2 _ (Nat.le_refl _), Nat.add_zero, prS_n hB]
/-- only what is kept counts -/
theorem pg_kept {B w r q : Nat} {K : Nat → Bool} : ∀ n, (if allB (fun c => !(ndf B w).testBit c || K c) n = true then prG B w (fun _ => r) (fun _ => q) n else 0) = prG B w (fun _ => r) (fun c => if K c = true then q else 0) n
  | 0 => rfl
  | n + 1 => by
    have ih := pg_kept (B := B) (w := w) (r := r) (q := q) (K := K) n
    rw [allB]
    cases hB : B.testBit n with
    | false =>
      rw [prG_n hB, prG_n hB, ndf_tb, hB]
      simp only [Bool.false_and, Bool.not_false, Bool.true_or, Bool.and_true]
      exact ih
    | true =>
      cases hw : w.testBit n with
      | true =>
        rw [prG_1 hB hw, prG_1 hB hw, ndf_tb, hw, ← ih]
        simp only [Bool.not_true, Bool.and_false, Bool.not_false, Bool.true_or, Bool.and_true]
        split
        · rfl
        · rw [Nat.zero_mul]
      | false =>
        rw [prG_0 hB hw, prG_0 hB hw, ndf_tb, hB, hw, ← ih]
        simp only [Bool.not_false, Bool.and_true, Bool.not_true, Bool.false_or, Bool.and_eq_true]
        by_cases hK : K n = true
        · rw [if_pos hK]
          by_cases hA : allB (fun c => !(ndf B w).testBit c || K c) n = true
          · rw [if_pos ⟨hA, hK⟩, if_pos hA]
          · rw [if_neg (fun z => hA z.1), if_neg hA, Nat.zero_mul]
        · rw [if_neg hK, if_neg (fun z => hK z.2), Nat.mul_zero]
theorem prS_ev {B r : Nat} {K : Nat → Bool} (hr : r ≤ 100) : ∀ n, prS B (fun c => r + if K c = true then 100 - r else 0) n = r ^ cnt (fun c => B.testBit c && !K c) n * 100 ^ cnt (fun c => B.testBit c && K c) n
  | 0 => rfl
  | n + 1 => by
    have ih := prS_ev (B := B) (K := K) hr n
    cases hB : B.testBit n with
    | false => rw [prS_n hB, ih, cnt_f (p := fun c => B.testBit c && !K c) (by show (B.testBit n && _) = false; rw [hB]; rfl), cnt_f (p := fun c => B.testBit c && K c) (by show (B.testBit n && _) = false; rw [hB]; rfl)]
    | true =>
      rw [prS_1 hB, ih]
      cases hK : K n with
      | true =>
        rw [cnt_f (p := fun c => B.testBit c && !K c) (by show (B.testBit n && !K n) = false; rw [hB, hK]; rfl), cnt_t (p := fun c => B.testBit c && K c) (by show (B.testBit n && K n) = true; rw [hB, hK]; rfl), if_pos rfl, show r + (100 - r) = 100 by omega, Nat.pow_succ, Nat.mul_assoc]
      | false =>
        rw [cnt_t (p := fun c => B.testBit c && !K c) (by show (B.testBit n && !K n) = true; rw [hB, hK]; rfl), cnt_f (p := fun c => B.testBit c && K c) (by show (B.testBit n && K n) = false; rw [hB, hK]; rfl), if_neg (by decide), Nat.add_zero, Nat.pow_succ]
        ac_rfl
theorem pr_rw {B w r q : Nat} (hs : ndf w B = 0) : ∀ n, prG B w (fun _ => r) (fun _ => q) n = r ^ cnt (fun k => w.testBit k) n * q ^ (cnt (fun k => B.testBit k) n - cnt (fun k => w.testBit k) n)
  | 0 => rfl
  | n + 1 => by
    have ih := pr_rw (r := r) (q := q) hs n
    have hle : cnt (fun k => w.testBit k) n ≤ cnt (fun k => B.testBit k) n := cnt_sub (fun k _ hk => ndf_0.mp hs k hk)
    cases hB : B.testBit n with
    | false =>
      have hw : w.testBit n = false := by
        cases hw : w.testBit n with
        | false => rfl
        | true => rw [ndf_0.mp hs n hw] at hB; cases hB
      rw [prG_n hB, ih, cnt_f (p := fun k => w.testBit k) hw, cnt_f (p := fun k => B.testBit k) hB]
    | true =>
      cases hw : w.testBit n with
      | true =>
        rw [prG_1 hB hw, ih, cnt_t (p := fun k => w.testBit k) hw, cnt_t (p := fun k => B.testBit k) hB, Nat.add_sub_add_right, Nat.pow_succ]
        ac_rfl
      | false =>
        rw [prG_0 hB hw, ih, cnt_f (p := fun k => w.testBit k) hw, cnt_t (p := fun k => B.testBit k) hB, show cnt (fun k => B.testBit k) n + 1 - cnt (fun k => w.testBit k) n = (cnt (fun k => B.testBit k) n - cnt (fun k => w.testBit k) n) + 1 by omega, Nat.pow_succ]
        ac_rfl
theorem pop_k {B n : Nat} (hn : n ≤ 8) (hB : B < 2 ^ n) : cnt (fun k => B.testBit k) n = pop8 B := by
  obtain ⟨r, hr⟩ : ∃ r, 8 = n + r := ⟨8 - n, by omega⟩
  unfold pop8
  rw [hr]
  exact (cnt_ext (fun s hs => Nat.testBit_lt_two_pow (Nat.lt_of_lt_of_le hB (Nat.pow_le_pow_right (by decide) hs))) r).symm
theorem pop_ndf {B w : Nat} (hs : ndf w B = 0) : pop8 (ndf B w) = pop8 B - pop8 w := by
  have h := cnt_spl2 (fun k => B.testBit k) (fun k => w.testBit k) 8
  rw [show (fun s => B.testBit s && w.testBit s) = fun s => w.testBit s from funext (fun k => by
    cases hw : w.testBit k with
    | false => rw [Bool.and_false]
    | true => rw [ndf_0.mp hs k hw]; rfl)] at h
  unfold pop8
  rw [show (fun k => (ndf B w).testBit k) = fun s => B.testBit s && !w.testBit s from funext (fun k => ndf_tb B w k)]
  omega
theorem pr_rain {B w r n : Nat} (hn : n ≤ 8) (hB : B < 2 ^ n) (hs : ndf w B = 0) : prG B w (fun _ => r) (fun _ => 100 - r) n = rwN r (ndf B w) B := by
  have hw : w < 2 ^ n := Nat.lt_of_le_of_lt (ndf_le hs) hB
  rw [pr_rw hs, pop_k hn hB, pop_k hn hw, rwN, pop_ndf hs]
  have := pop_le hs
  rw [show pop8 B - (pop8 B - pop8 w) = pop8 w by omega, Nat.mul_comm]
theorem rev_tab : ∀ B, B < 256 → ∀ w, w < B + 1 → (decide (ndf w B = 0) = decide (ndf (B - w) B = 0)) ∧ (ndf w B = 0 → B - w = ndf B w) := by decide +kernel
theorem sm_shift (f : Nat → Nat) : ∀ n, fb_sm f (n + 1) = f 0 + fb_sm (fun k => f (k + 1)) n
  | 0 => by simp [fb_sm]
  | n + 1 => by rw [fb_sm, sm_shift f n, fb_sm]; omega
theorem sm_rev : ∀ (n : Nat) (f : Nat → Nat), fb_sm f (n + 1) = fb_sm (fun p => f (n - p)) (n + 1)
  | 0, f => by simp [fb_sm]
  | n + 1, f => by
    rw [sm_shift f (n + 1), sm_rev n (fun k => f (k + 1))]
    have e : fb_sm (fun p => f (n + 1 - p)) (n + 1 + 1) = fb_sm (fun p => f (n + 1 - p)) (n + 1) + f (n + 1 - (n + 1)) := rfl
    rw [e, Nat.sub_self, Nat.add_comm]
    congr 1
    refine fb_sm_cong (fun p hp => ?_)
    show f (n - p + 1) = f (n + 1 - p)
    rw [show n - p + 1 = n + 1 - p by omega]
theorem sm_wash {B r n : Nat} (g : Nat → Nat) (hn : n ≤ 8) (hB : B < 2 ^ n) : fb_sm (fun w => if ndf w B = 0 then prG B w (fun _ => r) (fun _ => 100 - r) n * g (ndf B w) else 0) (B + 1) = fb_sm (fun p => if ndf p B = 0 then rwN r p B * g p else 0) (B + 1) := by
  have h256 : B < 256 := Nat.lt_of_lt_of_le hB (Nat.pow_le_pow_right (n := 2) (j := 8) (by decide) hn)
  rw [sm_rev B (fun p => if ndf p B = 0 then rwN r p B * g p else 0)]
  refine fb_sm_cong (fun w hw => ?_)
  obtain ⟨h1, h2⟩ := rev_tab B h256 w hw
  by_cases hs : ndf w B = 0
  · rw [decide_eq_true hs] at h1
    rw [if_pos hs, if_pos (of_decide_eq_true h1.symm), h2 hs, pr_rain hn hB hs]
  · rw [decide_eq_false hs] at h1
    rw [if_neg hs, if_neg (of_decide_eq_false h1.symm)]
theorem sm_cut {B n : Nat} {f : Nat → Nat} (hB : B < 2 ^ n) (h : ∀ w, ¬ ndf w B = 0 → f w = 0) : fb_sm f (B + 1) = fb_sm f (2 ^ n) := by
  obtain ⟨r, hr⟩ : ∃ r, 2 ^ n = B + 1 + r := ⟨2 ^ n - (B + 1), by omega⟩
  rw [hr]
  exact (sm_ext (fun w hw => h w (fun q => by have := ndf_le q; omega)) r).symm
theorem sm_may {cy Fs Ft : Nat → Nat} {t B s : Nat} (hr : cy 2 ≤ 100) (hB : B < 2 ^ cy 5) (hs : s < 2 ^ cy 4) : fb_sm (fun w => if ndf w B = 0 then prG B w (fun _ => cy 2) (fun _ => 100 - cy 2) (cy 5) * (if (kpN cy Fs Ft t (ndf B w)).testBit s = true then 1 else 0) else 0) (B + 1) = cy 2 ^ brkN cy Fs Ft t B s * 100 ^ (cnt (fun c => B.testBit c) (cy 5) - brkN cy Fs Ft t B s) := by
  rw [sm_cut hB (fun w hw => if_neg hw)]
  have e : (fun w => if ndf w B = 0 then prG B w (fun _ => cy 2) (fun _ => 100 - cy 2) (cy 5) * (if (kpN cy Fs Ft t (ndf B w)).testBit s = true then 1 else 0) else 0) = fun w => if ndf w B = 0 then prG B w (fun _ => cy 2) (fun c => if (if t.testBit c = true then Ft c else Fs c).testBit s = true then 100 - cy 2 else 0) (cy 5) else 0 := by
    funext w
    rw [kp_all hs, ← pg_kept (K := fun c => (if t.testBit c = true then Ft c else Fs c).testBit s)]
    split
    · split
      · rw [Nat.mul_one]
      · rw [Nat.mul_zero]
    · rfl
  rw [e, pg_sum, prS_ev (K := fun c => (if t.testBit c = true then Ft c else Fs c).testBit s) hr]
  have hb : brkN cy Fs Ft t B s = cnt (fun c => B.testBit c && !(if t.testBit c = true then Ft c else Fs c).testBit s) (cy 5) := cnt_cong (fun c hc => by show (B.testBit c && !(kpN cy Fs Ft t (2 ^ c)).testBit s) = _; rw [kp_one hc hs])
  have hsp := cnt_spl2 (fun c => B.testBit c) (fun c => (if t.testBit c = true then Ft c else Fs c).testBit s) (cy 5)
  rw [hb]
  congr 2
  omega
theorem lowT_mul {u w k : Nat} {b : Bool} (hk : 0 < k) : lowT (u * k) (w * k) b = lowT u w b := by
  unfold lowT
  rw [Nat.gcd_mul_right]
  by_cases h : Nat.gcd w u = 0
  · rw [if_pos h, h, Nat.zero_mul, if_pos rfl]
  · rw [if_neg h, if_neg (Nat.mul_ne_zero h (by omega)), Nat.mul_div_mul_right _ _ hk, Nat.mul_div_mul_right _ _ hk]
theorem brk_le {cy Fs Ft : Nat → Nat} {t B s : Nat} : brkN cy Fs Ft t B s ≤ cnt (fun c => B.testBit c) (cy 5) := cnt_sub (fun k _ h => by rw [Bool.and_eq_true] at h; exact h.1)
theorem low_may {r m n : Nat} {b : Bool} (h : m ≤ n) : lowT (r ^ m * 100 ^ (n - m)) (100 ^ n) b = lowT (r ^ m) (100 ^ m) b := by
  rw [show (100 : Nat) ^ n = 100 ^ m * 100 ^ (n - m) by rw [← Nat.pow_add]; congr 1; omega]
  exact lowT_mul (Nat.pow_pos (by decide))
theorem bd_ltk {ink : Nat → Nat} {mn : Nat → Int32} {m : Int32} {k : Nat} (hk : k ≤ 8) (hz : ∀ c, k ≤ c → ink c = 0) : bdN ink mn m 0 < 2 ^ k := by rw [← bd_e hk hz]; exact bbits_lt _ k
theorem may_le {r m n : Nat} (hr : r ≤ 100) (h : m ≤ n) (hn : n ≤ 8) : r ^ m * 100 ^ (n - m) < 2 ^ 63 := by
  have h1 : r ^ m ≤ 100 ^ m := Nat.pow_le_pow_left hr m
  have h2 : r ^ m * 100 ^ (n - m) ≤ 100 ^ m * 100 ^ (n - m) := Nat.mul_le_mul h1 (Nat.le_refl _)
  rw [← Nat.pow_add, show m + (n - m) = n by omega] at h2
  exact Nat.lt_of_le_of_lt h2 (pow100 hn)
