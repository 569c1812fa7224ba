/-! folds, the k-th of a set, the greatest common measure -/
section RL3
variable {E : Et} {l : Launch} {d mc ms : Nat} {Z : Zt} {cc : ByteArray} {nL : Nat} {y : MethodName} {ret : Option FieldType} {pc k n : Nat} {lv : List (Nat × Value)} {rest : List Value} {ws : va_W}
theorem v_ifLN_le (X : Cx E l d mc ms Z cc nL y ret) {a b : Nat} {off : Int} {tgt : Nat} (h : decode cc pc = .ok (.ifCond .le off, 3)) (ht : (pc : Int) + off = (tgt : Int)) (ha : a < 2 ^ 63) (hb : b < 2 ^ 63) (kt : a ≤ b → V E Z tgt lv rest ws k n) (kf : ¬ a ≤ b → V E Z (pc + 3) lv rest ws k n) : V E Z pc lv (.int (lg_cmp (lN a) (lN b)) :: rest) ws k n := v_if_le X h ht (fun q => kt ((pk_lLE ha hb).mp ((lg_cmp_le _ _).mp q))) (fun q => kf (fun w => q ((lg_cmp_le _ _).mpr ((pk_lLE ha hb).mpr w))))
theorem v_ifLN_gt (X : Cx E l d mc ms Z cc nL y ret) {a b : Nat} {off : Int} {tgt : Nat} (h : decode cc pc = .ok (.ifCond .gt off, 3)) (ht : (pc : Int) + off = (tgt : Int)) (ha : a < 2 ^ 63) (hb : b < 2 ^ 63) (kt : b < a → V E Z tgt lv rest ws k n) (kf : ¬ b < a → V E Z (pc + 3) lv rest ws k n) : V E Z pc lv (.int (lg_cmp (lN a) (lN b)) :: rest) ws k n := v_if_gt X h ht (fun q => kt ((pk_lLT hb ha).mp ((lg_cmp_gt _ _).mp q))) (fun q => kf (fun w => q ((lg_cmp_gt _ _).mpr ((pk_lLT hb ha).mpr w))))
end RL3
def foldN {α : Type} (f : Nat → α → α) (a : α) : Nat → α
  | 0 => a
  | n + 1 => f n (foldN f a n)
theorem foldN_cong {α : Type} {f g : Nat → α → α} {a : α} : ∀ {n : Nat}, (∀ k x, k < n → f k x = g k x) → foldN f a n = foldN g a n
  | 0, _ => rfl
  | n + 1, h => by rw [foldN, foldN, foldN_cong (fun k x hk => h k x (by omega)), h n _ (by omega)]
/-- the i-th of those with p, from place c on, m places; c0 counted already -/
def kth (p : Nat → Bool) (i : Int32) : Nat → Nat → Nat → Int32
  | 0, _, _ => -1
  | m + 1, c, c0 => if p c then (if nI c0 = i then nI c else kth p i m (c + 1) (c0 + 1)) else kth p i m (c + 1) c0
theorem kth_no {p : Nat → Bool} {i : Int32} {m c c0 : Nat} (hm : c < m) (h : p c = false) : kth p i (m - c) c c0 = kth p i (m - (c + 1)) (c + 1) c0 := by
  rw [show m - c = (m - (c + 1)) + 1 by omega, kth]; simp [h]
theorem kth_skip {p : Nat → Bool} {i : Int32} {m c c0 : Nat} (hm : c < m) (h : p c = true) (h2 : ¬ nI c0 = i) : kth p i (m - c) c c0 = kth p i (m - (c + 1)) (c + 1) (c0 + 1) := by
  rw [show m - c = (m - (c + 1)) + 1 by omega, kth]; simp [h, h2]
theorem kth_hit {p : Nat → Bool} {i : Int32} {m c c0 : Nat} (hm : c < m) (h : p c = true) (h2 : nI c0 = i) : kth p i (m - c) c c0 = nI c := by
  rw [show m - c = (m - (c + 1)) + 1 by omega, kth]; simp [h, h2]
theorem kth_out {p : Nat → Bool} {i : Int32} : ∀ (m c c0 : Nat), (∀ k, c ≤ k → k < c + m → p k = false) → kth p i m c c0 = -1
  | 0, _, _, _ => rfl
  | m + 1, c, c0, h => by
    rw [kth, h c (Nat.le_refl c) (by omega)]
    simp only [Bool.false_eq_true, if_false]
    exact kth_out m (c + 1) c0 (fun k h1 h2 => h k (by omega) (by omega))
theorem kth_cut {p : Nat → Bool} {i : Int32} : ∀ (m m' c c0 : Nat), (∀ k, c + m ≤ k → k < c + m + m' → p k = false) → kth p i (m + m') c c0 = kth p i m c c0
  | 0, m', c, c0, h => by rw [Nat.zero_add, kth_out m' c c0 (fun k h1 h2 => h k (by omega) (by omega))]; rfl
  | m + 1, m', c, c0, h => by
    rw [show m + 1 + m' = (m + m') + 1 by omega, kth, kth]
    rw [kth_cut m m' (c + 1) (c0 + 1) (fun k h1 h2 => h k (by omega) (by omega)), kth_cut m m' (c + 1) c0 (fun k h1 h2 => h k (by omega) (by omega))]
theorem kth_cong {p q : Nat → Bool} {i : Int32} : ∀ (m c c0 : Nat), (∀ k, c ≤ k → k < c + m → p k = q k) → kth p i m c c0 = kth q i m c c0
  | 0, _, _, _ => rfl
  | m + 1, c, c0, h => by
    rw [kth, kth, h c (Nat.le_refl c) (by omega), kth_cong m (c + 1) (c0 + 1) (fun k h1 h2 => h k (by omega) (by omega)), kth_cong m (c + 1) c0 (fun k h1 h2 => h k (by omega) (by omega))]
/-- Euclid, n steps -/
def euF : Nat → Nat → Nat → Nat
  | 0, x, _ => x
  | n + 1, x, z => if z = 0 then x else euF n z (x % z)
def fib : Nat → Nat
  | 0 => 1
  | 1 => 1
  | n + 2 => fib (n + 1) + fib n
theorem fib_pos : ∀ n, 0 < fib n
  | 0 => by decide
  | 1 => by decide
  | n + 2 => by rw [fib]; have := fib_pos n; omega
/-- Euclid ends within n steps where the second is below the n-th of Fibonacci's -/
theorem euF_gcd : ∀ (n x z : Nat), z < fib n → z < x → euF n x z = Nat.gcd x z
  | 0, x, z, h, _ => by
    have : z = 0 := by simp [fib] at h; exact h
    subst this; simp [euF]
  | 1, x, z, h, _ => by
    have : z = 0 := by simp [fib] at h; exact h
    subst this; simp [euF]
  | n + 2, x, z, h, hx => by
    rw [euF]
    by_cases hz : z = 0
    · subst hz; simp
    · rw [if_neg hz]
      have hr : x % z < z := Nat.mod_lt _ (Nat.pos_of_ne_zero hz)
      have hg : Nat.gcd x z = Nat.gcd z (x % z) := by rw [Nat.gcd_comm z (x % z), ← Nat.gcd_rec, Nat.gcd_comm]
      rw [hg]
      by_cases hs : x % z < fib (n + 1)
      · exact euF_gcd (n + 1) z (x % z) hs hr
      · rw [euF]
        have hn0 : ¬ x % z = 0 := fun q => hs (by rw [q]; exact fib_pos _)
        rw [if_neg hn0]
        have hr2 : z % (x % z) < x % z := Nat.mod_lt _ (Nat.pos_of_ne_zero hn0)
        have hle : z % (x % z) ≤ z - x % z := by
          rw [Nat.mod_eq_sub_mod (Nat.le_of_lt hr)]
          exact Nat.mod_le _ _
        have hf : fib (n + 2) = fib (n + 1) + fib n := rfl
        have hg2 : Nat.gcd z (x % z) = Nat.gcd (x % z) (z % (x % z)) := by rw [Nat.gcd_comm (x % z) (z % (x % z)), ← Nat.gcd_rec, Nat.gcd_comm]
        rw [hg2]
        exact euF_gcd n (x % z) (z % (x % z)) (by omega) hr2
def fibA : Nat → Nat → Nat → Nat
  | 0, a, _ => a
  | n + 1, a, b => fibA n b (a + b)
theorem fibA_eq : ∀ n k, fibA n (fib k) (fib (k + 1)) = fib (n + k)
  | 0, k => by rw [fibA, Nat.zero_add]
  | n + 1, k => by
    rw [fibA, show fib k + fib (k + 1) = fib (k + 2) by rw [fib, Nat.add_comm], fibA_eq n (k + 1)]
    congr 1; omega
theorem fib_98 : 2 ^ 63 ≤ fib 98 := by
  have h := fibA_eq 98 0
  rw [show (98 + 0) = 98 from rfl] at h
  rw [← h]
  decide +kernel
theorem euF_100 {x z : Nat} (hz : z < 2 ^ 63) : euF 100 x z = Nat.gcd x z := by
  rw [euF]
  by_cases h0 : z = 0
  · subst h0; simp
  · rw [if_neg h0]
    have hr : x % z < z := Nat.mod_lt _ (Nat.pos_of_ne_zero h0)
    have hg : Nat.gcd x z = Nat.gcd z (x % z) := by rw [Nat.gcd_comm z (x % z), ← Nat.gcd_rec, Nat.gcd_comm]
    rw [hg]
    have h98 : fib 98 ≤ fib 99 := by have : fib 99 = fib 98 + fib 97 := rfl; omega
    exact euF_gcd 99 z (x % z) (Nat.lt_of_lt_of_le (Nat.lt_of_lt_of_le (Nat.lt_trans hr hz) fib_98) h98) hr
def lowT (u w : Nat) (b : Bool) : Nat := if Nat.gcd w u = 0 then (if b then 1 else 0) else (if b then w / Nat.gcd w u else u / Nat.gcd w u)
def gainI (ch : Nat) (s r o : Bool) : Int32 := if s && r then (if o then 3 else -nI ch) else if s then (if o then 0 else 4) else if r then 1 else 2
def isRestB (ch pa : Nat) : Bool := decide (gainI ch (!decide (2 ≤ pa)) (decide (¬ pa &&& 1 = 0)) false ≤ gainI ch (decide (2 ≤ pa)) (decide (¬ pa &&& 1 = 0)) false) && decide (gainI ch (decide (2 ≤ pa)) (!decide (¬ pa &&& 1 = 0)) true ≤ gainI ch (decide (2 ≤ pa)) (decide (¬ pa &&& 1 = 0)) true)
theorem lN_shl1 {k : Nat} (hk : k < 64) : lN 1 <<< ((nI k).toInt64 &&& 63) = lN (2 ^ k) := by rw [wb_shl 1 hk, Nat.one_mul]
theorem maxN {a b : Nat} (ha : a < 2 ^ 31) (hb : b < 2 ^ 31) : (if nI a < nI b then nI b else nI a) = nI (max a b) := by
  by_cases h : a < b
  · rw [if_pos ((nI_ltI ha hb).mpr h), Nat.max_eq_right (Nat.le_of_lt h)]
  · rw [if_neg (fun q => h ((nI_ltI ha hb).mp q)), Nat.max_eq_left (Nat.not_lt.mp h)]
theorem lN_div {a b : Nat} (ha : a < 2 ^ 63) (hb0 : ¬ b = 0) (hb : b < 2 ^ 63) : lN a / lN b = lN (a / b) := pk_lDiv ha (Nat.pos_of_ne_zero hb0) hb
theorem lN_rem {a b : Nat} (ha : a < 2 ^ 63) (hb0 : ¬ b = 0) (hb : b < 2 ^ 63) : lN a - lN a / lN b * lN b = lN (a % b) := pk_lRem ha (Nat.pos_of_ne_zero hb0) hb
theorem lN_ne0 {a : Nat} (ha : a < 2 ^ 63) (h : ¬ a = 0) : ¬ lN a = 0 := fun q => h ((lN_0 (Nat.lt_trans ha (by decide))).mp q)
/-- how likely what was told is, by clauses turned: the product over what was done -/
def wF (sl : Nat) (T : Nat → Bool) : Nat → Nat
  | 0 => 1
  | i + 1 => wF sl T i * (if T i then 100 - sl else sl)
theorem wF_le {sl : Nat} (h : sl ≤ 100) (T : Nat → Bool) : ∀ n, wF sl T n ≤ 100 ^ n
  | 0 => Nat.le_refl _
  | n + 1 => by
    rw [wF, Nat.pow_succ]
    exact Nat.mul_le_mul (wF_le h T n) (by split <;> omega)
theorem wF_cong {sl : Nat} {T T' : Nat → Bool} : ∀ {n : Nat}, (∀ k, k < n → T k = T' k) → wF sl T n = wF sl T' n
  | 0, _ => rfl
  | n + 1, h => by rw [wF, wF, wF_cong (fun k hk => h k (by omega)), h n (by omega)]
def likF (wt : Nat → Nat) : Nat → Int32 × Nat := foldN (fun s x => if x.2 < wt s then (nI s, wt s) else x) (-2, 0)
theorem bo1 {b : Bool} (h : b = true) : nI 1 = nI b.toNat := by rw [h]; rfl
theorem bo0 {b : Bool} (h : b = false) : nI 0 = nI b.toNat := by rw [h]; rfl
theorem likF_succ (wt : Nat → Nat) (k : Nat) : likF wt (k + 1) = if (likF wt k).2 < wt k then (nI k, wt k) else likF wt k := rfl
