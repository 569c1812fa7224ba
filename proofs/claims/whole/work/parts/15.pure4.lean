/-! Long.bitCount, Integer.bitCount: how many bits -/
theorem and_split {x z m M : Nat} (hx : x < 256) (hm : m < 256) : (x + 256 * z) &&& (m + 256 * M) = (x &&& m) + 256 * (z &&& M) := by
  have hxm : x &&& m < 2 ^ 8 := Nat.lt_of_le_of_lt Nat.and_le_left hx
  apply Nat.eq_of_testBit_eq
  intro i
  have e : ∀ (u v : Nat), u < 2 ^ 8 → (u + 256 * v).testBit i = if i < 8 then u.testBit i else v.testBit (i - 8) := by
    intro u v hu
    rw [Nat.add_comm, show (256 : Nat) = 2 ^ 8 from rfl, Nat.testBit_two_pow_mul_add v hu]
  rw [Nat.testBit_and, e x z hx, e m M hm, e (x &&& m) (z &&& M) hxm, Nat.testBit_and, Nat.testBit_and]
  split <;> rfl
def mkM (m : Nat) : Nat → Nat
  | 0 => 0
  | k + 1 => m + 256 * mkM m k
def q1 (k a : Nat) : Nat := a - (a / 2 &&& mkM 85 k)
def q2 (k a : Nat) : Nat := (a &&& mkM 51 k) + (a / 4 &&& mkM 51 k)
def q3 (k a : Nat) : Nat := (a + a / 16) &&& mkM 15 k
def g1 (b : Nat) : Nat := b - (b / 2 &&& 85)
def g2 (b : Nat) : Nat := (b &&& 51) + (b / 4 &&& 51)
def g3 (b : Nat) : Nat := (b + b / 16) &&& 15
theorem tab1 : ∀ b, b < 256 → (g1 b < 256 ∧ ∀ h, h < 2 → (b / 2 + h * 128) &&& 85 = b / 2 &&& 85) := by decide +kernel
theorem tab2 : ∀ b, b < 256 → ∀ h, h < 4 → (b / 4 + h * 64) &&& 51 = b / 4 &&& 51 := by decide +kernel
theorem tab3 : ∀ b, b < 256 → g2 (g1 b) ≤ 68 ∧ g2 (g1 b) % 16 ≤ 4 ∧ g3 (g2 (g1 b)) = cnt (fun k => b.testBit k) 8 ∧ cnt (fun k => b.testBit k) 8 ≤ 8 := by decide +kernel
theorem q1_s (k : Nat) {lo hi : Nat} (h : lo < 256) : q1 (k + 1) (lo + 256 * hi) = g1 lo + 256 * q1 k hi := by
  have e : (lo + 256 * hi) / 2 = (lo / 2 + hi % 2 * 128) + 256 * (hi / 2) := by omega
  unfold q1
  rw [mkM, e, and_split (by omega) (by decide), (tab1 lo h).2 (hi % 2) (Nat.mod_lt _ (by decide))]
  have h1 : lo / 2 &&& 85 ≤ lo / 2 := Nat.and_le_left
  have h2 : hi / 2 &&& mkM 85 k ≤ hi / 2 := Nat.and_le_left
  unfold g1
  omega
theorem q2_s (k : Nat) {lo hi : Nat} (h : lo < 256) : q2 (k + 1) (lo + 256 * hi) = g2 lo + 256 * q2 k hi := by
  have e : (lo + 256 * hi) / 4 = (lo / 4 + hi % 4 * 64) + 256 * (hi / 4) := by omega
  unfold q2 g2
  rw [mkM, e, and_split h (by decide), and_split (x := lo / 4 + hi % 4 * 64) (by omega) (by decide), tab2 lo h (hi % 4) (Nat.mod_lt _ (by decide))]
  omega
theorem q3_s (k : Nat) {lo hi : Nat} (h : lo ≤ 68) (hh : hi % 16 ≤ 4) : q3 (k + 1) (lo + 256 * hi) = g3 lo + 256 * q3 k hi := by
  have e : lo + 256 * hi + (lo + 256 * hi) / 16 = (lo + lo / 16 + hi % 16 * 16) + 256 * (hi + hi / 16) := by omega
  unfold q3 g3
  rw [mkM, e, and_split (by omega) (by decide)]
  have m : ∀ z : Nat, z &&& 15 = z % 16 := fun z => Nat.and_two_pow_sub_one_eq_mod z 4
  rw [m, m]
  congr 1
  omega
def pcT (k a : Nat) : Nat := q3 k (q2 k (q1 k a))
theorem pcT_s (k : Nat) {lo hi : Nat} (h : lo < 256) : pcT (k + 1) (lo + 256 * hi) = cnt (fun j => lo.testBit j) 8 + 256 * pcT k hi := by
  have t := tab3 lo h
  have hh : q2 k (q1 k hi) % 16 ≤ 4 := by
    cases k with
    | zero => simp [q2, mkM]
    | succ k =>
      have e : hi = hi % 256 + 256 * (hi / 256) := by omega
      have hl : hi % 256 < 256 := Nat.mod_lt _ (by decide)
      rw [e, q1_s k hl, q2_s k (tab1 _ hl).1]
      have := (tab3 (hi % 256) hl).2.1
      omega
  unfold pcT
  rw [q1_s k h, q2_s k (tab1 lo h).1, q3_s k t.1 hh, t.2.2.1]
def pcB (a k : Nat) : Nat := cnt (fun j => (a / 256 ^ k % 256).testBit j) 8
theorem pcB_le (a k : Nat) : pcB a k ≤ 8 := cnt_le _ 8
theorem pcT_8 (a : Nat) : pcT 8 a = pcB a 0 + 256 * (pcB a 1 + 256 * (pcB a 2 + 256 * (pcB a 3 + 256 * (pcB a 4 + 256 * (pcB a 5 + 256 * (pcB a 6 + 256 * pcB a 7)))))) := by
  have st : ∀ k z, pcT (k + 1) z = cnt (fun j => (z % 256).testBit j) 8 + 256 * pcT k (z / 256) := by
    intro k z
    have e : z = z % 256 + 256 * (z / 256) := by omega
    conv => lhs; rw [e]
    exact pcT_s k (Nat.mod_lt _ (by decide))
  have z0 : ∀ z, pcT 0 z = 0 := by intro z; simp [pcT, q3, mkM]
  rw [st 7, st 6, st 5, st 4, st 3, st 2, st 1, st 0, z0]
  simp only [Nat.div_div_eq_div_mul]
  unfold pcB
  simp only [Nat.pow_zero, Nat.div_one]
  rfl
theorem cnt_split (p : Nat → Bool) (m : Nat) : ∀ n, cnt p (m + n) = cnt p m + cnt (fun k => p (m + k)) n
  | 0 => rfl
  | n + 1 => by rw [← Nat.add_assoc, cnt, cnt_split p m n, cnt]; omega
theorem cnt_byte (a n : Nat) : cnt (fun k => a.testBit k) (8 + n) = cnt (fun k => (a % 256).testBit k) 8 + cnt (fun k => (a / 256).testBit k) n := by
  rw [cnt_split]
  congr 1
  · apply cnt_cong
    intro k hk
    rw [show (256 : Nat) = 2 ^ 8 from rfl, Nat.testBit_mod_two_pow]
    simp [hk]
  · apply cnt_cong
    intro k hk
    rw [show (256 : Nat) = 2 ^ 8 from rfl, ← Nat.shiftRight_eq_div_pow, Nat.testBit_shiftRight]
theorem cnt_8 (x : Nat) : cnt (fun k => x.testBit k) 8 = cnt (fun k => (x % 256).testBit k) 8 := by
  apply cnt_cong
  intro k hk
  rw [show (256 : Nat) = 2 ^ 8 from rfl, Nat.testBit_mod_two_pow]
  simp [hk]
theorem cnt_64 (a : Nat) : cnt (fun k => a.testBit k) 64 = pcB a 0 + (pcB a 1 + (pcB a 2 + (pcB a 3 + (pcB a 4 + (pcB a 5 + (pcB a 6 + pcB a 7)))))) := by
  have e : cnt (fun k => a.testBit k) 64 = cnt (fun k => a.testBit k) (8 + (8 + (8 + (8 + (8 + (8 + (8 + 8))))))) := rfl
  rw [e, cnt_byte, cnt_byte, cnt_byte, cnt_byte, cnt_byte, cnt_byte, cnt_byte, cnt_8 (_ / _)]
  simp only [Nat.div_div_eq_div_mul]
  unfold pcB
  simp only [Nat.pow_zero, Nat.div_one]
def pc1 (a : Nat) : Nat := a - (a / 2 ^ 1 &&& 6148914691236517205)
def pc2 (a : Nat) : Nat := (a &&& 3689348814741910323) + (a / 2 ^ 2 &&& 3689348814741910323)
def pc3 (a : Nat) : Nat := (a + a / 2 ^ 4) &&& 1085102592571150095
theorem pc_T (a : Nat) : pc3 (pc2 (pc1 a)) = pcT 8 a := by
  unfold pc3 pc2 pc1 pcT q3 q2 q1
  rw [show mkM 85 8 = 6148914691236517205 by decide +kernel, show mkM 51 8 = 3689348814741910323 by decide +kernel, show mkM 15 8 = 1085102592571150095 by decide +kernel]
theorem pc_e2 {d z z1 z2 b0 b1 b2 : Nat} (hd : d = b0 + 256 * z) (hz : z = b1 + 256 * z1) (hz1 : z1 = b2 + 256 * z2) (h0 : b0 ≤ 8) (h1 : b1 ≤ 8) (h2 : b2 ≤ 8) : (d + z) / 65536 = z1 + z2 := by omega
theorem pc_e3 {d z z1 z2 w w1 w2 w3 b0 b1 b2 b3 b4 b5 b6 : Nat} (hd : d = b0 + 256 * b1 + 65536 * b2 + 16777216 * b3 + 4294967296 * w) (hz : z = b1 + 256 * b2 + 65536 * b3 + 16777216 * b4 + 4294967296 * w1) (hz1 : z1 = b2 + 256 * b3 + 65536 * b4 + 16777216 * b5 + 4294967296 * w2) (hz2 : z2 = b3 + 256 * b4 + 65536 * b5 + 16777216 * b6 + 4294967296 * w3) (h0 : b0 ≤ 8) (h1 : b1 ≤ 8) (h2 : b2 ≤ 8) (h3 : b3 ≤ 8) (h4 : b4 ≤ 8) (h5 : b5 ≤ 8) (h6 : b6 ≤ 8) : (d + z + (z1 + z2)) / 4294967296 = w + w1 + (w2 + w3) := by
  have e : d + z + (z1 + z2) = (b0 + 256 * b1 + 65536 * b2 + 16777216 * b3 + (b1 + 256 * b2 + 65536 * b3 + 16777216 * b4) + (b2 + 256 * b3 + 65536 * b4 + 16777216 * b5) + (b3 + 256 * b4 + 65536 * b5 + 16777216 * b6)) + 4294967296 * (w + w1 + (w2 + w3)) := by omega
  rw [e, Nat.add_mul_div_left _ _ (by decide), Nat.div_eq_of_lt (by omega), Nat.zero_add]
theorem pc_fin (d : Nat) (b0 b1 b2 b3 b4 b5 b6 b7 : Nat) (h : d = b0 + 256 * (b1 + 256 * (b2 + 256 * (b3 + 256 * (b4 + 256 * (b5 + 256 * (b6 + 256 * b7))))))) (h0 : b0 ≤ 8) (h1 : b1 ≤ 8) (h2 : b2 ≤ 8) (h3 : b3 ≤ 8) (h4 : b4 ≤ 8) (h5 : b5 ≤ 8) (h6 : b6 ≤ 8) (h7 : b7 ≤ 8) :
    (d + d / 2 ^ 8 + (d + d / 2 ^ 8) / 2 ^ 16 + (d + d / 2 ^ 8 + (d + d / 2 ^ 8) / 2 ^ 16) / 2 ^ 32) &&& 127 = b0 + (b1 + (b2 + (b3 + (b4 + (b5 + (b6 + b7)))))) := by
  rw [Nat.and_two_pow_sub_one_eq_mod _ 7, show (2 : Nat) ^ 8 = 256 from rfl, show (2 : Nat) ^ 16 = 65536 from rfl, show (2 : Nat) ^ 32 = 4294967296 from rfl, show (2 : Nat) ^ 7 = 128 from rfl]
  obtain ⟨w2, hw2⟩ : ∃ w2, w2 = b6 + 256 * b7 := ⟨_, rfl⟩
  rw [← hw2] at h
  obtain ⟨w1, hw1⟩ : ∃ w1, w1 = b5 + 256 * w2 := ⟨_, rfl⟩
  rw [← hw1] at h
  obtain ⟨w, hw⟩ : ∃ w, w = b4 + 256 * w1 := ⟨_, rfl⟩
  rw [← hw] at h
  obtain ⟨z2, hz2⟩ : ∃ z2, z2 = b3 + 256 * w := ⟨_, rfl⟩
  rw [← hz2] at h
  obtain ⟨z1, hz1⟩ : ∃ z1, z1 = b2 + 256 * z2 := ⟨_, rfl⟩
  rw [← hz1] at h
  obtain ⟨z, hz⟩ : ∃ z, z = b1 + 256 * z1 := ⟨_, rfl⟩
  rw [← hz] at h
  have e1 : d / 256 = z := by omega
  rw [e1, pc_e2 h hz hz1 h0 h1 h2, pc_e3 (w3 := b7) (b0 := b0) (b1 := b1) (b2 := b2) (b3 := b3) (b4 := b4) (b5 := b5) (b6 := b6) (w := w) (w1 := w1) (w2 := w2) (by omega) (by omega) (by omega) (by omega) h0 h1 h2 h3 h4 h5 h6]
  omega
theorem pc_all (a : Nat) : (pc3 (pc2 (pc1 a)) + pc3 (pc2 (pc1 a)) / 2 ^ 8 + (pc3 (pc2 (pc1 a)) + pc3 (pc2 (pc1 a)) / 2 ^ 8) / 2 ^ 16 + (pc3 (pc2 (pc1 a)) + pc3 (pc2 (pc1 a)) / 2 ^ 8 + (pc3 (pc2 (pc1 a)) + pc3 (pc2 (pc1 a)) / 2 ^ 8) / 2 ^ 16) / 2 ^ 32) &&& 127 = cnt (fun k => a.testBit k) 64 := by
  rw [cnt_64]
  exact pc_fin _ _ _ _ _ _ _ _ _ ((pc_T a).trans (pcT_8 a)) (pcB_le a 0) (pcB_le a 1) (pcB_le a 2) (pcB_le a 3) (pcB_le a 4) (pcB_le a 5) (pcB_le a 6) (pcB_le a 7)
theorem pc1_eq (a : Nat) : lN a - lN (a / 2 ^ 1 &&& 6148914691236517205) = lN (pc1 a) := lN_sub (Nat.le_trans Nat.and_le_left (Nat.div_le_self _ _))
theorem pc1_lt {a : Nat} (h : a < 2 ^ 64) : pc1 a < 2 ^ 64 := Nat.lt_of_le_of_lt (Nat.sub_le _ _) h
theorem pc2_lt (a : Nat) : pc2 a < 2 ^ 64 := by
  have h1 : a &&& 3689348814741910323 ≤ 3689348814741910323 := Nat.and_le_right
  have h2 : a / 2 ^ 2 &&& 3689348814741910323 ≤ 3689348814741910323 := Nat.and_le_right
  unfold pc2
  omega
theorem pc3_le (a : Nat) : pc3 a ≤ 1085102592571150095 := Nat.and_le_right
/-- Integer.bitCount of a small one -/
def ic (x : Int32) : Int32 :=
  let s (z k : Int32) : Int32 := (z.toUInt32 >>> (k.toUInt32 &&& Int32.toUInt32 31)).toInt32
  let a := x - (s x 1 &&& 1431655765)
  let b := (a &&& 858993459) + (s a 2 &&& 858993459)
  let c := (b + s b 4) &&& 252645135
  let e := c + s c 8
  let f := e + s e 16
  f &&& 63
theorem ic_tab : ∀ k, k < 256 → ic (nI k) = nI (cnt (fun j => k.testBit j) 8) := by decide +kernel
