/-! the reference's reader: bytes -/
def by8 (b : Nat) : Int32 := (nI b).toInt8.toInt32
theorem ub_e : ∀ b, b < 256 → by8 b &&& nI 255 = nI b := by decide +kernel
theorem by_32 : ∀ b, b < 256 → (by8 b = nI 32 ↔ b = 32) := by decide +kernel
theorem by_59 : ∀ b, b < 256 → (by8 b = nI 59 ↔ b = 59) := by decide +kernel
theorem by_44 : ∀ b, b < 256 → (by8 b = nI 44 ↔ b = 44) := by decide +kernel
theorem by_az : ∀ b, b < 256 → ((¬ by8 b < nI 97 ∧ ¬ nI 122 < by8 b) ↔ (97 ≤ b ∧ b ≤ 122)) := by decide +kernel
theorem by_09 : ∀ b, b < 256 → ((¬ by8 b < nI 48 ∧ ¬ nI 57 < by8 b) ↔ (48 ≤ b ∧ b ≤ 57)) := by decide +kernel
theorem by_i : ∀ b, b < 128 → by8 b = nI b := by decide +kernel
def bN (tp : Nat → Int32) (p : Nat) : Nat := (tp p &&& nI 255).toNatClampNeg
def byT (tp : Nat → Int32) : Prop := ∀ p, ∃ b, b < 256 ∧ tp p = by8 b
theorem bN_b {tp : Nat → Int32} (h : byT tp) (p : Nat) : bN tp p < 256 ∧ tp p = by8 (bN tp p) := by
  obtain ⟨b, h1, h2⟩ := h p
  have e : bN tp p = b := by
    unfold bN
    rw [h2, ub_e b h1, nI_clamp (by omega)]
  rw [e]
  exact ⟨h1, h2⟩
theorem bN_u {tp : Nat → Int32} (h : byT tp) (p : Nat) : tp p &&& nI 255 = nI (bN tp p) := by
  have := bN_b h p
  exact (congrArg (fun z => z &&& nI 255) this.2).trans (ub_e _ this.1)
/-- a word in base 27, in base 32 -/
def cvN : Nat → Nat → Nat
  | 0, _ => 0
  | n + 1, v => 32 * cvN n (v / 27) + v % 27
theorem cv_inj : ∀ (n a b : Nat), a < 27 ^ n → b < 27 ^ n → cvN n a = cvN n b → a = b
  | 0, a, b, ha, hb, _ => by simp at ha hb; omega
  | n + 1, a, b, ha, hb, h => by
    rw [cvN, cvN] at h
    have h1 : a % 27 < 27 := Nat.mod_lt _ (by decide)
    have h2 : b % 27 < 27 := Nat.mod_lt _ (by decide)
    have h3 : a % 27 = b % 27 := by omega
    have h4 : cvN n (a / 27) = cvN n (b / 27) := by omega
    have p : 27 ^ (n + 1) = 27 ^ n * 27 := Nat.pow_succ ..
    have h5 := cv_inj n (a / 27) (b / 27) (by omega) (by omega) h4
    omega
