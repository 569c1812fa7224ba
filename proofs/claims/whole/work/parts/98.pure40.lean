/-! the reference's words beside the class's -/
theorem kw_t : ∀ i, i < 20 → pkF 27 i (st_tx.getD i []).length < 27 ^ 8 ∧ pkF 32 i (st_tx.getD i []).length = cvN 8 (pkF 27 i (st_tx.getD i []).length) := by decide +kernel
theorem cv_lt : ∀ n v, cvN n v < 32 ^ n ∨ n = 0
  | 0, _ => Or.inr rfl
  | n + 1, v => by
    left
    rw [cvN, Nat.pow_succ]
    have h1 : v % 27 < 27 := Nat.mod_lt _ (by decide)
    rcases cv_lt n (v / 27) with h | h
    · omega
    · subst h
      show 32 * cvN 0 _ + _ < 32 ^ 0 * 32
      rw [cvN]; omega
theorem cv_8 (v : Nat) : cvN 8 v < 2 ^ 64 := by
  rcases cv_lt 8 v with h | h
  · exact Nat.lt_trans h (by decide)
  · cases h
section W8
variable {k : Tk} {so pl sp i : Nat} {wd : Int64} {nb : Int32}
theorem t8_is (h : T8 k so pl sp wd nb) (hi : i < 20) : (so = 2 ∧ wd = lN (pkS 32 i)) ↔ (k.1 = 1 ∧ k.2.2.2 = lN (pkS 27 i)) := by
  have hk := kw_t i hi
  rw [pkS_e, pkS_e]
  obtain ⟨-, h⟩ := h
  constructor
  · rintro ⟨h1, h2⟩
    rcases h with h | h | h | h | h | h
    · omega
    · obtain ⟨a1, a2, a3, v, b1, b2, b3⟩ := h
      refine ⟨a1, ?_⟩
      rw [b3, hk.2] at h2
      have := (lN_inj (cv_8 _) (cv_8 _)).mp h2
      rw [b2, cv_inj 8 _ _ b1 hk.1 this]
    · omega
    · omega
    · omega
    · omega
  · rintro ⟨h1, h2⟩
    rcases h with h | h | h | h | h | h
    · omega
    · obtain ⟨a1, a2, a3, v, b1, b2, b3⟩ := h
      refine ⟨a2, ?_⟩
      rw [b2] at h2
      have : v = _ := (lN_inj (Nat.lt_trans b1 (by decide)) (Nat.lt_trans hk.1 (by decide))).mp h2
      rw [b3, this, hk.2]
    · omega
    · omega
    · omega
    · omega
theorem t8_sp (h : T8 k so pl sp wd nb) (hs : ¬ so = 0) : sp = k.2.2.1 := by
  obtain ⟨-, h⟩ := h
  rcases h with h | h | h | h | h | h
  · exact h.2.2
  · exact h.2.2.1
  · exact h.2.2.1
  · exact h.2.2.1
  · exact h.2.2.1
  · exact absurd h.2 hs
theorem t8_3 (h : T8 k so pl sp wd nb) : (so = 3 ↔ k.1 = 2) ∧ (so = 3 → vlN k.2.2.2 < 1000 ∧ nb = nI (vlN k.2.2.2)) := by
  obtain ⟨-, h⟩ := h
  rcases h with h | h | h | h | h | h
  · exact ⟨by omega, by omega⟩
  · exact ⟨by omega, by omega⟩
  · obtain ⟨a1, a2, a3, v, b1, b2, b3⟩ := h
    refine ⟨by omega, fun _ => ?_⟩
    rw [b2, vl_lN (by omega)]
    exact ⟨b1, b3⟩
  · exact ⟨by omega, by omega⟩
  · exact ⟨by omega, by omega⟩
  · exact ⟨by omega, by omega⟩
end W8
