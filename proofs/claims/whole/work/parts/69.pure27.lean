/-! the reference: how many of those that fit have a clause turned -/
theorem ti_no {p : Nat → Bool} {u k s : Nat} (h : p s = false) : (if k < u then cnt (fun s => p s && s.testBit k) (s + 1) else 0) = if k < u then cnt (fun s => p s && s.testBit k) s else 0 := by
  rw [cnt_f (p := fun s => p s && s.testBit k) (by show (p s && s.testBit k) = false; rw [h]; rfl)]
theorem ti_yes {p : Nat → Bool} {u k s : Nat} (h : p s = true) : (if k < u then (if k < u then cnt (fun s => p s && s.testBit k) s else 0) + (s.testBit k).toNat else (if k < u then cnt (fun s => p s && s.testBit k) s else 0)) = if k < u then cnt (fun s => p s && s.testBit k) (s + 1) else 0 := by
  by_cases hk : k < u
  · rw [if_pos hk, if_pos hk, if_pos hk]
    cases hb : s.testBit k with
    | false => rw [cnt_f (p := fun s => p s && s.testBit k) (by show (p s && s.testBit k) = false; rw [hb, Bool.and_false])]; rfl
    | true => rw [cnt_t (p := fun s => p s && s.testBit k) (by show (p s && s.testBit k) = true; rw [h, hb]; rfl)]; rfl
  · rw [if_neg hk, if_neg hk, if_neg hk]
theorem ti_up {vh vg : Nat → Nat} {vk s b : Nat} (hh : ∀ k, k < 5 → vh k = if k < vk then vg k + (s.testBit k).toNat else vg k) (h5 : vk < 5) (hb : b = (s.testBit vk).toNat) : ∀ k, k < 5 → upN vh vk (vh vk + b) k = if k < vk + 1 then vg k + (s.testBit k).toNat else vg k := by
  intro k hk
  by_cases h : k = vk
  · subst h
    rw [upN_at, if_pos (Nat.lt_succ_self _), hh k hk, if_neg (Nat.lt_irrefl _), hb]
  · rw [upN_ne _ _ h, hh k hk]
    by_cases h2 : k < vk
    · rw [if_pos h2, if_pos (by omega)]
    · rw [if_neg h2, if_neg (by omega)]
