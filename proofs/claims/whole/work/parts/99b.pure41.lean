/-! the reference's names and signs beside the class's -/
section N8
variable {k : Tk} {so pl sp i : Nat} {wd : Int64} {nb : Int32} {kwd : Nat → Int64}
theorem t8_2 (h : T8 k so pl sp wd nb) : so = 2 ↔ k.1 = 1 := by
  obtain ⟨-, h⟩ := h
  rcases h with h | h | h | h | h | h
  · constructor <;> intro z <;> omega
  · exact ⟨fun _ => h.1, fun _ => h.2.1⟩
  · constructor <;> intro z <;> omega
  · constructor <;> intro z <;> omega
  · constructor <;> intro z <;> omega
  · constructor <;> intro z <;> omega
theorem nm_f (h : T8 k so pl sp wd nb) (hk : ∀ s, s < 6 → kwd s = lN (pkS 27 s)) (hi : i < 6) (hw : decide (so = 2 ∧ wd = lN (pkS 32 i)) = true) : ¬ (k.1 = 1 ∧ fst_ (lsP k.1 k.2.2.2 kwd) 6 0 = none) := by
  rintro ⟨-, h2⟩
  have h3 := (t8_is h (show i < 20 by omega)).mp (of_decide_eq_true hw)
  have h4 : (fst_ (lsP k.1 k.2.2.2 kwd) 6 0).isSome = true := fst_isS.mpr ⟨i, hi, decide_eq_true ⟨h3.1, by rw [hk i hi]; exact h3.2⟩⟩
  rw [h2] at h4
  cases h4
theorem nm_t (h : T8 k so pl sp wd nb) (hk : ∀ s, s < 6 → kwd s = lN (pkS 27 s)) (hs : so = 2) (hw : ∀ i, i < 6 → decide (so = 2 ∧ wd = lN (pkS 32 i)) = false) : k.1 = 1 ∧ fst_ (lsP k.1 k.2.2.2 kwd) 6 0 = none := by
  refine ⟨(t8_2 h).mp hs, fst_none (fun m hm => decide_eq_false (fun z => ?_))⟩
  exact of_decide_eq_false (hw m hm) ((t8_is h (show m < 20 by omega)).mpr ⟨z.1, by rw [← hk m hm]; exact z.2⟩)
theorem six {P : Nat → Prop} (h0 : P 0) (h1 : P 1) (h2 : P 2) (h3 : P 3) (h4 : P 4) (h5 : P 5) : ∀ i, i < 6 → P i := by
  intro i hi
  obtain rfl | rfl | rfl | rfl | rfl | rfl : i = 0 ∨ i = 1 ∨ i = 2 ∨ i = 3 ∨ i = 4 ∨ i = 5 := by omega
  all_goals assumption
theorem sg_59 : ¬ nI 59 = nI 44 := by decide
theorem sg_44 : ¬ nI 44 = nI 59 := by decide
theorem t8_sg {c kd : Nat} (h : T8 k so pl sp wd nb) (hc : (c = 59 ∧ kd = 3) ∨ (c = 44 ∧ kd = 4)) : (so = 4 ∧ nb = nI c) ↔ k.1 = kd := by
  obtain ⟨-, h⟩ := h
  rcases hc with ⟨rfl, rfl⟩ | ⟨rfl, rfl⟩
  · rcases h with h | h | h | h | h | h
    · exact ⟨fun z => by omega, fun z => by omega⟩
    · exact ⟨fun z => by have := z.1; omega, fun z => by omega⟩
    · exact ⟨fun z => by have := z.1; omega, fun z => by omega⟩
    · exact ⟨fun _ => h.1, fun _ => ⟨h.2.1, h.2.2.2⟩⟩
    · exact ⟨fun z => absurd (h.2.2.2.symm.trans z.2) sg_44, fun z => by omega⟩
    · exact ⟨fun z => by have := z.1; omega, fun z => by omega⟩
  · rcases h with h | h | h | h | h | h
    · exact ⟨fun z => by omega, fun z => by omega⟩
    · exact ⟨fun z => by have := z.1; omega, fun z => by omega⟩
    · exact ⟨fun z => by have := z.1; omega, fun z => by omega⟩
    · exact ⟨fun z => absurd (h.2.2.2.symm.trans z.2) sg_59, fun z => by omega⟩
    · exact ⟨fun _ => h.1, fun _ => ⟨h.2.1, h.2.2.2⟩⟩
    · exact ⟨fun z => by have := z.1; omega, fun z => by omega⟩
end N8
