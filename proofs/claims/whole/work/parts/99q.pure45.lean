/-! a line that is read goes on in the text -/
section PR
variable {tp : Nat → Int32} {en : Nat} {kwd : Nat → Int64} {nm : Rnm} {k k' : Tk} {so us x lo hi i nu : Nat}
theorem tk_adv (h : tkO en k) : tkO en (advK tp en k) ∧ k.2.1 ≤ (advK tp en k).2.1 := ⟨(advK_ok h).1, Nat.le_trans h.2.1 (advK_ok h).2⟩
theorem pr_wd (hO : tkO en k) (h : wdS tp en i k = .inr k') : tkO en k' ∧ k.2.1 ≤ k'.2.1 := by
  unfold wdS at h
  split at h
  · cases h
    exact tk_adv hO
  · cases h
theorem pr_wh (hO : tkO en k) (h : whS tp en lo hi k = .inr (x, k')) : tkO en k' ∧ k.2.1 ≤ k'.2.1 := by rw [(wh_mem h).2.2]; exact tk_adv hO
theorem pr_pn (hO : tkO en k) (h : pnS tp en kwd so us nm k = .inr (x, k')) : tkO en k' ∧ k.2.1 ≤ k'.2.1 := by rw [(pn_mem h).2.2]; exact tk_adv hO
theorem pr_nm {y : Rnm} (hO : tkO en k) (h : nmS tp en kwd so nu nm k = .inr (y, k')) : tkO en k' ∧ k.2.1 ≤ k'.2.1 := by rw [(nm_mem h).2.2]; exact tk_adv hO
theorem pr_fo (hO : tkO en k) (h : foS tp en k = .inr (x, k')) : tkO en k' ∧ k.2.1 ≤ k'.2.1 := by rw [(fo_mem h).2]; exact tk_adv hO
theorem pr_kb {b : Bool} (hO : tkO en k) (h : kbS tp en k = .inr (b, k')) : tkO en k' ∧ k.2.1 ≤ k'.2.1 := by
  unfold kbS at h
  split at h
  · cases h
    exact tk_adv hO
  · split at h
    · cases h
      exact tk_adv hO
    · cases h
theorem pr_ds : ∀ (n s : Nat) (k k' : Tk) (x : Nat), tkO en k → dsF tp en kwd nm n s k = .inr (x, k') → tkO en k' ∧ k.2.1 ≤ k'.2.1
  | 0, s, k, k', x, hO, h => by cases h; exact ⟨hO, Nat.le_refl _⟩
  | n + 1, s, k, k', x, hO, h => by
    rw [dsF] at h
    obtain ⟨⟨d, kd⟩, h1, h2⟩ := sb_inr h
    have b1 := pr_pn hO h1
    simp only at h2
    split at h2
    · have b2 := tk_adv (tp := tp) b1.1
      have b3 := pr_ds n _ _ k' x b2.1 h2
      exact ⟨b3.1, by omega⟩
    · cases h2
      exact b1
theorem pr_set (hO : tkO en k) (h : setF tp en kwd nm k = .inr (x, k')) : tkO en k' ∧ k.2.1 ≤ k'.2.1 := by
  unfold setF at h
  split at h
  · cases h
    exact ⟨hO, Nat.le_refl _⟩
  · exact pr_ds 7 0 k k' x hO h
theorem pr_head {y : Nat × Nat × Nat × Tk} (hO : tkO en k) (h : headF tp en k = .inr y) : tkO en y.2.2.2 ∧ k.2.1 ≤ y.2.2.2.2.1 := by
  unfold headF at h
  obtain ⟨k1, a1, h⟩ := sb_inr h
  obtain ⟨⟨x1, k2⟩, a2, h⟩ := sb_inr h
  obtain ⟨k3, a3, h⟩ := sb_inr h
  obtain ⟨⟨x2, k4⟩, a4, h⟩ := sb_inr h
  obtain ⟨k5, a5, h⟩ := sb_inr h
  obtain ⟨⟨x3, k6⟩, a6, h⟩ := sb_inr h
  cases h
  have b1 := pr_wd hO a1
  have b2 := pr_wh b1.1 a2
  have b3 := pr_wd b2.1 a3
  have b4 := pr_wh b3.1 a4
  have b5 := pr_wd b4.1 a5
  have b6 := pr_wh b5.1 a6
  exact ⟨b6.1, by show k.2.1 ≤ k6.2.1; omega⟩
theorem pr_clause {c : Nat} {y : Rnm × Nat × Nat × Nat × Nat × Int32 × Tk} (hO : tkO en k) (h : clauseF tp en kwd c nm k = .inr y) : tkO en y.2.2.2.2.2.2 ∧ k.2.1 ≤ y.2.2.2.2.2.2.2.1 := by
  unfold clauseF at h
  obtain ⟨⟨y1, k1⟩, a1, h⟩ := sb_inr h
  obtain ⟨k2, a2, h⟩ := sb_inr h
  obtain ⟨⟨x3, k3⟩, a3, h⟩ := sb_inr h
  obtain ⟨k4, a4, h⟩ := sb_inr h
  obtain ⟨⟨x5, k5⟩, a5, h⟩ := sb_inr h
  obtain ⟨⟨x6, k6⟩, a6, h⟩ := sb_inr h
  obtain ⟨⟨x7, k7⟩, a7, h⟩ := sb_inr h
  have b1 := pr_nm hO a1
  have b2 := pr_wd b1.1 a2
  have b3 := pr_pn b2.1 a3
  have b4 := pr_wd b3.1 a4
  have b5 := pr_wh b4.1 a5
  have b6 := pr_fo b5.1 a6
  have b7 := pr_pn b6.1 a7
  simp only at h
  split at h
  · cases h
    exact ⟨b7.1, by show k.2.1 ≤ k7.2.1; omega⟩
  · obtain ⟨⟨x8, k8⟩, a8, h⟩ := sb_inr h
    have b8 := pr_pn b7.1 a8
    cases h
    exact ⟨b8.1, by show k.2.1 ≤ k8.2.1; omega⟩
theorem pr_did {y : Nat × Nat × Bool × Nat × Tk} (hO : tkO en k) (h : didF tp en kwd nm k = .inr y) : tkO en y.2.2.2.2 ∧ k.2.1 ≤ y.2.2.2.2.2.1 := by
  unfold didF at h
  obtain ⟨⟨x1, k1⟩, a1, h⟩ := sb_inr h
  obtain ⟨k2, a2, h⟩ := sb_inr h
  obtain ⟨⟨x3, k3⟩, a3, h⟩ := sb_inr h
  obtain ⟨⟨x4, k4⟩, a4, h⟩ := sb_inr h
  obtain ⟨⟨x5, k5⟩, a5, h⟩ := sb_inr h
  cases h
  have b1 := pr_pn hO a1
  have b2 := pr_wd b1.1 a2
  have b3 := pr_wh b2.1 a3
  have b4 := pr_kb b3.1 a4
  have b5 := pr_set b4.1 a5
  exact ⟨b5.1, by show k.2.1 ≤ k5.2.1; omega⟩
theorem pr_ln {hd hd1 : Bool} {nm1 : Rnm} {cy cy1 : Nat → Nat} {A A1 : Ac} {D D1 : Dc} {k1 : Tk} (hlt : so < 6) (hO : tkO en k) (h : lnF tp en kwd so hd nm cy A D k = .inr (hd1, nm1, cy1, A1, D1, k1)) : tkO en k1 ∧ k.2.1 ≤ k1.2.1 := by
  obtain rfl | rfl | rfl | rfl | rfl | rfl : so = 0 ∨ so = 1 ∨ so = 2 ∨ so = 3 ∨ so = 4 ∨ so = 5 := by omega
  · obtain ⟨y, a1, h⟩ := sb_inr h
    cases h
    exact pr_head hO a1
  · obtain ⟨⟨y, kk⟩, a1, h⟩ := sb_inr h
    cases h
    exact pr_nm hO a1
  · obtain ⟨⟨y, kk⟩, a1, h⟩ := sb_inr h
    cases h
    exact pr_nm hO a1
  · obtain ⟨y, a1, h⟩ := sb_inr h
    cases h
    exact pr_clause hO a1
  · obtain ⟨⟨y, kk⟩, a1, h⟩ := sb_inr h
    cases h
    exact pr_pn hO a1
  · obtain ⟨y, a1, h⟩ := sb_inr h
    cases h
    exact pr_did hO a1
theorem pr_line {hd hd1 : Bool} {nm1 : Rnm} {cy cy1 : Nat → Nat} {A A1 : Ac} {D D1 : Dc} {k1 : Tk} (hO : tkO en k) (h : lineF tp en kwd (hd, nm, cy, A, D, k) = .inr (hd1, nm1, cy1, A1, D1, k1)) : tkO en k1 ∧ k.2.1 + 1 ≤ k1.2.1 := by
  unfold lineF at h
  split at h
  · cases h
  · rename_i so hso
    have hf := fst_lt _ _ _ hso
    have hlt : so < 6 := by have := hf.1; omega
    have hk1 : k.1 = 1 := (of_decide_eq_true hf.2).1
    split at h
    · cases h
    · split at h
      · cases h
      · split at h
        · cases h
        · simp only at h
          have b := pr_ln hlt (advK_ok (tp := tp) hO).1 h
          have c1 := (advK_ok (tp := tp) hO).2
          have c2 := hO.2.2.2 (by omega)
          exact ⟨b.1, by omega⟩
end PR
