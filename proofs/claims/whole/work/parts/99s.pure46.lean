/-! a text is read: line by line; a fault has a number -/
section CTF
variable {tp : Nat → Int32} {en : Nat} {kwd : Nat → Int64} {s : Ls} {hd1 : Bool} {nm nm1 : Rnm} {cc1 : Nat → Nat} {A1 : Ac} {D1 : Dc} {k k1 : Tk} {n : Nat} {so us lo hi i nu : Nat}
theorem ct_x {e : Nat × Nat} (hn : 1 ≤ n) (hL : lineF tp en kwd s = .inl e) : ctF tp en kwd n s = .inl e := by
  obtain ⟨m, rfl⟩ : ∃ m, n = m + 1 := ⟨n - 1, by omega⟩
  rw [ctF, hL, sb_e]
theorem ct_go (hn : 1 ≤ n) (hL : lineF tp en kwd s = .inr (hd1, nm1, cc1, A1, D1, k1)) (h : k1.1 = 3) : ctF tp en kwd n s = ctF tp en kwd (n - 1) (hd1, nm1, cc1, A1, D1, advK tp en k1) := by
  obtain ⟨m, rfl⟩ : ∃ m, n = m + 1 := ⟨n - 1, by omega⟩
  rw [ctF, hL, sb_k]
  exact (if_neg (show ¬ k1.1 = 0 by omega)).trans (if_pos h)
theorem ct_ok (hn : 1 ≤ n) (hL : lineF tp en kwd s = .inr (hd1, nm1, cc1, A1, D1, k1)) (h : k1.1 = 0) (hm : 0 < cc1 3 ∧ 0 < cc1 4) : ctF tp en kwd n s = .inr (hd1, nm1, cc1, A1, D1, k1) := by
  obtain ⟨m, rfl⟩ : ∃ m, n = m + 1 := ⟨n - 1, by omega⟩
  rw [ctF, hL, sb_k]
  exact (if_pos h).trans (if_pos hm)
theorem ct_6 (hn : 1 ≤ n) (hL : lineF tp en kwd s = .inr (hd1, nm1, cc1, A1, D1, k1)) (h : k1.1 = 0) (hm : ¬ (0 < cc1 3 ∧ 0 < cc1 4)) : ctF tp en kwd n s = .inl (6, k1.2.1) := by
  obtain ⟨m, rfl⟩ : ∃ m, n = m + 1 := ⟨n - 1, by omega⟩
  rw [ctF, hL, sb_k]
  exact (if_pos h).trans (if_neg hm)
theorem ct_1 (hn : 1 ≤ n) (hL : lineF tp en kwd s = .inr (hd1, nm1, cc1, A1, D1, k1)) (h : ¬ k1.1 = 0) (h3 : ¬ k1.1 = 3) : ctF tp en kwd n s = .inl (1, k1.2.1) := by
  obtain ⟨m, rfl⟩ : ∃ m, n = m + 1 := ⟨n - 1, by omega⟩
  rw [ctF, hL, sb_k]
  exact (if_neg h).trans (if_neg h3)
def fP {α : Type} (x : Rx α) : Prop := ∀ e, x = .inl e → 1 ≤ e.1 ∧ e.1 ≤ 6
theorem fP_l {α : Type} {f p : Nat} (h : 1 ≤ f ∧ f ≤ 6) : fP (Sum.inl (f, p) : Rx α) := fun e he => by cases he; exact h
theorem fP_r {α : Type} (a : α) : fP (Sum.inr a : Rx α) := fun e he => by cases he
theorem fP_b {α β : Type} {x : Rx α} {f : α → Rx β} (hx : fP x) (hf : ∀ a, fP (f a)) : fP (sb x f) := by
  cases x with
  | inl e => exact fun e2 he => by cases he; exact hx e rfl
  | inr a => exact hf a
theorem fP_wd : fP (wdS tp en i k) := by
  unfold wdS
  split
  · exact fP_r _
  · exact fP_l (by decide)
theorem fP_wh : fP (whS tp en lo hi k) := by
  unfold whS
  split
  · split
    · exact fP_r _
    · exact fP_l (by decide)
  · exact fP_l (by decide)
theorem fP_pn : fP (pnS tp en kwd so us nm k) := by
  unfold pnS
  split
  · split
    · exact fP_l (by decide)
    · split
      · split
        · exact fP_l (by decide)
        · exact fP_r _
      · exact fP_l (by decide)
  · exact fP_l (by decide)
theorem fP_nm : fP (nmS tp en kwd so nu nm k) := by
  unfold nmS
  split
  · split
    · exact fP_r _
    · exact fP_l (by decide)
  · exact fP_l (by decide)
theorem fP_fo : fP (foS tp en k) := by
  unfold foS
  split
  · exact fP_l (by decide)
  · exact fP_r _
theorem fP_kb : fP (kbS tp en k) := by
  unfold kbS
  split
  · exact fP_r _
  · split
    · exact fP_r _
    · exact fP_l (by decide)
theorem fP_ds : ∀ (n s : Nat) (k : Tk), fP (dsF tp en kwd nm n s k)
  | 0, s, k => by rw [dsF]; exact fP_r _
  | n + 1, s, k => by
    rw [dsF]
    refine fP_b fP_pn (fun a => ?_)
    split
    · exact fP_ds n _ _
    · exact fP_r _
theorem fP_set : fP (setF tp en kwd nm k) := by
  unfold setF
  split
  · exact fP_r _
  · exact fP_ds 7 0 k
theorem fP_head : fP (headF tp en k) := by
  unfold headF
  exact fP_b fP_wd fun _ => fP_b fP_wh fun _ => fP_b fP_wd fun _ => fP_b fP_wh fun _ => fP_b fP_wd fun _ => fP_b fP_wh fun _ => fP_r _
theorem fP_clause {c : Nat} : fP (clauseF tp en kwd c nm k) := by
  unfold clauseF
  refine fP_b fP_nm fun _ => fP_b fP_wd fun _ => fP_b fP_pn fun _ => fP_b fP_wd fun _ => fP_b fP_wh fun _ => fP_b fP_fo fun _ => fP_b fP_pn fun _ => ?_
  split
  · exact fP_r _
  · exact fP_b fP_pn fun _ => fP_r _
theorem fP_did : fP (didF tp en kwd nm k) := by
  unfold didF
  exact fP_b fP_pn fun _ => fP_b fP_wd fun _ => fP_b fP_wh fun _ => fP_b fP_kb fun _ => fP_b fP_set fun _ => fP_r _
theorem fP_line : fP (lineF tp en kwd s) := by
  obtain ⟨hd, nm, cy, A, D, k⟩ := s
  unfold lineF
  split
  · exact fP_l (by decide)
  · rename_i so hso
    have hlt : so < 6 := by have := (fst_lt _ _ _ hso).1; omega
    split
    · exact fP_l (by decide)
    · split
      · exact fP_l (by decide)
      · split
        · exact fP_l (by decide)
        · obtain rfl | rfl | rfl | rfl | rfl | rfl : so = 0 ∨ so = 1 ∨ so = 2 ∨ so = 3 ∨ so = 4 ∨ so = 5 := by omega
          · exact fP_b fP_head fun _ => fP_r _
          · exact fP_b fP_nm fun _ => fP_r _
          · exact fP_b fP_nm fun _ => fP_r _
          · exact fP_b fP_clause fun _ => fP_r _
          · exact fP_b fP_pn fun _ => fP_r _
          · exact fP_b fP_did fun _ => fP_r _
end CTF
