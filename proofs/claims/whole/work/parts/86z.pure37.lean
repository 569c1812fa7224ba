/-! reading: a line keeps what holds -/
section RIL
variable {tp : Nat → Int32} {en : Nat} {kwd : Nat → Int64} {hd : Bool} {nm : Rnm} {cy : Nat → Nat} {A : Ac} {D : Dc} {k : Tk} {s' : Ls}
theorem head_mem {b s r : Nat} {k' : Tk} (h : headF tp en k = .inr (b, s, r, k')) : b ≤ 9 ∧ s ≤ 100 ∧ r ≤ 100 := by
  unfold headF at h
  obtain ⟨k1, -, h⟩ := sb_inr h
  obtain ⟨⟨x1, k2⟩, a1, h⟩ := sb_inr h
  obtain ⟨k3, -, h⟩ := sb_inr h
  obtain ⟨⟨x2, k4⟩, a2, h⟩ := sb_inr h
  obtain ⟨k5, -, h⟩ := sb_inr h
  obtain ⟨⟨x3, k6⟩, a3, h⟩ := sb_inr h
  cases h
  exact ⟨(wh_mem a1).2.1, (wh_mem a2).2.1, (wh_mem a3).2.1⟩
theorem RI_0 (hR : RI (hd, nm, cy, A, D, k)) (h0 : hd = false) {k1 : Tk} (h : lnF tp en kwd 0 hd nm cy A D k1 = .inr s') : RI s' := by
  have hn : RIn nm cy := hR.1
  have hc : RIc cy A := hR.2.1
  have hdd : RId cy D := hR.2.2.1
  have hh : RIh hd cy := hR.2.2.2
  obtain ⟨⟨b, s, r, k'⟩, hx, he⟩ := sb_inr h
  obtain ⟨g1, g2, g3⟩ := head_mem hx
  cases he
  exact ⟨hn, hc, hdd, fun q => Bool.noConfusion q, fun _ => ⟨g1, g2, g3⟩⟩
theorem RIn_up {so x : Nat} {nms : Nat → Int64} {cy' : Nat → Nat} (hn : RIn nm cy) (h3 : cy 3 ≤ cy' 3) (h4 : cy 4 ≤ cy' 4) (h5 : cy 5 ≤ cy' 5) (e : nm.1 + 1 = cy' 3 + cy' 4 + cy' 5) (b3 : cy' 3 ≤ 4) (b4 : cy' 4 ≤ 6) (b5 : cy' 5 ≤ 8) (hx : (so = 1 ∧ x < cy' 3) ∨ (so = 2 ∧ x < cy' 4) ∨ (so = 3 ∧ x < cy' 5)) : RIn (nm.1 + 1, nms, upN nm.2.2.1 nm.1 so, upN nm.2.2.2 nm.1 x) cy' := by
  refine ⟨e, b3, b4, b5, fun i hi => ?_⟩
  show (upN nm.2.2.1 nm.1 so i = 1 ∧ upN nm.2.2.2 nm.1 x i < cy' 3) ∨ (upN nm.2.2.1 nm.1 so i = 2 ∧ upN nm.2.2.2 nm.1 x i < cy' 4) ∨ (upN nm.2.2.1 nm.1 so i = 3 ∧ upN nm.2.2.2 nm.1 x i < cy' 5)
  by_cases q : i = nm.1
  · subst q
    rw [upN_at, upN_at]
    exact hx
  · rw [upN_ne _ _ q, upN_ne _ _ q]
    have hi2 : i < nm.1 := by
      have : i < nm.1 + 1 := hi
      omega
    rcases hn.2.2.2.2 i hi2 with z | z | z
    · exact Or.inl ⟨z.1, by omega⟩
    · exact Or.inr (Or.inl ⟨z.1, by omega⟩)
    · exact Or.inr (Or.inr ⟨z.1, by omega⟩)
theorem okU_up {fo a D D' : Nat} {x : Int32} (h : okU fo a x D) (hD : D ≤ D') : okU fo a x D' := by
  rcases h with h | ⟨h1, y, h2, h3, h4⟩
  · exact Or.inl h
  · exact Or.inr ⟨h1, y, by omega, h3, h4⟩
theorem RIc_up {cy' : Nat → Nat} (hc : RIc cy A) (h3 : cy 3 ≤ cy' 3) (h4 : cy 4 ≤ cy' 4) (h5 : cy' 5 = cy 5) : RIc cy' A := by
  refine ⟨hc.1, fun c hc5 => ?_⟩
  obtain ⟨a1, a2, a3, a4, a5⟩ := hc.2 c (by omega)
  exact ⟨a1, by omega, okU_up a3 h4, by omega, a5⟩
theorem RId_up {cy' : Nat → Nat} (hd : RId cy D) (h3 : cy 3 ≤ cy' 3) (h4 : cy 4 ≤ cy' 4) (h5 : cy 5 ≤ cy' 5) (h6 : cy' 6 = cy 6) (h7 : cy' 7 = cy 7) : RId cy' D := by
  obtain ⟨a1, a2, a3, a4, a5⟩ := hd
  refine ⟨by omega, fun j hj => ?_, fun j hj => a3 j (by omega), by omega, fun i hi => ?_⟩
  · have := a2 j (by omega)
    omega
  · obtain ⟨b1, b2, b3⟩ := a5 i (by omega)
    exact ⟨by omega, b2, Nat.lt_of_lt_of_le b3 (Nat.pow_le_pow_right (by decide) h4)⟩
theorem RI_1 (hR : RI (hd, nm, cy, A, D, k)) (h0 : hd = true) (hf : fuB cy 1 = false) {k1 : Tk} (h : lnF tp en kwd 1 hd nm cy A D k1 = .inr s') : RI s' := by
  have hn : RIn nm cy := hR.1
  have hc : RIc cy A := hR.2.1
  have hdd : RId cy D := hR.2.2.1
  have hh : RIh hd cy := hR.2.2.2
  obtain ⟨⟨y, k'⟩, hx, he⟩ := sb_inr h
  obtain ⟨rfl, h18, -⟩ := nm_mem hx
  have hf2 : ¬ 4 ≤ cy 3 := of_decide_eq_false hf
  have e1 := hn.1
  have e2 := hn.2.2.1
  have e3 := hn.2.2.2.1
  cases he
  refine ⟨RIn_up hn ?_ ?_ ?_ ?_ ?_ ?_ ?_ (Or.inl ⟨rfl, ?_⟩), RIc_up hc ?_ ?_ rfl, RId_up hdd ?_ ?_ ?_ rfl rfl, fun q => Bool.noConfusion (h0.symm.trans q), fun _ => hh.2 h0⟩
  all_goals first | exact Nat.le_refl _ | (show cy 3 ≤ cy 3 + 1; omega) | (show nm.1 + 1 = cy 3 + 1 + cy 4 + cy 5; omega) | (show cy 3 + 1 ≤ 4; omega) | exact e2 | exact e3 | (show cy 3 < cy 3 + 1; omega)
theorem RI_2 (hR : RI (hd, nm, cy, A, D, k)) (h0 : hd = true) (hf : fuB cy 2 = false) {k1 : Tk} (h : lnF tp en kwd 2 hd nm cy A D k1 = .inr s') : RI s' := by
  have hn : RIn nm cy := hR.1
  have hc : RIc cy A := hR.2.1
  have hdd : RId cy D := hR.2.2.1
  have hh : RIh hd cy := hR.2.2.2
  obtain ⟨⟨y, k'⟩, hx, he⟩ := sb_inr h
  obtain ⟨rfl, h18, -⟩ := nm_mem hx
  have hf2 : ¬ 6 ≤ cy 4 := of_decide_eq_false hf
  have e1 := hn.1
  have e2 := hn.2.1
  have e3 := hn.2.2.2.1
  cases he
  refine ⟨RIn_up hn ?_ ?_ ?_ ?_ ?_ ?_ ?_ (Or.inr (Or.inl ⟨rfl, ?_⟩)), RIc_up hc ?_ ?_ rfl, RId_up hdd ?_ ?_ ?_ rfl rfl, fun q => Bool.noConfusion (h0.symm.trans q), fun _ => hh.2 h0⟩
  all_goals first | exact Nat.le_refl _ | (show cy 4 ≤ cy 4 + 1; omega) | (show nm.1 + 1 = cy 3 + (cy 4 + 1) + cy 5; omega) | (show cy 4 + 1 ≤ 6; omega) | exact e2 | exact e3 | (show cy 4 < cy 4 + 1; omega)
theorem RI_3 (hR : RI (hd, nm, cy, A, D, k)) (h0 : hd = true) (hf : fuB cy 3 = false) {k1 : Tk} (h : lnF tp en kwd 3 hd nm cy A D k1 = .inr s') : RI s' := by
  have hn : RIn nm cy := hR.1
  have hc : RIc cy A := hR.2.1
  have hdd : RId cy D := hR.2.2.1
  have hh : RIh hd cy := hR.2.2.2
  obtain ⟨⟨y, xm, xi, xf, xa, xb, k'⟩, hx, he⟩ := sb_inr h
  have hf2 : ¬ 8 ≤ cy 5 := of_decide_eq_false hf
  have e1 := hn.1
  have e2 := hn.2.1
  have e3 := hn.2.2.1
  unfold clauseF at hx
  obtain ⟨⟨y', k2⟩, a1, hx⟩ := sb_inr hx
  obtain ⟨rfl, h18, -⟩ := nm_mem a1
  obtain ⟨k3, -, hx⟩ := sb_inr hx
  obtain ⟨⟨m, k4⟩, a2, hx⟩ := sb_inr hx
  obtain ⟨k5, -, hx⟩ := sb_inr hx
  obtain ⟨⟨ik, k6⟩, a3, hx⟩ := sb_inr hx
  obtain ⟨⟨fo, k7⟩, a4, hx⟩ := sb_inr hx
  obtain ⟨⟨a, k8⟩, a5, hx⟩ := sb_inr hx
  have old : ∀ (so x : Nat), so ≠ 3 → (∃ q, q < nm.1 + 1 ∧ upN nm.2.2.1 nm.1 3 q = so ∧ upN nm.2.2.2 nm.1 (cy 5) q = x) → (so = 1 → x < cy 3) ∧ (so = 2 → x < cy 4) := by
    rintro so x hso ⟨q, q1, q2, q3⟩
    have hq : q ≠ nm.1 := fun z => by rw [z, upN_at] at q2; exact hso q2.symm
    rw [upN_ne _ _ hq] at q2 q3
    have := hn.2.2.2.2 q (by show q < nm.1; omega)
    rw [q2, q3] at this
    constructor
    · intro z; omega
    · intro z; omega
  have hm := (old 1 m (by decide) (pn_mem a2).1).1 rfl
  have ha := (old 2 a (by decide) (pn_mem a5).1).2 rfl
  have hik := wh_mem a3
  have hfo := (fo_mem a4).1
  have hfin : y = (nm.1 + 1, vp_updL nm.2.1 nm.1 k1.2.2.2, upN nm.2.2.1 nm.1 3, upN nm.2.2.2 nm.1 (cy 5)) ∧ xm = m ∧ xi = ik ∧ xf = fo ∧ xa = a ∧ okU fo a xb (cy 4) := by
    simp only at hx
    split at hx
    · rename_i q
      cases hx
      exact ⟨rfl, rfl, rfl, rfl, rfl, Or.inl ⟨rfl, q⟩⟩
    · rename_i q
      obtain ⟨⟨b, k9⟩, a6, hx⟩ := sb_inr hx
      cases hx
      obtain ⟨b1, b2, -⟩ := pn_mem a6
      have hb := (old 2 b (by decide) b1).2 rfl
      exact ⟨rfl, rfl, rfl, rfl, rfl, Or.inr ⟨q, b, hb, fun z => absurd b2 (by rw [z, Nat.testBit_two_pow_self]; decide), rfl⟩⟩
  obtain ⟨rfl, rfl, rfl, rfl, rfl, hU⟩ := hfin
  cases he
  refine ⟨RIn_up hn ?_ ?_ ?_ ?_ ?_ ?_ ?_ (Or.inr (Or.inr ⟨rfl, ?_⟩)), ⟨fun c => ?_, fun c hc5 => ?_⟩, RId_up hdd ?_ ?_ ?_ rfl rfl, fun q => Bool.noConfusion (h0.symm.trans q), fun _ => hh.2 h0⟩
  case refine_9 => exact upN_le hc.1 hik.2.1 c
  case refine_10 =>
    have hc6 : c < cy 5 + 1 := hc5
    show upN A.1 (cy 5) xf c ≤ 5 ∧ upN A.2.1 (cy 5) xa c < cy 4 ∧ okU (upN A.1 (cy 5) xf c) (upN A.2.1 (cy 5) xa c) (upd A.2.2.1 (cy 5) xb c) (cy 4) ∧ upN A.2.2.2.1 (cy 5) xm c < cy 3 ∧ 1 ≤ upN A.2.2.2.2.1 (cy 5) xi c ∧ upN A.2.2.2.2.2.1 (cy 5) (strN xf (swI (nI xa)) (swI xb)) c = strN (upN A.1 (cy 5) xf c) (swI (nI (upN A.2.1 (cy 5) xa c))) (swI (upd A.2.2.1 (cy 5) xb c)) ∧ upN A.2.2.2.2.2.2 (cy 5) (turN xf (swI (nI xa)) (swI xb)) c = turN (upN A.1 (cy 5) xf c) (swI (nI (upN A.2.1 (cy 5) xa c))) (swI (upd A.2.2.1 (cy 5) xb c))
    by_cases q : c = cy 5
    · rw [q]
      simp only [upN_at, upd, if_true]
      exact ⟨by omega, ha, hU, hm, hik.1, trivial, trivial⟩
    · have e9 : upd A.2.2.1 (cy 5) xb c = A.2.2.1 c := by unfold upd; rw [if_neg q]
      simp only [upN_ne _ _ q, e9]
      exact hc.2 c (by omega)
  all_goals first | exact Nat.le_refl _ | (show cy 5 ≤ cy 5 + 1; omega) | (show nm.1 + 1 = cy 3 + cy 4 + (cy 5 + 1); omega) | (show cy 5 + 1 ≤ 8; omega) | exact e2 | exact e3 | (show cy 5 < cy 5 + 1; omega)
theorem tb_in {uc : Nat → Nat} {us i : Nat} : ∀ {n : Nat}, i < n → us.testBit i = true → (tbF uc us n).testBit (uc i) = true
  | 0, h, _ => absurd h (Nat.not_lt_zero _)
  | n + 1, h, hb => by
    rw [tbF]
    by_cases q : i = n
    · subst q
      rw [if_pos hb, Nat.testBit_or, Nat.testBit_two_pow_self, Bool.or_true]
    · have ih := tb_in (uc := uc) (n := n) (show i < n by omega) hb
      split
      · rw [Nat.testBit_or, ih]; rfl
      · exact ih
theorem RI_4 (hR : RI (hd, nm, cy, A, D, k)) (h0 : hd = true) (hf : fuB cy 4 = false) {k1 : Tk} (h : lnF tp en kwd 4 hd nm cy A D k1 = .inr s') : RI s' := by
  have hn : RIn nm cy := hR.1
  have hc : RIc cy A := hR.2.1
  have hdd : RId cy D := hR.2.2.1
  have hh : RIh hd cy := hR.2.2.2
  obtain ⟨⟨x, k'⟩, hx, he⟩ := sb_inr h
  have hf2 : ¬ 5 ≤ cy 6 := of_decide_eq_false hf
  obtain ⟨⟨q, q1, q2, q3⟩, hb, -⟩ := pn_mem hx
  have hx5 : x < cy 5 := by
    have := hn.2.2.2.2 q q1
    rw [q2, q3] at this
    omega
  have hne : ∀ i, i < cy 6 → D.1 i ≠ x := fun i hi z => by
    have := tb_in (uc := D.1) (us := 2 ^ cy 6 - 1) hi (by rw [Nat.testBit_two_pow_sub_one, decide_eq_true hi])
    rw [z, hb] at this
    cases this
  obtain ⟨a1, a2, a3, a4, a5⟩ := hdd
  cases he
  refine ⟨hn, hc, ⟨?_, fun j hj => ?_, fun j hj i hi => ?_, a4, a5⟩, fun q => Bool.noConfusion (h0.symm.trans q), fun _ => hh.2 h0⟩
  · show cy 6 + 1 ≤ 5; omega
  · have hj2 : j < cy 6 + 1 := hj
    show upN D.1 (cy 6) x j < cy 5
    unfold upN
    split
    · exact hx5
    · exact a2 j (by omega)
  · have hj2 : j < cy 6 + 1 := hj
    show upN D.1 (cy 6) x i ≠ upN D.1 (cy 6) x j
    rw [upN_ne _ _ (show i ≠ cy 6 by omega)]
    unfold upN
    split
    · exact hne i (by omega)
    · exact a3 j (by omega) i hi
theorem RI_5 (hR : RI (hd, nm, cy, A, D, k)) (h0 : hd = true) (hf : fuB cy 5 = false) {k1 : Tk} (h : lnF tp en kwd 5 hd nm cy A D k1 = .inr s') : RI s' := by
  have hn : RIn nm cy := hR.1
  have hc : RIc cy A := hR.2.1
  have hdd : RId cy D := hR.2.2.1
  have hh : RIh hd cy := hR.2.2.2
  obtain ⟨⟨xm, xd, xk, xs, k'⟩, hx, he⟩ := sb_inr h
  have hf2 : ¬ 6 ≤ cy 7 := of_decide_eq_false hf
  unfold didF at hx
  obtain ⟨⟨m, k2⟩, a1, hx⟩ := sb_inr hx
  obtain ⟨k3, -, hx⟩ := sb_inr hx
  obtain ⟨⟨d, k4⟩, a3, hx⟩ := sb_inr hx
  obtain ⟨⟨kb, k5⟩, -, hx⟩ := sb_inr hx
  obtain ⟨⟨st, k6⟩, a5, hx⟩ := sb_inr hx
  cases hx
  obtain ⟨⟨q, q1, q2, q3⟩, -, -⟩ := pn_mem a1
  have hm : m < cy 3 := by
    have := hn.2.2.2.2 q q1
    rw [q2, q3] at this
    omega
  have hs : st < 2 ^ cy 4 := set_lt (fun q q1 q2 => by have := hn.2.2.2.2 q q1; rw [q2] at this; omega) a5
  have hd40 := (wh_mem a3).2.1
  obtain ⟨b1, b2, b3, b4, b5⟩ := hdd
  cases he
  refine ⟨hn, hc, ⟨b1, b2, b3, ?_, fun i hi => ?_⟩, fun q => Bool.noConfusion (h0.symm.trans q), fun _ => hh.2 h0⟩
  · show cy 7 + 1 ≤ 6; omega
  · have hi2 : i < cy 7 + 1 := hi
    show upN D.2.1 (cy 7) m i < cy 3 ∧ upN D.2.2.1 (cy 7) d i ≤ 40 ∧ upN D.2.2.2.1 (cy 7) st i < 2 ^ cy 4
    by_cases z : i = cy 7
    · subst z
      rw [upN_at, upN_at, upN_at]
      exact ⟨hm, hd40, hs⟩
    · rw [upN_ne _ _ z, upN_ne _ _ z, upN_ne _ _ z]
      exact b5 i (by omega)
theorem RI_line {s s' : Ls} (hR : RI s) (h : lineF tp en kwd s = .inr s') : RI s' := by
  obtain ⟨hd, nm, cy, A, D, k⟩ := s
  unfold lineF at h
  split at h
  · cases h
  · rename_i so hso
    have hlt : so < 6 := by have := (fst_lt _ _ _ hso).1; omega
    split at h
    · cases h
    · rename_i h1
      split at h
      · cases h
      · rename_i h2
        split at h
        · cases h
        · rename_i h3
          simp only at h h1 h2 h3
          have hd0 : so = 0 → hd = false := fun z => by cases hd with | false => rfl | true => exact absurd ⟨z, rfl⟩ h1
          have hd1 : so ≠ 0 → hd = true := fun z => by cases hd with | true => rfl | false => exact absurd ⟨z, rfl⟩ h2
          have hfu : so ≠ 0 → fuB cy so = false := fun z => by cases e : fuB cy so with | false => rfl | true => exact absurd ⟨z, e⟩ h3
          obtain rfl | rfl | rfl | rfl | rfl | rfl : so = 0 ∨ so = 1 ∨ so = 2 ∨ so = 3 ∨ so = 4 ∨ so = 5 := by omega
          · exact RI_0 hR (hd0 rfl) h
          · exact RI_1 hR (hd1 (by decide)) (hfu (by decide)) h
          · exact RI_2 hR (hd1 (by decide)) (hfu (by decide)) h
          · exact RI_3 hR (hd1 (by decide)) (hfu (by decide)) h
          · exact RI_4 hR (hd1 (by decide)) (hfu (by decide)) h
          · exact RI_5 hR (hd1 (by decide)) (hfu (by decide)) h
end RIL
