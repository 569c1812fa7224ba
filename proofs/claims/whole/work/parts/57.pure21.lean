/-! the reference: deeds in sets -/
def orF (a : Nat) : Nat → Nat := foldN (fun s x => if a.testBit s then x ||| s else x) 0
def andF (a i : Nat) : Nat → Nat := foldN (fun s x => if a.testBit s then x &&& s else x) i
theorem ltn {s n : Nat} (h : s < n + 1) (h2 : s ≠ n) : s < n := by omega
theorem orF_n {a s : Nat} (h : a.testBit s = false) : orF a (s + 1) = orF a s := by show (if a.testBit s then orF a s ||| s else orF a s) = orF a s; simp [h]
theorem orF_y {a s : Nat} (h : a.testBit s = true) : orF a (s + 1) = orF a s ||| s := by show (if a.testBit s then orF a s ||| s else orF a s) = orF a s ||| s; simp [h]
theorem andF_n {a i s : Nat} (h : a.testBit s = false) : andF a i (s + 1) = andF a i s := by show (if a.testBit s then andF a i s &&& s else andF a i s) = andF a i s; simp [h]
theorem andF_y {a i s : Nat} (h : a.testBit s = true) : andF a i (s + 1) = andF a i s &&& s := by show (if a.testBit s then andF a i s &&& s else andF a i s) = andF a i s &&& s; simp [h]
theorem orF_tb (a d : Nat) : ∀ n, (orF a n).testBit d = true ↔ ∃ s, s < n ∧ a.testBit s = true ∧ s.testBit d = true
  | 0 => ⟨fun h => absurd h (by rw [show orF a 0 = 0 from rfl, Nat.zero_testBit]; decide), fun ⟨s, h, _⟩ => absurd h (Nat.not_lt_zero s)⟩
  | n + 1 => by
    have ih := orF_tb a d n
    cases hb : a.testBit n with
    | false =>
      rw [orF_n hb, ih]
      exact ⟨fun ⟨s, h1, h2⟩ => ⟨s, by omega, h2⟩, fun ⟨s, h1, h2, h3⟩ => ⟨s, ltn h1 (fun e => absurd h2 (by rw [e, hb]; decide)), h2, h3⟩⟩
    | true =>
      rw [orF_y hb, Nat.testBit_or, Bool.or_eq_true, ih]
      constructor
      · rintro (⟨s, h1, h2⟩ | h)
        · exact ⟨s, by omega, h2⟩
        · exact ⟨n, by omega, hb, h⟩
      · rintro ⟨s, h1, h2, h3⟩
        rcases Nat.lt_or_ge s n with h | h
        · exact Or.inl ⟨s, h, h2, h3⟩
        · have : s = n := by omega
          subst this
          exact Or.inr h3
theorem andF_tb (a i d : Nat) : ∀ n, (andF a i n).testBit d = true ↔ i.testBit d = true ∧ ∀ s, s < n → a.testBit s = true → s.testBit d = true
  | 0 => ⟨fun h => ⟨h, fun s h => absurd h (Nat.not_lt_zero s)⟩, fun h => h.1⟩
  | n + 1 => by
    have ih := andF_tb a i d n
    cases hb : a.testBit n with
    | false =>
      rw [andF_n hb, ih]
      refine and_congr_right (fun _ => ⟨fun h s h1 h2 => h s (ltn h1 (fun e => absurd h2 (by rw [e, hb]; decide))) h2, fun h s h1 h2 => h s (by omega) h2⟩)
    | true =>
      rw [andF_y hb, Nat.testBit_and, Bool.and_eq_true, ih]
      constructor
      · rintro ⟨⟨h1, h2⟩, h3⟩
        refine ⟨h1, fun s h4 h5 => ?_⟩
        rcases Nat.lt_or_ge s n with h | h
        · exact h2 s h h5
        · have : s = n := by omega
          subst this
          exact h3
      · rintro ⟨h1, h2⟩
        exact ⟨⟨h1, fun s h4 h5 => h2 s (by omega) h5⟩, h2 n (by omega) hb⟩
theorem tb_lt2 {a s D : Nat} (ha : a < 2 ^ D) (h : a.testBit s = true) : s < D := by
  rcases Nat.lt_or_ge s D with q | q
  · exact q
  · rw [Nat.testBit_lt_two_pow (Nat.lt_of_lt_of_le ha (Nat.pow_le_pow_right (by decide) q))] at h; cases h
theorem nz_tb {a : Nat} (h : ¬ a = 0) : ∃ s, a.testBit s = true := by
  rcases Classical.em (∃ s, a.testBit s = true) with q | q
  · exact q
  · exact absurd (Nat.eq_of_testBit_eq (fun i => by rw [Nat.zero_testBit]; cases hb : a.testBit i; rfl; exact absurd ⟨i, hb⟩ q)) h
theorem sw_some {a d D : Nat} (hD : D ≤ 6) (ha : a < 2 ^ 2 ^ D) (hd : d < D) : (¬ a &&& swI (nI d) = 0) ↔ ∃ s, s < 2 ^ D ∧ a.testBit s = true ∧ s.testBit d = true := by
  have h64 := pow64 hD
  constructor
  · intro h
    obtain ⟨s, hs⟩ := nz_tb h
    rw [Nat.testBit_and, Bool.and_eq_true] at hs
    have hs1 := tb_lt2 ha hs.1
    rw [swI_tb (by omega) (by omega)] at hs
    exact ⟨s, hs1, hs.1, hs.2⟩
  · rintro ⟨s, h1, h2, h3⟩ h
    have h4 : (a &&& swI (nI d)).testBit s = true := by rw [Nat.testBit_and, h2, swI_tb (by omega) (by omega), h3]; rfl
    rw [h, Nat.zero_testBit] at h4
    cases h4
theorem sw_none {a d D : Nat} (hD : D ≤ 6) (ha : a < 2 ^ 2 ^ D) (hd : d < D) : (a &&& (swI (nI d) ^^^ full64) = 0) ↔ ∀ s, s < 2 ^ D → a.testBit s = true → s.testBit d = true := by
  have h64 := pow64 hD
  constructor
  · intro h s h1 h2
    have h4 : (a &&& (swI (nI d) ^^^ full64)).testBit s = false := by rw [h, Nat.zero_testBit]
    rw [Nat.testBit_and, h2, x_full _ (by omega), swI_tb (by omega) (by omega)] at h4
    cases hq : s.testBit d
    · rw [hq] at h4; cases h4
    · rfl
  · intro h
    refine Nat.eq_of_testBit_eq (fun s => ?_)
    rw [Nat.zero_testBit, Nat.testBit_and]
    cases h2 : a.testBit s with
    | false => rfl
    | true =>
      have h1 := tb_lt2 ha h2
      rw [x_full _ (by omega), swI_tb (by omega) (by omega), h s h1 h2]; rfl
theorem or_e {a D : Nat} (hD : D ≤ 6) (ha : a < 2 ^ 2 ^ D) : orF a (2 ^ D) = bbits (fun d => decide (¬ a &&& swI (nI d) = 0)) D := by
  refine Nat.eq_of_testBit_eq (fun d => ?_)
  rw [bbits_tb, Bool.eq_iff_iff, orF_tb]
  by_cases hd : d < D
  · rw [decide_eq_true hd, Bool.true_and, decide_eq_true_iff, sw_some hD ha hd]
  · rw [decide_eq_false hd, Bool.false_and]
    refine ⟨fun ⟨s, h1, h2, h3⟩ => ?_, fun h => by cases h⟩
    rw [Nat.testBit_lt_two_pow (Nat.lt_of_lt_of_le h1 (Nat.pow_le_pow_right (by decide) (by omega)))] at h3; cases h3
theorem and_e {a D : Nat} (hD : D ≤ 6) (ha : a < 2 ^ 2 ^ D) (h0 : ¬ a = 0) : andF a (2 ^ D - 1) (2 ^ D) = bbits (fun d => decide (¬ a = 0 ∧ a &&& (swI (nI d) ^^^ full64) = 0)) D := by
  refine Nat.eq_of_testBit_eq (fun d => ?_)
  rw [bbits_tb, Bool.eq_iff_iff, andF_tb, Nat.testBit_two_pow_sub_one]
  by_cases hd : d < D
  · rw [decide_eq_true hd, Bool.true_and, decide_eq_true_iff, sw_none hD ha hd]
    exact ⟨fun h => ⟨h0, h.2⟩, fun h => ⟨rfl, h.2⟩⟩
  · rw [decide_eq_false hd, Bool.false_and]
    exact ⟨fun h => h.1, fun h => by cases h⟩
theorem must_0 (D : Nat) : bbits (fun d => decide (¬ (0 : Nat) = 0 ∧ 0 &&& (swI (nI d) ^^^ full64) = 0)) D = 0 := bbits_zero.mpr (fun k _ => decide_eq_false (fun q => q.1 rfl))
theorem kpN_ltD (cy Fs Ft : Nat → Nat) (t bs : Nat) : kpN cy Fs Ft t bs < 2 ^ 2 ^ cy 4 := by
  have h := skF_le Fs Ft bs t (allS (cy 4)) (cy 5)
  have h2 : 0 < 2 ^ 2 ^ cy 4 := Nat.pow_pos (by decide)
  unfold allS at h
  unfold kpN allS
  omega
theorem skF_tb (Fs Ft : Nat → Nat) (bs t a0 s : Nat) : ∀ n, (skF Fs Ft bs t a0 n).testBit s = true ↔ a0.testBit s = true ∧ ∀ c, c < n → bs.testBit c = true → (if t.testBit c = true then Ft c else Fs c).testBit s = true
  | 0 => ⟨fun h => ⟨h, fun c h => absurd h (Nat.not_lt_zero c)⟩, fun h => h.1⟩
  | n + 1 => by
    have ih := skF_tb Fs Ft bs t a0 s n
    rw [skF]
    by_cases hb : bs.testBit n = true
    · rw [if_pos hb, Nat.testBit_and, Bool.and_eq_true, ih]
      constructor
      · rintro ⟨⟨h1, h2⟩, h3⟩
        refine ⟨h1, fun c h4 h5 => ?_⟩
        rcases Nat.lt_or_ge c n with h | h
        · exact h2 c h h5
        · have : c = n := by omega
          subst this
          exact h3
      · rintro ⟨h1, h2⟩
        exact ⟨⟨h1, fun c h4 h5 => h2 c (by omega) h5⟩, h2 n (by omega) hb⟩
    · rw [if_neg hb, ih]
      refine and_congr_right (fun _ => ⟨fun h c h1 h2 => h c (ltn h1 (fun e => hb (by rw [← e]; exact h2))) h2, fun h c h1 h2 => h c (by omega) h2⟩)
theorem all_tb {D s : Nat} (h : s < 2 ^ D) : (allS D).testBit s = true := by rw [allS, Nat.testBit_two_pow_sub_one, decide_eq_true h]
theorem kp_one {cy Fs Ft : Nat → Nat} {t c s : Nat} (hc : c < cy 5) (hs : s < 2 ^ cy 4) : (kpN cy Fs Ft t (2 ^ c)).testBit s = (if t.testBit c = true then Ft c else Fs c).testBit s := by
  rw [Bool.eq_iff_iff, kpN, skF_tb]
  constructor
  · intro h
    exact h.2 c hc (by rw [Nat.testBit_two_pow_self])
  · intro h
    refine ⟨all_tb hs, fun j _ hj => ?_⟩
    rw [Nat.testBit_two_pow] at hj
    have := of_decide_eq_true hj
    subst this
    exact h
