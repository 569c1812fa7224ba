/-! what the invariant gives to the reference's contracts -/
theorem ck_any : ∀ fo, fo ≤ 5 → ∀ u : Bool, ckB fo u false false = true ∨ ckB fo u true false = true ∨ (ckB fo u false true = true ∧ ¬ fo ≤ 1) := by decide
theorem tbF_cg {uc un : Nat → Nat} {s : Nat} : ∀ n, (∀ j, j < n → un j = uc j) → tbF un s n = tbF uc s n
  | 0, _ => rfl
  | n + 1, h => by rw [tbF, tbF, tbF_cg n (fun j hj => h j (by omega)), h n (by omega)]
theorem wF_cg {b : Nat} {p q : Nat → Bool} : ∀ n, (∀ i, i < n → p i = q i) → wF b p n = wF b q n
  | 0, _ => rfl
  | n + 1, h => by rw [wF, wF, wF_cg n (fun i hi => h i (by omega)), h n (by omega)]
section G8B
variable {cy f0 f1 : Nat → Nat} {f2 : Nat → Int32} {f3 f4 Fs Ft uc dm dy ds : Nat → Nat} {dk : Nat → Bool} {ink2 : Nat → Nat} {mn2 : Nat → Int32} {wt gm gi gf go_ : Nat → Nat} {gt_ : Nat → Int32} {un d1 d2_ d3 : Nat → Nat} {kp : Nat}
theorem hal_1 {fo a : Nat} {x : Int32} {D t c : Nat} (hD : D ≤ 6) (hf : fo ≤ 5) (ha : a < D) (hu : okU fo a x D) : ∃ s, s < 2 ^ D ∧ (if t.testBit c = true then turN fo (swI (nI a)) (swI x) else strN fo (swI (nI a)) (swI x)).testBit s = true := by
  have h64 : 2 ^ D ≤ 64 := pow64 hD
  have hp : 0 < 2 ^ D := Nat.pow_pos (by decide)
  have hpa : 2 ^ a < 2 ^ D := Nat.pow_lt_pow_right (by decide) ha
  have h0 : ∀ s, s < 64 → (swI (nI a)).testBit s = s.testBit a := fun s hs => swI_tb (by omega) hs
  rcases ck_any fo hf (t.testBit c) with h | h | ⟨h, hn⟩
  · refine ⟨0, hp, ?_⟩
    have e : (if t.testBit c = true then turN fo (swI (nI a)) (swI x) else strN fo (swI (nI a)) (swI x)).testBit 0 = ckB fo (t.testBit c) ((swI (nI a)).testBit 0) ((swI x).testBit 0) := ck_eq hf _ (by decide)
    have e2 : (swI x).testBit 0 = false := by
      rcases hu with ⟨rfl, -⟩ | ⟨-, y, hy, -, rfl⟩
      · rw [show swI (-2) = 0 by decide]; exact Nat.zero_testBit 0
      · rw [swI_tb (by omega) (by decide)]; exact Nat.zero_testBit y
    rw [e, h0 0 (by decide), e2, Nat.zero_testBit]
    exact h
  · refine ⟨2 ^ a, hpa, ?_⟩
    have e : (if t.testBit c = true then turN fo (swI (nI a)) (swI x) else strN fo (swI (nI a)) (swI x)).testBit (2 ^ a) = ckB fo (t.testBit c) ((swI (nI a)).testBit (2 ^ a)) ((swI x).testBit (2 ^ a)) := ck_eq hf _ (by omega)
    have e2 : (swI x).testBit (2 ^ a) = false := by
      rcases hu with ⟨rfl, -⟩ | ⟨-, y, hy, hya, rfl⟩
      · rw [show swI (-2) = 0 by decide]; exact Nat.zero_testBit _
      · rw [swI_tb (by omega) (by omega), Nat.testBit_two_pow, decide_eq_false (fun z => hya z.symm)]
    rw [e, h0 _ (by omega), e2, Nat.testBit_two_pow_self]
    exact h
  · rcases hu with ⟨-, h1⟩ | ⟨-, y, hy, hya, rfl⟩
    · exact absurd h1 hn
    · have hpy : 2 ^ y < 2 ^ D := Nat.pow_lt_pow_right (by decide) hy
      refine ⟨2 ^ y, hpy, ?_⟩
      have e : (if t.testBit c = true then turN fo (swI (nI a)) (swI (nI y)) else strN fo (swI (nI a)) (swI (nI y))).testBit (2 ^ y) = ckB fo (t.testBit c) ((swI (nI a)).testBit (2 ^ y)) ((swI (nI y)).testBit (2 ^ y)) := ck_eq hf _ (by omega)
      rw [e, h0 _ (by omega), swI_tb (by omega) (by omega), Nat.testBit_two_pow_self, Nat.testBit_two_pow, decide_eq_false hya]
      exact h
theorem g8_b (hc4 : cy 4 ≤ 6) (hc5 : cy 5 ≤ 8) (hc7 : cy 7 ≤ 6) (hG : G8 cy f0 f1 f2 f3 f4 Fs Ft uc dm dy ds dk ink2 mn2 wt gm gi gf go_ gt_ un d1 d2_ d3 kp) : (∀ c, c < cy 5 → gf c ≤ 5) ∧ (∀ c, c < cy 5 → go_ c < 6) ∧ (∀ c, c < cy 5 → okT (gt_ c)) ∧ (∀ c, c < cy 5 → Fs c = strN (gf c) (swI (nI (go_ c))) (swI (gt_ c))) ∧ (∀ c, c < cy 5 → Ft c = turN (gf c) (swI (nI (go_ c))) (swI (gt_ c))) ∧ (∀ c, c < cy 5 → gi c ≤ 40) ∧ (∀ j, j < cy 6 → un j < 8) ∧ (∀ j, j < cy 6 → ∀ i, i < j → un i ≠ un j) ∧ (∀ i, i < cy 7 → d2_ i ≤ 40) ∧ (∀ i, i < cy 7 → d3 i < 2 ^ cy 4) ∧ kp < 2 ^ 31 ∧ 1 ≤ cy 3 ∧ (∀ t c, c < cy 5 → okS cy Fs Ft t (2 ^ c) = true) := by
  obtain ⟨m1, m2, ⟨hA0, hA⟩, hD, ha, hu, hdd, hkp, hst, hwt⟩ := hG
  have hF : ∀ c, c < cy 5 → Fs c = strN (f0 c) (swI (nI (f1 c))) (swI (f2 c)) := fun c hc => (hA c hc).2.2.2.2.2.1
  have hT : ∀ c, c < cy 5 → Ft c = turN (f0 c) (swI (nI (f1 c))) (swI (f2 c)) := fun c hc => (hA c hc).2.2.2.2.2.2
  refine ⟨fun c hc => ?_, fun c hc => ?_, fun c hc => ?_, fun c hc => ?_, fun c hc => ?_, fun c hc => ?_, fun j hj => ?_, fun j hj i hi => ?_, fun i hi => ?_, fun i hi => ?_, ?_, m1, fun t c hc => ?_⟩
  · rw [(ha c hc).2.2.1]; exact (hA c hc).1
  · have h1 : f1 c < cy 4 := (hA c hc).2.1
    rw [(ha c hc).2.2.2.1]; omega
  · rw [(ha c hc).2.2.2.2]
    rcases (hA c hc).2.2.1 with ⟨h, -⟩ | ⟨-, y, hy, -, h⟩
    · exact Or.inl h
    · exact Or.inr ⟨y, by omega, h⟩
  · rw [(ha c hc).2.2.1, (ha c hc).2.2.2.1, (ha c hc).2.2.2.2]; exact hF c hc
  · rw [(ha c hc).2.2.1, (ha c hc).2.2.2.1, (ha c hc).2.2.2.2]; exact hT c hc
  · rw [(ha c hc).2.1]; exact hA0 c
  · have h1 : uc j < cy 5 := hD.2.1 j hj
    rw [hu j hj]; omega
  · rw [hu j hj, hu i (by omega)]; exact hD.2.2.1 j hj i hi
  · rw [(hdd i hi).2.1]; exact (hD.2.2.2.2 i hi).2.1
  · rw [(hdd i hi).2.2.1]; exact (hD.2.2.2.2 i hi).2.2
  · exact Nat.lt_of_lt_of_le hkp (Nat.pow_le_pow_right (by decide) (by omega))
  · refine decide_eq_true (fun z => ?_)
    obtain ⟨s, hs, h1⟩ := hal_1 (t := t) (c := c) hc4 (hA c hc).1 (hA c hc).2.1 (hA c hc).2.2.1
    have h2 := kp_one (Fs := Fs) (Ft := Ft) (t := t) hc hs
    rw [z, Nat.zero_testBit, hF c hc, hT c hc] at h2
    exact Bool.noConfusion (h2.trans h1)
theorem td_e (hG : G8 cy f0 f1 f2 f3 f4 Fs Ft uc dm dy ds dk ink2 mn2 wt gm gi gf go_ gt_ un d1 d2_ d3 kp) (tu i : Nat) (hi : i < cy 7) : toldB cy Fs Ft d1 d2_ d3 (fun j => kp.testBit j) (stF (cy 0) gm gi (cy 5)).1 (stF (cy 0) gm gi (cy 5)).2 tu i = toldB cy Fs Ft dm dy ds dk ink2 mn2 tu i := by
  obtain ⟨m1, m2, hA, hD, ha, hu, hdd, hkp, hst, hwt⟩ := hG
  have e : stF (cy 0) gm gi (cy 5) = (ink2, mn2) := (stF_cg _ (fun c hc => ⟨(ha c hc).1, (ha c hc).2.1⟩)).trans hst.symm
  unfold toldB
  rw [e, (hdd i hi).1, (hdd i hi).2.1, (hdd i hi).2.2.1]
  show (kp.testBit i == _) = (dk i == _)
  rw [(hdd i hi).2.2.2]
theorem w8_e (hG : G8 cy f0 f1 f2 f3 f4 Fs Ft uc dm dy ds dk ink2 mn2 wt gm gi gf go_ gt_ un d1 d2_ d3 kp) : wt8 cy Fs Ft d1 d2_ d3 kp gm gi un = wt := by
  have hG2 := hG
  obtain ⟨m1, m2, hA, hD, ha, hu, hdd, hkp, hst, hwt⟩ := hG2
  rw [hwt]
  funext s
  unfold wt8 wtF
  by_cases h : s < 2 ^ cy 6
  · rw [if_pos h, if_pos h, tbF_cg _ hu]
    exact wF_cg _ (fun i hi => td_e hG _ i hi)
  · rw [if_neg h, if_neg h]
end G8B
theorem okM_0 {m : Int32} {n : Nat} (h : n = 0) : ¬ okM m n := fun z => by obtain ⟨k, hk, -⟩ := okM_nat z (by omega); omega
