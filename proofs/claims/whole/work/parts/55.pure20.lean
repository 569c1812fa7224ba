/-! the reference: ink, pages as told -/
theorem fb_sm_0 {f : Nat → Nat} {k : Nat} (hz : ∀ c, k ≤ c → f c = 0) : ∀ n, fb_sm f (k + n) = fb_sm f k
  | 0 => rfl
  | n + 1 => by
    rw [show k + (n + 1) = (k + n) + 1 by omega, fb_sm, fb_sm_0 hz n, hz (k + n) (by omega), Nat.add_zero]
theorem inkS_e {ink : Nat → Nat} {bs k : Nat} (hk : k ≤ 8) (hz : ∀ c, k ≤ c → ink c = 0) : fb_sm (fun c => if bs.testBit c then ink c else 0) k = inkS ink bs := by
  unfold inkS
  obtain ⟨r, hr⟩ : ∃ r, 8 = k + r := ⟨8 - k, by omega⟩
  rw [hr]
  refine (fb_sm_0 (fun c hc => ?_) r).symm
  show (if bs.testBit c = true then ink c else 0) = 0
  rw [hz c hc, ite_self]
theorem stF_leC {bl : Nat} {mc ic : Nat → Nat} {n : Nat} (h : ∀ c, c < n → ic c ≤ 40) : ∀ m, m ≤ n → ∀ k, (stF bl mc ic m).1 k ≤ 40 := by
  intro m
  induction m with
  | zero => intro _ k; show (0 : Nat) ≤ 40; decide
  | succ m ih =>
    intro hm k
    rw [stF_s]
    show upN _ m (ic m) k ≤ 40
    unfold upN
    split
    · exact h m (by omega)
    · exact blurN_le (ih (by omega)) k
theorem stF_z {bl : Nat} {mc ic : Nat → Nat} : ∀ (m : Nat), ∀ k, m ≤ k → (stF bl mc ic m).1 k = 0
  | 0, _, _ => rfl
  | m + 1, k, h => by
    rw [stF_s]
    show upN _ m (ic m) k = 0
    rw [upN_ne _ _ (by omega)]
    unfold blurN
    rw [stF_z m k (by omega), Nat.zero_sub, ite_self]
theorem stF_m {bl : Nat} {mc ic : Nat → Nat} : ∀ (m : Nat), ∀ k, m ≤ k → (stF bl mc ic m).2 k = -1
  | 0, _, _ => rfl
  | m + 1, k, h => by
    rw [stF_s]
    show upd _ m _ k = -1
    rw [upd, if_neg (by omega), stF_m m k (by omega)]
theorem x0_ge {j : Nat} (h : 8 ≤ j) : xF (fun _ => (-1)) (fun _ => 0) 0 0 j = nI 0 := by
  have h8 : ¬ j < 8 := by omega
  unfold xF
  rw [if_neg h8]
  split
  · rfl
  · split
    · rw [Nat.zero_testBit]; rfl
    · rfl
