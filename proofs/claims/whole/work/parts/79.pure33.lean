/-! the reference: the fewest men -/
def spN (ok : Nat → Bool) (B n : Nat) : Nat := (fst_ (fun m => exB ok B m n 0 (fun _ => 0)) (pop8 B) 0).getD (pop8 B)
theorem sp_0 {ok : Nat → Bool} {B n : Nat} (h : B = 0) : spN ok B n = 0 := by subst h; rfl
theorem sp_hit {ok : Nat → Bool} {B n m : Nat} (hq : fst_ (fun m => exB ok B m n 0 (fun _ => 0)) (pop8 B) 0 = fst_ (fun m => exB ok B m n 0 (fun _ => 0)) (pop8 B - m) m) (hm : m ≤ pop8 B) (h : exB ok B m n 0 (fun _ => 0) = true) : spN ok B n = m := by
  unfold spN
  rw [hq]
  rcases Nat.lt_or_ge m (pop8 B) with q | q
  · rw [fst_hit (p := fun m => exB ok B m n 0 (fun _ => 0)) q h]; rfl
  · rw [show pop8 B - m = 0 by omega, show m = pop8 B by omega]; rfl
theorem sp_bit {B k : Nat} (h : ¬ B = 0) (hB : B < 2 ^ k) : ∃ j, j < k ∧ B.testBit j = true := by
  obtain ⟨j, hj⟩ := nz_tb h
  exact ⟨j, tb_lt2 hB hj, hj⟩
theorem sp_1 {B k : Nat} (h : ¬ B = 0) (hB : B < 2 ^ k) (hk : k ≤ 8 := by assumption) : 1 ≤ pop8 B := by
  obtain ⟨j, hj, hb⟩ := sp_bit h hB
  have h1 := cnt_mono (fun k => B.testBit k) (show j + 1 ≤ 8 by omega)
  rw [cnt_t (p := fun k => B.testBit k) hb] at h1
  unfold pop8
  omega
theorem sp_q {ok : Nat → Bool} {B k : Nat} (h : ¬ B = 0) (hB : B < 2 ^ k) (hk : k ≤ 8 := by assumption) : fst_ (fun m => exB ok B m k 0 (fun _ => 0)) (pop8 B) 0 = fst_ (fun m => exB ok B m k 0 (fun _ => 0)) (pop8 B - 1) 1 := by
  have h1 := sp_1 h hB hk
  obtain ⟨j, hj, hb⟩ := sp_bit h hB
  exact fst_no (m := pop8 B) (c := 0) (by omega) (ex_m0 (j := j) k 0 _ (Nat.zero_le _) (by omega) hb)
theorem sp_all {ok : Nat → Bool} {B k m : Nat} (hk : k ≤ 8) (hB : B < 2 ^ k) (ha : ∀ c, c < k → ok (2 ^ c) = true) (hm : pop8 B ≤ m) : exB ok B m k 0 (fun _ => 0) = true := by
  refine ex_all (fun c hc => ha c (tb_lt2 hB hc)) k 0 0 _ (fun _ _ => rfl) ?_
  rw [Nat.zero_add, show (fun j => B.testBit (0 + j)) = fun j => B.testBit j from funext (fun j => by rw [Nat.zero_add]), pop_k hk hB]
  exact hm
theorem sp_ne {ink : Nat → Nat} {c : Nat} (h : ¬ ink c = 0) (hc : c < 8) : ¬ bbits (fun cx => decide (0 < ink cx)) 8 = 0 := by
  intro q
  have h1 : (bbits (fun cx => decide (0 < ink cx)) 8).testBit c = true := by rw [bbits_tb, decide_eq_true hc, decide_eq_true (show 0 < ink c by omega)]; rfl
  rw [q, Nat.zero_testBit] at h1
  cases h1
theorem sp_ok {ok : Nat → Bool} {B k : Nat} (hk : k ≤ 8) (hB : B < 2 ^ k) (ha : ∀ c, c < k → ok (2 ^ c) = true) : exB ok B (spN ok B k) k 0 (fun _ => 0) = true := by
  unfold spN
  cases e : fst_ (fun m => exB ok B m k 0 (fun _ => 0)) (pop8 B) 0 with
  | none => exact sp_all hk hB ha (Nat.le_refl _)
  | some q => exact (fst_lt _ _ _ e).2
/-- the class's fewest men and row are the same -/
theorem fm_P {cy Fs Ft ink : Nat → Nat} {t : Nat} {w : Gw} (hd : cy 4 ≤ 6) (m : Nat) : fmP (gsK cy Fs Ft t) ink w m = exB (okS cy Fs Ft t) (bbits (fun c => decide (0 < ink c)) 8) m 8 0 (fun _ => 0) := by
  unfold fmP
  rw [gsS_e]
  exact (gs_spec hd 8 0 0 _ (fun _ => 0) rfl (Nat.le_refl _) (Nat.zero_le _) (fun m h => absurd h (Nat.not_lt_zero _)) (fun _ _ => rfl)).1
theorem ex_8 {ok : Nat → Bool} {B m k : Nat} {h : Nat → Nat} (hk : k ≤ 8) (hB : B < 2 ^ k) : exB ok B m 8 0 h = exB ok B m k 0 h := by
  obtain ⟨r, hr⟩ : ∃ r, 8 = k + r := ⟨8 - k, by omega⟩
  rw [hr]
  exact ex_ext k r 0 h (fun j hj => Nat.testBit_lt_two_pow (Nat.lt_of_lt_of_le hB (Nat.pow_le_pow_right (by decide) (by omega))))
theorem gr_8 {ok : Nat → Bool} {B m k : Nat} {h : Nat → Nat} (hk : k ≤ 8) (hB : B < 2 ^ k) (j : Nat) : grR ok B m 8 0 h j = grR ok B m k 0 h j := by
  obtain ⟨r, hr⟩ : ∃ r, 8 = k + r := ⟨8 - k, by omega⟩
  rw [hr]
  exact gr_ext k r 0 h (fun j hj => Nat.testBit_lt_two_pow (Nat.lt_of_lt_of_le hB (Nat.pow_le_pow_right (by decide) (by omega)))) j
theorem fm_N {cy Fs Ft ink : Nat → Nat} {t k : Nat} {w : Gw} (hd : cy 4 ≤ 6) (hk : k ≤ 8) (hB : bbits (fun c => decide (0 < ink c)) 8 < 2 ^ k) : fmN (gsK cy Fs Ft t) ink w (cnt (fun k => (bbits (fun c => decide (0 < ink c)) 8).testBit k) 8) = spN (okS cy Fs Ft t) (bbits (fun c => decide (0 < ink c)) 8) k := by
  unfold fmN spN
  rw [show fmP (gsK cy Fs Ft t) ink w = fun m => exB (okS cy Fs Ft t) (bbits (fun c => decide (0 < ink c)) 8) m k 0 (fun _ => 0) from funext (fun m => by rw [fm_P hd, ex_8 hk hB])]
  rfl
theorem fm_row {cy Fs Ft ink : Nat → Nat} {t k c : Nat} {w : Gw} (hd : cy 4 ≤ 6) (hk : k ≤ 8) (hB : bbits (fun c => decide (0 < ink c)) 8 < 2 ^ k) (ha : ∀ c, c < k → okS cy Fs Ft t (2 ^ c) = true) (hc : c < 8) :
    (gsS (gsK cy Fs Ft t) ink (fmN (gsK cy Fs Ft t) ink w (cnt (fun k => (bbits (fun c => decide (0 < ink c)) 8).testBit k) 8)) (fmW (gsK cy Fs Ft t) ink w (fmN (gsK cy Fs Ft t) ink w (cnt (fun k => (bbits (fun c => decide (0 < ink c)) 8).testBit k) 8)))).2.1 c = if ink c = 0 then -2 else gI (spA (okS cy Fs Ft t) (bbits (fun c => decide (0 < ink c)) 8) (spN (okS cy Fs Ft t) (bbits (fun c => decide (0 < ink c)) 8) k) k) c := by
  rw [fm_N hd hk hB]
  have hx := sp_ok (B := bbits (fun c => decide (0 < ink c)) 8) hk hB ha
  obtain ⟨g1, g2, -⟩ := gs_spec (ink := ink) (t := t) (Fs := Fs) (Ft := Ft) (men := spN (okS cy Fs Ft t) (bbits (fun c => decide (0 < ink c)) 8) k) hd 8 0 0 (fmW (gsK cy Fs Ft t) ink w (spN (okS cy Fs Ft t) (bbits (fun c => decide (0 < ink c)) 8) k)) (fun _ => 0) rfl (Nat.le_refl _) (Nat.zero_le _) (fun m h => absurd h (Nat.not_lt_zero _)) (fun _ _ => rfl)
  rw [gsS_e]
  rw [ex_8 hk hB, hx] at g1
  rw [(g2 g1).2 c (Nat.zero_le _) (by omega), gr_8 hk hB, spA_t hx, bbits_tb, decide_eq_true hc, Bool.true_and]
  by_cases hi : ink c = 0
  · rw [if_pos hi, if_neg (by rw [hi]; decide)]
  · have hb : (bbits (fun c => decide (0 < ink c)) 8).testBit c = true := by rw [bbits_tb, decide_eq_true hc, decide_eq_true (show 0 < ink c by omega)]; rfl
    rw [if_neg hi, if_pos (decide_eq_true (show 0 < ink c by omega))]
    refine (gI_m ?_).symm
    unfold grX
    rw [if_pos ⟨Nat.zero_le _, hb⟩]
