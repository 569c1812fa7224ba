/-! the reference: what was told, weights -/
theorem pow5 {u : Nat} (hu : u ≤ 5) : 2 ^ u ≤ 32 := Nat.pow_le_pow_right (n := 2) (j := 5) (by decide) hu
theorem kp_all {cy Fs Ft : Nat → Nat} {t bs s : Nat} (hs : s < 2 ^ cy 4) : (kpN cy Fs Ft t bs).testBit s = allB (fun c => !bs.testBit c || (if t.testBit c = true then Ft c else Fs c).testBit s) (cy 5) := by
  rw [Bool.eq_iff_iff, kpN, skF_tb, allB_iff]
  constructor
  · intro h c hc
    show (!bs.testBit c || _) = true
    cases hb : bs.testBit c with
    | false => rfl
    | true => rw [h.2 c hc hb]; rfl
  · intro h
    refine ⟨all_tb hs, fun c hc hb => ?_⟩
    have := h c hc
    rw [hb] at this
    exact this
theorem xF_setT {mn : Nat → Int32} {ink : Nat → Nat} {t dd c : Nat} {b : Bool} (h : c < 8) (hf : t.testBit c = false) : upd (xF mn ink t dd) (16 + c) (nI b.toNat) = xF mn ink (if b = true then t ||| 2 ^ c else t) dd := by
  funext j
  by_cases hj : j = 16 + c
  · subst hj
    rw [xF_t h, upd, if_pos rfl]
    cases b with
    | false => rw [if_neg (by decide), hf]
    | true => rw [if_pos rfl, Nat.testBit_or, hf, Nat.testBit_two_pow_self]; rfl
  · rw [upd, if_neg hj]
    unfold xF
    by_cases h1 : j < 8
    · rw [if_pos h1, if_pos h1]
    · rw [if_neg h1, if_neg h1]
      by_cases h2 : j < 16
      · rw [if_pos h2, if_pos h2]
      · rw [if_neg h2, if_neg h2]
        by_cases h3 : j < 24
        · rw [if_pos h3, if_pos h3]
          cases b with
          | false => rw [if_neg (by decide)]
          | true => rw [if_pos rfl, Nat.testBit_or, Nat.testBit_two_pow, decide_eq_false (by omega), Bool.or_false]
        · rw [if_neg h3, if_neg h3]
theorem tbF_fresh {un : Nat → Nat} {us u : Nat} : ∀ {n : Nat}, (∀ j, j < n → un j ≠ u) → (tbF un us n).testBit u = false
  | 0, _ => by rw [tbF, Nat.zero_testBit]
  | n + 1, h => by
    have ih := tbF_fresh (us := us) (n := n) (fun j hj => h j (by omega))
    rw [tbF]
    split
    · rw [Nat.testBit_or, ih, Nat.testBit_two_pow, decide_eq_false (h n (by omega))]; rfl
    · exact ih
noncomputable def wt8 (cy Fs Ft dm dy ds : Nat → Nat) (kp : Nat) (mc ik un : Nat → Nat) : Nat → Nat := wtF cy Fs Ft dm dy ds (fun j => kp.testBit j) (stF (cy 0) mc ik (cy 5)).1 (stF (cy 0) mc ik (cy 5)).2 un
theorem wt8_e {cy Fs Ft dm dy ds : Nat → Nat} {kp : Nat} {mc ik un : Nat → Nat} {s : Nat} (h : s < 2 ^ cy 6) : wt8 cy Fs Ft dm dy ds kp mc ik un s = wF (cy 1) (toldB cy Fs Ft dm dy ds (fun j => kp.testBit j) (stF (cy 0) mc ik (cy 5)).1 (stF (cy 0) mc ik (cy 5)).2 (tbF un s (cy 6))) (cy 7) := by
  unfold wt8 wtF
  rw [if_pos h]
theorem wt8_0 {cy Fs Ft dm dy ds : Nat → Nat} {kp : Nat} {mc ik un : Nat → Nat} {s : Nat} (h : 2 ^ cy 6 ≤ s) : wt8 cy Fs Ft dm dy ds kp mc ik un s = 0 := by
  unfold wt8 wtF
  rw [if_neg (by omega)]
theorem wt8_le {cy Fs Ft dm dy ds : Nat → Nat} {kp : Nat} {mc ik un : Nat → Nat} (h1 : cy 1 ≤ 100) (h2 : cy 7 ≤ 6) (s : Nat) : wt8 cy Fs Ft dm dy ds kp mc ik un s ≤ 1000000000000 := wtF_le h1 h2 s
/-- the i-th that fits -/
def fdF (p : Nat → Bool) (i : Int32) : Nat → Int32 := foldN (fun s x => if p s && decide (nI (cnt p s) = i) then nI s else x) (-1)
theorem fdF_no {p : Nat → Bool} {i : Int32} {s : Nat} (h : p s = false) : fdF p i (s + 1) = fdF p i s := by show (if p s && decide (nI (cnt p s) = i) then nI s else fdF p i s) = fdF p i s; simp [h]
theorem fdF_sk {p : Nat → Bool} {i : Int32} {s : Nat} (h : p s = true) (h2 : ¬ nI (cnt p s) = i) : fdF p i (s + 1) = fdF p i s := by show (if p s && decide (nI (cnt p s) = i) then nI s else fdF p i s) = fdF p i s; simp [h2]
theorem fdF_hit {p : Nat → Bool} {i : Int32} {s : Nat} (h : p s = true) (h2 : nI (cnt p s) = i) : fdF p i (s + 1) = nI s := by show (if p s && decide (nI (cnt p s) = i) then nI s else fdF p i s) = nI s; simp [h, h2]
theorem cnt_mono (p : Nat → Bool) {a : Nat} : ∀ {b : Nat}, a ≤ b → cnt p a ≤ cnt p b
  | 0, h => by rw [show a = 0 by omega]; exact Nat.le_refl _
  | b + 1, h => by
    rcases Nat.lt_or_ge a (b + 1) with q | q
    · have := cnt_mono p (b := b) (show a ≤ b by omega)
      rw [cnt]
      omega
    · rw [show a = b + 1 by omega]; exact Nat.le_refl _
theorem cnt_t {p : Nat → Bool} {s : Nat} (h : p s = true) : cnt p (s + 1) = cnt p s + 1 := by rw [cnt, h]; simp
theorem cnt_f {p : Nat → Bool} {s : Nat} (h : p s = false) : cnt p (s + 1) = cnt p s := by rw [cnt, h]; simp
theorem fd_stay {p : Nat → Bool} {i : Int32} {c : Nat} (h : p c = true) (h2 : nI (cnt p c) = i) : ∀ m, c + 1 + m < 2 ^ 31 → fdF p i (c + 1 + m) = nI c
  | 0, _ => fdF_hit h h2
  | m + 1, hm => by
    have ih := fd_stay h h2 m (by omega)
    rw [show c + 1 + (m + 1) = (c + 1 + m) + 1 by omega]
    cases hp : p (c + 1 + m) with
    | false => rw [fdF_no hp, ih]
    | true =>
      rw [fdF_sk hp, ih]
      rw [← h2]
      intro q
      have h3 := cnt_mono p (show c + 1 ≤ c + 1 + m by omega)
      rw [cnt_t h] at h3
      have h4 := cnt_le p (c + 1 + m)
      have h5 := (nI_eq (by omega) (by omega)).mp q
      omega
theorem fd_kth {p : Nat → Bool} {i : Int32} : ∀ (m c : Nat), c + m < 2 ^ 31 → fdF p i c = -1 → fdF p i (c + m) = kth p i m c (cnt p c)
  | 0, c, _, h => h
  | m + 1, c, hm, h => by
    rw [kth]
    cases hp : p c with
    | false =>
      have ih := fd_kth (p := p) (i := i) m (c + 1) (by omega) (by rw [fdF_no hp, h])
      rw [cnt_f hp, show c + 1 + m = c + (m + 1) by omega] at ih
      rw [ih]; simp
    | true =>
      by_cases h2 : nI (cnt p c) = i
      · rw [show c + (m + 1) = c + 1 + m by omega, fd_stay hp h2 m (by omega)]; simp [h2]
      · have ih := fd_kth (p := p) (i := i) m (c + 1) (by omega) (by rw [fdF_sk hp h2, h])
        rw [cnt_t hp, show c + 1 + m = c + (m + 1) by omega] at ih
        rw [ih]; simp [h2]
theorem kth_none {p : Nat → Bool} {i : Int32} : ∀ (m c c0 : Nat), (∀ s, c ≤ s → p s = false) → kth p i m c c0 = -1
  | 0, _, _, _ => rfl
  | m + 1, c, c0, h => by rw [kth, h c (Nat.le_refl _), kth_none m (c + 1) c0 (fun s hs => h s (by omega))]; simp
theorem kth_ext {p : Nat → Bool} {i : Int32} (r : Nat) : ∀ (m c c0 : Nat), (∀ s, c + m ≤ s → p s = false) → kth p i (m + r) c c0 = kth p i m c c0
  | 0, c, c0, h => by rw [Nat.zero_add, kth_none r c c0 (fun s hs => h s (by omega))]; rfl
  | m + 1, c, c0, h => by
    rw [show m + 1 + r = (m + r) + 1 by omega, kth, kth, kth_ext r m (c + 1) c0 (fun s hs => h s (by omega)), kth_ext r m (c + 1) (c0 + 1) (fun s hs => h s (by omega))]
theorem kth_cgx {p q : Nat → Bool} {i : Int32} : ∀ (m c c0 : Nat), (∀ s, p s = q s) → kth p i m c c0 = kth q i m c c0 := by
  intro m c c0 h
  rw [show p = q from funext h]
theorem kth_neg {p : Nat → Bool} {i : Int32} (hi : i < 0) : ∀ (m c c0 : Nat), c0 + m < 2 ^ 31 → kth p i m c c0 = -1
  | 0, _, _, _ => rfl
  | m + 1, c, c0, h => by
    have hne : ¬ nI c0 = i := by
      intro q
      have h0 : (0 : Int32) ≤ nI c0 := nI_pos' (by omega)
      rw [q] at h0
      exact absurd hi (Int32.not_lt.mpr h0)
    rw [kth, if_neg hne, kth_neg hi m (c + 1) (c0 + 1) (by omega), kth_neg hi m (c + 1) c0 (by omega), ite_self]
theorem cnt_ext {p : Nat → Bool} {m : Nat} (h : ∀ s, m ≤ s → p s = false) : ∀ r, cnt p (m + r) = cnt p m
  | 0 => rfl
  | r + 1 => by rw [show m + (r + 1) = (m + r) + 1 by omega, cnt_f (h _ (by omega)), cnt_ext h r]
theorem fit_tb (wt : Nat → Nat) (hz : ∀ s, 32 ≤ s → wt s = 0) (s : Nat) : (fitN wt).testBit s = decide (0 < wt s) := by
  rw [fitN, bbits_tb]
  by_cases h : s < 32
  · rw [decide_eq_true h, Bool.true_and]
  · rw [decide_eq_false h, hz s (by omega)]; rfl
theorem fit_cnt {wt : Nat → Nat} {u : Nat} (hu : u ≤ 5) (hz : ∀ s, 2 ^ u ≤ s → wt s = 0) : cnt (fun s => decide (0 < wt s)) (2 ^ u) = pop64 (fitN wt) := by
  have h32 : 2 ^ u ≤ 32 := pow5 hu
  unfold pop64
  rw [show (fun k => (fitN wt).testBit k) = fun s => decide (0 < wt s) from funext (fit_tb wt (fun s hs => hz s (by omega)))]
  obtain ⟨r, hr⟩ : ∃ r, 64 = 2 ^ u + r := ⟨64 - 2 ^ u, by omega⟩
  rw [hr]
  exact (cnt_ext (fun s hs => by rw [hz s hs]; rfl) r).symm
theorem fit_kth {wt : Nat → Nat} {u : Nat} {i : Int32} (hu : u ≤ 5) (hz : ∀ s, 2 ^ u ≤ s → wt s = 0) : fdF (fun s => decide (0 < wt s)) i (2 ^ u) = kth (fun s => (fitN wt).testBit s) i 64 0 0 := by
  have h32 : 2 ^ u ≤ 32 := pow5 hu
  rw [kth_cgx 64 0 0 (fit_tb wt (fun s hs => hz s (by omega)))]
  obtain ⟨r, hr⟩ : ∃ r, 64 = 2 ^ u + r := ⟨64 - 2 ^ u, by omega⟩
  rw [hr, kth_ext r (2 ^ u) 0 0 (fun s hs => by rw [hz s (by omega)]; rfl)]
  have h := fd_kth (p := fun s => decide (0 < wt s)) (i := i) (2 ^ u) 0 (by omega) rfl
  rw [Nat.zero_add] at h
  exact h
theorem cnt_spl2 (p b : Nat → Bool) : ∀ n, cnt (fun s => p s && b s) n + cnt (fun s => p s && !b s) n = cnt p n
  | 0 => rfl
  | n + 1 => by
    have ih := cnt_spl2 p b n
    rw [cnt, cnt, cnt]
    cases p n <;> cases b n <;> simp <;> omega
theorem fitN_z {wt : Nat → Nat} {u : Nat} (hu : u ≤ 5) (hz : ∀ s, 2 ^ u ≤ s → wt s = 0) : cnt (fun s => decide (0 < wt s)) (2 ^ u) = 0 ↔ fitN wt = 0 := by
  rw [fit_cnt hu hz]
  constructor
  · intro h
    refine Nat.eq_of_testBit_eq (fun s => ?_)
    rw [Nat.zero_testBit]
    cases hb : (fitN wt).testBit s with
    | false => rfl
    | true =>
      have hs := tb_lt2 (fitN_lt wt) hb
      have h1 := cnt_mono (fun k => (fitN wt).testBit k) (show s + 1 ≤ 64 by omega)
      rw [cnt_t hb] at h1
      unfold pop64 at h
      omega
  · intro h
    rw [h]
    exact cnt64_0
theorem lam_8 {wt : Nat → Nat} {u q : Nat} (hu : u ≤ 5) (hz : ∀ s, 2 ^ u ≤ s → wt s = 0) : lam wt q = max (cnt (fun s => decide (0 < wt s) && s.testBit q) (2 ^ u)) (cnt (fun s => decide (0 < wt s)) (2 ^ u) - cnt (fun s => decide (0 < wt s) && s.testBit q) (2 ^ u)) := by
  have h32 : 2 ^ u ≤ 32 := pow5 hu
  obtain ⟨r, hr⟩ : ∃ r, 32 = 2 ^ u + r := ⟨32 - 2 ^ u, by omega⟩
  unfold lam
  rw [hr, cnt_ext (m := 2 ^ u) (fun s hs => by rw [hz s hs]; rfl) r, cnt_ext (m := 2 ^ u) (fun s hs => by rw [hz s hs]; rfl) r]
  have h := cnt_spl2 (fun s => decide (0 < wt s)) (fun s => s.testBit q) (2 ^ u)
  rw [← h, Nat.add_sub_cancel_left]
theorem sm_ext {f : Nat → Nat} {m : Nat} (h : ∀ s, m ≤ s → f s = 0) (r : Nat) : fb_sm f (m + r) = fb_sm f m := fb_sm_0 h r
theorem ww_8 {wt : Nat → Nat} {u : Nat} (tu : Nat) (hu : u ≤ 5) (hz : ∀ s, 2 ^ u ≤ s → wt s = 0) : ww wt tu = fb_sm (fun s => if s &&& tu = tu then wt s else 0) (2 ^ u) := by
  have h32 : 2 ^ u ≤ 32 := pow5 hu
  obtain ⟨r, hr⟩ : ∃ r, 32 = 2 ^ u + r := ⟨32 - 2 ^ u, by omega⟩
  unfold ww
  rw [hr]
  exact sm_ext (fun s hs => by show (if s &&& tu = tu then wt s else 0) = 0; rw [hz s hs, ite_self]) r
theorem and_pow {s k : Nat} : (s &&& 2 ^ k = 2 ^ k) ↔ s.testBit k = true := by
  constructor
  · intro h
    have : (s &&& 2 ^ k).testBit k = true := by rw [h, Nat.testBit_two_pow_self]
    rw [Nat.testBit_and, Bool.and_eq_true] at this
    exact this.1
  · intro h
    refine Nat.eq_of_testBit_eq (fun j => ?_)
    rw [Nat.testBit_and, Nat.testBit_two_pow]
    by_cases hj : k = j
    · subst hj; rw [h]; rfl
    · rw [decide_eq_false hj, Bool.and_false]
theorem lik_8 {wt : Nat → Nat} {u : Nat} (hu : u ≤ 5) (hz : ∀ s, 2 ^ u ≤ s → wt s = 0) : likF wt 32 = likF wt (2 ^ u) := by
  have h32 : 2 ^ u ≤ 32 := pow5 hu
  obtain ⟨r, hr⟩ : ∃ r, 32 = 2 ^ u + r := ⟨32 - 2 ^ u, by omega⟩
  rw [hr]
  have : ∀ r, likF wt (2 ^ u + r) = likF wt (2 ^ u) := by
    intro r
    induction r with
    | zero => rfl
    | succ r ih => rw [show 2 ^ u + (r + 1) = (2 ^ u + r) + 1 by omega, likF_succ, if_neg (by rw [hz _ (by omega)]; omega), ih]
  exact this r
theorem sum_le {f g : Nat → Nat} (h : ∀ s, f s ≤ g s) : ∀ n, fb_sm f n ≤ fb_sm g n
  | 0 => Nat.le_refl _
  | n + 1 => by rw [fb_sm, fb_sm]; have := sum_le h n; have := h n; omega
theorem sum_bd {f : Nat → Nat} {b : Nat} (h : ∀ s, f s ≤ b) : ∀ n, fb_sm f n ≤ n * b
  | 0 => by simp [fb_sm]
  | n + 1 => by rw [fb_sm, Nat.succ_mul]; have := sum_bd h n; have := h n; omega
