/-! the reference: counting bits of a long, a set among sets, what is laid -/
theorem cnt_shift (p : Nat → Bool) : ∀ n, cnt p (n + 1) = (p 0).toNat + cnt (fun k => p (k + 1)) n
  | 0 => by simp [cnt]; cases p 0 <;> rfl
  | n + 1 => by
    rw [cnt, cnt_shift p n, cnt]
    omega
theorem low_and : ∀ (n a : Nat), a < 2 ^ n → a ≠ 0 → cnt (fun k => (a &&& (a - 1)).testBit k) n + 1 = cnt (fun k => a.testBit k) n
  | 0, a, h, h0 => by simp at h; exact absurd h h0
  | n + 1, a, h, h0 => by
    rw [cnt_shift, cnt_shift]
    have e1 : (fun k => (a &&& (a - 1)).testBit (k + 1)) = fun k => (a / 2 &&& (a - 1) / 2).testBit k := by
      funext k
      rw [Nat.testBit_succ, Nat.and_div_two]
    have e2 : (fun k => a.testBit (k + 1)) = fun k => (a / 2).testBit k := by
      funext k
      rw [Nat.testBit_succ]
    have hp : 2 ^ (n + 1) = 2 * 2 ^ n := by rw [Nat.pow_succ, Nat.mul_comm]
    rw [e1, e2]
    simp only [Nat.testBit_and]
    rcases Nat.mod_two_eq_zero_or_one a with hr | hr
    · have t0 : a.testBit 0 = false := by rw [Nat.testBit_zero, hr]; rfl
      rw [t0, show (a - 1) / 2 = a / 2 - 1 by omega]
      have ih := low_and n (a / 2) (by omega) (by omega)
      simp only [Nat.testBit_and] at ih
      simp only [Bool.false_and, Bool.toNat_false]
      omega
    · have t0 : a.testBit 0 = true := by rw [Nat.testBit_zero, hr]; rfl
      have t1 : (a - 1).testBit 0 = false := by rw [Nat.testBit_zero, show (a - 1) % 2 = 0 by omega]; rfl
      rw [t0, t1, show (a - 1) / 2 = a / 2 by omega]
      simp only [Bool.and_self, Bool.and_false, Bool.toNat_false, Bool.toNat_true]
      omega
theorem low64 {a : Nat} (h : a < 2 ^ 64) (h0 : ¬ a = 0) : cnt (fun k => (a &&& (a - 1)).testBit k) 64 + 1 = cnt (fun k => a.testBit k) 64 := low_and 64 a h h0
theorem cnt64_0 : cnt (fun k => (0 : Nat).testBit k) 64 = 0 := by decide
theorem tb_and_one (a : Nat) (b : Bool) (h : a % 2 = b.toNat) : a &&& 1 = b.toNat := by rw [Nat.and_one_is_mod]; exact h
theorem lN_hold {a i : Nat} (ha : a < 2 ^ 64) (hi : i < 64) : (lN a >>> ((nI i).toInt64 &&& 63)) &&& lN 1 = lN (a.testBit i).toNat := by
  rw [wb_c i hi]
  apply wb_inj
  rw [Int64.toBitVec_and, Int64.toBitVec_shiftRight, wb_tb, wb_tb, wb_tb, wb_tb, wb_sm i hi]
  have hs : (BitVec.ofNat 64 i).toNat = i := by rw [BitVec.toNat_ofNat]; omega
  rw [BitVec.sshiftRight_eq', hs]
  apply BitVec.eq_of_getLsbD_eq
  intro k hk
  rw [BitVec.getLsbD_and, BitVec.getLsbD_sshiftRight, BitVec.getLsbD_ofNat, BitVec.getLsbD_ofNat, BitVec.getLsbD_ofNat]
  cases k with
  | zero =>
    simp [hi]
    cases a.testBit i <;> rfl
  | succ k =>
    have h1 : Nat.testBit 1 (k + 1) = false := by rw [Nat.testBit_succ]; simp
    have h2 : (a.testBit i).toNat.testBit (k + 1) = false := by cases a.testBit i <;> simp [Nat.testBit_succ]
    rw [h1, h2]; simp
/-- what the reference says of a clause kept -/
def ckB (fo : Nat) (u o w : Bool) : Bool := match fo with
  | 0 => o != u
  | 1 => o == u
  | 2 => if u then o || !w else w || !o
  | 3 => if u then !o || !w else o || w
  | 4 => if u then o || w else !o || !w
  | _ => (o != w) != u
theorem x_full (a : Nat) {s : Nat} (h : s < 64) : (a ^^^ full64).testBit s = !a.testBit s := by rw [Nat.testBit_xor, full_tb s h, Bool.xor_true]
theorem ck_eq {fo a b s : Nat} (hf : fo ≤ 5) (u : Bool) (hs : s < 64) : (if u = true then turN fo a b else strN fo a b).testBit s = ckB fo u (a.testBit s) (b.testBit s) := by
  obtain rfl | rfl | rfl | rfl | rfl | rfl : fo = 0 ∨ fo = 1 ∨ fo = 2 ∨ fo = 3 ∨ fo = 4 ∨ fo = 5 := by omega
  all_goals cases u <;> simp only [turN, strN, ckB, x_full _ hs, Nat.testBit_or, Nat.testBit_and, Nat.testBit_xor, if_true, Bool.false_eq_true, if_false] <;> cases a.testBit s <;> cases b.testBit s <;> rfl
theorem swI_tb {i s : Nat} (hi : i < 6) (hs : s < 64) : (swI (nI i)).testBit s = s.testBit i := by
  rw [swI_n hi, swT, bbits_tb, decide_eq_true hs, Bool.true_and]
theorem swI_m2 : swI (-2) = 0 := swI_lt0 (by decide)
/-- the second deed -/
def okT (x : Int32) : Prop := x = -2 ∨ ∃ b : Nat, b < 6 ∧ x = nI b
def upX (mn : Nat → Int32) (ink : Nat → Nat) (t dd : Nat) : Nat → Int32 := xF mn ink t dd
theorem xF_upI {mn : Nat → Int32} {ink : Nat → Nat} {t dd c v : Nat} (h : c < 8) : upd (xF mn ink t dd) (8 + c) (nI v) = xF mn (upN ink c v) t dd := by
  funext j
  by_cases hj : j = 8 + c
  · subst hj
    rw [xF_i h, upN_at, upd, if_pos rfl]
  · rw [upd, if_neg hj]
    unfold xF
    by_cases h1 : j < 8
    · rw [if_pos h1, if_pos h1]
    · rw [if_neg h1, if_neg h1]
      by_cases h2 : j < 16
      · rw [if_pos h2, if_pos h2, upN_ne _ _ (by omega)]
      · rw [if_neg h2, if_neg h2]
theorem xF_upM {mn : Nat → Int32} {ink : Nat → Nat} {t dd c : Nat} {m : Int32} (h : c < 8) : upd (xF mn ink t dd) c m = xF (upd mn c m) ink t dd := by
  funext j
  by_cases hj : j = c
  · subst hj
    rw [xF_m h, upd, if_pos rfl, upd, if_pos rfl]
  · rw [upd, if_neg hj]
    unfold xF
    by_cases h1 : j < 8
    · rw [if_pos h1, if_pos h1, upd, if_neg hj]
    · rw [if_neg h1, if_neg h1]
theorem xF_upD {mn : Nat → Int32} {ink : Nat → Nat} {t dd v : Nat} : ∀ j, j < 25 → upd (xF mn ink t dd) 24 (nI v) j = xF mn ink t v j := by
  intro j hj
  by_cases h : j = 24
  · subst h
    rw [upd, if_pos rfl]
    rfl
  · rw [upd, if_neg h]
    unfold xF
    by_cases h1 : j < 8
    · rw [if_pos h1, if_pos h1]
    · rw [if_neg h1, if_neg h1]
      by_cases h2 : j < 16
      · rw [if_pos h2, if_pos h2]
      · rw [if_neg h2, if_neg h2, if_pos (show j < 24 by omega), if_pos (show j < 24 by omega)]
theorem xF_d {mn : Nat → Int32} {ink : Nat → Nat} {t dd : Nat} : xF mn ink t dd 24 = nI dd := rfl
/-- days gone, clause by clause -/
def dyN (ink : Nat → Nat) (n vc : Nat) : Nat → Nat := fun c => if c < vc then ink c - n else ink c
theorem dyN_0 (ink : Nat → Nat) (n : Nat) : dyN ink n 0 = ink := rfl
theorem dyN_at (ink : Nat → Nat) (n vc : Nat) : dyN ink n vc vc = ink vc := if_neg (Nat.lt_irrefl _)
theorem dyN_s (ink : Nat → Nat) (n vc : Nat) : upN (dyN ink n vc) vc (ink vc - n) = dyN ink n (vc + 1) := by
  funext j
  by_cases h : j = vc
  · subst h; rw [upN_at, dyN, if_pos (Nat.lt_succ_self _)]
  · rw [upN_ne _ _ h, dyN, dyN]
    by_cases h1 : j < vc
    · rw [if_pos h1, if_pos (by omega)]
    · rw [if_neg h1, if_neg (by omega)]
theorem dyN_e {ink : Nat → Nat} {k : Nat} (n : Nat) (hz : ∀ c, k ≤ c → ink c = 0) : dyN ink n k = fun c => ink c - n := by
  funext c
  unfold dyN
  split
  · rfl
  · rw [hz c (by omega), Nat.zero_sub]
/-- blurred, clause by clause -/
def blN (ink : Nat → Nat) (mn : Nat → Int32) (cl : Nat) (m : Int32) (bl vc : Nat) : Nat → Nat := fun c => if c < vc then blurN ink mn cl m bl c else ink c
theorem blN_at (ink : Nat → Nat) (mn : Nat → Int32) (cl : Nat) (m : Int32) (bl vc : Nat) : blN ink mn cl m bl vc vc = ink vc := if_neg (Nat.lt_irrefl _)
theorem blN_yes {ink : Nat → Nat} {mn : Nat → Int32} {cl : Nat} {m : Int32} {bl vc : Nat} (h1 : ¬ vc = cl) (h2 : mn vc = m) : upN (blN ink mn cl m bl vc) vc (ink vc - bl) = blN ink mn cl m bl (vc + 1) := by
  funext j
  by_cases h : j = vc
  · subst h; rw [upN_at, blN, if_pos (Nat.lt_succ_self _), blurN_yes h1 h2]
  · rw [upN_ne _ _ h, blN, blN]
    by_cases h3 : j < vc
    · rw [if_pos h3, if_pos (by omega)]
    · rw [if_neg h3, if_neg (by omega)]
theorem blN_no {ink : Nat → Nat} {mn : Nat → Int32} {cl : Nat} {m : Int32} {bl vc : Nat} (h : ¬ (vc ≠ cl ∧ mn vc = m)) : blN ink mn cl m bl vc = blN ink mn cl m bl (vc + 1) := by
  funext j
  rw [blN, blN]
  by_cases h3 : j < vc
  · rw [if_pos h3, if_pos (by omega)]
  · rw [if_neg h3]
    by_cases h4 : j = vc
    · subst h4; rw [if_pos (Nat.lt_succ_self _), blurN_no h]
    · rw [if_neg (by omega)]
theorem blN_e {ink : Nat → Nat} {mn : Nat → Int32} {cl : Nat} {m : Int32} {bl k : Nat} (hz : ∀ c, k ≤ c → ink c = 0) : blN ink mn cl m bl k = blurN ink mn cl m bl := by
  funext c
  unfold blN
  split
  · rfl
  · unfold blurN
    rw [hz c (by omega), Nat.zero_sub, ite_self]
theorem bind_e {ink : Nat → Nat} {k : Nat} (hk : k ≤ 8) (hz : ∀ c, k ≤ c → ink c = 0) : bbits (fun c => decide (0 < ink c)) k = bbits (fun c => decide (0 < ink c)) 8 := by
  refine tb_ext 8 (Nat.lt_of_lt_of_le (bbits_lt _ k) (Nat.pow_le_pow_right (by decide) hk)) (bbits_lt _ 8) (fun j hj => ?_)
  rw [bbits_tb, bbits_tb, decide_eq_true hj, Bool.true_and]
  by_cases h : j < k
  · rw [decide_eq_true h, Bool.true_and]
  · rw [decide_eq_false h, hz j (by omega)]; rfl
theorem bd_e {ink : Nat → Nat} {mn : Nat → Int32} {m : Int32} {k : Nat} (hk : k ≤ 8) (hz : ∀ c, k ≤ c → ink c = 0) : bbits (fun c => decide (mn c = m ∧ 0 < ink c)) k = bdN ink mn m 0 := by
  refine tb_ext 8 (Nat.lt_of_lt_of_le (bbits_lt _ k) (Nat.pow_le_pow_right (by decide) hk)) (bdN_lt _ _ _ _) (fun j hj => ?_)
  rw [bbits_tb, bdN, Nat.testBit_and, bbits_tb, bbits_tb, decide_eq_true hj, Bool.true_and, Bool.true_and]
  by_cases h : j < k
  · rw [decide_eq_true h, Bool.true_and]
    by_cases h1 : mn j = m <;> by_cases h2 : 0 < ink j <;> simp [h1, h2]
  · rw [decide_eq_false h, hz j (by omega)]; rfl
/-- what is laid: of a clause, of all -/
def lyC (Fs Ft : Nat → Nat) (t D c : Nat) : Nat := bbits (fun s => (if t.testBit c = true then Ft c else Fs c).testBit s) (2 ^ D)
def lyF (Fs Ft : Nat → Nat) (t D : Nat) (kf : Nat → Nat) (vc : Nat) : Nat → Nat := fun c => if c < vc then lyC Fs Ft t D c else kf c
theorem lyF_at (Fs Ft : Nat → Nat) (t D : Nat) (kf : Nat → Nat) (vc x : Nat) (h : x = lyC Fs Ft t D vc) : upN (lyF Fs Ft t D kf vc) vc x = lyF Fs Ft t D kf (vc + 1) := by
  funext j
  by_cases h1 : j = vc
  · subst h1; rw [upN_at, lyF, if_pos (Nat.lt_succ_self _), h]
  · rw [upN_ne _ _ h1, lyF, lyF]
    by_cases h2 : j < vc
    · rw [if_pos h2, if_pos (by omega)]
    · rw [if_neg h2, if_neg (by omega)]
theorem upN_up (g : Nat → Nat) (i x y : Nat) : upN (upN g i x) i y = upN g i y := by
  funext j
  unfold upN
  split <;> rfl
theorem bbits_all (D : Nat) : bbits (fun _ => true) D = 2 ^ D - 1 := by
  refine tb_ext D (bbits_lt _ D) (by have := Nat.pow_pos (n := D) (show 0 < 2 by decide); omega) (fun j hj => ?_)
  rw [bbits_tb, Nat.testBit_two_pow_sub_one, decide_eq_true hj]; rfl
theorem ev_all (D : Nat) : bbits (fun _ => true) (2 ^ D) = allS D := bbits_all _
theorem lyC_lt {D : Nat} (Fs Ft : Nat → Nat) (t c : Nat) (h : D ≤ 6) : lyC Fs Ft t D c < 2 ^ 64 := Nat.lt_of_lt_of_le (bbits_lt _ _) (Nat.pow_le_pow_right (by decide) (pow64 h))
/-- keepAll over what is laid -/
theorem ka_e {cy Fs Ft kf : Nat → Nat} {t bs : Nat} : ∀ n, n ≤ cy 5 → foldN (fun c s => if bs.testBit c then s &&& lyF Fs Ft t (cy 4) kf (cy 5) c else s) (allS (cy 4)) n = skF Fs Ft bs t (allS (cy 4)) n
  | 0, _ => rfl
  | n + 1, h => by
    have ih := ka_e (cy := cy) (Fs := Fs) (Ft := Ft) (kf := kf) (t := t) (bs := bs) n (by omega)
    rw [foldN, ih, skF]
    by_cases hb : bs.testBit n = true
    · rw [if_pos hb, if_pos hb, lyF, if_pos (by omega)]
      refine Nat.eq_of_testBit_eq (fun j => ?_)
      rw [Nat.testBit_and, Nat.testBit_and, lyC, bbits_tb]
      by_cases hj : j < 2 ^ cy 4
      · rw [decide_eq_true hj, Bool.true_and]
      · have hz : (skF Fs Ft bs t (allS (cy 4)) n).testBit j = false := by
          refine Nat.testBit_lt_two_pow (Nat.lt_of_le_of_lt (skF_le _ _ _ _ _ _) ?_)
          have h1 : 2 ^ 2 ^ cy 4 ≤ 2 ^ j := Nat.pow_le_pow_right (by decide) (by omega)
          have h2 : 0 < 2 ^ 2 ^ cy 4 := Nat.pow_pos (by decide)
          unfold allS
          omega
        rw [hz, Bool.false_and, Bool.false_and]
    · rw [if_neg hb, if_neg hb]
