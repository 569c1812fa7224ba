/-! the reference's search: the row that it lays -/
def gI (a : Nat → Nat) : Nat → Int32 := fun c => nI (a c) - 1
theorem gI_up (a : Nat → Nat) (c v : Nat) : upd (gI a) c (nI v - 1) = gI (upN a c v) := by
  funext j
  unfold gI upd upN
  split <;> rfl
theorem nI_s1 (v : Nat) : nI (v + 1) - 1 = nI v := by
  apply Int32.toBitVec_inj.1
  show BitVec.ofNat 32 (v + 1) - 1#32 = BitVec.ofNat 32 v
  rw [BitVec.ofNat_add]
  exact BitVec.add_sub_cancel _ _
theorem gI_m {a : Nat → Nat} {c v : Nat} (h : a c = v + 1) : gI a c = nI v := by
  unfold gI
  rw [h, nI_s1]
theorem gI_0 {a : Nat → Nat} {c : Nat} (h : a c = 0) : gI a c = -1 := by
  unfold gI
  rw [h]; decide
theorem m1_inc (v : Nat) : nI v + Int32.ofInt (-1) = nI v - 1 := by rw [Int32.sub_eq_add_neg]; rfl
theorem upN_id {a : Nat → Nat} {c v : Nat} (h : a c = v) : upN a c v = a := by
  funext j
  unfold upN
  split
  · rename_i q; rw [q, h]
  · rfl
theorem ndf_or {x c : Nat} (h : x < 2 ^ c) : ndf (x ||| 2 ^ c) (2 ^ c) = x := by
  refine Nat.eq_of_testBit_eq (fun j => ?_)
  rw [ndf_tb, Nat.testBit_or, Nat.testBit_two_pow]
  by_cases q : c = j
  · subst q; rw [Nat.testBit_lt_two_pow h, decide_eq_true rfl]; rfl
  · rw [decide_eq_false q, Bool.or_false, Bool.not_false, Bool.and_true]
/-- rows from c on, behind what is laid -/
def grX (ok : Nat → Bool) (B men k c : Nat) (h a : Nat → Nat) : Nat → Nat := fun j => if c ≤ j ∧ B.testBit j = true then grR ok B men k c h j + 1 else a j
theorem grX_n {ok : Nat → Bool} {B men k c : Nat} {h a : Nat → Nat} (hB : B.testBit c = false) : grX ok B men (k + 1) c h a = grX ok B men k (c + 1) h a := by
  funext j
  unfold grX
  by_cases hj : c ≤ j ∧ B.testBit j = true
  · have hne : j ≠ c := fun q => by have := hj.2; rw [q, hB] at this; cases this
    rw [if_pos hj, if_pos ⟨by omega, hj.2⟩, gr_n hB]
  · rw [if_neg hj, if_neg (fun q => hj ⟨by omega, q.2⟩)]
theorem grX_b {ok : Nat → Bool} {B men k c m : Nat} {h a : Nat → Nat} (hB : B.testBit c = true) (hg : grM ok B men k c h = m) : grX ok B men k (c + 1) (upN h m (h m ||| 2 ^ c)) (upN a c (m + 1)) = grX ok B men (k + 1) c h a := by
  funext j
  unfold grX
  by_cases hj : j = c
  · subst hj
    rw [if_neg (by omega), upN_at, if_pos ⟨Nat.le_refl _, hB⟩, gr_c hB, hg]
  · by_cases h2 : c ≤ j ∧ B.testBit j = true
    · rw [if_pos h2, if_pos ⟨by omega, h2.2⟩, gr_j hB hj hg]
    · rw [if_neg h2, if_neg (fun q => h2 ⟨by omega, q.2⟩), upN_ne _ _ hj]
def spA (ok : Nat → Bool) (B men n : Nat) : Nat → Nat := if exB ok B men n 0 (fun _ => 0) = true then grX ok B men n 0 (fun _ => 0) (fun _ => 0) else fun _ => 0
theorem spA_t {ok : Nat → Bool} {B men n : Nat} (h : exB ok B men n 0 (fun _ => 0) = true) : spA ok B men n = grX ok B men n 0 (fun _ => 0) (fun _ => 0) := if_pos h
theorem spA_f {ok : Nat → Bool} {B men n : Nat} (h : exB ok B men n 0 (fun _ => 0) = false) : spA ok B men n = fun _ => 0 := if_neg (by rw [h]; decide)
theorem up_lt {h : Nat → Nat} {c m : Nat} (hh : ∀ m, h m < 2 ^ c) : ∀ m', upN h m (h m ||| 2 ^ c) m' < 2 ^ (c + 1) := by
  intro m'
  have hp : 2 ^ c < 2 ^ (c + 1) := Nat.pow_lt_pow_right (by decide) (by omega)
  unfold upN
  split
  · exact Nat.or_lt_two_pow (Nat.lt_trans (hh m) hp) hp
  · exact Nat.lt_trans (hh m') hp
theorem okS_f {cy Fs Ft : Nat → Nat} {t S : Nat} (h : kpN cy Fs Ft t S = 0) : okS cy Fs Ft t S = false := decide_eq_false (fun q => q h)
theorem okS_t {cy Fs Ft : Nat → Nat} {t S : Nat} (h : ¬ kpN cy Fs Ft t S = 0) : okS cy Fs Ft t S = true := decide_eq_true h
