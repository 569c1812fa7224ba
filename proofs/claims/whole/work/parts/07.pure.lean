/-! PURE: numbers as bits and as sets -/
def bbits (p : Nat → Bool) : Nat → Nat
  | 0 => 0
  | n + 1 => bbits p n ||| (if p n then 2 ^ n else 0)
theorem bbits_tb (p : Nat → Bool) : ∀ (n k : Nat), (bbits p n).testBit k = (decide (k < n) && p k)
  | 0, k => by simp [bbits]
  | n + 1, k => by
    rw [bbits, Nat.testBit_or, bbits_tb p n k]
    by_cases hp : p n = true
    · rw [if_pos hp, Nat.testBit_two_pow]
      by_cases hk : k = n
      · subst hk; simp [hp]
      · have h1 : ¬ n = k := fun h => hk h.symm
        have h2 : (k < n + 1) = (k < n) := propext ⟨fun h => by omega, fun h => by omega⟩
        simp [h1, h2]
    · have hp : p n = false := by simpa using hp
      simp only [hp]
      by_cases hk : k = n
      · subst hk; simp [hp]
      · have h2 : (k < n + 1) = (k < n) := propext ⟨fun h => by omega, fun h => by omega⟩
        simp [h2]
theorem bbits_lt (p : Nat → Bool) (n : Nat) : bbits p n < 2 ^ n := by
  apply Nat.lt_pow_two_of_testBit
  intro i hi
  rw [bbits_tb]
  simp [Nat.not_lt.mpr hi]
theorem tb_ext {a b : Nat} (n : Nat) (ha : a < 2 ^ n) (hb : b < 2 ^ n) (h : ∀ k, k < n → a.testBit k = b.testBit k) : a = b := by
  apply Nat.eq_of_testBit_eq
  intro i
  by_cases hi : i < n
  · exact h i hi
  · have h1 : 2 ^ n ≤ 2 ^ i := Nat.pow_le_pow_right (by decide) (Nat.not_lt.mp hi)
    rw [Nat.testBit_lt_two_pow (Nat.lt_of_lt_of_le ha h1), Nat.testBit_lt_two_pow (Nat.lt_of_lt_of_le hb h1)]
theorem bbits_of {a n : Nat} (ha : a < 2 ^ n) {p : Nat → Bool} (h : ∀ k, k < n → a.testBit k = p k) : a = bbits p n :=
  tb_ext n ha (bbits_lt p n) (fun k hk => by rw [h k hk, bbits_tb]; simp [hk])
theorem bbits_cong {p q : Nat → Bool} {n : Nat} (h : ∀ k, k < n → p k = q k) : bbits p n = bbits q n :=
  bbits_of (bbits_lt p n) (fun k hk => by rw [bbits_tb]; simp [hk, h k hk])
theorem bbits_yes {p : Nat → Bool} {n : Nat} (h : p n = true) : bbits p (n + 1) = bbits p n ||| 2 ^ n := by rw [bbits, if_pos h]
theorem bbits_no {p : Nat → Bool} {n : Nat} (h : p n = false) : bbits p (n + 1) = bbits p n := by rw [bbits]; simp [h]
theorem bbits_zero {p : Nat → Bool} {n : Nat} : bbits p n = 0 ↔ ∀ k, k < n → p k = false := by
  constructor
  · intro h k hk
    have h1 := bbits_tb p n k
    rw [h] at h1
    simpa [hk] using h1.symm
  · intro h
    refine (bbits_of (n := n) (p := p) (a := 0) (Nat.pow_pos (by decide)) (fun k hk => ?_)).symm
    simp [h k hk]
def cnt (p : Nat → Bool) : Nat → Nat
  | 0 => 0
  | n + 1 => cnt p n + (if p n then 1 else 0)
theorem cnt_le (p : Nat → Bool) : ∀ n, cnt p n ≤ n
  | 0 => Nat.le_refl 0
  | n + 1 => by
    have := cnt_le p n
    rw [cnt]
    split <;> omega
theorem cnt_cong {p q : Nat → Bool} : ∀ {n : Nat}, (∀ k, k < n → p k = q k) → cnt p n = cnt q n
  | 0, _ => rfl
  | n + 1, h => by rw [cnt, cnt, cnt_cong (fun k hk => h k (by omega)), h n (by omega)]
def allB (p : Nat → Bool) : Nat → Bool
  | 0 => true
  | n + 1 => allB p n && p n
theorem allB_iff {p : Nat → Bool} : ∀ {n : Nat}, allB p n = true ↔ ∀ k, k < n → p k = true
  | 0 => by simp [allB]
  | n + 1 => by
    rw [allB, Bool.and_eq_true, allB_iff]
    constructor
    · intro h k hk
      by_cases hkn : k = n
      · subst hkn; exact h.2
      · exact h.1 k (by omega)
    · intro h
      exact ⟨fun k hk => h k (by omega), h n (by omega)⟩
theorem allB_cong {p q : Nat → Bool} : ∀ {n : Nat}, (∀ k, k < n → p k = q k) → allB p n = allB q n
  | 0, _ => rfl
  | n + 1, h => by rw [allB, allB, allB_cong (fun k hk => h k (by omega)), h n (by omega)]
def upN (g : Nat → Nat) (i x : Nat) : Nat → Nat := fun j => if j = i then x else g j
theorem upN_at (g : Nat → Nat) (i x : Nat) : upN g i x i = x := by simp [upN]
theorem upN_ne (g : Nat → Nat) {i j : Nat} (x : Nat) (h : j ≠ i) : upN g i x j = g j := by simp [upN, h]
theorem upd_nI (g : Nat → Nat) (i x : Nat) : upd (fun j => nI (g j)) i (nI x) = fun j => nI (upN g i x j) := by
  funext j
  by_cases h : j = i
  · subst h; rw [pk_us, upN_at]
  · rw [pk_un h, upN_ne _ _ h]
theorem upd_lN (g : Nat → Nat) (i x : Nat) : vp_updL (fun j => lN (g j)) i (lN x) = fun j => lN (upN g i x j) := by
  funext j
  by_cases h : j = i
  · subst h; rw [pk_uLs, upN_at]
  · rw [pk_uLn h, upN_ne _ _ h]
theorem nI_inc (c : Nat) : nI c + Int32.ofInt 1 = nI (c + 1) := nI_1 c
theorem nI_shl1 {c : Nat} (h : c < 31) : nI 1 <<< (nI c &&& 31) = nI (2 ^ c) := by
  have h1 : (2 : Nat) ^ c < 2 ^ 31 := Nat.pow_lt_pow_right (by decide) h
  have := pk_shlN (n := 1) (nI c &&& 31) c (s_l c (by omega)) (by omega)
  rwa [Nat.one_mul] at this
theorem nI_shr {a c : Nat} (ha : a < 2 ^ 31) (hc : c < 32) : nI a >>> (nI c &&& 31) = nI (a / 2 ^ c) := pk_shrN ha _ c (s_l c hc)
def ndf (a b : Nat) : Nat := a ^^^ (a &&& b)
theorem ndf_tb (a b k : Nat) : (ndf a b).testBit k = (a.testBit k && !b.testBit k) := by
  rw [ndf, Nat.testBit_xor, Nat.testBit_and]
  cases a.testBit k <;> cases b.testBit k <;> rfl
theorem ndf_lt {a n : Nat} (b : Nat) (ha : a < 2 ^ n) : ndf a b < 2 ^ n := by
  apply Nat.lt_pow_two_of_testBit
  intro i hi
  rw [ndf_tb, Nat.testBit_lt_two_pow (Nat.lt_of_lt_of_le ha (Nat.pow_le_pow_right (by decide) hi))]
  rfl
theorem nI_andn (a b : Nat) : nI a &&& (nI b ^^^ (-1)) = nI (ndf a b) := by
  apply Int32.toBitVec_inj.1
  show BitVec.ofNat 32 a &&& (BitVec.ofNat 32 b ^^^ BitVec.allOnes 32) = BitVec.ofNat 32 (ndf a b)
  apply BitVec.eq_of_getLsbD_eq
  intro i hi
  simp only [BitVec.getLsbD_and, BitVec.getLsbD_xor, BitVec.getLsbD_ofNat, BitVec.getLsbD_allOnes, ndf_tb, hi, decide_true, Bool.true_and]
  cases a.testBit i <;> cases b.testBit i <;> rfl
def full64 : Nat := 2 ^ 64 - 1
theorem full_tb (k : Nat) (h : k < 64) : full64.testBit k = true := by
  rw [full64, Nat.testBit_two_pow_sub_one]
  simp [h]
theorem lN_not (a : Nat) : lN a ^^^ (-1) = lN (a ^^^ full64) := by
  rw [show (-1 : Int64) = lN full64 by decide +kernel, fb_xorL]
theorem lN_inj {a b : Nat} (ha : a < 2 ^ 64) (hb : b < 2 ^ 64) : lN a = lN b ↔ a = b := by
  constructor
  · intro h
    have h1 : (BitVec.ofNat 64 a).toNat = (BitVec.ofNat 64 b).toNat := congrArg (fun x : Int64 => x.toBitVec.toNat) h
    rw [BitVec.toNat_ofNat, BitVec.toNat_ofNat, Nat.mod_eq_of_lt ha, Nat.mod_eq_of_lt hb] at h1
    exact h1
  · rintro rfl; rfl
theorem lN_0 {a : Nat} (ha : a < 2 ^ 64) : lN a = 0 ↔ a = 0 := lN_inj (b := 0) ha (by decide)
theorem nI_bit {b : Bool} : (nI b.toNat = 0) ↔ b = false := by cases b <;> decide
theorem tb_div (a i : Nat) : a / 2 ^ i % 2 = (a.testBit i).toNat := by
  rw [Nat.testBit_eq_decide_div_mod_eq]
  have h : a / 2 ^ i % 2 = 0 ∨ a / 2 ^ i % 2 = 1 := by omega
  rcases h with h | h <;> simp [h]
theorem lN_isbit {a i : Nat} (ha : a < 2 ^ 64) (hi : i < 64) : ((lN a).toUInt64 >>> ((nI i).toInt64.toUInt64 &&& Int64.toUInt64 63)).toInt64 &&& lN 1 = lN (a.testBit i).toNat := by
  have h := wb_bit ha hi
  rw [tb_div] at h
  exact h
theorem lcmp_eq (x z : Int64) : lg_cmp x z = 0 ↔ x = z := by
  unfold lg_cmp
  by_cases h : x = z
  · subst h
    have : ¬ x > x := by simp [Int64.lt_irrefl]
    simp
  · by_cases h2 : x > z
    · simp [h2, h]
    · simp [h2, h]
section RL
variable {E : Et} {l : Launch} {d mc ms : Nat} {Z : Zt} {cc : ByteArray} {nL : Nat} {y : MethodName} {ret : Option FieldType} {pc k n : Nat} {lv : List (Nat × Value)} {rest : List Value} {ws : va_W}
theorem v_ifL_eq (X : Cx E l d mc ms Z cc nL y ret) {x z : Int64} {off : Int} {tgt : Nat} (h : decode cc pc = .ok (.ifCond .eq off, 3)) (ht : (pc : Int) + off = (tgt : Int)) (kt : x = z → V E Z tgt lv rest ws k n) (kf : ¬ x = z → V E Z (pc + 3) lv rest ws k n) : V E Z pc lv (.int (lg_cmp x z) :: rest) ws k n := v_if_eq X h ht (fun q => kt ((lcmp_eq x z).mp q)) (fun q => kf (fun w => q ((lcmp_eq x z).mpr w)))
theorem v_ifL_ne (X : Cx E l d mc ms Z cc nL y ret) {x z : Int64} {off : Int} {tgt : Nat} (h : decode cc pc = .ok (.ifCond .ne off, 3)) (ht : (pc : Int) + off = (tgt : Int)) (kt : ¬ x = z → V E Z tgt lv rest ws k n) (kf : x = z → V E Z (pc + 3) lv rest ws k n) : V E Z pc lv (.int (lg_cmp x z) :: rest) ws k n := v_if_ne X h ht (fun q => kt (fun w => q ((lcmp_eq x z).mpr w))) (fun q => kf ((lcmp_eq x z).mp q))
theorem v_ifLN_eq (X : Cx E l d mc ms Z cc nL y ret) {a b : Nat} {off : Int} {tgt : Nat} (h : decode cc pc = .ok (.ifCond .eq off, 3)) (ht : (pc : Int) + off = (tgt : Int)) (ha : a < 2 ^ 64) (hb : b < 2 ^ 64) (kt : a = b → V E Z tgt lv rest ws k n) (kf : ¬ a = b → V E Z (pc + 3) lv rest ws k n) : V E Z pc lv (.int (lg_cmp (lN a) (lN b)) :: rest) ws k n := v_ifL_eq X h ht (fun q => kt ((lN_inj ha hb).mp q)) (fun q => kf (fun w => q ((lN_inj ha hb).mpr w)))
theorem v_ifLN_ne (X : Cx E l d mc ms Z cc nL y ret) {a b : Nat} {off : Int} {tgt : Nat} (h : decode cc pc = .ok (.ifCond .ne off, 3)) (ht : (pc : Int) + off = (tgt : Int)) (ha : a < 2 ^ 64) (hb : b < 2 ^ 64) (kt : ¬ a = b → V E Z tgt lv rest ws k n) (kf : a = b → V E Z (pc + 3) lv rest ws k n) : V E Z pc lv (.int (lg_cmp (lN a) (lN b)) :: rest) ws k n := v_ifL_ne X h ht (fun q => kt (fun w => q ((lN_inj ha hb).mpr w))) (fun q => kf ((lN_inj ha hb).mp q))
end RL
abbrev ob (a ci : Nat) (fs : List Value) : Nat × va_E := (a, .inr (ci, fs))
abbrev aN (E : Et) (a n : Nat) (g : Nat → Nat) : Nat × va_E := (a, .inl (eC E 0, n, .inl (fun j => nI (g j))))
abbrev aI (E : Et) (a n : Nat) (g : Nat → Int32) : Nat × va_E := (a, .inl (eC E 0, n, .inl g))
abbrev aM (E : Et) (a n : Nat) (g : Nat → Nat) : Nat × va_E := (a, .inl (eC E 1, n, .inr (.inl (fun j => lN (g j)))))
abbrev aL (E : Et) (a n : Nat) (g : Nat → Int64) : Nat × va_E := (a, .inl (eC E 1, n, .inr (.inl g)))
abbrev aB (E : Et) (a n : Nat) (g : Nat → Int32) : Nat × va_E := (a, .inl (eC E 2, n, .inl g))
abbrev aZ (E : Et) (a n : Nat) (g : Nat → Bool) : Nat × va_E := (a, .inl (eC E 3, n, .inl (fun j => nI (g j).toNat)))
abbrev aP (E : Et) (a n : Nat) (g : Nat → Option Nat) : Nat × va_E := (a, .inl (eC E 4, n, .inr (.inr (.inr (.inr g)))))
/-! deterministic contracts: a reader's answer, a writer's answer and world -/
def roI (wc : va_W) (x : Int32) : Option Value → va_W → Prop := fun r w => w = wc ∧ r = some (.int x)
def roL (wc : va_W) (x : Int64) : Option Value → va_W → Prop := fun r w => w = wc ∧ r = some (.long x)
def roV (wc : va_W) : Option Value → va_W → Prop := fun r w => w = wc ∧ r = none
def wrI (w' : va_W) (x : Int32) : Option Value → va_W → Prop := fun r w => w = w' ∧ r = some (.int x)
def wrL (w' : va_W) (x : Int64) : Option Value → va_W → Prop := fun r w => w = w' ∧ r = some (.long x)
def wrV (w' : va_W) : Option Value → va_W → Prop := fun r w => w = w' ∧ r = none
theorem roI_of {wc : va_W} {x v : Int32} (h : v = x) : roI wc x (some (.int v)) wc := ⟨rfl, by rw [h]⟩
theorem roL_of {wc : va_W} {x v : Int64} (h : v = x) : roL wc x (some (.long v)) wc := ⟨rfl, by rw [h]⟩
theorem roV_of {wc : va_W} : roV wc none wc := ⟨rfl, rfl⟩
theorem wrI_of {ws w' : va_W} {x v : Int32} (hw : ws = w') (h : v = x) : wrI w' x (some (.int v)) ws := ⟨hw, by rw [h]⟩
theorem wrL_of {ws w' : va_W} {x v : Int64} (hw : ws = w') (h : v = x) : wrL w' x (some (.long v)) ws := ⟨hw, by rw [h]⟩
theorem wrV_of {ws w' : va_W} (hw : ws = w') : wrV w' none ws := ⟨hw, rfl⟩
theorem nb_bool (b : Bool) : narrow .boolean (.int (nI b.toNat)) = .int (nI b.toNat) := by cases b <;> decide
theorem nI_dec {c : Nat} (h : 0 < c) : nI c + Int32.ofInt (-1) = nI (c - 1) := sb_m1 h
def upB (g : Nat → Bool) (i : Nat) (x : Bool) : Nat → Bool := fun j => if j = i then x else g j
theorem upd_zB (g : Nat → Bool) (i : Nat) (x : Bool) : upd (fun j => nI (g j).toNat) i (vp_nar .boolean (nI x.toNat)) = fun j => nI (upB g i x j).toNat := by
  have hx : vp_nar .boolean (nI x.toNat) = nI x.toNat := by cases x <;> decide
  rw [hx]
  funext j
  by_cases h : j = i
  · subst h; rw [pk_us]; simp [upB]
  · rw [pk_un h]; simp [upB, h]
section RC
variable {E : Et} {l : Launch} {d mc ms : Nat} {Z : Zt} {cc : ByteArray} {nL : Nat} {y : MethodName} {ret : Option FieldType} {pc k n mc' ms' : Nat} {lv : List (Nat × Value)} {rest st0 : List Value} {ws wc w' ws' : va_W}
theorem v_roI1 (X : Cx E l d mc ms Z cc nL y ret) {x : Int32} (R : Rn E Z k n mc' ms' pc st0 rest wc (roI wc x)) (isC : List Nat) (hn : va_nd isC = true) (hC : isC.map (fun i => ws[i]?) = wc.map some) (kk : V E Z (pc + 3) lv (.int x :: rest) ws (k + mc') (n + ms')) : V E Z pc lv st0 ws k n :=
  v_ro X (Pr := fun r => r = some (.int x)) R isC hn hC (fun r h => by rw [h]; exact kk)
theorem v_roL1 (X : Cx E l d mc ms Z cc nL y ret) {x : Int64} (R : Rn E Z k n mc' ms' pc st0 rest wc (roL wc x)) (isC : List Nat) (hn : va_nd isC = true) (hC : isC.map (fun i => ws[i]?) = wc.map some) (kk : V E Z (pc + 3) lv (.long x :: rest) ws (k + mc') (n + ms')) : V E Z pc lv st0 ws k n :=
  v_ro X (Pr := fun r => r = some (.long x)) R isC hn hC (fun r h => by rw [h]; exact kk)
theorem v_roV1 (X : Cx E l d mc ms Z cc nL y ret) (R : Rn E Z k n mc' ms' pc st0 rest wc (roV wc)) (isC : List Nat) (hn : va_nd isC = true) (hC : isC.map (fun i => ws[i]?) = wc.map some) (kk : V E Z (pc + 3) lv rest ws (k + mc') (n + ms')) : V E Z pc lv st0 ws k n :=
  v_ro X (Pr := fun r => r = none) R isC hn hC (fun r h => by rw [h]; exact kk)
theorem v_wrI1 (X : Cx E l d mc ms Z cc nL y ret) {x : Int32} (R : Rn E Z k n mc' ms' pc st0 rest wc (wrI w' x)) (isC : List Nat) (hn : va_nd isC = true) (hC : isC.map (fun i => ws[i]?) = wc.map some) (hf : w'.map Prod.fst = wc.map Prod.fst) (hw : wput ws isC w' = ws') (kk : V E Z (pc + 3) lv (.int x :: rest) ws' (k + mc') (n + ms')) : V E Z pc lv st0 ws k n :=
  v_wr X R isC hn hC (fun r w1 h => by obtain ⟨rfl, rfl⟩ := h; exact ⟨hf, by rw [hw]; exact kk⟩)
theorem v_wrL1 (X : Cx E l d mc ms Z cc nL y ret) {x : Int64} (R : Rn E Z k n mc' ms' pc st0 rest wc (wrL w' x)) (isC : List Nat) (hn : va_nd isC = true) (hC : isC.map (fun i => ws[i]?) = wc.map some) (hf : w'.map Prod.fst = wc.map Prod.fst) (hw : wput ws isC w' = ws') (kk : V E Z (pc + 3) lv (.long x :: rest) ws' (k + mc') (n + ms')) : V E Z pc lv st0 ws k n :=
  v_wr X R isC hn hC (fun r w1 h => by obtain ⟨rfl, rfl⟩ := h; exact ⟨hf, by rw [hw]; exact kk⟩)
theorem v_wrV1 (X : Cx E l d mc ms Z cc nL y ret) (R : Rn E Z k n mc' ms' pc st0 rest wc (wrV w')) (isC : List Nat) (hn : va_nd isC = true) (hC : isC.map (fun i => ws[i]?) = wc.map some) (hf : w'.map Prod.fst = wc.map Prod.fst) (hw : wput ws isC w' = ws') (kk : V E Z (pc + 3) lv rest ws' (k + mc') (n + ms')) : V E Z pc lv st0 ws k n :=
  v_wr X R isC hn hC (fun r w1 h => by obtain ⟨rfl, rfl⟩ := h; exact ⟨hf, by rw [hw]; exact kk⟩)
end RC
