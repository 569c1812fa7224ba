/-! an array's contents count below its length alone -/
theorem arrV_cong {cA : ClassId} {n : Nat} {f g : Nat → Value} (h : ∀ j, j < n → f j = g j) : arrV cA n f = arrV cA n g := by
  unfold arrV
  congr 1
  apply Array.ext
  · simp
  · intro i h1 h2
    simp at h1
    simp [h i h1]
section AC
variable {E : Et} {Z : Zt} {pc k n : Nat} {lv : List (Nat × Value)} {st : List Value} {ws ws' : va_W}
theorem V.arr (q0 : Nat) {a : Nat} {cA : ClassId} {x x' : vp_A} (he : ws[q0]? = some (a, .inl (cA, x))) (h : vp_cell cA x = vp_cell cA x') (hw : ws.set q0 (a, .inl (cA, x')) = ws') (kk : V E Z pc lv st ws' k n) : V E Z pc lv st ws k n := by
  subst hw
  intro H locs ls hP hD hS hl
  have hc : va_at (eD E) vwCl (a, .inl (cA, x')) H := by
    show H[a]? = some (vp_cell cA x')
    rw [← h]
    exact hP q0 _ he
  exact kk H locs ls (hP.set hD he hc (fun _ _ => rfl)) (hD.set he) hS hl
theorem V.arN (q0 : Nat) {a m : Nat} {g g' : Nat → Nat} (he : ws[q0]? = some (aN E a m g)) (h : ∀ j, j < m → g j = g' j) (hw : ws.set q0 (aN E a m g') = ws') (kk : V E Z pc lv st ws' k n) : V E Z pc lv st ws k n :=
  V.arr q0 (x' := (m, .inl (fun j => nI (g' j)))) he (by rw [vp_cell_i, vp_cell_i]; exact arrV_cong (fun j hj => by rw [h j hj])) hw kk
theorem V.arI (q0 : Nat) {a m : Nat} {g g' : Nat → Int32} (he : ws[q0]? = some (aI E a m g)) (h : ∀ j, j < m → g j = g' j) (hw : ws.set q0 (aI E a m g') = ws') (kk : V E Z pc lv st ws' k n) : V E Z pc lv st ws k n :=
  V.arr q0 (x' := (m, .inl g')) he (by rw [vp_cell_i, vp_cell_i]; exact arrV_cong (fun j hj => by rw [h j hj])) hw kk
theorem V.arM (q0 : Nat) {a m : Nat} {g g' : Nat → Nat} (he : ws[q0]? = some (aM E a m g)) (h : ∀ j, j < m → g j = g' j) (hw : ws.set q0 (aM E a m g') = ws') (kk : V E Z pc lv st ws' k n) : V E Z pc lv st ws k n :=
  V.arr q0 (x' := (m, .inr (.inl (fun j => lN (g' j))))) he (by rw [vp_cell_l, vp_cell_l]; exact arrV_cong (fun j hj => by rw [h j hj])) hw kk
theorem V.arL (q0 : Nat) {a m : Nat} {g g' : Nat → Int64} (he : ws[q0]? = some (aL E a m g)) (h : ∀ j, j < m → g j = g' j) (hw : ws.set q0 (aL E a m g') = ws') (kk : V E Z pc lv st ws' k n) : V E Z pc lv st ws k n :=
  V.arr q0 (x' := (m, .inr (.inl g'))) he (by rw [vp_cell_l, vp_cell_l]; exact arrV_cong (fun j hj => by rw [h j hj])) hw kk
end AC
theorem max0_sub {a b : Nat} (ha : a < 2 ^ 30) (hb : b < 2 ^ 30) : (if nI 0 < nI a - nI b then nI a - nI b else nI 0) = nI (a - b) := by
  by_cases h : b < a
  · have e := pk_sub (Nat.le_of_lt h)
    rw [e, if_pos ((nI_ltI (by decide) (by omega)).mpr (by omega))]
  · have h1 : a - b = 0 := by omega
    rw [h1]
    by_cases h2 : a = b
    · subst h2
      rw [pk_sub (Nat.le_refl a), Nat.sub_self]
      split <;> rfl
    · have h3 := pk_sneg hb (by omega : a < b)
      have h4 : ¬ nI 0 < nI a - nI b := by
        rw [Int32.lt_iff_toInt_lt] at h3 ⊢
        have e0 : (nI 0).toInt = 0 := by decide
        have e1 : (0 : Int32).toInt = 0 := by decide
        omega
      rw [if_neg h4]
/-- a clause cl pressed on m blurs the others there -/
def blurN (ink : Nat → Nat) (mn : Nat → Int32) (cl : Nat) (m : Int32) (bl : Nat) : Nat → Nat := fun c => if c ≠ cl ∧ mn c = m then ink c - bl else ink c
def bindB (ink : Nat → Nat) : Nat := bbits (fun c => decide (0 < ink c)) 8
def lostB (a b : Nat → Nat) : Nat := ndf (bindB a) (bindB b)
def rnd (s : Nat) : Nat := (75 * s + 74) % 65537
theorem rnd_lt (s : Nat) : rnd s < 65537 := Nat.mod_lt _ (by decide)
/-- what a rainy day does, clause by clause: the ink, the seed -/
def rainF (rain : Nat) : Nat → (Nat → Nat) × Nat → (Nat → Nat) × Nat
  | 0, x => x
  | c + 1, x => if 0 < (rainF rain c x).1 c then (if rnd (rainF rain c x).2 % 100 < rain then (upN (rainF rain c x).1 c 0, rnd (rainF rain c x).2) else ((rainF rain c x).1, rnd (rainF rain c x).2)) else rainF rain c x
def rainD (rain : Nat) (x : (Nat → Nat) × Nat) : (Nat → Nat) × Nat := rainF rain 8 (fun c => x.1 c - 1, x.2)
theorem rainF_lt {rain : Nat} {x : (Nat → Nat) × Nat} (h : x.2 < 65537) : ∀ c, (rainF rain c x).2 < 65537
  | 0 => h
  | c + 1 => by
    rw [rainF]
    split
    · split <;> exact rnd_lt _
    · exact rainF_lt h c
theorem rainF_le {rain : Nat} {x : (Nat → Nat) × Nat} {b : Nat} (h : ∀ c, x.1 c ≤ b) : ∀ c j, (rainF rain c x).1 j ≤ b
  | 0, j => h j
  | c + 1, j => by
    rw [rainF]
    split
    · split
      · show upN _ c 0 j ≤ b
        by_cases hj : j = c
        · subst hj; rw [upN_at]; omega
        · rw [upN_ne _ _ hj]; exact rainF_le h c j
      · exact rainF_le h c j
    · exact rainF_le h c j
theorem fillN {g f : Nat → Nat} {c : Nat} (h : ∀ j, j < c → g j = f j) {x : Nat} (hx : x = f c) : ∀ j, j < c + 1 → upN g c x j = f j := by
  intro j hj
  by_cases e : j = c
  · subst e; rw [upN_at, hx]
  · rw [upN_ne _ _ e]; exact h j (by omega)
theorem fillI {g f : Nat → Int32} {c : Nat} (h : ∀ j, j < c → g j = f j) {x : Int32} (hx : x = f c) : ∀ j, j < c + 1 → upd g c x j = f j := by
  intro j hj
  by_cases e : j = c
  · subst e; rw [pk_us, hx]
  · rw [pk_un e]; exact h j (by omega)
theorem fillK {α : Type} {g f : Nat → α} {c : Nat} (h : ∀ j, j < c → g j = f j) (hx : g c = f c) : ∀ j, j < c + 1 → g j = f j := by
  intro j hj
  by_cases e : j = c
  · subst e; exact hx
  · exact h j (by omega)
theorem keepN {g f : Nat → Nat} {c : Nat} (h : ∀ j, c ≤ j → g j = f j) (x : Nat) : ∀ j, c + 1 ≤ j → upN g c x j = f j := by
  intro j hj
  rw [upN_ne _ _ (by omega)]
  exact h j (by omega)
theorem keepI {g f : Nat → Int32} {c : Nat} (h : ∀ j, c ≤ j → g j = f j) (x : Int32) : ∀ j, c + 1 ≤ j → upd g c x j = f j := by
  intro j hj
  rw [pk_un (by omega)]
  exact h j (by omega)
theorem keepK {α : Type} {g f : Nat → α} {c : Nat} (h : ∀ j, c ≤ j → g j = f j) : ∀ j, c + 1 ≤ j → g j = f j := fun j hj => h j (by omega)
theorem blurN_le {ink : Nat → Nat} {mn : Nat → Int32} {cl : Nat} {m : Int32} {bl b : Nat} (h : ∀ c, ink c ≤ b) : ∀ c, blurN ink mn cl m bl c ≤ b := by
  intro c
  unfold blurN
  have := h c
  split <;> omega
theorem bindB_lt (ink : Nat → Nat) : bindB ink < 256 := bbits_lt _ 8
theorem sw_cases (w : Int32) (n : Nat) (hn : n < 2 ^ 30 := by decide) : (w.toInt < 0 ∨ (n : Int) < w.toInt) ∨ ∃ j : Nat, j ≤ n ∧ w = nI j := by
  by_cases h0 : w.toInt < 0
  · exact Or.inl (Or.inl h0)
  · by_cases h1 : (n : Int) < w.toInt
    · exact Or.inl (Or.inr h1)
    · obtain ⟨j, hj, rfl⟩ := nI_of (x := w) (by rw [Int32.lt_iff_toInt_lt]; exact h0)
      rw [nI_toInt hj] at h1
      exact Or.inr ⟨j, by omega, rfl⟩
/-- the sets with a deed; by its Java number -/
def swT (i : Nat) : Nat := bbits (fun s => s.testBit i) 64
theorem swT_tab : ∀ i, i < 6 → sw_tab.getD i 0 = lN (swT i) := by decide +kernel
def swI (x : Int32) : Nat := if 0 ≤ x ∧ x < 6 then swT x.toNatClampNeg else 0
theorem swI_n {i : Nat} (h : i < 6) : swI (nI i) = swT i := by
  have h1 : (0 : Int32) ≤ nI i := nI_pos' (by omega)
  have h2 : nI i < 6 := nI_lt (b := 6) h (by decide)
  rw [swI, if_pos ⟨h1, h2⟩, nI_clamp (by omega)]
def strN (fo a b : Nat) : Nat := match fo with
  | 0 => a
  | 1 => a ^^^ full64
  | 2 => b ||| (a ^^^ full64)
  | 3 => a ||| b
  | 4 => (a &&& b) ^^^ full64
  | _ => a ^^^ b
def turN (fo a b : Nat) : Nat := match fo with
  | 0 => strN 1 a b
  | 1 => strN 0 a b
  | 2 => strN 2 b a
  | 3 => strN 4 a b
  | 4 => strN 3 a b
  | _ => strN 5 a b ^^^ full64
def allS (deeds : Nat) : Nat := 2 ^ 2 ^ deeds - 1
theorem pow64 {n : Nat} (h : n ≤ 6) : 2 ^ n ≤ 64 := Nat.pow_le_pow_right (n := 2) (by decide) h
theorem allS_lt {n : Nat} (h : n ≤ 6) : allS n < 2 ^ 64 := by
  have h1 : 2 ^ 2 ^ n ≤ 2 ^ 64 := Nat.pow_le_pow_right (by decide) (pow64 h)
  have h2 : 0 < 2 ^ 2 ^ n := Nat.pow_pos (by decide)
  unfold allS
  omega
/-- the sets that keep the clauses bs, out of a0 -/
def skF (Fs Ft : Nat → Nat) (bs tu a0 : Nat) : Nat → Nat
  | 0 => a0
  | c + 1 => if bs.testBit c then skF Fs Ft bs tu a0 c &&& (if tu.testBit c then Ft c else Fs c) else skF Fs Ft bs tu a0 c
theorem skF_le (Fs Ft : Nat → Nat) (bs tu a0 : Nat) : ∀ n, skF Fs Ft bs tu a0 n ≤ a0
  | 0 => Nat.le_refl _
  | n + 1 => by
    rw [skF]
    split
    · exact Nat.le_trans Nat.and_le_left (skF_le Fs Ft bs tu a0 n)
    · exact skF_le Fs Ft bs tu a0 n
/-- the clauses turned by bits of unsure ones -/
def tbF (uc : Nat → Nat) (us : Nat) : Nat → Nat
  | 0 => 0
  | k + 1 => if us.testBit k then tbF uc us k ||| 2 ^ uc k else tbF uc us k
theorem tbF_lt {uc : Nat → Nat} (us : Nat) : ∀ {n : Nat}, (∀ k, k < n → uc k < 8) → tbF uc us n < 256
  | 0, _ => by rw [tbF]; decide
  | n + 1, h => by
    have ih := tbF_lt us (n := n) (fun k hk => h k (by omega))
    rw [tbF]
    split
    · have h1 : 2 ^ uc n < 2 ^ 8 := Nat.pow_lt_pow_right (by decide) (h n (by omega))
      exact Nat.or_lt_two_pow (n := 8) ih h1
    · exact ih
theorem rainF_no {rain c : Nat} {x : (Nat → Nat) × Nat} (h : (rainF rain c x).1 c ≤ 0) : rainF rain (c + 1) x = rainF rain c x := by rw [rainF, if_neg (by omega)]
theorem rainF_wet {rain c : Nat} {x : (Nat → Nat) × Nat} (h : ¬ (rainF rain c x).1 c ≤ 0) (h2 : ¬ rain ≤ (75 * (rainF rain c x).2 + 74) % 65537 % 100) : rainF rain (c + 1) x = (upN (rainF rain c x).1 c 0, rnd (rainF rain c x).2) := by rw [rainF, if_pos (by omega), if_pos (by unfold rnd; omega)]
theorem rainF_dry {rain c : Nat} {x : (Nat → Nat) × Nat} (h : ¬ (rainF rain c x).1 c ≤ 0) (h2 : rain ≤ (75 * (rainF rain c x).2 + 74) % 65537 % 100) : rainF rain (c + 1) x = ((rainF rain c x).1, rnd (rainF rain c x).2) := by rw [rainF, if_pos (by omega), if_neg (by unfold rnd; omega)]
theorem blurN_yes {ink : Nat → Nat} {mn : Nat → Int32} {c cl : Nat} {m : Int32} {bl : Nat} (h1 : ¬ c = cl) (h2 : mn c = m) : blurN ink mn cl m bl c = ink c - bl := by rw [blurN, if_pos ⟨h1, h2⟩]
theorem blurN_no {ink : Nat → Nat} {mn : Nat → Int32} {c cl : Nat} {m : Int32} {bl : Nat} (h : ¬ (c ≠ cl ∧ mn c = m)) : blurN ink mn cl m bl c = ink c := by rw [blurN, if_neg h]
theorem swI_lt0 {x : Int32} (h : x < 0) : swI x = 0 := by
  rw [swI, if_neg]
  intro q
  have h1 := q.1
  rw [Int32.le_iff_toInt_le] at h1
  rw [Int32.lt_iff_toInt_lt] at h
  omega
theorem swI_ge6 {x : Int32} (h : nI 6 ≤ x) : swI x = 0 := by
  rw [swI, if_neg]
  intro q
  have h1 := q.2
  rw [Int32.lt_iff_toInt_lt] at h1
  rw [Int32.le_iff_toInt_le] at h
  have e : (nI 6).toInt = (6 : Int32).toInt := by decide
  omega
/-- a rainy day, sealed: nothing unfolds it -/
noncomputable def rainQ (rain : Nat) (x : (Nat → Nat) × Nat) : (Nat → Nat) × Nat := Classical.choose (⟨rainD rain x, rfl⟩ : ∃ y, y = rainD rain x)
theorem rainQ_D (rain : Nat) (x : (Nat → Nat) × Nat) : rainQ rain x = rainD rain x := Classical.choose_spec (⟨rainD rain x, rfl⟩ : ∃ y, y = rainD rain x)
theorem rainD_eq (rain : Nat) (ink : Nat → Nat) (sd : Nat) : rainQ rain (ink, sd) = rainF rain 8 (fun c => ink c - 1, sd) := by rw [rainQ_D]; unfold rainD; rfl
theorem rainD_lt {rain : Nat} {x : (Nat → Nat) × Nat} (h : x.2 < 65537) : (rainQ rain x).2 < 65537 := by
  rw [rainQ_D]
  unfold rainD
  exact rainF_lt (x := (fun c => x.1 c - 1, x.2)) h 8
theorem rainD_le {rain : Nat} {x : (Nat → Nat) × Nat} {b : Nat} (h : ∀ c, x.1 c ≤ b) : ∀ c, (rainQ rain x).1 c ≤ b := by
  rw [rainQ_D]
  unfold rainD
  exact fun c => rainF_le (x := (fun c => x.1 c - 1, x.2)) (fun c => Nat.le_trans (Nat.sub_le _ _) (h c)) 8 c
