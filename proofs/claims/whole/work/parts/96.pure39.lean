/-! the reference's tokens beside the class's -/
def T8 (k : Tk) (so pl sp : Nat) (wd : Int64) (nb : Int32) : Prop := pl = k.2.1 ∧ ((k.1 = 0 ∧ so = 1 ∧ sp = k.2.2.1) ∨ (k.1 = 1 ∧ so = 2 ∧ sp = k.2.2.1 ∧ ∃ v, v < 27 ^ 8 ∧ k.2.2.2 = lN v ∧ wd = lN (cvN 8 v)) ∨ (k.1 = 2 ∧ so = 3 ∧ sp = k.2.2.1 ∧ ∃ v, v < 1000 ∧ k.2.2.2 = lN v ∧ nb = nI v) ∨ (k.1 = 3 ∧ so = 4 ∧ sp = k.2.2.1 ∧ nb = nI 59) ∨ (k.1 = 4 ∧ so = 4 ∧ sp = k.2.2.1 ∧ nb = nI 44) ∨ (k.1 = 5 ∧ so = 0))
theorem cv_0 : ∀ n, cvN n 0 = 0
  | 0 => rfl
  | n + 1 => by rw [cvN, Nat.zero_div, cv_0 n]
theorem cv_up : ∀ (n r v : Nat), v < 27 ^ n → cvN (n + r) v = cvN n v
  | 0, r, v, h => by
    have : v = 0 := by simpa using h
    rw [this, cv_0, cv_0]
  | n + 1, r, v, h => by
    have p : 27 ^ (n + 1) = 27 ^ n * 27 := Nat.pow_succ ..
    rw [show n + 1 + r = (n + r) + 1 by omega, cvN, cvN, cv_up n r (v / 27) (by omega)]
def azB (tp : Nat → Int32) (q : Nat) : Prop := 97 ≤ bN tp q ∧ bN tp q ≤ 122
def dgB (tp : Nat → Int32) (q : Nat) : Prop := 48 ≤ bN tp q ∧ bN tp q ≤ 57
section TK8
variable {tp : Nat → Int32} {en nx p q n : Nat} {v wd : Int64} {nb : Int32}
theorem az_c (h : byT tp) (q : Nat) : (¬ tp q < nI 97 ∧ ¬ nI 122 < tp q) ↔ azB tp q := by have := bN_b h q; rw [this.2]; exact by_az _ this.1
theorem dg_c (h : byT tp) (q : Nat) : (¬ tp q < nI 48 ∧ ¬ nI 57 < tp q) ↔ dgB tp q := by have := bN_b h q; rw [this.2]; exact by_09 _ this.1
theorem az_v (h : byT tp) (ha : azB tp q) : tp q = nI (bN tp q) := by have := bN_b h q; exact this.2.trans (by_i _ (by have := ha.2; omega))
theorem dg_v (h : byT tp) (ha : dgB tp q) : tp q = nI (bN tp q) := by have := bN_b h q; exact this.2.trans (by_i _ (by have := ha.2; omega))
def wdI (tp : Nat → Int32) (en p q n : Nat) (wd : Int64) : Prop := q ≤ en ∧ p ≤ q ∧ n = q - p ∧ ∃ rv, runF tp en (nI 97) (nI 122) (nI 27) (nI 1) (en - p) (p, lN 0) = runF tp en (nI 97) (nI 122) (nI 27) (nI 1) (en - q) (q, rv) ∧ (n ≤ 8 → ∃ v, v < 27 ^ n ∧ rv = lN v ∧ wd = lN (cvN n v))
theorem wd_0 (h : p ≤ en) : wdI tp en p p 0 (lN 0) := ⟨h, Nat.le_refl _, by omega, lN 0, rfl, fun _ => ⟨0, by decide, rfl, rfl⟩⟩
theorem wd_s (hb : byT tp) (h : wdI tp en p q n wd) (hq : q < en) (ha : azB tp q) (hn : n < 8) : wdI tp en p (q + 1) (n + 1) (lN 32 * wd + lN (bN tp q - 97 + 1)) := by
  obtain ⟨h1, h2, h3, rv, h4, h5⟩ := h
  obtain ⟨v, e1, e2, e3⟩ := h5 (by omega)
  have hc := (az_c hb q).mpr ha
  have ha1 := ha.1
  have ha2 := ha.2
  have h6 : n + 1 = q + 1 - p := by rw [h3]; exact (Nat.sub_add_comm h2).symm
  have h7 : p ≤ q + 1 := by omega
  refine ⟨hq, h7, h6, _, h4.trans (run_go hq hc.1 hc.2), fun _ => ⟨v * 27 + (bN tp q - 97 + 1), ?_, ?_, ?_⟩⟩
  · rw [Nat.pow_succ]; omega
  · rw [e2, az_v hb ha, show nI (bN tp q) - nI 97 + nI 1 = nI (bN tp q - 97 + 1) by rw [pk_sub ha1, nI_add], show (nI 27).toInt64 = lN 27 from nI_l (by decide), show (nI (bN tp q - 97 + 1)).toInt64 = lN (bN tp q - 97 + 1) from nI_l (by omega), lN_mul, lN_add]
  · rw [e3, lN_mul, lN_add, cvN, show (v * 27 + (bN tp q - 97 + 1)) / 27 = v by omega, show (v * 27 + (bN tp q - 97 + 1)) % 27 = bN tp q - 97 + 1 by omega]
theorem wd_s8 (hb : byT tp) (h : wdI tp en p q n wd) (hq : q < en) (ha : azB tp q) (hn : 8 ≤ n) : wdI tp en p (q + 1) (n + 1) wd := by
  obtain ⟨h1, h2, h3, rv, h4, h5⟩ := h
  have hc := (az_c hb q).mpr ha
  have h6 : n + 1 = q + 1 - p := by rw [h3]; exact (Nat.sub_add_comm h2).symm
  have h7 : p ≤ q + 1 := by omega
  exact ⟨hq, h7, h6, _, h4.trans (run_go hq hc.1 hc.2), fun z => absurd z (by omega)⟩
theorem wd_run (hb : byT tp) (h : wdI tp en p q n wd) (he : en ≤ q ∨ ¬ azB tp q) : ∃ rv, runF tp en (nI 97) (nI 122) (nI 27) (nI 1) (en - p) (p, lN 0) = (q, rv) ∧ (n ≤ 8 → ∃ v, v < 27 ^ n ∧ rv = lN v ∧ wd = lN (cvN n v)) := by
  obtain ⟨h1, h2, h3, rv, h4, h5⟩ := h
  refine ⟨rv, h4.trans ?_, h5⟩
  rcases Nat.lt_or_ge q en with z | z
  · have hna : ¬ azB tp q := he.resolve_left (by omega)
    refine run_no z ?_
    rcases Classical.em (tp q < nI 97) with y | y
    · exact Or.inl y
    · exact Or.inr (Classical.byContradiction (fun x => hna ((az_c hb q).mp ⟨y, x⟩)))
  · exact run_end z
theorem t8_end (hs : spcF tp en (en - nx) nx = p) (h : en ≤ p) : T8 (advF tp en nx v) 1 p p wd nb := by rw [adv_end hs h]; exact ⟨rfl, Or.inl ⟨rfl, rfl, rfl⟩⟩
theorem t8_w (hb : byT tp) (hs : spcF tp en (en - nx) nx = p) (hp : p < en) (ha : azB tp p) (hI : wdI tp en p q n wd) (he : en ≤ q ∨ ¬ azB tp q) (hn : n ≤ 8) : T8 (advF tp en nx v) 2 p q wd nb := by
  have hc := (az_c hb p).mpr ha
  have h3 := hI.2.2.1
  obtain ⟨rv, r1, r2⟩ := wd_run hb hI he
  obtain ⟨x, e1, e2, e3⟩ := r2 hn
  rw [adv_w hs hp hc.1 hc.2, r1, if_neg (by show ¬ 8 < q - p; omega)]
  refine ⟨rfl, Or.inr (Or.inl ⟨rfl, rfl, rfl, x, Nat.lt_of_lt_of_le e1 (Nat.pow_le_pow_right (by decide) hn), e2, ?_⟩)⟩
  obtain ⟨r, hr⟩ : ∃ r, 8 = n + r := ⟨8 - n, by omega⟩
  rw [e3, hr, cv_up n r x e1]
theorem t8_wb (hb : byT tp) (hs : spcF tp en (en - nx) nx = p) (hp : p < en) (ha : azB tp p) (hI : wdI tp en p q n wd) (he : en ≤ q ∨ ¬ azB tp q) (hn : ¬ n ≤ 8) : T8 (advF tp en nx v) 0 p q wd nb := by
  have hc := (az_c hb p).mpr ha
  have h3 := hI.2.2.1
  obtain ⟨rv, r1, -⟩ := wd_run hb hI he
  rw [adv_w hs hp hc.1 hc.2, r1, if_pos (by show 8 < q - p; omega)]
  exact ⟨rfl, Or.inr (Or.inr (Or.inr (Or.inr (Or.inr ⟨rfl, rfl⟩))))⟩
def nbI (tp : Nat → Int32) (en p q n : Nat) (nb : Int32) : Prop := q ≤ en ∧ p ≤ q ∧ n = q - p ∧ ∃ rv, runF tp en (nI 48) (nI 57) (nI 10) (nI 0) (en - p) (p, lN 0) = runF tp en (nI 48) (nI 57) (nI 10) (nI 0) (en - q) (q, rv) ∧ (n ≤ 3 → ∃ v, v < 10 ^ n ∧ rv = lN v ∧ nb = nI v)
theorem nb_0 (h : p ≤ en) : nbI tp en p p 0 (nI 0) := ⟨h, Nat.le_refl _, by omega, lN 0, rfl, fun _ => ⟨0, by decide, rfl, rfl⟩⟩
theorem nb_s (hb : byT tp) (h : nbI tp en p q n nb) (hq : q < en) (ha : dgB tp q) (hn : n < 3) : nbI tp en p (q + 1) (n + 1) (nI 10 * nb + nI (bN tp q) - nI 48) := by
  obtain ⟨h1, h2, h3, rv, h4, h5⟩ := h
  obtain ⟨v, e1, e2, e3⟩ := h5 (by omega)
  have hc := (dg_c hb q).mpr ha
  have ha1 := ha.1
  have ha2 := ha.2
  have h6 : n + 1 = q + 1 - p := by rw [h3]; exact (Nat.sub_add_comm h2).symm
  have h7 : p ≤ q + 1 := by omega
  refine ⟨hq, h7, h6, _, h4.trans (run_go hq hc.1 hc.2), fun _ => ⟨v * 10 + (bN tp q - 48), ?_, ?_, ?_⟩⟩
  · rw [Nat.pow_succ]; omega
  · rw [e2, dg_v hb ha, show nI (bN tp q) - nI 48 + nI 0 = nI (bN tp q - 48) by rw [pk_sub ha1, nI_add, Nat.add_zero], show (nI 10).toInt64 = lN 10 from nI_l (by decide), show (nI (bN tp q - 48)).toInt64 = lN (bN tp q - 48) from nI_l (by omega), lN_mul, lN_add]
  · rw [e3, pk_mul, nI_add, pk_sub (by omega)]
    congr 1
    omega
theorem nb_s3 (hb : byT tp) (h : nbI tp en p q n nb) (hq : q < en) (ha : dgB tp q) (hn : 3 ≤ n) : nbI tp en p (q + 1) (n + 1) nb := by
  obtain ⟨h1, h2, h3, rv, h4, h5⟩ := h
  have hc := (dg_c hb q).mpr ha
  have h6 : n + 1 = q + 1 - p := by rw [h3]; exact (Nat.sub_add_comm h2).symm
  have h7 : p ≤ q + 1 := by omega
  exact ⟨hq, h7, h6, _, h4.trans (run_go hq hc.1 hc.2), fun z => absurd z (by omega)⟩
theorem nb_run (hb : byT tp) (h : nbI tp en p q n nb) (he : en ≤ q ∨ ¬ dgB tp q) : ∃ rv, runF tp en (nI 48) (nI 57) (nI 10) (nI 0) (en - p) (p, lN 0) = (q, rv) ∧ (n ≤ 3 → ∃ v, v < 10 ^ n ∧ rv = lN v ∧ nb = nI v) := by
  obtain ⟨h1, h2, h3, rv, h4, h5⟩ := h
  refine ⟨rv, h4.trans ?_, h5⟩
  rcases Nat.lt_or_ge q en with z | z
  · have hna : ¬ dgB tp q := he.resolve_left (by omega)
    refine run_no z ?_
    rcases Classical.em (tp q < nI 48) with y | y
    · exact Or.inl y
    · exact Or.inr (Classical.byContradiction (fun x => hna ((dg_c hb q).mp ⟨y, x⟩)))
  · exact run_end z
theorem az_or (hb : byT tp) (h : ¬ azB tp q) : tp q < nI 97 ∨ nI 122 < tp q := by
  rcases Classical.em (tp q < nI 97) with y | y
  · exact Or.inl y
  · exact Or.inr (Classical.byContradiction (fun x => h ((az_c hb q).mp ⟨y, x⟩)))
theorem dg_or (hb : byT tp) (h : ¬ dgB tp q) : tp q < nI 48 ∨ nI 57 < tp q := by
  rcases Classical.em (tp q < nI 48) with y | y
  · exact Or.inl y
  · exact Or.inr (Classical.byContradiction (fun x => h ((dg_c hb q).mp ⟨y, x⟩)))
theorem t8_d (hb : byT tp) (hs : spcF tp en (en - nx) nx = p) (hp : p < en) (h0 : ¬ azB tp p) (ha : dgB tp p) (hI : nbI tp en p q n nb) (he : en ≤ q ∨ ¬ dgB tp q) (hn : n ≤ 3) : T8 (advF tp en nx v) 3 p q wd nb := by
  have hc := (dg_c hb p).mpr ha
  have h3 := hI.2.2.1
  obtain ⟨rv, r1, r2⟩ := nb_run hb hI he
  obtain ⟨x, e1, e2, e3⟩ := r2 hn
  rw [adv_d hs hp (az_or hb h0) hc.1 hc.2, r1, if_neg (by show ¬ 3 < q - p; omega)]
  exact ⟨rfl, Or.inr (Or.inr (Or.inl ⟨rfl, rfl, rfl, x, Nat.lt_of_lt_of_le e1 (Nat.pow_le_pow_right (n := 10) (j := 3) (by decide) hn), e2, e3⟩))⟩
theorem t8_db (hb : byT tp) (hs : spcF tp en (en - nx) nx = p) (hp : p < en) (h0 : ¬ azB tp p) (ha : dgB tp p) (hI : nbI tp en p q n nb) (he : en ≤ q ∨ ¬ dgB tp q) (hn : ¬ n ≤ 3) : T8 (advF tp en nx v) 0 p q wd nb := by
  have hc := (dg_c hb p).mpr ha
  have h3 := hI.2.2.1
  obtain ⟨rv, r1, -⟩ := nb_run hb hI he
  rw [adv_d hs hp (az_or hb h0) hc.1 hc.2, r1, if_pos (by show 3 < q - p; omega)]
  exact ⟨rfl, Or.inr (Or.inr (Or.inr (Or.inr (Or.inr ⟨rfl, rfl⟩))))⟩
theorem b_59 (hb : byT tp) (p : Nat) : tp p = nI 59 ↔ bN tp p = 59 := by have := bN_b hb p; rw [this.2]; exact by_59 _ this.1
theorem b_44 (hb : byT tp) (p : Nat) : tp p = nI 44 ↔ bN tp p = 44 := by have := bN_b hb p; rw [this.2]; exact by_44 _ this.1
theorem b_32 (hb : byT tp) (p : Nat) : tp p = nI 32 ↔ bN tp p = 32 := by have := bN_b hb p; rw [this.2]; exact by_32 _ this.1
theorem t8_s (hb : byT tp) (hs : spcF tp en (en - nx) nx = p) (hp : p < en) (h0 : ¬ azB tp p) (h1 : ¬ dgB tp p) (h : bN tp p = 59) : T8 (advF tp en nx v) 4 p (p + 1) wd (nI (bN tp p)) := by
  rw [adv_o hs hp (az_or hb h0) (dg_or hb h1), if_pos ((b_59 hb p).mpr h), h]
  exact ⟨rfl, Or.inr (Or.inr (Or.inr (Or.inl ⟨rfl, rfl, rfl, rfl⟩)))⟩
theorem t8_c (hb : byT tp) (hs : spcF tp en (en - nx) nx = p) (hp : p < en) (h0 : ¬ azB tp p) (h1 : ¬ dgB tp p) (h : bN tp p = 44) : T8 (advF tp en nx v) 4 p (p + 1) wd (nI (bN tp p)) := by
  rw [adv_o hs hp (az_or hb h0) (dg_or hb h1), if_neg (fun z => by have := (b_59 hb p).mp z; omega), if_pos ((b_44 hb p).mpr h), h]
  exact ⟨rfl, Or.inr (Or.inr (Or.inr (Or.inr (Or.inl ⟨rfl, rfl, rfl, rfl⟩))))⟩
theorem t8_b (hb : byT tp) (hs : spcF tp en (en - nx) nx = p) (hp : p < en) (h0 : ¬ azB tp p) (h1 : ¬ dgB tp p) (h2 : ¬ bN tp p = 59) (h3 : ¬ bN tp p = 44) {sp : Nat} : T8 (advF tp en nx v) 0 p sp wd nb := by
  rw [adv_o hs hp (az_or hb h0) (dg_or hb h1), if_neg (fun z => h2 ((b_59 hb p).mp z)), if_neg (fun z => h3 ((b_44 hb p).mp z))]
  exact ⟨rfl, Or.inr (Or.inr (Or.inr (Or.inr (Or.inr ⟨rfl, rfl⟩))))⟩
theorem az_d {b : Nat} (hb : b < 256) : (nI 97 ≤ nI b ∧ nI b ≤ nI 122) ↔ (97 ≤ b ∧ b ≤ 122) := by rw [nI_leI (by decide) (by omega), nI_leI (by omega) (by decide)]
theorem dg_d {b : Nat} (hb : b < 256) : (nI 48 ≤ nI b ∧ nI b ≤ nI 57) ↔ (48 ≤ b ∧ b ≤ 57) := by rw [nI_leI (by decide) (by omega), nI_leI (by omega) (by decide)]
end TK8
