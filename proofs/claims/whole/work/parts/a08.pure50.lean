/-! acts: what they leave -/
theorem F6_up {fd : Nat} {tp : Nat → Int32} {kwd : Nat → Int64} {z4 cy f4 ink2 wt dy ds ink ink' : Nat → Nat} {t o ac im t' o' ac' im' : Nat} (h : F6 fd tp kwd z4 cy f4 ink2 wt dy ds ink t o ac im) (h1 : ∀ c, ink' c ≤ 40) (h2 : t' < 256) (h3 : o' < 16) (h4 : ac' ≤ 16) (h5 : im' ≤ 3) : F6 fd tp kwd z4 cy f4 ink2 wt dy ds ink' t' o' ac' im' := by
  obtain ⟨a1, a2, a3, a4, a5, a6, a7, a8, a9, -, -, -, -, -, a15⟩ := h
  exact ⟨a1, a2, a3, a4, a5, a6, a7, a8, a9, h1, h2, h3, h4, h5, a15⟩
theorem upP_at (pk : Nat → Pv) (i : Nat) (v : Pv) : upP pk i v i = v := by rw [upP_e]; unfold upR; rw [Nat.beq_refl]; rfl
theorem upP_ne (pk : Nat → Pv) {i j : Nat} (v : Pv) (h : j ≠ i) : upP pk i v j = pk j := by
  rw [upP_e]; unfold upR
  have e : Nat.beq j i = false := by
    cases q : Nat.beq j i with
    | false => rfl
    | true => exact absurd (Nat.eq_of_beq_eq_true q) h
  rw [e]; rfl
section GPS
variable {cy : Nat → Nat} {cur cur' : Pv} {o ac im : Nat} {pk pj pp pj8 : Nat → Pv}
theorem gp_keep (h : GP cy cur o ac im pk pj pp pj8) (ho : o < 16) (hac : ac ≤ 16) (h' : PK cy cur') : GP cy cur' (kaO ac o) (kaA ac) im (upP pk ((o + ac) % 16) cur) pj (rmP pp ac cur) pj8 := by
  obtain ⟨h1, h2, h3⟩ := h
  refine ⟨h', fun i hi => ?_, h3⟩
  unfold kaA at hi
  unfold kaO rmP
  by_cases z : ac < 16
  · rw [if_pos z] at hi
    rw [if_pos z, if_pos z]
    by_cases y : i = ac
    · subst y
      rw [if_pos rfl, upP_at]
      exact ⟨rfl, h1⟩
    · have := h2 i (by omega)
      rw [if_neg y, upP_ne _ _ (by omega)]
      exact this
  · rw [if_neg z] at hi
    rw [if_neg z, if_neg z]
    have e : ac = 16 := by omega
    subst e
    by_cases y : i = 15
    · subst y
      rw [if_pos rfl, show ((o + 1) % 16 + 15) % 16 = (o + 16) % 16 by omega, upP_at]
      exact ⟨rfl, h1⟩
    · have := h2 (i + 1) (by omega)
      rw [if_neg y, upP_ne _ _ (by omega), show ((o + 1) % 16 + i) % 16 = (o + (i + 1)) % 16 by omega]
      exact this
theorem gp_undo (h : GP cy cur o ac im pk pj pp pj8) (h0 : ¬ ac = 0) : pp (ac - 1) = pk ((o + (ac - 1)) % 16) ∧ PK cy (pk ((o + (ac - 1)) % 16)) ∧ GP cy (pk ((o + (ac - 1)) % 16)) o (ac - 1) im pk pj pp pj8 := by
  obtain ⟨h1, h2, h3⟩ := h
  have h4 := h2 (ac - 1) (by omega)
  have h5 : PK cy (pk ((o + (ac - 1)) % 16)) := by rw [← h4.1]; exact h4.2
  exact ⟨h4.1, h5, h5, fun i hi => h2 i (by omega), h3⟩
theorem gp_image (h : GP cy cur o ac im pk pj pp pj8) : GP cy cur o ac (im + 1) pk (upP pj im cur) pp (fun i => if i = im then cur else pj8 i) := by
  obtain ⟨h1, h2, h3⟩ := h
  refine ⟨h1, h2, fun i hi => ?_⟩
  show (if i = im then cur else pj8 i) = _ ∧ _
  by_cases y : i = im
  · subst y
    rw [if_pos rfl, upP_at]
    exact ⟨rfl, h1⟩
  · rw [if_neg y, upP_ne _ _ y]
    exact h3 i (by omega)
theorem gp_back {i : Nat} (h : GP cy cur o ac im pk pj pp pj8) (hi : i < im) : pj8 i = pj i ∧ PK cy (pj i) ∧ GP cy (pj i) o 0 im pk pj pp pj8 := by
  obtain ⟨h1, h2, h3⟩ := h
  have h4 := h3 i hi
  exact ⟨h4.1, h4.2, h4.2, fun j hj => absurd hj (Nat.not_lt_zero j), h3⟩
end GPS
theorem pk_day {cy ink : Nat → Nat} {mn : Nat → Int32} {t dd : Nat} (h : PK cy (ink, mn, t, dd)) (hd : dd < 999) : PK cy (fun c => ink c - 1, mn, t, dd + 1) := by
  obtain ⟨h1, h2, h3, h4, h5⟩ := h
  refine ⟨fun c => ?_, fun c hc => ?_, h3, h4, hd⟩
  · have : ink c ≤ 40 := h1 c
    show ink c - 1 ≤ 40; omega
  · have : ink c = 0 := h2 c hc
    show ink c - 1 = 0; omega
theorem pk_press {cy ink : Nat → Nat} {mn : Nat → Int32} {t dd c v bl : Nat} {m : Int32} (h : PK cy (ink, mn, t, dd)) (hc : c < cy 5) (hv : v ≤ 40) : PK cy (upN (blurN ink mn c m bl) c v, upd mn c m, t, dd) := by
  obtain ⟨h1, h2, h3, h4, h5⟩ := h
  refine ⟨fun j => ?_, fun j hj => ?_, fun j hj => ?_, h4, h5⟩
  · show upN (blurN ink mn c m bl) c v j ≤ 40
    have h9 : ink j ≤ 40 := h1 j
    by_cases z : j = c
    · subst z; rw [upN_at]; exact hv
    · rw [upN_ne _ _ z]; unfold blurN; split <;> omega
  · show upN (blurN ink mn c m bl) c v j = 0
    have h9 : ink j = 0 := h2 j hj
    rw [upN_ne _ _ (by omega)]; unfold blurN; split <;> omega
  · show upd mn c m j = -1
    have h9 : mn j = -1 := h3 j hj
    unfold upd
    rw [if_neg (by omega)]; exact h9
theorem pk_wash {cy ink : Nat → Nat} {mn : Nat → Int32} {t dd c : Nat} (h : PK cy (ink, mn, t, dd)) : PK cy (upN ink c 0, mn, t, dd) := by
  obtain ⟨h1, h2, h3, h4, h5⟩ := h
  refine ⟨fun j => ?_, fun j hj => ?_, h3, h4, h5⟩
  · show upN ink c 0 j ≤ 40
    have h9 : ink j ≤ 40 := h1 j
    unfold upN; split <;> omega
  · show upN ink c 0 j = 0
    have h9 : ink j = 0 := h2 j hj
    unfold upN; split <;> omega
theorem x256 {t c : Nat} (ht : t < 256) (hc : c < 8) : t ^^^ 2 ^ c < 256 := Nat.xor_lt_two_pow (n := 8) ht (Nat.pow_lt_pow_right (by decide) hc)
theorem pk_turn {cy ink : Nat → Nat} {mn : Nat → Int32} {t dd c : Nat} (h : PK cy (ink, mn, t, dd)) (hc : c < 8) : PK cy (ink, mn, t ^^^ 2 ^ c, dd) := by
  obtain ⟨h1, h2, h3, h4, h5⟩ := h
  exact ⟨h1, h2, h3, x256 h4 hc, h5⟩
theorem press_e {ink : Nat → Nat} {mn : Nat → Int32} {m : Int32} {c bl v : Nat} (hv : 1 ≤ v) : lostB ink (blurN ink mn c m bl) = lostB ink (upN (blurN ink mn c m bl) c v) := by
  unfold lostB
  refine Nat.eq_of_testBit_eq (fun j => ?_)
  rw [ndf_tb, ndf_tb]
  unfold bindB
  rw [bbits_tb, bbits_tb, bbits_tb]
  by_cases z : j = c
  · subst z
    rw [upN_at, show blurN ink mn j m bl j = ink j by unfold blurN; rw [if_neg (fun q => q.1 rfl)], decide_eq_true (show 0 < v by omega)]
    cases decide (j < 8) <;> cases decide (0 < ink j) <;> rfl
  · rw [upN_ne _ _ z]
/-! the tape's bytes -/
theorem by_any (x : Int32) : ∃ b, b < 256 ∧ x.toInt8.toInt32 = by8 b := by
  refine ⟨x.toBitVec.toNat % 256, Nat.mod_lt _ (by decide), ?_⟩
  have h : x.toBitVec.signExtend 8 = (BitVec.ofNat 32 (x.toBitVec.toNat % 256)).signExtend 8 := by
    apply BitVec.eq_of_getLsbD_eq
    intro i hi
    rw [BitVec.getLsbD_signExtend, BitVec.getLsbD_signExtend, if_pos (show i < 32 by omega), if_pos (show i < 32 by omega), BitVec.getLsbD_ofNat, show (256 : Nat) = 2 ^ 8 from rfl, Nat.testBit_mod_two_pow, decide_eq_true (show i < 32 by omega), decide_eq_true hi]
    rfl
  exact congrArg (fun z : BitVec 8 => (⟨⟨z⟩⟩ : Int8).toInt32) h
theorem by_tk {tp : Nat → Int32} {f : Nat} {a : Int32} (h : byT tp) : byT (tk4 tp f a) := by
  have hb : ∀ s, ∃ b, b < 256 ∧ byt a s = by8 b := fun s => by_any _
  have hu : ∀ (g : Nat → Int32) (i : Nat) (s : Int32), byT g → byT (upd g i (byt a s)) := by
    intro g i s hg p
    unfold upd
    by_cases z : p = i
    · rw [if_pos z]; exact hb s
    · rw [if_neg z]; exact hg p
  exact hu _ _ _ (hu _ _ _ (hu _ _ _ (hu _ _ _ h)))
theorem F6_fd {fd fd' : Nat} {tp tp' : Nat → Int32} {kwd : Nat → Int64} {z4 cy f4 ink2 wt dy ds ink : Nat → Nat} {t o ac im : Nat} (h : F6 fd tp kwd z4 cy f4 ink2 wt dy ds ink t o ac im) (h1 : fd' ≤ 900) (h2 : byT tp') : F6 fd' tp' kwd z4 cy f4 ink2 wt dy ds ink t o ac im := ⟨h1, h2, h.2.2⟩
theorem sz_0 {cy : Nat → Nat} {dd ac im fd w : Nat} (h : NC cy dd ac im) (hw : w ≤ 11) : szV cy dd ac im fd w = if w = 11 then fd else 0 := by
  obtain ⟨h1, rfl, rfl, rfl⟩ := h
  rcases (show w = 0 ∨ w = 1 ∨ w = 2 ∨ w = 3 ∨ w = 4 ∨ w = 5 ∨ w = 6 ∨ w = 7 ∨ w = 8 ∨ w = 9 ∨ w = 10 ∨ w = 11 by omega) with rfl | rfl | rfl | rfl | rfl | rfl | rfl | rfl | rfl | rfl | rfl | rfl
  · exact h1 0 (by decide)
  · exact h1 1 (by decide)
  · exact h1 2 (by decide)
  · exact h1 3 (by decide)
  · exact h1 4 (by decide)
  · exact h1 5 (by decide)
  · exact h1 6 (by decide)
  · exact h1 7 (by decide)
  · rfl
  · rfl
  · rfl
  · rfl
