/-! the reference's reading beside the class's -/
def RS (hd : Bool) (nm : Rnm) (cc : Nat → Nat) (A : Ac) (D : Dc) (bl : Int32) (cy : Nat → Nat) (kp nc : Nat) (na : Nat → Int64) (ns nu gm gi gf go_ : Nat → Nat) (gt_ : Nat → Int32) (un gdm gdd gds : Nat → Nat) : Prop :=
  ((hd = false ∧ bl = -1) ∨ (hd = true ∧ bl = nI (cc 0) ∧ cy 1 = cc 1 ∧ cy 2 = cc 2)) ∧ (cy 3 = cc 3 ∧ cy 4 = cc 4 ∧ cy 5 = cc 5 ∧ cy 6 = cc 6 ∧ cy 7 = cc 7) ∧ NR nm nc na ns nu ∧
  (∀ c, c < cc 5 → gm c = A.2.2.2.1 c ∧ gi c = A.2.2.2.2.1 c ∧ gf c = A.1 c ∧ go_ c = A.2.1 c ∧ gt_ c = A.2.2.1 c) ∧ (∀ j, j < cc 6 → un j = D.1 j) ∧ kp < 2 ^ cc 7 ∧
  (∀ i, i < cc 7 → gdm i = D.2.1 i ∧ gdd i = D.2.2.1 i ∧ gds i = D.2.2.2.1 i ∧ kp.testBit i = D.2.2.2.2 i)
theorem NR_add {nm : Rnm} {nc : Nat} {na : Nat → Int64} {ns nu : Nat → Nat} {k : Tk} {so9 pl9 sp9 s8 so x : Nat} {wf : Int64} {nb9 : Int32} (h : NR nm nc na ns nu) (hT : T8 k so9 pl9 sp9 wf nb9) (hk : k.1 = 1) (hs : s8 + 1 = so) : NR (nm.1 + 1, vp_updL nm.2.1 nm.1 k.2.2.2, upN nm.2.2.1 nm.1 so, upN nm.2.2.2 nm.1 x) (nc + 1) (vp_updL na nc wf) (upN ns nc s8) (upN nu nc x) := by
  obtain ⟨e, h⟩ := h
  subst e
  refine ⟨rfl, fun i hi => ?_⟩
  have hi2 : i < nm.1 + 1 := hi
  have hx : ∃ v, v < 27 ^ 8 ∧ k.2.2.2 = lN v ∧ wf = lN (cvN 8 v) := by
    obtain ⟨-, hT⟩ := hT
    rcases hT with h | h | h | h | h | h
    · omega
    · exact h.2.2.2
    · omega
    · omega
    · omega
    · omega
  show upN ns nm.1 s8 i + 1 = upN nm.2.2.1 nm.1 so i ∧ upN nu nm.1 x i = upN nm.2.2.2 nm.1 x i ∧ ∃ v, v < 27 ^ 8 ∧ vp_updL nm.2.1 nm.1 k.2.2.2 i = lN v ∧ vp_updL na nm.1 wf i = lN (cvN 8 v)
  by_cases z : i = nm.1
  · subst z
    rw [upN_at, upN_at, upN_at, upN_at, uL_at, uL_at]
    exact ⟨hs, rfl, hx⟩
  · rw [upN_ne _ _ z, upN_ne _ _ z, upN_ne _ _ z, upN_ne _ _ z, uL_ne z, uL_ne z]
    exact h i (by omega)
theorem fst_six {p : Nat → Bool} {j : Nat} (hj : j < 6) (h : ∀ i, i < j → p i = false) (h2 : p j = true) : fst_ p 6 0 = some j := by
  rw [fst_mv (n := 6) (m := j) (by omega) h, fst_hit (m := 6) hj h2]
section RLN
variable {tp : Nat → Int32} {en : Nat} {kwd : Nat → Int64} {hd : Bool} {nm : Rnm} {cc cy : Nat → Nat} {A : Ac} {D : Dc} {k k1 : Tk} {bl : Int32} {kp nc : Nat} {na : Nat → Int64} {ns nu gm gi gf go_ : Nat → Nat} {gt_ : Nat → Int32} {un gdm gdd gds : Nat → Nat} {so pl sp f p : Nat} {wd wf : Int64} {nb : Int32}
theorem ls8 {i : Nat} (h : T8 k so pl sp wd nb) (hk : ∀ s, s < 6 → kwd s = lN (pkS 27 s)) (hi : i < 6) : decide (so = 2 ∧ wd = lN (pkS 32 i)) = lsP k.1 k.2.2.2 kwd i := by
  rw [fo8 h (show i < 20 by omega)]
  unfold lsP
  rw [hk i hi]
theorem rs_f (hR : RS hd nm cc A D bl cy kp nc na ns nu gm gi gf go_ gt_ un gdm gdd gds) (hI : RI (hd, nm, cc, A, D, k)) : (bl = -1 → hd = false) ∧ (¬ bl = -1 → hd = true) := by
  have hh : RIh hd cc := hI.2.2.2
  rcases hR.1 with ⟨a, b⟩ | ⟨a, b, -⟩
  · exact ⟨fun _ => a, fun z => absurd b z⟩
  · refine ⟨fun z => ?_, fun _ => a⟩
    have := (hh.2 a).1
    exact (nm1 (b.symm.trans z) (by omega)).elim
theorem ln_bad {P Q : Prop} (h : fst_ (lsP k.1 k.2.2.2 kwd) 6 0 = some so) (h0 : ¬ so = 0) (hb : (bl = -1 → hd = false) ∧ (¬ bl = -1 → hd = true)) (hfu : P → hd = true ∧ fuB cc so = true) (hnf : ¬ P → fuB cc so = false) (hw : Q → lnF tp en kwd so hd nm cc A D (advK tp en k) = .inl (f, p)) (hx : (P ∧ f = 5 ∧ p = k.2.1) ∨ (¬ P ∧ bl = -1 ∧ f = 6 ∧ p = k.2.1) ∨ (¬ P ∧ ¬ bl = -1 ∧ Q)) : lineF tp en kwd (hd, nm, cc, A, D, k) = .inl (f, p) := by
  rcases hx with ⟨a, rfl, rfl⟩ | ⟨a, b, rfl, rfl⟩ | ⟨a, b, c⟩
  · exact ln_fu h h0 (hfu a).1 (hfu a).2
  · exact ln_la h h0 (hb.1 b)
  · rw [ln_go h h0 (hb.2 b) (hnf a) rfl]
    exact hw c
theorem rb_0 (hR : RS hd nm cc A D bl cy kp nc na ns nu gm gi gf go_ gt_ un gdm gdd gds) (hI : RI (hd, nm, cc, A, D, k)) (h : fst_ (lsP k.1 k.2.2.2 kwd) 6 0 = some 0) (hx : (¬ bl = -1 ∧ f = 3 ∧ p = k.2.1) ∨ (bl = -1 ∧ headF tp en (advK tp en k) = .inl (f, p))) : lineF tp en kwd (hd, nm, cc, A, D, k) = .inl (f, p) := by
  rcases hx with ⟨a, rfl, rfl⟩ | ⟨a, b⟩
  · exact ln_ag h ((rs_f hR hI).2 a)
  · rw [ln_g0 h ((rs_f hR hI).1 a) rfl]
    show sb (headF tp en (advK tp en k)) _ = _
    rw [b, sb_e]
theorem rb_1 (hR : RS hd nm cc A D bl cy kp nc na ns nu gm gi gf go_ gt_ un gdm gdd gds) (hI : RI (hd, nm, cc, A, D, k)) (h : fst_ (lsP k.1 k.2.2.2 kwd) 6 0 = some 1) (hx : (cy 3 = 4 ∧ f = 5 ∧ p = k.2.1) ∨ (¬ cy 3 = 4 ∧ bl = -1 ∧ f = 6 ∧ p = k.2.1) ∨ (¬ cy 3 = 4 ∧ ¬ bl = -1 ∧ nmS tp en kwd 1 (cy 3) nm (advK tp en k) = .inl (f, p))) : lineF tp en kwd (hd, nm, cc, A, D, k) = .inl (f, p) := by
  have hh : RIh hd cc := hI.2.2.2
  have hn : RIn nm cc := hI.1
  have e := hR.2.1
  have hn3 := hn.2
  refine ln_bad h (by decide) (rs_f hR hI) (fun z => ⟨?_, decide_eq_true (show 4 ≤ cc 3 by omega)⟩) (fun z => decide_eq_false (show ¬ 4 ≤ cc 3 by omega)) (fun z => ?_) hx
  · cases hd with
    | true => rfl
    | false => have := hh.1 rfl; omega
  · show sb (nmS tp en kwd 1 (cc 3) nm (advK tp en k)) _ = _
    rw [← e.1, z, sb_e]
theorem rb_2 (hR : RS hd nm cc A D bl cy kp nc na ns nu gm gi gf go_ gt_ un gdm gdd gds) (hI : RI (hd, nm, cc, A, D, k)) (h : fst_ (lsP k.1 k.2.2.2 kwd) 6 0 = some 2) (hx : (cy 4 = 6 ∧ f = 5 ∧ p = k.2.1) ∨ (¬ cy 4 = 6 ∧ bl = -1 ∧ f = 6 ∧ p = k.2.1) ∨ (¬ cy 4 = 6 ∧ ¬ bl = -1 ∧ nmS tp en kwd 2 (cy 4) nm (advK tp en k) = .inl (f, p))) : lineF tp en kwd (hd, nm, cc, A, D, k) = .inl (f, p) := by
  have hh : RIh hd cc := hI.2.2.2
  have hn : RIn nm cc := hI.1
  have e := hR.2.1
  have hn3 := hn.2
  refine ln_bad h (by decide) (rs_f hR hI) (fun z => ⟨?_, decide_eq_true (show 6 ≤ cc 4 by omega)⟩) (fun z => decide_eq_false (show ¬ 6 ≤ cc 4 by omega)) (fun z => ?_) hx
  · cases hd with
    | true => rfl
    | false => have := hh.1 rfl; omega
  · show sb (nmS tp en kwd 2 (cc 4) nm (advK tp en k)) _ = _
    rw [← e.2.1, z, sb_e]
theorem rb_3 (hR : RS hd nm cc A D bl cy kp nc na ns nu gm gi gf go_ gt_ un gdm gdd gds) (hI : RI (hd, nm, cc, A, D, k)) (h : fst_ (lsP k.1 k.2.2.2 kwd) 6 0 = some 3) (hx : (cy 5 = 8 ∧ f = 5 ∧ p = k.2.1) ∨ (¬ cy 5 = 8 ∧ bl = -1 ∧ f = 6 ∧ p = k.2.1) ∨ (¬ cy 5 = 8 ∧ ¬ bl = -1 ∧ clauseF tp en kwd (cy 5) nm (advK tp en k) = .inl (f, p))) : lineF tp en kwd (hd, nm, cc, A, D, k) = .inl (f, p) := by
  have hh : RIh hd cc := hI.2.2.2
  have hn : RIn nm cc := hI.1
  have e := hR.2.1
  have hn3 := hn.2
  refine ln_bad h (by decide) (rs_f hR hI) (fun z => ⟨?_, decide_eq_true (show 8 ≤ cc 5 by omega)⟩) (fun z => decide_eq_false (show ¬ 8 ≤ cc 5 by omega)) (fun z => ?_) hx
  · cases hd with
    | true => rfl
    | false => have := hh.1 rfl; omega
  · show sb (clauseF tp en kwd (cc 5) nm (advK tp en k)) _ = _
    rw [← e.2.2.1, z, sb_e]
theorem rb_4 (hR : RS hd nm cc A D bl cy kp nc na ns nu gm gi gf go_ gt_ un gdm gdd gds) (hI : RI (hd, nm, cc, A, D, k)) (h : fst_ (lsP k.1 k.2.2.2 kwd) 6 0 = some 4) (hx : (cy 6 = 5 ∧ f = 5 ∧ p = k.2.1) ∨ (¬ cy 6 = 5 ∧ bl = -1 ∧ f = 6 ∧ p = k.2.1) ∨ (¬ cy 6 = 5 ∧ ¬ bl = -1 ∧ pnS tp en kwd 3 (tbF D.1 (2 ^ cy 6 - 1) (cy 6)) nm (advK tp en k) = .inl (f, p))) : lineF tp en kwd (hd, nm, cc, A, D, k) = .inl (f, p) := by
  have hh : RIh hd cc := hI.2.2.2
  have hn : RId cc D := hI.2.2.1
  have e := hR.2.1
  have hn3 := hn.1
  refine ln_bad h (by decide) (rs_f hR hI) (fun z => ⟨?_, decide_eq_true (show 5 ≤ cc 6 by omega)⟩) (fun z => decide_eq_false (show ¬ 5 ≤ cc 6 by omega)) (fun z => ?_) hx
  · cases hd with
    | true => rfl
    | false => have := hh.1 rfl; omega
  · show sb (pnS tp en kwd 3 (tbF D.1 (2 ^ cc 6 - 1) (cc 6)) nm (advK tp en k)) _ = _
    rw [← e.2.2.2.1, z, sb_e]
theorem rb_5 (hR : RS hd nm cc A D bl cy kp nc na ns nu gm gi gf go_ gt_ un gdm gdd gds) (hI : RI (hd, nm, cc, A, D, k)) (h : fst_ (lsP k.1 k.2.2.2 kwd) 6 0 = some 5) (hx : (cy 7 = 6 ∧ f = 5 ∧ p = k.2.1) ∨ (¬ cy 7 = 6 ∧ bl = -1 ∧ f = 6 ∧ p = k.2.1) ∨ (¬ cy 7 = 6 ∧ ¬ bl = -1 ∧ didF tp en kwd nm (advK tp en k) = .inl (f, p))) : lineF tp en kwd (hd, nm, cc, A, D, k) = .inl (f, p) := by
  have hh : RIh hd cc := hI.2.2.2
  have hn : RId cc D := hI.2.2.1
  have e := hR.2.1
  have hn3 := hn.2.2.2.1
  refine ln_bad h (by decide) (rs_f hR hI) (fun z => ⟨?_, decide_eq_true (show 6 ≤ cc 7 by omega)⟩) (fun z => decide_eq_false (show ¬ 6 ≤ cc 7 by omega)) (fun z => ?_) hx
  · cases hd with
    | true => rfl
    | false => have := hh.1 rfl; omega
  · show sb (didF tp en kwd nm (advK tp en k)) _ = _
    rw [z, sb_e]
theorem rl_0 {xb xs xr : Nat} (hR : RS hd nm cc A D bl cy kp nc na ns nu gm gi gf go_ gt_ un gdm gdd gds) (hI : RI (hd, nm, cc, A, D, k)) (h : fst_ (lsP k.1 k.2.2.2 kwd) 6 0 = some 0) (h1 : bl = -1) (hW : headF tp en (advK tp en k) = .inr (xb, xs, xr, k1)) : ∃ hd1 nm1 cc1 A1 D1, lineF tp en kwd (hd, nm, cc, A, D, k) = .inr (hd1, nm1, cc1, A1, D1, k1) ∧ RS hd1 nm1 cc1 A1 D1 (nI xb) (upN (upN cy 1 xs) 2 xr) kp nc na ns nu gm gi gf go_ gt_ un gdm gdd gds := by
  refine ⟨true, nm, upN (upN (upN cc 0 xb) 1 xs) 2 xr, A, D, (ln_g0 h ((rs_f hR hI).1 h1) rfl).trans ?_, Or.inr ⟨rfl, rfl, rfl, rfl⟩, hR.2.1, hR.2.2⟩
  show sb (headF tp en (advK tp en k)) _ = _
  rw [hW, sb_k]
theorem rl_1 (hR : RS hd nm cc A D bl cy kp nc na ns nu gm gi gf go_ gt_ un gdm gdd gds) (hI : RI (hd, nm, cc, A, D, k)) (h : fst_ (lsP k.1 k.2.2.2 kwd) 6 0 = some 1) (h1 : ¬ cy 3 = 4) (h2 : ¬ bl = -1) (hW : nmS tp en kwd 1 (cy 3) nm (advK tp en k) = .inr ((nm.1 + 1, vp_updL nm.2.1 nm.1 (advK tp en k).2.2.2, upN nm.2.2.1 nm.1 1, upN nm.2.2.2 nm.1 (cy 3)), k1)) (hr : ∃ w so9 pl9 sp9 nb9, T8 (advK tp en k) so9 pl9 sp9 w nb9 ∧ (advK tp en k).1 = 1 ∧ wf = w) : ∃ hd1 nm1 cc1 A1 D1, lineF tp en kwd (hd, nm, cc, A, D, k) = .inr (hd1, nm1, cc1, A1, D1, k1) ∧ RS hd1 nm1 cc1 A1 D1 bl (upN cy 3 (cy 3 + 1)) kp (nc + 1) (vp_updL na nc wf) (upN ns nc 0) (upN nu nc (cy 3)) gm gi gf go_ gt_ un gdm gdd gds := by
  have hn : RIn nm cc := hI.1
  have hn3 := hn.2
  obtain ⟨r1, ⟨e3, e4, e5, e6, e7⟩, r3, r4⟩ := hR
  obtain ⟨w, so9, pl9, sp9, nb9, t1, t2, rfl⟩ := hr
  refine ⟨hd, _, upN cc 3 (cc 3 + 1), A, D, (ln_go h (by decide) ((rs_f ⟨r1, ⟨e3, e4, e5, e6, e7⟩, r3, r4⟩ hI).2 h2) (decide_eq_false (show ¬ 4 ≤ cc 3 by omega)) rfl).trans (?_ : _ = Sum.inr (hd, _, upN cc 3 (cc 3 + 1), A, D, k1)), r1, ⟨?_, e4, e5, e6, e7⟩, NR_add r3 t1 t2 rfl, r4⟩
  · show sb (nmS tp en kwd 1 (cc 3) nm (advK tp en k)) _ = _
    rw [← e3, hW, sb_k]
  · show cy 3 + 1 = cc 3 + 1
    rw [e3]
theorem rl_2 (hR : RS hd nm cc A D bl cy kp nc na ns nu gm gi gf go_ gt_ un gdm gdd gds) (hI : RI (hd, nm, cc, A, D, k)) (h : fst_ (lsP k.1 k.2.2.2 kwd) 6 0 = some 2) (h1 : ¬ cy 4 = 6) (h2 : ¬ bl = -1) (hW : nmS tp en kwd 2 (cy 4) nm (advK tp en k) = .inr ((nm.1 + 1, vp_updL nm.2.1 nm.1 (advK tp en k).2.2.2, upN nm.2.2.1 nm.1 2, upN nm.2.2.2 nm.1 (cy 4)), k1)) (hr : ∃ w so9 pl9 sp9 nb9, T8 (advK tp en k) so9 pl9 sp9 w nb9 ∧ (advK tp en k).1 = 1 ∧ wf = w) : ∃ hd1 nm1 cc1 A1 D1, lineF tp en kwd (hd, nm, cc, A, D, k) = .inr (hd1, nm1, cc1, A1, D1, k1) ∧ RS hd1 nm1 cc1 A1 D1 bl (upN cy 4 (cy 4 + 1)) kp (nc + 1) (vp_updL na nc wf) (upN ns nc 1) (upN nu nc (cy 4)) gm gi gf go_ gt_ un gdm gdd gds := by
  have hn : RIn nm cc := hI.1
  have hn3 := hn.2
  obtain ⟨r1, ⟨e3, e4, e5, e6, e7⟩, r3, r4⟩ := hR
  obtain ⟨w, so9, pl9, sp9, nb9, t1, t2, rfl⟩ := hr
  refine ⟨hd, _, upN cc 4 (cc 4 + 1), A, D, (ln_go h (by decide) ((rs_f ⟨r1, ⟨e3, e4, e5, e6, e7⟩, r3, r4⟩ hI).2 h2) (decide_eq_false (show ¬ 6 ≤ cc 4 by omega)) rfl).trans (?_ : _ = Sum.inr (hd, _, upN cc 4 (cc 4 + 1), A, D, k1)), r1, ⟨e3, ?_, e5, e6, e7⟩, NR_add r3 t1 t2 rfl, r4⟩
  · show sb (nmS tp en kwd 2 (cc 4) nm (advK tp en k)) _ = _
    rw [← e4, hW, sb_k]
  · show cy 4 + 1 = cc 4 + 1
    rw [e4]
theorem rl_3 {xm xi xf xa : Nat} {xb : Int32} (hR : RS hd nm cc A D bl cy kp nc na ns nu gm gi gf go_ gt_ un gdm gdd gds) (hI : RI (hd, nm, cc, A, D, k)) (h : fst_ (lsP k.1 k.2.2.2 kwd) 6 0 = some 3) (h1 : ¬ cy 5 = 8) (h2 : ¬ bl = -1) (hW : clauseF tp en kwd (cy 5) nm (advK tp en k) = .inr ((nm.1 + 1, vp_updL nm.2.1 nm.1 (advK tp en k).2.2.2, upN nm.2.2.1 nm.1 3, upN nm.2.2.2 nm.1 (cy 5)), xm, xi, xf, xa, xb, k1)) (hr : ∃ so9 pl9 sp9 nb9, T8 (advK tp en k) so9 pl9 sp9 wf nb9 ∧ (advK tp en k).1 = 1) : ∃ hd1 nm1 cc1 A1 D1, lineF tp en kwd (hd, nm, cc, A, D, k) = .inr (hd1, nm1, cc1, A1, D1, k1) ∧ RS hd1 nm1 cc1 A1 D1 bl (upN cy 5 (cy 5 + 1)) kp (nc + 1) (vp_updL na nc wf) (upN ns nc 2) (upN nu nc (cy 5)) (upN gm (cy 5) xm) (upN gi (cy 5) xi) (upN gf (cy 5) xf) (upN go_ (cy 5) xa) (upd gt_ (cy 5) xb) un gdm gdd gds := by
  have hn : RIn nm cc := hI.1
  have hn3 := hn.2
  obtain ⟨r1, ⟨e3, e4, e5, e6, e7⟩, r3, r4, r5⟩ := hR
  obtain ⟨so9, pl9, sp9, nb9, t1, t2⟩ := hr
  refine ⟨hd, _, upN cc 5 (cc 5 + 1), (upN A.1 (cc 5) xf, upN A.2.1 (cc 5) xa, upd A.2.2.1 (cc 5) xb, upN A.2.2.2.1 (cc 5) xm, upN A.2.2.2.2.1 (cc 5) xi, upN A.2.2.2.2.2.1 (cc 5) (strN xf (swI (nI xa)) (swI xb)), upN A.2.2.2.2.2.2 (cc 5) (turN xf (swI (nI xa)) (swI xb))), D, (ln_go h (by decide) ((rs_f ⟨r1, ⟨e3, e4, e5, e6, e7⟩, r3, r4, r5⟩ hI).2 h2) (decide_eq_false (show ¬ 8 ≤ cc 5 by omega)) rfl).trans (?_ : _ = Sum.inr (hd, _, upN cc 5 (cc 5 + 1), (upN A.1 (cc 5) xf, upN A.2.1 (cc 5) xa, upd A.2.2.1 (cc 5) xb, upN A.2.2.2.1 (cc 5) xm, upN A.2.2.2.2.1 (cc 5) xi, upN A.2.2.2.2.2.1 (cc 5) (strN xf (swI (nI xa)) (swI xb)), upN A.2.2.2.2.2.2 (cc 5) (turN xf (swI (nI xa)) (swI xb))), D, k1)), r1, ⟨e3, e4, ?_, e6, e7⟩, NR_add r3 t1 t2 rfl, ?_, r5⟩
  · show sb (clauseF tp en kwd (cc 5) nm (advK tp en k)) _ = _
    rw [← e5, hW, sb_k]
  · show cy 5 + 1 = cc 5 + 1
    rw [e5]
  · intro c hc
    have hc2 : c < cc 5 + 1 := hc
    rw [e5]
    show upN gm (cc 5) xm c = upN A.2.2.2.1 (cc 5) xm c ∧ upN gi (cc 5) xi c = upN A.2.2.2.2.1 (cc 5) xi c ∧ upN gf (cc 5) xf c = upN A.1 (cc 5) xf c ∧ upN go_ (cc 5) xa c = upN A.2.1 (cc 5) xa c ∧ upd gt_ (cc 5) xb c = upd A.2.2.1 (cc 5) xb c
    by_cases z : c = cc 5
    · subst z
      unfold upN upd
      rw [if_pos rfl, if_pos rfl, if_pos rfl, if_pos rfl, if_pos rfl, if_pos rfl, if_pos rfl, if_pos rfl, if_pos rfl, if_pos rfl]
      exact ⟨rfl, rfl, rfl, rfl, rfl⟩
    · have := r4 c (by omega)
      unfold upN upd
      rw [if_neg z, if_neg z, if_neg z, if_neg z, if_neg z, if_neg z, if_neg z, if_neg z, if_neg z, if_neg z]
      exact this
theorem rl_4 {x : Nat} (hR : RS hd nm cc A D bl cy kp nc na ns nu gm gi gf go_ gt_ un gdm gdd gds) (hI : RI (hd, nm, cc, A, D, k)) (h : fst_ (lsP k.1 k.2.2.2 kwd) 6 0 = some 4) (h1 : ¬ cy 6 = 5) (h2 : ¬ bl = -1) (hW : pnS tp en kwd 3 (tbF D.1 (2 ^ cy 6 - 1) (cy 6)) nm (advK tp en k) = .inr (x, k1)) : ∃ hd1 nm1 cc1 A1 D1, lineF tp en kwd (hd, nm, cc, A, D, k) = .inr (hd1, nm1, cc1, A1, D1, k1) ∧ RS hd1 nm1 cc1 A1 D1 bl (upN cy 6 (cy 6 + 1)) kp nc na ns nu gm gi gf go_ gt_ (upN un (cy 6) x) gdm gdd gds := by
  have hn : RId cc D := hI.2.2.1
  have hn3 := hn.1
  obtain ⟨r1, ⟨e3, e4, e5, e6, e7⟩, r3, r4, r5, r6⟩ := hR
  refine ⟨hd, nm, upN cc 6 (cc 6 + 1), A, (upN D.1 (cc 6) x, D.2), (ln_go h (by decide) ((rs_f ⟨r1, ⟨e3, e4, e5, e6, e7⟩, r3, r4, r5, r6⟩ hI).2 h2) (decide_eq_false (show ¬ 5 ≤ cc 6 by omega)) rfl).trans ?_, r1, ⟨e3, e4, e5, ?_, e7⟩, r3, r4, ?_, r6⟩
  · show sb (pnS tp en kwd 3 (tbF D.1 (2 ^ cc 6 - 1) (cc 6)) nm (advK tp en k)) _ = _
    rw [← e6, hW, sb_k]
  · show cy 6 + 1 = cc 6 + 1
    rw [e6]
  · intro c hc
    have hc2 : c < cc 6 + 1 := hc
    rw [e6]
    show upN un (cc 6) x c = upN D.1 (cc 6) x c
    by_cases z : c = cc 6
    · subst z
      rw [upN_at, upN_at]
    · rw [upN_ne _ _ z, upN_ne _ _ z]
      exact r5 c (by omega)
theorem rl_5 {xm xd xs kp1 : Nat} {xk : Bool} (hR : RS hd nm cc A D bl cy kp nc na ns nu gm gi gf go_ gt_ un gdm gdd gds) (hI : RI (hd, nm, cc, A, D, k)) (h : fst_ (lsP k.1 k.2.2.2 kwd) 6 0 = some 5) (h1 : ¬ cy 7 = 6) (h2 : ¬ bl = -1) (hW : didF tp en kwd nm (advK tp en k) = .inr (xm, xd, xk, xs, k1)) (hkp : kp1 = if xk = true then kp ||| 2 ^ cy 7 else kp) : ∃ hd1 nm1 cc1 A1 D1, lineF tp en kwd (hd, nm, cc, A, D, k) = .inr (hd1, nm1, cc1, A1, D1, k1) ∧ RS hd1 nm1 cc1 A1 D1 bl (upN cy 7 (cy 7 + 1)) kp1 nc na ns nu gm gi gf go_ gt_ un (upN gdm (cy 7) xm) (upN gdd (cy 7) xd) (upN gds (cy 7) xs) := by
  have hn : RId cc D := hI.2.2.1
  have hn3 := hn.2.2.2.1
  obtain ⟨r1, ⟨e3, e4, e5, e6, e7⟩, r3, r4, r5, r6, r7⟩ := hR
  rw [e7] at hkp h1
  have hk7 : kp1.testBit (cc 7) = xk := by
    have hf : kp.testBit (cc 7) = false := Nat.testBit_lt_two_pow r6
    cases xk with
    | true => rw [hkp, if_pos rfl, Nat.testBit_or, Nat.testBit_two_pow_self, Bool.or_true]
    | false => rw [hkp, if_neg (by decide), hf]
  have hkj : ∀ j, j < cc 7 → kp1.testBit j = kp.testBit j := by
    intro j hj
    cases xk with
    | true => rw [hkp, if_pos rfl, Nat.testBit_or, Nat.testBit_two_pow, decide_eq_false (by omega), Bool.or_false]
    | false => rw [hkp, if_neg (by decide)]
  have hkl : kp1 < 2 ^ (cc 7 + 1) := by
    have h9 : kp < 2 ^ (cc 7 + 1) := Nat.lt_of_lt_of_le r6 (Nat.pow_le_pow_right (by decide) (by omega))
    cases xk with
    | true => rw [hkp, if_pos rfl]; exact or_pow h9 (by omega)
    | false => rw [hkp, if_neg (by decide)]; exact h9
  refine ⟨hd, nm, upN cc 7 (cc 7 + 1), A, (D.1, upN D.2.1 (cc 7) xm, upN D.2.2.1 (cc 7) xd, upN D.2.2.2.1 (cc 7) xs, upB D.2.2.2.2 (cc 7) xk), (ln_go h (by decide) ((rs_f ⟨r1, ⟨e3, e4, e5, e6, e7⟩, r3, r4, r5, r6, r7⟩ hI).2 h2) (decide_eq_false (show ¬ 6 ≤ cc 7 by omega)) rfl).trans ?_, r1, ⟨e3, e4, e5, e6, ?_⟩, r3, r4, r5, hkl, ?_⟩
  · show sb (didF tp en kwd nm (advK tp en k)) _ = _
    rw [hW, sb_k]
  · show cy 7 + 1 = cc 7 + 1
    rw [e7]
  · intro c hc
    have hc2 : c < cc 7 + 1 := hc
    rw [e7]
    show upN gdm (cc 7) xm c = upN D.2.1 (cc 7) xm c ∧ upN gdd (cc 7) xd c = upN D.2.2.1 (cc 7) xd c ∧ upN gds (cc 7) xs c = upN D.2.2.2.1 (cc 7) xs c ∧ kp1.testBit c = upB D.2.2.2.2 (cc 7) xk c
    by_cases z : c = cc 7
    · subst z
      unfold upN upB
      rw [if_pos rfl, if_pos rfl, if_pos rfl, if_pos rfl, if_pos rfl, if_pos rfl, if_pos rfl]
      exact ⟨rfl, rfl, rfl, hk7⟩
    · have := r7 c (by omega)
      unfold upN upB
      rw [if_neg z, if_neg z, if_neg z, if_neg z, if_neg z, if_neg z, if_neg z, hkj c (by omega)]
      exact this
theorem rs_b (hR : RS hd nm cc A D bl cy kp nc na ns nu gm gi gf go_ gt_ un gdm gdd gds) (hI : RI (hd, nm, cc, A, D, k)) : nc ≤ 18 ∧ (∀ i, i < nc → ns i ≤ 4) ∧ (∀ i, i < nc → nu i < 8) ∧ (∀ i, i < nm.1 → nm.2.2.1 i = 2 → nm.2.2.2 i < 6) ∧ (¬ cy 3 = 4 → nm.1 < 18) ∧ (¬ cy 4 = 6 → nm.1 < 18) ∧ (¬ cy 5 = 8 → nm.1 < 18) ∧ cy 3 ≤ 4 ∧ cy 4 ≤ 6 ∧ cy 5 ≤ 8 ∧ cy 6 ≤ 5 ∧ cy 7 ≤ 6 ∧ (∀ j, j < cy 6 → un j < 8) ∧ (∀ j, j < cy 6 → un j = D.1 j) := by
  have hn : RIn nm cc := hI.1
  have hdd : RId cc D := hI.2.2.1
  obtain ⟨n1, n2, n3, n4, n5⟩ := hn
  obtain ⟨r1, ⟨e3, e4, e5, e6, e7⟩, ⟨q1, q2⟩, r4, r5, r6⟩ := hR
  have d1 := hdd.1
  have d2 := hdd.2.2.2.1
  refine ⟨by omega, fun i hi => ?_, fun i hi => ?_, fun i hi h2 => ?_, by omega, by omega, by omega, by omega, by omega, by omega, by omega, by omega, fun j hj => ?_, fun j hj => r5 j (by omega)⟩
  · have a := (q2 i (by omega)).1
    have b := n5 i (by omega)
    omega
  · have a := (q2 i (by omega)).2.1
    have b := n5 i (by omega)
    omega
  · have b := n5 i hi
    omega
  · have a := r5 j (by omega)
    have b := hdd.2.1 j (by omega)
    omega
end RLN
