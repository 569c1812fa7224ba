set_option maxRecDepth 100000 in
theorem c_X4_advanceA (l : Launch) (E : Et) (hr : Nat) (ra : Nat → Nat) (fd : Nat) (re : Nat) (rk : Nat) (rp : Nat) (rn : Nat) (rv : Int64) (rh : Bool) (rc : Nat) (rf : Nat) (rw : Int32) (tp : Nat → Int32) (hre : re ≤ 900) (hT : tkO re (rk, rp, rn, rv)) : Ct l E yX4_advance cX4_advance 2 none 2 0 0 [.ref hr] [ob hr 4 [.ref (ra 0), .int (nI fd), .ref (ra 2), .ref (ra 3), .int (nI re), .int (nI rk), .int (nI rp), .int (nI rn), .long rv, .int (nI (rh).toNat), .ref (ra 10), .ref (ra 11), .ref (ra 12), .int (nI rc), .int (nI rf), .int rw], aB E (ra 0) 900 tp] ((fun r w => (∃ (k1 : Nat) (p1 : Nat) (n1 : Nat) (v1 : Int64), (advK tp re (rk, rp, rn, rv) = (k1, p1, n1, v1)) ∧ (tkO re (k1, p1, n1, v1)) ∧ (rn ≤ p1) ∧ w = [ob hr 4 [.ref (ra 0), .int (nI fd), .ref (ra 2), .ref (ra 3), .int (nI re), .int (nI k1), .int (nI p1), .int (nI n1), .long v1, .int (nI (rh).toNat), .ref (ra 10), .ref (ra 11), .ref (ra 12), .int (nI rc), .int (nI rf), .int rw], aB E (ra 0) 900 tp] ∧ r = none))) := by
  refine Ct.post (c_X4_advance l E hr ra fd re rk rp rn rv rh rc rf rw tp hre hT.2.2.1) ?_
  rintro r w ⟨rfl, rfl⟩
  obtain ⟨o1, o2⟩ := advK_ok (tp := tp) hT
  rcases hA : advK tp re (rk, rp, rn, rv) with ⟨k1, p1, n1, v1⟩
  rw [hA] at o1 o2
  have ep : advF tp re rn rv = (k1, p1, n1, v1) := hA
  exact ⟨k1, p1, n1, v1, rfl, o1, o2, by rw [ep], rfl⟩
set_option maxRecDepth 100000 in
theorem c_X4_passesA (l : Launch) (E : Et) (hr : Nat) (ra : Nat → Nat) (fd : Nat) (re : Nat) (rk : Nat) (rp : Nat) (rn : Nat) (rv : Int64) (rh : Bool) (rc : Nat) (rf : Nat) (rw : Int32) (tp : Nat → Int32) (b : Bool) (hre : re ≤ 900) (hT : tkO re (rk, rp, rn, rv)) : Ct l E yX4_passes cX4_passes 2 (some .boolean) 3 0 0 [.ref hr, .int (nI (b).toNat)] [ob hr 4 [.ref (ra 0), .int (nI fd), .ref (ra 2), .ref (ra 3), .int (nI re), .int (nI rk), .int (nI rp), .int (nI rn), .long rv, .int (nI (rh).toNat), .ref (ra 10), .ref (ra 11), .ref (ra 12), .int (nI rc), .int (nI rf), .int rw], aB E (ra 0) 900 tp] ((fun r w => (∃ (k1 : Nat) (p1 : Nat) (n1 : Nat) (v1 : Int64), (b = true) ∧ (advK tp re (rk, rp, rn, rv) = (k1, p1, n1, v1)) ∧ (tkO re (k1, p1, n1, v1)) ∧ (rn ≤ p1) ∧ w = [ob hr 4 [.ref (ra 0), .int (nI fd), .ref (ra 2), .ref (ra 3), .int (nI re), .int (nI k1), .int (nI p1), .int (nI n1), .long v1, .int (nI (rh).toNat), .ref (ra 10), .ref (ra 11), .ref (ra 12), .int (nI rc), .int (nI rf), .int rw], aB E (ra 0) 900 tp] ∧ r = some (.int (nI 1))) ∨ ((b = false) ∧ w = [ob hr 4 [.ref (ra 0), .int (nI fd), .ref (ra 2), .ref (ra 3), .int (nI re), .int (nI rk), .int (nI rp), .int (nI rn), .long rv, .int (nI (rh).toNat), .ref (ra 10), .ref (ra 11), .ref (ra 12), .int (nI rc), .int (nI 1), .int (nI rp)], aB E (ra 0) 900 tp] ∧ r = some (.int (nI 0))))) := by
  refine Ct.post (c_X4_passes l E hr ra fd re rk rp rn rv rh rc rf rw tp b hre hT.2.2.1) ?_
  rintro r w ⟨rfl, rfl⟩
  cases b with
  | false => exact Or.inr ⟨rfl, rfl, rfl⟩
  | true =>
    obtain ⟨o1, o2⟩ := advK_ok (tp := tp) hT
    rcases hA : advK tp re (rk, rp, rn, rv) with ⟨k1, p1, n1, v1⟩
    rw [hA] at o1 o2
    have ep : psF tp re true ((rk, rp, rn, rv), rf, rw) = (true, (k1, p1, n1, v1), rf, rw) := congrArg (fun q => (true, q, rf, rw)) hA
    exact Or.inl ⟨k1, p1, n1, v1, rfl, rfl, o1, o2, by rw [ep], by rw [ep]; rfl⟩
set_option maxRecDepth 100000 in
theorem c_X4_passesWordA (l : Launch) (E : Et) (hr : Nat) (ra : Nat → Nat) (fd : Nat) (re : Nat) (rk : Nat) (rp : Nat) (rn : Nat) (rv : Int64) (rh : Bool) (rc : Nat) (rf : Nat) (rw : Int32) (tp : Nat → Int32) (i : Nat) (hi : i < 20) (hre : re ≤ 900) (hT : tkO re (rk, rp, rn, rv)) : Ct l E yX4_passesWord cX4_passesWord 2 (some .boolean) 6 0 0 [.ref hr, .ref (eK E i)] [ob hr 4 [.ref (ra 0), .int (nI fd), .ref (ra 2), .ref (ra 3), .int (nI re), .int (nI rk), .int (nI rp), .int (nI rn), .long rv, .int (nI (rh).toNat), .ref (ra 10), .ref (ra 11), .ref (ra 12), .int (nI rc), .int (nI rf), .int rw], aB E (ra 0) 900 tp] ((fun r w => (∃ (k1 : Nat) (p1 : Nat) (n1 : Nat) (v1 : Int64), (wdS tp re i (rk, rp, rn, rv) = .inr (k1, p1, n1, v1)) ∧ (tkO re (k1, p1, n1, v1)) ∧ (rn ≤ p1) ∧ w = [ob hr 4 [.ref (ra 0), .int (nI fd), .ref (ra 2), .ref (ra 3), .int (nI re), .int (nI k1), .int (nI p1), .int (nI n1), .long v1, .int (nI (rh).toNat), .ref (ra 10), .ref (ra 11), .ref (ra 12), .int (nI rc), .int (nI rf), .int rw], aB E (ra 0) 900 tp] ∧ r = some (.int (nI 1))) ∨ ((wdS tp re i (rk, rp, rn, rv) = .inl (1, rp)) ∧ w = [ob hr 4 [.ref (ra 0), .int (nI fd), .ref (ra 2), .ref (ra 3), .int (nI re), .int (nI rk), .int (nI rp), .int (nI rn), .long rv, .int (nI (rh).toNat), .ref (ra 10), .ref (ra 11), .ref (ra 12), .int (nI rc), .int (nI 1), .int (nI rp)], aB E (ra 0) 900 tp] ∧ r = some (.int (nI 0))))) := by
  refine Ct.post (c_X4_passesWord l E hr ra fd re rk rp rn rv rh rc rf rw tp i hi hre hT.2.2.1 hT.1) ?_
  rintro r w ⟨rfl, rfl⟩
  by_cases hq : rk = 1 ∧ rv = lN (pkS 27 i)
  · have e : wdS tp re i (rk, rp, rn, rv) = .inr (advK tp re (rk, rp, rn, rv)) := if_pos hq
    obtain ⟨o1, o2⟩ := advK_ok (tp := tp) hT
    rcases hA : advK tp re (rk, rp, rn, rv) with ⟨k1, p1, n1, v1⟩
    rw [hA] at o1 o2
    rw [hA] at e
    have ep : psF tp re (decide (rk = 1 ∧ rv = lN (pkS 27 i))) ((rk, rp, rn, rv), rf, rw) = (true, (k1, p1, n1, v1), rf, rw) := by rw [decide_eq_true hq]; exact congrArg (fun q => (true, q, rf, rw)) hA
    exact Or.inl ⟨k1, p1, n1, v1, e, o1, o2, by rw [ep], by rw [ep]; rfl⟩
  · have ep : psF tp re (decide (rk = 1 ∧ rv = lN (pkS 27 i))) ((rk, rp, rn, rv), rf, rw) = (false, (rk, rp, rn, rv), 1, nI rp) := by rw [decide_eq_false hq]; rfl
    exact Or.inr ⟨if_neg hq, by rw [ep], by rw [ep]; rfl⟩
set_option maxRecDepth 100000 in
theorem c_X4_passWholeA (l : Launch) (E : Et) (hr : Nat) (ra : Nat → Nat) (fd : Nat) (re : Nat) (rk : Nat) (rp : Nat) (rn : Nat) (rv : Int64) (rh : Bool) (rc : Nat) (rf : Nat) (rw : Int32) (tp : Nat → Int32) (lo : Nat) (hi : Nat) (hre : re ≤ 900) (hT : tkO re (rk, rp, rn, rv)) (hlo : lo < 2 ^ 31) (hhi : hi < 2 ^ 31) : Ct l E yX4_passWhole cX4_passWhole 4 (some .int) 3 0 0 [.ref hr, .int (nI lo), .int (nI hi)] [ob hr 4 [.ref (ra 0), .int (nI fd), .ref (ra 2), .ref (ra 3), .int (nI re), .int (nI rk), .int (nI rp), .int (nI rn), .long rv, .int (nI (rh).toNat), .ref (ra 10), .ref (ra 11), .ref (ra 12), .int (nI rc), .int (nI rf), .int rw], aB E (ra 0) 900 tp] ((fun r w => (∃ (x : Nat) (k1 : Nat) (p1 : Nat) (n1 : Nat) (v1 : Int64), (whS tp re lo hi (rk, rp, rn, rv) = .inr (x, (k1, p1, n1, v1))) ∧ (x ≤ hi) ∧ (lo ≤ x) ∧ (tkO re (k1, p1, n1, v1)) ∧ (rn ≤ p1) ∧ w = [ob hr 4 [.ref (ra 0), .int (nI fd), .ref (ra 2), .ref (ra 3), .int (nI re), .int (nI k1), .int (nI p1), .int (nI n1), .long v1, .int (nI (rh).toNat), .ref (ra 10), .ref (ra 11), .ref (ra 12), .int (nI rc), .int (nI rf), .int rw], aB E (ra 0) 900 tp] ∧ r = some (.int (nI x))) ∨ (∃ (f : Nat), (whS tp re lo hi (rk, rp, rn, rv) = .inl (f, rp)) ∧ w = [ob hr 4 [.ref (ra 0), .int (nI fd), .ref (ra 2), .ref (ra 3), .int (nI re), .int (nI rk), .int (nI rp), .int (nI rn), .long rv, .int (nI (rh).toNat), .ref (ra 10), .ref (ra 11), .ref (ra 12), .int (nI rc), .int (nI f), .int (nI rp)], aB E (ra 0) 900 tp] ∧ r = some (.int (-1))))) := by
  refine Ct.post (c_X4_passWhole l E hr ra fd re rk rp rn rv rh rc rf rw tp (nI lo) (nI hi) hre hT.2.2.1 hT.1) ?_
  rintro r w ⟨rfl, rfl⟩
  by_cases hq : rk = 2
  · by_cases hr : lo ≤ vlN rv ∧ vlN rv ≤ hi
    · have e : whS tp re lo hi (rk, rp, rn, rv) = .inr (vlN rv, advK tp re (rk, rp, rn, rv)) := by unfold whS; rw [if_pos hq]; exact if_pos hr
      obtain ⟨o1, o2⟩ := advK_ok (tp := tp) hT
      rcases hA : advK tp re (rk, rp, rn, rv) with ⟨k1, p1, n1, v1⟩
      rw [hA] at o1 o2
      rw [hA] at e
      have ep : pwF tp re (nI lo) (nI hi) ((rk, rp, rn, rv), rf, rw) = (rv.toInt32, (k1, p1, n1, v1), rf, rw) := by unfold pwF; rw [if_neg (fun z => z hq), if_neg ((vl_in hlo hhi).mpr hr)]; exact congrArg (fun q => (rv.toInt32, q, rf, rw)) hA
      exact Or.inl ⟨vlN rv, k1, p1, n1, v1, e, hr.2, hr.1, o1, o2, by rw [ep], by rw [ep, vl_i hr.2 hhi]⟩
    · have ep : pwF tp re (nI lo) (nI hi) ((rk, rp, rn, rv), rf, rw) = (-1, (rk, rp, rn, rv), 4, nI rp) := by unfold pwF; rw [if_neg (fun z => z hq), if_pos (Classical.byContradiction (fun z => hr ((vl_in hlo hhi).mp z)))]
      exact Or.inr ⟨4, by unfold whS; rw [if_pos hq]; exact if_neg hr, by rw [ep], by rw [ep]⟩
  · have ep : pwF tp re (nI lo) (nI hi) ((rk, rp, rn, rv), rf, rw) = (-1, (rk, rp, rn, rv), 1, nI rp) := by unfold pwF; rw [if_pos hq]
    exact Or.inr ⟨1, if_neg hq, by rw [ep], by rw [ep]⟩
set_option maxRecDepth 100000 in
theorem c_X4_passNameA (l : Launch) (E : Et) (hr : Nat) (ra : Nat → Nat) (fd : Nat) (re : Nat) (rk : Nat) (rp : Nat) (rn : Nat) (rv : Int64) (rh : Bool) (rc : Nat) (rf : Nat) (rw : Int32) (tp : Nat → Int32) (kwd : Nat → Int64) (nms : Nat → Int64) (nso : Nat → Nat) (nnu : Nat → Nat) (so : Nat) (us : Nat) (hre : re ≤ 900) (hT : tkO re (rk, rp, rn, rv)) (hrc : rc ≤ 18) (hso : so ≤ 5) (hns : ∀ i, i < rc → nso i ≤ 5) (hnn : ∀ i, i < rc → nnu i < 8) (hus : us < 256) : Ct l E yX4_passName cX4_passName 4 (some .int) 4 0 0 [.ref hr, .int (nI so), .int (nI us)] [ob hr 4 [.ref (ra 0), .int (nI fd), .ref (ra 2), .ref (ra 3), .int (nI re), .int (nI rk), .int (nI rp), .int (nI rn), .long rv, .int (nI (rh).toNat), .ref (ra 10), .ref (ra 11), .ref (ra 12), .int (nI rc), .int (nI rf), .int rw], aB E (ra 0) 900 tp, aL E (ra 2) 6 kwd, aL E (ra 10) 18 nms, aN E (ra 11) 18 nso, aN E (ra 12) 18 nnu] ((fun r w => (∃ (x : Nat) (k1 : Nat) (p1 : Nat) (n1 : Nat) (v1 : Int64), (pnS tp re kwd so us (rc, nms, nso, nnu) (rk, rp, rn, rv) = .inr (x, (k1, p1, n1, v1))) ∧ (∃ q, q < rc ∧ nso q = so ∧ nnu q = x) ∧ (x < 8) ∧ (us.testBit x = false) ∧ (tkO re (k1, p1, n1, v1)) ∧ (rn ≤ p1) ∧ w = [ob hr 4 [.ref (ra 0), .int (nI fd), .ref (ra 2), .ref (ra 3), .int (nI re), .int (nI k1), .int (nI p1), .int (nI n1), .long v1, .int (nI (rh).toNat), .ref (ra 10), .ref (ra 11), .ref (ra 12), .int (nI rc), .int (nI rf), .int rw], aB E (ra 0) 900 tp, aL E (ra 2) 6 kwd, aL E (ra 10) 18 nms, aN E (ra 11) 18 nso, aN E (ra 12) 18 nnu] ∧ r = some (.int (nI x))) ∨ (∃ (f : Nat), (pnS tp re kwd so us (rc, nms, nso, nnu) (rk, rp, rn, rv) = .inl (f, rp)) ∧ w = [ob hr 4 [.ref (ra 0), .int (nI fd), .ref (ra 2), .ref (ra 3), .int (nI re), .int (nI rk), .int (nI rp), .int (nI rn), .long rv, .int (nI (rh).toNat), .ref (ra 10), .ref (ra 11), .ref (ra 12), .int (nI rc), .int (nI f), .int (nI rp)], aB E (ra 0) 900 tp, aL E (ra 2) 6 kwd, aL E (ra 10) 18 nms, aN E (ra 11) 18 nso, aN E (ra 12) 18 nnu] ∧ r = some (.int (-1))))) := by
  refine Ct.post (c_X4_passName l E hr ra fd re rk rp rn rv rh rc rf rw tp kwd nms nso nnu so us hre hT.2.2.1 hT.1 hrc hso hns hnn hus) ?_
  rintro r w ⟨rfl, rfl⟩
  by_cases hq : rk = 1 ∧ fst_ (lsP rk rv kwd) 6 0 = none
  · cases hf : fst_ (fun i => decide (nms i = rv)) rc 0 with
    | none =>
      have ep := pn_un (tp := tp) (en := re) (so := so) (us := us) (s := ((rk, rp, rn, rv), rf, rw)) (w := (rc, nms, nso, nnu)) hq hf
      exact Or.inr ⟨2, by unfold pnS; rw [if_pos hq]; show (match fst_ (fun i => decide (nms i = rv)) rc 0 with | none => _ | some q => _) = _; rw [hf], by rw [ep], by rw [ep]⟩
    | some q =>
      have eP : pnS tp re kwd so us (rc, nms, nso, nnu) (rk, rp, rn, rv) = if nso q = so then (if us.testBit (nnu q) then .inl (3, rp) else .inr (nnu q, advK tp re (rk, rp, rn, rv))) else .inl (2, rp) := by unfold pnS; rw [if_pos hq]; show (match fst_ (fun i => decide (nms i = rv)) rc 0 with | none => _ | some q => _) = _; rw [hf]
      by_cases hs : nso q = so
      · rw [if_pos hs] at eP
        cases hu : us.testBit (nnu q) with
        | true =>
          have ep := pn_ag (tp := tp) (en := re) (so := so) (us := us) (s := ((rk, rp, rn, rv), rf, rw)) (w := (rc, nms, nso, nnu)) hq hf hs hu
          exact Or.inr ⟨3, by rw [eP, hu]; rfl, by rw [ep], by rw [ep]⟩
        | false =>
          have ep := pn_ok (tp := tp) (en := re) (so := so) (us := us) (s := ((rk, rp, rn, rv), rf, rw)) (w := (rc, nms, nso, nnu)) hq hf hs hu
          rw [hu] at eP
          obtain ⟨o1, o2⟩ := advK_ok (tp := tp) hT
          rcases hA : advK tp re (rk, rp, rn, rv) with ⟨k1, p1, n1, v1⟩
          rw [hA] at o1 o2
          have ep2 : pnF tp re kwd so us ((rk, rp, rn, rv), rf, rw) (rc, nms, nso, nnu) = (nI (nnu q), (k1, p1, n1, v1), rf, rw) := by rw [ep]; exact congrArg (fun z => (nI (nnu q), z, rf, rw)) hA
          have hql := (fst_lt _ _ _ hf).1
          exact Or.inl ⟨nnu q, k1, p1, n1, v1, by rw [eP, hA]; rfl, ⟨q, by omega, hs, rfl⟩, hnn q (by omega), hu, o1, o2, by rw [ep2], by rw [ep2]⟩
      · have ep := pn_so (tp := tp) (en := re) (so := so) (us := us) (s := ((rk, rp, rn, rv), rf, rw)) (w := (rc, nms, nso, nnu)) hq hf hs
        exact Or.inr ⟨2, by rw [eP, if_neg hs], by rw [ep], by rw [ep]⟩
  · have ep := pn_no (tp := tp) (en := re) (so := so) (us := us) (s := ((rk, rp, rn, rv), rf, rw)) (w := (rc, nms, nso, nnu)) hq
    exact Or.inr ⟨1, if_neg hq, by rw [ep], by rw [ep]⟩
set_option maxRecDepth 100000 in
theorem c_X4_tellsNameA (l : Launch) (E : Et) (hr : Nat) (ra : Nat → Nat) (fd : Nat) (re : Nat) (rk : Nat) (rp : Nat) (rn : Nat) (rv : Int64) (rh : Bool) (rc : Nat) (rf : Nat) (rw : Int32) (tp : Nat → Int32) (kwd : Nat → Int64) (nms : Nat → Int64) (nso : Nat → Nat) (nnu : Nat → Nat) (so : Nat) (nu : Nat) (hre : re ≤ 900) (hT : tkO re (rk, rp, rn, rv)) (hrc : rc ≤ 18) : Ct l E yX4_tellsName cX4_tellsName 3 (some .boolean) 4 0 0 [.ref hr, .int (nI so), .int (nI nu)] [ob hr 4 [.ref (ra 0), .int (nI fd), .ref (ra 2), .ref (ra 3), .int (nI re), .int (nI rk), .int (nI rp), .int (nI rn), .long rv, .int (nI (rh).toNat), .ref (ra 10), .ref (ra 11), .ref (ra 12), .int (nI rc), .int (nI rf), .int rw], aB E (ra 0) 900 tp, aL E (ra 2) 6 kwd, aL E (ra 10) 18 nms, aN E (ra 11) 18 nso, aN E (ra 12) 18 nnu] ((fun r w => (∃ (k1 : Nat) (p1 : Nat) (n1 : Nat) (v1 : Int64), (nmS tp re kwd so nu (rc, nms, nso, nnu) (rk, rp, rn, rv) = .inr ((rc + 1, vp_updL nms rc rv, upN nso rc so, upN nnu rc nu), (k1, p1, n1, v1))) ∧ (rc < 18) ∧ (tkO re (k1, p1, n1, v1)) ∧ (rn ≤ p1) ∧ w = [ob hr 4 [.ref (ra 0), .int (nI fd), .ref (ra 2), .ref (ra 3), .int (nI re), .int (nI k1), .int (nI p1), .int (nI n1), .long v1, .int (nI (rh).toNat), .ref (ra 10), .ref (ra 11), .ref (ra 12), .int (nI (rc + 1)), .int (nI rf), .int rw], aB E (ra 0) 900 tp, aL E (ra 2) 6 kwd, aL E (ra 10) 18 (vp_updL nms rc rv), aN E (ra 11) 18 (upN nso rc so), aN E (ra 12) 18 (upN nnu rc nu)] ∧ r = some (.int (nI 1))) ∨ (∃ (f : Nat), (nmS tp re kwd so nu (rc, nms, nso, nnu) (rk, rp, rn, rv) = .inl (f, rp)) ∧ w = [ob hr 4 [.ref (ra 0), .int (nI fd), .ref (ra 2), .ref (ra 3), .int (nI re), .int (nI rk), .int (nI rp), .int (nI rn), .long rv, .int (nI (rh).toNat), .ref (ra 10), .ref (ra 11), .ref (ra 12), .int (nI rc), .int (nI f), .int (nI rp)], aB E (ra 0) 900 tp, aL E (ra 2) 6 kwd, aL E (ra 10) 18 nms, aN E (ra 11) 18 nso, aN E (ra 12) 18 nnu] ∧ r = some (.int (nI 0))))) := by
  refine Ct.post (c_X4_tellsName l E hr ra fd re rk rp rn rv rh rc rf rw tp kwd nms nso nnu so nu hre hT.2.2.1 hT.1 hrc) ?_
  rintro r w ⟨rfl, rfl⟩
  by_cases hq : rk = 1 ∧ fst_ (lsP rk rv kwd) 6 0 = none
  · by_cases h2 : fst_ (fun i => decide (nms i = rv)) rc 0 = none ∧ rc < 18
    · have ep := tn_ok (tp := tp) (en := re) (so := so) (nu := nu) (s := ((rk, rp, rn, rv), rf, rw)) (w := (rc, nms, nso, nnu)) hq h2
      have e : nmS tp re kwd so nu (rc, nms, nso, nnu) (rk, rp, rn, rv) = .inr ((rc + 1, vp_updL nms rc rv, upN nso rc so, upN nnu rc nu), advK tp re (rk, rp, rn, rv)) := by unfold nmS; rw [if_pos hq]; exact if_pos h2
      obtain ⟨o1, o2⟩ := advK_ok (tp := tp) hT
      rcases hA : advK tp re (rk, rp, rn, rv) with ⟨k1, p1, n1, v1⟩
      rw [hA] at o1 o2
      rw [hA] at e
      have ep2 : tnF tp re kwd so nu ((rk, rp, rn, rv), rf, rw) (rc, nms, nso, nnu) = (true, ((k1, p1, n1, v1), rf, rw), (rc + 1, vp_updL nms rc rv, upN nso rc so, upN nnu rc nu)) := by rw [ep]; exact congrArg (fun z => (true, (z, rf, rw), (rc + 1, vp_updL nms rc rv, upN nso rc so, upN nnu rc nu))) hA
      exact Or.inl ⟨k1, p1, n1, v1, e, h2.2, o1, o2, by rw [ep2], by rw [ep2]; rfl⟩
    · have ep := tn_ag (tp := tp) (en := re) (so := so) (nu := nu) (s := ((rk, rp, rn, rv), rf, rw)) (w := (rc, nms, nso, nnu)) hq h2
      exact Or.inr ⟨3, by unfold nmS; rw [if_pos hq]; exact if_neg h2, by rw [ep], by rw [ep]; rfl⟩
  · have ep := tn_no (tp := tp) (en := re) (so := so) (nu := nu) (s := ((rk, rp, rn, rv), rf, rw)) (w := (rc, nms, nso, nnu)) hq
    exact Or.inr ⟨1, if_neg hq, by rw [ep], by rw [ep]; rfl⟩
