/-! spread over men: the first row, by what can be carried on -/
def exB (ok : Nat → Bool) (B men : Nat) : Nat → Nat → (Nat → Nat) → Bool
  | 0, _, _ => true
  | k + 1, c, h => if B.testBit c = true then (fst_ (fun m => ok (h m ||| 2 ^ c) && exB ok B men k (c + 1) (upN h m (h m ||| 2 ^ c))) men 0).isSome else exB ok B men k (c + 1) h
def exP (ok : Nat → Bool) (B men k c : Nat) (h : Nat → Nat) (m : Nat) : Bool := ok (h m ||| 2 ^ c) && exB ok B men k (c + 1) (upN h m (h m ||| 2 ^ c))
def grM (ok : Nat → Bool) (B men k c : Nat) (h : Nat → Nat) : Nat := (fst_ (exP ok B men k c h) men 0).getD 0
def grR (ok : Nat → Bool) (B men : Nat) : Nat → Nat → (Nat → Nat) → Nat → Nat
  | 0, _, _, _ => 0
  | k + 1, c, h, j => if B.testBit c = true then (if j = c then grM ok B men k c h else grR ok B men k (c + 1) (upN h (grM ok B men k c h) (h (grM ok B men k c h) ||| 2 ^ c)) j) else grR ok B men k (c + 1) h j
section EXS
variable {ok : Nat → Bool} {B men k c m : Nat} {h : Nat → Nat}
theorem fst_mv {p : Nat → Bool} {n : Nat} : ∀ {m : Nat}, m ≤ n → (∀ m', m' < m → p m' = false) → fst_ p n 0 = fst_ p (n - m) m
  | 0, _, _ => rfl
  | m + 1, hm, hp => by rw [fst_mv (m := m) (by omega) (fun m' h => hp m' (by omega)), fst_no (by omega) (hp m (by omega))]
theorem fst_some {p : Nat → Bool} {n m : Nat} (hm : m < n) (hp : ∀ m', m' < m → p m' = false) (h : p m = true) : fst_ p n 0 = some m := by rw [fst_mv (by omega) hp, fst_hit hm h]
theorem fst_none {p : Nat → Bool} {n : Nat} (hp : ∀ m', m' < n → p m' = false) : fst_ p n 0 = none := by rw [fst_mv (Nat.le_refl _) hp, Nat.sub_self]; rfl
theorem fst_isS {p : Nat → Bool} {n : Nat} : (fst_ p n 0).isSome = true ↔ ∃ m, m < n ∧ p m = true := by
  constructor
  · intro hs
    cases e : fst_ p n 0 with
    | none => rw [e] at hs; cases hs
    | some q => have := fst_lt _ _ _ e; exact ⟨q, by omega, this.2⟩
  · rintro ⟨m, hm, hp⟩
    cases e : fst_ p n 0 with
    | some q => rfl
    | none =>
      have : ∀ j, j ≤ n → (∀ m', m' < j → p m' = false) := by
        intro j
        induction j with
        | zero => intro _ m' hm'; exact absurd hm' (Nat.not_lt_zero _)
        | succ j ih =>
          intro hj m' hm'
          rcases Nat.lt_or_ge m' j with q | q
          · exact ih (by omega) m' q
          · have e2 : m' = j := by omega
            subst e2
            cases hpj : p m' with
            | false => rfl
            | true => rw [fst_some (by omega) (ih (by omega)) hpj] at e; cases e
      rw [this n (Nat.le_refl _) m hm] at hp
      cases hp
theorem ex_n (hB : B.testBit c = false) : exB ok B men (k + 1) c h = exB ok B men k (c + 1) h := by rw [exB, if_neg (by rw [hB]; decide)]
theorem ex_b (hB : B.testBit c = true) : exB ok B men (k + 1) c h = (fst_ (exP ok B men k c h) men 0).isSome := by rw [exB, if_pos hB]; rfl
theorem ex_yes (hB : B.testBit c = true) (hm : m < men) (h1 : ∀ m', m' < m → exP ok B men k c h m' = false) (h2 : exP ok B men k c h m = true) : exB ok B men (k + 1) c h = true ∧ grM ok B men k c h = m := by
  refine ⟨?_, ?_⟩
  · rw [ex_b hB, fst_some hm h1 h2]; rfl
  · rw [grM, fst_some hm h1 h2]; rfl
theorem ex_no (hB : B.testBit c = true) (h1 : ∀ m', m' < men → exP ok B men k c h m' = false) : exB ok B men (k + 1) c h = false := by rw [ex_b hB, fst_none h1]; rfl
theorem gr_n (hB : B.testBit c = false) (j : Nat) : grR ok B men (k + 1) c h j = grR ok B men k (c + 1) h j := by rw [grR, if_neg (by rw [hB]; decide)]
theorem gr_c (hB : B.testBit c = true) : grR ok B men (k + 1) c h c = grM ok B men k c h := by rw [grR, if_pos hB, if_pos rfl]
theorem gr_j (hB : B.testBit c = true) {j : Nat} (hj : j ≠ c) (hg : grM ok B men k c h = m) : grR ok B men (k + 1) c h j = grR ok B men k (c + 1) (upN h m (h m ||| 2 ^ c)) j := by rw [grR, if_pos hB, if_neg hj, hg]
/-- two men alike -/
def swp (a b j : Nat) : Nat := if j = a then b else if j = b then a else j
theorem swp_lt {a b n j : Nat} (ha : a < n) (hb : b < n) (hj : j < n) : swp a b j < n := by unfold swp; split; exact hb; split; exact ha; exact hj
theorem swp_sw (a b j : Nat) : swp a b (swp a b j) = j := by
  unfold swp
  by_cases h1 : j = a
  · subst h1; rw [if_pos rfl]; by_cases h2 : b = j
    · rw [if_pos h2, h2]
    · rw [if_neg h2, if_pos rfl]
  · rw [if_neg h1]
    by_cases h2 : j = b
    · subst h2; rw [if_pos rfl, if_pos rfl]
    · rw [if_neg h2, if_neg h1, if_neg h2]
theorem upN_sw (h : Nat → Nat) (a b m x : Nat) : upN (fun j => h (swp a b j)) m x = fun j => upN h (swp a b m) x (swp a b j) := by
  funext j
  unfold upN
  by_cases hj : j = m
  · subst hj; rw [if_pos rfl, if_pos rfl]
  · rw [if_neg hj, if_neg (fun q => hj (by have := congrArg (swp a b) q; rw [swp_sw, swp_sw] at this; exact this))]
theorem ex_sw {a b : Nat} (ha : a < men) (hb : b < men) : ∀ (k c : Nat) (h : Nat → Nat), exB ok B men k c (fun j => h (swp a b j)) = exB ok B men k c h
  | 0, _, _ => rfl
  | k + 1, c, h => by
    have ih := fun c h => ex_sw ha hb k c h
    cases hB : B.testBit c with
    | false => rw [ex_n hB, ex_n hB, ih]
    | true =>
      have hP : ∀ m, exP ok B men k c (fun j => h (swp a b j)) m = exP ok B men k c h (swp a b m) := by
        intro m
        unfold exP
        rw [upN_sw, ih]
      rw [Bool.eq_iff_iff, ex_b hB, ex_b hB, fst_isS, fst_isS]
      constructor
      · rintro ⟨m, h1, h2⟩
        exact ⟨swp a b m, swp_lt ha hb h1, by rw [← hP]; exact h2⟩
      · rintro ⟨m, h1, h2⟩
        exact ⟨swp a b m, swp_lt ha hb h1, by rw [hP, swp_sw]; exact h2⟩
theorem exP_sym {a b : Nat} (ha : a < men) (hb : b < men) (hh : h a = h b) : exP ok B men k c h a = exP ok B men k c h b := by
  unfold exP
  rw [hh]
  congr 1
  rw [← ex_sw ha hb k (c + 1) (upN h b (h b ||| 2 ^ c))]
  congr 1
  funext j
  unfold upN swp
  by_cases h1 : j = a
  · rw [if_pos h1, if_pos h1, if_pos rfl]
  · rw [if_neg h1, if_neg h1]
    by_cases h2 : j = b
    · rw [if_pos h2]
      by_cases h3 : a = b
      · exact absurd (h2.trans h3.symm) h1
      · rw [if_neg h3, h2, hh]
    · rw [if_neg h2, if_neg h2]
theorem ex_ext : ∀ (k r c : Nat) (h : Nat → Nat), (∀ j, c + k ≤ j → B.testBit j = false) → exB ok B men (k + r) c h = exB ok B men k c h
  | 0, 0, _, _, _ => rfl
  | 0, r + 1, c, h, hz => by rw [Nat.zero_add, ex_n (hz c (by omega))]; have := ex_ext 0 r (c + 1) h (fun j hj => hz j (by omega)); rw [Nat.zero_add] at this; exact this
  | k + 1, r, c, h, hz => by
    rw [show k + 1 + r = (k + r) + 1 by omega]
    have ih := fun h => ex_ext k r (c + 1) h (fun j hj => hz j (by omega))
    cases hB : B.testBit c with
    | false => rw [ex_n hB, ex_n hB, ih]
    | true => rw [ex_b hB, ex_b hB, show exP ok B men (k + r) c h = exP ok B men k c h from funext (fun m => by unfold exP; rw [ih])]
theorem gr_ext : ∀ (k r c : Nat) (h : Nat → Nat), (∀ j, c + k ≤ j → B.testBit j = false) → ∀ j, grR ok B men (k + r) c h j = grR ok B men k c h j
  | 0, 0, _, _, _ => fun _ => rfl
  | 0, r + 1, c, h, hz => fun j => by rw [Nat.zero_add, gr_n (hz c (by omega))]; have := gr_ext 0 r (c + 1) h (fun j hj => hz j (by omega)) j; rw [Nat.zero_add] at this; rw [this]; rfl
  | k + 1, r, c, h, hz => fun j => by
    rw [show k + 1 + r = (k + r) + 1 by omega]
    have ih := fun h => gr_ext k r (c + 1) h (fun j hj => hz j (by omega))
    have e : grM ok B men (k + r) c h = grM ok B men k c h := by
      unfold grM
      rw [show exP ok B men (k + r) c h = exP ok B men k c h from funext (fun m => by unfold exP; rw [ex_ext k r (c + 1) _ (fun j hj => hz j (by omega))])]
    cases hB : B.testBit c with
    | false => rw [gr_n hB, gr_n hB, ih]
    | true =>
      by_cases hj : j = c
      · subst hj; rw [gr_c hB, gr_c hB, e]
      · rw [gr_j hB hj e, gr_j hB hj rfl, ih]
/-- a man for each is enough -/
theorem ex_all (ho : ∀ c, B.testBit c = true → ok (2 ^ c) = true) : ∀ (k c us : Nat) (h : Nat → Nat), (∀ m, us ≤ m → h m = 0) → us + cnt (fun j => B.testBit (c + j)) k ≤ men → exB ok B men k c h = true
  | 0, _, _, _, _, _ => rfl
  | k + 1, c, us, h, hz, hc => by
    rw [cnt_shift] at hc
    have e : (fun j => B.testBit (c + (j + 1))) = fun j => B.testBit (c + 1 + j) := funext (fun j => by rw [show c + (j + 1) = c + 1 + j by omega])
    rw [e, Nat.add_zero] at hc
    cases hB : B.testBit c with
    | false =>
      rw [ex_n hB]
      exact ex_all ho k (c + 1) us h hz (by rw [hB] at hc; simp at hc; exact hc)
    | true =>
      rw [hB] at hc
      simp at hc
      rw [ex_b hB, fst_isS]
      refine ⟨us, by omega, ?_⟩
      unfold exP
      rw [hz us (Nat.le_refl _), Nat.zero_or, ho c hB, ex_all ho k (c + 1) (us + 1) _ (fun m hm => by rw [upN_ne _ _ (by omega), hz m (by omega)]) (by omega)]
      rfl
theorem ex_m0 {j : Nat} : ∀ (k c : Nat) (h : Nat → Nat), c ≤ j → j < c + k → B.testBit j = true → exB ok B 0 k c h = false
  | 0, c, h, h1, h2, _ => by omega
  | k + 1, c, h, h1, h2, hB => by
    cases hc : B.testBit c with
    | true => rw [ex_b hc]; rfl
    | false =>
      rw [ex_n hc]
      have hne : c ≠ j := fun q => by rw [q, hB] at hc; cases hc
      exact ex_m0 k (c + 1) h (by omega) (by omega) hB
end EXS
def okS (cy Fs Ft : Nat → Nat) (t S : Nat) : Bool := decide (¬ kpN cy Fs Ft t S = 0)
theorem kp_or {cy Fs Ft : Nat → Nat} {t a b : Nat} : kpN cy Fs Ft t (a ||| b) = kpN cy Fs Ft t a &&& kpN cy Fs Ft t b := by
  refine Nat.eq_of_testBit_eq (fun s => ?_)
  rw [Nat.testBit_and, Bool.eq_iff_iff, Bool.and_eq_true, kpN, kpN, kpN, skF_tb, skF_tb, skF_tb]
  constructor
  · rintro ⟨h1, h2⟩
    exact ⟨⟨h1, fun c hc hb => h2 c hc (by rw [Nat.testBit_or, hb]; rfl)⟩, h1, fun c hc hb => h2 c hc (by rw [Nat.testBit_or, hb, Bool.or_true])⟩
  · rintro ⟨⟨h1, h2⟩, -, h3⟩
    refine ⟨h1, fun c hc hb => ?_⟩
    rw [Nat.testBit_or, Bool.or_eq_true] at hb
    rcases hb with hb | hb
    · exact h2 c hc hb
    · exact h3 c hc hb
section CLS
theorem uL_at {f : Nat → Int64} {i : Nat} {x : Int64} : vp_updL f i x i = x := by unfold vp_updL; rw [if_pos rfl]
theorem uL_ne {f : Nat → Int64} {i j : Nat} {x : Int64} (h : j ≠ i) : vp_updL f i x j = f j := by unfold vp_updL; rw [if_neg h]
variable {cy Fs Ft ink : Nat → Nat} {t men : Nat}
theorem gs_and {us m c : Nat} {sl : Nat → Int64} {h : Nat → Nat} (hd : cy 4 ≤ 6) (h1 : ∀ m, m < us → sl m = lN (kpN cy Fs Ft t (h m))) (h2 : ∀ m, us ≤ m → h m = 0) : gsB us sl m &&& gsK cy Fs Ft t c = lN (kpN cy Fs Ft t (h m ||| 2 ^ c)) := by
  unfold gsK
  rcases Nat.lt_or_ge m us with q | q
  · rw [gsB_lt q, h1 m q, fb_andL, kp_or]
  · rw [gsB_ge (by omega), h2 m q, Nat.zero_or]
    exact Int64.neg_one_and
theorem gs_0 {S : Nat} (hd : cy 4 ≤ 6) : lN (kpN cy Fs Ft t S) = 0 ↔ okS cy Fs Ft t S = false := by
  rw [lN_0 (kpN_lt hd _ _ _ _), okS]
  constructor
  · intro h; exact decide_eq_false (fun q => q h)
  · intro h; exact Classical.not_not.mp (of_decide_eq_false h)
/-- the row from c on -/
def rowOk (ok : Nat → Bool) (B men n c : Nat) (h : Nat → Nat) (r0 r : Nat → Int32) : Prop := (∀ j, j < c → r j = r0 j) ∧ ∀ j, c ≤ j → j < c + n → r j = if B.testBit j = true then nI (grR ok B men n c h j) else -2
theorem gsL_spec {n c us : Nat} {h : Nat → Nat} (hd : cy 4 ≤ 6) (hB : (bbits (fun c => decide (0 < ink c)) 8).testBit c = true) (hus : us ≤ c) (hc8 : c < 8) (hum : us ≤ men) (hz : ∀ m, us ≤ m → h m = 0)
    (ih : ∀ us (w : Gw) (h : Nat → Nat), us ≤ c + 1 → us ≤ men → (∀ m, m < us → w.2 m = lN (kpN cy Fs Ft t (h m))) → (∀ m, us ≤ m → h m = 0) → (gsF (gsK cy Fs Ft t) ink men n (c + 1) us w).1 = exB (okS cy Fs Ft t) (bbits (fun c => decide (0 < ink c)) 8) men n (c + 1) h ∧ ((gsF (gsK cy Fs Ft t) ink men n (c + 1) us w).1 = true → rowOk (okS cy Fs Ft t) (bbits (fun c => decide (0 < ink c)) 8) men n (c + 1) h w.1 (gsF (gsK cy Fs Ft t) ink men n (c + 1) us w).2.1) ∧ ((gsF (gsK cy Fs Ft t) ink men n (c + 1) us w).1 = false → (∀ m, m < us → (gsF (gsK cy Fs Ft t) ink men n (c + 1) us w).2.2 m = w.2 m) ∧ ∀ j, j ≤ c → (gsF (gsK cy Fs Ft t) ink men n (c + 1) us w).2.1 j = w.1 j)) :
    ∀ (j m : Nat) (w : Gw), m + j = glim us men → (∀ m, m < us → w.2 m = lN (kpN cy Fs Ft t (h m))) → (∀ m', m' < m → exP (okS cy Fs Ft t) (bbits (fun c => decide (0 < ink c)) 8) men n c h m' = false) →
      ((gsL (gsF (gsK cy Fs Ft t) ink men n (c + 1)) (gsK cy Fs Ft t c) c us j m w).1 = true → ∃ m1, m1 < men ∧ exP (okS cy Fs Ft t) (bbits (fun c => decide (0 < ink c)) 8) men n c h m1 = true ∧ (∀ m', m' < m1 → exP (okS cy Fs Ft t) (bbits (fun c => decide (0 < ink c)) 8) men n c h m' = false) ∧ rowOk (okS cy Fs Ft t) (bbits (fun c => decide (0 < ink c)) 8) men (n + 1) c h w.1 (gsL (gsF (gsK cy Fs Ft t) ink men n (c + 1)) (gsK cy Fs Ft t c) c us j m w).2.1) ∧
      ((gsL (gsF (gsK cy Fs Ft t) ink men n (c + 1)) (gsK cy Fs Ft t c) c us j m w).1 = false → (∀ m', m' < glim us men → exP (okS cy Fs Ft t) (bbits (fun c => decide (0 < ink c)) 8) men n c h m' = false) ∧ (∀ i9, i9 < us → (gsL (gsF (gsK cy Fs Ft t) ink men n (c + 1)) (gsK cy Fs Ft t c) c us j m w).2.2 i9 = w.2 i9) ∧ ∀ i, i < c → (gsL (gsF (gsK cy Fs Ft t) ink men n (c + 1)) (gsK cy Fs Ft t c) c us j m w).2.1 i = w.1 i) := by
  intro j
  induction j with
  | zero =>
    intro m w hm hw hp
    rw [gsL]
    refine ⟨fun q => Bool.noConfusion q, fun _ => ⟨fun m' hm' => hp m' (by omega), fun _ _ => rfl, fun _ _ => rfl⟩⟩
  | succ j ihj =>
    intro m w hm hw hp
    have hlim : glim us men ≤ us + 1 ∧ glim us men ≤ men := by unfold glim; omega
    have hand := gs_and (m := m) (c := c) hd hw hz
    rw [gsL]
    by_cases h0 : gsB us w.2 m &&& gsK cy Fs Ft t c = 0
    · rw [if_pos h0]
      refine ihj (m + 1) w (by omega) hw (fun m' hm' => ?_)
      rcases Nat.lt_or_ge m' m with q | q
      · exact hp m' q
      · have e : m' = m := by omega
        subst e
        rw [hand, gs_0 hd] at h0
        unfold exP
        rw [h0]; rfl
    · rw [if_neg h0]
      have hok : okS cy Fs Ft t (h m ||| 2 ^ c) = true := by
        cases hq : okS cy Fs Ft t (h m ||| 2 ^ c) with
        | true => rfl
        | false => exact absurd (by rw [hand]; exact (gs_0 hd).mpr hq) h0
      rw [hand]
      have key := ih (max us (m + 1)) (upd w.1 c (nI m), vp_updL w.2 m (lN (kpN cy Fs Ft t (h m ||| 2 ^ c)))) (upN h m (h m ||| 2 ^ c)) (by omega) (by omega)
        (fun m' hm' => by
          show vp_updL w.2 m _ m' = _
          by_cases q : m' = m
          · rw [q, uL_at, upN_at]
          · rw [uL_ne q, upN_ne _ _ q]; exact hw m' (by omega))
        (fun m' hm' => by rw [upN_ne _ _ (by omega)]; exact hz m' (by omega))
      obtain ⟨k1, k2, k3⟩ := key
      by_cases hg : (gsF (gsK cy Fs Ft t) ink men n (c + 1) (max us (m + 1)) (upd w.1 c (nI m), vp_updL w.2 m (lN (kpN cy Fs Ft t (h m ||| 2 ^ c))))).1 = true
      · rw [if_pos hg]
        refine ⟨fun _ => ⟨m, by omega, ?_, hp, ?_⟩, fun q => by rw [hg] at q; cases q⟩
        · unfold exP
          rw [hok, ← k1, hg]; rfl
        · have hP : exP (okS cy Fs Ft t) (bbits (fun c => decide (0 < ink c)) 8) men n c h m = true := by
            unfold exP
            rw [hok, ← k1, hg]; rfl
          obtain ⟨-, hgm⟩ := ex_yes hB (show m < men by omega) hp hP
          obtain ⟨r1, r2⟩ := k2 hg
          refine ⟨fun i hi => ?_, fun i hi hi2 => ?_⟩
          · rw [r1 i (by omega)]
            show upd w.1 c (nI m) i = _
            unfold upd; rw [if_neg (by omega)]
          · by_cases q : i = c
            · rw [q, r1 c (by omega), if_pos hB, gr_c hB, hgm]
              show upd w.1 c (nI m) c = _
              unfold upd; rw [if_pos rfl]
            · rw [r2 i (by omega) (by omega), gr_j hB q hgm]
      · have hg : (gsF (gsK cy Fs Ft t) ink men n (c + 1) (max us (m + 1)) (upd w.1 c (nI m), vp_updL w.2 m (lN (kpN cy Fs Ft t (h m ||| 2 ^ c))))).1 = false := by
          cases e : (gsF (gsK cy Fs Ft t) ink men n (c + 1) (max us (m + 1)) (upd w.1 c (nI m), vp_updL w.2 m (lN (kpN cy Fs Ft t (h m ||| 2 ^ c))))).1 with
          | false => rfl
          | true => exact absurd e hg
        rw [if_neg (by rw [hg]; decide)]
        obtain ⟨s1, s2⟩ := k3 hg
        have hsl : ∀ m', m' < us → vp_updL (gsF (gsK cy Fs Ft t) ink men n (c + 1) (max us (m + 1)) (upd w.1 c (nI m), vp_updL w.2 m (lN (kpN cy Fs Ft t (h m ||| 2 ^ c))))).2.2 m (gsB us w.2 m) m' = w.2 m' := by
          intro m' hm'
          by_cases q : m' = m
          · rw [q, uL_at, gsB_lt (by omega)]
          · rw [uL_ne q, s1 m' (by omega)]
            exact uL_ne q
        have rowlo : ∀ i, i < c → (gsF (gsK cy Fs Ft t) ink men n (c + 1) (max us (m + 1)) (upd w.1 c (nI m), vp_updL w.2 m (lN (kpN cy Fs Ft t (h m ||| 2 ^ c))))).2.1 i = w.1 i := by
          intro i hi
          rw [s2 i (by omega)]
          show upd w.1 c (nI m) i = _
          unfold upd; rw [if_neg (by omega)]
        obtain ⟨q1, q2⟩ := ihj (m + 1) ((gsF (gsK cy Fs Ft t) ink men n (c + 1) (max us (m + 1)) (upd w.1 c (nI m), vp_updL w.2 m (lN (kpN cy Fs Ft t (h m ||| 2 ^ c))))).2.1, vp_updL (gsF (gsK cy Fs Ft t) ink men n (c + 1) (max us (m + 1)) (upd w.1 c (nI m), vp_updL w.2 m (lN (kpN cy Fs Ft t (h m ||| 2 ^ c))))).2.2 m (gsB us w.2 m)) (by omega)
          (fun m' hm' => by
            show vp_updL _ m _ m' = _
            rw [hsl m' hm', hw m' hm'])
          (fun m' hm' => by
            rcases Nat.lt_or_ge m' m with q | q
            · exact hp m' q
            · have e : m' = m := by omega
              subst e
              unfold exP
              rw [← k1, hg, Bool.and_false])
        refine ⟨fun q => ?_, fun q => ?_⟩
        · obtain ⟨m1, a1, a2, a3, a4, a5⟩ := q1 q
          exact ⟨m1, a1, a2, a3, fun i hi => (a4 i hi).trans (rowlo i hi), a5⟩
        · obtain ⟨a1, a2, a3⟩ := q2 q
          exact ⟨a1, fun m' hm' => (a2 m' hm').trans (hsl m' hm'), fun i hi => (a3 i hi).trans (rowlo i hi)⟩
theorem gs_spec (hd : cy 4 ≤ 6) : ∀ (n c us : Nat) (w : Gw) (h : Nat → Nat), c + n = 8 → us ≤ c → us ≤ men → (∀ m, m < us → w.2 m = lN (kpN cy Fs Ft t (h m))) → (∀ m, us ≤ m → h m = 0) →
    (gsF (gsK cy Fs Ft t) ink men n c us w).1 = exB (okS cy Fs Ft t) (bbits (fun c => decide (0 < ink c)) 8) men n c h ∧ ((gsF (gsK cy Fs Ft t) ink men n c us w).1 = true → rowOk (okS cy Fs Ft t) (bbits (fun c => decide (0 < ink c)) 8) men n c h w.1 (gsF (gsK cy Fs Ft t) ink men n c us w).2.1) ∧ ((gsF (gsK cy Fs Ft t) ink men n c us w).1 = false → (∀ m, m < us → (gsF (gsK cy Fs Ft t) ink men n c us w).2.2 m = w.2 m) ∧ ∀ j, j < c → (gsF (gsK cy Fs Ft t) ink men n c us w).2.1 j = w.1 j) := by
  intro n
  induction n with
  | zero =>
    intro c us w h hc hus hum hw hz
    refine ⟨rfl, fun _ => ⟨fun _ _ => rfl, fun j h1 h2 => by omega⟩, fun q => Bool.noConfusion q⟩
  | succ n ih =>
    intro c us w h hc hus hum hw hz
    by_cases hi : ink c = 0
    · have hB : (bbits (fun c => decide (0 < ink c)) 8).testBit c = false := by rw [bbits_tb, hi, decide_eq_true (show c < 8 by omega)]; rfl
      rw [gsF_z hi, ex_n hB]
      obtain ⟨k1, k2, k3⟩ := ih (c + 1) us (upd w.1 c (-2), w.2) h (by omega) (by omega) hum hw hz
      refine ⟨k1, fun q => ?_, fun q => ⟨(k3 q).1, fun j hj => ?_⟩⟩
      · obtain ⟨r1, r2⟩ := k2 q
        refine ⟨fun j hj => ?_, fun j hj hj2 => ?_⟩
        · rw [r1 j (by omega)]
          show upd w.1 c (-2) j = _
          unfold upd; rw [if_neg (by omega)]
        · by_cases e : j = c
          · rw [e, r1 c (by omega), if_neg (by rw [hB]; decide)]
            show upd w.1 c (-2) c = _
            unfold upd; rw [if_pos rfl]
          · rw [r2 j (by omega) (by omega), gr_n hB]
      · rw [(k3 q).2 j (by omega)]
        show upd w.1 c (-2) j = _
        unfold upd; rw [if_neg (by omega)]
    · have hB : (bbits (fun c => decide (0 < ink c)) 8).testBit c = true := by rw [bbits_tb, decide_eq_true (show c < 8 by omega), decide_eq_true (show 0 < ink c by omega)]; rfl
      rw [gsF_n hi, Nat.sub_zero]
      obtain ⟨g1, g2⟩ := gsL_spec (n := n) hd hB hus (by omega) hum hz (fun us w h a b c1 d => by
        obtain ⟨x1, x2, x3⟩ := ih (c + 1) us w h (by omega) a b c1 d
        exact ⟨x1, x2, fun q => ⟨(x3 q).1, fun j hj => (x3 q).2 j (by omega)⟩⟩) (glim us men) 0 w (by omega) hw (fun m' hm' => absurd hm' (Nat.not_lt_zero _))
      cases e : (gsL (gsF (gsK cy Fs Ft t) ink men n (c + 1)) (gsK cy Fs Ft t c) c us (glim us men) 0 w).1 with
      | true =>
        obtain ⟨m1, a1, a2, a3, a4⟩ := g1 e
        exact ⟨(ex_yes hB a1 a3 a2).1.symm, fun _ => a4, fun q => absurd q (by decide)⟩
      | false =>
        obtain ⟨a1, a2, a3⟩ := g2 e
        refine ⟨(ex_no hB (fun m' hm' => ?_)).symm, fun q => absurd q (by decide), fun _ => ⟨a2, a3⟩⟩
        rcases Nat.lt_or_ge m' (glim us men) with q | q
        · exact a1 m' q
        · have hum2 : us < men := by unfold glim at q; omega
          have hm9 : us ≤ m' := by unfold glim at q; omega
          rw [exP_sym (a := m') (b := us) hm' hum2 (by rw [hz m' hm9, hz us (Nat.le_refl _)])]
          exact a1 us (by unfold glim; omega)
end CLS
