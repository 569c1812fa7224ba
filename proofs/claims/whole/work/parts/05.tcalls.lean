/-! CALLS: a callee by its contract Ct; a reader's world stays, a writer's cells are put back in their places, a maker's are put behind -/
abbrev kN (y : MethodName) (n : Nat) : Prop := (y.cls ≠ "java/lang/invoke/MethodHandle" ∧ y.cls ≠ "java/lang/invoke/VarHandle") ∧ (parseMethodDescriptor y.desc).map (fun d => d.parameters.length) = some n
def kV (C : String) (y : MethodName) (b : ByteArray) (m : Nat) (r : Option FieldType) (n : Nat) : Prop := okIn (.instanceMethod y) ∧ okIn (.selects C y y) ∧ okIn (.code y b m r) ∧ okIn (.initialized y.cls) ∧ kN y n
def kS (y : MethodName) (b : ByteArray) (m : Nat) (r : Option FieldType) (n : Nat) : Prop := okIn (.static y) ∧ okIn (.code y b m r) ∧ okIn (.initialized y.cls) ∧ kN y n
def kI (y : MethodName) (b : ByteArray) (m : Nat) (n : Nat) : Prop := okIn (.instanceMethod y) ∧ okIn (.code y b m none) ∧ okIn (.initialized y.cls) ∧ y.name = "<init>" ∧ kN y n
def Rn (E : Et) (Z : Zt) (k n mc' ms' pc : Nat) (st0 rest : List Value) (wc : va_W) (Po : Option Value → va_W → Prop) : Prop :=
  ∀ (H : Heap) (locs : List Loc) (ls : Array Slot), ls.size = zn Z → va_P (eD E) vwCl wc H → va_D (zA Z) wc → va_S (zA Z) (zs Z).heap H locs →
    va_Run (zp Z) (zl Z) (ze Z) (zR Z) (zs Z) (zm Z) (za Z) (zb Z) (zM Z) (zc Z) H locs k n mc' ms' (F0 (zm Z) pc ls st0) rest (Qo E wc H.size Po #[]) (va_A wc H.size)
section CALLS
variable {E : Et} {l : Launch} {d mc ms : Nat} {Z : Zt} {cc : ByteArray} {nL : Nat} {y : MethodName} {ret : Option FieldType} {pc k n : Nat} {lv : List (Nat × Value)} {rest st0 : List Value} {ws wc : va_W}
variable {y' : MethodName} {bytes : ByteArray} {maxL d' mc' ms' ix b : Nat} {rt : Option FieldType} {As : List Value} {Po : Option Value → va_W → Prop} {host : String}
theorem fr_blind (sz : Nat) (av : List Value) (wc : va_W) : FrameBlind (va_Pc av (Pre E sz wc)) := by
  intro a U g mk h
  obtain ⟨h1, h2, h3, h4, h5, h6⟩ := h
  exact ⟨h1, h2, h3, Ev.go h4 (State.WarmedH.refl U) (fun _ _ => rfl), h5, h6⟩
theorem Cx.sz (X : Cx E l d mc ms Z cc nL y ret) : eb E ≤ (zs Z).heap.size := X.ab _ (X.hA _ (Nat.le_refl _))
theorem Cx.go (X : Cx E l d mc ms Z cc nL y ret) {H : Heap} {locs : List Loc} (hS : va_S (zA Z) (zs Z).heap H locs) {U : State} (hW : (zs Z).WarmedH U.vm) : Ev E U H :=
  X.ev.go hW (fun q hq => hS.2.1 q (Nat.lt_of_lt_of_le hq X.sz) (fun z => Nat.not_le.mpr hq (X.ab q z)))
theorem fr_pre (X : Cx E l d mc ms Z cc nL y ret) {H : Heap} {locs : List Loc} (hP : va_P (eD E) vwCl wc H) (hD : va_D (zA Z) wc) (hS : va_S (zA Z) (zs Z).heap H locs) {av : List Value} :
    ∀ U : State, U.heap = H → (zs Z).WarmedH U.vm → va_Pc av (Pre E H.size wc) av.toArray U := by
  intro U hU hW
  refine ⟨rfl, by rw [hU], Nat.le_trans X.sz hS.1, ?_, by rw [hU]; exact hP, hD.weaken (fun _ q _ h => X.ab q.1 h)⟩
  rw [hU]
  exact X.go hS hW
theorem fr_room (X : Cx E l d mc ms Z cc nL y ret) (hd : d' < d) (hL : maxL ≤ 21) : (Rm d' mc' ms').frames + 1 ≤ (zR Z).frames ∧ 8 + (maxL + 11) + (Rm d' mc' ms').locals ≤ (zR Z).locals := by
  have h := X.rm
  simp only [Rm]
  omega
theorem kN.len {n' : Nat} (h : kN y' n') : ∀ sig, parseMethodDescriptor y'.desc = some sig → n' = sig.parameters.length := by
  intro sig hs
  have h2 := h.2
  rw [hs] at h2
  exact (Option.some.inj h2).symm
theorem rn_V (X : Cx E l d mc ms Z cc nL y ret) {C : String} (K : kV C y' bytes maxL rt As.length) (hl0 : okIn (.methodLink y.cls ix y')) (h : decode cc pc = .ok (.invokevirtual ix, 3)) (hC : Ct l E y' bytes maxL rt d' mc' ms' (.ref b :: As) wc Po) (hst : st0 = As.reverse ++ .ref b :: rest)
    (q0 : Nat) {ci N : Nat} {T : u_T} {fs : List Value} (hr : wc[q0]? = some (b, .inr (ci, fs))) (hcl : vwCl[ci]? = some (C, T, N)) (hd : d' < d) (hL : maxL ≤ 21) (hk : k + mc' ≤ mc) (hn : n + ms' ≤ ms) (hW : (rest.map fun v => v.category).sum ≤ 8) : Rn E Z k n mc' ms' pc st0 rest wc Po := by
  intro H locs ls hls hP hD hS
  obtain ⟨k1, k2, k3, k4, k5⟩ := K
  have hM := hC H.size
  rw [← X.ll] at hM
  have hR := fr_room (mc' := mc') (ms' := ms') X hd hL
  exact va_runV (cc := cc) (nL := zn Z) (Ts := []) (As := As) ⟨X.ex, X.bb, X.ml, X.ow, fun _ h => by cases h⟩ hM ⟨⟨rfl, rfl, hR.1, hR.2, X.ev.ww k3, List.mem_singleton.mpr rfl, X.ev.w k3, X.ev.w k4, k5.1, k5.len, X.ev.w hl0⟩, X.ev.w k1, X.ev.w k2⟩ ⟨fr_blind _ _ _, va_recv X.kk hP hcl hr, fr_pre X hP hD hS⟩ rfl rfl hls hst (lv_room hW) h ⟨by have := X.rm; omega, by have := X.rm; omega⟩
theorem rn_VN (X : Cx E l d mc ms Z cc nL y ret) {C : String} (K : kV C y' bytes maxL rt As.length) (hl0 : okIn (.methodLinkNest y.cls ix y' host)) (h : decode cc pc = .ok (.invokevirtual ix, 3)) (hC : Ct l E y' bytes maxL rt d' mc' ms' (.ref b :: As) wc Po) (hst : st0 = As.reverse ++ .ref b :: rest)
    (q0 : Nat) {ci N : Nat} {T : u_T} {fs : List Value} (hr : wc[q0]? = some (b, .inr (ci, fs))) (hcl : vwCl[ci]? = some (C, T, N)) (hd : d' < d) (hL : maxL ≤ 21) (hk : k + mc' ≤ mc) (hn : n + ms' ≤ ms) (hW : (rest.map fun v => v.category).sum ≤ 8) : Rn E Z k n mc' ms' pc st0 rest wc Po := by
  intro H locs ls hls hP hD hS
  obtain ⟨k1, k2, k3, k4, k5⟩ := K
  have hM := hC H.size
  rw [← X.ll] at hM
  have hR := fr_room (mc' := mc') (ms' := ms') X hd hL
  exact va_runVN (cc := cc) (nL := zn Z) (Ts := []) (As := As) ⟨X.ex, X.bb, X.ml, X.ow, fun _ h => by cases h⟩ hM ⟨⟨⟨rfl, rfl, hR.1, hR.2, X.ev.ww k3, List.mem_singleton.mpr rfl⟩, X.ev.w k3, X.ev.w k4, k5.1, k5.len, X.ev.w hl0⟩, X.ev.w k1, X.ev.w k2⟩ ⟨fr_blind _ _ _, va_recv X.kk hP hcl hr, fr_pre X hP hD hS⟩ rfl rfl hls hst (lv_room hW) h ⟨by have := X.rm; omega, by have := X.rm; omega⟩
theorem rn_S (X : Cx E l d mc ms Z cc nL y ret) (K : kS y' bytes maxL rt As.length) (hl0 : okIn (.methodLink y.cls ix y')) (h : decode cc pc = .ok (.invokestatic ix, 3)) (hC : Ct l E y' bytes maxL rt d' mc' ms' As wc Po) (hst : st0 = As.reverse ++ rest)
    (hd : d' < d) (hL : maxL ≤ 21) (hk : k + mc' ≤ mc) (hn : n + ms' ≤ ms) (hW : (rest.map fun v => v.category).sum ≤ 8) : Rn E Z k n mc' ms' pc st0 rest wc Po := by
  intro H locs ls hls hP hD hS
  obtain ⟨k1, k3, k4, k5⟩ := K
  have hM := hC H.size
  rw [← X.ll] at hM
  have hR := fr_room (mc' := mc') (ms' := ms') X hd hL
  exact va_runS (cc := cc) (nL := zn Z) (Ts := []) (As := As) ⟨X.ex, X.bb, X.ml, X.ow, fun _ h => by cases h⟩ hM ⟨⟨rfl, rfl, hR.1, hR.2, X.ev.ww k3, List.mem_singleton.mpr rfl, X.ev.w k3, X.ev.w k4, k5.1, k5.len, X.ev.w hl0⟩, X.ev.w k1⟩ ⟨fr_blind _ _ _, fr_pre X hP hD hS⟩ rfl rfl hls hst (lv_room hW) h ⟨by have := X.rm; omega, by have := X.rm; omega⟩
theorem rn_SN (X : Cx E l d mc ms Z cc nL y ret) (K : kS y' bytes maxL rt As.length) (hl0 : okIn (.methodLinkNest y.cls ix y' host)) (h : decode cc pc = .ok (.invokestatic ix, 3)) (hC : Ct l E y' bytes maxL rt d' mc' ms' As wc Po) (hst : st0 = As.reverse ++ rest)
    (hd : d' < d) (hL : maxL ≤ 21) (hk : k + mc' ≤ mc) (hn : n + ms' ≤ ms) (hW : (rest.map fun v => v.category).sum ≤ 8) : Rn E Z k n mc' ms' pc st0 rest wc Po := by
  intro H locs ls hls hP hD hS
  obtain ⟨k1, k3, k4, k5⟩ := K
  have hM := hC H.size
  rw [← X.ll] at hM
  have hR := fr_room (mc' := mc') (ms' := ms') X hd hL
  exact va_runSN (cc := cc) (nL := zn Z) (Ts := []) (As := As) ⟨X.ex, X.bb, X.ml, X.ow, fun _ h => by cases h⟩ hM ⟨⟨⟨rfl, rfl, hR.1, hR.2, X.ev.ww k3, List.mem_singleton.mpr rfl⟩, X.ev.w k3, X.ev.w k4, k5.1, k5.len, X.ev.w hl0⟩, X.ev.w k1, trivial⟩ ⟨fr_blind _ _ _, fr_pre X hP hD hS⟩ rfl rfl hls hst (lv_room hW) h ⟨by have := X.rm; omega, by have := X.rm; omega⟩
theorem rn_I (X : Cx E l d mc ms Z cc nL y ret) (K : kI y' bytes maxL As.length) (hl0 : okIn (.methodLink y.cls ix y')) (h : decode cc pc = .ok (.invokespecial ix, 3)) (hC : Ct l E y' bytes maxL none d' mc' ms' (.ref b :: As) wc Po) (hst : st0 = As.reverse ++ .ref b :: rest)
    (hd : d' < d) (hL : maxL ≤ 21) (hk : k + mc' ≤ mc) (hn : n + ms' ≤ ms) (hW : (rest.map fun v => v.category).sum ≤ 8) : Rn E Z k n mc' ms' pc st0 rest wc Po := by
  intro H locs ls hls hP hD hS
  obtain ⟨k1, k3, k4, k6, k5⟩ := K
  have hM := hC H.size
  rw [← X.ll] at hM
  have hR := fr_room (mc' := mc') (ms' := ms') X hd hL
  exact va_runI (cc := cc) (nL := zn Z) (Ts := []) (As := As) ⟨X.ex, X.bb, X.ml, X.ow, fun _ h => by cases h⟩ hM ⟨⟨rfl, rfl, hR.1, hR.2, X.ev.ww k3, List.mem_singleton.mpr rfl, X.ev.w k3, X.ev.w k4, k5.1, k5.len, X.ev.w hl0⟩, k6, X.ev.w k1⟩ ⟨fr_blind _ _ _, fr_pre X hP hD hS⟩ rfl rfl hls hst (lv_room hW) h ⟨by have := X.rm; omega, by have := X.rm; omega⟩
theorem rn_IN (X : Cx E l d mc ms Z cc nL y ret) (K : kI y' bytes maxL As.length) (hl0 : okIn (.methodLinkNest y.cls ix y' host)) (h : decode cc pc = .ok (.invokespecial ix, 3)) (hC : Ct l E y' bytes maxL none d' mc' ms' (.ref b :: As) wc Po) (hst : st0 = As.reverse ++ .ref b :: rest)
    (hd : d' < d) (hL : maxL ≤ 21) (hk : k + mc' ≤ mc) (hn : n + ms' ≤ ms) (hW : (rest.map fun v => v.category).sum ≤ 8) : Rn E Z k n mc' ms' pc st0 rest wc Po := by
  intro H locs ls hls hP hD hS
  obtain ⟨k1, k3, k4, k6, k5⟩ := K
  have hM := hC H.size
  rw [← X.ll] at hM
  have hR := fr_room (mc' := mc') (ms' := ms') X hd hL
  exact va_runIN (cc := cc) (nL := zn Z) (Ts := []) (As := As) ⟨X.ex, X.bb, X.ml, X.ow, fun _ h => by cases h⟩ hM ⟨⟨⟨rfl, rfl, hR.1, hR.2, X.ev.ww k3, List.mem_singleton.mpr rfl⟩, X.ev.w k3, X.ev.w k4, k5.1, k5.len, X.ev.w hl0⟩, k6, X.ev.w k1⟩ ⟨fr_blind _ _ _, fr_pre X hP hD hS⟩ rfl rfl hls hst (lv_room hW) h ⟨by have := X.rm; omega, by have := X.rm; omega⟩
theorem fr_place {is : List Nat} {w : va_W} (hs : is.map (fun i => ws[i]?) = w.map some) {j : Nat} {q : Nat × va_E} (hq : w[j]? = some q) : ∃ i, is[j]? = some i ∧ ws[i]? = some q := by
  have h1 : (is.map (fun i => ws[i]?))[j]? = some (some q) := by rw [hs, List.getElem?_map, hq]; rfl
  rw [List.getElem?_map] at h1
  cases hi : is[j]? with
  | none => rw [hi] at h1; cases h1
  | some i => rw [hi] at h1; exact ⟨i, rfl, Option.some.inj h1⟩
theorem fr_S {H H1 : Heap} {locs L : List Loc} {A A1 : Nat → Prop} {H0 : Heap} (hS : va_S A H0 H locs) (hz : H.size ≤ H1.size) (hk : ∀ q : Nat, q < H.size → ¬ A1 q → H1[q]? = H[q]?) (hA : ∀ q, A1 q → A q) (hL : ∀ q ∈ L, A1 q.base) : va_S A H0 H1 (locs ++ L) :=
  ⟨Nat.le_trans hS.1 hz, fun q h1 h2 => by rw [hk q (Nat.lt_of_lt_of_le h1 hS.1) (fun z => h2 (hA q z))]; exact hS.2.1 q h1 h2, fun q hq => by
    rcases List.mem_append.mp hq with h | h
    · exact hS.2.2 q h
    · exact hA _ (hL q h)⟩
theorem fr_sub {A : Nat → Prop} {H0 H : Heap} {locs : List Loc} (isC : List Nat) (hn : va_nd isC = true) (hC : isC.map (fun i => ws[i]?) = wc.map some) (hP : va_P (eD E) vwCl ws H) (hD : va_D A ws) (hS : va_S A H0 H locs) (hA : ∀ q, H0.size ≤ q → A q) : va_P (eD E) vwCl wc H ∧ va_D A wc ∧ ∀ q, va_A wc H.size q → A q := by
  refine ⟨fun j q hq => ?_, hD.sub isC hn hC, va_free hD hS hA isC hC⟩
  obtain ⟨i, -, h2⟩ := fr_place hC hq
  exact hP i q h2
/-- a reader: the world stays -/
theorem v_ro (X : Cx E l d mc ms Z cc nL y ret) {Pr : Option Value → Prop} (R : Rn E Z k n mc' ms' pc st0 rest wc (fun r w => w = wc ∧ Pr r)) (isC : List Nat) (hn : va_nd isC = true) (hC : isC.map (fun i => ws[i]?) = wc.map some) (kk : ∀ r, Pr r → V E Z (pc + 3) lv (r.toList ++ rest) ws (k + mc') (n + ms')) : V E Z pc lv st0 ws k n := by
  intro H locs ls hP hD hS hl T hT XX
  obtain ⟨hPc, hDc, hF⟩ := fr_sub isC hn hC hP hD hS X.hA
  obtain ⟨v, st₀, t, T', L, h0, X', hL, e1, e2, ⟨⟨r, w1, hv, ⟨hw1, hp⟩, hP1, hD1⟩, hz, hk⟩, st⟩ := R H locs ls hl.1 hPc hDc hS T hT XX
  cases hv
  subst hw1
  rw [h0] at hz hk
  have hP' : va_P (eD E) vwCl ws T'.heap := by
    intro j q hq
    rw [e1]
    by_cases hA : va_A w1 H.size q.1
    · rcases hA with ⟨k2, e, hk2⟩ | hge
      · obtain ⟨i, -, hi2⟩ := fr_place hC hk2
        have hji := hD.1 j i q (q.1, e) hq hi2 rfl
        subst hji
        have hqe : q = (q.1, e) := Option.some.inj (hq.symm.trans hi2)
        rw [hqe]
        exact hP1 k2 _ hk2
      · exact absurd (hP j q hq).lt (Nat.not_lt.mpr hge)
    · exact (hP j q hq).kept (hk q.1 (hP j q hq).lt hA)
  obtain ⟨t2, a1, b1⟩ := kk _ hp T'.heap (locs ++ L) ls hP' hD (fr_S hS (by rw [e1]; exact hz) (fun q a b => by rw [e1]; exact hk q a b) hF hL) hl T' rfl X'
  exact ⟨t2, st t2 a1, b1⟩
def wput : va_W → List Nat → va_W → va_W
  | ws, i :: is, e :: es => wput (ws.set i e) is es
  | ws, _, _ => ws
theorem wput_get : ∀ (is : List Nat) (es ws : va_W) (j : Nat) (q : Nat × va_E), is.length = es.length → va_nd is = true → (wput ws is es)[j]? = some q → (∃ k2 : Nat, is[k2]? = some j ∧ es[k2]? = some q) ∨ (j ∉ is ∧ ws[j]? = some q)
  | [], es, ws, j, q, _, _, h => Or.inr ⟨List.not_mem_nil, by simpa [wput] using h⟩
  | i :: is, [], ws, j, q, hl, _, h => by simp at hl
  | i :: is, e :: es, ws, j, q, hl, hn, h => by
    simp only [va_nd, Bool.and_eq_true, decide_eq_true_eq] at hn
    simp only [wput] at h
    rcases wput_get is es (ws.set i e) j q (by simpa using hl) hn.2 h with ⟨k2, h1, h2⟩ | ⟨h1, h2⟩
    · exact Or.inl ⟨k2 + 1, by simpa using h1, by simpa using h2⟩
    · by_cases hji : j = i
      · subst hji
        have hlt : j < ws.length := by
          have := (List.getElem?_eq_some_iff.mp h2).1
          simpa using this
        rw [List.getElem?_set_self hlt] at h2
        exact Or.inl ⟨0, by simp, by simpa using h2⟩
      · rw [List.getElem?_set_ne (Ne.symm hji)] at h2
        exact Or.inr ⟨by simp [hji, h1], h2⟩
/-- a writer: its cells are put back in their places -/
theorem v_wr (X : Cx E l d mc ms Z cc nL y ret) (R : Rn E Z k n mc' ms' pc st0 rest wc Po) (isC : List Nat) (hn : va_nd isC = true) (hC : isC.map (fun i => ws[i]?) = wc.map some) (kk : ∀ r w1, Po r w1 → w1.map Prod.fst = wc.map Prod.fst ∧ V E Z (pc + 3) lv (r.toList ++ rest) (wput ws isC w1) (k + mc') (n + ms')) : V E Z pc lv st0 ws k n := by
  intro H locs ls hP hD hS hl T hT XX
  obtain ⟨hPc, hDc, hF⟩ := fr_sub isC hn hC hP hD hS X.hA
  obtain ⟨v, st₀, t, T', L, h0, X', hL, e1, e2, ⟨⟨r, w1, hv, hp, hP1, hD1⟩, hz, hk⟩, st⟩ := R H locs ls hl.1 hPc hDc hS T hT XX
  cases hv
  rw [h0] at hz hk
  obtain ⟨hfst, kk⟩ := kk _ w1 hp
  have hlen : isC.length = w1.length := by
    have h1 := congrArg List.length hC
    have h2 := congrArg List.length hfst
    simp at h1 h2
    omega
  have key : ∀ (j : Nat) (q : Nat × va_E), (wput ws isC w1)[j]? = some q → ∃ q0, ws[j]? = some q0 ∧ q0.1 = q.1 := by
    intro j q hq
    rcases wput_get isC w1 ws j q hlen hn hq with ⟨k2, h1, h2⟩ | ⟨h1, h2⟩
    · have h3 : (w1.map Prod.fst)[k2]? = some q.1 := by rw [List.getElem?_map, h2]; rfl
      rw [hfst, List.getElem?_map] at h3
      cases hw : wc[k2]? with
      | none => rw [hw] at h3; cases h3
      | some q0 =>
        rw [hw] at h3
        obtain ⟨i, hi1, hi2⟩ := fr_place hC hw
        cases hi1.symm.trans h1
        exact ⟨q0, hi2, Option.some.inj h3⟩
    · exact ⟨q, h2, rfl⟩
  have hP' : va_P (eD E) vwCl (wput ws isC w1) T'.heap := by
    intro j q hq
    rw [e1]
    rcases wput_get isC w1 ws j q hlen hn hq with ⟨k2, h1, h2⟩ | ⟨h1, h2⟩
    · exact hP1 k2 _ h2
    · refine (hP j q h2).kept (hk q.1 (hP j q h2).lt (fun hA => ?_))
      rcases hA with ⟨k2, e, hk2⟩ | hge
      · obtain ⟨i, hi1, hi2⟩ := fr_place hC hk2
        have hji := hD.1 j i q (q.1, e) h2 hi2 rfl
        subst hji
        exact h1 (List.mem_of_getElem? hi1)
      · exact absurd (hP j q h2).lt (Nat.not_lt.mpr hge)
  have hD' : va_D (zA Z) (wput ws isC w1) := by
    refine ⟨fun i j x z hi hj hxz => ?_, fun j q hq => ?_⟩
    · obtain ⟨x0, h1, h2⟩ := key i x hi
      obtain ⟨z0, h3, h4⟩ := key j z hj
      exact hD.1 i j x0 z0 h1 h3 (h2.trans (hxz.trans h4.symm))
    · obtain ⟨q0, h1, h2⟩ := key j q hq
      rw [← h2]
      exact hD.2 j q0 h1
  obtain ⟨t2, a1, b1⟩ := kk T'.heap (locs ++ L) ls hP' hD' (fr_S hS (by rw [e1]; exact hz) (fun q a b => by rw [e1]; exact hk q a b) hF hL) hl T' rfl X'
  exact ⟨t2, st t2 a1, b1⟩
/-- a maker: the rest, and behind it what it gives -/
theorem v_nw (X : Cx E l d mc ms Z cc nL y ret) (R : Rn E Z k n mc' ms' pc st0 rest wc Po) (isC isR : List Nat) {wr : va_W} (hn : va_nd isC = true) (hC : isC.map (fun i => ws[i]?) = wc.map some) (hR : isR.map (fun i => ws[i]?) = wr.map some) (hnR : va_nd isR = true) (hdis : ∀ i ∈ isR, i ∉ isC) (kk : ∀ r w1, Po r w1 → V E Z (pc + 3) lv (r.toList ++ rest) (wr ++ w1) (k + mc') (n + ms')) : V E Z pc lv st0 ws k n := by
  intro H locs ls hP hD hS hl T hT XX
  obtain ⟨hPc, hDc, hF⟩ := fr_sub isC hn hC hP hD hS X.hA
  obtain ⟨v, st₀, t, T', L, h0, X', hL, e1, e2, ⟨⟨r, w1, hv, hp, hP1, hD1⟩, hz, hk⟩, st⟩ := R H locs ls hl.1 hPc hDc hS T hT XX
  cases hv
  rw [h0] at hz hk
  obtain ⟨hP', hD'⟩ := va_join (w1 := w1) (H1 := T'.heap) hP hD isC isR hC hR hnR hdis (fun q a b => by rw [e1]; exact hk q a b) hF (by rw [e1]; exact hP1) hD1
  obtain ⟨t2, a1, b1⟩ := kk _ w1 hp T'.heap (locs ++ L) ls hP' hD' (fr_S hS (by rw [e1]; exact hz) (fun q a b => by rw [e1]; exact hk q a b) hF hL) hl T' rfl X'
  exact ⟨t2, st t2 a1, b1⟩
/-- posts by the answer's kind -/
def pI (P : Int32 → Prop) : Option Value → Prop := fun r => ∃ v, r = some (.int v) ∧ P v
def pL (P : Int64 → Prop) : Option Value → Prop := fun r => ∃ v, r = some (.long v) ∧ P v
def ro (wc : va_W) (Pr : Option Value → Prop) : Option Value → va_W → Prop := fun r w => w = wc ∧ Pr r
theorem v_roI (X : Cx E l d mc ms Z cc nL y ret) {P : Int32 → Prop} (R : Rn E Z k n mc' ms' pc st0 rest wc (ro wc (pI P))) (isC : List Nat) (hn : va_nd isC = true) (hC : isC.map (fun i => ws[i]?) = wc.map some) (kk : ∀ v, P v → V E Z (pc + 3) lv (.int v :: rest) ws (k + mc') (n + ms')) : V E Z pc lv st0 ws k n :=
  v_ro X R isC hn hC (fun r h => by obtain ⟨v, rfl, hv⟩ := h; exact kk v hv)
theorem v_roL (X : Cx E l d mc ms Z cc nL y ret) {P : Int64 → Prop} (R : Rn E Z k n mc' ms' pc st0 rest wc (ro wc (pL P))) (isC : List Nat) (hn : va_nd isC = true) (hC : isC.map (fun i => ws[i]?) = wc.map some) (kk : ∀ v, P v → V E Z (pc + 3) lv (.long v :: rest) ws (k + mc') (n + ms')) : V E Z pc lv st0 ws k n :=
  v_ro X R isC hn hC (fun r h => by obtain ⟨v, rfl, hv⟩ := h; exact kk v hv)
/-- Math.max, Math.min; Object's constructor -/
theorem v_max (X : Cx E l d mc ms Z cc nL y ret) (hl0 : okIn (.methodLink y.cls ix Lib.Math.max.name)) (h1 : okIn (.static Lib.Math.max.name)) (h2 : okIn (.initialized "java/lang/Math")) (h3 : okIn (.code Lib.Math.max.name Lib.Math.max.code 2 (some .int))) (h : decode cc pc = .ok (.invokestatic ix, 3)) (hd : 0 < d) (hk : k ≤ mc) (hn : n ≤ ms) (hW : (rest.map fun v => v.category).sum ≤ 8) {x z : Int32} (kk : V E Z (pc + 3) lv (.int (if x < z then z else x) :: rest) ws k n) : V E Z pc lv (.int z :: .int x :: rest) ws k n := by
  intro H locs ls hP hD hS hl
  have hr := X.rm
  exact va_mmax X.ex X.bb (X.ml.trans hl.1.symm) X.ow (X.ev.w hl0) (X.ev.w h1) (X.ev.w h2) (X.ev.w h3) (by omega) (by omega) (by omega) (by omega) h (kk H locs ls hP hD hS hl)
theorem v_min (X : Cx E l d mc ms Z cc nL y ret) (hl0 : okIn (.methodLink y.cls ix Lib.Math.min.name)) (h1 : okIn (.static Lib.Math.min.name)) (h2 : okIn (.initialized "java/lang/Math")) (h3 : okIn (.code Lib.Math.min.name Lib.Math.min.code 2 (some .int))) (h : decode cc pc = .ok (.invokestatic ix, 3)) (hd : 0 < d) (hk : k ≤ mc) (hn : n ≤ ms) (hW : (rest.map fun v => v.category).sum ≤ 8) {x z : Int32} (kk : V E Z (pc + 3) lv (.int (if z < x then z else x) :: rest) ws k n) : V E Z pc lv (.int z :: .int x :: rest) ws k n := by
  intro H locs ls hP hD hS hl
  have hr := X.rm
  exact va_mmin X.ex X.bb (X.ml.trans hl.1.symm) X.ow (X.ev.w hl0) (X.ev.w h1) (X.ev.w h2) (X.ev.w h3) (by omega) (by omega) (by omega) (by omega) h (kk H locs ls hP hD hS hl)
theorem v_oinit (X : Cx E l d mc ms Z cc nL y ret) {a : Nat} (hl0 : okIn (.methodLink y.cls ix Lib.objectInit)) (h1 : okIn (.instanceMethod Lib.objectInit)) (h2 : okIn (.code Lib.objectInit ⟨#[0xb1]⟩ 1 none)) (h : decode cc pc = .ok (.invokespecial ix, 3)) (hd : 0 < d) (hW : (rest.map fun v => v.category).sum ≤ 8) (kk : V E Z (pc + 3) lv rest ws k n) : V E Z pc lv (.ref a :: rest) ws k n := by
  intro H locs ls hP hD hS hl
  have hr := X.rm
  have hm := lv_room (m := zm Z) (pc := pc) (ls := ls) (rest := .ref a :: rest) hW
  exact W.objInit X.ex X.bb X.ow (X.ev.w hl0) (X.ev.w h1) (X.ev.w h2) rfl (hl.1.trans X.ml.symm) rfl h (by omega) (by omega) (kk H locs ls hP hD hS hl)
theorem fr_arr {U : State} {cA : ClassId} {ty : FieldType} {f : Nat → ClassId} {t0 : Nat} (h : va_K (eD E) vwCl (fr_ty f ++ [(cA, ty)]) U) (ht : (fr_ty f)[t0]? = some (f t0, ty)) : cA = f t0 := by
  have h1 := (h.2 5 (cA, ty) (by simp [fr_ty])).2
  have h2 := (h.2 t0 (f t0, ty) (by rw [List.getElem?_append_left (List.getElem?_eq_some_iff.mp ht).1]; exact ht)).2
  cases ty with
  | object C =>
    obtain ⟨_, _, _, _, _, q1⟩ := h1
    obtain ⟨_, _, _, _, _, q2⟩ := h2
    exact Option.some.inj (q1.symm.trans q2)
  | _ => exact Option.some.inj ((h1 : U.vm.findClass _ = some _).symm.trans h2)
theorem v_newa (X : Cx E l d mc ms Z cc nL y ret) {at_ : ArrayType} {ty : FieldType} (t0 : Nat) (ht : (fr_ty (eC E))[t0]? = some (eC E t0, ty)) (hc : okIn (.arrayClass ty)) (hty : newarray.typeOf at_ = ty) (h : decode cc pc = .ok (.newarray at_, 2)) {m : Nat} {a0 : vp_A} (ha : ∀ cA : ClassId, vp_cell cA a0 = arrV cA m (fun _ => defaultValue ty)) (hm : m < 2 ^ 20) (hk : k + 1 ≤ mc) (hn : n + m ≤ ms) (kk : ∀ q : Nat, V E Z (pc + 2) lv (.ref q :: rest) (ws ++ [(q, .inl (eC E t0, a0))]) (k + 1) (n + m)) : V E Z pc lv (.int (nI m) :: rest) ws k n := by
  intro H locs ls hP hD hS hl
  have hr := X.rm
  have hm31 : m < 2 ^ 31 := Nat.lt_trans hm (by decide)
  refine va_newa X.ex X.bb (atype := at_) (by rw [hty]; exact X.ev.w hc) hty X.kk hP hD hS X.hA ha (nI_pos hm31) (nI_clamp hm31) ?_ (by omega) (by omega) h ?_
  · have hb : componentBytes ty ≤ 8 := by subst hty; cases at_ <;> decide
    have hm2 : m < 1048576 := hm
    calc m * componentBytes ty ≤ 1048576 * 8 := Nat.mul_le_mul (Nat.le_of_lt hm2) hb
      _ ≤ 536870912 := by decide
  · intro q cA H1 hK1 hP1 hD1 hS1
    have e := fr_arr hK1 ht
    subst e
    exact kk q H1 locs ls hP1 hD1 hS1 hl
theorem v_new (X : Cx E l d mc ms Z cc nL y ret) {ci N : Nat} {C : String} {T : u_T} {ty : Nat → FieldType} (K : Kc ci C T N ty) (hc : okIn (.classLink y.cls ix C)) (hi : okIn (.instantiable C N)) (hini : okIn (.initialized C)) (h : decode cc pc = .ok (.new ix, 3)) {fs : List Value} (hfs : ∀ j, j < N → defaultValue (ty j) = vp_V fs j) (hk : k + 1 ≤ mc) (hn : n + N ≤ ms) (kk : ∀ q : Nat, V E Z (pc + 3) lv (.ref q :: rest) (ws ++ [(q, .inr (ci, fs))]) (k + 1) (n + N)) : V E Z pc lv rest ws k n := by
  intro H locs ls hP hD hS hl
  have hr := X.rm
  exact va_new X.ex X.bb X.ts K.2.1 ty K.2.2.1 X.ow (X.ev.w hc) (X.ev.w hi) (X.ev.w hini) X.kk hP hD hS X.hA K.1 hfs (by omega) (by omega) h (fun q H1 hP1 hD1 hS1 => kk q H1 locs ls hP1 hD1 hS1 hl)
end CALLS
