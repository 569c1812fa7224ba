/-! led: what it throws; contracts of a method that throws it, and of one with a table -/
theorem xw_steady {w : Cond} (hs : w.steady = true) (ho : w.onTables = true) {s U : State} (hW : s.WarmedH U.vm) {a a' : Array Value} (h : w.before a s = true) : w.before a' U = true := by
  refine va_tabs ho (rfl : (s.setVm U.vm).vm = U.vm) (A := a) ?_
  have e := Cond.value_setVm₂ (args := a) (o := none) (s := s) hW.alike hW.alike w [] hs
  have h1 : (Cond.value a s none s [] w == some true) = true := h
  show (Cond.value a (s.setVm U.vm) none (s.setVm U.vm) [] w == some true) = true
  rw [e]
  exact h1
def xw_c : Cond → Bool
  | .castable _ _ => true
  | .declares _ => true
  | _ => false
def xw (w : Cond) : Bool := goodWord w || (w.steady && w.onTables) || xw_c w
theorem xw_move {w : Cond} (h : xw w = true) {s U : State} (hW : s.WarmedH U.vm) {a a' : Array Value} (hb : w.before a s = true) : w.before a' U = true := by
  unfold xw at h
  rcases Bool.or_eq_true _ _ |>.mp h with h | h
  · rcases Bool.or_eq_true _ _ |>.mp h with h | h
    · exact word_at hW (good_of_word h) hb
    · obtain ⟨h1, h2⟩ := Bool.and_eq_true _ _ |>.mp h
      exact xw_steady h1 h2 hW hb
  · cases w <;> first | (cases h; done) | exact va_Nw.use rfl (va_Nw.warmC hW (va_Nw.of rfl hb)) | exact va_Nw.use rfl (va_Nw.warmD hW (va_Nw.of rfl hb))
def nsN : String := "java/util/NoSuchElementException"
def nsT : String := "there is no such clause without ink"
def nsL : List Cond := vx_atS RX6 298 nsN ["java/lang/RuntimeException", "java/lang/Exception"]
def nsW : List Cond := Cond.classLink RX6 294 nsN :: Cond.initialized nsN :: nsL
def nsX : List Cond := Cond.classLink RL 13 nsN :: nsW
theorem ns_all : nsX.all xw = true := by decide +kernel
theorem ns_ot : nsW.all vx_ot = true := by decide +kernel
theorem ns_self : Cond.castable nsN nsN ∈ nsL := by decide +kernel
def Xv (E : Et) (U : State) (H : Heap) : Prop := (∃ sa : Nat, vk_R RX6 296 nsT sa U) ∧ vx_Zq Bundle.tN "UNASSIGNED_STACK" Bundle.steD (eA E) U H ∧ vx_Zq Bundle.tN "SUPPRESSED_SENTINEL" Bundle.listD (eA E) U H ∧ ∀ w ∈ nsX, ∀ a, w.before a U = true
theorem Xv.go {E : Et} {s U : State} {H H1 : Heap} (h : Xv E s H) (hW : s.WarmedH U.vm) (hq : ∀ q : Nat, q < eb E → H1[q]? = H[q]?) : Xv E U H1 := by
  obtain ⟨⟨sa, h1⟩, h2, h3, h4⟩ := h
  have hk : ∀ a : Nat, a < H.size → ¬ eA E a → H1[a]? = H[a]? := fun a _ n => hq a (Nat.not_le.mp n)
  exact ⟨⟨sa, vk_R.warm hW h1⟩, (vx_Zq.moved hW.alike h2).kept hk, (vx_Zq.moved hW.alike h3).kept hk, fun w hw a => xw_move (List.all_eq_true.mp ns_all w hw) hW (h4 w hw #[])⟩
def PreX (E : Et) (sz : Nat) (wc : va_W) : State → Prop := fun U => Pre E sz wc U ∧ Xv E U U.heap
def XQ (E : Et) (wc : va_W) (sz : Nat) : String → State → State → Prop := fun C st t => C = nsN ∧ va_P (eD E) vwCl wc t.heap ∧ va_F (va_A wc sz) st t
def xF0 : Array Value → State → Outcome → State → Prop := fun _ _ _ _ => False
/-- a method that throws it, the world as it was -/
def CtX (l : Launch) (E : Et) (y : MethodName) (cc : ByteArray) (nL : Nat) (ret : Option FieldType) (d mc ms : Nat) (av : List Value) (wc : va_W) : Prop :=
  ∀ sz : Nat, vx_Met l y [.code y cc nL ret] (Rm d mc ms) (va_Pc av (PreX E sz wc)) xF0 (XQ E wc sz) mc ms (va_A wc sz)
def RtX (E : Et) (Z : Zt) (wc : va_W) (mc ms : Nat) : Prop :=
  zA Z = va_A wc (zs Z).heap.size ∧ Xv E (zs Z) (zs Z).heap ∧ zQ Z = vx_MQ (zb Z) xF0 (XQ E wc (zs Z).heap.size) (za Z) (zs Z) mc ms (va_A wc (zs Z).heap.size) ∧ (∀ x ∈ (zc Z).exceptionTable.toList, False)
theorem CtX.intro {l : Launch} {E : Et} {y : MethodName} {cc : ByteArray} {nL : Nat} {ret : Option FieldType} {d mc ms : Nat} {av : List Value} {wc : va_W}
    (hy : plainName y.cls = true) (hn : (lg_sl av).length ≤ nL) {lv : List (Nat × Value)} (hlv : lv_args 0 av = lv) (body : ∀ Z : Zt, Cx E l d mc ms Z cc nL y ret → RtX E Z wc mc ms → V E Z 0 lv [] wc 0 0) : CtX l E y cc nL ret d mc ms av wc := by
  intro sz
  subst hlv
  refine vx_ofW (cc := cc) (maxL := nL) (ret := ret) hy rfl ?_
  intro p e s m args below meth c s₁ B hml ht hv
  obtain ⟨rfl, ⟨rfl, hbs, hE, hP, hD⟩, hX9⟩ := hv
  have hl := lv_entry av (n := nL) hn
  rw [lg_entry_eq]
  let Z : Zt := (p, l, e, Rm d mc ms, s, m, av.toArray, below, meth, c, va_A wc s.heap.size, vx_MQ below xF0 (XQ E wc s.heap.size) av.toArray s mc ms (va_A wc s.heap.size), nL)
  have hX : Cx E l d mc ms Z cc nL y ret := by
    refine ⟨B.exec, B.bytes, hml, rfl, findClass_of_methodNamed B.named, (name_of_methodNamed B.named B.method).1, hE, ?_, ?_, B.notSynchronized, B.returns, rfl, Nat.le_refl _, Nat.le_refl _, Nat.le_refl _, Nat.le_refl _⟩
    · intro q hq
      rcases hq with ⟨k, e', hq⟩ | hq
      · exact hD.2 k _ hq
      · exact Nat.le_trans hbs hq
    · intro q hq
      exact Or.inr hq
  exact body Z hX ⟨rfl, hX9, rfl, ht⟩ s.heap [] _ hP hD.self va_S.rf hl
/-- a method with a table -/
def CtW (l : Launch) (E : Et) (y : MethodName) (cc : ByteArray) (nL : Nat) (ret : Option FieldType) (hh : List (Nat × Nat × Nat × Nat)) (d mc ms : Nat) (av : List Value) (wc : va_W) (Po : Option Value → va_W → Prop) : Prop :=
  ∀ sz : Nat, Met l y [.codeWith y cc nL ret hh] (Rm d mc ms) (va_Pc av (PreX E sz wc)) (Qo E wc sz Po) mc ms (va_A wc sz)
theorem CtW.intro {l : Launch} {E : Et} {y : MethodName} {cc : ByteArray} {nL : Nat} {ret : Option FieldType} {hh : List (Nat × Nat × Nat × Nat)} {d mc ms : Nat} {av : List Value} {wc : va_W} {Po : Option Value → va_W → Prop}
    (hy : plainName y.cls = true) (hn : (lg_sl av).length ≤ nL) {lv : List (Nat × Value)} (hlv : lv_args 0 av = lv) (body : ∀ Z : Zt, Cx E l d mc ms Z cc nL y ret → Rt E Z mc ms Po → Xv E (zs Z) (zs Z).heap → (zc Z).exceptionTable.toList = tableOf hh → V E Z 0 lv [] wc 0 0) : CtW l E y cc nL ret hh d mc ms av wc Po := by
  intro sz
  subst hlv
  refine va_MetW (cc := cc) (maxL := nL) (ret := ret) (hh := hh) hy rfl ?_
  intro p e s m args below meth c s₁ B hml hv
  obtain ⟨rfl, ⟨rfl, hbs, hE, hP, hD⟩, hX9⟩ := hv
  have hl := lv_entry av (n := nL) hn
  have ht : c.exceptionTable.toList = tableOf hh := vx_table (x := y) B (atoms_spec (ws := [Cond.codeWith y cc nL ret hh]) B.pre _ List.mem_cons_self)
  rw [lg_entry_eq]
  let Z : Zt := (p, l, e, Rm d mc ms, s, m, av.toArray, below, meth, c, va_A wc s.heap.size, MQ below (Qo E wc s.heap.size Po) av.toArray s mc ms (va_A wc s.heap.size), nL)
  have hX : Cx E l d mc ms Z cc nL y ret := by
    refine ⟨B.exec, B.bytes, hml, rfl, findClass_of_methodNamed B.named, (name_of_methodNamed B.named B.method).1, hE, ?_, ?_, B.notSynchronized, B.returns, rfl, Nat.le_refl _, Nat.le_refl _, Nat.le_refl _, Nat.le_refl _⟩
    · intro q hq
      rcases hq with ⟨k, e', hq⟩ | hq
      · exact hD.2 k _ hq
      · exact Nat.le_trans hbs hq
    · intro q hq
      exact Or.inr hq
  exact body Z hX ⟨wc, rfl, rfl⟩ hX9 ht s.heap [] _ hP hD.self va_S.rf hl
section XLED
variable {E : Et} {l : Launch} {d mc ms : Nat} {Z : Zt} {cc : ByteArray} {nL : Nat} {y : MethodName} {ret : Option FieldType} {pc k n : Nat} {lv : List (Nat × Value)} {rest st0 : List Value} {ws wc : va_W}
variable {y' : MethodName} {bytes : ByteArray} {maxL d' mc' ms' ix b : Nat} {rt : Option FieldType} {As : List Value} {Po : Option Value → va_W → Prop} {hh : List (Nat × Nat × Nat × Nat)}
theorem v_thr (X : Cx E l d mc ms Z cc nL yX6_led ret) (Y : RtX E Z wc mc ms) (hl : l.stackTraces = false)
    (d0 : decode cc pc = .ok (.new 294, 3)) (d3 : decode cc (pc + 3) = .ok (.dup, 1)) (d4 : decode cc (pc + 4) = .ok (.ldc_w 296, 3)) (d7 : decode cc (pc + 7) = .ok (.invokespecial 298, 3)) (d10 : decode cc (pc + 10) = .ok (.athrow, 1))
    (hd : 6 ≤ d) (hk : k + 1 ≤ mc) (hn : n + 6 ≤ ms) : V E Z pc lv [] wc k n := by
  intro H locs ls hP hD hS hl9
  obtain ⟨hA, ⟨⟨sa, x1⟩, x2, x3, x4⟩, hQ, ht⟩ := Y
  rw [hQ]
  have hr := X.rm
  have hw : ∀ w ∈ nsW, w.before (za Z) (zs Z) = true := fun w h => x4 w (List.mem_cons_of_mem _ h) _
  refine vx_throwSW (own := RX6) (cls := nsN) (text := nsT) (names := ["java/lang/RuntimeException", "java/lang/Exception"]) (ik := 294) (is := 296) (ic := 298) (A := zA Z) X.ex X.bb (X.ll.symm ▸ hl) X.ow (by decide +kernel) (by decide +kernel)
    (hw _ List.mem_cons_self) (hw _ (List.mem_cons_of_mem _ List.mem_cons_self)) x1 (fun w h => hw w (List.mem_cons_of_mem _ (List.mem_cons_of_mem _ h))) (fun w h => List.all_eq_true.mp ns_ot w h) (x2.narrow X.ab) (x3.narrow X.ab) hS (hl9.1.trans X.ml.symm)
    d0 d3 d4 d7 d10 (fun x hx => (ht x hx).elim) ?_ ?_ ?_ ?_ X.lk ?_ ?_ hk hn
  · show 2 + 3 < (zR Z).frames
    omega
  · show 0 + (13 * (2 + 1) + 43) ≤ (zR Z).locals
    omega
  · omega
  · omega
  · intro t ha hz hq
    refine ⟨rfl, fun j q hq2 => (hP j q hq2).kept (hq q.1 (hP j q hq2).lt), Nat.le_trans hS.1 hz, fun q h1 h2 => ?_⟩
    rw [hq q (Nat.lt_of_lt_of_le h1 hS.1)]
    exact hS.2.1 q h1 (by rw [hA]; exact h2)
  · intro z hz
    have := hS.2.2 z hz
    rw [hA] at this
    exact this
theorem xr_blind (sz : Nat) (av : List Value) (wc : va_W) : FrameBlind (va_Pc av (PreX E sz wc)) := by
  intro a U g mk h
  obtain ⟨h1, h2, h3⟩ := h
  obtain ⟨q1, q2⟩ := fr_blind sz av wc a U g mk ⟨h1, h2⟩
  exact ⟨q1, q2, Xv.go h3 (State.WarmedH.refl U) (fun _ _ => rfl)⟩
theorem xr_pre (X : Cx E l d mc ms Z cc nL y ret) (xv : Xv E (zs Z) (zs Z).heap) {H : Heap} {locs : List Loc} (hP : va_P (eD E) vwCl wc H) (hD : va_D (zA Z) wc) (hS : va_S (zA Z) (zs Z).heap H locs) {av : List Value} :
    ∀ U : State, U.heap = H → (zs Z).WarmedH U.vm → va_Pc av (PreX E H.size wc) av.toArray U := by
  intro U hU hW
  obtain ⟨q1, q2⟩ := fr_pre X hP hD hS (av := av) U hU hW
  refine ⟨q1, q2, ?_⟩
  rw [hU]
  exact xv.go hW (fun q hq => hS.2.1 q (Nat.lt_of_lt_of_le hq X.sz) (fun z => Nat.not_le.mpr hq (X.ab q z)))
theorem rn_SW (X : Cx E l d mc ms Z cc nL y ret) (xv : Xv E (zs Z) (zs Z).heap) (k1 : okIn (.static y')) (k3 : okIn (.codeWith y' bytes maxL rt hh)) (k4 : okIn (.initialized y'.cls)) (k5 : kN y' As.length) (hl0 : okIn (.methodLink y.cls ix y')) (h : decode cc pc = .ok (.invokestatic ix, 3)) (hC : CtW l E y' bytes maxL rt hh d' mc' ms' As wc Po) (hst : st0 = As.reverse ++ rest)
    (hd : d' < d) (hL : maxL ≤ 21) (hk : k + mc' ≤ mc) (hn : n + ms' ≤ ms) (hW : (rest.map fun v => v.category).sum ≤ 8) : Rn E Z k n mc' ms' pc st0 rest wc Po := by
  intro H locs ls hls hP hD hS
  have hM := hC H.size
  rw [← X.ll] at hM
  have hR := fr_room (mc' := mc') (ms' := ms') X hd hL
  exact vx_runSW (cc := cc) (nL := zn Z) (Ts := []) (As := As) ⟨X.ex, X.bb, X.ml, X.ow, fun _ h => by cases h⟩ hM ⟨⟨rfl, rfl, hR.1, hR.2, X.ev.ww k3, List.mem_singleton.mpr rfl⟩, X.ev.w k3, X.ev.w k4, k5.1, k5.len, X.ev.w hl0, X.ev.w k1⟩ ⟨xr_blind _ _ _, xr_pre X xv hP hD hS⟩ rfl rfl hls hst (lv_room hW) h ⟨by have := X.rm; omega, by have := X.rm; omega⟩
/-- led of the law: what x.led throws is caught at 12 -/
theorem v_xcatch (X : Cx E l d mc ms Z cc nL yL_led ret) (xv : Xv E (zs Z) (zs Z).heap) (htab : (zc Z).exceptionTable.toList = tableOf [(0, 9, 12, 13)]) (h : decode cc 4 = .ok (.invokevirtual 7, 3)) (hC : CtX l E yX6_led cX6_led 4 (some .int) d' mc' ms' (.ref b :: As) wc) (hlen : As.length = 1) (hst : st0 = As.reverse ++ .ref b :: rest)
    (q0 : Nat) {fs : List Value} (hr : wc[q0]? = some (ob b 6 fs)) (hd : d' < d) (hk : k + mc' ≤ mc) (hn : n + ms' ≤ ms) (hW : (rest.map fun v => v.category).sum ≤ 8) (isC : List Nat) (hnd : va_nd isC = true) (hCw : isC.map (fun i => ws[i]?) = wc.map some) (kk : ∀ q : Nat, V E Z 12 lv [.ref q] ws (k + mc') (n + ms')) : V E Z 4 lv st0 ws k n := by
  intro H locs ls hP hD hS hl T hT XX
  obtain ⟨hPc, hDc, hF⟩ := fr_sub isC hnd hCw hP hD hS X.hA
  obtain ⟨k1, k2, k3, k4, k5⟩ := k_X6_led
  have hM := hC H.size
  rw [← X.ll] at hM
  have hR := fr_room (mc' := mc') (ms' := ms') X hd (show 4 ≤ 21 by decide)
  have hrun := vx_runV (p := zp Z) (e := ze Z) (below := zb Z) (meth := zM Z) (c := zc Z) (locs := locs) (cells := k) (slots := n) (H := H) (cc := cc) (nL := zn Z) (Ts := []) (As := As) (rest := rest) (g := F0 (zm Z) 4 ls st0) (m := zm Z) (s := zs Z) (args := za Z) (R := zR Z) (own := RL) (C := RX6) (b := b) (n := 1) (index := 7)
    ⟨X.ex, X.bb, X.ml, X.ow, fun _ h => by cases h⟩ hM ⟨⟨rfl, rfl, hR.1, hR.2, X.ev.ww k3, List.mem_singleton.mpr rfl, X.ev.w k3, X.ev.w k4, k5.1, k5.len, X.ev.w ml_L_7⟩, X.ev.w k1, X.ev.w k2⟩ ⟨xr_blind _ _ _, va_recv X.kk hPc kcX6.1 hr, xr_pre X xv hPc hDc hS⟩ rfl hlen hl.1 hst (lv_room hW) h ⟨by have := X.rm; omega, by have := X.rm; omega⟩
  rcases hrun T hT XX with ⟨v, st₀, t, T', L, h0, X', hL, e1, e2, hfalse, st⟩ | ⟨q, st₀, t, T', L, C, ce, h0, X', hL, e1, e2, ⟨hCn, hP1, hz, hk9⟩, hce, hcv, hcl, st⟩
  · exact hfalse.elim
  · subst hCn
    rw [h0] at hz hk9
    have hP' : va_P (eD E) vwCl ws T'.heap := by
      intro j q2 hq
      rw [e1]
      by_cases hA : va_A wc H.size q2.1
      · rcases hA with ⟨k2, e, hk2⟩ | hge
        · obtain ⟨i, -, hi2⟩ := fr_place hCw hk2
          have hji := hD.1 j i q2 (q2.1, e) hq hi2 rfl
          subst hji
          have hqe : q2 = (q2.1, e) := Option.some.inj (hq.symm.trans hi2)
          rw [hqe]
          exact hP1 k2 _ hk2
        · exact absurd (hP j q2 hq).lt (Nat.not_lt.mpr hge)
      · exact (hP j q2 hq).kept (hk9 q2.1 (hP j q2 hq).lt hA)
    have hS' : va_S (zA Z) (zs Z).heap T'.heap (locs ++ L) := fr_S hS (by rw [e1]; exact hz) (fun q a b => by rw [e1]; exact hk9 q a b) hF hL
    obtain ⟨t2, a1, b1⟩ := vx_catch (p := zp Z) (l := zl Z) (e := ze Z) (R := zR Z) (below := zb Z) (meth := zM Z) (locs := locs ++ L) (cells := k + mc') (slots := n + ms') (Q := zQ Z) (H := T'.heap) (pc := 4) (ls := ls) (rest := rest) (own := RL) (name := nsN) (E := nsN) (ce := ce) (q := q) X.ow [] ⟨0, 9, 12, 13⟩ [] (htab.trans rfl) (fun z hz => nomatch hz) rfl (by decide)
      (xv.2.2.2 _ List.mem_cons_self _) (xv.2.2.2 _ (List.mem_cons_of_mem _ (List.mem_cons_of_mem _ (List.mem_cons_of_mem _ ns_self))) _) (by rw [e1]; exact hce) hcv hcl (kk q T'.heap (locs ++ L) ls hP' hD hS' hl) T' rfl X'
    exact ⟨t2, st.trans a1, b1⟩
end XLED
section FRAMEX
variable {l : Launch} {E : Et} {y : MethodName} {cc : ByteArray} {nL : Nat} {ret : Option FieldType} {d mc ms : Nat} {av : List Value} {wc ws ws' : va_W}
theorem CtX.frame (h : CtX l E y cc nL ret d mc ms av wc) (isC : List Nat) (hn : va_nd isC = true) (hC : isC.map (fun i => ws[i]?) = wc.map some) : CtX l E y cc nL ret d mc ms av ws := by
  intro sz
  have hA := va_Aup (sz := sz) hC
  refine MetFree.mono (h sz) ?_ (fun _ _ _ _ _ z => z) ?_
  · rintro a s ⟨ha, ⟨hs, hb, hE, hP, hD⟩, hx⟩
    exact ⟨ha, ⟨hs, hb, hE, hP.sub isC (fm_of hC), hD.sub isC hn hC⟩, hx⟩
  · rintro a st o t ⟨ha, ⟨hs, hb, hE, hP, hD⟩, hx⟩ hq
    rcases hq with ⟨hf, -⟩ | ⟨q, ho, C, ce, L, ⟨hCn, hP1, hz, hk⟩, g1, g2, g3, g4, g5, g6⟩
    · exact hf.elim
    · refine Or.inr ⟨q, ho, C, ce, L, ⟨hCn, fun j q2 hq2 => ?_, hz, fun q a b => hk q a (fun c => b (hA q c))⟩, g1, g2, g3, g4, g5, fun z hz => hA _ (g6 z hz)⟩
      by_cases hA2 : va_A wc sz q2.1
      · rcases hA2 with ⟨k2, e, hk2⟩ | hge
        · obtain ⟨i, -, hi2⟩ := fr_place hC hk2
          have hji := hD.1 j i q2 (q2.1, e) hq2 hi2 rfl
          subst hji
          have hqe : q2 = (q2.1, e) := Option.some.inj (hq2.symm.trans hi2)
          rw [hqe]
          exact hP1 k2 _ hk2
        · exact absurd (hP j q2 hq2).lt (by rw [hs]; exact Nat.not_lt.mpr hge)
      · exact (hP j q2 hq2).kept (hk q2.1 (hP j q2 hq2).lt hA2)
theorem CtX.perm (hp : List.Perm ws ws') (h : CtX l E y cc nL ret d mc ms av ws) : CtX l E y cc nL ret d mc ms av ws' := by
  intro sz
  have hA := va_Aperm (sz := sz) hp
  refine MetFree.mono (h sz) ?_ (fun _ _ _ _ _ z => z) ?_
  · rintro a s ⟨ha, ⟨hs, hb, hE, hP, hD⟩, hx⟩
    refine ⟨ha, ⟨hs, hb, hE, fun i q hq => ?_, of_nd ((hp.symm.map Prod.fst).nodup_iff.mp (nd_of hD.1)), fun i q hq => ?_⟩, hx⟩
    · obtain ⟨j, hj⟩ := List.mem_iff_getElem?.mp (hp.mem_iff.mp (List.mem_of_getElem? hq))
      exact hP j q hj
    · obtain ⟨j, hj⟩ := List.mem_iff_getElem?.mp (hp.mem_iff.mp (List.mem_of_getElem? hq))
      exact hD.2 j q hj
  · rintro a st o t ⟨ha, ⟨hs, hb, hE, hP, hD⟩, hx⟩ hq
    rcases hq with ⟨hf, -⟩ | ⟨q, ho, C, ce, L, ⟨hCn, hP1, hz, hk⟩, g1, g2, g3, g4, g5, g6⟩
    · exact hf.elim
    · refine Or.inr ⟨q, ho, C, ce, L, ⟨hCn, fun j q2 hq2 => ?_, hz, fun q a b => hk q a (fun c => b (hA q c))⟩, g1, g2, g3, g4, g5, fun z hz => hA _ (g6 z hz)⟩
      obtain ⟨j2, hj2⟩ := List.mem_iff_getElem?.mp (hp.mem_iff.mpr (List.mem_of_getElem? hq2))
      exact hP1 j2 q2 hj2
end FRAMEX
