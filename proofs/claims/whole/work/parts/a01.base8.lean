/-! contracts over a larger world -/
theorem fm_of {ws wc : va_W} {isC : List Nat} (hC : isC.map (fun i => ws[i]?) = wc.map some) : isC.filterMap (fun i => ws[i]?) = wc := by
  have h1 : (isC.map (fun i => ws[i]?)).filterMap id = (wc.map some).filterMap id := by rw [hC]
  rw [List.filterMap_map, List.filterMap_map] at h1
  simpa using h1
theorem va_Aup {ws wc : va_W} {isC : List Nat} {sz : Nat} (hC : isC.map (fun i => ws[i]?) = wc.map some) : ∀ q, va_A wc sz q → va_A ws sz q := by
  intro q hq
  rcases hq with ⟨k2, e, hk2⟩ | hge
  · obtain ⟨i, -, hi2⟩ := fr_place hC hk2
    exact Or.inl ⟨i, e, hi2⟩
  · exact Or.inr hge
section FRAMEC
variable {l : Launch} {E : Et} {y : MethodName} {cc : ByteArray} {nL : Nat} {ret : Option FieldType} {d mc ms : Nat} {av : List Value} {wc ws ws' wr : va_W} {Po Po' : Option Value → va_W → Prop}
theorem Ct.frame (h : Ct l E y cc nL ret d mc ms av wc Po) (isC : List Nat) (hn : va_nd isC = true) (hC : isC.map (fun i => ws[i]?) = wc.map some) (kk : ∀ r w1, Po r w1 → w1.map Prod.fst = wc.map Prod.fst ∧ Po' r (wput ws isC w1)) : Ct l E y cc nL ret d mc ms av ws Po' := by
  intro sz
  have hA := va_Aup (sz := sz) hC
  refine MetFree.mono (h sz) ?_ (fun _ _ _ _ _ z => z) ?_
  · rintro a s ⟨ha, hs, hb, hE, hP, hD⟩
    exact ⟨ha, hs, hb, hE, hP.sub isC (fm_of hC), hD.sub isC hn hC⟩
  · rintro a st o t ⟨ha, hs, hb, hE, hP, hD⟩ ⟨⟨⟨r, w1, h1, h2, h3, h4⟩, hz, hk⟩, L, h6, h7⟩
    obtain ⟨hfst, kk⟩ := kk r w1 h2
    have hlen : isC.length = w1.length := by
      have q1 := congrArg List.length hC
      have q2 := congrArg List.length hfst
      simp at q1 q2
      omega
    have key : ∀ (j : Nat) (q : Nat × va_E), (wput ws isC w1)[j]? = some q → ∃ q0, ws[j]? = some q0 ∧ q0.1 = q.1 := by
      intro j q hq
      rcases wput_get isC w1 ws j q hlen hn hq with ⟨k2, g1, g2⟩ | ⟨g1, g2⟩
      · have g3 : (w1.map Prod.fst)[k2]? = some q.1 := by rw [List.getElem?_map, g2]; rfl
        rw [hfst, List.getElem?_map] at g3
        cases hw : wc[k2]? with
        | none => rw [hw] at g3; cases g3
        | some q0 =>
          rw [hw] at g3
          obtain ⟨i, hi1, hi2⟩ := fr_place hC hw
          cases hi1.symm.trans g1
          exact ⟨q0, hi2, Option.some.inj g3⟩
      · exact ⟨q, g2, rfl⟩
    refine ⟨⟨⟨r, wput ws isC w1, h1, kk, fun j q hq => ?_, fun i j x z hi hj hxz => ?_, fun j q hq => ?_⟩, hz, fun q a b => hk q a (fun c => b (hA q c))⟩, L, h6, fun q hq => hA _ (h7 q hq)⟩
    · rcases wput_get isC w1 ws j q hlen hn hq with ⟨k2, g1, g2⟩ | ⟨g1, g2⟩
      · exact h3 k2 _ g2
      · refine (hP j q g2).kept (hk q.1 (hP j q g2).lt (fun hAq => ?_))
        rcases hAq with ⟨k2, e, hk2⟩ | hge
        · obtain ⟨i, hi1, hi2⟩ := fr_place hC hk2
          have hji := hD.1 j i q (q.1, e) g2 hi2 rfl
          subst hji
          exact g1 (List.mem_of_getElem? hi1)
        · have := (hP j q g2).lt
          omega
    · obtain ⟨x0, g1, g2⟩ := key i x hi
      obtain ⟨z0, g3, g4⟩ := key j z hj
      exact hD.1 i j x0 z0 g1 g3 (g2.trans (hxz.trans g4.symm))
    · obtain ⟨q0, g1, g2⟩ := key j q hq
      rw [← g2]
      exact va_A.in g1
theorem Ct.frameN (h : Ct l E y cc nL ret d mc ms av wc Po) (kk : ∀ r w1, Po r w1 → Po' r (wr ++ w1)) : Ct l E y cc nL ret d mc ms av (wc ++ wr) Po' := by
  intro sz
  have hC := pf_get wc wr
  have hA := va_Aup (sz := sz) hC
  refine MetFree.mono (h sz) ?_ (fun _ _ _ _ _ z => z) ?_
  · rintro a s ⟨ha, hs, hb, hE, hP, hD⟩
    exact ⟨ha, hs, hb, hE, hP.sub _ (fm_of hC), hD.sub _ (nd_rg _ _) hC⟩
  · rintro a st o t ⟨ha, hs, hb, hE, hP, hD⟩ ⟨⟨⟨r, w1, h1, h2, h3, h4⟩, hz, hk⟩, L, h6, h7⟩
    have hdis : ∀ i ∈ List.range' wc.length wr.length, i ∉ List.range' 0 wc.length := by
      intro i g1 g2
      rw [List.mem_range'_1] at g1 g2
      omega
    have hj := va_join (A0 := va_A (wc ++ wr) sz) (w1 := w1) (H1 := t.heap) hP hD.self (List.range' 0 wc.length) (List.range' wc.length wr.length) hC (sf_get wc wr) (nd_rg _ _) hdis (fun q a b => hk q a (by rw [← hs]; exact b)) (by rw [hs]; exact hA) h3 (by rw [hs]; exact h4)
    exact ⟨⟨⟨r, wr ++ w1, h1, kk r w1 h2, hj.1, hj.2⟩, hz, fun q a b => hk q a (fun c => b (hA q c))⟩, L, h6, fun q hq => hA _ (h7 q hq)⟩
theorem va_Aperm {sz : Nat} (hp : List.Perm ws ws') : ∀ q, va_A ws sz q → va_A ws' sz q := by
  intro q hq
  rcases hq with ⟨k2, e, hk2⟩ | hge
  · obtain ⟨j, hj⟩ := List.mem_iff_getElem?.mp (hp.mem_iff.mp (List.mem_of_getElem? hk2))
    exact Or.inl ⟨j, e, hj⟩
  · exact Or.inr hge
theorem Ct.perm (hp : List.Perm ws ws') (h : Ct l E y cc nL ret d mc ms av ws Po) : Ct l E y cc nL ret d mc ms av ws' Po := by
  intro sz
  have hA := va_Aperm (sz := sz) hp
  refine MetFree.mono (h sz) ?_ (fun _ _ _ _ _ z => z) ?_
  · rintro a s ⟨ha, hs, hb, hE, hP, hD⟩
    refine ⟨ha, hs, hb, hE, fun i q hq => ?_, of_nd ((hp.symm.map Prod.fst).nodup_iff.mp (nd_of hD.1)), fun i q hq => ?_⟩
    · obtain ⟨j, hj⟩ := List.mem_iff_getElem?.mp (hp.mem_iff.mp (List.mem_of_getElem? hq))
      exact hP j q hj
    · obtain ⟨j, hj⟩ := List.mem_iff_getElem?.mp (hp.mem_iff.mp (List.mem_of_getElem? hq))
      exact hD.2 j q hj
  · rintro a st o t ⟨ha, hs, hb, hE, hP, hD⟩ ⟨⟨⟨r, w1, h1, h2, h3, h4⟩, hz, hk⟩, L, h6, h7⟩
    exact ⟨⟨⟨r, w1, h1, h2, h3, h4.1, fun j q hq => hA _ (h4.2 j q hq)⟩, hz, fun q a b => hk q a (fun c => b (hA q c))⟩, L, h6, fun q hq => hA _ (h7 q hq)⟩
end FRAMEC
