/-! things that are made -/
theorem nd_of {ws : va_W} (h : ∀ (i j : Nat) (x z : Nat × va_E), ws[i]? = some x → ws[j]? = some z → x.1 = z.1 → i = j) : (ws.map Prod.fst).Nodup := by
  unfold List.Nodup
  rw [List.pairwise_iff_getElem]
  intro i j hi hj hij e
  rw [List.length_map] at hi hj
  rw [List.getElem_map, List.getElem_map] at e
  have := h i j ws[i] ws[j] (List.getElem?_eq_getElem hi) (List.getElem?_eq_getElem hj) e
  omega
theorem of_nd {ws : va_W} (h : (ws.map Prod.fst).Nodup) : ∀ (i j : Nat) (x z : Nat × va_E), ws[i]? = some x → ws[j]? = some z → x.1 = z.1 → i = j := by
  unfold List.Nodup at h
  rw [List.pairwise_iff_getElem] at h
  intro i j x z hi hj e
  obtain ⟨hi1, hi2⟩ := List.getElem?_eq_some_iff.mp hi
  obtain ⟨hj1, hj2⟩ := List.getElem?_eq_some_iff.mp hj
  have hl : (ws.map Prod.fst).length = ws.length := List.length_map ..
  rcases Nat.lt_trichotomy i j with q | q | q
  · have := h i j (by omega) (by omega) q
    rw [List.getElem_map, List.getElem_map, hi2, hj2] at this
    exact absurd e this
  · exact q
  · have := h j i (by omega) (by omega) q
    rw [List.getElem_map, List.getElem_map, hi2, hj2] at this
    exact absurd e.symm this
theorem V_perm {E : Et} {Z : Zt} {pc k n : Nat} {lv : List (Nat × Value)} {st : List Value} {ws ws' : va_W} (hp : List.Perm ws ws') (h : V E Z pc lv st ws' k n) : V E Z pc lv st ws k n := by
  intro H locs ls hP hD hS hl
  refine h H locs ls (fun i q hq => ?_) ⟨of_nd ((hp.map Prod.fst).nodup_iff.mp (nd_of hD.1)), fun i q hq => ?_⟩ hS hl
  · obtain ⟨j, hj⟩ := List.mem_iff_getElem?.mp (hp.mem_iff.mpr (List.mem_of_getElem? hq))
    exact hP j q hj
  · obtain ⟨j, hj⟩ := List.mem_iff_getElem?.mp (hp.mem_iff.mpr (List.mem_of_getElem? hq))
    exact hD.2 j q hj
theorem pm1 (a b d : va_W) : List.Perm ((a ++ b) ++ d) ((a ++ d) ++ b) := by
  rw [List.append_assoc, List.append_assoc]
  exact List.Perm.append_left a List.perm_append_comm
theorem pm2 (a b c d : va_W) : List.Perm (((a ++ b) ++ c) ++ d) (((a ++ d) ++ b) ++ c) := (pm1 (a ++ b) c d).trans (List.Perm.append_right c (pm1 a b d))
theorem pm3 (a d b : va_W) : List.Perm ((a ++ d) ++ b) (d ++ (a ++ b)) := by
  rw [← List.append_assoc]
  exact List.Perm.append_right b List.perm_append_comm
theorem pm4 (a d b c : va_W) : List.Perm (((a ++ d) ++ b) ++ c) (d ++ ((a ++ b) ++ c)) := by
  have := List.Perm.append_right c (pm3 a d b)
  rwa [List.append_assoc d] at this
theorem sf_get (wc wr : va_W) : (List.range' wc.length wr.length).map (fun i => (wc ++ wr)[i]?) = wr.map some := by
  refine List.ext_getElem (by simp) (fun k h1 h2 => ?_)
  simp at h1
  simp [List.getElem_range', List.getElem?_append_right, h1]
section MAKE
variable {E : Et} {l : Launch} {d mc ms : Nat} {Z : Zt} {cc : ByteArray} {nL : Nat} {y : MethodName} {ret : Option FieldType} {pc k n mc' ms' : Nat} {lv : List (Nat × Value)} {rest st0 : List Value} {ws wc wr : va_W} {Po : Option Value → va_W → Prop}
theorem v_nwP (X : Cx E l d mc ms Z cc nL y ret) (R : Rn E Z k n mc' ms' pc st0 rest wc Po) (hws : ws = wc ++ wr) (kk : ∀ r w1, Po r w1 → V E Z (pc + 3) lv (r.toList ++ rest) (wr ++ w1) (k + mc') (n + ms')) : V E Z pc lv st0 ws k n := by
  subst hws
  refine v_nw X R (List.range' 0 wc.length) (List.range' wc.length wr.length) (nd_rg _ _) (pf_get wc wr) (sf_get wc wr) (nd_rg _ _) ?_ kk
  intro i h1 h2
  rw [List.mem_range'_1] at h1 h2
  omega
theorem V_kn {k' n' : Nat} {st : List Value} (hk : k = k') (hn : n = n') (h : V E Z pc lv st ws k' n') : V E Z pc lv st ws k n := by
  subst hk
  subst hn
  exact h
theorem v_newq (X : Cx E l d mc ms Z cc nL y ret) {ix : Nat} (hc : okIn (.classLink y.cls ix "CheekClause$Page")) (h : decode cc pc = .ok (.anewarray ix, 3)) {m : Nat} (hm : m < 2 ^ 20) (hk : k + 1 ≤ mc) (hn : n + m ≤ ms) (kk : ∀ q : Nat, V E Z (pc + 3) lv (.ref q :: rest) (ws ++ [(q, .inl (eC E 4, m, .inr (.inr (.inr (.inr (fun _ => none))))))]) (k + 1) (n + m)) : V E Z pc lv (.int (nI m) :: rest) ws k n := by
  intro H locs ls hP hD hS hl
  have hr := X.rm
  have hm31 : m < 2 ^ 31 := Nat.lt_trans hm (by decide)
  refine va_newq X.ex X.bb X.ow (X.ev.w hc) X.ev.2.2.2.2.2.2.2.1 X.kk hP hD hS X.hA (nI_pos hm31) (nI_clamp hm31) (by have : m < 1048576 := hm; omega) (by omega) (by omega) h ?_
  intro q cA H1 hK1 hP1 hD1 hS1
  have e := fr_arr (t0 := 4) hK1 rfl
  subst e
  exact kk q H1 locs ls hP1 hD1 hS1 hl
theorem v_aast (X : Cx E l d mc ms Z cc nL y ret) (h : decode cc pc = .ok (.aastore, 1)) (q0 qk : Nat) {a m v : Nat} {vs : List Value} {f : Nat → Option Nat} (he : ws[q0]? = some (a, .inl (eC E 4, m, .inr (.inr (.inr (.inr f)))))) (hv : ws[qk]? = some (v, .inr (2, vs))) {i : Nat} (hi : i < m) (hm : m < 2 ^ 31) {ws' : va_W} (hw : ws.set q0 (a, .inl (eC E 4, m, .inr (.inr (.inr (.inr (va_up f i (some v))))))) = ws') (kk : V E Z (pc + 1) lv rest ws' k n) : V E Z pc lv (.ref v :: .int (nI i) :: .ref a :: rest) ws k n := by
  subst hw
  intro H locs ls hP hD hS hl
  refine va_astq X.ex X.bb X.kk hP hD hS q0 4 qk 2 he rfl hv kcX2.1 (vp_in_nI hi hm) h ?_
  rw [nI_clamp (Nat.lt_trans hi hm)]
  exact fun H1 locs1 hP1 hD1 hS1 => kk H1 locs1 ls hP1 hD1 hS1 hl
end MAKE
