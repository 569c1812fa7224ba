/-! strings by place; references returned -/
section STRS
variable {E : Et} {l : Launch} {d mc ms : Nat} {Z : Zt} {cc : ByteArray} {nL : Nat} {y : MethodName} {ret : Option FieldType} {pc k n ix i : Nat} {lv : List (Nat × Value)} {rest : List Value} {ws : va_W}
theorem v_stV (X : Cx E l d mc ms Z cc nL y ret) (hi : i < 20) (hl0 : okIn (.fieldLink y.cls ix "java/lang/String" "value" "[B")) (h : decode cc pc = .ok (.getfield ix, 3)) (kk : V E Z (pc + 3) lv (.ref (eV E i) :: rest) ws k n) : V E Z pc lv (.ref (eK E i) :: rest) ws k n := fun H locs ls hP hD hS hl => vk_getf X.ex X.bb ((X.ev.2.2.1 i hi).2.2.1.narrow X.ab) hS X.ow (X.ev.w hl0) (fun _ z => z) h (kk H locs ls hP hD hS hl)
theorem v_stC (X : Cx E l d mc ms Z cc nL y ret) (hi : i < 20) (hl0 : okIn (.fieldLink y.cls ix "java/lang/String" "coder" "B")) (h : decode cc pc = .ok (.getfield ix, 3)) (kk : V E Z (pc + 3) lv (.int 0 :: rest) ws k n) : V E Z pc lv (.ref (eK E i) :: rest) ws k n := fun H locs ls hP hD hS hl => vk_getf X.ex X.bb ((X.ev.2.2.1 i hi).2.1.narrow X.ab) hS X.ow (X.ev.w hl0) (fun _ z => z) h (kk H locs ls hP hD hS hl)
theorem v_stL (X : Cx E l d mc ms Z cc nL y ret) (hi : i < 20) (h : decode cc pc = .ok (.arraylength, 1)) (kk : V E Z (pc + 1) lv (.int (nI (st_tx.getD i []).length) :: rest) ws k n) : V E Z pc lv (.ref (eV E i) :: rest) ws k n := fun H locs ls hP hD hS hl => va_tlen X.ex X.bb ((X.ev.2.2.1 i hi).2.2.2.narrow X.ab) hS rfl h (kk H locs ls hP hD hS hl)
theorem v_stB (X : Cx E l d mc ms Z cc nL y ret) (hi : i < 20) (h : decode cc pc = .ok (.baload, 1)) {j : Nat} (hj : j < (st_tx.getD i []).length) (hm : (st_tx.getD i []).length < 2 ^ 31) (kk : V E Z (pc + 1) lv (.int ((st_tx.getD i []).getD j 0) :: rest) ws k n) : V E Z pc lv (.int (nI j) :: .ref (eV E i) :: rest) ws k n := fun H locs ls hP hD hS hl => va_tb X.ex X.bb ((X.ev.2.2.1 i hi).2.2.2.narrow X.ab) hS (vp_in_nI hj hm) (by rw [nI_clamp (Nat.lt_trans hj hm)]) h (kk H locs ls hP hD hS hl)
theorem v_aret {C : String} (X : Cx E l d mc ms Z cc nL y (some (.object C))) {Po : Option Value → va_W → Prop} (Y : Rt E Z mc ms Po) {a : Nat} (h : decode cc pc = .ok (.areturn, 1)) (hp : Po (some (.ref a)) ws) (hk : k ≤ mc) (hn : n ≤ ms) : V E Z pc lv [.ref a] ws k n := by
  intro H locs ls hP hD hS hl
  obtain ⟨wc, eA, eQ⟩ := Y
  rw [eA] at hD hS
  refine W.widen hk hn ?_
  rw [eQ]
  exact W.aret X.ex X.bb X.rt (Or.inl ⟨_, rfl⟩) (Or.inr ⟨_, rfl⟩) (fun t ht hW => ⟨⟨_, ws, rfl, hp, by rw [ht]; exact hP, hD⟩, hS.F ht⟩) hS.2.2 h X.lk
/-- a callee on a string by its place -/
theorem rn_VO {y' : MethodName} {bytes : ByteArray} {maxL d' mc' ms' : Nat} {rt : Option FieldType} {As : List Value} {Po : Option Value → va_W → Prop} {wc : va_W} {st0 : List Value} (X : Cx E l d mc ms Z cc nL y ret) (K : kV RJ0 y' bytes maxL rt As.length) (hl0 : okIn (.methodLink y.cls ix y')) (h : decode cc pc = .ok (.invokevirtual ix, 3)) (hC : Ct l E y' bytes maxL rt d' mc' ms' (.ref (eK E i) :: As) wc Po) (hst : st0 = As.reverse ++ .ref (eK E i) :: rest)
    (hi : i < 20) (hd : d' < d) (hL : maxL ≤ 21) (hk : k + mc' ≤ mc) (hn : n + ms' ≤ ms) (hW : (rest.map fun v => v.category).sum ≤ 8) : Rn E Z k n mc' ms' pc st0 rest wc Po := by
  intro H locs ls hls hP hD hS
  obtain ⟨k1, k2, k3, k4, k5⟩ := K
  have hM := hC H.size
  rw [← X.ll] at hM
  have hR := fr_room (mc' := mc') (ms' := ms') X hd hL
  exact va_runV (cc := cc) (nL := zn Z) (Ts := []) (As := As) ⟨X.ex, X.bb, X.ml, X.ow, fun _ h => by cases h⟩ hM ⟨⟨rfl, rfl, hR.1, hR.2, X.ev.ww k3, List.mem_singleton.mpr rfl, X.ev.w k3, X.ev.w k4, k5.1, k5.len, X.ev.w hl0⟩, X.ev.w k1, X.ev.w k2⟩ ⟨fr_blind _ _ _, va_Orecv ((X.ev.2.2.1 i hi).1.narrow X.ab) hS, fr_pre X hP hD hS⟩ rfl rfl hls hst (lv_room hW) h ⟨by have := X.rm; omega, by have := X.rm; omega⟩
end STRS
def wrA (w' : va_W) (a : Nat) : Option Value → va_W → Prop := fun r w => w = w' ∧ r = some (.ref a)
theorem v_nret {E : Et} {l : Launch} {d mc ms : Nat} {Z : Zt} {cc : ByteArray} {nL : Nat} {y : MethodName} {pc k n : Nat} {lv : List (Nat × Value)} {ws : va_W} {ty : FieldType} {Po : Option Value → va_W → Prop} (X : Cx E l d mc ms Z cc nL y (some ty)) (Y : Rt E Z mc ms Po) {v : Int32} (h : decode cc pc = .ok (.ireturn, 1)) (hb : narrow ty (.int v) = .int v) (hp : Po (some (.int v)) ws) (hk : k ≤ mc) (hn : n ≤ ms) : V E Z pc lv [.int v] ws k n := by
  intro H locs ls hP hD hS hl
  obtain ⟨wc, eA, eQ⟩ := Y
  rw [eA] at hD hS
  refine W.widen hk hn ?_
  rw [eQ]
  exact W.zret X.ex X.bb X.rt hb (fun t ht hW => ⟨⟨_, ws, rfl, hp, by rw [ht]; exact hP, hD⟩, hS.F ht⟩) hS.2.2 h X.lk
theorem st_len : ∀ i, i < 20 → (st_tx.getD i []).length ≤ 8 := by decide +kernel
theorem wrA_of {w w' : va_W} {a : Nat} (h : w = w') : wrA w' a (some (.ref a)) w := ⟨h, rfl⟩
theorem v_wrA1 {E : Et} {l : Launch} {d mc ms : Nat} {Z : Zt} {cc : ByteArray} {nL : Nat} {y : MethodName} {ret : Option FieldType} {pc k n mc' ms' : Nat} {lv : List (Nat × Value)} {rest st0 : List Value} {ws wc w' ws' : va_W} (X : Cx E l d mc ms Z cc nL y ret) {a : Nat} (R : Rn E Z k n mc' ms' pc st0 rest wc (wrA w' a)) (isC : List Nat) (hn : va_nd isC = true) (hC : isC.map (fun i => ws[i]?) = wc.map some) (hf : w'.map Prod.fst = wc.map Prod.fst) (hw : wput ws isC w' = ws') (kk : V E Z (pc + 3) lv (.ref a :: rest) ws' (k + mc') (n + ms')) : V E Z pc lv st0 ws k n :=
  v_wr X R isC hn hC (fun r w1 h => by obtain ⟨rfl, rfl⟩ := h; exact ⟨hf, by rw [hw]; exact kk⟩)
/-! the pages of a city just read -/
noncomputable def stF (bl : Nat) (mc ic : Nat → Nat) : Nat → (Nat → Nat) × (Nat → Int32) := foldN (fun c x => (upN (blurN x.1 x.2 c (nI (mc c)) bl) c (ic c), upd x.2 c (nI (mc c)))) (fun _ => 0, fun _ => (-1))
theorem stF_s (bl : Nat) (mc ic : Nat → Nat) (c : Nat) : stF bl mc ic (c + 1) = (upN (blurN (stF bl mc ic c).1 (stF bl mc ic c).2 c (nI (mc c)) bl) c (ic c), upd (stF bl mc ic c).2 c (nI (mc c))) := rfl
theorem stF_le {bl : Nat} {mc ic : Nat → Nat} (h : ∀ c, ic c ≤ 40) : ∀ c k, (stF bl mc ic c).1 k ≤ 40
  | 0, _ => by show (0 : Nat) ≤ 40; decide
  | c + 1, k => by
    rw [stF_s]
    show upN _ c (ic c) k ≤ 40
    unfold upN
    split
    · exact h c
    · exact blurN_le (stF_le h c) k
