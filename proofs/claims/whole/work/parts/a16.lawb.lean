/-! the law: rows of the script, what both are called with -/
def SC (Z : Zt) (b L : Nat) (xs : Nat → Int32) : Prop := va_X b L xs (zs Z) (zs Z).heap ∧ b < (zs Z).heap.size ∧ ¬ zA Z b
section LAWR
variable {E : Et} {l : Launch} {d mc ms : Nat} {Z : Zt} {cc : ByteArray} {nL : Nat} {y : MethodName} {ret : Option FieldType} {pc k n : Nat} {lv : List (Nat × Value)} {rest : List Value} {ws : va_W} {b L : Nat} {xs : Nat → Int32}
theorem v_sld (X : Cx E l d mc ms Z cc nL y ret) (S : SC Z b L xs) (h : decode cc pc = .ok (.iaload, 1)) {j : Nat} (hj : j < L) (hL : L < 2 ^ 31) (kk : V E Z (pc + 1) lv (.int (xs j) :: rest) ws k n) : V E Z pc lv (.int (nI j) :: .ref b :: rest) ws k n := fun H locs ls hP hD hS hl => va_sld X.ex X.bb S.1 S.2.1 S.2.2 hS (vp_in_nI hj hL) h (by rw [nI_clamp (Nat.lt_trans hj hL)]; exact kk H locs ls hP hD hS hl)
theorem v_slen (X : Cx E l d mc ms Z cc nL y ret) (S : SC Z b L xs) (h : decode cc pc = .ok (.arraylength, 1)) (kk : V E Z (pc + 1) lv (.int (nI L) :: rest) ws k n) : V E Z pc lv (.ref b :: rest) ws k n := fun H locs ls hP hD hS hl => va_slen X.ex X.bb S.1 S.2.1 S.2.2 hS h (kk H locs ls hP hD hS hl)
theorem v_b01 (X : Cx E l d mc ms Z cc nL y ret) (h1 : decode cc pc = .ok (.ifCond .eq 7, 3)) (h2 : decode cc (pc + 3) = .ok (.iconst 1, 1)) (h3 : decode cc (pc + 4) = .ok (.goto 4, 3)) (h4 : decode cc (pc + 7) = .ok (.iconst 0, 1)) {x : Int32} (kk : V E Z (pc + 8) lv (.int (nI (decide (¬ x = 0)).toNat) :: rest) ws k n) : V E Z pc lv (.int x :: rest) ws k n := by
  refine v_if_eq X h1 (tgt := pc + 7) (by omega) (fun h => ?_) (fun h => ?_)
  · refine v_iconst X h4 (v := nI 0) (by decide) ?_
    have e : decide (¬ x = 0) = false := decide_eq_false (fun z => z h)
    rw [e] at kk
    exact kk
  · refine v_iconst X h2 (v := nI 1) (by decide) ?_
    refine v_goto X h3 (tgt := pc + 8) (by omega) ?_
    have e : decide (¬ x = 0) = true := decide_eq_true h
    rw [e] at kk
    exact kk
theorem V_wid {k' n' : Nat} {st : List Value} (hk : k ≤ k') (hn : n ≤ n') (h : V E Z pc lv st ws k' n') : V E Z pc lv st ws k n := fun H locs ls hP hD hS hl => W.widen hk hn (h H locs ls hP hD hS hl)
end LAWR
theorem pmz (o w w' : va_W) : List.Perm ((o ++ w) ++ w') (w ++ (w' ++ o)) := by
  rw [List.append_assoc, ← List.append_assoc w w' o]
  exact List.perm_append_comm
theorem iv6 {E : Et} {x k : Nat} {w6 w8 : va_W} (h : INV E x k w6 w8) : ∃ (j : Nat) (fs : List Value), w6[j]? = some (ob x 6 fs) := by
  rcases h with ⟨u6, u8, hp, -⟩ | ⟨u6, u8, hp, -⟩
  · obtain ⟨j, hj⟩ := List.mem_iff_getElem?.mp (hp.mem_iff.mpr (List.mem_of_getElem? (i := 0) rfl))
    exact ⟨j, _, hj⟩
  · obtain ⟨j, hj⟩ := List.mem_iff_getElem?.mp (hp.mem_iff.mpr (List.mem_of_getElem? (i := 0) rfl))
    exact ⟨j, _, hj⟩
theorem iv8 {E : Et} {x k : Nat} {w6 w8 : va_W} (h : INV E x k w6 w8) : ∃ (j : Nat) (fs : List Value), w8[j]? = some (ob k 8 fs) := by
  rcases h with ⟨u6, u8, -, hp, -⟩ | ⟨u6, u8, -, hp, -⟩
  · obtain ⟨j, hj⟩ := List.mem_iff_getElem?.mp (hp.mem_iff.mpr (List.mem_of_getElem? (i := 0) rfl))
    exact ⟨j, _, hj⟩
  · obtain ⟨j, hj⟩ := List.mem_iff_getElem?.mp (hp.mem_iff.mpr (List.mem_of_getElem? (i := 0) rfl))
    exact ⟨j, _, hj⟩
