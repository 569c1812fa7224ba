set_option maxRecDepth 100000 in
set_option maxHeartbeats 4000000 in
theorem c_X8_bit (l : Launch) (E : Et) (a : Nat) (i : Nat) (ha : a < 2 ^ 31) (hi : i < 31) : Ct l E yX8_bit cX8_bit 2 (some .boolean) 0 0 0 [.int (nI a), .int (nI i)] [] (roI [] (nI (a.testBit i).toNat)) := by
  refine Ct.intro (by decide +kernel) (Nat.le_of_ble_eq_true rfl) (lv := [(0, .int (nI a)), (1, .int (nI i))]) rfl ?_
  intro Z X Y
  refine v_iload_n X dX8_bit_0 rfl 0 rfl ?_
  refine v_iload_n X dX8_bit_1 rfl 1 rfl ?_
  refine v_ishr X dX8_bit_2 ?_
  refine v_eqi (x' := nI (a / 2 ^ i)) (nI_shr (by omega) (by omega)) ?_
  refine v_iconst X dX8_bit_3 (v := nI 1) (by decide) ?_
  refine v_iand X dX8_bit_4 ?_
  refine v_eqi (x' := nI ((a / 2 ^ i) &&& 1)) (fa_and _ _) ?_
  refine v_eqi (x' := nI ((a.testBit i).toNat)) (congrArg nI (tb_and1 _ _)) ?_
  refine v_iconst X dX8_bit_5 (v := nI 1) (by decide) ?_
  refine v_icmpN_ne X dX8_bit_6 (tgt := 13) (by decide) (by cases (a.testBit i) <;> decide) (by decide) (fun h6 => ?_) (fun h6 => ?_)
  · refine v_iconst X dX8_bit_13 (v := nI 0) (by decide) ?_
    exact v_zret X Y dX8_bit_14 (by decide) (roI_of (by cases hq : a.testBit i <;> simp_all)) (by omega) (by omega)
  · refine v_iconst X dX8_bit_9 (v := nI 1) (by decide) ?_
    refine v_goto X dX8_bit_10 (tgt := 14) (by decide) ?_
    exact v_zret X Y dX8_bit_14 (by decide) (roI_of (by cases hq : a.testBit i <;> simp_all)) (by omega) (by omega)
set_option maxRecDepth 100000 in
set_option maxHeartbeats 4000000 in
theorem c_X8_in (l : Launch) (E : Et) (a : Int32) (lo : Int32) (hi : Int32)  : Ct l E yX8_in cX8_in 3 (some .boolean) 0 0 0 [.int a, .int lo, .int hi] [] (roI [] (nI (decide (lo ≤ a ∧ a ≤ hi)).toNat)) := by
  refine Ct.intro (by decide +kernel) (Nat.le_of_ble_eq_true rfl) (lv := [(0, .int a), (1, .int lo), (2, .int hi)]) rfl ?_
  intro Z X Y
  refine v_iload_n X dX8_in_0 rfl 0 rfl ?_
  refine v_iload_n X dX8_in_1 rfl 1 rfl ?_
  refine v_icmp_lt X dX8_in_2 (tgt := 14) (by decide) (fun h2 => ?_) (fun h2 => ?_)
  · refine v_iconst X dX8_in_14 (v := nI 0) (by decide) ?_
    exact v_zret X Y dX8_in_15 (by decide) (roI_of (bo0 (decide_eq_false (fun q => absurd q.1 (Int32.not_le.mpr h2))))) (by omega) (by omega)
  · refine v_iload_n X dX8_in_5 rfl 0 rfl ?_
    refine v_iload_n X dX8_in_6 rfl 2 rfl ?_
    refine v_icmp_gt X dX8_in_7 (tgt := 14) (by decide) (fun h7 => ?_) (fun h7 => ?_)
    · refine v_iconst X dX8_in_14 (v := nI 0) (by decide) ?_
      exact v_zret X Y dX8_in_15 (by decide) (roI_of (bo0 (decide_eq_false (fun q => absurd q.2 (Int32.not_le.mpr h7))))) (by omega) (by omega)
    · refine v_iconst X dX8_in_10 (v := nI 1) (by decide) ?_
      refine v_goto X dX8_in_11 (tgt := 15) (by decide) ?_
      exact v_zret X Y dX8_in_15 (by decide) (roI_of (bo1 (decide_eq_true ⟨Int32.not_lt.mp h2, Int32.not_lt.mp h7⟩))) (by omega) (by omega)
set_option maxRecDepth 100000 in
set_option maxHeartbeats 4000000 in
theorem c_X8_bits (l : Launch) (E : Et) (a : Nat) (ha : a < 256) : Ct l E yX8_bits cX8_bits 3 (some .int) 0 0 0 [.int (nI a)] [] (roI [] (nI (cnt (fun k => a.testBit k) 8))) := by
  refine Ct.intro (by decide +kernel) (Nat.le_of_ble_eq_true rfl) (lv := [(0, .int (nI a))]) rfl ?_
  intro Z X Y
  refine v_iconst X dX8_bits_0 (v := nI 0) (by decide) ?_
  refine v_istore_n X dX8_bits_1 rfl (by decide) (lv' := [(1, .int (nI 0)), (0, .int (nI a))]) rfl ?_
  refine v_iload_n X dX8_bits_2 rfl 1 rfl ?_
  refine v_istore_n X dX8_bits_3 rfl (by decide) (lv' := [(2, .int (nI a)), (1, .int (nI 0)), (0, .int (nI a))]) rfl ?_
  have L4 : ∀ (j4 : Nat) (vb : Nat) (vn : Nat), (vb < 256 ∧ vn + cnt (fun k => vb.testBit k) 8 = cnt (fun k => a.testBit k) 8) → vb < j4 → V E Z 4 [(0, .int (nI a)), (1, .int (nI vn)), (2, .int (nI vb))] [] [] 0 0 := by
    intro j4
    induction j4 with
    | zero => intro vb vn hI hM; exact absurd hM (Nat.not_lt_zero _)
    | succ j4 ih4 =>
      intro vb vn hI4 hM4
      obtain ⟨hc, hb⟩ := id hI4
      refine v_iload_n X dX8_bits_4 rfl 2 rfl ?_
      refine v_ifN_eq X dX8_bits_5 (tgt := 20) (by decide) (by omega) (fun h5 => ?_) (fun h5 => ?_)
      · refine v_iload_n X dX8_bits_20 rfl 1 rfl ?_
        exact v_iret X Y dX8_bits_21 (roI_of (by subst h5; rw [← hb, cnt8_0]; rfl)) (by omega) (by omega)
      · refine v_iinc X dX8_bits_8 1 rfl (v := nI (vn + 1)) (nI_inc vn) (by decide) (lv' := [(1, .int (nI (vn + 1))), (0, .int (nI a)), (2, .int (nI vb))]) rfl ?_
        refine v_iload_n X dX8_bits_11 rfl 2 rfl ?_
        refine v_iload_n X dX8_bits_12 rfl 2 rfl ?_
        refine v_iconst X dX8_bits_13 (v := nI 1) (by decide) ?_
        refine v_isub X dX8_bits_14 ?_
        refine v_eqi (x' := nI (vb - 1)) (pk_sub (by omega)) ?_
        refine v_iand X dX8_bits_15 ?_
        refine v_eqi (x' := nI (vb &&& (vb - 1))) (fa_and _ _) ?_
        refine v_istore_n X dX8_bits_16 rfl (by decide) (lv' := [(2, .int (nI (vb &&& (vb - 1)))), (1, .int (nI (vn + 1))), (0, .int (nI a))]) rfl ?_
        refine v_goto X dX8_bits_17 (tgt := 4) (by decide) ?_
        refine V.lvs [2, 1, 0] rfl ?_
        exact ih4 (vb &&& (vb - 1)) (vn + 1) (⟨Nat.lt_of_le_of_lt Nat.and_le_left hc, by have := low8 vb hc h5; omega⟩) (by have : vb &&& (vb - 1) ≤ vb - 1 := Nat.and_le_right; omega)
  refine V.lvs [2, 1, 0] rfl ?_
  exact L4 _ a 0 (⟨ha, Nat.zero_add _⟩) (Nat.lt_succ_self _)
