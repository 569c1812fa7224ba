set_option maxRecDepth 100000 in
set_option maxHeartbeats 4000000 in
theorem c_X6_ways (l : Launch) (E : Et) (x : Nat) (xa : Nat → Nat) (g : Nat) (tr : Nat) (fl : Nat) (pl : Int32) (cy : Nat → Nat) (ca : Nat → Nat) (Fs : Nat → Nat) (Ft : Nat → Nat) (hi : Nat) (hm : Nat) (t : Nat) (dd : Nat) (ink : Nat → Nat) (mn : Nat → Int32) (m : Int32) (hd : cy 4 ≤ 6) (hcl : cy 5 ≤ 8) (hmen : cy 3 ≤ 4) (ht : t < 256) (hink : ∀ c, ink c ≤ 40) : Ct l E yX6_ways cX6_ways 2 (some .int) 6 0 0 [.ref x, .int m] [ob x 6 [.ref (xa 0), .ref g, .ref (xa 2), .ref (xa 3), .ref (xa 4), .ref (xa 5), .ref (xa 6), .ref (xa 7), .int (nI tr), .int (nI fl), .int pl], ob g 0 [.int (nI (cy 0)), .int (nI (cy 1)), .int (nI (cy 2)), .int (nI (cy 3)), .int (nI (cy 4)), .int (nI (cy 5)), .int (nI (cy 6)), .int (nI (cy 7)), .ref (ca 0), .ref (ca 1), .ref (ca 2), .ref (ca 3), .ref (ca 4), .ref (ca 5), .ref (ca 6), .ref (ca 7), .ref (ca 8), .ref (ca 9), .ref (ca 10), .ref (ca 11)], aM E (ca 5) 8 Fs, aM E (ca 6) 8 Ft, ob (xa 3) 2 [.ref hi, .ref hm, .int (nI t), .int (nI dd)], aN E hi 8 ink, aI E hm 8 mn] (wrI [ob x 6 [.ref (xa 0), .ref g, .ref (xa 2), .ref (xa 3), .ref (xa 4), .ref (xa 5), .ref (xa 6), .ref (xa 7), .int (nI (if okM m (cy 3) then 0 else 1)), .int (nI fl), .int pl], ob g 0 [.int (nI (cy 0)), .int (nI (cy 1)), .int (nI (cy 2)), .int (nI (cy 3)), .int (nI (cy 4)), .int (nI (cy 5)), .int (nI (cy 6)), .int (nI (cy 7)), .ref (ca 0), .ref (ca 1), .ref (ca 2), .ref (ca 3), .ref (ca 4), .ref (ca 5), .ref (ca 6), .ref (ca 7), .ref (ca 8), .ref (ca 9), .ref (ca 10), .ref (ca 11)], aM E (ca 5) 8 Fs, aM E (ca 6) 8 Ft, ob (xa 3) 2 [.ref hi, .ref hm, .int (nI t), .int (nI dd)], aN E hi 8 ink, aI E hm 8 mn] (if okM m (cy 3) then nI (pop64 (kpN cy Fs Ft t (bdN ink mn m 0))) else (-1))) := by
  refine Ct.intro (by decide +kernel) (Nat.le_of_ble_eq_true rfl) (lv := [(0, .ref x), (1, .int m)]) rfl ?_
  intro Z X Y
  refine v_aload_n X dX6_ways_0 rfl 0 rfl ?_
  refine v_iload_n X dX6_ways_1 rfl 1 rfl ?_
  refine v_roI1 X (rn_V X k_X6_isMan ml_X6_117 dX6_ways_2 (c_X6_isMan l E x xa g tr fl pl cy ca m ) rfl 0 rfl rfl (by decide) (by decide) (by omega) (by omega) (Nat.le_of_ble_eq_true rfl)) [0, 1] rfl rfl ?_
  refine v_ifB_ne X dX6_ways_5 (tgt := 14) (by decide) (fun h5 => ?_) (fun h5 => ?_)
  · refine v_aload_n X dX6_ways_14 rfl 0 rfl ?_
    refine v_aload_n X dX6_ways_15 rfl 0 rfl ?_
    refine v_iload_n X dX6_ways_16 rfl 1 rfl ?_
    refine v_roL1 X (rn_V X k_X6_waysOf ml_X6_141 dX6_ways_17 (c_X6_waysOf l E x xa g tr fl pl cy ca Fs Ft hi hm t dd ink mn m (by first | assumption | omega) (by first | assumption | omega) (by first | assumption | omega) (by first | assumption | omega)) rfl 0 rfl rfl (by decide) (by decide) (by omega) (by omega) (Nat.le_of_ble_eq_true rfl)) [0, 1, 2, 3, 4, 5, 6] rfl rfl ?_
    refine v_roI1 X (rn_S X k_J13_bitCount_95d88 ml_X6_144 dX6_ways_20 (c_J13_bitCount_95d88 l E (kpN cy Fs Ft t (bdN ink mn m 0)) (kpN_lt hd _ _ _ _)) rfl (by decide) (by decide) (by omega) (by omega) (Nat.le_of_ble_eq_true rfl)) [] rfl rfl ?_
    refine v_wrI1 X (rn_V X k_X6_answered ml_X6_92 dX6_ways_23 (c_X6_answered l E x xa g tr fl pl (nI (cnt (fun k => (kpN cy Fs Ft t (bdN ink mn m 0)).testBit k) 64)) ) rfl 0 rfl rfl (by decide) (by decide) (by omega) (by omega) (Nat.le_of_ble_eq_true rfl)) [0] rfl rfl (ws' := [ob x 6 [.ref (xa 0), .ref g, .ref (xa 2), .ref (xa 3), .ref (xa 4), .ref (xa 5), .ref (xa 6), .ref (xa 7), .int (nI 0), .int (nI fl), .int pl], ob g 0 [.int (nI (cy 0)), .int (nI (cy 1)), .int (nI (cy 2)), .int (nI (cy 3)), .int (nI (cy 4)), .int (nI (cy 5)), .int (nI (cy 6)), .int (nI (cy 7)), .ref (ca 0), .ref (ca 1), .ref (ca 2), .ref (ca 3), .ref (ca 4), .ref (ca 5), .ref (ca 6), .ref (ca 7), .ref (ca 8), .ref (ca 9), .ref (ca 10), .ref (ca 11)], aM E (ca 5) 8 Fs, aM E (ca 6) 8 Ft, ob (xa 3) 2 [.ref hi, .ref hm, .int (nI t), .int (nI dd)], aN E hi 8 ink, aI E hm 8 mn]) rfl rfl ?_
    exact v_iret X Y dX6_ways_26 (wrI_of (by rw [if_pos (of_decide_eq_true h5)]) ((if_pos (of_decide_eq_true h5)).symm)) (by omega) (by omega)
  · refine v_aload_n X dX6_ways_8 rfl 0 rfl ?_
    refine v_iconst X dX6_ways_9 (v := nI 1) (by decide) ?_
    refine v_wrI1 X (rn_V X k_X6_refused ml_X6_74 dX6_ways_10 (c_X6_refused l E x xa g tr fl pl 1 ) rfl 0 rfl rfl (by decide) (by decide) (by omega) (by omega) (Nat.le_of_ble_eq_true rfl)) [0] rfl rfl (ws' := [ob x 6 [.ref (xa 0), .ref g, .ref (xa 2), .ref (xa 3), .ref (xa 4), .ref (xa 5), .ref (xa 6), .ref (xa 7), .int (nI 1), .int (nI fl), .int pl], ob g 0 [.int (nI (cy 0)), .int (nI (cy 1)), .int (nI (cy 2)), .int (nI (cy 3)), .int (nI (cy 4)), .int (nI (cy 5)), .int (nI (cy 6)), .int (nI (cy 7)), .ref (ca 0), .ref (ca 1), .ref (ca 2), .ref (ca 3), .ref (ca 4), .ref (ca 5), .ref (ca 6), .ref (ca 7), .ref (ca 8), .ref (ca 9), .ref (ca 10), .ref (ca 11)], aM E (ca 5) 8 Fs, aM E (ca 6) 8 Ft, ob (xa 3) 2 [.ref hi, .ref hm, .int (nI t), .int (nI dd)], aN E hi 8 ink, aI E hm 8 mn]) rfl rfl ?_
    exact v_iret X Y dX6_ways_13 (wrI_of (by rw [if_neg (of_decide_eq_false h5)]) ((if_neg (of_decide_eq_false h5)).symm)) (by omega) (by omega)
set_option maxRecDepth 100000 in
set_option maxHeartbeats 4000000 in
theorem c_X6_can (l : Launch) (E : Et) (x : Nat) (xa : Nat → Nat) (g : Nat) (tr : Nat) (fl : Nat) (pl : Int32) (cy : Nat → Nat) (ca : Nat → Nat) (Fs : Nat → Nat) (Ft : Nat → Nat) (hi : Nat) (hm : Nat) (t : Nat) (dd : Nat) (ink : Nat → Nat) (mn : Nat → Int32) (m : Int32) (hd : cy 4 ≤ 6) (hcl : cy 5 ≤ 8) (hmen : cy 3 ≤ 4) (ht : t < 256) (hink : ∀ c, ink c ≤ 40) : Ct l E yX6_can cX6_can 2 (some .int) 6 0 0 [.ref x, .int m] [ob x 6 [.ref (xa 0), .ref g, .ref (xa 2), .ref (xa 3), .ref (xa 4), .ref (xa 5), .ref (xa 6), .ref (xa 7), .int (nI tr), .int (nI fl), .int pl], ob g 0 [.int (nI (cy 0)), .int (nI (cy 1)), .int (nI (cy 2)), .int (nI (cy 3)), .int (nI (cy 4)), .int (nI (cy 5)), .int (nI (cy 6)), .int (nI (cy 7)), .ref (ca 0), .ref (ca 1), .ref (ca 2), .ref (ca 3), .ref (ca 4), .ref (ca 5), .ref (ca 6), .ref (ca 7), .ref (ca 8), .ref (ca 9), .ref (ca 10), .ref (ca 11)], aM E (ca 5) 8 Fs, aM E (ca 6) 8 Ft, ob (xa 3) 2 [.ref hi, .ref hm, .int (nI t), .int (nI dd)], aN E hi 8 ink, aI E hm 8 mn] (wrI [ob x 6 [.ref (xa 0), .ref g, .ref (xa 2), .ref (xa 3), .ref (xa 4), .ref (xa 5), .ref (xa 6), .ref (xa 7), .int (nI (if okM m (cy 3) then 0 else 1)), .int (nI fl), .int pl], ob g 0 [.int (nI (cy 0)), .int (nI (cy 1)), .int (nI (cy 2)), .int (nI (cy 3)), .int (nI (cy 4)), .int (nI (cy 5)), .int (nI (cy 6)), .int (nI (cy 7)), .ref (ca 0), .ref (ca 1), .ref (ca 2), .ref (ca 3), .ref (ca 4), .ref (ca 5), .ref (ca 6), .ref (ca 7), .ref (ca 8), .ref (ca 9), .ref (ca 10), .ref (ca 11)], aM E (ca 5) 8 Fs, aM E (ca 6) 8 Ft, ob (xa 3) 2 [.ref hi, .ref hm, .int (nI t), .int (nI dd)], aN E hi 8 ink, aI E hm 8 mn] (if okM m (cy 3) then nI (bbits (fun d => decide (¬ kpN cy Fs Ft t (bdN ink mn m 0) &&& swI (nI d) = 0)) (cy 4)) else (-1))) := by
  refine Ct.intro (by decide +kernel) (Nat.le_of_ble_eq_true rfl) (lv := [(0, .ref x), (1, .int m)]) rfl ?_
  intro Z X Y
  refine v_aload_n X dX6_can_0 rfl 0 rfl ?_
  refine v_iload_n X dX6_can_1 rfl 1 rfl ?_
  refine v_roI1 X (rn_V X k_X6_isMan ml_X6_117 dX6_can_2 (c_X6_isMan l E x xa g tr fl pl cy ca m ) rfl 0 rfl rfl (by decide) (by decide) (by omega) (by omega) (Nat.le_of_ble_eq_true rfl)) [0, 1] rfl rfl ?_
  refine v_ifB_ne X dX6_can_5 (tgt := 14) (by decide) (fun h5 => ?_) (fun h5 => ?_)
  · refine v_aload_n X dX6_can_14 rfl 0 rfl ?_
    refine v_aload_n X dX6_can_15 rfl 0 rfl ?_
    refine v_aload_n X dX6_can_16 rfl 0 rfl ?_
    refine v_iload_n X dX6_can_17 rfl 1 rfl ?_
    refine v_roL1 X (rn_V X k_X6_waysOf ml_X6_141 dX6_can_18 (c_X6_waysOf l E x xa g tr fl pl cy ca Fs Ft hi hm t dd ink mn m (by first | assumption | omega) (by first | assumption | omega) (by first | assumption | omega) (by first | assumption | omega)) rfl 0 rfl rfl (by decide) (by decide) (by omega) (by omega) (Nat.le_of_ble_eq_true rfl)) [0, 1, 2, 3, 4, 5, 6] rfl rfl ?_
    refine v_roI1 X (rn_V X k_X6_deedsInSome ml_X6_154 dX6_can_21 (c_X6_deedsInSome l E x xa g tr fl pl cy ca (kpN cy Fs Ft t (bdN ink mn m 0)) (by first | assumption | omega) (kpN_lt hd _ _ _ _)) rfl 0 rfl rfl (by decide) (by decide) (by omega) (by omega) (Nat.le_of_ble_eq_true rfl)) [0, 1] rfl rfl ?_
    refine v_wrI1 X (rn_V X k_X6_answered ml_X6_92 dX6_can_24 (c_X6_answered l E x xa g tr fl pl (nI (bbits (fun d => decide (¬ (kpN cy Fs Ft t (bdN ink mn m 0)) &&& swI (nI d) = 0)) (cy 4))) ) rfl 0 rfl rfl (by decide) (by decide) (by omega) (by omega) (Nat.le_of_ble_eq_true rfl)) [0] rfl rfl (ws' := [ob x 6 [.ref (xa 0), .ref g, .ref (xa 2), .ref (xa 3), .ref (xa 4), .ref (xa 5), .ref (xa 6), .ref (xa 7), .int (nI 0), .int (nI fl), .int pl], ob g 0 [.int (nI (cy 0)), .int (nI (cy 1)), .int (nI (cy 2)), .int (nI (cy 3)), .int (nI (cy 4)), .int (nI (cy 5)), .int (nI (cy 6)), .int (nI (cy 7)), .ref (ca 0), .ref (ca 1), .ref (ca 2), .ref (ca 3), .ref (ca 4), .ref (ca 5), .ref (ca 6), .ref (ca 7), .ref (ca 8), .ref (ca 9), .ref (ca 10), .ref (ca 11)], aM E (ca 5) 8 Fs, aM E (ca 6) 8 Ft, ob (xa 3) 2 [.ref hi, .ref hm, .int (nI t), .int (nI dd)], aN E hi 8 ink, aI E hm 8 mn]) rfl rfl ?_
    exact v_iret X Y dX6_can_27 (wrI_of (by rw [if_pos (of_decide_eq_true h5)]) ((if_pos (of_decide_eq_true h5)).symm)) (by omega) (by omega)
  · refine v_aload_n X dX6_can_8 rfl 0 rfl ?_
    refine v_iconst X dX6_can_9 (v := nI 1) (by decide) ?_
    refine v_wrI1 X (rn_V X k_X6_refused ml_X6_74 dX6_can_10 (c_X6_refused l E x xa g tr fl pl 1 ) rfl 0 rfl rfl (by decide) (by decide) (by omega) (by omega) (Nat.le_of_ble_eq_true rfl)) [0] rfl rfl (ws' := [ob x 6 [.ref (xa 0), .ref g, .ref (xa 2), .ref (xa 3), .ref (xa 4), .ref (xa 5), .ref (xa 6), .ref (xa 7), .int (nI 1), .int (nI fl), .int pl], ob g 0 [.int (nI (cy 0)), .int (nI (cy 1)), .int (nI (cy 2)), .int (nI (cy 3)), .int (nI (cy 4)), .int (nI (cy 5)), .int (nI (cy 6)), .int (nI (cy 7)), .ref (ca 0), .ref (ca 1), .ref (ca 2), .ref (ca 3), .ref (ca 4), .ref (ca 5), .ref (ca 6), .ref (ca 7), .ref (ca 8), .ref (ca 9), .ref (ca 10), .ref (ca 11)], aM E (ca 5) 8 Fs, aM E (ca 6) 8 Ft, ob (xa 3) 2 [.ref hi, .ref hm, .int (nI t), .int (nI dd)], aN E hi 8 ink, aI E hm 8 mn]) rfl rfl ?_
    exact v_iret X Y dX6_can_13 (wrI_of (by rw [if_neg (of_decide_eq_false h5)]) ((if_neg (of_decide_eq_false h5)).symm)) (by omega) (by omega)
set_option maxRecDepth 100000 in
set_option maxHeartbeats 4000000 in
theorem c_X6_must (l : Launch) (E : Et) (x : Nat) (xa : Nat → Nat) (g : Nat) (tr : Nat) (fl : Nat) (pl : Int32) (cy : Nat → Nat) (ca : Nat → Nat) (Fs : Nat → Nat) (Ft : Nat → Nat) (hi : Nat) (hm : Nat) (t : Nat) (dd : Nat) (ink : Nat → Nat) (mn : Nat → Int32) (m : Int32) (hd : cy 4 ≤ 6) (hcl : cy 5 ≤ 8) (hmen : cy 3 ≤ 4) (ht : t < 256) (hink : ∀ c, ink c ≤ 40) : Ct l E yX6_must cX6_must 2 (some .int) 6 0 0 [.ref x, .int m] [ob x 6 [.ref (xa 0), .ref g, .ref (xa 2), .ref (xa 3), .ref (xa 4), .ref (xa 5), .ref (xa 6), .ref (xa 7), .int (nI tr), .int (nI fl), .int pl], ob g 0 [.int (nI (cy 0)), .int (nI (cy 1)), .int (nI (cy 2)), .int (nI (cy 3)), .int (nI (cy 4)), .int (nI (cy 5)), .int (nI (cy 6)), .int (nI (cy 7)), .ref (ca 0), .ref (ca 1), .ref (ca 2), .ref (ca 3), .ref (ca 4), .ref (ca 5), .ref (ca 6), .ref (ca 7), .ref (ca 8), .ref (ca 9), .ref (ca 10), .ref (ca 11)], aM E (ca 5) 8 Fs, aM E (ca 6) 8 Ft, ob (xa 3) 2 [.ref hi, .ref hm, .int (nI t), .int (nI dd)], aN E hi 8 ink, aI E hm 8 mn] (wrI [ob x 6 [.ref (xa 0), .ref g, .ref (xa 2), .ref (xa 3), .ref (xa 4), .ref (xa 5), .ref (xa 6), .ref (xa 7), .int (nI (if okM m (cy 3) then 0 else 1)), .int (nI fl), .int pl], ob g 0 [.int (nI (cy 0)), .int (nI (cy 1)), .int (nI (cy 2)), .int (nI (cy 3)), .int (nI (cy 4)), .int (nI (cy 5)), .int (nI (cy 6)), .int (nI (cy 7)), .ref (ca 0), .ref (ca 1), .ref (ca 2), .ref (ca 3), .ref (ca 4), .ref (ca 5), .ref (ca 6), .ref (ca 7), .ref (ca 8), .ref (ca 9), .ref (ca 10), .ref (ca 11)], aM E (ca 5) 8 Fs, aM E (ca 6) 8 Ft, ob (xa 3) 2 [.ref hi, .ref hm, .int (nI t), .int (nI dd)], aN E hi 8 ink, aI E hm 8 mn] (if okM m (cy 3) then nI (bbits (fun d => decide (¬ kpN cy Fs Ft t (bdN ink mn m 0) = 0 ∧ kpN cy Fs Ft t (bdN ink mn m 0) &&& (swI (nI d) ^^^ full64) = 0)) (cy 4)) else (-1))) := by
  refine Ct.intro (by decide +kernel) (Nat.le_of_ble_eq_true rfl) (lv := [(0, .ref x), (1, .int m)]) rfl ?_
  intro Z X Y
  refine v_aload_n X dX6_must_0 rfl 0 rfl ?_
  refine v_iload_n X dX6_must_1 rfl 1 rfl ?_
  refine v_roI1 X (rn_V X k_X6_isMan ml_X6_117 dX6_must_2 (c_X6_isMan l E x xa g tr fl pl cy ca m ) rfl 0 rfl rfl (by decide) (by decide) (by omega) (by omega) (Nat.le_of_ble_eq_true rfl)) [0, 1] rfl rfl ?_
  refine v_ifB_ne X dX6_must_5 (tgt := 14) (by decide) (fun h5 => ?_) (fun h5 => ?_)
  · refine v_aload_n X dX6_must_14 rfl 0 rfl ?_
    refine v_aload_n X dX6_must_15 rfl 0 rfl ?_
    refine v_aload_n X dX6_must_16 rfl 0 rfl ?_
    refine v_iload_n X dX6_must_17 rfl 1 rfl ?_
    refine v_roL1 X (rn_V X k_X6_waysOf ml_X6_141 dX6_must_18 (c_X6_waysOf l E x xa g tr fl pl cy ca Fs Ft hi hm t dd ink mn m (by first | assumption | omega) (by first | assumption | omega) (by first | assumption | omega) (by first | assumption | omega)) rfl 0 rfl rfl (by decide) (by decide) (by omega) (by omega) (Nat.le_of_ble_eq_true rfl)) [0, 1, 2, 3, 4, 5, 6] rfl rfl ?_
    refine v_roI1 X (rn_V X k_X6_deedsInAll ml_X6_157 dX6_must_21 (c_X6_deedsInAll l E x xa g tr fl pl cy ca (kpN cy Fs Ft t (bdN ink mn m 0)) (by first | assumption | omega) (kpN_lt hd _ _ _ _)) rfl 0 rfl rfl (by decide) (by decide) (by omega) (by omega) (Nat.le_of_ble_eq_true rfl)) [0, 1] rfl rfl ?_
    refine v_wrI1 X (rn_V X k_X6_answered ml_X6_92 dX6_must_24 (c_X6_answered l E x xa g tr fl pl (nI (bbits (fun d => decide (¬ (kpN cy Fs Ft t (bdN ink mn m 0)) = 0 ∧ (kpN cy Fs Ft t (bdN ink mn m 0)) &&& (swI (nI d) ^^^ full64) = 0)) (cy 4))) ) rfl 0 rfl rfl (by decide) (by decide) (by omega) (by omega) (Nat.le_of_ble_eq_true rfl)) [0] rfl rfl (ws' := [ob x 6 [.ref (xa 0), .ref g, .ref (xa 2), .ref (xa 3), .ref (xa 4), .ref (xa 5), .ref (xa 6), .ref (xa 7), .int (nI 0), .int (nI fl), .int pl], ob g 0 [.int (nI (cy 0)), .int (nI (cy 1)), .int (nI (cy 2)), .int (nI (cy 3)), .int (nI (cy 4)), .int (nI (cy 5)), .int (nI (cy 6)), .int (nI (cy 7)), .ref (ca 0), .ref (ca 1), .ref (ca 2), .ref (ca 3), .ref (ca 4), .ref (ca 5), .ref (ca 6), .ref (ca 7), .ref (ca 8), .ref (ca 9), .ref (ca 10), .ref (ca 11)], aM E (ca 5) 8 Fs, aM E (ca 6) 8 Ft, ob (xa 3) 2 [.ref hi, .ref hm, .int (nI t), .int (nI dd)], aN E hi 8 ink, aI E hm 8 mn]) rfl rfl ?_
    exact v_iret X Y dX6_must_27 (wrI_of (by rw [if_pos (of_decide_eq_true h5)]) ((if_pos (of_decide_eq_true h5)).symm)) (by omega) (by omega)
  · refine v_aload_n X dX6_must_8 rfl 0 rfl ?_
    refine v_iconst X dX6_must_9 (v := nI 1) (by decide) ?_
    refine v_wrI1 X (rn_V X k_X6_refused ml_X6_74 dX6_must_10 (c_X6_refused l E x xa g tr fl pl 1 ) rfl 0 rfl rfl (by decide) (by decide) (by omega) (by omega) (Nat.le_of_ble_eq_true rfl)) [0] rfl rfl (ws' := [ob x 6 [.ref (xa 0), .ref g, .ref (xa 2), .ref (xa 3), .ref (xa 4), .ref (xa 5), .ref (xa 6), .ref (xa 7), .int (nI 1), .int (nI fl), .int pl], ob g 0 [.int (nI (cy 0)), .int (nI (cy 1)), .int (nI (cy 2)), .int (nI (cy 3)), .int (nI (cy 4)), .int (nI (cy 5)), .int (nI (cy 6)), .int (nI (cy 7)), .ref (ca 0), .ref (ca 1), .ref (ca 2), .ref (ca 3), .ref (ca 4), .ref (ca 5), .ref (ca 6), .ref (ca 7), .ref (ca 8), .ref (ca 9), .ref (ca 10), .ref (ca 11)], aM E (ca 5) 8 Fs, aM E (ca 6) 8 Ft, ob (xa 3) 2 [.ref hi, .ref hm, .int (nI t), .int (nI dd)], aN E hi 8 ink, aI E hm 8 mn]) rfl rfl ?_
    exact v_iret X Y dX6_must_13 (wrI_of (by rw [if_neg (of_decide_eq_false h5)]) ((if_neg (of_decide_eq_false h5)).symm)) (by omega) (by omega)
set_option maxRecDepth 100000 in
set_option maxHeartbeats 4000000 in
theorem c_X6_cheap (l : Launch) (E : Et) (x : Nat) (xa : Nat → Nat) (g : Nat) (tr : Nat) (fl : Nat) (pl : Int32) (cy : Nat → Nat) (ca : Nat → Nat) (Fs : Nat → Nat) (Ft : Nat → Nat) (hi : Nat) (hm : Nat) (t : Nat) (dd : Nat) (ink : Nat → Nat) (mn : Nat → Int32) (m : Int32) (hd : cy 4 ≤ 6) (hcl : cy 5 ≤ 8) (hmen : cy 3 ≤ 4) (ht : t < 256) (hink : ∀ c, ink c ≤ 40) : Ct l E yX6_cheap cX6_cheap 2 (some .int) 6 0 0 [.ref x, .int m] [ob x 6 [.ref (xa 0), .ref g, .ref (xa 2), .ref (xa 3), .ref (xa 4), .ref (xa 5), .ref (xa 6), .ref (xa 7), .int (nI tr), .int (nI fl), .int pl], ob g 0 [.int (nI (cy 0)), .int (nI (cy 1)), .int (nI (cy 2)), .int (nI (cy 3)), .int (nI (cy 4)), .int (nI (cy 5)), .int (nI (cy 6)), .int (nI (cy 7)), .ref (ca 0), .ref (ca 1), .ref (ca 2), .ref (ca 3), .ref (ca 4), .ref (ca 5), .ref (ca 6), .ref (ca 7), .ref (ca 8), .ref (ca 9), .ref (ca 10), .ref (ca 11)], aM E (ca 5) 8 Fs, aM E (ca 6) 8 Ft, ob (xa 3) 2 [.ref hi, .ref hm, .int (nI t), .int (nI dd)], aN E hi 8 ink, aI E hm 8 mn] (wrI [ob x 6 [.ref (xa 0), .ref g, .ref (xa 2), .ref (xa 3), .ref (xa 4), .ref (xa 5), .ref (xa 6), .ref (xa 7), .int (nI (if okM m (cy 3) then 0 else 1)), .int (nI fl), .int pl], ob g 0 [.int (nI (cy 0)), .int (nI (cy 1)), .int (nI (cy 2)), .int (nI (cy 3)), .int (nI (cy 4)), .int (nI (cy 5)), .int (nI (cy 6)), .int (nI (cy 7)), .ref (ca 0), .ref (ca 1), .ref (ca 2), .ref (ca 3), .ref (ca 4), .ref (ca 5), .ref (ca 6), .ref (ca 7), .ref (ca 8), .ref (ca 9), .ref (ca 10), .ref (ca 11)], aM E (ca 5) 8 Fs, aM E (ca 6) 8 Ft, ob (xa 3) 2 [.ref hi, .ref hm, .int (nI t), .int (nI dd)], aN E hi 8 ink, aI E hm 8 mn] (if okM m (cy 3) then nI (bestF (fun p => decide (ndf p (bdN ink mn m 0) = 0 ∧ ¬ kpN cy Fs Ft t (ndf (bdN ink mn m 0) p) = 0)) (inkS ink) (bdN ink mn m 0) (bdN ink mn m 0 + 1)) else (-1))) := by
  refine Ct.intro (by decide +kernel) (Nat.le_of_ble_eq_true rfl) (lv := [(0, .ref x), (1, .int m)]) rfl ?_
  intro Z X Y
  refine v_aload_n X dX6_cheap_0 rfl 0 rfl ?_
  refine v_iload_n X dX6_cheap_1 rfl 1 rfl ?_
  refine v_roI1 X (rn_V X k_X6_isMan ml_X6_117 dX6_cheap_2 (c_X6_isMan l E x xa g tr fl pl cy ca m ) rfl 0 rfl rfl (by decide) (by decide) (by omega) (by omega) (Nat.le_of_ble_eq_true rfl)) [0, 1] rfl rfl ?_
  refine v_ifB_ne X dX6_cheap_5 (tgt := 14) (by decide) (fun h5 => ?_) (fun h5 => ?_)
  · refine v_aload_n X dX6_cheap_14 rfl 0 rfl ?_
    refine v_aload_n X dX6_cheap_15 rfl 0 rfl ?_
    refine v_iload_n X dX6_cheap_16 rfl 1 rfl ?_
    refine v_roI1 X (rn_V X k_X6_cheapest ml_X6_176 dX6_cheap_17 (c_X6_cheapest l E x xa g tr fl pl cy ca Fs Ft hi hm t dd ink mn m (by first | assumption | omega) (by first | assumption | omega) (by first | assumption | omega) (by first | assumption | omega) (by first | assumption | omega)) rfl 0 rfl rfl (by decide) (by decide) (by omega) (by omega) (Nat.le_of_ble_eq_true rfl)) [0, 1, 2, 3, 4, 5, 6] rfl rfl ?_
    refine v_wrI1 X (rn_V X k_X6_answered ml_X6_92 dX6_cheap_20 (c_X6_answered l E x xa g tr fl pl (nI (bestF (fun p => decide (ndf p (bdN ink mn m 0) = 0 ∧ ¬ kpN cy Fs Ft t (ndf (bdN ink mn m 0) p) = 0)) (inkS ink) (bdN ink mn m 0) (bdN ink mn m 0 + 1))) ) rfl 0 rfl rfl (by decide) (by decide) (by omega) (by omega) (Nat.le_of_ble_eq_true rfl)) [0] rfl rfl (ws' := [ob x 6 [.ref (xa 0), .ref g, .ref (xa 2), .ref (xa 3), .ref (xa 4), .ref (xa 5), .ref (xa 6), .ref (xa 7), .int (nI 0), .int (nI fl), .int pl], ob g 0 [.int (nI (cy 0)), .int (nI (cy 1)), .int (nI (cy 2)), .int (nI (cy 3)), .int (nI (cy 4)), .int (nI (cy 5)), .int (nI (cy 6)), .int (nI (cy 7)), .ref (ca 0), .ref (ca 1), .ref (ca 2), .ref (ca 3), .ref (ca 4), .ref (ca 5), .ref (ca 6), .ref (ca 7), .ref (ca 8), .ref (ca 9), .ref (ca 10), .ref (ca 11)], aM E (ca 5) 8 Fs, aM E (ca 6) 8 Ft, ob (xa 3) 2 [.ref hi, .ref hm, .int (nI t), .int (nI dd)], aN E hi 8 ink, aI E hm 8 mn]) rfl rfl ?_
    exact v_iret X Y dX6_cheap_23 (wrI_of (by rw [if_pos (of_decide_eq_true h5)]) ((if_pos (of_decide_eq_true h5)).symm)) (by omega) (by omega)
  · refine v_aload_n X dX6_cheap_8 rfl 0 rfl ?_
    refine v_iconst X dX6_cheap_9 (v := nI 1) (by decide) ?_
    refine v_wrI1 X (rn_V X k_X6_refused ml_X6_74 dX6_cheap_10 (c_X6_refused l E x xa g tr fl pl 1 ) rfl 0 rfl rfl (by decide) (by decide) (by omega) (by omega) (Nat.le_of_ble_eq_true rfl)) [0] rfl rfl (ws' := [ob x 6 [.ref (xa 0), .ref g, .ref (xa 2), .ref (xa 3), .ref (xa 4), .ref (xa 5), .ref (xa 6), .ref (xa 7), .int (nI 1), .int (nI fl), .int pl], ob g 0 [.int (nI (cy 0)), .int (nI (cy 1)), .int (nI (cy 2)), .int (nI (cy 3)), .int (nI (cy 4)), .int (nI (cy 5)), .int (nI (cy 6)), .int (nI (cy 7)), .ref (ca 0), .ref (ca 1), .ref (ca 2), .ref (ca 3), .ref (ca 4), .ref (ca 5), .ref (ca 6), .ref (ca 7), .ref (ca 8), .ref (ca 9), .ref (ca 10), .ref (ca 11)], aM E (ca 5) 8 Fs, aM E (ca 6) 8 Ft, ob (xa 3) 2 [.ref hi, .ref hm, .int (nI t), .int (nI dd)], aN E hi 8 ink, aI E hm 8 mn]) rfl rfl ?_
    exact v_iret X Y dX6_cheap_13 (wrI_of (by rw [if_neg (of_decide_eq_false h5)]) ((if_neg (of_decide_eq_false h5)).symm)) (by omega) (by omega)
set_option maxRecDepth 100000 in
set_option maxHeartbeats 4000000 in
theorem c_X6_price (l : Launch) (E : Et) (x : Nat) (xa : Nat → Nat) (g : Nat) (tr : Nat) (fl : Nat) (pl : Int32) (cy : Nat → Nat) (ca : Nat → Nat) (Fs : Nat → Nat) (Ft : Nat → Nat) (hi : Nat) (hm : Nat) (t : Nat) (dd : Nat) (ink : Nat → Nat) (mn : Nat → Int32) (m : Int32) (hd : cy 4 ≤ 6) (hcl : cy 5 ≤ 8) (hmen : cy 3 ≤ 4) (ht : t < 256) (hink : ∀ c, ink c ≤ 40) : Ct l E yX6_price cX6_price 2 (some .int) 6 0 0 [.ref x, .int m] [ob x 6 [.ref (xa 0), .ref g, .ref (xa 2), .ref (xa 3), .ref (xa 4), .ref (xa 5), .ref (xa 6), .ref (xa 7), .int (nI tr), .int (nI fl), .int pl], ob g 0 [.int (nI (cy 0)), .int (nI (cy 1)), .int (nI (cy 2)), .int (nI (cy 3)), .int (nI (cy 4)), .int (nI (cy 5)), .int (nI (cy 6)), .int (nI (cy 7)), .ref (ca 0), .ref (ca 1), .ref (ca 2), .ref (ca 3), .ref (ca 4), .ref (ca 5), .ref (ca 6), .ref (ca 7), .ref (ca 8), .ref (ca 9), .ref (ca 10), .ref (ca 11)], aM E (ca 5) 8 Fs, aM E (ca 6) 8 Ft, ob (xa 3) 2 [.ref hi, .ref hm, .int (nI t), .int (nI dd)], aN E hi 8 ink, aI E hm 8 mn] (wrI [ob x 6 [.ref (xa 0), .ref g, .ref (xa 2), .ref (xa 3), .ref (xa 4), .ref (xa 5), .ref (xa 6), .ref (xa 7), .int (nI (if okM m (cy 3) then 0 else 1)), .int (nI fl), .int pl], ob g 0 [.int (nI (cy 0)), .int (nI (cy 1)), .int (nI (cy 2)), .int (nI (cy 3)), .int (nI (cy 4)), .int (nI (cy 5)), .int (nI (cy 6)), .int (nI (cy 7)), .ref (ca 0), .ref (ca 1), .ref (ca 2), .ref (ca 3), .ref (ca 4), .ref (ca 5), .ref (ca 6), .ref (ca 7), .ref (ca 8), .ref (ca 9), .ref (ca 10), .ref (ca 11)], aM E (ca 5) 8 Fs, aM E (ca 6) 8 Ft, ob (xa 3) 2 [.ref hi, .ref hm, .int (nI t), .int (nI dd)], aN E hi 8 ink, aI E hm 8 mn] (if okM m (cy 3) then nI (inkS ink (bestF (fun p => decide (ndf p (bdN ink mn m 0) = 0 ∧ ¬ kpN cy Fs Ft t (ndf (bdN ink mn m 0) p) = 0)) (inkS ink) (bdN ink mn m 0) (bdN ink mn m 0 + 1))) else (-1))) := by
  refine Ct.intro (by decide +kernel) (Nat.le_of_ble_eq_true rfl) (lv := [(0, .ref x), (1, .int m)]) rfl ?_
  intro Z X Y
  refine v_aload_n X dX6_price_0 rfl 0 rfl ?_
  refine v_iload_n X dX6_price_1 rfl 1 rfl ?_
  refine v_roI1 X (rn_V X k_X6_isMan ml_X6_117 dX6_price_2 (c_X6_isMan l E x xa g tr fl pl cy ca m ) rfl 0 rfl rfl (by decide) (by decide) (by omega) (by omega) (Nat.le_of_ble_eq_true rfl)) [0, 1] rfl rfl ?_
  refine v_ifB_ne X dX6_price_5 (tgt := 14) (by decide) (fun h5 => ?_) (fun h5 => ?_)
  · refine v_aload_n X dX6_price_14 rfl 0 rfl ?_
    refine v_aload_n X dX6_price_15 rfl 0 rfl ?_
    refine v_get X kcX6 fl_X6_30 dX6_price_16 0 rfl rfl ?_
    refine v_aload_n X dX6_price_19 rfl 0 rfl ?_
    refine v_iload_n X dX6_price_20 rfl 1 rfl ?_
    refine v_roI1 X (rn_V X k_X6_cheapest ml_X6_176 dX6_price_21 (c_X6_cheapest l E x xa g tr fl pl cy ca Fs Ft hi hm t dd ink mn m (by first | assumption | omega) (by first | assumption | omega) (by first | assumption | omega) (by first | assumption | omega) (by first | assumption | omega)) rfl 0 rfl rfl (by decide) (by decide) (by omega) (by omega) (Nat.le_of_ble_eq_true rfl)) [0, 1, 2, 3, 4, 5, 6] rfl rfl ?_
    refine v_roI1 X (rn_VN X k_X2_inkOf ml_X6_127 dX6_price_24 (c_X2_inkOf l E (xa 3) hi hm t dd ink (bestF (fun p => decide (ndf p (bdN ink mn m 0) = 0 ∧ ¬ kpN cy Fs Ft t (ndf (bdN ink mn m 0) p) = 0)) (inkS ink) (bdN ink mn m 0) (bdN ink mn m 0 + 1)) (Nat.lt_of_le_of_lt (bestF_le (Nat.le_refl _)) (Nat.lt_trans (bdN_lt _ _ _ _) (by decide)))) rfl 0 rfl rfl (by decide) (by decide) (by omega) (by omega) (Nat.le_of_ble_eq_true rfl)) [4, 5] rfl rfl ?_
    refine v_wrI1 X (rn_V X k_X6_answered ml_X6_92 dX6_price_27 (c_X6_answered l E x xa g tr fl pl (nI (fb_sm (fun c => if (bestF (fun p => decide (ndf p (bdN ink mn m 0) = 0 ∧ ¬ kpN cy Fs Ft t (ndf (bdN ink mn m 0) p) = 0)) (inkS ink) (bdN ink mn m 0) (bdN ink mn m 0 + 1)).testBit c then ink c else 0) 8)) ) rfl 0 rfl rfl (by decide) (by decide) (by omega) (by omega) (Nat.le_of_ble_eq_true rfl)) [0] rfl rfl (ws' := [ob x 6 [.ref (xa 0), .ref g, .ref (xa 2), .ref (xa 3), .ref (xa 4), .ref (xa 5), .ref (xa 6), .ref (xa 7), .int (nI 0), .int (nI fl), .int pl], ob g 0 [.int (nI (cy 0)), .int (nI (cy 1)), .int (nI (cy 2)), .int (nI (cy 3)), .int (nI (cy 4)), .int (nI (cy 5)), .int (nI (cy 6)), .int (nI (cy 7)), .ref (ca 0), .ref (ca 1), .ref (ca 2), .ref (ca 3), .ref (ca 4), .ref (ca 5), .ref (ca 6), .ref (ca 7), .ref (ca 8), .ref (ca 9), .ref (ca 10), .ref (ca 11)], aM E (ca 5) 8 Fs, aM E (ca 6) 8 Ft, ob (xa 3) 2 [.ref hi, .ref hm, .int (nI t), .int (nI dd)], aN E hi 8 ink, aI E hm 8 mn]) rfl rfl ?_
    exact v_iret X Y dX6_price_30 (wrI_of (by rw [if_pos (of_decide_eq_true h5)]) ((if_pos (of_decide_eq_true h5)).symm)) (by omega) (by omega)
  · refine v_aload_n X dX6_price_8 rfl 0 rfl ?_
    refine v_iconst X dX6_price_9 (v := nI 1) (by decide) ?_
    refine v_wrI1 X (rn_V X k_X6_refused ml_X6_74 dX6_price_10 (c_X6_refused l E x xa g tr fl pl 1 ) rfl 0 rfl rfl (by decide) (by decide) (by omega) (by omega) (Nat.le_of_ble_eq_true rfl)) [0] rfl rfl (ws' := [ob x 6 [.ref (xa 0), .ref g, .ref (xa 2), .ref (xa 3), .ref (xa 4), .ref (xa 5), .ref (xa 6), .ref (xa 7), .int (nI 1), .int (nI fl), .int pl], ob g 0 [.int (nI (cy 0)), .int (nI (cy 1)), .int (nI (cy 2)), .int (nI (cy 3)), .int (nI (cy 4)), .int (nI (cy 5)), .int (nI (cy 6)), .int (nI (cy 7)), .ref (ca 0), .ref (ca 1), .ref (ca 2), .ref (ca 3), .ref (ca 4), .ref (ca 5), .ref (ca 6), .ref (ca 7), .ref (ca 8), .ref (ca 9), .ref (ca 10), .ref (ca 11)], aM E (ca 5) 8 Fs, aM E (ca 6) 8 Ft, ob (xa 3) 2 [.ref hi, .ref hm, .int (nI t), .int (nI dd)], aN E hi 8 ink, aI E hm 8 mn]) rfl rfl ?_
    exact v_iret X Y dX6_price_13 (wrI_of (by rw [if_neg (of_decide_eq_false h5)]) ((if_neg (of_decide_eq_false h5)).symm)) (by omega) (by omega)
set_option maxRecDepth 100000 in
set_option maxHeartbeats 4000000 in
theorem c_X6_wayAt (l : Launch) (E : Et) (x : Nat) (xa : Nat → Nat) (g : Nat) (tr : Nat) (fl : Nat) (pl : Int32) (cy : Nat → Nat) (ca : Nat → Nat) (Fs : Nat → Nat) (Ft : Nat → Nat) (hi : Nat) (hm : Nat) (t : Nat) (dd : Nat) (ink : Nat → Nat) (mn : Nat → Int32) (m : Int32) (i : Int32) (hd : cy 4 ≤ 6) (hcl : cy 5 ≤ 8) (hmen : cy 3 ≤ 4) (ht : t < 256) (hink : ∀ c, ink c ≤ 40) : Ct l E yX6_wayAt cX6_wayAt 4 (some .int) 6 0 0 [.ref x, .int m, .int i] [ob x 6 [.ref (xa 0), .ref g, .ref (xa 2), .ref (xa 3), .ref (xa 4), .ref (xa 5), .ref (xa 6), .ref (xa 7), .int (nI tr), .int (nI fl), .int pl], ob g 0 [.int (nI (cy 0)), .int (nI (cy 1)), .int (nI (cy 2)), .int (nI (cy 3)), .int (nI (cy 4)), .int (nI (cy 5)), .int (nI (cy 6)), .int (nI (cy 7)), .ref (ca 0), .ref (ca 1), .ref (ca 2), .ref (ca 3), .ref (ca 4), .ref (ca 5), .ref (ca 6), .ref (ca 7), .ref (ca 8), .ref (ca 9), .ref (ca 10), .ref (ca 11)], aM E (ca 5) 8 Fs, aM E (ca 6) 8 Ft, ob (xa 3) 2 [.ref hi, .ref hm, .int (nI t), .int (nI dd)], aN E hi 8 ink, aI E hm 8 mn] (wrI [ob x 6 [.ref (xa 0), .ref g, .ref (xa 2), .ref (xa 3), .ref (xa 4), .ref (xa 5), .ref (xa 6), .ref (xa 7), .int (nI (if okM m (cy 3) ∧ ¬ kth (fun s => (kpN cy Fs Ft t (bdN ink mn m 0)).testBit s) i 64 0 0 = (-1) then 0 else 1)), .int (nI fl), .int pl], ob g 0 [.int (nI (cy 0)), .int (nI (cy 1)), .int (nI (cy 2)), .int (nI (cy 3)), .int (nI (cy 4)), .int (nI (cy 5)), .int (nI (cy 6)), .int (nI (cy 7)), .ref (ca 0), .ref (ca 1), .ref (ca 2), .ref (ca 3), .ref (ca 4), .ref (ca 5), .ref (ca 6), .ref (ca 7), .ref (ca 8), .ref (ca 9), .ref (ca 10), .ref (ca 11)], aM E (ca 5) 8 Fs, aM E (ca 6) 8 Ft, ob (xa 3) 2 [.ref hi, .ref hm, .int (nI t), .int (nI dd)], aN E hi 8 ink, aI E hm 8 mn] (if okM m (cy 3) then kth (fun s => (kpN cy Fs Ft t (bdN ink mn m 0)).testBit s) i 64 0 0 else (-1))) := by
  refine Ct.intro (by decide +kernel) (Nat.le_of_ble_eq_true rfl) (lv := [(0, .ref x), (1, .int m), (2, .int i)]) rfl ?_
  intro Z X Y
  refine v_aload_n X dX6_wayAt_0 rfl 0 rfl ?_
  refine v_iload_n X dX6_wayAt_1 rfl 1 rfl ?_
  refine v_roI1 X (rn_V X k_X6_isMan ml_X6_117 dX6_wayAt_2 (c_X6_isMan l E x xa g tr fl pl cy ca m ) rfl 0 rfl rfl (by decide) (by decide) (by omega) (by omega) (Nat.le_of_ble_eq_true rfl)) [0, 1] rfl rfl ?_
  refine v_ifB_ne X dX6_wayAt_5 (tgt := 14) (by decide) (fun h5 => ?_) (fun h5 => ?_)
  · refine v_aload_n X dX6_wayAt_14 rfl 0 rfl ?_
    refine v_iload_n X dX6_wayAt_15 rfl 1 rfl ?_
    refine v_roL1 X (rn_V X k_X6_waysOf ml_X6_141 dX6_wayAt_16 (c_X6_waysOf l E x xa g tr fl pl cy ca Fs Ft hi hm t dd ink mn m (by first | assumption | omega) (by first | assumption | omega) (by first | assumption | omega) (by first | assumption | omega)) rfl 0 rfl rfl (by decide) (by decide) (by omega) (by omega) (Nat.le_of_ble_eq_true rfl)) [0, 1, 2, 3, 4, 5, 6] rfl rfl ?_
    refine v_iload_n X dX6_wayAt_19 rfl 2 rfl ?_
    refine v_roI1 X (rn_S X k_X6_bitAt ml_X6_150 dX6_wayAt_20 (c_X6_bitAt l E (kpN cy Fs Ft t (bdN ink mn m 0)) i (kpN_lt hd _ _ _ _)) rfl (by decide) (by decide) (by omega) (by omega) (Nat.le_of_ble_eq_true rfl)) [] rfl rfl ?_
    refine v_istore_n X dX6_wayAt_23 rfl (by decide) (lv' := [(3, .int (kth (fun s => (kpN cy Fs Ft t (bdN ink mn m 0)).testBit s) i 64 0 0)), (0, .ref x), (1, .int m), (2, .int i)]) rfl ?_
    refine v_iload_n X dX6_wayAt_24 rfl 0 rfl ?_
    refine v_iconst X dX6_wayAt_25 (v := (-1)) (by decide) ?_
    refine v_icmp_ne X dX6_wayAt_26 (tgt := 37) (by decide) (fun h26 => ?_) (fun h26 => ?_)
    · refine v_aload_n X dX6_wayAt_37 rfl 1 rfl ?_
      refine v_iload_n X dX6_wayAt_38 rfl 0 rfl ?_
      refine v_wrI1 X (rn_V X k_X6_answered ml_X6_92 dX6_wayAt_39 (c_X6_answered l E x xa g tr fl pl (kth (fun s => (kpN cy Fs Ft t (bdN ink mn m 0)).testBit s) i 64 0 0) ) rfl 0 rfl rfl (by decide) (by decide) (by omega) (by omega) (Nat.le_of_ble_eq_true rfl)) [0] rfl rfl (ws' := [ob x 6 [.ref (xa 0), .ref g, .ref (xa 2), .ref (xa 3), .ref (xa 4), .ref (xa 5), .ref (xa 6), .ref (xa 7), .int (nI 0), .int (nI fl), .int pl], ob g 0 [.int (nI (cy 0)), .int (nI (cy 1)), .int (nI (cy 2)), .int (nI (cy 3)), .int (nI (cy 4)), .int (nI (cy 5)), .int (nI (cy 6)), .int (nI (cy 7)), .ref (ca 0), .ref (ca 1), .ref (ca 2), .ref (ca 3), .ref (ca 4), .ref (ca 5), .ref (ca 6), .ref (ca 7), .ref (ca 8), .ref (ca 9), .ref (ca 10), .ref (ca 11)], aM E (ca 5) 8 Fs, aM E (ca 6) 8 Ft, ob (xa 3) 2 [.ref hi, .ref hm, .int (nI t), .int (nI dd)], aN E hi 8 ink, aI E hm 8 mn]) rfl rfl ?_
      exact v_iret X Y dX6_wayAt_42 (wrI_of (by rw [if_pos ⟨of_decide_eq_true h5, h26⟩]) ((if_pos (of_decide_eq_true h5)).symm)) (by omega) (by omega)
    · refine v_aload_n X dX6_wayAt_29 rfl 1 rfl ?_
      refine v_iconst X dX6_wayAt_30 (v := nI 1) (by decide) ?_
      refine v_wrI1 X (rn_V X k_X6_refused ml_X6_74 dX6_wayAt_31 (c_X6_refused l E x xa g tr fl pl 1 ) rfl 0 rfl rfl (by decide) (by decide) (by omega) (by omega) (Nat.le_of_ble_eq_true rfl)) [0] rfl rfl (ws' := [ob x 6 [.ref (xa 0), .ref g, .ref (xa 2), .ref (xa 3), .ref (xa 4), .ref (xa 5), .ref (xa 6), .ref (xa 7), .int (nI 1), .int (nI fl), .int pl], ob g 0 [.int (nI (cy 0)), .int (nI (cy 1)), .int (nI (cy 2)), .int (nI (cy 3)), .int (nI (cy 4)), .int (nI (cy 5)), .int (nI (cy 6)), .int (nI (cy 7)), .ref (ca 0), .ref (ca 1), .ref (ca 2), .ref (ca 3), .ref (ca 4), .ref (ca 5), .ref (ca 6), .ref (ca 7), .ref (ca 8), .ref (ca 9), .ref (ca 10), .ref (ca 11)], aM E (ca 5) 8 Fs, aM E (ca 6) 8 Ft, ob (xa 3) 2 [.ref hi, .ref hm, .int (nI t), .int (nI dd)], aN E hi 8 ink, aI E hm 8 mn]) rfl rfl ?_
      refine v_goto X dX6_wayAt_34 (tgt := 42) (by decide) ?_
      exact v_iret X Y dX6_wayAt_42 (wrI_of (by rw [if_neg (fun q => q.2 h26)]) ((by rw [if_pos (of_decide_eq_true h5)]; exact h26.symm))) (by omega) (by omega)
  · refine v_aload_n X dX6_wayAt_8 rfl 0 rfl ?_
    refine v_iconst X dX6_wayAt_9 (v := nI 1) (by decide) ?_
    refine v_wrI1 X (rn_V X k_X6_refused ml_X6_74 dX6_wayAt_10 (c_X6_refused l E x xa g tr fl pl 1 ) rfl 0 rfl rfl (by decide) (by decide) (by omega) (by omega) (Nat.le_of_ble_eq_true rfl)) [0] rfl rfl (ws' := [ob x 6 [.ref (xa 0), .ref g, .ref (xa 2), .ref (xa 3), .ref (xa 4), .ref (xa 5), .ref (xa 6), .ref (xa 7), .int (nI 1), .int (nI fl), .int pl], ob g 0 [.int (nI (cy 0)), .int (nI (cy 1)), .int (nI (cy 2)), .int (nI (cy 3)), .int (nI (cy 4)), .int (nI (cy 5)), .int (nI (cy 6)), .int (nI (cy 7)), .ref (ca 0), .ref (ca 1), .ref (ca 2), .ref (ca 3), .ref (ca 4), .ref (ca 5), .ref (ca 6), .ref (ca 7), .ref (ca 8), .ref (ca 9), .ref (ca 10), .ref (ca 11)], aM E (ca 5) 8 Fs, aM E (ca 6) 8 Ft, ob (xa 3) 2 [.ref hi, .ref hm, .int (nI t), .int (nI dd)], aN E hi 8 ink, aI E hm 8 mn]) rfl rfl ?_
    exact v_iret X Y dX6_wayAt_13 (wrI_of (by rw [if_neg (fun q => of_decide_eq_false h5 q.1)]) ((if_neg (of_decide_eq_false h5)).symm)) (by omega) (by omega)
set_option maxRecDepth 100000 in
set_option maxHeartbeats 4000000 in
theorem c_X6_idlest (l : Launch) (E : Et) (x : Nat) (xa : Nat → Nat) (g : Nat) (tr : Nat) (fl : Nat) (pl : Int32) (cy : Nat → Nat) (ca : Nat → Nat) (Fs : Nat → Nat) (Ft : Nat → Nat) (hi : Nat) (hm : Nat) (t : Nat) (dd : Nat) (ink : Nat → Nat) (mn : Nat → Int32) (m : Int32) (hd : cy 4 ≤ 6) (hcl : cy 5 ≤ 8) (hmen : cy 3 ≤ 4) (ht : t < 256) (hink : ∀ c, ink c ≤ 40) : Ct l E yX6_idlest cX6_idlest 6 (some .int) 6 0 0 [.ref x, .int m] [ob x 6 [.ref (xa 0), .ref g, .ref (xa 2), .ref (xa 3), .ref (xa 4), .ref (xa 5), .ref (xa 6), .ref (xa 7), .int (nI tr), .int (nI fl), .int pl], ob g 0 [.int (nI (cy 0)), .int (nI (cy 1)), .int (nI (cy 2)), .int (nI (cy 3)), .int (nI (cy 4)), .int (nI (cy 5)), .int (nI (cy 6)), .int (nI (cy 7)), .ref (ca 0), .ref (ca 1), .ref (ca 2), .ref (ca 3), .ref (ca 4), .ref (ca 5), .ref (ca 6), .ref (ca 7), .ref (ca 8), .ref (ca 9), .ref (ca 10), .ref (ca 11)], aM E (ca 5) 8 Fs, aM E (ca 6) 8 Ft, ob (xa 3) 2 [.ref hi, .ref hm, .int (nI t), .int (nI dd)], aN E hi 8 ink, aI E hm 8 mn] (wrI [ob x 6 [.ref (xa 0), .ref g, .ref (xa 2), .ref (xa 3), .ref (xa 4), .ref (xa 5), .ref (xa 6), .ref (xa 7), .int (nI (if okM m (cy 3) then 0 else 1)), .int (nI fl), .int pl], ob g 0 [.int (nI (cy 0)), .int (nI (cy 1)), .int (nI (cy 2)), .int (nI (cy 3)), .int (nI (cy 4)), .int (nI (cy 5)), .int (nI (cy 6)), .int (nI (cy 7)), .ref (ca 0), .ref (ca 1), .ref (ca 2), .ref (ca 3), .ref (ca 4), .ref (ca 5), .ref (ca 6), .ref (ca 7), .ref (ca 8), .ref (ca 9), .ref (ca 10), .ref (ca 11)], aM E (ca 5) 8 Fs, aM E (ca 6) 8 Ft, ob (xa 3) 2 [.ref hi, .ref hm, .int (nI t), .int (nI dd)], aN E hi 8 ink, aI E hm 8 mn] (if okM m (cy 3) then optI (bestO (fun s => (kpN cy Fs Ft t (bdN ink mn m 0)).testBit s) (fun p q => decide (pop8 p < pop8 q)) (2 ^ cy 4)) else (-1))) := by
  refine Ct.intro (by decide +kernel) (Nat.le_of_ble_eq_true rfl) (lv := [(0, .ref x), (1, .int m)]) rfl ?_
  intro Z X Y
  have h64 : 2 ^ cy 4 ≤ 64 := pow64 hd
  refine v_aload_n X dX6_idlest_0 rfl 0 rfl ?_
  refine v_iload_n X dX6_idlest_1 rfl 1 rfl ?_
  refine v_roI1 X (rn_V X k_X6_isMan ml_X6_117 dX6_idlest_2 (c_X6_isMan l E x xa g tr fl pl cy ca m ) rfl 0 rfl rfl (by decide) (by decide) (by omega) (by omega) (Nat.le_of_ble_eq_true rfl)) [0, 1] rfl rfl ?_
  refine v_ifB_ne X dX6_idlest_5 (tgt := 14) (by decide) (fun h5 => ?_) (fun h5 => ?_)
  · refine v_aload_n X dX6_idlest_14 rfl 0 rfl ?_
    refine v_iload_n X dX6_idlest_15 rfl 1 rfl ?_
    refine v_roL1 X (rn_V X k_X6_waysOf ml_X6_141 dX6_idlest_16 (c_X6_waysOf l E x xa g tr fl pl cy ca Fs Ft hi hm t dd ink mn m (by first | assumption | omega) (by first | assumption | omega) (by first | assumption | omega) (by first | assumption | omega)) rfl 0 rfl rfl (by decide) (by decide) (by omega) (by omega) (Nat.le_of_ble_eq_true rfl)) [0, 1, 2, 3, 4, 5, 6] rfl rfl ?_
    refine v_lstore_n X dX6_idlest_19 rfl (by decide) (lv' := [(2, .long (lN (kpN cy Fs Ft t (bdN ink mn m 0)))), (0, .ref x), (1, .int m)]) rfl ?_
    refine v_bipush X dX6_idlest_20 (v := (-2)) (by decide) ?_
    refine v_istore X dX6_idlest_22 (by decide) (lv' := [(4, .int (-2)), (2, .long (lN (kpN cy Fs Ft t (bdN ink mn m 0)))), (0, .ref x), (1, .int m)]) rfl ?_
    refine v_iconst X dX6_idlest_24 (v := nI 0) (by decide) ?_
    refine v_istore X dX6_idlest_25 (by decide) (lv' := [(5, .int (nI 0)), (4, .int (-2)), (2, .long (lN (kpN cy Fs Ft t (bdN ink mn m 0)))), (0, .ref x), (1, .int m)]) rfl ?_
    have L27 : ∀ (j27 : Nat) (vs : Nat) (vo : Option Nat), (vs ≤ 2 ^ cy 4 ∧ vo = bestO (fun s => (kpN cy Fs Ft t (bdN ink mn m 0)).testBit s) (fun p q => decide (pop8 p < pop8 q)) vs) → 2 ^ cy 4 - vs < j27 → V E Z 27 [(0, .ref x), (1, .int m), (2, .long (lN (kpN cy Fs Ft t (bdN ink mn m 0)))), (4, .int (optI vo)), (5, .int (nI vs))] [] [ob x 6 [.ref (xa 0), .ref g, .ref (xa 2), .ref (xa 3), .ref (xa 4), .ref (xa 5), .ref (xa 6), .ref (xa 7), .int (nI tr), .int (nI fl), .int pl], ob g 0 [.int (nI (cy 0)), .int (nI (cy 1)), .int (nI (cy 2)), .int (nI (cy 3)), .int (nI (cy 4)), .int (nI (cy 5)), .int (nI (cy 6)), .int (nI (cy 7)), .ref (ca 0), .ref (ca 1), .ref (ca 2), .ref (ca 3), .ref (ca 4), .ref (ca 5), .ref (ca 6), .ref (ca 7), .ref (ca 8), .ref (ca 9), .ref (ca 10), .ref (ca 11)], aM E (ca 5) 8 Fs, aM E (ca 6) 8 Ft, ob (xa 3) 2 [.ref hi, .ref hm, .int (nI t), .int (nI dd)], aN E hi 8 ink, aI E hm 8 mn] 0 0 := by
      intro j27
      induction j27 with
      | zero => intro vs vo hI hM; exact absurd hM (Nat.not_lt_zero _)
      | succ j27 ih27 =>
        intro vs vo hI27 hM27
        obtain ⟨hc, ho⟩ := id hI27
        rcases vo with _ | vq
        · refine V.cast (lv' := [(0, .ref x), (1, .int m), (2, .long (lN (kpN cy Fs Ft t (bdN ink mn m 0)))), (4, .int (-2)), (5, .int (nI vs))]) rfl rfl rfl ?_
          refine v_iload X dX6_idlest_27 4 rfl ?_
          refine v_aload_n X dX6_idlest_29 rfl 0 rfl ?_
          refine v_roI1 X (rn_V X k_X6_setCount ml_X6_160 dX6_idlest_30 (c_X6_setCount l E x xa g tr fl pl cy ca (by first | assumption | omega)) rfl 0 rfl rfl (by decide) (by decide) (by omega) (by omega) (Nat.le_of_ble_eq_true rfl)) [0, 1] rfl rfl ?_
          refine v_icmpN_ge X dX6_idlest_33 (tgt := 75) (by decide) (by omega) (by omega) (fun h33 => ?_) (fun h33 => ?_)
          · refine v_aload_n X dX6_idlest_75 rfl 0 rfl ?_
            refine v_iload X dX6_idlest_76 3 rfl ?_
            refine v_wrI1 X (rn_V X k_X6_answered ml_X6_92 dX6_idlest_78 (c_X6_answered l E x xa g tr fl pl (-2) ) rfl 0 rfl rfl (by decide) (by decide) (by omega) (by omega) (Nat.le_of_ble_eq_true rfl)) [0] rfl rfl (ws' := [ob x 6 [.ref (xa 0), .ref g, .ref (xa 2), .ref (xa 3), .ref (xa 4), .ref (xa 5), .ref (xa 6), .ref (xa 7), .int (nI 0), .int (nI fl), .int pl], ob g 0 [.int (nI (cy 0)), .int (nI (cy 1)), .int (nI (cy 2)), .int (nI (cy 3)), .int (nI (cy 4)), .int (nI (cy 5)), .int (nI (cy 6)), .int (nI (cy 7)), .ref (ca 0), .ref (ca 1), .ref (ca 2), .ref (ca 3), .ref (ca 4), .ref (ca 5), .ref (ca 6), .ref (ca 7), .ref (ca 8), .ref (ca 9), .ref (ca 10), .ref (ca 11)], aM E (ca 5) 8 Fs, aM E (ca 6) 8 Ft, ob (xa 3) 2 [.ref hi, .ref hm, .int (nI t), .int (nI dd)], aN E hi 8 ink, aI E hm 8 mn]) rfl rfl ?_
            exact v_iret X Y dX6_idlest_81 (wrI_of (by rw [if_pos (of_decide_eq_true h5)]) ((by rw [if_pos (of_decide_eq_true h5), show 2 ^ cy 4 = vs by omega, ← ho]; rfl))) (by omega) (by omega)
          · refine v_lload_n X dX6_idlest_36 rfl 2 rfl ?_
            refine v_iload X dX6_idlest_37 4 rfl ?_
            refine v_roI1 X (rn_S X k_X6_isIn ml_X6_137 dX6_idlest_39 (c_X6_isIn l E (kpN cy Fs Ft t (bdN ink mn m 0)) vs (kpN_lt hd _ _ _ _) (by omega)) rfl (by decide) (by decide) (by omega) (by omega) (Nat.le_of_ble_eq_true rfl)) [] rfl rfl ?_
            refine v_ifB_eq X dX6_idlest_42 (tgt := 69) (by decide) (fun h42 => ?_) (fun h42 => ?_)
            · refine v_iinc X dX6_idlest_69 4 rfl (v := nI (vs + 1)) (nI_inc vs) (by decide) (lv' := [(5, .int (nI (vs + 1))), (0, .ref x), (1, .int m), (2, .long (lN (kpN cy Fs Ft t (bdN ink mn m 0)))), (4, .int (-2))]) rfl ?_
              refine v_goto X dX6_idlest_72 (tgt := 27) (by decide) ?_
              refine V.lvs [1, 2, 3, 4, 0] rfl ?_
              exact ih27 (vs + 1) none (⟨by omega, bestO_no ho (h42)⟩) (by omega)
            · refine v_iload X dX6_idlest_45 3 rfl ?_
              refine v_bipush X dX6_idlest_47 (v := (-2)) (by decide) ?_
              refine v_icmp_eq X dX6_idlest_49 (tgt := 65) (by decide) (fun h49 => ?_) (fun h49 => ?_)
              · refine v_iload X dX6_idlest_65 4 rfl ?_
                refine v_istore X dX6_idlest_67 (by decide) (lv' := [(4, .int (nI vs)), (0, .ref x), (1, .int m), (2, .long (lN (kpN cy Fs Ft t (bdN ink mn m 0)))), (5, .int (nI vs))]) rfl ?_
                refine v_iinc X dX6_idlest_69 4 rfl (v := nI (vs + 1)) (nI_inc vs) (by decide) (lv' := [(5, .int (nI (vs + 1))), (4, .int (nI vs)), (0, .ref x), (1, .int m), (2, .long (lN (kpN cy Fs Ft t (bdN ink mn m 0))))]) rfl ?_
                refine v_goto X dX6_idlest_72 (tgt := 27) (by decide) ?_
                refine V.lvs [2, 3, 4, 1, 0] rfl ?_
                exact ih27 (vs + 1) (some vs) (⟨by omega, bestO_0 ho (h42)⟩) (by omega)
              · exact absurd rfl h49
        · have hvq := bestO_lt ho
          refine V.cast (lv' := [(0, .ref x), (1, .int m), (2, .long (lN (kpN cy Fs Ft t (bdN ink mn m 0)))), (4, .int (nI vq)), (5, .int (nI vs))]) rfl rfl rfl ?_
          refine v_iload X dX6_idlest_27 4 rfl ?_
          refine v_aload_n X dX6_idlest_29 rfl 0 rfl ?_
          refine v_roI1 X (rn_V X k_X6_setCount ml_X6_160 dX6_idlest_30 (c_X6_setCount l E x xa g tr fl pl cy ca (by first | assumption | omega)) rfl 0 rfl rfl (by decide) (by decide) (by omega) (by omega) (Nat.le_of_ble_eq_true rfl)) [0, 1] rfl rfl ?_
          refine v_icmpN_ge X dX6_idlest_33 (tgt := 75) (by decide) (by omega) (by omega) (fun h33 => ?_) (fun h33 => ?_)
          · refine v_aload_n X dX6_idlest_75 rfl 0 rfl ?_
            refine v_iload X dX6_idlest_76 3 rfl ?_
            refine v_wrI1 X (rn_V X k_X6_answered ml_X6_92 dX6_idlest_78 (c_X6_answered l E x xa g tr fl pl (nI vq) ) rfl 0 rfl rfl (by decide) (by decide) (by omega) (by omega) (Nat.le_of_ble_eq_true rfl)) [0] rfl rfl (ws' := [ob x 6 [.ref (xa 0), .ref g, .ref (xa 2), .ref (xa 3), .ref (xa 4), .ref (xa 5), .ref (xa 6), .ref (xa 7), .int (nI 0), .int (nI fl), .int pl], ob g 0 [.int (nI (cy 0)), .int (nI (cy 1)), .int (nI (cy 2)), .int (nI (cy 3)), .int (nI (cy 4)), .int (nI (cy 5)), .int (nI (cy 6)), .int (nI (cy 7)), .ref (ca 0), .ref (ca 1), .ref (ca 2), .ref (ca 3), .ref (ca 4), .ref (ca 5), .ref (ca 6), .ref (ca 7), .ref (ca 8), .ref (ca 9), .ref (ca 10), .ref (ca 11)], aM E (ca 5) 8 Fs, aM E (ca 6) 8 Ft, ob (xa 3) 2 [.ref hi, .ref hm, .int (nI t), .int (nI dd)], aN E hi 8 ink, aI E hm 8 mn]) rfl rfl ?_
            exact v_iret X Y dX6_idlest_81 (wrI_of (by rw [if_pos (of_decide_eq_true h5)]) ((by rw [if_pos (of_decide_eq_true h5), show 2 ^ cy 4 = vs by omega, ← ho]; rfl))) (by omega) (by omega)
          · refine v_lload_n X dX6_idlest_36 rfl 2 rfl ?_
            refine v_iload X dX6_idlest_37 4 rfl ?_
            refine v_roI1 X (rn_S X k_X6_isIn ml_X6_137 dX6_idlest_39 (c_X6_isIn l E (kpN cy Fs Ft t (bdN ink mn m 0)) vs (kpN_lt hd _ _ _ _) (by omega)) rfl (by decide) (by decide) (by omega) (by omega) (Nat.le_of_ble_eq_true rfl)) [] rfl rfl ?_
            refine v_ifB_eq X dX6_idlest_42 (tgt := 69) (by decide) (fun h42 => ?_) (fun h42 => ?_)
            · refine v_iinc X dX6_idlest_69 4 rfl (v := nI (vs + 1)) (nI_inc vs) (by decide) (lv' := [(5, .int (nI (vs + 1))), (0, .ref x), (1, .int m), (2, .long (lN (kpN cy Fs Ft t (bdN ink mn m 0)))), (4, .int (nI vq))]) rfl ?_
              refine v_goto X dX6_idlest_72 (tgt := 27) (by decide) ?_
              refine V.lvs [1, 2, 3, 4, 0] rfl ?_
              exact ih27 (vs + 1) (some vq) (⟨by omega, bestO_no ho (h42)⟩) (by omega)
            · refine v_iload X dX6_idlest_45 3 rfl ?_
              refine v_bipush X dX6_idlest_47 (v := (-2)) (by decide) ?_
              refine v_icmp_eq X dX6_idlest_49 (tgt := 65) (by decide) (fun h49 => ?_) (fun h49 => ?_)
              · exact (nm2 h49 (by omega)).elim
              · refine v_iload X dX6_idlest_52 4 rfl ?_
                refine v_roI1 X (rn_S X k_J6_bitCount_0f7a4 ml_X6_164 dX6_idlest_54 (c_J6_bitCount_0f7a4 l E vs (by omega)) rfl (by decide) (by decide) (by omega) (by omega) (Nat.le_of_ble_eq_true rfl)) [] rfl rfl ?_
                refine v_iload X dX6_idlest_57 3 rfl ?_
                refine v_roI1 X (rn_S X k_J6_bitCount_0f7a4 ml_X6_164 dX6_idlest_59 (c_J6_bitCount_0f7a4 l E vq (by omega)) rfl (by decide) (by decide) (by omega) (by omega) (Nat.le_of_ble_eq_true rfl)) [] rfl rfl ?_
                refine v_icmpN_ge X dX6_idlest_62 (tgt := 69) (by decide) (Nat.lt_of_le_of_lt (cnt_le _ _) (by decide)) (Nat.lt_of_le_of_lt (cnt_le _ _) (by decide)) (fun h62 => ?_) (fun h62 => ?_)
                · refine v_iinc X dX6_idlest_69 4 rfl (v := nI (vs + 1)) (nI_inc vs) (by decide) (lv' := [(5, .int (nI (vs + 1))), (0, .ref x), (1, .int m), (2, .long (lN (kpN cy Fs Ft t (bdN ink mn m 0)))), (4, .int (nI vq))]) rfl ?_
                  refine v_goto X dX6_idlest_72 (tgt := 27) (by decide) ?_
                  refine V.lvs [1, 2, 3, 4, 0] rfl ?_
                  exact ih27 (vs + 1) (some vq) (⟨by omega, bestO_2 ho (h42) (decide_eq_false (by first | exact Nat.not_lt.mpr h62 | exact h62))⟩) (by omega)
                · refine v_iload X dX6_idlest_65 4 rfl ?_
                  refine v_istore X dX6_idlest_67 (by decide) (lv' := [(4, .int (nI vs)), (0, .ref x), (1, .int m), (2, .long (lN (kpN cy Fs Ft t (bdN ink mn m 0)))), (5, .int (nI vs))]) rfl ?_
                  refine v_iinc X dX6_idlest_69 4 rfl (v := nI (vs + 1)) (nI_inc vs) (by decide) (lv' := [(5, .int (nI (vs + 1))), (4, .int (nI vs)), (0, .ref x), (1, .int m), (2, .long (lN (kpN cy Fs Ft t (bdN ink mn m 0))))]) rfl ?_
                  refine v_goto X dX6_idlest_72 (tgt := 27) (by decide) ?_
                  refine V.lvs [2, 3, 4, 1, 0] rfl ?_
                  exact ih27 (vs + 1) (some vs) (⟨by omega, bestO_1 ho (h42) (decide_eq_true (by first | exact Nat.not_le.mp h62 | exact h62))⟩) (by omega)
    refine V.lvs [3, 4, 2, 1, 0] rfl ?_
    exact L27 _ 0 none (⟨Nat.zero_le _, rfl⟩) (Nat.lt_succ_self _)
  · refine v_aload_n X dX6_idlest_8 rfl 0 rfl ?_
    refine v_iconst X dX6_idlest_9 (v := nI 1) (by decide) ?_
    refine v_wrI1 X (rn_V X k_X6_refused ml_X6_74 dX6_idlest_10 (c_X6_refused l E x xa g tr fl pl 1 ) rfl 0 rfl rfl (by decide) (by decide) (by omega) (by omega) (Nat.le_of_ble_eq_true rfl)) [0] rfl rfl (ws' := [ob x 6 [.ref (xa 0), .ref g, .ref (xa 2), .ref (xa 3), .ref (xa 4), .ref (xa 5), .ref (xa 6), .ref (xa 7), .int (nI 1), .int (nI fl), .int pl], ob g 0 [.int (nI (cy 0)), .int (nI (cy 1)), .int (nI (cy 2)), .int (nI (cy 3)), .int (nI (cy 4)), .int (nI (cy 5)), .int (nI (cy 6)), .int (nI (cy 7)), .ref (ca 0), .ref (ca 1), .ref (ca 2), .ref (ca 3), .ref (ca 4), .ref (ca 5), .ref (ca 6), .ref (ca 7), .ref (ca 8), .ref (ca 9), .ref (ca 10), .ref (ca 11)], aM E (ca 5) 8 Fs, aM E (ca 6) 8 Ft, ob (xa 3) 2 [.ref hi, .ref hm, .int (nI t), .int (nI dd)], aN E hi 8 ink, aI E hm 8 mn]) rfl rfl ?_
    exact v_iret X Y dX6_idlest_13 (wrI_of (by rw [if_neg (of_decide_eq_false h5)]) ((if_neg (of_decide_eq_false h5)).symm)) (by omega) (by omega)
set_option maxRecDepth 100000 in
set_option maxHeartbeats 4000000 in
theorem c_X6_bar (l : Launch) (E : Et) (x : Nat) (xa : Nat → Nat) (g : Nat) (tr : Nat) (fl : Nat) (pl : Int32) (cy : Nat → Nat) (ca : Nat → Nat) (Fs : Nat → Nat) (Ft : Nat → Nat) (hi : Nat) (hm : Nat) (t : Nat) (dd : Nat) (ink : Nat → Nat) (mn : Nat → Int32) (m : Int32) (hd : cy 4 ≤ 6) (hcl : cy 5 ≤ 8) (hmen : cy 3 ≤ 4) (ht : t < 256) (hink : ∀ c, ink c ≤ 40) : Ct l E yX6_bar cX6_bar 5 (some .int) 6 0 0 [.ref x, .int m] [ob x 6 [.ref (xa 0), .ref g, .ref (xa 2), .ref (xa 3), .ref (xa 4), .ref (xa 5), .ref (xa 6), .ref (xa 7), .int (nI tr), .int (nI fl), .int pl], ob g 0 [.int (nI (cy 0)), .int (nI (cy 1)), .int (nI (cy 2)), .int (nI (cy 3)), .int (nI (cy 4)), .int (nI (cy 5)), .int (nI (cy 6)), .int (nI (cy 7)), .ref (ca 0), .ref (ca 1), .ref (ca 2), .ref (ca 3), .ref (ca 4), .ref (ca 5), .ref (ca 6), .ref (ca 7), .ref (ca 8), .ref (ca 9), .ref (ca 10), .ref (ca 11)], aM E (ca 5) 8 Fs, aM E (ca 6) 8 Ft, ob (xa 3) 2 [.ref hi, .ref hm, .int (nI t), .int (nI dd)], aN E hi 8 ink, aI E hm 8 mn] (wrI [ob x 6 [.ref (xa 0), .ref g, .ref (xa 2), .ref (xa 3), .ref (xa 4), .ref (xa 5), .ref (xa 6), .ref (xa 7), .int (nI (if okM m (cy 3) then 0 else 1)), .int (nI fl), .int pl], ob g 0 [.int (nI (cy 0)), .int (nI (cy 1)), .int (nI (cy 2)), .int (nI (cy 3)), .int (nI (cy 4)), .int (nI (cy 5)), .int (nI (cy 6)), .int (nI (cy 7)), .ref (ca 0), .ref (ca 1), .ref (ca 2), .ref (ca 3), .ref (ca 4), .ref (ca 5), .ref (ca 6), .ref (ca 7), .ref (ca 8), .ref (ca 9), .ref (ca 10), .ref (ca 11)], aM E (ca 5) 8 Fs, aM E (ca 6) 8 Ft, ob (xa 3) 2 [.ref hi, .ref hm, .int (nI t), .int (nI dd)], aN E hi 8 ink, aI E hm 8 mn] (if okM m (cy 3) then optI (bestO (fun p => decide (ndf p (bdN ink mn m 0) = 0 ∧ kpN cy Fs Ft t p = 0)) (fun p q => decide (pop8 p < pop8 q)) (bdN ink mn m 0 + 1)) else (-1))) := by
  refine Ct.intro (by decide +kernel) (Nat.le_of_ble_eq_true rfl) (lv := [(0, .ref x), (1, .int m)]) rfl ?_
  intro Z X Y
  have hb256 : bdN ink mn m 0 < 256 := bdN_lt _ _ _ _
  refine v_aload_n X dX6_bar_0 rfl 0 rfl ?_
  refine v_iload_n X dX6_bar_1 rfl 1 rfl ?_
  refine v_roI1 X (rn_V X k_X6_isMan ml_X6_117 dX6_bar_2 (c_X6_isMan l E x xa g tr fl pl cy ca m ) rfl 0 rfl rfl (by decide) (by decide) (by omega) (by omega) (Nat.le_of_ble_eq_true rfl)) [0, 1] rfl rfl ?_
  refine v_ifB_ne X dX6_bar_5 (tgt := 14) (by decide) (fun h5 => ?_) (fun h5 => ?_)
  · refine v_aload_n X dX6_bar_14 rfl 0 rfl ?_
    refine v_iload_n X dX6_bar_15 rfl 1 rfl ?_
    refine v_iconst X dX6_bar_16 (v := nI 0) (by decide) ?_
    refine v_roI1 X (rn_V X k_X6_bound ml_X6_123 dX6_bar_17 (c_X6_bound l E x xa g tr fl pl hi hm t dd ink mn m 0 (by first | assumption | omega) (by omega)) rfl 0 rfl rfl (by decide) (by decide) (by omega) (by omega) (Nat.le_of_ble_eq_true rfl)) [0, 4, 5, 6] rfl rfl ?_
    refine v_istore_n X dX6_bar_20 rfl (by decide) (lv' := [(2, .int (nI (bdN ink mn m 0))), (0, .ref x), (1, .int m)]) rfl ?_
    refine v_bipush X dX6_bar_21 (v := (-2)) (by decide) ?_
    refine v_istore_n X dX6_bar_23 rfl (by decide) (lv' := [(3, .int (-2)), (2, .int (nI (bdN ink mn m 0))), (0, .ref x), (1, .int m)]) rfl ?_
    refine v_iconst X dX6_bar_24 (v := nI 0) (by decide) ?_
    refine v_istore X dX6_bar_25 (by decide) (lv' := [(4, .int (nI 0)), (3, .int (-2)), (2, .int (nI (bdN ink mn m 0))), (0, .ref x), (1, .int m)]) rfl ?_
    have L27 : ∀ (j27 : Nat) (vp : Nat) (vo : Option Nat), (vp ≤ bdN ink mn m 0 + 1 ∧ vo = bestO (fun p => decide (ndf p (bdN ink mn m 0) = 0 ∧ kpN cy Fs Ft t p = 0)) (fun p q => decide (pop8 p < pop8 q)) vp) → bdN ink mn m 0 + 1 - vp < j27 → V E Z 27 [(0, .ref x), (1, .int m), (2, .int (nI (bdN ink mn m 0))), (3, .int (optI vo)), (4, .int (nI vp))] [] [ob x 6 [.ref (xa 0), .ref g, .ref (xa 2), .ref (xa 3), .ref (xa 4), .ref (xa 5), .ref (xa 6), .ref (xa 7), .int (nI tr), .int (nI fl), .int pl], ob g 0 [.int (nI (cy 0)), .int (nI (cy 1)), .int (nI (cy 2)), .int (nI (cy 3)), .int (nI (cy 4)), .int (nI (cy 5)), .int (nI (cy 6)), .int (nI (cy 7)), .ref (ca 0), .ref (ca 1), .ref (ca 2), .ref (ca 3), .ref (ca 4), .ref (ca 5), .ref (ca 6), .ref (ca 7), .ref (ca 8), .ref (ca 9), .ref (ca 10), .ref (ca 11)], aM E (ca 5) 8 Fs, aM E (ca 6) 8 Ft, ob (xa 3) 2 [.ref hi, .ref hm, .int (nI t), .int (nI dd)], aN E hi 8 ink, aI E hm 8 mn] 0 0 := by
      intro j27
      induction j27 with
      | zero => intro vp vo hI hM; exact absurd hM (Nat.not_lt_zero _)
      | succ j27 ih27 =>
        intro vp vo hI27 hM27
        obtain ⟨hc, ho⟩ := id hI27
        rcases vo with _ | vq
        · refine V.cast (lv' := [(0, .ref x), (1, .int m), (2, .int (nI (bdN ink mn m 0))), (3, .int (-2)), (4, .int (nI vp))]) rfl rfl rfl ?_
          refine v_iload X dX6_bar_27 4 rfl ?_
          refine v_iload_n X dX6_bar_29 rfl 2 rfl ?_
          refine v_icmpN_gt X dX6_bar_30 (tgt := 80) (by decide) (by omega) (by omega) (fun h30 => ?_) (fun h30 => ?_)
          · refine v_aload_n X dX6_bar_80 rfl 0 rfl ?_
            refine v_iload_n X dX6_bar_81 rfl 3 rfl ?_
            refine v_wrI1 X (rn_V X k_X6_answered ml_X6_92 dX6_bar_82 (c_X6_answered l E x xa g tr fl pl (-2) ) rfl 0 rfl rfl (by decide) (by decide) (by omega) (by omega) (Nat.le_of_ble_eq_true rfl)) [0] rfl rfl (ws' := [ob x 6 [.ref (xa 0), .ref g, .ref (xa 2), .ref (xa 3), .ref (xa 4), .ref (xa 5), .ref (xa 6), .ref (xa 7), .int (nI 0), .int (nI fl), .int pl], ob g 0 [.int (nI (cy 0)), .int (nI (cy 1)), .int (nI (cy 2)), .int (nI (cy 3)), .int (nI (cy 4)), .int (nI (cy 5)), .int (nI (cy 6)), .int (nI (cy 7)), .ref (ca 0), .ref (ca 1), .ref (ca 2), .ref (ca 3), .ref (ca 4), .ref (ca 5), .ref (ca 6), .ref (ca 7), .ref (ca 8), .ref (ca 9), .ref (ca 10), .ref (ca 11)], aM E (ca 5) 8 Fs, aM E (ca 6) 8 Ft, ob (xa 3) 2 [.ref hi, .ref hm, .int (nI t), .int (nI dd)], aN E hi 8 ink, aI E hm 8 mn]) rfl rfl ?_
            exact v_iret X Y dX6_bar_85 (wrI_of (by rw [if_pos (of_decide_eq_true h5)]) ((by rw [if_pos (of_decide_eq_true h5), show bdN ink mn m 0 + 1 = vp by omega, ← ho]; rfl))) (by omega) (by omega)
          · refine v_iload X dX6_bar_33 4 rfl ?_
            refine v_iload_n X dX6_bar_35 rfl 2 rfl ?_
            refine v_roI1 X (rn_S X k_X6_isPart ml_X6_172 dX6_bar_36 (c_X6_isPart l E vp (bdN ink mn m 0) (by omega)) rfl (by decide) (by decide) (by omega) (by omega) (Nat.le_of_ble_eq_true rfl)) [] rfl rfl ?_
            refine v_ifB_eq X dX6_bar_39 (tgt := 74) (by decide) (fun h39 => ?_) (fun h39 => ?_)
            · refine v_iinc X dX6_bar_74 4 rfl (v := nI (vp + 1)) (nI_inc vp) (by decide) (lv' := [(4, .int (nI (vp + 1))), (0, .ref x), (1, .int m), (2, .int (nI (bdN ink mn m 0))), (3, .int (-2))]) rfl ?_
              refine v_goto X dX6_bar_77 (tgt := 27) (by decide) ?_
              refine V.lvs [1, 2, 3, 4, 0] rfl ?_
              exact ih27 (vp + 1) none (⟨by omega, bestO_no ho (decide_eq_false (fun q => of_decide_eq_false h39 q.1))⟩) (by omega)
            · refine v_aload_n X dX6_bar_42 rfl 0 rfl ?_
              refine v_iload X dX6_bar_43 4 rfl ?_
              refine v_roL1 X (rn_V X k_X6_setsUnder ml_X6_133 dX6_bar_45 (c_X6_setsUnder l E x xa g tr fl pl cy ca Fs Ft hi hm t dd ink mn vp (by first | assumption | omega) (by first | assumption | omega) (by first | assumption | omega) (by omega)) rfl 0 rfl rfl (by decide) (by decide) (by omega) (by omega) (Nat.le_of_ble_eq_true rfl)) [0, 1, 2, 3, 4, 5, 6] rfl rfl ?_
              refine v_lconst X dX6_bar_48 (v := lN 0) (by decide) ?_
              refine v_lcmp X dX6_bar_49 ?_
              refine v_ifLN_ne X dX6_bar_50 (tgt := 74) (by decide) (kpN_lt hd _ _ _ _) (by decide) (fun h50 => ?_) (fun h50 => ?_)
              · refine v_iinc X dX6_bar_74 4 rfl (v := nI (vp + 1)) (nI_inc vp) (by decide) (lv' := [(4, .int (nI (vp + 1))), (0, .ref x), (1, .int m), (2, .int (nI (bdN ink mn m 0))), (3, .int (-2))]) rfl ?_
                refine v_goto X dX6_bar_77 (tgt := 27) (by decide) ?_
                refine V.lvs [1, 2, 3, 4, 0] rfl ?_
                exact ih27 (vp + 1) none (⟨by omega, bestO_no ho (decide_eq_false (fun q => h50 q.2))⟩) (by omega)
              · refine v_iload_n X dX6_bar_53 rfl 3 rfl ?_
                refine v_bipush X dX6_bar_54 (v := (-2)) (by decide) ?_
                refine v_icmp_eq X dX6_bar_56 (tgt := 71) (by decide) (fun h56 => ?_) (fun h56 => ?_)
                · refine v_iload X dX6_bar_71 4 rfl ?_
                  refine v_istore_n X dX6_bar_73 rfl (by decide) (lv' := [(3, .int (nI vp)), (0, .ref x), (1, .int m), (2, .int (nI (bdN ink mn m 0))), (4, .int (nI vp))]) rfl ?_
                  refine v_iinc X dX6_bar_74 4 rfl (v := nI (vp + 1)) (nI_inc vp) (by decide) (lv' := [(4, .int (nI (vp + 1))), (3, .int (nI vp)), (0, .ref x), (1, .int m), (2, .int (nI (bdN ink mn m 0)))]) rfl ?_
                  refine v_goto X dX6_bar_77 (tgt := 27) (by decide) ?_
                  refine V.lvs [2, 3, 4, 1, 0] rfl ?_
                  exact ih27 (vp + 1) (some vp) (⟨by omega, bestO_0 ho (decide_eq_true ⟨of_decide_eq_true h39, h50⟩)⟩) (by omega)
                · exact absurd rfl h56
        · have hvq := bestO_lt ho
          refine V.cast (lv' := [(0, .ref x), (1, .int m), (2, .int (nI (bdN ink mn m 0))), (3, .int (nI vq)), (4, .int (nI vp))]) rfl rfl rfl ?_
          refine v_iload X dX6_bar_27 4 rfl ?_
          refine v_iload_n X dX6_bar_29 rfl 2 rfl ?_
          refine v_icmpN_gt X dX6_bar_30 (tgt := 80) (by decide) (by omega) (by omega) (fun h30 => ?_) (fun h30 => ?_)
          · refine v_aload_n X dX6_bar_80 rfl 0 rfl ?_
            refine v_iload_n X dX6_bar_81 rfl 3 rfl ?_
            refine v_wrI1 X (rn_V X k_X6_answered ml_X6_92 dX6_bar_82 (c_X6_answered l E x xa g tr fl pl (nI vq) ) rfl 0 rfl rfl (by decide) (by decide) (by omega) (by omega) (Nat.le_of_ble_eq_true rfl)) [0] rfl rfl (ws' := [ob x 6 [.ref (xa 0), .ref g, .ref (xa 2), .ref (xa 3), .ref (xa 4), .ref (xa 5), .ref (xa 6), .ref (xa 7), .int (nI 0), .int (nI fl), .int pl], ob g 0 [.int (nI (cy 0)), .int (nI (cy 1)), .int (nI (cy 2)), .int (nI (cy 3)), .int (nI (cy 4)), .int (nI (cy 5)), .int (nI (cy 6)), .int (nI (cy 7)), .ref (ca 0), .ref (ca 1), .ref (ca 2), .ref (ca 3), .ref (ca 4), .ref (ca 5), .ref (ca 6), .ref (ca 7), .ref (ca 8), .ref (ca 9), .ref (ca 10), .ref (ca 11)], aM E (ca 5) 8 Fs, aM E (ca 6) 8 Ft, ob (xa 3) 2 [.ref hi, .ref hm, .int (nI t), .int (nI dd)], aN E hi 8 ink, aI E hm 8 mn]) rfl rfl ?_
            exact v_iret X Y dX6_bar_85 (wrI_of (by rw [if_pos (of_decide_eq_true h5)]) ((by rw [if_pos (of_decide_eq_true h5), show bdN ink mn m 0 + 1 = vp by omega, ← ho]; rfl))) (by omega) (by omega)
          · refine v_iload X dX6_bar_33 4 rfl ?_
            refine v_iload_n X dX6_bar_35 rfl 2 rfl ?_
            refine v_roI1 X (rn_S X k_X6_isPart ml_X6_172 dX6_bar_36 (c_X6_isPart l E vp (bdN ink mn m 0) (by omega)) rfl (by decide) (by decide) (by omega) (by omega) (Nat.le_of_ble_eq_true rfl)) [] rfl rfl ?_
            refine v_ifB_eq X dX6_bar_39 (tgt := 74) (by decide) (fun h39 => ?_) (fun h39 => ?_)
            · refine v_iinc X dX6_bar_74 4 rfl (v := nI (vp + 1)) (nI_inc vp) (by decide) (lv' := [(4, .int (nI (vp + 1))), (0, .ref x), (1, .int m), (2, .int (nI (bdN ink mn m 0))), (3, .int (nI vq))]) rfl ?_
              refine v_goto X dX6_bar_77 (tgt := 27) (by decide) ?_
              refine V.lvs [1, 2, 3, 4, 0] rfl ?_
              exact ih27 (vp + 1) (some vq) (⟨by omega, bestO_no ho (decide_eq_false (fun q => of_decide_eq_false h39 q.1))⟩) (by omega)
            · refine v_aload_n X dX6_bar_42 rfl 0 rfl ?_
              refine v_iload X dX6_bar_43 4 rfl ?_
              refine v_roL1 X (rn_V X k_X6_setsUnder ml_X6_133 dX6_bar_45 (c_X6_setsUnder l E x xa g tr fl pl cy ca Fs Ft hi hm t dd ink mn vp (by first | assumption | omega) (by first | assumption | omega) (by first | assumption | omega) (by omega)) rfl 0 rfl rfl (by decide) (by decide) (by omega) (by omega) (Nat.le_of_ble_eq_true rfl)) [0, 1, 2, 3, 4, 5, 6] rfl rfl ?_
              refine v_lconst X dX6_bar_48 (v := lN 0) (by decide) ?_
              refine v_lcmp X dX6_bar_49 ?_
              refine v_ifLN_ne X dX6_bar_50 (tgt := 74) (by decide) (kpN_lt hd _ _ _ _) (by decide) (fun h50 => ?_) (fun h50 => ?_)
              · refine v_iinc X dX6_bar_74 4 rfl (v := nI (vp + 1)) (nI_inc vp) (by decide) (lv' := [(4, .int (nI (vp + 1))), (0, .ref x), (1, .int m), (2, .int (nI (bdN ink mn m 0))), (3, .int (nI vq))]) rfl ?_
                refine v_goto X dX6_bar_77 (tgt := 27) (by decide) ?_
                refine V.lvs [1, 2, 3, 4, 0] rfl ?_
                exact ih27 (vp + 1) (some vq) (⟨by omega, bestO_no ho (decide_eq_false (fun q => h50 q.2))⟩) (by omega)
              · refine v_iload_n X dX6_bar_53 rfl 3 rfl ?_
                refine v_bipush X dX6_bar_54 (v := (-2)) (by decide) ?_
                refine v_icmp_eq X dX6_bar_56 (tgt := 71) (by decide) (fun h56 => ?_) (fun h56 => ?_)
                · exact (nm2 h56 (by omega)).elim
                · refine v_iload X dX6_bar_59 4 rfl ?_
                  refine v_roI1 X (rn_S X k_J6_bitCount_0f7a4 ml_X6_164 dX6_bar_61 (c_J6_bitCount_0f7a4 l E vp (by omega)) rfl (by decide) (by decide) (by omega) (by omega) (Nat.le_of_ble_eq_true rfl)) [] rfl rfl ?_
                  refine v_iload_n X dX6_bar_64 rfl 3 rfl ?_
                  refine v_roI1 X (rn_S X k_J6_bitCount_0f7a4 ml_X6_164 dX6_bar_65 (c_J6_bitCount_0f7a4 l E vq (by omega)) rfl (by decide) (by decide) (by omega) (by omega) (Nat.le_of_ble_eq_true rfl)) [] rfl rfl ?_
                  refine v_icmpN_ge X dX6_bar_68 (tgt := 74) (by decide) (Nat.lt_of_le_of_lt (cnt_le _ _) (by decide)) (Nat.lt_of_le_of_lt (cnt_le _ _) (by decide)) (fun h68 => ?_) (fun h68 => ?_)
                  · refine v_iinc X dX6_bar_74 4 rfl (v := nI (vp + 1)) (nI_inc vp) (by decide) (lv' := [(4, .int (nI (vp + 1))), (0, .ref x), (1, .int m), (2, .int (nI (bdN ink mn m 0))), (3, .int (nI vq))]) rfl ?_
                    refine v_goto X dX6_bar_77 (tgt := 27) (by decide) ?_
                    refine V.lvs [1, 2, 3, 4, 0] rfl ?_
                    exact ih27 (vp + 1) (some vq) (⟨by omega, bestO_2 ho (decide_eq_true ⟨of_decide_eq_true h39, h50⟩) (decide_eq_false (by first | exact Nat.not_lt.mpr h68 | exact h68))⟩) (by omega)
                  · refine v_iload X dX6_bar_71 4 rfl ?_
                    refine v_istore_n X dX6_bar_73 rfl (by decide) (lv' := [(3, .int (nI vp)), (0, .ref x), (1, .int m), (2, .int (nI (bdN ink mn m 0))), (4, .int (nI vp))]) rfl ?_
                    refine v_iinc X dX6_bar_74 4 rfl (v := nI (vp + 1)) (nI_inc vp) (by decide) (lv' := [(4, .int (nI (vp + 1))), (3, .int (nI vp)), (0, .ref x), (1, .int m), (2, .int (nI (bdN ink mn m 0)))]) rfl ?_
                    refine v_goto X dX6_bar_77 (tgt := 27) (by decide) ?_
                    refine V.lvs [2, 3, 4, 1, 0] rfl ?_
                    exact ih27 (vp + 1) (some vp) (⟨by omega, bestO_1 ho (decide_eq_true ⟨of_decide_eq_true h39, h50⟩) (decide_eq_true (by first | exact Nat.not_le.mp h68 | exact h68))⟩) (by omega)
    refine V.lvs [3, 4, 2, 1, 0] rfl ?_
    exact L27 _ 0 none (⟨by omega, rfl⟩) (Nat.lt_succ_self _)
  · refine v_aload_n X dX6_bar_8 rfl 0 rfl ?_
    refine v_iconst X dX6_bar_9 (v := nI 1) (by decide) ?_
    refine v_wrI1 X (rn_V X k_X6_refused ml_X6_74 dX6_bar_10 (c_X6_refused l E x xa g tr fl pl 1 ) rfl 0 rfl rfl (by decide) (by decide) (by omega) (by omega) (Nat.le_of_ble_eq_true rfl)) [0] rfl rfl (ws' := [ob x 6 [.ref (xa 0), .ref g, .ref (xa 2), .ref (xa 3), .ref (xa 4), .ref (xa 5), .ref (xa 6), .ref (xa 7), .int (nI 1), .int (nI fl), .int pl], ob g 0 [.int (nI (cy 0)), .int (nI (cy 1)), .int (nI (cy 2)), .int (nI (cy 3)), .int (nI (cy 4)), .int (nI (cy 5)), .int (nI (cy 6)), .int (nI (cy 7)), .ref (ca 0), .ref (ca 1), .ref (ca 2), .ref (ca 3), .ref (ca 4), .ref (ca 5), .ref (ca 6), .ref (ca 7), .ref (ca 8), .ref (ca 9), .ref (ca 10), .ref (ca 11)], aM E (ca 5) 8 Fs, aM E (ca 6) 8 Ft, ob (xa 3) 2 [.ref hi, .ref hm, .int (nI t), .int (nI dd)], aN E hi 8 ink, aI E hm 8 mn]) rfl rfl ?_
    exact v_iret X Y dX6_bar_13 (wrI_of (by rw [if_neg (of_decide_eq_false h5)]) ((if_neg (of_decide_eq_false h5)).symm)) (by omega) (by omega)
set_option maxRecDepth 100000 in
set_option maxHeartbeats 4000000 in
theorem c_X6_free (l : Launch) (E : Et) (x : Nat) (xa : Nat → Nat) (g : Nat) (tr : Nat) (fl : Nat) (pl : Int32) (cy : Nat → Nat) (ca : Nat → Nat) (Fs : Nat → Nat) (Ft : Nat → Nat) (hi : Nat) (hm : Nat) (t : Nat) (dd : Nat) (ink : Nat → Nat) (mn : Nat → Int32) (m : Int32) (hd : cy 4 ≤ 6) (hcl : cy 5 ≤ 8) (hmen : cy 3 ≤ 4) (ht : t < 256) (hink : ∀ c, ink c ≤ 40) : Ct l E yX6_free cX6_free 5 (some .int) 6 0 0 [.ref x, .int m] [ob x 6 [.ref (xa 0), .ref g, .ref (xa 2), .ref (xa 3), .ref (xa 4), .ref (xa 5), .ref (xa 6), .ref (xa 7), .int (nI tr), .int (nI fl), .int pl], ob g 0 [.int (nI (cy 0)), .int (nI (cy 1)), .int (nI (cy 2)), .int (nI (cy 3)), .int (nI (cy 4)), .int (nI (cy 5)), .int (nI (cy 6)), .int (nI (cy 7)), .ref (ca 0), .ref (ca 1), .ref (ca 2), .ref (ca 3), .ref (ca 4), .ref (ca 5), .ref (ca 6), .ref (ca 7), .ref (ca 8), .ref (ca 9), .ref (ca 10), .ref (ca 11)], aM E (ca 5) 8 Fs, aM E (ca 6) 8 Ft, ob (xa 3) 2 [.ref hi, .ref hm, .int (nI t), .int (nI dd)], aN E hi 8 ink, aI E hm 8 mn] (wrI [ob x 6 [.ref (xa 0), .ref g, .ref (xa 2), .ref (xa 3), .ref (xa 4), .ref (xa 5), .ref (xa 6), .ref (xa 7), .int (nI (if okM m (cy 3) then 0 else 1)), .int (nI fl), .int pl], ob g 0 [.int (nI (cy 0)), .int (nI (cy 1)), .int (nI (cy 2)), .int (nI (cy 3)), .int (nI (cy 4)), .int (nI (cy 5)), .int (nI (cy 6)), .int (nI (cy 7)), .ref (ca 0), .ref (ca 1), .ref (ca 2), .ref (ca 3), .ref (ca 4), .ref (ca 5), .ref (ca 6), .ref (ca 7), .ref (ca 8), .ref (ca 9), .ref (ca 10), .ref (ca 11)], aM E (ca 5) 8 Fs, aM E (ca 6) 8 Ft, ob (xa 3) 2 [.ref hi, .ref hm, .int (nI t), .int (nI dd)], aN E hi 8 ink, aI E hm 8 mn] (if okM m (cy 3) then nI (bestF (fun p => decide (ndf p (bdN ink mn m 0) = 0 ∧ ¬ kpN cy Fs Ft t (ndf (bdN ink mn m 0) p) = 0)) pop8 (bdN ink mn m 0) (bdN ink mn m 0 + 1)) else (-1))) := by
  refine Ct.intro (by decide +kernel) (Nat.le_of_ble_eq_true rfl) (lv := [(0, .ref x), (1, .int m)]) rfl ?_
  intro Z X Y
  have hb256 : bdN ink mn m 0 < 256 := bdN_lt _ _ _ _
  refine v_aload_n X dX6_free_0 rfl 0 rfl ?_
  refine v_iload_n X dX6_free_1 rfl 1 rfl ?_
  refine v_roI1 X (rn_V X k_X6_isMan ml_X6_117 dX6_free_2 (c_X6_isMan l E x xa g tr fl pl cy ca m ) rfl 0 rfl rfl (by decide) (by decide) (by omega) (by omega) (Nat.le_of_ble_eq_true rfl)) [0, 1] rfl rfl ?_
  refine v_ifB_ne X dX6_free_5 (tgt := 14) (by decide) (fun h5 => ?_) (fun h5 => ?_)
  · refine v_aload_n X dX6_free_14 rfl 0 rfl ?_
    refine v_iload_n X dX6_free_15 rfl 1 rfl ?_
    refine v_iconst X dX6_free_16 (v := nI 0) (by decide) ?_
    refine v_roI1 X (rn_V X k_X6_bound ml_X6_123 dX6_free_17 (c_X6_bound l E x xa g tr fl pl hi hm t dd ink mn m 0 (by first | assumption | omega) (by omega)) rfl 0 rfl rfl (by decide) (by decide) (by omega) (by omega) (Nat.le_of_ble_eq_true rfl)) [0, 4, 5, 6] rfl rfl ?_
    refine v_istore_n X dX6_free_20 rfl (by decide) (lv' := [(2, .int (nI (bdN ink mn m 0))), (0, .ref x), (1, .int m)]) rfl ?_
    refine v_iload_n X dX6_free_21 rfl 0 rfl ?_
    refine v_istore_n X dX6_free_22 rfl (by decide) (lv' := [(3, .int (nI (bdN ink mn m 0))), (2, .int (nI (bdN ink mn m 0))), (0, .ref x), (1, .int m)]) rfl ?_
    refine v_iconst X dX6_free_23 (v := nI 0) (by decide) ?_
    refine v_istore X dX6_free_24 (by decide) (lv' := [(4, .int (nI 0)), (3, .int (nI (bdN ink mn m 0))), (2, .int (nI (bdN ink mn m 0))), (0, .ref x), (1, .int m)]) rfl ?_
    have L26 : ∀ (j26 : Nat) (vp : Nat) (vb : Nat), (vp ≤ bdN ink mn m 0 + 1 ∧ vb = bestF (fun p => decide (ndf p (bdN ink mn m 0) = 0 ∧ ¬ kpN cy Fs Ft t (ndf (bdN ink mn m 0) p) = 0)) pop8 (bdN ink mn m 0) vp) → bdN ink mn m 0 + 1 - vp < j26 → V E Z 26 [(0, .ref x), (1, .int m), (2, .int (nI (bdN ink mn m 0))), (3, .int (nI vb)), (4, .int (nI vp))] [] [ob x 6 [.ref (xa 0), .ref g, .ref (xa 2), .ref (xa 3), .ref (xa 4), .ref (xa 5), .ref (xa 6), .ref (xa 7), .int (nI tr), .int (nI fl), .int pl], ob g 0 [.int (nI (cy 0)), .int (nI (cy 1)), .int (nI (cy 2)), .int (nI (cy 3)), .int (nI (cy 4)), .int (nI (cy 5)), .int (nI (cy 6)), .int (nI (cy 7)), .ref (ca 0), .ref (ca 1), .ref (ca 2), .ref (ca 3), .ref (ca 4), .ref (ca 5), .ref (ca 6), .ref (ca 7), .ref (ca 8), .ref (ca 9), .ref (ca 10), .ref (ca 11)], aM E (ca 5) 8 Fs, aM E (ca 6) 8 Ft, ob (xa 3) 2 [.ref hi, .ref hm, .int (nI t), .int (nI dd)], aN E hi 8 ink, aI E hm 8 mn] 0 0 := by
      intro j26
      induction j26 with
      | zero => intro vp vb hI hM; exact absurd hM (Nat.not_lt_zero _)
      | succ j26 ih26 =>
        intro vp vb hI26 hM26
        obtain ⟨hc, hb⟩ := id hI26
        refine v_iload X dX6_free_26 4 rfl ?_
        refine v_iload_n X dX6_free_28 rfl 2 rfl ?_
        refine v_icmpN_gt X dX6_free_29 (tgt := 77) (by decide) (by omega) (by omega) (fun h29 => ?_) (fun h29 => ?_)
        · refine v_aload_n X dX6_free_77 rfl 0 rfl ?_
          refine v_iload_n X dX6_free_78 rfl 3 rfl ?_
          refine v_wrI1 X (rn_V X k_X6_answered ml_X6_92 dX6_free_79 (c_X6_answered l E x xa g tr fl pl (nI vb) ) rfl 0 rfl rfl (by decide) (by decide) (by omega) (by omega) (Nat.le_of_ble_eq_true rfl)) [0] rfl rfl (ws' := [ob x 6 [.ref (xa 0), .ref g, .ref (xa 2), .ref (xa 3), .ref (xa 4), .ref (xa 5), .ref (xa 6), .ref (xa 7), .int (nI 0), .int (nI fl), .int pl], ob g 0 [.int (nI (cy 0)), .int (nI (cy 1)), .int (nI (cy 2)), .int (nI (cy 3)), .int (nI (cy 4)), .int (nI (cy 5)), .int (nI (cy 6)), .int (nI (cy 7)), .ref (ca 0), .ref (ca 1), .ref (ca 2), .ref (ca 3), .ref (ca 4), .ref (ca 5), .ref (ca 6), .ref (ca 7), .ref (ca 8), .ref (ca 9), .ref (ca 10), .ref (ca 11)], aM E (ca 5) 8 Fs, aM E (ca 6) 8 Ft, ob (xa 3) 2 [.ref hi, .ref hm, .int (nI t), .int (nI dd)], aN E hi 8 ink, aI E hm 8 mn]) rfl rfl ?_
          exact v_iret X Y dX6_free_82 (wrI_of (by rw [if_pos (of_decide_eq_true h5)]) ((by rw [if_pos (of_decide_eq_true h5), show bdN ink mn m 0 + 1 = vp by omega, ← hb]))) (by omega) (by omega)
        · have hvb : vb ≤ bdN ink mn m 0 := by rw [hb]; exact bestF_le hc
          refine v_iload X dX6_free_32 4 rfl ?_
          refine v_iload_n X dX6_free_34 rfl 2 rfl ?_
          refine v_roI1 X (rn_S X k_X6_isPart ml_X6_172 dX6_free_35 (c_X6_isPart l E vp (bdN ink mn m 0) (by omega)) rfl (by decide) (by decide) (by omega) (by omega) (Nat.le_of_ble_eq_true rfl)) [] rfl rfl ?_
          refine v_ifB_eq X dX6_free_38 (tgt := 71) (by decide) (fun h38 => ?_) (fun h38 => ?_)
          · refine v_iinc X dX6_free_71 4 rfl (v := nI (vp + 1)) (nI_inc vp) (by decide) (lv' := [(4, .int (nI (vp + 1))), (0, .ref x), (1, .int m), (2, .int (nI (bdN ink mn m 0))), (3, .int (nI vb))]) rfl ?_
            refine v_goto X dX6_free_74 (tgt := 26) (by decide) ?_
            refine V.lvs [1, 2, 3, 4, 0] rfl ?_
            exact ih26 (vp + 1) vb (⟨by omega, by rw [hb]; exact (bestF_no (Or.inl (decide_eq_false (fun q => of_decide_eq_false h38 q.1)))).symm⟩) (by omega)
          · refine v_aload_n X dX6_free_41 rfl 0 rfl ?_
            refine v_iload_n X dX6_free_42 rfl 2 rfl ?_
            refine v_iload X dX6_free_43 4 rfl ?_
            refine v_iconst X dX6_free_45 (v := (-1)) (by decide) ?_
            refine v_ixor X dX6_free_46 ?_
            refine v_iand X dX6_free_47 ?_
            refine v_eqi (x' := nI (ndf (bdN ink mn m 0) vp)) (nI_andn _ _) ?_
            refine v_roL1 X (rn_V X k_X6_setsUnder ml_X6_133 dX6_free_48 (c_X6_setsUnder l E x xa g tr fl pl cy ca Fs Ft hi hm t dd ink mn (ndf (bdN ink mn m 0) vp) (by first | assumption | omega) (by first | assumption | omega) (by first | assumption | omega) (Nat.lt_trans (ndf_lt (n := 8) _ hb256) (by decide))) rfl 0 rfl rfl (by decide) (by decide) (by omega) (by omega) (Nat.le_of_ble_eq_true rfl)) [0, 1, 2, 3, 4, 5, 6] rfl rfl ?_
            refine v_lconst X dX6_free_51 (v := lN 0) (by decide) ?_
            refine v_lcmp X dX6_free_52 ?_
            refine v_ifLN_eq X dX6_free_53 (tgt := 71) (by decide) (kpN_lt hd _ _ _ _) (by decide) (fun h53 => ?_) (fun h53 => ?_)
            · refine v_iinc X dX6_free_71 4 rfl (v := nI (vp + 1)) (nI_inc vp) (by decide) (lv' := [(4, .int (nI (vp + 1))), (0, .ref x), (1, .int m), (2, .int (nI (bdN ink mn m 0))), (3, .int (nI vb))]) rfl ?_
              refine v_goto X dX6_free_74 (tgt := 26) (by decide) ?_
              refine V.lvs [1, 2, 3, 4, 0] rfl ?_
              exact ih26 (vp + 1) vb (⟨by omega, by rw [hb]; exact (bestF_no (Or.inl (decide_eq_false (fun q => q.2 h53)))).symm⟩) (by omega)
            · refine v_iload X dX6_free_56 4 rfl ?_
              refine v_roI1 X (rn_S X k_J6_bitCount_0f7a4 ml_X6_164 dX6_free_58 (c_J6_bitCount_0f7a4 l E vp (by omega)) rfl (by decide) (by decide) (by omega) (by omega) (Nat.le_of_ble_eq_true rfl)) [] rfl rfl ?_
              refine v_iload_n X dX6_free_61 rfl 3 rfl ?_
              refine v_roI1 X (rn_S X k_J6_bitCount_0f7a4 ml_X6_164 dX6_free_62 (c_J6_bitCount_0f7a4 l E vb (by omega)) rfl (by decide) (by decide) (by omega) (by omega) (Nat.le_of_ble_eq_true rfl)) [] rfl rfl ?_
              refine v_icmpN_ge X dX6_free_65 (tgt := 71) (by decide) (Nat.lt_of_le_of_lt (cnt_le _ _) (by decide)) (Nat.lt_of_le_of_lt (cnt_le _ _) (by decide)) (fun h65 => ?_) (fun h65 => ?_)
              · refine v_iinc X dX6_free_71 4 rfl (v := nI (vp + 1)) (nI_inc vp) (by decide) (lv' := [(4, .int (nI (vp + 1))), (0, .ref x), (1, .int m), (2, .int (nI (bdN ink mn m 0))), (3, .int (nI vb))]) rfl ?_
                refine v_goto X dX6_free_74 (tgt := 26) (by decide) ?_
                refine V.lvs [1, 2, 3, 4, 0] rfl ?_
                exact ih26 (vp + 1) vb (⟨by omega, by subst hb; exact (bestF_no (Or.inr (Nat.not_lt.mpr h65))).symm⟩) (by omega)
              · refine v_iload X dX6_free_68 4 rfl ?_
                refine v_istore_n X dX6_free_70 rfl (by decide) (lv' := [(3, .int (nI vp)), (0, .ref x), (1, .int m), (2, .int (nI (bdN ink mn m 0))), (4, .int (nI vp))]) rfl ?_
                refine v_iinc X dX6_free_71 4 rfl (v := nI (vp + 1)) (nI_inc vp) (by decide) (lv' := [(4, .int (nI (vp + 1))), (3, .int (nI vp)), (0, .ref x), (1, .int m), (2, .int (nI (bdN ink mn m 0)))]) rfl ?_
                refine v_goto X dX6_free_74 (tgt := 26) (by decide) ?_
                refine V.lvs [2, 3, 4, 1, 0] rfl ?_
                exact ih26 (vp + 1) vp (⟨by omega, by subst hb; exact (bestF_yes (decide_eq_true ⟨of_decide_eq_true h38, h53⟩) (Nat.not_le.mp h65)).symm⟩) (by omega)
    refine V.lvs [3, 4, 2, 1, 0] rfl ?_
    exact L26 _ 0 (bdN ink mn m 0) (⟨by omega, rfl⟩) (Nat.lt_succ_self _)
  · refine v_aload_n X dX6_free_8 rfl 0 rfl ?_
    refine v_iconst X dX6_free_9 (v := nI 1) (by decide) ?_
    refine v_wrI1 X (rn_V X k_X6_refused ml_X6_74 dX6_free_10 (c_X6_refused l E x xa g tr fl pl 1 ) rfl 0 rfl rfl (by decide) (by decide) (by omega) (by omega) (Nat.le_of_ble_eq_true rfl)) [0] rfl rfl (ws' := [ob x 6 [.ref (xa 0), .ref g, .ref (xa 2), .ref (xa 3), .ref (xa 4), .ref (xa 5), .ref (xa 6), .ref (xa 7), .int (nI 1), .int (nI fl), .int pl], ob g 0 [.int (nI (cy 0)), .int (nI (cy 1)), .int (nI (cy 2)), .int (nI (cy 3)), .int (nI (cy 4)), .int (nI (cy 5)), .int (nI (cy 6)), .int (nI (cy 7)), .ref (ca 0), .ref (ca 1), .ref (ca 2), .ref (ca 3), .ref (ca 4), .ref (ca 5), .ref (ca 6), .ref (ca 7), .ref (ca 8), .ref (ca 9), .ref (ca 10), .ref (ca 11)], aM E (ca 5) 8 Fs, aM E (ca 6) 8 Ft, ob (xa 3) 2 [.ref hi, .ref hm, .int (nI t), .int (nI dd)], aN E hi 8 ink, aI E hm 8 mn]) rfl rfl ?_
    exact v_iret X Y dX6_free_13 (wrI_of (by rw [if_neg (of_decide_eq_false h5)]) ((if_neg (of_decide_eq_false h5)).symm)) (by omega) (by omega)
set_option maxRecDepth 100000 in
set_option maxHeartbeats 4000000 in
theorem c_X6_idle (l : Launch) (E : Et) (x : Nat) (xa : Nat → Nat) (g : Nat) (tr : Nat) (fl : Nat) (pl : Int32) (cy : Nat → Nat) (ca : Nat → Nat) (Fs : Nat → Nat) (Ft : Nat → Nat) (hi : Nat) (hm : Nat) (t : Nat) (dd : Nat) (ink : Nat → Nat) (mn : Nat → Int32) (m : Int32) (hd : cy 4 ≤ 6) (hcl : cy 5 ≤ 8) (hmen : cy 3 ≤ 4) (ht : t < 256) (hink : ∀ c, ink c ≤ 40) : Ct l E yX6_idle cX6_idle 7 (some .int) 6 0 0 [.ref x, .int m] [ob x 6 [.ref (xa 0), .ref g, .ref (xa 2), .ref (xa 3), .ref (xa 4), .ref (xa 5), .ref (xa 6), .ref (xa 7), .int (nI tr), .int (nI fl), .int pl], ob g 0 [.int (nI (cy 0)), .int (nI (cy 1)), .int (nI (cy 2)), .int (nI (cy 3)), .int (nI (cy 4)), .int (nI (cy 5)), .int (nI (cy 6)), .int (nI (cy 7)), .ref (ca 0), .ref (ca 1), .ref (ca 2), .ref (ca 3), .ref (ca 4), .ref (ca 5), .ref (ca 6), .ref (ca 7), .ref (ca 8), .ref (ca 9), .ref (ca 10), .ref (ca 11)], aM E (ca 5) 8 Fs, aM E (ca 6) 8 Ft, ob (xa 3) 2 [.ref hi, .ref hm, .int (nI t), .int (nI dd)], aN E hi 8 ink, aI E hm 8 mn] (wrI [ob x 6 [.ref (xa 0), .ref g, .ref (xa 2), .ref (xa 3), .ref (xa 4), .ref (xa 5), .ref (xa 6), .ref (xa 7), .int (nI (if okM m (cy 3) then 0 else 1)), .int (nI fl), .int pl], ob g 0 [.int (nI (cy 0)), .int (nI (cy 1)), .int (nI (cy 2)), .int (nI (cy 3)), .int (nI (cy 4)), .int (nI (cy 5)), .int (nI (cy 6)), .int (nI (cy 7)), .ref (ca 0), .ref (ca 1), .ref (ca 2), .ref (ca 3), .ref (ca 4), .ref (ca 5), .ref (ca 6), .ref (ca 7), .ref (ca 8), .ref (ca 9), .ref (ca 10), .ref (ca 11)], aM E (ca 5) 8 Fs, aM E (ca 6) 8 Ft, ob (xa 3) 2 [.ref hi, .ref hm, .int (nI t), .int (nI dd)], aN E hi 8 ink, aI E hm 8 mn] (if okM m (cy 3) then nI (bbits (fun c => decide ((bdN ink mn m 0).testBit c = true ∧ kpN cy Fs Ft t (ndf (bdN ink mn m 0) (2 ^ c)) = kpN cy Fs Ft t (bdN ink mn m 0))) (cy 5)) else (-1))) := by
  refine Ct.intro (by decide +kernel) (Nat.le_of_ble_eq_true rfl) (lv := [(0, .ref x), (1, .int m)]) rfl ?_
  intro Z X Y
  have hb256 : bdN ink mn m 0 < 256 := bdN_lt _ _ _ _
  refine v_aload_n X dX6_idle_0 rfl 0 rfl ?_
  refine v_iload_n X dX6_idle_1 rfl 1 rfl ?_
  refine v_roI1 X (rn_V X k_X6_isMan ml_X6_117 dX6_idle_2 (c_X6_isMan l E x xa g tr fl pl cy ca m ) rfl 0 rfl rfl (by decide) (by decide) (by omega) (by omega) (Nat.le_of_ble_eq_true rfl)) [0, 1] rfl rfl ?_
  refine v_ifB_ne X dX6_idle_5 (tgt := 14) (by decide) (fun h5 => ?_) (fun h5 => ?_)
  · refine v_aload_n X dX6_idle_14 rfl 0 rfl ?_
    refine v_iload_n X dX6_idle_15 rfl 1 rfl ?_
    refine v_iconst X dX6_idle_16 (v := nI 0) (by decide) ?_
    refine v_roI1 X (rn_V X k_X6_bound ml_X6_123 dX6_idle_17 (c_X6_bound l E x xa g tr fl pl hi hm t dd ink mn m 0 (by first | assumption | omega) (by omega)) rfl 0 rfl rfl (by decide) (by decide) (by omega) (by omega) (Nat.le_of_ble_eq_true rfl)) [0, 4, 5, 6] rfl rfl ?_
    refine v_istore_n X dX6_idle_20 rfl (by decide) (lv' := [(2, .int (nI (bdN ink mn m 0))), (0, .ref x), (1, .int m)]) rfl ?_
    refine v_aload_n X dX6_idle_21 rfl 1 rfl ?_
    refine v_iload_n X dX6_idle_22 rfl 0 rfl ?_
    refine v_roL1 X (rn_V X k_X6_setsUnder ml_X6_133 dX6_idle_23 (c_X6_setsUnder l E x xa g tr fl pl cy ca Fs Ft hi hm t dd ink mn (bdN ink mn m 0) (by first | assumption | omega) (by first | assumption | omega) (by first | assumption | omega) (by omega)) rfl 0 rfl rfl (by decide) (by decide) (by omega) (by omega) (Nat.le_of_ble_eq_true rfl)) [0, 1, 2, 3, 4, 5, 6] rfl rfl ?_
    refine v_lstore_n X dX6_idle_26 rfl (by decide) (lv' := [(3, .long (lN (kpN cy Fs Ft t (bdN ink mn m 0)))), (2, .int (nI (bdN ink mn m 0))), (0, .ref x), (1, .int m)]) rfl ?_
    refine v_iconst X dX6_idle_27 (v := nI 0) (by decide) ?_
    refine v_istore X dX6_idle_28 (by decide) (lv' := [(5, .int (nI 0)), (3, .long (lN (kpN cy Fs Ft t (bdN ink mn m 0)))), (2, .int (nI (bdN ink mn m 0))), (0, .ref x), (1, .int m)]) rfl ?_
    refine v_iconst X dX6_idle_30 (v := nI 0) (by decide) ?_
    refine v_istore X dX6_idle_31 (by decide) (lv' := [(6, .int (nI 0)), (5, .int (nI 0)), (3, .long (lN (kpN cy Fs Ft t (bdN ink mn m 0)))), (2, .int (nI (bdN ink mn m 0))), (0, .ref x), (1, .int m)]) rfl ?_
    have L33 : ∀ (j33 : Nat) (vc : Nat) (vb : Nat), (vc ≤ cy 5 ∧ vb = bbits (fun c => decide ((bdN ink mn m 0).testBit c = true ∧ kpN cy Fs Ft t (ndf (bdN ink mn m 0) (2 ^ c)) = kpN cy Fs Ft t (bdN ink mn m 0))) vc) → cy 5 - vc < j33 → V E Z 33 [(0, .ref x), (1, .int m), (2, .int (nI (bdN ink mn m 0))), (3, .long (lN (kpN cy Fs Ft t (bdN ink mn m 0)))), (5, .int (nI vb)), (6, .int (nI vc))] [] [ob x 6 [.ref (xa 0), .ref g, .ref (xa 2), .ref (xa 3), .ref (xa 4), .ref (xa 5), .ref (xa 6), .ref (xa 7), .int (nI tr), .int (nI fl), .int pl], ob g 0 [.int (nI (cy 0)), .int (nI (cy 1)), .int (nI (cy 2)), .int (nI (cy 3)), .int (nI (cy 4)), .int (nI (cy 5)), .int (nI (cy 6)), .int (nI (cy 7)), .ref (ca 0), .ref (ca 1), .ref (ca 2), .ref (ca 3), .ref (ca 4), .ref (ca 5), .ref (ca 6), .ref (ca 7), .ref (ca 8), .ref (ca 9), .ref (ca 10), .ref (ca 11)], aM E (ca 5) 8 Fs, aM E (ca 6) 8 Ft, ob (xa 3) 2 [.ref hi, .ref hm, .int (nI t), .int (nI dd)], aN E hi 8 ink, aI E hm 8 mn] 0 0 := by
      intro j33
      induction j33 with
      | zero => intro vc vb hI hM; exact absurd hM (Nat.not_lt_zero _)
      | succ j33 ih33 =>
        intro vc vb hI33 hM33
        obtain ⟨hc, hb⟩ := id hI33
        refine v_iload X dX6_idle_33 5 rfl ?_
        refine v_aload_n X dX6_idle_35 rfl 0 rfl ?_
        refine v_get X kcX6 fl_X6_19 dX6_idle_36 0 rfl rfl ?_
        refine v_getN X kcX0 fl_X6_179 dX6_idle_39 1 rfl rfl ?_
        refine v_icmpN_ge X dX6_idle_42 (tgt := 87) (by decide) (by omega) (by omega) (fun h42 => ?_) (fun h42 => ?_)
        · refine v_aload_n X dX6_idle_87 rfl 0 rfl ?_
          refine v_iload X dX6_idle_88 4 rfl ?_
          refine v_wrI1 X (rn_V X k_X6_answered ml_X6_92 dX6_idle_90 (c_X6_answered l E x xa g tr fl pl (nI vb) ) rfl 0 rfl rfl (by decide) (by decide) (by omega) (by omega) (Nat.le_of_ble_eq_true rfl)) [0] rfl rfl (ws' := [ob x 6 [.ref (xa 0), .ref g, .ref (xa 2), .ref (xa 3), .ref (xa 4), .ref (xa 5), .ref (xa 6), .ref (xa 7), .int (nI 0), .int (nI fl), .int pl], ob g 0 [.int (nI (cy 0)), .int (nI (cy 1)), .int (nI (cy 2)), .int (nI (cy 3)), .int (nI (cy 4)), .int (nI (cy 5)), .int (nI (cy 6)), .int (nI (cy 7)), .ref (ca 0), .ref (ca 1), .ref (ca 2), .ref (ca 3), .ref (ca 4), .ref (ca 5), .ref (ca 6), .ref (ca 7), .ref (ca 8), .ref (ca 9), .ref (ca 10), .ref (ca 11)], aM E (ca 5) 8 Fs, aM E (ca 6) 8 Ft, ob (xa 3) 2 [.ref hi, .ref hm, .int (nI t), .int (nI dd)], aN E hi 8 ink, aI E hm 8 mn]) rfl rfl ?_
          exact v_iret X Y dX6_idle_93 (wrI_of (by rw [if_pos (of_decide_eq_true h5)]) ((by rw [if_pos (of_decide_eq_true h5), show cy 5 = vc by omega, ← hb]))) (by omega) (by omega)
        · refine v_iload_n X dX6_idle_45 rfl 2 rfl ?_
          refine v_i2l X dX6_idle_46 (v := lN (bdN ink mn m 0)) (nI_l (by omega)) ?_
          refine v_iload X dX6_idle_47 5 rfl ?_
          refine v_roI1 X (rn_S X k_X6_isIn ml_X6_137 dX6_idle_49 (c_X6_isIn l E (bdN ink mn m 0) vc (Nat.lt_trans hb256 (by decide)) (by omega)) rfl (by decide) (by decide) (by omega) (by omega) (Nat.le_of_ble_eq_true rfl)) [] rfl rfl ?_
          refine v_ifB_eq X dX6_idle_52 (tgt := 81) (by decide) (fun h52 => ?_) (fun h52 => ?_)
          · refine v_iinc X dX6_idle_81 5 rfl (v := nI (vc + 1)) (nI_inc vc) (by decide) (lv' := [(6, .int (nI (vc + 1))), (0, .ref x), (1, .int m), (2, .int (nI (bdN ink mn m 0))), (3, .long (lN (kpN cy Fs Ft t (bdN ink mn m 0)))), (5, .int (nI vb))]) rfl ?_
            refine v_goto X dX6_idle_84 (tgt := 33) (by decide) ?_
            refine V.lvs [1, 2, 3, 4, 5, 0] rfl ?_
            exact ih33 (vc + 1) vb (⟨by omega, by rw [hb]; exact (bbits_no (decide_eq_false (fun q => by rw [h52] at q; exact absurd q.1 (by decide)))).symm⟩) (by omega)
          · refine v_aload_n X dX6_idle_55 rfl 0 rfl ?_
            refine v_iload_n X dX6_idle_56 rfl 2 rfl ?_
            refine v_iconst X dX6_idle_57 (v := nI 1) (by decide) ?_
            refine v_iload X dX6_idle_58 5 rfl ?_
            refine v_ishl X dX6_idle_60 ?_
            refine v_eqi (x' := nI (2 ^ vc)) (nI_shl1 (by omega)) ?_
            refine v_iconst X dX6_idle_61 (v := (-1)) (by decide) ?_
            refine v_ixor X dX6_idle_62 ?_
            refine v_iand X dX6_idle_63 ?_
            refine v_eqi (x' := nI (ndf (bdN ink mn m 0) (2 ^ vc))) (nI_andn _ _) ?_
            refine v_roL1 X (rn_V X k_X6_setsUnder ml_X6_133 dX6_idle_64 (c_X6_setsUnder l E x xa g tr fl pl cy ca Fs Ft hi hm t dd ink mn (ndf (bdN ink mn m 0) (2 ^ vc)) (by first | assumption | omega) (by first | assumption | omega) (by first | assumption | omega) (Nat.lt_trans (ndf_lt (n := 8) _ hb256) (by decide))) rfl 0 rfl rfl (by decide) (by decide) (by omega) (by omega) (Nat.le_of_ble_eq_true rfl)) [0, 1, 2, 3, 4, 5, 6] rfl rfl ?_
            refine v_lload_n X dX6_idle_67 rfl 3 rfl ?_
            refine v_lcmp X dX6_idle_68 ?_
            refine v_ifLN_ne X dX6_idle_69 (tgt := 81) (by decide) (kpN_lt hd _ _ _ _) (kpN_lt hd _ _ _ _) (fun h69 => ?_) (fun h69 => ?_)
            · refine v_iinc X dX6_idle_81 5 rfl (v := nI (vc + 1)) (nI_inc vc) (by decide) (lv' := [(6, .int (nI (vc + 1))), (0, .ref x), (1, .int m), (2, .int (nI (bdN ink mn m 0))), (3, .long (lN (kpN cy Fs Ft t (bdN ink mn m 0)))), (5, .int (nI vb))]) rfl ?_
              refine v_goto X dX6_idle_84 (tgt := 33) (by decide) ?_
              refine V.lvs [1, 2, 3, 4, 5, 0] rfl ?_
              exact ih33 (vc + 1) vb (⟨by omega, by rw [hb]; exact (bbits_no (decide_eq_false (fun q => h69 q.2))).symm⟩) (by omega)
            · refine v_iload X dX6_idle_72 4 rfl ?_
              refine v_iconst X dX6_idle_74 (v := nI 1) (by decide) ?_
              refine v_iload X dX6_idle_75 5 rfl ?_
              refine v_ishl X dX6_idle_77 ?_
              refine v_eqi (x' := nI (2 ^ vc)) (nI_shl1 (by omega)) ?_
              refine v_ior X dX6_idle_78 ?_
              refine v_eqi (x' := nI (vb ||| (2 ^ vc))) (fa_or _ _) ?_
              refine v_istore X dX6_idle_79 (by decide) (lv' := [(5, .int (nI (vb ||| (2 ^ vc)))), (0, .ref x), (1, .int m), (2, .int (nI (bdN ink mn m 0))), (3, .long (lN (kpN cy Fs Ft t (bdN ink mn m 0)))), (6, .int (nI vc))]) rfl ?_
              refine v_iinc X dX6_idle_81 5 rfl (v := nI (vc + 1)) (nI_inc vc) (by decide) (lv' := [(6, .int (nI (vc + 1))), (5, .int (nI (vb ||| (2 ^ vc)))), (0, .ref x), (1, .int m), (2, .int (nI (bdN ink mn m 0))), (3, .long (lN (kpN cy Fs Ft t (bdN ink mn m 0))))]) rfl ?_
              refine v_goto X dX6_idle_84 (tgt := 33) (by decide) ?_
              refine V.lvs [2, 3, 4, 5, 1, 0] rfl ?_
              exact ih33 (vc + 1) (vb ||| (2 ^ vc)) (⟨by omega, by rw [hb]; exact (bbits_yes (decide_eq_true ⟨h52, h69⟩)).symm⟩) (by omega)
    refine V.lvs [4, 5, 3, 2, 1, 0] rfl ?_
    exact L33 _ 0 0 (⟨by omega, rfl⟩) (Nat.lt_succ_self _)
  · refine v_aload_n X dX6_idle_8 rfl 0 rfl ?_
    refine v_iconst X dX6_idle_9 (v := nI 1) (by decide) ?_
    refine v_wrI1 X (rn_V X k_X6_refused ml_X6_74 dX6_idle_10 (c_X6_refused l E x xa g tr fl pl 1 ) rfl 0 rfl rfl (by decide) (by decide) (by omega) (by omega) (Nat.le_of_ble_eq_true rfl)) [0] rfl rfl (ws' := [ob x 6 [.ref (xa 0), .ref g, .ref (xa 2), .ref (xa 3), .ref (xa 4), .ref (xa 5), .ref (xa 6), .ref (xa 7), .int (nI 1), .int (nI fl), .int pl], ob g 0 [.int (nI (cy 0)), .int (nI (cy 1)), .int (nI (cy 2)), .int (nI (cy 3)), .int (nI (cy 4)), .int (nI (cy 5)), .int (nI (cy 6)), .int (nI (cy 7)), .ref (ca 0), .ref (ca 1), .ref (ca 2), .ref (ca 3), .ref (ca 4), .ref (ca 5), .ref (ca 6), .ref (ca 7), .ref (ca 8), .ref (ca 9), .ref (ca 10), .ref (ca 11)], aM E (ca 5) 8 Fs, aM E (ca 6) 8 Ft, ob (xa 3) 2 [.ref hi, .ref hm, .int (nI t), .int (nI dd)], aN E hi 8 ink, aI E hm 8 mn]) rfl rfl ?_
    exact v_iret X Y dX6_idle_13 (wrI_of (by rw [if_neg (of_decide_eq_false h5)]) ((if_neg (of_decide_eq_false h5)).symm)) (by omega) (by omega)
set_option maxRecDepth 100000 in
set_option maxHeartbeats 4000000 in
theorem c_X6_heaviest (l : Launch) (E : Et) (x : Nat) (xa : Nat → Nat) (g : Nat) (tr : Nat) (fl : Nat) (pl : Int32) (cy : Nat → Nat) (ca : Nat → Nat) (Fs : Nat → Nat) (Ft : Nat → Nat) (hi : Nat) (hm : Nat) (t : Nat) (dd : Nat) (ink : Nat → Nat) (mn : Nat → Int32) (m : Int32) (hd : cy 4 ≤ 6) (hcl : cy 5 ≤ 8) (hmen : cy 3 ≤ 4) (ht : t < 256) (hink : ∀ c, ink c ≤ 40) : Ct l E yX6_heaviest cX6_heaviest 7 (some .int) 6 0 0 [.ref x, .int m] [ob x 6 [.ref (xa 0), .ref g, .ref (xa 2), .ref (xa 3), .ref (xa 4), .ref (xa 5), .ref (xa 6), .ref (xa 7), .int (nI tr), .int (nI fl), .int pl], ob g 0 [.int (nI (cy 0)), .int (nI (cy 1)), .int (nI (cy 2)), .int (nI (cy 3)), .int (nI (cy 4)), .int (nI (cy 5)), .int (nI (cy 6)), .int (nI (cy 7)), .ref (ca 0), .ref (ca 1), .ref (ca 2), .ref (ca 3), .ref (ca 4), .ref (ca 5), .ref (ca 6), .ref (ca 7), .ref (ca 8), .ref (ca 9), .ref (ca 10), .ref (ca 11)], aM E (ca 5) 8 Fs, aM E (ca 6) 8 Ft, ob (xa 3) 2 [.ref hi, .ref hm, .int (nI t), .int (nI dd)], aN E hi 8 ink, aI E hm 8 mn] (wrI [ob x 6 [.ref (xa 0), .ref g, .ref (xa 2), .ref (xa 3), .ref (xa 4), .ref (xa 5), .ref (xa 6), .ref (xa 7), .int (nI (if okM m (cy 3) then 0 else 1)), .int (nI fl), .int pl], ob g 0 [.int (nI (cy 0)), .int (nI (cy 1)), .int (nI (cy 2)), .int (nI (cy 3)), .int (nI (cy 4)), .int (nI (cy 5)), .int (nI (cy 6)), .int (nI (cy 7)), .ref (ca 0), .ref (ca 1), .ref (ca 2), .ref (ca 3), .ref (ca 4), .ref (ca 5), .ref (ca 6), .ref (ca 7), .ref (ca 8), .ref (ca 9), .ref (ca 10), .ref (ca 11)], aM E (ca 5) 8 Fs, aM E (ca 6) 8 Ft, ob (xa 3) 2 [.ref hi, .ref hm, .int (nI t), .int (nI dd)], aN E hi 8 ink, aI E hm 8 mn] (if okM m (cy 3) then optI (bestO (fun c => (bdN ink mn m 0).testBit c) (fun p q => decide (pop64 (kpN cy Fs Ft t (ndf (bdN ink mn m 0) (2 ^ q))) < pop64 (kpN cy Fs Ft t (ndf (bdN ink mn m 0) (2 ^ p))))) (cy 5)) else (-1))) := by
  refine Ct.intro (by decide +kernel) (Nat.le_of_ble_eq_true rfl) (lv := [(0, .ref x), (1, .int m)]) rfl ?_
  intro Z X Y
  have hb256 : bdN ink mn m 0 < 256 := bdN_lt _ _ _ _
  refine v_aload_n X dX6_heaviest_0 rfl 0 rfl ?_
  refine v_iload_n X dX6_heaviest_1 rfl 1 rfl ?_
  refine v_roI1 X (rn_V X k_X6_isMan ml_X6_117 dX6_heaviest_2 (c_X6_isMan l E x xa g tr fl pl cy ca m ) rfl 0 rfl rfl (by decide) (by decide) (by omega) (by omega) (Nat.le_of_ble_eq_true rfl)) [0, 1] rfl rfl ?_
  refine v_ifB_ne X dX6_heaviest_5 (tgt := 14) (by decide) (fun h5 => ?_) (fun h5 => ?_)
  · refine v_aload_n X dX6_heaviest_14 rfl 0 rfl ?_
    refine v_iload_n X dX6_heaviest_15 rfl 1 rfl ?_
    refine v_iconst X dX6_heaviest_16 (v := nI 0) (by decide) ?_
    refine v_roI1 X (rn_V X k_X6_bound ml_X6_123 dX6_heaviest_17 (c_X6_bound l E x xa g tr fl pl hi hm t dd ink mn m 0 (by first | assumption | omega) (by omega)) rfl 0 rfl rfl (by decide) (by decide) (by omega) (by omega) (Nat.le_of_ble_eq_true rfl)) [0, 4, 5, 6] rfl rfl ?_
    refine v_istore_n X dX6_heaviest_20 rfl (by decide) (lv' := [(2, .int (nI (bdN ink mn m 0))), (0, .ref x), (1, .int m)]) rfl ?_
    refine v_bipush X dX6_heaviest_21 (v := (-2)) (by decide) ?_
    refine v_istore_n X dX6_heaviest_23 rfl (by decide) (lv' := [(3, .int (-2)), (2, .int (nI (bdN ink mn m 0))), (0, .ref x), (1, .int m)]) rfl ?_
    refine v_iconst X dX6_heaviest_24 (v := (-1)) (by decide) ?_
    refine v_istore X dX6_heaviest_25 (by decide) (lv' := [(4, .int (-1)), (3, .int (-2)), (2, .int (nI (bdN ink mn m 0))), (0, .ref x), (1, .int m)]) rfl ?_
    refine v_iconst X dX6_heaviest_27 (v := nI 0) (by decide) ?_
    refine v_istore X dX6_heaviest_28 (by decide) (lv' := [(5, .int (nI 0)), (4, .int (-1)), (3, .int (-2)), (2, .int (nI (bdN ink mn m 0))), (0, .ref x), (1, .int m)]) rfl ?_
    have L30 : ∀ (j30 : Nat) (vc : Nat) (vo : Option Nat), (vc ≤ cy 5 ∧ vo = bestO (fun c => (bdN ink mn m 0).testBit c) (fun p q => decide (pop64 (kpN cy Fs Ft t (ndf (bdN ink mn m 0) (2 ^ q))) < pop64 (kpN cy Fs Ft t (ndf (bdN ink mn m 0) (2 ^ p))))) vc) → cy 5 - vc < j30 → V E Z 30 [(0, .ref x), (1, .int m), (2, .int (nI (bdN ink mn m 0))), (3, .int (optI vo)), (4, .int (hvI (fun c => pop64 (kpN cy Fs Ft t (ndf (bdN ink mn m 0) (2 ^ c)))) vo)), (5, .int (nI vc))] [] [ob x 6 [.ref (xa 0), .ref g, .ref (xa 2), .ref (xa 3), .ref (xa 4), .ref (xa 5), .ref (xa 6), .ref (xa 7), .int (nI tr), .int (nI fl), .int pl], ob g 0 [.int (nI (cy 0)), .int (nI (cy 1)), .int (nI (cy 2)), .int (nI (cy 3)), .int (nI (cy 4)), .int (nI (cy 5)), .int (nI (cy 6)), .int (nI (cy 7)), .ref (ca 0), .ref (ca 1), .ref (ca 2), .ref (ca 3), .ref (ca 4), .ref (ca 5), .ref (ca 6), .ref (ca 7), .ref (ca 8), .ref (ca 9), .ref (ca 10), .ref (ca 11)], aM E (ca 5) 8 Fs, aM E (ca 6) 8 Ft, ob (xa 3) 2 [.ref hi, .ref hm, .int (nI t), .int (nI dd)], aN E hi 8 ink, aI E hm 8 mn] 0 0 := by
      intro j30
      induction j30 with
      | zero => intro vc vo hI hM; exact absurd hM (Nat.not_lt_zero _)
      | succ j30 ih30 =>
        intro vc vo hI30 hM30
        obtain ⟨hc, ho⟩ := id hI30
        rcases vo with _ | vq
        · refine V.cast (lv' := [(0, .ref x), (1, .int m), (2, .int (nI (bdN ink mn m 0))), (3, .int (-2)), (4, .int (-1)), (5, .int (nI vc))]) rfl rfl rfl ?_
          refine v_iload X dX6_heaviest_30 5 rfl ?_
          refine v_aload_n X dX6_heaviest_32 rfl 0 rfl ?_
          refine v_get X kcX6 fl_X6_19 dX6_heaviest_33 0 rfl rfl ?_
          refine v_getN X kcX0 fl_X6_179 dX6_heaviest_36 1 rfl rfl ?_
          refine v_icmpN_ge X dX6_heaviest_39 (tgt := 89) (by decide) (by omega) (by omega) (fun h39 => ?_) (fun h39 => ?_)
          · refine v_aload_n X dX6_heaviest_89 rfl 0 rfl ?_
            refine v_iload_n X dX6_heaviest_90 rfl 3 rfl ?_
            refine v_wrI1 X (rn_V X k_X6_answered ml_X6_92 dX6_heaviest_91 (c_X6_answered l E x xa g tr fl pl (-2) ) rfl 0 rfl rfl (by decide) (by decide) (by omega) (by omega) (Nat.le_of_ble_eq_true rfl)) [0] rfl rfl (ws' := [ob x 6 [.ref (xa 0), .ref g, .ref (xa 2), .ref (xa 3), .ref (xa 4), .ref (xa 5), .ref (xa 6), .ref (xa 7), .int (nI 0), .int (nI fl), .int pl], ob g 0 [.int (nI (cy 0)), .int (nI (cy 1)), .int (nI (cy 2)), .int (nI (cy 3)), .int (nI (cy 4)), .int (nI (cy 5)), .int (nI (cy 6)), .int (nI (cy 7)), .ref (ca 0), .ref (ca 1), .ref (ca 2), .ref (ca 3), .ref (ca 4), .ref (ca 5), .ref (ca 6), .ref (ca 7), .ref (ca 8), .ref (ca 9), .ref (ca 10), .ref (ca 11)], aM E (ca 5) 8 Fs, aM E (ca 6) 8 Ft, ob (xa 3) 2 [.ref hi, .ref hm, .int (nI t), .int (nI dd)], aN E hi 8 ink, aI E hm 8 mn]) rfl rfl ?_
            exact v_iret X Y dX6_heaviest_94 (wrI_of (by rw [if_pos (of_decide_eq_true h5)]) ((by rw [if_pos (of_decide_eq_true h5), show cy 5 = vc by omega, ← ho]; rfl))) (by omega) (by omega)
          · refine v_iload_n X dX6_heaviest_42 rfl 2 rfl ?_
            refine v_i2l X dX6_heaviest_43 (v := lN (bdN ink mn m 0)) (nI_l (by omega)) ?_
            refine v_iload X dX6_heaviest_44 5 rfl ?_
            refine v_roI1 X (rn_S X k_X6_isIn ml_X6_137 dX6_heaviest_46 (c_X6_isIn l E (bdN ink mn m 0) vc (Nat.lt_trans hb256 (by decide)) (by omega)) rfl (by decide) (by decide) (by omega) (by omega) (Nat.le_of_ble_eq_true rfl)) [] rfl rfl ?_
            refine v_ifB_eq X dX6_heaviest_49 (tgt := 83) (by decide) (fun h49 => ?_) (fun h49 => ?_)
            · refine v_iinc X dX6_heaviest_83 5 rfl (v := nI (vc + 1)) (nI_inc vc) (by decide) (lv' := [(5, .int (nI (vc + 1))), (0, .ref x), (1, .int m), (2, .int (nI (bdN ink mn m 0))), (3, .int (-2)), (4, .int (-1))]) rfl ?_
              refine v_goto X dX6_heaviest_86 (tgt := 30) (by decide) ?_
              refine V.lvs [1, 2, 3, 4, 5, 0] rfl ?_
              exact ih30 (vc + 1) none (⟨by omega, bestO_no ho (h49)⟩) (by omega)
            · refine v_aload_n X dX6_heaviest_52 rfl 0 rfl ?_
              refine v_iload_n X dX6_heaviest_53 rfl 2 rfl ?_
              refine v_iconst X dX6_heaviest_54 (v := nI 1) (by decide) ?_
              refine v_iload X dX6_heaviest_55 5 rfl ?_
              refine v_ishl X dX6_heaviest_57 ?_
              refine v_eqi (x' := nI (2 ^ vc)) (nI_shl1 (by omega)) ?_
              refine v_iconst X dX6_heaviest_58 (v := (-1)) (by decide) ?_
              refine v_ixor X dX6_heaviest_59 ?_
              refine v_iand X dX6_heaviest_60 ?_
              refine v_eqi (x' := nI (ndf (bdN ink mn m 0) (2 ^ vc))) (nI_andn _ _) ?_
              refine v_roL1 X (rn_V X k_X6_setsUnder ml_X6_133 dX6_heaviest_61 (c_X6_setsUnder l E x xa g tr fl pl cy ca Fs Ft hi hm t dd ink mn (ndf (bdN ink mn m 0) (2 ^ vc)) (by first | assumption | omega) (by first | assumption | omega) (by first | assumption | omega) (Nat.lt_trans (ndf_lt (n := 8) _ hb256) (by decide))) rfl 0 rfl rfl (by decide) (by decide) (by omega) (by omega) (Nat.le_of_ble_eq_true rfl)) [0, 1, 2, 3, 4, 5, 6] rfl rfl ?_
              refine v_roI1 X (rn_S X k_J13_bitCount_95d88 ml_X6_144 dX6_heaviest_64 (c_J13_bitCount_95d88 l E (kpN cy Fs Ft t (ndf (bdN ink mn m 0) (2 ^ vc))) (kpN_lt hd _ _ _ _)) rfl (by decide) (by decide) (by omega) (by omega) (Nat.le_of_ble_eq_true rfl)) [] rfl rfl ?_
              refine v_istore X dX6_heaviest_67 (by decide) (lv' := [(6, .int (nI (cnt (fun k => (kpN cy Fs Ft t (ndf (bdN ink mn m 0) (2 ^ vc))).testBit k) 64))), (0, .ref x), (1, .int m), (2, .int (nI (bdN ink mn m 0))), (3, .int (-2)), (4, .int (-1)), (5, .int (nI vc))]) rfl ?_
              refine v_iload X dX6_heaviest_69 0 rfl ?_
              refine v_iload X dX6_heaviest_71 5 rfl ?_
              refine v_icmp_le X dX6_heaviest_73 (tgt := 83) (by decide) (fun h73 => ?_) (fun h73 => ?_)
              · exact (np1 h73 (Nat.lt_of_le_of_lt (pop64_le _) (by decide))).elim
              · refine v_iload X dX6_heaviest_76 0 rfl ?_
                refine v_istore X dX6_heaviest_78 (by decide) (lv' := [(4, .int (nI (cnt (fun k => (kpN cy Fs Ft t (ndf (bdN ink mn m 0) (2 ^ vc))).testBit k) 64))), (6, .int (nI (cnt (fun k => (kpN cy Fs Ft t (ndf (bdN ink mn m 0) (2 ^ vc))).testBit k) 64))), (0, .ref x), (1, .int m), (2, .int (nI (bdN ink mn m 0))), (3, .int (-2)), (5, .int (nI vc))]) rfl ?_
                refine v_iload X dX6_heaviest_80 6 rfl ?_
                refine v_istore_n X dX6_heaviest_82 rfl (by decide) (lv' := [(3, .int (nI vc)), (4, .int (nI (cnt (fun k => (kpN cy Fs Ft t (ndf (bdN ink mn m 0) (2 ^ vc))).testBit k) 64))), (6, .int (nI (cnt (fun k => (kpN cy Fs Ft t (ndf (bdN ink mn m 0) (2 ^ vc))).testBit k) 64))), (0, .ref x), (1, .int m), (2, .int (nI (bdN ink mn m 0))), (5, .int (nI vc))]) rfl ?_
                refine v_iinc X dX6_heaviest_83 6 rfl (v := nI (vc + 1)) (nI_inc vc) (by decide) (lv' := [(5, .int (nI (vc + 1))), (3, .int (nI vc)), (4, .int (nI (cnt (fun k => (kpN cy Fs Ft t (ndf (bdN ink mn m 0) (2 ^ vc))).testBit k) 64))), (6, .int (nI (cnt (fun k => (kpN cy Fs Ft t (ndf (bdN ink mn m 0) (2 ^ vc))).testBit k) 64))), (0, .ref x), (1, .int m), (2, .int (nI (bdN ink mn m 0)))]) rfl ?_
                refine v_goto X dX6_heaviest_86 (tgt := 30) (by decide) ?_
                refine V.lvs [4, 5, 6, 1, 2, 0] rfl ?_
                exact ih30 (vc + 1) (some vc) (⟨by omega, bestO_0 ho (h49)⟩) (by omega)
        · have hvq := bestO_lt ho
          refine V.cast (lv' := [(0, .ref x), (1, .int m), (2, .int (nI (bdN ink mn m 0))), (3, .int (nI vq)), (4, .int (nI (pop64 (kpN cy Fs Ft t (ndf (bdN ink mn m 0) (2 ^ vq)))))), (5, .int (nI vc))]) rfl rfl rfl ?_
          refine v_iload X dX6_heaviest_30 5 rfl ?_
          refine v_aload_n X dX6_heaviest_32 rfl 0 rfl ?_
          refine v_get X kcX6 fl_X6_19 dX6_heaviest_33 0 rfl rfl ?_
          refine v_getN X kcX0 fl_X6_179 dX6_heaviest_36 1 rfl rfl ?_
          refine v_icmpN_ge X dX6_heaviest_39 (tgt := 89) (by decide) (by omega) (by omega) (fun h39 => ?_) (fun h39 => ?_)
          · refine v_aload_n X dX6_heaviest_89 rfl 0 rfl ?_
            refine v_iload_n X dX6_heaviest_90 rfl 3 rfl ?_
            refine v_wrI1 X (rn_V X k_X6_answered ml_X6_92 dX6_heaviest_91 (c_X6_answered l E x xa g tr fl pl (nI vq) ) rfl 0 rfl rfl (by decide) (by decide) (by omega) (by omega) (Nat.le_of_ble_eq_true rfl)) [0] rfl rfl (ws' := [ob x 6 [.ref (xa 0), .ref g, .ref (xa 2), .ref (xa 3), .ref (xa 4), .ref (xa 5), .ref (xa 6), .ref (xa 7), .int (nI 0), .int (nI fl), .int pl], ob g 0 [.int (nI (cy 0)), .int (nI (cy 1)), .int (nI (cy 2)), .int (nI (cy 3)), .int (nI (cy 4)), .int (nI (cy 5)), .int (nI (cy 6)), .int (nI (cy 7)), .ref (ca 0), .ref (ca 1), .ref (ca 2), .ref (ca 3), .ref (ca 4), .ref (ca 5), .ref (ca 6), .ref (ca 7), .ref (ca 8), .ref (ca 9), .ref (ca 10), .ref (ca 11)], aM E (ca 5) 8 Fs, aM E (ca 6) 8 Ft, ob (xa 3) 2 [.ref hi, .ref hm, .int (nI t), .int (nI dd)], aN E hi 8 ink, aI E hm 8 mn]) rfl rfl ?_
            exact v_iret X Y dX6_heaviest_94 (wrI_of (by rw [if_pos (of_decide_eq_true h5)]) ((by rw [if_pos (of_decide_eq_true h5), show cy 5 = vc by omega, ← ho]; rfl))) (by omega) (by omega)
          · refine v_iload_n X dX6_heaviest_42 rfl 2 rfl ?_
            refine v_i2l X dX6_heaviest_43 (v := lN (bdN ink mn m 0)) (nI_l (by omega)) ?_
            refine v_iload X dX6_heaviest_44 5 rfl ?_
            refine v_roI1 X (rn_S X k_X6_isIn ml_X6_137 dX6_heaviest_46 (c_X6_isIn l E (bdN ink mn m 0) vc (Nat.lt_trans hb256 (by decide)) (by omega)) rfl (by decide) (by decide) (by omega) (by omega) (Nat.le_of_ble_eq_true rfl)) [] rfl rfl ?_
            refine v_ifB_eq X dX6_heaviest_49 (tgt := 83) (by decide) (fun h49 => ?_) (fun h49 => ?_)
            · refine v_iinc X dX6_heaviest_83 5 rfl (v := nI (vc + 1)) (nI_inc vc) (by decide) (lv' := [(5, .int (nI (vc + 1))), (0, .ref x), (1, .int m), (2, .int (nI (bdN ink mn m 0))), (3, .int (nI vq)), (4, .int (nI (pop64 (kpN cy Fs Ft t (ndf (bdN ink mn m 0) (2 ^ vq))))))]) rfl ?_
              refine v_goto X dX6_heaviest_86 (tgt := 30) (by decide) ?_
              refine V.lvs [1, 2, 3, 4, 5, 0] rfl ?_
              exact ih30 (vc + 1) (some vq) (⟨by omega, bestO_no ho (h49)⟩) (by omega)
            · refine v_aload_n X dX6_heaviest_52 rfl 0 rfl ?_
              refine v_iload_n X dX6_heaviest_53 rfl 2 rfl ?_
              refine v_iconst X dX6_heaviest_54 (v := nI 1) (by decide) ?_
              refine v_iload X dX6_heaviest_55 5 rfl ?_
              refine v_ishl X dX6_heaviest_57 ?_
              refine v_eqi (x' := nI (2 ^ vc)) (nI_shl1 (by omega)) ?_
              refine v_iconst X dX6_heaviest_58 (v := (-1)) (by decide) ?_
              refine v_ixor X dX6_heaviest_59 ?_
              refine v_iand X dX6_heaviest_60 ?_
              refine v_eqi (x' := nI (ndf (bdN ink mn m 0) (2 ^ vc))) (nI_andn _ _) ?_
              refine v_roL1 X (rn_V X k_X6_setsUnder ml_X6_133 dX6_heaviest_61 (c_X6_setsUnder l E x xa g tr fl pl cy ca Fs Ft hi hm t dd ink mn (ndf (bdN ink mn m 0) (2 ^ vc)) (by first | assumption | omega) (by first | assumption | omega) (by first | assumption | omega) (Nat.lt_trans (ndf_lt (n := 8) _ hb256) (by decide))) rfl 0 rfl rfl (by decide) (by decide) (by omega) (by omega) (Nat.le_of_ble_eq_true rfl)) [0, 1, 2, 3, 4, 5, 6] rfl rfl ?_
              refine v_roI1 X (rn_S X k_J13_bitCount_95d88 ml_X6_144 dX6_heaviest_64 (c_J13_bitCount_95d88 l E (kpN cy Fs Ft t (ndf (bdN ink mn m 0) (2 ^ vc))) (kpN_lt hd _ _ _ _)) rfl (by decide) (by decide) (by omega) (by omega) (Nat.le_of_ble_eq_true rfl)) [] rfl rfl ?_
              refine v_istore X dX6_heaviest_67 (by decide) (lv' := [(6, .int (nI (cnt (fun k => (kpN cy Fs Ft t (ndf (bdN ink mn m 0) (2 ^ vc))).testBit k) 64))), (0, .ref x), (1, .int m), (2, .int (nI (bdN ink mn m 0))), (3, .int (nI vq)), (4, .int (nI (pop64 (kpN cy Fs Ft t (ndf (bdN ink mn m 0) (2 ^ vq)))))), (5, .int (nI vc))]) rfl ?_
              refine v_iload X dX6_heaviest_69 0 rfl ?_
              refine v_iload X dX6_heaviest_71 5 rfl ?_
              refine v_icmpN_le X dX6_heaviest_73 (tgt := 83) (by decide) (Nat.lt_of_le_of_lt (pop64_le _) (by decide)) (Nat.lt_of_le_of_lt (pop64_le _) (by decide)) (fun h73 => ?_) (fun h73 => ?_)
              · refine v_iinc X dX6_heaviest_83 6 rfl (v := nI (vc + 1)) (nI_inc vc) (by decide) (lv' := [(5, .int (nI (vc + 1))), (6, .int (nI (cnt (fun k => (kpN cy Fs Ft t (ndf (bdN ink mn m 0) (2 ^ vc))).testBit k) 64))), (0, .ref x), (1, .int m), (2, .int (nI (bdN ink mn m 0))), (3, .int (nI vq)), (4, .int (nI (pop64 (kpN cy Fs Ft t (ndf (bdN ink mn m 0) (2 ^ vq))))))]) rfl ?_
                refine v_goto X dX6_heaviest_86 (tgt := 30) (by decide) ?_
                refine V.lvs [2, 3, 4, 5, 6, 0] rfl ?_
                exact ih30 (vc + 1) (some vq) (⟨by omega, bestO_2 ho (h49) (decide_eq_false (by first | exact Nat.not_lt.mpr h73 | exact h73))⟩) (by omega)
              · refine v_iload X dX6_heaviest_76 0 rfl ?_
                refine v_istore X dX6_heaviest_78 (by decide) (lv' := [(4, .int (nI (cnt (fun k => (kpN cy Fs Ft t (ndf (bdN ink mn m 0) (2 ^ vc))).testBit k) 64))), (6, .int (nI (cnt (fun k => (kpN cy Fs Ft t (ndf (bdN ink mn m 0) (2 ^ vc))).testBit k) 64))), (0, .ref x), (1, .int m), (2, .int (nI (bdN ink mn m 0))), (3, .int (nI vq)), (5, .int (nI vc))]) rfl ?_
                refine v_iload X dX6_heaviest_80 6 rfl ?_
                refine v_istore_n X dX6_heaviest_82 rfl (by decide) (lv' := [(3, .int (nI vc)), (4, .int (nI (cnt (fun k => (kpN cy Fs Ft t (ndf (bdN ink mn m 0) (2 ^ vc))).testBit k) 64))), (6, .int (nI (cnt (fun k => (kpN cy Fs Ft t (ndf (bdN ink mn m 0) (2 ^ vc))).testBit k) 64))), (0, .ref x), (1, .int m), (2, .int (nI (bdN ink mn m 0))), (5, .int (nI vc))]) rfl ?_
                refine v_iinc X dX6_heaviest_83 6 rfl (v := nI (vc + 1)) (nI_inc vc) (by decide) (lv' := [(5, .int (nI (vc + 1))), (3, .int (nI vc)), (4, .int (nI (cnt (fun k => (kpN cy Fs Ft t (ndf (bdN ink mn m 0) (2 ^ vc))).testBit k) 64))), (6, .int (nI (cnt (fun k => (kpN cy Fs Ft t (ndf (bdN ink mn m 0) (2 ^ vc))).testBit k) 64))), (0, .ref x), (1, .int m), (2, .int (nI (bdN ink mn m 0)))]) rfl ?_
                refine v_goto X dX6_heaviest_86 (tgt := 30) (by decide) ?_
                refine V.lvs [4, 5, 6, 1, 2, 0] rfl ?_
                exact ih30 (vc + 1) (some vc) (⟨by omega, bestO_1 ho (h49) (decide_eq_true (by first | exact Nat.not_le.mp h73 | exact h73))⟩) (by omega)
    refine V.lvs [4, 5, 3, 2, 1, 0] rfl ?_
    exact L30 _ 0 none (⟨by omega, rfl⟩) (Nat.lt_succ_self _)
  · refine v_aload_n X dX6_heaviest_8 rfl 0 rfl ?_
    refine v_iconst X dX6_heaviest_9 (v := nI 1) (by decide) ?_
    refine v_wrI1 X (rn_V X k_X6_refused ml_X6_74 dX6_heaviest_10 (c_X6_refused l E x xa g tr fl pl 1 ) rfl 0 rfl rfl (by decide) (by decide) (by omega) (by omega) (Nat.le_of_ble_eq_true rfl)) [0] rfl rfl (ws' := [ob x 6 [.ref (xa 0), .ref g, .ref (xa 2), .ref (xa 3), .ref (xa 4), .ref (xa 5), .ref (xa 6), .ref (xa 7), .int (nI 1), .int (nI fl), .int pl], ob g 0 [.int (nI (cy 0)), .int (nI (cy 1)), .int (nI (cy 2)), .int (nI (cy 3)), .int (nI (cy 4)), .int (nI (cy 5)), .int (nI (cy 6)), .int (nI (cy 7)), .ref (ca 0), .ref (ca 1), .ref (ca 2), .ref (ca 3), .ref (ca 4), .ref (ca 5), .ref (ca 6), .ref (ca 7), .ref (ca 8), .ref (ca 9), .ref (ca 10), .ref (ca 11)], aM E (ca 5) 8 Fs, aM E (ca 6) 8 Ft, ob (xa 3) 2 [.ref hi, .ref hm, .int (nI t), .int (nI dd)], aN E hi 8 ink, aI E hm 8 mn]) rfl rfl ?_
    exact v_iret X Y dX6_heaviest_13 (wrI_of (by rw [if_neg (of_decide_eq_false h5)]) ((if_neg (of_decide_eq_false h5)).symm)) (by omega) (by omega)
set_option maxRecDepth 100000 in
set_option maxHeartbeats 4000000 in
theorem c_X6_feared (l : Launch) (E : Et) (x : Nat) (xa : Nat → Nat) (g : Nat) (tr : Nat) (fl : Nat) (pl : Int32) (cy : Nat → Nat) (ca : Nat → Nat) (Fs : Nat → Nat) (Ft : Nat → Nat) (hi : Nat) (hm : Nat) (t : Nat) (dd : Nat) (ink : Nat → Nat) (mn : Nat → Int32) (m : Int32) (hd : cy 4 ≤ 6) (hcl : cy 5 ≤ 8) (hmen : cy 3 ≤ 4) (ht : t < 256) (hink : ∀ c, ink c ≤ 40) : Ct l E yX6_feared cX6_feared 7 (some .int) 6 0 0 [.ref x, .int m] [ob x 6 [.ref (xa 0), .ref g, .ref (xa 2), .ref (xa 3), .ref (xa 4), .ref (xa 5), .ref (xa 6), .ref (xa 7), .int (nI tr), .int (nI fl), .int pl], ob g 0 [.int (nI (cy 0)), .int (nI (cy 1)), .int (nI (cy 2)), .int (nI (cy 3)), .int (nI (cy 4)), .int (nI (cy 5)), .int (nI (cy 6)), .int (nI (cy 7)), .ref (ca 0), .ref (ca 1), .ref (ca 2), .ref (ca 3), .ref (ca 4), .ref (ca 5), .ref (ca 6), .ref (ca 7), .ref (ca 8), .ref (ca 9), .ref (ca 10), .ref (ca 11)], aM E (ca 5) 8 Fs, aM E (ca 6) 8 Ft, ob (xa 3) 2 [.ref hi, .ref hm, .int (nI t), .int (nI dd)], aN E hi 8 ink, aI E hm 8 mn] (wrI [ob x 6 [.ref (xa 0), .ref g, .ref (xa 2), .ref (xa 3), .ref (xa 4), .ref (xa 5), .ref (xa 6), .ref (xa 7), .int (nI (if okM m (cy 3) then 0 else 1)), .int (nI fl), .int pl], ob g 0 [.int (nI (cy 0)), .int (nI (cy 1)), .int (nI (cy 2)), .int (nI (cy 3)), .int (nI (cy 4)), .int (nI (cy 5)), .int (nI (cy 6)), .int (nI (cy 7)), .ref (ca 0), .ref (ca 1), .ref (ca 2), .ref (ca 3), .ref (ca 4), .ref (ca 5), .ref (ca 6), .ref (ca 7), .ref (ca 8), .ref (ca 9), .ref (ca 10), .ref (ca 11)], aM E (ca 5) 8 Fs, aM E (ca 6) 8 Ft, ob (xa 3) 2 [.ref hi, .ref hm, .int (nI t), .int (nI dd)], aN E hi 8 ink, aI E hm 8 mn] (if okM m (cy 3) then nI (bbits (fun c => decide (¬ kpN cy Fs Ft t (bdN ink mn m 0) = 0 ∧ (ndf (bbits (fun c => decide (0 < ink c)) 8) (bbits (fun c => decide (mn c = m)) 8)).testBit c = true ∧ kpN cy Fs Ft t (bdN ink mn m 0 ||| 2 ^ c) = 0)) (cy 5)) else (-1))) := by
  refine Ct.intro (by decide +kernel) (Nat.le_of_ble_eq_true rfl) (lv := [(0, .ref x), (1, .int m)]) rfl ?_
  intro Z X Y
  have hb256 : bdN ink mn m 0 < 256 := bdN_lt _ _ _ _
  refine v_aload_n X dX6_feared_0 rfl 0 rfl ?_
  refine v_iload_n X dX6_feared_1 rfl 1 rfl ?_
  refine v_roI1 X (rn_V X k_X6_isMan ml_X6_117 dX6_feared_2 (c_X6_isMan l E x xa g tr fl pl cy ca m ) rfl 0 rfl rfl (by decide) (by decide) (by omega) (by omega) (Nat.le_of_ble_eq_true rfl)) [0, 1] rfl rfl ?_
  refine v_ifB_ne X dX6_feared_5 (tgt := 14) (by decide) (fun h5 => ?_) (fun h5 => ?_)
  · refine v_aload_n X dX6_feared_14 rfl 0 rfl ?_
    refine v_iload_n X dX6_feared_15 rfl 1 rfl ?_
    refine v_iconst X dX6_feared_16 (v := nI 0) (by decide) ?_
    refine v_roI1 X (rn_V X k_X6_bound ml_X6_123 dX6_feared_17 (c_X6_bound l E x xa g tr fl pl hi hm t dd ink mn m 0 (by first | assumption | omega) (by omega)) rfl 0 rfl rfl (by decide) (by decide) (by omega) (by omega) (Nat.le_of_ble_eq_true rfl)) [0, 4, 5, 6] rfl rfl ?_
    refine v_istore_n X dX6_feared_20 rfl (by decide) (lv' := [(2, .int (nI (bdN ink mn m 0))), (0, .ref x), (1, .int m)]) rfl ?_
    refine v_aload_n X dX6_feared_21 rfl 1 rfl ?_
    refine v_get X kcX6 fl_X6_30 dX6_feared_22 0 rfl rfl ?_
    refine v_iconst X dX6_feared_25 (v := nI 0) (by decide) ?_
    refine v_roI1 X (rn_VN X k_X2_binding ml_X6_182 dX6_feared_26 (c_X2_binding l E (xa 3) hi hm t dd ink 0 (by first | assumption | omega) (by omega)) rfl 0 rfl rfl (by decide) (by decide) (by omega) (by omega) (Nat.le_of_ble_eq_true rfl)) [4, 5] rfl rfl ?_
    refine v_aload_n X dX6_feared_29 rfl 1 rfl ?_
    refine v_get X kcX6 fl_X6_30 dX6_feared_30 0 rfl rfl ?_
    refine v_iload_n X dX6_feared_33 rfl 2 rfl ?_
    refine v_roI1 X (rn_VN X k_X2_pressedOn ml_X6_120 dX6_feared_34 (c_X2_pressedOn l E (xa 3) hi hm t dd mn m ) rfl 0 rfl rfl (by decide) (by decide) (by omega) (by omega) (Nat.le_of_ble_eq_true rfl)) [4, 6] rfl rfl ?_
    refine v_iconst X dX6_feared_37 (v := (-1)) (by decide) ?_
    refine v_ixor X dX6_feared_38 ?_
    refine v_iand X dX6_feared_39 ?_
    refine v_eqi (x' := nI (ndf (bbits (fun c => decide (0 < ink c)) 8) (bbits (fun c => decide (mn c = m)) 8))) (nI_andn _ _) ?_
    refine v_istore_n X dX6_feared_40 rfl (by decide) (lv' := [(3, .int (nI (ndf (bbits (fun c => decide (0 < ink c)) 8) (bbits (fun c => decide (mn c = m)) 8)))), (2, .int (nI (bdN ink mn m 0))), (0, .ref x), (1, .int m)]) rfl ?_
    refine v_aload_n X dX6_feared_41 rfl 2 rfl ?_
    refine v_iload_n X dX6_feared_42 rfl 1 rfl ?_
    refine v_roL1 X (rn_V X k_X6_setsUnder ml_X6_133 dX6_feared_43 (c_X6_setsUnder l E x xa g tr fl pl cy ca Fs Ft hi hm t dd ink mn (bdN ink mn m 0) (by first | assumption | omega) (by first | assumption | omega) (by first | assumption | omega) (by omega)) rfl 0 rfl rfl (by decide) (by decide) (by omega) (by omega) (Nat.le_of_ble_eq_true rfl)) [0, 1, 2, 3, 4, 5, 6] rfl rfl ?_
    refine v_lconst X dX6_feared_46 (v := lN 0) (by decide) ?_
    refine v_lcmp X dX6_feared_47 ?_
    refine v_ifLN_ne X dX6_feared_48 (tgt := 55) (by decide) (kpN_lt hd _ _ _ _) (by decide) (fun h48 => ?_) (fun h48 => ?_)
    · refine v_iconst X dX6_feared_55 (v := nI 0) (by decide) ?_
      refine v_istore X dX6_feared_56 (by decide) (lv' := [(4, .int (nI 0)), (3, .int (nI (ndf (bbits (fun c => decide (0 < ink c)) 8) (bbits (fun c => decide (mn c = m)) 8)))), (2, .int (nI (bdN ink mn m 0))), (0, .ref x), (1, .int m)]) rfl ?_
      refine v_iconst X dX6_feared_58 (v := nI 0) (by decide) ?_
      refine v_istore X dX6_feared_59 (by decide) (lv' := [(5, .int (nI 0)), (4, .int (nI 0)), (3, .int (nI (ndf (bbits (fun c => decide (0 < ink c)) 8) (bbits (fun c => decide (mn c = m)) 8)))), (2, .int (nI (bdN ink mn m 0))), (0, .ref x), (1, .int m)]) rfl ?_
      refine v_iconst X dX6_feared_61 (v := nI 0) (by decide) ?_
      refine v_istore X dX6_feared_62 (by decide) (lv' := [(6, .int (nI 0)), (5, .int (nI 0)), (4, .int (nI 0)), (3, .int (nI (ndf (bbits (fun c => decide (0 < ink c)) 8) (bbits (fun c => decide (mn c = m)) 8)))), (2, .int (nI (bdN ink mn m 0))), (0, .ref x), (1, .int m)]) rfl ?_
      have L64 : ∀ (j64 : Nat) (vc : Nat) (vb : Nat), (vc ≤ cy 5 ∧ vb = bbits (fun c => decide (¬ kpN cy Fs Ft t (bdN ink mn m 0) = 0 ∧ (ndf (bbits (fun c => decide (0 < ink c)) 8) (bbits (fun c => decide (mn c = m)) 8)).testBit c = true ∧ kpN cy Fs Ft t (bdN ink mn m 0 ||| 2 ^ c) = 0)) vc) → cy 5 - vc < j64 → V E Z 64 [(0, .ref x), (1, .int m), (2, .int (nI (bdN ink mn m 0))), (3, .int (nI (ndf (bbits (fun c => decide (0 < ink c)) 8) (bbits (fun c => decide (mn c = m)) 8)))), (4, .int (nI 0)), (5, .int (nI vb)), (6, .int (nI vc))] [] [ob x 6 [.ref (xa 0), .ref g, .ref (xa 2), .ref (xa 3), .ref (xa 4), .ref (xa 5), .ref (xa 6), .ref (xa 7), .int (nI tr), .int (nI fl), .int pl], ob g 0 [.int (nI (cy 0)), .int (nI (cy 1)), .int (nI (cy 2)), .int (nI (cy 3)), .int (nI (cy 4)), .int (nI (cy 5)), .int (nI (cy 6)), .int (nI (cy 7)), .ref (ca 0), .ref (ca 1), .ref (ca 2), .ref (ca 3), .ref (ca 4), .ref (ca 5), .ref (ca 6), .ref (ca 7), .ref (ca 8), .ref (ca 9), .ref (ca 10), .ref (ca 11)], aM E (ca 5) 8 Fs, aM E (ca 6) 8 Ft, ob (xa 3) 2 [.ref hi, .ref hm, .int (nI t), .int (nI dd)], aN E hi 8 ink, aI E hm 8 mn] 0 0 := by
        intro j64
        induction j64 with
        | zero => intro vc vb hI hM; exact absurd hM (Nat.not_lt_zero _)
        | succ j64 ih64 =>
          intro vc vb hI64 hM64
          obtain ⟨hc, hb⟩ := id hI64
          refine v_iload X dX6_feared_64 6 rfl ?_
          refine v_aload_n X dX6_feared_66 rfl 0 rfl ?_
          refine v_get X kcX6 fl_X6_19 dX6_feared_67 0 rfl rfl ?_
          refine v_getN X kcX0 fl_X6_179 dX6_feared_70 1 rfl rfl ?_
          refine v_icmpN_ge X dX6_feared_73 (tgt := 121) (by decide) (by omega) (by omega) (fun h73 => ?_) (fun h73 => ?_)
          · refine v_aload_n X dX6_feared_121 rfl 0 rfl ?_
            refine v_iload X dX6_feared_122 5 rfl ?_
            refine v_wrI1 X (rn_V X k_X6_answered ml_X6_92 dX6_feared_124 (c_X6_answered l E x xa g tr fl pl (nI vb) ) rfl 0 rfl rfl (by decide) (by decide) (by omega) (by omega) (Nat.le_of_ble_eq_true rfl)) [0] rfl rfl (ws' := [ob x 6 [.ref (xa 0), .ref g, .ref (xa 2), .ref (xa 3), .ref (xa 4), .ref (xa 5), .ref (xa 6), .ref (xa 7), .int (nI 0), .int (nI fl), .int pl], ob g 0 [.int (nI (cy 0)), .int (nI (cy 1)), .int (nI (cy 2)), .int (nI (cy 3)), .int (nI (cy 4)), .int (nI (cy 5)), .int (nI (cy 6)), .int (nI (cy 7)), .ref (ca 0), .ref (ca 1), .ref (ca 2), .ref (ca 3), .ref (ca 4), .ref (ca 5), .ref (ca 6), .ref (ca 7), .ref (ca 8), .ref (ca 9), .ref (ca 10), .ref (ca 11)], aM E (ca 5) 8 Fs, aM E (ca 6) 8 Ft, ob (xa 3) 2 [.ref hi, .ref hm, .int (nI t), .int (nI dd)], aN E hi 8 ink, aI E hm 8 mn]) rfl rfl ?_
            exact v_iret X Y dX6_feared_127 (wrI_of (by rw [if_pos (of_decide_eq_true h5)]) ((by rw [if_pos (of_decide_eq_true h5), show cy 5 = vc by omega, ← hb]))) (by omega) (by omega)
          · refine v_iload X dX6_feared_76 4 rfl ?_
            refine v_ifN_ne X dX6_feared_78 (tgt := 115) (by decide) (by decide) (fun h78 => ?_) (fun h78 => ?_)
            · exfalso; omega
            · refine v_iload_n X dX6_feared_81 rfl 3 rfl ?_
              refine v_i2l X dX6_feared_82 (v := lN (ndf (bbits (fun c => decide (0 < ink c)) 8) (bbits (fun c => decide (mn c = m)) 8))) (nI_l (Nat.lt_trans (ndf_lt (n := 8) _ (bbits_lt _ 8)) (by decide))) ?_
              refine v_iload X dX6_feared_83 6 rfl ?_
              refine v_roI1 X (rn_S X k_X6_isIn ml_X6_137 dX6_feared_85 (c_X6_isIn l E (ndf (bbits (fun c => decide (0 < ink c)) 8) (bbits (fun c => decide (mn c = m)) 8)) vc (Nat.lt_trans (ndf_lt (n := 8) _ (bbits_lt _ 8)) (by decide)) (by omega)) rfl (by decide) (by decide) (by omega) (by omega) (Nat.le_of_ble_eq_true rfl)) [] rfl rfl ?_
              refine v_ifB_eq X dX6_feared_88 (tgt := 115) (by decide) (fun h88 => ?_) (fun h88 => ?_)
              · refine v_iinc X dX6_feared_115 6 rfl (v := nI (vc + 1)) (nI_inc vc) (by decide) (lv' := [(6, .int (nI (vc + 1))), (0, .ref x), (1, .int m), (2, .int (nI (bdN ink mn m 0))), (3, .int (nI (ndf (bbits (fun c => decide (0 < ink c)) 8) (bbits (fun c => decide (mn c = m)) 8)))), (4, .int (nI 0)), (5, .int (nI vb))]) rfl ?_
                refine v_goto X dX6_feared_118 (tgt := 64) (by decide) ?_
                refine V.lvs [1, 2, 3, 4, 5, 6, 0] rfl ?_
                exact ih64 (vc + 1) vb (⟨by omega, by rw [hb]; exact (bbits_no (decide_eq_false (fun q => by rw [h88] at q; exact absurd q.2.1 (by decide)))).symm⟩) (by omega)
              · refine v_aload_n X dX6_feared_91 rfl 0 rfl ?_
                refine v_iload_n X dX6_feared_92 rfl 2 rfl ?_
                refine v_iconst X dX6_feared_93 (v := nI 1) (by decide) ?_
                refine v_iload X dX6_feared_94 6 rfl ?_
                refine v_ishl X dX6_feared_96 ?_
                refine v_eqi (x' := nI (2 ^ vc)) (nI_shl1 (by omega)) ?_
                refine v_ior X dX6_feared_97 ?_
                refine v_eqi (x' := nI ((bdN ink mn m 0) ||| (2 ^ vc))) (fa_or _ _) ?_
                refine v_roL1 X (rn_V X k_X6_setsUnder ml_X6_133 dX6_feared_98 (c_X6_setsUnder l E x xa g tr fl pl cy ca Fs Ft hi hm t dd ink mn ((bdN ink mn m 0) ||| (2 ^ vc)) (by first | assumption | omega) (by first | assumption | omega) (by first | assumption | omega) (Nat.lt_trans (or_256 hb256 (by omega)) (by decide))) rfl 0 rfl rfl (by decide) (by decide) (by omega) (by omega) (Nat.le_of_ble_eq_true rfl)) [0, 1, 2, 3, 4, 5, 6] rfl rfl ?_
                refine v_lconst X dX6_feared_101 (v := lN 0) (by decide) ?_
                refine v_lcmp X dX6_feared_102 ?_
                refine v_ifLN_ne X dX6_feared_103 (tgt := 115) (by decide) (kpN_lt hd _ _ _ _) (by decide) (fun h103 => ?_) (fun h103 => ?_)
                · refine v_iinc X dX6_feared_115 6 rfl (v := nI (vc + 1)) (nI_inc vc) (by decide) (lv' := [(6, .int (nI (vc + 1))), (0, .ref x), (1, .int m), (2, .int (nI (bdN ink mn m 0))), (3, .int (nI (ndf (bbits (fun c => decide (0 < ink c)) 8) (bbits (fun c => decide (mn c = m)) 8)))), (4, .int (nI 0)), (5, .int (nI vb))]) rfl ?_
                  refine v_goto X dX6_feared_118 (tgt := 64) (by decide) ?_
                  refine V.lvs [1, 2, 3, 4, 5, 6, 0] rfl ?_
                  exact ih64 (vc + 1) vb (⟨by omega, by rw [hb]; exact (bbits_no (decide_eq_false (fun q => h103 q.2.2))).symm⟩) (by omega)
                · refine v_iload X dX6_feared_106 5 rfl ?_
                  refine v_iconst X dX6_feared_108 (v := nI 1) (by decide) ?_
                  refine v_iload X dX6_feared_109 6 rfl ?_
                  refine v_ishl X dX6_feared_111 ?_
                  refine v_eqi (x' := nI (2 ^ vc)) (nI_shl1 (by omega)) ?_
                  refine v_ior X dX6_feared_112 ?_
                  refine v_eqi (x' := nI (vb ||| (2 ^ vc))) (fa_or _ _) ?_
                  refine v_istore X dX6_feared_113 (by decide) (lv' := [(5, .int (nI (vb ||| (2 ^ vc)))), (0, .ref x), (1, .int m), (2, .int (nI (bdN ink mn m 0))), (3, .int (nI (ndf (bbits (fun c => decide (0 < ink c)) 8) (bbits (fun c => decide (mn c = m)) 8)))), (4, .int (nI 0)), (6, .int (nI vc))]) rfl ?_
                  refine v_iinc X dX6_feared_115 6 rfl (v := nI (vc + 1)) (nI_inc vc) (by decide) (lv' := [(6, .int (nI (vc + 1))), (5, .int (nI (vb ||| (2 ^ vc)))), (0, .ref x), (1, .int m), (2, .int (nI (bdN ink mn m 0))), (3, .int (nI (ndf (bbits (fun c => decide (0 < ink c)) 8) (bbits (fun c => decide (mn c = m)) 8)))), (4, .int (nI 0))]) rfl ?_
                  refine v_goto X dX6_feared_118 (tgt := 64) (by decide) ?_
                  refine V.lvs [2, 3, 4, 5, 6, 1, 0] rfl ?_
                  exact ih64 (vc + 1) (vb ||| (2 ^ vc)) (⟨by omega, by rw [hb]; exact (bbits_yes (decide_eq_true ⟨h48, h88, h103⟩)).symm⟩) (by omega)
      refine V.lvs [5, 6, 4, 3, 2, 1, 0] rfl ?_
      exact L64 _ 0 0 (⟨by omega, rfl⟩) (Nat.lt_succ_self _)
    · refine v_iconst X dX6_feared_51 (v := nI 1) (by decide) ?_
      refine v_goto X dX6_feared_52 (tgt := 56) (by decide) ?_
      refine v_istore X dX6_feared_56 (by decide) (lv' := [(4, .int (nI 1)), (3, .int (nI (ndf (bbits (fun c => decide (0 < ink c)) 8) (bbits (fun c => decide (mn c = m)) 8)))), (2, .int (nI (bdN ink mn m 0))), (0, .ref x), (1, .int m)]) rfl ?_
      refine v_iconst X dX6_feared_58 (v := nI 0) (by decide) ?_
      refine v_istore X dX6_feared_59 (by decide) (lv' := [(5, .int (nI 0)), (4, .int (nI 1)), (3, .int (nI (ndf (bbits (fun c => decide (0 < ink c)) 8) (bbits (fun c => decide (mn c = m)) 8)))), (2, .int (nI (bdN ink mn m 0))), (0, .ref x), (1, .int m)]) rfl ?_
      refine v_iconst X dX6_feared_61 (v := nI 0) (by decide) ?_
      refine v_istore X dX6_feared_62 (by decide) (lv' := [(6, .int (nI 0)), (5, .int (nI 0)), (4, .int (nI 1)), (3, .int (nI (ndf (bbits (fun c => decide (0 < ink c)) 8) (bbits (fun c => decide (mn c = m)) 8)))), (2, .int (nI (bdN ink mn m 0))), (0, .ref x), (1, .int m)]) rfl ?_
      have L64 : ∀ (j64 : Nat) (vc : Nat) (vb : Nat), (vc ≤ cy 5 ∧ vb = bbits (fun c => decide (¬ kpN cy Fs Ft t (bdN ink mn m 0) = 0 ∧ (ndf (bbits (fun c => decide (0 < ink c)) 8) (bbits (fun c => decide (mn c = m)) 8)).testBit c = true ∧ kpN cy Fs Ft t (bdN ink mn m 0 ||| 2 ^ c) = 0)) vc) → cy 5 - vc < j64 → V E Z 64 [(0, .ref x), (1, .int m), (2, .int (nI (bdN ink mn m 0))), (3, .int (nI (ndf (bbits (fun c => decide (0 < ink c)) 8) (bbits (fun c => decide (mn c = m)) 8)))), (4, .int (nI 1)), (5, .int (nI vb)), (6, .int (nI vc))] [] [ob x 6 [.ref (xa 0), .ref g, .ref (xa 2), .ref (xa 3), .ref (xa 4), .ref (xa 5), .ref (xa 6), .ref (xa 7), .int (nI tr), .int (nI fl), .int pl], ob g 0 [.int (nI (cy 0)), .int (nI (cy 1)), .int (nI (cy 2)), .int (nI (cy 3)), .int (nI (cy 4)), .int (nI (cy 5)), .int (nI (cy 6)), .int (nI (cy 7)), .ref (ca 0), .ref (ca 1), .ref (ca 2), .ref (ca 3), .ref (ca 4), .ref (ca 5), .ref (ca 6), .ref (ca 7), .ref (ca 8), .ref (ca 9), .ref (ca 10), .ref (ca 11)], aM E (ca 5) 8 Fs, aM E (ca 6) 8 Ft, ob (xa 3) 2 [.ref hi, .ref hm, .int (nI t), .int (nI dd)], aN E hi 8 ink, aI E hm 8 mn] 0 0 := by
        intro j64
        induction j64 with
        | zero => intro vc vb hI hM; exact absurd hM (Nat.not_lt_zero _)
        | succ j64 ih64 =>
          intro vc vb hI64 hM64
          obtain ⟨hc, hb⟩ := id hI64
          refine v_iload X dX6_feared_64 6 rfl ?_
          refine v_aload_n X dX6_feared_66 rfl 0 rfl ?_
          refine v_get X kcX6 fl_X6_19 dX6_feared_67 0 rfl rfl ?_
          refine v_getN X kcX0 fl_X6_179 dX6_feared_70 1 rfl rfl ?_
          refine v_icmpN_ge X dX6_feared_73 (tgt := 121) (by decide) (by omega) (by omega) (fun h73 => ?_) (fun h73 => ?_)
          · refine v_aload_n X dX6_feared_121 rfl 0 rfl ?_
            refine v_iload X dX6_feared_122 5 rfl ?_
            refine v_wrI1 X (rn_V X k_X6_answered ml_X6_92 dX6_feared_124 (c_X6_answered l E x xa g tr fl pl (nI vb) ) rfl 0 rfl rfl (by decide) (by decide) (by omega) (by omega) (Nat.le_of_ble_eq_true rfl)) [0] rfl rfl (ws' := [ob x 6 [.ref (xa 0), .ref g, .ref (xa 2), .ref (xa 3), .ref (xa 4), .ref (xa 5), .ref (xa 6), .ref (xa 7), .int (nI 0), .int (nI fl), .int pl], ob g 0 [.int (nI (cy 0)), .int (nI (cy 1)), .int (nI (cy 2)), .int (nI (cy 3)), .int (nI (cy 4)), .int (nI (cy 5)), .int (nI (cy 6)), .int (nI (cy 7)), .ref (ca 0), .ref (ca 1), .ref (ca 2), .ref (ca 3), .ref (ca 4), .ref (ca 5), .ref (ca 6), .ref (ca 7), .ref (ca 8), .ref (ca 9), .ref (ca 10), .ref (ca 11)], aM E (ca 5) 8 Fs, aM E (ca 6) 8 Ft, ob (xa 3) 2 [.ref hi, .ref hm, .int (nI t), .int (nI dd)], aN E hi 8 ink, aI E hm 8 mn]) rfl rfl ?_
            exact v_iret X Y dX6_feared_127 (wrI_of (by rw [if_pos (of_decide_eq_true h5)]) ((by rw [if_pos (of_decide_eq_true h5), show cy 5 = vc by omega, ← hb]))) (by omega) (by omega)
          · refine v_iload X dX6_feared_76 4 rfl ?_
            refine v_ifN_ne X dX6_feared_78 (tgt := 115) (by decide) (by decide) (fun h78 => ?_) (fun h78 => ?_)
            · refine v_iinc X dX6_feared_115 6 rfl (v := nI (vc + 1)) (nI_inc vc) (by decide) (lv' := [(6, .int (nI (vc + 1))), (0, .ref x), (1, .int m), (2, .int (nI (bdN ink mn m 0))), (3, .int (nI (ndf (bbits (fun c => decide (0 < ink c)) 8) (bbits (fun c => decide (mn c = m)) 8)))), (4, .int (nI 1)), (5, .int (nI vb))]) rfl ?_
              refine v_goto X dX6_feared_118 (tgt := 64) (by decide) ?_
              refine V.lvs [1, 2, 3, 4, 5, 6, 0] rfl ?_
              exact ih64 (vc + 1) vb (⟨by omega, by rw [hb]; exact (bbits_no (decide_eq_false (fun q => q.1 h48))).symm⟩) (by omega)
            · exfalso; omega
      refine V.lvs [5, 6, 4, 3, 2, 1, 0] rfl ?_
      exact L64 _ 0 0 (⟨by omega, rfl⟩) (Nat.lt_succ_self _)
  · refine v_aload_n X dX6_feared_8 rfl 0 rfl ?_
    refine v_iconst X dX6_feared_9 (v := nI 1) (by decide) ?_
    refine v_wrI1 X (rn_V X k_X6_refused ml_X6_74 dX6_feared_10 (c_X6_refused l E x xa g tr fl pl 1 ) rfl 0 rfl rfl (by decide) (by decide) (by omega) (by omega) (Nat.le_of_ble_eq_true rfl)) [0] rfl rfl (ws' := [ob x 6 [.ref (xa 0), .ref g, .ref (xa 2), .ref (xa 3), .ref (xa 4), .ref (xa 5), .ref (xa 6), .ref (xa 7), .int (nI 1), .int (nI fl), .int pl], ob g 0 [.int (nI (cy 0)), .int (nI (cy 1)), .int (nI (cy 2)), .int (nI (cy 3)), .int (nI (cy 4)), .int (nI (cy 5)), .int (nI (cy 6)), .int (nI (cy 7)), .ref (ca 0), .ref (ca 1), .ref (ca 2), .ref (ca 3), .ref (ca 4), .ref (ca 5), .ref (ca 6), .ref (ca 7), .ref (ca 8), .ref (ca 9), .ref (ca 10), .ref (ca 11)], aM E (ca 5) 8 Fs, aM E (ca 6) 8 Ft, ob (xa 3) 2 [.ref hi, .ref hm, .int (nI t), .int (nI dd)], aN E hi 8 ink, aI E hm 8 mn]) rfl rfl ?_
    exact v_iret X Y dX6_feared_13 (wrI_of (by rw [if_neg (of_decide_eq_false h5)]) ((if_neg (of_decide_eq_false h5)).symm)) (by omega) (by omega)
