set_option maxRecDepth 100000 in
set_option maxHeartbeats 4000000 in
theorem c_X6_refused (l : Launch) (E : Et) (x : Nat) (xa : Nat → Nat) (g : Nat) (tr : Nat) (fl : Nat) (pl : Int32) (k : Nat)  : Ct l E yX6_refused cX6_refused 2 (some .int) 0 0 0 [.ref x, .int (nI k)] [ob x 6 [.ref (xa 0), .ref g, .ref (xa 2), .ref (xa 3), .ref (xa 4), .ref (xa 5), .ref (xa 6), .ref (xa 7), .int (nI tr), .int (nI fl), .int pl]] (wrI [ob x 6 [.ref (xa 0), .ref g, .ref (xa 2), .ref (xa 3), .ref (xa 4), .ref (xa 5), .ref (xa 6), .ref (xa 7), .int (nI k), .int (nI fl), .int pl]] (-1)) := by
  refine Ct.intro (by decide +kernel) (Nat.le_of_ble_eq_true rfl) (lv := [(0, .ref x), (1, .int (nI k))]) rfl ?_
  intro Z X Y
  refine v_aload_n X dX6_refused_0 rfl 0 rfl ?_
  refine v_iload_n X dX6_refused_1 rfl 1 rfl ?_
  refine v_put X kcX6 fl_X6_57 dX6_refused_2 0 rfl (ws' := [ob x 6 [.ref (xa 0), .ref g, .ref (xa 2), .ref (xa 3), .ref (xa 4), .ref (xa 5), .ref (xa 6), .ref (xa 7), .int (nI k), .int (nI fl), .int pl]]) rfl rfl ?_
  refine v_iconst X dX6_refused_5 (v := (-1)) (by decide) ?_
  exact v_iret X Y dX6_refused_6 (wrI_of rfl rfl) (by omega) (by omega)
set_option maxRecDepth 100000 in
set_option maxHeartbeats 4000000 in
theorem c_X6_answered (l : Launch) (E : Et) (x : Nat) (xa : Nat → Nat) (g : Nat) (tr : Nat) (fl : Nat) (pl : Int32) (a : Int32)  : Ct l E yX6_answered cX6_answered 2 (some .int) 0 0 0 [.ref x, .int a] [ob x 6 [.ref (xa 0), .ref g, .ref (xa 2), .ref (xa 3), .ref (xa 4), .ref (xa 5), .ref (xa 6), .ref (xa 7), .int (nI tr), .int (nI fl), .int pl]] (wrI [ob x 6 [.ref (xa 0), .ref g, .ref (xa 2), .ref (xa 3), .ref (xa 4), .ref (xa 5), .ref (xa 6), .ref (xa 7), .int (nI 0), .int (nI fl), .int pl]] a) := by
  refine Ct.intro (by decide +kernel) (Nat.le_of_ble_eq_true rfl) (lv := [(0, .ref x), (1, .int a)]) rfl ?_
  intro Z X Y
  refine v_aload_n X dX6_answered_0 rfl 0 rfl ?_
  refine v_iconst X dX6_answered_1 (v := nI 0) (by decide) ?_
  refine v_put X kcX6 fl_X6_57 dX6_answered_2 0 rfl (ws' := [ob x 6 [.ref (xa 0), .ref g, .ref (xa 2), .ref (xa 3), .ref (xa 4), .ref (xa 5), .ref (xa 6), .ref (xa 7), .int (nI 0), .int (nI fl), .int pl]]) rfl rfl ?_
  refine v_iload_n X dX6_answered_5 rfl 1 rfl ?_
  exact v_iret X Y dX6_answered_6 (wrI_of rfl rfl) (by omega) (by omega)
set_option maxRecDepth 100000 in
set_option maxHeartbeats 4000000 in
theorem c_X6_noCity (l : Launch) (E : Et) (x : Nat) (xa : Nat → Nat) (g : Nat) (tr : Nat) (fl : Nat) (pl : Int32) (cy : Nat → Nat) (ca : Nat → Nat) (hmen : cy 3 ≤ 4) : Ct l E yX6_noCity cX6_noCity 1 (some .boolean) 0 0 0 [.ref x] [ob x 6 [.ref (xa 0), .ref g, .ref (xa 2), .ref (xa 3), .ref (xa 4), .ref (xa 5), .ref (xa 6), .ref (xa 7), .int (nI tr), .int (nI fl), .int pl], ob g 0 [.int (nI (cy 0)), .int (nI (cy 1)), .int (nI (cy 2)), .int (nI (cy 3)), .int (nI (cy 4)), .int (nI (cy 5)), .int (nI (cy 6)), .int (nI (cy 7)), .ref (ca 0), .ref (ca 1), .ref (ca 2), .ref (ca 3), .ref (ca 4), .ref (ca 5), .ref (ca 6), .ref (ca 7), .ref (ca 8), .ref (ca 9), .ref (ca 10), .ref (ca 11)]] (roI [ob x 6 [.ref (xa 0), .ref g, .ref (xa 2), .ref (xa 3), .ref (xa 4), .ref (xa 5), .ref (xa 6), .ref (xa 7), .int (nI tr), .int (nI fl), .int pl], ob g 0 [.int (nI (cy 0)), .int (nI (cy 1)), .int (nI (cy 2)), .int (nI (cy 3)), .int (nI (cy 4)), .int (nI (cy 5)), .int (nI (cy 6)), .int (nI (cy 7)), .ref (ca 0), .ref (ca 1), .ref (ca 2), .ref (ca 3), .ref (ca 4), .ref (ca 5), .ref (ca 6), .ref (ca 7), .ref (ca 8), .ref (ca 9), .ref (ca 10), .ref (ca 11)]] (nI (decide (cy 3 = 0)).toNat)) := by
  refine Ct.intro (by decide +kernel) (Nat.le_of_ble_eq_true rfl) (lv := [(0, .ref x)]) rfl ?_
  intro Z X Y
  refine v_aload_n X dX6_noCity_0 rfl 0 rfl ?_
  refine v_get X kcX6 fl_X6_19 dX6_noCity_1 0 rfl rfl ?_
  refine v_getN X kcX0 fl_X6_89 dX6_noCity_4 1 rfl rfl ?_
  refine v_ifN_ne X dX6_noCity_7 (tgt := 14) (by decide) (by omega) (fun h7 => ?_) (fun h7 => ?_)
  · refine v_iconst X dX6_noCity_14 (v := nI 0) (by decide) ?_
    exact v_zret X Y dX6_noCity_15 (by decide) (roI_of (by first | exact bo1 (decide_eq_true (by omega)) | exact bo0 (decide_eq_false (by omega)))) (by omega) (by omega)
  · refine v_iconst X dX6_noCity_10 (v := nI 1) (by decide) ?_
    refine v_goto X dX6_noCity_11 (tgt := 15) (by decide) ?_
    exact v_zret X Y dX6_noCity_15 (by decide) (roI_of (by first | exact bo1 (decide_eq_true (by omega)) | exact bo0 (decide_eq_false (by omega)))) (by omega) (by omega)
set_option maxRecDepth 100000 in
set_option maxHeartbeats 4000000 in
theorem c_X6_isMan (l : Launch) (E : Et) (x : Nat) (xa : Nat → Nat) (g : Nat) (tr : Nat) (fl : Nat) (pl : Int32) (cy : Nat → Nat) (ca : Nat → Nat) (m : Int32)  : Ct l E yX6_isMan cX6_isMan 2 (some .boolean) 0 0 0 [.ref x, .int m] [ob x 6 [.ref (xa 0), .ref g, .ref (xa 2), .ref (xa 3), .ref (xa 4), .ref (xa 5), .ref (xa 6), .ref (xa 7), .int (nI tr), .int (nI fl), .int pl], ob g 0 [.int (nI (cy 0)), .int (nI (cy 1)), .int (nI (cy 2)), .int (nI (cy 3)), .int (nI (cy 4)), .int (nI (cy 5)), .int (nI (cy 6)), .int (nI (cy 7)), .ref (ca 0), .ref (ca 1), .ref (ca 2), .ref (ca 3), .ref (ca 4), .ref (ca 5), .ref (ca 6), .ref (ca 7), .ref (ca 8), .ref (ca 9), .ref (ca 10), .ref (ca 11)]] (roI [ob x 6 [.ref (xa 0), .ref g, .ref (xa 2), .ref (xa 3), .ref (xa 4), .ref (xa 5), .ref (xa 6), .ref (xa 7), .int (nI tr), .int (nI fl), .int pl], ob g 0 [.int (nI (cy 0)), .int (nI (cy 1)), .int (nI (cy 2)), .int (nI (cy 3)), .int (nI (cy 4)), .int (nI (cy 5)), .int (nI (cy 6)), .int (nI (cy 7)), .ref (ca 0), .ref (ca 1), .ref (ca 2), .ref (ca 3), .ref (ca 4), .ref (ca 5), .ref (ca 6), .ref (ca 7), .ref (ca 8), .ref (ca 9), .ref (ca 10), .ref (ca 11)]] (nI (decide (okM m (cy 3))).toNat)) := by
  refine Ct.intro (by decide +kernel) (Nat.le_of_ble_eq_true rfl) (lv := [(0, .ref x), (1, .int m)]) rfl ?_
  intro Z X Y
  refine v_iload_n X dX6_isMan_0 rfl 1 rfl ?_
  refine v_if_lt X dX6_isMan_1 (tgt := 19) (by decide) (fun h1 => ?_) (fun h1 => ?_)
  · refine v_iconst X dX6_isMan_19 (v := nI 0) (by decide) ?_
    exact v_zret X Y dX6_isMan_20 (by decide) (roI_of (by first | exact bo1 (decide_eq_true ⟨Int32.not_lt.mp h1, Int32.not_le.mp h12⟩) | exact bo0 (decide_eq_false (fun q => absurd q.1 (Int32.not_le.mpr h1))) | exact bo0 (decide_eq_false (fun q => absurd q.2 (Int32.not_lt.mpr h12))))) (by omega) (by omega)
  · refine v_iload_n X dX6_isMan_4 rfl 1 rfl ?_
    refine v_aload_n X dX6_isMan_5 rfl 0 rfl ?_
    refine v_get X kcX6 fl_X6_19 dX6_isMan_6 0 rfl rfl ?_
    refine v_getN X kcX0 fl_X6_89 dX6_isMan_9 1 rfl rfl ?_
    refine v_icmp_ge X dX6_isMan_12 (tgt := 19) (by decide) (fun h12 => ?_) (fun h12 => ?_)
    · refine v_iconst X dX6_isMan_19 (v := nI 0) (by decide) ?_
      exact v_zret X Y dX6_isMan_20 (by decide) (roI_of (by first | exact bo1 (decide_eq_true ⟨Int32.not_lt.mp h1, Int32.not_le.mp h12⟩) | exact bo0 (decide_eq_false (fun q => absurd q.1 (Int32.not_le.mpr h1))) | exact bo0 (decide_eq_false (fun q => absurd q.2 (Int32.not_lt.mpr h12))))) (by omega) (by omega)
    · refine v_iconst X dX6_isMan_15 (v := nI 1) (by decide) ?_
      refine v_goto X dX6_isMan_16 (tgt := 20) (by decide) ?_
      exact v_zret X Y dX6_isMan_20 (by decide) (roI_of (by first | exact bo1 (decide_eq_true ⟨Int32.not_lt.mp h1, Int32.not_le.mp h12⟩) | exact bo0 (decide_eq_false (fun q => absurd q.1 (Int32.not_le.mpr h1))) | exact bo0 (decide_eq_false (fun q => absurd q.2 (Int32.not_lt.mpr h12))))) (by omega) (by omega)
set_option maxRecDepth 100000 in
set_option maxHeartbeats 4000000 in
theorem c_X6_isClause (l : Launch) (E : Et) (x : Nat) (xa : Nat → Nat) (g : Nat) (tr : Nat) (fl : Nat) (pl : Int32) (cy : Nat → Nat) (ca : Nat → Nat) (m : Int32)  : Ct l E yX6_isClause cX6_isClause 2 (some .boolean) 0 0 0 [.ref x, .int m] [ob x 6 [.ref (xa 0), .ref g, .ref (xa 2), .ref (xa 3), .ref (xa 4), .ref (xa 5), .ref (xa 6), .ref (xa 7), .int (nI tr), .int (nI fl), .int pl], ob g 0 [.int (nI (cy 0)), .int (nI (cy 1)), .int (nI (cy 2)), .int (nI (cy 3)), .int (nI (cy 4)), .int (nI (cy 5)), .int (nI (cy 6)), .int (nI (cy 7)), .ref (ca 0), .ref (ca 1), .ref (ca 2), .ref (ca 3), .ref (ca 4), .ref (ca 5), .ref (ca 6), .ref (ca 7), .ref (ca 8), .ref (ca 9), .ref (ca 10), .ref (ca 11)]] (roI [ob x 6 [.ref (xa 0), .ref g, .ref (xa 2), .ref (xa 3), .ref (xa 4), .ref (xa 5), .ref (xa 6), .ref (xa 7), .int (nI tr), .int (nI fl), .int pl], ob g 0 [.int (nI (cy 0)), .int (nI (cy 1)), .int (nI (cy 2)), .int (nI (cy 3)), .int (nI (cy 4)), .int (nI (cy 5)), .int (nI (cy 6)), .int (nI (cy 7)), .ref (ca 0), .ref (ca 1), .ref (ca 2), .ref (ca 3), .ref (ca 4), .ref (ca 5), .ref (ca 6), .ref (ca 7), .ref (ca 8), .ref (ca 9), .ref (ca 10), .ref (ca 11)]] (nI (decide (okM m (cy 5))).toNat)) := by
  refine Ct.intro (by decide +kernel) (Nat.le_of_ble_eq_true rfl) (lv := [(0, .ref x), (1, .int m)]) rfl ?_
  intro Z X Y
  refine v_iload_n X dX6_isClause_0 rfl 1 rfl ?_
  refine v_if_lt X dX6_isClause_1 (tgt := 19) (by decide) (fun h1 => ?_) (fun h1 => ?_)
  · refine v_iconst X dX6_isClause_19 (v := nI 0) (by decide) ?_
    exact v_zret X Y dX6_isClause_20 (by decide) (roI_of (by first | exact bo1 (decide_eq_true ⟨Int32.not_lt.mp h1, Int32.not_le.mp h12⟩) | exact bo0 (decide_eq_false (fun q => absurd q.1 (Int32.not_le.mpr h1))) | exact bo0 (decide_eq_false (fun q => absurd q.2 (Int32.not_lt.mpr h12))))) (by omega) (by omega)
  · refine v_iload_n X dX6_isClause_4 rfl 1 rfl ?_
    refine v_aload_n X dX6_isClause_5 rfl 0 rfl ?_
    refine v_get X kcX6 fl_X6_19 dX6_isClause_6 0 rfl rfl ?_
    refine v_getN X kcX0 fl_X6_179 dX6_isClause_9 1 rfl rfl ?_
    refine v_icmp_ge X dX6_isClause_12 (tgt := 19) (by decide) (fun h12 => ?_) (fun h12 => ?_)
    · refine v_iconst X dX6_isClause_19 (v := nI 0) (by decide) ?_
      exact v_zret X Y dX6_isClause_20 (by decide) (roI_of (by first | exact bo1 (decide_eq_true ⟨Int32.not_lt.mp h1, Int32.not_le.mp h12⟩) | exact bo0 (decide_eq_false (fun q => absurd q.1 (Int32.not_le.mpr h1))) | exact bo0 (decide_eq_false (fun q => absurd q.2 (Int32.not_lt.mpr h12))))) (by omega) (by omega)
    · refine v_iconst X dX6_isClause_15 (v := nI 1) (by decide) ?_
      refine v_goto X dX6_isClause_16 (tgt := 20) (by decide) ?_
      exact v_zret X Y dX6_isClause_20 (by decide) (roI_of (by first | exact bo1 (decide_eq_true ⟨Int32.not_lt.mp h1, Int32.not_le.mp h12⟩) | exact bo0 (decide_eq_false (fun q => absurd q.1 (Int32.not_le.mpr h1))) | exact bo0 (decide_eq_false (fun q => absurd q.2 (Int32.not_lt.mpr h12))))) (by omega) (by omega)
set_option maxRecDepth 100000 in
set_option maxHeartbeats 4000000 in
theorem c_X6_setCount (l : Launch) (E : Et) (x : Nat) (xa : Nat → Nat) (g : Nat) (tr : Nat) (fl : Nat) (pl : Int32) (cy : Nat → Nat) (ca : Nat → Nat) (hd : cy 4 ≤ 6) : Ct l E yX6_setCount cX6_setCount 1 (some .int) 0 0 0 [.ref x] [ob x 6 [.ref (xa 0), .ref g, .ref (xa 2), .ref (xa 3), .ref (xa 4), .ref (xa 5), .ref (xa 6), .ref (xa 7), .int (nI tr), .int (nI fl), .int pl], ob g 0 [.int (nI (cy 0)), .int (nI (cy 1)), .int (nI (cy 2)), .int (nI (cy 3)), .int (nI (cy 4)), .int (nI (cy 5)), .int (nI (cy 6)), .int (nI (cy 7)), .ref (ca 0), .ref (ca 1), .ref (ca 2), .ref (ca 3), .ref (ca 4), .ref (ca 5), .ref (ca 6), .ref (ca 7), .ref (ca 8), .ref (ca 9), .ref (ca 10), .ref (ca 11)]] (roI [ob x 6 [.ref (xa 0), .ref g, .ref (xa 2), .ref (xa 3), .ref (xa 4), .ref (xa 5), .ref (xa 6), .ref (xa 7), .int (nI tr), .int (nI fl), .int pl], ob g 0 [.int (nI (cy 0)), .int (nI (cy 1)), .int (nI (cy 2)), .int (nI (cy 3)), .int (nI (cy 4)), .int (nI (cy 5)), .int (nI (cy 6)), .int (nI (cy 7)), .ref (ca 0), .ref (ca 1), .ref (ca 2), .ref (ca 3), .ref (ca 4), .ref (ca 5), .ref (ca 6), .ref (ca 7), .ref (ca 8), .ref (ca 9), .ref (ca 10), .ref (ca 11)]] (nI (2 ^ cy 4))) := by
  refine Ct.intro (by decide +kernel) (Nat.le_of_ble_eq_true rfl) (lv := [(0, .ref x)]) rfl ?_
  intro Z X Y
  refine v_iconst X dX6_setCount_0 (v := nI 1) (by decide) ?_
  refine v_aload_n X dX6_setCount_1 rfl 0 rfl ?_
  refine v_get X kcX6 fl_X6_19 dX6_setCount_2 0 rfl rfl ?_
  refine v_getN X kcX0 fl_X6_304 dX6_setCount_5 1 rfl rfl ?_
  refine v_ishl X dX6_setCount_8 ?_
  refine v_eqi (x' := nI (2 ^ (cy 4))) (nI_shl1 (by omega)) ?_
  exact v_iret X Y dX6_setCount_9 (roI_of (by simp_all)) (by omega) (by omega)
set_option maxRecDepth 100000 in
set_option maxHeartbeats 4000000 in
theorem c_X6_isSet (l : Launch) (E : Et) (x : Nat) (xa : Nat → Nat) (g : Nat) (tr : Nat) (fl : Nat) (pl : Int32) (cy : Nat → Nat) (ca : Nat → Nat) (m : Int32) (hd : cy 4 ≤ 6) : Ct l E yX6_isSet cX6_isSet 2 (some .boolean) 1 0 0 [.ref x, .int m] [ob x 6 [.ref (xa 0), .ref g, .ref (xa 2), .ref (xa 3), .ref (xa 4), .ref (xa 5), .ref (xa 6), .ref (xa 7), .int (nI tr), .int (nI fl), .int pl], ob g 0 [.int (nI (cy 0)), .int (nI (cy 1)), .int (nI (cy 2)), .int (nI (cy 3)), .int (nI (cy 4)), .int (nI (cy 5)), .int (nI (cy 6)), .int (nI (cy 7)), .ref (ca 0), .ref (ca 1), .ref (ca 2), .ref (ca 3), .ref (ca 4), .ref (ca 5), .ref (ca 6), .ref (ca 7), .ref (ca 8), .ref (ca 9), .ref (ca 10), .ref (ca 11)]] (roI [ob x 6 [.ref (xa 0), .ref g, .ref (xa 2), .ref (xa 3), .ref (xa 4), .ref (xa 5), .ref (xa 6), .ref (xa 7), .int (nI tr), .int (nI fl), .int pl], ob g 0 [.int (nI (cy 0)), .int (nI (cy 1)), .int (nI (cy 2)), .int (nI (cy 3)), .int (nI (cy 4)), .int (nI (cy 5)), .int (nI (cy 6)), .int (nI (cy 7)), .ref (ca 0), .ref (ca 1), .ref (ca 2), .ref (ca 3), .ref (ca 4), .ref (ca 5), .ref (ca 6), .ref (ca 7), .ref (ca 8), .ref (ca 9), .ref (ca 10), .ref (ca 11)]] (nI (decide (okM m (2 ^ cy 4))).toNat)) := by
  refine Ct.intro (by decide +kernel) (Nat.le_of_ble_eq_true rfl) (lv := [(0, .ref x), (1, .int m)]) rfl ?_
  intro Z X Y
  refine v_iload_n X dX6_isSet_0 rfl 1 rfl ?_
  refine v_if_lt X dX6_isSet_1 (tgt := 16) (by decide) (fun h1 => ?_) (fun h1 => ?_)
  · refine v_iconst X dX6_isSet_16 (v := nI 0) (by decide) ?_
    exact v_zret X Y dX6_isSet_17 (by decide) (roI_of (by first | exact bo1 (decide_eq_true ⟨Int32.not_lt.mp h1, Int32.not_le.mp h9⟩) | exact bo0 (decide_eq_false (fun q => absurd q.1 (Int32.not_le.mpr h1))) | exact bo0 (decide_eq_false (fun q => absurd q.2 (Int32.not_lt.mpr h9))))) (by omega) (by omega)
  · refine v_iload_n X dX6_isSet_4 rfl 1 rfl ?_
    refine v_aload_n X dX6_isSet_5 rfl 0 rfl ?_
    refine v_roI1 X (rn_V X k_X6_setCount ml_X6_160 dX6_isSet_6 (c_X6_setCount l E x xa g tr fl pl cy ca (by first | assumption | omega)) rfl 0 rfl rfl (by decide) (by decide) (by omega) (by omega) (Nat.le_of_ble_eq_true rfl)) [0, 1] rfl rfl ?_
    refine v_icmp_ge X dX6_isSet_9 (tgt := 16) (by decide) (fun h9 => ?_) (fun h9 => ?_)
    · refine v_iconst X dX6_isSet_16 (v := nI 0) (by decide) ?_
      exact v_zret X Y dX6_isSet_17 (by decide) (roI_of (by first | exact bo1 (decide_eq_true ⟨Int32.not_lt.mp h1, Int32.not_le.mp h9⟩) | exact bo0 (decide_eq_false (fun q => absurd q.1 (Int32.not_le.mpr h1))) | exact bo0 (decide_eq_false (fun q => absurd q.2 (Int32.not_lt.mpr h9))))) (by omega) (by omega)
    · refine v_iconst X dX6_isSet_12 (v := nI 1) (by decide) ?_
      refine v_goto X dX6_isSet_13 (tgt := 17) (by decide) ?_
      exact v_zret X Y dX6_isSet_17 (by decide) (roI_of (by first | exact bo1 (decide_eq_true ⟨Int32.not_lt.mp h1, Int32.not_le.mp h9⟩) | exact bo0 (decide_eq_false (fun q => absurd q.1 (Int32.not_le.mpr h1))) | exact bo0 (decide_eq_false (fun q => absurd q.2 (Int32.not_lt.mpr h9))))) (by omega) (by omega)
set_option maxRecDepth 100000 in
set_option maxHeartbeats 4000000 in
theorem c_X6_chainTrouble (l : Launch) (E : Et) (x : Nat) (xa : Nat → Nat) (g : Nat) (tr : Nat) (fl : Nat) (pl : Int32) (cy : Nat → Nat) (ca : Nat → Nat) (ch : Int32) (hmen : cy 3 ≤ 4) : Ct l E yX6_chainTrouble cX6_chainTrouble 2 (some .int) 1 0 0 [.ref x, .int ch] [ob x 6 [.ref (xa 0), .ref g, .ref (xa 2), .ref (xa 3), .ref (xa 4), .ref (xa 5), .ref (xa 6), .ref (xa 7), .int (nI tr), .int (nI fl), .int pl], ob g 0 [.int (nI (cy 0)), .int (nI (cy 1)), .int (nI (cy 2)), .int (nI (cy 3)), .int (nI (cy 4)), .int (nI (cy 5)), .int (nI (cy 6)), .int (nI (cy 7)), .ref (ca 0), .ref (ca 1), .ref (ca 2), .ref (ca 3), .ref (ca 4), .ref (ca 5), .ref (ca 6), .ref (ca 7), .ref (ca 8), .ref (ca 9), .ref (ca 10), .ref (ca 11)]] (roI [ob x 6 [.ref (xa 0), .ref g, .ref (xa 2), .ref (xa 3), .ref (xa 4), .ref (xa 5), .ref (xa 6), .ref (xa 7), .int (nI tr), .int (nI fl), .int pl], ob g 0 [.int (nI (cy 0)), .int (nI (cy 1)), .int (nI (cy 2)), .int (nI (cy 3)), .int (nI (cy 4)), .int (nI (cy 5)), .int (nI (cy 6)), .int (nI (cy 7)), .ref (ca 0), .ref (ca 1), .ref (ca 2), .ref (ca 3), .ref (ca 4), .ref (ca 5), .ref (ca 6), .ref (ca 7), .ref (ca 8), .ref (ca 9), .ref (ca 10), .ref (ca 11)]] (nI (chT (cy 3) ch))) := by
  refine Ct.intro (by decide +kernel) (Nat.le_of_ble_eq_true rfl) (lv := [(0, .ref x), (1, .int ch)]) rfl ?_
  intro Z X Y
  refine v_aload_n X dX6_chainTrouble_0 rfl 0 rfl ?_
  refine v_roI1 X (rn_V X k_X6_noCity ml_X6_168 dX6_chainTrouble_1 (c_X6_noCity l E x xa g tr fl pl cy ca (by first | assumption | omega)) rfl 0 rfl rfl (by decide) (by decide) (by omega) (by omega) (Nat.le_of_ble_eq_true rfl)) [0, 1] rfl rfl ?_
  refine v_ifB_eq X dX6_chainTrouble_4 (tgt := 9) (by decide) (fun h4 => ?_) (fun h4 => ?_)
  · refine v_iload_n X dX6_chainTrouble_9 rfl 1 rfl ?_
    refine v_if_lt X dX6_chainTrouble_10 (tgt := 19) (by decide) (fun h10 => ?_) (fun h10 => ?_)
    · refine v_iconst X dX6_chainTrouble_19 (v := nI 2) (by decide) ?_
      refine v_goto X dX6_chainTrouble_20 (tgt := 24) (by decide) ?_
      exact v_iret X Y dX6_chainTrouble_24 (roI_of (by rw [chT, if_neg (of_decide_eq_false h4), if_neg (fun q => absurd q.1 (Int32.not_le.mpr h10))])) (by omega) (by omega)
    · refine v_iload_n X dX6_chainTrouble_13 rfl 1 rfl ?_
      refine v_bipush X dX6_chainTrouble_14 (v := nI 9) (by decide) ?_
      refine v_icmp_le X dX6_chainTrouble_16 (tgt := 23) (by decide) (fun h16 => ?_) (fun h16 => ?_)
      · refine v_iconst X dX6_chainTrouble_23 (v := nI 0) (by decide) ?_
        exact v_iret X Y dX6_chainTrouble_24 (roI_of (by rw [chT, if_neg (of_decide_eq_false h4), if_pos ⟨Int32.not_lt.mp h10, h16⟩])) (by omega) (by omega)
      · refine v_iconst X dX6_chainTrouble_19 (v := nI 2) (by decide) ?_
        refine v_goto X dX6_chainTrouble_20 (tgt := 24) (by decide) ?_
        exact v_iret X Y dX6_chainTrouble_24 (roI_of (by rw [chT, if_neg (of_decide_eq_false h4), if_neg (fun q => h16 q.2)])) (by omega) (by omega)
  · refine v_iconst X dX6_chainTrouble_7 (v := nI 1) (by decide) ?_
    exact v_iret X Y dX6_chainTrouble_8 (roI_of (by rw [chT, if_pos (of_decide_eq_true h4)])) (by omega) (by omega)
set_option maxRecDepth 100000 in
set_option maxHeartbeats 4000000 in
theorem c_X6_bound (l : Launch) (E : Et) (x : Nat) (xa : Nat → Nat) (g : Nat) (tr : Nat) (fl : Nat) (pl : Int32) (hi : Nat) (hm : Nat) (t : Nat) (dd : Nat) (ink : Nat → Nat) (mn : Nat → Int32) (m : Int32) (da : Nat) (hink : ∀ c, ink c ≤ 40) (hda : da < 2 ^ 31) : Ct l E yX6_bound cX6_bound 3 (some .int) 1 0 0 [.ref x, .int m, .int (nI da)] [ob x 6 [.ref (xa 0), .ref g, .ref (xa 2), .ref (xa 3), .ref (xa 4), .ref (xa 5), .ref (xa 6), .ref (xa 7), .int (nI tr), .int (nI fl), .int pl], ob (xa 3) 2 [.ref hi, .ref hm, .int (nI t), .int (nI dd)], aN E hi 8 ink, aI E hm 8 mn] (roI [ob x 6 [.ref (xa 0), .ref g, .ref (xa 2), .ref (xa 3), .ref (xa 4), .ref (xa 5), .ref (xa 6), .ref (xa 7), .int (nI tr), .int (nI fl), .int pl], ob (xa 3) 2 [.ref hi, .ref hm, .int (nI t), .int (nI dd)], aN E hi 8 ink, aI E hm 8 mn] (nI (bdN ink mn m da))) := by
  refine Ct.intro (by decide +kernel) (Nat.le_of_ble_eq_true rfl) (lv := [(0, .ref x), (1, .int m), (2, .int (nI da))]) rfl ?_
  intro Z X Y
  refine v_aload_n X dX6_bound_0 rfl 0 rfl ?_
  refine v_get X kcX6 fl_X6_30 dX6_bound_1 0 rfl rfl ?_
  refine v_iload_n X dX6_bound_4 rfl 2 rfl ?_
  refine v_roI1 X (rn_VN X k_X2_binding ml_X6_182 dX6_bound_5 (c_X2_binding l E (xa 3) hi hm t dd ink da (by first | assumption | omega) (by omega)) rfl 0 rfl rfl (by decide) (by decide) (by omega) (by omega) (Nat.le_of_ble_eq_true rfl)) [1, 2] rfl rfl ?_
  refine v_aload_n X dX6_bound_8 rfl 0 rfl ?_
  refine v_get X kcX6 fl_X6_30 dX6_bound_9 0 rfl rfl ?_
  refine v_iload_n X dX6_bound_12 rfl 1 rfl ?_
  refine v_roI1 X (rn_VN X k_X2_pressedOn ml_X6_120 dX6_bound_13 (c_X2_pressedOn l E (xa 3) hi hm t dd mn m ) rfl 0 rfl rfl (by decide) (by decide) (by omega) (by omega) (Nat.le_of_ble_eq_true rfl)) [1, 3] rfl rfl ?_
  refine v_iand X dX6_bound_16 ?_
  refine v_eqi (x' := nI ((bbits (fun c => decide (da < ink c)) 8) &&& (bbits (fun c => decide (mn c = m)) 8))) (fa_and _ _) ?_
  exact v_iret X Y dX6_bound_17 (roI_of (rfl)) (by omega) (by omega)
set_option maxRecDepth 100000 in
set_option maxHeartbeats 4000000 in
theorem c_X6_setsUnder (l : Launch) (E : Et) (x : Nat) (xa : Nat → Nat) (g : Nat) (tr : Nat) (fl : Nat) (pl : Int32) (cy : Nat → Nat) (ca : Nat → Nat) (Fs : Nat → Nat) (Ft : Nat → Nat) (hi : Nat) (hm : Nat) (t : Nat) (dd : Nat) (ink : Nat → Nat) (mn : Nat → Int32) (bs : Nat) (hd : cy 4 ≤ 6) (hcl : cy 5 ≤ 8) (ht : t < 256) (hbs : bs < 2 ^ 31) : Ct l E yX6_setsUnder cX6_setsUnder 2 (some .long) 3 0 0 [.ref x, .int (nI bs)] [ob x 6 [.ref (xa 0), .ref g, .ref (xa 2), .ref (xa 3), .ref (xa 4), .ref (xa 5), .ref (xa 6), .ref (xa 7), .int (nI tr), .int (nI fl), .int pl], ob g 0 [.int (nI (cy 0)), .int (nI (cy 1)), .int (nI (cy 2)), .int (nI (cy 3)), .int (nI (cy 4)), .int (nI (cy 5)), .int (nI (cy 6)), .int (nI (cy 7)), .ref (ca 0), .ref (ca 1), .ref (ca 2), .ref (ca 3), .ref (ca 4), .ref (ca 5), .ref (ca 6), .ref (ca 7), .ref (ca 8), .ref (ca 9), .ref (ca 10), .ref (ca 11)], aM E (ca 5) 8 Fs, aM E (ca 6) 8 Ft, ob (xa 3) 2 [.ref hi, .ref hm, .int (nI t), .int (nI dd)], aN E hi 8 ink, aI E hm 8 mn] (roL [ob x 6 [.ref (xa 0), .ref g, .ref (xa 2), .ref (xa 3), .ref (xa 4), .ref (xa 5), .ref (xa 6), .ref (xa 7), .int (nI tr), .int (nI fl), .int pl], ob g 0 [.int (nI (cy 0)), .int (nI (cy 1)), .int (nI (cy 2)), .int (nI (cy 3)), .int (nI (cy 4)), .int (nI (cy 5)), .int (nI (cy 6)), .int (nI (cy 7)), .ref (ca 0), .ref (ca 1), .ref (ca 2), .ref (ca 3), .ref (ca 4), .ref (ca 5), .ref (ca 6), .ref (ca 7), .ref (ca 8), .ref (ca 9), .ref (ca 10), .ref (ca 11)], aM E (ca 5) 8 Fs, aM E (ca 6) 8 Ft, ob (xa 3) 2 [.ref hi, .ref hm, .int (nI t), .int (nI dd)], aN E hi 8 ink, aI E hm 8 mn] (lN (kpN cy Fs Ft t bs))) := by
  refine Ct.intro (by decide +kernel) (Nat.le_of_ble_eq_true rfl) (lv := [(0, .ref x), (1, .int (nI bs))]) rfl ?_
  intro Z X Y
  refine v_aload_n X dX6_setsUnder_0 rfl 0 rfl ?_
  refine v_get X kcX6 fl_X6_19 dX6_setsUnder_1 0 rfl rfl ?_
  refine v_iload_n X dX6_setsUnder_4 rfl 1 rfl ?_
  refine v_aload_n X dX6_setsUnder_5 rfl 0 rfl ?_
  refine v_get X kcX6 fl_X6_30 dX6_setsUnder_6 0 rfl rfl ?_
  refine v_getN X kcX2 fl_X6_113 dX6_setsUnder_9 4 rfl rfl ?_
  refine v_roL1 X (rn_VN X k_X0_setsKeeping ml_X6_329 dX6_setsUnder_12 (c_X0_setsKeeping l E g cy ca Fs Ft bs t (by first | assumption | omega) (by first | assumption | omega) (by omega) (by omega)) rfl 0 rfl rfl (by decide) (by decide) (by omega) (by omega) (Nat.le_of_ble_eq_true rfl)) [1, 2, 3] rfl rfl ?_
  exact v_lret X Y dX6_setsUnder_15 (roL_of (rfl)) (by omega) (by omega)
set_option maxRecDepth 100000 in
set_option maxHeartbeats 4000000 in
theorem c_X6_waysOf (l : Launch) (E : Et) (x : Nat) (xa : Nat → Nat) (g : Nat) (tr : Nat) (fl : Nat) (pl : Int32) (cy : Nat → Nat) (ca : Nat → Nat) (Fs : Nat → Nat) (Ft : Nat → Nat) (hi : Nat) (hm : Nat) (t : Nat) (dd : Nat) (ink : Nat → Nat) (mn : Nat → Int32) (m : Int32) (hd : cy 4 ≤ 6) (hcl : cy 5 ≤ 8) (ht : t < 256) (hink : ∀ c, ink c ≤ 40) : Ct l E yX6_waysOf cX6_waysOf 2 (some .long) 4 0 0 [.ref x, .int m] [ob x 6 [.ref (xa 0), .ref g, .ref (xa 2), .ref (xa 3), .ref (xa 4), .ref (xa 5), .ref (xa 6), .ref (xa 7), .int (nI tr), .int (nI fl), .int pl], ob g 0 [.int (nI (cy 0)), .int (nI (cy 1)), .int (nI (cy 2)), .int (nI (cy 3)), .int (nI (cy 4)), .int (nI (cy 5)), .int (nI (cy 6)), .int (nI (cy 7)), .ref (ca 0), .ref (ca 1), .ref (ca 2), .ref (ca 3), .ref (ca 4), .ref (ca 5), .ref (ca 6), .ref (ca 7), .ref (ca 8), .ref (ca 9), .ref (ca 10), .ref (ca 11)], aM E (ca 5) 8 Fs, aM E (ca 6) 8 Ft, ob (xa 3) 2 [.ref hi, .ref hm, .int (nI t), .int (nI dd)], aN E hi 8 ink, aI E hm 8 mn] (roL [ob x 6 [.ref (xa 0), .ref g, .ref (xa 2), .ref (xa 3), .ref (xa 4), .ref (xa 5), .ref (xa 6), .ref (xa 7), .int (nI tr), .int (nI fl), .int pl], ob g 0 [.int (nI (cy 0)), .int (nI (cy 1)), .int (nI (cy 2)), .int (nI (cy 3)), .int (nI (cy 4)), .int (nI (cy 5)), .int (nI (cy 6)), .int (nI (cy 7)), .ref (ca 0), .ref (ca 1), .ref (ca 2), .ref (ca 3), .ref (ca 4), .ref (ca 5), .ref (ca 6), .ref (ca 7), .ref (ca 8), .ref (ca 9), .ref (ca 10), .ref (ca 11)], aM E (ca 5) 8 Fs, aM E (ca 6) 8 Ft, ob (xa 3) 2 [.ref hi, .ref hm, .int (nI t), .int (nI dd)], aN E hi 8 ink, aI E hm 8 mn] (lN (kpN cy Fs Ft t (bdN ink mn m 0)))) := by
  refine Ct.intro (by decide +kernel) (Nat.le_of_ble_eq_true rfl) (lv := [(0, .ref x), (1, .int m)]) rfl ?_
  intro Z X Y
  refine v_aload_n X dX6_waysOf_0 rfl 0 rfl ?_
  refine v_aload_n X dX6_waysOf_1 rfl 0 rfl ?_
  refine v_iload_n X dX6_waysOf_2 rfl 1 rfl ?_
  refine v_iconst X dX6_waysOf_3 (v := nI 0) (by decide) ?_
  refine v_roI1 X (rn_V X k_X6_bound ml_X6_123 dX6_waysOf_4 (c_X6_bound l E x xa g tr fl pl hi hm t dd ink mn m 0 (by first | assumption | omega) (by omega)) rfl 0 rfl rfl (by decide) (by decide) (by omega) (by omega) (Nat.le_of_ble_eq_true rfl)) [0, 4, 5, 6] rfl rfl ?_
  refine v_roL1 X (rn_V X k_X6_setsUnder ml_X6_133 dX6_waysOf_7 (c_X6_setsUnder l E x xa g tr fl pl cy ca Fs Ft hi hm t dd ink mn (bdN ink mn m 0) (by first | assumption | omega) (by first | assumption | omega) (by first | assumption | omega) (Nat.lt_trans (bdN_lt _ _ _ _) (by decide))) rfl 0 rfl rfl (by decide) (by decide) (by omega) (by omega) (Nat.le_of_ble_eq_true rfl)) [0, 1, 2, 3, 4, 5, 6] rfl rfl ?_
  exact v_lret X Y dX6_waysOf_10 (roL_of rfl) (by omega) (by omega)
set_option maxRecDepth 100000 in
set_option maxHeartbeats 4000000 in
theorem c_X6_deedsInSome (l : Launch) (E : Et) (x : Nat) (xa : Nat → Nat) (g : Nat) (tr : Nat) (fl : Nat) (pl : Int32) (cy : Nat → Nat) (ca : Nat → Nat) (a : Nat) (hd : cy 4 ≤ 6) (ha : a < 2 ^ 64) : Ct l E yX6_deedsInSome cX6_deedsInSome 5 (some .int) 1 0 0 [.ref x, .long (lN a)] [ob x 6 [.ref (xa 0), .ref g, .ref (xa 2), .ref (xa 3), .ref (xa 4), .ref (xa 5), .ref (xa 6), .ref (xa 7), .int (nI tr), .int (nI fl), .int pl], ob g 0 [.int (nI (cy 0)), .int (nI (cy 1)), .int (nI (cy 2)), .int (nI (cy 3)), .int (nI (cy 4)), .int (nI (cy 5)), .int (nI (cy 6)), .int (nI (cy 7)), .ref (ca 0), .ref (ca 1), .ref (ca 2), .ref (ca 3), .ref (ca 4), .ref (ca 5), .ref (ca 6), .ref (ca 7), .ref (ca 8), .ref (ca 9), .ref (ca 10), .ref (ca 11)]] (roI [ob x 6 [.ref (xa 0), .ref g, .ref (xa 2), .ref (xa 3), .ref (xa 4), .ref (xa 5), .ref (xa 6), .ref (xa 7), .int (nI tr), .int (nI fl), .int pl], ob g 0 [.int (nI (cy 0)), .int (nI (cy 1)), .int (nI (cy 2)), .int (nI (cy 3)), .int (nI (cy 4)), .int (nI (cy 5)), .int (nI (cy 6)), .int (nI (cy 7)), .ref (ca 0), .ref (ca 1), .ref (ca 2), .ref (ca 3), .ref (ca 4), .ref (ca 5), .ref (ca 6), .ref (ca 7), .ref (ca 8), .ref (ca 9), .ref (ca 10), .ref (ca 11)]] (nI (bbits (fun d => decide (¬ a &&& swI (nI d) = 0)) (cy 4)))) := by
  refine Ct.intro (by decide +kernel) (Nat.le_of_ble_eq_true rfl) (lv := [(0, .ref x), (1, .long (lN a))]) rfl ?_
  intro Z X Y
  refine v_iconst X dX6_deedsInSome_0 (v := nI 0) (by decide) ?_
  refine v_istore_n X dX6_deedsInSome_1 rfl (by decide) (lv' := [(3, .int (nI 0)), (0, .ref x), (1, .long (lN a))]) rfl ?_
  refine v_iconst X dX6_deedsInSome_2 (v := nI 0) (by decide) ?_
  refine v_istore X dX6_deedsInSome_3 (by decide) (lv' := [(4, .int (nI 0)), (3, .int (nI 0)), (0, .ref x), (1, .long (lN a))]) rfl ?_
  have L5 : ∀ (j5 : Nat) (vd : Nat) (vb : Nat), (vd ≤ cy 4 ∧ vb = bbits (fun d => decide (¬ a &&& swI (nI d) = 0)) vd) → cy 4 - vd < j5 → V E Z 5 [(0, .ref x), (1, .long (lN a)), (3, .int (nI vb)), (4, .int (nI vd))] [] [ob x 6 [.ref (xa 0), .ref g, .ref (xa 2), .ref (xa 3), .ref (xa 4), .ref (xa 5), .ref (xa 6), .ref (xa 7), .int (nI tr), .int (nI fl), .int pl], ob g 0 [.int (nI (cy 0)), .int (nI (cy 1)), .int (nI (cy 2)), .int (nI (cy 3)), .int (nI (cy 4)), .int (nI (cy 5)), .int (nI (cy 6)), .int (nI (cy 7)), .ref (ca 0), .ref (ca 1), .ref (ca 2), .ref (ca 3), .ref (ca 4), .ref (ca 5), .ref (ca 6), .ref (ca 7), .ref (ca 8), .ref (ca 9), .ref (ca 10), .ref (ca 11)]] 0 0 := by
    intro j5
    induction j5 with
    | zero => intro vd vb hI hM; exact absurd hM (Nat.not_lt_zero _)
    | succ j5 ih5 =>
      intro vd vb hI5 hM5
      obtain ⟨hc, hb⟩ := id hI5
      refine v_iload X dX6_deedsInSome_5 3 rfl ?_
      refine v_aload_n X dX6_deedsInSome_7 rfl 0 rfl ?_
      refine v_get X kcX6 fl_X6_19 dX6_deedsInSome_8 0 rfl rfl ?_
      refine v_getN X kcX0 fl_X6_304 dX6_deedsInSome_11 1 rfl rfl ?_
      refine v_icmpN_ge X dX6_deedsInSome_14 (tgt := 42) (by decide) (by omega) (by omega) (fun h14 => ?_) (fun h14 => ?_)
      · refine v_iload_n X dX6_deedsInSome_42 rfl 2 rfl ?_
        exact v_iret X Y dX6_deedsInSome_43 (roI_of (by (obtain rfl : vd = cy 4 := (by omega)); rw [hb])) (by omega) (by omega)
      · refine v_lload_n X dX6_deedsInSome_17 rfl 1 rfl ?_
        refine v_iload X dX6_deedsInSome_18 3 rfl ?_
        refine v_roL1 X (rn_SN X k_X0_setsWith ml_X6_332 dX6_deedsInSome_20 (c_X0_setsWith l E (nI vd) ) rfl (by decide) (by decide) (by omega) (by omega) (Nat.le_of_ble_eq_true rfl)) [] rfl rfl ?_
        refine v_land X dX6_deedsInSome_23 ?_
        refine v_eql (x' := lN (a &&& (swI (nI vd)))) (fb_andL _ _) ?_
        refine v_lconst X dX6_deedsInSome_24 (v := lN 0) (by decide) ?_
        refine v_lcmp X dX6_deedsInSome_25 ?_
        refine v_ifLN_eq X dX6_deedsInSome_26 (tgt := 36) (by decide) (Nat.lt_of_le_of_lt Nat.and_le_left ha) (by decide) (fun h26 => ?_) (fun h26 => ?_)
        · refine v_iinc X dX6_deedsInSome_36 3 rfl (v := nI (vd + 1)) (nI_inc vd) (by decide) (lv' := [(4, .int (nI (vd + 1))), (0, .ref x), (1, .long (lN a)), (3, .int (nI vb))]) rfl ?_
          refine v_goto X dX6_deedsInSome_39 (tgt := 5) (by decide) ?_
          refine V.lvs [1, 2, 3, 0] rfl ?_
          exact ih5 (vd + 1) vb (⟨by omega, by rw [hb]; exact (bbits_no (decide_eq_false (fun q => q h26))).symm⟩) (by omega)
        · refine v_iload_n X dX6_deedsInSome_29 rfl 2 rfl ?_
          refine v_iconst X dX6_deedsInSome_30 (v := nI 1) (by decide) ?_
          refine v_iload X dX6_deedsInSome_31 3 rfl ?_
          refine v_ishl X dX6_deedsInSome_33 ?_
          refine v_eqi (x' := nI (2 ^ vd)) (nI_shl1 (by omega)) ?_
          refine v_ior X dX6_deedsInSome_34 ?_
          refine v_eqi (x' := nI (vb ||| (2 ^ vd))) (fa_or _ _) ?_
          refine v_istore_n X dX6_deedsInSome_35 rfl (by decide) (lv' := [(3, .int (nI (vb ||| (2 ^ vd)))), (0, .ref x), (1, .long (lN a)), (4, .int (nI vd))]) rfl ?_
          refine v_iinc X dX6_deedsInSome_36 3 rfl (v := nI (vd + 1)) (nI_inc vd) (by decide) (lv' := [(4, .int (nI (vd + 1))), (3, .int (nI (vb ||| (2 ^ vd)))), (0, .ref x), (1, .long (lN a))]) rfl ?_
          refine v_goto X dX6_deedsInSome_39 (tgt := 5) (by decide) ?_
          refine V.lvs [2, 3, 1, 0] rfl ?_
          exact ih5 (vd + 1) (vb ||| (2 ^ vd)) (⟨by omega, by rw [hb]; exact (bbits_yes (decide_eq_true h26)).symm⟩) (by omega)
  refine V.lvs [2, 3, 1, 0] rfl ?_
  exact L5 _ 0 0 (⟨by omega, rfl⟩) (Nat.lt_succ_self _)
set_option maxRecDepth 100000 in
set_option maxHeartbeats 4000000 in
theorem c_X6_deedsInAll (l : Launch) (E : Et) (x : Nat) (xa : Nat → Nat) (g : Nat) (tr : Nat) (fl : Nat) (pl : Int32) (cy : Nat → Nat) (ca : Nat → Nat) (a : Nat) (hd : cy 4 ≤ 6) (ha : a < 2 ^ 64) : Ct l E yX6_deedsInAll cX6_deedsInAll 5 (some .int) 1 0 0 [.ref x, .long (lN a)] [ob x 6 [.ref (xa 0), .ref g, .ref (xa 2), .ref (xa 3), .ref (xa 4), .ref (xa 5), .ref (xa 6), .ref (xa 7), .int (nI tr), .int (nI fl), .int pl], ob g 0 [.int (nI (cy 0)), .int (nI (cy 1)), .int (nI (cy 2)), .int (nI (cy 3)), .int (nI (cy 4)), .int (nI (cy 5)), .int (nI (cy 6)), .int (nI (cy 7)), .ref (ca 0), .ref (ca 1), .ref (ca 2), .ref (ca 3), .ref (ca 4), .ref (ca 5), .ref (ca 6), .ref (ca 7), .ref (ca 8), .ref (ca 9), .ref (ca 10), .ref (ca 11)]] (roI [ob x 6 [.ref (xa 0), .ref g, .ref (xa 2), .ref (xa 3), .ref (xa 4), .ref (xa 5), .ref (xa 6), .ref (xa 7), .int (nI tr), .int (nI fl), .int pl], ob g 0 [.int (nI (cy 0)), .int (nI (cy 1)), .int (nI (cy 2)), .int (nI (cy 3)), .int (nI (cy 4)), .int (nI (cy 5)), .int (nI (cy 6)), .int (nI (cy 7)), .ref (ca 0), .ref (ca 1), .ref (ca 2), .ref (ca 3), .ref (ca 4), .ref (ca 5), .ref (ca 6), .ref (ca 7), .ref (ca 8), .ref (ca 9), .ref (ca 10), .ref (ca 11)]] (nI (bbits (fun d => decide (¬ a = 0 ∧ a &&& (swI (nI d) ^^^ full64) = 0)) (cy 4)))) := by
  refine Ct.intro (by decide +kernel) (Nat.le_of_ble_eq_true rfl) (lv := [(0, .ref x), (1, .long (lN a))]) rfl ?_
  intro Z X Y
  refine v_iconst X dX6_deedsInAll_0 (v := nI 0) (by decide) ?_
  refine v_istore_n X dX6_deedsInAll_1 rfl (by decide) (lv' := [(3, .int (nI 0)), (0, .ref x), (1, .long (lN a))]) rfl ?_
  refine v_iconst X dX6_deedsInAll_2 (v := nI 0) (by decide) ?_
  refine v_istore X dX6_deedsInAll_3 (by decide) (lv' := [(4, .int (nI 0)), (3, .int (nI 0)), (0, .ref x), (1, .long (lN a))]) rfl ?_
  have L5 : ∀ (j5 : Nat) (vd : Nat) (vb : Nat), (vd ≤ cy 4 ∧ vb = bbits (fun d => decide (¬ a = 0 ∧ a &&& (swI (nI d) ^^^ full64) = 0)) vd) → cy 4 - vd < j5 → V E Z 5 [(0, .ref x), (1, .long (lN a)), (3, .int (nI vb)), (4, .int (nI vd))] [] [ob x 6 [.ref (xa 0), .ref g, .ref (xa 2), .ref (xa 3), .ref (xa 4), .ref (xa 5), .ref (xa 6), .ref (xa 7), .int (nI tr), .int (nI fl), .int pl], ob g 0 [.int (nI (cy 0)), .int (nI (cy 1)), .int (nI (cy 2)), .int (nI (cy 3)), .int (nI (cy 4)), .int (nI (cy 5)), .int (nI (cy 6)), .int (nI (cy 7)), .ref (ca 0), .ref (ca 1), .ref (ca 2), .ref (ca 3), .ref (ca 4), .ref (ca 5), .ref (ca 6), .ref (ca 7), .ref (ca 8), .ref (ca 9), .ref (ca 10), .ref (ca 11)]] 0 0 := by
    intro j5
    induction j5 with
    | zero => intro vd vb hI hM; exact absurd hM (Nat.not_lt_zero _)
    | succ j5 ih5 =>
      intro vd vb hI5 hM5
      obtain ⟨hc, hb⟩ := id hI5
      refine v_iload X dX6_deedsInAll_5 3 rfl ?_
      refine v_aload_n X dX6_deedsInAll_7 rfl 0 rfl ?_
      refine v_get X kcX6 fl_X6_19 dX6_deedsInAll_8 0 rfl rfl ?_
      refine v_getN X kcX0 fl_X6_304 dX6_deedsInAll_11 1 rfl rfl ?_
      refine v_icmpN_ge X dX6_deedsInAll_14 (tgt := 52) (by decide) (by omega) (by omega) (fun h14 => ?_) (fun h14 => ?_)
      · refine v_iload_n X dX6_deedsInAll_52 rfl 2 rfl ?_
        exact v_iret X Y dX6_deedsInAll_53 (roI_of (by (obtain rfl : vd = cy 4 := (by omega)); rw [hb])) (by omega) (by omega)
      · refine v_lload_n X dX6_deedsInAll_17 rfl 1 rfl ?_
        refine v_lconst X dX6_deedsInAll_18 (v := lN 0) (by decide) ?_
        refine v_lcmp X dX6_deedsInAll_19 ?_
        refine v_ifLN_eq X dX6_deedsInAll_20 (tgt := 46) (by decide) ha (by decide) (fun h20 => ?_) (fun h20 => ?_)
        · refine v_iinc X dX6_deedsInAll_46 3 rfl (v := nI (vd + 1)) (nI_inc vd) (by decide) (lv' := [(4, .int (nI (vd + 1))), (0, .ref x), (1, .long (lN a)), (3, .int (nI vb))]) rfl ?_
          refine v_goto X dX6_deedsInAll_49 (tgt := 5) (by decide) ?_
          refine V.lvs [1, 2, 3, 0] rfl ?_
          exact ih5 (vd + 1) vb (⟨by omega, by rw [hb]; exact (bbits_no (decide_eq_false (fun q => q.1 h20))).symm⟩) (by omega)
        · refine v_lload_n X dX6_deedsInAll_23 rfl 1 rfl ?_
          refine v_iload X dX6_deedsInAll_24 3 rfl ?_
          refine v_roL1 X (rn_SN X k_X0_setsWith ml_X6_332 dX6_deedsInAll_26 (c_X0_setsWith l E (nI vd) ) rfl (by decide) (by decide) (by omega) (by omega) (Nat.le_of_ble_eq_true rfl)) [] rfl rfl ?_
          refine v_ldc2 X dX6_deedsInAll_29 cs_X6_335 ?_
          refine v_lxor X dX6_deedsInAll_32 ?_
          refine v_eql (x' := lN ((swI (nI vd)) ^^^ full64)) (lN_not _) ?_
          refine v_land X dX6_deedsInAll_33 ?_
          refine v_eql (x' := lN (a &&& ((swI (nI vd)) ^^^ full64))) (fb_andL _ _) ?_
          refine v_lconst X dX6_deedsInAll_34 (v := lN 0) (by decide) ?_
          refine v_lcmp X dX6_deedsInAll_35 ?_
          refine v_ifLN_ne X dX6_deedsInAll_36 (tgt := 46) (by decide) (Nat.lt_of_le_of_lt Nat.and_le_left ha) (by decide) (fun h36 => ?_) (fun h36 => ?_)
          · refine v_iinc X dX6_deedsInAll_46 3 rfl (v := nI (vd + 1)) (nI_inc vd) (by decide) (lv' := [(4, .int (nI (vd + 1))), (0, .ref x), (1, .long (lN a)), (3, .int (nI vb))]) rfl ?_
            refine v_goto X dX6_deedsInAll_49 (tgt := 5) (by decide) ?_
            refine V.lvs [1, 2, 3, 0] rfl ?_
            exact ih5 (vd + 1) vb (⟨by omega, by rw [hb]; exact (bbits_no (decide_eq_false (fun q => h36 q.2))).symm⟩) (by omega)
          · refine v_iload_n X dX6_deedsInAll_39 rfl 2 rfl ?_
            refine v_iconst X dX6_deedsInAll_40 (v := nI 1) (by decide) ?_
            refine v_iload X dX6_deedsInAll_41 3 rfl ?_
            refine v_ishl X dX6_deedsInAll_43 ?_
            refine v_eqi (x' := nI (2 ^ vd)) (nI_shl1 (by omega)) ?_
            refine v_ior X dX6_deedsInAll_44 ?_
            refine v_eqi (x' := nI (vb ||| (2 ^ vd))) (fa_or _ _) ?_
            refine v_istore_n X dX6_deedsInAll_45 rfl (by decide) (lv' := [(3, .int (nI (vb ||| (2 ^ vd)))), (0, .ref x), (1, .long (lN a)), (4, .int (nI vd))]) rfl ?_
            refine v_iinc X dX6_deedsInAll_46 3 rfl (v := nI (vd + 1)) (nI_inc vd) (by decide) (lv' := [(4, .int (nI (vd + 1))), (3, .int (nI (vb ||| (2 ^ vd)))), (0, .ref x), (1, .long (lN a))]) rfl ?_
            refine v_goto X dX6_deedsInAll_49 (tgt := 5) (by decide) ?_
            refine V.lvs [2, 3, 1, 0] rfl ?_
            exact ih5 (vd + 1) (vb ||| (2 ^ vd)) (⟨by omega, by rw [hb]; exact (bbits_yes (decide_eq_true ⟨h20, h36⟩)).symm⟩) (by omega)
  refine V.lvs [2, 3, 1, 0] rfl ?_
  exact L5 _ 0 0 (⟨by omega, rfl⟩) (Nat.lt_succ_self _)
set_option maxRecDepth 100000 in
set_option maxHeartbeats 4000000 in
theorem c_X6_cheapest (l : Launch) (E : Et) (x : Nat) (xa : Nat → Nat) (g : Nat) (tr : Nat) (fl : Nat) (pl : Int32) (cy : Nat → Nat) (ca : Nat → Nat) (Fs : Nat → Nat) (Ft : Nat → Nat) (hi : Nat) (hm : Nat) (t : Nat) (dd : Nat) (ink : Nat → Nat) (mn : Nat → Int32) (m : Int32) (hd : cy 4 ≤ 6) (hcl : cy 5 ≤ 8) (hmen : cy 3 ≤ 4) (ht : t < 256) (hink : ∀ c, ink c ≤ 40) : Ct l E yX6_cheapest cX6_cheapest 5 (some .int) 4 0 0 [.ref x, .int m] [ob x 6 [.ref (xa 0), .ref g, .ref (xa 2), .ref (xa 3), .ref (xa 4), .ref (xa 5), .ref (xa 6), .ref (xa 7), .int (nI tr), .int (nI fl), .int pl], ob g 0 [.int (nI (cy 0)), .int (nI (cy 1)), .int (nI (cy 2)), .int (nI (cy 3)), .int (nI (cy 4)), .int (nI (cy 5)), .int (nI (cy 6)), .int (nI (cy 7)), .ref (ca 0), .ref (ca 1), .ref (ca 2), .ref (ca 3), .ref (ca 4), .ref (ca 5), .ref (ca 6), .ref (ca 7), .ref (ca 8), .ref (ca 9), .ref (ca 10), .ref (ca 11)], aM E (ca 5) 8 Fs, aM E (ca 6) 8 Ft, ob (xa 3) 2 [.ref hi, .ref hm, .int (nI t), .int (nI dd)], aN E hi 8 ink, aI E hm 8 mn] (roI [ob x 6 [.ref (xa 0), .ref g, .ref (xa 2), .ref (xa 3), .ref (xa 4), .ref (xa 5), .ref (xa 6), .ref (xa 7), .int (nI tr), .int (nI fl), .int pl], ob g 0 [.int (nI (cy 0)), .int (nI (cy 1)), .int (nI (cy 2)), .int (nI (cy 3)), .int (nI (cy 4)), .int (nI (cy 5)), .int (nI (cy 6)), .int (nI (cy 7)), .ref (ca 0), .ref (ca 1), .ref (ca 2), .ref (ca 3), .ref (ca 4), .ref (ca 5), .ref (ca 6), .ref (ca 7), .ref (ca 8), .ref (ca 9), .ref (ca 10), .ref (ca 11)], aM E (ca 5) 8 Fs, aM E (ca 6) 8 Ft, ob (xa 3) 2 [.ref hi, .ref hm, .int (nI t), .int (nI dd)], aN E hi 8 ink, aI E hm 8 mn] (nI (bestF (fun p => decide (ndf p (bdN ink mn m 0) = 0 ∧ ¬ kpN cy Fs Ft t (ndf (bdN ink mn m 0) p) = 0)) (inkS ink) (bdN ink mn m 0) (bdN ink mn m 0 + 1)))) := by
  refine Ct.intro (by decide +kernel) (Nat.le_of_ble_eq_true rfl) (lv := [(0, .ref x), (1, .int m)]) rfl ?_
  intro Z X Y
  have hb256 : bdN ink mn m 0 < 256 := bdN_lt _ _ _ _
  refine v_aload_n X dX6_cheapest_0 rfl 0 rfl ?_
  refine v_iload_n X dX6_cheapest_1 rfl 1 rfl ?_
  refine v_iconst X dX6_cheapest_2 (v := nI 0) (by decide) ?_
  refine v_roI1 X (rn_V X k_X6_bound ml_X6_123 dX6_cheapest_3 (c_X6_bound l E x xa g tr fl pl hi hm t dd ink mn m 0 (by first | assumption | omega) (by omega)) rfl 0 rfl rfl (by decide) (by decide) (by omega) (by omega) (Nat.le_of_ble_eq_true rfl)) [0, 4, 5, 6] rfl rfl ?_
  refine v_istore_n X dX6_cheapest_6 rfl (by decide) (lv' := [(2, .int (nI (bdN ink mn m 0))), (0, .ref x), (1, .int m)]) rfl ?_
  refine v_iload_n X dX6_cheapest_7 rfl 0 rfl ?_
  refine v_istore_n X dX6_cheapest_8 rfl (by decide) (lv' := [(3, .int (nI (bdN ink mn m 0))), (2, .int (nI (bdN ink mn m 0))), (0, .ref x), (1, .int m)]) rfl ?_
  refine v_iconst X dX6_cheapest_9 (v := nI 0) (by decide) ?_
  refine v_istore X dX6_cheapest_10 (by decide) (lv' := [(4, .int (nI 0)), (3, .int (nI (bdN ink mn m 0))), (2, .int (nI (bdN ink mn m 0))), (0, .ref x), (1, .int m)]) rfl ?_
  have L12 : ∀ (j12 : Nat) (vp : Nat) (vb : Nat), (vp ≤ bdN ink mn m 0 + 1 ∧ vb = bestF (fun p => decide (ndf p (bdN ink mn m 0) = 0 ∧ ¬ kpN cy Fs Ft t (ndf (bdN ink mn m 0) p) = 0)) (inkS ink) (bdN ink mn m 0) vp) → bdN ink mn m 0 + 1 - vp < j12 → V E Z 12 [(0, .ref x), (1, .int m), (2, .int (nI (bdN ink mn m 0))), (3, .int (nI vb)), (4, .int (nI vp))] [] [ob x 6 [.ref (xa 0), .ref g, .ref (xa 2), .ref (xa 3), .ref (xa 4), .ref (xa 5), .ref (xa 6), .ref (xa 7), .int (nI tr), .int (nI fl), .int pl], ob g 0 [.int (nI (cy 0)), .int (nI (cy 1)), .int (nI (cy 2)), .int (nI (cy 3)), .int (nI (cy 4)), .int (nI (cy 5)), .int (nI (cy 6)), .int (nI (cy 7)), .ref (ca 0), .ref (ca 1), .ref (ca 2), .ref (ca 3), .ref (ca 4), .ref (ca 5), .ref (ca 6), .ref (ca 7), .ref (ca 8), .ref (ca 9), .ref (ca 10), .ref (ca 11)], aM E (ca 5) 8 Fs, aM E (ca 6) 8 Ft, ob (xa 3) 2 [.ref hi, .ref hm, .int (nI t), .int (nI dd)], aN E hi 8 ink, aI E hm 8 mn] 0 0 := by
    intro j12
    induction j12 with
    | zero => intro vp vb hI hM; exact absurd hM (Nat.not_lt_zero _)
    | succ j12 ih12 =>
      intro vp vb hI12 hM12
      obtain ⟨hc, hb⟩ := id hI12
      refine v_iload X dX6_cheapest_12 4 rfl ?_
      refine v_iload_n X dX6_cheapest_14 rfl 2 rfl ?_
      refine v_icmpN_gt X dX6_cheapest_15 (tgt := 71) (by decide) (by omega) (by omega) (fun h15 => ?_) (fun h15 => ?_)
      · refine v_iload_n X dX6_cheapest_71 rfl 3 rfl ?_
        exact v_iret X Y dX6_cheapest_72 (roI_of (by (obtain rfl : vp = bdN ink mn m 0 + 1 := (by omega)); rw [hb])) (by omega) (by omega)
      · have hvb : vb ≤ bdN ink mn m 0 := by rw [hb]; exact bestF_le hc
        refine v_iload X dX6_cheapest_18 4 rfl ?_
        refine v_iload_n X dX6_cheapest_20 rfl 2 rfl ?_
        refine v_roI1 X (rn_S X k_X6_isPart ml_X6_172 dX6_cheapest_21 (c_X6_isPart l E vp (bdN ink mn m 0) (by omega)) rfl (by decide) (by decide) (by omega) (by omega) (Nat.le_of_ble_eq_true rfl)) [] rfl rfl ?_
        refine v_ifB_eq X dX6_cheapest_24 (tgt := 65) (by decide) (fun h24 => ?_) (fun h24 => ?_)
        · refine v_iinc X dX6_cheapest_65 4 rfl (v := nI (vp + 1)) (nI_inc vp) (by decide) (lv' := [(4, .int (nI (vp + 1))), (0, .ref x), (1, .int m), (2, .int (nI (bdN ink mn m 0))), (3, .int (nI vb))]) rfl ?_
          refine v_goto X dX6_cheapest_68 (tgt := 12) (by decide) ?_
          refine V.lvs [1, 2, 3, 4, 0] rfl ?_
          exact ih12 (vp + 1) vb (⟨by omega, by rw [hb]; exact (bestF_no (Or.inl (decide_eq_false (fun q => of_decide_eq_false h24 q.1)))).symm⟩) (by omega)
        · refine v_aload_n X dX6_cheapest_27 rfl 0 rfl ?_
          refine v_iload_n X dX6_cheapest_28 rfl 2 rfl ?_
          refine v_iload X dX6_cheapest_29 4 rfl ?_
          refine v_iconst X dX6_cheapest_31 (v := (-1)) (by decide) ?_
          refine v_ixor X dX6_cheapest_32 ?_
          refine v_iand X dX6_cheapest_33 ?_
          refine v_eqi (x' := nI (ndf (bdN ink mn m 0) vp)) (nI_andn _ _) ?_
          refine v_roL1 X (rn_V X k_X6_setsUnder ml_X6_133 dX6_cheapest_34 (c_X6_setsUnder l E x xa g tr fl pl cy ca Fs Ft hi hm t dd ink mn (ndf (bdN ink mn m 0) vp) (by first | assumption | omega) (by first | assumption | omega) (by first | assumption | omega) (Nat.lt_trans (ndf_lt (n := 8) _ hb256) (by decide))) rfl 0 rfl rfl (by decide) (by decide) (by omega) (by omega) (Nat.le_of_ble_eq_true rfl)) [0, 1, 2, 3, 4, 5, 6] rfl rfl ?_
          refine v_lconst X dX6_cheapest_37 (v := lN 0) (by decide) ?_
          refine v_lcmp X dX6_cheapest_38 ?_
          refine v_ifLN_eq X dX6_cheapest_39 (tgt := 65) (by decide) (kpN_lt hd _ _ _ _) (by decide) (fun h39 => ?_) (fun h39 => ?_)
          · refine v_iinc X dX6_cheapest_65 4 rfl (v := nI (vp + 1)) (nI_inc vp) (by decide) (lv' := [(4, .int (nI (vp + 1))), (0, .ref x), (1, .int m), (2, .int (nI (bdN ink mn m 0))), (3, .int (nI vb))]) rfl ?_
            refine v_goto X dX6_cheapest_68 (tgt := 12) (by decide) ?_
            refine V.lvs [1, 2, 3, 4, 0] rfl ?_
            exact ih12 (vp + 1) vb (⟨by omega, by rw [hb]; exact (bestF_no (Or.inl (decide_eq_false (fun q => q.2 h39)))).symm⟩) (by omega)
          · refine v_aload_n X dX6_cheapest_42 rfl 0 rfl ?_
            refine v_get X kcX6 fl_X6_30 dX6_cheapest_43 0 rfl rfl ?_
            refine v_iload X dX6_cheapest_46 4 rfl ?_
            refine v_roI1 X (rn_VN X k_X2_inkOf ml_X6_127 dX6_cheapest_48 (c_X2_inkOf l E (xa 3) hi hm t dd ink vp (by omega)) rfl 0 rfl rfl (by decide) (by decide) (by omega) (by omega) (Nat.le_of_ble_eq_true rfl)) [4, 5] rfl rfl ?_
            refine v_aload_n X dX6_cheapest_51 rfl 0 rfl ?_
            refine v_get X kcX6 fl_X6_30 dX6_cheapest_52 0 rfl rfl ?_
            refine v_iload_n X dX6_cheapest_55 rfl 3 rfl ?_
            refine v_roI1 X (rn_VN X k_X2_inkOf ml_X6_127 dX6_cheapest_56 (c_X2_inkOf l E (xa 3) hi hm t dd ink vb (by omega)) rfl 0 rfl rfl (by decide) (by decide) (by omega) (by omega) (Nat.le_of_ble_eq_true rfl)) [4, 5] rfl rfl ?_
            refine v_icmpN_ge X dX6_cheapest_59 (tgt := 65) (by decide) (Nat.lt_of_le_of_lt (inkS_le hink _) (by decide)) (Nat.lt_of_le_of_lt (inkS_le hink _) (by decide)) (fun h59 => ?_) (fun h59 => ?_)
            · refine v_iinc X dX6_cheapest_65 4 rfl (v := nI (vp + 1)) (nI_inc vp) (by decide) (lv' := [(4, .int (nI (vp + 1))), (0, .ref x), (1, .int m), (2, .int (nI (bdN ink mn m 0))), (3, .int (nI vb))]) rfl ?_
              refine v_goto X dX6_cheapest_68 (tgt := 12) (by decide) ?_
              refine V.lvs [1, 2, 3, 4, 0] rfl ?_
              exact ih12 (vp + 1) vb (⟨by omega, by subst hb; exact (bestF_no (Or.inr (Nat.not_lt.mpr h59))).symm⟩) (by omega)
            · refine v_iload X dX6_cheapest_62 4 rfl ?_
              refine v_istore_n X dX6_cheapest_64 rfl (by decide) (lv' := [(3, .int (nI vp)), (0, .ref x), (1, .int m), (2, .int (nI (bdN ink mn m 0))), (4, .int (nI vp))]) rfl ?_
              refine v_iinc X dX6_cheapest_65 4 rfl (v := nI (vp + 1)) (nI_inc vp) (by decide) (lv' := [(4, .int (nI (vp + 1))), (3, .int (nI vp)), (0, .ref x), (1, .int m), (2, .int (nI (bdN ink mn m 0)))]) rfl ?_
              refine v_goto X dX6_cheapest_68 (tgt := 12) (by decide) ?_
              refine V.lvs [2, 3, 4, 1, 0] rfl ?_
              exact ih12 (vp + 1) vp (⟨by omega, by subst hb; exact (bestF_yes (decide_eq_true ⟨of_decide_eq_true h24, h39⟩) (Nat.not_le.mp h59)).symm⟩) (by omega)
  refine V.lvs [3, 4, 2, 1, 0] rfl ?_
  exact L12 _ 0 (bdN ink mn m 0) (⟨by omega, rfl⟩) (Nat.lt_succ_self _)
set_option maxRecDepth 100000 in
set_option maxHeartbeats 4000000 in
theorem c_X6_rainWeight (l : Launch) (E : Et) (x : Nat) (xa : Nat → Nat) (g : Nat) (tr : Nat) (fl : Nat) (pl : Int32) (cy : Nat → Nat) (ca : Nat → Nat) (le : Nat) (al : Nat) (hr : cy 2 ≤ 100) (hle : le < 256) (hal : al < 256) (hpp : pop8 le ≤ pop8 al) : Ct l E yX6_rainWeight cX6_rainWeight 4 (some .long) 1 0 0 [.ref x, .int (nI le), .int (nI al)] [ob x 6 [.ref (xa 0), .ref g, .ref (xa 2), .ref (xa 3), .ref (xa 4), .ref (xa 5), .ref (xa 6), .ref (xa 7), .int (nI tr), .int (nI fl), .int pl], ob g 0 [.int (nI (cy 0)), .int (nI (cy 1)), .int (nI (cy 2)), .int (nI (cy 3)), .int (nI (cy 4)), .int (nI (cy 5)), .int (nI (cy 6)), .int (nI (cy 7)), .ref (ca 0), .ref (ca 1), .ref (ca 2), .ref (ca 3), .ref (ca 4), .ref (ca 5), .ref (ca 6), .ref (ca 7), .ref (ca 8), .ref (ca 9), .ref (ca 10), .ref (ca 11)]] (roL [ob x 6 [.ref (xa 0), .ref g, .ref (xa 2), .ref (xa 3), .ref (xa 4), .ref (xa 5), .ref (xa 6), .ref (xa 7), .int (nI tr), .int (nI fl), .int pl], ob g 0 [.int (nI (cy 0)), .int (nI (cy 1)), .int (nI (cy 2)), .int (nI (cy 3)), .int (nI (cy 4)), .int (nI (cy 5)), .int (nI (cy 6)), .int (nI (cy 7)), .ref (ca 0), .ref (ca 1), .ref (ca 2), .ref (ca 3), .ref (ca 4), .ref (ca 5), .ref (ca 6), .ref (ca 7), .ref (ca 8), .ref (ca 9), .ref (ca 10), .ref (ca 11)]] (lN (rwN (cy 2) le al))) := by
  refine Ct.intro (by decide +kernel) (Nat.le_of_ble_eq_true rfl) (lv := [(0, .ref x), (1, .int (nI le)), (2, .int (nI al))]) rfl ?_
  intro Z X Y
  refine v_iload_n X dX6_rainWeight_0 rfl 1 rfl ?_
  refine v_roI1 X (rn_S X k_J6_bitCount_0f7a4 ml_X6_164 dX6_rainWeight_1 (c_J6_bitCount_0f7a4 l E le (by omega)) rfl (by decide) (by decide) (by omega) (by omega) (Nat.le_of_ble_eq_true rfl)) [] rfl rfl ?_
  refine v_istore_n X dX6_rainWeight_4 rfl (by decide) (lv' := [(3, .int (nI (cnt (fun k => le.testBit k) 8))), (0, .ref x), (1, .int (nI le)), (2, .int (nI al))]) rfl ?_
  refine v_bipush X dX6_rainWeight_5 (v := nI 100) (by decide) ?_
  refine v_aload_n X dX6_rainWeight_7 rfl 1 rfl ?_
  refine v_get X kcX6 fl_X6_19 dX6_rainWeight_8 0 rfl rfl ?_
  refine v_getN X kcX0 fl_X6_246 dX6_rainWeight_11 1 rfl rfl ?_
  refine v_isub X dX6_rainWeight_14 ?_
  refine v_eqi (x' := nI (100 - (cy 2))) (pk_sub (by omega)) ?_
  refine v_iload_n X dX6_rainWeight_15 rfl 0 rfl ?_
  refine v_roL1 X (rn_S X k_X6_power ml_X6_249 dX6_rainWeight_16 (c_X6_power l E (100 - (cy 2)) (cnt (fun k => le.testBit k) 8) (by omega) (Nat.lt_of_le_of_lt (pop8_le le) (by decide))) rfl (by decide) (by decide) (by omega) (by omega) (Nat.le_of_ble_eq_true rfl)) [] rfl rfl ?_
  refine v_aload_n X dX6_rainWeight_19 rfl 1 rfl ?_
  refine v_get X kcX6 fl_X6_19 dX6_rainWeight_20 0 rfl rfl ?_
  refine v_getN X kcX0 fl_X6_246 dX6_rainWeight_23 1 rfl rfl ?_
  refine v_iload_n X dX6_rainWeight_26 rfl 3 rfl ?_
  refine v_roI1 X (rn_S X k_J6_bitCount_0f7a4 ml_X6_164 dX6_rainWeight_27 (c_J6_bitCount_0f7a4 l E al (by omega)) rfl (by decide) (by decide) (by omega) (by omega) (Nat.le_of_ble_eq_true rfl)) [] rfl rfl ?_
  refine v_iload_n X dX6_rainWeight_30 rfl 0 rfl ?_
  refine v_isub X dX6_rainWeight_31 ?_
  refine v_eqi (x' := nI (pop8 al - pop8 le)) (pk_sub hpp) ?_
  refine v_roL1 X (rn_S X k_X6_power ml_X6_249 dX6_rainWeight_32 (c_X6_power l E (cy 2) (pop8 al - pop8 le) (by omega) (Nat.lt_of_le_of_lt (Nat.le_trans (Nat.sub_le _ _) (pop8_le al)) (by decide))) rfl (by decide) (by decide) (by omega) (by omega) (Nat.le_of_ble_eq_true rfl)) [] rfl rfl ?_
  refine v_lmul X dX6_rainWeight_35 ?_
  refine v_eql (x' := lN (((100 - (cy 2)) ^ (cnt (fun k => le.testBit k) 8)) * ((cy 2) ^ (pop8 al - pop8 le)))) (lN_mul _ _) ?_
  exact v_lret X Y dX6_rainWeight_36 (roL_of (rfl)) (by omega) (by omega)
