set_option maxRecDepth 100000 in
set_option maxHeartbeats 4000000 in
theorem c_X0_clear (l : Launch) (E : Et) (h : Nat) (cy : Nat → Nat) (ca : Nat → Nat)  : Ct l E yX0_clear cX0_clear 1 none 0 0 0 [.ref h] [ob h 0 [.int (nI (cy 0)), .int (nI (cy 1)), .int (nI (cy 2)), .int (nI (cy 3)), .int (nI (cy 4)), .int (nI (cy 5)), .int (nI (cy 6)), .int (nI (cy 7)), .ref (ca 0), .ref (ca 1), .ref (ca 2), .ref (ca 3), .ref (ca 4), .ref (ca 5), .ref (ca 6), .ref (ca 7), .ref (ca 8), .ref (ca 9), .ref (ca 10), .ref (ca 11)]] (wrV [ob h 0 [.int (nI ((fun _ => 0) 0)), .int (nI ((fun _ => 0) 1)), .int (nI ((fun _ => 0) 2)), .int (nI ((fun _ => 0) 3)), .int (nI ((fun _ => 0) 4)), .int (nI ((fun _ => 0) 5)), .int (nI ((fun _ => 0) 6)), .int (nI ((fun _ => 0) 7)), .ref (ca 0), .ref (ca 1), .ref (ca 2), .ref (ca 3), .ref (ca 4), .ref (ca 5), .ref (ca 6), .ref (ca 7), .ref (ca 8), .ref (ca 9), .ref (ca 10), .ref (ca 11)]]) := by
  refine Ct.intro (by decide +kernel) (Nat.le_of_ble_eq_true rfl) (lv := [(0, .ref h)]) rfl ?_
  intro Z X Y
  refine v_aload_n X dX0_clear_0 rfl 0 rfl ?_
  refine v_iconst X dX0_clear_1 (v := nI 0) (by decide) ?_
  refine v_put X kcX0 fl_X0_50 dX0_clear_2 0 rfl (ws' := [ob h 0 [.int (nI 0), .int (nI (cy 1)), .int (nI (cy 2)), .int (nI (cy 3)), .int (nI (cy 4)), .int (nI (cy 5)), .int (nI (cy 6)), .int (nI (cy 7)), .ref (ca 0), .ref (ca 1), .ref (ca 2), .ref (ca 3), .ref (ca 4), .ref (ca 5), .ref (ca 6), .ref (ca 7), .ref (ca 8), .ref (ca 9), .ref (ca 10), .ref (ca 11)]]) rfl rfl ?_
  refine v_aload_n X dX0_clear_5 rfl 0 rfl ?_
  refine v_iconst X dX0_clear_6 (v := nI 0) (by decide) ?_
  refine v_put X kcX0 fl_X0_54 dX0_clear_7 0 rfl (ws' := [ob h 0 [.int (nI 0), .int (nI 0), .int (nI (cy 2)), .int (nI (cy 3)), .int (nI (cy 4)), .int (nI (cy 5)), .int (nI (cy 6)), .int (nI (cy 7)), .ref (ca 0), .ref (ca 1), .ref (ca 2), .ref (ca 3), .ref (ca 4), .ref (ca 5), .ref (ca 6), .ref (ca 7), .ref (ca 8), .ref (ca 9), .ref (ca 10), .ref (ca 11)]]) rfl rfl ?_
  refine v_aload_n X dX0_clear_10 rfl 0 rfl ?_
  refine v_iconst X dX0_clear_11 (v := nI 0) (by decide) ?_
  refine v_put X kcX0 fl_X0_57 dX0_clear_12 0 rfl (ws' := [ob h 0 [.int (nI 0), .int (nI 0), .int (nI 0), .int (nI (cy 3)), .int (nI (cy 4)), .int (nI (cy 5)), .int (nI (cy 6)), .int (nI (cy 7)), .ref (ca 0), .ref (ca 1), .ref (ca 2), .ref (ca 3), .ref (ca 4), .ref (ca 5), .ref (ca 6), .ref (ca 7), .ref (ca 8), .ref (ca 9), .ref (ca 10), .ref (ca 11)]]) rfl rfl ?_
  refine v_aload_n X dX0_clear_15 rfl 0 rfl ?_
  refine v_iconst X dX0_clear_16 (v := nI 0) (by decide) ?_
  refine v_put X kcX0 fl_X0_60 dX0_clear_17 0 rfl (ws' := [ob h 0 [.int (nI 0), .int (nI 0), .int (nI 0), .int (nI 0), .int (nI (cy 4)), .int (nI (cy 5)), .int (nI (cy 6)), .int (nI (cy 7)), .ref (ca 0), .ref (ca 1), .ref (ca 2), .ref (ca 3), .ref (ca 4), .ref (ca 5), .ref (ca 6), .ref (ca 7), .ref (ca 8), .ref (ca 9), .ref (ca 10), .ref (ca 11)]]) rfl rfl ?_
  refine v_aload_n X dX0_clear_20 rfl 0 rfl ?_
  refine v_iconst X dX0_clear_21 (v := nI 0) (by decide) ?_
  refine v_put X kcX0 fl_X0_63 dX0_clear_22 0 rfl (ws' := [ob h 0 [.int (nI 0), .int (nI 0), .int (nI 0), .int (nI 0), .int (nI 0), .int (nI (cy 5)), .int (nI (cy 6)), .int (nI (cy 7)), .ref (ca 0), .ref (ca 1), .ref (ca 2), .ref (ca 3), .ref (ca 4), .ref (ca 5), .ref (ca 6), .ref (ca 7), .ref (ca 8), .ref (ca 9), .ref (ca 10), .ref (ca 11)]]) rfl rfl ?_
  refine v_aload_n X dX0_clear_25 rfl 0 rfl ?_
  refine v_iconst X dX0_clear_26 (v := nI 0) (by decide) ?_
  refine v_put X kcX0 fl_X0_66 dX0_clear_27 0 rfl (ws' := [ob h 0 [.int (nI 0), .int (nI 0), .int (nI 0), .int (nI 0), .int (nI 0), .int (nI 0), .int (nI (cy 6)), .int (nI (cy 7)), .ref (ca 0), .ref (ca 1), .ref (ca 2), .ref (ca 3), .ref (ca 4), .ref (ca 5), .ref (ca 6), .ref (ca 7), .ref (ca 8), .ref (ca 9), .ref (ca 10), .ref (ca 11)]]) rfl rfl ?_
  refine v_aload_n X dX0_clear_30 rfl 0 rfl ?_
  refine v_iconst X dX0_clear_31 (v := nI 0) (by decide) ?_
  refine v_put X kcX0 fl_X0_69 dX0_clear_32 0 rfl (ws' := [ob h 0 [.int (nI 0), .int (nI 0), .int (nI 0), .int (nI 0), .int (nI 0), .int (nI 0), .int (nI 0), .int (nI (cy 7)), .ref (ca 0), .ref (ca 1), .ref (ca 2), .ref (ca 3), .ref (ca 4), .ref (ca 5), .ref (ca 6), .ref (ca 7), .ref (ca 8), .ref (ca 9), .ref (ca 10), .ref (ca 11)]]) rfl rfl ?_
  refine v_aload_n X dX0_clear_35 rfl 0 rfl ?_
  refine v_iconst X dX0_clear_36 (v := nI 0) (by decide) ?_
  refine v_put X kcX0 fl_X0_72 dX0_clear_37 0 rfl (ws' := [ob h 0 [.int (nI 0), .int (nI 0), .int (nI 0), .int (nI 0), .int (nI 0), .int (nI 0), .int (nI 0), .int (nI 0), .ref (ca 0), .ref (ca 1), .ref (ca 2), .ref (ca 3), .ref (ca 4), .ref (ca 5), .ref (ca 6), .ref (ca 7), .ref (ca 8), .ref (ca 9), .ref (ca 10), .ref (ca 11)]]) rfl rfl ?_
  exact v_vret X Y dX0_clear_40 (wrV_of (rfl)) (by omega) (by omega)
set_option maxRecDepth 100000 in
set_option maxHeartbeats 4000000 in
theorem c_X0_addClause (l : Launch) (E : Et) (h : Nat) (cy : Nat → Nat) (ca : Nat → Nat) (f0 : Nat → Nat) (f1 : Nat → Nat) (f2 : Nat → Int32) (f3 : Nat → Nat) (f4 : Nat → Nat) (Fs : Nat → Nat) (Ft : Nat → Nat) (fo : Nat) (d1 : Nat) (d2 : Int32) (ma : Nat) (ik : Nat) (hc : cy 5 < 8) (hfo : fo ≤ 5) : Ct l E yX0_addClause cX0_addClause 6 none 2 0 0 [.ref h, .int (nI fo), .int (nI d1), .int d2, .int (nI ma), .int (nI ik)] [ob h 0 [.int (nI (cy 0)), .int (nI (cy 1)), .int (nI (cy 2)), .int (nI (cy 3)), .int (nI (cy 4)), .int (nI (cy 5)), .int (nI (cy 6)), .int (nI (cy 7)), .ref (ca 0), .ref (ca 1), .ref (ca 2), .ref (ca 3), .ref (ca 4), .ref (ca 5), .ref (ca 6), .ref (ca 7), .ref (ca 8), .ref (ca 9), .ref (ca 10), .ref (ca 11)], aN E (ca 0) 8 f0, aN E (ca 1) 8 f1, aI E (ca 2) 8 f2, aN E (ca 3) 8 f3, aN E (ca 4) 8 f4, aM E (ca 5) 8 Fs, aM E (ca 6) 8 Ft] (wrV [ob h 0 [.int (nI ((upN cy 5 (cy 5 + 1)) 0)), .int (nI ((upN cy 5 (cy 5 + 1)) 1)), .int (nI ((upN cy 5 (cy 5 + 1)) 2)), .int (nI ((upN cy 5 (cy 5 + 1)) 3)), .int (nI ((upN cy 5 (cy 5 + 1)) 4)), .int (nI ((upN cy 5 (cy 5 + 1)) 5)), .int (nI ((upN cy 5 (cy 5 + 1)) 6)), .int (nI ((upN cy 5 (cy 5 + 1)) 7)), .ref (ca 0), .ref (ca 1), .ref (ca 2), .ref (ca 3), .ref (ca 4), .ref (ca 5), .ref (ca 6), .ref (ca 7), .ref (ca 8), .ref (ca 9), .ref (ca 10), .ref (ca 11)], aN E (ca 0) 8 (upN f0 (cy 5) fo), aN E (ca 1) 8 (upN f1 (cy 5) d1), aI E (ca 2) 8 (upd f2 (cy 5) d2), aN E (ca 3) 8 (upN f3 (cy 5) ma), aN E (ca 4) 8 (upN f4 (cy 5) ik), aM E (ca 5) 8 (upN Fs (cy 5) (strN fo (swI (nI d1)) (swI d2))), aM E (ca 6) 8 (upN Ft (cy 5) (turN fo (swI (nI d1)) (swI d2)))]) := by
  refine Ct.intro (by decide +kernel) (Nat.le_of_ble_eq_true rfl) (lv := [(0, .ref h), (1, .int (nI fo)), (2, .int (nI d1)), (3, .int d2), (4, .int (nI ma)), (5, .int (nI ik))]) rfl ?_
  intro Z X Y
  refine v_aload_n X dX0_addClause_0 rfl 0 rfl ?_
  refine v_get X kcX0 fl_X0_66 dX0_addClause_1 0 rfl rfl ?_
  refine v_bipush X dX0_addClause_4 (v := nI 8) (by decide) ?_
  refine v_icmpN_ge X dX0_addClause_6 (tgt := 113) (by decide) (by omega) (by decide) (fun h6 => ?_) (fun h6 => ?_)
  · exfalso; omega
  · refine v_aload_n X dX0_addClause_9 rfl 0 rfl ?_
    refine v_get X kcX0 fl_X0_9 dX0_addClause_10 0 rfl rfl ?_
    refine v_aload_n X dX0_addClause_13 rfl 0 rfl ?_
    refine v_get X kcX0 fl_X0_66 dX0_addClause_14 0 rfl rfl ?_
    refine v_iload_n X dX0_addClause_17 rfl 1 rfl ?_
    refine v_iast X dX0_addClause_18 1 rfl (by omega) (by decide) (ws' := [ob h 0 [.int (nI (cy 0)), .int (nI (cy 1)), .int (nI (cy 2)), .int (nI (cy 3)), .int (nI (cy 4)), .int (nI (cy 5)), .int (nI (cy 6)), .int (nI (cy 7)), .ref (ca 0), .ref (ca 1), .ref (ca 2), .ref (ca 3), .ref (ca 4), .ref (ca 5), .ref (ca 6), .ref (ca 7), .ref (ca 8), .ref (ca 9), .ref (ca 10), .ref (ca 11)], aN E (ca 0) 8 (upN f0 (cy 5) fo), aN E (ca 1) 8 f1, aI E (ca 2) 8 f2, aN E (ca 3) 8 f3, aN E (ca 4) 8 f4, aM E (ca 5) 8 Fs, aM E (ca 6) 8 Ft]) (by rw [upd_nI]; rfl) ?_
    refine v_aload_n X dX0_addClause_19 rfl 0 rfl ?_
    refine v_get X kcX0 fl_X0_15 dX0_addClause_20 0 rfl rfl ?_
    refine v_aload_n X dX0_addClause_23 rfl 0 rfl ?_
    refine v_get X kcX0 fl_X0_66 dX0_addClause_24 0 rfl rfl ?_
    refine v_iload_n X dX0_addClause_27 rfl 2 rfl ?_
    refine v_iast X dX0_addClause_28 2 rfl (by omega) (by decide) (ws' := [ob h 0 [.int (nI (cy 0)), .int (nI (cy 1)), .int (nI (cy 2)), .int (nI (cy 3)), .int (nI (cy 4)), .int (nI (cy 5)), .int (nI (cy 6)), .int (nI (cy 7)), .ref (ca 0), .ref (ca 1), .ref (ca 2), .ref (ca 3), .ref (ca 4), .ref (ca 5), .ref (ca 6), .ref (ca 7), .ref (ca 8), .ref (ca 9), .ref (ca 10), .ref (ca 11)], aN E (ca 0) 8 (upN f0 (cy 5) fo), aN E (ca 1) 8 (upN f1 (cy 5) d1), aI E (ca 2) 8 f2, aN E (ca 3) 8 f3, aN E (ca 4) 8 f4, aM E (ca 5) 8 Fs, aM E (ca 6) 8 Ft]) (by rw [upd_nI]; rfl) ?_
    refine v_aload_n X dX0_addClause_29 rfl 0 rfl ?_
    refine v_get X kcX0 fl_X0_18 dX0_addClause_30 0 rfl rfl ?_
    refine v_aload_n X dX0_addClause_33 rfl 0 rfl ?_
    refine v_get X kcX0 fl_X0_66 dX0_addClause_34 0 rfl rfl ?_
    refine v_iload_n X dX0_addClause_37 rfl 3 rfl ?_
    refine v_iast X dX0_addClause_38 3 rfl (by omega) (by decide) (ws' := [ob h 0 [.int (nI (cy 0)), .int (nI (cy 1)), .int (nI (cy 2)), .int (nI (cy 3)), .int (nI (cy 4)), .int (nI (cy 5)), .int (nI (cy 6)), .int (nI (cy 7)), .ref (ca 0), .ref (ca 1), .ref (ca 2), .ref (ca 3), .ref (ca 4), .ref (ca 5), .ref (ca 6), .ref (ca 7), .ref (ca 8), .ref (ca 9), .ref (ca 10), .ref (ca 11)], aN E (ca 0) 8 (upN f0 (cy 5) fo), aN E (ca 1) 8 (upN f1 (cy 5) d1), aI E (ca 2) 8 (upd f2 (cy 5) d2), aN E (ca 3) 8 f3, aN E (ca 4) 8 f4, aM E (ca 5) 8 Fs, aM E (ca 6) 8 Ft]) rfl ?_
    refine v_aload_n X dX0_addClause_39 rfl 0 rfl ?_
    refine v_get X kcX0 fl_X0_21 dX0_addClause_40 0 rfl rfl ?_
    refine v_aload_n X dX0_addClause_43 rfl 0 rfl ?_
    refine v_get X kcX0 fl_X0_66 dX0_addClause_44 0 rfl rfl ?_
    refine v_iload X dX0_addClause_47 4 rfl ?_
    refine v_iast X dX0_addClause_49 4 rfl (by omega) (by decide) (ws' := [ob h 0 [.int (nI (cy 0)), .int (nI (cy 1)), .int (nI (cy 2)), .int (nI (cy 3)), .int (nI (cy 4)), .int (nI (cy 5)), .int (nI (cy 6)), .int (nI (cy 7)), .ref (ca 0), .ref (ca 1), .ref (ca 2), .ref (ca 3), .ref (ca 4), .ref (ca 5), .ref (ca 6), .ref (ca 7), .ref (ca 8), .ref (ca 9), .ref (ca 10), .ref (ca 11)], aN E (ca 0) 8 (upN f0 (cy 5) fo), aN E (ca 1) 8 (upN f1 (cy 5) d1), aI E (ca 2) 8 (upd f2 (cy 5) d2), aN E (ca 3) 8 (upN f3 (cy 5) ma), aN E (ca 4) 8 f4, aM E (ca 5) 8 Fs, aM E (ca 6) 8 Ft]) (by rw [upd_nI]; rfl) ?_
    refine v_aload_n X dX0_addClause_50 rfl 0 rfl ?_
    refine v_get X kcX0 fl_X0_24 dX0_addClause_51 0 rfl rfl ?_
    refine v_aload_n X dX0_addClause_54 rfl 0 rfl ?_
    refine v_get X kcX0 fl_X0_66 dX0_addClause_55 0 rfl rfl ?_
    refine v_iload X dX0_addClause_58 5 rfl ?_
    refine v_iast X dX0_addClause_60 5 rfl (by omega) (by decide) (ws' := [ob h 0 [.int (nI (cy 0)), .int (nI (cy 1)), .int (nI (cy 2)), .int (nI (cy 3)), .int (nI (cy 4)), .int (nI (cy 5)), .int (nI (cy 6)), .int (nI (cy 7)), .ref (ca 0), .ref (ca 1), .ref (ca 2), .ref (ca 3), .ref (ca 4), .ref (ca 5), .ref (ca 6), .ref (ca 7), .ref (ca 8), .ref (ca 9), .ref (ca 10), .ref (ca 11)], aN E (ca 0) 8 (upN f0 (cy 5) fo), aN E (ca 1) 8 (upN f1 (cy 5) d1), aI E (ca 2) 8 (upd f2 (cy 5) d2), aN E (ca 3) 8 (upN f3 (cy 5) ma), aN E (ca 4) 8 (upN f4 (cy 5) ik), aM E (ca 5) 8 Fs, aM E (ca 6) 8 Ft]) (by rw [upd_nI]; rfl) ?_
    refine v_aload_n X dX0_addClause_61 rfl 0 rfl ?_
    refine v_get X kcX0 fl_X0_27 dX0_addClause_62 0 rfl rfl ?_
    refine v_aload_n X dX0_addClause_65 rfl 0 rfl ?_
    refine v_get X kcX0 fl_X0_66 dX0_addClause_66 0 rfl rfl ?_
    refine v_iload_n X dX0_addClause_69 rfl 1 rfl ?_
    refine v_iload_n X dX0_addClause_70 rfl 2 rfl ?_
    refine v_roL1 X (rn_S X k_X0_setsWith ml_X0_75 dX0_addClause_71 (c_X0_setsWith l E (nI d1) ) rfl (by decide) (by decide) (by omega) (by omega) (Nat.le_of_ble_eq_true rfl)) [] rfl rfl ?_
    refine v_iload_n X dX0_addClause_74 rfl 3 rfl ?_
    refine v_roL1 X (rn_S X k_X0_setsWith ml_X0_75 dX0_addClause_75 (c_X0_setsWith l E d2 ) rfl (by decide) (by decide) (by omega) (by omega) (Nat.le_of_ble_eq_true rfl)) [] rfl rfl ?_
    refine v_roL1 X (rn_S X k_X0_straightOf ml_X0_79 dX0_addClause_78 (c_X0_straightOf l E fo (swI (nI d1)) (swI d2) (by omega)) rfl (by decide) (by decide) (by omega) (by omega) (Nat.le_of_ble_eq_true rfl)) [] rfl rfl ?_
    refine v_last X dX0_addClause_81 6 rfl (by omega) (by decide) (ws' := [ob h 0 [.int (nI (cy 0)), .int (nI (cy 1)), .int (nI (cy 2)), .int (nI (cy 3)), .int (nI (cy 4)), .int (nI (cy 5)), .int (nI (cy 6)), .int (nI (cy 7)), .ref (ca 0), .ref (ca 1), .ref (ca 2), .ref (ca 3), .ref (ca 4), .ref (ca 5), .ref (ca 6), .ref (ca 7), .ref (ca 8), .ref (ca 9), .ref (ca 10), .ref (ca 11)], aN E (ca 0) 8 (upN f0 (cy 5) fo), aN E (ca 1) 8 (upN f1 (cy 5) d1), aI E (ca 2) 8 (upd f2 (cy 5) d2), aN E (ca 3) 8 (upN f3 (cy 5) ma), aN E (ca 4) 8 (upN f4 (cy 5) ik), aM E (ca 5) 8 (upN Fs (cy 5) (strN fo (swI (nI d1)) (swI d2))), aM E (ca 6) 8 Ft]) (by rw [upd_lN]; rfl) ?_
    refine v_aload_n X dX0_addClause_82 rfl 0 rfl ?_
    refine v_get X kcX0 fl_X0_31 dX0_addClause_83 0 rfl rfl ?_
    refine v_aload_n X dX0_addClause_86 rfl 0 rfl ?_
    refine v_get X kcX0 fl_X0_66 dX0_addClause_87 0 rfl rfl ?_
    refine v_iload_n X dX0_addClause_90 rfl 1 rfl ?_
    refine v_iload_n X dX0_addClause_91 rfl 2 rfl ?_
    refine v_roL1 X (rn_S X k_X0_setsWith ml_X0_75 dX0_addClause_92 (c_X0_setsWith l E (nI d1) ) rfl (by decide) (by decide) (by omega) (by omega) (Nat.le_of_ble_eq_true rfl)) [] rfl rfl ?_
    refine v_iload_n X dX0_addClause_95 rfl 3 rfl ?_
    refine v_roL1 X (rn_S X k_X0_setsWith ml_X0_75 dX0_addClause_96 (c_X0_setsWith l E d2 ) rfl (by decide) (by decide) (by omega) (by omega) (Nat.le_of_ble_eq_true rfl)) [] rfl rfl ?_
    refine v_roL1 X (rn_S X k_X0_turnedOf ml_X0_83 dX0_addClause_99 (c_X0_turnedOf l E fo (swI (nI d1)) (swI d2) (by omega)) rfl (by decide) (by decide) (by omega) (by omega) (Nat.le_of_ble_eq_true rfl)) [] rfl rfl ?_
    refine v_last X dX0_addClause_102 7 rfl (by omega) (by decide) (ws' := [ob h 0 [.int (nI (cy 0)), .int (nI (cy 1)), .int (nI (cy 2)), .int (nI (cy 3)), .int (nI (cy 4)), .int (nI (cy 5)), .int (nI (cy 6)), .int (nI (cy 7)), .ref (ca 0), .ref (ca 1), .ref (ca 2), .ref (ca 3), .ref (ca 4), .ref (ca 5), .ref (ca 6), .ref (ca 7), .ref (ca 8), .ref (ca 9), .ref (ca 10), .ref (ca 11)], aN E (ca 0) 8 (upN f0 (cy 5) fo), aN E (ca 1) 8 (upN f1 (cy 5) d1), aI E (ca 2) 8 (upd f2 (cy 5) d2), aN E (ca 3) 8 (upN f3 (cy 5) ma), aN E (ca 4) 8 (upN f4 (cy 5) ik), aM E (ca 5) 8 (upN Fs (cy 5) (strN fo (swI (nI d1)) (swI d2))), aM E (ca 6) 8 (upN Ft (cy 5) (turN fo (swI (nI d1)) (swI d2)))]) (by rw [upd_lN]; rfl) ?_
    refine v_aload_n X dX0_addClause_103 rfl 0 rfl ?_
    refine v_dup X dX0_addClause_104 rfl ?_
    refine v_get X kcX0 fl_X0_66 dX0_addClause_105 0 rfl rfl ?_
    refine v_iconst X dX0_addClause_108 (v := nI 1) (by decide) ?_
    refine v_iadd X dX0_addClause_109 ?_
    refine v_eqi (x' := nI ((cy 5) + 1)) (nI_add _ _) ?_
    refine v_put X kcX0 fl_X0_66 dX0_addClause_110 0 rfl (ws' := [ob h 0 [.int (nI (cy 0)), .int (nI (cy 1)), .int (nI (cy 2)), .int (nI (cy 3)), .int (nI (cy 4)), .int (nI ((cy 5) + 1)), .int (nI (cy 6)), .int (nI (cy 7)), .ref (ca 0), .ref (ca 1), .ref (ca 2), .ref (ca 3), .ref (ca 4), .ref (ca 5), .ref (ca 6), .ref (ca 7), .ref (ca 8), .ref (ca 9), .ref (ca 10), .ref (ca 11)], aN E (ca 0) 8 (upN f0 (cy 5) fo), aN E (ca 1) 8 (upN f1 (cy 5) d1), aI E (ca 2) 8 (upd f2 (cy 5) d2), aN E (ca 3) 8 (upN f3 (cy 5) ma), aN E (ca 4) 8 (upN f4 (cy 5) ik), aM E (ca 5) 8 (upN Fs (cy 5) (strN fo (swI (nI d1)) (swI d2))), aM E (ca 6) 8 (upN Ft (cy 5) (turN fo (swI (nI d1)) (swI d2)))]) rfl rfl ?_
    exact v_vret X Y dX0_addClause_113 (wrV_of (rfl)) (by omega) (by omega)
set_option maxRecDepth 100000 in
set_option maxHeartbeats 4000000 in
theorem c_X0_addUnsure (l : Launch) (E : Et) (h : Nat) (cy : Nat → Nat) (ca : Nat → Nat) (uc : Nat → Nat) (c : Nat) (hu : cy 6 < 5) : Ct l E yX0_addUnsure cX0_addUnsure 2 none 0 0 0 [.ref h, .int (nI c)] [ob h 0 [.int (nI (cy 0)), .int (nI (cy 1)), .int (nI (cy 2)), .int (nI (cy 3)), .int (nI (cy 4)), .int (nI (cy 5)), .int (nI (cy 6)), .int (nI (cy 7)), .ref (ca 0), .ref (ca 1), .ref (ca 2), .ref (ca 3), .ref (ca 4), .ref (ca 5), .ref (ca 6), .ref (ca 7), .ref (ca 8), .ref (ca 9), .ref (ca 10), .ref (ca 11)], aN E (ca 7) 5 uc] (wrV [ob h 0 [.int (nI ((upN cy 6 (cy 6 + 1)) 0)), .int (nI ((upN cy 6 (cy 6 + 1)) 1)), .int (nI ((upN cy 6 (cy 6 + 1)) 2)), .int (nI ((upN cy 6 (cy 6 + 1)) 3)), .int (nI ((upN cy 6 (cy 6 + 1)) 4)), .int (nI ((upN cy 6 (cy 6 + 1)) 5)), .int (nI ((upN cy 6 (cy 6 + 1)) 6)), .int (nI ((upN cy 6 (cy 6 + 1)) 7)), .ref (ca 0), .ref (ca 1), .ref (ca 2), .ref (ca 3), .ref (ca 4), .ref (ca 5), .ref (ca 6), .ref (ca 7), .ref (ca 8), .ref (ca 9), .ref (ca 10), .ref (ca 11)], aN E (ca 7) 5 (upN uc (cy 6) c)]) := by
  refine Ct.intro (by decide +kernel) (Nat.le_of_ble_eq_true rfl) (lv := [(0, .ref h), (1, .int (nI c))]) rfl ?_
  intro Z X Y
  refine v_aload_n X dX0_addUnsure_0 rfl 0 rfl ?_
  refine v_get X kcX0 fl_X0_69 dX0_addUnsure_1 0 rfl rfl ?_
  refine v_iconst X dX0_addUnsure_4 (v := nI 5) (by decide) ?_
  refine v_icmpN_ge X dX0_addUnsure_5 (tgt := 28) (by decide) (by omega) (by decide) (fun h5 => ?_) (fun h5 => ?_)
  · exfalso; omega
  · refine v_aload_n X dX0_addUnsure_8 rfl 0 rfl ?_
    refine v_get X kcX0 fl_X0_34 dX0_addUnsure_9 0 rfl rfl ?_
    refine v_aload_n X dX0_addUnsure_12 rfl 0 rfl ?_
    refine v_get X kcX0 fl_X0_69 dX0_addUnsure_13 0 rfl rfl ?_
    refine v_iload_n X dX0_addUnsure_16 rfl 1 rfl ?_
    refine v_iast X dX0_addUnsure_17 1 rfl (by omega) (by decide) (ws' := [ob h 0 [.int (nI (cy 0)), .int (nI (cy 1)), .int (nI (cy 2)), .int (nI (cy 3)), .int (nI (cy 4)), .int (nI (cy 5)), .int (nI (cy 6)), .int (nI (cy 7)), .ref (ca 0), .ref (ca 1), .ref (ca 2), .ref (ca 3), .ref (ca 4), .ref (ca 5), .ref (ca 6), .ref (ca 7), .ref (ca 8), .ref (ca 9), .ref (ca 10), .ref (ca 11)], aN E (ca 7) 5 (upN uc (cy 6) c)]) (by rw [upd_nI]; rfl) ?_
    refine v_aload_n X dX0_addUnsure_18 rfl 0 rfl ?_
    refine v_dup X dX0_addUnsure_19 rfl ?_
    refine v_get X kcX0 fl_X0_69 dX0_addUnsure_20 0 rfl rfl ?_
    refine v_iconst X dX0_addUnsure_23 (v := nI 1) (by decide) ?_
    refine v_iadd X dX0_addUnsure_24 ?_
    refine v_eqi (x' := nI ((cy 6) + 1)) (nI_add _ _) ?_
    refine v_put X kcX0 fl_X0_69 dX0_addUnsure_25 0 rfl (ws' := [ob h 0 [.int (nI (cy 0)), .int (nI (cy 1)), .int (nI (cy 2)), .int (nI (cy 3)), .int (nI (cy 4)), .int (nI (cy 5)), .int (nI ((cy 6) + 1)), .int (nI (cy 7)), .ref (ca 0), .ref (ca 1), .ref (ca 2), .ref (ca 3), .ref (ca 4), .ref (ca 5), .ref (ca 6), .ref (ca 7), .ref (ca 8), .ref (ca 9), .ref (ca 10), .ref (ca 11)], aN E (ca 7) 5 (upN uc (cy 6) c)]) rfl rfl ?_
    exact v_vret X Y dX0_addUnsure_28 (wrV_of (rfl)) (by omega) (by omega)
set_option maxRecDepth 100000 in
set_option maxHeartbeats 4000000 in
theorem c_X0_addDid (l : Launch) (E : Et) (h : Nat) (cy : Nat → Nat) (ca : Nat → Nat) (dm : Nat → Nat) (dy : Nat → Nat) (ds : Nat → Nat) (dk : Nat → Bool) (m : Nat) (dx : Nat) (kp : Bool) (st : Nat) (hdd : cy 7 < 6) : Ct l E yX0_addDid cX0_addDid 5 none 0 0 0 [.ref h, .int (nI m), .int (nI dx), .int (nI (kp).toNat), .int (nI st)] [ob h 0 [.int (nI (cy 0)), .int (nI (cy 1)), .int (nI (cy 2)), .int (nI (cy 3)), .int (nI (cy 4)), .int (nI (cy 5)), .int (nI (cy 6)), .int (nI (cy 7)), .ref (ca 0), .ref (ca 1), .ref (ca 2), .ref (ca 3), .ref (ca 4), .ref (ca 5), .ref (ca 6), .ref (ca 7), .ref (ca 8), .ref (ca 9), .ref (ca 10), .ref (ca 11)], aN E (ca 8) 6 dm, aN E (ca 9) 6 dy, aN E (ca 10) 6 ds, aZ E (ca 11) 6 dk] (wrV [ob h 0 [.int (nI ((upN cy 7 (cy 7 + 1)) 0)), .int (nI ((upN cy 7 (cy 7 + 1)) 1)), .int (nI ((upN cy 7 (cy 7 + 1)) 2)), .int (nI ((upN cy 7 (cy 7 + 1)) 3)), .int (nI ((upN cy 7 (cy 7 + 1)) 4)), .int (nI ((upN cy 7 (cy 7 + 1)) 5)), .int (nI ((upN cy 7 (cy 7 + 1)) 6)), .int (nI ((upN cy 7 (cy 7 + 1)) 7)), .ref (ca 0), .ref (ca 1), .ref (ca 2), .ref (ca 3), .ref (ca 4), .ref (ca 5), .ref (ca 6), .ref (ca 7), .ref (ca 8), .ref (ca 9), .ref (ca 10), .ref (ca 11)], aN E (ca 8) 6 (upN dm (cy 7) m), aN E (ca 9) 6 (upN dy (cy 7) dx), aN E (ca 10) 6 (upN ds (cy 7) st), aZ E (ca 11) 6 (upB dk (cy 7) kp)]) := by
  refine Ct.intro (by decide +kernel) (Nat.le_of_ble_eq_true rfl) (lv := [(0, .ref h), (1, .int (nI m)), (2, .int (nI dx)), (3, .int (nI (kp).toNat)), (4, .int (nI st))]) rfl ?_
  intro Z X Y
  refine v_aload_n X dX0_addDid_0 rfl 0 rfl ?_
  refine v_get X kcX0 fl_X0_72 dX0_addDid_1 0 rfl rfl ?_
  refine v_bipush X dX0_addDid_4 (v := nI 6) (by decide) ?_
  refine v_icmpN_ge X dX0_addDid_6 (tgt := 60) (by decide) (by omega) (by decide) (fun h6 => ?_) (fun h6 => ?_)
  · exfalso; omega
  · refine v_aload_n X dX0_addDid_9 rfl 0 rfl ?_
    refine v_get X kcX0 fl_X0_37 dX0_addDid_10 0 rfl rfl ?_
    refine v_aload_n X dX0_addDid_13 rfl 0 rfl ?_
    refine v_get X kcX0 fl_X0_72 dX0_addDid_14 0 rfl rfl ?_
    refine v_iload_n X dX0_addDid_17 rfl 1 rfl ?_
    refine v_iast X dX0_addDid_18 1 rfl (by omega) (by decide) (ws' := [ob h 0 [.int (nI (cy 0)), .int (nI (cy 1)), .int (nI (cy 2)), .int (nI (cy 3)), .int (nI (cy 4)), .int (nI (cy 5)), .int (nI (cy 6)), .int (nI (cy 7)), .ref (ca 0), .ref (ca 1), .ref (ca 2), .ref (ca 3), .ref (ca 4), .ref (ca 5), .ref (ca 6), .ref (ca 7), .ref (ca 8), .ref (ca 9), .ref (ca 10), .ref (ca 11)], aN E (ca 8) 6 (upN dm (cy 7) m), aN E (ca 9) 6 dy, aN E (ca 10) 6 ds, aZ E (ca 11) 6 dk]) (by rw [upd_nI]; rfl) ?_
    refine v_aload_n X dX0_addDid_19 rfl 0 rfl ?_
    refine v_get X kcX0 fl_X0_40 dX0_addDid_20 0 rfl rfl ?_
    refine v_aload_n X dX0_addDid_23 rfl 0 rfl ?_
    refine v_get X kcX0 fl_X0_72 dX0_addDid_24 0 rfl rfl ?_
    refine v_iload_n X dX0_addDid_27 rfl 2 rfl ?_
    refine v_iast X dX0_addDid_28 2 rfl (by omega) (by decide) (ws' := [ob h 0 [.int (nI (cy 0)), .int (nI (cy 1)), .int (nI (cy 2)), .int (nI (cy 3)), .int (nI (cy 4)), .int (nI (cy 5)), .int (nI (cy 6)), .int (nI (cy 7)), .ref (ca 0), .ref (ca 1), .ref (ca 2), .ref (ca 3), .ref (ca 4), .ref (ca 5), .ref (ca 6), .ref (ca 7), .ref (ca 8), .ref (ca 9), .ref (ca 10), .ref (ca 11)], aN E (ca 8) 6 (upN dm (cy 7) m), aN E (ca 9) 6 (upN dy (cy 7) dx), aN E (ca 10) 6 ds, aZ E (ca 11) 6 dk]) (by rw [upd_nI]; rfl) ?_
    refine v_aload_n X dX0_addDid_29 rfl 0 rfl ?_
    refine v_get X kcX0 fl_X0_46 dX0_addDid_30 0 rfl rfl ?_
    refine v_aload_n X dX0_addDid_33 rfl 0 rfl ?_
    refine v_get X kcX0 fl_X0_72 dX0_addDid_34 0 rfl rfl ?_
    refine v_iload_n X dX0_addDid_37 rfl 3 rfl ?_
    refine v_zast X dX0_addDid_38 4 rfl (by omega) (by decide) (ws' := [ob h 0 [.int (nI (cy 0)), .int (nI (cy 1)), .int (nI (cy 2)), .int (nI (cy 3)), .int (nI (cy 4)), .int (nI (cy 5)), .int (nI (cy 6)), .int (nI (cy 7)), .ref (ca 0), .ref (ca 1), .ref (ca 2), .ref (ca 3), .ref (ca 4), .ref (ca 5), .ref (ca 6), .ref (ca 7), .ref (ca 8), .ref (ca 9), .ref (ca 10), .ref (ca 11)], aN E (ca 8) 6 (upN dm (cy 7) m), aN E (ca 9) 6 (upN dy (cy 7) dx), aN E (ca 10) 6 ds, aZ E (ca 11) 6 (upB dk (cy 7) kp)]) (by rw [upd_zB]; rfl) ?_
    refine v_aload_n X dX0_addDid_39 rfl 0 rfl ?_
    refine v_get X kcX0 fl_X0_43 dX0_addDid_40 0 rfl rfl ?_
    refine v_aload_n X dX0_addDid_43 rfl 0 rfl ?_
    refine v_get X kcX0 fl_X0_72 dX0_addDid_44 0 rfl rfl ?_
    refine v_iload X dX0_addDid_47 4 rfl ?_
    refine v_iast X dX0_addDid_49 3 rfl (by omega) (by decide) (ws' := [ob h 0 [.int (nI (cy 0)), .int (nI (cy 1)), .int (nI (cy 2)), .int (nI (cy 3)), .int (nI (cy 4)), .int (nI (cy 5)), .int (nI (cy 6)), .int (nI (cy 7)), .ref (ca 0), .ref (ca 1), .ref (ca 2), .ref (ca 3), .ref (ca 4), .ref (ca 5), .ref (ca 6), .ref (ca 7), .ref (ca 8), .ref (ca 9), .ref (ca 10), .ref (ca 11)], aN E (ca 8) 6 (upN dm (cy 7) m), aN E (ca 9) 6 (upN dy (cy 7) dx), aN E (ca 10) 6 (upN ds (cy 7) st), aZ E (ca 11) 6 (upB dk (cy 7) kp)]) (by rw [upd_nI]; rfl) ?_
    refine v_aload_n X dX0_addDid_50 rfl 0 rfl ?_
    refine v_dup X dX0_addDid_51 rfl ?_
    refine v_get X kcX0 fl_X0_72 dX0_addDid_52 0 rfl rfl ?_
    refine v_iconst X dX0_addDid_55 (v := nI 1) (by decide) ?_
    refine v_iadd X dX0_addDid_56 ?_
    refine v_eqi (x' := nI ((cy 7) + 1)) (nI_add _ _) ?_
    refine v_put X kcX0 fl_X0_72 dX0_addDid_57 0 rfl (ws' := [ob h 0 [.int (nI (cy 0)), .int (nI (cy 1)), .int (nI (cy 2)), .int (nI (cy 3)), .int (nI (cy 4)), .int (nI (cy 5)), .int (nI (cy 6)), .int (nI ((cy 7) + 1)), .ref (ca 0), .ref (ca 1), .ref (ca 2), .ref (ca 3), .ref (ca 4), .ref (ca 5), .ref (ca 6), .ref (ca 7), .ref (ca 8), .ref (ca 9), .ref (ca 10), .ref (ca 11)], aN E (ca 8) 6 (upN dm (cy 7) m), aN E (ca 9) 6 (upN dy (cy 7) dx), aN E (ca 10) 6 (upN ds (cy 7) st), aZ E (ca 11) 6 (upB dk (cy 7) kp)]) rfl rfl ?_
    exact v_vret X Y dX0_addDid_60 (wrV_of (rfl)) (by omega) (by omega)
set_option maxRecDepth 100000 in
set_option maxHeartbeats 4000000 in
theorem c_X6_isAhead (l : Launch) (E : Et) (x : Int32)  : Ct l E yX6_isAhead cX6_isAhead 1 (some .boolean) 0 0 0 [.int x] [] (roI [] (nI (decide (0 ≤ x ∧ x ≤ nI 60)).toNat)) := by
  refine Ct.intro (by decide +kernel) (Nat.le_of_ble_eq_true rfl) (lv := [(0, .int x)]) rfl ?_
  intro Z X Y
  refine v_iload_n X dX6_isAhead_0 rfl 0 rfl ?_
  refine v_if_lt X dX6_isAhead_1 (tgt := 14) (by decide) (fun h1 => ?_) (fun h1 => ?_)
  · refine v_iconst X dX6_isAhead_14 (v := nI 0) (by decide) ?_
    exact v_zret X Y dX6_isAhead_15 (by decide) (roI_of (by first | exact bo1 (decide_eq_true ⟨Int32.not_lt.mp h1, Int32.not_lt.mp h7⟩) | exact bo0 (decide_eq_false (fun q => absurd q.1 (Int32.not_le.mpr h1))) | exact bo0 (decide_eq_false (fun q => absurd q.2 (Int32.not_le.mpr h7))))) (by omega) (by omega)
  · refine v_iload_n X dX6_isAhead_4 rfl 0 rfl ?_
    refine v_bipush X dX6_isAhead_5 (v := nI 60) (by decide) ?_
    refine v_icmp_gt X dX6_isAhead_7 (tgt := 14) (by decide) (fun h7 => ?_) (fun h7 => ?_)
    · refine v_iconst X dX6_isAhead_14 (v := nI 0) (by decide) ?_
      exact v_zret X Y dX6_isAhead_15 (by decide) (roI_of (by first | exact bo1 (decide_eq_true ⟨Int32.not_lt.mp h1, Int32.not_lt.mp h7⟩) | exact bo0 (decide_eq_false (fun q => absurd q.1 (Int32.not_le.mpr h1))) | exact bo0 (decide_eq_false (fun q => absurd q.2 (Int32.not_le.mpr h7))))) (by omega) (by omega)
    · refine v_iconst X dX6_isAhead_10 (v := nI 1) (by decide) ?_
      refine v_goto X dX6_isAhead_11 (tgt := 15) (by decide) ?_
      exact v_zret X Y dX6_isAhead_15 (by decide) (roI_of (by first | exact bo1 (decide_eq_true ⟨Int32.not_lt.mp h1, Int32.not_lt.mp h7⟩) | exact bo0 (decide_eq_false (fun q => absurd q.1 (Int32.not_le.mpr h1))) | exact bo0 (decide_eq_false (fun q => absurd q.2 (Int32.not_le.mpr h7))))) (by omega) (by omega)
set_option maxRecDepth 100000 in
set_option maxHeartbeats 4000000 in
theorem c_X6_isSeed (l : Launch) (E : Et) (x : Int32)  : Ct l E yX6_isSeed cX6_isSeed 1 (some .boolean) 0 0 0 [.int x] [] (roI [] (nI (decide (0 ≤ x ∧ x < nI 65537)).toNat)) := by
  refine Ct.intro (by decide +kernel) (Nat.le_of_ble_eq_true rfl) (lv := [(0, .int x)]) rfl ?_
  intro Z X Y
  refine v_iload_n X dX6_isSeed_0 rfl 0 rfl ?_
  refine v_if_lt X dX6_isSeed_1 (tgt := 15) (by decide) (fun h1 => ?_) (fun h1 => ?_)
  · refine v_iconst X dX6_isSeed_15 (v := nI 0) (by decide) ?_
    exact v_zret X Y dX6_isSeed_16 (by decide) (roI_of (by first | exact bo1 (decide_eq_true ⟨Int32.not_lt.mp h1, Int32.not_le.mp h8⟩) | exact bo0 (decide_eq_false (fun q => absurd q.1 (Int32.not_le.mpr h1))) | exact bo0 (decide_eq_false (fun q => absurd q.2 (Int32.not_lt.mpr h8))))) (by omega) (by omega)
  · refine v_iload_n X dX6_isSeed_4 rfl 0 rfl ?_
    refine v_ldcw X dX6_isSeed_5 cs_X6_313 ?_
    refine v_eqi (x' := nI 65537) rfl ?_
    refine v_icmp_ge X dX6_isSeed_8 (tgt := 15) (by decide) (fun h8 => ?_) (fun h8 => ?_)
    · refine v_iconst X dX6_isSeed_15 (v := nI 0) (by decide) ?_
      exact v_zret X Y dX6_isSeed_16 (by decide) (roI_of (by first | exact bo1 (decide_eq_true ⟨Int32.not_lt.mp h1, Int32.not_le.mp h8⟩) | exact bo0 (decide_eq_false (fun q => absurd q.1 (Int32.not_le.mpr h1))) | exact bo0 (decide_eq_false (fun q => absurd q.2 (Int32.not_lt.mpr h8))))) (by omega) (by omega)
    · refine v_iconst X dX6_isSeed_11 (v := nI 1) (by decide) ?_
      refine v_goto X dX6_isSeed_12 (tgt := 16) (by decide) ?_
      exact v_zret X Y dX6_isSeed_16 (by decide) (roI_of (by first | exact bo1 (decide_eq_true ⟨Int32.not_lt.mp h1, Int32.not_le.mp h8⟩) | exact bo0 (decide_eq_false (fun q => absurd q.1 (Int32.not_le.mpr h1))) | exact bo0 (decide_eq_false (fun q => absurd q.2 (Int32.not_lt.mpr h8))))) (by omega) (by omega)
set_option maxRecDepth 100000 in
set_option maxHeartbeats 4000000 in
theorem c_X6_bitAt (l : Launch) (E : Et) (a : Nat) (i : Int32) (ha : a < 2 ^ 64) : Ct l E yX6_bitAt cX6_bitAt 5 (some .int) 1 0 0 [.long (lN a), .int i] [] (roI [] (kth (fun s => a.testBit s) i 64 0 0)) := by
  refine Ct.intro (by decide +kernel) (Nat.le_of_ble_eq_true rfl) (lv := [(0, .long (lN a)), (2, .int i)]) rfl ?_
  intro Z X Y
  refine v_iconst X dX6_bitAt_0 (v := nI 0) (by decide) ?_
  refine v_istore_n X dX6_bitAt_1 rfl (by decide) (lv' := [(3, .int (nI 0)), (0, .long (lN a)), (2, .int i)]) rfl ?_
  refine v_iconst X dX6_bitAt_2 (v := nI 0) (by decide) ?_
  refine v_istore X dX6_bitAt_3 (by decide) (lv' := [(4, .int (nI 0)), (3, .int (nI 0)), (0, .long (lN a)), (2, .int i)]) rfl ?_
  have L5 : ∀ (j5 : Nat) (vb : Nat) (vn : Nat), (vb ≤ 64 ∧ kth (fun s => a.testBit s) i 64 0 0 = kth (fun s => a.testBit s) i (64 - vb) vb vn) → 64 - vb < j5 → V E Z 5 [(0, .long (lN a)), (2, .int i), (3, .int (nI vn)), (4, .int (nI vb))] [] [] 0 0 := by
    intro j5
    induction j5 with
    | zero => intro vb vn hI hM; exact absurd hM (Nat.not_lt_zero _)
    | succ j5 ih5 =>
      intro vb vn hI5 hM5
      obtain ⟨hc, hq⟩ := id hI5
      refine v_iload X dX6_bitAt_5 3 rfl ?_
      refine v_bipush X dX6_bitAt_7 (v := nI 64) (by decide) ?_
      refine v_icmpN_ge X dX6_bitAt_9 (tgt := 38) (by decide) (by omega) (by decide) (fun h9 => ?_) (fun h9 => ?_)
      · refine v_iconst X dX6_bitAt_38 (v := (-1)) (by decide) ?_
        exact v_iret X Y dX6_bitAt_39 (roI_of (by rw [hq, show 64 - vb = 0 by omega]; rfl)) (by omega) (by omega)
      · refine v_lload_n X dX6_bitAt_12 rfl 0 rfl ?_
        refine v_iload X dX6_bitAt_13 3 rfl ?_
        refine v_roI1 X (rn_S X k_X6_isIn ml_X6_137 dX6_bitAt_15 (c_X6_isIn l E a vb (by first | assumption | omega) (by omega)) rfl (by decide) (by decide) (by omega) (by omega) (Nat.le_of_ble_eq_true rfl)) [] rfl rfl ?_
        refine v_ifB_eq X dX6_bitAt_18 (tgt := 32) (by decide) (fun h18 => ?_) (fun h18 => ?_)
        · refine v_iinc X dX6_bitAt_32 3 rfl (v := nI (vb + 1)) (nI_inc vb) (by decide) (lv' := [(4, .int (nI (vb + 1))), (0, .long (lN a)), (2, .int i), (3, .int (nI vn))]) rfl ?_
          refine v_goto X dX6_bitAt_35 (tgt := 5) (by decide) ?_
          refine V.lvs [1, 2, 3, 0] rfl ?_
          exact ih5 (vb + 1) vn (⟨by omega, by rw [hq]; first | exact kth_no (by omega) h18 | exact kth_skip (by omega) h18 h23⟩) (by omega)
        · refine v_iload_n X dX6_bitAt_21 rfl 2 rfl ?_
          refine v_iload_n X dX6_bitAt_22 rfl 1 rfl ?_
          refine v_icmp_ne X dX6_bitAt_23 (tgt := 29) (by decide) (fun h23 => ?_) (fun h23 => ?_)
          · refine v_iinc X dX6_bitAt_29 2 rfl (v := nI (vn + 1)) (nI_inc vn) (by decide) (lv' := [(3, .int (nI (vn + 1))), (0, .long (lN a)), (2, .int i), (4, .int (nI vb))]) rfl ?_
            refine v_iinc X dX6_bitAt_32 3 rfl (v := nI (vb + 1)) (nI_inc vb) (by decide) (lv' := [(4, .int (nI (vb + 1))), (3, .int (nI (vn + 1))), (0, .long (lN a)), (2, .int i)]) rfl ?_
            refine v_goto X dX6_bitAt_35 (tgt := 5) (by decide) ?_
            refine V.lvs [2, 3, 1, 0] rfl ?_
            exact ih5 (vb + 1) (vn + 1) (⟨by omega, by rw [hq]; first | exact kth_no (by omega) h18 | exact kth_skip (by omega) h18 h23⟩) (by omega)
          · refine v_iload X dX6_bitAt_26 3 rfl ?_
            exact v_iret X Y dX6_bitAt_28 (roI_of (by rw [hq, kth_hit (by omega) h18 h23])) (by omega) (by omega)
  refine V.lvs [2, 3, 1, 0] rfl ?_
  exact L5 _ 0 0 (⟨by omega, rfl⟩) (Nat.lt_succ_self _)
set_option maxRecDepth 100000 in
set_option maxHeartbeats 4000000 in
theorem c_X6_power (l : Launch) (E : Et) (b : Nat) (e : Nat) (hb : b < 2 ^ 31) (he : e < 2 ^ 31) : Ct l E yX6_power cX6_power 5 (some .long) 0 0 0 [.int (nI b), .int (nI e)] [] (roL [] (lN (b ^ e))) := by
  refine Ct.intro (by decide +kernel) (Nat.le_of_ble_eq_true rfl) (lv := [(0, .int (nI b)), (1, .int (nI e))]) rfl ?_
  intro Z X Y
  refine v_lconst X dX6_power_0 (v := lN 1) (by decide) ?_
  refine v_lstore_n X dX6_power_1 rfl (by decide) (lv' := [(2, .long (lN 1)), (0, .int (nI b)), (1, .int (nI e))]) rfl ?_
  refine v_iconst X dX6_power_2 (v := nI 0) (by decide) ?_
  refine v_istore X dX6_power_3 (by decide) (lv' := [(4, .int (nI 0)), (2, .long (lN 1)), (0, .int (nI b)), (1, .int (nI e))]) rfl ?_
  have L5 : ∀ (j5 : Nat) (vi : Nat) (vp : Nat), (vi ≤ e ∧ vp = b ^ vi) → e - vi < j5 → V E Z 5 [(0, .int (nI b)), (1, .int (nI e)), (2, .long (lN vp)), (4, .int (nI vi))] [] [] 0 0 := by
    intro j5
    induction j5 with
    | zero => intro vi vp hI hM; exact absurd hM (Nat.not_lt_zero _)
    | succ j5 ih5 =>
      intro vi vp hI5 hM5
      obtain ⟨hc, hq⟩ := id hI5
      refine v_iload X dX6_power_5 3 rfl ?_
      refine v_iload_n X dX6_power_7 rfl 1 rfl ?_
      refine v_icmpN_ge X dX6_power_8 (tgt := 22) (by decide) (by omega) (by omega) (fun h8 => ?_) (fun h8 => ?_)
      · refine v_lload_n X dX6_power_22 rfl 2 rfl ?_
        exact v_lret X Y dX6_power_23 (roL_of (by (obtain rfl : vi = e := (by omega)); rw [hq])) (by omega) (by omega)
      · refine v_lload_n X dX6_power_11 rfl 2 rfl ?_
        refine v_iload_n X dX6_power_12 rfl 0 rfl ?_
        refine v_i2l X dX6_power_13 (v := lN b) (nI_l (by omega)) ?_
        refine v_lmul X dX6_power_14 ?_
        refine v_eql (x' := lN (vp * b)) (lN_mul _ _) ?_
        refine v_lstore_n X dX6_power_15 rfl (by decide) (lv' := [(2, .long (lN (vp * b))), (0, .int (nI b)), (1, .int (nI e)), (4, .int (nI vi))]) rfl ?_
        refine v_iinc X dX6_power_16 3 rfl (v := nI (vi + 1)) (nI_inc vi) (by decide) (lv' := [(4, .int (nI (vi + 1))), (2, .long (lN (vp * b))), (0, .int (nI b)), (1, .int (nI e))]) rfl ?_
        refine v_goto X dX6_power_19 (tgt := 5) (by decide) ?_
        refine V.lvs [2, 3, 1, 0] rfl ?_
        exact ih5 (vi + 1) (vp * b) (⟨by omega, by rw [hq, Nat.pow_succ]⟩) (by omega)
  refine V.lvs [2, 3, 1, 0] rfl ?_
  exact L5 _ 0 1 (⟨by omega, rfl⟩) (Nat.lt_succ_self _)
set_option maxRecDepth 100000 in
set_option maxHeartbeats 4000000 in
theorem c_X6_lowestTerms (l : Launch) (E : Et) (u : Nat) (w : Nat) (b : Bool) (hu : u < 2 ^ 63) (hw : w < 2 ^ 63) : Ct l E yX6_lowestTerms cX6_lowestTerms 12 (some .long) 0 0 0 [.long (lN u), .long (lN w), .int (nI (b).toNat)] [] (roL [] (lN (lowT u w b))) := by
  refine Ct.intro (by decide +kernel) (Nat.le_of_ble_eq_true rfl) (lv := [(0, .long (lN u)), (2, .long (lN w)), (4, .int (nI (b).toNat))]) rfl ?_
  intro Z X Y
  refine v_lload_n X dX6_lowestTerms_0 rfl 1 rfl ?_
  refine v_lstore X dX6_lowestTerms_1 (by decide) (lv' := [(5, .long (lN w)), (0, .long (lN u)), (2, .long (lN w)), (4, .int (nI (b).toNat))]) rfl ?_
  refine v_lload_n X dX6_lowestTerms_3 rfl 1 rfl ?_
  refine v_lstore X dX6_lowestTerms_4 (by decide) (lv' := [(7, .long (lN u)), (5, .long (lN w)), (0, .long (lN u)), (2, .long (lN w)), (4, .int (nI (b).toNat))]) rfl ?_
  refine v_iconst X dX6_lowestTerms_6 (v := nI 0) (by decide) ?_
  refine v_istore X dX6_lowestTerms_7 (by decide) (lv' := [(9, .int (nI 0)), (7, .long (lN u)), (5, .long (lN w)), (0, .long (lN u)), (2, .long (lN w)), (4, .int (nI (b).toNat))]) rfl ?_
  have L9 : ∀ (j9 : Nat) (vi : Nat) (vx : Nat) (vy : Nat), (vi ≤ 100 ∧ vx < 2 ^ 63 ∧ vy < 2 ^ 63 ∧ euF (100 - vi) vx vy = Nat.gcd w u) → 100 - vi < j9 → V E Z 9 [(0, .long (lN u)), (2, .long (lN w)), (4, .int (nI (b).toNat)), (5, .long (lN vx)), (7, .long (lN vy)), (9, .int (nI vi))] [] [] 0 0 := by
    intro j9
    induction j9 with
    | zero => intro vi vx vy hI hM; exact absurd hM (Nat.not_lt_zero _)
    | succ j9 ih9 =>
      intro vi vx vy hI9 hM9
      obtain ⟨hc, hvx, hvy, hq⟩ := id hI9
      refine v_iload X dX6_lowestTerms_9 5 rfl ?_
      refine v_bipush X dX6_lowestTerms_11 (v := nI 100) (by decide) ?_
      refine v_icmpN_ge X dX6_lowestTerms_13 (tgt := 44) (by decide) (by omega) (by decide) (fun h13 => ?_) (fun h13 => ?_)
      · have hgx : vx = Nat.gcd w u := by first | (rw [← hq, show 100 - vi = 0 by omega, euF]) | (rw [← hq, h20]; cases (100 - vi) <;> simp [euF])
        have hg63 : Nat.gcd w u < 2 ^ 63 := by omega
        refine v_lload X dX6_lowestTerms_44 3 rfl ?_
        refine v_lconst X dX6_lowestTerms_46 (v := lN 0) (by decide) ?_
        refine v_lcmp X dX6_lowestTerms_47 ?_
        refine v_ifLN_ne X dX6_lowestTerms_48 (tgt := 62) (by decide) (by omega) (by decide) (fun h48 => ?_) (fun h48 => ?_)
        · refine v_iload X dX6_lowestTerms_62 2 rfl ?_
          refine v_ifB_eq X dX6_lowestTerms_64 (tgt := 74) (by decide) (fun h64 => ?_) (fun h64 => ?_)
          · refine v_lload_n X dX6_lowestTerms_74 rfl 0 rfl ?_
            refine v_lload X dX6_lowestTerms_75 3 rfl ?_
            refine v_ldiv X dX6_lowestTerms_77 (lN_ne0 hvx h48) ?_
            refine v_eql (x' := lN (u / vx)) (lN_div hu h48 hvx) ?_
            exact v_lret X Y dX6_lowestTerms_78 (roL_of (by first | (rw [lowT, ← hgx, if_neg h48, h64]; rfl) | (rw [lowT, ← hgx, if_pos h48, h53]; rfl))) (by omega) (by omega)
          · refine v_lload_n X dX6_lowestTerms_67 rfl 1 rfl ?_
            refine v_lload X dX6_lowestTerms_68 3 rfl ?_
            refine v_ldiv X dX6_lowestTerms_70 (lN_ne0 hvx h48) ?_
            refine v_eql (x' := lN (w / vx)) (lN_div hw h48 hvx) ?_
            refine v_goto X dX6_lowestTerms_71 (tgt := 78) (by decide) ?_
            exact v_lret X Y dX6_lowestTerms_78 (roL_of (by first | (rw [lowT, ← hgx, if_neg h48, h64]; rfl) | (rw [lowT, ← hgx, if_pos h48, h53]; rfl))) (by omega) (by omega)
        · refine v_iload X dX6_lowestTerms_51 2 rfl ?_
          refine v_ifB_eq X dX6_lowestTerms_53 (tgt := 60) (by decide) (fun h53 => ?_) (fun h53 => ?_)
          · refine v_lconst X dX6_lowestTerms_60 (v := lN 0) (by decide) ?_
            exact v_lret X Y dX6_lowestTerms_61 (roL_of (by first | (rw [lowT, ← hgx, if_neg h48, h64]; rfl) | (rw [lowT, ← hgx, if_pos h48, h53]; rfl))) (by omega) (by omega)
          · refine v_lconst X dX6_lowestTerms_56 (v := lN 1) (by decide) ?_
            refine v_goto X dX6_lowestTerms_57 (tgt := 61) (by decide) ?_
            exact v_lret X Y dX6_lowestTerms_61 (roL_of (by first | (rw [lowT, ← hgx, if_neg h48, h64]; rfl) | (rw [lowT, ← hgx, if_pos h48, h53]; rfl))) (by omega) (by omega)
      · refine v_lload X dX6_lowestTerms_16 4 rfl ?_
        refine v_lconst X dX6_lowestTerms_18 (v := lN 0) (by decide) ?_
        refine v_lcmp X dX6_lowestTerms_19 ?_
        refine v_ifLN_eq X dX6_lowestTerms_20 (tgt := 44) (by decide) (by omega) (by decide) (fun h20 => ?_) (fun h20 => ?_)
        · have hgx : vx = Nat.gcd w u := by first | (rw [← hq, show 100 - vi = 0 by omega, euF]) | (rw [← hq, h20]; cases (100 - vi) <;> simp [euF])
          have hg63 : Nat.gcd w u < 2 ^ 63 := by omega
          refine v_lload X dX6_lowestTerms_44 3 rfl ?_
          refine v_lconst X dX6_lowestTerms_46 (v := lN 0) (by decide) ?_
          refine v_lcmp X dX6_lowestTerms_47 ?_
          refine v_ifLN_ne X dX6_lowestTerms_48 (tgt := 62) (by decide) (by omega) (by decide) (fun h48 => ?_) (fun h48 => ?_)
          · refine v_iload X dX6_lowestTerms_62 2 rfl ?_
            refine v_ifB_eq X dX6_lowestTerms_64 (tgt := 74) (by decide) (fun h64 => ?_) (fun h64 => ?_)
            · refine v_lload_n X dX6_lowestTerms_74 rfl 0 rfl ?_
              refine v_lload X dX6_lowestTerms_75 3 rfl ?_
              refine v_ldiv X dX6_lowestTerms_77 (lN_ne0 hvx h48) ?_
              refine v_eql (x' := lN (u / vx)) (lN_div hu h48 hvx) ?_
              exact v_lret X Y dX6_lowestTerms_78 (roL_of (by first | (rw [lowT, ← hgx, if_neg h48, h64]; rfl) | (rw [lowT, ← hgx, if_pos h48, h53]; rfl))) (by omega) (by omega)
            · refine v_lload_n X dX6_lowestTerms_67 rfl 1 rfl ?_
              refine v_lload X dX6_lowestTerms_68 3 rfl ?_
              refine v_ldiv X dX6_lowestTerms_70 (lN_ne0 hvx h48) ?_
              refine v_eql (x' := lN (w / vx)) (lN_div hw h48 hvx) ?_
              refine v_goto X dX6_lowestTerms_71 (tgt := 78) (by decide) ?_
              exact v_lret X Y dX6_lowestTerms_78 (roL_of (by first | (rw [lowT, ← hgx, if_neg h48, h64]; rfl) | (rw [lowT, ← hgx, if_pos h48, h53]; rfl))) (by omega) (by omega)
          · refine v_iload X dX6_lowestTerms_51 2 rfl ?_
            refine v_ifB_eq X dX6_lowestTerms_53 (tgt := 60) (by decide) (fun h53 => ?_) (fun h53 => ?_)
            · refine v_lconst X dX6_lowestTerms_60 (v := lN 0) (by decide) ?_
              exact v_lret X Y dX6_lowestTerms_61 (roL_of (by first | (rw [lowT, ← hgx, if_neg h48, h64]; rfl) | (rw [lowT, ← hgx, if_pos h48, h53]; rfl))) (by omega) (by omega)
            · refine v_lconst X dX6_lowestTerms_56 (v := lN 1) (by decide) ?_
              refine v_goto X dX6_lowestTerms_57 (tgt := 61) (by decide) ?_
              exact v_lret X Y dX6_lowestTerms_61 (roL_of (by first | (rw [lowT, ← hgx, if_neg h48, h64]; rfl) | (rw [lowT, ← hgx, if_pos h48, h53]; rfl))) (by omega) (by omega)
        · refine v_lload X dX6_lowestTerms_23 3 rfl ?_
          refine v_lload X dX6_lowestTerms_25 4 rfl ?_
          refine v_lrem X dX6_lowestTerms_27 (lN_ne0 hvy h20) ?_
          refine v_eql (x' := lN (vx % vy)) (lN_rem hvx h20 hvy) ?_
          refine v_lstore X dX6_lowestTerms_28 (by decide) (lv' := [(10, .long (lN (vx % vy))), (0, .long (lN u)), (2, .long (lN w)), (4, .int (nI (b).toNat)), (5, .long (lN vx)), (7, .long (lN vy)), (9, .int (nI vi))]) rfl ?_
          refine v_lload X dX6_lowestTerms_30 5 rfl ?_
          refine v_lstore X dX6_lowestTerms_32 (by decide) (lv' := [(5, .long (lN vy)), (10, .long (lN (vx % vy))), (0, .long (lN u)), (2, .long (lN w)), (4, .int (nI (b).toNat)), (7, .long (lN vy)), (9, .int (nI vi))]) rfl ?_
          refine v_lload X dX6_lowestTerms_34 1 rfl ?_
          refine v_lstore X dX6_lowestTerms_36 (by decide) (lv' := [(7, .long (lN (vx % vy))), (5, .long (lN vy)), (10, .long (lN (vx % vy))), (0, .long (lN u)), (2, .long (lN w)), (4, .int (nI (b).toNat)), (9, .int (nI vi))]) rfl ?_
          refine v_iinc X dX6_lowestTerms_38 6 rfl (v := nI (vi + 1)) (nI_inc vi) (by decide) (lv' := [(9, .int (nI (vi + 1))), (7, .long (lN (vx % vy))), (5, .long (lN vy)), (10, .long (lN (vx % vy))), (0, .long (lN u)), (2, .long (lN w)), (4, .int (nI (b).toNat))]) rfl ?_
          refine v_goto X dX6_lowestTerms_41 (tgt := 9) (by decide) ?_
          refine V.lvs [4, 5, 6, 2, 1, 0] rfl ?_
          exact ih9 (vi + 1) vy (vx % vy) (⟨by omega, hvy, Nat.lt_of_le_of_lt (Nat.mod_le _ _) hvx, by rw [← hq, show 100 - vi = (100 - (vi + 1)) + 1 by omega, euF, if_neg h20]⟩) (by omega)
  refine V.lvs [3, 4, 5, 2, 1, 0] rfl ?_
  exact L9 _ 0 w u (⟨by omega, hw, hu, euF_100 hu⟩) (Nat.lt_succ_self _)
set_option maxRecDepth 100000 in
set_option maxHeartbeats 4000000 in
theorem c_X6_gain (l : Launch) (E : Et) (ch : Nat) (s : Bool) (r : Bool) (o : Bool)  : Ct l E yX6_gain cX6_gain 4 (some .int) 0 0 0 [.int (nI ch), .int (nI (s).toNat), .int (nI (r).toNat), .int (nI (o).toNat)] [] (roI [] (gainI ch s r o)) := by
  refine Ct.intro (by decide +kernel) (Nat.le_of_ble_eq_true rfl) (lv := [(0, .int (nI ch)), (1, .int (nI (s).toNat)), (2, .int (nI (r).toNat)), (3, .int (nI (o).toNat))]) rfl ?_
  intro Z X Y
  refine v_iload_n X dX6_gain_0 rfl 1 rfl ?_
  refine v_ifB_eq X dX6_gain_1 (tgt := 19) (by decide) (fun h1 => ?_) (fun h1 => ?_)
  · refine v_iload_n X dX6_gain_19 rfl 1 rfl ?_
    refine v_ifB_eq X dX6_gain_20 (tgt := 33) (by decide) (fun h20 => ?_) (fun h20 => ?_)
    · refine v_iload_n X dX6_gain_33 rfl 2 rfl ?_
      refine v_ifB_eq X dX6_gain_34 (tgt := 41) (by decide) (fun h34 => ?_) (fun h34 => ?_)
      · refine v_iconst X dX6_gain_41 (v := nI 2) (by decide) ?_
        exact v_iret X Y dX6_gain_42 (roI_of (by simp_all [gainI]; try rfl)) (by omega) (by omega)
      · refine v_iconst X dX6_gain_37 (v := nI 1) (by decide) ?_
        refine v_goto X dX6_gain_38 (tgt := 42) (by decide) ?_
        exact v_iret X Y dX6_gain_42 (roI_of (by simp_all [gainI]; try rfl)) (by omega) (by omega)
    · refine v_iload_n X dX6_gain_23 rfl 3 rfl ?_
      refine v_ifB_eq X dX6_gain_24 (tgt := 31) (by decide) (fun h24 => ?_) (fun h24 => ?_)
      · refine v_iconst X dX6_gain_31 (v := nI 4) (by decide) ?_
        exact v_iret X Y dX6_gain_32 (roI_of (by simp_all [gainI]; try rfl)) (by omega) (by omega)
      · refine v_iconst X dX6_gain_27 (v := nI 0) (by decide) ?_
        refine v_goto X dX6_gain_28 (tgt := 32) (by decide) ?_
        exact v_iret X Y dX6_gain_32 (roI_of (by simp_all [gainI]; try rfl)) (by omega) (by omega)
  · refine v_iload_n X dX6_gain_4 rfl 2 rfl ?_
    refine v_ifB_eq X dX6_gain_5 (tgt := 19) (by decide) (fun h5 => ?_) (fun h5 => ?_)
    · refine v_iload_n X dX6_gain_19 rfl 1 rfl ?_
      refine v_ifB_eq X dX6_gain_20 (tgt := 33) (by decide) (fun h20 => ?_) (fun h20 => ?_)
      · refine v_iload_n X dX6_gain_33 rfl 2 rfl ?_
        refine v_ifB_eq X dX6_gain_34 (tgt := 41) (by decide) (fun h34 => ?_) (fun h34 => ?_)
        · refine v_iconst X dX6_gain_41 (v := nI 2) (by decide) ?_
          exact v_iret X Y dX6_gain_42 (roI_of (by simp_all [gainI]; try rfl)) (by omega) (by omega)
        · refine v_iconst X dX6_gain_37 (v := nI 1) (by decide) ?_
          refine v_goto X dX6_gain_38 (tgt := 42) (by decide) ?_
          exact v_iret X Y dX6_gain_42 (roI_of (by simp_all [gainI]; try rfl)) (by omega) (by omega)
      · refine v_iload_n X dX6_gain_23 rfl 3 rfl ?_
        refine v_ifB_eq X dX6_gain_24 (tgt := 31) (by decide) (fun h24 => ?_) (fun h24 => ?_)
        · refine v_iconst X dX6_gain_31 (v := nI 4) (by decide) ?_
          exact v_iret X Y dX6_gain_32 (roI_of (by simp_all [gainI]; try rfl)) (by omega) (by omega)
        · refine v_iconst X dX6_gain_27 (v := nI 0) (by decide) ?_
          refine v_goto X dX6_gain_28 (tgt := 32) (by decide) ?_
          exact v_iret X Y dX6_gain_32 (roI_of (by simp_all [gainI]; try rfl)) (by omega) (by omega)
    · refine v_iload_n X dX6_gain_8 rfl 3 rfl ?_
      refine v_ifB_eq X dX6_gain_9 (tgt := 16) (by decide) (fun h9 => ?_) (fun h9 => ?_)
      · refine v_iload_n X dX6_gain_16 rfl 0 rfl ?_
        refine v_ineg X dX6_gain_17 ?_
        exact v_iret X Y dX6_gain_18 (roI_of (by simp_all [gainI]; try rfl)) (by omega) (by omega)
      · refine v_iconst X dX6_gain_12 (v := nI 3) (by decide) ?_
        refine v_goto X dX6_gain_13 (tgt := 18) (by decide) ?_
        exact v_iret X Y dX6_gain_18 (roI_of (by simp_all [gainI]; try rfl)) (by omega) (by omega)
set_option maxRecDepth 100000 in
set_option maxHeartbeats 4000000 in
theorem c_X6_shavesIn (l : Launch) (E : Et) (pa : Nat) (hpa : pa < 4) : Ct l E yX6_shavesIn cX6_shavesIn 1 (some .boolean) 0 0 0 [.int (nI pa)] [] (roI [] (nI (decide (2 ≤ pa)).toNat)) := by
  refine Ct.intro (by decide +kernel) (Nat.le_of_ble_eq_true rfl) (lv := [(0, .int (nI pa))]) rfl ?_
  intro Z X Y
  refine v_iload_n X dX6_shavesIn_0 rfl 0 rfl ?_
  refine v_iconst X dX6_shavesIn_1 (v := nI 2) (by decide) ?_
  refine v_icmpN_lt X dX6_shavesIn_2 (tgt := 9) (by decide) (by omega) (by decide) (fun h2 => ?_) (fun h2 => ?_)
  · refine v_iconst X dX6_shavesIn_9 (v := nI 0) (by decide) ?_
    exact v_zret X Y dX6_shavesIn_10 (by decide) (roI_of (by first | exact bo1 (decide_eq_true (by omega)) | exact bo0 (decide_eq_false (by omega)))) (by omega) (by omega)
  · refine v_iconst X dX6_shavesIn_5 (v := nI 1) (by decide) ?_
    refine v_goto X dX6_shavesIn_6 (tgt := 10) (by decide) ?_
    exact v_zret X Y dX6_shavesIn_10 (by decide) (roI_of (by first | exact bo1 (decide_eq_true (by omega)) | exact bo0 (decide_eq_false (by omega)))) (by omega) (by omega)
set_option maxRecDepth 100000 in
set_option maxHeartbeats 4000000 in
theorem c_X6_readIn (l : Launch) (E : Et) (pa : Nat) (hpa : pa < 4) : Ct l E yX6_readIn cX6_readIn 1 (some .boolean) 0 0 0 [.int (nI pa)] [] (roI [] (nI (decide (¬ pa &&& 1 = 0)).toNat)) := by
  refine Ct.intro (by decide +kernel) (Nat.le_of_ble_eq_true rfl) (lv := [(0, .int (nI pa))]) rfl ?_
  intro Z X Y
  refine v_iload_n X dX6_readIn_0 rfl 0 rfl ?_
  refine v_iconst X dX6_readIn_1 (v := nI 1) (by decide) ?_
  refine v_iand X dX6_readIn_2 ?_
  refine v_eqi (x' := nI (pa &&& 1)) (fa_and _ _) ?_
  refine v_ifN_eq X dX6_readIn_3 (tgt := 10) (by decide) (Nat.lt_of_le_of_lt Nat.and_le_right (by decide)) (fun h3 => ?_) (fun h3 => ?_)
  · refine v_iconst X dX6_readIn_10 (v := nI 0) (by decide) ?_
    exact v_zret X Y dX6_readIn_11 (by decide) (roI_of (by simp_all)) (by omega) (by omega)
  · refine v_iconst X dX6_readIn_6 (v := nI 1) (by decide) ?_
    refine v_goto X dX6_readIn_7 (tgt := 11) (by decide) ?_
    exact v_zret X Y dX6_readIn_11 (by decide) (roI_of (by simp_all)) (by omega) (by omega)
set_option maxRecDepth 100000 in
set_option maxHeartbeats 4000000 in
theorem c_X6_isRest (l : Launch) (E : Et) (ch : Nat) (pa : Nat) (hpa : pa < 4) : Ct l E yX6_isRest cX6_isRest 4 (some .boolean) 1 0 0 [.int (nI ch), .int (nI pa)] [] (roI [] (nI (isRestB ch pa).toNat)) := by
  refine Ct.intro (by decide +kernel) (Nat.le_of_ble_eq_true rfl) (lv := [(0, .int (nI ch)), (1, .int (nI pa))]) rfl ?_
  intro Z X Y
  refine v_iload_n X dX6_isRest_0 rfl 1 rfl ?_
  refine v_roI1 X (rn_S X k_X6_shavesIn ml_X6_240 dX6_isRest_1 (c_X6_shavesIn l E pa (by first | assumption | omega)) rfl (by decide) (by decide) (by omega) (by omega) (Nat.le_of_ble_eq_true rfl)) [] rfl rfl ?_
  refine v_istore_n X dX6_isRest_4 rfl (by decide) (lv' := [(2, .int (nI (decide (2 ≤ pa)).toNat)), (0, .int (nI ch)), (1, .int (nI pa))]) rfl ?_
  refine v_iload_n X dX6_isRest_5 rfl 2 rfl ?_
  refine v_roI1 X (rn_S X k_X6_readIn ml_X6_243 dX6_isRest_6 (c_X6_readIn l E pa (by first | assumption | omega)) rfl (by decide) (by decide) (by omega) (by omega) (Nat.le_of_ble_eq_true rfl)) [] rfl rfl ?_
  refine v_istore_n X dX6_isRest_9 rfl (by decide) (lv' := [(3, .int (nI (decide (¬ pa &&& 1 = 0)).toNat)), (2, .int (nI (decide (2 ≤ pa)).toNat)), (0, .int (nI ch)), (1, .int (nI pa))]) rfl ?_
  refine v_iload_n X dX6_isRest_10 rfl 2 rfl ?_
  refine v_iload_n X dX6_isRest_11 rfl 1 rfl ?_
  refine v_iload_n X dX6_isRest_12 rfl 0 rfl ?_
  refine v_iconst X dX6_isRest_13 (v := nI 0) (by decide) ?_
  refine v_roI1 X (rn_S X k_X6_gain ml_X6_233 dX6_isRest_14 (c_X6_gain l E ch (decide (2 ≤ pa)) (decide (¬ pa &&& 1 = 0)) false ) rfl (by decide) (by decide) (by omega) (by omega) (Nat.le_of_ble_eq_true rfl)) [] rfl rfl ?_
  refine v_iload_n X dX6_isRest_17 rfl 2 rfl ?_
  refine v_iload_n X dX6_isRest_18 rfl 1 rfl ?_
  refine v_ifB_ne X dX6_isRest_19 (tgt := 26) (by decide) (fun h19 => ?_) (fun h19 => ?_)
  · refine v_iconst X dX6_isRest_26 (v := nI 0) (by decide) ?_
    refine v_iload_n X dX6_isRest_27 rfl 0 rfl ?_
    refine v_iconst X dX6_isRest_28 (v := nI 0) (by decide) ?_
    refine v_roI1 X (rn_S X k_X6_gain ml_X6_233 dX6_isRest_29 (c_X6_gain l E ch false (decide (¬ pa &&& 1 = 0)) false ) rfl (by decide) (by decide) (by omega) (by omega) (Nat.le_of_ble_eq_true rfl)) [] rfl rfl ?_
    refine v_icmp_lt X dX6_isRest_32 (tgt := 64) (by decide) (fun h32 => ?_) (fun h32 => ?_)
    · refine v_iconst X dX6_isRest_64 (v := nI 0) (by decide) ?_
      exact v_zret X Y dX6_isRest_65 (by decide) (roI_of (by rw [h19] at h32; (try rw [h19, h45] at h57); (try rw [h45] at h32); rw [isRestB, h19]; (try rw [h45]); first | exact bo1 (Bool.and_eq_true_iff.mpr ⟨decide_eq_true (Int32.not_lt.mp h32), decide_eq_true (Int32.not_lt.mp h57)⟩) | exact bo0 (Bool.and_eq_false_iff.mpr (Or.inl (decide_eq_false (Int32.not_le.mpr h32)))) | exact bo0 (Bool.and_eq_false_iff.mpr (Or.inr (decide_eq_false (Int32.not_le.mpr h57)))))) (by omega) (by omega)
    · refine v_iload_n X dX6_isRest_35 rfl 2 rfl ?_
      refine v_iload_n X dX6_isRest_36 rfl 1 rfl ?_
      refine v_iload_n X dX6_isRest_37 rfl 0 rfl ?_
      refine v_iconst X dX6_isRest_38 (v := nI 1) (by decide) ?_
      refine v_roI1 X (rn_S X k_X6_gain ml_X6_233 dX6_isRest_39 (c_X6_gain l E ch (decide (2 ≤ pa)) (decide (¬ pa &&& 1 = 0)) true ) rfl (by decide) (by decide) (by omega) (by omega) (Nat.le_of_ble_eq_true rfl)) [] rfl rfl ?_
      refine v_iload_n X dX6_isRest_42 rfl 2 rfl ?_
      refine v_iload_n X dX6_isRest_43 rfl 1 rfl ?_
      refine v_iload_n X dX6_isRest_44 rfl 0 rfl ?_
      refine v_ifB_ne X dX6_isRest_45 (tgt := 52) (by decide) (fun h45 => ?_) (fun h45 => ?_)
      · refine v_iconst X dX6_isRest_52 (v := nI 0) (by decide) ?_
        refine v_iconst X dX6_isRest_53 (v := nI 1) (by decide) ?_
        refine v_roI1 X (rn_S X k_X6_gain ml_X6_233 dX6_isRest_54 (c_X6_gain l E ch (decide (2 ≤ pa)) false true ) rfl (by decide) (by decide) (by omega) (by omega) (Nat.le_of_ble_eq_true rfl)) [] rfl rfl ?_
        refine v_icmp_lt X dX6_isRest_57 (tgt := 64) (by decide) (fun h57 => ?_) (fun h57 => ?_)
        · refine v_iconst X dX6_isRest_64 (v := nI 0) (by decide) ?_
          exact v_zret X Y dX6_isRest_65 (by decide) (roI_of (by rw [h19] at h32; (try rw [h19, h45] at h57); (try rw [h45] at h32); rw [isRestB, h19]; (try rw [h45]); first | exact bo1 (Bool.and_eq_true_iff.mpr ⟨decide_eq_true (Int32.not_lt.mp h32), decide_eq_true (Int32.not_lt.mp h57)⟩) | exact bo0 (Bool.and_eq_false_iff.mpr (Or.inl (decide_eq_false (Int32.not_le.mpr h32)))) | exact bo0 (Bool.and_eq_false_iff.mpr (Or.inr (decide_eq_false (Int32.not_le.mpr h57)))))) (by omega) (by omega)
        · refine v_iconst X dX6_isRest_60 (v := nI 1) (by decide) ?_
          refine v_goto X dX6_isRest_61 (tgt := 65) (by decide) ?_
          exact v_zret X Y dX6_isRest_65 (by decide) (roI_of (by rw [h19] at h32; (try rw [h19, h45] at h57); (try rw [h45] at h32); rw [isRestB, h19]; (try rw [h45]); first | exact bo1 (Bool.and_eq_true_iff.mpr ⟨decide_eq_true (Int32.not_lt.mp h32), decide_eq_true (Int32.not_lt.mp h57)⟩) | exact bo0 (Bool.and_eq_false_iff.mpr (Or.inl (decide_eq_false (Int32.not_le.mpr h32)))) | exact bo0 (Bool.and_eq_false_iff.mpr (Or.inr (decide_eq_false (Int32.not_le.mpr h57)))))) (by omega) (by omega)
      · refine v_iconst X dX6_isRest_48 (v := nI 1) (by decide) ?_
        refine v_goto X dX6_isRest_49 (tgt := 53) (by decide) ?_
        refine v_iconst X dX6_isRest_53 (v := nI 1) (by decide) ?_
        refine v_roI1 X (rn_S X k_X6_gain ml_X6_233 dX6_isRest_54 (c_X6_gain l E ch (decide (2 ≤ pa)) true true ) rfl (by decide) (by decide) (by omega) (by omega) (Nat.le_of_ble_eq_true rfl)) [] rfl rfl ?_
        refine v_icmp_lt X dX6_isRest_57 (tgt := 64) (by decide) (fun h57 => ?_) (fun h57 => ?_)
        · refine v_iconst X dX6_isRest_64 (v := nI 0) (by decide) ?_
          exact v_zret X Y dX6_isRest_65 (by decide) (roI_of (by rw [h19] at h32; (try rw [h19, h45] at h57); (try rw [h45] at h32); rw [isRestB, h19]; (try rw [h45]); first | exact bo1 (Bool.and_eq_true_iff.mpr ⟨decide_eq_true (Int32.not_lt.mp h32), decide_eq_true (Int32.not_lt.mp h57)⟩) | exact bo0 (Bool.and_eq_false_iff.mpr (Or.inl (decide_eq_false (Int32.not_le.mpr h32)))) | exact bo0 (Bool.and_eq_false_iff.mpr (Or.inr (decide_eq_false (Int32.not_le.mpr h57)))))) (by omega) (by omega)
        · refine v_iconst X dX6_isRest_60 (v := nI 1) (by decide) ?_
          refine v_goto X dX6_isRest_61 (tgt := 65) (by decide) ?_
          exact v_zret X Y dX6_isRest_65 (by decide) (roI_of (by rw [h19] at h32; (try rw [h19, h45] at h57); (try rw [h45] at h32); rw [isRestB, h19]; (try rw [h45]); first | exact bo1 (Bool.and_eq_true_iff.mpr ⟨decide_eq_true (Int32.not_lt.mp h32), decide_eq_true (Int32.not_lt.mp h57)⟩) | exact bo0 (Bool.and_eq_false_iff.mpr (Or.inl (decide_eq_false (Int32.not_le.mpr h32)))) | exact bo0 (Bool.and_eq_false_iff.mpr (Or.inr (decide_eq_false (Int32.not_le.mpr h57)))))) (by omega) (by omega)
  · refine v_iconst X dX6_isRest_22 (v := nI 1) (by decide) ?_
    refine v_goto X dX6_isRest_23 (tgt := 27) (by decide) ?_
    refine v_iload_n X dX6_isRest_27 rfl 0 rfl ?_
    refine v_iconst X dX6_isRest_28 (v := nI 0) (by decide) ?_
    refine v_roI1 X (rn_S X k_X6_gain ml_X6_233 dX6_isRest_29 (c_X6_gain l E ch true (decide (¬ pa &&& 1 = 0)) false ) rfl (by decide) (by decide) (by omega) (by omega) (Nat.le_of_ble_eq_true rfl)) [] rfl rfl ?_
    refine v_icmp_lt X dX6_isRest_32 (tgt := 64) (by decide) (fun h32 => ?_) (fun h32 => ?_)
    · refine v_iconst X dX6_isRest_64 (v := nI 0) (by decide) ?_
      exact v_zret X Y dX6_isRest_65 (by decide) (roI_of (by rw [h19] at h32; (try rw [h19, h45] at h57); (try rw [h45] at h32); rw [isRestB, h19]; (try rw [h45]); first | exact bo1 (Bool.and_eq_true_iff.mpr ⟨decide_eq_true (Int32.not_lt.mp h32), decide_eq_true (Int32.not_lt.mp h57)⟩) | exact bo0 (Bool.and_eq_false_iff.mpr (Or.inl (decide_eq_false (Int32.not_le.mpr h32)))) | exact bo0 (Bool.and_eq_false_iff.mpr (Or.inr (decide_eq_false (Int32.not_le.mpr h57)))))) (by omega) (by omega)
    · refine v_iload_n X dX6_isRest_35 rfl 2 rfl ?_
      refine v_iload_n X dX6_isRest_36 rfl 1 rfl ?_
      refine v_iload_n X dX6_isRest_37 rfl 0 rfl ?_
      refine v_iconst X dX6_isRest_38 (v := nI 1) (by decide) ?_
      refine v_roI1 X (rn_S X k_X6_gain ml_X6_233 dX6_isRest_39 (c_X6_gain l E ch (decide (2 ≤ pa)) (decide (¬ pa &&& 1 = 0)) true ) rfl (by decide) (by decide) (by omega) (by omega) (Nat.le_of_ble_eq_true rfl)) [] rfl rfl ?_
      refine v_iload_n X dX6_isRest_42 rfl 2 rfl ?_
      refine v_iload_n X dX6_isRest_43 rfl 1 rfl ?_
      refine v_iload_n X dX6_isRest_44 rfl 0 rfl ?_
      refine v_ifB_ne X dX6_isRest_45 (tgt := 52) (by decide) (fun h45 => ?_) (fun h45 => ?_)
      · refine v_iconst X dX6_isRest_52 (v := nI 0) (by decide) ?_
        refine v_iconst X dX6_isRest_53 (v := nI 1) (by decide) ?_
        refine v_roI1 X (rn_S X k_X6_gain ml_X6_233 dX6_isRest_54 (c_X6_gain l E ch (decide (2 ≤ pa)) false true ) rfl (by decide) (by decide) (by omega) (by omega) (Nat.le_of_ble_eq_true rfl)) [] rfl rfl ?_
        refine v_icmp_lt X dX6_isRest_57 (tgt := 64) (by decide) (fun h57 => ?_) (fun h57 => ?_)
        · refine v_iconst X dX6_isRest_64 (v := nI 0) (by decide) ?_
          exact v_zret X Y dX6_isRest_65 (by decide) (roI_of (by rw [h19] at h32; (try rw [h19, h45] at h57); (try rw [h45] at h32); rw [isRestB, h19]; (try rw [h45]); first | exact bo1 (Bool.and_eq_true_iff.mpr ⟨decide_eq_true (Int32.not_lt.mp h32), decide_eq_true (Int32.not_lt.mp h57)⟩) | exact bo0 (Bool.and_eq_false_iff.mpr (Or.inl (decide_eq_false (Int32.not_le.mpr h32)))) | exact bo0 (Bool.and_eq_false_iff.mpr (Or.inr (decide_eq_false (Int32.not_le.mpr h57)))))) (by omega) (by omega)
        · refine v_iconst X dX6_isRest_60 (v := nI 1) (by decide) ?_
          refine v_goto X dX6_isRest_61 (tgt := 65) (by decide) ?_
          exact v_zret X Y dX6_isRest_65 (by decide) (roI_of (by rw [h19] at h32; (try rw [h19, h45] at h57); (try rw [h45] at h32); rw [isRestB, h19]; (try rw [h45]); first | exact bo1 (Bool.and_eq_true_iff.mpr ⟨decide_eq_true (Int32.not_lt.mp h32), decide_eq_true (Int32.not_lt.mp h57)⟩) | exact bo0 (Bool.and_eq_false_iff.mpr (Or.inl (decide_eq_false (Int32.not_le.mpr h32)))) | exact bo0 (Bool.and_eq_false_iff.mpr (Or.inr (decide_eq_false (Int32.not_le.mpr h57)))))) (by omega) (by omega)
      · refine v_iconst X dX6_isRest_48 (v := nI 1) (by decide) ?_
        refine v_goto X dX6_isRest_49 (tgt := 53) (by decide) ?_
        refine v_iconst X dX6_isRest_53 (v := nI 1) (by decide) ?_
        refine v_roI1 X (rn_S X k_X6_gain ml_X6_233 dX6_isRest_54 (c_X6_gain l E ch (decide (2 ≤ pa)) true true ) rfl (by decide) (by decide) (by omega) (by omega) (Nat.le_of_ble_eq_true rfl)) [] rfl rfl ?_
        refine v_icmp_lt X dX6_isRest_57 (tgt := 64) (by decide) (fun h57 => ?_) (fun h57 => ?_)
        · refine v_iconst X dX6_isRest_64 (v := nI 0) (by decide) ?_
          exact v_zret X Y dX6_isRest_65 (by decide) (roI_of (by rw [h19] at h32; (try rw [h19, h45] at h57); (try rw [h45] at h32); rw [isRestB, h19]; (try rw [h45]); first | exact bo1 (Bool.and_eq_true_iff.mpr ⟨decide_eq_true (Int32.not_lt.mp h32), decide_eq_true (Int32.not_lt.mp h57)⟩) | exact bo0 (Bool.and_eq_false_iff.mpr (Or.inl (decide_eq_false (Int32.not_le.mpr h32)))) | exact bo0 (Bool.and_eq_false_iff.mpr (Or.inr (decide_eq_false (Int32.not_le.mpr h57)))))) (by omega) (by omega)
        · refine v_iconst X dX6_isRest_60 (v := nI 1) (by decide) ?_
          refine v_goto X dX6_isRest_61 (tgt := 65) (by decide) ?_
          exact v_zret X Y dX6_isRest_65 (by decide) (roI_of (by rw [h19] at h32; (try rw [h19, h45] at h57); (try rw [h45] at h32); rw [isRestB, h19]; (try rw [h45]); first | exact bo1 (Bool.and_eq_true_iff.mpr ⟨decide_eq_true (Int32.not_lt.mp h32), decide_eq_true (Int32.not_lt.mp h57)⟩) | exact bo0 (Bool.and_eq_false_iff.mpr (Or.inl (decide_eq_false (Int32.not_le.mpr h32)))) | exact bo0 (Bool.and_eq_false_iff.mpr (Or.inr (decide_eq_false (Int32.not_le.mpr h57)))))) (by omega) (by omega)
set_option maxRecDepth 100000 in
set_option maxHeartbeats 4000000 in
theorem c_X1_fitting (l : Launch) (E : Et) (h : Nat) (hw : Nat) (wt : Nat → Nat) (hwt : ∀ s, wt s < 2 ^ 62) : Ct l E yX1_fitting cX1_fitting 4 (some .long) 0 0 0 [.ref h] [ob h 1 [.ref hw], aM E hw 32 wt] (roL [ob h 1 [.ref hw], aM E hw 32 wt] (lN (bbits (fun s => decide (0 < wt s)) 32))) := by
  refine Ct.intro (by decide +kernel) (Nat.le_of_ble_eq_true rfl) (lv := [(0, .ref h)]) rfl ?_
  intro Z X Y
  refine v_lconst X dX1_fitting_0 (v := lN 0) (by decide) ?_
  refine v_lstore_n X dX1_fitting_1 rfl (by decide) (lv' := [(1, .long (lN 0)), (0, .ref h)]) rfl ?_
  refine v_iconst X dX1_fitting_2 (v := nI 0) (by decide) ?_
  refine v_istore_n X dX1_fitting_3 rfl (by decide) (lv' := [(3, .int (nI 0)), (1, .long (lN 0)), (0, .ref h)]) rfl ?_
  have L4 : ∀ (j4 : Nat) (vk : Nat) (vs : Nat), (vk ≤ 32 ∧ vs = bbits (fun s => decide (0 < wt s)) vk) → 32 - vk < j4 → V E Z 4 [(0, .ref h), (1, .long (lN vs)), (3, .int (nI vk))] [] [ob h 1 [.ref hw], aM E hw 32 wt] 0 0 := by
    intro j4
    induction j4 with
    | zero => intro vk vs hI hM; exact absurd hM (Nat.not_lt_zero _)
    | succ j4 ih4 =>
      intro vk vs hI4 hM4
      obtain ⟨hc, hb⟩ := id hI4
      refine v_iload_n X dX1_fitting_4 rfl 2 rfl ?_
      refine v_aload_n X dX1_fitting_5 rfl 0 rfl ?_
      refine v_get X kcX1 fl_X1_9 dX1_fitting_6 0 rfl rfl ?_
      refine v_alen X dX1_fitting_9 1 1 rfl rfl (v := nI 32) rfl ?_
      refine v_icmpN_ge X dX1_fitting_10 (tgt := 36) (by decide) (by omega) (by decide) (fun h10 => ?_) (fun h10 => ?_)
      · refine v_lload_n X dX1_fitting_36 rfl 1 rfl ?_
        exact v_lret X Y dX1_fitting_37 (roL_of (by (obtain rfl : vk = 32 := (by omega)); rw [hb])) (by omega) (by omega)
      · refine v_aload_n X dX1_fitting_13 rfl 0 rfl ?_
        refine v_get X kcX1 fl_X1_9 dX1_fitting_14 0 rfl rfl ?_
        refine v_iload_n X dX1_fitting_17 rfl 2 rfl ?_
        refine v_lald X dX1_fitting_18 1 rfl (by omega) (by decide) ?_
        refine v_lconst X dX1_fitting_19 (v := lN 0) (by decide) ?_
        refine v_lcmp X dX1_fitting_20 ?_
        refine v_ifLN_le X dX1_fitting_21 (tgt := 30) (by decide) (Nat.lt_trans (hwt _) (by decide)) (by decide) (fun h21 => ?_) (fun h21 => ?_)
        · refine v_iinc X dX1_fitting_30 2 rfl (v := nI (vk + 1)) (nI_inc vk) (by decide) (lv' := [(3, .int (nI (vk + 1))), (0, .ref h), (1, .long (lN vs))]) rfl ?_
          refine v_goto X dX1_fitting_33 (tgt := 4) (by decide) ?_
          refine V.lvs [1, 2, 0] rfl ?_
          exact ih4 (vk + 1) vs (⟨by omega, by rw [hb]; first | exact (bbits_yes (decide_eq_true (by omega))).symm | exact (bbits_no (decide_eq_false (by omega))).symm⟩) (by omega)
        · refine v_lload_n X dX1_fitting_24 rfl 1 rfl ?_
          refine v_lconst X dX1_fitting_25 (v := lN 1) (by decide) ?_
          refine v_iload_n X dX1_fitting_26 rfl 2 rfl ?_
          refine v_lshl X dX1_fitting_27 (v := lN (2 ^ vk)) (lN_shl1 (by omega)) ?_
          refine v_lor X dX1_fitting_28 ?_
          refine v_eql (x' := lN (vs ||| (2 ^ vk))) (fb_orL _ _) ?_
          refine v_lstore_n X dX1_fitting_29 rfl (by decide) (lv' := [(1, .long (lN (vs ||| (2 ^ vk)))), (0, .ref h), (3, .int (nI vk))]) rfl ?_
          refine v_iinc X dX1_fitting_30 2 rfl (v := nI (vk + 1)) (nI_inc vk) (by decide) (lv' := [(3, .int (nI (vk + 1))), (1, .long (lN (vs ||| (2 ^ vk)))), (0, .ref h)]) rfl ?_
          refine v_goto X dX1_fitting_33 (tgt := 4) (by decide) ?_
          refine V.lvs [2, 1, 0] rfl ?_
          exact ih4 (vk + 1) (vs ||| (2 ^ vk)) (⟨by omega, by rw [hb]; first | exact (bbits_yes (decide_eq_true (by omega))).symm | exact (bbits_no (decide_eq_false (by omega))).symm⟩) (by omega)
  refine V.lvs [2, 1, 0] rfl ?_
  exact L4 _ 0 0 (⟨by omega, rfl⟩) (Nat.lt_succ_self _)
set_option maxRecDepth 100000 in
set_option maxHeartbeats 4000000 in
theorem c_X1_weightWith (l : Launch) (E : Et) (h : Nat) (hw : Nat) (wt : Nat → Nat) (tu : Nat) (htu : tu < 32) : Ct l E yX1_weightWith cX1_weightWith 5 (some .long) 0 0 0 [.ref h, .int (nI tu)] [ob h 1 [.ref hw], aM E hw 32 wt] (roL [ob h 1 [.ref hw], aM E hw 32 wt] (lN (fb_sm (fun s => if s &&& tu = tu then wt s else 0) 32))) := by
  refine Ct.intro (by decide +kernel) (Nat.le_of_ble_eq_true rfl) (lv := [(0, .ref h), (1, .int (nI tu))]) rfl ?_
  intro Z X Y
  refine v_lconst X dX1_weightWith_0 (v := lN 0) (by decide) ?_
  refine v_lstore_n X dX1_weightWith_1 rfl (by decide) (lv' := [(2, .long (lN 0)), (0, .ref h), (1, .int (nI tu))]) rfl ?_
  refine v_iconst X dX1_weightWith_2 (v := nI 0) (by decide) ?_
  refine v_istore X dX1_weightWith_3 (by decide) (lv' := [(4, .int (nI 0)), (2, .long (lN 0)), (0, .ref h), (1, .int (nI tu))]) rfl ?_
  have L5 : ∀ (j5 : Nat) (vk : Nat) (vs : Nat), (vk ≤ 32 ∧ vs = fb_sm (fun s => if s &&& tu = tu then wt s else 0) vk) → 32 - vk < j5 → V E Z 5 [(0, .ref h), (1, .int (nI tu)), (2, .long (lN vs)), (4, .int (nI vk))] [] [ob h 1 [.ref hw], aM E hw 32 wt] 0 0 := by
    intro j5
    induction j5 with
    | zero => intro vk vs hI hM; exact absurd hM (Nat.not_lt_zero _)
    | succ j5 ih5 =>
      intro vk vs hI5 hM5
      obtain ⟨hc, hb⟩ := id hI5
      refine v_iload X dX1_weightWith_5 3 rfl ?_
      refine v_aload_n X dX1_weightWith_7 rfl 0 rfl ?_
      refine v_get X kcX1 fl_X1_9 dX1_weightWith_8 0 rfl rfl ?_
      refine v_alen X dX1_weightWith_11 1 1 rfl rfl (v := nI 32) rfl ?_
      refine v_icmpN_ge X dX1_weightWith_12 (tgt := 39) (by decide) (by omega) (by decide) (fun h12 => ?_) (fun h12 => ?_)
      · refine v_lload_n X dX1_weightWith_39 rfl 2 rfl ?_
        exact v_lret X Y dX1_weightWith_40 (roL_of (by (obtain rfl : vk = 32 := (by omega)); rw [hb])) (by omega) (by omega)
      · refine v_iload X dX1_weightWith_15 3 rfl ?_
        refine v_iload_n X dX1_weightWith_17 rfl 1 rfl ?_
        refine v_iand X dX1_weightWith_18 ?_
        refine v_eqi (x' := nI (vk &&& tu)) (fa_and _ _) ?_
        refine v_iload_n X dX1_weightWith_19 rfl 1 rfl ?_
        refine v_icmpN_ne X dX1_weightWith_20 (tgt := 33) (by decide) (Nat.lt_of_le_of_lt Nat.and_le_right (by omega)) (by omega) (fun h20 => ?_) (fun h20 => ?_)
        · refine v_iinc X dX1_weightWith_33 3 rfl (v := nI (vk + 1)) (nI_inc vk) (by decide) (lv' := [(4, .int (nI (vk + 1))), (0, .ref h), (1, .int (nI tu)), (2, .long (lN vs))]) rfl ?_
          refine v_goto X dX1_weightWith_36 (tgt := 5) (by decide) ?_
          refine V.lvs [1, 2, 3, 0] rfl ?_
          exact ih5 (vk + 1) vs (⟨by omega, by rw [hb, fb_sm]; simp [h20]⟩) (by omega)
        · refine v_lload_n X dX1_weightWith_23 rfl 2 rfl ?_
          refine v_aload_n X dX1_weightWith_24 rfl 0 rfl ?_
          refine v_get X kcX1 fl_X1_9 dX1_weightWith_25 0 rfl rfl ?_
          refine v_iload X dX1_weightWith_28 3 rfl ?_
          refine v_lald X dX1_weightWith_30 1 rfl (by omega) (by decide) ?_
          refine v_ladd X dX1_weightWith_31 ?_
          refine v_eql (x' := lN (vs + (wt vk))) (lN_add _ _) ?_
          refine v_lstore_n X dX1_weightWith_32 rfl (by decide) (lv' := [(2, .long (lN (vs + (wt vk)))), (0, .ref h), (1, .int (nI tu)), (4, .int (nI vk))]) rfl ?_
          refine v_iinc X dX1_weightWith_33 3 rfl (v := nI (vk + 1)) (nI_inc vk) (by decide) (lv' := [(4, .int (nI (vk + 1))), (2, .long (lN (vs + (wt vk)))), (0, .ref h), (1, .int (nI tu))]) rfl ?_
          refine v_goto X dX1_weightWith_36 (tgt := 5) (by decide) ?_
          refine V.lvs [2, 3, 1, 0] rfl ?_
          exact ih5 (vk + 1) (vs + (wt vk)) (⟨by omega, by rw [hb, fb_sm]; simp [h20]⟩) (by omega)
  refine V.lvs [2, 3, 1, 0] rfl ?_
  exact L5 _ 0 0 (⟨by omega, rfl⟩) (Nat.lt_succ_self _)
set_option maxRecDepth 100000 in
set_option maxHeartbeats 4000000 in
theorem c_X1_likeliestSet (l : Launch) (E : Et) (h : Nat) (hw : Nat) (wt : Nat → Nat) (hwt : ∀ s, wt s < 2 ^ 62) : Ct l E yX1_likeliestSet cX1_likeliestSet 5 (some .int) 0 0 0 [.ref h] [ob h 1 [.ref hw], aM E hw 32 wt] (roI [ob h 1 [.ref hw], aM E hw 32 wt] ((likF wt 32).1)) := by
  refine Ct.intro (by decide +kernel) (Nat.le_of_ble_eq_true rfl) (lv := [(0, .ref h)]) rfl ?_
  intro Z X Y
  refine v_bipush X dX1_likeliestSet_0 (v := (-2)) (by decide) ?_
  refine v_istore_n X dX1_likeliestSet_2 rfl (by decide) (lv' := [(1, .int (-2)), (0, .ref h)]) rfl ?_
  refine v_lconst X dX1_likeliestSet_3 (v := lN 0) (by decide) ?_
  refine v_lstore_n X dX1_likeliestSet_4 rfl (by decide) (lv' := [(2, .long (lN 0)), (1, .int (-2)), (0, .ref h)]) rfl ?_
  refine v_iconst X dX1_likeliestSet_5 (v := nI 0) (by decide) ?_
  refine v_istore X dX1_likeliestSet_6 (by decide) (lv' := [(4, .int (nI 0)), (2, .long (lN 0)), (1, .int (-2)), (0, .ref h)]) rfl ?_
  have L8 : ∀ (j8 : Nat) (vk : Nat) (vb : Int32) (vm : Nat), (vk ≤ 32 ∧ vm < 2 ^ 62 ∧ (vb, vm) = likF wt vk) → 32 - vk < j8 → V E Z 8 [(0, .ref h), (1, .int vb), (2, .long (lN vm)), (4, .int (nI vk))] [] [ob h 1 [.ref hw], aM E hw 32 wt] 0 0 := by
    intro j8
    induction j8 with
    | zero => intro vk vb vm hI hM; exact absurd hM (Nat.not_lt_zero _)
    | succ j8 ih8 =>
      intro vk vb vm hI8 hM8
      obtain ⟨hc, hm, hb⟩ := id hI8
      refine v_iload X dX1_likeliestSet_8 3 rfl ?_
      refine v_aload_n X dX1_likeliestSet_10 rfl 0 rfl ?_
      refine v_get X kcX1 fl_X1_9 dX1_likeliestSet_11 0 rfl rfl ?_
      refine v_alen X dX1_likeliestSet_14 1 1 rfl rfl (v := nI 32) rfl ?_
      refine v_icmpN_ge X dX1_likeliestSet_15 (tgt := 47) (by decide) (by omega) (by decide) (fun h15 => ?_) (fun h15 => ?_)
      · refine v_iload_n X dX1_likeliestSet_47 rfl 1 rfl ?_
        exact v_iret X Y dX1_likeliestSet_48 (roI_of (by (obtain rfl : vk = 32 := (by omega)); rw [← hb])) (by omega) (by omega)
      · refine v_aload_n X dX1_likeliestSet_18 rfl 0 rfl ?_
        refine v_get X kcX1 fl_X1_9 dX1_likeliestSet_19 0 rfl rfl ?_
        refine v_iload X dX1_likeliestSet_22 3 rfl ?_
        refine v_lald X dX1_likeliestSet_24 1 rfl (by omega) (by decide) ?_
        refine v_lload_n X dX1_likeliestSet_25 rfl 2 rfl ?_
        refine v_lcmp X dX1_likeliestSet_26 ?_
        refine v_ifLN_le X dX1_likeliestSet_27 (tgt := 41) (by decide) (Nat.lt_trans (hwt _) (by decide)) (by omega) (fun h27 => ?_) (fun h27 => ?_)
        · refine v_iinc X dX1_likeliestSet_41 3 rfl (v := nI (vk + 1)) (nI_inc vk) (by decide) (lv' := [(4, .int (nI (vk + 1))), (0, .ref h), (1, .int vb), (2, .long (lN vm))]) rfl ?_
          refine v_goto X dX1_likeliestSet_44 (tgt := 8) (by decide) ?_
          refine V.lvs [1, 2, 3, 0] rfl ?_
          exact ih8 (vk + 1) vb vm (⟨by omega, by first | exact hwt _ | exact hm, by rw [likF_succ, ← hb]; first | rw [if_pos (show vm < wt vk by omega)] | rw [if_neg (show ¬ vm < wt vk by omega)]⟩) (by omega)
        · refine v_aload_n X dX1_likeliestSet_30 rfl 0 rfl ?_
          refine v_get X kcX1 fl_X1_9 dX1_likeliestSet_31 0 rfl rfl ?_
          refine v_iload X dX1_likeliestSet_34 3 rfl ?_
          refine v_lald X dX1_likeliestSet_36 1 rfl (by omega) (by decide) ?_
          refine v_lstore_n X dX1_likeliestSet_37 rfl (by decide) (lv' := [(2, .long (lN (wt vk))), (0, .ref h), (1, .int vb), (4, .int (nI vk))]) rfl ?_
          refine v_iload X dX1_likeliestSet_38 3 rfl ?_
          refine v_istore_n X dX1_likeliestSet_40 rfl (by decide) (lv' := [(1, .int (nI vk)), (2, .long (lN (wt vk))), (0, .ref h), (4, .int (nI vk))]) rfl ?_
          refine v_iinc X dX1_likeliestSet_41 3 rfl (v := nI (vk + 1)) (nI_inc vk) (by decide) (lv' := [(4, .int (nI (vk + 1))), (1, .int (nI vk)), (2, .long (lN (wt vk))), (0, .ref h)]) rfl ?_
          refine v_goto X dX1_likeliestSet_44 (tgt := 8) (by decide) ?_
          refine V.lvs [3, 1, 2, 0] rfl ?_
          exact ih8 (vk + 1) (nI vk) (wt vk) (⟨by omega, by first | exact hwt _ | exact hm, by rw [likF_succ, ← hb]; first | rw [if_pos (show vm < wt vk by omega)] | rw [if_neg (show ¬ vm < wt vk by omega)]⟩) (by omega)
  refine V.lvs [3, 2, 1, 0] rfl ?_
  exact L8 _ 0 (-2) 0 (⟨by omega, by decide, rfl⟩) (Nat.lt_succ_self _)
set_option maxRecDepth 100000 in
set_option maxHeartbeats 4000000 in
theorem c_X1_leftAtMost (l : Launch) (E : Et) (h : Nat) (hw : Nat) (wt : Nat → Nat) (q : Nat) (hwt : ∀ s, wt s < 2 ^ 62) (hq : q < 5) : Ct l E yX1_leftAtMost cX1_leftAtMost 5 (some .int) 1 0 0 [.ref h, .int (nI q)] [ob h 1 [.ref hw], aM E hw 32 wt] (roI [ob h 1 [.ref hw], aM E hw 32 wt] (nI (max (cnt (fun s => decide (0 < wt s) && s.testBit q) 32) (cnt (fun s => decide (0 < wt s) && !s.testBit q) 32)))) := by
  refine Ct.intro (by decide +kernel) (Nat.le_of_ble_eq_true rfl) (lv := [(0, .ref h), (1, .int (nI q))]) rfl ?_
  intro Z X Y
  refine v_iconst X dX1_leftAtMost_0 (v := nI 0) (by decide) ?_
  refine v_istore_n X dX1_leftAtMost_1 rfl (by decide) (lv' := [(2, .int (nI 0)), (0, .ref h), (1, .int (nI q))]) rfl ?_
  refine v_iconst X dX1_leftAtMost_2 (v := nI 0) (by decide) ?_
  refine v_istore_n X dX1_leftAtMost_3 rfl (by decide) (lv' := [(3, .int (nI 0)), (2, .int (nI 0)), (0, .ref h), (1, .int (nI q))]) rfl ?_
  refine v_iconst X dX1_leftAtMost_4 (v := nI 0) (by decide) ?_
  refine v_istore X dX1_leftAtMost_5 (by decide) (lv' := [(4, .int (nI 0)), (3, .int (nI 0)), (2, .int (nI 0)), (0, .ref h), (1, .int (nI q))]) rfl ?_
  have L7 : ∀ (j7 : Nat) (vk : Nat) (v1 : Nat) (v2 : Nat), (vk ≤ 32 ∧ v1 = cnt (fun s => decide (0 < wt s) && s.testBit q) vk ∧ v2 = cnt (fun s => decide (0 < wt s) && !s.testBit q) vk) → 32 - vk < j7 → V E Z 7 [(0, .ref h), (1, .int (nI q)), (2, .int (nI v1)), (3, .int (nI v2)), (4, .int (nI vk))] [] [ob h 1 [.ref hw], aM E hw 32 wt] 0 0 := by
    intro j7
    induction j7 with
    | zero => intro vk v1 v2 hI hM; exact absurd hM (Nat.not_lt_zero _)
    | succ j7 ih7 =>
      intro vk v1 v2 hI7 hM7
      obtain ⟨hc, h1, h2⟩ := id hI7
      refine v_iload X dX1_leftAtMost_7 4 rfl ?_
      refine v_aload_n X dX1_leftAtMost_9 rfl 0 rfl ?_
      refine v_get X kcX1 fl_X1_9 dX1_leftAtMost_10 0 rfl rfl ?_
      refine v_alen X dX1_leftAtMost_13 1 1 rfl rfl (v := nI 32) rfl ?_
      refine v_icmpN_ge X dX1_leftAtMost_14 (tgt := 66) (by decide) (by omega) (by decide) (fun h14 => ?_) (fun h14 => ?_)
      · refine v_iload_n X dX1_leftAtMost_66 rfl 2 rfl ?_
        refine v_iload_n X dX1_leftAtMost_67 rfl 3 rfl ?_
        refine v_max X ml_X1_43 mw_max1 mw_max2 mw_max3 dX1_leftAtMost_68 (by decide) (by omega) (by omega) (Nat.le_of_ble_eq_true rfl) ?_
        refine v_eqi (x' := nI (max v1 v2)) (maxN (by have := cnt_le (fun s => decide (0 < wt s) && s.testBit q) vk; omega) (by have := cnt_le (fun s => decide (0 < wt s) && !s.testBit q) vk; omega)) ?_
        exact v_iret X Y dX1_leftAtMost_71 (roI_of (by (obtain rfl : vk = 32 := (by omega)); rw [h1, h2])) (by omega) (by omega)
      · refine v_aload_n X dX1_leftAtMost_17 rfl 0 rfl ?_
        refine v_get X kcX1 fl_X1_9 dX1_leftAtMost_18 0 rfl rfl ?_
        refine v_iload X dX1_leftAtMost_21 4 rfl ?_
        refine v_lald X dX1_leftAtMost_23 1 rfl (by omega) (by decide) ?_
        refine v_lconst X dX1_leftAtMost_24 (v := lN 0) (by decide) ?_
        refine v_lcmp X dX1_leftAtMost_25 ?_
        refine v_ifLN_le X dX1_leftAtMost_26 (tgt := 45) (by decide) (Nat.lt_trans (hwt _) (by decide)) (by decide) (fun h26 => ?_) (fun h26 => ?_)
        · refine v_aload_n X dX1_leftAtMost_45 rfl 0 rfl ?_
          refine v_get X kcX1 fl_X1_9 dX1_leftAtMost_46 0 rfl rfl ?_
          refine v_iload X dX1_leftAtMost_49 4 rfl ?_
          refine v_lald X dX1_leftAtMost_51 1 rfl (by omega) (by decide) ?_
          refine v_lconst X dX1_leftAtMost_52 (v := lN 0) (by decide) ?_
          refine v_lcmp X dX1_leftAtMost_53 ?_
          refine v_ifLN_le X dX1_leftAtMost_54 (tgt := 60) (by decide) (Nat.lt_trans (hwt _) (by decide)) (by decide) (fun h54 => ?_) (fun h54 => ?_)
          · refine v_iinc X dX1_leftAtMost_60 4 rfl (v := nI (vk + 1)) (nI_inc vk) (by decide) (lv' := [(4, .int (nI (vk + 1))), (0, .ref h), (1, .int (nI q)), (2, .int (nI v1)), (3, .int (nI v2))]) rfl ?_
            refine v_goto X dX1_leftAtMost_63 (tgt := 7) (by decide) ?_
            refine V.lvs [1, 2, 3, 4, 0] rfl ?_
            exact ih7 (vk + 1) v1 v2 (⟨by omega, by first | (exfalso; omega) | (rw [h1, cnt]; simp [Nat.le_zero.mp h26]) | (rw [h1, cnt]; simp [Nat.not_le.mp h26, h36]), by first | (exfalso; omega) | (rw [h2, cnt]; simp [Nat.le_zero.mp h26]) | (rw [h2, cnt]; simp [Nat.not_le.mp h26, h36])⟩) (by omega)
          · refine v_iinc X dX1_leftAtMost_57 3 rfl (v := nI (v2 + 1)) (nI_inc v2) (by decide) (lv' := [(3, .int (nI (v2 + 1))), (0, .ref h), (1, .int (nI q)), (2, .int (nI v1)), (4, .int (nI vk))]) rfl ?_
            refine v_iinc X dX1_leftAtMost_60 4 rfl (v := nI (vk + 1)) (nI_inc vk) (by decide) (lv' := [(4, .int (nI (vk + 1))), (3, .int (nI (v2 + 1))), (0, .ref h), (1, .int (nI q)), (2, .int (nI v1))]) rfl ?_
            refine v_goto X dX1_leftAtMost_63 (tgt := 7) (by decide) ?_
            refine V.lvs [2, 3, 4, 1, 0] rfl ?_
            exact ih7 (vk + 1) v1 (v2 + 1) (⟨by omega, by first | (exfalso; omega) | (rw [h1, cnt]; simp [Nat.le_zero.mp h26]) | (rw [h1, cnt]; simp [Nat.not_le.mp h26, h36]), by first | (exfalso; omega) | (rw [h2, cnt]; simp [Nat.le_zero.mp h26]) | (rw [h2, cnt]; simp [Nat.not_le.mp h26, h36])⟩) (by omega)
        · refine v_iload X dX1_leftAtMost_29 4 rfl ?_
          refine v_i2l X dX1_leftAtMost_31 (v := lN vk) (nI_l (by omega)) ?_
          refine v_iload_n X dX1_leftAtMost_32 rfl 1 rfl ?_
          refine v_roI1 X (rn_SN X k_X6_isIn ml_X1_39 dX1_leftAtMost_33 (c_X6_isIn l E vk q (by omega) (by omega)) rfl (by decide) (by decide) (by omega) (by omega) (Nat.le_of_ble_eq_true rfl)) [] rfl rfl ?_
          refine v_ifB_eq X dX1_leftAtMost_36 (tgt := 45) (by decide) (fun h36 => ?_) (fun h36 => ?_)
          · refine v_aload_n X dX1_leftAtMost_45 rfl 0 rfl ?_
            refine v_get X kcX1 fl_X1_9 dX1_leftAtMost_46 0 rfl rfl ?_
            refine v_iload X dX1_leftAtMost_49 4 rfl ?_
            refine v_lald X dX1_leftAtMost_51 1 rfl (by omega) (by decide) ?_
            refine v_lconst X dX1_leftAtMost_52 (v := lN 0) (by decide) ?_
            refine v_lcmp X dX1_leftAtMost_53 ?_
            refine v_ifLN_le X dX1_leftAtMost_54 (tgt := 60) (by decide) (Nat.lt_trans (hwt _) (by decide)) (by decide) (fun h54 => ?_) (fun h54 => ?_)
            · refine v_iinc X dX1_leftAtMost_60 4 rfl (v := nI (vk + 1)) (nI_inc vk) (by decide) (lv' := [(4, .int (nI (vk + 1))), (0, .ref h), (1, .int (nI q)), (2, .int (nI v1)), (3, .int (nI v2))]) rfl ?_
              refine v_goto X dX1_leftAtMost_63 (tgt := 7) (by decide) ?_
              refine V.lvs [1, 2, 3, 4, 0] rfl ?_
              exact ih7 (vk + 1) v1 v2 (⟨by omega, by first | (exfalso; omega) | (rw [h1, cnt]; simp [Nat.le_zero.mp h26]) | (rw [h1, cnt]; simp [Nat.not_le.mp h26, h36]), by first | (exfalso; omega) | (rw [h2, cnt]; simp [Nat.le_zero.mp h26]) | (rw [h2, cnt]; simp [Nat.not_le.mp h26, h36])⟩) (by omega)
            · refine v_iinc X dX1_leftAtMost_57 3 rfl (v := nI (v2 + 1)) (nI_inc v2) (by decide) (lv' := [(3, .int (nI (v2 + 1))), (0, .ref h), (1, .int (nI q)), (2, .int (nI v1)), (4, .int (nI vk))]) rfl ?_
              refine v_iinc X dX1_leftAtMost_60 4 rfl (v := nI (vk + 1)) (nI_inc vk) (by decide) (lv' := [(4, .int (nI (vk + 1))), (3, .int (nI (v2 + 1))), (0, .ref h), (1, .int (nI q)), (2, .int (nI v1))]) rfl ?_
              refine v_goto X dX1_leftAtMost_63 (tgt := 7) (by decide) ?_
              refine V.lvs [2, 3, 4, 1, 0] rfl ?_
              exact ih7 (vk + 1) v1 (v2 + 1) (⟨by omega, by first | (exfalso; omega) | (rw [h1, cnt]; simp [Nat.le_zero.mp h26]) | (rw [h1, cnt]; simp [Nat.not_le.mp h26, h36]), by first | (exfalso; omega) | (rw [h2, cnt]; simp [Nat.le_zero.mp h26]) | (rw [h2, cnt]; simp [Nat.not_le.mp h26, h36])⟩) (by omega)
          · refine v_iinc X dX1_leftAtMost_39 2 rfl (v := nI (v1 + 1)) (nI_inc v1) (by decide) (lv' := [(2, .int (nI (v1 + 1))), (0, .ref h), (1, .int (nI q)), (3, .int (nI v2)), (4, .int (nI vk))]) rfl ?_
            refine v_goto X dX1_leftAtMost_42 (tgt := 60) (by decide) ?_
            refine v_iinc X dX1_leftAtMost_60 4 rfl (v := nI (vk + 1)) (nI_inc vk) (by decide) (lv' := [(4, .int (nI (vk + 1))), (2, .int (nI (v1 + 1))), (0, .ref h), (1, .int (nI q)), (3, .int (nI v2))]) rfl ?_
            refine v_goto X dX1_leftAtMost_63 (tgt := 7) (by decide) ?_
            refine V.lvs [2, 3, 1, 4, 0] rfl ?_
            exact ih7 (vk + 1) (v1 + 1) v2 (⟨by omega, by first | (exfalso; omega) | (rw [h1, cnt]; simp [Nat.le_zero.mp h26]) | (rw [h1, cnt]; simp [Nat.not_le.mp h26, h36]), by first | (exfalso; omega) | (rw [h2, cnt]; simp [Nat.le_zero.mp h26]) | (rw [h2, cnt]; simp [Nat.not_le.mp h26, h36])⟩) (by omega)
  refine V.lvs [3, 4, 2, 1, 0] rfl ?_
  exact L7 _ 0 0 0 (⟨by omega, rfl, rfl⟩) (Nat.lt_succ_self _)
set_option maxRecDepth 100000 in
set_option maxHeartbeats 4000000 in
theorem c_X1_weightOf (l : Launch) (E : Et) (h : Nat) (cy : Nat → Nat) (ca : Nat → Nat) (Fs : Nat → Nat) (Ft : Nat → Nat) (dm : Nat → Nat) (dy : Nat → Nat) (ds : Nat → Nat) (dk : Nat → Bool) (h2 : Nat) (hi2 : Nat) (hm2 : Nat) (t2 : Nat) (dd2 : Nat) (ink2 : Nat → Nat) (mn2 : Nat → Int32) (tu : Nat) (hd : cy 4 ≤ 6) (hcl : cy 5 ≤ 8) (hdd : cy 7 ≤ 6) (hsl : cy 1 ≤ 100) (hdy : ∀ i, i < cy 7 → dy i ≤ 40) (hds : ∀ i, i < cy 7 → ds i < 64) (hink2 : ∀ c, ink2 c ≤ 40) (htu : tu < 2 ^ 31) : Ct l E yX1_weightOf cX1_weightOf 6 (some .long) 4 0 0 [.ref h, .ref h2, .int (nI tu)] [ob h 0 [.int (nI (cy 0)), .int (nI (cy 1)), .int (nI (cy 2)), .int (nI (cy 3)), .int (nI (cy 4)), .int (nI (cy 5)), .int (nI (cy 6)), .int (nI (cy 7)), .ref (ca 0), .ref (ca 1), .ref (ca 2), .ref (ca 3), .ref (ca 4), .ref (ca 5), .ref (ca 6), .ref (ca 7), .ref (ca 8), .ref (ca 9), .ref (ca 10), .ref (ca 11)], aM E (ca 5) 8 Fs, aM E (ca 6) 8 Ft, aN E (ca 8) 6 dm, aN E (ca 9) 6 dy, aN E (ca 10) 6 ds, aZ E (ca 11) 6 dk, ob h2 2 [.ref hi2, .ref hm2, .int (nI t2), .int (nI dd2)], aN E hi2 8 ink2, aI E hm2 8 mn2] (roL [ob h 0 [.int (nI (cy 0)), .int (nI (cy 1)), .int (nI (cy 2)), .int (nI (cy 3)), .int (nI (cy 4)), .int (nI (cy 5)), .int (nI (cy 6)), .int (nI (cy 7)), .ref (ca 0), .ref (ca 1), .ref (ca 2), .ref (ca 3), .ref (ca 4), .ref (ca 5), .ref (ca 6), .ref (ca 7), .ref (ca 8), .ref (ca 9), .ref (ca 10), .ref (ca 11)], aM E (ca 5) 8 Fs, aM E (ca 6) 8 Ft, aN E (ca 8) 6 dm, aN E (ca 9) 6 dy, aN E (ca 10) 6 ds, aZ E (ca 11) 6 dk, ob h2 2 [.ref hi2, .ref hm2, .int (nI t2), .int (nI dd2)], aN E hi2 8 ink2, aI E hm2 8 mn2] (lN (wF (cy 1) (fun i => dk i == (skF Fs Ft (bbits (fun c => decide (dy i < ink2 c)) 8 &&& bbits (fun c => decide (mn2 c = nI (dm i))) 8) tu (allS (cy 4)) (cy 5)).testBit (ds i)) (cy 7)))) := by
  refine Ct.intro (by decide +kernel) (Nat.le_of_ble_eq_true rfl) (lv := [(0, .ref h), (1, .ref h2), (2, .int (nI tu))]) rfl ?_
  intro Z X Y
  refine v_lconst X dX1_weightOf_0 (v := lN 1) (by decide) ?_
  refine v_lstore_n X dX1_weightOf_1 rfl (by decide) (lv' := [(3, .long (lN 1)), (0, .ref h), (1, .ref h2), (2, .int (nI tu))]) rfl ?_
  refine v_iconst X dX1_weightOf_2 (v := nI 0) (by decide) ?_
  refine v_istore X dX1_weightOf_3 (by decide) (lv' := [(5, .int (nI 0)), (3, .long (lN 1)), (0, .ref h), (1, .ref h2), (2, .int (nI tu))]) rfl ?_
  have L5 : ∀ (j5 : Nat) (vi : Nat) (vp : Nat), (vi ≤ cy 7 ∧ vp = wF (cy 1) (fun i => dk i == (skF Fs Ft (bbits (fun c => decide (dy i < ink2 c)) 8 &&& bbits (fun c => decide (mn2 c = nI (dm i))) 8) tu (allS (cy 4)) (cy 5)).testBit (ds i)) vi) → cy 7 - vi < j5 → V E Z 5 [(0, .ref h), (1, .ref h2), (2, .int (nI tu)), (3, .long (lN vp)), (5, .int (nI vi))] [] [ob h 0 [.int (nI (cy 0)), .int (nI (cy 1)), .int (nI (cy 2)), .int (nI (cy 3)), .int (nI (cy 4)), .int (nI (cy 5)), .int (nI (cy 6)), .int (nI (cy 7)), .ref (ca 0), .ref (ca 1), .ref (ca 2), .ref (ca 3), .ref (ca 4), .ref (ca 5), .ref (ca 6), .ref (ca 7), .ref (ca 8), .ref (ca 9), .ref (ca 10), .ref (ca 11)], aM E (ca 5) 8 Fs, aM E (ca 6) 8 Ft, aN E (ca 8) 6 dm, aN E (ca 9) 6 dy, aN E (ca 10) 6 ds, aZ E (ca 11) 6 dk, ob h2 2 [.ref hi2, .ref hm2, .int (nI t2), .int (nI dd2)], aN E hi2 8 ink2, aI E hm2 8 mn2] 0 0 := by
    intro j5
    induction j5 with
    | zero => intro vi vp hI hM; exact absurd hM (Nat.not_lt_zero _)
    | succ j5 ih5 =>
      intro vi vp hI5 hM5
      obtain ⟨hc, hq⟩ := id hI5
      refine v_iload X dX1_weightOf_5 4 rfl ?_
      refine v_aload_n X dX1_weightOf_7 rfl 0 rfl ?_
      refine v_getN X kcX0 fl_X1_29 dX1_weightOf_8 0 rfl rfl ?_
      refine v_icmpN_ge X dX1_weightOf_11 (tgt := 50) (by decide) (by omega) (by omega) (fun h11 => ?_) (fun h11 => ?_)
      · refine v_lload_n X dX1_weightOf_50 rfl 3 rfl ?_
        exact v_lret X Y dX1_weightOf_51 (roL_of (by (obtain rfl : vi = cy 7 := (by omega)); rw [hq])) (by omega) (by omega)
      · refine v_lload_n X dX1_weightOf_14 rfl 3 rfl ?_
        refine v_aload_n X dX1_weightOf_15 rfl 0 rfl ?_
        refine v_iload X dX1_weightOf_16 4 rfl ?_
        refine v_aload_n X dX1_weightOf_18 rfl 1 rfl ?_
        refine v_iload_n X dX1_weightOf_19 rfl 2 rfl ?_
        refine v_roI1 X (rn_VN X k_X0_isToldTruly ml_X1_32 dX1_weightOf_20 (c_X0_isToldTruly l E h cy ca Fs Ft dm dy ds dk h2 hi2 hm2 t2 dd2 ink2 mn2 vi tu (by first | assumption | omega) (by first | assumption | omega) (by omega) (by first | assumption | omega) (by first | assumption | omega) (by first | assumption | omega) (by omega) (by first | assumption | omega)) rfl 0 rfl rfl (by decide) (by decide) (by omega) (by omega) (Nat.le_of_ble_eq_true rfl)) [0, 1, 2, 3, 4, 5, 6, 7, 8, 9] rfl rfl ?_
        refine v_ifB_eq X dX1_weightOf_23 (tgt := 37) (by decide) (fun h23 => ?_) (fun h23 => ?_)
        · refine v_aload_n X dX1_weightOf_37 rfl 0 rfl ?_
          refine v_getN X kcX0 fl_X1_36 dX1_weightOf_38 0 rfl rfl ?_
          refine v_i2l X dX1_weightOf_41 (v := lN (cy 1)) (nI_l (by omega)) ?_
          refine v_lmul X dX1_weightOf_42 ?_
          refine v_eql (x' := lN (vp * (cy 1))) (lN_mul _ _) ?_
          refine v_lstore_n X dX1_weightOf_43 rfl (by decide) (lv' := [(3, .long (lN (vp * (cy 1)))), (0, .ref h), (1, .ref h2), (2, .int (nI tu)), (5, .int (nI vi))]) rfl ?_
          refine v_iinc X dX1_weightOf_44 4 rfl (v := nI (vi + 1)) (nI_inc vi) (by decide) (lv' := [(5, .int (nI (vi + 1))), (3, .long (lN (vp * (cy 1)))), (0, .ref h), (1, .ref h2), (2, .int (nI tu))]) rfl ?_
          refine v_goto X dX1_weightOf_47 (tgt := 5) (by decide) ?_
          refine V.lvs [2, 3, 4, 1, 0] rfl ?_
          exact ih5 (vi + 1) (vp * (cy 1)) (⟨by omega, by rw [hq, wF]; simp [h23]⟩) (by omega)
        · refine v_bipush X dX1_weightOf_26 (v := nI 100) (by decide) ?_
          refine v_aload_n X dX1_weightOf_28 rfl 0 rfl ?_
          refine v_getN X kcX0 fl_X1_36 dX1_weightOf_29 0 rfl rfl ?_
          refine v_isub X dX1_weightOf_32 ?_
          refine v_eqi (x' := nI (100 - (cy 1))) (pk_sub (by omega)) ?_
          refine v_i2l X dX1_weightOf_33 (v := lN (100 - (cy 1))) (nI_l (by omega)) ?_
          refine v_goto X dX1_weightOf_34 (tgt := 42) (by decide) ?_
          refine v_lmul X dX1_weightOf_42 ?_
          refine v_eql (x' := lN (vp * (100 - (cy 1)))) (lN_mul _ _) ?_
          refine v_lstore_n X dX1_weightOf_43 rfl (by decide) (lv' := [(3, .long (lN (vp * (100 - (cy 1))))), (0, .ref h), (1, .ref h2), (2, .int (nI tu)), (5, .int (nI vi))]) rfl ?_
          refine v_iinc X dX1_weightOf_44 4 rfl (v := nI (vi + 1)) (nI_inc vi) (by decide) (lv' := [(5, .int (nI (vi + 1))), (3, .long (lN (vp * (100 - (cy 1))))), (0, .ref h), (1, .ref h2), (2, .int (nI tu))]) rfl ?_
          refine v_goto X dX1_weightOf_47 (tgt := 5) (by decide) ?_
          refine V.lvs [2, 3, 4, 1, 0] rfl ?_
          exact ih5 (vi + 1) (vp * (100 - (cy 1))) (⟨by omega, by rw [hq, wF]; simp [h23]⟩) (by omega)
  refine V.lvs [2, 3, 4, 1, 0] rfl ?_
  exact L5 _ 0 1 (⟨by omega, rfl⟩) (Nat.lt_succ_self _)
