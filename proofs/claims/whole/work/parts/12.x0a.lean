set_option maxRecDepth 100000 in
set_option maxHeartbeats 4000000 in
theorem c_X0_setsWith (l : Launch) (E : Et) (x : Int32)  : Ct l E yX0_setsWith cX0_setsWith 1 (some .long) 0 0 0 [.int x] [] (roL [] (lN (swI x))) := by
  refine Ct.intro (by decide +kernel) (Nat.le_of_ble_eq_true rfl) (lv := [(0, .int x)]) rfl ?_
  intro Z X Y
  refine v_iload_n X dX0_setsWith_0 rfl 0 rfl ?_
  refine v_if_lt X dX0_setsWith_1 (tgt := 20) (by decide) (fun h1 => ?_) (fun h1 => ?_)
  · refine v_lconst X dX0_setsWith_20 (v := lN 0) (by decide) ?_
    exact v_lret X Y dX0_setsWith_21 (roL_of (by first | rw [swI_n hj6] | rw [swI_lt0 h1] | rw [swI_ge6 h9])) (by omega) (by omega)
  · refine v_iload_n X dX0_setsWith_4 rfl 0 rfl ?_
    refine v_getSW X fl_X0_106 dX0_setsWith_5 ?_
    refine v_lenSW X dX0_setsWith_8 ?_
    refine v_icmp_ge X dX0_setsWith_9 (tgt := 20) (by decide) (fun h9 => ?_) (fun h9 => ?_)
    · refine v_lconst X dX0_setsWith_20 (v := lN 0) (by decide) ?_
      exact v_lret X Y dX0_setsWith_21 (roL_of (by first | rw [swI_n hj6] | rw [swI_lt0 h1] | rw [swI_ge6 h9])) (by omega) (by omega)
    · obtain ⟨jx, hjx, rfl⟩ := nI_of (x := x) h1
      have hj6 : jx < 6 := by (rcases Nat.lt_or_ge jx 6 with q | q); exact q; exact absurd (nI_le q hjx) h9
      refine v_getSW X fl_X0_106 dX0_setsWith_12 ?_
      refine v_iload_n X dX0_setsWith_15 rfl 0 rfl ?_
      refine v_ldSW X dX0_setsWith_16 (by omega) ?_
      refine v_eql (x' := lN (swT jx)) (swT_tab jx hj6) ?_
      refine v_goto X dX0_setsWith_17 (tgt := 21) (by decide) ?_
      exact v_lret X Y dX0_setsWith_21 (roL_of (by first | rw [swI_n hj6] | rw [swI_lt0 h1] | rw [swI_ge6 h9])) (by omega) (by omega)
set_option maxRecDepth 100000 in
set_option maxHeartbeats 4000000 in
theorem c_X0_straightOf (l : Launch) (E : Et) (fo : Nat) (a : Nat) (b : Nat) (hfo : fo ≤ 5) : Ct l E yX0_straightOf cX0_straightOf 5 (some .long) 0 0 0 [.int (nI fo), .long (lN a), .long (lN b)] [] (roL [] (lN (strN fo a b))) := by
  refine Ct.intro (by decide +kernel) (Nat.le_of_ble_eq_true rfl) (lv := [(0, .int (nI fo)), (1, .long (lN a)), (3, .long (lN b))]) rfl ?_
  intro Z X Y
  refine v_iload_n X dX0_straightOf_0 rfl 0 rfl ?_
  obtain rfl | rfl | rfl | rfl | rfl | rfl : fo = 0 ∨ fo = 1 ∨ fo = 2 ∨ fo = 3 ∨ fo = 4 ∨ fo = 5 := by omega
  · refine v_swIn X dX0_straightOf_1 (by decide) (by decide) (off := 35) (by decide) (tgt := 36) (by decide) ?_
    refine v_lload_n X dX0_straightOf_36 rfl 1 rfl ?_
    exact v_lret X Y dX0_straightOf_37 (roL_of (rfl)) (by omega) (by omega)
  · refine v_swIn X dX0_straightOf_1 (by decide) (by decide) (off := 37) (by decide) (tgt := 38) (by decide) ?_
    refine v_lload_n X dX0_straightOf_38 rfl 1 rfl ?_
    refine v_ldc2 X dX0_straightOf_39 cs_X0_109 ?_
    refine v_lxor X dX0_straightOf_42 ?_
    refine v_eql (x' := lN (a ^^^ full64)) (lN_not _) ?_
    exact v_lret X Y dX0_straightOf_43 (roL_of (rfl)) (by omega) (by omega)
  · refine v_swIn X dX0_straightOf_1 (by decide) (by decide) (off := 43) (by decide) (tgt := 44) (by decide) ?_
    refine v_lload_n X dX0_straightOf_44 rfl 2 rfl ?_
    refine v_lload_n X dX0_straightOf_45 rfl 1 rfl ?_
    refine v_ldc2 X dX0_straightOf_46 cs_X0_109 ?_
    refine v_lxor X dX0_straightOf_49 ?_
    refine v_eql (x' := lN (a ^^^ full64)) (lN_not _) ?_
    refine v_lor X dX0_straightOf_50 ?_
    refine v_eql (x' := lN (b ||| (a ^^^ full64))) (fb_orL _ _) ?_
    exact v_lret X Y dX0_straightOf_51 (roL_of (rfl)) (by omega) (by omega)
  · refine v_swIn X dX0_straightOf_1 (by decide) (by decide) (off := 51) (by decide) (tgt := 52) (by decide) ?_
    refine v_lload_n X dX0_straightOf_52 rfl 1 rfl ?_
    refine v_lload_n X dX0_straightOf_53 rfl 2 rfl ?_
    refine v_lor X dX0_straightOf_54 ?_
    refine v_eql (x' := lN (a ||| b)) (fb_orL _ _) ?_
    exact v_lret X Y dX0_straightOf_55 (roL_of (rfl)) (by omega) (by omega)
  · refine v_swIn X dX0_straightOf_1 (by decide) (by decide) (off := 55) (by decide) (tgt := 56) (by decide) ?_
    refine v_lload_n X dX0_straightOf_56 rfl 1 rfl ?_
    refine v_lload_n X dX0_straightOf_57 rfl 2 rfl ?_
    refine v_land X dX0_straightOf_58 ?_
    refine v_eql (x' := lN (a &&& b)) (fb_andL _ _) ?_
    refine v_ldc2 X dX0_straightOf_59 cs_X0_109 ?_
    refine v_lxor X dX0_straightOf_62 ?_
    refine v_eql (x' := lN ((a &&& b) ^^^ full64)) (lN_not _) ?_
    exact v_lret X Y dX0_straightOf_63 (roL_of (rfl)) (by omega) (by omega)
  · refine v_swOut X dX0_straightOf_1 (Or.inr (by decide)) (tgt := 64) (by decide) ?_
    refine v_lload_n X dX0_straightOf_64 rfl 1 rfl ?_
    refine v_lload_n X dX0_straightOf_65 rfl 2 rfl ?_
    refine v_lxor X dX0_straightOf_66 ?_
    refine v_eql (x' := lN (a ^^^ b)) (fb_xorL _ _) ?_
    exact v_lret X Y dX0_straightOf_67 (roL_of (rfl)) (by omega) (by omega)
set_option maxRecDepth 100000 in
set_option maxHeartbeats 4000000 in
theorem c_X0_turnedOf (l : Launch) (E : Et) (fo : Nat) (a : Nat) (b : Nat) (hfo : fo ≤ 5) : Ct l E yX0_turnedOf cX0_turnedOf 5 (some .long) 1 0 0 [.int (nI fo), .long (lN a), .long (lN b)] [] (roL [] (lN (turN fo a b))) := by
  refine Ct.intro (by decide +kernel) (Nat.le_of_ble_eq_true rfl) (lv := [(0, .int (nI fo)), (1, .long (lN a)), (3, .long (lN b))]) rfl ?_
  intro Z X Y
  refine v_iload_n X dX0_turnedOf_0 rfl 0 rfl ?_
  obtain rfl | rfl | rfl | rfl | rfl | rfl : fo = 0 ∨ fo = 1 ∨ fo = 2 ∨ fo = 3 ∨ fo = 4 ∨ fo = 5 := by omega
  · refine v_swIn X dX0_turnedOf_1 (by decide) (by decide) (off := 35) (by decide) (tgt := 36) (by decide) ?_
    refine v_iconst X dX0_turnedOf_36 (v := nI 1) (by decide) ?_
    refine v_lload_n X dX0_turnedOf_37 rfl 1 rfl ?_
    refine v_lload_n X dX0_turnedOf_38 rfl 2 rfl ?_
    refine v_roL1 X (rn_S X k_X0_straightOf ml_X0_79 dX0_turnedOf_39 (c_X0_straightOf l E 1 a b (by omega)) rfl (by decide) (by decide) (by omega) (by omega) (Nat.le_of_ble_eq_true rfl)) [] rfl rfl ?_
    exact v_lret X Y dX0_turnedOf_42 (roL_of (rfl)) (by omega) (by omega)
  · refine v_swIn X dX0_turnedOf_1 (by decide) (by decide) (off := 42) (by decide) (tgt := 43) (by decide) ?_
    refine v_iconst X dX0_turnedOf_43 (v := nI 0) (by decide) ?_
    refine v_lload_n X dX0_turnedOf_44 rfl 1 rfl ?_
    refine v_lload_n X dX0_turnedOf_45 rfl 2 rfl ?_
    refine v_roL1 X (rn_S X k_X0_straightOf ml_X0_79 dX0_turnedOf_46 (c_X0_straightOf l E 0 a b (by omega)) rfl (by decide) (by decide) (by omega) (by omega) (Nat.le_of_ble_eq_true rfl)) [] rfl rfl ?_
    exact v_lret X Y dX0_turnedOf_49 (roL_of (rfl)) (by omega) (by omega)
  · refine v_swIn X dX0_turnedOf_1 (by decide) (by decide) (off := 49) (by decide) (tgt := 50) (by decide) ?_
    refine v_iconst X dX0_turnedOf_50 (v := nI 2) (by decide) ?_
    refine v_lload_n X dX0_turnedOf_51 rfl 2 rfl ?_
    refine v_lload_n X dX0_turnedOf_52 rfl 1 rfl ?_
    refine v_roL1 X (rn_S X k_X0_straightOf ml_X0_79 dX0_turnedOf_53 (c_X0_straightOf l E 2 b a (by omega)) rfl (by decide) (by decide) (by omega) (by omega) (Nat.le_of_ble_eq_true rfl)) [] rfl rfl ?_
    exact v_lret X Y dX0_turnedOf_56 (roL_of (rfl)) (by omega) (by omega)
  · refine v_swIn X dX0_turnedOf_1 (by decide) (by decide) (off := 56) (by decide) (tgt := 57) (by decide) ?_
    refine v_iconst X dX0_turnedOf_57 (v := nI 4) (by decide) ?_
    refine v_lload_n X dX0_turnedOf_58 rfl 1 rfl ?_
    refine v_lload_n X dX0_turnedOf_59 rfl 2 rfl ?_
    refine v_roL1 X (rn_S X k_X0_straightOf ml_X0_79 dX0_turnedOf_60 (c_X0_straightOf l E 4 a b (by omega)) rfl (by decide) (by decide) (by omega) (by omega) (Nat.le_of_ble_eq_true rfl)) [] rfl rfl ?_
    exact v_lret X Y dX0_turnedOf_63 (roL_of (rfl)) (by omega) (by omega)
  · refine v_swIn X dX0_turnedOf_1 (by decide) (by decide) (off := 63) (by decide) (tgt := 64) (by decide) ?_
    refine v_iconst X dX0_turnedOf_64 (v := nI 3) (by decide) ?_
    refine v_lload_n X dX0_turnedOf_65 rfl 1 rfl ?_
    refine v_lload_n X dX0_turnedOf_66 rfl 2 rfl ?_
    refine v_roL1 X (rn_S X k_X0_straightOf ml_X0_79 dX0_turnedOf_67 (c_X0_straightOf l E 3 a b (by omega)) rfl (by decide) (by decide) (by omega) (by omega) (Nat.le_of_ble_eq_true rfl)) [] rfl rfl ?_
    exact v_lret X Y dX0_turnedOf_70 (roL_of (rfl)) (by omega) (by omega)
  · refine v_swOut X dX0_turnedOf_1 (Or.inr (by decide)) (tgt := 71) (by decide) ?_
    refine v_iconst X dX0_turnedOf_71 (v := nI 5) (by decide) ?_
    refine v_lload_n X dX0_turnedOf_72 rfl 1 rfl ?_
    refine v_lload_n X dX0_turnedOf_73 rfl 2 rfl ?_
    refine v_roL1 X (rn_S X k_X0_straightOf ml_X0_79 dX0_turnedOf_74 (c_X0_straightOf l E 5 a b (by omega)) rfl (by decide) (by decide) (by omega) (by omega) (Nat.le_of_ble_eq_true rfl)) [] rfl rfl ?_
    refine v_ldc2 X dX0_turnedOf_77 cs_X0_109 ?_
    refine v_lxor X dX0_turnedOf_80 ?_
    refine v_eql (x' := lN ((strN 5 a b) ^^^ full64)) (lN_not _) ?_
    exact v_lret X Y dX0_turnedOf_81 (roL_of (rfl)) (by omega) (by omega)
set_option maxRecDepth 100000 in
set_option maxHeartbeats 4000000 in
theorem c_X0_allSets (l : Launch) (E : Et) (h : Nat) (cy : Nat → Nat) (ca : Nat → Nat) (hd : cy 4 ≤ 6) : Ct l E yX0_allSets cX0_allSets 1 (some .long) 0 0 0 [.ref h] [ob h 0 [.int (nI (cy 0)), .int (nI (cy 1)), .int (nI (cy 2)), .int (nI (cy 3)), .int (nI (cy 4)), .int (nI (cy 5)), .int (nI (cy 6)), .int (nI (cy 7)), .ref (ca 0), .ref (ca 1), .ref (ca 2), .ref (ca 3), .ref (ca 4), .ref (ca 5), .ref (ca 6), .ref (ca 7), .ref (ca 8), .ref (ca 9), .ref (ca 10), .ref (ca 11)]] (roL [ob h 0 [.int (nI (cy 0)), .int (nI (cy 1)), .int (nI (cy 2)), .int (nI (cy 3)), .int (nI (cy 4)), .int (nI (cy 5)), .int (nI (cy 6)), .int (nI (cy 7)), .ref (ca 0), .ref (ca 1), .ref (ca 2), .ref (ca 3), .ref (ca 4), .ref (ca 5), .ref (ca 6), .ref (ca 7), .ref (ca 8), .ref (ca 9), .ref (ca 10), .ref (ca 11)]] (lN (allS (cy 4)))) := by
  refine Ct.intro (by decide +kernel) (Nat.le_of_ble_eq_true rfl) (lv := [(0, .ref h)]) rfl ?_
  intro Z X Y
  refine v_aload_n X dX0_allSets_0 rfl 0 rfl ?_
  refine v_get X kcX0 fl_X0_63 dX0_allSets_1 0 rfl rfl ?_
  refine v_bipush X dX0_allSets_4 (v := nI 6) (by decide) ?_
  refine v_icmpN_lt X dX0_allSets_6 (tgt := 15) (by decide) (by omega) (by decide) (fun h6 => ?_) (fun h6 => ?_)
  · have hp6 : 2 ^ cy 4 < 64 := Nat.pow_lt_pow_right (n := 6) (by decide) h6
    refine v_lconst X dX0_allSets_15 (v := lN 1) (by decide) ?_
    refine v_iconst X dX0_allSets_16 (v := nI 1) (by decide) ?_
    refine v_aload_n X dX0_allSets_17 rfl 0 rfl ?_
    refine v_get X kcX0 fl_X0_63 dX0_allSets_18 0 rfl rfl ?_
    refine v_ishl X dX0_allSets_21 ?_
    refine v_eqi (x' := nI (2 ^ (cy 4))) (nI_shl1 (by omega)) ?_
    refine v_lshl X dX0_allSets_22 (v := lN (1 * 2 ^ (2 ^ cy 4))) (wb_shl _ hp6) ?_
    refine v_lconst X dX0_allSets_23 (v := lN 1) (by decide) ?_
    refine v_lsub X dX0_allSets_24 ?_
    refine v_eql (x' := lN (1 * 2 ^ (2 ^ cy 4) - 1)) (lN_sub (by rw [Nat.one_mul]; exact Nat.pow_pos (by decide))) ?_
    exact v_lret X Y dX0_allSets_25 (roL_of (by first | (rw [Nat.one_mul]; rfl) | (have e6 : cy 4 = 6 := (by omega)); rw [e6]; decide +kernel)) (by omega) (by omega)
  · refine v_ldc2 X dX0_allSets_9 cs_X0_109 ?_
    refine v_goto X dX0_allSets_12 (tgt := 25) (by decide) ?_
    exact v_lret X Y dX0_allSets_25 (roL_of (by first | (rw [Nat.one_mul]; rfl) | (have e6 : cy 4 = 6 := (by omega)); rw [e6]; decide +kernel)) (by omega) (by omega)
set_option maxRecDepth 100000 in
set_option maxHeartbeats 4000000 in
theorem c_X0_setsKeeping (l : Launch) (E : Et) (h : Nat) (cy : Nat → Nat) (ca : Nat → Nat) (Fs : Nat → Nat) (Ft : Nat → Nat) (bs : Nat) (tu : Nat) (hd : cy 4 ≤ 6) (hcl : cy 5 ≤ 8) (hbs : bs < 2 ^ 31) (htu : tu < 2 ^ 31) : Ct l E yX0_setsKeeping cX0_setsKeeping 6 (some .long) 2 0 0 [.ref h, .int (nI bs), .int (nI tu)] [ob h 0 [.int (nI (cy 0)), .int (nI (cy 1)), .int (nI (cy 2)), .int (nI (cy 3)), .int (nI (cy 4)), .int (nI (cy 5)), .int (nI (cy 6)), .int (nI (cy 7)), .ref (ca 0), .ref (ca 1), .ref (ca 2), .ref (ca 3), .ref (ca 4), .ref (ca 5), .ref (ca 6), .ref (ca 7), .ref (ca 8), .ref (ca 9), .ref (ca 10), .ref (ca 11)], aM E (ca 5) 8 Fs, aM E (ca 6) 8 Ft] (roL [ob h 0 [.int (nI (cy 0)), .int (nI (cy 1)), .int (nI (cy 2)), .int (nI (cy 3)), .int (nI (cy 4)), .int (nI (cy 5)), .int (nI (cy 6)), .int (nI (cy 7)), .ref (ca 0), .ref (ca 1), .ref (ca 2), .ref (ca 3), .ref (ca 4), .ref (ca 5), .ref (ca 6), .ref (ca 7), .ref (ca 8), .ref (ca 9), .ref (ca 10), .ref (ca 11)], aM E (ca 5) 8 Fs, aM E (ca 6) 8 Ft] (lN (skF Fs Ft bs tu (allS (cy 4)) (cy 5)))) := by
  refine Ct.intro (by decide +kernel) (Nat.le_of_ble_eq_true rfl) (lv := [(0, .ref h), (1, .int (nI bs)), (2, .int (nI tu))]) rfl ?_
  intro Z X Y
  refine v_aload_n X dX0_setsKeeping_0 rfl 0 rfl ?_
  refine v_roL1 X (rn_V X k_X0_allSets ml_X0_111 dX0_setsKeeping_1 (c_X0_allSets l E h cy ca (by omega)) rfl 0 rfl rfl (by decide) (by decide) (by omega) (by omega) (Nat.le_of_ble_eq_true rfl)) [0] rfl rfl ?_
  refine v_lstore_n X dX0_setsKeeping_4 rfl (by decide) (lv' := [(3, .long (lN (allS (cy 4)))), (0, .ref h), (1, .int (nI bs)), (2, .int (nI tu))]) rfl ?_
  refine v_iconst X dX0_setsKeeping_5 (v := nI 0) (by decide) ?_
  refine v_istore X dX0_setsKeeping_6 (by decide) (lv' := [(5, .int (nI 0)), (3, .long (lN (allS (cy 4)))), (0, .ref h), (1, .int (nI bs)), (2, .int (nI tu))]) rfl ?_
  have L8 : ∀ (j8 : Nat) (vc : Nat) (vs : Nat), (vc ≤ cy 5 ∧ vs = skF Fs Ft bs tu (allS (cy 4)) vc) → cy 5 - vc < j8 → V E Z 8 [(0, .ref h), (1, .int (nI bs)), (2, .int (nI tu)), (3, .long (lN vs)), (5, .int (nI vc))] [] [ob h 0 [.int (nI (cy 0)), .int (nI (cy 1)), .int (nI (cy 2)), .int (nI (cy 3)), .int (nI (cy 4)), .int (nI (cy 5)), .int (nI (cy 6)), .int (nI (cy 7)), .ref (ca 0), .ref (ca 1), .ref (ca 2), .ref (ca 3), .ref (ca 4), .ref (ca 5), .ref (ca 6), .ref (ca 7), .ref (ca 8), .ref (ca 9), .ref (ca 10), .ref (ca 11)], aM E (ca 5) 8 Fs, aM E (ca 6) 8 Ft] 0 0 := by
    intro j8
    induction j8 with
    | zero => intro vc vs hI hM; exact absurd hM (Nat.not_lt_zero _)
    | succ j8 ih8 =>
      intro vc vs hI8 hM8
      obtain ⟨hc, hs⟩ := id hI8
      refine v_iload X dX0_setsKeeping_8 4 rfl ?_
      refine v_aload_n X dX0_setsKeeping_10 rfl 0 rfl ?_
      refine v_get X kcX0 fl_X0_66 dX0_setsKeeping_11 0 rfl rfl ?_
      refine v_icmpN_ge X dX0_setsKeeping_14 (tgt := 70) (by decide) (by omega) (by omega) (fun h14 => ?_) (fun h14 => ?_)
      · refine v_lload_n X dX0_setsKeeping_70 rfl 3 rfl ?_
        exact v_lret X Y dX0_setsKeeping_71 (roL_of (by (obtain rfl : vc = cy 5 := (by omega)); rw [hs])) (by omega) (by omega)
      · refine v_iload X dX0_setsKeeping_17 4 rfl ?_
        refine v_bipush X dX0_setsKeeping_19 (v := nI 8) (by decide) ?_
        refine v_icmpN_ge X dX0_setsKeeping_21 (tgt := 70) (by decide) (by omega) (by decide) (fun h21 => ?_) (fun h21 => ?_)
        · refine v_lload_n X dX0_setsKeeping_70 rfl 3 rfl ?_
          exact v_lret X Y dX0_setsKeeping_71 (roL_of (by (obtain rfl : vc = cy 5 := (by omega)); rw [hs])) (by omega) (by omega)
        · refine v_iload_n X dX0_setsKeeping_24 rfl 1 rfl ?_
          refine v_i2l X dX0_setsKeeping_25 (v := lN bs) (nI_l (by omega)) ?_
          refine v_iload X dX0_setsKeeping_26 4 rfl ?_
          refine v_roI1 X (rn_SN X k_X6_isIn ml_X0_90 dX0_setsKeeping_28 (c_X6_isIn l E bs vc (by omega) (by omega)) rfl (by decide) (by decide) (by omega) (by omega) (Nat.le_of_ble_eq_true rfl)) [] rfl rfl ?_
          refine v_ifB_eq X dX0_setsKeeping_31 (tgt := 64) (by decide) (fun h31 => ?_) (fun h31 => ?_)
          · refine v_iinc X dX0_setsKeeping_64 4 rfl (v := nI (vc + 1)) (nI_inc vc) (by decide) (lv' := [(5, .int (nI (vc + 1))), (0, .ref h), (1, .int (nI bs)), (2, .int (nI tu)), (3, .long (lN vs))]) rfl ?_
            refine v_goto X dX0_setsKeeping_67 (tgt := 8) (by decide) ?_
            refine V.lvs [1, 2, 3, 4, 0] rfl ?_
            exact ih8 (vc + 1) vs (⟨by omega, by rw [hs, skF]; simp_all⟩) (by omega)
          · refine v_lload_n X dX0_setsKeeping_34 rfl 3 rfl ?_
            refine v_iload_n X dX0_setsKeeping_35 rfl 2 rfl ?_
            refine v_i2l X dX0_setsKeeping_36 (v := lN tu) (nI_l (by omega)) ?_
            refine v_iload X dX0_setsKeeping_37 4 rfl ?_
            refine v_roI1 X (rn_SN X k_X6_isIn ml_X0_90 dX0_setsKeeping_39 (c_X6_isIn l E tu vc (by omega) (by omega)) rfl (by decide) (by decide) (by omega) (by omega) (Nat.le_of_ble_eq_true rfl)) [] rfl rfl ?_
            refine v_ifB_eq X dX0_setsKeeping_42 (tgt := 55) (by decide) (fun h42 => ?_) (fun h42 => ?_)
            · refine v_aload_n X dX0_setsKeeping_55 rfl 0 rfl ?_
              refine v_get X kcX0 fl_X0_27 dX0_setsKeeping_56 0 rfl rfl ?_
              refine v_iload X dX0_setsKeeping_59 4 rfl ?_
              refine v_lald X dX0_setsKeeping_61 1 rfl (by omega) (by decide) ?_
              refine v_land X dX0_setsKeeping_62 ?_
              refine v_eql (x' := lN (vs &&& (Fs vc))) (fb_andL _ _) ?_
              refine v_lstore_n X dX0_setsKeeping_63 rfl (by decide) (lv' := [(3, .long (lN (vs &&& (Fs vc)))), (0, .ref h), (1, .int (nI bs)), (2, .int (nI tu)), (5, .int (nI vc))]) rfl ?_
              refine v_iinc X dX0_setsKeeping_64 4 rfl (v := nI (vc + 1)) (nI_inc vc) (by decide) (lv' := [(5, .int (nI (vc + 1))), (3, .long (lN (vs &&& (Fs vc)))), (0, .ref h), (1, .int (nI bs)), (2, .int (nI tu))]) rfl ?_
              refine v_goto X dX0_setsKeeping_67 (tgt := 8) (by decide) ?_
              refine V.lvs [2, 3, 4, 1, 0] rfl ?_
              exact ih8 (vc + 1) (vs &&& (Fs vc)) (⟨by omega, by rw [hs, skF]; simp_all⟩) (by omega)
            · refine v_aload_n X dX0_setsKeeping_45 rfl 0 rfl ?_
              refine v_get X kcX0 fl_X0_31 dX0_setsKeeping_46 0 rfl rfl ?_
              refine v_iload X dX0_setsKeeping_49 4 rfl ?_
              refine v_lald X dX0_setsKeeping_51 2 rfl (by omega) (by decide) ?_
              refine v_goto X dX0_setsKeeping_52 (tgt := 62) (by decide) ?_
              refine v_land X dX0_setsKeeping_62 ?_
              refine v_eql (x' := lN (vs &&& (Ft vc))) (fb_andL _ _) ?_
              refine v_lstore_n X dX0_setsKeeping_63 rfl (by decide) (lv' := [(3, .long (lN (vs &&& (Ft vc)))), (0, .ref h), (1, .int (nI bs)), (2, .int (nI tu)), (5, .int (nI vc))]) rfl ?_
              refine v_iinc X dX0_setsKeeping_64 4 rfl (v := nI (vc + 1)) (nI_inc vc) (by decide) (lv' := [(5, .int (nI (vc + 1))), (3, .long (lN (vs &&& (Ft vc)))), (0, .ref h), (1, .int (nI bs)), (2, .int (nI tu))]) rfl ?_
              refine v_goto X dX0_setsKeeping_67 (tgt := 8) (by decide) ?_
              refine V.lvs [2, 3, 4, 1, 0] rfl ?_
              exact ih8 (vc + 1) (vs &&& (Ft vc)) (⟨by omega, by rw [hs, skF]; simp_all⟩) (by omega)
  refine V.lvs [2, 3, 4, 1, 0] rfl ?_
  exact L8 _ 0 (allS (cy 4)) (⟨by omega, rfl⟩) (Nat.lt_succ_self _)
set_option maxRecDepth 100000 in
set_option maxHeartbeats 4000000 in
theorem c_X0_turnedBy (l : Launch) (E : Et) (h : Nat) (cy : Nat → Nat) (ca : Nat → Nat) (uc : Nat → Nat) (us : Nat) (hu : cy 6 ≤ 5) (huc : ∀ k, k < cy 6 → uc k < 8) (hus : us < 2 ^ 31) : Ct l E yX0_turnedBy cX0_turnedBy 4 (some .int) 1 0 0 [.ref h, .int (nI us)] [ob h 0 [.int (nI (cy 0)), .int (nI (cy 1)), .int (nI (cy 2)), .int (nI (cy 3)), .int (nI (cy 4)), .int (nI (cy 5)), .int (nI (cy 6)), .int (nI (cy 7)), .ref (ca 0), .ref (ca 1), .ref (ca 2), .ref (ca 3), .ref (ca 4), .ref (ca 5), .ref (ca 6), .ref (ca 7), .ref (ca 8), .ref (ca 9), .ref (ca 10), .ref (ca 11)], aN E (ca 7) 5 uc] (roI [ob h 0 [.int (nI (cy 0)), .int (nI (cy 1)), .int (nI (cy 2)), .int (nI (cy 3)), .int (nI (cy 4)), .int (nI (cy 5)), .int (nI (cy 6)), .int (nI (cy 7)), .ref (ca 0), .ref (ca 1), .ref (ca 2), .ref (ca 3), .ref (ca 4), .ref (ca 5), .ref (ca 6), .ref (ca 7), .ref (ca 8), .ref (ca 9), .ref (ca 10), .ref (ca 11)], aN E (ca 7) 5 uc] (nI (tbF uc us (cy 6)))) := by
  refine Ct.intro (by decide +kernel) (Nat.le_of_ble_eq_true rfl) (lv := [(0, .ref h), (1, .int (nI us))]) rfl ?_
  intro Z X Y
  refine v_iconst X dX0_turnedBy_0 (v := nI 0) (by decide) ?_
  refine v_istore_n X dX0_turnedBy_1 rfl (by decide) (lv' := [(2, .int (nI 0)), (0, .ref h), (1, .int (nI us))]) rfl ?_
  refine v_iconst X dX0_turnedBy_2 (v := nI 0) (by decide) ?_
  refine v_istore_n X dX0_turnedBy_3 rfl (by decide) (lv' := [(3, .int (nI 0)), (2, .int (nI 0)), (0, .ref h), (1, .int (nI us))]) rfl ?_
  have L4 : ∀ (j4 : Nat) (vk : Nat) (vb : Nat), (vk ≤ cy 6 ∧ vb = tbF uc us vk) → cy 6 - vk < j4 → V E Z 4 [(0, .ref h), (1, .int (nI us)), (2, .int (nI vb)), (3, .int (nI vk))] [] [ob h 0 [.int (nI (cy 0)), .int (nI (cy 1)), .int (nI (cy 2)), .int (nI (cy 3)), .int (nI (cy 4)), .int (nI (cy 5)), .int (nI (cy 6)), .int (nI (cy 7)), .ref (ca 0), .ref (ca 1), .ref (ca 2), .ref (ca 3), .ref (ca 4), .ref (ca 5), .ref (ca 6), .ref (ca 7), .ref (ca 8), .ref (ca 9), .ref (ca 10), .ref (ca 11)], aN E (ca 7) 5 uc] 0 0 := by
    intro j4
    induction j4 with
    | zero => intro vk vb hI hM; exact absurd hM (Nat.not_lt_zero _)
    | succ j4 ih4 =>
      intro vk vb hI4 hM4
      obtain ⟨hc, hb⟩ := id hI4
      refine v_iload_n X dX0_turnedBy_4 rfl 3 rfl ?_
      refine v_aload_n X dX0_turnedBy_5 rfl 0 rfl ?_
      refine v_get X kcX0 fl_X0_69 dX0_turnedBy_6 0 rfl rfl ?_
      refine v_icmpN_ge X dX0_turnedBy_9 (tgt := 38) (by decide) (by omega) (by omega) (fun h9 => ?_) (fun h9 => ?_)
      · refine v_iload_n X dX0_turnedBy_38 rfl 2 rfl ?_
        exact v_iret X Y dX0_turnedBy_39 (roI_of (by (obtain rfl : vk = cy 6 := (by omega)); rw [hb])) (by omega) (by omega)
      · refine v_iload_n X dX0_turnedBy_12 rfl 1 rfl ?_
        refine v_i2l X dX0_turnedBy_13 (v := lN us) (nI_l (by omega)) ?_
        refine v_iload_n X dX0_turnedBy_14 rfl 3 rfl ?_
        refine v_roI1 X (rn_SN X k_X6_isIn ml_X0_90 dX0_turnedBy_15 (c_X6_isIn l E us vk (by omega) (by omega)) rfl (by decide) (by decide) (by omega) (by omega) (Nat.le_of_ble_eq_true rfl)) [] rfl rfl ?_
        refine v_ifB_eq X dX0_turnedBy_18 (tgt := 32) (by decide) (fun h18 => ?_) (fun h18 => ?_)
        · refine v_iinc X dX0_turnedBy_32 3 rfl (v := nI (vk + 1)) (nI_inc vk) (by decide) (lv' := [(3, .int (nI (vk + 1))), (0, .ref h), (1, .int (nI us)), (2, .int (nI vb))]) rfl ?_
          refine v_goto X dX0_turnedBy_35 (tgt := 4) (by decide) ?_
          refine V.lvs [1, 2, 3, 0] rfl ?_
          exact ih4 (vk + 1) vb (⟨by omega, by rw [hb, tbF]; simp_all⟩) (by omega)
        · refine v_iload_n X dX0_turnedBy_21 rfl 2 rfl ?_
          refine v_iconst X dX0_turnedBy_22 (v := nI 1) (by decide) ?_
          refine v_aload_n X dX0_turnedBy_23 rfl 0 rfl ?_
          refine v_get X kcX0 fl_X0_34 dX0_turnedBy_24 0 rfl rfl ?_
          refine v_iload_n X dX0_turnedBy_27 rfl 3 rfl ?_
          refine v_iald X dX0_turnedBy_28 1 rfl (by omega) (by decide) ?_
          refine v_ishl X dX0_turnedBy_29 ?_
          refine v_eqi (x' := nI (2 ^ (uc vk))) (nI_shl1 (Nat.lt_trans (huc vk (by omega)) (by decide))) ?_
          refine v_ior X dX0_turnedBy_30 ?_
          refine v_eqi (x' := nI (vb ||| (2 ^ (uc vk)))) (fa_or _ _) ?_
          refine v_istore_n X dX0_turnedBy_31 rfl (by decide) (lv' := [(2, .int (nI (vb ||| (2 ^ (uc vk))))), (0, .ref h), (1, .int (nI us)), (3, .int (nI vk))]) rfl ?_
          refine v_iinc X dX0_turnedBy_32 3 rfl (v := nI (vk + 1)) (nI_inc vk) (by decide) (lv' := [(3, .int (nI (vk + 1))), (2, .int (nI (vb ||| (2 ^ (uc vk))))), (0, .ref h), (1, .int (nI us))]) rfl ?_
          refine v_goto X dX0_turnedBy_35 (tgt := 4) (by decide) ?_
          refine V.lvs [2, 3, 1, 0] rfl ?_
          exact ih4 (vk + 1) (vb ||| (2 ^ (uc vk))) (⟨by omega, by rw [hb, tbF]; simp_all⟩) (by omega)
  refine V.lvs [2, 3, 1, 0] rfl ?_
  exact L4 _ 0 0 (⟨by omega, rfl⟩) (Nat.lt_succ_self _)
set_option maxRecDepth 100000 in
set_option maxHeartbeats 4000000 in
theorem c_X0_unsureBits (l : Launch) (E : Et) (h : Nat) (cy : Nat → Nat) (ca : Nat → Nat) (uc : Nat → Nat) (hu : cy 6 ≤ 5) (huc : ∀ k, k < cy 6 → uc k < 8) : Ct l E yX0_unsureBits cX0_unsureBits 1 (some .int) 2 0 0 [.ref h] [ob h 0 [.int (nI (cy 0)), .int (nI (cy 1)), .int (nI (cy 2)), .int (nI (cy 3)), .int (nI (cy 4)), .int (nI (cy 5)), .int (nI (cy 6)), .int (nI (cy 7)), .ref (ca 0), .ref (ca 1), .ref (ca 2), .ref (ca 3), .ref (ca 4), .ref (ca 5), .ref (ca 6), .ref (ca 7), .ref (ca 8), .ref (ca 9), .ref (ca 10), .ref (ca 11)], aN E (ca 7) 5 uc] (roI [ob h 0 [.int (nI (cy 0)), .int (nI (cy 1)), .int (nI (cy 2)), .int (nI (cy 3)), .int (nI (cy 4)), .int (nI (cy 5)), .int (nI (cy 6)), .int (nI (cy 7)), .ref (ca 0), .ref (ca 1), .ref (ca 2), .ref (ca 3), .ref (ca 4), .ref (ca 5), .ref (ca 6), .ref (ca 7), .ref (ca 8), .ref (ca 9), .ref (ca 10), .ref (ca 11)], aN E (ca 7) 5 uc] (nI (tbF uc (2 ^ cy 6 - 1) (cy 6)))) := by
  refine Ct.intro (by decide +kernel) (Nat.le_of_ble_eq_true rfl) (lv := [(0, .ref h)]) rfl ?_
  intro Z X Y
  refine v_aload_n X dX0_unsureBits_0 rfl 0 rfl ?_
  refine v_iconst X dX0_unsureBits_1 (v := nI 1) (by decide) ?_
  refine v_aload_n X dX0_unsureBits_2 rfl 0 rfl ?_
  refine v_get X kcX0 fl_X0_69 dX0_unsureBits_3 0 rfl rfl ?_
  refine v_ishl X dX0_unsureBits_6 ?_
  refine v_eqi (x' := nI (2 ^ (cy 6))) (nI_shl1 (by omega)) ?_
  refine v_iconst X dX0_unsureBits_7 (v := nI 1) (by decide) ?_
  refine v_isub X dX0_unsureBits_8 ?_
  refine v_eqi (x' := nI (2 ^ cy 6 - 1)) (pk_sub (Nat.pow_pos (by decide))) ?_
  refine v_roI1 X (rn_V X k_X0_turnedBy ml_X0_86 dX0_unsureBits_9 (c_X0_turnedBy l E h cy ca uc (2 ^ cy 6 - 1) (by first | assumption | omega) (by first | assumption | omega) (Nat.lt_of_le_of_lt (Nat.sub_le _ _) (Nat.pow_lt_pow_right (n := 31) (by decide) (by omega)))) rfl 0 rfl rfl (by decide) (by decide) (by omega) (by omega) (Nat.le_of_ble_eq_true rfl)) [0, 1] rfl rfl ?_
  exact v_iret X Y dX0_unsureBits_12 (roI_of rfl) (by omega) (by omega)
set_option maxRecDepth 100000 in
set_option maxHeartbeats 4000000 in
theorem c_X0_isToldTruly (l : Launch) (E : Et) (h : Nat) (cy : Nat → Nat) (ca : Nat → Nat) (Fs : Nat → Nat) (Ft : Nat → Nat) (dm : Nat → Nat) (dy : Nat → Nat) (ds : Nat → Nat) (dk : Nat → Bool) (h2 : Nat) (hi2 : Nat) (hm2 : Nat) (t2 : Nat) (dd2 : Nat) (ink2 : Nat → Nat) (mn2 : Nat → Int32) (di : Nat) (tu : Nat) (hd : cy 4 ≤ 6) (hcl : cy 5 ≤ 8) (hdi : di < cy 7) (hdd : cy 7 ≤ 6) (hdy : ∀ i, i < cy 7 → dy i ≤ 40) (hds : ∀ i, i < cy 7 → ds i < 64) (htu : tu < 2 ^ 31) (hink2 : ∀ c, ink2 c ≤ 40) : Ct l E yX0_isToldTruly cX0_isToldTruly 5 (some .boolean) 3 0 0 [.ref h, .int (nI di), .ref h2, .int (nI tu)] [ob h 0 [.int (nI (cy 0)), .int (nI (cy 1)), .int (nI (cy 2)), .int (nI (cy 3)), .int (nI (cy 4)), .int (nI (cy 5)), .int (nI (cy 6)), .int (nI (cy 7)), .ref (ca 0), .ref (ca 1), .ref (ca 2), .ref (ca 3), .ref (ca 4), .ref (ca 5), .ref (ca 6), .ref (ca 7), .ref (ca 8), .ref (ca 9), .ref (ca 10), .ref (ca 11)], aM E (ca 5) 8 Fs, aM E (ca 6) 8 Ft, aN E (ca 8) 6 dm, aN E (ca 9) 6 dy, aN E (ca 10) 6 ds, aZ E (ca 11) 6 dk, ob h2 2 [.ref hi2, .ref hm2, .int (nI t2), .int (nI dd2)], aN E hi2 8 ink2, aI E hm2 8 mn2] (roI [ob h 0 [.int (nI (cy 0)), .int (nI (cy 1)), .int (nI (cy 2)), .int (nI (cy 3)), .int (nI (cy 4)), .int (nI (cy 5)), .int (nI (cy 6)), .int (nI (cy 7)), .ref (ca 0), .ref (ca 1), .ref (ca 2), .ref (ca 3), .ref (ca 4), .ref (ca 5), .ref (ca 6), .ref (ca 7), .ref (ca 8), .ref (ca 9), .ref (ca 10), .ref (ca 11)], aM E (ca 5) 8 Fs, aM E (ca 6) 8 Ft, aN E (ca 8) 6 dm, aN E (ca 9) 6 dy, aN E (ca 10) 6 ds, aZ E (ca 11) 6 dk, ob h2 2 [.ref hi2, .ref hm2, .int (nI t2), .int (nI dd2)], aN E hi2 8 ink2, aI E hm2 8 mn2] (nI (dk di == (skF Fs Ft (bbits (fun c => decide (dy di < ink2 c)) 8 &&& bbits (fun c => decide (mn2 c = nI (dm di))) 8) tu (allS (cy 4)) (cy 5)).testBit (ds di)).toNat)) := by
  refine Ct.intro (by decide +kernel) (Nat.le_of_ble_eq_true rfl) (lv := [(0, .ref h), (1, .int (nI di)), (2, .ref h2), (3, .int (nI tu))]) rfl ?_
  intro Z X Y
  refine v_iload_n X dX0_isToldTruly_0 rfl 1 rfl ?_
  refine v_if_lt X dX0_isToldTruly_1 (tgt := 12) (by decide) (fun h1 => ?_) (fun h1 => ?_)
  · exact absurd h1 (nI_pos (by omega))
  · refine v_iload_n X dX0_isToldTruly_4 rfl 1 rfl ?_
    refine v_aload_n X dX0_isToldTruly_5 rfl 0 rfl ?_
    refine v_get X kcX0 fl_X0_72 dX0_isToldTruly_6 0 rfl rfl ?_
    refine v_icmpN_lt X dX0_isToldTruly_9 (tgt := 14) (by decide) (by omega) (by omega) (fun h9 => ?_) (fun h9 => ?_)
    · refine v_aload_n X dX0_isToldTruly_14 rfl 2 rfl ?_
      refine v_aload_n X dX0_isToldTruly_15 rfl 0 rfl ?_
      refine v_get X kcX0 fl_X0_40 dX0_isToldTruly_16 0 rfl rfl ?_
      refine v_iload_n X dX0_isToldTruly_19 rfl 1 rfl ?_
      refine v_iald X dX0_isToldTruly_20 4 rfl (by omega) (by decide) ?_
      refine v_roI1 X (rn_VN X k_X2_binding ml_X0_94 dX0_isToldTruly_21 (c_X2_binding l E h2 hi2 hm2 t2 dd2 ink2 (dy di) (hink2) (Nat.lt_of_le_of_lt (hdy di hdi) (by decide))) rfl 0 rfl rfl (by decide) (by decide) (by omega) (by omega) (Nat.le_of_ble_eq_true rfl)) [7, 8] rfl rfl ?_
      refine v_aload_n X dX0_isToldTruly_24 rfl 2 rfl ?_
      refine v_aload_n X dX0_isToldTruly_25 rfl 0 rfl ?_
      refine v_get X kcX0 fl_X0_37 dX0_isToldTruly_26 0 rfl rfl ?_
      refine v_iload_n X dX0_isToldTruly_29 rfl 1 rfl ?_
      refine v_iald X dX0_isToldTruly_30 3 rfl (by omega) (by decide) ?_
      refine v_roI1 X (rn_VN X k_X2_pressedOn ml_X0_99 dX0_isToldTruly_31 (c_X2_pressedOn l E h2 hi2 hm2 t2 dd2 mn2 (nI (dm di)) ) rfl 0 rfl rfl (by decide) (by decide) (by omega) (by omega) (Nat.le_of_ble_eq_true rfl)) [7, 9] rfl rfl ?_
      refine v_iand X dX0_isToldTruly_34 ?_
      refine v_eqi (x' := nI ((bbits (fun c => decide ((dy di) < ink2 c)) 8) &&& (bbits (fun c => decide (mn2 c = (nI (dm di)))) 8))) (fa_and _ _) ?_
      refine v_istore X dX0_isToldTruly_35 (by decide) (lv' := [(4, .int (nI ((bbits (fun c => decide ((dy di) < ink2 c)) 8) &&& (bbits (fun c => decide (mn2 c = (nI (dm di)))) 8)))), (0, .ref h), (1, .int (nI di)), (2, .ref h2), (3, .int (nI tu))]) rfl ?_
      refine v_aload_n X dX0_isToldTruly_37 rfl 1 rfl ?_
      refine v_get X kcX0 fl_X0_46 dX0_isToldTruly_38 0 rfl rfl ?_
      refine v_iload_n X dX0_isToldTruly_41 rfl 2 rfl ?_
      refine v_zald X dX0_isToldTruly_42 6 rfl (by omega) (by decide) ?_
      refine v_aload_n X dX0_isToldTruly_43 rfl 1 rfl ?_
      refine v_iload X dX0_isToldTruly_44 0 rfl ?_
      refine v_iload_n X dX0_isToldTruly_46 rfl 4 rfl ?_
      refine v_roL1 X (rn_V X k_X0_setsKeeping ml_X0_102 dX0_isToldTruly_47 (c_X0_setsKeeping l E h cy ca Fs Ft ((bbits (fun c => decide ((dy di) < ink2 c)) 8) &&& (bbits (fun c => decide (mn2 c = (nI (dm di)))) 8)) tu (by first | assumption | omega) (by first | assumption | omega) (Nat.lt_of_le_of_lt Nat.and_le_left (Nat.lt_trans (bbits_lt _ 8) (by decide))) (by omega)) rfl 0 rfl rfl (by decide) (by decide) (by omega) (by omega) (Nat.le_of_ble_eq_true rfl)) [0, 1, 2] rfl rfl ?_
      refine v_aload_n X dX0_isToldTruly_50 rfl 1 rfl ?_
      refine v_get X kcX0 fl_X0_43 dX0_isToldTruly_51 0 rfl rfl ?_
      refine v_iload_n X dX0_isToldTruly_54 rfl 2 rfl ?_
      refine v_iald X dX0_isToldTruly_55 5 rfl (by omega) (by decide) ?_
      refine v_roI1 X (rn_SN X k_X6_isIn ml_X0_90 dX0_isToldTruly_56 (c_X6_isIn l E (skF Fs Ft ((bbits (fun c => decide ((dy di) < ink2 c)) 8) &&& (bbits (fun c => decide (mn2 c = (nI (dm di)))) 8)) tu (allS (cy 4)) (cy 5)) (ds di) (Nat.lt_of_le_of_lt (skF_le _ _ _ _ _ _) (allS_lt hd)) (hds di hdi)) rfl (by decide) (by decide) (by omega) (by omega) (Nat.le_of_ble_eq_true rfl)) [] rfl rfl ?_
      refine v_icmp_ne X dX0_isToldTruly_59 (tgt := 66) (by decide) (fun h59 => ?_) (fun h59 => ?_)
      · refine v_iconst X dX0_isToldTruly_66 (v := nI 0) (by decide) ?_
        exact v_zret X Y dX0_isToldTruly_67 (by decide) (roI_of (by first | (rw [h59]; simp) | (revert h59; cases dk di <;> cases (Nat.testBit _ _) <;> simp <;> decide))) (by omega) (by omega)
      · refine v_iconst X dX0_isToldTruly_62 (v := nI 1) (by decide) ?_
        refine v_goto X dX0_isToldTruly_63 (tgt := 67) (by decide) ?_
        exact v_zret X Y dX0_isToldTruly_67 (by decide) (roI_of (by first | (rw [h59]; simp) | (revert h59; cases dk di <;> cases (Nat.testBit _ _) <;> simp <;> decide))) (by omega) (by omega)
    · exfalso; omega
