set_option maxRecDepth 100000 in
set_option maxHeartbeats 4000000 in
theorem c_X6_isIn (l : Launch) (E : Et) (a : Nat) (i : Nat) (ha : a < 2 ^ 64) (hi : i < 64) : Ct l E yX6_isIn cX6_isIn 3 (some .boolean) 0 0 0 [.long (lN a), .int (nI i)] [] (roI [] (nI (a.testBit i).toNat)) := by
  refine Ct.intro (by decide +kernel) (Nat.le_of_ble_eq_true rfl) (lv := [(0, .long (lN a)), (2, .int (nI i))]) rfl ?_
  intro Z X Y
  refine v_lload_n X dX6_isIn_0 rfl 0 rfl ?_
  refine v_iload_n X dX6_isIn_1 rfl 1 rfl ?_
  refine v_lushr X dX6_isIn_2 (v := ((lN a).toUInt64 >>> ((nI i).toInt64.toUInt64 &&& Int64.toUInt64 63)).toInt64) rfl ?_
  refine v_lconst X dX6_isIn_3 (v := lN 1) (by decide) ?_
  refine v_land X dX6_isIn_4 ?_
  refine v_eql (x' := lN ((a.testBit i).toNat)) (lN_isbit ha hi) ?_
  refine v_lconst X dX6_isIn_5 (v := lN 0) (by decide) ?_
  refine v_lcmp X dX6_isIn_6 ?_
  refine v_ifLN_eq X dX6_isIn_7 (tgt := 14) (by decide) (by cases (a.testBit i) <;> decide) (by decide) (fun h7 => ?_) (fun h7 => ?_)
  · refine v_iconst X dX6_isIn_14 (v := nI 0) (by decide) ?_
    exact v_zret X Y dX6_isIn_15 (by decide) (roI_of (by cases hq : a.testBit i <;> simp_all)) (by omega) (by omega)
  · refine v_iconst X dX6_isIn_10 (v := nI 1) (by decide) ?_
    refine v_goto X dX6_isIn_11 (tgt := 15) (by decide) ?_
    exact v_zret X Y dX6_isIn_15 (by decide) (roI_of (by cases hq : a.testBit i <;> simp_all)) (by omega) (by omega)
set_option maxRecDepth 100000 in
set_option maxHeartbeats 4000000 in
theorem c_X6_isPart (l : Launch) (E : Et) (a : Nat) (b : Nat) (ha : a < 2 ^ 31) : Ct l E yX6_isPart cX6_isPart 2 (some .boolean) 0 0 0 [.int (nI a), .int (nI b)] [] (roI [] (nI (decide (ndf a b = 0)).toNat)) := by
  refine Ct.intro (by decide +kernel) (Nat.le_of_ble_eq_true rfl) (lv := [(0, .int (nI a)), (1, .int (nI b))]) rfl ?_
  intro Z X Y
  refine v_iload_n X dX6_isPart_0 rfl 0 rfl ?_
  refine v_iload_n X dX6_isPart_1 rfl 1 rfl ?_
  refine v_iconst X dX6_isPart_2 (v := (-1)) (by decide) ?_
  refine v_ixor X dX6_isPart_3 ?_
  refine v_iand X dX6_isPart_4 ?_
  refine v_eqi (x' := nI (ndf a b)) (nI_andn _ _) ?_
  refine v_ifN_ne X dX6_isPart_5 (tgt := 12) (by decide) (ndf_lt _ ha) (fun h5 => ?_) (fun h5 => ?_)
  · refine v_iconst X dX6_isPart_12 (v := nI 0) (by decide) ?_
    exact v_zret X Y dX6_isPart_13 (by decide) (roI_of (by simp_all)) (by omega) (by omega)
  · refine v_iconst X dX6_isPart_8 (v := nI 1) (by decide) ?_
    refine v_goto X dX6_isPart_9 (tgt := 13) (by decide) ?_
    exact v_zret X Y dX6_isPart_13 (by decide) (roI_of (by simp_all)) (by omega) (by omega)
set_option maxRecDepth 100000 in
set_option maxHeartbeats 4000000 in
theorem c_X2_binding (l : Launch) (E : Et) (h : Nat) (hi : Nat) (hm : Nat) (t : Nat) (dd : Nat) (ink : Nat → Nat) (a : Nat) (hink : ∀ c, ink c ≤ 40) (ha : a < 2 ^ 31) : Ct l E yX2_binding cX2_binding 4 (some .int) 0 0 0 [.ref h, .int (nI a)] [ob h 2 [.ref hi, .ref hm, .int (nI t), .int (nI dd)], aN E hi 8 ink] (roI [ob h 2 [.ref hi, .ref hm, .int (nI t), .int (nI dd)], aN E hi 8 ink] (nI (bbits (fun c => decide (a < ink c)) 8))) := by
  refine Ct.intro (by decide +kernel) (Nat.le_of_ble_eq_true rfl) (lv := [(0, .ref h), (1, .int (nI a))]) rfl ?_
  intro Z X Y
  refine v_iconst X dX2_binding_0 (v := nI 0) (by decide) ?_
  refine v_istore_n X dX2_binding_1 rfl (by decide) (lv' := [(2, .int (nI 0)), (0, .ref h), (1, .int (nI a))]) rfl ?_
  refine v_iconst X dX2_binding_2 (v := nI 0) (by decide) ?_
  refine v_istore_n X dX2_binding_3 rfl (by decide) (lv' := [(3, .int (nI 0)), (2, .int (nI 0)), (0, .ref h), (1, .int (nI a))]) rfl ?_
  have L4 : ∀ (j4 : Nat) (vc : Nat) (vb : Nat), (vc ≤ 8 ∧ vb = bbits (fun c => decide (a < ink c)) vc) → 8 - vc < j4 → V E Z 4 [(0, .ref h), (1, .int (nI a)), (2, .int (nI vb)), (3, .int (nI vc))] [] [ob h 2 [.ref hi, .ref hm, .int (nI t), .int (nI dd)], aN E hi 8 ink] 0 0 := by
    intro j4
    induction j4 with
    | zero => intro vc vb hI hM; exact absurd hM (Nat.not_lt_zero _)
    | succ j4 ih4 =>
      intro vc vb hI4 hM4
      obtain ⟨hc, hb⟩ := id hI4
      refine v_iload_n X dX2_binding_4 rfl 3 rfl ?_
      refine v_bipush X dX2_binding_5 (v := nI 8) (by decide) ?_
      refine v_icmpN_ge X dX2_binding_7 (tgt := 32) (by decide) (by omega) (by decide) (fun h7 => ?_) (fun h7 => ?_)
      · refine v_iload_n X dX2_binding_32 rfl 2 rfl ?_
        exact v_iret X Y dX2_binding_33 (roI_of (by (obtain rfl : vc = 8 := (by omega)); rw [hb])) (by omega) (by omega)
      · refine v_aload_n X dX2_binding_10 rfl 0 rfl ?_
        refine v_get X kcX2 fl_X2_9 dX2_binding_11 0 rfl rfl ?_
        refine v_iload_n X dX2_binding_14 rfl 3 rfl ?_
        refine v_iald X dX2_binding_15 1 rfl (by omega) (by decide) ?_
        refine v_iload_n X dX2_binding_16 rfl 1 rfl ?_
        refine v_icmpN_le X dX2_binding_17 (tgt := 26) (by decide) (Nat.lt_of_le_of_lt (hink _) (by decide)) (by omega) (fun h17 => ?_) (fun h17 => ?_)
        · refine v_iinc X dX2_binding_26 3 rfl (v := nI (vc + 1)) (nI_inc vc) (by decide) (lv' := [(3, .int (nI (vc + 1))), (0, .ref h), (1, .int (nI a)), (2, .int (nI vb))]) rfl ?_
          refine v_goto X dX2_binding_29 (tgt := 4) (by decide) ?_
          refine V.lvs [1, 2, 3, 0] rfl ?_
          exact ih4 (vc + 1) vb (⟨by omega, by rw [hb]; first | exact (bbits_yes (decide_eq_true (by omega))).symm | exact (bbits_no (decide_eq_false (by omega))).symm⟩) (by omega)
        · refine v_iload_n X dX2_binding_20 rfl 2 rfl ?_
          refine v_iconst X dX2_binding_21 (v := nI 1) (by decide) ?_
          refine v_iload_n X dX2_binding_22 rfl 3 rfl ?_
          refine v_ishl X dX2_binding_23 ?_
          refine v_eqi (x' := nI (2 ^ vc)) (nI_shl1 (by omega)) ?_
          refine v_ior X dX2_binding_24 ?_
          refine v_eqi (x' := nI (vb ||| (2 ^ vc))) (fa_or _ _) ?_
          refine v_istore_n X dX2_binding_25 rfl (by decide) (lv' := [(2, .int (nI (vb ||| (2 ^ vc)))), (0, .ref h), (1, .int (nI a)), (3, .int (nI vc))]) rfl ?_
          refine v_iinc X dX2_binding_26 3 rfl (v := nI (vc + 1)) (nI_inc vc) (by decide) (lv' := [(3, .int (nI (vc + 1))), (2, .int (nI (vb ||| (2 ^ vc)))), (0, .ref h), (1, .int (nI a))]) rfl ?_
          refine v_goto X dX2_binding_29 (tgt := 4) (by decide) ?_
          refine V.lvs [2, 3, 1, 0] rfl ?_
          exact ih4 (vc + 1) (vb ||| (2 ^ vc)) (⟨by omega, by rw [hb]; first | exact (bbits_yes (decide_eq_true (by omega))).symm | exact (bbits_no (decide_eq_false (by omega))).symm⟩) (by omega)
  refine V.lvs [2, 3, 1, 0] rfl ?_
  exact L4 _ 0 0 (⟨by omega, rfl⟩) (Nat.lt_succ_self _)
set_option maxRecDepth 100000 in
set_option maxHeartbeats 4000000 in
theorem c_X2_pressedOn (l : Launch) (E : Et) (h : Nat) (hi : Nat) (hm : Nat) (t : Nat) (dd : Nat) (mn : Nat → Int32) (m : Int32)  : Ct l E yX2_pressedOn cX2_pressedOn 4 (some .int) 0 0 0 [.ref h, .int m] [ob h 2 [.ref hi, .ref hm, .int (nI t), .int (nI dd)], aI E hm 8 mn] (roI [ob h 2 [.ref hi, .ref hm, .int (nI t), .int (nI dd)], aI E hm 8 mn] (nI (bbits (fun c => decide (mn c = m)) 8))) := by
  refine Ct.intro (by decide +kernel) (Nat.le_of_ble_eq_true rfl) (lv := [(0, .ref h), (1, .int m)]) rfl ?_
  intro Z X Y
  refine v_iconst X dX2_pressedOn_0 (v := nI 0) (by decide) ?_
  refine v_istore_n X dX2_pressedOn_1 rfl (by decide) (lv' := [(2, .int (nI 0)), (0, .ref h), (1, .int m)]) rfl ?_
  refine v_iconst X dX2_pressedOn_2 (v := nI 0) (by decide) ?_
  refine v_istore_n X dX2_pressedOn_3 rfl (by decide) (lv' := [(3, .int (nI 0)), (2, .int (nI 0)), (0, .ref h), (1, .int m)]) rfl ?_
  have L4 : ∀ (j4 : Nat) (vc : Nat) (vb : Nat), (vc ≤ 8 ∧ vb = bbits (fun c => decide (mn c = m)) vc) → 8 - vc < j4 → V E Z 4 [(0, .ref h), (1, .int m), (2, .int (nI vb)), (3, .int (nI vc))] [] [ob h 2 [.ref hi, .ref hm, .int (nI t), .int (nI dd)], aI E hm 8 mn] 0 0 := by
    intro j4
    induction j4 with
    | zero => intro vc vb hI hM; exact absurd hM (Nat.not_lt_zero _)
    | succ j4 ih4 =>
      intro vc vb hI4 hM4
      obtain ⟨hc, hb⟩ := id hI4
      refine v_iload_n X dX2_pressedOn_4 rfl 3 rfl ?_
      refine v_bipush X dX2_pressedOn_5 (v := nI 8) (by decide) ?_
      refine v_icmpN_ge X dX2_pressedOn_7 (tgt := 32) (by decide) (by omega) (by decide) (fun h7 => ?_) (fun h7 => ?_)
      · refine v_iload_n X dX2_pressedOn_32 rfl 2 rfl ?_
        exact v_iret X Y dX2_pressedOn_33 (roI_of (by (obtain rfl : vc = 8 := (by omega)); rw [hb])) (by omega) (by omega)
      · refine v_aload_n X dX2_pressedOn_10 rfl 0 rfl ?_
        refine v_get X kcX2 fl_X2_15 dX2_pressedOn_11 0 rfl rfl ?_
        refine v_iload_n X dX2_pressedOn_14 rfl 3 rfl ?_
        refine v_iald X dX2_pressedOn_15 1 rfl (by omega) (by decide) ?_
        refine v_iload_n X dX2_pressedOn_16 rfl 1 rfl ?_
        refine v_icmp_ne X dX2_pressedOn_17 (tgt := 26) (by decide) (fun h17 => ?_) (fun h17 => ?_)
        · refine v_iinc X dX2_pressedOn_26 3 rfl (v := nI (vc + 1)) (nI_inc vc) (by decide) (lv' := [(3, .int (nI (vc + 1))), (0, .ref h), (1, .int m), (2, .int (nI vb))]) rfl ?_
          refine v_goto X dX2_pressedOn_29 (tgt := 4) (by decide) ?_
          refine V.lvs [1, 2, 3, 0] rfl ?_
          exact ih4 (vc + 1) vb (⟨by omega, by rw [hb]; first | exact (bbits_yes (decide_eq_true h17)).symm | exact (bbits_no (decide_eq_false h17)).symm⟩) (by omega)
        · refine v_iload_n X dX2_pressedOn_20 rfl 2 rfl ?_
          refine v_iconst X dX2_pressedOn_21 (v := nI 1) (by decide) ?_
          refine v_iload_n X dX2_pressedOn_22 rfl 3 rfl ?_
          refine v_ishl X dX2_pressedOn_23 ?_
          refine v_eqi (x' := nI (2 ^ vc)) (nI_shl1 (by omega)) ?_
          refine v_ior X dX2_pressedOn_24 ?_
          refine v_eqi (x' := nI (vb ||| (2 ^ vc))) (fa_or _ _) ?_
          refine v_istore_n X dX2_pressedOn_25 rfl (by decide) (lv' := [(2, .int (nI (vb ||| (2 ^ vc)))), (0, .ref h), (1, .int m), (3, .int (nI vc))]) rfl ?_
          refine v_iinc X dX2_pressedOn_26 3 rfl (v := nI (vc + 1)) (nI_inc vc) (by decide) (lv' := [(3, .int (nI (vc + 1))), (2, .int (nI (vb ||| (2 ^ vc)))), (0, .ref h), (1, .int m)]) rfl ?_
          refine v_goto X dX2_pressedOn_29 (tgt := 4) (by decide) ?_
          refine V.lvs [2, 3, 1, 0] rfl ?_
          exact ih4 (vc + 1) (vb ||| (2 ^ vc)) (⟨by omega, by rw [hb]; first | exact (bbits_yes (decide_eq_true h17)).symm | exact (bbits_no (decide_eq_false h17)).symm⟩) (by omega)
  refine V.lvs [2, 3, 1, 0] rfl ?_
  exact L4 _ 0 0 (⟨by omega, rfl⟩) (Nat.lt_succ_self _)
set_option maxRecDepth 100000 in
set_option maxHeartbeats 4000000 in
theorem c_X2_inkOf (l : Launch) (E : Et) (h : Nat) (hi : Nat) (hm : Nat) (t : Nat) (dd : Nat) (ink : Nat → Nat) (bs : Nat) (hbs : bs < 2 ^ 31) : Ct l E yX2_inkOf cX2_inkOf 4 (some .int) 1 0 0 [.ref h, .int (nI bs)] [ob h 2 [.ref hi, .ref hm, .int (nI t), .int (nI dd)], aN E hi 8 ink] (roI [ob h 2 [.ref hi, .ref hm, .int (nI t), .int (nI dd)], aN E hi 8 ink] (nI (fb_sm (fun c => if bs.testBit c then ink c else 0) 8))) := by
  refine Ct.intro (by decide +kernel) (Nat.le_of_ble_eq_true rfl) (lv := [(0, .ref h), (1, .int (nI bs))]) rfl ?_
  intro Z X Y
  refine v_iconst X dX2_inkOf_0 (v := nI 0) (by decide) ?_
  refine v_istore_n X dX2_inkOf_1 rfl (by decide) (lv' := [(2, .int (nI 0)), (0, .ref h), (1, .int (nI bs))]) rfl ?_
  refine v_iconst X dX2_inkOf_2 (v := nI 0) (by decide) ?_
  refine v_istore_n X dX2_inkOf_3 rfl (by decide) (lv' := [(3, .int (nI 0)), (2, .int (nI 0)), (0, .ref h), (1, .int (nI bs))]) rfl ?_
  have L4 : ∀ (j4 : Nat) (vc : Nat) (vb : Nat), (vc ≤ 8 ∧ vb = fb_sm (fun c => if bs.testBit c then ink c else 0) vc) → 8 - vc < j4 → V E Z 4 [(0, .ref h), (1, .int (nI bs)), (2, .int (nI vb)), (3, .int (nI vc))] [] [ob h 2 [.ref hi, .ref hm, .int (nI t), .int (nI dd)], aN E hi 8 ink] 0 0 := by
    intro j4
    induction j4 with
    | zero => intro vc vb hI hM; exact absurd hM (Nat.not_lt_zero _)
    | succ j4 ih4 =>
      intro vc vb hI4 hM4
      obtain ⟨hc, hb⟩ := id hI4
      refine v_iload_n X dX2_inkOf_4 rfl 3 rfl ?_
      refine v_bipush X dX2_inkOf_5 (v := nI 8) (by decide) ?_
      refine v_icmpN_ge X dX2_inkOf_7 (tgt := 34) (by decide) (by omega) (by decide) (fun h7 => ?_) (fun h7 => ?_)
      · refine v_iload_n X dX2_inkOf_34 rfl 2 rfl ?_
        exact v_iret X Y dX2_inkOf_35 (roI_of (by (obtain rfl : vc = 8 := (by omega)); rw [hb])) (by omega) (by omega)
      · refine v_iload_n X dX2_inkOf_10 rfl 1 rfl ?_
        refine v_i2l X dX2_inkOf_11 (v := lN bs) (nI_l (by omega)) ?_
        refine v_iload_n X dX2_inkOf_12 rfl 3 rfl ?_
        refine v_roI1 X (rn_SN X k_X6_isIn ml_X2_25 dX2_inkOf_13 (c_X6_isIn l E bs vc (by omega) (by omega)) rfl (by decide) (by decide) (by omega) (by omega) (Nat.le_of_ble_eq_true rfl)) [] rfl rfl ?_
        refine v_ifB_eq X dX2_inkOf_16 (tgt := 28) (by decide) (fun h16 => ?_) (fun h16 => ?_)
        · refine v_iinc X dX2_inkOf_28 3 rfl (v := nI (vc + 1)) (nI_inc vc) (by decide) (lv' := [(3, .int (nI (vc + 1))), (0, .ref h), (1, .int (nI bs)), (2, .int (nI vb))]) rfl ?_
          refine v_goto X dX2_inkOf_31 (tgt := 4) (by decide) ?_
          refine V.lvs [1, 2, 3, 0] rfl ?_
          exact ih4 (vc + 1) vb (⟨by omega, by rw [hb, fb_sm]; simp [h16]⟩) (by omega)
        · refine v_iload_n X dX2_inkOf_19 rfl 2 rfl ?_
          refine v_aload_n X dX2_inkOf_20 rfl 0 rfl ?_
          refine v_get X kcX2 fl_X2_9 dX2_inkOf_21 0 rfl rfl ?_
          refine v_iload_n X dX2_inkOf_24 rfl 3 rfl ?_
          refine v_iald X dX2_inkOf_25 1 rfl (by omega) (by decide) ?_
          refine v_iadd X dX2_inkOf_26 ?_
          refine v_eqi (x' := nI (vb + (ink vc))) (nI_add _ _) ?_
          refine v_istore_n X dX2_inkOf_27 rfl (by decide) (lv' := [(2, .int (nI (vb + (ink vc)))), (0, .ref h), (1, .int (nI bs)), (3, .int (nI vc))]) rfl ?_
          refine v_iinc X dX2_inkOf_28 3 rfl (v := nI (vc + 1)) (nI_inc vc) (by decide) (lv' := [(3, .int (nI (vc + 1))), (2, .int (nI (vb + (ink vc)))), (0, .ref h), (1, .int (nI bs))]) rfl ?_
          refine v_goto X dX2_inkOf_31 (tgt := 4) (by decide) ?_
          refine V.lvs [2, 3, 1, 0] rfl ?_
          exact ih4 (vc + 1) (vb + (ink vc)) (⟨by omega, by rw [hb, fb_sm]; simp [h16]⟩) (by omega)
  refine V.lvs [2, 3, 1, 0] rfl ?_
  exact L4 _ 0 0 (⟨by omega, rfl⟩) (Nat.lt_succ_self _)
