set_option maxRecDepth 100000 in
set_option maxHeartbeats 4000000 in
theorem c_X4_lineSort (l : Launch) (E : Et) (hr : Nat) (ra : Nat → Nat) (fd : Nat) (re : Nat) (rk : Nat) (rp : Nat) (rn : Nat) (rv : Int64) (rh : Bool) (rc : Nat) (rf : Nat) (rw : Int32) (kwd : Nat → Int64) (hrk : rk ≤ 5) : Ct l E yX4_lineSort cX4_lineSort 2 (some .int) 0 0 0 [.ref hr] [ob hr 4 [.ref (ra 0), .int (nI fd), .ref (ra 2), .ref (ra 3), .int (nI re), .int (nI rk), .int (nI rp), .int (nI rn), .long rv, .int (nI (rh).toNat), .ref (ra 10), .ref (ra 11), .ref (ra 12), .int (nI rc), .int (nI rf), .int rw], aL E (ra 2) 6 kwd] (roI [ob hr 4 [.ref (ra 0), .int (nI fd), .ref (ra 2), .ref (ra 3), .int (nI re), .int (nI rk), .int (nI rp), .int (nI rn), .long rv, .int (nI (rh).toNat), .ref (ra 10), .ref (ra 11), .ref (ra 12), .int (nI rc), .int (nI rf), .int rw], aL E (ra 2) 6 kwd] (optJ (fst_ (lsP rk rv kwd) 6 0))) := by
  refine Ct.intro (by decide +kernel) (Nat.le_of_ble_eq_true rfl) (lv := [(0, .ref hr)]) rfl ?_
  intro Z X Y
  refine v_iconst X dX4_lineSort_0 (v := nI 0) (by decide) ?_
  refine v_istore_n X dX4_lineSort_1 rfl (by decide) (lv' := [(1, .int (nI 0)), (0, .ref hr)]) rfl ?_
  have L2 : ∀ (j2 : Nat) (vs : Nat), (vs ≤ 6 ∧ fst_ (lsP rk rv kwd) 6 0 = fst_ (lsP rk rv kwd) (6 - vs) vs) → 6 - vs < j2 → V E Z 2 [(0, .ref hr), (1, .int (nI vs))] [] [ob hr 4 [.ref (ra 0), .int (nI fd), .ref (ra 2), .ref (ra 3), .int (nI re), .int (nI rk), .int (nI rp), .int (nI rn), .long rv, .int (nI (rh).toNat), .ref (ra 10), .ref (ra 11), .ref (ra 12), .int (nI rc), .int (nI rf), .int rw], aL E (ra 2) 6 kwd] 0 0 := by
    intro j2
    induction j2 with
    | zero => intro vs hI hM; exact absurd hM (Nat.not_lt_zero _)
    | succ j2 ih2 =>
      intro vs hI2 hM2
      obtain ⟨hc, hq⟩ := id hI2
      refine v_iload_n X dX4_lineSort_2 rfl 1 rfl ?_
      refine v_aload_n X dX4_lineSort_3 rfl 0 rfl ?_
      refine v_get X kcX4 fl_X4_42 dX4_lineSort_4 0 rfl rfl ?_
      refine v_alen X dX4_lineSort_7 1 1 rfl rfl (v := nI 6) rfl ?_
      refine v_icmpN_ge X dX4_lineSort_8 (tgt := 41) (by decide) (by omega) (by decide) (fun h8 => ?_) (fun h8 => ?_)
      · refine v_iconst X dX4_lineSort_41 (v := (-1)) (by decide) ?_
        exact v_iret X Y dX4_lineSort_42 (roI_of (by rw [hq, show 6 - vs = 0 by omega]; rfl)) (by omega) (by omega)
      · refine v_aload_n X dX4_lineSort_11 rfl 0 rfl ?_
        refine v_get X kcX4 fl_X4_90 dX4_lineSort_12 0 rfl rfl ?_
        refine v_iconst X dX4_lineSort_15 (v := nI 1) (by decide) ?_
        refine v_icmpN_ne X dX4_lineSort_16 (tgt := 35) (by decide) (by omega) (by decide) (fun h16 => ?_) (fun h16 => ?_)
        · refine v_iinc X dX4_lineSort_35 1 rfl (v := nI (vs + 1)) (nI_inc vs) (by decide) (lv' := [(1, .int (nI (vs + 1))), (0, .ref hr)]) rfl ?_
          refine v_goto X dX4_lineSort_38 (tgt := 2) (by decide) ?_
          refine V.lvs [1, 0] rfl ?_
          exact ih2 (vs + 1) (⟨by omega, hq.trans (fst_no (by omega) (decide_eq_false (fun q => h16 q.1)))⟩) (by omega)
        · refine v_aload_n X dX4_lineSort_19 rfl 0 rfl ?_
          refine v_get X kcX4 fl_X4_114 dX4_lineSort_20 0 rfl rfl ?_
          refine v_aload_n X dX4_lineSort_23 rfl 0 rfl ?_
          refine v_get X kcX4 fl_X4_42 dX4_lineSort_24 0 rfl rfl ?_
          refine v_iload_n X dX4_lineSort_27 rfl 1 rfl ?_
          refine v_lald X dX4_lineSort_28 1 rfl (by omega) (by decide) ?_
          refine v_lcmp X dX4_lineSort_29 ?_
          refine v_ifL_ne X dX4_lineSort_30 (tgt := 35) (by decide) (fun h30 => ?_) (fun h30 => ?_)
          · refine v_iinc X dX4_lineSort_35 1 rfl (v := nI (vs + 1)) (nI_inc vs) (by decide) (lv' := [(1, .int (nI (vs + 1))), (0, .ref hr)]) rfl ?_
            refine v_goto X dX4_lineSort_38 (tgt := 2) (by decide) ?_
            refine V.lvs [1, 0] rfl ?_
            exact ih2 (vs + 1) (⟨by omega, hq.trans (fst_no (by omega) (decide_eq_false (fun q => h30 q.2)))⟩) (by omega)
          · refine v_iload_n X dX4_lineSort_33 rfl 1 rfl ?_
            exact v_iret X Y dX4_lineSort_34 (roI_of (by rw [hq, fst_hit (p := lsP rk rv kwd) (by omega) (decide_eq_true ⟨h16, h30⟩)]; rfl)) (by omega) (by omega)
  refine V.lvs [1, 0] rfl ?_
  exact L2 _ 0 (⟨by omega, rfl⟩) (Nat.lt_succ_self _)
set_option maxRecDepth 100000 in
set_option maxHeartbeats 4000000 in
theorem c_X4_nameHere (l : Launch) (E : Et) (hr : Nat) (ra : Nat → Nat) (fd : Nat) (re : Nat) (rk : Nat) (rp : Nat) (rn : Nat) (rv : Int64) (rh : Bool) (rc : Nat) (rf : Nat) (rw : Int32) (nms : Nat → Int64) (hrc : rc ≤ 18) : Ct l E yX4_nameHere cX4_nameHere 2 (some .int) 0 0 0 [.ref hr] [ob hr 4 [.ref (ra 0), .int (nI fd), .ref (ra 2), .ref (ra 3), .int (nI re), .int (nI rk), .int (nI rp), .int (nI rn), .long rv, .int (nI (rh).toNat), .ref (ra 10), .ref (ra 11), .ref (ra 12), .int (nI rc), .int (nI rf), .int rw], aL E (ra 10) 18 nms] (roI [ob hr 4 [.ref (ra 0), .int (nI fd), .ref (ra 2), .ref (ra 3), .int (nI re), .int (nI rk), .int (nI rp), .int (nI rn), .long rv, .int (nI (rh).toNat), .ref (ra 10), .ref (ra 11), .ref (ra 12), .int (nI rc), .int (nI rf), .int rw], aL E (ra 10) 18 nms] (optJ (fst_ (fun i => decide (nms i = rv)) rc 0))) := by
  refine Ct.intro (by decide +kernel) (Nat.le_of_ble_eq_true rfl) (lv := [(0, .ref hr)]) rfl ?_
  intro Z X Y
  refine v_iconst X dX4_nameHere_0 (v := nI 0) (by decide) ?_
  refine v_istore_n X dX4_nameHere_1 rfl (by decide) (lv' := [(1, .int (nI 0)), (0, .ref hr)]) rfl ?_
  have L2 : ∀ (j2 : Nat) (vi : Nat), (vi ≤ rc ∧ fst_ (fun i => decide (nms i = rv)) rc 0 = fst_ (fun i => decide (nms i = rv)) (rc - vi) vi) → rc - vi < j2 → V E Z 2 [(0, .ref hr), (1, .int (nI vi))] [] [ob hr 4 [.ref (ra 0), .int (nI fd), .ref (ra 2), .ref (ra 3), .int (nI re), .int (nI rk), .int (nI rp), .int (nI rn), .long rv, .int (nI (rh).toNat), .ref (ra 10), .ref (ra 11), .ref (ra 12), .int (nI rc), .int (nI rf), .int rw], aL E (ra 10) 18 nms] 0 0 := by
    intro j2
    induction j2 with
    | zero => intro vi hI hM; exact absurd hM (Nat.not_lt_zero _)
    | succ j2 ih2 =>
      intro vi hI2 hM2
      obtain ⟨hc, hq⟩ := id hI2
      refine v_iload_n X dX4_nameHere_2 rfl 1 rfl ?_
      refine v_aload_n X dX4_nameHere_3 rfl 0 rfl ?_
      refine v_get X kcX4 fl_X4_70 dX4_nameHere_4 0 rfl rfl ?_
      refine v_icmpN_ge X dX4_nameHere_7 (tgt := 38) (by decide) (by omega) (by omega) (fun h7 => ?_) (fun h7 => ?_)
      · refine v_iconst X dX4_nameHere_38 (v := (-1)) (by decide) ?_
        exact v_iret X Y dX4_nameHere_39 (roI_of (by rw [hq, show rc - vi = 0 by omega]; rfl)) (by omega) (by omega)
      · refine v_iload_n X dX4_nameHere_10 rfl 1 rfl ?_
        refine v_bipush X dX4_nameHere_11 (v := nI 18) (by decide) ?_
        refine v_icmpN_ge X dX4_nameHere_13 (tgt := 38) (by decide) (by omega) (by decide) (fun h13 => ?_) (fun h13 => ?_)
        · exfalso; omega
        · refine v_aload_n X dX4_nameHere_16 rfl 0 rfl ?_
          refine v_get X kcX4 fl_X4_15 dX4_nameHere_17 0 rfl rfl ?_
          refine v_iload_n X dX4_nameHere_20 rfl 1 rfl ?_
          refine v_lald X dX4_nameHere_21 1 rfl (by omega) (by decide) ?_
          refine v_aload_n X dX4_nameHere_22 rfl 0 rfl ?_
          refine v_get X kcX4 fl_X4_114 dX4_nameHere_23 0 rfl rfl ?_
          refine v_lcmp X dX4_nameHere_26 ?_
          refine v_ifL_ne X dX4_nameHere_27 (tgt := 32) (by decide) (fun h27 => ?_) (fun h27 => ?_)
          · refine v_iinc X dX4_nameHere_32 1 rfl (v := nI (vi + 1)) (nI_inc vi) (by decide) (lv' := [(1, .int (nI (vi + 1))), (0, .ref hr)]) rfl ?_
            refine v_goto X dX4_nameHere_35 (tgt := 2) (by decide) ?_
            refine V.lvs [1, 0] rfl ?_
            exact ih2 (vi + 1) (⟨by omega, hq.trans (fst_no (by omega) (decide_eq_false h27))⟩) (by omega)
          · refine v_iload_n X dX4_nameHere_30 rfl 1 rfl ?_
            exact v_iret X Y dX4_nameHere_31 (roI_of (by rw [hq, fst_hit (p := fun i => decide (nms i = rv)) (by omega) (decide_eq_true h27)]; rfl)) (by omega) (by omega)
  refine V.lvs [1, 0] rfl ?_
  exact L2 _ 0 (⟨by omega, rfl⟩) (Nat.lt_succ_self _)
set_option maxRecDepth 100000 in
set_option maxHeartbeats 4000000 in
theorem c_X4_isName (l : Launch) (E : Et) (hr : Nat) (ra : Nat → Nat) (fd : Nat) (re : Nat) (rk : Nat) (rp : Nat) (rn : Nat) (rv : Int64) (rh : Bool) (rc : Nat) (rf : Nat) (rw : Int32) (kwd : Nat → Int64) (hrk : rk ≤ 5) : Ct l E yX4_isName cX4_isName 1 (some .boolean) 1 0 0 [.ref hr] [ob hr 4 [.ref (ra 0), .int (nI fd), .ref (ra 2), .ref (ra 3), .int (nI re), .int (nI rk), .int (nI rp), .int (nI rn), .long rv, .int (nI (rh).toNat), .ref (ra 10), .ref (ra 11), .ref (ra 12), .int (nI rc), .int (nI rf), .int rw], aL E (ra 2) 6 kwd] (roI [ob hr 4 [.ref (ra 0), .int (nI fd), .ref (ra 2), .ref (ra 3), .int (nI re), .int (nI rk), .int (nI rp), .int (nI rn), .long rv, .int (nI (rh).toNat), .ref (ra 10), .ref (ra 11), .ref (ra 12), .int (nI rc), .int (nI rf), .int rw], aL E (ra 2) 6 kwd] (nI (decide (rk = 1 ∧ fst_ (lsP rk rv kwd) 6 0 = none)).toNat)) := by
  refine Ct.intro (by decide +kernel) (Nat.le_of_ble_eq_true rfl) (lv := [(0, .ref hr)]) rfl ?_
  intro Z X Y
  refine v_aload_n X dX4_isName_0 rfl 0 rfl ?_
  refine v_get X kcX4 fl_X4_90 dX4_isName_1 0 rfl rfl ?_
  refine v_iconst X dX4_isName_4 (v := nI 1) (by decide) ?_
  refine v_icmpN_ne X dX4_isName_5 (tgt := 20) (by decide) (by omega) (by decide) (fun h5 => ?_) (fun h5 => ?_)
  · refine v_iconst X dX4_isName_20 (v := nI 0) (by decide) ?_
    exact v_zret X Y dX4_isName_21 (by decide) (roI_of (bo0 (decide_eq_false (fun q => h5 q.1)))) (by omega) (by omega)
  · refine v_aload_n X dX4_isName_8 rfl 0 rfl ?_
    refine v_roI1 X (rn_V X k_X4_lineSort ml_X4_134 dX4_isName_9 (c_X4_lineSort l E hr ra fd re rk rp rn rv rh rc rf rw kwd (by first | assumption | omega)) rfl 0 rfl rfl (by decide) (by decide) (by omega) (by omega) (Nat.le_of_ble_eq_true rfl)) [0, 1] rfl rfl ?_
    refine v_iconst X dX4_isName_12 (v := (-1)) (by decide) ?_
    refine v_icmp_ne X dX4_isName_13 (tgt := 20) (by decide) (fun h13 => ?_) (fun h13 => ?_)
    · refine v_iconst X dX4_isName_20 (v := nI 0) (by decide) ?_
      exact v_zret X Y dX4_isName_21 (by decide) (roI_of (bo0 (decide_eq_false (fun q => h13 ((optJ_ne (n := 6) (fun q h => by have := (fst_lt _ _ _ h).1; omega) (by decide)).mpr q.2))))) (by omega) (by omega)
    · refine v_iconst X dX4_isName_16 (v := nI 1) (by decide) ?_
      refine v_goto X dX4_isName_17 (tgt := 21) (by decide) ?_
      exact v_zret X Y dX4_isName_21 (by decide) (roI_of (bo1 (decide_eq_true ⟨h5, (optJ_ne (n := 6) (fun q h => by have := (fst_lt _ _ _ h).1; omega) (by decide)).mp h13⟩))) (by omega) (by omega)
set_option maxRecDepth 100000 in
set_option maxHeartbeats 4000000 in
theorem c_X4_isFull (l : Launch) (E : Et) (hr : Nat) (ra : Nat → Nat) (fd : Nat) (re : Nat) (rk : Nat) (rp : Nat) (rn : Nat) (rv : Int64) (rh : Bool) (rc : Nat) (rf : Nat) (rw : Int32) (cy : Nat → Nat) (ca : Nat → Nat) (so : Nat) (hso : so ≤ 5) (hcy : ∀ k, cy k < 2 ^ 31) : Ct l E yX4_isFull cX4_isFull 2 (some .boolean) 0 0 0 [.ref hr, .int (nI so)] [ob hr 4 [.ref (ra 0), .int (nI fd), .ref (ra 2), .ref (ra 3), .int (nI re), .int (nI rk), .int (nI rp), .int (nI rn), .long rv, .int (nI (rh).toNat), .ref (ra 10), .ref (ra 11), .ref (ra 12), .int (nI rc), .int (nI rf), .int rw], ob (ra 3) 0 [.int (nI (cy 0)), .int (nI (cy 1)), .int (nI (cy 2)), .int (nI (cy 3)), .int (nI (cy 4)), .int (nI (cy 5)), .int (nI (cy 6)), .int (nI (cy 7)), .ref (ca 0), .ref (ca 1), .ref (ca 2), .ref (ca 3), .ref (ca 4), .ref (ca 5), .ref (ca 6), .ref (ca 7), .ref (ca 8), .ref (ca 9), .ref (ca 10), .ref (ca 11)]] (roI [ob hr 4 [.ref (ra 0), .int (nI fd), .ref (ra 2), .ref (ra 3), .int (nI re), .int (nI rk), .int (nI rp), .int (nI rn), .long rv, .int (nI (rh).toNat), .ref (ra 10), .ref (ra 11), .ref (ra 12), .int (nI rc), .int (nI rf), .int rw], ob (ra 3) 0 [.int (nI (cy 0)), .int (nI (cy 1)), .int (nI (cy 2)), .int (nI (cy 3)), .int (nI (cy 4)), .int (nI (cy 5)), .int (nI (cy 6)), .int (nI (cy 7)), .ref (ca 0), .ref (ca 1), .ref (ca 2), .ref (ca 3), .ref (ca 4), .ref (ca 5), .ref (ca 6), .ref (ca 7), .ref (ca 8), .ref (ca 9), .ref (ca 10), .ref (ca 11)]] (nI (fuB cy so).toNat)) := by
  refine Ct.intro (by decide +kernel) (Nat.le_of_ble_eq_true rfl) (lv := [(0, .ref hr), (1, .int (nI so))]) rfl ?_
  intro Z X Y
  refine v_iload_n X dX4_isFull_0 rfl 1 rfl ?_
  obtain rfl | rfl | rfl | rfl | rfl | rfl : so = 0 ∨ so = 1 ∨ so = 2 ∨ so = 3 ∨ so = 4 ∨ so = 5 := by omega
  · refine v_swOut X dX4_isFull_1 (Or.inl (by decide)) (tgt := 102) (by decide) ?_
    refine v_aload_n X dX4_isFull_102 rfl 0 rfl ?_
    refine v_get X kcX4 fl_X4_48 dX4_isFull_103 0 rfl rfl ?_
    refine v_getN X kcX0 fl_X4_152 dX4_isFull_106 1 rfl rfl ?_
    refine v_bipush X dX4_isFull_109 (v := nI 6) (by decide) ?_
    refine v_icmpN_lt X dX4_isFull_111 (tgt := 118) (by decide) (hcy _) (by decide) (fun h111 => ?_) (fun h111 => ?_)
    · refine v_iconst X dX4_isFull_118 (v := nI 0) (by decide) ?_
      exact v_zret X Y dX4_isFull_119 (by decide) (roI_of (bo0 (decide_eq_false (by omega)))) (by omega) (by omega)
    · refine v_iconst X dX4_isFull_114 (v := nI 1) (by decide) ?_
      refine v_goto X dX4_isFull_115 (tgt := 119) (by decide) ?_
      exact v_zret X Y dX4_isFull_119 (by decide) (roI_of (bo1 (decide_eq_true (by omega)))) (by omega) (by omega)
  · refine v_swIn X dX4_isFull_1 (by decide) (by decide) (off := 31) (by decide) (tgt := 32) (by decide) ?_
    refine v_aload_n X dX4_isFull_32 rfl 0 rfl ?_
    refine v_get X kcX4 fl_X4_48 dX4_isFull_33 0 rfl rfl ?_
    refine v_getN X kcX0 fl_X4_93 dX4_isFull_36 1 rfl rfl ?_
    refine v_iconst X dX4_isFull_39 (v := nI 4) (by decide) ?_
    refine v_icmpN_lt X dX4_isFull_40 (tgt := 47) (by decide) (hcy _) (by decide) (fun h40 => ?_) (fun h40 => ?_)
    · refine v_iconst X dX4_isFull_47 (v := nI 0) (by decide) ?_
      exact v_zret X Y dX4_isFull_48 (by decide) (roI_of (bo0 (decide_eq_false (by omega)))) (by omega) (by omega)
    · refine v_iconst X dX4_isFull_43 (v := nI 1) (by decide) ?_
      refine v_goto X dX4_isFull_44 (tgt := 48) (by decide) ?_
      exact v_zret X Y dX4_isFull_48 (by decide) (roI_of (bo1 (decide_eq_true (by omega)))) (by omega) (by omega)
  · refine v_swIn X dX4_isFull_1 (by decide) (by decide) (off := 48) (by decide) (tgt := 49) (by decide) ?_
    refine v_aload_n X dX4_isFull_49 rfl 0 rfl ?_
    refine v_get X kcX4 fl_X4_48 dX4_isFull_50 0 rfl rfl ?_
    refine v_getN X kcX0 fl_X4_96 dX4_isFull_53 1 rfl rfl ?_
    refine v_bipush X dX4_isFull_56 (v := nI 6) (by decide) ?_
    refine v_icmpN_lt X dX4_isFull_58 (tgt := 65) (by decide) (hcy _) (by decide) (fun h58 => ?_) (fun h58 => ?_)
    · refine v_iconst X dX4_isFull_65 (v := nI 0) (by decide) ?_
      exact v_zret X Y dX4_isFull_66 (by decide) (roI_of (bo0 (decide_eq_false (by omega)))) (by omega) (by omega)
    · refine v_iconst X dX4_isFull_61 (v := nI 1) (by decide) ?_
      refine v_goto X dX4_isFull_62 (tgt := 66) (by decide) ?_
      exact v_zret X Y dX4_isFull_66 (by decide) (roI_of (bo1 (decide_eq_true (by omega)))) (by omega) (by omega)
  · refine v_swIn X dX4_isFull_1 (by decide) (by decide) (off := 66) (by decide) (tgt := 67) (by decide) ?_
    refine v_aload_n X dX4_isFull_67 rfl 0 rfl ?_
    refine v_get X kcX4 fl_X4_48 dX4_isFull_68 0 rfl rfl ?_
    refine v_getN X kcX0 fl_X4_147 dX4_isFull_71 1 rfl rfl ?_
    refine v_bipush X dX4_isFull_74 (v := nI 8) (by decide) ?_
    refine v_icmpN_lt X dX4_isFull_76 (tgt := 83) (by decide) (hcy _) (by decide) (fun h76 => ?_) (fun h76 => ?_)
    · refine v_iconst X dX4_isFull_83 (v := nI 0) (by decide) ?_
      exact v_zret X Y dX4_isFull_84 (by decide) (roI_of (bo0 (decide_eq_false (by omega)))) (by omega) (by omega)
    · refine v_iconst X dX4_isFull_79 (v := nI 1) (by decide) ?_
      refine v_goto X dX4_isFull_80 (tgt := 84) (by decide) ?_
      exact v_zret X Y dX4_isFull_84 (by decide) (roI_of (bo1 (decide_eq_true (by omega)))) (by omega) (by omega)
  · refine v_swIn X dX4_isFull_1 (by decide) (by decide) (off := 84) (by decide) (tgt := 85) (by decide) ?_
    refine v_aload_n X dX4_isFull_85 rfl 0 rfl ?_
    refine v_get X kcX4 fl_X4_48 dX4_isFull_86 0 rfl rfl ?_
    refine v_getN X kcX0 fl_X4_150 dX4_isFull_89 1 rfl rfl ?_
    refine v_iconst X dX4_isFull_92 (v := nI 5) (by decide) ?_
    refine v_icmpN_lt X dX4_isFull_93 (tgt := 100) (by decide) (hcy _) (by decide) (fun h93 => ?_) (fun h93 => ?_)
    · refine v_iconst X dX4_isFull_100 (v := nI 0) (by decide) ?_
      exact v_zret X Y dX4_isFull_101 (by decide) (roI_of (bo0 (decide_eq_false (by omega)))) (by omega) (by omega)
    · refine v_iconst X dX4_isFull_96 (v := nI 1) (by decide) ?_
      refine v_goto X dX4_isFull_97 (tgt := 101) (by decide) ?_
      exact v_zret X Y dX4_isFull_101 (by decide) (roI_of (bo1 (decide_eq_true (by omega)))) (by omega) (by omega)
  · refine v_swOut X dX4_isFull_1 (Or.inr (by decide)) (tgt := 102) (by decide) ?_
    refine v_aload_n X dX4_isFull_102 rfl 0 rfl ?_
    refine v_get X kcX4 fl_X4_48 dX4_isFull_103 0 rfl rfl ?_
    refine v_getN X kcX0 fl_X4_152 dX4_isFull_106 1 rfl rfl ?_
    refine v_bipush X dX4_isFull_109 (v := nI 6) (by decide) ?_
    refine v_icmpN_lt X dX4_isFull_111 (tgt := 118) (by decide) (hcy _) (by decide) (fun h111 => ?_) (fun h111 => ?_)
    · refine v_iconst X dX4_isFull_118 (v := nI 0) (by decide) ?_
      exact v_zret X Y dX4_isFull_119 (by decide) (roI_of (bo0 (decide_eq_false (by omega)))) (by omega) (by omega)
    · refine v_iconst X dX4_isFull_114 (v := nI 1) (by decide) ?_
      refine v_goto X dX4_isFull_115 (tgt := 119) (by decide) ?_
      exact v_zret X Y dX4_isFull_119 (by decide) (roI_of (bo1 (decide_eq_true (by omega)))) (by omega) (by omega)
set_option maxRecDepth 100000 in
set_option maxHeartbeats 4000000 in
theorem c_X4_passes (l : Launch) (E : Et) (hr : Nat) (ra : Nat → Nat) (fd : Nat) (re : Nat) (rk : Nat) (rp : Nat) (rn : Nat) (rv : Int64) (rh : Bool) (rc : Nat) (rf : Nat) (rw : Int32) (tp : Nat → Int32) (b : Bool) (hre : re ≤ 900) (hrn : rn ≤ re) : Ct l E yX4_passes cX4_passes 2 (some .boolean) 3 0 0 [.ref hr, .int (nI (b).toNat)] [ob hr 4 [.ref (ra 0), .int (nI fd), .ref (ra 2), .ref (ra 3), .int (nI re), .int (nI rk), .int (nI rp), .int (nI rn), .long rv, .int (nI (rh).toNat), .ref (ra 10), .ref (ra 11), .ref (ra 12), .int (nI rc), .int (nI rf), .int rw], aB E (ra 0) 900 tp] (wrI [ob hr 4 [.ref (ra 0), .int (nI fd), .ref (ra 2), .ref (ra 3), .int (nI re), .int (nI ((psF tp re b ((rk, rp, rn, rv), rf, rw)).2.1.1)), .int (nI ((psF tp re b ((rk, rp, rn, rv), rf, rw)).2.1.2.1)), .int (nI ((psF tp re b ((rk, rp, rn, rv), rf, rw)).2.1.2.2.1)), .long ((psF tp re b ((rk, rp, rn, rv), rf, rw)).2.1.2.2.2), .int (nI (rh).toNat), .ref (ra 10), .ref (ra 11), .ref (ra 12), .int (nI rc), .int (nI ((psF tp re b ((rk, rp, rn, rv), rf, rw)).2.2.1)), .int ((psF tp re b ((rk, rp, rn, rv), rf, rw)).2.2.2)], aB E (ra 0) 900 tp] (nI ((psF tp re b ((rk, rp, rn, rv), rf, rw)).1).toNat)) := by
  refine Ct.intro (by decide +kernel) (Nat.le_of_ble_eq_true rfl) (lv := [(0, .ref hr), (1, .int (nI (b).toNat))]) rfl ?_
  intro Z X Y
  refine v_iload_n X dX4_passes_0 rfl 1 rfl ?_
  refine v_ifB_ne X dX4_passes_1 (tgt := 10) (by decide) (fun h1 => ?_) (fun h1 => ?_)
  · refine v_aload_n X dX4_passes_10 rfl 0 rfl ?_
    refine v_wrV1 X (rn_V X k_X4_advance ml_X4_83 dX4_passes_11 (c_X4_advance l E hr ra fd re rk rp rn rv rh rc rf rw tp (by first | assumption | omega) (by first | assumption | omega)) rfl 0 rfl rfl (by decide) (by decide) (by omega) (by omega) (Nat.le_of_ble_eq_true rfl)) [0, 1] rfl rfl (ws' := [ob hr 4 [.ref (ra 0), .int (nI fd), .ref (ra 2), .ref (ra 3), .int (nI re), .int (nI ((advF tp re rn rv).1)), .int (nI ((advF tp re rn rv).2.1)), .int (nI ((advF tp re rn rv).2.2.1)), .long ((advF tp re rn rv).2.2.2), .int (nI (rh).toNat), .ref (ra 10), .ref (ra 11), .ref (ra 12), .int (nI rc), .int (nI rf), .int rw], aB E (ra 0) 900 tp]) rfl rfl ?_
    refine v_iconst X dX4_passes_14 (v := nI 1) (by decide) ?_
    exact v_zret X Y dX4_passes_15 (by decide) (wrI_of (by rw [h1]; rfl) (by rw [h1]; rfl)) (by omega) (by omega)
  · refine v_aload_n X dX4_passes_4 rfl 0 rfl ?_
    refine v_iconst X dX4_passes_5 (v := nI 1) (by decide) ?_
    refine v_wrI1 X (rn_V X k_X4_fails ml_X4_99 dX4_passes_6 (c_X4_fails l E hr ra fd re rk rp rn rv rh rc rf rw 1 ) rfl 0 rfl rfl (by decide) (by decide) (by omega) (by omega) (Nat.le_of_ble_eq_true rfl)) [0] rfl rfl (ws' := [ob hr 4 [.ref (ra 0), .int (nI fd), .ref (ra 2), .ref (ra 3), .int (nI re), .int (nI rk), .int (nI rp), .int (nI rn), .long rv, .int (nI (rh).toNat), .ref (ra 10), .ref (ra 11), .ref (ra 12), .int (nI rc), .int (nI 1), .int (nI rp)], aB E (ra 0) 900 tp]) rfl rfl ?_
    exact v_zret X Y dX4_passes_9 (by decide) (wrI_of (by rw [h1]; rfl) (by rw [h1]; rfl)) (by omega) (by omega)
set_option maxRecDepth 100000 in
set_option maxHeartbeats 4000000 in
theorem c_X4_passWhole (l : Launch) (E : Et) (hr : Nat) (ra : Nat → Nat) (fd : Nat) (re : Nat) (rk : Nat) (rp : Nat) (rn : Nat) (rv : Int64) (rh : Bool) (rc : Nat) (rf : Nat) (rw : Int32) (tp : Nat → Int32) (lo : Int32) (hi : Int32) (hre : re ≤ 900) (hrn : rn ≤ re) (hrk : rk ≤ 5) : Ct l E yX4_passWhole cX4_passWhole 4 (some .int) 3 0 0 [.ref hr, .int lo, .int hi] [ob hr 4 [.ref (ra 0), .int (nI fd), .ref (ra 2), .ref (ra 3), .int (nI re), .int (nI rk), .int (nI rp), .int (nI rn), .long rv, .int (nI (rh).toNat), .ref (ra 10), .ref (ra 11), .ref (ra 12), .int (nI rc), .int (nI rf), .int rw], aB E (ra 0) 900 tp] (wrI [ob hr 4 [.ref (ra 0), .int (nI fd), .ref (ra 2), .ref (ra 3), .int (nI re), .int (nI ((pwF tp re lo hi ((rk, rp, rn, rv), rf, rw)).2.1.1)), .int (nI ((pwF tp re lo hi ((rk, rp, rn, rv), rf, rw)).2.1.2.1)), .int (nI ((pwF tp re lo hi ((rk, rp, rn, rv), rf, rw)).2.1.2.2.1)), .long ((pwF tp re lo hi ((rk, rp, rn, rv), rf, rw)).2.1.2.2.2), .int (nI (rh).toNat), .ref (ra 10), .ref (ra 11), .ref (ra 12), .int (nI rc), .int (nI ((pwF tp re lo hi ((rk, rp, rn, rv), rf, rw)).2.2.1)), .int ((pwF tp re lo hi ((rk, rp, rn, rv), rf, rw)).2.2.2)], aB E (ra 0) 900 tp] ((pwF tp re lo hi ((rk, rp, rn, rv), rf, rw)).1)) := by
  refine Ct.intro (by decide +kernel) (Nat.le_of_ble_eq_true rfl) (lv := [(0, .ref hr), (1, .int lo), (2, .int hi)]) rfl ?_
  intro Z X Y
  refine v_aload_n X dX4_passWhole_0 rfl 0 rfl ?_
  refine v_get X kcX4 fl_X4_90 dX4_passWhole_1 0 rfl rfl ?_
  refine v_iconst X dX4_passWhole_4 (v := nI 2) (by decide) ?_
  refine v_icmpN_eq X dX4_passWhole_5 (tgt := 16) (by decide) (by omega) (by decide) (fun h5 => ?_) (fun h5 => ?_)
  · refine v_aload_n X dX4_passWhole_16 rfl 0 rfl ?_
    refine v_get X kcX4 fl_X4_114 dX4_passWhole_17 0 rfl rfl ?_
    refine v_iload_n X dX4_passWhole_20 rfl 1 rfl ?_
    refine v_i2l X dX4_passWhole_21 rfl ?_
    refine v_lcmp X dX4_passWhole_22 ?_
    refine v_if_lt X dX4_passWhole_23 (tgt := 36) (by decide) (fun h23 => ?_) (fun h23 => ?_)
    · refine v_aload_n X dX4_passWhole_36 rfl 0 rfl ?_
      refine v_iconst X dX4_passWhole_37 (v := nI 4) (by decide) ?_
      refine v_wrI1 X (rn_V X k_X4_fails ml_X4_99 dX4_passWhole_38 (c_X4_fails l E hr ra fd re rk rp rn rv rh rc rf rw 4 ) rfl 0 rfl rfl (by decide) (by decide) (by omega) (by omega) (Nat.le_of_ble_eq_true rfl)) [0] rfl rfl (ws' := [ob hr 4 [.ref (ra 0), .int (nI fd), .ref (ra 2), .ref (ra 3), .int (nI re), .int (nI rk), .int (nI rp), .int (nI rn), .long rv, .int (nI (rh).toNat), .ref (ra 10), .ref (ra 11), .ref (ra 12), .int (nI rc), .int (nI 4), .int (nI rp)], aB E (ra 0) 900 tp]) rfl rfl ?_
      refine v_pop X dX4_passWhole_41 rfl ?_
      refine v_iconst X dX4_passWhole_42 (v := (-1)) (by decide) ?_
      exact v_iret X Y dX4_passWhole_43 (wrI_of (by rw [pwF, if_neg (fun q => q h5), if_pos (Or.inl ((lg_cmp_lt _ _).mp h23))]) (by rw [pwF, if_neg (fun q => q h5), if_pos (Or.inl ((lg_cmp_lt _ _).mp h23))])) (by omega) (by omega)
    · refine v_aload_n X dX4_passWhole_26 rfl 0 rfl ?_
      refine v_get X kcX4 fl_X4_114 dX4_passWhole_27 0 rfl rfl ?_
      refine v_iload_n X dX4_passWhole_30 rfl 2 rfl ?_
      refine v_i2l X dX4_passWhole_31 rfl ?_
      refine v_lcmp X dX4_passWhole_32 ?_
      refine v_if_le X dX4_passWhole_33 (tgt := 44) (by decide) (fun h33 => ?_) (fun h33 => ?_)
      · refine v_aload_n X dX4_passWhole_44 rfl 0 rfl ?_
        refine v_get X kcX4 fl_X4_114 dX4_passWhole_45 0 rfl rfl ?_
        refine v_l2i X dX4_passWhole_48 rfl ?_
        refine v_istore_n X dX4_passWhole_49 rfl (by decide) (lv' := [(3, .int ((rv).toInt32)), (0, .ref hr), (1, .int lo), (2, .int hi)]) rfl ?_
        refine v_aload_n X dX4_passWhole_50 rfl 1 rfl ?_
        refine v_wrV1 X (rn_V X k_X4_advance ml_X4_83 dX4_passWhole_51 (c_X4_advance l E hr ra fd re rk rp rn rv rh rc rf rw tp (by first | assumption | omega) (by first | assumption | omega)) rfl 0 rfl rfl (by decide) (by decide) (by omega) (by omega) (Nat.le_of_ble_eq_true rfl)) [0, 1] rfl rfl (ws' := [ob hr 4 [.ref (ra 0), .int (nI fd), .ref (ra 2), .ref (ra 3), .int (nI re), .int (nI ((advF tp re rn rv).1)), .int (nI ((advF tp re rn rv).2.1)), .int (nI ((advF tp re rn rv).2.2.1)), .long ((advF tp re rn rv).2.2.2), .int (nI (rh).toNat), .ref (ra 10), .ref (ra 11), .ref (ra 12), .int (nI rc), .int (nI rf), .int rw], aB E (ra 0) 900 tp]) rfl rfl ?_
        refine v_iload_n X dX4_passWhole_54 rfl 0 rfl ?_
        exact v_iret X Y dX4_passWhole_55 (wrI_of (by rw [pwF, if_neg (fun q => q h5), if_neg (fun q => by rcases q with q | q; exact h23 ((lg_cmp_lt _ _).mpr q); exact absurd q (Int64.not_lt.mpr ((lg_cmp_le _ _).mp h33)))]) (by rw [pwF, if_neg (fun q => q h5), if_neg (fun q => by rcases q with q | q; exact h23 ((lg_cmp_lt _ _).mpr q); exact absurd q (Int64.not_lt.mpr ((lg_cmp_le _ _).mp h33)))])) (by omega) (by omega)
      · refine v_aload_n X dX4_passWhole_36 rfl 0 rfl ?_
        refine v_iconst X dX4_passWhole_37 (v := nI 4) (by decide) ?_
        refine v_wrI1 X (rn_V X k_X4_fails ml_X4_99 dX4_passWhole_38 (c_X4_fails l E hr ra fd re rk rp rn rv rh rc rf rw 4 ) rfl 0 rfl rfl (by decide) (by decide) (by omega) (by omega) (Nat.le_of_ble_eq_true rfl)) [0] rfl rfl (ws' := [ob hr 4 [.ref (ra 0), .int (nI fd), .ref (ra 2), .ref (ra 3), .int (nI re), .int (nI rk), .int (nI rp), .int (nI rn), .long rv, .int (nI (rh).toNat), .ref (ra 10), .ref (ra 11), .ref (ra 12), .int (nI rc), .int (nI 4), .int (nI rp)], aB E (ra 0) 900 tp]) rfl rfl ?_
        refine v_pop X dX4_passWhole_41 rfl ?_
        refine v_iconst X dX4_passWhole_42 (v := (-1)) (by decide) ?_
        exact v_iret X Y dX4_passWhole_43 (wrI_of (by rw [pwF, if_neg (fun q => q h5), if_pos (Or.inr (Int64.not_le.mp (fun q => h33 ((lg_cmp_le _ _).mpr q))))]) (by rw [pwF, if_neg (fun q => q h5), if_pos (Or.inr (Int64.not_le.mp (fun q => h33 ((lg_cmp_le _ _).mpr q))))])) (by omega) (by omega)
  · refine v_aload_n X dX4_passWhole_8 rfl 0 rfl ?_
    refine v_iconst X dX4_passWhole_9 (v := nI 1) (by decide) ?_
    refine v_wrI1 X (rn_V X k_X4_fails ml_X4_99 dX4_passWhole_10 (c_X4_fails l E hr ra fd re rk rp rn rv rh rc rf rw 1 ) rfl 0 rfl rfl (by decide) (by decide) (by omega) (by omega) (Nat.le_of_ble_eq_true rfl)) [0] rfl rfl (ws' := [ob hr 4 [.ref (ra 0), .int (nI fd), .ref (ra 2), .ref (ra 3), .int (nI re), .int (nI rk), .int (nI rp), .int (nI rn), .long rv, .int (nI (rh).toNat), .ref (ra 10), .ref (ra 11), .ref (ra 12), .int (nI rc), .int (nI 1), .int (nI rp)], aB E (ra 0) 900 tp]) rfl rfl ?_
    refine v_pop X dX4_passWhole_13 rfl ?_
    refine v_iconst X dX4_passWhole_14 (v := (-1)) (by decide) ?_
    exact v_iret X Y dX4_passWhole_15 (wrI_of (by rw [pwF, if_pos h5]) (by rw [pwF, if_pos h5])) (by omega) (by omega)
