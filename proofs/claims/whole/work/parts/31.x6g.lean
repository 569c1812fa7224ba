set_option maxRecDepth 100000 in
set_option maxHeartbeats 4000000 in
theorem c_X6_day (l : Launch) (E : Et) (x : Nat) (xa : Nat → Nat) (g : Nat) (tr : Nat) (fl : Nat) (pl : Int32) (cy : Nat → Nat) (ca : Nat → Nat) (hi : Nat) (hm : Nat) (t : Nat) (dd : Nat) (ink : Nat → Nat) (mn : Nat → Int32) (pq : Nat → Nat) (o : Nat) (ac : Nat) (im : Nat) (pa : Nat → Nat × Nat × Nat) (pk : Nat → Pv) (hink : ∀ c, ink c ≤ 40) (hmen : cy 3 ≤ 4) (ho : o < 16) (hac : ac ≤ 16) (h3 : ¬ cy 3 = 0) (hdd : dd < 999) : Ct l E yX6_day cX6_day 1 (some .int) 6 0 0 [.ref x] ([ob x 6 [.ref (xa 0), .ref g, .ref (xa 2), .ref (xa 3), .ref (xa 4), .ref (xa 5), .ref (xa 6), .ref (xa 7), .int (nI tr), .int (nI fl), .int pl], ob g 0 [.int (nI (cy 0)), .int (nI (cy 1)), .int (nI (cy 2)), .int (nI (cy 3)), .int (nI (cy 4)), .int (nI (cy 5)), .int (nI (cy 6)), .int (nI (cy 7)), .ref (ca 0), .ref (ca 1), .ref (ca 2), .ref (ca 3), .ref (ca 4), .ref (ca 5), .ref (ca 6), .ref (ca 7), .ref (ca 8), .ref (ca 9), .ref (ca 10), .ref (ca 11)], ob (xa 3) 2 [.ref hi, .ref hm, .int (nI t), .int (nI dd)], aN E hi 8 ink, aI E hm 8 mn, ob (xa 5) 3 [.ref (pq 0), .ref (pq 1), .int (nI o), .int (nI ac), .int (nI im)], aP E (pq 0) 16 (fun i => some (pa i).1)] ++ seg E pa 16 pk) (wrI ([ob x 6 [.ref (xa 0), .ref g, .ref (xa 2), .ref (xa 3), .ref (xa 4), .ref (xa 5), .ref (xa 6), .ref (xa 7), .int (nI 0), .int (nI fl), .int pl], ob g 0 [.int (nI (cy 0)), .int (nI (cy 1)), .int (nI (cy 2)), .int (nI (cy 3)), .int (nI (cy 4)), .int (nI (cy 5)), .int (nI (cy 6)), .int (nI (cy 7)), .ref (ca 0), .ref (ca 1), .ref (ca 2), .ref (ca 3), .ref (ca 4), .ref (ca 5), .ref (ca 6), .ref (ca 7), .ref (ca 8), .ref (ca 9), .ref (ca 10), .ref (ca 11)], ob (xa 3) 2 [.ref hi, .ref hm, .int (nI t), .int (nI (dd + 1))], aN E hi 8 (fun c => ink c - 1), aI E hm 8 mn, ob (xa 5) 3 [.ref (pq 0), .ref (pq 1), .int (nI (kaO ac o)), .int (nI (kaA ac)), .int (nI im)], aP E (pq 0) 16 (fun i => some (pa i).1)] ++ seg E pa 16 (upP pk ((o + ac) % 16) (ink, mn, t, dd))) (nI (lostB ink (fun c => ink c - 1)))) := by
  refine Ct.intro (by decide +kernel) (Nat.le_of_ble_eq_true rfl) (lv := [(0, .ref x)]) rfl ?_
  intro Z X Y
  refine v_aload_n X dX6_day_0 rfl 0 rfl ?_
  refine v_roI1 X (rn_V X k_X6_noCity ml_X6_168 dX6_day_1 (c_X6_noCity l E x xa g tr fl pl cy ca (by first | assumption | omega)) rfl 0 rfl rfl (by decide) (by decide) (by omega) (by omega) (Nat.le_of_ble_eq_true rfl)) [0, 1] rfl rfl ?_
  refine v_ifB_eq X dX6_day_4 (tgt := 13) (by decide) (fun h4 => ?_) (fun h4 => ?_)
  · refine v_aload_n X dX6_day_13 rfl 0 rfl ?_
    refine v_get X kcX6 fl_X6_30 dX6_day_14 0 rfl rfl ?_
    refine v_getN X kcX2 fl_X6_266 dX6_day_17 2 rfl rfl ?_
    refine v_sipush X dX6_day_20 (v := nI 999) (by decide) ?_
    refine v_icmpN_lt X dX6_day_23 (tgt := 32) (by decide) (by omega) (by decide) (fun h23 => ?_) (fun h23 => ?_)
    · refine v_aload_n X dX6_day_32 rfl 0 rfl ?_
      refine v_get X kcX6 fl_X6_39 dX6_day_33 0 rfl rfl ?_
      refine v_aload_n X dX6_day_36 rfl 0 rfl ?_
      refine v_get X kcX6 fl_X6_30 dX6_day_37 0 rfl rfl ?_
      refine v_wrV1 X (rn_VN X k_X3_keepAct ml_X6_269 dX6_day_40 (c_X3_keepAct l E (xa 5) pq o ac im pa pk (xa 3) hi hm t dd ink mn (by first | assumption | omega) (by first | assumption | omega)) rfl 0 rfl rfl (by decide) (by decide) (by omega) (by omega) (Nat.le_of_ble_eq_true rfl)) ([5, 6, 2, 3, 4] ++ List.range' 7 48) (tl_nd 48 [5, 6, 2, 3, 4] rfl (by decide)) (tl_get [5, 6, 2, 3, 4] rfl (sg_len 16 0) rfl) (tl_fst rfl (sg_fst 16 0)) (ws' := ([ob x 6 [.ref (xa 0), .ref g, .ref (xa 2), .ref (xa 3), .ref (xa 4), .ref (xa 5), .ref (xa 6), .ref (xa 7), .int (nI tr), .int (nI fl), .int pl], ob g 0 [.int (nI (cy 0)), .int (nI (cy 1)), .int (nI (cy 2)), .int (nI (cy 3)), .int (nI (cy 4)), .int (nI (cy 5)), .int (nI (cy 6)), .int (nI (cy 7)), .ref (ca 0), .ref (ca 1), .ref (ca 2), .ref (ca 3), .ref (ca 4), .ref (ca 5), .ref (ca 6), .ref (ca 7), .ref (ca 8), .ref (ca 9), .ref (ca 10), .ref (ca 11)], ob (xa 3) 2 [.ref hi, .ref hm, .int (nI t), .int (nI dd)], aN E hi 8 ink, aI E hm 8 mn, ob (xa 5) 3 [.ref (pq 0), .ref (pq 1), .int (nI (kaO ac o)), .int (nI (kaA ac)), .int (nI im)], aP E (pq 0) 16 (fun i => some (pa i).1)] ++ seg E pa 16 (upP pk ((o + ac) % 16) (ink, mn, t, dd)))) (tl_put [5, 6, 2, 3, 4] _ _ rfl (sg_len 16 0) (sg_len 16 0) rfl (by decide)) ?_
      refine v_aload_n X dX6_day_43 rfl 0 rfl ?_
      refine v_aload_n X dX6_day_44 rfl 0 rfl ?_
      refine v_get X kcX6 fl_X6_30 dX6_day_45 0 rfl rfl ?_
      refine v_wrI1 X (rn_VN X k_X2_passDay ml_X6_272 dX6_day_48 (c_X2_passDay l E (xa 3) hi hm t dd ink mn (by first | assumption | omega)) rfl 0 rfl rfl (by decide) (by decide) (by omega) (by omega) (Nat.le_of_ble_eq_true rfl)) [2, 3, 4] rfl rfl (ws' := ([ob x 6 [.ref (xa 0), .ref g, .ref (xa 2), .ref (xa 3), .ref (xa 4), .ref (xa 5), .ref (xa 6), .ref (xa 7), .int (nI tr), .int (nI fl), .int pl], ob g 0 [.int (nI (cy 0)), .int (nI (cy 1)), .int (nI (cy 2)), .int (nI (cy 3)), .int (nI (cy 4)), .int (nI (cy 5)), .int (nI (cy 6)), .int (nI (cy 7)), .ref (ca 0), .ref (ca 1), .ref (ca 2), .ref (ca 3), .ref (ca 4), .ref (ca 5), .ref (ca 6), .ref (ca 7), .ref (ca 8), .ref (ca 9), .ref (ca 10), .ref (ca 11)], ob (xa 3) 2 [.ref hi, .ref hm, .int (nI t), .int (nI (dd + 1))], aN E hi 8 (fun c => ink c - 1), aI E hm 8 mn, ob (xa 5) 3 [.ref (pq 0), .ref (pq 1), .int (nI (kaO ac o)), .int (nI (kaA ac)), .int (nI im)], aP E (pq 0) 16 (fun i => some (pa i).1)] ++ seg E pa 16 (upP pk ((o + ac) % 16) (ink, mn, t, dd)))) rfl rfl ?_
      refine v_wrI1 X (rn_V X k_X6_answered ml_X6_92 dX6_day_51 (c_X6_answered l E x xa g tr fl pl (nI (lostB ink (fun c => ink c - 1))) ) rfl 0 rfl rfl (by decide) (by decide) (by omega) (by omega) (Nat.le_of_ble_eq_true rfl)) [0] rfl rfl (ws' := ([ob x 6 [.ref (xa 0), .ref g, .ref (xa 2), .ref (xa 3), .ref (xa 4), .ref (xa 5), .ref (xa 6), .ref (xa 7), .int (nI 0), .int (nI fl), .int pl], ob g 0 [.int (nI (cy 0)), .int (nI (cy 1)), .int (nI (cy 2)), .int (nI (cy 3)), .int (nI (cy 4)), .int (nI (cy 5)), .int (nI (cy 6)), .int (nI (cy 7)), .ref (ca 0), .ref (ca 1), .ref (ca 2), .ref (ca 3), .ref (ca 4), .ref (ca 5), .ref (ca 6), .ref (ca 7), .ref (ca 8), .ref (ca 9), .ref (ca 10), .ref (ca 11)], ob (xa 3) 2 [.ref hi, .ref hm, .int (nI t), .int (nI (dd + 1))], aN E hi 8 (fun c => ink c - 1), aI E hm 8 mn, ob (xa 5) 3 [.ref (pq 0), .ref (pq 1), .int (nI (kaO ac o)), .int (nI (kaA ac)), .int (nI im)], aP E (pq 0) 16 (fun i => some (pa i).1)] ++ seg E pa 16 (upP pk ((o + ac) % 16) (ink, mn, t, dd)))) rfl rfl ?_
      exact v_iret X Y dX6_day_54 (wrI_of rfl (by simp_all)) (by omega) (by omega)
    · exfalso; omega
  · exact absurd (of_decide_eq_true h4) h3
set_option maxRecDepth 100000 in
set_option maxHeartbeats 4000000 in
theorem c_X6_day_no1 (l : Launch) (E : Et) (x : Nat) (xa : Nat → Nat) (g : Nat) (tr : Nat) (fl : Nat) (pl : Int32) (cy : Nat → Nat) (ca : Nat → Nat) (hmen : cy 3 ≤ 4) (h3 : cy 3 = 0) : Ct l E yX6_day cX6_day 1 (some .int) 6 0 0 [.ref x] [ob x 6 [.ref (xa 0), .ref g, .ref (xa 2), .ref (xa 3), .ref (xa 4), .ref (xa 5), .ref (xa 6), .ref (xa 7), .int (nI tr), .int (nI fl), .int pl], ob g 0 [.int (nI (cy 0)), .int (nI (cy 1)), .int (nI (cy 2)), .int (nI (cy 3)), .int (nI (cy 4)), .int (nI (cy 5)), .int (nI (cy 6)), .int (nI (cy 7)), .ref (ca 0), .ref (ca 1), .ref (ca 2), .ref (ca 3), .ref (ca 4), .ref (ca 5), .ref (ca 6), .ref (ca 7), .ref (ca 8), .ref (ca 9), .ref (ca 10), .ref (ca 11)]] (wrI [ob x 6 [.ref (xa 0), .ref g, .ref (xa 2), .ref (xa 3), .ref (xa 4), .ref (xa 5), .ref (xa 6), .ref (xa 7), .int (nI 1), .int (nI fl), .int pl], ob g 0 [.int (nI (cy 0)), .int (nI (cy 1)), .int (nI (cy 2)), .int (nI (cy 3)), .int (nI (cy 4)), .int (nI (cy 5)), .int (nI (cy 6)), .int (nI (cy 7)), .ref (ca 0), .ref (ca 1), .ref (ca 2), .ref (ca 3), .ref (ca 4), .ref (ca 5), .ref (ca 6), .ref (ca 7), .ref (ca 8), .ref (ca 9), .ref (ca 10), .ref (ca 11)]] (-1)) := by
  refine Ct.intro (by decide +kernel) (Nat.le_of_ble_eq_true rfl) (lv := [(0, .ref x)]) rfl ?_
  intro Z X Y
  refine v_aload_n X dX6_day_0 rfl 0 rfl ?_
  refine v_roI1 X (rn_V X k_X6_noCity ml_X6_168 dX6_day_1 (c_X6_noCity l E x xa g tr fl pl cy ca (by first | assumption | omega)) rfl 0 rfl rfl (by decide) (by decide) (by omega) (by omega) (Nat.le_of_ble_eq_true rfl)) [0, 1] rfl rfl ?_
  refine v_ifB_eq X dX6_day_4 (tgt := 13) (by decide) (fun h4 => ?_) (fun h4 => ?_)
  · exact absurd h3 (of_decide_eq_false h4)
  · refine v_aload_n X dX6_day_7 rfl 0 rfl ?_
    refine v_iconst X dX6_day_8 (v := nI 1) (by decide) ?_
    refine v_wrI1 X (rn_V X k_X6_refused ml_X6_74 dX6_day_9 (c_X6_refused l E x xa g tr fl pl 1 ) rfl 0 rfl rfl (by decide) (by decide) (by omega) (by omega) (Nat.le_of_ble_eq_true rfl)) [0] rfl rfl (ws' := [ob x 6 [.ref (xa 0), .ref g, .ref (xa 2), .ref (xa 3), .ref (xa 4), .ref (xa 5), .ref (xa 6), .ref (xa 7), .int (nI 1), .int (nI fl), .int pl], ob g 0 [.int (nI (cy 0)), .int (nI (cy 1)), .int (nI (cy 2)), .int (nI (cy 3)), .int (nI (cy 4)), .int (nI (cy 5)), .int (nI (cy 6)), .int (nI (cy 7)), .ref (ca 0), .ref (ca 1), .ref (ca 2), .ref (ca 3), .ref (ca 4), .ref (ca 5), .ref (ca 6), .ref (ca 7), .ref (ca 8), .ref (ca 9), .ref (ca 10), .ref (ca 11)]]) rfl rfl ?_
    exact v_iret X Y dX6_day_12 (wrI_of rfl rfl) (by omega) (by omega)
set_option maxRecDepth 100000 in
set_option maxHeartbeats 4000000 in
theorem c_X6_day_no3 (l : Launch) (E : Et) (x : Nat) (xa : Nat → Nat) (g : Nat) (tr : Nat) (fl : Nat) (pl : Int32) (cy : Nat → Nat) (ca : Nat → Nat) (hi : Nat) (hm : Nat) (t : Nat) (dd : Nat) (hmen : cy 3 ≤ 4) (h3 : ¬ cy 3 = 0) (hdd : dd = 999) : Ct l E yX6_day cX6_day 1 (some .int) 6 0 0 [.ref x] [ob x 6 [.ref (xa 0), .ref g, .ref (xa 2), .ref (xa 3), .ref (xa 4), .ref (xa 5), .ref (xa 6), .ref (xa 7), .int (nI tr), .int (nI fl), .int pl], ob g 0 [.int (nI (cy 0)), .int (nI (cy 1)), .int (nI (cy 2)), .int (nI (cy 3)), .int (nI (cy 4)), .int (nI (cy 5)), .int (nI (cy 6)), .int (nI (cy 7)), .ref (ca 0), .ref (ca 1), .ref (ca 2), .ref (ca 3), .ref (ca 4), .ref (ca 5), .ref (ca 6), .ref (ca 7), .ref (ca 8), .ref (ca 9), .ref (ca 10), .ref (ca 11)], ob (xa 3) 2 [.ref hi, .ref hm, .int (nI t), .int (nI dd)]] (wrI [ob x 6 [.ref (xa 0), .ref g, .ref (xa 2), .ref (xa 3), .ref (xa 4), .ref (xa 5), .ref (xa 6), .ref (xa 7), .int (nI 3), .int (nI fl), .int pl], ob g 0 [.int (nI (cy 0)), .int (nI (cy 1)), .int (nI (cy 2)), .int (nI (cy 3)), .int (nI (cy 4)), .int (nI (cy 5)), .int (nI (cy 6)), .int (nI (cy 7)), .ref (ca 0), .ref (ca 1), .ref (ca 2), .ref (ca 3), .ref (ca 4), .ref (ca 5), .ref (ca 6), .ref (ca 7), .ref (ca 8), .ref (ca 9), .ref (ca 10), .ref (ca 11)], ob (xa 3) 2 [.ref hi, .ref hm, .int (nI t), .int (nI dd)]] (-1)) := by
  refine Ct.intro (by decide +kernel) (Nat.le_of_ble_eq_true rfl) (lv := [(0, .ref x)]) rfl ?_
  intro Z X Y
  refine v_aload_n X dX6_day_0 rfl 0 rfl ?_
  refine v_roI1 X (rn_V X k_X6_noCity ml_X6_168 dX6_day_1 (c_X6_noCity l E x xa g tr fl pl cy ca (by first | assumption | omega)) rfl 0 rfl rfl (by decide) (by decide) (by omega) (by omega) (Nat.le_of_ble_eq_true rfl)) [0, 1] rfl rfl ?_
  refine v_ifB_eq X dX6_day_4 (tgt := 13) (by decide) (fun h4 => ?_) (fun h4 => ?_)
  · refine v_aload_n X dX6_day_13 rfl 0 rfl ?_
    refine v_get X kcX6 fl_X6_30 dX6_day_14 0 rfl rfl ?_
    refine v_getN X kcX2 fl_X6_266 dX6_day_17 2 rfl rfl ?_
    refine v_sipush X dX6_day_20 (v := nI 999) (by decide) ?_
    refine v_icmpN_lt X dX6_day_23 (tgt := 32) (by decide) (by omega) (by decide) (fun h23 => ?_) (fun h23 => ?_)
    · exfalso; omega
    · refine v_aload_n X dX6_day_26 rfl 0 rfl ?_
      refine v_iconst X dX6_day_27 (v := nI 3) (by decide) ?_
      refine v_wrI1 X (rn_V X k_X6_refused ml_X6_74 dX6_day_28 (c_X6_refused l E x xa g tr fl pl 3 ) rfl 0 rfl rfl (by decide) (by decide) (by omega) (by omega) (Nat.le_of_ble_eq_true rfl)) [0] rfl rfl (ws' := [ob x 6 [.ref (xa 0), .ref g, .ref (xa 2), .ref (xa 3), .ref (xa 4), .ref (xa 5), .ref (xa 6), .ref (xa 7), .int (nI 3), .int (nI fl), .int pl], ob g 0 [.int (nI (cy 0)), .int (nI (cy 1)), .int (nI (cy 2)), .int (nI (cy 3)), .int (nI (cy 4)), .int (nI (cy 5)), .int (nI (cy 6)), .int (nI (cy 7)), .ref (ca 0), .ref (ca 1), .ref (ca 2), .ref (ca 3), .ref (ca 4), .ref (ca 5), .ref (ca 6), .ref (ca 7), .ref (ca 8), .ref (ca 9), .ref (ca 10), .ref (ca 11)], ob (xa 3) 2 [.ref hi, .ref hm, .int (nI t), .int (nI dd)]]) rfl rfl ?_
      exact v_iret X Y dX6_day_31 (wrI_of rfl rfl) (by omega) (by omega)
  · exact absurd (of_decide_eq_true h4) h3
set_option maxRecDepth 100000 in
set_option maxHeartbeats 4000000 in
theorem c_X6_press (l : Launch) (E : Et) (x : Nat) (xa : Nat → Nat) (g : Nat) (tr : Nat) (fl : Nat) (pl : Int32) (cy : Nat → Nat) (ca : Nat → Nat) (hi : Nat) (hm : Nat) (t : Nat) (dd : Nat) (ink : Nat → Nat) (mn : Nat → Int32) (pq : Nat → Nat) (o : Nat) (ac : Nat) (im : Nat) (pa : Nat → Nat × Nat × Nat) (pk : Nat → Pv) (f4 : Nat → Nat) (c : Nat) (m : Int32) (hink : ∀ c, ink c ≤ 40) (hmen : cy 3 ≤ 4) (ho : o < 16) (hac : ac ≤ 16) (hcl : cy 5 ≤ 8) (hbl : cy 0 ≤ 9) (hc : c < cy 5) (hm_ : okM m (cy 3)) : Ct l E yX6_press cX6_press 3 (some .int) 6 0 0 [.ref x, .int (nI c), .int m] ([ob x 6 [.ref (xa 0), .ref g, .ref (xa 2), .ref (xa 3), .ref (xa 4), .ref (xa 5), .ref (xa 6), .ref (xa 7), .int (nI tr), .int (nI fl), .int pl], ob g 0 [.int (nI (cy 0)), .int (nI (cy 1)), .int (nI (cy 2)), .int (nI (cy 3)), .int (nI (cy 4)), .int (nI (cy 5)), .int (nI (cy 6)), .int (nI (cy 7)), .ref (ca 0), .ref (ca 1), .ref (ca 2), .ref (ca 3), .ref (ca 4), .ref (ca 5), .ref (ca 6), .ref (ca 7), .ref (ca 8), .ref (ca 9), .ref (ca 10), .ref (ca 11)], aN E (ca 4) 8 f4, ob (xa 3) 2 [.ref hi, .ref hm, .int (nI t), .int (nI dd)], aN E hi 8 ink, aI E hm 8 mn, ob (xa 5) 3 [.ref (pq 0), .ref (pq 1), .int (nI o), .int (nI ac), .int (nI im)], aP E (pq 0) 16 (fun i => some (pa i).1)] ++ seg E pa 16 pk) (wrI ([ob x 6 [.ref (xa 0), .ref g, .ref (xa 2), .ref (xa 3), .ref (xa 4), .ref (xa 5), .ref (xa 6), .ref (xa 7), .int (nI 0), .int (nI fl), .int pl], ob g 0 [.int (nI (cy 0)), .int (nI (cy 1)), .int (nI (cy 2)), .int (nI (cy 3)), .int (nI (cy 4)), .int (nI (cy 5)), .int (nI (cy 6)), .int (nI (cy 7)), .ref (ca 0), .ref (ca 1), .ref (ca 2), .ref (ca 3), .ref (ca 4), .ref (ca 5), .ref (ca 6), .ref (ca 7), .ref (ca 8), .ref (ca 9), .ref (ca 10), .ref (ca 11)], aN E (ca 4) 8 f4, ob (xa 3) 2 [.ref hi, .ref hm, .int (nI t), .int (nI dd)], aN E hi 8 (upN (blurN ink mn c m (cy 0)) c (f4 c)), aI E hm 8 (upd mn c m), ob (xa 5) 3 [.ref (pq 0), .ref (pq 1), .int (nI (kaO ac o)), .int (nI (kaA ac)), .int (nI im)], aP E (pq 0) 16 (fun i => some (pa i).1)] ++ seg E pa 16 (upP pk ((o + ac) % 16) (ink, mn, t, dd))) (nI (lostB ink (blurN ink mn c m (cy 0))))) := by
  refine Ct.intro (by decide +kernel) (Nat.le_of_ble_eq_true rfl) (lv := [(0, .ref x), (1, .int (nI c)), (2, .int m)]) rfl ?_
  intro Z X Y
  refine v_aload_n X dX6_press_0 rfl 0 rfl ?_
  refine v_iload_n X dX6_press_1 rfl 1 rfl ?_
  refine v_roI1 X (rn_V X k_X6_isClause ml_X6_95 dX6_press_2 (c_X6_isClause l E x xa g tr fl pl cy ca (nI c) ) rfl 0 rfl rfl (by decide) (by decide) (by omega) (by omega) (Nat.le_of_ble_eq_true rfl)) [0, 1] rfl rfl ?_
  refine v_ifB_eq X dX6_press_5 (tgt := 16) (by decide) (fun h5 => ?_) (fun h5 => ?_)
  · exact absurd (okM_of hc (by omega)) (of_decide_eq_false h5)
  · refine v_aload_n X dX6_press_8 rfl 0 rfl ?_
    refine v_iload_n X dX6_press_9 rfl 2 rfl ?_
    refine v_roI1 X (rn_V X k_X6_isMan ml_X6_117 dX6_press_10 (c_X6_isMan l E x xa g tr fl pl cy ca m ) rfl 0 rfl rfl (by decide) (by decide) (by omega) (by omega) (Nat.le_of_ble_eq_true rfl)) [0, 1] rfl rfl ?_
    refine v_ifB_ne X dX6_press_13 (tgt := 22) (by decide) (fun h13 => ?_) (fun h13 => ?_)
    · refine v_aload_n X dX6_press_22 rfl 0 rfl ?_
      refine v_get X kcX6 fl_X6_39 dX6_press_23 0 rfl rfl ?_
      refine v_aload_n X dX6_press_26 rfl 0 rfl ?_
      refine v_get X kcX6 fl_X6_30 dX6_press_27 0 rfl rfl ?_
      refine v_wrV1 X (rn_VN X k_X3_keepAct ml_X6_269 dX6_press_30 (c_X3_keepAct l E (xa 5) pq o ac im pa pk (xa 3) hi hm t dd ink mn (by first | assumption | omega) (by first | assumption | omega)) rfl 0 rfl rfl (by decide) (by decide) (by omega) (by omega) (Nat.le_of_ble_eq_true rfl)) ([6, 7, 3, 4, 5] ++ List.range' 8 48) (tl_nd 48 [6, 7, 3, 4, 5] rfl (by decide)) (tl_get [6, 7, 3, 4, 5] rfl (sg_len 16 0) rfl) (tl_fst rfl (sg_fst 16 0)) (ws' := ([ob x 6 [.ref (xa 0), .ref g, .ref (xa 2), .ref (xa 3), .ref (xa 4), .ref (xa 5), .ref (xa 6), .ref (xa 7), .int (nI tr), .int (nI fl), .int pl], ob g 0 [.int (nI (cy 0)), .int (nI (cy 1)), .int (nI (cy 2)), .int (nI (cy 3)), .int (nI (cy 4)), .int (nI (cy 5)), .int (nI (cy 6)), .int (nI (cy 7)), .ref (ca 0), .ref (ca 1), .ref (ca 2), .ref (ca 3), .ref (ca 4), .ref (ca 5), .ref (ca 6), .ref (ca 7), .ref (ca 8), .ref (ca 9), .ref (ca 10), .ref (ca 11)], aN E (ca 4) 8 f4, ob (xa 3) 2 [.ref hi, .ref hm, .int (nI t), .int (nI dd)], aN E hi 8 ink, aI E hm 8 mn, ob (xa 5) 3 [.ref (pq 0), .ref (pq 1), .int (nI (kaO ac o)), .int (nI (kaA ac)), .int (nI im)], aP E (pq 0) 16 (fun i => some (pa i).1)] ++ seg E pa 16 (upP pk ((o + ac) % 16) (ink, mn, t, dd)))) (tl_put [6, 7, 3, 4, 5] _ _ rfl (sg_len 16 0) (sg_len 16 0) rfl (by decide)) ?_
      refine v_aload_n X dX6_press_33 rfl 0 rfl ?_
      refine v_aload_n X dX6_press_34 rfl 0 rfl ?_
      refine v_get X kcX6 fl_X6_30 dX6_press_35 0 rfl rfl ?_
      refine v_iload_n X dX6_press_38 rfl 1 rfl ?_
      refine v_iload_n X dX6_press_39 rfl 2 rfl ?_
      refine v_aload_n X dX6_press_40 rfl 0 rfl ?_
      refine v_get X kcX6 fl_X6_19 dX6_press_41 0 rfl rfl ?_
      refine v_getN X kcX0 fl_X6_116 dX6_press_44 1 rfl rfl ?_
      refine v_iload_n X dX6_press_47 rfl 1 rfl ?_
      refine v_iald X dX6_press_48 2 rfl (by omega) (by decide) ?_
      refine v_aload_n X dX6_press_49 rfl 0 rfl ?_
      refine v_get X kcX6 fl_X6_19 dX6_press_50 0 rfl rfl ?_
      refine v_getN X kcX0 fl_X6_275 dX6_press_53 1 rfl rfl ?_
      refine v_wrI1 X (rn_VN X k_X2_pressOn ml_X6_278 dX6_press_56 (c_X2_pressOn l E (xa 3) hi hm t dd ink mn c m (f4 c) (cy 0) (by first | assumption | omega) (by first | assumption | omega) (by first | assumption | omega)) rfl 0 rfl rfl (by decide) (by decide) (by omega) (by omega) (Nat.le_of_ble_eq_true rfl)) [3, 4, 5] rfl rfl (ws' := ([ob x 6 [.ref (xa 0), .ref g, .ref (xa 2), .ref (xa 3), .ref (xa 4), .ref (xa 5), .ref (xa 6), .ref (xa 7), .int (nI tr), .int (nI fl), .int pl], ob g 0 [.int (nI (cy 0)), .int (nI (cy 1)), .int (nI (cy 2)), .int (nI (cy 3)), .int (nI (cy 4)), .int (nI (cy 5)), .int (nI (cy 6)), .int (nI (cy 7)), .ref (ca 0), .ref (ca 1), .ref (ca 2), .ref (ca 3), .ref (ca 4), .ref (ca 5), .ref (ca 6), .ref (ca 7), .ref (ca 8), .ref (ca 9), .ref (ca 10), .ref (ca 11)], aN E (ca 4) 8 f4, ob (xa 3) 2 [.ref hi, .ref hm, .int (nI t), .int (nI dd)], aN E hi 8 (upN (blurN ink mn c m (cy 0)) c (f4 c)), aI E hm 8 (upd mn c m), ob (xa 5) 3 [.ref (pq 0), .ref (pq 1), .int (nI (kaO ac o)), .int (nI (kaA ac)), .int (nI im)], aP E (pq 0) 16 (fun i => some (pa i).1)] ++ seg E pa 16 (upP pk ((o + ac) % 16) (ink, mn, t, dd)))) rfl rfl ?_
      refine v_wrI1 X (rn_V X k_X6_answered ml_X6_92 dX6_press_59 (c_X6_answered l E x xa g tr fl pl (nI (lostB ink (blurN ink mn c m (cy 0)))) ) rfl 0 rfl rfl (by decide) (by decide) (by omega) (by omega) (Nat.le_of_ble_eq_true rfl)) [0] rfl rfl (ws' := ([ob x 6 [.ref (xa 0), .ref g, .ref (xa 2), .ref (xa 3), .ref (xa 4), .ref (xa 5), .ref (xa 6), .ref (xa 7), .int (nI 0), .int (nI fl), .int pl], ob g 0 [.int (nI (cy 0)), .int (nI (cy 1)), .int (nI (cy 2)), .int (nI (cy 3)), .int (nI (cy 4)), .int (nI (cy 5)), .int (nI (cy 6)), .int (nI (cy 7)), .ref (ca 0), .ref (ca 1), .ref (ca 2), .ref (ca 3), .ref (ca 4), .ref (ca 5), .ref (ca 6), .ref (ca 7), .ref (ca 8), .ref (ca 9), .ref (ca 10), .ref (ca 11)], aN E (ca 4) 8 f4, ob (xa 3) 2 [.ref hi, .ref hm, .int (nI t), .int (nI dd)], aN E hi 8 (upN (blurN ink mn c m (cy 0)) c (f4 c)), aI E hm 8 (upd mn c m), ob (xa 5) 3 [.ref (pq 0), .ref (pq 1), .int (nI (kaO ac o)), .int (nI (kaA ac)), .int (nI im)], aP E (pq 0) 16 (fun i => some (pa i).1)] ++ seg E pa 16 (upP pk ((o + ac) % 16) (ink, mn, t, dd)))) rfl rfl ?_
      exact v_iret X Y dX6_press_62 (wrI_of rfl (by simp_all)) (by omega) (by omega)
    · exact absurd hm_ (of_decide_eq_false h13)
set_option maxRecDepth 100000 in
set_option maxHeartbeats 4000000 in
theorem c_X6_press_no (l : Launch) (E : Et) (x : Nat) (xa : Nat → Nat) (g : Nat) (tr : Nat) (fl : Nat) (pl : Int32) (cy : Nat → Nat) (ca : Nat → Nat) (c : Int32) (m : Int32) (hno : ¬ (okM c (cy 5) ∧ okM m (cy 3))) : Ct l E yX6_press cX6_press 3 (some .int) 6 0 0 [.ref x, .int c, .int m] [ob x 6 [.ref (xa 0), .ref g, .ref (xa 2), .ref (xa 3), .ref (xa 4), .ref (xa 5), .ref (xa 6), .ref (xa 7), .int (nI tr), .int (nI fl), .int pl], ob g 0 [.int (nI (cy 0)), .int (nI (cy 1)), .int (nI (cy 2)), .int (nI (cy 3)), .int (nI (cy 4)), .int (nI (cy 5)), .int (nI (cy 6)), .int (nI (cy 7)), .ref (ca 0), .ref (ca 1), .ref (ca 2), .ref (ca 3), .ref (ca 4), .ref (ca 5), .ref (ca 6), .ref (ca 7), .ref (ca 8), .ref (ca 9), .ref (ca 10), .ref (ca 11)]] (wrI [ob x 6 [.ref (xa 0), .ref g, .ref (xa 2), .ref (xa 3), .ref (xa 4), .ref (xa 5), .ref (xa 6), .ref (xa 7), .int (nI 1), .int (nI fl), .int pl], ob g 0 [.int (nI (cy 0)), .int (nI (cy 1)), .int (nI (cy 2)), .int (nI (cy 3)), .int (nI (cy 4)), .int (nI (cy 5)), .int (nI (cy 6)), .int (nI (cy 7)), .ref (ca 0), .ref (ca 1), .ref (ca 2), .ref (ca 3), .ref (ca 4), .ref (ca 5), .ref (ca 6), .ref (ca 7), .ref (ca 8), .ref (ca 9), .ref (ca 10), .ref (ca 11)]] (-1)) := by
  refine Ct.intro (by decide +kernel) (Nat.le_of_ble_eq_true rfl) (lv := [(0, .ref x), (1, .int c), (2, .int m)]) rfl ?_
  intro Z X Y
  refine v_aload_n X dX6_press_0 rfl 0 rfl ?_
  refine v_iload_n X dX6_press_1 rfl 1 rfl ?_
  refine v_roI1 X (rn_V X k_X6_isClause ml_X6_95 dX6_press_2 (c_X6_isClause l E x xa g tr fl pl cy ca c ) rfl 0 rfl rfl (by decide) (by decide) (by omega) (by omega) (Nat.le_of_ble_eq_true rfl)) [0, 1] rfl rfl ?_
  refine v_ifB_eq X dX6_press_5 (tgt := 16) (by decide) (fun h5 => ?_) (fun h5 => ?_)
  · refine v_aload_n X dX6_press_16 rfl 0 rfl ?_
    refine v_iconst X dX6_press_17 (v := nI 1) (by decide) ?_
    refine v_wrI1 X (rn_V X k_X6_refused ml_X6_74 dX6_press_18 (c_X6_refused l E x xa g tr fl pl 1 ) rfl 0 rfl rfl (by decide) (by decide) (by omega) (by omega) (Nat.le_of_ble_eq_true rfl)) [0] rfl rfl (ws' := [ob x 6 [.ref (xa 0), .ref g, .ref (xa 2), .ref (xa 3), .ref (xa 4), .ref (xa 5), .ref (xa 6), .ref (xa 7), .int (nI 1), .int (nI fl), .int pl], ob g 0 [.int (nI (cy 0)), .int (nI (cy 1)), .int (nI (cy 2)), .int (nI (cy 3)), .int (nI (cy 4)), .int (nI (cy 5)), .int (nI (cy 6)), .int (nI (cy 7)), .ref (ca 0), .ref (ca 1), .ref (ca 2), .ref (ca 3), .ref (ca 4), .ref (ca 5), .ref (ca 6), .ref (ca 7), .ref (ca 8), .ref (ca 9), .ref (ca 10), .ref (ca 11)]]) rfl rfl ?_
    exact v_iret X Y dX6_press_21 (wrI_of rfl rfl) (by omega) (by omega)
  · refine v_aload_n X dX6_press_8 rfl 0 rfl ?_
    refine v_iload_n X dX6_press_9 rfl 2 rfl ?_
    refine v_roI1 X (rn_V X k_X6_isMan ml_X6_117 dX6_press_10 (c_X6_isMan l E x xa g tr fl pl cy ca m ) rfl 0 rfl rfl (by decide) (by decide) (by omega) (by omega) (Nat.le_of_ble_eq_true rfl)) [0, 1] rfl rfl ?_
    refine v_ifB_ne X dX6_press_13 (tgt := 22) (by decide) (fun h13 => ?_) (fun h13 => ?_)
    · exact absurd ⟨of_decide_eq_true h5, of_decide_eq_true h13⟩ hno
    · refine v_aload_n X dX6_press_16 rfl 0 rfl ?_
      refine v_iconst X dX6_press_17 (v := nI 1) (by decide) ?_
      refine v_wrI1 X (rn_V X k_X6_refused ml_X6_74 dX6_press_18 (c_X6_refused l E x xa g tr fl pl 1 ) rfl 0 rfl rfl (by decide) (by decide) (by omega) (by omega) (Nat.le_of_ble_eq_true rfl)) [0] rfl rfl (ws' := [ob x 6 [.ref (xa 0), .ref g, .ref (xa 2), .ref (xa 3), .ref (xa 4), .ref (xa 5), .ref (xa 6), .ref (xa 7), .int (nI 1), .int (nI fl), .int pl], ob g 0 [.int (nI (cy 0)), .int (nI (cy 1)), .int (nI (cy 2)), .int (nI (cy 3)), .int (nI (cy 4)), .int (nI (cy 5)), .int (nI (cy 6)), .int (nI (cy 7)), .ref (ca 0), .ref (ca 1), .ref (ca 2), .ref (ca 3), .ref (ca 4), .ref (ca 5), .ref (ca 6), .ref (ca 7), .ref (ca 8), .ref (ca 9), .ref (ca 10), .ref (ca 11)]]) rfl rfl ?_
      exact v_iret X Y dX6_press_21 (wrI_of rfl rfl) (by omega) (by omega)
set_option maxRecDepth 100000 in
set_option maxHeartbeats 4000000 in
theorem c_X6_wash (l : Launch) (E : Et) (x : Nat) (xa : Nat → Nat) (g : Nat) (tr : Nat) (fl : Nat) (pl : Int32) (cy : Nat → Nat) (ca : Nat → Nat) (hi : Nat) (hm : Nat) (t : Nat) (dd : Nat) (ink : Nat → Nat) (mn : Nat → Int32) (pq : Nat → Nat) (o : Nat) (ac : Nat) (im : Nat) (pa : Nat → Nat × Nat × Nat) (pk : Nat → Pv) (c : Nat) (hink : ∀ c, ink c ≤ 40) (hmen : cy 3 ≤ 4) (ho : o < 16) (hac : ac ≤ 16) (hcl : cy 5 ≤ 8) (hc : c < cy 5) (hne : ¬ ink c = 0) : Ct l E yX6_wash cX6_wash 2 (some .boolean) 6 0 0 [.ref x, .int (nI c)] ([ob x 6 [.ref (xa 0), .ref g, .ref (xa 2), .ref (xa 3), .ref (xa 4), .ref (xa 5), .ref (xa 6), .ref (xa 7), .int (nI tr), .int (nI fl), .int pl], ob g 0 [.int (nI (cy 0)), .int (nI (cy 1)), .int (nI (cy 2)), .int (nI (cy 3)), .int (nI (cy 4)), .int (nI (cy 5)), .int (nI (cy 6)), .int (nI (cy 7)), .ref (ca 0), .ref (ca 1), .ref (ca 2), .ref (ca 3), .ref (ca 4), .ref (ca 5), .ref (ca 6), .ref (ca 7), .ref (ca 8), .ref (ca 9), .ref (ca 10), .ref (ca 11)], ob (xa 3) 2 [.ref hi, .ref hm, .int (nI t), .int (nI dd)], aN E hi 8 ink, aI E hm 8 mn, ob (xa 5) 3 [.ref (pq 0), .ref (pq 1), .int (nI o), .int (nI ac), .int (nI im)], aP E (pq 0) 16 (fun i => some (pa i).1)] ++ seg E pa 16 pk) (wrI ([ob x 6 [.ref (xa 0), .ref g, .ref (xa 2), .ref (xa 3), .ref (xa 4), .ref (xa 5), .ref (xa 6), .ref (xa 7), .int (nI 0), .int (nI fl), .int pl], ob g 0 [.int (nI (cy 0)), .int (nI (cy 1)), .int (nI (cy 2)), .int (nI (cy 3)), .int (nI (cy 4)), .int (nI (cy 5)), .int (nI (cy 6)), .int (nI (cy 7)), .ref (ca 0), .ref (ca 1), .ref (ca 2), .ref (ca 3), .ref (ca 4), .ref (ca 5), .ref (ca 6), .ref (ca 7), .ref (ca 8), .ref (ca 9), .ref (ca 10), .ref (ca 11)], ob (xa 3) 2 [.ref hi, .ref hm, .int (nI t), .int (nI dd)], aN E hi 8 (upN ink c 0), aI E hm 8 mn, ob (xa 5) 3 [.ref (pq 0), .ref (pq 1), .int (nI (kaO ac o)), .int (nI (kaA ac)), .int (nI im)], aP E (pq 0) 16 (fun i => some (pa i).1)] ++ seg E pa 16 (upP pk ((o + ac) % 16) (ink, mn, t, dd))) (nI 1)) := by
  refine Ct.intro (by decide +kernel) (Nat.le_of_ble_eq_true rfl) (lv := [(0, .ref x), (1, .int (nI c))]) rfl ?_
  intro Z X Y
  refine v_aload_n X dX6_wash_0 rfl 0 rfl ?_
  refine v_iload_n X dX6_wash_1 rfl 1 rfl ?_
  refine v_roI1 X (rn_V X k_X6_isClause ml_X6_95 dX6_wash_2 (c_X6_isClause l E x xa g tr fl pl cy ca (nI c) ) rfl 0 rfl rfl (by decide) (by decide) (by omega) (by omega) (Nat.le_of_ble_eq_true rfl)) [0, 1] rfl rfl ?_
  refine v_ifB_ne X dX6_wash_5 (tgt := 16) (by decide) (fun h5 => ?_) (fun h5 => ?_)
  · refine v_aload_n X dX6_wash_16 rfl 0 rfl ?_
    refine v_get X kcX6 fl_X6_30 dX6_wash_17 0 rfl rfl ?_
    refine v_getN X kcX2 fl_X6_110 dX6_wash_20 2 rfl rfl ?_
    refine v_iload_n X dX6_wash_23 rfl 1 rfl ?_
    refine v_iald X dX6_wash_24 3 rfl (by omega) (by decide) ?_
    refine v_ifN_ne X dX6_wash_25 (tgt := 36) (by decide) (Nat.lt_of_le_of_lt (hink _) (by decide)) (fun h25 => ?_) (fun h25 => ?_)
    · refine v_aload_n X dX6_wash_36 rfl 0 rfl ?_
      refine v_get X kcX6 fl_X6_39 dX6_wash_37 0 rfl rfl ?_
      refine v_aload_n X dX6_wash_40 rfl 0 rfl ?_
      refine v_get X kcX6 fl_X6_30 dX6_wash_41 0 rfl rfl ?_
      refine v_wrV1 X (rn_VN X k_X3_keepAct ml_X6_269 dX6_wash_44 (c_X3_keepAct l E (xa 5) pq o ac im pa pk (xa 3) hi hm t dd ink mn (by first | assumption | omega) (by first | assumption | omega)) rfl 0 rfl rfl (by decide) (by decide) (by omega) (by omega) (Nat.le_of_ble_eq_true rfl)) ([5, 6, 2, 3, 4] ++ List.range' 7 48) (tl_nd 48 [5, 6, 2, 3, 4] rfl (by decide)) (tl_get [5, 6, 2, 3, 4] rfl (sg_len 16 0) rfl) (tl_fst rfl (sg_fst 16 0)) (ws' := ([ob x 6 [.ref (xa 0), .ref g, .ref (xa 2), .ref (xa 3), .ref (xa 4), .ref (xa 5), .ref (xa 6), .ref (xa 7), .int (nI tr), .int (nI fl), .int pl], ob g 0 [.int (nI (cy 0)), .int (nI (cy 1)), .int (nI (cy 2)), .int (nI (cy 3)), .int (nI (cy 4)), .int (nI (cy 5)), .int (nI (cy 6)), .int (nI (cy 7)), .ref (ca 0), .ref (ca 1), .ref (ca 2), .ref (ca 3), .ref (ca 4), .ref (ca 5), .ref (ca 6), .ref (ca 7), .ref (ca 8), .ref (ca 9), .ref (ca 10), .ref (ca 11)], ob (xa 3) 2 [.ref hi, .ref hm, .int (nI t), .int (nI dd)], aN E hi 8 ink, aI E hm 8 mn, ob (xa 5) 3 [.ref (pq 0), .ref (pq 1), .int (nI (kaO ac o)), .int (nI (kaA ac)), .int (nI im)], aP E (pq 0) 16 (fun i => some (pa i).1)] ++ seg E pa 16 (upP pk ((o + ac) % 16) (ink, mn, t, dd)))) (tl_put [5, 6, 2, 3, 4] _ _ rfl (sg_len 16 0) (sg_len 16 0) rfl (by decide)) ?_
      refine v_aload_n X dX6_wash_47 rfl 0 rfl ?_
      refine v_get X kcX6 fl_X6_30 dX6_wash_48 0 rfl rfl ?_
      refine v_getN X kcX2 fl_X6_110 dX6_wash_51 2 rfl rfl ?_
      refine v_iload_n X dX6_wash_54 rfl 1 rfl ?_
      refine v_iconst X dX6_wash_55 (v := nI 0) (by decide) ?_
      refine v_iast X dX6_wash_56 3 rfl (by omega) (by decide) (ws' := ([ob x 6 [.ref (xa 0), .ref g, .ref (xa 2), .ref (xa 3), .ref (xa 4), .ref (xa 5), .ref (xa 6), .ref (xa 7), .int (nI tr), .int (nI fl), .int pl], ob g 0 [.int (nI (cy 0)), .int (nI (cy 1)), .int (nI (cy 2)), .int (nI (cy 3)), .int (nI (cy 4)), .int (nI (cy 5)), .int (nI (cy 6)), .int (nI (cy 7)), .ref (ca 0), .ref (ca 1), .ref (ca 2), .ref (ca 3), .ref (ca 4), .ref (ca 5), .ref (ca 6), .ref (ca 7), .ref (ca 8), .ref (ca 9), .ref (ca 10), .ref (ca 11)], ob (xa 3) 2 [.ref hi, .ref hm, .int (nI t), .int (nI dd)], aN E hi 8 (upN ink c 0), aI E hm 8 mn, ob (xa 5) 3 [.ref (pq 0), .ref (pq 1), .int (nI (kaO ac o)), .int (nI (kaA ac)), .int (nI im)], aP E (pq 0) 16 (fun i => some (pa i).1)] ++ seg E pa 16 (upP pk ((o + ac) % 16) (ink, mn, t, dd)))) (by rw [upd_nI]; rfl) ?_
      refine v_aload_n X dX6_wash_57 rfl 0 rfl ?_
      refine v_iconst X dX6_wash_58 (v := nI 0) (by decide) ?_
      refine v_put X kcX6 fl_X6_57 dX6_wash_59 0 rfl (ws' := ([ob x 6 [.ref (xa 0), .ref g, .ref (xa 2), .ref (xa 3), .ref (xa 4), .ref (xa 5), .ref (xa 6), .ref (xa 7), .int (nI 0), .int (nI fl), .int pl], ob g 0 [.int (nI (cy 0)), .int (nI (cy 1)), .int (nI (cy 2)), .int (nI (cy 3)), .int (nI (cy 4)), .int (nI (cy 5)), .int (nI (cy 6)), .int (nI (cy 7)), .ref (ca 0), .ref (ca 1), .ref (ca 2), .ref (ca 3), .ref (ca 4), .ref (ca 5), .ref (ca 6), .ref (ca 7), .ref (ca 8), .ref (ca 9), .ref (ca 10), .ref (ca 11)], ob (xa 3) 2 [.ref hi, .ref hm, .int (nI t), .int (nI dd)], aN E hi 8 (upN ink c 0), aI E hm 8 mn, ob (xa 5) 3 [.ref (pq 0), .ref (pq 1), .int (nI (kaO ac o)), .int (nI (kaA ac)), .int (nI im)], aP E (pq 0) 16 (fun i => some (pa i).1)] ++ seg E pa 16 (upP pk ((o + ac) % 16) (ink, mn, t, dd)))) rfl rfl ?_
      refine v_iconst X dX6_wash_62 (v := nI 1) (by decide) ?_
      exact v_zret X Y dX6_wash_63 (by decide) (wrI_of rfl rfl) (by omega) (by omega)
    · exact absurd h25 hne
  · exact absurd (okM_of hc (by omega)) (of_decide_eq_false h5)
set_option maxRecDepth 100000 in
set_option maxHeartbeats 4000000 in
theorem c_X6_wash_no1 (l : Launch) (E : Et) (x : Nat) (xa : Nat → Nat) (g : Nat) (tr : Nat) (fl : Nat) (pl : Int32) (cy : Nat → Nat) (ca : Nat → Nat) (c : Int32) (hno : ¬ okM c (cy 5)) : Ct l E yX6_wash cX6_wash 2 (some .boolean) 6 0 0 [.ref x, .int c] [ob x 6 [.ref (xa 0), .ref g, .ref (xa 2), .ref (xa 3), .ref (xa 4), .ref (xa 5), .ref (xa 6), .ref (xa 7), .int (nI tr), .int (nI fl), .int pl], ob g 0 [.int (nI (cy 0)), .int (nI (cy 1)), .int (nI (cy 2)), .int (nI (cy 3)), .int (nI (cy 4)), .int (nI (cy 5)), .int (nI (cy 6)), .int (nI (cy 7)), .ref (ca 0), .ref (ca 1), .ref (ca 2), .ref (ca 3), .ref (ca 4), .ref (ca 5), .ref (ca 6), .ref (ca 7), .ref (ca 8), .ref (ca 9), .ref (ca 10), .ref (ca 11)]] (wrI [ob x 6 [.ref (xa 0), .ref g, .ref (xa 2), .ref (xa 3), .ref (xa 4), .ref (xa 5), .ref (xa 6), .ref (xa 7), .int (nI 1), .int (nI fl), .int pl], ob g 0 [.int (nI (cy 0)), .int (nI (cy 1)), .int (nI (cy 2)), .int (nI (cy 3)), .int (nI (cy 4)), .int (nI (cy 5)), .int (nI (cy 6)), .int (nI (cy 7)), .ref (ca 0), .ref (ca 1), .ref (ca 2), .ref (ca 3), .ref (ca 4), .ref (ca 5), .ref (ca 6), .ref (ca 7), .ref (ca 8), .ref (ca 9), .ref (ca 10), .ref (ca 11)]] (nI 0)) := by
  refine Ct.intro (by decide +kernel) (Nat.le_of_ble_eq_true rfl) (lv := [(0, .ref x), (1, .int c)]) rfl ?_
  intro Z X Y
  refine v_aload_n X dX6_wash_0 rfl 0 rfl ?_
  refine v_iload_n X dX6_wash_1 rfl 1 rfl ?_
  refine v_roI1 X (rn_V X k_X6_isClause ml_X6_95 dX6_wash_2 (c_X6_isClause l E x xa g tr fl pl cy ca c ) rfl 0 rfl rfl (by decide) (by decide) (by omega) (by omega) (Nat.le_of_ble_eq_true rfl)) [0, 1] rfl rfl ?_
  refine v_ifB_ne X dX6_wash_5 (tgt := 16) (by decide) (fun h5 => ?_) (fun h5 => ?_)
  · exact absurd (of_decide_eq_true h5) hno
  · refine v_aload_n X dX6_wash_8 rfl 0 rfl ?_
    refine v_iconst X dX6_wash_9 (v := nI 1) (by decide) ?_
    refine v_wrI1 X (rn_V X k_X6_refused ml_X6_74 dX6_wash_10 (c_X6_refused l E x xa g tr fl pl 1 ) rfl 0 rfl rfl (by decide) (by decide) (by omega) (by omega) (Nat.le_of_ble_eq_true rfl)) [0] rfl rfl (ws' := [ob x 6 [.ref (xa 0), .ref g, .ref (xa 2), .ref (xa 3), .ref (xa 4), .ref (xa 5), .ref (xa 6), .ref (xa 7), .int (nI 1), .int (nI fl), .int pl], ob g 0 [.int (nI (cy 0)), .int (nI (cy 1)), .int (nI (cy 2)), .int (nI (cy 3)), .int (nI (cy 4)), .int (nI (cy 5)), .int (nI (cy 6)), .int (nI (cy 7)), .ref (ca 0), .ref (ca 1), .ref (ca 2), .ref (ca 3), .ref (ca 4), .ref (ca 5), .ref (ca 6), .ref (ca 7), .ref (ca 8), .ref (ca 9), .ref (ca 10), .ref (ca 11)]]) rfl rfl ?_
    refine v_pop X dX6_wash_13 rfl ?_
    refine v_iconst X dX6_wash_14 (v := nI 0) (by decide) ?_
    exact v_zret X Y dX6_wash_15 (by decide) (wrI_of rfl rfl) (by omega) (by omega)
set_option maxRecDepth 100000 in
set_option maxHeartbeats 4000000 in
theorem c_X6_wash_no5 (l : Launch) (E : Et) (x : Nat) (xa : Nat → Nat) (g : Nat) (tr : Nat) (fl : Nat) (pl : Int32) (cy : Nat → Nat) (ca : Nat → Nat) (hi : Nat) (hm : Nat) (t : Nat) (dd : Nat) (ink : Nat → Nat) (mn : Nat → Int32) (c : Nat) (hcl : cy 5 ≤ 8) (hc : c < cy 5) (hne : ink c = 0) : Ct l E yX6_wash cX6_wash 2 (some .boolean) 6 0 0 [.ref x, .int (nI c)] [ob x 6 [.ref (xa 0), .ref g, .ref (xa 2), .ref (xa 3), .ref (xa 4), .ref (xa 5), .ref (xa 6), .ref (xa 7), .int (nI tr), .int (nI fl), .int pl], ob g 0 [.int (nI (cy 0)), .int (nI (cy 1)), .int (nI (cy 2)), .int (nI (cy 3)), .int (nI (cy 4)), .int (nI (cy 5)), .int (nI (cy 6)), .int (nI (cy 7)), .ref (ca 0), .ref (ca 1), .ref (ca 2), .ref (ca 3), .ref (ca 4), .ref (ca 5), .ref (ca 6), .ref (ca 7), .ref (ca 8), .ref (ca 9), .ref (ca 10), .ref (ca 11)], ob (xa 3) 2 [.ref hi, .ref hm, .int (nI t), .int (nI dd)], aN E hi 8 ink, aI E hm 8 mn] (wrI [ob x 6 [.ref (xa 0), .ref g, .ref (xa 2), .ref (xa 3), .ref (xa 4), .ref (xa 5), .ref (xa 6), .ref (xa 7), .int (nI 5), .int (nI fl), .int pl], ob g 0 [.int (nI (cy 0)), .int (nI (cy 1)), .int (nI (cy 2)), .int (nI (cy 3)), .int (nI (cy 4)), .int (nI (cy 5)), .int (nI (cy 6)), .int (nI (cy 7)), .ref (ca 0), .ref (ca 1), .ref (ca 2), .ref (ca 3), .ref (ca 4), .ref (ca 5), .ref (ca 6), .ref (ca 7), .ref (ca 8), .ref (ca 9), .ref (ca 10), .ref (ca 11)], ob (xa 3) 2 [.ref hi, .ref hm, .int (nI t), .int (nI dd)], aN E hi 8 ink, aI E hm 8 mn] (nI 0)) := by
  refine Ct.intro (by decide +kernel) (Nat.le_of_ble_eq_true rfl) (lv := [(0, .ref x), (1, .int (nI c))]) rfl ?_
  intro Z X Y
  refine v_aload_n X dX6_wash_0 rfl 0 rfl ?_
  refine v_iload_n X dX6_wash_1 rfl 1 rfl ?_
  refine v_roI1 X (rn_V X k_X6_isClause ml_X6_95 dX6_wash_2 (c_X6_isClause l E x xa g tr fl pl cy ca (nI c) ) rfl 0 rfl rfl (by decide) (by decide) (by omega) (by omega) (Nat.le_of_ble_eq_true rfl)) [0, 1] rfl rfl ?_
  refine v_ifB_ne X dX6_wash_5 (tgt := 16) (by decide) (fun h5 => ?_) (fun h5 => ?_)
  · refine v_aload_n X dX6_wash_16 rfl 0 rfl ?_
    refine v_get X kcX6 fl_X6_30 dX6_wash_17 0 rfl rfl ?_
    refine v_getN X kcX2 fl_X6_110 dX6_wash_20 2 rfl rfl ?_
    refine v_iload_n X dX6_wash_23 rfl 1 rfl ?_
    refine v_iald X dX6_wash_24 3 rfl (by omega) (by decide) ?_
    refine v_ifN_ne X dX6_wash_25 (tgt := 36) (by decide) (by omega) (fun h25 => ?_) (fun h25 => ?_)
    · exact absurd hne h25
    · refine v_aload_n X dX6_wash_28 rfl 0 rfl ?_
      refine v_iconst X dX6_wash_29 (v := nI 5) (by decide) ?_
      refine v_wrI1 X (rn_V X k_X6_refused ml_X6_74 dX6_wash_30 (c_X6_refused l E x xa g tr fl pl 5 ) rfl 0 rfl rfl (by decide) (by decide) (by omega) (by omega) (Nat.le_of_ble_eq_true rfl)) [0] rfl rfl (ws' := [ob x 6 [.ref (xa 0), .ref g, .ref (xa 2), .ref (xa 3), .ref (xa 4), .ref (xa 5), .ref (xa 6), .ref (xa 7), .int (nI 5), .int (nI fl), .int pl], ob g 0 [.int (nI (cy 0)), .int (nI (cy 1)), .int (nI (cy 2)), .int (nI (cy 3)), .int (nI (cy 4)), .int (nI (cy 5)), .int (nI (cy 6)), .int (nI (cy 7)), .ref (ca 0), .ref (ca 1), .ref (ca 2), .ref (ca 3), .ref (ca 4), .ref (ca 5), .ref (ca 6), .ref (ca 7), .ref (ca 8), .ref (ca 9), .ref (ca 10), .ref (ca 11)], ob (xa 3) 2 [.ref hi, .ref hm, .int (nI t), .int (nI dd)], aN E hi 8 ink, aI E hm 8 mn]) rfl rfl ?_
      refine v_pop X dX6_wash_33 rfl ?_
      refine v_iconst X dX6_wash_34 (v := nI 0) (by decide) ?_
      exact v_zret X Y dX6_wash_35 (by decide) (wrI_of rfl rfl) (by omega) (by omega)
  · exact absurd (okM_of hc (by omega)) (of_decide_eq_false h5)
set_option maxRecDepth 100000 in
set_option maxHeartbeats 4000000 in
theorem c_X6_turn (l : Launch) (E : Et) (x : Nat) (xa : Nat → Nat) (g : Nat) (tr : Nat) (fl : Nat) (pl : Int32) (cy : Nat → Nat) (ca : Nat → Nat) (hi : Nat) (hm : Nat) (t : Nat) (dd : Nat) (ink : Nat → Nat) (mn : Nat → Int32) (pq : Nat → Nat) (o : Nat) (ac : Nat) (im : Nat) (pa : Nat → Nat × Nat × Nat) (pk : Nat → Pv) (c : Nat) (hink : ∀ c, ink c ≤ 40) (hmen : cy 3 ≤ 4) (ho : o < 16) (hac : ac ≤ 16) (hcl : cy 5 ≤ 8) (ht : t < 256) (hc : c < cy 5) : Ct l E yX6_turn cX6_turn 2 (some .int) 6 0 0 [.ref x, .int (nI c)] ([ob x 6 [.ref (xa 0), .ref g, .ref (xa 2), .ref (xa 3), .ref (xa 4), .ref (xa 5), .ref (xa 6), .ref (xa 7), .int (nI tr), .int (nI fl), .int pl], ob g 0 [.int (nI (cy 0)), .int (nI (cy 1)), .int (nI (cy 2)), .int (nI (cy 3)), .int (nI (cy 4)), .int (nI (cy 5)), .int (nI (cy 6)), .int (nI (cy 7)), .ref (ca 0), .ref (ca 1), .ref (ca 2), .ref (ca 3), .ref (ca 4), .ref (ca 5), .ref (ca 6), .ref (ca 7), .ref (ca 8), .ref (ca 9), .ref (ca 10), .ref (ca 11)], ob (xa 3) 2 [.ref hi, .ref hm, .int (nI t), .int (nI dd)], aN E hi 8 ink, aI E hm 8 mn, ob (xa 5) 3 [.ref (pq 0), .ref (pq 1), .int (nI o), .int (nI ac), .int (nI im)], aP E (pq 0) 16 (fun i => some (pa i).1)] ++ seg E pa 16 pk) (wrI ([ob x 6 [.ref (xa 0), .ref g, .ref (xa 2), .ref (xa 3), .ref (xa 4), .ref (xa 5), .ref (xa 6), .ref (xa 7), .int (nI 0), .int (nI fl), .int pl], ob g 0 [.int (nI (cy 0)), .int (nI (cy 1)), .int (nI (cy 2)), .int (nI (cy 3)), .int (nI (cy 4)), .int (nI (cy 5)), .int (nI (cy 6)), .int (nI (cy 7)), .ref (ca 0), .ref (ca 1), .ref (ca 2), .ref (ca 3), .ref (ca 4), .ref (ca 5), .ref (ca 6), .ref (ca 7), .ref (ca 8), .ref (ca 9), .ref (ca 10), .ref (ca 11)], ob (xa 3) 2 [.ref hi, .ref hm, .int (nI (t ^^^ 2 ^ c)), .int (nI dd)], aN E hi 8 ink, aI E hm 8 mn, ob (xa 5) 3 [.ref (pq 0), .ref (pq 1), .int (nI (kaO ac o)), .int (nI (kaA ac)), .int (nI im)], aP E (pq 0) 16 (fun i => some (pa i).1)] ++ seg E pa 16 (upP pk ((o + ac) % 16) (ink, mn, t, dd))) (nI (((t ^^^ 2 ^ c).testBit c).toNat))) := by
  refine Ct.intro (by decide +kernel) (Nat.le_of_ble_eq_true rfl) (lv := [(0, .ref x), (1, .int (nI c))]) rfl ?_
  intro Z X Y
  have htx : t ^^^ 2 ^ c < 256 := Nat.xor_lt_two_pow (n := 8) ht (Nat.pow_lt_pow_right (by decide) (by omega))
  refine v_aload_n X dX6_turn_0 rfl 0 rfl ?_
  refine v_iload_n X dX6_turn_1 rfl 1 rfl ?_
  refine v_roI1 X (rn_V X k_X6_isClause ml_X6_95 dX6_turn_2 (c_X6_isClause l E x xa g tr fl pl cy ca (nI c) ) rfl 0 rfl rfl (by decide) (by decide) (by omega) (by omega) (Nat.le_of_ble_eq_true rfl)) [0, 1] rfl rfl ?_
  refine v_ifB_ne X dX6_turn_5 (tgt := 14) (by decide) (fun h5 => ?_) (fun h5 => ?_)
  · refine v_aload_n X dX6_turn_14 rfl 0 rfl ?_
    refine v_get X kcX6 fl_X6_39 dX6_turn_15 0 rfl rfl ?_
    refine v_aload_n X dX6_turn_18 rfl 0 rfl ?_
    refine v_get X kcX6 fl_X6_30 dX6_turn_19 0 rfl rfl ?_
    refine v_wrV1 X (rn_VN X k_X3_keepAct ml_X6_269 dX6_turn_22 (c_X3_keepAct l E (xa 5) pq o ac im pa pk (xa 3) hi hm t dd ink mn (by first | assumption | omega) (by first | assumption | omega)) rfl 0 rfl rfl (by decide) (by decide) (by omega) (by omega) (Nat.le_of_ble_eq_true rfl)) ([5, 6, 2, 3, 4] ++ List.range' 7 48) (tl_nd 48 [5, 6, 2, 3, 4] rfl (by decide)) (tl_get [5, 6, 2, 3, 4] rfl (sg_len 16 0) rfl) (tl_fst rfl (sg_fst 16 0)) (ws' := ([ob x 6 [.ref (xa 0), .ref g, .ref (xa 2), .ref (xa 3), .ref (xa 4), .ref (xa 5), .ref (xa 6), .ref (xa 7), .int (nI tr), .int (nI fl), .int pl], ob g 0 [.int (nI (cy 0)), .int (nI (cy 1)), .int (nI (cy 2)), .int (nI (cy 3)), .int (nI (cy 4)), .int (nI (cy 5)), .int (nI (cy 6)), .int (nI (cy 7)), .ref (ca 0), .ref (ca 1), .ref (ca 2), .ref (ca 3), .ref (ca 4), .ref (ca 5), .ref (ca 6), .ref (ca 7), .ref (ca 8), .ref (ca 9), .ref (ca 10), .ref (ca 11)], ob (xa 3) 2 [.ref hi, .ref hm, .int (nI t), .int (nI dd)], aN E hi 8 ink, aI E hm 8 mn, ob (xa 5) 3 [.ref (pq 0), .ref (pq 1), .int (nI (kaO ac o)), .int (nI (kaA ac)), .int (nI im)], aP E (pq 0) 16 (fun i => some (pa i).1)] ++ seg E pa 16 (upP pk ((o + ac) % 16) (ink, mn, t, dd)))) (tl_put [5, 6, 2, 3, 4] _ _ rfl (sg_len 16 0) (sg_len 16 0) rfl (by decide)) ?_
    refine v_aload_n X dX6_turn_25 rfl 0 rfl ?_
    refine v_get X kcX6 fl_X6_30 dX6_turn_26 0 rfl rfl ?_
    refine v_dup X dX6_turn_29 rfl ?_
    refine v_getN X kcX2 fl_X6_113 dX6_turn_30 2 rfl rfl ?_
    refine v_iconst X dX6_turn_33 (v := nI 1) (by decide) ?_
    refine v_iload_n X dX6_turn_34 rfl 1 rfl ?_
    refine v_ishl X dX6_turn_35 ?_
    refine v_eqi (x' := nI (2 ^ c)) (nI_shl1 (by omega)) ?_
    refine v_ixor X dX6_turn_36 ?_
    refine v_eqi (x' := nI (t ^^^ 2 ^ c)) (nI_xor _ _) ?_
    refine v_putN X kcX2 fl_X6_113 dX6_turn_37 2 rfl (ws' := ([ob x 6 [.ref (xa 0), .ref g, .ref (xa 2), .ref (xa 3), .ref (xa 4), .ref (xa 5), .ref (xa 6), .ref (xa 7), .int (nI tr), .int (nI fl), .int pl], ob g 0 [.int (nI (cy 0)), .int (nI (cy 1)), .int (nI (cy 2)), .int (nI (cy 3)), .int (nI (cy 4)), .int (nI (cy 5)), .int (nI (cy 6)), .int (nI (cy 7)), .ref (ca 0), .ref (ca 1), .ref (ca 2), .ref (ca 3), .ref (ca 4), .ref (ca 5), .ref (ca 6), .ref (ca 7), .ref (ca 8), .ref (ca 9), .ref (ca 10), .ref (ca 11)], ob (xa 3) 2 [.ref hi, .ref hm, .int (nI (t ^^^ 2 ^ c)), .int (nI dd)], aN E hi 8 ink, aI E hm 8 mn, ob (xa 5) 3 [.ref (pq 0), .ref (pq 1), .int (nI (kaO ac o)), .int (nI (kaA ac)), .int (nI im)], aP E (pq 0) 16 (fun i => some (pa i).1)] ++ seg E pa 16 (upP pk ((o + ac) % 16) (ink, mn, t, dd)))) rfl rfl ?_
    refine v_aload_n X dX6_turn_40 rfl 0 rfl ?_
    refine v_aload_n X dX6_turn_41 rfl 0 rfl ?_
    refine v_get X kcX6 fl_X6_30 dX6_turn_42 0 rfl rfl ?_
    refine v_getN X kcX2 fl_X6_113 dX6_turn_45 2 rfl rfl ?_
    refine v_iload_n X dX6_turn_48 rfl 1 rfl ?_
    refine v_ishr X dX6_turn_49 ?_
    refine v_eqi (x' := nI ((t ^^^ 2 ^ c) / 2 ^ c)) (nI_shr (Nat.lt_trans htx (by decide)) (by omega)) ?_
    refine v_iconst X dX6_turn_50 (v := nI 1) (by decide) ?_
    refine v_iand X dX6_turn_51 ?_
    refine v_eqi (x' := nI (((t ^^^ 2 ^ c) / 2 ^ c) &&& 1)) (fa_and _ _) ?_
    refine v_eqi (x' := nI (((t ^^^ 2 ^ c).testBit c).toNat)) (congrArg nI (tb_and1 _ _)) ?_
    refine v_wrI1 X (rn_V X k_X6_answered ml_X6_92 dX6_turn_52 (c_X6_answered l E x xa g tr fl pl (nI (((t ^^^ 2 ^ c).testBit c).toNat)) ) rfl 0 rfl rfl (by decide) (by decide) (by omega) (by omega) (Nat.le_of_ble_eq_true rfl)) [0] rfl rfl (ws' := ([ob x 6 [.ref (xa 0), .ref g, .ref (xa 2), .ref (xa 3), .ref (xa 4), .ref (xa 5), .ref (xa 6), .ref (xa 7), .int (nI 0), .int (nI fl), .int pl], ob g 0 [.int (nI (cy 0)), .int (nI (cy 1)), .int (nI (cy 2)), .int (nI (cy 3)), .int (nI (cy 4)), .int (nI (cy 5)), .int (nI (cy 6)), .int (nI (cy 7)), .ref (ca 0), .ref (ca 1), .ref (ca 2), .ref (ca 3), .ref (ca 4), .ref (ca 5), .ref (ca 6), .ref (ca 7), .ref (ca 8), .ref (ca 9), .ref (ca 10), .ref (ca 11)], ob (xa 3) 2 [.ref hi, .ref hm, .int (nI (t ^^^ 2 ^ c)), .int (nI dd)], aN E hi 8 ink, aI E hm 8 mn, ob (xa 5) 3 [.ref (pq 0), .ref (pq 1), .int (nI (kaO ac o)), .int (nI (kaA ac)), .int (nI im)], aP E (pq 0) 16 (fun i => some (pa i).1)] ++ seg E pa 16 (upP pk ((o + ac) % 16) (ink, mn, t, dd)))) rfl rfl ?_
    exact v_iret X Y dX6_turn_55 (wrI_of rfl (by simp_all)) (by omega) (by omega)
  · exact absurd (okM_of hc (by omega)) (of_decide_eq_false h5)
set_option maxRecDepth 100000 in
set_option maxHeartbeats 4000000 in
theorem c_X6_turn_no (l : Launch) (E : Et) (x : Nat) (xa : Nat → Nat) (g : Nat) (tr : Nat) (fl : Nat) (pl : Int32) (cy : Nat → Nat) (ca : Nat → Nat) (c : Int32) (hno : ¬ okM c (cy 5)) : Ct l E yX6_turn cX6_turn 2 (some .int) 6 0 0 [.ref x, .int c] [ob x 6 [.ref (xa 0), .ref g, .ref (xa 2), .ref (xa 3), .ref (xa 4), .ref (xa 5), .ref (xa 6), .ref (xa 7), .int (nI tr), .int (nI fl), .int pl], ob g 0 [.int (nI (cy 0)), .int (nI (cy 1)), .int (nI (cy 2)), .int (nI (cy 3)), .int (nI (cy 4)), .int (nI (cy 5)), .int (nI (cy 6)), .int (nI (cy 7)), .ref (ca 0), .ref (ca 1), .ref (ca 2), .ref (ca 3), .ref (ca 4), .ref (ca 5), .ref (ca 6), .ref (ca 7), .ref (ca 8), .ref (ca 9), .ref (ca 10), .ref (ca 11)]] (wrI [ob x 6 [.ref (xa 0), .ref g, .ref (xa 2), .ref (xa 3), .ref (xa 4), .ref (xa 5), .ref (xa 6), .ref (xa 7), .int (nI 1), .int (nI fl), .int pl], ob g 0 [.int (nI (cy 0)), .int (nI (cy 1)), .int (nI (cy 2)), .int (nI (cy 3)), .int (nI (cy 4)), .int (nI (cy 5)), .int (nI (cy 6)), .int (nI (cy 7)), .ref (ca 0), .ref (ca 1), .ref (ca 2), .ref (ca 3), .ref (ca 4), .ref (ca 5), .ref (ca 6), .ref (ca 7), .ref (ca 8), .ref (ca 9), .ref (ca 10), .ref (ca 11)]] (-1)) := by
  refine Ct.intro (by decide +kernel) (Nat.le_of_ble_eq_true rfl) (lv := [(0, .ref x), (1, .int c)]) rfl ?_
  intro Z X Y
  refine v_aload_n X dX6_turn_0 rfl 0 rfl ?_
  refine v_iload_n X dX6_turn_1 rfl 1 rfl ?_
  refine v_roI1 X (rn_V X k_X6_isClause ml_X6_95 dX6_turn_2 (c_X6_isClause l E x xa g tr fl pl cy ca c ) rfl 0 rfl rfl (by decide) (by decide) (by omega) (by omega) (Nat.le_of_ble_eq_true rfl)) [0, 1] rfl rfl ?_
  refine v_ifB_ne X dX6_turn_5 (tgt := 14) (by decide) (fun h5 => ?_) (fun h5 => ?_)
  · exact absurd (of_decide_eq_true h5) hno
  · refine v_aload_n X dX6_turn_8 rfl 0 rfl ?_
    refine v_iconst X dX6_turn_9 (v := nI 1) (by decide) ?_
    refine v_wrI1 X (rn_V X k_X6_refused ml_X6_74 dX6_turn_10 (c_X6_refused l E x xa g tr fl pl 1 ) rfl 0 rfl rfl (by decide) (by decide) (by omega) (by omega) (Nat.le_of_ble_eq_true rfl)) [0] rfl rfl (ws' := [ob x 6 [.ref (xa 0), .ref g, .ref (xa 2), .ref (xa 3), .ref (xa 4), .ref (xa 5), .ref (xa 6), .ref (xa 7), .int (nI 1), .int (nI fl), .int pl], ob g 0 [.int (nI (cy 0)), .int (nI (cy 1)), .int (nI (cy 2)), .int (nI (cy 3)), .int (nI (cy 4)), .int (nI (cy 5)), .int (nI (cy 6)), .int (nI (cy 7)), .ref (ca 0), .ref (ca 1), .ref (ca 2), .ref (ca 3), .ref (ca 4), .ref (ca 5), .ref (ca 6), .ref (ca 7), .ref (ca 8), .ref (ca 9), .ref (ca 10), .ref (ca 11)]]) rfl rfl ?_
    exact v_iret X Y dX6_turn_13 (wrI_of rfl rfl) (by omega) (by omega)
set_option maxRecDepth 100000 in
set_option maxHeartbeats 4000000 in
theorem c_X6_undo (l : Launch) (E : Et) (x : Nat) (xa : Nat → Nat) (g : Nat) (tr : Nat) (fl : Nat) (pl : Int32) (hi : Nat) (hm : Nat) (t : Nat) (dd : Nat) (ink : Nat → Nat) (mn : Nat → Int32) (pq : Nat → Nat) (o : Nat) (ac : Nat) (im : Nat) (pa : Nat → Nat × Nat × Nat) (pk : Nat → Pv) (ho : o < 16) (hac : ac ≤ 16) (h0 : ¬ ac = 0) : Ct l E yX6_undo cX6_undo 2 (some .boolean) 6 0 0 [.ref x] ([ob x 6 [.ref (xa 0), .ref g, .ref (xa 2), .ref (xa 3), .ref (xa 4), .ref (xa 5), .ref (xa 6), .ref (xa 7), .int (nI tr), .int (nI fl), .int pl], ob (xa 3) 2 [.ref hi, .ref hm, .int (nI t), .int (nI dd)], aN E hi 8 ink, aI E hm 8 mn, ob (xa 5) 3 [.ref (pq 0), .ref (pq 1), .int (nI o), .int (nI ac), .int (nI im)], aP E (pq 0) 16 (fun i => some (pa i).1)] ++ seg E pa 16 pk) (wrI ([ob x 6 [.ref (xa 0), .ref g, .ref (xa 2), .ref (xa 3), .ref (xa 4), .ref (xa 5), .ref (xa 6), .ref (xa 7), .int (nI 0), .int (nI fl), .int pl], ob (xa 3) 2 [.ref hi, .ref hm, .int (nI ((pk ((o + (ac - 1)) % 16)).2.2.1)), .int (nI ((pk ((o + (ac - 1)) % 16)).2.2.2))], aN E hi 8 ((pk ((o + (ac - 1)) % 16)).1), aI E hm 8 ((pk ((o + (ac - 1)) % 16)).2.1), ob (xa 5) 3 [.ref (pq 0), .ref (pq 1), .int (nI o), .int (nI (ac - 1)), .int (nI im)], aP E (pq 0) 16 (fun i => some (pa i).1)] ++ seg E pa 16 pk) (nI 1)) := by
  refine Ct.intro (by decide +kernel) (Nat.le_of_ble_eq_true rfl) (lv := [(0, .ref x)]) rfl ?_
  intro Z X Y
  refine v_aload_n X dX6_undo_0 rfl 0 rfl ?_
  refine v_get X kcX6 fl_X6_39 dX6_undo_1 0 rfl rfl ?_
  refine v_aload_n X dX6_undo_4 rfl 0 rfl ?_
  refine v_get X kcX6 fl_X6_30 dX6_undo_5 0 rfl rfl ?_
  refine v_wrI1 X (rn_VN X k_X3_undoInto ml_X6_282 dX6_undo_8 (c_X3_undoInto l E (xa 5) pq o ac im pa pk (xa 3) hi hm t dd ink mn (by first | assumption | omega) (by first | assumption | omega) (by first | assumption | omega)) rfl 0 rfl rfl (by decide) (by decide) (by omega) (by omega) (Nat.le_of_ble_eq_true rfl)) ([4, 5, 1, 2, 3] ++ List.range' 6 48) (tl_nd 48 [4, 5, 1, 2, 3] rfl (by decide)) (tl_get [4, 5, 1, 2, 3] rfl (sg_len 16 0) rfl) (tl_fst rfl (sg_fst 16 0)) (ws' := ([ob x 6 [.ref (xa 0), .ref g, .ref (xa 2), .ref (xa 3), .ref (xa 4), .ref (xa 5), .ref (xa 6), .ref (xa 7), .int (nI tr), .int (nI fl), .int pl], ob (xa 3) 2 [.ref hi, .ref hm, .int (nI ((pk ((o + (ac - 1)) % 16)).2.2.1)), .int (nI ((pk ((o + (ac - 1)) % 16)).2.2.2))], aN E hi 8 ((pk ((o + (ac - 1)) % 16)).1), aI E hm 8 ((pk ((o + (ac - 1)) % 16)).2.1), ob (xa 5) 3 [.ref (pq 0), .ref (pq 1), .int (nI o), .int (nI (ac - 1)), .int (nI im)], aP E (pq 0) 16 (fun i => some (pa i).1)] ++ seg E pa 16 pk)) (tl_put [4, 5, 1, 2, 3] _ _ rfl (sg_len 16 0) (sg_len 16 0) rfl (by decide)) ?_
  refine v_istore_n X dX6_undo_11 rfl (by decide) (lv' := [(1, .int (nI 1)), (0, .ref x)]) rfl ?_
  refine v_aload_n X dX6_undo_12 rfl 1 rfl ?_
  refine v_iload_n X dX6_undo_13 rfl 0 rfl ?_
  refine v_ifN_eq X dX6_undo_14 (tgt := 21) (by decide) (by decide) (fun h14 => ?_) (fun h14 => ?_)
  · exfalso; omega
  · refine v_iconst X dX6_undo_17 (v := nI 0) (by decide) ?_
    refine v_goto X dX6_undo_18 (tgt := 23) (by decide) ?_
    refine v_put X kcX6 fl_X6_57 dX6_undo_23 0 rfl (ws' := ([ob x 6 [.ref (xa 0), .ref g, .ref (xa 2), .ref (xa 3), .ref (xa 4), .ref (xa 5), .ref (xa 6), .ref (xa 7), .int (nI 0), .int (nI fl), .int pl], ob (xa 3) 2 [.ref hi, .ref hm, .int (nI ((pk ((o + (ac - 1)) % 16)).2.2.1)), .int (nI ((pk ((o + (ac - 1)) % 16)).2.2.2))], aN E hi 8 ((pk ((o + (ac - 1)) % 16)).1), aI E hm 8 ((pk ((o + (ac - 1)) % 16)).2.1), ob (xa 5) 3 [.ref (pq 0), .ref (pq 1), .int (nI o), .int (nI (ac - 1)), .int (nI im)], aP E (pq 0) 16 (fun i => some (pa i).1)] ++ seg E pa 16 pk)) rfl rfl ?_
    refine v_iload_n X dX6_undo_26 rfl 0 rfl ?_
    exact v_zret X Y dX6_undo_27 (by decide) (wrI_of rfl rfl) (by omega) (by omega)
set_option maxRecDepth 100000 in
set_option maxHeartbeats 4000000 in
theorem c_X6_undo_no (l : Launch) (E : Et) (x : Nat) (xa : Nat → Nat) (g : Nat) (tr : Nat) (fl : Nat) (pl : Int32) (pq : Nat → Nat) (o : Nat) (im : Nat)  : Ct l E yX6_undo cX6_undo 2 (some .boolean) 6 0 0 [.ref x] [ob x 6 [.ref (xa 0), .ref g, .ref (xa 2), .ref (xa 3), .ref (xa 4), .ref (xa 5), .ref (xa 6), .ref (xa 7), .int (nI tr), .int (nI fl), .int pl], ob (xa 5) 3 [.ref (pq 0), .ref (pq 1), .int (nI o), .int (nI 0), .int (nI im)]] (wrI [ob x 6 [.ref (xa 0), .ref g, .ref (xa 2), .ref (xa 3), .ref (xa 4), .ref (xa 5), .ref (xa 6), .ref (xa 7), .int (nI 6), .int (nI fl), .int pl], ob (xa 5) 3 [.ref (pq 0), .ref (pq 1), .int (nI o), .int (nI 0), .int (nI im)]] (nI 0)) := by
  refine Ct.intro (by decide +kernel) (Nat.le_of_ble_eq_true rfl) (lv := [(0, .ref x)]) rfl ?_
  intro Z X Y
  refine v_aload_n X dX6_undo_0 rfl 0 rfl ?_
  refine v_get X kcX6 fl_X6_39 dX6_undo_1 0 rfl rfl ?_
  refine v_aload_n X dX6_undo_4 rfl 0 rfl ?_
  refine v_get X kcX6 fl_X6_30 dX6_undo_5 0 rfl rfl ?_
  refine v_roI1 X (rn_VN X k_X3_undoInto ml_X6_282 dX6_undo_8 (c_X3_undoInto_no l E (xa 5) pq o im (xa 3) ) rfl 0 rfl rfl (by decide) (by decide) (by omega) (by omega) (Nat.le_of_ble_eq_true rfl)) [1] rfl rfl ?_
  refine v_istore_n X dX6_undo_11 rfl (by decide) (lv' := [(1, .int (nI 0)), (0, .ref x)]) rfl ?_
  refine v_aload_n X dX6_undo_12 rfl 1 rfl ?_
  refine v_iload_n X dX6_undo_13 rfl 0 rfl ?_
  refine v_ifN_eq X dX6_undo_14 (tgt := 21) (by decide) (by decide) (fun h14 => ?_) (fun h14 => ?_)
  · refine v_bipush X dX6_undo_21 (v := nI 6) (by decide) ?_
    refine v_put X kcX6 fl_X6_57 dX6_undo_23 0 rfl (ws' := [ob x 6 [.ref (xa 0), .ref g, .ref (xa 2), .ref (xa 3), .ref (xa 4), .ref (xa 5), .ref (xa 6), .ref (xa 7), .int (nI 6), .int (nI fl), .int pl], ob (xa 5) 3 [.ref (pq 0), .ref (pq 1), .int (nI o), .int (nI 0), .int (nI im)]]) rfl rfl ?_
    refine v_iload_n X dX6_undo_26 rfl 0 rfl ?_
    exact v_zret X Y dX6_undo_27 (by decide) (wrI_of rfl rfl) (by omega) (by omega)
  · exfalso; omega
set_option maxRecDepth 100000 in
set_option maxHeartbeats 4000000 in
theorem c_X6_image (l : Launch) (E : Et) (x : Nat) (xa : Nat → Nat) (g : Nat) (tr : Nat) (fl : Nat) (pl : Int32) (cy : Nat → Nat) (ca : Nat → Nat) (hi : Nat) (hm : Nat) (t : Nat) (dd : Nat) (ink : Nat → Nat) (mn : Nat → Int32) (pq : Nat → Nat) (o : Nat) (ac : Nat) (im : Nat) (pb : Nat → Nat × Nat × Nat) (pj : Nat → Pv) (hmen : cy 3 ≤ 4) (h3 : ¬ cy 3 = 0) (him : im < 3) : Ct l E yX6_image cX6_image 2 (some .int) 6 0 0 [.ref x] ([ob x 6 [.ref (xa 0), .ref g, .ref (xa 2), .ref (xa 3), .ref (xa 4), .ref (xa 5), .ref (xa 6), .ref (xa 7), .int (nI tr), .int (nI fl), .int pl], ob g 0 [.int (nI (cy 0)), .int (nI (cy 1)), .int (nI (cy 2)), .int (nI (cy 3)), .int (nI (cy 4)), .int (nI (cy 5)), .int (nI (cy 6)), .int (nI (cy 7)), .ref (ca 0), .ref (ca 1), .ref (ca 2), .ref (ca 3), .ref (ca 4), .ref (ca 5), .ref (ca 6), .ref (ca 7), .ref (ca 8), .ref (ca 9), .ref (ca 10), .ref (ca 11)], ob (xa 3) 2 [.ref hi, .ref hm, .int (nI t), .int (nI dd)], aN E hi 8 ink, aI E hm 8 mn, ob (xa 5) 3 [.ref (pq 0), .ref (pq 1), .int (nI o), .int (nI ac), .int (nI im)], aP E (pq 1) 3 (fun i => some (pb i).1)] ++ seg E pb 3 pj) (wrI ([ob x 6 [.ref (xa 0), .ref g, .ref (xa 2), .ref (xa 3), .ref (xa 4), .ref (xa 5), .ref (xa 6), .ref (xa 7), .int (nI 0), .int (nI fl), .int pl], ob g 0 [.int (nI (cy 0)), .int (nI (cy 1)), .int (nI (cy 2)), .int (nI (cy 3)), .int (nI (cy 4)), .int (nI (cy 5)), .int (nI (cy 6)), .int (nI (cy 7)), .ref (ca 0), .ref (ca 1), .ref (ca 2), .ref (ca 3), .ref (ca 4), .ref (ca 5), .ref (ca 6), .ref (ca 7), .ref (ca 8), .ref (ca 9), .ref (ca 10), .ref (ca 11)], ob (xa 3) 2 [.ref hi, .ref hm, .int (nI t), .int (nI dd)], aN E hi 8 ink, aI E hm 8 mn, ob (xa 5) 3 [.ref (pq 0), .ref (pq 1), .int (nI o), .int (nI ac), .int (nI (im + 1))], aP E (pq 1) 3 (fun i => some (pb i).1)] ++ seg E pb 3 (upP pj im (ink, mn, t, dd))) (nI im)) := by
  refine Ct.intro (by decide +kernel) (Nat.le_of_ble_eq_true rfl) (lv := [(0, .ref x)]) rfl ?_
  intro Z X Y
  refine v_aload_n X dX6_image_0 rfl 0 rfl ?_
  refine v_roI1 X (rn_V X k_X6_noCity ml_X6_168 dX6_image_1 (c_X6_noCity l E x xa g tr fl pl cy ca (by first | assumption | omega)) rfl 0 rfl rfl (by decide) (by decide) (by omega) (by omega) (Nat.le_of_ble_eq_true rfl)) [0, 1] rfl rfl ?_
  refine v_ifB_eq X dX6_image_4 (tgt := 13) (by decide) (fun h4 => ?_) (fun h4 => ?_)
  · refine v_aload_n X dX6_image_13 rfl 0 rfl ?_
    refine v_get X kcX6 fl_X6_39 dX6_image_14 0 rfl rfl ?_
    refine v_aload_n X dX6_image_17 rfl 0 rfl ?_
    refine v_get X kcX6 fl_X6_30 dX6_image_18 0 rfl rfl ?_
    refine v_wrI1 X (rn_VN X k_X3_keepImage ml_X6_286 dX6_image_21 (c_X3_keepImage l E (xa 5) pq o ac im pb pj (xa 3) hi hm t dd ink mn (by first | assumption | omega)) rfl 0 rfl rfl (by decide) (by decide) (by omega) (by omega) (Nat.le_of_ble_eq_true rfl)) ([5, 6, 2, 3, 4] ++ List.range' 7 9) (tl_nd 9 [5, 6, 2, 3, 4] rfl (by decide)) (tl_get [5, 6, 2, 3, 4] rfl (sg_len 3 0) rfl) (tl_fst rfl (sg_fst 3 0)) (ws' := ([ob x 6 [.ref (xa 0), .ref g, .ref (xa 2), .ref (xa 3), .ref (xa 4), .ref (xa 5), .ref (xa 6), .ref (xa 7), .int (nI tr), .int (nI fl), .int pl], ob g 0 [.int (nI (cy 0)), .int (nI (cy 1)), .int (nI (cy 2)), .int (nI (cy 3)), .int (nI (cy 4)), .int (nI (cy 5)), .int (nI (cy 6)), .int (nI (cy 7)), .ref (ca 0), .ref (ca 1), .ref (ca 2), .ref (ca 3), .ref (ca 4), .ref (ca 5), .ref (ca 6), .ref (ca 7), .ref (ca 8), .ref (ca 9), .ref (ca 10), .ref (ca 11)], ob (xa 3) 2 [.ref hi, .ref hm, .int (nI t), .int (nI dd)], aN E hi 8 ink, aI E hm 8 mn, ob (xa 5) 3 [.ref (pq 0), .ref (pq 1), .int (nI o), .int (nI ac), .int (nI (im + 1))], aP E (pq 1) 3 (fun i => some (pb i).1)] ++ seg E pb 3 (upP pj im (ink, mn, t, dd)))) (tl_put [5, 6, 2, 3, 4] _ _ rfl (sg_len 3 0) (sg_len 3 0) rfl (by decide)) ?_
    refine v_istore_n X dX6_image_24 rfl (by decide) (lv' := [(1, .int (nI im)), (0, .ref x)]) rfl ?_
    refine v_iload_n X dX6_image_25 rfl 0 rfl ?_
    refine v_iconst X dX6_image_26 (v := (-1)) (by decide) ?_
    refine v_icmp_ne X dX6_image_27 (tgt := 38) (by decide) (fun h27 => ?_) (fun h27 => ?_)
    · refine v_aload_n X dX6_image_38 rfl 1 rfl ?_
      refine v_iload_n X dX6_image_39 rfl 0 rfl ?_
      refine v_wrI1 X (rn_V X k_X6_answered ml_X6_92 dX6_image_40 (c_X6_answered l E x xa g tr fl pl (nI im) ) rfl 0 rfl rfl (by decide) (by decide) (by omega) (by omega) (Nat.le_of_ble_eq_true rfl)) [0] rfl rfl (ws' := ([ob x 6 [.ref (xa 0), .ref g, .ref (xa 2), .ref (xa 3), .ref (xa 4), .ref (xa 5), .ref (xa 6), .ref (xa 7), .int (nI 0), .int (nI fl), .int pl], ob g 0 [.int (nI (cy 0)), .int (nI (cy 1)), .int (nI (cy 2)), .int (nI (cy 3)), .int (nI (cy 4)), .int (nI (cy 5)), .int (nI (cy 6)), .int (nI (cy 7)), .ref (ca 0), .ref (ca 1), .ref (ca 2), .ref (ca 3), .ref (ca 4), .ref (ca 5), .ref (ca 6), .ref (ca 7), .ref (ca 8), .ref (ca 9), .ref (ca 10), .ref (ca 11)], ob (xa 3) 2 [.ref hi, .ref hm, .int (nI t), .int (nI dd)], aN E hi 8 ink, aI E hm 8 mn, ob (xa 5) 3 [.ref (pq 0), .ref (pq 1), .int (nI o), .int (nI ac), .int (nI (im + 1))], aP E (pq 1) 3 (fun i => some (pb i).1)] ++ seg E pb 3 (upP pj im (ink, mn, t, dd)))) rfl rfl ?_
      exact v_iret X Y dX6_image_43 (wrI_of rfl (by simp_all)) (by omega) (by omega)
    · exact (nm1 h27 (by omega)).elim
  · exact absurd (of_decide_eq_true h4) h3
set_option maxRecDepth 100000 in
set_option maxHeartbeats 4000000 in
theorem c_X6_image_no1 (l : Launch) (E : Et) (x : Nat) (xa : Nat → Nat) (g : Nat) (tr : Nat) (fl : Nat) (pl : Int32) (cy : Nat → Nat) (ca : Nat → Nat) (hmen : cy 3 ≤ 4) (h3 : cy 3 = 0) : Ct l E yX6_image cX6_image 2 (some .int) 6 0 0 [.ref x] [ob x 6 [.ref (xa 0), .ref g, .ref (xa 2), .ref (xa 3), .ref (xa 4), .ref (xa 5), .ref (xa 6), .ref (xa 7), .int (nI tr), .int (nI fl), .int pl], ob g 0 [.int (nI (cy 0)), .int (nI (cy 1)), .int (nI (cy 2)), .int (nI (cy 3)), .int (nI (cy 4)), .int (nI (cy 5)), .int (nI (cy 6)), .int (nI (cy 7)), .ref (ca 0), .ref (ca 1), .ref (ca 2), .ref (ca 3), .ref (ca 4), .ref (ca 5), .ref (ca 6), .ref (ca 7), .ref (ca 8), .ref (ca 9), .ref (ca 10), .ref (ca 11)]] (wrI [ob x 6 [.ref (xa 0), .ref g, .ref (xa 2), .ref (xa 3), .ref (xa 4), .ref (xa 5), .ref (xa 6), .ref (xa 7), .int (nI 1), .int (nI fl), .int pl], ob g 0 [.int (nI (cy 0)), .int (nI (cy 1)), .int (nI (cy 2)), .int (nI (cy 3)), .int (nI (cy 4)), .int (nI (cy 5)), .int (nI (cy 6)), .int (nI (cy 7)), .ref (ca 0), .ref (ca 1), .ref (ca 2), .ref (ca 3), .ref (ca 4), .ref (ca 5), .ref (ca 6), .ref (ca 7), .ref (ca 8), .ref (ca 9), .ref (ca 10), .ref (ca 11)]] (-1)) := by
  refine Ct.intro (by decide +kernel) (Nat.le_of_ble_eq_true rfl) (lv := [(0, .ref x)]) rfl ?_
  intro Z X Y
  refine v_aload_n X dX6_image_0 rfl 0 rfl ?_
  refine v_roI1 X (rn_V X k_X6_noCity ml_X6_168 dX6_image_1 (c_X6_noCity l E x xa g tr fl pl cy ca (by first | assumption | omega)) rfl 0 rfl rfl (by decide) (by decide) (by omega) (by omega) (Nat.le_of_ble_eq_true rfl)) [0, 1] rfl rfl ?_
  refine v_ifB_eq X dX6_image_4 (tgt := 13) (by decide) (fun h4 => ?_) (fun h4 => ?_)
  · exact absurd h3 (of_decide_eq_false h4)
  · refine v_aload_n X dX6_image_7 rfl 0 rfl ?_
    refine v_iconst X dX6_image_8 (v := nI 1) (by decide) ?_
    refine v_wrI1 X (rn_V X k_X6_refused ml_X6_74 dX6_image_9 (c_X6_refused l E x xa g tr fl pl 1 ) rfl 0 rfl rfl (by decide) (by decide) (by omega) (by omega) (Nat.le_of_ble_eq_true rfl)) [0] rfl rfl (ws' := [ob x 6 [.ref (xa 0), .ref g, .ref (xa 2), .ref (xa 3), .ref (xa 4), .ref (xa 5), .ref (xa 6), .ref (xa 7), .int (nI 1), .int (nI fl), .int pl], ob g 0 [.int (nI (cy 0)), .int (nI (cy 1)), .int (nI (cy 2)), .int (nI (cy 3)), .int (nI (cy 4)), .int (nI (cy 5)), .int (nI (cy 6)), .int (nI (cy 7)), .ref (ca 0), .ref (ca 1), .ref (ca 2), .ref (ca 3), .ref (ca 4), .ref (ca 5), .ref (ca 6), .ref (ca 7), .ref (ca 8), .ref (ca 9), .ref (ca 10), .ref (ca 11)]]) rfl rfl ?_
    exact v_iret X Y dX6_image_12 (wrI_of rfl rfl) (by omega) (by omega)
set_option maxRecDepth 100000 in
set_option maxHeartbeats 4000000 in
theorem c_X6_image_no3 (l : Launch) (E : Et) (x : Nat) (xa : Nat → Nat) (g : Nat) (tr : Nat) (fl : Nat) (pl : Int32) (cy : Nat → Nat) (ca : Nat → Nat) (pq : Nat → Nat) (o : Nat) (ac : Nat) (im : Nat) (hmen : cy 3 ≤ 4) (h3 : ¬ cy 3 = 0) (him : im = 3) : Ct l E yX6_image cX6_image 2 (some .int) 6 0 0 [.ref x] [ob x 6 [.ref (xa 0), .ref g, .ref (xa 2), .ref (xa 3), .ref (xa 4), .ref (xa 5), .ref (xa 6), .ref (xa 7), .int (nI tr), .int (nI fl), .int pl], ob g 0 [.int (nI (cy 0)), .int (nI (cy 1)), .int (nI (cy 2)), .int (nI (cy 3)), .int (nI (cy 4)), .int (nI (cy 5)), .int (nI (cy 6)), .int (nI (cy 7)), .ref (ca 0), .ref (ca 1), .ref (ca 2), .ref (ca 3), .ref (ca 4), .ref (ca 5), .ref (ca 6), .ref (ca 7), .ref (ca 8), .ref (ca 9), .ref (ca 10), .ref (ca 11)], ob (xa 5) 3 [.ref (pq 0), .ref (pq 1), .int (nI o), .int (nI ac), .int (nI im)]] (wrI [ob x 6 [.ref (xa 0), .ref g, .ref (xa 2), .ref (xa 3), .ref (xa 4), .ref (xa 5), .ref (xa 6), .ref (xa 7), .int (nI 3), .int (nI fl), .int pl], ob g 0 [.int (nI (cy 0)), .int (nI (cy 1)), .int (nI (cy 2)), .int (nI (cy 3)), .int (nI (cy 4)), .int (nI (cy 5)), .int (nI (cy 6)), .int (nI (cy 7)), .ref (ca 0), .ref (ca 1), .ref (ca 2), .ref (ca 3), .ref (ca 4), .ref (ca 5), .ref (ca 6), .ref (ca 7), .ref (ca 8), .ref (ca 9), .ref (ca 10), .ref (ca 11)], ob (xa 5) 3 [.ref (pq 0), .ref (pq 1), .int (nI o), .int (nI ac), .int (nI im)]] (-1)) := by
  refine Ct.intro (by decide +kernel) (Nat.le_of_ble_eq_true rfl) (lv := [(0, .ref x)]) rfl ?_
  intro Z X Y
  refine v_aload_n X dX6_image_0 rfl 0 rfl ?_
  refine v_roI1 X (rn_V X k_X6_noCity ml_X6_168 dX6_image_1 (c_X6_noCity l E x xa g tr fl pl cy ca (by first | assumption | omega)) rfl 0 rfl rfl (by decide) (by decide) (by omega) (by omega) (Nat.le_of_ble_eq_true rfl)) [0, 1] rfl rfl ?_
  refine v_ifB_eq X dX6_image_4 (tgt := 13) (by decide) (fun h4 => ?_) (fun h4 => ?_)
  · refine v_aload_n X dX6_image_13 rfl 0 rfl ?_
    refine v_get X kcX6 fl_X6_39 dX6_image_14 0 rfl rfl ?_
    refine v_aload_n X dX6_image_17 rfl 0 rfl ?_
    refine v_get X kcX6 fl_X6_30 dX6_image_18 0 rfl rfl ?_
    refine v_roI1 X (rn_VN X k_X3_keepImage ml_X6_286 dX6_image_21 (c_X3_keepImage_no l E (xa 5) pq o ac im (xa 3) (by first | assumption | omega)) rfl 0 rfl rfl (by decide) (by decide) (by omega) (by omega) (Nat.le_of_ble_eq_true rfl)) [2] rfl rfl ?_
    refine v_istore_n X dX6_image_24 rfl (by decide) (lv' := [(1, .int (-1)), (0, .ref x)]) rfl ?_
    refine v_iload_n X dX6_image_25 rfl 0 rfl ?_
    refine v_iconst X dX6_image_26 (v := (-1)) (by decide) ?_
    refine v_icmp_ne X dX6_image_27 (tgt := 38) (by decide) (fun h27 => ?_) (fun h27 => ?_)
    · exact absurd rfl h27
    · refine v_aload_n X dX6_image_30 rfl 1 rfl ?_
      refine v_iconst X dX6_image_31 (v := nI 3) (by decide) ?_
      refine v_wrI1 X (rn_V X k_X6_refused ml_X6_74 dX6_image_32 (c_X6_refused l E x xa g tr fl pl 3 ) rfl 0 rfl rfl (by decide) (by decide) (by omega) (by omega) (Nat.le_of_ble_eq_true rfl)) [0] rfl rfl (ws' := [ob x 6 [.ref (xa 0), .ref g, .ref (xa 2), .ref (xa 3), .ref (xa 4), .ref (xa 5), .ref (xa 6), .ref (xa 7), .int (nI 3), .int (nI fl), .int pl], ob g 0 [.int (nI (cy 0)), .int (nI (cy 1)), .int (nI (cy 2)), .int (nI (cy 3)), .int (nI (cy 4)), .int (nI (cy 5)), .int (nI (cy 6)), .int (nI (cy 7)), .ref (ca 0), .ref (ca 1), .ref (ca 2), .ref (ca 3), .ref (ca 4), .ref (ca 5), .ref (ca 6), .ref (ca 7), .ref (ca 8), .ref (ca 9), .ref (ca 10), .ref (ca 11)], ob (xa 5) 3 [.ref (pq 0), .ref (pq 1), .int (nI o), .int (nI ac), .int (nI im)]]) rfl rfl ?_
      refine v_goto X dX6_image_35 (tgt := 43) (by decide) ?_
      exact v_iret X Y dX6_image_43 (wrI_of rfl rfl) (by omega) (by omega)
  · exact absurd (of_decide_eq_true h4) h3
set_option maxRecDepth 100000 in
set_option maxHeartbeats 4000000 in
theorem c_X6_back (l : Launch) (E : Et) (x : Nat) (xa : Nat → Nat) (g : Nat) (tr : Nat) (fl : Nat) (pl : Int32) (hi : Nat) (hm : Nat) (t : Nat) (dd : Nat) (ink : Nat → Nat) (mn : Nat → Int32) (pq : Nat → Nat) (o : Nat) (ac : Nat) (im : Nat) (pb : Nat → Nat × Nat × Nat) (pj : Nat → Pv) (k : Nat) (him : im ≤ 3) (hk : k < im) : Ct l E yX6_back cX6_back 3 (some .boolean) 6 0 0 [.ref x, .int (nI k)] ([ob x 6 [.ref (xa 0), .ref g, .ref (xa 2), .ref (xa 3), .ref (xa 4), .ref (xa 5), .ref (xa 6), .ref (xa 7), .int (nI tr), .int (nI fl), .int pl], ob (xa 3) 2 [.ref hi, .ref hm, .int (nI t), .int (nI dd)], aN E hi 8 ink, aI E hm 8 mn, ob (xa 5) 3 [.ref (pq 0), .ref (pq 1), .int (nI o), .int (nI ac), .int (nI im)], aP E (pq 1) 3 (fun i => some (pb i).1)] ++ seg E pb 3 pj) (wrI ([ob x 6 [.ref (xa 0), .ref g, .ref (xa 2), .ref (xa 3), .ref (xa 4), .ref (xa 5), .ref (xa 6), .ref (xa 7), .int (nI 0), .int (nI fl), .int pl], ob (xa 3) 2 [.ref hi, .ref hm, .int (nI ((pj k).2.2.1)), .int (nI ((pj k).2.2.2))], aN E hi 8 ((pj k).1), aI E hm 8 ((pj k).2.1), ob (xa 5) 3 [.ref (pq 0), .ref (pq 1), .int (nI o), .int (nI 0), .int (nI im)], aP E (pq 1) 3 (fun i => some (pb i).1)] ++ seg E pb 3 pj) (nI 1)) := by
  refine Ct.intro (by decide +kernel) (Nat.le_of_ble_eq_true rfl) (lv := [(0, .ref x), (1, .int (nI k))]) rfl ?_
  intro Z X Y
  refine v_aload_n X dX6_back_0 rfl 0 rfl ?_
  refine v_get X kcX6 fl_X6_39 dX6_back_1 0 rfl rfl ?_
  refine v_aload_n X dX6_back_4 rfl 0 rfl ?_
  refine v_get X kcX6 fl_X6_30 dX6_back_5 0 rfl rfl ?_
  refine v_iload_n X dX6_back_8 rfl 1 rfl ?_
  refine v_wrI1 X (rn_VN X k_X3_goBackInto ml_X6_290 dX6_back_9 (c_X3_goBackInto l E (xa 5) pq o ac im pb pj (xa 3) hi hm t dd ink mn k (by first | assumption | omega) (by first | assumption | omega)) rfl 0 rfl rfl (by decide) (by decide) (by omega) (by omega) (Nat.le_of_ble_eq_true rfl)) ([4, 5, 1, 2, 3] ++ List.range' 6 9) (tl_nd 9 [4, 5, 1, 2, 3] rfl (by decide)) (tl_get [4, 5, 1, 2, 3] rfl (sg_len 3 0) rfl) (tl_fst rfl (sg_fst 3 0)) (ws' := ([ob x 6 [.ref (xa 0), .ref g, .ref (xa 2), .ref (xa 3), .ref (xa 4), .ref (xa 5), .ref (xa 6), .ref (xa 7), .int (nI tr), .int (nI fl), .int pl], ob (xa 3) 2 [.ref hi, .ref hm, .int (nI ((pj k).2.2.1)), .int (nI ((pj k).2.2.2))], aN E hi 8 ((pj k).1), aI E hm 8 ((pj k).2.1), ob (xa 5) 3 [.ref (pq 0), .ref (pq 1), .int (nI o), .int (nI 0), .int (nI im)], aP E (pq 1) 3 (fun i => some (pb i).1)] ++ seg E pb 3 pj)) (tl_put [4, 5, 1, 2, 3] _ _ rfl (sg_len 3 0) (sg_len 3 0) rfl (by decide)) ?_
  refine v_istore_n X dX6_back_12 rfl (by decide) (lv' := [(2, .int (nI 1)), (0, .ref x), (1, .int (nI k))]) rfl ?_
  refine v_aload_n X dX6_back_13 rfl 1 rfl ?_
  refine v_iload_n X dX6_back_14 rfl 0 rfl ?_
  refine v_ifN_eq X dX6_back_15 (tgt := 22) (by decide) (by decide) (fun h15 => ?_) (fun h15 => ?_)
  · exfalso; omega
  · refine v_iconst X dX6_back_18 (v := nI 0) (by decide) ?_
    refine v_goto X dX6_back_19 (tgt := 23) (by decide) ?_
    refine v_put X kcX6 fl_X6_57 dX6_back_23 0 rfl (ws' := ([ob x 6 [.ref (xa 0), .ref g, .ref (xa 2), .ref (xa 3), .ref (xa 4), .ref (xa 5), .ref (xa 6), .ref (xa 7), .int (nI 0), .int (nI fl), .int pl], ob (xa 3) 2 [.ref hi, .ref hm, .int (nI ((pj k).2.2.1)), .int (nI ((pj k).2.2.2))], aN E hi 8 ((pj k).1), aI E hm 8 ((pj k).2.1), ob (xa 5) 3 [.ref (pq 0), .ref (pq 1), .int (nI o), .int (nI 0), .int (nI im)], aP E (pq 1) 3 (fun i => some (pb i).1)] ++ seg E pb 3 pj)) rfl rfl ?_
    refine v_iload_n X dX6_back_26 rfl 0 rfl ?_
    exact v_zret X Y dX6_back_27 (by decide) (wrI_of rfl rfl) (by omega) (by omega)
set_option maxRecDepth 100000 in
set_option maxHeartbeats 4000000 in
theorem c_X6_back_no (l : Launch) (E : Et) (x : Nat) (xa : Nat → Nat) (g : Nat) (tr : Nat) (fl : Nat) (pl : Int32) (pq : Nat → Nat) (o : Nat) (ac : Nat) (im : Nat) (k : Int32) (hk : ¬ okM k im) : Ct l E yX6_back cX6_back 3 (some .boolean) 6 0 0 [.ref x, .int k] [ob x 6 [.ref (xa 0), .ref g, .ref (xa 2), .ref (xa 3), .ref (xa 4), .ref (xa 5), .ref (xa 6), .ref (xa 7), .int (nI tr), .int (nI fl), .int pl], ob (xa 5) 3 [.ref (pq 0), .ref (pq 1), .int (nI o), .int (nI ac), .int (nI im)]] (wrI [ob x 6 [.ref (xa 0), .ref g, .ref (xa 2), .ref (xa 3), .ref (xa 4), .ref (xa 5), .ref (xa 6), .ref (xa 7), .int (nI 1), .int (nI fl), .int pl], ob (xa 5) 3 [.ref (pq 0), .ref (pq 1), .int (nI o), .int (nI ac), .int (nI im)]] (nI 0)) := by
  refine Ct.intro (by decide +kernel) (Nat.le_of_ble_eq_true rfl) (lv := [(0, .ref x), (1, .int k)]) rfl ?_
  intro Z X Y
  refine v_aload_n X dX6_back_0 rfl 0 rfl ?_
  refine v_get X kcX6 fl_X6_39 dX6_back_1 0 rfl rfl ?_
  refine v_aload_n X dX6_back_4 rfl 0 rfl ?_
  refine v_get X kcX6 fl_X6_30 dX6_back_5 0 rfl rfl ?_
  refine v_iload_n X dX6_back_8 rfl 1 rfl ?_
  refine v_roI1 X (rn_VN X k_X3_goBackInto ml_X6_290 dX6_back_9 (c_X3_goBackInto_no l E (xa 5) pq o ac im (xa 3) k (by first | assumption | omega)) rfl 0 rfl rfl (by decide) (by decide) (by omega) (by omega) (Nat.le_of_ble_eq_true rfl)) [1] rfl rfl ?_
  refine v_istore_n X dX6_back_12 rfl (by decide) (lv' := [(2, .int (nI 0)), (0, .ref x), (1, .int k)]) rfl ?_
  refine v_aload_n X dX6_back_13 rfl 1 rfl ?_
  refine v_iload_n X dX6_back_14 rfl 0 rfl ?_
  refine v_ifN_eq X dX6_back_15 (tgt := 22) (by decide) (by decide) (fun h15 => ?_) (fun h15 => ?_)
  · refine v_iconst X dX6_back_22 (v := nI 1) (by decide) ?_
    refine v_put X kcX6 fl_X6_57 dX6_back_23 0 rfl (ws' := [ob x 6 [.ref (xa 0), .ref g, .ref (xa 2), .ref (xa 3), .ref (xa 4), .ref (xa 5), .ref (xa 6), .ref (xa 7), .int (nI 1), .int (nI fl), .int pl], ob (xa 5) 3 [.ref (pq 0), .ref (pq 1), .int (nI o), .int (nI ac), .int (nI im)]]) rfl rfl ?_
    refine v_iload_n X dX6_back_26 rfl 0 rfl ?_
    exact v_zret X Y dX6_back_27 (by decide) (wrI_of rfl rfl) (by omega) (by omega)
  · exfalso; omega
