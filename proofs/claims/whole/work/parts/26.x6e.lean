set_option maxRecDepth 100000 in
set_option maxHeartbeats 4000000 in
theorem c_X6_judge (l : Launch) (E : Et) (x : Nat) (xa : Nat → Nat) (g : Nat) (tr : Nat) (fl : Nat) (pl : Int32) (cy : Nat → Nat) (ca : Nat → Nat) (Fs : Nat → Nat) (Ft : Nat → Nat) (dm : Nat → Nat) (dy : Nat → Nat) (ds : Nat → Nat) (dk : Nat → Bool) (i2 : Nat) (m2 : Nat) (t2 : Nat) (d2 : Nat) (ink2 : Nat → Nat) (mn2 : Nat → Int32) (hd : cy 4 ≤ 6) (hcl : cy 5 ≤ 8) (hmen : cy 3 ≤ 4) (hdd : cy 7 ≤ 6) (hdy : ∀ i, i < cy 7 → dy i ≤ 40) (hds : ∀ i, i < cy 7 → ds i < 64) (hink2 : ∀ c, ink2 c ≤ 40) : Ct l E yX6_judge cX6_judge 2 (some .int) 6 0 0 [.ref x] [ob x 6 [.ref (xa 0), .ref g, .ref (xa 2), .ref (xa 3), .ref (xa 4), .ref (xa 5), .ref (xa 6), .ref (xa 7), .int (nI tr), .int (nI fl), .int pl], ob g 0 [.int (nI (cy 0)), .int (nI (cy 1)), .int (nI (cy 2)), .int (nI (cy 3)), .int (nI (cy 4)), .int (nI (cy 5)), .int (nI (cy 6)), .int (nI (cy 7)), .ref (ca 0), .ref (ca 1), .ref (ca 2), .ref (ca 3), .ref (ca 4), .ref (ca 5), .ref (ca 6), .ref (ca 7), .ref (ca 8), .ref (ca 9), .ref (ca 10), .ref (ca 11)], aM E (ca 5) 8 Fs, aM E (ca 6) 8 Ft, aN E (ca 8) 6 dm, aN E (ca 9) 6 dy, aN E (ca 10) 6 ds, aZ E (ca 11) 6 dk, ob (xa 2) 2 [.ref i2, .ref m2, .int (nI t2), .int (nI d2)], aN E i2 8 ink2, aI E m2 8 mn2] (wrI [ob x 6 [.ref (xa 0), .ref g, .ref (xa 2), .ref (xa 3), .ref (xa 4), .ref (xa 5), .ref (xa 6), .ref (xa 7), .int (nI (if cy 3 = 0 then 1 else 0)), .int (nI fl), .int pl], ob g 0 [.int (nI (cy 0)), .int (nI (cy 1)), .int (nI (cy 2)), .int (nI (cy 3)), .int (nI (cy 4)), .int (nI (cy 5)), .int (nI (cy 6)), .int (nI (cy 7)), .ref (ca 0), .ref (ca 1), .ref (ca 2), .ref (ca 3), .ref (ca 4), .ref (ca 5), .ref (ca 6), .ref (ca 7), .ref (ca 8), .ref (ca 9), .ref (ca 10), .ref (ca 11)], aM E (ca 5) 8 Fs, aM E (ca 6) 8 Ft, aN E (ca 8) 6 dm, aN E (ca 9) 6 dy, aN E (ca 10) 6 ds, aZ E (ca 11) 6 dk, ob (xa 2) 2 [.ref i2, .ref m2, .int (nI t2), .int (nI d2)], aN E i2 8 ink2, aI E m2 8 mn2] (if cy 3 = 0 then (-1) else optI (fst_ (fun i => !toldB cy Fs Ft dm dy ds dk ink2 mn2 0 i) (cy 7) 0))) := by
  refine Ct.intro (by decide +kernel) (Nat.le_of_ble_eq_true rfl) (lv := [(0, .ref x)]) rfl ?_
  intro Z X Y
  refine v_aload_n X dX6_judge_0 rfl 0 rfl ?_
  refine v_roI1 X (rn_V X k_X6_noCity ml_X6_168 dX6_judge_1 (c_X6_noCity l E x xa g tr fl pl cy ca (by first | assumption | omega)) rfl 0 rfl rfl (by decide) (by decide) (by omega) (by omega) (Nat.le_of_ble_eq_true rfl)) [0, 1] rfl rfl ?_
  refine v_ifB_eq X dX6_judge_4 (tgt := 13) (by decide) (fun h4 => ?_) (fun h4 => ?_)
  · refine v_iconst X dX6_judge_13 (v := nI 0) (by decide) ?_
    refine v_istore_n X dX6_judge_14 rfl (by decide) (lv' := [(1, .int (nI 0)), (0, .ref x)]) rfl ?_
    have L15 : ∀ (j15 : Nat) (vi : Nat), (vi ≤ cy 7 ∧ fst_ (fun i => !toldB cy Fs Ft dm dy ds dk ink2 mn2 0 i) (cy 7) 0 = fst_ (fun i => !toldB cy Fs Ft dm dy ds dk ink2 mn2 0 i) (cy 7 - vi) vi) → cy 7 - vi < j15 → V E Z 15 [(0, .ref x), (1, .int (nI vi))] [] [ob x 6 [.ref (xa 0), .ref g, .ref (xa 2), .ref (xa 3), .ref (xa 4), .ref (xa 5), .ref (xa 6), .ref (xa 7), .int (nI tr), .int (nI fl), .int pl], ob g 0 [.int (nI (cy 0)), .int (nI (cy 1)), .int (nI (cy 2)), .int (nI (cy 3)), .int (nI (cy 4)), .int (nI (cy 5)), .int (nI (cy 6)), .int (nI (cy 7)), .ref (ca 0), .ref (ca 1), .ref (ca 2), .ref (ca 3), .ref (ca 4), .ref (ca 5), .ref (ca 6), .ref (ca 7), .ref (ca 8), .ref (ca 9), .ref (ca 10), .ref (ca 11)], aM E (ca 5) 8 Fs, aM E (ca 6) 8 Ft, aN E (ca 8) 6 dm, aN E (ca 9) 6 dy, aN E (ca 10) 6 ds, aZ E (ca 11) 6 dk, ob (xa 2) 2 [.ref i2, .ref m2, .int (nI t2), .int (nI d2)], aN E i2 8 ink2, aI E m2 8 mn2] 0 0 := by
      intro j15
      induction j15 with
      | zero => intro vi hI hM; exact absurd hM (Nat.not_lt_zero _)
      | succ j15 ih15 =>
        intro vi hI15 hM15
        obtain ⟨hc, hq⟩ := id hI15
        refine v_iload_n X dX6_judge_15 rfl 1 rfl ?_
        refine v_aload_n X dX6_judge_16 rfl 0 rfl ?_
        refine v_get X kcX6 fl_X6_19 dX6_judge_17 0 rfl rfl ?_
        refine v_getN X kcX0 fl_X6_223 dX6_judge_20 1 rfl rfl ?_
        refine v_icmpN_ge X dX6_judge_23 (tgt := 54) (by decide) (by omega) (by omega) (fun h23 => ?_) (fun h23 => ?_)
        · refine v_aload_n X dX6_judge_54 rfl 0 rfl ?_
          refine v_bipush X dX6_judge_55 (v := (-2)) (by decide) ?_
          refine v_wrI1 X (rn_V X k_X6_answered ml_X6_92 dX6_judge_57 (c_X6_answered l E x xa g tr fl pl (-2) ) rfl 0 rfl rfl (by decide) (by decide) (by omega) (by omega) (Nat.le_of_ble_eq_true rfl)) [0] rfl rfl (ws' := [ob x 6 [.ref (xa 0), .ref g, .ref (xa 2), .ref (xa 3), .ref (xa 4), .ref (xa 5), .ref (xa 6), .ref (xa 7), .int (nI 0), .int (nI fl), .int pl], ob g 0 [.int (nI (cy 0)), .int (nI (cy 1)), .int (nI (cy 2)), .int (nI (cy 3)), .int (nI (cy 4)), .int (nI (cy 5)), .int (nI (cy 6)), .int (nI (cy 7)), .ref (ca 0), .ref (ca 1), .ref (ca 2), .ref (ca 3), .ref (ca 4), .ref (ca 5), .ref (ca 6), .ref (ca 7), .ref (ca 8), .ref (ca 9), .ref (ca 10), .ref (ca 11)], aM E (ca 5) 8 Fs, aM E (ca 6) 8 Ft, aN E (ca 8) 6 dm, aN E (ca 9) 6 dy, aN E (ca 10) 6 ds, aZ E (ca 11) 6 dk, ob (xa 2) 2 [.ref i2, .ref m2, .int (nI t2), .int (nI d2)], aN E i2 8 ink2, aI E m2 8 mn2]) rfl rfl ?_
          exact v_iret X Y dX6_judge_60 (wrI_of (by rw [if_neg (of_decide_eq_false h4)]) (by rw [if_neg (of_decide_eq_false h4), hq, show cy 7 - vi = 0 by omega]; rfl)) (by omega) (by omega)
        · refine v_aload_n X dX6_judge_26 rfl 0 rfl ?_
          refine v_get X kcX6 fl_X6_19 dX6_judge_27 0 rfl rfl ?_
          refine v_iload_n X dX6_judge_30 rfl 1 rfl ?_
          refine v_aload_n X dX6_judge_31 rfl 0 rfl ?_
          refine v_get X kcX6 fl_X6_26 dX6_judge_32 0 rfl rfl ?_
          refine v_iconst X dX6_judge_35 (v := nI 0) (by decide) ?_
          refine v_roI1 X (rn_VN X k_X0_isToldTruly ml_X6_226 dX6_judge_36 (c_X0_isToldTruly l E g cy ca Fs Ft dm dy ds dk (xa 2) i2 m2 t2 d2 ink2 mn2 vi 0 (by first | assumption | omega) (by first | assumption | omega) (by first | assumption | omega) (by first | assumption | omega) (by first | assumption | omega) (by first | assumption | omega) (by omega) (by first | assumption | omega)) rfl 0 rfl rfl (by decide) (by decide) (by omega) (by omega) (Nat.le_of_ble_eq_true rfl)) [1, 2, 3, 4, 5, 6, 7, 8, 9, 10] rfl rfl ?_
          refine v_ifB_ne X dX6_judge_39 (tgt := 48) (by decide) (fun h39 => ?_) (fun h39 => ?_)
          · refine v_iinc X dX6_judge_48 1 rfl (v := nI (vi + 1)) (nI_inc vi) (by decide) (lv' := [(1, .int (nI (vi + 1))), (0, .ref x)]) rfl ?_
            refine v_goto X dX6_judge_51 (tgt := 15) (by decide) ?_
            refine V.lvs [1, 0] rfl ?_
            exact ih15 (vi + 1) (⟨by omega, hq.trans (fst_no (by omega) (congrArg Bool.not h39))⟩) (by omega)
          · refine v_aload_n X dX6_judge_42 rfl 0 rfl ?_
            refine v_iload_n X dX6_judge_43 rfl 1 rfl ?_
            refine v_wrI1 X (rn_V X k_X6_answered ml_X6_92 dX6_judge_44 (c_X6_answered l E x xa g tr fl pl (nI vi) ) rfl 0 rfl rfl (by decide) (by decide) (by omega) (by omega) (Nat.le_of_ble_eq_true rfl)) [0] rfl rfl (ws' := [ob x 6 [.ref (xa 0), .ref g, .ref (xa 2), .ref (xa 3), .ref (xa 4), .ref (xa 5), .ref (xa 6), .ref (xa 7), .int (nI 0), .int (nI fl), .int pl], ob g 0 [.int (nI (cy 0)), .int (nI (cy 1)), .int (nI (cy 2)), .int (nI (cy 3)), .int (nI (cy 4)), .int (nI (cy 5)), .int (nI (cy 6)), .int (nI (cy 7)), .ref (ca 0), .ref (ca 1), .ref (ca 2), .ref (ca 3), .ref (ca 4), .ref (ca 5), .ref (ca 6), .ref (ca 7), .ref (ca 8), .ref (ca 9), .ref (ca 10), .ref (ca 11)], aM E (ca 5) 8 Fs, aM E (ca 6) 8 Ft, aN E (ca 8) 6 dm, aN E (ca 9) 6 dy, aN E (ca 10) 6 ds, aZ E (ca 11) 6 dk, ob (xa 2) 2 [.ref i2, .ref m2, .int (nI t2), .int (nI d2)], aN E i2 8 ink2, aI E m2 8 mn2]) rfl rfl ?_
            exact v_iret X Y dX6_judge_47 (wrI_of (by rw [if_neg (of_decide_eq_false h4)]) (by rw [if_neg (of_decide_eq_false h4), hq, fst_hit (p := fun i => !toldB cy Fs Ft dm dy ds dk ink2 mn2 0 i) (by omega) (congrArg Bool.not h39)]; rfl)) (by omega) (by omega)
    refine V.lvs [1, 0] rfl ?_
    exact L15 _ 0 (⟨by omega, rfl⟩) (Nat.lt_succ_self _)
  · refine v_aload_n X dX6_judge_7 rfl 0 rfl ?_
    refine v_iconst X dX6_judge_8 (v := nI 1) (by decide) ?_
    refine v_wrI1 X (rn_V X k_X6_refused ml_X6_74 dX6_judge_9 (c_X6_refused l E x xa g tr fl pl 1 ) rfl 0 rfl rfl (by decide) (by decide) (by omega) (by omega) (Nat.le_of_ble_eq_true rfl)) [0] rfl rfl (ws' := [ob x 6 [.ref (xa 0), .ref g, .ref (xa 2), .ref (xa 3), .ref (xa 4), .ref (xa 5), .ref (xa 6), .ref (xa 7), .int (nI 1), .int (nI fl), .int pl], ob g 0 [.int (nI (cy 0)), .int (nI (cy 1)), .int (nI (cy 2)), .int (nI (cy 3)), .int (nI (cy 4)), .int (nI (cy 5)), .int (nI (cy 6)), .int (nI (cy 7)), .ref (ca 0), .ref (ca 1), .ref (ca 2), .ref (ca 3), .ref (ca 4), .ref (ca 5), .ref (ca 6), .ref (ca 7), .ref (ca 8), .ref (ca 9), .ref (ca 10), .ref (ca 11)], aM E (ca 5) 8 Fs, aM E (ca 6) 8 Ft, aN E (ca 8) 6 dm, aN E (ca 9) 6 dy, aN E (ca 10) 6 ds, aZ E (ca 11) 6 dk, ob (xa 2) 2 [.ref i2, .ref m2, .int (nI t2), .int (nI d2)], aN E i2 8 ink2, aI E m2 8 mn2]) rfl rfl ?_
    exact v_iret X Y dX6_judge_12 (wrI_of (by rw [if_pos (of_decide_eq_true h4)]) ((if_pos (of_decide_eq_true h4)).symm)) (by omega) (by omega)
set_option maxRecDepth 100000 in
set_option maxHeartbeats 4000000 in
theorem c_X1_weigh (l : Launch) (E : Et) (h : Nat) (hw : Nat) (wt : Nat → Nat) (g : Nat) (cy : Nat → Nat) (ca : Nat → Nat) (Fs : Nat → Nat) (Ft : Nat → Nat) (uc : Nat → Nat) (dm : Nat → Nat) (dy : Nat → Nat) (ds : Nat → Nat) (dk : Nat → Bool) (h2 : Nat) (hi2 : Nat) (hm2 : Nat) (t2 : Nat) (dd2 : Nat) (ink2 : Nat → Nat) (mn2 : Nat → Int32) (hd : cy 4 ≤ 6) (hcl : cy 5 ≤ 8) (hsl : cy 1 ≤ 100) (hu : cy 6 ≤ 5) (huc : ∀ k, k < cy 6 → uc k < 8) (hdd : cy 7 ≤ 6) (hdy : ∀ i, i < cy 7 → dy i ≤ 40) (hds : ∀ i, i < cy 7 → ds i < 64) (hink2 : ∀ c, ink2 c ≤ 40) : Ct l E yX1_weigh cX1_weigh 4 none 5 0 0 [.ref h, .ref g, .ref h2] [ob h 1 [.ref hw], aM E hw 32 wt, ob g 0 [.int (nI (cy 0)), .int (nI (cy 1)), .int (nI (cy 2)), .int (nI (cy 3)), .int (nI (cy 4)), .int (nI (cy 5)), .int (nI (cy 6)), .int (nI (cy 7)), .ref (ca 0), .ref (ca 1), .ref (ca 2), .ref (ca 3), .ref (ca 4), .ref (ca 5), .ref (ca 6), .ref (ca 7), .ref (ca 8), .ref (ca 9), .ref (ca 10), .ref (ca 11)], aM E (ca 5) 8 Fs, aM E (ca 6) 8 Ft, aN E (ca 7) 5 uc, aN E (ca 8) 6 dm, aN E (ca 9) 6 dy, aN E (ca 10) 6 ds, aZ E (ca 11) 6 dk, ob h2 2 [.ref hi2, .ref hm2, .int (nI t2), .int (nI dd2)], aN E hi2 8 ink2, aI E hm2 8 mn2] (wrV [ob h 1 [.ref hw], aM E hw 32 (wtF cy Fs Ft dm dy ds dk ink2 mn2 uc), ob g 0 [.int (nI (cy 0)), .int (nI (cy 1)), .int (nI (cy 2)), .int (nI (cy 3)), .int (nI (cy 4)), .int (nI (cy 5)), .int (nI (cy 6)), .int (nI (cy 7)), .ref (ca 0), .ref (ca 1), .ref (ca 2), .ref (ca 3), .ref (ca 4), .ref (ca 5), .ref (ca 6), .ref (ca 7), .ref (ca 8), .ref (ca 9), .ref (ca 10), .ref (ca 11)], aM E (ca 5) 8 Fs, aM E (ca 6) 8 Ft, aN E (ca 7) 5 uc, aN E (ca 8) 6 dm, aN E (ca 9) 6 dy, aN E (ca 10) 6 ds, aZ E (ca 11) 6 dk, ob h2 2 [.ref hi2, .ref hm2, .int (nI t2), .int (nI dd2)], aN E hi2 8 ink2, aI E hm2 8 mn2]) := by
  refine Ct.intro (by decide +kernel) (Nat.le_of_ble_eq_true rfl) (lv := [(0, .ref h), (1, .ref g), (2, .ref h2)]) rfl ?_
  intro Z X Y
  refine v_iconst X dX1_weigh_0 (v := nI 0) (by decide) ?_
  refine v_istore_n X dX1_weigh_1 rfl (by decide) (lv' := [(3, .int (nI 0)), (0, .ref h), (1, .ref g), (2, .ref h2)]) rfl ?_
  have L2 : ∀ (j2 : Nat) (vk : Nat) (vg : Nat → Nat), (vk ≤ 32 ∧ ∀ j, j < vk → vg j = wtF cy Fs Ft dm dy ds dk ink2 mn2 uc j) → 32 - vk < j2 → V E Z 2 [(0, .ref h), (1, .ref g), (2, .ref h2), (3, .int (nI vk))] [] [ob h 1 [.ref hw], aM E hw 32 vg, ob g 0 [.int (nI (cy 0)), .int (nI (cy 1)), .int (nI (cy 2)), .int (nI (cy 3)), .int (nI (cy 4)), .int (nI (cy 5)), .int (nI (cy 6)), .int (nI (cy 7)), .ref (ca 0), .ref (ca 1), .ref (ca 2), .ref (ca 3), .ref (ca 4), .ref (ca 5), .ref (ca 6), .ref (ca 7), .ref (ca 8), .ref (ca 9), .ref (ca 10), .ref (ca 11)], aM E (ca 5) 8 Fs, aM E (ca 6) 8 Ft, aN E (ca 7) 5 uc, aN E (ca 8) 6 dm, aN E (ca 9) 6 dy, aN E (ca 10) 6 ds, aZ E (ca 11) 6 dk, ob h2 2 [.ref hi2, .ref hm2, .int (nI t2), .int (nI dd2)], aN E hi2 8 ink2, aI E hm2 8 mn2] 0 0 := by
    intro j2
    induction j2 with
    | zero => intro vk vg hI hM; exact absurd hM (Nat.not_lt_zero _)
    | succ j2 ih2 =>
      intro vk vg hI2 hM2
      obtain ⟨hc, hg⟩ := id hI2
      refine v_iload_n X dX1_weigh_2 rfl 3 rfl ?_
      refine v_aload_n X dX1_weigh_3 rfl 0 rfl ?_
      refine v_get X kcX1 fl_X1_9 dX1_weigh_4 0 rfl rfl ?_
      refine v_alen X dX1_weigh_7 1 1 rfl rfl (v := nI 32) rfl ?_
      refine v_icmpN_ge X dX1_weigh_8 (tgt := 47) (by decide) (by omega) (by decide) (fun h8 => ?_) (fun h8 => ?_)
      · refine V.arM 1 rfl (g' := wtF cy Fs Ft dm dy ds dk ink2 mn2 uc) (fun j hj => hg j (by omega)) (ws' := [ob h 1 [.ref hw], aM E hw 32 (wtF cy Fs Ft dm dy ds dk ink2 mn2 uc), ob g 0 [.int (nI (cy 0)), .int (nI (cy 1)), .int (nI (cy 2)), .int (nI (cy 3)), .int (nI (cy 4)), .int (nI (cy 5)), .int (nI (cy 6)), .int (nI (cy 7)), .ref (ca 0), .ref (ca 1), .ref (ca 2), .ref (ca 3), .ref (ca 4), .ref (ca 5), .ref (ca 6), .ref (ca 7), .ref (ca 8), .ref (ca 9), .ref (ca 10), .ref (ca 11)], aM E (ca 5) 8 Fs, aM E (ca 6) 8 Ft, aN E (ca 7) 5 uc, aN E (ca 8) 6 dm, aN E (ca 9) 6 dy, aN E (ca 10) 6 ds, aZ E (ca 11) 6 dk, ob h2 2 [.ref hi2, .ref hm2, .int (nI t2), .int (nI dd2)], aN E hi2 8 ink2, aI E hm2 8 mn2]) rfl ?_
        exact v_vret X Y dX1_weigh_47 (wrV_of rfl) (by omega) (by omega)
      · refine v_aload_n X dX1_weigh_11 rfl 0 rfl ?_
        refine v_get X kcX1 fl_X1_9 dX1_weigh_12 0 rfl rfl ?_
        refine v_iload_n X dX1_weigh_15 rfl 3 rfl ?_
        refine v_iload_n X dX1_weigh_16 rfl 3 rfl ?_
        refine v_iconst X dX1_weigh_17 (v := nI 1) (by decide) ?_
        refine v_aload_n X dX1_weigh_18 rfl 1 rfl ?_
        refine v_getN X kcX0 fl_X1_15 dX1_weigh_19 2 rfl rfl ?_
        refine v_ishl X dX1_weigh_22 ?_
        refine v_eqi (x' := nI (2 ^ (cy 6))) (nI_shl1 (by omega)) ?_
        refine v_icmpN_ge X dX1_weigh_23 (tgt := 39) (by decide) (by omega) (pow6 (by omega)) (fun h23 => ?_) (fun h23 => ?_)
        · refine v_lconst X dX1_weigh_39 (v := lN 0) (by decide) ?_
          refine v_last X dX1_weigh_40 1 rfl (by omega) (by decide) (ws' := [ob h 1 [.ref hw], aM E hw 32 (upN vg vk 0), ob g 0 [.int (nI (cy 0)), .int (nI (cy 1)), .int (nI (cy 2)), .int (nI (cy 3)), .int (nI (cy 4)), .int (nI (cy 5)), .int (nI (cy 6)), .int (nI (cy 7)), .ref (ca 0), .ref (ca 1), .ref (ca 2), .ref (ca 3), .ref (ca 4), .ref (ca 5), .ref (ca 6), .ref (ca 7), .ref (ca 8), .ref (ca 9), .ref (ca 10), .ref (ca 11)], aM E (ca 5) 8 Fs, aM E (ca 6) 8 Ft, aN E (ca 7) 5 uc, aN E (ca 8) 6 dm, aN E (ca 9) 6 dy, aN E (ca 10) 6 ds, aZ E (ca 11) 6 dk, ob h2 2 [.ref hi2, .ref hm2, .int (nI t2), .int (nI dd2)], aN E hi2 8 ink2, aI E hm2 8 mn2]) (by rw [upd_lN]; rfl) ?_
          refine v_iinc X dX1_weigh_41 3 rfl (v := nI (vk + 1)) (nI_inc vk) (by decide) (lv' := [(3, .int (nI (vk + 1))), (0, .ref h), (1, .ref g), (2, .ref h2)]) rfl ?_
          refine v_goto X dX1_weigh_44 (tgt := 2) (by decide) ?_
          refine V.lvs [1, 2, 3, 0] rfl ?_
          exact ih2 (vk + 1) (upN vg vk 0) (⟨by omega, fillN hg (by unfold wtF; exact (if_neg (Nat.not_lt.mpr h23)).symm)⟩) (by omega)
        · refine v_aload_n X dX1_weigh_26 rfl 1 rfl ?_
          refine v_aload_n X dX1_weigh_27 rfl 2 rfl ?_
          refine v_aload_n X dX1_weigh_28 rfl 1 rfl ?_
          refine v_iload_n X dX1_weigh_29 rfl 3 rfl ?_
          refine v_roI1 X (rn_VN X k_X0_turnedBy ml_X1_21 dX1_weigh_30 (c_X0_turnedBy l E g cy ca uc vk (by first | assumption | omega) (by first | assumption | omega) (by omega)) rfl 0 rfl rfl (by decide) (by decide) (by omega) (by omega) (Nat.le_of_ble_eq_true rfl)) [2, 5] rfl rfl ?_
          refine v_roL1 X (rn_S X k_X1_weightOf ml_X1_25 dX1_weigh_33 (c_X1_weightOf l E g cy ca Fs Ft dm dy ds dk h2 hi2 hm2 t2 dd2 ink2 mn2 (tbF uc vk (cy 6)) (by first | assumption | omega) (by first | assumption | omega) (by first | assumption | omega) (by first | assumption | omega) (by first | assumption | omega) (by first | assumption | omega) (by first | assumption | omega) (Nat.lt_trans (tbF_lt _ huc) (by decide))) rfl (by decide) (by decide) (by omega) (by omega) (Nat.le_of_ble_eq_true rfl)) [2, 3, 4, 6, 7, 8, 9, 10, 11, 12] rfl rfl ?_
          refine v_goto X dX1_weigh_36 (tgt := 40) (by decide) ?_
          refine v_last X dX1_weigh_40 1 rfl (by omega) (by decide) (ws' := [ob h 1 [.ref hw], aM E hw 32 (upN vg vk (wF (cy 1) (fun i => dk i == (skF Fs Ft (bbits (fun c => decide (dy i < ink2 c)) 8 &&& bbits (fun c => decide (mn2 c = nI (dm i))) 8) (tbF uc vk (cy 6)) (allS (cy 4)) (cy 5)).testBit (ds i)) (cy 7))), ob g 0 [.int (nI (cy 0)), .int (nI (cy 1)), .int (nI (cy 2)), .int (nI (cy 3)), .int (nI (cy 4)), .int (nI (cy 5)), .int (nI (cy 6)), .int (nI (cy 7)), .ref (ca 0), .ref (ca 1), .ref (ca 2), .ref (ca 3), .ref (ca 4), .ref (ca 5), .ref (ca 6), .ref (ca 7), .ref (ca 8), .ref (ca 9), .ref (ca 10), .ref (ca 11)], aM E (ca 5) 8 Fs, aM E (ca 6) 8 Ft, aN E (ca 7) 5 uc, aN E (ca 8) 6 dm, aN E (ca 9) 6 dy, aN E (ca 10) 6 ds, aZ E (ca 11) 6 dk, ob h2 2 [.ref hi2, .ref hm2, .int (nI t2), .int (nI dd2)], aN E hi2 8 ink2, aI E hm2 8 mn2]) (by rw [upd_lN]; rfl) ?_
          refine v_iinc X dX1_weigh_41 3 rfl (v := nI (vk + 1)) (nI_inc vk) (by decide) (lv' := [(3, .int (nI (vk + 1))), (0, .ref h), (1, .ref g), (2, .ref h2)]) rfl ?_
          refine v_goto X dX1_weigh_44 (tgt := 2) (by decide) ?_
          refine V.lvs [1, 2, 3, 0] rfl ?_
          exact ih2 (vk + 1) (upN vg vk (wF (cy 1) (fun i => dk i == (skF Fs Ft (bbits (fun c => decide (dy i < ink2 c)) 8 &&& bbits (fun c => decide (mn2 c = nI (dm i))) 8) (tbF uc vk (cy 6)) (allS (cy 4)) (cy 5)).testBit (ds i)) (cy 7))) (⟨by omega, fillN hg (by unfold wtF; exact (if_pos (Nat.not_le.mp h23)).symm)⟩) (by omega)
  refine V.lvs [1, 2, 3, 0] rfl ?_
  exact L2 _ 0 wt (⟨by omega, fun j hj => absurd hj (Nat.not_lt_zero j)⟩) (Nat.lt_succ_self _)
set_option maxRecDepth 100000 in
set_option maxHeartbeats 4000000 in
theorem c_X6_rained (l : Launch) (E : Et) (x : Nat) (xa : Nat → Nat) (g : Nat) (tr : Nat) (fl : Nat) (pl : Int32) (cy : Nat → Nat) (ca : Nat → Nat) (hi : Nat) (hm : Nat) (t : Nat) (dd : Nat) (ink : Nat → Nat) (mn : Nat → Int32) (ri : Nat) (rm : Nat) (t4 : Nat) (d4 : Nat) (ink4 : Nat → Nat) (mn4 : Nat → Int32) (sd : Int32) (n : Int32) (hink : ∀ c, ink c ≤ 40) (hmen : cy 3 ≤ 4) (hr : cy 2 ≤ 100) : Ct l E yX6_rained cX6_rained 5 (some .int) 6 0 0 [.ref x, .int sd, .int n] [ob x 6 [.ref (xa 0), .ref g, .ref (xa 2), .ref (xa 3), .ref (xa 4), .ref (xa 5), .ref (xa 6), .ref (xa 7), .int (nI tr), .int (nI fl), .int pl], ob g 0 [.int (nI (cy 0)), .int (nI (cy 1)), .int (nI (cy 2)), .int (nI (cy 3)), .int (nI (cy 4)), .int (nI (cy 5)), .int (nI (cy 6)), .int (nI (cy 7)), .ref (ca 0), .ref (ca 1), .ref (ca 2), .ref (ca 3), .ref (ca 4), .ref (ca 5), .ref (ca 6), .ref (ca 7), .ref (ca 8), .ref (ca 9), .ref (ca 10), .ref (ca 11)], ob (xa 3) 2 [.ref hi, .ref hm, .int (nI t), .int (nI dd)], aN E hi 8 ink, aI E hm 8 mn, ob (xa 4) 2 [.ref ri, .ref rm, .int (nI t4), .int (nI d4)], aN E ri 8 ink4, aI E rm 8 mn4] (wrI [ob x 6 [.ref (xa 0), .ref g, .ref (xa 2), .ref (xa 3), .ref (xa 4), .ref (xa 5), .ref (xa 6), .ref (xa 7), .int (nI (if cy 3 = 0 then 1 else (if (0 ≤ sd ∧ sd < nI 65537) ∧ (0 ≤ n ∧ n ≤ nI 60) then 0 else 2))), .int (nI fl), .int pl], ob g 0 [.int (nI (cy 0)), .int (nI (cy 1)), .int (nI (cy 2)), .int (nI (cy 3)), .int (nI (cy 4)), .int (nI (cy 5)), .int (nI (cy 6)), .int (nI (cy 7)), .ref (ca 0), .ref (ca 1), .ref (ca 2), .ref (ca 3), .ref (ca 4), .ref (ca 5), .ref (ca 6), .ref (ca 7), .ref (ca 8), .ref (ca 9), .ref (ca 10), .ref (ca 11)], ob (xa 3) 2 [.ref hi, .ref hm, .int (nI t), .int (nI dd)], aN E hi 8 ink, aI E hm 8 mn, ob (xa 4) 2 [.ref ri, .ref rm, .int (nI (if ¬ cy 3 = 0 ∧ (0 ≤ sd ∧ sd < nI 65537) ∧ (0 ≤ n ∧ n ≤ nI 60) then t else t4)), .int (nI (if ¬ cy 3 = 0 ∧ (0 ≤ sd ∧ sd < nI 65537) ∧ (0 ≤ n ∧ n ≤ nI 60) then dd + tn n else d4))], aN E ri 8 (if ¬ cy 3 = 0 ∧ (0 ≤ sd ∧ sd < nI 65537) ∧ (0 ≤ n ∧ n ≤ nI 60) then (rainIt (cy 2) (tn n) (ink, tn sd)).1 else ink4), aI E rm 8 (if ¬ cy 3 = 0 ∧ (0 ≤ sd ∧ sd < nI 65537) ∧ (0 ≤ n ∧ n ≤ nI 60) then mn else mn4)] (if cy 3 = 0 then (-1) else (if (0 ≤ sd ∧ sd < nI 65537) ∧ (0 ≤ n ∧ n ≤ nI 60) then nI (bindB (rainIt (cy 2) (tn n) (ink, tn sd)).1) else (-1)))) := by
  refine Ct.intro (by decide +kernel) (Nat.le_of_ble_eq_true rfl) (lv := [(0, .ref x), (1, .int sd), (2, .int n)]) rfl ?_
  intro Z X Y
  refine v_aload_n X dX6_rained_0 rfl 0 rfl ?_
  refine v_roI1 X (rn_V X k_X6_noCity ml_X6_168 dX6_rained_1 (c_X6_noCity l E x xa g tr fl pl cy ca (by first | assumption | omega)) rfl 0 rfl rfl (by decide) (by decide) (by omega) (by omega) (Nat.le_of_ble_eq_true rfl)) [0, 1] rfl rfl ?_
  refine v_ifB_eq X dX6_rained_4 (tgt := 13) (by decide) (fun h4 => ?_) (fun h4 => ?_)
  · refine v_iload_n X dX6_rained_13 rfl 1 rfl ?_
    refine v_roI1 X (rn_S X k_X6_isSeed ml_X6_256 dX6_rained_14 (c_X6_isSeed l E sd ) rfl (by decide) (by decide) (by omega) (by omega) (Nat.le_of_ble_eq_true rfl)) [] rfl rfl ?_
    refine v_ifB_eq X dX6_rained_17 (tgt := 27) (by decide) (fun h17 => ?_) (fun h17 => ?_)
    · refine v_aload_n X dX6_rained_27 rfl 0 rfl ?_
      refine v_iconst X dX6_rained_28 (v := nI 2) (by decide) ?_
      refine v_wrI1 X (rn_V X k_X6_refused ml_X6_74 dX6_rained_29 (c_X6_refused l E x xa g tr fl pl 2 ) rfl 0 rfl rfl (by decide) (by decide) (by omega) (by omega) (Nat.le_of_ble_eq_true rfl)) [0] rfl rfl (ws' := [ob x 6 [.ref (xa 0), .ref g, .ref (xa 2), .ref (xa 3), .ref (xa 4), .ref (xa 5), .ref (xa 6), .ref (xa 7), .int (nI 2), .int (nI fl), .int pl], ob g 0 [.int (nI (cy 0)), .int (nI (cy 1)), .int (nI (cy 2)), .int (nI (cy 3)), .int (nI (cy 4)), .int (nI (cy 5)), .int (nI (cy 6)), .int (nI (cy 7)), .ref (ca 0), .ref (ca 1), .ref (ca 2), .ref (ca 3), .ref (ca 4), .ref (ca 5), .ref (ca 6), .ref (ca 7), .ref (ca 8), .ref (ca 9), .ref (ca 10), .ref (ca 11)], ob (xa 3) 2 [.ref hi, .ref hm, .int (nI t), .int (nI dd)], aN E hi 8 ink, aI E hm 8 mn, ob (xa 4) 2 [.ref ri, .ref rm, .int (nI t4), .int (nI d4)], aN E ri 8 ink4, aI E rm 8 mn4]) rfl rfl ?_
      exact v_iret X Y dX6_rained_32 (wrI_of (by rw [if_neg (of_decide_eq_false h4), if_neg (fun q => of_decide_eq_false h17 q.1)]; rw [if_neg (fun q => of_decide_eq_false h17 q.2.1), if_neg (fun q => of_decide_eq_false h17 q.2.1), if_neg (fun q => of_decide_eq_false h17 q.2.1), if_neg (fun q => of_decide_eq_false h17 q.2.1)]) (((if_neg (of_decide_eq_false h4)).trans (if_neg (fun q => of_decide_eq_false h17 q.1))).symm)) (by omega) (by omega)
    · obtain ⟨kz, hkz, rfl⟩ := okM_nat (of_decide_eq_true h17) (show 65537 < 2 ^ 31 by decide)
      refine v_iload_n X dX6_rained_20 rfl 2 rfl ?_
      refine v_roI1 X (rn_S X k_X6_isAhead ml_X6_192 dX6_rained_21 (c_X6_isAhead l E n ) rfl (by decide) (by decide) (by omega) (by omega) (Nat.le_of_ble_eq_true rfl)) [] rfl rfl ?_
      refine v_ifB_ne X dX6_rained_24 (tgt := 33) (by decide) (fun h24 => ?_) (fun h24 => ?_)
      · obtain ⟨kn, hkn, rfl⟩ := ahead_nat (of_decide_eq_true h24) (show 60 < 2 ^ 31 by decide)
        refine v_aload_n X dX6_rained_33 rfl 0 rfl ?_
        refine v_get X kcX6 fl_X6_33 dX6_rained_34 0 rfl rfl ?_
        refine v_aload_n X dX6_rained_37 rfl 0 rfl ?_
        refine v_get X kcX6 fl_X6_30 dX6_rained_38 0 rfl rfl ?_
        refine v_wrV1 X (rn_VN X k_X2_becomes ml_X6_259 dX6_rained_41 (c_X2_becomes l E (xa 4) ri rm t4 d4 ink4 mn4 (xa 3) hi hm t dd ink mn ) rfl 0 rfl rfl (by decide) (by decide) (by omega) (by omega) (Nat.le_of_ble_eq_true rfl)) [5, 6, 7, 2, 3, 4] rfl rfl (ws' := [ob x 6 [.ref (xa 0), .ref g, .ref (xa 2), .ref (xa 3), .ref (xa 4), .ref (xa 5), .ref (xa 6), .ref (xa 7), .int (nI tr), .int (nI fl), .int pl], ob g 0 [.int (nI (cy 0)), .int (nI (cy 1)), .int (nI (cy 2)), .int (nI (cy 3)), .int (nI (cy 4)), .int (nI (cy 5)), .int (nI (cy 6)), .int (nI (cy 7)), .ref (ca 0), .ref (ca 1), .ref (ca 2), .ref (ca 3), .ref (ca 4), .ref (ca 5), .ref (ca 6), .ref (ca 7), .ref (ca 8), .ref (ca 9), .ref (ca 10), .ref (ca 11)], ob (xa 3) 2 [.ref hi, .ref hm, .int (nI t), .int (nI dd)], aN E hi 8 ink, aI E hm 8 mn, ob (xa 4) 2 [.ref ri, .ref rm, .int (nI t), .int (nI dd)], aN E ri 8 ink, aI E rm 8 mn]) rfl rfl ?_
        refine v_iload_n X dX6_rained_44 rfl 1 rfl ?_
        refine v_istore_n X dX6_rained_45 rfl (by decide) (lv' := [(3, .int (nI kz)), (0, .ref x), (1, .int (nI kz)), (2, .int (nI kn))]) rfl ?_
        refine v_iconst X dX6_rained_46 (v := nI 0) (by decide) ?_
        refine v_istore X dX6_rained_47 (by decide) (lv' := [(4, .int (nI 0)), (3, .int (nI kz)), (0, .ref x), (1, .int (nI kz)), (2, .int (nI kn))]) rfl ?_
        have L49 : ∀ (j49 : Nat) (vi : Nat) (vg : Nat → Nat) (vs : Nat), (vi ≤ kn ∧ (vg, vs) = rainIt (cy 2) vi (ink, kz)) → kn - vi < j49 → V E Z 49 [(0, .ref x), (1, .int (nI kz)), (2, .int (nI kn)), (3, .int (nI vs)), (4, .int (nI vi))] [] [ob x 6 [.ref (xa 0), .ref g, .ref (xa 2), .ref (xa 3), .ref (xa 4), .ref (xa 5), .ref (xa 6), .ref (xa 7), .int (nI tr), .int (nI fl), .int pl], ob g 0 [.int (nI (cy 0)), .int (nI (cy 1)), .int (nI (cy 2)), .int (nI (cy 3)), .int (nI (cy 4)), .int (nI (cy 5)), .int (nI (cy 6)), .int (nI (cy 7)), .ref (ca 0), .ref (ca 1), .ref (ca 2), .ref (ca 3), .ref (ca 4), .ref (ca 5), .ref (ca 6), .ref (ca 7), .ref (ca 8), .ref (ca 9), .ref (ca 10), .ref (ca 11)], ob (xa 3) 2 [.ref hi, .ref hm, .int (nI t), .int (nI dd)], aN E hi 8 ink, aI E hm 8 mn, ob (xa 4) 2 [.ref ri, .ref rm, .int (nI t), .int (nI (dd + vi))], aN E ri 8 vg, aI E rm 8 mn] 0 0 := by
          intro j49
          induction j49 with
          | zero => intro vi vg vs hI hM; exact absurd hM (Nat.not_lt_zero _)
          | succ j49 ih49 =>
            intro vi vg vs hI49 hM49
            obtain ⟨hc, hb⟩ := id hI49
            refine v_iload X dX6_rained_49 4 rfl ?_
            refine v_iload_n X dX6_rained_51 rfl 2 rfl ?_
            refine v_icmpN_ge X dX6_rained_52 (tgt := 77) (by decide) (by omega) (by omega) (fun h52 => ?_) (fun h52 => ?_)
            · refine v_aload_n X dX6_rained_77 rfl 0 rfl ?_
              refine v_aload_n X dX6_rained_78 rfl 0 rfl ?_
              refine v_get X kcX6 fl_X6_33 dX6_rained_79 0 rfl rfl ?_
              refine v_iconst X dX6_rained_82 (v := nI 0) (by decide) ?_
              have hvg : ∀ c, vg c ≤ 40 := by (have e9 : vg = _ := congrArg Prod.fst hb); rw [e9]; exact rainIt_le hink vi
              have hvs : vs < 65537 := by (have e9 : vs = _ := congrArg Prod.snd hb); rw [e9]; exact rainIt_lt (x := (ink, kz)) hkz vi
              refine v_roI1 X (rn_VN X k_X2_binding ml_X6_182 dX6_rained_83 (c_X2_binding l E (xa 4) ri rm t (dd + vi) vg 0 (hvg) (by omega)) rfl 0 rfl rfl (by decide) (by decide) (by omega) (by omega) (Nat.le_of_ble_eq_true rfl)) [5, 6] rfl rfl ?_
              refine v_wrI1 X (rn_V X k_X6_answered ml_X6_92 dX6_rained_86 (c_X6_answered l E x xa g tr fl pl (nI (bbits (fun c => decide (0 < vg c)) 8)) ) rfl 0 rfl rfl (by decide) (by decide) (by omega) (by omega) (Nat.le_of_ble_eq_true rfl)) [0] rfl rfl (ws' := [ob x 6 [.ref (xa 0), .ref g, .ref (xa 2), .ref (xa 3), .ref (xa 4), .ref (xa 5), .ref (xa 6), .ref (xa 7), .int (nI 0), .int (nI fl), .int pl], ob g 0 [.int (nI (cy 0)), .int (nI (cy 1)), .int (nI (cy 2)), .int (nI (cy 3)), .int (nI (cy 4)), .int (nI (cy 5)), .int (nI (cy 6)), .int (nI (cy 7)), .ref (ca 0), .ref (ca 1), .ref (ca 2), .ref (ca 3), .ref (ca 4), .ref (ca 5), .ref (ca 6), .ref (ca 7), .ref (ca 8), .ref (ca 9), .ref (ca 10), .ref (ca 11)], ob (xa 3) 2 [.ref hi, .ref hm, .int (nI t), .int (nI dd)], aN E hi 8 ink, aI E hm 8 mn, ob (xa 4) 2 [.ref ri, .ref rm, .int (nI t), .int (nI (dd + vi))], aN E ri 8 vg, aI E rm 8 mn]) rfl rfl ?_
              exact v_iret X Y dX6_rained_89 (wrI_of (by rw [if_neg (of_decide_eq_false h4), if_pos ⟨of_decide_eq_true h17, of_decide_eq_true h24⟩]; rw [if_pos ⟨of_decide_eq_false h4, of_decide_eq_true h17, of_decide_eq_true h24⟩, if_pos ⟨of_decide_eq_false h4, of_decide_eq_true h17, of_decide_eq_true h24⟩, if_pos ⟨of_decide_eq_false h4, of_decide_eq_true h17, of_decide_eq_true h24⟩, if_pos ⟨of_decide_eq_false h4, of_decide_eq_true h17, of_decide_eq_true h24⟩, tn_n (show kn < 2 ^ 31 by omega), tn_n (show kz < 2 ^ 31 by omega), show kn = vi by omega, ← hb]) (by rw [if_neg (of_decide_eq_false h4), if_pos ⟨of_decide_eq_true h17, of_decide_eq_true h24⟩, tn_n (show kn < 2 ^ 31 by omega), tn_n (show kz < 2 ^ 31 by omega), show kn = vi by omega, ← hb]; rfl)) (by omega) (by omega)
            · have hvg : ∀ c, vg c ≤ 40 := by (have e9 : vg = _ := congrArg Prod.fst hb); rw [e9]; exact rainIt_le hink vi
              have hvs : vs < 65537 := by (have e9 : vs = _ := congrArg Prod.snd hb); rw [e9]; exact rainIt_lt (x := (ink, kz)) hkz vi
              refine v_aload_n X dX6_rained_55 rfl 0 rfl ?_
              refine v_get X kcX6 fl_X6_33 dX6_rained_56 0 rfl rfl ?_
              refine v_aload_n X dX6_rained_59 rfl 0 rfl ?_
              refine v_get X kcX6 fl_X6_19 dX6_rained_60 0 rfl rfl ?_
              refine v_getN X kcX0 fl_X6_246 dX6_rained_63 1 rfl rfl ?_
              refine v_iload_n X dX6_rained_66 rfl 3 rfl ?_
              refine v_wrI1 X (rn_VN X k_X2_passRainyDay ml_X6_263 dX6_rained_67 (c_X2_passRainyDay l E (xa 4) ri rm t (dd + vi) vg mn (cy 2) vs (hvg) (by first | assumption | omega) (hvs)) rfl 0 rfl rfl (by decide) (by decide) (by omega) (by omega) (Nat.le_of_ble_eq_true rfl)) [5, 6, 7] rfl rfl (ws' := [ob x 6 [.ref (xa 0), .ref g, .ref (xa 2), .ref (xa 3), .ref (xa 4), .ref (xa 5), .ref (xa 6), .ref (xa 7), .int (nI tr), .int (nI fl), .int pl], ob g 0 [.int (nI (cy 0)), .int (nI (cy 1)), .int (nI (cy 2)), .int (nI (cy 3)), .int (nI (cy 4)), .int (nI (cy 5)), .int (nI (cy 6)), .int (nI (cy 7)), .ref (ca 0), .ref (ca 1), .ref (ca 2), .ref (ca 3), .ref (ca 4), .ref (ca 5), .ref (ca 6), .ref (ca 7), .ref (ca 8), .ref (ca 9), .ref (ca 10), .ref (ca 11)], ob (xa 3) 2 [.ref hi, .ref hm, .int (nI t), .int (nI dd)], aN E hi 8 ink, aI E hm 8 mn, ob (xa 4) 2 [.ref ri, .ref rm, .int (nI t), .int (nI ((dd + vi) + 1))], aN E ri 8 ((rainQ (cy 2) (vg, vs)).1), aI E rm 8 mn]) rfl rfl ?_
              refine v_istore_n X dX6_rained_70 rfl (by decide) (lv' := [(3, .int (nI ((rainQ (cy 2) (vg, vs)).2))), (0, .ref x), (1, .int (nI kz)), (2, .int (nI kn)), (4, .int (nI vi))]) rfl ?_
              refine v_iinc X dX6_rained_71 4 rfl (v := nI (vi + 1)) (nI_inc vi) (by decide) (lv' := [(4, .int (nI (vi + 1))), (3, .int (nI ((rainQ (cy 2) (vg, vs)).2))), (0, .ref x), (1, .int (nI kz)), (2, .int (nI kn))]) rfl ?_
              refine v_goto X dX6_rained_74 (tgt := 49) (by decide) ?_
              refine V.lvs [2, 3, 4, 1, 0] rfl ?_
              exact ih49 (vi + 1) ((rainQ (cy 2) (vg, vs)).1) ((rainQ (cy 2) (vg, vs)).2) (⟨by omega, by rw [rainIt_s, ← hb]⟩) (by omega)
        refine V.lvs [2, 3, 4, 1, 0] rfl ?_
        exact L49 _ 0 ink kz (⟨by omega, rfl⟩) (Nat.lt_succ_self _)
      · refine v_aload_n X dX6_rained_27 rfl 0 rfl ?_
        refine v_iconst X dX6_rained_28 (v := nI 2) (by decide) ?_
        refine v_wrI1 X (rn_V X k_X6_refused ml_X6_74 dX6_rained_29 (c_X6_refused l E x xa g tr fl pl 2 ) rfl 0 rfl rfl (by decide) (by decide) (by omega) (by omega) (Nat.le_of_ble_eq_true rfl)) [0] rfl rfl (ws' := [ob x 6 [.ref (xa 0), .ref g, .ref (xa 2), .ref (xa 3), .ref (xa 4), .ref (xa 5), .ref (xa 6), .ref (xa 7), .int (nI 2), .int (nI fl), .int pl], ob g 0 [.int (nI (cy 0)), .int (nI (cy 1)), .int (nI (cy 2)), .int (nI (cy 3)), .int (nI (cy 4)), .int (nI (cy 5)), .int (nI (cy 6)), .int (nI (cy 7)), .ref (ca 0), .ref (ca 1), .ref (ca 2), .ref (ca 3), .ref (ca 4), .ref (ca 5), .ref (ca 6), .ref (ca 7), .ref (ca 8), .ref (ca 9), .ref (ca 10), .ref (ca 11)], ob (xa 3) 2 [.ref hi, .ref hm, .int (nI t), .int (nI dd)], aN E hi 8 ink, aI E hm 8 mn, ob (xa 4) 2 [.ref ri, .ref rm, .int (nI t4), .int (nI d4)], aN E ri 8 ink4, aI E rm 8 mn4]) rfl rfl ?_
        exact v_iret X Y dX6_rained_32 (wrI_of (by rw [if_neg (of_decide_eq_false h4), if_neg (fun q => of_decide_eq_false h24 q.2)]; rw [if_neg (fun q => of_decide_eq_false h24 q.2.2), if_neg (fun q => of_decide_eq_false h24 q.2.2), if_neg (fun q => of_decide_eq_false h24 q.2.2), if_neg (fun q => of_decide_eq_false h24 q.2.2)]) (((if_neg (of_decide_eq_false h4)).trans (if_neg (fun q => of_decide_eq_false h24 q.2))).symm)) (by omega) (by omega)
  · refine v_aload_n X dX6_rained_7 rfl 0 rfl ?_
    refine v_iconst X dX6_rained_8 (v := nI 1) (by decide) ?_
    refine v_wrI1 X (rn_V X k_X6_refused ml_X6_74 dX6_rained_9 (c_X6_refused l E x xa g tr fl pl 1 ) rfl 0 rfl rfl (by decide) (by decide) (by omega) (by omega) (Nat.le_of_ble_eq_true rfl)) [0] rfl rfl (ws' := [ob x 6 [.ref (xa 0), .ref g, .ref (xa 2), .ref (xa 3), .ref (xa 4), .ref (xa 5), .ref (xa 6), .ref (xa 7), .int (nI 1), .int (nI fl), .int pl], ob g 0 [.int (nI (cy 0)), .int (nI (cy 1)), .int (nI (cy 2)), .int (nI (cy 3)), .int (nI (cy 4)), .int (nI (cy 5)), .int (nI (cy 6)), .int (nI (cy 7)), .ref (ca 0), .ref (ca 1), .ref (ca 2), .ref (ca 3), .ref (ca 4), .ref (ca 5), .ref (ca 6), .ref (ca 7), .ref (ca 8), .ref (ca 9), .ref (ca 10), .ref (ca 11)], ob (xa 3) 2 [.ref hi, .ref hm, .int (nI t), .int (nI dd)], aN E hi 8 ink, aI E hm 8 mn, ob (xa 4) 2 [.ref ri, .ref rm, .int (nI t4), .int (nI d4)], aN E ri 8 ink4, aI E rm 8 mn4]) rfl rfl ?_
    exact v_iret X Y dX6_rained_12 (wrI_of (by rw [if_pos (of_decide_eq_true h4), if_neg (fun q => q.1 (of_decide_eq_true h4)), if_neg (fun q => q.1 (of_decide_eq_true h4)), if_neg (fun q => q.1 (of_decide_eq_true h4)), if_neg (fun q => q.1 (of_decide_eq_true h4))]) ((if_pos (of_decide_eq_true h4)).symm)) (by omega) (by omega)
