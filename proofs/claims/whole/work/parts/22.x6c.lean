set_option maxRecDepth 100000 in
set_option maxHeartbeats 4000000 in
theorem c_X6_may (l : Launch) (E : Et) (x : Nat) (xa : Nat → Nat) (g : Nat) (tr : Nat) (fl : Nat) (pl : Int32) (cy : Nat → Nat) (ca : Nat → Nat) (Fs : Nat → Nat) (Ft : Nat → Nat) (hi : Nat) (hm : Nat) (t : Nat) (dd : Nat) (ink : Nat → Nat) (mn : Nat → Int32) (m : Int32) (s : Int32) (hd : cy 4 ≤ 6) (hcl : cy 5 ≤ 8) (hmen : cy 3 ≤ 4) (ht : t < 256) (hink : ∀ c, ink c ≤ 40) : Ct l E yX6_may cX6_may 3 (some .int) 6 0 0 [.ref x, .int m, .int s] [ob x 6 [.ref (xa 0), .ref g, .ref (xa 2), .ref (xa 3), .ref (xa 4), .ref (xa 5), .ref (xa 6), .ref (xa 7), .int (nI tr), .int (nI fl), .int pl], ob g 0 [.int (nI (cy 0)), .int (nI (cy 1)), .int (nI (cy 2)), .int (nI (cy 3)), .int (nI (cy 4)), .int (nI (cy 5)), .int (nI (cy 6)), .int (nI (cy 7)), .ref (ca 0), .ref (ca 1), .ref (ca 2), .ref (ca 3), .ref (ca 4), .ref (ca 5), .ref (ca 6), .ref (ca 7), .ref (ca 8), .ref (ca 9), .ref (ca 10), .ref (ca 11)], aM E (ca 5) 8 Fs, aM E (ca 6) 8 Ft, ob (xa 3) 2 [.ref hi, .ref hm, .int (nI t), .int (nI dd)], aN E hi 8 ink, aI E hm 8 mn] (wrI [ob x 6 [.ref (xa 0), .ref g, .ref (xa 2), .ref (xa 3), .ref (xa 4), .ref (xa 5), .ref (xa 6), .ref (xa 7), .int (nI (if okM m (cy 3) then (if okM s (2 ^ cy 4) then 0 else 2) else 1)), .int (nI fl), .int pl], ob g 0 [.int (nI (cy 0)), .int (nI (cy 1)), .int (nI (cy 2)), .int (nI (cy 3)), .int (nI (cy 4)), .int (nI (cy 5)), .int (nI (cy 6)), .int (nI (cy 7)), .ref (ca 0), .ref (ca 1), .ref (ca 2), .ref (ca 3), .ref (ca 4), .ref (ca 5), .ref (ca 6), .ref (ca 7), .ref (ca 8), .ref (ca 9), .ref (ca 10), .ref (ca 11)], aM E (ca 5) 8 Fs, aM E (ca 6) 8 Ft, ob (xa 3) 2 [.ref hi, .ref hm, .int (nI t), .int (nI dd)], aN E hi 8 ink, aI E hm 8 mn] (if okM m (cy 3) then (if okM s (2 ^ cy 4) then nI (((kpN cy Fs Ft t (bdN ink mn m 0)).testBit (tn s)).toNat) else (-1)) else (-1))) := by
  refine Ct.intro (by decide +kernel) (Nat.le_of_ble_eq_true rfl) (lv := [(0, .ref x), (1, .int m), (2, .int s)]) rfl ?_
  intro Z X Y
  refine v_aload_n X dX6_may_0 rfl 0 rfl ?_
  refine v_iload_n X dX6_may_1 rfl 1 rfl ?_
  refine v_roI1 X (rn_V X k_X6_isMan ml_X6_117 dX6_may_2 (c_X6_isMan l E x xa g tr fl pl cy ca m ) rfl 0 rfl rfl (by decide) (by decide) (by omega) (by omega) (Nat.le_of_ble_eq_true rfl)) [0, 1] rfl rfl ?_
  refine v_ifB_ne X dX6_may_5 (tgt := 14) (by decide) (fun h5 => ?_) (fun h5 => ?_)
  · refine v_aload_n X dX6_may_14 rfl 0 rfl ?_
    refine v_iload_n X dX6_may_15 rfl 2 rfl ?_
    refine v_roI1 X (rn_V X k_X6_isSet ml_X6_130 dX6_may_16 (c_X6_isSet l E x xa g tr fl pl cy ca s (by first | assumption | omega)) rfl 0 rfl rfl (by decide) (by decide) (by omega) (by omega) (Nat.le_of_ble_eq_true rfl)) [0, 1] rfl rfl ?_
    refine v_ifB_ne X dX6_may_19 (tgt := 28) (by decide) (fun h19 => ?_) (fun h19 => ?_)
    · obtain ⟨ks, hks, rfl⟩ := okM_nat (of_decide_eq_true h19) (pow6 hd)
      refine v_aload_n X dX6_may_28 rfl 0 rfl ?_
      refine v_aload_n X dX6_may_29 rfl 0 rfl ?_
      refine v_iload_n X dX6_may_30 rfl 1 rfl ?_
      refine v_roL1 X (rn_V X k_X6_waysOf ml_X6_141 dX6_may_31 (c_X6_waysOf l E x xa g tr fl pl cy ca Fs Ft hi hm t dd ink mn m (by first | assumption | omega) (by first | assumption | omega) (by first | assumption | omega) (by first | assumption | omega)) rfl 0 rfl rfl (by decide) (by decide) (by omega) (by omega) (Nat.le_of_ble_eq_true rfl)) [0, 1, 2, 3, 4, 5, 6] rfl rfl ?_
      refine v_iload_n X dX6_may_34 rfl 2 rfl ?_
      refine v_roI1 X (rn_S X k_X6_isIn ml_X6_137 dX6_may_35 (c_X6_isIn l E (kpN cy Fs Ft t (bdN ink mn m 0)) ks (kpN_lt hd _ _ _ _) (Nat.lt_of_lt_of_le hks (pow64 hd))) rfl (by decide) (by decide) (by omega) (by omega) (Nat.le_of_ble_eq_true rfl)) [] rfl rfl ?_
      refine v_ifB_eq X dX6_may_38 (tgt := 45) (by decide) (fun h38 => ?_) (fun h38 => ?_)
      · refine v_iconst X dX6_may_45 (v := nI 0) (by decide) ?_
        refine v_wrI1 X (rn_V X k_X6_answered ml_X6_92 dX6_may_46 (c_X6_answered l E x xa g tr fl pl (nI 0) ) rfl 0 rfl rfl (by decide) (by decide) (by omega) (by omega) (Nat.le_of_ble_eq_true rfl)) [0] rfl rfl (ws' := [ob x 6 [.ref (xa 0), .ref g, .ref (xa 2), .ref (xa 3), .ref (xa 4), .ref (xa 5), .ref (xa 6), .ref (xa 7), .int (nI 0), .int (nI fl), .int pl], ob g 0 [.int (nI (cy 0)), .int (nI (cy 1)), .int (nI (cy 2)), .int (nI (cy 3)), .int (nI (cy 4)), .int (nI (cy 5)), .int (nI (cy 6)), .int (nI (cy 7)), .ref (ca 0), .ref (ca 1), .ref (ca 2), .ref (ca 3), .ref (ca 4), .ref (ca 5), .ref (ca 6), .ref (ca 7), .ref (ca 8), .ref (ca 9), .ref (ca 10), .ref (ca 11)], aM E (ca 5) 8 Fs, aM E (ca 6) 8 Ft, ob (xa 3) 2 [.ref hi, .ref hm, .int (nI t), .int (nI dd)], aN E hi 8 ink, aI E hm 8 mn]) rfl rfl ?_
        exact v_iret X Y dX6_may_49 (wrI_of (by rw [if_pos (of_decide_eq_true h5), if_pos (of_decide_eq_true h19)]) (by rw [if_pos (of_decide_eq_true h5), if_pos (of_decide_eq_true h19), tn_n (Nat.lt_trans hks (pow6 hd)), h38]; rfl)) (by omega) (by omega)
      · refine v_iconst X dX6_may_41 (v := nI 1) (by decide) ?_
        refine v_goto X dX6_may_42 (tgt := 46) (by decide) ?_
        refine v_wrI1 X (rn_V X k_X6_answered ml_X6_92 dX6_may_46 (c_X6_answered l E x xa g tr fl pl (nI 1) ) rfl 0 rfl rfl (by decide) (by decide) (by omega) (by omega) (Nat.le_of_ble_eq_true rfl)) [0] rfl rfl (ws' := [ob x 6 [.ref (xa 0), .ref g, .ref (xa 2), .ref (xa 3), .ref (xa 4), .ref (xa 5), .ref (xa 6), .ref (xa 7), .int (nI 0), .int (nI fl), .int pl], ob g 0 [.int (nI (cy 0)), .int (nI (cy 1)), .int (nI (cy 2)), .int (nI (cy 3)), .int (nI (cy 4)), .int (nI (cy 5)), .int (nI (cy 6)), .int (nI (cy 7)), .ref (ca 0), .ref (ca 1), .ref (ca 2), .ref (ca 3), .ref (ca 4), .ref (ca 5), .ref (ca 6), .ref (ca 7), .ref (ca 8), .ref (ca 9), .ref (ca 10), .ref (ca 11)], aM E (ca 5) 8 Fs, aM E (ca 6) 8 Ft, ob (xa 3) 2 [.ref hi, .ref hm, .int (nI t), .int (nI dd)], aN E hi 8 ink, aI E hm 8 mn]) rfl rfl ?_
        exact v_iret X Y dX6_may_49 (wrI_of (by rw [if_pos (of_decide_eq_true h5), if_pos (of_decide_eq_true h19)]) (by rw [if_pos (of_decide_eq_true h5), if_pos (of_decide_eq_true h19), tn_n (Nat.lt_trans hks (pow6 hd)), h38]; rfl)) (by omega) (by omega)
    · refine v_aload_n X dX6_may_22 rfl 0 rfl ?_
      refine v_iconst X dX6_may_23 (v := nI 2) (by decide) ?_
      refine v_wrI1 X (rn_V X k_X6_refused ml_X6_74 dX6_may_24 (c_X6_refused l E x xa g tr fl pl 2 ) rfl 0 rfl rfl (by decide) (by decide) (by omega) (by omega) (Nat.le_of_ble_eq_true rfl)) [0] rfl rfl (ws' := [ob x 6 [.ref (xa 0), .ref g, .ref (xa 2), .ref (xa 3), .ref (xa 4), .ref (xa 5), .ref (xa 6), .ref (xa 7), .int (nI 2), .int (nI fl), .int pl], ob g 0 [.int (nI (cy 0)), .int (nI (cy 1)), .int (nI (cy 2)), .int (nI (cy 3)), .int (nI (cy 4)), .int (nI (cy 5)), .int (nI (cy 6)), .int (nI (cy 7)), .ref (ca 0), .ref (ca 1), .ref (ca 2), .ref (ca 3), .ref (ca 4), .ref (ca 5), .ref (ca 6), .ref (ca 7), .ref (ca 8), .ref (ca 9), .ref (ca 10), .ref (ca 11)], aM E (ca 5) 8 Fs, aM E (ca 6) 8 Ft, ob (xa 3) 2 [.ref hi, .ref hm, .int (nI t), .int (nI dd)], aN E hi 8 ink, aI E hm 8 mn]) rfl rfl ?_
      exact v_iret X Y dX6_may_27 (wrI_of (by rw [if_pos (of_decide_eq_true h5), if_neg (of_decide_eq_false h19)]) (((if_pos (of_decide_eq_true h5)).trans (if_neg (of_decide_eq_false h19))).symm)) (by omega) (by omega)
  · refine v_aload_n X dX6_may_8 rfl 0 rfl ?_
    refine v_iconst X dX6_may_9 (v := nI 1) (by decide) ?_
    refine v_wrI1 X (rn_V X k_X6_refused ml_X6_74 dX6_may_10 (c_X6_refused l E x xa g tr fl pl 1 ) rfl 0 rfl rfl (by decide) (by decide) (by omega) (by omega) (Nat.le_of_ble_eq_true rfl)) [0] rfl rfl (ws' := [ob x 6 [.ref (xa 0), .ref g, .ref (xa 2), .ref (xa 3), .ref (xa 4), .ref (xa 5), .ref (xa 6), .ref (xa 7), .int (nI 1), .int (nI fl), .int pl], ob g 0 [.int (nI (cy 0)), .int (nI (cy 1)), .int (nI (cy 2)), .int (nI (cy 3)), .int (nI (cy 4)), .int (nI (cy 5)), .int (nI (cy 6)), .int (nI (cy 7)), .ref (ca 0), .ref (ca 1), .ref (ca 2), .ref (ca 3), .ref (ca 4), .ref (ca 5), .ref (ca 6), .ref (ca 7), .ref (ca 8), .ref (ca 9), .ref (ca 10), .ref (ca 11)], aM E (ca 5) 8 Fs, aM E (ca 6) 8 Ft, ob (xa 3) 2 [.ref hi, .ref hm, .int (nI t), .int (nI dd)], aN E hi 8 ink, aI E hm 8 mn]) rfl rfl ?_
    exact v_iret X Y dX6_may_13 (wrI_of (by rw [if_neg (of_decide_eq_false h5)]) ((if_neg (of_decide_eq_false h5)).symm)) (by omega) (by omega)
set_option maxRecDepth 100000 in
set_option maxHeartbeats 4000000 in
theorem c_X6_keeps (l : Launch) (E : Et) (x : Nat) (xa : Nat → Nat) (g : Nat) (tr : Nat) (fl : Nat) (pl : Int32) (cy : Nat → Nat) (ca : Nat → Nat) (Fs : Nat → Nat) (Ft : Nat → Nat) (hi : Nat) (hm : Nat) (t : Nat) (dd : Nat) (ink : Nat → Nat) (mn : Nat → Int32) (c : Int32) (s : Int32) (hd : cy 4 ≤ 6) (hcl : cy 5 ≤ 8) (hmen : cy 3 ≤ 4) (ht : t < 256) (hink : ∀ c, ink c ≤ 40) : Ct l E yX6_keeps cX6_keeps 3 (some .int) 6 0 0 [.ref x, .int c, .int s] [ob x 6 [.ref (xa 0), .ref g, .ref (xa 2), .ref (xa 3), .ref (xa 4), .ref (xa 5), .ref (xa 6), .ref (xa 7), .int (nI tr), .int (nI fl), .int pl], ob g 0 [.int (nI (cy 0)), .int (nI (cy 1)), .int (nI (cy 2)), .int (nI (cy 3)), .int (nI (cy 4)), .int (nI (cy 5)), .int (nI (cy 6)), .int (nI (cy 7)), .ref (ca 0), .ref (ca 1), .ref (ca 2), .ref (ca 3), .ref (ca 4), .ref (ca 5), .ref (ca 6), .ref (ca 7), .ref (ca 8), .ref (ca 9), .ref (ca 10), .ref (ca 11)], aM E (ca 5) 8 Fs, aM E (ca 6) 8 Ft, ob (xa 3) 2 [.ref hi, .ref hm, .int (nI t), .int (nI dd)], aN E hi 8 ink, aI E hm 8 mn] (wrI [ob x 6 [.ref (xa 0), .ref g, .ref (xa 2), .ref (xa 3), .ref (xa 4), .ref (xa 5), .ref (xa 6), .ref (xa 7), .int (nI (if okM c (cy 5) then (if okM s (2 ^ cy 4) then 0 else 2) else 1)), .int (nI fl), .int pl], ob g 0 [.int (nI (cy 0)), .int (nI (cy 1)), .int (nI (cy 2)), .int (nI (cy 3)), .int (nI (cy 4)), .int (nI (cy 5)), .int (nI (cy 6)), .int (nI (cy 7)), .ref (ca 0), .ref (ca 1), .ref (ca 2), .ref (ca 3), .ref (ca 4), .ref (ca 5), .ref (ca 6), .ref (ca 7), .ref (ca 8), .ref (ca 9), .ref (ca 10), .ref (ca 11)], aM E (ca 5) 8 Fs, aM E (ca 6) 8 Ft, ob (xa 3) 2 [.ref hi, .ref hm, .int (nI t), .int (nI dd)], aN E hi 8 ink, aI E hm 8 mn] (if okM c (cy 5) then (if okM s (2 ^ cy 4) then nI (((kpN cy Fs Ft t (2 ^ tn c)).testBit (tn s)).toNat) else (-1)) else (-1))) := by
  refine Ct.intro (by decide +kernel) (Nat.le_of_ble_eq_true rfl) (lv := [(0, .ref x), (1, .int c), (2, .int s)]) rfl ?_
  intro Z X Y
  refine v_aload_n X dX6_keeps_0 rfl 0 rfl ?_
  refine v_iload_n X dX6_keeps_1 rfl 1 rfl ?_
  refine v_roI1 X (rn_V X k_X6_isClause ml_X6_95 dX6_keeps_2 (c_X6_isClause l E x xa g tr fl pl cy ca c ) rfl 0 rfl rfl (by decide) (by decide) (by omega) (by omega) (Nat.le_of_ble_eq_true rfl)) [0, 1] rfl rfl ?_
  refine v_ifB_ne X dX6_keeps_5 (tgt := 14) (by decide) (fun h5 => ?_) (fun h5 => ?_)
  · obtain ⟨kc, hkc, rfl⟩ := okM_nat (of_decide_eq_true h5) (by omega)
    refine v_aload_n X dX6_keeps_14 rfl 0 rfl ?_
    refine v_iload_n X dX6_keeps_15 rfl 2 rfl ?_
    refine v_roI1 X (rn_V X k_X6_isSet ml_X6_130 dX6_keeps_16 (c_X6_isSet l E x xa g tr fl pl cy ca s (by first | assumption | omega)) rfl 0 rfl rfl (by decide) (by decide) (by omega) (by omega) (Nat.le_of_ble_eq_true rfl)) [0, 1] rfl rfl ?_
    refine v_ifB_ne X dX6_keeps_19 (tgt := 28) (by decide) (fun h19 => ?_) (fun h19 => ?_)
    · obtain ⟨ks, hks, rfl⟩ := okM_nat (of_decide_eq_true h19) (pow6 hd)
      refine v_aload_n X dX6_keeps_28 rfl 0 rfl ?_
      refine v_aload_n X dX6_keeps_29 rfl 0 rfl ?_
      refine v_iconst X dX6_keeps_30 (v := nI 1) (by decide) ?_
      refine v_iload_n X dX6_keeps_31 rfl 1 rfl ?_
      refine v_ishl X dX6_keeps_32 ?_
      refine v_eqi (x' := nI (2 ^ kc)) (nI_shl1 (by omega)) ?_
      refine v_roL1 X (rn_V X k_X6_setsUnder ml_X6_133 dX6_keeps_33 (c_X6_setsUnder l E x xa g tr fl pl cy ca Fs Ft hi hm t dd ink mn (2 ^ kc) (by first | assumption | omega) (by first | assumption | omega) (by first | assumption | omega) (Nat.pow_lt_pow_right (n := 31) (by decide) (by omega))) rfl 0 rfl rfl (by decide) (by decide) (by omega) (by omega) (Nat.le_of_ble_eq_true rfl)) [0, 1, 2, 3, 4, 5, 6] rfl rfl ?_
      refine v_iload_n X dX6_keeps_36 rfl 2 rfl ?_
      refine v_roI1 X (rn_S X k_X6_isIn ml_X6_137 dX6_keeps_37 (c_X6_isIn l E (kpN cy Fs Ft t (2 ^ kc)) ks (kpN_lt hd _ _ _ _) (Nat.lt_of_lt_of_le hks (pow64 hd))) rfl (by decide) (by decide) (by omega) (by omega) (Nat.le_of_ble_eq_true rfl)) [] rfl rfl ?_
      refine v_ifB_eq X dX6_keeps_40 (tgt := 47) (by decide) (fun h40 => ?_) (fun h40 => ?_)
      · refine v_iconst X dX6_keeps_47 (v := nI 0) (by decide) ?_
        refine v_wrI1 X (rn_V X k_X6_answered ml_X6_92 dX6_keeps_48 (c_X6_answered l E x xa g tr fl pl (nI 0) ) rfl 0 rfl rfl (by decide) (by decide) (by omega) (by omega) (Nat.le_of_ble_eq_true rfl)) [0] rfl rfl (ws' := [ob x 6 [.ref (xa 0), .ref g, .ref (xa 2), .ref (xa 3), .ref (xa 4), .ref (xa 5), .ref (xa 6), .ref (xa 7), .int (nI 0), .int (nI fl), .int pl], ob g 0 [.int (nI (cy 0)), .int (nI (cy 1)), .int (nI (cy 2)), .int (nI (cy 3)), .int (nI (cy 4)), .int (nI (cy 5)), .int (nI (cy 6)), .int (nI (cy 7)), .ref (ca 0), .ref (ca 1), .ref (ca 2), .ref (ca 3), .ref (ca 4), .ref (ca 5), .ref (ca 6), .ref (ca 7), .ref (ca 8), .ref (ca 9), .ref (ca 10), .ref (ca 11)], aM E (ca 5) 8 Fs, aM E (ca 6) 8 Ft, ob (xa 3) 2 [.ref hi, .ref hm, .int (nI t), .int (nI dd)], aN E hi 8 ink, aI E hm 8 mn]) rfl rfl ?_
        exact v_iret X Y dX6_keeps_51 (wrI_of (by rw [if_pos (of_decide_eq_true h5), if_pos (of_decide_eq_true h19)]) (by rw [if_pos (of_decide_eq_true h5), if_pos (of_decide_eq_true h19), tn_n (Nat.lt_trans hks (pow6 hd)), tn_n (show kc < 2 ^ 31 by omega), h40]; rfl)) (by omega) (by omega)
      · refine v_iconst X dX6_keeps_43 (v := nI 1) (by decide) ?_
        refine v_goto X dX6_keeps_44 (tgt := 48) (by decide) ?_
        refine v_wrI1 X (rn_V X k_X6_answered ml_X6_92 dX6_keeps_48 (c_X6_answered l E x xa g tr fl pl (nI 1) ) rfl 0 rfl rfl (by decide) (by decide) (by omega) (by omega) (Nat.le_of_ble_eq_true rfl)) [0] rfl rfl (ws' := [ob x 6 [.ref (xa 0), .ref g, .ref (xa 2), .ref (xa 3), .ref (xa 4), .ref (xa 5), .ref (xa 6), .ref (xa 7), .int (nI 0), .int (nI fl), .int pl], ob g 0 [.int (nI (cy 0)), .int (nI (cy 1)), .int (nI (cy 2)), .int (nI (cy 3)), .int (nI (cy 4)), .int (nI (cy 5)), .int (nI (cy 6)), .int (nI (cy 7)), .ref (ca 0), .ref (ca 1), .ref (ca 2), .ref (ca 3), .ref (ca 4), .ref (ca 5), .ref (ca 6), .ref (ca 7), .ref (ca 8), .ref (ca 9), .ref (ca 10), .ref (ca 11)], aM E (ca 5) 8 Fs, aM E (ca 6) 8 Ft, ob (xa 3) 2 [.ref hi, .ref hm, .int (nI t), .int (nI dd)], aN E hi 8 ink, aI E hm 8 mn]) rfl rfl ?_
        exact v_iret X Y dX6_keeps_51 (wrI_of (by rw [if_pos (of_decide_eq_true h5), if_pos (of_decide_eq_true h19)]) (by rw [if_pos (of_decide_eq_true h5), if_pos (of_decide_eq_true h19), tn_n (Nat.lt_trans hks (pow6 hd)), tn_n (show kc < 2 ^ 31 by omega), h40]; rfl)) (by omega) (by omega)
    · refine v_aload_n X dX6_keeps_22 rfl 0 rfl ?_
      refine v_iconst X dX6_keeps_23 (v := nI 2) (by decide) ?_
      refine v_wrI1 X (rn_V X k_X6_refused ml_X6_74 dX6_keeps_24 (c_X6_refused l E x xa g tr fl pl 2 ) rfl 0 rfl rfl (by decide) (by decide) (by omega) (by omega) (Nat.le_of_ble_eq_true rfl)) [0] rfl rfl (ws' := [ob x 6 [.ref (xa 0), .ref g, .ref (xa 2), .ref (xa 3), .ref (xa 4), .ref (xa 5), .ref (xa 6), .ref (xa 7), .int (nI 2), .int (nI fl), .int pl], ob g 0 [.int (nI (cy 0)), .int (nI (cy 1)), .int (nI (cy 2)), .int (nI (cy 3)), .int (nI (cy 4)), .int (nI (cy 5)), .int (nI (cy 6)), .int (nI (cy 7)), .ref (ca 0), .ref (ca 1), .ref (ca 2), .ref (ca 3), .ref (ca 4), .ref (ca 5), .ref (ca 6), .ref (ca 7), .ref (ca 8), .ref (ca 9), .ref (ca 10), .ref (ca 11)], aM E (ca 5) 8 Fs, aM E (ca 6) 8 Ft, ob (xa 3) 2 [.ref hi, .ref hm, .int (nI t), .int (nI dd)], aN E hi 8 ink, aI E hm 8 mn]) rfl rfl ?_
      exact v_iret X Y dX6_keeps_27 (wrI_of (by rw [if_pos (of_decide_eq_true h5), if_neg (of_decide_eq_false h19)]) (((if_pos (of_decide_eq_true h5)).trans (if_neg (of_decide_eq_false h19))).symm)) (by omega) (by omega)
  · refine v_aload_n X dX6_keeps_8 rfl 0 rfl ?_
    refine v_iconst X dX6_keeps_9 (v := nI 1) (by decide) ?_
    refine v_wrI1 X (rn_V X k_X6_refused ml_X6_74 dX6_keeps_10 (c_X6_refused l E x xa g tr fl pl 1 ) rfl 0 rfl rfl (by decide) (by decide) (by omega) (by omega) (Nat.le_of_ble_eq_true rfl)) [0] rfl rfl (ws' := [ob x 6 [.ref (xa 0), .ref g, .ref (xa 2), .ref (xa 3), .ref (xa 4), .ref (xa 5), .ref (xa 6), .ref (xa 7), .int (nI 1), .int (nI fl), .int pl], ob g 0 [.int (nI (cy 0)), .int (nI (cy 1)), .int (nI (cy 2)), .int (nI (cy 3)), .int (nI (cy 4)), .int (nI (cy 5)), .int (nI (cy 6)), .int (nI (cy 7)), .ref (ca 0), .ref (ca 1), .ref (ca 2), .ref (ca 3), .ref (ca 4), .ref (ca 5), .ref (ca 6), .ref (ca 7), .ref (ca 8), .ref (ca 9), .ref (ca 10), .ref (ca 11)], aM E (ca 5) 8 Fs, aM E (ca 6) 8 Ft, ob (xa 3) 2 [.ref hi, .ref hm, .int (nI t), .int (nI dd)], aN E hi 8 ink, aI E hm 8 mn]) rfl rfl ?_
    exact v_iret X Y dX6_keeps_13 (wrI_of (by rw [if_neg (of_decide_eq_false h5)]) ((if_neg (of_decide_eq_false h5)).symm)) (by omega) (by omega)
set_option maxRecDepth 100000 in
set_option maxHeartbeats 4000000 in
theorem c_X6_ink (l : Launch) (E : Et) (x : Nat) (xa : Nat → Nat) (g : Nat) (tr : Nat) (fl : Nat) (pl : Int32) (cy : Nat → Nat) (ca : Nat → Nat) (Fs : Nat → Nat) (Ft : Nat → Nat) (hi : Nat) (hm : Nat) (t : Nat) (dd : Nat) (ink : Nat → Nat) (mn : Nat → Int32) (c : Int32) (n : Int32) (hd : cy 4 ≤ 6) (hcl : cy 5 ≤ 8) (hmen : cy 3 ≤ 4) (ht : t < 256) (hink : ∀ c, ink c ≤ 40) : Ct l E yX6_ink cX6_ink 3 (some .int) 6 0 0 [.ref x, .int c, .int n] [ob x 6 [.ref (xa 0), .ref g, .ref (xa 2), .ref (xa 3), .ref (xa 4), .ref (xa 5), .ref (xa 6), .ref (xa 7), .int (nI tr), .int (nI fl), .int pl], ob g 0 [.int (nI (cy 0)), .int (nI (cy 1)), .int (nI (cy 2)), .int (nI (cy 3)), .int (nI (cy 4)), .int (nI (cy 5)), .int (nI (cy 6)), .int (nI (cy 7)), .ref (ca 0), .ref (ca 1), .ref (ca 2), .ref (ca 3), .ref (ca 4), .ref (ca 5), .ref (ca 6), .ref (ca 7), .ref (ca 8), .ref (ca 9), .ref (ca 10), .ref (ca 11)], aM E (ca 5) 8 Fs, aM E (ca 6) 8 Ft, ob (xa 3) 2 [.ref hi, .ref hm, .int (nI t), .int (nI dd)], aN E hi 8 ink, aI E hm 8 mn] (wrI [ob x 6 [.ref (xa 0), .ref g, .ref (xa 2), .ref (xa 3), .ref (xa 4), .ref (xa 5), .ref (xa 6), .ref (xa 7), .int (nI (if okM c (cy 5) then (if 0 ≤ n ∧ n ≤ nI 60 then 0 else 2) else 1)), .int (nI fl), .int pl], ob g 0 [.int (nI (cy 0)), .int (nI (cy 1)), .int (nI (cy 2)), .int (nI (cy 3)), .int (nI (cy 4)), .int (nI (cy 5)), .int (nI (cy 6)), .int (nI (cy 7)), .ref (ca 0), .ref (ca 1), .ref (ca 2), .ref (ca 3), .ref (ca 4), .ref (ca 5), .ref (ca 6), .ref (ca 7), .ref (ca 8), .ref (ca 9), .ref (ca 10), .ref (ca 11)], aM E (ca 5) 8 Fs, aM E (ca 6) 8 Ft, ob (xa 3) 2 [.ref hi, .ref hm, .int (nI t), .int (nI dd)], aN E hi 8 ink, aI E hm 8 mn] (if okM c (cy 5) then (if 0 ≤ n ∧ n ≤ nI 60 then nI (ink (tn c) - tn n) else (-1)) else (-1))) := by
  refine Ct.intro (by decide +kernel) (Nat.le_of_ble_eq_true rfl) (lv := [(0, .ref x), (1, .int c), (2, .int n)]) rfl ?_
  intro Z X Y
  refine v_aload_n X dX6_ink_0 rfl 0 rfl ?_
  refine v_iload_n X dX6_ink_1 rfl 1 rfl ?_
  refine v_roI1 X (rn_V X k_X6_isClause ml_X6_95 dX6_ink_2 (c_X6_isClause l E x xa g tr fl pl cy ca c ) rfl 0 rfl rfl (by decide) (by decide) (by omega) (by omega) (Nat.le_of_ble_eq_true rfl)) [0, 1] rfl rfl ?_
  refine v_ifB_ne X dX6_ink_5 (tgt := 14) (by decide) (fun h5 => ?_) (fun h5 => ?_)
  · obtain ⟨kc, hkc, rfl⟩ := okM_nat (of_decide_eq_true h5) (by omega)
    refine v_iload_n X dX6_ink_14 rfl 2 rfl ?_
    refine v_roI1 X (rn_S X k_X6_isAhead ml_X6_192 dX6_ink_15 (c_X6_isAhead l E n ) rfl (by decide) (by decide) (by omega) (by omega) (Nat.le_of_ble_eq_true rfl)) [] rfl rfl ?_
    refine v_ifB_ne X dX6_ink_18 (tgt := 27) (by decide) (fun h18 => ?_) (fun h18 => ?_)
    · obtain ⟨kn, hkn, rfl⟩ := ahead_nat (of_decide_eq_true h18) (show 60 < 2 ^ 31 by decide)
      refine v_aload_n X dX6_ink_27 rfl 0 rfl ?_
      refine v_iconst X dX6_ink_28 (v := nI 0) (by decide) ?_
      refine v_aload_n X dX6_ink_29 rfl 0 rfl ?_
      refine v_get X kcX6 fl_X6_30 dX6_ink_30 0 rfl rfl ?_
      refine v_getN X kcX2 fl_X6_110 dX6_ink_33 4 rfl rfl ?_
      refine v_iload_n X dX6_ink_36 rfl 1 rfl ?_
      refine v_iald X dX6_ink_37 5 rfl (by omega) (by decide) ?_
      refine v_iload_n X dX6_ink_38 rfl 2 rfl ?_
      refine v_isub X dX6_ink_39 ?_
      refine v_eqi (x' := (nI (ink kc)) - (nI kn)) rfl ?_
      refine v_max X ml_X6_195 mw_max1 mw_max2 mw_max3 dX6_ink_40 (by decide) (by omega) (by omega) (Nat.le_of_ble_eq_true rfl) ?_
      refine v_eqi (x' := nI (ink kc - kn)) (max0_sub (Nat.lt_of_le_of_lt (hink _) (by decide)) (by omega)) ?_
      refine v_wrI1 X (rn_V X k_X6_answered ml_X6_92 dX6_ink_43 (c_X6_answered l E x xa g tr fl pl (nI (ink kc - kn)) ) rfl 0 rfl rfl (by decide) (by decide) (by omega) (by omega) (Nat.le_of_ble_eq_true rfl)) [0] rfl rfl (ws' := [ob x 6 [.ref (xa 0), .ref g, .ref (xa 2), .ref (xa 3), .ref (xa 4), .ref (xa 5), .ref (xa 6), .ref (xa 7), .int (nI 0), .int (nI fl), .int pl], ob g 0 [.int (nI (cy 0)), .int (nI (cy 1)), .int (nI (cy 2)), .int (nI (cy 3)), .int (nI (cy 4)), .int (nI (cy 5)), .int (nI (cy 6)), .int (nI (cy 7)), .ref (ca 0), .ref (ca 1), .ref (ca 2), .ref (ca 3), .ref (ca 4), .ref (ca 5), .ref (ca 6), .ref (ca 7), .ref (ca 8), .ref (ca 9), .ref (ca 10), .ref (ca 11)], aM E (ca 5) 8 Fs, aM E (ca 6) 8 Ft, ob (xa 3) 2 [.ref hi, .ref hm, .int (nI t), .int (nI dd)], aN E hi 8 ink, aI E hm 8 mn]) rfl rfl ?_
      exact v_iret X Y dX6_ink_46 (wrI_of (by rw [if_pos (of_decide_eq_true h5), if_pos (of_decide_eq_true h18)]) (by rw [if_pos (of_decide_eq_true h5), if_pos (of_decide_eq_true h18), tn_n (show kc < 2 ^ 31 by omega), tn_n (show kn < 2 ^ 31 by omega)])) (by omega) (by omega)
    · refine v_aload_n X dX6_ink_21 rfl 0 rfl ?_
      refine v_iconst X dX6_ink_22 (v := nI 2) (by decide) ?_
      refine v_wrI1 X (rn_V X k_X6_refused ml_X6_74 dX6_ink_23 (c_X6_refused l E x xa g tr fl pl 2 ) rfl 0 rfl rfl (by decide) (by decide) (by omega) (by omega) (Nat.le_of_ble_eq_true rfl)) [0] rfl rfl (ws' := [ob x 6 [.ref (xa 0), .ref g, .ref (xa 2), .ref (xa 3), .ref (xa 4), .ref (xa 5), .ref (xa 6), .ref (xa 7), .int (nI 2), .int (nI fl), .int pl], ob g 0 [.int (nI (cy 0)), .int (nI (cy 1)), .int (nI (cy 2)), .int (nI (cy 3)), .int (nI (cy 4)), .int (nI (cy 5)), .int (nI (cy 6)), .int (nI (cy 7)), .ref (ca 0), .ref (ca 1), .ref (ca 2), .ref (ca 3), .ref (ca 4), .ref (ca 5), .ref (ca 6), .ref (ca 7), .ref (ca 8), .ref (ca 9), .ref (ca 10), .ref (ca 11)], aM E (ca 5) 8 Fs, aM E (ca 6) 8 Ft, ob (xa 3) 2 [.ref hi, .ref hm, .int (nI t), .int (nI dd)], aN E hi 8 ink, aI E hm 8 mn]) rfl rfl ?_
      exact v_iret X Y dX6_ink_26 (wrI_of (by rw [if_pos (of_decide_eq_true h5), if_neg (of_decide_eq_false h18)]) (((if_pos (of_decide_eq_true h5)).trans (if_neg (of_decide_eq_false h18))).symm)) (by omega) (by omega)
  · refine v_aload_n X dX6_ink_8 rfl 0 rfl ?_
    refine v_iconst X dX6_ink_9 (v := nI 1) (by decide) ?_
    refine v_wrI1 X (rn_V X k_X6_refused ml_X6_74 dX6_ink_10 (c_X6_refused l E x xa g tr fl pl 1 ) rfl 0 rfl rfl (by decide) (by decide) (by omega) (by omega) (Nat.le_of_ble_eq_true rfl)) [0] rfl rfl (ws' := [ob x 6 [.ref (xa 0), .ref g, .ref (xa 2), .ref (xa 3), .ref (xa 4), .ref (xa 5), .ref (xa 6), .ref (xa 7), .int (nI 1), .int (nI fl), .int pl], ob g 0 [.int (nI (cy 0)), .int (nI (cy 1)), .int (nI (cy 2)), .int (nI (cy 3)), .int (nI (cy 4)), .int (nI (cy 5)), .int (nI (cy 6)), .int (nI (cy 7)), .ref (ca 0), .ref (ca 1), .ref (ca 2), .ref (ca 3), .ref (ca 4), .ref (ca 5), .ref (ca 6), .ref (ca 7), .ref (ca 8), .ref (ca 9), .ref (ca 10), .ref (ca 11)], aM E (ca 5) 8 Fs, aM E (ca 6) 8 Ft, ob (xa 3) 2 [.ref hi, .ref hm, .int (nI t), .int (nI dd)], aN E hi 8 ink, aI E hm 8 mn]) rfl rfl ?_
    exact v_iret X Y dX6_ink_13 (wrI_of (by rw [if_neg (of_decide_eq_false h5)]) ((if_neg (of_decide_eq_false h5)).symm)) (by omega) (by omega)
set_option maxRecDepth 100000 in
set_option maxHeartbeats 4000000 in
theorem c_X6_waysIn (l : Launch) (E : Et) (x : Nat) (xa : Nat → Nat) (g : Nat) (tr : Nat) (fl : Nat) (pl : Int32) (cy : Nat → Nat) (ca : Nat → Nat) (Fs : Nat → Nat) (Ft : Nat → Nat) (hi : Nat) (hm : Nat) (t : Nat) (dd : Nat) (ink : Nat → Nat) (mn : Nat → Int32) (m : Int32) (n : Int32) (hd : cy 4 ≤ 6) (hcl : cy 5 ≤ 8) (hmen : cy 3 ≤ 4) (ht : t < 256) (hink : ∀ c, ink c ≤ 40) : Ct l E yX6_waysIn cX6_waysIn 3 (some .int) 6 0 0 [.ref x, .int m, .int n] [ob x 6 [.ref (xa 0), .ref g, .ref (xa 2), .ref (xa 3), .ref (xa 4), .ref (xa 5), .ref (xa 6), .ref (xa 7), .int (nI tr), .int (nI fl), .int pl], ob g 0 [.int (nI (cy 0)), .int (nI (cy 1)), .int (nI (cy 2)), .int (nI (cy 3)), .int (nI (cy 4)), .int (nI (cy 5)), .int (nI (cy 6)), .int (nI (cy 7)), .ref (ca 0), .ref (ca 1), .ref (ca 2), .ref (ca 3), .ref (ca 4), .ref (ca 5), .ref (ca 6), .ref (ca 7), .ref (ca 8), .ref (ca 9), .ref (ca 10), .ref (ca 11)], aM E (ca 5) 8 Fs, aM E (ca 6) 8 Ft, ob (xa 3) 2 [.ref hi, .ref hm, .int (nI t), .int (nI dd)], aN E hi 8 ink, aI E hm 8 mn] (wrI [ob x 6 [.ref (xa 0), .ref g, .ref (xa 2), .ref (xa 3), .ref (xa 4), .ref (xa 5), .ref (xa 6), .ref (xa 7), .int (nI (if okM m (cy 3) then (if 0 ≤ n ∧ n ≤ nI 60 then 0 else 2) else 1)), .int (nI fl), .int pl], ob g 0 [.int (nI (cy 0)), .int (nI (cy 1)), .int (nI (cy 2)), .int (nI (cy 3)), .int (nI (cy 4)), .int (nI (cy 5)), .int (nI (cy 6)), .int (nI (cy 7)), .ref (ca 0), .ref (ca 1), .ref (ca 2), .ref (ca 3), .ref (ca 4), .ref (ca 5), .ref (ca 6), .ref (ca 7), .ref (ca 8), .ref (ca 9), .ref (ca 10), .ref (ca 11)], aM E (ca 5) 8 Fs, aM E (ca 6) 8 Ft, ob (xa 3) 2 [.ref hi, .ref hm, .int (nI t), .int (nI dd)], aN E hi 8 ink, aI E hm 8 mn] (if okM m (cy 3) then (if 0 ≤ n ∧ n ≤ nI 60 then nI (pop64 (kpN cy Fs Ft t (bdN ink mn m (tn n)))) else (-1)) else (-1))) := by
  refine Ct.intro (by decide +kernel) (Nat.le_of_ble_eq_true rfl) (lv := [(0, .ref x), (1, .int m), (2, .int n)]) rfl ?_
  intro Z X Y
  refine v_aload_n X dX6_waysIn_0 rfl 0 rfl ?_
  refine v_iload_n X dX6_waysIn_1 rfl 1 rfl ?_
  refine v_roI1 X (rn_V X k_X6_isMan ml_X6_117 dX6_waysIn_2 (c_X6_isMan l E x xa g tr fl pl cy ca m ) rfl 0 rfl rfl (by decide) (by decide) (by omega) (by omega) (Nat.le_of_ble_eq_true rfl)) [0, 1] rfl rfl ?_
  refine v_ifB_ne X dX6_waysIn_5 (tgt := 14) (by decide) (fun h5 => ?_) (fun h5 => ?_)
  · refine v_iload_n X dX6_waysIn_14 rfl 2 rfl ?_
    refine v_roI1 X (rn_S X k_X6_isAhead ml_X6_192 dX6_waysIn_15 (c_X6_isAhead l E n ) rfl (by decide) (by decide) (by omega) (by omega) (Nat.le_of_ble_eq_true rfl)) [] rfl rfl ?_
    refine v_ifB_ne X dX6_waysIn_18 (tgt := 27) (by decide) (fun h18 => ?_) (fun h18 => ?_)
    · obtain ⟨kn, hkn, rfl⟩ := ahead_nat (of_decide_eq_true h18) (show 60 < 2 ^ 31 by decide)
      refine v_aload_n X dX6_waysIn_27 rfl 0 rfl ?_
      refine v_aload_n X dX6_waysIn_28 rfl 0 rfl ?_
      refine v_aload_n X dX6_waysIn_29 rfl 0 rfl ?_
      refine v_iload_n X dX6_waysIn_30 rfl 1 rfl ?_
      refine v_iload_n X dX6_waysIn_31 rfl 2 rfl ?_
      refine v_roI1 X (rn_V X k_X6_bound ml_X6_123 dX6_waysIn_32 (c_X6_bound l E x xa g tr fl pl hi hm t dd ink mn m kn (by first | assumption | omega) (by omega)) rfl 0 rfl rfl (by decide) (by decide) (by omega) (by omega) (Nat.le_of_ble_eq_true rfl)) [0, 4, 5, 6] rfl rfl ?_
      refine v_roL1 X (rn_V X k_X6_setsUnder ml_X6_133 dX6_waysIn_35 (c_X6_setsUnder l E x xa g tr fl pl cy ca Fs Ft hi hm t dd ink mn (bdN ink mn m kn) (by first | assumption | omega) (by first | assumption | omega) (by first | assumption | omega) (Nat.lt_trans (bdN_lt _ _ _ _) (by decide))) rfl 0 rfl rfl (by decide) (by decide) (by omega) (by omega) (Nat.le_of_ble_eq_true rfl)) [0, 1, 2, 3, 4, 5, 6] rfl rfl ?_
      refine v_roI1 X (rn_S X k_J13_bitCount_95d88 ml_X6_144 dX6_waysIn_38 (c_J13_bitCount_95d88 l E (kpN cy Fs Ft t (bdN ink mn m kn)) (kpN_lt hd _ _ _ _)) rfl (by decide) (by decide) (by omega) (by omega) (Nat.le_of_ble_eq_true rfl)) [] rfl rfl ?_
      refine v_wrI1 X (rn_V X k_X6_answered ml_X6_92 dX6_waysIn_41 (c_X6_answered l E x xa g tr fl pl (nI (cnt (fun k => (kpN cy Fs Ft t (bdN ink mn m kn)).testBit k) 64)) ) rfl 0 rfl rfl (by decide) (by decide) (by omega) (by omega) (Nat.le_of_ble_eq_true rfl)) [0] rfl rfl (ws' := [ob x 6 [.ref (xa 0), .ref g, .ref (xa 2), .ref (xa 3), .ref (xa 4), .ref (xa 5), .ref (xa 6), .ref (xa 7), .int (nI 0), .int (nI fl), .int pl], ob g 0 [.int (nI (cy 0)), .int (nI (cy 1)), .int (nI (cy 2)), .int (nI (cy 3)), .int (nI (cy 4)), .int (nI (cy 5)), .int (nI (cy 6)), .int (nI (cy 7)), .ref (ca 0), .ref (ca 1), .ref (ca 2), .ref (ca 3), .ref (ca 4), .ref (ca 5), .ref (ca 6), .ref (ca 7), .ref (ca 8), .ref (ca 9), .ref (ca 10), .ref (ca 11)], aM E (ca 5) 8 Fs, aM E (ca 6) 8 Ft, ob (xa 3) 2 [.ref hi, .ref hm, .int (nI t), .int (nI dd)], aN E hi 8 ink, aI E hm 8 mn]) rfl rfl ?_
      exact v_iret X Y dX6_waysIn_44 (wrI_of (by rw [if_pos (of_decide_eq_true h5), if_pos (of_decide_eq_true h18)]) (by rw [if_pos (of_decide_eq_true h5), if_pos (of_decide_eq_true h18), tn_n (show kn < 2 ^ 31 by omega)]; rfl)) (by omega) (by omega)
    · refine v_aload_n X dX6_waysIn_21 rfl 0 rfl ?_
      refine v_iconst X dX6_waysIn_22 (v := nI 2) (by decide) ?_
      refine v_wrI1 X (rn_V X k_X6_refused ml_X6_74 dX6_waysIn_23 (c_X6_refused l E x xa g tr fl pl 2 ) rfl 0 rfl rfl (by decide) (by decide) (by omega) (by omega) (Nat.le_of_ble_eq_true rfl)) [0] rfl rfl (ws' := [ob x 6 [.ref (xa 0), .ref g, .ref (xa 2), .ref (xa 3), .ref (xa 4), .ref (xa 5), .ref (xa 6), .ref (xa 7), .int (nI 2), .int (nI fl), .int pl], ob g 0 [.int (nI (cy 0)), .int (nI (cy 1)), .int (nI (cy 2)), .int (nI (cy 3)), .int (nI (cy 4)), .int (nI (cy 5)), .int (nI (cy 6)), .int (nI (cy 7)), .ref (ca 0), .ref (ca 1), .ref (ca 2), .ref (ca 3), .ref (ca 4), .ref (ca 5), .ref (ca 6), .ref (ca 7), .ref (ca 8), .ref (ca 9), .ref (ca 10), .ref (ca 11)], aM E (ca 5) 8 Fs, aM E (ca 6) 8 Ft, ob (xa 3) 2 [.ref hi, .ref hm, .int (nI t), .int (nI dd)], aN E hi 8 ink, aI E hm 8 mn]) rfl rfl ?_
      exact v_iret X Y dX6_waysIn_26 (wrI_of (by rw [if_pos (of_decide_eq_true h5), if_neg (of_decide_eq_false h18)]) (((if_pos (of_decide_eq_true h5)).trans (if_neg (of_decide_eq_false h18))).symm)) (by omega) (by omega)
  · refine v_aload_n X dX6_waysIn_8 rfl 0 rfl ?_
    refine v_iconst X dX6_waysIn_9 (v := nI 1) (by decide) ?_
    refine v_wrI1 X (rn_V X k_X6_refused ml_X6_74 dX6_waysIn_10 (c_X6_refused l E x xa g tr fl pl 1 ) rfl 0 rfl rfl (by decide) (by decide) (by omega) (by omega) (Nat.le_of_ble_eq_true rfl)) [0] rfl rfl (ws' := [ob x 6 [.ref (xa 0), .ref g, .ref (xa 2), .ref (xa 3), .ref (xa 4), .ref (xa 5), .ref (xa 6), .ref (xa 7), .int (nI 1), .int (nI fl), .int pl], ob g 0 [.int (nI (cy 0)), .int (nI (cy 1)), .int (nI (cy 2)), .int (nI (cy 3)), .int (nI (cy 4)), .int (nI (cy 5)), .int (nI (cy 6)), .int (nI (cy 7)), .ref (ca 0), .ref (ca 1), .ref (ca 2), .ref (ca 3), .ref (ca 4), .ref (ca 5), .ref (ca 6), .ref (ca 7), .ref (ca 8), .ref (ca 9), .ref (ca 10), .ref (ca 11)], aM E (ca 5) 8 Fs, aM E (ca 6) 8 Ft, ob (xa 3) 2 [.ref hi, .ref hm, .int (nI t), .int (nI dd)], aN E hi 8 ink, aI E hm 8 mn]) rfl rfl ?_
    exact v_iret X Y dX6_waysIn_13 (wrI_of (by rw [if_neg (of_decide_eq_false h5)]) ((if_neg (of_decide_eq_false h5)).symm)) (by omega) (by omega)
set_option maxRecDepth 100000 in
set_option maxHeartbeats 4000000 in
theorem c_X6_freeIn (l : Launch) (E : Et) (x : Nat) (xa : Nat → Nat) (g : Nat) (tr : Nat) (fl : Nat) (pl : Int32) (cy : Nat → Nat) (ca : Nat → Nat) (Fs : Nat → Nat) (Ft : Nat → Nat) (hi : Nat) (hm : Nat) (t : Nat) (dd : Nat) (ink : Nat → Nat) (mn : Nat → Int32) (m : Int32) (hd : cy 4 ≤ 6) (hcl : cy 5 ≤ 8) (hmen : cy 3 ≤ 4) (ht : t < 256) (hink : ∀ c, ink c ≤ 40) : Ct l E yX6_freeIn cX6_freeIn 3 (some .int) 6 0 0 [.ref x, .int m] [ob x 6 [.ref (xa 0), .ref g, .ref (xa 2), .ref (xa 3), .ref (xa 4), .ref (xa 5), .ref (xa 6), .ref (xa 7), .int (nI tr), .int (nI fl), .int pl], ob g 0 [.int (nI (cy 0)), .int (nI (cy 1)), .int (nI (cy 2)), .int (nI (cy 3)), .int (nI (cy 4)), .int (nI (cy 5)), .int (nI (cy 6)), .int (nI (cy 7)), .ref (ca 0), .ref (ca 1), .ref (ca 2), .ref (ca 3), .ref (ca 4), .ref (ca 5), .ref (ca 6), .ref (ca 7), .ref (ca 8), .ref (ca 9), .ref (ca 10), .ref (ca 11)], aM E (ca 5) 8 Fs, aM E (ca 6) 8 Ft, ob (xa 3) 2 [.ref hi, .ref hm, .int (nI t), .int (nI dd)], aN E hi 8 ink, aI E hm 8 mn] (wrI [ob x 6 [.ref (xa 0), .ref g, .ref (xa 2), .ref (xa 3), .ref (xa 4), .ref (xa 5), .ref (xa 6), .ref (xa 7), .int (nI (if okM m (cy 3) then 0 else 1)), .int (nI fl), .int pl], ob g 0 [.int (nI (cy 0)), .int (nI (cy 1)), .int (nI (cy 2)), .int (nI (cy 3)), .int (nI (cy 4)), .int (nI (cy 5)), .int (nI (cy 6)), .int (nI (cy 7)), .ref (ca 0), .ref (ca 1), .ref (ca 2), .ref (ca 3), .ref (ca 4), .ref (ca 5), .ref (ca 6), .ref (ca 7), .ref (ca 8), .ref (ca 9), .ref (ca 10), .ref (ca 11)], aM E (ca 5) 8 Fs, aM E (ca 6) 8 Ft, ob (xa 3) 2 [.ref hi, .ref hm, .int (nI t), .int (nI dd)], aN E hi 8 ink, aI E hm 8 mn] (if okM m (cy 3) then nI ((fst_ (fun n => decide (¬ kpN cy Fs Ft t (bdN ink mn m n) = 0)) 60 0).getD 60) else (-1))) := by
  refine Ct.intro (by decide +kernel) (Nat.le_of_ble_eq_true rfl) (lv := [(0, .ref x), (1, .int m)]) rfl ?_
  intro Z X Y
  refine v_aload_n X dX6_freeIn_0 rfl 0 rfl ?_
  refine v_iload_n X dX6_freeIn_1 rfl 1 rfl ?_
  refine v_roI1 X (rn_V X k_X6_isMan ml_X6_117 dX6_freeIn_2 (c_X6_isMan l E x xa g tr fl pl cy ca m ) rfl 0 rfl rfl (by decide) (by decide) (by omega) (by omega) (Nat.le_of_ble_eq_true rfl)) [0, 1] rfl rfl ?_
  refine v_ifB_ne X dX6_freeIn_5 (tgt := 14) (by decide) (fun h5 => ?_) (fun h5 => ?_)
  · refine v_iconst X dX6_freeIn_14 (v := nI 0) (by decide) ?_
    refine v_istore_n X dX6_freeIn_15 rfl (by decide) (lv' := [(2, .int (nI 0)), (0, .ref x), (1, .int m)]) rfl ?_
    have L16 : ∀ (j16 : Nat) (vn : Nat), (vn ≤ 60 ∧ fst_ (fun n => decide (¬ kpN cy Fs Ft t (bdN ink mn m n) = 0)) 60 0 = fst_ (fun n => decide (¬ kpN cy Fs Ft t (bdN ink mn m n) = 0)) (60 - vn) vn) → 60 - vn < j16 → V E Z 16 [(0, .ref x), (1, .int m), (2, .int (nI vn))] [] [ob x 6 [.ref (xa 0), .ref g, .ref (xa 2), .ref (xa 3), .ref (xa 4), .ref (xa 5), .ref (xa 6), .ref (xa 7), .int (nI tr), .int (nI fl), .int pl], ob g 0 [.int (nI (cy 0)), .int (nI (cy 1)), .int (nI (cy 2)), .int (nI (cy 3)), .int (nI (cy 4)), .int (nI (cy 5)), .int (nI (cy 6)), .int (nI (cy 7)), .ref (ca 0), .ref (ca 1), .ref (ca 2), .ref (ca 3), .ref (ca 4), .ref (ca 5), .ref (ca 6), .ref (ca 7), .ref (ca 8), .ref (ca 9), .ref (ca 10), .ref (ca 11)], aM E (ca 5) 8 Fs, aM E (ca 6) 8 Ft, ob (xa 3) 2 [.ref hi, .ref hm, .int (nI t), .int (nI dd)], aN E hi 8 ink, aI E hm 8 mn] 0 0 := by
      intro j16
      induction j16 with
      | zero => intro vn hI hM; exact absurd hM (Nat.not_lt_zero _)
      | succ j16 ih16 =>
        intro vn hI16 hM16
        obtain ⟨hc, hq⟩ := id hI16
        refine v_iload_n X dX6_freeIn_16 rfl 2 rfl ?_
        refine v_bipush X dX6_freeIn_17 (v := nI 60) (by decide) ?_
        refine v_icmpN_ge X dX6_freeIn_19 (tgt := 43) (by decide) (by omega) (by decide) (fun h19 => ?_) (fun h19 => ?_)
        · refine v_aload_n X dX6_freeIn_43 rfl 0 rfl ?_
          refine v_iload_n X dX6_freeIn_44 rfl 2 rfl ?_
          refine v_wrI1 X (rn_V X k_X6_answered ml_X6_92 dX6_freeIn_45 (c_X6_answered l E x xa g tr fl pl (nI vn) ) rfl 0 rfl rfl (by decide) (by decide) (by omega) (by omega) (Nat.le_of_ble_eq_true rfl)) [0] rfl rfl (ws' := [ob x 6 [.ref (xa 0), .ref g, .ref (xa 2), .ref (xa 3), .ref (xa 4), .ref (xa 5), .ref (xa 6), .ref (xa 7), .int (nI 0), .int (nI fl), .int pl], ob g 0 [.int (nI (cy 0)), .int (nI (cy 1)), .int (nI (cy 2)), .int (nI (cy 3)), .int (nI (cy 4)), .int (nI (cy 5)), .int (nI (cy 6)), .int (nI (cy 7)), .ref (ca 0), .ref (ca 1), .ref (ca 2), .ref (ca 3), .ref (ca 4), .ref (ca 5), .ref (ca 6), .ref (ca 7), .ref (ca 8), .ref (ca 9), .ref (ca 10), .ref (ca 11)], aM E (ca 5) 8 Fs, aM E (ca 6) 8 Ft, ob (xa 3) 2 [.ref hi, .ref hm, .int (nI t), .int (nI dd)], aN E hi 8 ink, aI E hm 8 mn]) rfl rfl ?_
          exact v_iret X Y dX6_freeIn_48 (wrI_of (by rw [if_pos (of_decide_eq_true h5)]) (by rw [if_pos (of_decide_eq_true h5), hq, show 60 - vn = 0 by omega, show vn = 60 by omega]; rfl)) (by omega) (by omega)
        · refine v_aload_n X dX6_freeIn_22 rfl 0 rfl ?_
          refine v_aload_n X dX6_freeIn_23 rfl 0 rfl ?_
          refine v_iload_n X dX6_freeIn_24 rfl 1 rfl ?_
          refine v_iload_n X dX6_freeIn_25 rfl 2 rfl ?_
          refine v_roI1 X (rn_V X k_X6_bound ml_X6_123 dX6_freeIn_26 (c_X6_bound l E x xa g tr fl pl hi hm t dd ink mn m vn (by first | assumption | omega) (by omega)) rfl 0 rfl rfl (by decide) (by decide) (by omega) (by omega) (Nat.le_of_ble_eq_true rfl)) [0, 4, 5, 6] rfl rfl ?_
          refine v_roL1 X (rn_V X k_X6_setsUnder ml_X6_133 dX6_freeIn_29 (c_X6_setsUnder l E x xa g tr fl pl cy ca Fs Ft hi hm t dd ink mn (bdN ink mn m vn) (by first | assumption | omega) (by first | assumption | omega) (by first | assumption | omega) (Nat.lt_trans (bdN_lt _ _ _ _) (by decide))) rfl 0 rfl rfl (by decide) (by decide) (by omega) (by omega) (Nat.le_of_ble_eq_true rfl)) [0, 1, 2, 3, 4, 5, 6] rfl rfl ?_
          refine v_lconst X dX6_freeIn_32 (v := lN 0) (by decide) ?_
          refine v_lcmp X dX6_freeIn_33 ?_
          refine v_ifLN_ne X dX6_freeIn_34 (tgt := 43) (by decide) (kpN_lt hd _ _ _ _) (by decide) (fun h34 => ?_) (fun h34 => ?_)
          · refine v_aload_n X dX6_freeIn_43 rfl 0 rfl ?_
            refine v_iload_n X dX6_freeIn_44 rfl 2 rfl ?_
            refine v_wrI1 X (rn_V X k_X6_answered ml_X6_92 dX6_freeIn_45 (c_X6_answered l E x xa g tr fl pl (nI vn) ) rfl 0 rfl rfl (by decide) (by decide) (by omega) (by omega) (Nat.le_of_ble_eq_true rfl)) [0] rfl rfl (ws' := [ob x 6 [.ref (xa 0), .ref g, .ref (xa 2), .ref (xa 3), .ref (xa 4), .ref (xa 5), .ref (xa 6), .ref (xa 7), .int (nI 0), .int (nI fl), .int pl], ob g 0 [.int (nI (cy 0)), .int (nI (cy 1)), .int (nI (cy 2)), .int (nI (cy 3)), .int (nI (cy 4)), .int (nI (cy 5)), .int (nI (cy 6)), .int (nI (cy 7)), .ref (ca 0), .ref (ca 1), .ref (ca 2), .ref (ca 3), .ref (ca 4), .ref (ca 5), .ref (ca 6), .ref (ca 7), .ref (ca 8), .ref (ca 9), .ref (ca 10), .ref (ca 11)], aM E (ca 5) 8 Fs, aM E (ca 6) 8 Ft, ob (xa 3) 2 [.ref hi, .ref hm, .int (nI t), .int (nI dd)], aN E hi 8 ink, aI E hm 8 mn]) rfl rfl ?_
            exact v_iret X Y dX6_freeIn_48 (wrI_of (by rw [if_pos (of_decide_eq_true h5)]) (by rw [if_pos (of_decide_eq_true h5), hq, fst_hit (by omega) (decide_eq_true h34)]; rfl)) (by omega) (by omega)
          · refine v_iinc X dX6_freeIn_37 2 rfl (v := nI (vn + 1)) (nI_inc vn) (by decide) (lv' := [(2, .int (nI (vn + 1))), (0, .ref x), (1, .int m)]) rfl ?_
            refine v_goto X dX6_freeIn_40 (tgt := 16) (by decide) ?_
            refine V.lvs [1, 2, 0] rfl ?_
            exact ih16 (vn + 1) (⟨by omega, hq.trans (fst_no (by omega) (decide_eq_false (fun q => q h34)))⟩) (by omega)
    refine V.lvs [1, 2, 0] rfl ?_
    exact L16 _ 0 (⟨by omega, rfl⟩) (Nat.lt_succ_self _)
  · refine v_aload_n X dX6_freeIn_8 rfl 0 rfl ?_
    refine v_iconst X dX6_freeIn_9 (v := nI 1) (by decide) ?_
    refine v_wrI1 X (rn_V X k_X6_refused ml_X6_74 dX6_freeIn_10 (c_X6_refused l E x xa g tr fl pl 1 ) rfl 0 rfl rfl (by decide) (by decide) (by omega) (by omega) (Nat.le_of_ble_eq_true rfl)) [0] rfl rfl (ws' := [ob x 6 [.ref (xa 0), .ref g, .ref (xa 2), .ref (xa 3), .ref (xa 4), .ref (xa 5), .ref (xa 6), .ref (xa 7), .int (nI 1), .int (nI fl), .int pl], ob g 0 [.int (nI (cy 0)), .int (nI (cy 1)), .int (nI (cy 2)), .int (nI (cy 3)), .int (nI (cy 4)), .int (nI (cy 5)), .int (nI (cy 6)), .int (nI (cy 7)), .ref (ca 0), .ref (ca 1), .ref (ca 2), .ref (ca 3), .ref (ca 4), .ref (ca 5), .ref (ca 6), .ref (ca 7), .ref (ca 8), .ref (ca 9), .ref (ca 10), .ref (ca 11)], aM E (ca 5) 8 Fs, aM E (ca 6) 8 Ft, ob (xa 3) 2 [.ref hi, .ref hm, .int (nI t), .int (nI dd)], aN E hi 8 ink, aI E hm 8 mn]) rfl rfl ?_
    exact v_iret X Y dX6_freeIn_13 (wrI_of (by rw [if_neg (of_decide_eq_false h5)]) ((if_neg (of_decide_eq_false h5)).symm)) (by omega) (by omega)
set_option maxRecDepth 100000 in
set_option maxHeartbeats 4000000 in
theorem c_X6_clearIn (l : Launch) (E : Et) (x : Nat) (xa : Nat → Nat) (g : Nat) (tr : Nat) (fl : Nat) (pl : Int32) (cy : Nat → Nat) (ca : Nat → Nat) (Fs : Nat → Nat) (Ft : Nat → Nat) (hi : Nat) (hm : Nat) (t : Nat) (dd : Nat) (ink : Nat → Nat) (mn : Nat → Int32) (m : Int32) (hd : cy 4 ≤ 6) (hcl : cy 5 ≤ 8) (hmen : cy 3 ≤ 4) (ht : t < 256) (hink : ∀ c, ink c ≤ 40) : Ct l E yX6_clearIn cX6_clearIn 3 (some .int) 6 0 0 [.ref x, .int m] [ob x 6 [.ref (xa 0), .ref g, .ref (xa 2), .ref (xa 3), .ref (xa 4), .ref (xa 5), .ref (xa 6), .ref (xa 7), .int (nI tr), .int (nI fl), .int pl], ob g 0 [.int (nI (cy 0)), .int (nI (cy 1)), .int (nI (cy 2)), .int (nI (cy 3)), .int (nI (cy 4)), .int (nI (cy 5)), .int (nI (cy 6)), .int (nI (cy 7)), .ref (ca 0), .ref (ca 1), .ref (ca 2), .ref (ca 3), .ref (ca 4), .ref (ca 5), .ref (ca 6), .ref (ca 7), .ref (ca 8), .ref (ca 9), .ref (ca 10), .ref (ca 11)], aM E (ca 5) 8 Fs, aM E (ca 6) 8 Ft, ob (xa 3) 2 [.ref hi, .ref hm, .int (nI t), .int (nI dd)], aN E hi 8 ink, aI E hm 8 mn] (wrI [ob x 6 [.ref (xa 0), .ref g, .ref (xa 2), .ref (xa 3), .ref (xa 4), .ref (xa 5), .ref (xa 6), .ref (xa 7), .int (nI (if okM m (cy 3) then 0 else 1)), .int (nI fl), .int pl], ob g 0 [.int (nI (cy 0)), .int (nI (cy 1)), .int (nI (cy 2)), .int (nI (cy 3)), .int (nI (cy 4)), .int (nI (cy 5)), .int (nI (cy 6)), .int (nI (cy 7)), .ref (ca 0), .ref (ca 1), .ref (ca 2), .ref (ca 3), .ref (ca 4), .ref (ca 5), .ref (ca 6), .ref (ca 7), .ref (ca 8), .ref (ca 9), .ref (ca 10), .ref (ca 11)], aM E (ca 5) 8 Fs, aM E (ca 6) 8 Ft, ob (xa 3) 2 [.ref hi, .ref hm, .int (nI t), .int (nI dd)], aN E hi 8 ink, aI E hm 8 mn] (if okM m (cy 3) then nI ((fst_ (fun n => decide (bdN ink mn m n = 0)) 60 0).getD 60) else (-1))) := by
  refine Ct.intro (by decide +kernel) (Nat.le_of_ble_eq_true rfl) (lv := [(0, .ref x), (1, .int m)]) rfl ?_
  intro Z X Y
  refine v_aload_n X dX6_clearIn_0 rfl 0 rfl ?_
  refine v_iload_n X dX6_clearIn_1 rfl 1 rfl ?_
  refine v_roI1 X (rn_V X k_X6_isMan ml_X6_117 dX6_clearIn_2 (c_X6_isMan l E x xa g tr fl pl cy ca m ) rfl 0 rfl rfl (by decide) (by decide) (by omega) (by omega) (Nat.le_of_ble_eq_true rfl)) [0, 1] rfl rfl ?_
  refine v_ifB_ne X dX6_clearIn_5 (tgt := 14) (by decide) (fun h5 => ?_) (fun h5 => ?_)
  · refine v_iconst X dX6_clearIn_14 (v := nI 0) (by decide) ?_
    refine v_istore_n X dX6_clearIn_15 rfl (by decide) (lv' := [(2, .int (nI 0)), (0, .ref x), (1, .int m)]) rfl ?_
    have L16 : ∀ (j16 : Nat) (vn : Nat), (vn ≤ 60 ∧ fst_ (fun n => decide (bdN ink mn m n = 0)) 60 0 = fst_ (fun n => decide (bdN ink mn m n = 0)) (60 - vn) vn) → 60 - vn < j16 → V E Z 16 [(0, .ref x), (1, .int m), (2, .int (nI vn))] [] [ob x 6 [.ref (xa 0), .ref g, .ref (xa 2), .ref (xa 3), .ref (xa 4), .ref (xa 5), .ref (xa 6), .ref (xa 7), .int (nI tr), .int (nI fl), .int pl], ob g 0 [.int (nI (cy 0)), .int (nI (cy 1)), .int (nI (cy 2)), .int (nI (cy 3)), .int (nI (cy 4)), .int (nI (cy 5)), .int (nI (cy 6)), .int (nI (cy 7)), .ref (ca 0), .ref (ca 1), .ref (ca 2), .ref (ca 3), .ref (ca 4), .ref (ca 5), .ref (ca 6), .ref (ca 7), .ref (ca 8), .ref (ca 9), .ref (ca 10), .ref (ca 11)], aM E (ca 5) 8 Fs, aM E (ca 6) 8 Ft, ob (xa 3) 2 [.ref hi, .ref hm, .int (nI t), .int (nI dd)], aN E hi 8 ink, aI E hm 8 mn] 0 0 := by
      intro j16
      induction j16 with
      | zero => intro vn hI hM; exact absurd hM (Nat.not_lt_zero _)
      | succ j16 ih16 =>
        intro vn hI16 hM16
        obtain ⟨hc, hq⟩ := id hI16
        refine v_iload_n X dX6_clearIn_16 rfl 2 rfl ?_
        refine v_bipush X dX6_clearIn_17 (v := nI 60) (by decide) ?_
        refine v_icmpN_ge X dX6_clearIn_19 (tgt := 37) (by decide) (by omega) (by decide) (fun h19 => ?_) (fun h19 => ?_)
        · refine v_aload_n X dX6_clearIn_37 rfl 0 rfl ?_
          refine v_iload_n X dX6_clearIn_38 rfl 2 rfl ?_
          refine v_wrI1 X (rn_V X k_X6_answered ml_X6_92 dX6_clearIn_39 (c_X6_answered l E x xa g tr fl pl (nI vn) ) rfl 0 rfl rfl (by decide) (by decide) (by omega) (by omega) (Nat.le_of_ble_eq_true rfl)) [0] rfl rfl (ws' := [ob x 6 [.ref (xa 0), .ref g, .ref (xa 2), .ref (xa 3), .ref (xa 4), .ref (xa 5), .ref (xa 6), .ref (xa 7), .int (nI 0), .int (nI fl), .int pl], ob g 0 [.int (nI (cy 0)), .int (nI (cy 1)), .int (nI (cy 2)), .int (nI (cy 3)), .int (nI (cy 4)), .int (nI (cy 5)), .int (nI (cy 6)), .int (nI (cy 7)), .ref (ca 0), .ref (ca 1), .ref (ca 2), .ref (ca 3), .ref (ca 4), .ref (ca 5), .ref (ca 6), .ref (ca 7), .ref (ca 8), .ref (ca 9), .ref (ca 10), .ref (ca 11)], aM E (ca 5) 8 Fs, aM E (ca 6) 8 Ft, ob (xa 3) 2 [.ref hi, .ref hm, .int (nI t), .int (nI dd)], aN E hi 8 ink, aI E hm 8 mn]) rfl rfl ?_
          exact v_iret X Y dX6_clearIn_42 (wrI_of (by rw [if_pos (of_decide_eq_true h5)]) (by rw [if_pos (of_decide_eq_true h5), hq, show 60 - vn = 0 by omega, show vn = 60 by omega]; rfl)) (by omega) (by omega)
        · refine v_aload_n X dX6_clearIn_22 rfl 0 rfl ?_
          refine v_iload_n X dX6_clearIn_23 rfl 1 rfl ?_
          refine v_iload_n X dX6_clearIn_24 rfl 2 rfl ?_
          refine v_roI1 X (rn_V X k_X6_bound ml_X6_123 dX6_clearIn_25 (c_X6_bound l E x xa g tr fl pl hi hm t dd ink mn m vn (by first | assumption | omega) (by omega)) rfl 0 rfl rfl (by decide) (by decide) (by omega) (by omega) (Nat.le_of_ble_eq_true rfl)) [0, 4, 5, 6] rfl rfl ?_
          refine v_ifN_eq X dX6_clearIn_28 (tgt := 37) (by decide) (Nat.lt_trans (bdN_lt _ _ _ _) (by decide)) (fun h28 => ?_) (fun h28 => ?_)
          · refine v_aload_n X dX6_clearIn_37 rfl 0 rfl ?_
            refine v_iload_n X dX6_clearIn_38 rfl 2 rfl ?_
            refine v_wrI1 X (rn_V X k_X6_answered ml_X6_92 dX6_clearIn_39 (c_X6_answered l E x xa g tr fl pl (nI vn) ) rfl 0 rfl rfl (by decide) (by decide) (by omega) (by omega) (Nat.le_of_ble_eq_true rfl)) [0] rfl rfl (ws' := [ob x 6 [.ref (xa 0), .ref g, .ref (xa 2), .ref (xa 3), .ref (xa 4), .ref (xa 5), .ref (xa 6), .ref (xa 7), .int (nI 0), .int (nI fl), .int pl], ob g 0 [.int (nI (cy 0)), .int (nI (cy 1)), .int (nI (cy 2)), .int (nI (cy 3)), .int (nI (cy 4)), .int (nI (cy 5)), .int (nI (cy 6)), .int (nI (cy 7)), .ref (ca 0), .ref (ca 1), .ref (ca 2), .ref (ca 3), .ref (ca 4), .ref (ca 5), .ref (ca 6), .ref (ca 7), .ref (ca 8), .ref (ca 9), .ref (ca 10), .ref (ca 11)], aM E (ca 5) 8 Fs, aM E (ca 6) 8 Ft, ob (xa 3) 2 [.ref hi, .ref hm, .int (nI t), .int (nI dd)], aN E hi 8 ink, aI E hm 8 mn]) rfl rfl ?_
            exact v_iret X Y dX6_clearIn_42 (wrI_of (by rw [if_pos (of_decide_eq_true h5)]) (by rw [if_pos (of_decide_eq_true h5), hq, fst_hit (by omega) (decide_eq_true h28)]; rfl)) (by omega) (by omega)
          · refine v_iinc X dX6_clearIn_31 2 rfl (v := nI (vn + 1)) (nI_inc vn) (by decide) (lv' := [(2, .int (nI (vn + 1))), (0, .ref x), (1, .int m)]) rfl ?_
            refine v_goto X dX6_clearIn_34 (tgt := 16) (by decide) ?_
            refine V.lvs [1, 2, 0] rfl ?_
            exact ih16 (vn + 1) (⟨by omega, hq.trans (fst_no (by omega) (decide_eq_false h28))⟩) (by omega)
    refine V.lvs [1, 2, 0] rfl ?_
    exact L16 _ 0 (⟨by omega, rfl⟩) (Nat.lt_succ_self _)
  · refine v_aload_n X dX6_clearIn_8 rfl 0 rfl ?_
    refine v_iconst X dX6_clearIn_9 (v := nI 1) (by decide) ?_
    refine v_wrI1 X (rn_V X k_X6_refused ml_X6_74 dX6_clearIn_10 (c_X6_refused l E x xa g tr fl pl 1 ) rfl 0 rfl rfl (by decide) (by decide) (by omega) (by omega) (Nat.le_of_ble_eq_true rfl)) [0] rfl rfl (ws' := [ob x 6 [.ref (xa 0), .ref g, .ref (xa 2), .ref (xa 3), .ref (xa 4), .ref (xa 5), .ref (xa 6), .ref (xa 7), .int (nI 1), .int (nI fl), .int pl], ob g 0 [.int (nI (cy 0)), .int (nI (cy 1)), .int (nI (cy 2)), .int (nI (cy 3)), .int (nI (cy 4)), .int (nI (cy 5)), .int (nI (cy 6)), .int (nI (cy 7)), .ref (ca 0), .ref (ca 1), .ref (ca 2), .ref (ca 3), .ref (ca 4), .ref (ca 5), .ref (ca 6), .ref (ca 7), .ref (ca 8), .ref (ca 9), .ref (ca 10), .ref (ca 11)], aM E (ca 5) 8 Fs, aM E (ca 6) 8 Ft, ob (xa 3) 2 [.ref hi, .ref hm, .int (nI t), .int (nI dd)], aN E hi 8 ink, aI E hm 8 mn]) rfl rfl ?_
    exact v_iret X Y dX6_clearIn_13 (wrI_of (by rw [if_neg (of_decide_eq_false h5)]) ((if_neg (of_decide_eq_false h5)).symm)) (by omega) (by omega)
set_option maxRecDepth 100000 in
set_option maxHeartbeats 4000000 in
theorem c_X6_mayIn (l : Launch) (E : Et) (x : Nat) (xa : Nat → Nat) (g : Nat) (tr : Nat) (fl : Nat) (pl : Int32) (cy : Nat → Nat) (ca : Nat → Nat) (Fs : Nat → Nat) (Ft : Nat → Nat) (hi : Nat) (hm : Nat) (t : Nat) (dd : Nat) (ink : Nat → Nat) (mn : Nat → Int32) (m : Int32) (s : Int32) (hd : cy 4 ≤ 6) (hcl : cy 5 ≤ 8) (hmen : cy 3 ≤ 4) (ht : t < 256) (hink : ∀ c, ink c ≤ 40) : Ct l E yX6_mayIn cX6_mayIn 4 (some .int) 6 0 0 [.ref x, .int m, .int s] [ob x 6 [.ref (xa 0), .ref g, .ref (xa 2), .ref (xa 3), .ref (xa 4), .ref (xa 5), .ref (xa 6), .ref (xa 7), .int (nI tr), .int (nI fl), .int pl], ob g 0 [.int (nI (cy 0)), .int (nI (cy 1)), .int (nI (cy 2)), .int (nI (cy 3)), .int (nI (cy 4)), .int (nI (cy 5)), .int (nI (cy 6)), .int (nI (cy 7)), .ref (ca 0), .ref (ca 1), .ref (ca 2), .ref (ca 3), .ref (ca 4), .ref (ca 5), .ref (ca 6), .ref (ca 7), .ref (ca 8), .ref (ca 9), .ref (ca 10), .ref (ca 11)], aM E (ca 5) 8 Fs, aM E (ca 6) 8 Ft, ob (xa 3) 2 [.ref hi, .ref hm, .int (nI t), .int (nI dd)], aN E hi 8 ink, aI E hm 8 mn] (wrI [ob x 6 [.ref (xa 0), .ref g, .ref (xa 2), .ref (xa 3), .ref (xa 4), .ref (xa 5), .ref (xa 6), .ref (xa 7), .int (nI (if okM m (cy 3) then (if okM s (2 ^ cy 4) then 0 else 2) else 1)), .int (nI fl), .int pl], ob g 0 [.int (nI (cy 0)), .int (nI (cy 1)), .int (nI (cy 2)), .int (nI (cy 3)), .int (nI (cy 4)), .int (nI (cy 5)), .int (nI (cy 6)), .int (nI (cy 7)), .ref (ca 0), .ref (ca 1), .ref (ca 2), .ref (ca 3), .ref (ca 4), .ref (ca 5), .ref (ca 6), .ref (ca 7), .ref (ca 8), .ref (ca 9), .ref (ca 10), .ref (ca 11)], aM E (ca 5) 8 Fs, aM E (ca 6) 8 Ft, ob (xa 3) 2 [.ref hi, .ref hm, .int (nI t), .int (nI dd)], aN E hi 8 ink, aI E hm 8 mn] (if okM m (cy 3) then (if okM s (2 ^ cy 4) then nI ((fst_ (fun n => (kpN cy Fs Ft t (bdN ink mn m n)).testBit (tn s)) 60 0).getD 60) else (-1)) else (-1))) := by
  refine Ct.intro (by decide +kernel) (Nat.le_of_ble_eq_true rfl) (lv := [(0, .ref x), (1, .int m), (2, .int s)]) rfl ?_
  intro Z X Y
  refine v_aload_n X dX6_mayIn_0 rfl 0 rfl ?_
  refine v_iload_n X dX6_mayIn_1 rfl 1 rfl ?_
  refine v_roI1 X (rn_V X k_X6_isMan ml_X6_117 dX6_mayIn_2 (c_X6_isMan l E x xa g tr fl pl cy ca m ) rfl 0 rfl rfl (by decide) (by decide) (by omega) (by omega) (Nat.le_of_ble_eq_true rfl)) [0, 1] rfl rfl ?_
  refine v_ifB_ne X dX6_mayIn_5 (tgt := 14) (by decide) (fun h5 => ?_) (fun h5 => ?_)
  · refine v_aload_n X dX6_mayIn_14 rfl 0 rfl ?_
    refine v_iload_n X dX6_mayIn_15 rfl 2 rfl ?_
    refine v_roI1 X (rn_V X k_X6_isSet ml_X6_130 dX6_mayIn_16 (c_X6_isSet l E x xa g tr fl pl cy ca s (by first | assumption | omega)) rfl 0 rfl rfl (by decide) (by decide) (by omega) (by omega) (Nat.le_of_ble_eq_true rfl)) [0, 1] rfl rfl ?_
    refine v_ifB_ne X dX6_mayIn_19 (tgt := 28) (by decide) (fun h19 => ?_) (fun h19 => ?_)
    · obtain ⟨ks, hks, rfl⟩ := okM_nat (of_decide_eq_true h19) (pow6 hd)
      refine v_iconst X dX6_mayIn_28 (v := nI 0) (by decide) ?_
      refine v_istore_n X dX6_mayIn_29 rfl (by decide) (lv' := [(3, .int (nI 0)), (0, .ref x), (1, .int m), (2, .int (nI ks))]) rfl ?_
      have L30 : ∀ (j30 : Nat) (vn : Nat), (vn ≤ 60 ∧ fst_ (fun n => (kpN cy Fs Ft t (bdN ink mn m n)).testBit ks) 60 0 = fst_ (fun n => (kpN cy Fs Ft t (bdN ink mn m n)).testBit ks) (60 - vn) vn) → 60 - vn < j30 → V E Z 30 [(0, .ref x), (1, .int m), (2, .int (nI ks)), (3, .int (nI vn))] [] [ob x 6 [.ref (xa 0), .ref g, .ref (xa 2), .ref (xa 3), .ref (xa 4), .ref (xa 5), .ref (xa 6), .ref (xa 7), .int (nI tr), .int (nI fl), .int pl], ob g 0 [.int (nI (cy 0)), .int (nI (cy 1)), .int (nI (cy 2)), .int (nI (cy 3)), .int (nI (cy 4)), .int (nI (cy 5)), .int (nI (cy 6)), .int (nI (cy 7)), .ref (ca 0), .ref (ca 1), .ref (ca 2), .ref (ca 3), .ref (ca 4), .ref (ca 5), .ref (ca 6), .ref (ca 7), .ref (ca 8), .ref (ca 9), .ref (ca 10), .ref (ca 11)], aM E (ca 5) 8 Fs, aM E (ca 6) 8 Ft, ob (xa 3) 2 [.ref hi, .ref hm, .int (nI t), .int (nI dd)], aN E hi 8 ink, aI E hm 8 mn] 0 0 := by
        intro j30
        induction j30 with
        | zero => intro vn hI hM; exact absurd hM (Nat.not_lt_zero _)
        | succ j30 ih30 =>
          intro vn hI30 hM30
          obtain ⟨hc, hq⟩ := id hI30
          refine v_iload_n X dX6_mayIn_30 rfl 3 rfl ?_
          refine v_bipush X dX6_mayIn_31 (v := nI 60) (by decide) ?_
          refine v_icmpN_ge X dX6_mayIn_33 (tgt := 59) (by decide) (by omega) (by decide) (fun h33 => ?_) (fun h33 => ?_)
          · refine v_aload_n X dX6_mayIn_59 rfl 0 rfl ?_
            refine v_iload_n X dX6_mayIn_60 rfl 3 rfl ?_
            refine v_wrI1 X (rn_V X k_X6_answered ml_X6_92 dX6_mayIn_61 (c_X6_answered l E x xa g tr fl pl (nI vn) ) rfl 0 rfl rfl (by decide) (by decide) (by omega) (by omega) (Nat.le_of_ble_eq_true rfl)) [0] rfl rfl (ws' := [ob x 6 [.ref (xa 0), .ref g, .ref (xa 2), .ref (xa 3), .ref (xa 4), .ref (xa 5), .ref (xa 6), .ref (xa 7), .int (nI 0), .int (nI fl), .int pl], ob g 0 [.int (nI (cy 0)), .int (nI (cy 1)), .int (nI (cy 2)), .int (nI (cy 3)), .int (nI (cy 4)), .int (nI (cy 5)), .int (nI (cy 6)), .int (nI (cy 7)), .ref (ca 0), .ref (ca 1), .ref (ca 2), .ref (ca 3), .ref (ca 4), .ref (ca 5), .ref (ca 6), .ref (ca 7), .ref (ca 8), .ref (ca 9), .ref (ca 10), .ref (ca 11)], aM E (ca 5) 8 Fs, aM E (ca 6) 8 Ft, ob (xa 3) 2 [.ref hi, .ref hm, .int (nI t), .int (nI dd)], aN E hi 8 ink, aI E hm 8 mn]) rfl rfl ?_
            exact v_iret X Y dX6_mayIn_64 (wrI_of (by rw [if_pos (of_decide_eq_true h5), if_pos (of_decide_eq_true h19)]) (by rw [if_pos (of_decide_eq_true h5), if_pos (of_decide_eq_true h19), tn_n (Nat.lt_trans hks (pow6 hd)), hq, show 60 - vn = 0 by omega, show vn = 60 by omega]; rfl)) (by omega) (by omega)
          · refine v_aload_n X dX6_mayIn_36 rfl 0 rfl ?_
            refine v_aload_n X dX6_mayIn_37 rfl 0 rfl ?_
            refine v_iload_n X dX6_mayIn_38 rfl 1 rfl ?_
            refine v_iload_n X dX6_mayIn_39 rfl 3 rfl ?_
            refine v_roI1 X (rn_V X k_X6_bound ml_X6_123 dX6_mayIn_40 (c_X6_bound l E x xa g tr fl pl hi hm t dd ink mn m vn (by first | assumption | omega) (by omega)) rfl 0 rfl rfl (by decide) (by decide) (by omega) (by omega) (Nat.le_of_ble_eq_true rfl)) [0, 4, 5, 6] rfl rfl ?_
            refine v_roL1 X (rn_V X k_X6_setsUnder ml_X6_133 dX6_mayIn_43 (c_X6_setsUnder l E x xa g tr fl pl cy ca Fs Ft hi hm t dd ink mn (bdN ink mn m vn) (by first | assumption | omega) (by first | assumption | omega) (by first | assumption | omega) (Nat.lt_trans (bdN_lt _ _ _ _) (by decide))) rfl 0 rfl rfl (by decide) (by decide) (by omega) (by omega) (Nat.le_of_ble_eq_true rfl)) [0, 1, 2, 3, 4, 5, 6] rfl rfl ?_
            refine v_iload_n X dX6_mayIn_46 rfl 2 rfl ?_
            refine v_roI1 X (rn_S X k_X6_isIn ml_X6_137 dX6_mayIn_47 (c_X6_isIn l E (kpN cy Fs Ft t (bdN ink mn m vn)) ks (kpN_lt hd _ _ _ _) (Nat.lt_of_lt_of_le hks (pow64 hd))) rfl (by decide) (by decide) (by omega) (by omega) (Nat.le_of_ble_eq_true rfl)) [] rfl rfl ?_
            refine v_ifB_ne X dX6_mayIn_50 (tgt := 59) (by decide) (fun h50 => ?_) (fun h50 => ?_)
            · refine v_aload_n X dX6_mayIn_59 rfl 0 rfl ?_
              refine v_iload_n X dX6_mayIn_60 rfl 3 rfl ?_
              refine v_wrI1 X (rn_V X k_X6_answered ml_X6_92 dX6_mayIn_61 (c_X6_answered l E x xa g tr fl pl (nI vn) ) rfl 0 rfl rfl (by decide) (by decide) (by omega) (by omega) (Nat.le_of_ble_eq_true rfl)) [0] rfl rfl (ws' := [ob x 6 [.ref (xa 0), .ref g, .ref (xa 2), .ref (xa 3), .ref (xa 4), .ref (xa 5), .ref (xa 6), .ref (xa 7), .int (nI 0), .int (nI fl), .int pl], ob g 0 [.int (nI (cy 0)), .int (nI (cy 1)), .int (nI (cy 2)), .int (nI (cy 3)), .int (nI (cy 4)), .int (nI (cy 5)), .int (nI (cy 6)), .int (nI (cy 7)), .ref (ca 0), .ref (ca 1), .ref (ca 2), .ref (ca 3), .ref (ca 4), .ref (ca 5), .ref (ca 6), .ref (ca 7), .ref (ca 8), .ref (ca 9), .ref (ca 10), .ref (ca 11)], aM E (ca 5) 8 Fs, aM E (ca 6) 8 Ft, ob (xa 3) 2 [.ref hi, .ref hm, .int (nI t), .int (nI dd)], aN E hi 8 ink, aI E hm 8 mn]) rfl rfl ?_
              exact v_iret X Y dX6_mayIn_64 (wrI_of (by rw [if_pos (of_decide_eq_true h5), if_pos (of_decide_eq_true h19)]) (by rw [if_pos (of_decide_eq_true h5), if_pos (of_decide_eq_true h19), tn_n (Nat.lt_trans hks (pow6 hd)), hq, fst_hit (p := fun n => (kpN cy Fs Ft t (bdN ink mn m n)).testBit ks) (by omega) h50]; rfl)) (by omega) (by omega)
            · refine v_iinc X dX6_mayIn_53 3 rfl (v := nI (vn + 1)) (nI_inc vn) (by decide) (lv' := [(3, .int (nI (vn + 1))), (0, .ref x), (1, .int m), (2, .int (nI ks))]) rfl ?_
              refine v_goto X dX6_mayIn_56 (tgt := 30) (by decide) ?_
              refine V.lvs [1, 2, 3, 0] rfl ?_
              exact ih30 (vn + 1) (⟨by omega, hq.trans (fst_no (by omega) h50)⟩) (by omega)
      refine V.lvs [1, 2, 3, 0] rfl ?_
      exact L30 _ 0 (⟨by omega, rfl⟩) (Nat.lt_succ_self _)
    · refine v_aload_n X dX6_mayIn_22 rfl 0 rfl ?_
      refine v_iconst X dX6_mayIn_23 (v := nI 2) (by decide) ?_
      refine v_wrI1 X (rn_V X k_X6_refused ml_X6_74 dX6_mayIn_24 (c_X6_refused l E x xa g tr fl pl 2 ) rfl 0 rfl rfl (by decide) (by decide) (by omega) (by omega) (Nat.le_of_ble_eq_true rfl)) [0] rfl rfl (ws' := [ob x 6 [.ref (xa 0), .ref g, .ref (xa 2), .ref (xa 3), .ref (xa 4), .ref (xa 5), .ref (xa 6), .ref (xa 7), .int (nI 2), .int (nI fl), .int pl], ob g 0 [.int (nI (cy 0)), .int (nI (cy 1)), .int (nI (cy 2)), .int (nI (cy 3)), .int (nI (cy 4)), .int (nI (cy 5)), .int (nI (cy 6)), .int (nI (cy 7)), .ref (ca 0), .ref (ca 1), .ref (ca 2), .ref (ca 3), .ref (ca 4), .ref (ca 5), .ref (ca 6), .ref (ca 7), .ref (ca 8), .ref (ca 9), .ref (ca 10), .ref (ca 11)], aM E (ca 5) 8 Fs, aM E (ca 6) 8 Ft, ob (xa 3) 2 [.ref hi, .ref hm, .int (nI t), .int (nI dd)], aN E hi 8 ink, aI E hm 8 mn]) rfl rfl ?_
      exact v_iret X Y dX6_mayIn_27 (wrI_of (by rw [if_pos (of_decide_eq_true h5), if_neg (of_decide_eq_false h19)]) (((if_pos (of_decide_eq_true h5)).trans (if_neg (of_decide_eq_false h19))).symm)) (by omega) (by omega)
  · refine v_aload_n X dX6_mayIn_8 rfl 0 rfl ?_
    refine v_iconst X dX6_mayIn_9 (v := nI 1) (by decide) ?_
    refine v_wrI1 X (rn_V X k_X6_refused ml_X6_74 dX6_mayIn_10 (c_X6_refused l E x xa g tr fl pl 1 ) rfl 0 rfl rfl (by decide) (by decide) (by omega) (by omega) (Nat.le_of_ble_eq_true rfl)) [0] rfl rfl (ws' := [ob x 6 [.ref (xa 0), .ref g, .ref (xa 2), .ref (xa 3), .ref (xa 4), .ref (xa 5), .ref (xa 6), .ref (xa 7), .int (nI 1), .int (nI fl), .int pl], ob g 0 [.int (nI (cy 0)), .int (nI (cy 1)), .int (nI (cy 2)), .int (nI (cy 3)), .int (nI (cy 4)), .int (nI (cy 5)), .int (nI (cy 6)), .int (nI (cy 7)), .ref (ca 0), .ref (ca 1), .ref (ca 2), .ref (ca 3), .ref (ca 4), .ref (ca 5), .ref (ca 6), .ref (ca 7), .ref (ca 8), .ref (ca 9), .ref (ca 10), .ref (ca 11)], aM E (ca 5) 8 Fs, aM E (ca 6) 8 Ft, ob (xa 3) 2 [.ref hi, .ref hm, .int (nI t), .int (nI dd)], aN E hi 8 ink, aI E hm 8 mn]) rfl rfl ?_
    exact v_iret X Y dX6_mayIn_13 (wrI_of (by rw [if_neg (of_decide_eq_false h5)]) ((if_neg (of_decide_eq_false h5)).symm)) (by omega) (by omega)
set_option maxRecDepth 100000 in
set_option maxHeartbeats 4000000 in
theorem c_X6_stuck (l : Launch) (E : Et) (x : Nat) (xa : Nat → Nat) (g : Nat) (tr : Nat) (fl : Nat) (pl : Int32) (cy : Nat → Nat) (ca : Nat → Nat) (Fs : Nat → Nat) (Ft : Nat → Nat) (hi : Nat) (hm : Nat) (t : Nat) (dd : Nat) (ink : Nat → Nat) (mn : Nat → Int32) (hd : cy 4 ≤ 6) (hcl : cy 5 ≤ 8) (hmen : cy 3 ≤ 4) (ht : t < 256) (hink : ∀ c, ink c ≤ 40) : Ct l E yX6_stuck cX6_stuck 3 (some .int) 6 0 0 [.ref x] [ob x 6 [.ref (xa 0), .ref g, .ref (xa 2), .ref (xa 3), .ref (xa 4), .ref (xa 5), .ref (xa 6), .ref (xa 7), .int (nI tr), .int (nI fl), .int pl], ob g 0 [.int (nI (cy 0)), .int (nI (cy 1)), .int (nI (cy 2)), .int (nI (cy 3)), .int (nI (cy 4)), .int (nI (cy 5)), .int (nI (cy 6)), .int (nI (cy 7)), .ref (ca 0), .ref (ca 1), .ref (ca 2), .ref (ca 3), .ref (ca 4), .ref (ca 5), .ref (ca 6), .ref (ca 7), .ref (ca 8), .ref (ca 9), .ref (ca 10), .ref (ca 11)], aM E (ca 5) 8 Fs, aM E (ca 6) 8 Ft, ob (xa 3) 2 [.ref hi, .ref hm, .int (nI t), .int (nI dd)], aN E hi 8 ink, aI E hm 8 mn] (wrI [ob x 6 [.ref (xa 0), .ref g, .ref (xa 2), .ref (xa 3), .ref (xa 4), .ref (xa 5), .ref (xa 6), .ref (xa 7), .int (nI (if cy 3 = 0 then 1 else 0)), .int (nI fl), .int pl], ob g 0 [.int (nI (cy 0)), .int (nI (cy 1)), .int (nI (cy 2)), .int (nI (cy 3)), .int (nI (cy 4)), .int (nI (cy 5)), .int (nI (cy 6)), .int (nI (cy 7)), .ref (ca 0), .ref (ca 1), .ref (ca 2), .ref (ca 3), .ref (ca 4), .ref (ca 5), .ref (ca 6), .ref (ca 7), .ref (ca 8), .ref (ca 9), .ref (ca 10), .ref (ca 11)], aM E (ca 5) 8 Fs, aM E (ca 6) 8 Ft, ob (xa 3) 2 [.ref hi, .ref hm, .int (nI t), .int (nI dd)], aN E hi 8 ink, aI E hm 8 mn] (if cy 3 = 0 then (-1) else nI (bbits (fun m => decide (kpN cy Fs Ft t (bdN ink mn (nI m) 0) = 0)) (cy 3)))) := by
  refine Ct.intro (by decide +kernel) (Nat.le_of_ble_eq_true rfl) (lv := [(0, .ref x)]) rfl ?_
  intro Z X Y
  refine v_aload_n X dX6_stuck_0 rfl 0 rfl ?_
  refine v_roI1 X (rn_V X k_X6_noCity ml_X6_168 dX6_stuck_1 (c_X6_noCity l E x xa g tr fl pl cy ca (by first | assumption | omega)) rfl 0 rfl rfl (by decide) (by decide) (by omega) (by omega) (Nat.le_of_ble_eq_true rfl)) [0, 1] rfl rfl ?_
  refine v_ifB_eq X dX6_stuck_4 (tgt := 13) (by decide) (fun h4 => ?_) (fun h4 => ?_)
  · refine v_iconst X dX6_stuck_13 (v := nI 0) (by decide) ?_
    refine v_istore_n X dX6_stuck_14 rfl (by decide) (lv' := [(1, .int (nI 0)), (0, .ref x)]) rfl ?_
    refine v_iconst X dX6_stuck_15 (v := nI 0) (by decide) ?_
    refine v_istore_n X dX6_stuck_16 rfl (by decide) (lv' := [(2, .int (nI 0)), (1, .int (nI 0)), (0, .ref x)]) rfl ?_
    have L17 : ∀ (j17 : Nat) (vm : Nat) (vb : Nat), (vm ≤ cy 3 ∧ vb = bbits (fun m => decide (kpN cy Fs Ft t (bdN ink mn (nI m) 0) = 0)) vm) → cy 3 - vm < j17 → V E Z 17 [(0, .ref x), (1, .int (nI vb)), (2, .int (nI vm))] [] [ob x 6 [.ref (xa 0), .ref g, .ref (xa 2), .ref (xa 3), .ref (xa 4), .ref (xa 5), .ref (xa 6), .ref (xa 7), .int (nI tr), .int (nI fl), .int pl], ob g 0 [.int (nI (cy 0)), .int (nI (cy 1)), .int (nI (cy 2)), .int (nI (cy 3)), .int (nI (cy 4)), .int (nI (cy 5)), .int (nI (cy 6)), .int (nI (cy 7)), .ref (ca 0), .ref (ca 1), .ref (ca 2), .ref (ca 3), .ref (ca 4), .ref (ca 5), .ref (ca 6), .ref (ca 7), .ref (ca 8), .ref (ca 9), .ref (ca 10), .ref (ca 11)], aM E (ca 5) 8 Fs, aM E (ca 6) 8 Ft, ob (xa 3) 2 [.ref hi, .ref hm, .int (nI t), .int (nI dd)], aN E hi 8 ink, aI E hm 8 mn] 0 0 := by
      intro j17
      induction j17 with
      | zero => intro vm vb hI hM; exact absurd hM (Nat.not_lt_zero _)
      | succ j17 ih17 =>
        intro vm vb hI17 hM17
        obtain ⟨hc, hb⟩ := id hI17
        refine v_iload_n X dX6_stuck_17 rfl 2 rfl ?_
        refine v_aload_n X dX6_stuck_18 rfl 0 rfl ?_
        refine v_get X kcX6 fl_X6_19 dX6_stuck_19 0 rfl rfl ?_
        refine v_getN X kcX0 fl_X6_89 dX6_stuck_22 1 rfl rfl ?_
        refine v_icmpN_ge X dX6_stuck_25 (tgt := 50) (by decide) (by omega) (by omega) (fun h25 => ?_) (fun h25 => ?_)
        · refine v_aload_n X dX6_stuck_50 rfl 0 rfl ?_
          refine v_iload_n X dX6_stuck_51 rfl 1 rfl ?_
          refine v_wrI1 X (rn_V X k_X6_answered ml_X6_92 dX6_stuck_52 (c_X6_answered l E x xa g tr fl pl (nI vb) ) rfl 0 rfl rfl (by decide) (by decide) (by omega) (by omega) (Nat.le_of_ble_eq_true rfl)) [0] rfl rfl (ws' := [ob x 6 [.ref (xa 0), .ref g, .ref (xa 2), .ref (xa 3), .ref (xa 4), .ref (xa 5), .ref (xa 6), .ref (xa 7), .int (nI 0), .int (nI fl), .int pl], ob g 0 [.int (nI (cy 0)), .int (nI (cy 1)), .int (nI (cy 2)), .int (nI (cy 3)), .int (nI (cy 4)), .int (nI (cy 5)), .int (nI (cy 6)), .int (nI (cy 7)), .ref (ca 0), .ref (ca 1), .ref (ca 2), .ref (ca 3), .ref (ca 4), .ref (ca 5), .ref (ca 6), .ref (ca 7), .ref (ca 8), .ref (ca 9), .ref (ca 10), .ref (ca 11)], aM E (ca 5) 8 Fs, aM E (ca 6) 8 Ft, ob (xa 3) 2 [.ref hi, .ref hm, .int (nI t), .int (nI dd)], aN E hi 8 ink, aI E hm 8 mn]) rfl rfl ?_
          exact v_iret X Y dX6_stuck_55 (wrI_of (by rw [if_neg (of_decide_eq_false h4)]) (by rw [if_neg (of_decide_eq_false h4), show cy 3 = vm by omega, ← hb])) (by omega) (by omega)
        · refine v_aload_n X dX6_stuck_28 rfl 0 rfl ?_
          refine v_iload_n X dX6_stuck_29 rfl 2 rfl ?_
          refine v_roL1 X (rn_V X k_X6_waysOf ml_X6_141 dX6_stuck_30 (c_X6_waysOf l E x xa g tr fl pl cy ca Fs Ft hi hm t dd ink mn (nI vm) (by first | assumption | omega) (by first | assumption | omega) (by first | assumption | omega) (by first | assumption | omega)) rfl 0 rfl rfl (by decide) (by decide) (by omega) (by omega) (Nat.le_of_ble_eq_true rfl)) [0, 1, 2, 3, 4, 5, 6] rfl rfl ?_
          refine v_lconst X dX6_stuck_33 (v := lN 0) (by decide) ?_
          refine v_lcmp X dX6_stuck_34 ?_
          refine v_ifLN_ne X dX6_stuck_35 (tgt := 44) (by decide) (kpN_lt hd _ _ _ _) (by decide) (fun h35 => ?_) (fun h35 => ?_)
          · refine v_iinc X dX6_stuck_44 2 rfl (v := nI (vm + 1)) (nI_inc vm) (by decide) (lv' := [(2, .int (nI (vm + 1))), (0, .ref x), (1, .int (nI vb))]) rfl ?_
            refine v_goto X dX6_stuck_47 (tgt := 17) (by decide) ?_
            refine V.lvs [1, 2, 0] rfl ?_
            exact ih17 (vm + 1) vb (⟨by omega, by rw [hb]; exact (bbits_no (decide_eq_false h35)).symm⟩) (by omega)
          · refine v_iload_n X dX6_stuck_38 rfl 1 rfl ?_
            refine v_iconst X dX6_stuck_39 (v := nI 1) (by decide) ?_
            refine v_iload_n X dX6_stuck_40 rfl 2 rfl ?_
            refine v_ishl X dX6_stuck_41 ?_
            refine v_eqi (x' := nI (2 ^ vm)) (nI_shl1 (by omega)) ?_
            refine v_ior X dX6_stuck_42 ?_
            refine v_eqi (x' := nI (vb ||| (2 ^ vm))) (fa_or _ _) ?_
            refine v_istore_n X dX6_stuck_43 rfl (by decide) (lv' := [(1, .int (nI (vb ||| (2 ^ vm)))), (0, .ref x), (2, .int (nI vm))]) rfl ?_
            refine v_iinc X dX6_stuck_44 2 rfl (v := nI (vm + 1)) (nI_inc vm) (by decide) (lv' := [(2, .int (nI (vm + 1))), (1, .int (nI (vb ||| (2 ^ vm)))), (0, .ref x)]) rfl ?_
            refine v_goto X dX6_stuck_47 (tgt := 17) (by decide) ?_
            refine V.lvs [2, 1, 0] rfl ?_
            exact ih17 (vm + 1) (vb ||| (2 ^ vm)) (⟨by omega, by rw [hb]; exact (bbits_yes (decide_eq_true h35)).symm⟩) (by omega)
    refine V.lvs [2, 1, 0] rfl ?_
    exact L17 _ 0 0 (⟨by omega, rfl⟩) (Nat.lt_succ_self _)
  · refine v_aload_n X dX6_stuck_7 rfl 0 rfl ?_
    refine v_iconst X dX6_stuck_8 (v := nI 1) (by decide) ?_
    refine v_wrI1 X (rn_V X k_X6_refused ml_X6_74 dX6_stuck_9 (c_X6_refused l E x xa g tr fl pl 1 ) rfl 0 rfl rfl (by decide) (by decide) (by omega) (by omega) (Nat.le_of_ble_eq_true rfl)) [0] rfl rfl (ws' := [ob x 6 [.ref (xa 0), .ref g, .ref (xa 2), .ref (xa 3), .ref (xa 4), .ref (xa 5), .ref (xa 6), .ref (xa 7), .int (nI 1), .int (nI fl), .int pl], ob g 0 [.int (nI (cy 0)), .int (nI (cy 1)), .int (nI (cy 2)), .int (nI (cy 3)), .int (nI (cy 4)), .int (nI (cy 5)), .int (nI (cy 6)), .int (nI (cy 7)), .ref (ca 0), .ref (ca 1), .ref (ca 2), .ref (ca 3), .ref (ca 4), .ref (ca 5), .ref (ca 6), .ref (ca 7), .ref (ca 8), .ref (ca 9), .ref (ca 10), .ref (ca 11)], aM E (ca 5) 8 Fs, aM E (ca 6) 8 Ft, ob (xa 3) 2 [.ref hi, .ref hm, .int (nI t), .int (nI dd)], aN E hi 8 ink, aI E hm 8 mn]) rfl rfl ?_
    exact v_iret X Y dX6_stuck_12 (wrI_of (by rw [if_pos (of_decide_eq_true h4)]) ((if_pos (of_decide_eq_true h4)).symm)) (by omega) (by omega)
set_option maxRecDepth 100000 in
set_option maxHeartbeats 4000000 in
theorem c_X6_mostBound (l : Launch) (E : Et) (x : Nat) (xa : Nat → Nat) (g : Nat) (tr : Nat) (fl : Nat) (pl : Int32) (cy : Nat → Nat) (ca : Nat → Nat) (Fs : Nat → Nat) (Ft : Nat → Nat) (hi : Nat) (hm : Nat) (t : Nat) (dd : Nat) (ink : Nat → Nat) (mn : Nat → Int32) (hd : cy 4 ≤ 6) (hcl : cy 5 ≤ 8) (hmen : cy 3 ≤ 4) (ht : t < 256) (hink : ∀ c, ink c ≤ 40) : Ct l E yX6_mostBound cX6_mostBound 3 (some .int) 6 0 0 [.ref x] [ob x 6 [.ref (xa 0), .ref g, .ref (xa 2), .ref (xa 3), .ref (xa 4), .ref (xa 5), .ref (xa 6), .ref (xa 7), .int (nI tr), .int (nI fl), .int pl], ob g 0 [.int (nI (cy 0)), .int (nI (cy 1)), .int (nI (cy 2)), .int (nI (cy 3)), .int (nI (cy 4)), .int (nI (cy 5)), .int (nI (cy 6)), .int (nI (cy 7)), .ref (ca 0), .ref (ca 1), .ref (ca 2), .ref (ca 3), .ref (ca 4), .ref (ca 5), .ref (ca 6), .ref (ca 7), .ref (ca 8), .ref (ca 9), .ref (ca 10), .ref (ca 11)], aM E (ca 5) 8 Fs, aM E (ca 6) 8 Ft, ob (xa 3) 2 [.ref hi, .ref hm, .int (nI t), .int (nI dd)], aN E hi 8 ink, aI E hm 8 mn] (wrI [ob x 6 [.ref (xa 0), .ref g, .ref (xa 2), .ref (xa 3), .ref (xa 4), .ref (xa 5), .ref (xa 6), .ref (xa 7), .int (nI (if cy 3 = 0 then 1 else 0)), .int (nI fl), .int pl], ob g 0 [.int (nI (cy 0)), .int (nI (cy 1)), .int (nI (cy 2)), .int (nI (cy 3)), .int (nI (cy 4)), .int (nI (cy 5)), .int (nI (cy 6)), .int (nI (cy 7)), .ref (ca 0), .ref (ca 1), .ref (ca 2), .ref (ca 3), .ref (ca 4), .ref (ca 5), .ref (ca 6), .ref (ca 7), .ref (ca 8), .ref (ca 9), .ref (ca 10), .ref (ca 11)], aM E (ca 5) 8 Fs, aM E (ca 6) 8 Ft, ob (xa 3) 2 [.ref hi, .ref hm, .int (nI t), .int (nI dd)], aN E hi 8 ink, aI E hm 8 mn] (if cy 3 = 0 then (-1) else nI (mbF (fun m => pop64 (kpN cy Fs Ft t (bdN ink mn (nI m) 0))) (cy 3)))) := by
  refine Ct.intro (by decide +kernel) (Nat.le_of_ble_eq_true rfl) (lv := [(0, .ref x)]) rfl ?_
  intro Z X Y
  refine v_aload_n X dX6_mostBound_0 rfl 0 rfl ?_
  refine v_roI1 X (rn_V X k_X6_noCity ml_X6_168 dX6_mostBound_1 (c_X6_noCity l E x xa g tr fl pl cy ca (by first | assumption | omega)) rfl 0 rfl rfl (by decide) (by decide) (by omega) (by omega) (Nat.le_of_ble_eq_true rfl)) [0, 1] rfl rfl ?_
  refine v_ifB_eq X dX6_mostBound_4 (tgt := 13) (by decide) (fun h4 => ?_) (fun h4 => ?_)
  · refine v_iconst X dX6_mostBound_13 (v := nI 0) (by decide) ?_
    refine v_istore_n X dX6_mostBound_14 rfl (by decide) (lv' := [(1, .int (nI 0)), (0, .ref x)]) rfl ?_
    refine v_iconst X dX6_mostBound_15 (v := nI 1) (by decide) ?_
    refine v_istore_n X dX6_mostBound_16 rfl (by decide) (lv' := [(2, .int (nI 1)), (1, .int (nI 0)), (0, .ref x)]) rfl ?_
    have L17 : ∀ (j17 : Nat) (vm : Nat) (vb : Nat), (vm ≤ cy 3 ∧ vb = mbF (fun m => pop64 (kpN cy Fs Ft t (bdN ink mn (nI m) 0))) vm) → cy 3 - vm < j17 → V E Z 17 [(0, .ref x), (1, .int (nI vb)), (2, .int (nI vm))] [] [ob x 6 [.ref (xa 0), .ref g, .ref (xa 2), .ref (xa 3), .ref (xa 4), .ref (xa 5), .ref (xa 6), .ref (xa 7), .int (nI tr), .int (nI fl), .int pl], ob g 0 [.int (nI (cy 0)), .int (nI (cy 1)), .int (nI (cy 2)), .int (nI (cy 3)), .int (nI (cy 4)), .int (nI (cy 5)), .int (nI (cy 6)), .int (nI (cy 7)), .ref (ca 0), .ref (ca 1), .ref (ca 2), .ref (ca 3), .ref (ca 4), .ref (ca 5), .ref (ca 6), .ref (ca 7), .ref (ca 8), .ref (ca 9), .ref (ca 10), .ref (ca 11)], aM E (ca 5) 8 Fs, aM E (ca 6) 8 Ft, ob (xa 3) 2 [.ref hi, .ref hm, .int (nI t), .int (nI dd)], aN E hi 8 ink, aI E hm 8 mn] 0 0 := by
      intro j17
      induction j17 with
      | zero => intro vm vb hI hM; exact absurd hM (Nat.not_lt_zero _)
      | succ j17 ih17 =>
        intro vm vb hI17 hM17
        obtain ⟨hc, hb⟩ := id hI17
        refine v_iload_n X dX6_mostBound_17 rfl 2 rfl ?_
        refine v_aload_n X dX6_mostBound_18 rfl 0 rfl ?_
        refine v_get X kcX6 fl_X6_19 dX6_mostBound_19 0 rfl rfl ?_
        refine v_getN X kcX0 fl_X6_89 dX6_mostBound_22 1 rfl rfl ?_
        refine v_icmpN_ge X dX6_mostBound_25 (tgt := 55) (by decide) (by omega) (by omega) (fun h25 => ?_) (fun h25 => ?_)
        · refine v_aload_n X dX6_mostBound_55 rfl 0 rfl ?_
          refine v_iload_n X dX6_mostBound_56 rfl 1 rfl ?_
          refine v_wrI1 X (rn_V X k_X6_answered ml_X6_92 dX6_mostBound_57 (c_X6_answered l E x xa g tr fl pl (nI vb) ) rfl 0 rfl rfl (by decide) (by decide) (by omega) (by omega) (Nat.le_of_ble_eq_true rfl)) [0] rfl rfl (ws' := [ob x 6 [.ref (xa 0), .ref g, .ref (xa 2), .ref (xa 3), .ref (xa 4), .ref (xa 5), .ref (xa 6), .ref (xa 7), .int (nI 0), .int (nI fl), .int pl], ob g 0 [.int (nI (cy 0)), .int (nI (cy 1)), .int (nI (cy 2)), .int (nI (cy 3)), .int (nI (cy 4)), .int (nI (cy 5)), .int (nI (cy 6)), .int (nI (cy 7)), .ref (ca 0), .ref (ca 1), .ref (ca 2), .ref (ca 3), .ref (ca 4), .ref (ca 5), .ref (ca 6), .ref (ca 7), .ref (ca 8), .ref (ca 9), .ref (ca 10), .ref (ca 11)], aM E (ca 5) 8 Fs, aM E (ca 6) 8 Ft, ob (xa 3) 2 [.ref hi, .ref hm, .int (nI t), .int (nI dd)], aN E hi 8 ink, aI E hm 8 mn]) rfl rfl ?_
          exact v_iret X Y dX6_mostBound_60 (wrI_of (by rw [if_neg (of_decide_eq_false h4)]) (by rw [if_neg (of_decide_eq_false h4), show cy 3 = vm by omega, ← hb])) (by omega) (by omega)
        · refine v_aload_n X dX6_mostBound_28 rfl 0 rfl ?_
          refine v_iload_n X dX6_mostBound_29 rfl 2 rfl ?_
          refine v_roL1 X (rn_V X k_X6_waysOf ml_X6_141 dX6_mostBound_30 (c_X6_waysOf l E x xa g tr fl pl cy ca Fs Ft hi hm t dd ink mn (nI vm) (by first | assumption | omega) (by first | assumption | omega) (by first | assumption | omega) (by first | assumption | omega)) rfl 0 rfl rfl (by decide) (by decide) (by omega) (by omega) (Nat.le_of_ble_eq_true rfl)) [0, 1, 2, 3, 4, 5, 6] rfl rfl ?_
          refine v_roI1 X (rn_S X k_J13_bitCount_95d88 ml_X6_144 dX6_mostBound_33 (c_J13_bitCount_95d88 l E (kpN cy Fs Ft t (bdN ink mn (nI vm) 0)) (kpN_lt hd _ _ _ _)) rfl (by decide) (by decide) (by omega) (by omega) (Nat.le_of_ble_eq_true rfl)) [] rfl rfl ?_
          refine v_aload_n X dX6_mostBound_36 rfl 0 rfl ?_
          refine v_iload_n X dX6_mostBound_37 rfl 1 rfl ?_
          refine v_roL1 X (rn_V X k_X6_waysOf ml_X6_141 dX6_mostBound_38 (c_X6_waysOf l E x xa g tr fl pl cy ca Fs Ft hi hm t dd ink mn (nI vb) (by first | assumption | omega) (by first | assumption | omega) (by first | assumption | omega) (by first | assumption | omega)) rfl 0 rfl rfl (by decide) (by decide) (by omega) (by omega) (Nat.le_of_ble_eq_true rfl)) [0, 1, 2, 3, 4, 5, 6] rfl rfl ?_
          refine v_roI1 X (rn_S X k_J13_bitCount_95d88 ml_X6_144 dX6_mostBound_41 (c_J13_bitCount_95d88 l E (kpN cy Fs Ft t (bdN ink mn (nI vb) 0)) (kpN_lt hd _ _ _ _)) rfl (by decide) (by decide) (by omega) (by omega) (Nat.le_of_ble_eq_true rfl)) [] rfl rfl ?_
          refine v_icmpN_ge X dX6_mostBound_44 (tgt := 49) (by decide) (Nat.lt_of_le_of_lt (pop64_le _) (by decide)) (Nat.lt_of_le_of_lt (pop64_le _) (by decide)) (fun h44 => ?_) (fun h44 => ?_)
          · refine v_iinc X dX6_mostBound_49 2 rfl (v := nI (vm + 1)) (nI_inc vm) (by decide) (lv' := [(2, .int (nI (vm + 1))), (0, .ref x), (1, .int (nI vb))]) rfl ?_
            refine v_goto X dX6_mostBound_52 (tgt := 17) (by decide) ?_
            refine V.lvs [1, 2, 0] rfl ?_
            exact ih17 (vm + 1) vb (⟨by omega, by subst hb; exact (mbF_no (Nat.not_lt.mpr h44)).symm⟩) (by omega)
          · refine v_iload_n X dX6_mostBound_47 rfl 2 rfl ?_
            refine v_istore_n X dX6_mostBound_48 rfl (by decide) (lv' := [(1, .int (nI vm)), (0, .ref x), (2, .int (nI vm))]) rfl ?_
            refine v_iinc X dX6_mostBound_49 2 rfl (v := nI (vm + 1)) (nI_inc vm) (by decide) (lv' := [(2, .int (nI (vm + 1))), (1, .int (nI vm)), (0, .ref x)]) rfl ?_
            refine v_goto X dX6_mostBound_52 (tgt := 17) (by decide) ?_
            refine V.lvs [2, 1, 0] rfl ?_
            exact ih17 (vm + 1) vm (⟨by omega, by subst hb; exact (mbF_yes (Nat.not_le.mp h44)).symm⟩) (by omega)
    refine V.lvs [2, 1, 0] rfl ?_
    exact L17 _ 1 0 (⟨by have := of_decide_eq_false h4; omega, (mbF_1 _).symm⟩) (Nat.lt_succ_self _)
  · refine v_aload_n X dX6_mostBound_7 rfl 0 rfl ?_
    refine v_iconst X dX6_mostBound_8 (v := nI 1) (by decide) ?_
    refine v_wrI1 X (rn_V X k_X6_refused ml_X6_74 dX6_mostBound_9 (c_X6_refused l E x xa g tr fl pl 1 ) rfl 0 rfl rfl (by decide) (by decide) (by omega) (by omega) (Nat.le_of_ble_eq_true rfl)) [0] rfl rfl (ws' := [ob x 6 [.ref (xa 0), .ref g, .ref (xa 2), .ref (xa 3), .ref (xa 4), .ref (xa 5), .ref (xa 6), .ref (xa 7), .int (nI 1), .int (nI fl), .int pl], ob g 0 [.int (nI (cy 0)), .int (nI (cy 1)), .int (nI (cy 2)), .int (nI (cy 3)), .int (nI (cy 4)), .int (nI (cy 5)), .int (nI (cy 6)), .int (nI (cy 7)), .ref (ca 0), .ref (ca 1), .ref (ca 2), .ref (ca 3), .ref (ca 4), .ref (ca 5), .ref (ca 6), .ref (ca 7), .ref (ca 8), .ref (ca 9), .ref (ca 10), .ref (ca 11)], aM E (ca 5) 8 Fs, aM E (ca 6) 8 Ft, ob (xa 3) 2 [.ref hi, .ref hm, .int (nI t), .int (nI dd)], aN E hi 8 ink, aI E hm 8 mn]) rfl rfl ?_
    exact v_iret X Y dX6_mostBound_12 (wrI_of (by rw [if_pos (of_decide_eq_true h4)]) ((if_pos (of_decide_eq_true h4)).symm)) (by omega) (by omega)
set_option maxRecDepth 100000 in
set_option maxHeartbeats 4000000 in
theorem c_X6_together (l : Launch) (E : Et) (x : Nat) (xa : Nat → Nat) (g : Nat) (tr : Nat) (fl : Nat) (pl : Int32) (cy : Nat → Nat) (ca : Nat → Nat) (Fs : Nat → Nat) (Ft : Nat → Nat) (hi : Nat) (hm : Nat) (t : Nat) (dd : Nat) (ink : Nat → Nat) (mn : Nat → Int32) (hd : cy 4 ≤ 6) (hcl : cy 5 ≤ 8) (hmen : cy 3 ≤ 4) (ht : t < 256) (hink : ∀ c, ink c ≤ 40) : Ct l E yX6_together cX6_together 4 (some .int) 6 0 0 [.ref x] [ob x 6 [.ref (xa 0), .ref g, .ref (xa 2), .ref (xa 3), .ref (xa 4), .ref (xa 5), .ref (xa 6), .ref (xa 7), .int (nI tr), .int (nI fl), .int pl], ob g 0 [.int (nI (cy 0)), .int (nI (cy 1)), .int (nI (cy 2)), .int (nI (cy 3)), .int (nI (cy 4)), .int (nI (cy 5)), .int (nI (cy 6)), .int (nI (cy 7)), .ref (ca 0), .ref (ca 1), .ref (ca 2), .ref (ca 3), .ref (ca 4), .ref (ca 5), .ref (ca 6), .ref (ca 7), .ref (ca 8), .ref (ca 9), .ref (ca 10), .ref (ca 11)], aM E (ca 5) 8 Fs, aM E (ca 6) 8 Ft, ob (xa 3) 2 [.ref hi, .ref hm, .int (nI t), .int (nI dd)], aN E hi 8 ink, aI E hm 8 mn] (wrI [ob x 6 [.ref (xa 0), .ref g, .ref (xa 2), .ref (xa 3), .ref (xa 4), .ref (xa 5), .ref (xa 6), .ref (xa 7), .int (nI (if cy 3 = 0 then 1 else 0)), .int (nI fl), .int pl], ob g 0 [.int (nI (cy 0)), .int (nI (cy 1)), .int (nI (cy 2)), .int (nI (cy 3)), .int (nI (cy 4)), .int (nI (cy 5)), .int (nI (cy 6)), .int (nI (cy 7)), .ref (ca 0), .ref (ca 1), .ref (ca 2), .ref (ca 3), .ref (ca 4), .ref (ca 5), .ref (ca 6), .ref (ca 7), .ref (ca 8), .ref (ca 9), .ref (ca 10), .ref (ca 11)], aM E (ca 5) 8 Fs, aM E (ca 6) 8 Ft, ob (xa 3) 2 [.ref hi, .ref hm, .int (nI t), .int (nI dd)], aN E hi 8 ink, aI E hm 8 mn] (if cy 3 = 0 then (-1) else nI (togF (fun p => decide (ndf p (bbits (fun c => decide (0 < ink c)) 8) = 0 ∧ ¬ kpN cy Fs Ft t p = 0)) (bbits (fun c => decide (0 < ink c)) 8 + 1)))) := by
  refine Ct.intro (by decide +kernel) (Nat.le_of_ble_eq_true rfl) (lv := [(0, .ref x)]) rfl ?_
  intro Z X Y
  have hb256 : bbits (fun c => decide (0 < ink c)) 8 < 256 := bbits_lt _ 8
  refine v_aload_n X dX6_together_0 rfl 0 rfl ?_
  refine v_roI1 X (rn_V X k_X6_noCity ml_X6_168 dX6_together_1 (c_X6_noCity l E x xa g tr fl pl cy ca (by first | assumption | omega)) rfl 0 rfl rfl (by decide) (by decide) (by omega) (by omega) (Nat.le_of_ble_eq_true rfl)) [0, 1] rfl rfl ?_
  refine v_ifB_eq X dX6_together_4 (tgt := 13) (by decide) (fun h4 => ?_) (fun h4 => ?_)
  · refine v_aload_n X dX6_together_13 rfl 0 rfl ?_
    refine v_get X kcX6 fl_X6_30 dX6_together_14 0 rfl rfl ?_
    refine v_iconst X dX6_together_17 (v := nI 0) (by decide) ?_
    refine v_roI1 X (rn_VN X k_X2_binding ml_X6_182 dX6_together_18 (c_X2_binding l E (xa 3) hi hm t dd ink 0 (by first | assumption | omega) (by omega)) rfl 0 rfl rfl (by decide) (by decide) (by omega) (by omega) (Nat.le_of_ble_eq_true rfl)) [4, 5] rfl rfl ?_
    refine v_istore_n X dX6_together_21 rfl (by decide) (lv' := [(1, .int (nI (bbits (fun c => decide (0 < ink c)) 8))), (0, .ref x)]) rfl ?_
    refine v_iconst X dX6_together_22 (v := nI 0) (by decide) ?_
    refine v_istore_n X dX6_together_23 rfl (by decide) (lv' := [(2, .int (nI 0)), (1, .int (nI (bbits (fun c => decide (0 < ink c)) 8))), (0, .ref x)]) rfl ?_
    refine v_iconst X dX6_together_24 (v := nI 0) (by decide) ?_
    refine v_istore_n X dX6_together_25 rfl (by decide) (lv' := [(3, .int (nI 0)), (2, .int (nI 0)), (1, .int (nI (bbits (fun c => decide (0 < ink c)) 8))), (0, .ref x)]) rfl ?_
    have L26 : ∀ (j26 : Nat) (vp : Nat) (vb : Nat), (vp ≤ bbits (fun c => decide (0 < ink c)) 8 + 1 ∧ vb = togF (fun p => decide (ndf p (bbits (fun c => decide (0 < ink c)) 8) = 0 ∧ ¬ kpN cy Fs Ft t p = 0)) vp) → bbits (fun c => decide (0 < ink c)) 8 + 1 - vp < j26 → V E Z 26 [(0, .ref x), (1, .int (nI (bbits (fun c => decide (0 < ink c)) 8))), (2, .int (nI vb)), (3, .int (nI vp))] [] [ob x 6 [.ref (xa 0), .ref g, .ref (xa 2), .ref (xa 3), .ref (xa 4), .ref (xa 5), .ref (xa 6), .ref (xa 7), .int (nI tr), .int (nI fl), .int pl], ob g 0 [.int (nI (cy 0)), .int (nI (cy 1)), .int (nI (cy 2)), .int (nI (cy 3)), .int (nI (cy 4)), .int (nI (cy 5)), .int (nI (cy 6)), .int (nI (cy 7)), .ref (ca 0), .ref (ca 1), .ref (ca 2), .ref (ca 3), .ref (ca 4), .ref (ca 5), .ref (ca 6), .ref (ca 7), .ref (ca 8), .ref (ca 9), .ref (ca 10), .ref (ca 11)], aM E (ca 5) 8 Fs, aM E (ca 6) 8 Ft, ob (xa 3) 2 [.ref hi, .ref hm, .int (nI t), .int (nI dd)], aN E hi 8 ink, aI E hm 8 mn] 0 0 := by
      intro j26
      induction j26 with
      | zero => intro vp vb hI hM; exact absurd hM (Nat.not_lt_zero _)
      | succ j26 ih26 =>
        intro vp vb hI26 hM26
        obtain ⟨hc, hb⟩ := id hI26
        refine v_iload_n X dX6_together_26 rfl 3 rfl ?_
        refine v_iload_n X dX6_together_27 rfl 1 rfl ?_
        refine v_icmpN_gt X dX6_together_28 (tgt := 68) (by decide) (by omega) (by omega) (fun h28 => ?_) (fun h28 => ?_)
        · refine v_aload_n X dX6_together_68 rfl 0 rfl ?_
          refine v_iload_n X dX6_together_69 rfl 2 rfl ?_
          refine v_wrI1 X (rn_V X k_X6_answered ml_X6_92 dX6_together_70 (c_X6_answered l E x xa g tr fl pl (nI vb) ) rfl 0 rfl rfl (by decide) (by decide) (by omega) (by omega) (Nat.le_of_ble_eq_true rfl)) [0] rfl rfl (ws' := [ob x 6 [.ref (xa 0), .ref g, .ref (xa 2), .ref (xa 3), .ref (xa 4), .ref (xa 5), .ref (xa 6), .ref (xa 7), .int (nI 0), .int (nI fl), .int pl], ob g 0 [.int (nI (cy 0)), .int (nI (cy 1)), .int (nI (cy 2)), .int (nI (cy 3)), .int (nI (cy 4)), .int (nI (cy 5)), .int (nI (cy 6)), .int (nI (cy 7)), .ref (ca 0), .ref (ca 1), .ref (ca 2), .ref (ca 3), .ref (ca 4), .ref (ca 5), .ref (ca 6), .ref (ca 7), .ref (ca 8), .ref (ca 9), .ref (ca 10), .ref (ca 11)], aM E (ca 5) 8 Fs, aM E (ca 6) 8 Ft, ob (xa 3) 2 [.ref hi, .ref hm, .int (nI t), .int (nI dd)], aN E hi 8 ink, aI E hm 8 mn]) rfl rfl ?_
          exact v_iret X Y dX6_together_73 (wrI_of (by rw [if_neg (of_decide_eq_false h4)]) (by rw [if_neg (of_decide_eq_false h4), show bbits (fun c => decide (0 < ink c)) 8 + 1 = vp by omega, ← hb])) (by omega) (by omega)
        · have hvb : vb ≤ vp := by rw [hb]; exact togF_le
          refine v_iload_n X dX6_together_31 rfl 3 rfl ?_
          refine v_iload_n X dX6_together_32 rfl 1 rfl ?_
          refine v_roI1 X (rn_S X k_X6_isPart ml_X6_172 dX6_together_33 (c_X6_isPart l E vp (bbits (fun c => decide (0 < ink c)) 8) (by omega)) rfl (by decide) (by decide) (by omega) (by omega) (Nat.le_of_ble_eq_true rfl)) [] rfl rfl ?_
          refine v_ifB_eq X dX6_together_36 (tgt := 62) (by decide) (fun h36 => ?_) (fun h36 => ?_)
          · refine v_iinc X dX6_together_62 3 rfl (v := nI (vp + 1)) (nI_inc vp) (by decide) (lv' := [(3, .int (nI (vp + 1))), (0, .ref x), (1, .int (nI (bbits (fun c => decide (0 < ink c)) 8))), (2, .int (nI vb))]) rfl ?_
            refine v_goto X dX6_together_65 (tgt := 26) (by decide) ?_
            refine V.lvs [1, 2, 3, 0] rfl ?_
            exact ih26 (vp + 1) vb (⟨by omega, by rw [hb]; exact (togF_no (Or.inl (decide_eq_false (fun q => of_decide_eq_false h36 q.1)))).symm⟩) (by omega)
          · refine v_iload_n X dX6_together_39 rfl 3 rfl ?_
            refine v_roI1 X (rn_S X k_J6_bitCount_0f7a4 ml_X6_164 dX6_together_40 (c_J6_bitCount_0f7a4 l E vp (by omega)) rfl (by decide) (by decide) (by omega) (by omega) (Nat.le_of_ble_eq_true rfl)) [] rfl rfl ?_
            refine v_iload_n X dX6_together_43 rfl 2 rfl ?_
            refine v_roI1 X (rn_S X k_J6_bitCount_0f7a4 ml_X6_164 dX6_together_44 (c_J6_bitCount_0f7a4 l E vb (by omega)) rfl (by decide) (by decide) (by omega) (by omega) (Nat.le_of_ble_eq_true rfl)) [] rfl rfl ?_
            refine v_icmpN_le X dX6_together_47 (tgt := 62) (by decide) (Nat.lt_of_le_of_lt (cnt_le _ _) (by decide)) (Nat.lt_of_le_of_lt (cnt_le _ _) (by decide)) (fun h47 => ?_) (fun h47 => ?_)
            · refine v_iinc X dX6_together_62 3 rfl (v := nI (vp + 1)) (nI_inc vp) (by decide) (lv' := [(3, .int (nI (vp + 1))), (0, .ref x), (1, .int (nI (bbits (fun c => decide (0 < ink c)) 8))), (2, .int (nI vb))]) rfl ?_
              refine v_goto X dX6_together_65 (tgt := 26) (by decide) ?_
              refine V.lvs [1, 2, 3, 0] rfl ?_
              exact ih26 (vp + 1) vb (⟨by omega, by subst hb; exact (togF_no (Or.inr (Nat.not_lt.mpr h47))).symm⟩) (by omega)
            · refine v_aload_n X dX6_together_50 rfl 0 rfl ?_
              refine v_iload_n X dX6_together_51 rfl 3 rfl ?_
              refine v_roL1 X (rn_V X k_X6_setsUnder ml_X6_133 dX6_together_52 (c_X6_setsUnder l E x xa g tr fl pl cy ca Fs Ft hi hm t dd ink mn vp (by first | assumption | omega) (by first | assumption | omega) (by first | assumption | omega) (by omega)) rfl 0 rfl rfl (by decide) (by decide) (by omega) (by omega) (Nat.le_of_ble_eq_true rfl)) [0, 1, 2, 3, 4, 5, 6] rfl rfl ?_
              refine v_lconst X dX6_together_55 (v := lN 0) (by decide) ?_
              refine v_lcmp X dX6_together_56 ?_
              refine v_ifLN_eq X dX6_together_57 (tgt := 62) (by decide) (kpN_lt hd _ _ _ _) (by decide) (fun h57 => ?_) (fun h57 => ?_)
              · refine v_iinc X dX6_together_62 3 rfl (v := nI (vp + 1)) (nI_inc vp) (by decide) (lv' := [(3, .int (nI (vp + 1))), (0, .ref x), (1, .int (nI (bbits (fun c => decide (0 < ink c)) 8))), (2, .int (nI vb))]) rfl ?_
                refine v_goto X dX6_together_65 (tgt := 26) (by decide) ?_
                refine V.lvs [1, 2, 3, 0] rfl ?_
                exact ih26 (vp + 1) vb (⟨by omega, by rw [hb]; exact (togF_no (Or.inl (decide_eq_false (fun q => q.2 h57)))).symm⟩) (by omega)
              · refine v_iload_n X dX6_together_60 rfl 3 rfl ?_
                refine v_istore_n X dX6_together_61 rfl (by decide) (lv' := [(2, .int (nI vp)), (0, .ref x), (1, .int (nI (bbits (fun c => decide (0 < ink c)) 8))), (3, .int (nI vp))]) rfl ?_
                refine v_iinc X dX6_together_62 3 rfl (v := nI (vp + 1)) (nI_inc vp) (by decide) (lv' := [(3, .int (nI (vp + 1))), (2, .int (nI vp)), (0, .ref x), (1, .int (nI (bbits (fun c => decide (0 < ink c)) 8)))]) rfl ?_
                refine v_goto X dX6_together_65 (tgt := 26) (by decide) ?_
                refine V.lvs [2, 3, 1, 0] rfl ?_
                exact ih26 (vp + 1) vp (⟨by omega, by subst hb; exact (togF_yes (decide_eq_true ⟨of_decide_eq_true h36, h57⟩) (Nat.not_le.mp h47)).symm⟩) (by omega)
    refine V.lvs [3, 2, 1, 0] rfl ?_
    exact L26 _ 0 0 (⟨by omega, rfl⟩) (Nat.lt_succ_self _)
  · refine v_aload_n X dX6_together_7 rfl 0 rfl ?_
    refine v_iconst X dX6_together_8 (v := nI 1) (by decide) ?_
    refine v_wrI1 X (rn_V X k_X6_refused ml_X6_74 dX6_together_9 (c_X6_refused l E x xa g tr fl pl 1 ) rfl 0 rfl rfl (by decide) (by decide) (by omega) (by omega) (Nat.le_of_ble_eq_true rfl)) [0] rfl rfl (ws' := [ob x 6 [.ref (xa 0), .ref g, .ref (xa 2), .ref (xa 3), .ref (xa 4), .ref (xa 5), .ref (xa 6), .ref (xa 7), .int (nI 1), .int (nI fl), .int pl], ob g 0 [.int (nI (cy 0)), .int (nI (cy 1)), .int (nI (cy 2)), .int (nI (cy 3)), .int (nI (cy 4)), .int (nI (cy 5)), .int (nI (cy 6)), .int (nI (cy 7)), .ref (ca 0), .ref (ca 1), .ref (ca 2), .ref (ca 3), .ref (ca 4), .ref (ca 5), .ref (ca 6), .ref (ca 7), .ref (ca 8), .ref (ca 9), .ref (ca 10), .ref (ca 11)], aM E (ca 5) 8 Fs, aM E (ca 6) 8 Ft, ob (xa 3) 2 [.ref hi, .ref hm, .int (nI t), .int (nI dd)], aN E hi 8 ink, aI E hm 8 mn]) rfl rfl ?_
    exact v_iret X Y dX6_together_12 (wrI_of (by rw [if_pos (of_decide_eq_true h4)]) ((if_pos (of_decide_eq_true h4)).symm)) (by omega) (by omega)
set_option maxRecDepth 100000 in
set_option maxHeartbeats 4000000 in
theorem c_X6_askedOne (l : Launch) (E : Et) (x : Nat) (xa : Nat → Nat) (g : Nat) (tr : Nat) (fl : Nat) (pl : Int32) (cy : Nat → Nat) (ca : Nat → Nat) (hw : Nat) (wt : Nat → Nat) (hu : cy 6 ≤ 5) (hwt : ∀ s, wt s < 2 ^ 62) : Ct l E yX6_askedOne cX6_askedOne 3 (some .int) 2 0 0 [.ref x] [ob x 6 [.ref (xa 0), .ref g, .ref (xa 2), .ref (xa 3), .ref (xa 4), .ref (xa 5), .ref (xa 6), .ref (xa 7), .int (nI tr), .int (nI fl), .int pl], ob g 0 [.int (nI (cy 0)), .int (nI (cy 1)), .int (nI (cy 2)), .int (nI (cy 3)), .int (nI (cy 4)), .int (nI (cy 5)), .int (nI (cy 6)), .int (nI (cy 7)), .ref (ca 0), .ref (ca 1), .ref (ca 2), .ref (ca 3), .ref (ca 4), .ref (ca 5), .ref (ca 6), .ref (ca 7), .ref (ca 8), .ref (ca 9), .ref (ca 10), .ref (ca 11)], ob (xa 6) 1 [.ref hw], aM E hw 32 wt] (roI [ob x 6 [.ref (xa 0), .ref g, .ref (xa 2), .ref (xa 3), .ref (xa 4), .ref (xa 5), .ref (xa 6), .ref (xa 7), .int (nI tr), .int (nI fl), .int pl], ob g 0 [.int (nI (cy 0)), .int (nI (cy 1)), .int (nI (cy 2)), .int (nI (cy 3)), .int (nI (cy 4)), .int (nI (cy 5)), .int (nI (cy 6)), .int (nI (cy 7)), .ref (ca 0), .ref (ca 1), .ref (ca 2), .ref (ca 3), .ref (ca 4), .ref (ca 5), .ref (ca 6), .ref (ca 7), .ref (ca 8), .ref (ca 9), .ref (ca 10), .ref (ca 11)], ob (xa 6) 1 [.ref hw], aM E hw 32 wt] (optI (askA wt (cy 6)))) := by
  refine Ct.intro (by decide +kernel) (Nat.le_of_ble_eq_true rfl) (lv := [(0, .ref x)]) rfl ?_
  intro Z X Y
  refine v_bipush X dX6_askedOne_0 (v := (-2)) (by decide) ?_
  refine v_istore_n X dX6_askedOne_2 rfl (by decide) (lv' := [(1, .int (-2)), (0, .ref x)]) rfl ?_
  refine v_iconst X dX6_askedOne_3 (v := nI 0) (by decide) ?_
  refine v_istore_n X dX6_askedOne_4 rfl (by decide) (lv' := [(2, .int (nI 0)), (1, .int (-2)), (0, .ref x)]) rfl ?_
  have L5 : ∀ (j5 : Nat) (vk : Nat) (vo : Option Nat), (vk ≤ cy 6 ∧ vo = askA wt vk ∧ ∀ q, vo = some q → q < vk) → cy 6 - vk < j5 → V E Z 5 [(0, .ref x), (1, .int (optI vo)), (2, .int (nI vk))] [] [ob x 6 [.ref (xa 0), .ref g, .ref (xa 2), .ref (xa 3), .ref (xa 4), .ref (xa 5), .ref (xa 6), .ref (xa 7), .int (nI tr), .int (nI fl), .int pl], ob g 0 [.int (nI (cy 0)), .int (nI (cy 1)), .int (nI (cy 2)), .int (nI (cy 3)), .int (nI (cy 4)), .int (nI (cy 5)), .int (nI (cy 6)), .int (nI (cy 7)), .ref (ca 0), .ref (ca 1), .ref (ca 2), .ref (ca 3), .ref (ca 4), .ref (ca 5), .ref (ca 6), .ref (ca 7), .ref (ca 8), .ref (ca 9), .ref (ca 10), .ref (ca 11)], ob (xa 6) 1 [.ref hw], aM E hw 32 wt] 0 0 := by
    intro j5
    induction j5 with
    | zero => intro vk vo hI hM; exact absurd hM (Nat.not_lt_zero _)
    | succ j5 ih5 =>
      intro vk vo hI5 hM5
      obtain ⟨hc, ho, hq9⟩ := id hI5
      rcases vo with _ | vq
      · refine V.cast (lv' := [(0, .ref x), (1, .int (-2)), (2, .int (nI vk))]) rfl rfl rfl ?_
        refine v_iload_n X dX6_askedOne_5 rfl 2 rfl ?_
        refine v_aload_n X dX6_askedOne_6 rfl 0 rfl ?_
        refine v_get X kcX6 fl_X6_19 dX6_askedOne_7 0 rfl rfl ?_
        refine v_getN X kcX0 fl_X6_204 dX6_askedOne_10 1 rfl rfl ?_
        refine v_icmpN_ge X dX6_askedOne_13 (tgt := 61) (by decide) (by omega) (by omega) (fun h13 => ?_) (fun h13 => ?_)
        · refine v_iload_n X dX6_askedOne_61 rfl 1 rfl ?_
          exact v_iret X Y dX6_askedOne_62 (roI_of (by rw [show cy 6 = vk by omega, ← ho]; rfl)) (by omega) (by omega)
        · refine v_aload_n X dX6_askedOne_16 rfl 0 rfl ?_
          refine v_get X kcX6 fl_X6_46 dX6_askedOne_17 0 rfl rfl ?_
          refine v_roL1 X (rn_VN X k_X1_fitting ml_X6_200 dX6_askedOne_20 (c_X1_fitting l E (xa 6) hw wt (by first | assumption | omega)) rfl 0 rfl rfl (by decide) (by decide) (by omega) (by omega) (Nat.le_of_ble_eq_true rfl)) [2, 3] rfl rfl ?_
          refine v_lconst X dX6_askedOne_23 (v := lN 0) (by decide) ?_
          refine v_lcmp X dX6_askedOne_24 ?_
          refine v_ifLN_eq X dX6_askedOne_25 (tgt := 55) (by decide) (fitN_lt wt) (by decide) (fun h25 => ?_) (fun h25 => ?_)
          · refine v_iinc X dX6_askedOne_55 2 rfl (v := nI (vk + 1)) (nI_inc vk) (by decide) (lv' := [(2, .int (nI (vk + 1))), (0, .ref x), (1, .int (-2))]) rfl ?_
            refine v_goto X dX6_askedOne_58 (tgt := 5) (by decide) ?_
            refine V.lvs [1, 2, 0] rfl ?_
            exact ih5 (vk + 1) none (⟨by omega, askA_s0 ho h25, fun q h => by have := hq9 q h; omega⟩) (by omega)
          · refine v_iload_n X dX6_askedOne_28 rfl 1 rfl ?_
            refine v_bipush X dX6_askedOne_29 (v := (-2)) (by decide) ?_
            refine v_icmp_eq X dX6_askedOne_31 (tgt := 53) (by decide) (fun h31 => ?_) (fun h31 => ?_)
            · refine v_iload_n X dX6_askedOne_53 rfl 2 rfl ?_
              refine v_istore_n X dX6_askedOne_54 rfl (by decide) (lv' := [(1, .int (nI vk)), (0, .ref x), (2, .int (nI vk))]) rfl ?_
              refine v_iinc X dX6_askedOne_55 2 rfl (v := nI (vk + 1)) (nI_inc vk) (by decide) (lv' := [(2, .int (nI (vk + 1))), (1, .int (nI vk)), (0, .ref x)]) rfl ?_
              refine v_goto X dX6_askedOne_58 (tgt := 5) (by decide) ?_
              refine V.lvs [2, 1, 0] rfl ?_
              exact ih5 (vk + 1) (some vk) (⟨by omega, askA_s1 ho h25, fun q h => by cases h; omega⟩) (by omega)
            · exact absurd rfl h31
      · have hvq : vq < 5 := by have := hq9 vq rfl; omega
        refine V.cast (lv' := [(0, .ref x), (1, .int (nI vq)), (2, .int (nI vk))]) rfl rfl rfl ?_
        refine v_iload_n X dX6_askedOne_5 rfl 2 rfl ?_
        refine v_aload_n X dX6_askedOne_6 rfl 0 rfl ?_
        refine v_get X kcX6 fl_X6_19 dX6_askedOne_7 0 rfl rfl ?_
        refine v_getN X kcX0 fl_X6_204 dX6_askedOne_10 1 rfl rfl ?_
        refine v_icmpN_ge X dX6_askedOne_13 (tgt := 61) (by decide) (by omega) (by omega) (fun h13 => ?_) (fun h13 => ?_)
        · refine v_iload_n X dX6_askedOne_61 rfl 1 rfl ?_
          exact v_iret X Y dX6_askedOne_62 (roI_of (by rw [show cy 6 = vk by omega, ← ho]; rfl)) (by omega) (by omega)
        · refine v_aload_n X dX6_askedOne_16 rfl 0 rfl ?_
          refine v_get X kcX6 fl_X6_46 dX6_askedOne_17 0 rfl rfl ?_
          refine v_roL1 X (rn_VN X k_X1_fitting ml_X6_200 dX6_askedOne_20 (c_X1_fitting l E (xa 6) hw wt (by first | assumption | omega)) rfl 0 rfl rfl (by decide) (by decide) (by omega) (by omega) (Nat.le_of_ble_eq_true rfl)) [2, 3] rfl rfl ?_
          refine v_lconst X dX6_askedOne_23 (v := lN 0) (by decide) ?_
          refine v_lcmp X dX6_askedOne_24 ?_
          refine v_ifLN_eq X dX6_askedOne_25 (tgt := 55) (by decide) (fitN_lt wt) (by decide) (fun h25 => ?_) (fun h25 => ?_)
          · refine v_iinc X dX6_askedOne_55 2 rfl (v := nI (vk + 1)) (nI_inc vk) (by decide) (lv' := [(2, .int (nI (vk + 1))), (0, .ref x), (1, .int (nI vq))]) rfl ?_
            refine v_goto X dX6_askedOne_58 (tgt := 5) (by decide) ?_
            refine V.lvs [1, 2, 0] rfl ?_
            exact ih5 (vk + 1) (some vq) (⟨by omega, askA_s0 ho h25, fun q h => by have := hq9 q h; omega⟩) (by omega)
          · refine v_iload_n X dX6_askedOne_28 rfl 1 rfl ?_
            refine v_bipush X dX6_askedOne_29 (v := (-2)) (by decide) ?_
            refine v_icmp_eq X dX6_askedOne_31 (tgt := 53) (by decide) (fun h31 => ?_) (fun h31 => ?_)
            · exact (nm2 h31 (by omega)).elim
            · refine v_aload_n X dX6_askedOne_34 rfl 0 rfl ?_
              refine v_get X kcX6 fl_X6_46 dX6_askedOne_35 0 rfl rfl ?_
              refine v_iload_n X dX6_askedOne_38 rfl 2 rfl ?_
              refine v_roI1 X (rn_VN X k_X1_leftAtMost ml_X6_220 dX6_askedOne_39 (c_X1_leftAtMost l E (xa 6) hw wt vk (by first | assumption | omega) (by first | assumption | omega)) rfl 0 rfl rfl (by decide) (by decide) (by omega) (by omega) (Nat.le_of_ble_eq_true rfl)) [2, 3] rfl rfl ?_
              refine v_aload_n X dX6_askedOne_42 rfl 0 rfl ?_
              refine v_get X kcX6 fl_X6_46 dX6_askedOne_43 0 rfl rfl ?_
              refine v_iload_n X dX6_askedOne_46 rfl 1 rfl ?_
              refine v_roI1 X (rn_VN X k_X1_leftAtMost ml_X6_220 dX6_askedOne_47 (c_X1_leftAtMost l E (xa 6) hw wt vq (by first | assumption | omega) (by first | assumption | omega)) rfl 0 rfl rfl (by decide) (by decide) (by omega) (by omega) (Nat.le_of_ble_eq_true rfl)) [2, 3] rfl rfl ?_
              refine v_icmpN_ge X dX6_askedOne_50 (tgt := 55) (by decide) (Nat.lt_of_le_of_lt (lam_le wt _) (by decide)) (Nat.lt_of_le_of_lt (lam_le wt _) (by decide)) (fun h50 => ?_) (fun h50 => ?_)
              · refine v_iinc X dX6_askedOne_55 2 rfl (v := nI (vk + 1)) (nI_inc vk) (by decide) (lv' := [(2, .int (nI (vk + 1))), (0, .ref x), (1, .int (nI vq))]) rfl ?_
                refine v_goto X dX6_askedOne_58 (tgt := 5) (by decide) ?_
                refine V.lvs [1, 2, 0] rfl ?_
                exact ih5 (vk + 1) (some vq) (⟨by omega, askA_s3 ho h25 (Nat.not_lt.mpr h50), fun q h => by have := hq9 q h; omega⟩) (by omega)
              · refine v_iload_n X dX6_askedOne_53 rfl 2 rfl ?_
                refine v_istore_n X dX6_askedOne_54 rfl (by decide) (lv' := [(1, .int (nI vk)), (0, .ref x), (2, .int (nI vk))]) rfl ?_
                refine v_iinc X dX6_askedOne_55 2 rfl (v := nI (vk + 1)) (nI_inc vk) (by decide) (lv' := [(2, .int (nI (vk + 1))), (1, .int (nI vk)), (0, .ref x)]) rfl ?_
                refine v_goto X dX6_askedOne_58 (tgt := 5) (by decide) ?_
                refine V.lvs [2, 1, 0] rfl ?_
                exact ih5 (vk + 1) (some vk) (⟨by omega, askA_s2 ho h25 (Nat.not_le.mp h50), fun q h => by cases h; omega⟩) (by omega)
  refine V.lvs [2, 1, 0] rfl ?_
  exact L5 _ 0 none (⟨by omega, by unfold askA; split <;> rfl, fun q h => by cases h⟩) (Nat.lt_succ_self _)
set_option maxRecDepth 100000 in
set_option maxHeartbeats 4000000 in
theorem c_X6_fits (l : Launch) (E : Et) (x : Nat) (xa : Nat → Nat) (g : Nat) (tr : Nat) (fl : Nat) (pl : Int32) (cy : Nat → Nat) (ca : Nat → Nat) (hw : Nat) (wt : Nat → Nat) (hmen : cy 3 ≤ 4) (hwt : ∀ s, wt s ≤ 1000000000000) : Ct l E yX6_fits cX6_fits 1 (some .int) 6 0 0 [.ref x] [ob x 6 [.ref (xa 0), .ref g, .ref (xa 2), .ref (xa 3), .ref (xa 4), .ref (xa 5), .ref (xa 6), .ref (xa 7), .int (nI tr), .int (nI fl), .int pl], ob g 0 [.int (nI (cy 0)), .int (nI (cy 1)), .int (nI (cy 2)), .int (nI (cy 3)), .int (nI (cy 4)), .int (nI (cy 5)), .int (nI (cy 6)), .int (nI (cy 7)), .ref (ca 0), .ref (ca 1), .ref (ca 2), .ref (ca 3), .ref (ca 4), .ref (ca 5), .ref (ca 6), .ref (ca 7), .ref (ca 8), .ref (ca 9), .ref (ca 10), .ref (ca 11)], ob (xa 6) 1 [.ref hw], aM E hw 32 wt] (wrI [ob x 6 [.ref (xa 0), .ref g, .ref (xa 2), .ref (xa 3), .ref (xa 4), .ref (xa 5), .ref (xa 6), .ref (xa 7), .int (nI (if cy 3 = 0 then 1 else 0)), .int (nI fl), .int pl], ob g 0 [.int (nI (cy 0)), .int (nI (cy 1)), .int (nI (cy 2)), .int (nI (cy 3)), .int (nI (cy 4)), .int (nI (cy 5)), .int (nI (cy 6)), .int (nI (cy 7)), .ref (ca 0), .ref (ca 1), .ref (ca 2), .ref (ca 3), .ref (ca 4), .ref (ca 5), .ref (ca 6), .ref (ca 7), .ref (ca 8), .ref (ca 9), .ref (ca 10), .ref (ca 11)], ob (xa 6) 1 [.ref hw], aM E hw 32 wt] (if cy 3 = 0 then (-1) else nI (pop64 (fitN wt)))) := by
  refine Ct.intro (by decide +kernel) (Nat.le_of_ble_eq_true rfl) (lv := [(0, .ref x)]) rfl ?_
  intro Z X Y
  refine v_aload_n X dX6_fits_0 rfl 0 rfl ?_
  refine v_roI1 X (rn_V X k_X6_noCity ml_X6_168 dX6_fits_1 (c_X6_noCity l E x xa g tr fl pl cy ca (by first | assumption | omega)) rfl 0 rfl rfl (by decide) (by decide) (by omega) (by omega) (Nat.le_of_ble_eq_true rfl)) [0, 1] rfl rfl ?_
  refine v_ifB_eq X dX6_fits_4 (tgt := 13) (by decide) (fun h4 => ?_) (fun h4 => ?_)
  · refine v_aload_n X dX6_fits_13 rfl 0 rfl ?_
    refine v_aload_n X dX6_fits_14 rfl 0 rfl ?_
    refine v_get X kcX6 fl_X6_46 dX6_fits_15 0 rfl rfl ?_
    refine v_roL1 X (rn_VN X k_X1_fitting ml_X6_200 dX6_fits_18 (c_X1_fitting l E (xa 6) hw wt (wt62 hwt)) rfl 0 rfl rfl (by decide) (by decide) (by omega) (by omega) (Nat.le_of_ble_eq_true rfl)) [2, 3] rfl rfl ?_
    refine v_roI1 X (rn_S X k_J13_bitCount_95d88 ml_X6_144 dX6_fits_21 (c_J13_bitCount_95d88 l E (bbits (fun s => decide (0 < wt s)) 32) (fitN_lt wt)) rfl (by decide) (by decide) (by omega) (by omega) (Nat.le_of_ble_eq_true rfl)) [] rfl rfl ?_
    refine v_wrI1 X (rn_V X k_X6_answered ml_X6_92 dX6_fits_24 (c_X6_answered l E x xa g tr fl pl (nI (cnt (fun k => (bbits (fun s => decide (0 < wt s)) 32).testBit k) 64)) ) rfl 0 rfl rfl (by decide) (by decide) (by omega) (by omega) (Nat.le_of_ble_eq_true rfl)) [0] rfl rfl (ws' := [ob x 6 [.ref (xa 0), .ref g, .ref (xa 2), .ref (xa 3), .ref (xa 4), .ref (xa 5), .ref (xa 6), .ref (xa 7), .int (nI 0), .int (nI fl), .int pl], ob g 0 [.int (nI (cy 0)), .int (nI (cy 1)), .int (nI (cy 2)), .int (nI (cy 3)), .int (nI (cy 4)), .int (nI (cy 5)), .int (nI (cy 6)), .int (nI (cy 7)), .ref (ca 0), .ref (ca 1), .ref (ca 2), .ref (ca 3), .ref (ca 4), .ref (ca 5), .ref (ca 6), .ref (ca 7), .ref (ca 8), .ref (ca 9), .ref (ca 10), .ref (ca 11)], ob (xa 6) 1 [.ref hw], aM E hw 32 wt]) rfl rfl ?_
    exact v_iret X Y dX6_fits_27 (wrI_of (by rw [if_neg (of_decide_eq_false h4)]) ((if_neg (of_decide_eq_false h4)).symm)) (by omega) (by omega)
  · refine v_aload_n X dX6_fits_7 rfl 0 rfl ?_
    refine v_iconst X dX6_fits_8 (v := nI 1) (by decide) ?_
    refine v_wrI1 X (rn_V X k_X6_refused ml_X6_74 dX6_fits_9 (c_X6_refused l E x xa g tr fl pl 1 ) rfl 0 rfl rfl (by decide) (by decide) (by omega) (by omega) (Nat.le_of_ble_eq_true rfl)) [0] rfl rfl (ws' := [ob x 6 [.ref (xa 0), .ref g, .ref (xa 2), .ref (xa 3), .ref (xa 4), .ref (xa 5), .ref (xa 6), .ref (xa 7), .int (nI 1), .int (nI fl), .int pl], ob g 0 [.int (nI (cy 0)), .int (nI (cy 1)), .int (nI (cy 2)), .int (nI (cy 3)), .int (nI (cy 4)), .int (nI (cy 5)), .int (nI (cy 6)), .int (nI (cy 7)), .ref (ca 0), .ref (ca 1), .ref (ca 2), .ref (ca 3), .ref (ca 4), .ref (ca 5), .ref (ca 6), .ref (ca 7), .ref (ca 8), .ref (ca 9), .ref (ca 10), .ref (ca 11)], ob (xa 6) 1 [.ref hw], aM E hw 32 wt]) rfl rfl ?_
    exact v_iret X Y dX6_fits_12 (wrI_of (by rw [if_pos (of_decide_eq_true h4)]) ((if_pos (of_decide_eq_true h4)).symm)) (by omega) (by omega)
set_option maxRecDepth 100000 in
set_option maxHeartbeats 4000000 in
theorem c_X6_likeliest (l : Launch) (E : Et) (x : Nat) (xa : Nat → Nat) (g : Nat) (tr : Nat) (fl : Nat) (pl : Int32) (cy : Nat → Nat) (ca : Nat → Nat) (hw : Nat) (wt : Nat → Nat) (hmen : cy 3 ≤ 4) (hwt : ∀ s, wt s ≤ 1000000000000) : Ct l E yX6_likeliest cX6_likeliest 1 (some .int) 6 0 0 [.ref x] [ob x 6 [.ref (xa 0), .ref g, .ref (xa 2), .ref (xa 3), .ref (xa 4), .ref (xa 5), .ref (xa 6), .ref (xa 7), .int (nI tr), .int (nI fl), .int pl], ob g 0 [.int (nI (cy 0)), .int (nI (cy 1)), .int (nI (cy 2)), .int (nI (cy 3)), .int (nI (cy 4)), .int (nI (cy 5)), .int (nI (cy 6)), .int (nI (cy 7)), .ref (ca 0), .ref (ca 1), .ref (ca 2), .ref (ca 3), .ref (ca 4), .ref (ca 5), .ref (ca 6), .ref (ca 7), .ref (ca 8), .ref (ca 9), .ref (ca 10), .ref (ca 11)], ob (xa 6) 1 [.ref hw], aM E hw 32 wt] (wrI [ob x 6 [.ref (xa 0), .ref g, .ref (xa 2), .ref (xa 3), .ref (xa 4), .ref (xa 5), .ref (xa 6), .ref (xa 7), .int (nI (if cy 3 = 0 then 1 else 0)), .int (nI fl), .int pl], ob g 0 [.int (nI (cy 0)), .int (nI (cy 1)), .int (nI (cy 2)), .int (nI (cy 3)), .int (nI (cy 4)), .int (nI (cy 5)), .int (nI (cy 6)), .int (nI (cy 7)), .ref (ca 0), .ref (ca 1), .ref (ca 2), .ref (ca 3), .ref (ca 4), .ref (ca 5), .ref (ca 6), .ref (ca 7), .ref (ca 8), .ref (ca 9), .ref (ca 10), .ref (ca 11)], ob (xa 6) 1 [.ref hw], aM E hw 32 wt] (if cy 3 = 0 then (-1) else (likF wt 32).1)) := by
  refine Ct.intro (by decide +kernel) (Nat.le_of_ble_eq_true rfl) (lv := [(0, .ref x)]) rfl ?_
  intro Z X Y
  refine v_aload_n X dX6_likeliest_0 rfl 0 rfl ?_
  refine v_roI1 X (rn_V X k_X6_noCity ml_X6_168 dX6_likeliest_1 (c_X6_noCity l E x xa g tr fl pl cy ca (by first | assumption | omega)) rfl 0 rfl rfl (by decide) (by decide) (by omega) (by omega) (Nat.le_of_ble_eq_true rfl)) [0, 1] rfl rfl ?_
  refine v_ifB_eq X dX6_likeliest_4 (tgt := 13) (by decide) (fun h4 => ?_) (fun h4 => ?_)
  · refine v_aload_n X dX6_likeliest_13 rfl 0 rfl ?_
    refine v_aload_n X dX6_likeliest_14 rfl 0 rfl ?_
    refine v_get X kcX6 fl_X6_46 dX6_likeliest_15 0 rfl rfl ?_
    refine v_roI1 X (rn_VN X k_X1_likeliestSet ml_X6_214 dX6_likeliest_18 (c_X1_likeliestSet l E (xa 6) hw wt (wt62 hwt)) rfl 0 rfl rfl (by decide) (by decide) (by omega) (by omega) (Nat.le_of_ble_eq_true rfl)) [2, 3] rfl rfl ?_
    refine v_wrI1 X (rn_V X k_X6_answered ml_X6_92 dX6_likeliest_21 (c_X6_answered l E x xa g tr fl pl ((likF wt 32).1) ) rfl 0 rfl rfl (by decide) (by decide) (by omega) (by omega) (Nat.le_of_ble_eq_true rfl)) [0] rfl rfl (ws' := [ob x 6 [.ref (xa 0), .ref g, .ref (xa 2), .ref (xa 3), .ref (xa 4), .ref (xa 5), .ref (xa 6), .ref (xa 7), .int (nI 0), .int (nI fl), .int pl], ob g 0 [.int (nI (cy 0)), .int (nI (cy 1)), .int (nI (cy 2)), .int (nI (cy 3)), .int (nI (cy 4)), .int (nI (cy 5)), .int (nI (cy 6)), .int (nI (cy 7)), .ref (ca 0), .ref (ca 1), .ref (ca 2), .ref (ca 3), .ref (ca 4), .ref (ca 5), .ref (ca 6), .ref (ca 7), .ref (ca 8), .ref (ca 9), .ref (ca 10), .ref (ca 11)], ob (xa 6) 1 [.ref hw], aM E hw 32 wt]) rfl rfl ?_
    exact v_iret X Y dX6_likeliest_24 (wrI_of (by rw [if_neg (of_decide_eq_false h4)]) ((if_neg (of_decide_eq_false h4)).symm)) (by omega) (by omega)
  · refine v_aload_n X dX6_likeliest_7 rfl 0 rfl ?_
    refine v_iconst X dX6_likeliest_8 (v := nI 1) (by decide) ?_
    refine v_wrI1 X (rn_V X k_X6_refused ml_X6_74 dX6_likeliest_9 (c_X6_refused l E x xa g tr fl pl 1 ) rfl 0 rfl rfl (by decide) (by decide) (by omega) (by omega) (Nat.le_of_ble_eq_true rfl)) [0] rfl rfl (ws' := [ob x 6 [.ref (xa 0), .ref g, .ref (xa 2), .ref (xa 3), .ref (xa 4), .ref (xa 5), .ref (xa 6), .ref (xa 7), .int (nI 1), .int (nI fl), .int pl], ob g 0 [.int (nI (cy 0)), .int (nI (cy 1)), .int (nI (cy 2)), .int (nI (cy 3)), .int (nI (cy 4)), .int (nI (cy 5)), .int (nI (cy 6)), .int (nI (cy 7)), .ref (ca 0), .ref (ca 1), .ref (ca 2), .ref (ca 3), .ref (ca 4), .ref (ca 5), .ref (ca 6), .ref (ca 7), .ref (ca 8), .ref (ca 9), .ref (ca 10), .ref (ca 11)], ob (xa 6) 1 [.ref hw], aM E hw 32 wt]) rfl rfl ?_
    exact v_iret X Y dX6_likeliest_12 (wrI_of (by rw [if_pos (of_decide_eq_true h4)]) ((if_pos (of_decide_eq_true h4)).symm)) (by omega) (by omega)
set_option maxRecDepth 100000 in
set_option maxHeartbeats 4000000 in
theorem c_X6_ask (l : Launch) (E : Et) (x : Nat) (xa : Nat → Nat) (g : Nat) (tr : Nat) (fl : Nat) (pl : Int32) (cy : Nat → Nat) (ca : Nat → Nat) (hw : Nat) (wt : Nat → Nat) (hmen : cy 3 ≤ 4) (hu : cy 6 ≤ 5) (hwt : ∀ s, wt s ≤ 1000000000000) : Ct l E yX6_ask cX6_ask 1 (some .int) 6 0 0 [.ref x] [ob x 6 [.ref (xa 0), .ref g, .ref (xa 2), .ref (xa 3), .ref (xa 4), .ref (xa 5), .ref (xa 6), .ref (xa 7), .int (nI tr), .int (nI fl), .int pl], ob g 0 [.int (nI (cy 0)), .int (nI (cy 1)), .int (nI (cy 2)), .int (nI (cy 3)), .int (nI (cy 4)), .int (nI (cy 5)), .int (nI (cy 6)), .int (nI (cy 7)), .ref (ca 0), .ref (ca 1), .ref (ca 2), .ref (ca 3), .ref (ca 4), .ref (ca 5), .ref (ca 6), .ref (ca 7), .ref (ca 8), .ref (ca 9), .ref (ca 10), .ref (ca 11)], ob (xa 6) 1 [.ref hw], aM E hw 32 wt] (wrI [ob x 6 [.ref (xa 0), .ref g, .ref (xa 2), .ref (xa 3), .ref (xa 4), .ref (xa 5), .ref (xa 6), .ref (xa 7), .int (nI (if cy 3 = 0 then 1 else 0)), .int (nI fl), .int pl], ob g 0 [.int (nI (cy 0)), .int (nI (cy 1)), .int (nI (cy 2)), .int (nI (cy 3)), .int (nI (cy 4)), .int (nI (cy 5)), .int (nI (cy 6)), .int (nI (cy 7)), .ref (ca 0), .ref (ca 1), .ref (ca 2), .ref (ca 3), .ref (ca 4), .ref (ca 5), .ref (ca 6), .ref (ca 7), .ref (ca 8), .ref (ca 9), .ref (ca 10), .ref (ca 11)], ob (xa 6) 1 [.ref hw], aM E hw 32 wt] (if cy 3 = 0 then (-1) else optI (askA wt (cy 6)))) := by
  refine Ct.intro (by decide +kernel) (Nat.le_of_ble_eq_true rfl) (lv := [(0, .ref x)]) rfl ?_
  intro Z X Y
  refine v_aload_n X dX6_ask_0 rfl 0 rfl ?_
  refine v_roI1 X (rn_V X k_X6_noCity ml_X6_168 dX6_ask_1 (c_X6_noCity l E x xa g tr fl pl cy ca (by first | assumption | omega)) rfl 0 rfl rfl (by decide) (by decide) (by omega) (by omega) (Nat.le_of_ble_eq_true rfl)) [0, 1] rfl rfl ?_
  refine v_ifB_eq X dX6_ask_4 (tgt := 13) (by decide) (fun h4 => ?_) (fun h4 => ?_)
  · refine v_aload_n X dX6_ask_13 rfl 0 rfl ?_
    refine v_aload_n X dX6_ask_14 rfl 0 rfl ?_
    refine v_roI1 X (rn_V X k_X6_askedOne ml_X6_217 dX6_ask_15 (c_X6_askedOne l E x xa g tr fl pl cy ca hw wt (by first | assumption | omega) (wt62 hwt)) rfl 0 rfl rfl (by decide) (by decide) (by omega) (by omega) (Nat.le_of_ble_eq_true rfl)) [0, 1, 2, 3] rfl rfl ?_
    refine v_wrI1 X (rn_V X k_X6_answered ml_X6_92 dX6_ask_18 (c_X6_answered l E x xa g tr fl pl (optI (askA wt (cy 6))) ) rfl 0 rfl rfl (by decide) (by decide) (by omega) (by omega) (Nat.le_of_ble_eq_true rfl)) [0] rfl rfl (ws' := [ob x 6 [.ref (xa 0), .ref g, .ref (xa 2), .ref (xa 3), .ref (xa 4), .ref (xa 5), .ref (xa 6), .ref (xa 7), .int (nI 0), .int (nI fl), .int pl], ob g 0 [.int (nI (cy 0)), .int (nI (cy 1)), .int (nI (cy 2)), .int (nI (cy 3)), .int (nI (cy 4)), .int (nI (cy 5)), .int (nI (cy 6)), .int (nI (cy 7)), .ref (ca 0), .ref (ca 1), .ref (ca 2), .ref (ca 3), .ref (ca 4), .ref (ca 5), .ref (ca 6), .ref (ca 7), .ref (ca 8), .ref (ca 9), .ref (ca 10), .ref (ca 11)], ob (xa 6) 1 [.ref hw], aM E hw 32 wt]) rfl rfl ?_
    exact v_iret X Y dX6_ask_21 (wrI_of (by rw [if_neg (of_decide_eq_false h4)]) ((if_neg (of_decide_eq_false h4)).symm)) (by omega) (by omega)
  · refine v_aload_n X dX6_ask_7 rfl 0 rfl ?_
    refine v_iconst X dX6_ask_8 (v := nI 1) (by decide) ?_
    refine v_wrI1 X (rn_V X k_X6_refused ml_X6_74 dX6_ask_9 (c_X6_refused l E x xa g tr fl pl 1 ) rfl 0 rfl rfl (by decide) (by decide) (by omega) (by omega) (Nat.le_of_ble_eq_true rfl)) [0] rfl rfl (ws' := [ob x 6 [.ref (xa 0), .ref g, .ref (xa 2), .ref (xa 3), .ref (xa 4), .ref (xa 5), .ref (xa 6), .ref (xa 7), .int (nI 1), .int (nI fl), .int pl], ob g 0 [.int (nI (cy 0)), .int (nI (cy 1)), .int (nI (cy 2)), .int (nI (cy 3)), .int (nI (cy 4)), .int (nI (cy 5)), .int (nI (cy 6)), .int (nI (cy 7)), .ref (ca 0), .ref (ca 1), .ref (ca 2), .ref (ca 3), .ref (ca 4), .ref (ca 5), .ref (ca 6), .ref (ca 7), .ref (ca 8), .ref (ca 9), .ref (ca 10), .ref (ca 11)], ob (xa 6) 1 [.ref hw], aM E hw 32 wt]) rfl rfl ?_
    exact v_iret X Y dX6_ask_12 (wrI_of (by rw [if_pos (of_decide_eq_true h4)]) ((if_pos (of_decide_eq_true h4)).symm)) (by omega) (by omega)
set_option maxRecDepth 100000 in
set_option maxHeartbeats 4000000 in
theorem c_X6_fitAt (l : Launch) (E : Et) (x : Nat) (xa : Nat → Nat) (g : Nat) (tr : Nat) (fl : Nat) (pl : Int32) (cy : Nat → Nat) (ca : Nat → Nat) (hw : Nat) (wt : Nat → Nat) (i : Int32) (hmen : cy 3 ≤ 4) (hwt : ∀ s, wt s ≤ 1000000000000) : Ct l E yX6_fitAt cX6_fitAt 3 (some .int) 6 0 0 [.ref x, .int i] [ob x 6 [.ref (xa 0), .ref g, .ref (xa 2), .ref (xa 3), .ref (xa 4), .ref (xa 5), .ref (xa 6), .ref (xa 7), .int (nI tr), .int (nI fl), .int pl], ob g 0 [.int (nI (cy 0)), .int (nI (cy 1)), .int (nI (cy 2)), .int (nI (cy 3)), .int (nI (cy 4)), .int (nI (cy 5)), .int (nI (cy 6)), .int (nI (cy 7)), .ref (ca 0), .ref (ca 1), .ref (ca 2), .ref (ca 3), .ref (ca 4), .ref (ca 5), .ref (ca 6), .ref (ca 7), .ref (ca 8), .ref (ca 9), .ref (ca 10), .ref (ca 11)], ob (xa 6) 1 [.ref hw], aM E hw 32 wt] (wrI [ob x 6 [.ref (xa 0), .ref g, .ref (xa 2), .ref (xa 3), .ref (xa 4), .ref (xa 5), .ref (xa 6), .ref (xa 7), .int (nI (if ¬ cy 3 = 0 ∧ ¬ kth (fun s => (fitN wt).testBit s) i 64 0 0 = (-1) then 0 else 1)), .int (nI fl), .int pl], ob g 0 [.int (nI (cy 0)), .int (nI (cy 1)), .int (nI (cy 2)), .int (nI (cy 3)), .int (nI (cy 4)), .int (nI (cy 5)), .int (nI (cy 6)), .int (nI (cy 7)), .ref (ca 0), .ref (ca 1), .ref (ca 2), .ref (ca 3), .ref (ca 4), .ref (ca 5), .ref (ca 6), .ref (ca 7), .ref (ca 8), .ref (ca 9), .ref (ca 10), .ref (ca 11)], ob (xa 6) 1 [.ref hw], aM E hw 32 wt] (if cy 3 = 0 then (-1) else kth (fun s => (fitN wt).testBit s) i 64 0 0)) := by
  refine Ct.intro (by decide +kernel) (Nat.le_of_ble_eq_true rfl) (lv := [(0, .ref x), (1, .int i)]) rfl ?_
  intro Z X Y
  refine v_aload_n X dX6_fitAt_0 rfl 0 rfl ?_
  refine v_roI1 X (rn_V X k_X6_noCity ml_X6_168 dX6_fitAt_1 (c_X6_noCity l E x xa g tr fl pl cy ca (by first | assumption | omega)) rfl 0 rfl rfl (by decide) (by decide) (by omega) (by omega) (Nat.le_of_ble_eq_true rfl)) [0, 1] rfl rfl ?_
  refine v_ifB_eq X dX6_fitAt_4 (tgt := 11) (by decide) (fun h4 => ?_) (fun h4 => ?_)
  · refine v_aload_n X dX6_fitAt_11 rfl 0 rfl ?_
    refine v_get X kcX6 fl_X6_46 dX6_fitAt_12 0 rfl rfl ?_
    refine v_roL1 X (rn_VN X k_X1_fitting ml_X6_200 dX6_fitAt_15 (c_X1_fitting l E (xa 6) hw wt (wt62 hwt)) rfl 0 rfl rfl (by decide) (by decide) (by omega) (by omega) (Nat.le_of_ble_eq_true rfl)) [2, 3] rfl rfl ?_
    refine v_iload_n X dX6_fitAt_18 rfl 1 rfl ?_
    refine v_roI1 X (rn_S X k_X6_bitAt ml_X6_150 dX6_fitAt_19 (c_X6_bitAt l E (bbits (fun s => decide (0 < wt s)) 32) i (fitN_lt wt)) rfl (by decide) (by decide) (by omega) (by omega) (Nat.le_of_ble_eq_true rfl)) [] rfl rfl ?_
    refine v_istore_n X dX6_fitAt_22 rfl (by decide) (lv' := [(2, .int (kth (fun s => (bbits (fun s => decide (0 < wt s)) 32).testBit s) i 64 0 0)), (0, .ref x), (1, .int i)]) rfl ?_
    refine v_iload_n X dX6_fitAt_23 rfl 0 rfl ?_
    refine v_iconst X dX6_fitAt_24 (v := (-1)) (by decide) ?_
    refine v_icmp_ne X dX6_fitAt_25 (tgt := 36) (by decide) (fun h25 => ?_) (fun h25 => ?_)
    · refine v_aload_n X dX6_fitAt_36 rfl 1 rfl ?_
      refine v_iload_n X dX6_fitAt_37 rfl 0 rfl ?_
      refine v_wrI1 X (rn_V X k_X6_answered ml_X6_92 dX6_fitAt_38 (c_X6_answered l E x xa g tr fl pl (kth (fun s => (bbits (fun s => decide (0 < wt s)) 32).testBit s) i 64 0 0) ) rfl 0 rfl rfl (by decide) (by decide) (by omega) (by omega) (Nat.le_of_ble_eq_true rfl)) [0] rfl rfl (ws' := [ob x 6 [.ref (xa 0), .ref g, .ref (xa 2), .ref (xa 3), .ref (xa 4), .ref (xa 5), .ref (xa 6), .ref (xa 7), .int (nI 0), .int (nI fl), .int pl], ob g 0 [.int (nI (cy 0)), .int (nI (cy 1)), .int (nI (cy 2)), .int (nI (cy 3)), .int (nI (cy 4)), .int (nI (cy 5)), .int (nI (cy 6)), .int (nI (cy 7)), .ref (ca 0), .ref (ca 1), .ref (ca 2), .ref (ca 3), .ref (ca 4), .ref (ca 5), .ref (ca 6), .ref (ca 7), .ref (ca 8), .ref (ca 9), .ref (ca 10), .ref (ca 11)], ob (xa 6) 1 [.ref hw], aM E hw 32 wt]) rfl rfl ?_
      exact v_iret X Y dX6_fitAt_41 (wrI_of (by rw [if_pos ⟨of_decide_eq_false h4, h25⟩]) ((if_neg (of_decide_eq_false h4)).symm)) (by omega) (by omega)
    · refine v_aload_n X dX6_fitAt_28 rfl 1 rfl ?_
      refine v_iconst X dX6_fitAt_29 (v := nI 1) (by decide) ?_
      refine v_wrI1 X (rn_V X k_X6_refused ml_X6_74 dX6_fitAt_30 (c_X6_refused l E x xa g tr fl pl 1 ) rfl 0 rfl rfl (by decide) (by decide) (by omega) (by omega) (Nat.le_of_ble_eq_true rfl)) [0] rfl rfl (ws' := [ob x 6 [.ref (xa 0), .ref g, .ref (xa 2), .ref (xa 3), .ref (xa 4), .ref (xa 5), .ref (xa 6), .ref (xa 7), .int (nI 1), .int (nI fl), .int pl], ob g 0 [.int (nI (cy 0)), .int (nI (cy 1)), .int (nI (cy 2)), .int (nI (cy 3)), .int (nI (cy 4)), .int (nI (cy 5)), .int (nI (cy 6)), .int (nI (cy 7)), .ref (ca 0), .ref (ca 1), .ref (ca 2), .ref (ca 3), .ref (ca 4), .ref (ca 5), .ref (ca 6), .ref (ca 7), .ref (ca 8), .ref (ca 9), .ref (ca 10), .ref (ca 11)], ob (xa 6) 1 [.ref hw], aM E hw 32 wt]) rfl rfl ?_
      refine v_goto X dX6_fitAt_33 (tgt := 41) (by decide) ?_
      exact v_iret X Y dX6_fitAt_41 (wrI_of (by rw [if_neg (fun q => q.2 h25)]) ((by rw [if_neg (of_decide_eq_false h4)]; exact h25.symm))) (by omega) (by omega)
  · refine v_iconst X dX6_fitAt_7 (v := (-1)) (by decide) ?_
    refine v_goto X dX6_fitAt_8 (tgt := 22) (by decide) ?_
    refine v_istore_n X dX6_fitAt_22 rfl (by decide) (lv' := [(2, .int (-1)), (0, .ref x), (1, .int i)]) rfl ?_
    refine v_iload_n X dX6_fitAt_23 rfl 0 rfl ?_
    refine v_iconst X dX6_fitAt_24 (v := (-1)) (by decide) ?_
    refine v_icmp_ne X dX6_fitAt_25 (tgt := 36) (by decide) (fun h25 => ?_) (fun h25 => ?_)
    · exact absurd rfl h25
    · refine v_aload_n X dX6_fitAt_28 rfl 1 rfl ?_
      refine v_iconst X dX6_fitAt_29 (v := nI 1) (by decide) ?_
      refine v_wrI1 X (rn_V X k_X6_refused ml_X6_74 dX6_fitAt_30 (c_X6_refused l E x xa g tr fl pl 1 ) rfl 0 rfl rfl (by decide) (by decide) (by omega) (by omega) (Nat.le_of_ble_eq_true rfl)) [0] rfl rfl (ws' := [ob x 6 [.ref (xa 0), .ref g, .ref (xa 2), .ref (xa 3), .ref (xa 4), .ref (xa 5), .ref (xa 6), .ref (xa 7), .int (nI 1), .int (nI fl), .int pl], ob g 0 [.int (nI (cy 0)), .int (nI (cy 1)), .int (nI (cy 2)), .int (nI (cy 3)), .int (nI (cy 4)), .int (nI (cy 5)), .int (nI (cy 6)), .int (nI (cy 7)), .ref (ca 0), .ref (ca 1), .ref (ca 2), .ref (ca 3), .ref (ca 4), .ref (ca 5), .ref (ca 6), .ref (ca 7), .ref (ca 8), .ref (ca 9), .ref (ca 10), .ref (ca 11)], ob (xa 6) 1 [.ref hw], aM E hw 32 wt]) rfl rfl ?_
      refine v_goto X dX6_fitAt_33 (tgt := 41) (by decide) ?_
      exact v_iret X Y dX6_fitAt_41 (wrI_of (by rw [if_neg (fun q => q.1 (of_decide_eq_true h4))]) ((if_pos (of_decide_eq_true h4)).symm)) (by omega) (by omega)
set_option maxRecDepth 100000 in
set_option maxHeartbeats 4000000 in
theorem c_X6_askLeaves (l : Launch) (E : Et) (x : Nat) (xa : Nat → Nat) (g : Nat) (tr : Nat) (fl : Nat) (pl : Int32) (cy : Nat → Nat) (ca : Nat → Nat) (hw : Nat) (wt : Nat → Nat) (hmen : cy 3 ≤ 4) (hu : cy 6 ≤ 5) (hwt : ∀ s, wt s ≤ 1000000000000) : Ct l E yX6_askLeaves cX6_askLeaves 2 (some .int) 6 0 0 [.ref x] [ob x 6 [.ref (xa 0), .ref g, .ref (xa 2), .ref (xa 3), .ref (xa 4), .ref (xa 5), .ref (xa 6), .ref (xa 7), .int (nI tr), .int (nI fl), .int pl], ob g 0 [.int (nI (cy 0)), .int (nI (cy 1)), .int (nI (cy 2)), .int (nI (cy 3)), .int (nI (cy 4)), .int (nI (cy 5)), .int (nI (cy 6)), .int (nI (cy 7)), .ref (ca 0), .ref (ca 1), .ref (ca 2), .ref (ca 3), .ref (ca 4), .ref (ca 5), .ref (ca 6), .ref (ca 7), .ref (ca 8), .ref (ca 9), .ref (ca 10), .ref (ca 11)], ob (xa 6) 1 [.ref hw], aM E hw 32 wt] (wrI [ob x 6 [.ref (xa 0), .ref g, .ref (xa 2), .ref (xa 3), .ref (xa 4), .ref (xa 5), .ref (xa 6), .ref (xa 7), .int (nI (if cy 3 = 0 then 1 else 0)), .int (nI fl), .int pl], ob g 0 [.int (nI (cy 0)), .int (nI (cy 1)), .int (nI (cy 2)), .int (nI (cy 3)), .int (nI (cy 4)), .int (nI (cy 5)), .int (nI (cy 6)), .int (nI (cy 7)), .ref (ca 0), .ref (ca 1), .ref (ca 2), .ref (ca 3), .ref (ca 4), .ref (ca 5), .ref (ca 6), .ref (ca 7), .ref (ca 8), .ref (ca 9), .ref (ca 10), .ref (ca 11)], ob (xa 6) 1 [.ref hw], aM E hw 32 wt] (if cy 3 = 0 then (-1) else alV (lam wt) (askA wt (cy 6)))) := by
  refine Ct.intro (by decide +kernel) (Nat.le_of_ble_eq_true rfl) (lv := [(0, .ref x)]) rfl ?_
  intro Z X Y
  refine v_aload_n X dX6_askLeaves_0 rfl 0 rfl ?_
  refine v_roI1 X (rn_V X k_X6_noCity ml_X6_168 dX6_askLeaves_1 (c_X6_noCity l E x xa g tr fl pl cy ca (by first | assumption | omega)) rfl 0 rfl rfl (by decide) (by decide) (by omega) (by omega) (Nat.le_of_ble_eq_true rfl)) [0, 1] rfl rfl ?_
  refine v_ifB_eq X dX6_askLeaves_4 (tgt := 13) (by decide) (fun h4 => ?_) (fun h4 => ?_)
  · refine v_aload_n X dX6_askLeaves_13 rfl 0 rfl ?_
    refine v_roI1 X (rn_V X k_X6_askedOne ml_X6_217 dX6_askLeaves_14 (c_X6_askedOne l E x xa g tr fl pl cy ca hw wt (by first | assumption | omega) (wt62 hwt)) rfl 0 rfl rfl (by decide) (by decide) (by omega) (by omega) (Nat.le_of_ble_eq_true rfl)) [0, 1, 2, 3] rfl rfl ?_
    cases ea : askA wt (cy 6) with
    | none =>
      refine V.cast (st' := [.int (-2)]) rfl rfl rfl ?_
      refine v_istore_n X dX6_askLeaves_17 rfl (by decide) (lv' := [(1, .int (-2)), (0, .ref x)]) rfl ?_
      refine v_aload_n X dX6_askLeaves_18 rfl 1 rfl ?_
      refine v_iload_n X dX6_askLeaves_19 rfl 0 rfl ?_
      refine v_bipush X dX6_askLeaves_20 (v := (-2)) (by decide) ?_
      refine v_icmp_ne X dX6_askLeaves_22 (tgt := 30) (by decide) (fun h22 => ?_) (fun h22 => ?_)
      · exact absurd rfl h22
      · refine v_bipush X dX6_askLeaves_25 (v := (-2)) (by decide) ?_
        refine v_goto X dX6_askLeaves_27 (tgt := 38) (by decide) ?_
        refine v_wrI1 X (rn_V X k_X6_answered ml_X6_92 dX6_askLeaves_38 (c_X6_answered l E x xa g tr fl pl (-2) ) rfl 0 rfl rfl (by decide) (by decide) (by omega) (by omega) (Nat.le_of_ble_eq_true rfl)) [0] rfl rfl (ws' := [ob x 6 [.ref (xa 0), .ref g, .ref (xa 2), .ref (xa 3), .ref (xa 4), .ref (xa 5), .ref (xa 6), .ref (xa 7), .int (nI 0), .int (nI fl), .int pl], ob g 0 [.int (nI (cy 0)), .int (nI (cy 1)), .int (nI (cy 2)), .int (nI (cy 3)), .int (nI (cy 4)), .int (nI (cy 5)), .int (nI (cy 6)), .int (nI (cy 7)), .ref (ca 0), .ref (ca 1), .ref (ca 2), .ref (ca 3), .ref (ca 4), .ref (ca 5), .ref (ca 6), .ref (ca 7), .ref (ca 8), .ref (ca 9), .ref (ca 10), .ref (ca 11)], ob (xa 6) 1 [.ref hw], aM E hw 32 wt]) rfl rfl ?_
        exact v_iret X Y dX6_askLeaves_41 (wrI_of (by rw [if_neg (of_decide_eq_false h4)]) (by rw [if_neg (of_decide_eq_false h4), ea]; rfl)) (by omega) (by omega)
    | some vq =>
      have hvq : vq < 5 := by have := askA_lt ea; omega
      refine V.cast (st' := [.int (nI vq)]) rfl rfl rfl ?_
      refine v_istore_n X dX6_askLeaves_17 rfl (by decide) (lv' := [(1, .int (nI vq)), (0, .ref x)]) rfl ?_
      refine v_aload_n X dX6_askLeaves_18 rfl 1 rfl ?_
      refine v_iload_n X dX6_askLeaves_19 rfl 0 rfl ?_
      refine v_bipush X dX6_askLeaves_20 (v := (-2)) (by decide) ?_
      refine v_icmp_ne X dX6_askLeaves_22 (tgt := 30) (by decide) (fun h22 => ?_) (fun h22 => ?_)
      · refine v_aload_n X dX6_askLeaves_30 rfl 1 rfl ?_
        refine v_get X kcX6 fl_X6_46 dX6_askLeaves_31 0 rfl rfl ?_
        refine v_iload_n X dX6_askLeaves_34 rfl 0 rfl ?_
        refine v_roI1 X (rn_VN X k_X1_leftAtMost ml_X6_220 dX6_askLeaves_35 (c_X1_leftAtMost l E (xa 6) hw wt vq (wt62 hwt) (by first | assumption | omega)) rfl 0 rfl rfl (by decide) (by decide) (by omega) (by omega) (Nat.le_of_ble_eq_true rfl)) [2, 3] rfl rfl ?_
        refine v_wrI1 X (rn_V X k_X6_answered ml_X6_92 dX6_askLeaves_38 (c_X6_answered l E x xa g tr fl pl (nI (max (cnt (fun s => decide (0 < wt s) && s.testBit vq) 32) (cnt (fun s => decide (0 < wt s) && !s.testBit vq) 32))) ) rfl 0 rfl rfl (by decide) (by decide) (by omega) (by omega) (Nat.le_of_ble_eq_true rfl)) [0] rfl rfl (ws' := [ob x 6 [.ref (xa 0), .ref g, .ref (xa 2), .ref (xa 3), .ref (xa 4), .ref (xa 5), .ref (xa 6), .ref (xa 7), .int (nI 0), .int (nI fl), .int pl], ob g 0 [.int (nI (cy 0)), .int (nI (cy 1)), .int (nI (cy 2)), .int (nI (cy 3)), .int (nI (cy 4)), .int (nI (cy 5)), .int (nI (cy 6)), .int (nI (cy 7)), .ref (ca 0), .ref (ca 1), .ref (ca 2), .ref (ca 3), .ref (ca 4), .ref (ca 5), .ref (ca 6), .ref (ca 7), .ref (ca 8), .ref (ca 9), .ref (ca 10), .ref (ca 11)], ob (xa 6) 1 [.ref hw], aM E hw 32 wt]) rfl rfl ?_
        exact v_iret X Y dX6_askLeaves_41 (wrI_of (by rw [if_neg (of_decide_eq_false h4)]) (by rw [if_neg (of_decide_eq_false h4), ea]; rfl)) (by omega) (by omega)
      · exact (nm2 h22 (by omega)).elim
  · refine v_aload_n X dX6_askLeaves_7 rfl 0 rfl ?_
    refine v_iconst X dX6_askLeaves_8 (v := nI 1) (by decide) ?_
    refine v_wrI1 X (rn_V X k_X6_refused ml_X6_74 dX6_askLeaves_9 (c_X6_refused l E x xa g tr fl pl 1 ) rfl 0 rfl rfl (by decide) (by decide) (by omega) (by omega) (Nat.le_of_ble_eq_true rfl)) [0] rfl rfl (ws' := [ob x 6 [.ref (xa 0), .ref g, .ref (xa 2), .ref (xa 3), .ref (xa 4), .ref (xa 5), .ref (xa 6), .ref (xa 7), .int (nI 1), .int (nI fl), .int pl], ob g 0 [.int (nI (cy 0)), .int (nI (cy 1)), .int (nI (cy 2)), .int (nI (cy 3)), .int (nI (cy 4)), .int (nI (cy 5)), .int (nI (cy 6)), .int (nI (cy 7)), .ref (ca 0), .ref (ca 1), .ref (ca 2), .ref (ca 3), .ref (ca 4), .ref (ca 5), .ref (ca 6), .ref (ca 7), .ref (ca 8), .ref (ca 9), .ref (ca 10), .ref (ca 11)], ob (xa 6) 1 [.ref hw], aM E hw 32 wt]) rfl rfl ?_
    exact v_iret X Y dX6_askLeaves_12 (wrI_of (by rw [if_pos (of_decide_eq_true h4)]) ((if_pos (of_decide_eq_true h4)).symm)) (by omega) (by omega)
set_option maxRecDepth 100000 in
set_option maxHeartbeats 4000000 in
theorem c_X6_odds (l : Launch) (E : Et) (x : Nat) (xa : Nat → Nat) (g : Nat) (tr : Nat) (fl : Nat) (pl : Int32) (cy : Nat → Nat) (ca : Nat → Nat) (hw : Nat) (wt : Nat → Nat) (k : Int32) (b : Bool) (hu : cy 6 ≤ 5) (hwt : ∀ s, wt s ≤ 1000000000000) : Ct l E yX6_odds cX6_odds 3 (some .long) 6 0 0 [.ref x, .int k, .int (nI (b).toNat)] [ob x 6 [.ref (xa 0), .ref g, .ref (xa 2), .ref (xa 3), .ref (xa 4), .ref (xa 5), .ref (xa 6), .ref (xa 7), .int (nI tr), .int (nI fl), .int pl], ob g 0 [.int (nI (cy 0)), .int (nI (cy 1)), .int (nI (cy 2)), .int (nI (cy 3)), .int (nI (cy 4)), .int (nI (cy 5)), .int (nI (cy 6)), .int (nI (cy 7)), .ref (ca 0), .ref (ca 1), .ref (ca 2), .ref (ca 3), .ref (ca 4), .ref (ca 5), .ref (ca 6), .ref (ca 7), .ref (ca 8), .ref (ca 9), .ref (ca 10), .ref (ca 11)], ob (xa 6) 1 [.ref hw], aM E hw 32 wt] (wrL [ob x 6 [.ref (xa 0), .ref g, .ref (xa 2), .ref (xa 3), .ref (xa 4), .ref (xa 5), .ref (xa 6), .ref (xa 7), .int (nI (if okM k (cy 6) then 0 else 1)), .int (nI fl), .int pl], ob g 0 [.int (nI (cy 0)), .int (nI (cy 1)), .int (nI (cy 2)), .int (nI (cy 3)), .int (nI (cy 4)), .int (nI (cy 5)), .int (nI (cy 6)), .int (nI (cy 7)), .ref (ca 0), .ref (ca 1), .ref (ca 2), .ref (ca 3), .ref (ca 4), .ref (ca 5), .ref (ca 6), .ref (ca 7), .ref (ca 8), .ref (ca 9), .ref (ca 10), .ref (ca 11)], ob (xa 6) 1 [.ref hw], aM E hw 32 wt] (if okM k (cy 6) then lN (lowT (ww wt (2 ^ tn k)) (ww wt 0) b) else (-1))) := by
  refine Ct.intro (by decide +kernel) (Nat.le_of_ble_eq_true rfl) (lv := [(0, .ref x), (1, .int k), (2, .int (nI (b).toNat))]) rfl ?_
  intro Z X Y
  refine v_iload_n X dX6_odds_0 rfl 1 rfl ?_
  refine v_if_lt X dX6_odds_1 (tgt := 15) (by decide) (fun h1 => ?_) (fun h1 => ?_)
  · refine v_aload_n X dX6_odds_15 rfl 0 rfl ?_
    refine v_iconst X dX6_odds_16 (v := nI 1) (by decide) ?_
    refine v_wrI1 X (rn_V X k_X6_refused ml_X6_74 dX6_odds_17 (c_X6_refused l E x xa g tr fl pl 1 ) rfl 0 rfl rfl (by decide) (by decide) (by omega) (by omega) (Nat.le_of_ble_eq_true rfl)) [0] rfl rfl (ws' := [ob x 6 [.ref (xa 0), .ref g, .ref (xa 2), .ref (xa 3), .ref (xa 4), .ref (xa 5), .ref (xa 6), .ref (xa 7), .int (nI 1), .int (nI fl), .int pl], ob g 0 [.int (nI (cy 0)), .int (nI (cy 1)), .int (nI (cy 2)), .int (nI (cy 3)), .int (nI (cy 4)), .int (nI (cy 5)), .int (nI (cy 6)), .int (nI (cy 7)), .ref (ca 0), .ref (ca 1), .ref (ca 2), .ref (ca 3), .ref (ca 4), .ref (ca 5), .ref (ca 6), .ref (ca 7), .ref (ca 8), .ref (ca 9), .ref (ca 10), .ref (ca 11)], ob (xa 6) 1 [.ref hw], aM E hw 32 wt]) rfl rfl ?_
    refine v_i2l X dX6_odds_20 rfl ?_
    exact v_lret X Y dX6_odds_21 (wrL_of (by rw [if_neg (fun q => absurd q.1 (Int32.not_le.mpr h1))]) (by rw [if_neg (fun q => absurd q.1 (Int32.not_le.mpr h1))]; rfl)) (by omega) (by omega)
  · refine v_iload_n X dX6_odds_4 rfl 1 rfl ?_
    refine v_aload_n X dX6_odds_5 rfl 0 rfl ?_
    refine v_get X kcX6 fl_X6_19 dX6_odds_6 0 rfl rfl ?_
    refine v_getN X kcX0 fl_X6_204 dX6_odds_9 1 rfl rfl ?_
    refine v_icmp_lt X dX6_odds_12 (tgt := 22) (by decide) (fun h12 => ?_) (fun h12 => ?_)
    · have hok : okM k (cy 6) := ⟨Int32.not_lt.mp h1, h12⟩
      obtain ⟨kk, hkk, rfl⟩ := okM_nat hok (by omega)
      refine v_aload_n X dX6_odds_22 rfl 0 rfl ?_
      refine v_iconst X dX6_odds_23 (v := nI 0) (by decide) ?_
      refine v_put X kcX6 fl_X6_57 dX6_odds_24 0 rfl (ws' := [ob x 6 [.ref (xa 0), .ref g, .ref (xa 2), .ref (xa 3), .ref (xa 4), .ref (xa 5), .ref (xa 6), .ref (xa 7), .int (nI 0), .int (nI fl), .int pl], ob g 0 [.int (nI (cy 0)), .int (nI (cy 1)), .int (nI (cy 2)), .int (nI (cy 3)), .int (nI (cy 4)), .int (nI (cy 5)), .int (nI (cy 6)), .int (nI (cy 7)), .ref (ca 0), .ref (ca 1), .ref (ca 2), .ref (ca 3), .ref (ca 4), .ref (ca 5), .ref (ca 6), .ref (ca 7), .ref (ca 8), .ref (ca 9), .ref (ca 10), .ref (ca 11)], ob (xa 6) 1 [.ref hw], aM E hw 32 wt]) rfl rfl ?_
      refine v_aload_n X dX6_odds_27 rfl 0 rfl ?_
      refine v_get X kcX6 fl_X6_46 dX6_odds_28 0 rfl rfl ?_
      refine v_iconst X dX6_odds_31 (v := nI 1) (by decide) ?_
      refine v_iload_n X dX6_odds_32 rfl 1 rfl ?_
      refine v_ishl X dX6_odds_33 ?_
      refine v_eqi (x' := nI (2 ^ kk)) (nI_shl1 (by omega)) ?_
      refine v_roL1 X (rn_VN X k_X1_weightWith ml_X6_207 dX6_odds_34 (c_X1_weightWith l E (xa 6) hw wt (2 ^ kk) (Nat.pow_lt_pow_right (n := 5) (by decide) (by omega))) rfl 0 rfl rfl (by decide) (by decide) (by omega) (by omega) (Nat.le_of_ble_eq_true rfl)) [2, 3] rfl rfl ?_
      refine v_aload_n X dX6_odds_37 rfl 0 rfl ?_
      refine v_get X kcX6 fl_X6_46 dX6_odds_38 0 rfl rfl ?_
      refine v_iconst X dX6_odds_41 (v := nI 0) (by decide) ?_
      refine v_roL1 X (rn_VN X k_X1_weightWith ml_X6_207 dX6_odds_42 (c_X1_weightWith l E (xa 6) hw wt 0 (by first | assumption | omega)) rfl 0 rfl rfl (by decide) (by decide) (by omega) (by omega) (Nat.le_of_ble_eq_true rfl)) [2, 3] rfl rfl ?_
      refine v_iload_n X dX6_odds_45 rfl 2 rfl ?_
      refine v_roL1 X (rn_S X k_X6_lowestTerms ml_X6_210 dX6_odds_46 (c_X6_lowestTerms l E (fb_sm (fun s => if s &&& (2 ^ kk) = (2 ^ kk) then wt s else 0) 32) (fb_sm (fun s => if s &&& 0 = 0 then wt s else 0) 32) b (ww_le hwt _) (ww_le hwt _)) rfl (by decide) (by decide) (by omega) (by omega) (Nat.le_of_ble_eq_true rfl)) [] rfl rfl ?_
      exact v_lret X Y dX6_odds_49 (wrL_of (by rw [if_pos hok]) (by rw [if_pos hok, tn_n (show kk < 2 ^ 31 by omega)]; rfl)) (by omega) (by omega)
    · refine v_aload_n X dX6_odds_15 rfl 0 rfl ?_
      refine v_iconst X dX6_odds_16 (v := nI 1) (by decide) ?_
      refine v_wrI1 X (rn_V X k_X6_refused ml_X6_74 dX6_odds_17 (c_X6_refused l E x xa g tr fl pl 1 ) rfl 0 rfl rfl (by decide) (by decide) (by omega) (by omega) (Nat.le_of_ble_eq_true rfl)) [0] rfl rfl (ws' := [ob x 6 [.ref (xa 0), .ref g, .ref (xa 2), .ref (xa 3), .ref (xa 4), .ref (xa 5), .ref (xa 6), .ref (xa 7), .int (nI 1), .int (nI fl), .int pl], ob g 0 [.int (nI (cy 0)), .int (nI (cy 1)), .int (nI (cy 2)), .int (nI (cy 3)), .int (nI (cy 4)), .int (nI (cy 5)), .int (nI (cy 6)), .int (nI (cy 7)), .ref (ca 0), .ref (ca 1), .ref (ca 2), .ref (ca 3), .ref (ca 4), .ref (ca 5), .ref (ca 6), .ref (ca 7), .ref (ca 8), .ref (ca 9), .ref (ca 10), .ref (ca 11)], ob (xa 6) 1 [.ref hw], aM E hw 32 wt]) rfl rfl ?_
      refine v_i2l X dX6_odds_20 rfl ?_
      exact v_lret X Y dX6_odds_21 (wrL_of (by rw [if_neg (fun q => h12 q.2)]) (by rw [if_neg (fun q => h12 q.2)]; rfl)) (by omega) (by omega)
set_option maxRecDepth 100000 in
set_option maxHeartbeats 4000000 in
theorem c_X6_shaves (l : Launch) (E : Et) (x : Nat) (xa : Nat → Nat) (g : Nat) (tr : Nat) (fl : Nat) (pl : Int32) (cy : Nat → Nat) (ca : Nat → Nat) (ch : Int32) (s : Bool) (r : Bool) (o : Bool) (hmen : cy 3 ≤ 4) : Ct l E yX6_shaves cX6_shaves 6 (some .int) 6 0 0 [.ref x, .int ch, .int (nI (s).toNat), .int (nI (r).toNat), .int (nI (o).toNat)] [ob x 6 [.ref (xa 0), .ref g, .ref (xa 2), .ref (xa 3), .ref (xa 4), .ref (xa 5), .ref (xa 6), .ref (xa 7), .int (nI tr), .int (nI fl), .int pl], ob g 0 [.int (nI (cy 0)), .int (nI (cy 1)), .int (nI (cy 2)), .int (nI (cy 3)), .int (nI (cy 4)), .int (nI (cy 5)), .int (nI (cy 6)), .int (nI (cy 7)), .ref (ca 0), .ref (ca 1), .ref (ca 2), .ref (ca 3), .ref (ca 4), .ref (ca 5), .ref (ca 6), .ref (ca 7), .ref (ca 8), .ref (ca 9), .ref (ca 10), .ref (ca 11)]] (wrI [ob x 6 [.ref (xa 0), .ref g, .ref (xa 2), .ref (xa 3), .ref (xa 4), .ref (xa 5), .ref (xa 6), .ref (xa 7), .int (nI (chT (cy 3) ch)), .int (nI fl), .int pl], ob g 0 [.int (nI (cy 0)), .int (nI (cy 1)), .int (nI (cy 2)), .int (nI (cy 3)), .int (nI (cy 4)), .int (nI (cy 5)), .int (nI (cy 6)), .int (nI (cy 7)), .ref (ca 0), .ref (ca 1), .ref (ca 2), .ref (ca 3), .ref (ca 4), .ref (ca 5), .ref (ca 6), .ref (ca 7), .ref (ca 8), .ref (ca 9), .ref (ca 10), .ref (ca 11)]] (if chT (cy 3) ch = 0 then gainI (tn ch) s r o else (-100))) := by
  refine Ct.intro (by decide +kernel) (Nat.le_of_ble_eq_true rfl) (lv := [(0, .ref x), (1, .int ch), (2, .int (nI (s).toNat)), (3, .int (nI (r).toNat)), (4, .int (nI (o).toNat))]) rfl ?_
  intro Z X Y
  refine v_aload_n X dX6_shaves_0 rfl 0 rfl ?_
  refine v_iload_n X dX6_shaves_1 rfl 1 rfl ?_
  refine v_roI1 X (rn_V X k_X6_chainTrouble ml_X6_230 dX6_shaves_2 (c_X6_chainTrouble l E x xa g tr fl pl cy ca ch (by first | assumption | omega)) rfl 0 rfl rfl (by decide) (by decide) (by omega) (by omega) (Nat.le_of_ble_eq_true rfl)) [0, 1] rfl rfl ?_
  refine v_istore X dX6_shaves_5 (by decide) (lv' := [(5, .int (nI (chT (cy 3) ch))), (0, .ref x), (1, .int ch), (2, .int (nI (s).toNat)), (3, .int (nI (r).toNat)), (4, .int (nI (o).toNat))]) rfl ?_
  refine v_iload X dX6_shaves_7 0 rfl ?_
  refine v_ifN_eq X dX6_shaves_9 (tgt := 22) (by decide) (Nat.lt_of_le_of_lt (chT_le _ _) (by decide)) (fun h9 => ?_) (fun h9 => ?_)
  · obtain ⟨hm0, kc, hkc, rfl⟩ := chT_0 h9
    refine v_aload_n X dX6_shaves_22 rfl 1 rfl ?_
    refine v_iload_n X dX6_shaves_23 rfl 2 rfl ?_
    refine v_iload_n X dX6_shaves_24 rfl 3 rfl ?_
    refine v_iload_n X dX6_shaves_25 rfl 4 rfl ?_
    refine v_iload X dX6_shaves_26 5 rfl ?_
    refine v_roI1 X (rn_S X k_X6_gain ml_X6_233 dX6_shaves_28 (c_X6_gain l E kc s r o ) rfl (by decide) (by decide) (by omega) (by omega) (Nat.le_of_ble_eq_true rfl)) [] rfl rfl ?_
    refine v_wrI1 X (rn_V X k_X6_answered ml_X6_92 dX6_shaves_31 (c_X6_answered l E x xa g tr fl pl (gainI kc s r o) ) rfl 0 rfl rfl (by decide) (by decide) (by omega) (by omega) (Nat.le_of_ble_eq_true rfl)) [0] rfl rfl (ws' := [ob x 6 [.ref (xa 0), .ref g, .ref (xa 2), .ref (xa 3), .ref (xa 4), .ref (xa 5), .ref (xa 6), .ref (xa 7), .int (nI 0), .int (nI fl), .int pl], ob g 0 [.int (nI (cy 0)), .int (nI (cy 1)), .int (nI (cy 2)), .int (nI (cy 3)), .int (nI (cy 4)), .int (nI (cy 5)), .int (nI (cy 6)), .int (nI (cy 7)), .ref (ca 0), .ref (ca 1), .ref (ca 2), .ref (ca 3), .ref (ca 4), .ref (ca 5), .ref (ca 6), .ref (ca 7), .ref (ca 8), .ref (ca 9), .ref (ca 10), .ref (ca 11)]]) rfl rfl ?_
    exact v_iret X Y dX6_shaves_34 (wrI_of (by rw [h9]) (by rw [if_pos h9, tn_n (show kc < 2 ^ 31 by omega)])) (by omega) (by omega)
  · refine v_aload_n X dX6_shaves_12 rfl 1 rfl ?_
    refine v_iload X dX6_shaves_13 0 rfl ?_
    refine v_wrI1 X (rn_V X k_X6_refused ml_X6_74 dX6_shaves_15 (c_X6_refused l E x xa g tr fl pl (chT (cy 3) ch) ) rfl 0 rfl rfl (by decide) (by decide) (by omega) (by omega) (Nat.le_of_ble_eq_true rfl)) [0] rfl rfl (ws' := [ob x 6 [.ref (xa 0), .ref g, .ref (xa 2), .ref (xa 3), .ref (xa 4), .ref (xa 5), .ref (xa 6), .ref (xa 7), .int (nI (chT (cy 3) ch)), .int (nI fl), .int pl], ob g 0 [.int (nI (cy 0)), .int (nI (cy 1)), .int (nI (cy 2)), .int (nI (cy 3)), .int (nI (cy 4)), .int (nI (cy 5)), .int (nI (cy 6)), .int (nI (cy 7)), .ref (ca 0), .ref (ca 1), .ref (ca 2), .ref (ca 3), .ref (ca 4), .ref (ca 5), .ref (ca 6), .ref (ca 7), .ref (ca 8), .ref (ca 9), .ref (ca 10), .ref (ca 11)]]) rfl rfl ?_
    refine v_pop X dX6_shaves_18 rfl ?_
    refine v_bipush X dX6_shaves_19 (v := (-100)) (by decide) ?_
    exact v_iret X Y dX6_shaves_21 (wrI_of rfl ((if_neg h9).symm)) (by omega) (by omega)
set_option maxRecDepth 100000 in
set_option maxHeartbeats 4000000 in
theorem c_X6_rests (l : Launch) (E : Et) (x : Nat) (xa : Nat → Nat) (g : Nat) (tr : Nat) (fl : Nat) (pl : Int32) (cy : Nat → Nat) (ca : Nat → Nat) (ch : Int32) (hmen : cy 3 ≤ 4) : Ct l E yX6_rests cX6_rests 5 (some .int) 6 0 0 [.ref x, .int ch] [ob x 6 [.ref (xa 0), .ref g, .ref (xa 2), .ref (xa 3), .ref (xa 4), .ref (xa 5), .ref (xa 6), .ref (xa 7), .int (nI tr), .int (nI fl), .int pl], ob g 0 [.int (nI (cy 0)), .int (nI (cy 1)), .int (nI (cy 2)), .int (nI (cy 3)), .int (nI (cy 4)), .int (nI (cy 5)), .int (nI (cy 6)), .int (nI (cy 7)), .ref (ca 0), .ref (ca 1), .ref (ca 2), .ref (ca 3), .ref (ca 4), .ref (ca 5), .ref (ca 6), .ref (ca 7), .ref (ca 8), .ref (ca 9), .ref (ca 10), .ref (ca 11)]] (wrI [ob x 6 [.ref (xa 0), .ref g, .ref (xa 2), .ref (xa 3), .ref (xa 4), .ref (xa 5), .ref (xa 6), .ref (xa 7), .int (nI (chT (cy 3) ch)), .int (nI fl), .int pl], ob g 0 [.int (nI (cy 0)), .int (nI (cy 1)), .int (nI (cy 2)), .int (nI (cy 3)), .int (nI (cy 4)), .int (nI (cy 5)), .int (nI (cy 6)), .int (nI (cy 7)), .ref (ca 0), .ref (ca 1), .ref (ca 2), .ref (ca 3), .ref (ca 4), .ref (ca 5), .ref (ca 6), .ref (ca 7), .ref (ca 8), .ref (ca 9), .ref (ca 10), .ref (ca 11)]] (if chT (cy 3) ch = 0 then nI (cnt (isRestB (tn ch)) 4) else (-1))) := by
  refine Ct.intro (by decide +kernel) (Nat.le_of_ble_eq_true rfl) (lv := [(0, .ref x), (1, .int ch)]) rfl ?_
  intro Z X Y
  refine v_aload_n X dX6_rests_0 rfl 0 rfl ?_
  refine v_iload_n X dX6_rests_1 rfl 1 rfl ?_
  refine v_roI1 X (rn_V X k_X6_chainTrouble ml_X6_230 dX6_rests_2 (c_X6_chainTrouble l E x xa g tr fl pl cy ca ch (by first | assumption | omega)) rfl 0 rfl rfl (by decide) (by decide) (by omega) (by omega) (Nat.le_of_ble_eq_true rfl)) [0, 1] rfl rfl ?_
  refine v_istore_n X dX6_rests_5 rfl (by decide) (lv' := [(2, .int (nI (chT (cy 3) ch))), (0, .ref x), (1, .int ch)]) rfl ?_
  refine v_iload_n X dX6_rests_6 rfl 0 rfl ?_
  refine v_ifN_eq X dX6_rests_7 (tgt := 16) (by decide) (Nat.lt_of_le_of_lt (chT_le _ _) (by decide)) (fun h7 => ?_) (fun h7 => ?_)
  · obtain ⟨hm0, kc, hkc, rfl⟩ := chT_0 h7
    refine v_iconst X dX6_rests_16 (v := nI 0) (by decide) ?_
    refine v_istore_n X dX6_rests_17 rfl (by decide) (lv' := [(3, .int (nI 0)), (2, .int (nI (chT (cy 3) (nI kc)))), (0, .ref x), (1, .int (nI kc))]) rfl ?_
    refine v_iconst X dX6_rests_18 (v := nI 0) (by decide) ?_
    refine v_istore X dX6_rests_19 (by decide) (lv' := [(4, .int (nI 0)), (3, .int (nI 0)), (2, .int (nI (chT (cy 3) (nI kc)))), (0, .ref x), (1, .int (nI kc))]) rfl ?_
    have L21 : ∀ (j21 : Nat) (vp : Nat) (vn : Nat), (vp ≤ 4 ∧ vn = cnt (isRestB kc) vp) → 4 - vp < j21 → V E Z 21 [(0, .ref x), (1, .int (nI kc)), (2, .int (nI (chT (cy 3) (nI kc)))), (3, .int (nI vn)), (4, .int (nI vp))] [] [ob x 6 [.ref (xa 0), .ref g, .ref (xa 2), .ref (xa 3), .ref (xa 4), .ref (xa 5), .ref (xa 6), .ref (xa 7), .int (nI tr), .int (nI fl), .int pl], ob g 0 [.int (nI (cy 0)), .int (nI (cy 1)), .int (nI (cy 2)), .int (nI (cy 3)), .int (nI (cy 4)), .int (nI (cy 5)), .int (nI (cy 6)), .int (nI (cy 7)), .ref (ca 0), .ref (ca 1), .ref (ca 2), .ref (ca 3), .ref (ca 4), .ref (ca 5), .ref (ca 6), .ref (ca 7), .ref (ca 8), .ref (ca 9), .ref (ca 10), .ref (ca 11)]] 0 0 := by
      intro j21
      induction j21 with
      | zero => intro vp vn hI hM; exact absurd hM (Nat.not_lt_zero _)
      | succ j21 ih21 =>
        intro vp vn hI21 hM21
        obtain ⟨hc, hb⟩ := id hI21
        refine v_iload X dX6_rests_21 4 rfl ?_
        refine v_iconst X dX6_rests_23 (v := nI 4) (by decide) ?_
        refine v_icmpN_ge X dX6_rests_24 (tgt := 45) (by decide) (by omega) (by decide) (fun h24 => ?_) (fun h24 => ?_)
        · refine v_aload_n X dX6_rests_45 rfl 0 rfl ?_
          refine v_iload_n X dX6_rests_46 rfl 3 rfl ?_
          refine v_wrI1 X (rn_V X k_X6_answered ml_X6_92 dX6_rests_47 (c_X6_answered l E x xa g tr fl pl (nI vn) ) rfl 0 rfl rfl (by decide) (by decide) (by omega) (by omega) (Nat.le_of_ble_eq_true rfl)) [0] rfl rfl (ws' := [ob x 6 [.ref (xa 0), .ref g, .ref (xa 2), .ref (xa 3), .ref (xa 4), .ref (xa 5), .ref (xa 6), .ref (xa 7), .int (nI 0), .int (nI fl), .int pl], ob g 0 [.int (nI (cy 0)), .int (nI (cy 1)), .int (nI (cy 2)), .int (nI (cy 3)), .int (nI (cy 4)), .int (nI (cy 5)), .int (nI (cy 6)), .int (nI (cy 7)), .ref (ca 0), .ref (ca 1), .ref (ca 2), .ref (ca 3), .ref (ca 4), .ref (ca 5), .ref (ca 6), .ref (ca 7), .ref (ca 8), .ref (ca 9), .ref (ca 10), .ref (ca 11)]]) rfl rfl ?_
          exact v_iret X Y dX6_rests_50 (wrI_of (by rw [h7]) (by rw [if_pos h7, tn_n (show kc < 2 ^ 31 by omega), show 4 = vp by omega, ← hb])) (by omega) (by omega)
        · refine v_iload_n X dX6_rests_27 rfl 1 rfl ?_
          refine v_iload X dX6_rests_28 4 rfl ?_
          refine v_roI1 X (rn_S X k_X6_isRest ml_X6_237 dX6_rests_30 (c_X6_isRest l E kc vp (by first | assumption | omega)) rfl (by decide) (by decide) (by omega) (by omega) (Nat.le_of_ble_eq_true rfl)) [] rfl rfl ?_
          refine v_ifB_eq X dX6_rests_33 (tgt := 39) (by decide) (fun h33 => ?_) (fun h33 => ?_)
          · refine v_iinc X dX6_rests_39 4 rfl (v := nI (vp + 1)) (nI_inc vp) (by decide) (lv' := [(4, .int (nI (vp + 1))), (0, .ref x), (1, .int (nI kc)), (2, .int (nI (chT (cy 3) (nI kc)))), (3, .int (nI vn))]) rfl ?_
            refine v_goto X dX6_rests_42 (tgt := 21) (by decide) ?_
            refine V.lvs [1, 2, 3, 4, 0] rfl ?_
            exact ih21 (vp + 1) vn (⟨by omega, by rw [hb, cnt, h33]; simp⟩) (by omega)
          · refine v_iinc X dX6_rests_36 3 rfl (v := nI (vn + 1)) (nI_inc vn) (by decide) (lv' := [(3, .int (nI (vn + 1))), (0, .ref x), (1, .int (nI kc)), (2, .int (nI (chT (cy 3) (nI kc)))), (4, .int (nI vp))]) rfl ?_
            refine v_iinc X dX6_rests_39 4 rfl (v := nI (vp + 1)) (nI_inc vp) (by decide) (lv' := [(4, .int (nI (vp + 1))), (3, .int (nI (vn + 1))), (0, .ref x), (1, .int (nI kc)), (2, .int (nI (chT (cy 3) (nI kc))))]) rfl ?_
            refine v_goto X dX6_rests_42 (tgt := 21) (by decide) ?_
            refine V.lvs [2, 3, 4, 1, 0] rfl ?_
            exact ih21 (vp + 1) (vn + 1) (⟨by omega, by rw [hb, cnt, h33]; simp⟩) (by omega)
    refine V.lvs [3, 4, 2, 1, 0] rfl ?_
    exact L21 _ 0 0 (⟨by omega, rfl⟩) (Nat.lt_succ_self _)
  · refine v_aload_n X dX6_rests_10 rfl 1 rfl ?_
    refine v_iload_n X dX6_rests_11 rfl 0 rfl ?_
    refine v_wrI1 X (rn_V X k_X6_refused ml_X6_74 dX6_rests_12 (c_X6_refused l E x xa g tr fl pl (chT (cy 3) ch) ) rfl 0 rfl rfl (by decide) (by decide) (by omega) (by omega) (Nat.le_of_ble_eq_true rfl)) [0] rfl rfl (ws' := [ob x 6 [.ref (xa 0), .ref g, .ref (xa 2), .ref (xa 3), .ref (xa 4), .ref (xa 5), .ref (xa 6), .ref (xa 7), .int (nI (chT (cy 3) ch)), .int (nI fl), .int pl], ob g 0 [.int (nI (cy 0)), .int (nI (cy 1)), .int (nI (cy 2)), .int (nI (cy 3)), .int (nI (cy 4)), .int (nI (cy 5)), .int (nI (cy 6)), .int (nI (cy 7)), .ref (ca 0), .ref (ca 1), .ref (ca 2), .ref (ca 3), .ref (ca 4), .ref (ca 5), .ref (ca 6), .ref (ca 7), .ref (ca 8), .ref (ca 9), .ref (ca 10), .ref (ca 11)]]) rfl rfl ?_
    exact v_iret X Y dX6_rests_15 (wrI_of rfl ((if_neg h7).symm)) (by omega) (by omega)
set_option maxRecDepth 100000 in
set_option maxHeartbeats 4000000 in
theorem c_X6_rest (l : Launch) (E : Et) (x : Nat) (xa : Nat → Nat) (g : Nat) (tr : Nat) (fl : Nat) (pl : Int32) (cy : Nat → Nat) (ca : Nat → Nat) (ch : Int32) (hmen : cy 3 ≤ 4) : Ct l E yX6_rest cX6_rest 4 (some .int) 6 0 0 [.ref x, .int ch] [ob x 6 [.ref (xa 0), .ref g, .ref (xa 2), .ref (xa 3), .ref (xa 4), .ref (xa 5), .ref (xa 6), .ref (xa 7), .int (nI tr), .int (nI fl), .int pl], ob g 0 [.int (nI (cy 0)), .int (nI (cy 1)), .int (nI (cy 2)), .int (nI (cy 3)), .int (nI (cy 4)), .int (nI (cy 5)), .int (nI (cy 6)), .int (nI (cy 7)), .ref (ca 0), .ref (ca 1), .ref (ca 2), .ref (ca 3), .ref (ca 4), .ref (ca 5), .ref (ca 6), .ref (ca 7), .ref (ca 8), .ref (ca 9), .ref (ca 10), .ref (ca 11)]] (wrI [ob x 6 [.ref (xa 0), .ref g, .ref (xa 2), .ref (xa 3), .ref (xa 4), .ref (xa 5), .ref (xa 6), .ref (xa 7), .int (nI (chT (cy 3) ch)), .int (nI fl), .int pl], ob g 0 [.int (nI (cy 0)), .int (nI (cy 1)), .int (nI (cy 2)), .int (nI (cy 3)), .int (nI (cy 4)), .int (nI (cy 5)), .int (nI (cy 6)), .int (nI (cy 7)), .ref (ca 0), .ref (ca 1), .ref (ca 2), .ref (ca 3), .ref (ca 4), .ref (ca 5), .ref (ca 6), .ref (ca 7), .ref (ca 8), .ref (ca 9), .ref (ca 10), .ref (ca 11)]] (if chT (cy 3) ch = 0 then restV (fst_ (isRestB (tn ch)) 4 0) else (-1))) := by
  refine Ct.intro (by decide +kernel) (Nat.le_of_ble_eq_true rfl) (lv := [(0, .ref x), (1, .int ch)]) rfl ?_
  intro Z X Y
  refine v_aload_n X dX6_rest_0 rfl 0 rfl ?_
  refine v_iload_n X dX6_rest_1 rfl 1 rfl ?_
  refine v_roI1 X (rn_V X k_X6_chainTrouble ml_X6_230 dX6_rest_2 (c_X6_chainTrouble l E x xa g tr fl pl cy ca ch (by first | assumption | omega)) rfl 0 rfl rfl (by decide) (by decide) (by omega) (by omega) (Nat.le_of_ble_eq_true rfl)) [0, 1] rfl rfl ?_
  refine v_istore_n X dX6_rest_5 rfl (by decide) (lv' := [(2, .int (nI (chT (cy 3) ch))), (0, .ref x), (1, .int ch)]) rfl ?_
  refine v_iload_n X dX6_rest_6 rfl 0 rfl ?_
  refine v_ifN_eq X dX6_rest_7 (tgt := 16) (by decide) (Nat.lt_of_le_of_lt (chT_le _ _) (by decide)) (fun h7 => ?_) (fun h7 => ?_)
  · obtain ⟨hm0, kc, hkc, rfl⟩ := chT_0 h7
    refine v_iconst X dX6_rest_16 (v := nI 0) (by decide) ?_
    refine v_istore_n X dX6_rest_17 rfl (by decide) (lv' := [(3, .int (nI 0)), (2, .int (nI (chT (cy 3) (nI kc)))), (0, .ref x), (1, .int (nI kc))]) rfl ?_
    have L18 : ∀ (j18 : Nat) (vp : Nat), (vp ≤ 4 ∧ fst_ (isRestB kc) 4 0 = fst_ (isRestB kc) (4 - vp) vp) → 4 - vp < j18 → V E Z 18 [(0, .ref x), (1, .int (nI kc)), (2, .int (nI (chT (cy 3) (nI kc)))), (3, .int (nI vp))] [] [ob x 6 [.ref (xa 0), .ref g, .ref (xa 2), .ref (xa 3), .ref (xa 4), .ref (xa 5), .ref (xa 6), .ref (xa 7), .int (nI tr), .int (nI fl), .int pl], ob g 0 [.int (nI (cy 0)), .int (nI (cy 1)), .int (nI (cy 2)), .int (nI (cy 3)), .int (nI (cy 4)), .int (nI (cy 5)), .int (nI (cy 6)), .int (nI (cy 7)), .ref (ca 0), .ref (ca 1), .ref (ca 2), .ref (ca 3), .ref (ca 4), .ref (ca 5), .ref (ca 6), .ref (ca 7), .ref (ca 8), .ref (ca 9), .ref (ca 10), .ref (ca 11)]] 0 0 := by
      intro j18
      induction j18 with
      | zero => intro vp hI hM; exact absurd hM (Nat.not_lt_zero _)
      | succ j18 ih18 =>
        intro vp hI18 hM18
        obtain ⟨hc, hq⟩ := id hI18
        refine v_iload_n X dX6_rest_18 rfl 3 rfl ?_
        refine v_iconst X dX6_rest_19 (v := nI 4) (by decide) ?_
        refine v_icmpN_ge X dX6_rest_20 (tgt := 68) (by decide) (by omega) (by decide) (fun h20 => ?_) (fun h20 => ?_)
        · refine v_aload_n X dX6_rest_68 rfl 0 rfl ?_
          refine v_bipush X dX6_rest_69 (v := (-2)) (by decide) ?_
          refine v_wrI1 X (rn_V X k_X6_answered ml_X6_92 dX6_rest_71 (c_X6_answered l E x xa g tr fl pl (-2) ) rfl 0 rfl rfl (by decide) (by decide) (by omega) (by omega) (Nat.le_of_ble_eq_true rfl)) [0] rfl rfl (ws' := [ob x 6 [.ref (xa 0), .ref g, .ref (xa 2), .ref (xa 3), .ref (xa 4), .ref (xa 5), .ref (xa 6), .ref (xa 7), .int (nI 0), .int (nI fl), .int pl], ob g 0 [.int (nI (cy 0)), .int (nI (cy 1)), .int (nI (cy 2)), .int (nI (cy 3)), .int (nI (cy 4)), .int (nI (cy 5)), .int (nI (cy 6)), .int (nI (cy 7)), .ref (ca 0), .ref (ca 1), .ref (ca 2), .ref (ca 3), .ref (ca 4), .ref (ca 5), .ref (ca 6), .ref (ca 7), .ref (ca 8), .ref (ca 9), .ref (ca 10), .ref (ca 11)]]) rfl rfl ?_
          exact v_iret X Y dX6_rest_74 (wrI_of (by rw [h7]) (by rw [if_pos h7, tn_n (show kc < 2 ^ 31 by omega), hq, show 4 - vp = 0 by omega]; rfl)) (by omega) (by omega)
        · refine v_iload_n X dX6_rest_23 rfl 1 rfl ?_
          refine v_iload_n X dX6_rest_24 rfl 3 rfl ?_
          refine v_roI1 X (rn_S X k_X6_isRest ml_X6_237 dX6_rest_25 (c_X6_isRest l E kc vp (by first | assumption | omega)) rfl (by decide) (by decide) (by omega) (by omega) (Nat.le_of_ble_eq_true rfl)) [] rfl rfl ?_
          refine v_ifB_eq X dX6_rest_28 (tgt := 62) (by decide) (fun h28 => ?_) (fun h28 => ?_)
          · refine v_iinc X dX6_rest_62 3 rfl (v := nI (vp + 1)) (nI_inc vp) (by decide) (lv' := [(3, .int (nI (vp + 1))), (0, .ref x), (1, .int (nI kc)), (2, .int (nI (chT (cy 3) (nI kc))))]) rfl ?_
            refine v_goto X dX6_rest_65 (tgt := 18) (by decide) ?_
            refine V.lvs [1, 2, 3, 0] rfl ?_
            exact ih18 (vp + 1) (⟨by omega, hq.trans (fst_no (by omega) h28)⟩) (by omega)
          · refine v_aload_n X dX6_rest_31 rfl 0 rfl ?_
            refine v_iload_n X dX6_rest_32 rfl 3 rfl ?_
            refine v_roI1 X (rn_S X k_X6_shavesIn ml_X6_240 dX6_rest_33 (c_X6_shavesIn l E vp (by first | assumption | omega)) rfl (by decide) (by decide) (by omega) (by omega) (Nat.le_of_ble_eq_true rfl)) [] rfl rfl ?_
            refine v_ifB_eq X dX6_rest_36 (tgt := 44) (by decide) (fun h36 => ?_) (fun h36 => ?_)
            · refine v_iconst X dX6_rest_44 (v := nI 0) (by decide) ?_
              refine v_iload_n X dX6_rest_45 rfl 3 rfl ?_
              refine v_roI1 X (rn_S X k_X6_readIn ml_X6_243 dX6_rest_46 (c_X6_readIn l E vp (by first | assumption | omega)) rfl (by decide) (by decide) (by omega) (by omega) (Nat.le_of_ble_eq_true rfl)) [] rfl rfl ?_
              refine v_ifB_eq X dX6_rest_49 (tgt := 56) (by decide) (fun h49 => ?_) (fun h49 => ?_)
              · refine v_iconst X dX6_rest_56 (v := nI 0) (by decide) ?_
                refine v_iadd X dX6_rest_57 ?_
                refine v_eqi (x' := nI (0 + 0)) (nI_add _ _) ?_
                refine v_wrI1 X (rn_V X k_X6_answered ml_X6_92 dX6_rest_58 (c_X6_answered l E x xa g tr fl pl (nI (0 + 0)) ) rfl 0 rfl rfl (by decide) (by decide) (by omega) (by omega) (Nat.le_of_ble_eq_true rfl)) [0] rfl rfl (ws' := [ob x 6 [.ref (xa 0), .ref g, .ref (xa 2), .ref (xa 3), .ref (xa 4), .ref (xa 5), .ref (xa 6), .ref (xa 7), .int (nI 0), .int (nI fl), .int pl], ob g 0 [.int (nI (cy 0)), .int (nI (cy 1)), .int (nI (cy 2)), .int (nI (cy 3)), .int (nI (cy 4)), .int (nI (cy 5)), .int (nI (cy 6)), .int (nI (cy 7)), .ref (ca 0), .ref (ca 1), .ref (ca 2), .ref (ca 3), .ref (ca 4), .ref (ca 5), .ref (ca 6), .ref (ca 7), .ref (ca 8), .ref (ca 9), .ref (ca 10), .ref (ca 11)]]) rfl rfl ?_
                exact v_iret X Y dX6_rest_61 (wrI_of (by rw [h7]) (by rw [if_pos h7, tn_n (show kc < 2 ^ 31 by omega), hq, fst_hit (by omega) h28, restV, if_neg (of_decide_eq_false h36), if_neg (of_decide_eq_false h49)])) (by omega) (by omega)
              · refine v_iconst X dX6_rest_52 (v := nI 1) (by decide) ?_
                refine v_goto X dX6_rest_53 (tgt := 57) (by decide) ?_
                refine v_iadd X dX6_rest_57 ?_
                refine v_eqi (x' := nI (0 + 1)) (nI_add _ _) ?_
                refine v_wrI1 X (rn_V X k_X6_answered ml_X6_92 dX6_rest_58 (c_X6_answered l E x xa g tr fl pl (nI (0 + 1)) ) rfl 0 rfl rfl (by decide) (by decide) (by omega) (by omega) (Nat.le_of_ble_eq_true rfl)) [0] rfl rfl (ws' := [ob x 6 [.ref (xa 0), .ref g, .ref (xa 2), .ref (xa 3), .ref (xa 4), .ref (xa 5), .ref (xa 6), .ref (xa 7), .int (nI 0), .int (nI fl), .int pl], ob g 0 [.int (nI (cy 0)), .int (nI (cy 1)), .int (nI (cy 2)), .int (nI (cy 3)), .int (nI (cy 4)), .int (nI (cy 5)), .int (nI (cy 6)), .int (nI (cy 7)), .ref (ca 0), .ref (ca 1), .ref (ca 2), .ref (ca 3), .ref (ca 4), .ref (ca 5), .ref (ca 6), .ref (ca 7), .ref (ca 8), .ref (ca 9), .ref (ca 10), .ref (ca 11)]]) rfl rfl ?_
                exact v_iret X Y dX6_rest_61 (wrI_of (by rw [h7]) (by rw [if_pos h7, tn_n (show kc < 2 ^ 31 by omega), hq, fst_hit (by omega) h28, restV, if_neg (of_decide_eq_false h36), if_pos (of_decide_eq_true h49)])) (by omega) (by omega)
            · refine v_bipush X dX6_rest_39 (v := nI 10) (by decide) ?_
              refine v_goto X dX6_rest_41 (tgt := 45) (by decide) ?_
              refine v_iload_n X dX6_rest_45 rfl 3 rfl ?_
              refine v_roI1 X (rn_S X k_X6_readIn ml_X6_243 dX6_rest_46 (c_X6_readIn l E vp (by first | assumption | omega)) rfl (by decide) (by decide) (by omega) (by omega) (Nat.le_of_ble_eq_true rfl)) [] rfl rfl ?_
              refine v_ifB_eq X dX6_rest_49 (tgt := 56) (by decide) (fun h49 => ?_) (fun h49 => ?_)
              · refine v_iconst X dX6_rest_56 (v := nI 0) (by decide) ?_
                refine v_iadd X dX6_rest_57 ?_
                refine v_eqi (x' := nI (10 + 0)) (nI_add _ _) ?_
                refine v_wrI1 X (rn_V X k_X6_answered ml_X6_92 dX6_rest_58 (c_X6_answered l E x xa g tr fl pl (nI (10 + 0)) ) rfl 0 rfl rfl (by decide) (by decide) (by omega) (by omega) (Nat.le_of_ble_eq_true rfl)) [0] rfl rfl (ws' := [ob x 6 [.ref (xa 0), .ref g, .ref (xa 2), .ref (xa 3), .ref (xa 4), .ref (xa 5), .ref (xa 6), .ref (xa 7), .int (nI 0), .int (nI fl), .int pl], ob g 0 [.int (nI (cy 0)), .int (nI (cy 1)), .int (nI (cy 2)), .int (nI (cy 3)), .int (nI (cy 4)), .int (nI (cy 5)), .int (nI (cy 6)), .int (nI (cy 7)), .ref (ca 0), .ref (ca 1), .ref (ca 2), .ref (ca 3), .ref (ca 4), .ref (ca 5), .ref (ca 6), .ref (ca 7), .ref (ca 8), .ref (ca 9), .ref (ca 10), .ref (ca 11)]]) rfl rfl ?_
                exact v_iret X Y dX6_rest_61 (wrI_of (by rw [h7]) (by rw [if_pos h7, tn_n (show kc < 2 ^ 31 by omega), hq, fst_hit (by omega) h28, restV, if_pos (of_decide_eq_true h36), if_neg (of_decide_eq_false h49)])) (by omega) (by omega)
              · refine v_iconst X dX6_rest_52 (v := nI 1) (by decide) ?_
                refine v_goto X dX6_rest_53 (tgt := 57) (by decide) ?_
                refine v_iadd X dX6_rest_57 ?_
                refine v_eqi (x' := nI (10 + 1)) (nI_add _ _) ?_
                refine v_wrI1 X (rn_V X k_X6_answered ml_X6_92 dX6_rest_58 (c_X6_answered l E x xa g tr fl pl (nI (10 + 1)) ) rfl 0 rfl rfl (by decide) (by decide) (by omega) (by omega) (Nat.le_of_ble_eq_true rfl)) [0] rfl rfl (ws' := [ob x 6 [.ref (xa 0), .ref g, .ref (xa 2), .ref (xa 3), .ref (xa 4), .ref (xa 5), .ref (xa 6), .ref (xa 7), .int (nI 0), .int (nI fl), .int pl], ob g 0 [.int (nI (cy 0)), .int (nI (cy 1)), .int (nI (cy 2)), .int (nI (cy 3)), .int (nI (cy 4)), .int (nI (cy 5)), .int (nI (cy 6)), .int (nI (cy 7)), .ref (ca 0), .ref (ca 1), .ref (ca 2), .ref (ca 3), .ref (ca 4), .ref (ca 5), .ref (ca 6), .ref (ca 7), .ref (ca 8), .ref (ca 9), .ref (ca 10), .ref (ca 11)]]) rfl rfl ?_
                exact v_iret X Y dX6_rest_61 (wrI_of (by rw [h7]) (by rw [if_pos h7, tn_n (show kc < 2 ^ 31 by omega), hq, fst_hit (by omega) h28, restV, if_pos (of_decide_eq_true h36), if_pos (of_decide_eq_true h49)])) (by omega) (by omega)
    refine V.lvs [2, 3, 1, 0] rfl ?_
    exact L18 _ 0 (⟨by omega, rfl⟩) (Nat.lt_succ_self _)
  · refine v_aload_n X dX6_rest_10 rfl 1 rfl ?_
    refine v_iload_n X dX6_rest_11 rfl 0 rfl ?_
    refine v_wrI1 X (rn_V X k_X6_refused ml_X6_74 dX6_rest_12 (c_X6_refused l E x xa g tr fl pl (chT (cy 3) ch) ) rfl 0 rfl rfl (by decide) (by decide) (by omega) (by omega) (Nat.le_of_ble_eq_true rfl)) [0] rfl rfl (ws' := [ob x 6 [.ref (xa 0), .ref g, .ref (xa 2), .ref (xa 3), .ref (xa 4), .ref (xa 5), .ref (xa 6), .ref (xa 7), .int (nI (chT (cy 3) ch)), .int (nI fl), .int pl], ob g 0 [.int (nI (cy 0)), .int (nI (cy 1)), .int (nI (cy 2)), .int (nI (cy 3)), .int (nI (cy 4)), .int (nI (cy 5)), .int (nI (cy 6)), .int (nI (cy 7)), .ref (ca 0), .ref (ca 1), .ref (ca 2), .ref (ca 3), .ref (ca 4), .ref (ca 5), .ref (ca 6), .ref (ca 7), .ref (ca 8), .ref (ca 9), .ref (ca 10), .ref (ca 11)]]) rfl rfl ?_
    exact v_iret X Y dX6_rest_15 (wrI_of rfl ((if_neg h7).symm)) (by omega) (by omega)
