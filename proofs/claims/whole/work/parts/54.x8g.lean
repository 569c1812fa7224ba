set_option maxRecDepth 100000 in
set_option maxHeartbeats 4000000 in
theorem c_X8_lost (l : Launch) (E : Et) (k : Nat) (th : Nat) (tr : Nat) (wh : Int32) (g : Nat) (rr : Option Nat) (q : Nat → Nat) (z : Nat → Nat) (nb : Int32) (wa : Int32) (wd : Int64) (ev : Nat) (al : Int32) (wl : Int64) (n : Nat)  : Ct l E yX8_lost cX8_lost 2 (some .int) 1 0 0 [.ref k, .int (nI n)] [ob k 8 [.int (nI th), .int (nI tr), .int wh, .ref g, va_rf rr, .ref (q 5), .int (nI (z 6)), .int (nI (z 7)), .int (nI (z 8)), .int (nI (z 9)), .int (nI (z 10)), .int nb, .int (nI (z 12)), .int wa, .long wd, .ref (q 15), .ref (q 16), .ref (q 17), .ref (q 18), .int (nI (z 19)), .int (nI (z 20)), .ref (q 21), .long (lN ev), .ref (q 23), .ref (q 24), .int (nI (z 25)), .ref (q 26), .int al, .long wl, .int (nI (z 29))]] (wrI [ob k 8 [.int (nI th), .int (nI n), .int (-1), .ref g, va_rf rr, .ref (q 5), .int (nI (z 6)), .int (nI (z 7)), .int (nI (z 8)), .int (nI (z 9)), .int (nI (z 10)), .int nb, .int (nI (z 12)), .int wa, .long wd, .ref (q 15), .ref (q 16), .ref (q 17), .ref (q 18), .int (nI (z 19)), .int (nI (z 20)), .ref (q 21), .long (lN ev), .ref (q 23), .ref (q 24), .int (nI (z 25)), .ref (q 26), .int al, .long wl, .int (nI (z 29))]] (-100)) := by
  refine Ct.intro (by decide +kernel) (Nat.le_of_ble_eq_true rfl) (lv := [(0, .ref k), (1, .int (nI n))]) rfl ?_
  intro Z X Y
  refine v_aload_n X dX8_lost_0 rfl 0 rfl ?_
  refine v_iload_n X dX8_lost_1 rfl 1 rfl ?_
  refine v_wrI1 X (rn_V X k_X8_refused ml_X8_49 dX8_lost_2 (c_X8_refused l E k th tr wh g rr q z nb wa wd ev al wl n ) rfl 0 rfl rfl (by decide) (by decide) (by omega) (by omega) (Nat.le_of_ble_eq_true rfl)) [0] rfl rfl (ws' := [ob k 8 [.int (nI th), .int (nI n), .int (-1), .ref g, va_rf rr, .ref (q 5), .int (nI (z 6)), .int (nI (z 7)), .int (nI (z 8)), .int (nI (z 9)), .int (nI (z 10)), .int nb, .int (nI (z 12)), .int wa, .long wd, .ref (q 15), .ref (q 16), .ref (q 17), .ref (q 18), .int (nI (z 19)), .int (nI (z 20)), .ref (q 21), .long (lN ev), .ref (q 23), .ref (q 24), .int (nI (z 25)), .ref (q 26), .int al, .long wl, .int (nI (z 29))]]) rfl rfl ?_
  refine v_pop X dX8_lost_5 rfl ?_
  refine v_bipush X dX8_lost_6 (v := (-100)) (by decide) ?_
  exact v_iret X Y dX8_lost_8 (wrI_of rfl rfl) (by omega) (by omega)
set_option maxRecDepth 100000 in
set_option maxHeartbeats 4000000 in
theorem c_X8_many (l : Launch) (E : Et) (a : Nat) (ha : a < 2 ^ 64) : Ct l E yX8_many cX8_many 5 (some .int) 0 0 0 [.long (lN a)] [] (roI [] (nI (cnt (fun k => a.testBit k) 64))) := by
  refine Ct.intro (by decide +kernel) (Nat.le_of_ble_eq_true rfl) (lv := [(0, .long (lN a))]) rfl ?_
  intro Z X Y
  refine v_iconst X dX8_many_0 (v := nI 0) (by decide) ?_
  refine v_istore_n X dX8_many_1 rfl (by decide) (lv' := [(2, .int (nI 0)), (0, .long (lN a))]) rfl ?_
  refine v_lload_n X dX8_many_2 rfl 1 rfl ?_
  refine v_lstore_n X dX8_many_3 rfl (by decide) (lv' := [(3, .long (lN a)), (2, .int (nI 0)), (0, .long (lN a))]) rfl ?_
  have L4 : ∀ (j4 : Nat) (vb : Nat) (vn : Nat), (vb < 2 ^ 64 ∧ vn + cnt (fun k => vb.testBit k) 64 = cnt (fun k => a.testBit k) 64) → vb < j4 → V E Z 4 [(0, .long (lN a)), (2, .int (nI vn)), (3, .long (lN vb))] [] [] 0 0 := by
    intro j4
    induction j4 with
    | zero => intro vb vn hI hM; exact absurd hM (Nat.not_lt_zero _)
    | succ j4 ih4 =>
      intro vb vn hI4 hM4
      obtain ⟨hc, hb⟩ := id hI4
      refine v_lload_n X dX8_many_4 rfl 2 rfl ?_
      refine v_lconst X dX8_many_5 (v := lN 0) (by decide) ?_
      refine v_lcmp X dX8_many_6 ?_
      refine v_ifLN_eq X dX8_many_7 (tgt := 22) (by decide) hc (by decide) (fun h7 => ?_) (fun h7 => ?_)
      · refine v_iload_n X dX8_many_22 rfl 1 rfl ?_
        exact v_iret X Y dX8_many_23 (roI_of (by subst h7; rw [← hb, cnt64_0]; rfl)) (by omega) (by omega)
      · refine v_iinc X dX8_many_10 1 rfl (v := nI (vn + 1)) (nI_inc vn) (by decide) (lv' := [(2, .int (nI (vn + 1))), (0, .long (lN a)), (3, .long (lN vb))]) rfl ?_
        refine v_lload_n X dX8_many_13 rfl 2 rfl ?_
        refine v_lload_n X dX8_many_14 rfl 2 rfl ?_
        refine v_lconst X dX8_many_15 (v := lN 1) (by decide) ?_
        refine v_lsub X dX8_many_16 ?_
        refine v_eql (x' := lN (vb - 1)) (lN_sub (by omega)) ?_
        refine v_land X dX8_many_17 ?_
        refine v_eql (x' := lN (vb &&& (vb - 1))) (fb_andL _ _) ?_
        refine v_lstore_n X dX8_many_18 rfl (by decide) (lv' := [(3, .long (lN (vb &&& (vb - 1)))), (2, .int (nI (vn + 1))), (0, .long (lN a))]) rfl ?_
        refine v_goto X dX8_many_19 (tgt := 4) (by decide) ?_
        refine V.lvs [2, 1, 0] rfl ?_
        exact ih4 (vb &&& (vb - 1)) (vn + 1) (⟨Nat.lt_of_le_of_lt Nat.and_le_left hc, by have := low64 hc h7; omega⟩) (by have : vb &&& (vb - 1) ≤ vb - 1 := Nat.and_le_right; omega)
  refine V.lvs [2, 1, 0] rfl ?_
  exact L4 _ a 0 (⟨ha, Nat.zero_add _⟩) (Nat.lt_succ_self _)
set_option maxRecDepth 100000 in
set_option maxHeartbeats 4000000 in
theorem c_X8_holds (l : Launch) (E : Et) (a : Nat) (i : Nat) (ha : a < 2 ^ 64) (hi : i < 64) : Ct l E yX8_holds cX8_holds 3 (some .boolean) 0 0 0 [.long (lN a), .int (nI i)] [] (roI [] (nI (a.testBit i).toNat)) := by
  refine Ct.intro (by decide +kernel) (Nat.le_of_ble_eq_true rfl) (lv := [(0, .long (lN a)), (2, .int (nI i))]) rfl ?_
  intro Z X Y
  refine v_lload_n X dX8_holds_0 rfl 0 rfl ?_
  refine v_iload_n X dX8_holds_1 rfl 1 rfl ?_
  refine v_lshr X dX8_holds_2 (v := lN a >>> ((nI i).toInt64 &&& 63)) rfl ?_
  refine v_lconst X dX8_holds_3 (v := lN 1) (by decide) ?_
  refine v_land X dX8_holds_4 ?_
  refine v_eql (x' := lN ((a.testBit i).toNat)) (lN_hold ha hi) ?_
  refine v_lconst X dX8_holds_5 (v := lN 1) (by decide) ?_
  refine v_lcmp X dX8_holds_6 ?_
  refine v_ifLN_ne X dX8_holds_7 (tgt := 14) (by decide) (by cases (a.testBit i) <;> decide) (by decide) (fun h7 => ?_) (fun h7 => ?_)
  · refine v_iconst X dX8_holds_14 (v := nI 0) (by decide) ?_
    exact v_zret X Y dX8_holds_15 (by decide) (roI_of (by cases hq : a.testBit i <;> simp_all)) (by omega) (by omega)
  · refine v_iconst X dX8_holds_10 (v := nI 1) (by decide) ?_
    refine v_goto X dX8_holds_11 (tgt := 15) (by decide) ?_
    exact v_zret X Y dX8_holds_15 (by decide) (roI_of (by cases hq : a.testBit i <;> simp_all)) (by omega) (by omega)
set_option maxRecDepth 100000 in
set_option maxHeartbeats 4000000 in
theorem c_X8_common (l : Launch) (E : Et) (u : Nat) (w : Nat) (hu : u < 2 ^ 63) (hw : w < 2 ^ 63) : Ct l E yX8_common cX8_common 10 (some .long) 0 0 0 [.long (lN u), .long (lN w)] [] (roL [] (lN (Nat.gcd u w))) := by
  refine Ct.intro (by decide +kernel) (Nat.le_of_ble_eq_true rfl) (lv := [(0, .long (lN u)), (2, .long (lN w))]) rfl ?_
  intro Z X Y
  refine v_lload_n X dX8_common_0 rfl 0 rfl ?_
  refine v_lstore X dX8_common_1 (by decide) (lv' := [(4, .long (lN u)), (0, .long (lN u)), (2, .long (lN w))]) rfl ?_
  refine v_lload_n X dX8_common_3 rfl 2 rfl ?_
  refine v_lstore X dX8_common_4 (by decide) (lv' := [(6, .long (lN w)), (4, .long (lN u)), (0, .long (lN u)), (2, .long (lN w))]) rfl ?_
  have L6 : ∀ (j6 : Nat) (vx : Nat) (vy : Nat), (vx < 2 ^ 63 ∧ vy < 2 ^ 63 ∧ Nat.gcd vx vy = Nat.gcd u w) → vy < j6 → V E Z 6 [(0, .long (lN u)), (2, .long (lN w)), (4, .long (lN vx)), (6, .long (lN vy))] [] [] 0 0 := by
    intro j6
    induction j6 with
    | zero => intro vx vy hI hM; exact absurd hM (Nat.not_lt_zero _)
    | succ j6 ih6 =>
      intro vx vy hI6 hM6
      obtain ⟨hvx, hvy, hq⟩ := id hI6
      refine v_lload X dX8_common_6 3 rfl ?_
      refine v_lconst X dX8_common_8 (v := lN 0) (by decide) ?_
      refine v_lcmp X dX8_common_9 ?_
      refine v_ifLN_eq X dX8_common_10 (tgt := 31) (by decide) (by omega) (by decide) (fun h10 => ?_) (fun h10 => ?_)
      · refine v_lload X dX8_common_31 2 rfl ?_
        exact v_lret X Y dX8_common_33 (roL_of (by rw [← hq, h10, Nat.gcd_zero_right])) (by omega) (by omega)
      · refine v_lload X dX8_common_13 2 rfl ?_
        refine v_lload X dX8_common_15 3 rfl ?_
        refine v_lrem X dX8_common_17 (lN_ne0 hvy h10) ?_
        refine v_eql (x' := lN (vx % vy)) (lN_rem hvx h10 hvy) ?_
        refine v_lstore X dX8_common_18 (by decide) (lv' := [(8, .long (lN (vx % vy))), (0, .long (lN u)), (2, .long (lN w)), (4, .long (lN vx)), (6, .long (lN vy))]) rfl ?_
        refine v_lload X dX8_common_20 4 rfl ?_
        refine v_lstore X dX8_common_22 (by decide) (lv' := [(4, .long (lN vy)), (8, .long (lN (vx % vy))), (0, .long (lN u)), (2, .long (lN w)), (6, .long (lN vy))]) rfl ?_
        refine v_lload X dX8_common_24 1 rfl ?_
        refine v_lstore X dX8_common_26 (by decide) (lv' := [(6, .long (lN (vx % vy))), (4, .long (lN vy)), (8, .long (lN (vx % vy))), (0, .long (lN u)), (2, .long (lN w))]) rfl ?_
        refine v_goto X dX8_common_28 (tgt := 6) (by decide) ?_
        refine V.lvs [3, 4, 1, 0] rfl ?_
        exact ih6 vy (vx % vy) (⟨hvy, Nat.lt_of_le_of_lt (Nat.mod_le _ _) hvx, by rw [← hq, Nat.gcd_comm vx vy, Nat.gcd_rec vy vx, Nat.gcd_comm]⟩) (by have := Nat.mod_lt vx (Nat.pos_of_ne_zero h10); omega)
  refine V.lvs [2, 3, 1, 0] rfl ?_
  exact L6 _ u w (⟨hu, hw, rfl⟩) (Nat.lt_succ_self _)
set_option maxRecDepth 100000 in
set_option maxHeartbeats 4000000 in
theorem c_X8_fraction (l : Launch) (E : Et) (k : Nat) (th : Nat) (tr : Nat) (wh : Int32) (g : Nat) (rr : Option Nat) (q : Nat → Nat) (z : Nat → Nat) (nb : Int32) (wa : Int32) (wd : Int64) (ev : Nat) (al : Int32) (wl : Int64) (u : Nat) (w : Nat) (b : Bool) (hu : u < 2 ^ 63) (hw : w < 2 ^ 63) (hz : w = 0 → u = 0) : Ct l E yX8_fraction cX8_fraction 6 (some .long) 1 0 0 [.ref k, .long (lN u), .long (lN w), .int (nI (b).toNat)] [ob k 8 [.int (nI th), .int (nI tr), .int wh, .ref g, va_rf rr, .ref (q 5), .int (nI (z 6)), .int (nI (z 7)), .int (nI (z 8)), .int (nI (z 9)), .int (nI (z 10)), .int nb, .int (nI (z 12)), .int wa, .long wd, .ref (q 15), .ref (q 16), .ref (q 17), .ref (q 18), .int (nI (z 19)), .int (nI (z 20)), .ref (q 21), .long (lN ev), .ref (q 23), .ref (q 24), .int (nI (z 25)), .ref (q 26), .int al, .long wl, .int (nI (z 29))]] (wrL [ob k 8 [.int (nI th), .int (nI 0), .int (-1), .ref g, va_rf rr, .ref (q 5), .int (nI (z 6)), .int (nI (z 7)), .int (nI (z 8)), .int (nI (z 9)), .int (nI (z 10)), .int nb, .int (nI (z 12)), .int wa, .long wd, .ref (q 15), .ref (q 16), .ref (q 17), .ref (q 18), .int (nI (z 19)), .int (nI (z 20)), .ref (q 21), .long (lN ev), .ref (q 23), .ref (q 24), .int (nI (z 25)), .ref (q 26), .int al, .long wl, .int (nI (z 29))]] (lN (lowT u w b))) := by
  refine Ct.intro (by decide +kernel) (Nat.le_of_ble_eq_true rfl) (lv := [(0, .ref k), (1, .long (lN u)), (3, .long (lN w)), (5, .int (nI (b).toNat))]) rfl ?_
  intro Z X Y
  refine v_aload_n X dX8_fraction_0 rfl 0 rfl ?_
  refine v_iconst X dX8_fraction_1 (v := nI 0) (by decide) ?_
  refine v_wrI1 X (rn_V X k_X8_good ml_X8_53 dX8_fraction_2 (c_X8_good l E k th tr wh g rr q z nb wa wd ev al wl (nI 0) ) rfl 0 rfl rfl (by decide) (by decide) (by omega) (by omega) (Nat.le_of_ble_eq_true rfl)) [0] rfl rfl (ws' := [ob k 8 [.int (nI th), .int (nI 0), .int (-1), .ref g, va_rf rr, .ref (q 5), .int (nI (z 6)), .int (nI (z 7)), .int (nI (z 8)), .int (nI (z 9)), .int (nI (z 10)), .int nb, .int (nI (z 12)), .int wa, .long wd, .ref (q 15), .ref (q 16), .ref (q 17), .ref (q 18), .int (nI (z 19)), .int (nI (z 20)), .ref (q 21), .long (lN ev), .ref (q 23), .ref (q 24), .int (nI (z 25)), .ref (q 26), .int al, .long wl, .int (nI (z 29))]]) rfl rfl ?_
  refine v_pop X dX8_fraction_5 rfl ?_
  refine v_lload_n X dX8_fraction_6 rfl 2 rfl ?_
  refine v_lconst X dX8_fraction_7 (v := lN 0) (by decide) ?_
  refine v_lcmp X dX8_fraction_8 ?_
  refine v_ifLN_ne X dX8_fraction_9 (tgt := 23) (by decide) (by omega) (by decide) (fun h9 => ?_) (fun h9 => ?_)
  · have hg : ¬ Nat.gcd u w = 0 := fun q => h9 (Nat.eq_zero_of_gcd_eq_zero_right q)
    have hg63 : Nat.gcd u w < 2 ^ 63 := Nat.lt_of_le_of_lt (Nat.gcd_le_right _ (Nat.pos_of_ne_zero h9)) hw
    refine v_iload X dX8_fraction_23 3 rfl ?_
    refine v_ifB_eq X dX8_fraction_25 (tgt := 32) (by decide) (fun h25 => ?_) (fun h25 => ?_)
    · refine v_lload_n X dX8_fraction_32 rfl 1 rfl ?_
      refine v_lload_n X dX8_fraction_33 rfl 1 rfl ?_
      refine v_lload_n X dX8_fraction_34 rfl 2 rfl ?_
      refine v_roL1 X (rn_S X k_X8_common ml_X8_56 dX8_fraction_35 (c_X8_common l E u w (by first | assumption | omega) (by first | assumption | omega)) rfl (by decide) (by decide) (by omega) (by omega) (Nat.le_of_ble_eq_true rfl)) [] rfl rfl ?_
      refine v_ldiv X dX8_fraction_38 (lN_ne0 hg63 hg) ?_
      refine v_eql (x' := lN (u / Nat.gcd u w)) (lN_div hu hg hg63) ?_
      exact v_lret X Y dX8_fraction_39 (wrL_of rfl (by rw [lowT, Nat.gcd_comm w u, if_neg hg, h25]; rfl)) (by omega) (by omega)
    · refine v_lload_n X dX8_fraction_28 rfl 2 rfl ?_
      refine v_goto X dX8_fraction_29 (tgt := 33) (by decide) ?_
      refine v_lload_n X dX8_fraction_33 rfl 1 rfl ?_
      refine v_lload_n X dX8_fraction_34 rfl 2 rfl ?_
      refine v_roL1 X (rn_S X k_X8_common ml_X8_56 dX8_fraction_35 (c_X8_common l E u w (by first | assumption | omega) (by first | assumption | omega)) rfl (by decide) (by decide) (by omega) (by omega) (Nat.le_of_ble_eq_true rfl)) [] rfl rfl ?_
      refine v_ldiv X dX8_fraction_38 (lN_ne0 hg63 hg) ?_
      refine v_eql (x' := lN (w / Nat.gcd u w)) (lN_div hw hg hg63) ?_
      exact v_lret X Y dX8_fraction_39 (wrL_of rfl (by rw [lowT, Nat.gcd_comm w u, if_neg hg, h25]; rfl)) (by omega) (by omega)
  · refine v_iload X dX8_fraction_12 3 rfl ?_
    refine v_ifB_eq X dX8_fraction_14 (tgt := 21) (by decide) (fun h14 => ?_) (fun h14 => ?_)
    · refine v_lconst X dX8_fraction_21 (v := lN 0) (by decide) ?_
      exact v_lret X Y dX8_fraction_22 (wrL_of rfl (by rw [h9, hz h9, h14]; rfl)) (by omega) (by omega)
    · refine v_lconst X dX8_fraction_17 (v := lN 1) (by decide) ?_
      refine v_goto X dX8_fraction_18 (tgt := 22) (by decide) ?_
      exact v_lret X Y dX8_fraction_22 (wrL_of rfl (by rw [h9, hz h9, h14]; rfl)) (by omega) (by omega)
set_option maxRecDepth 100000 in
set_option maxHeartbeats 4000000 in
theorem c_X8_isKept (l : Launch) (E : Et) (k : Nat) (th : Nat) (tr : Nat) (wh : Int32) (g : Nat) (rr : Option Nat) (q : Nat → Nat) (z : Nat → Nat) (nb : Int32) (wa : Int32) (wd : Int64) (ev : Nat) (al : Int32) (wl : Int64) (cy : Nat → Nat) (kp : Nat) (nc : Nat) (cb : Nat → Nat) (fo : Nat → Nat) (on : Nat → Nat) (tw : Nat → Int32) (Fs : Nat → Nat) (Ft : Nat → Nat) (mn : Nat → Int32) (ink : Nat → Nat) (t : Nat) (dd : Nat) (c : Nat) (s : Nat) (hc : c < 8) (hs : s < 64) (hfo : fo c ≤ 5) (hon : on c < 6) (htw : okT (tw c)) (hFs : Fs c = strN (fo c) (swI (nI (on c))) (swI (tw c))) (hFt : Ft c = turN (fo c) (swI (nI (on c))) (swI (tw c))) : Ct l E yX8_isKept cX8_isKept 6 (some .boolean) 1 0 0 [.ref k, .int (nI c), .int (nI s)] [ob k 8 [.int (nI th), .int (nI tr), .int wh, .ref g, va_rf rr, .ref (q 5), .int (nI (z 6)), .int (nI (z 7)), .int (nI (z 8)), .int (nI (z 9)), .int (nI (z 10)), .int nb, .int (nI (z 12)), .int wa, .long wd, .ref (q 15), .ref (q 16), .ref (q 17), .ref (q 18), .int (nI (z 19)), .int (nI (z 20)), .ref (q 21), .long (lN ev), .ref (q 23), .ref (q 24), .int (nI (z 25)), .ref (q 26), .int al, .long wl, .int (nI (z 29))], ob g 7 [.int (nI (cy 0)), .int (nI (cy 1)), .int (nI (cy 2)), .int (nI (cy 3)), .int (nI (cy 4)), .int (nI (cy 5)), .int (nI (cy 6)), .int (nI (cy 7)), .int (nI kp), .int (nI nc), .ref (cb 0), .ref (cb 1), .ref (cb 2), .ref (cb 3), .ref (cb 4), .ref (cb 5), .ref (cb 6), .ref (cb 7), .ref (cb 8), .ref (cb 9), .ref (cb 10), .ref (cb 11)], aN E (cb 2) 8 fo, aN E (cb 3) 8 on, aI E (cb 4) 8 tw, aI E (q 16) 25 (xF mn ink t dd)] (roI [ob k 8 [.int (nI th), .int (nI tr), .int wh, .ref g, va_rf rr, .ref (q 5), .int (nI (z 6)), .int (nI (z 7)), .int (nI (z 8)), .int (nI (z 9)), .int (nI (z 10)), .int nb, .int (nI (z 12)), .int wa, .long wd, .ref (q 15), .ref (q 16), .ref (q 17), .ref (q 18), .int (nI (z 19)), .int (nI (z 20)), .ref (q 21), .long (lN ev), .ref (q 23), .ref (q 24), .int (nI (z 25)), .ref (q 26), .int al, .long wl, .int (nI (z 29))], ob g 7 [.int (nI (cy 0)), .int (nI (cy 1)), .int (nI (cy 2)), .int (nI (cy 3)), .int (nI (cy 4)), .int (nI (cy 5)), .int (nI (cy 6)), .int (nI (cy 7)), .int (nI kp), .int (nI nc), .ref (cb 0), .ref (cb 1), .ref (cb 2), .ref (cb 3), .ref (cb 4), .ref (cb 5), .ref (cb 6), .ref (cb 7), .ref (cb 8), .ref (cb 9), .ref (cb 10), .ref (cb 11)], aN E (cb 2) 8 fo, aN E (cb 3) 8 on, aI E (cb 4) 8 tw, aI E (q 16) 25 (xF mn ink t dd)] (nI ((if t.testBit c = true then Ft c else Fs c).testBit s).toNat)) := by
  refine Ct.intro (by decide +kernel) (Nat.le_of_ble_eq_true rfl) (lv := [(0, .ref k), (1, .int (nI c)), (2, .int (nI s))]) rfl ?_
  intro Z X Y
  refine v_aload_n X dX8_isKept_0 rfl 0 rfl ?_
  refine v_get X kcX8 fl_X8_21 dX8_isKept_1 0 rfl rfl ?_
  refine v_bipush X dX8_isKept_4 (v := nI 16) (by decide) ?_
  refine v_iload_n X dX8_isKept_6 rfl 1 rfl ?_
  refine v_iadd X dX8_isKept_7 ?_
  refine v_eqi (x' := nI (16 + c)) (nI_add _ _) ?_
  refine v_iald X dX8_isKept_8 5 rfl (by omega) (by decide) ?_
  refine v_eqi (x' := nI (t.testBit c).toNat) (xF_t hc) ?_
  refine v_iconst X dX8_isKept_9 (v := nI 1) (by decide) ?_
  refine v_icmpN_ne X dX8_isKept_10 (tgt := 17) (by decide) (by cases t.testBit c <;> decide) (by decide) (fun h10 => ?_) (fun h10 => ?_)
  · refine v_iconst X dX8_isKept_17 (v := nI 0) (by decide) ?_
    refine v_istore_n X dX8_isKept_18 rfl (by decide) (lv' := [(3, .int (nI 0)), (0, .ref k), (1, .int (nI c)), (2, .int (nI s))]) rfl ?_
    refine v_iload_n X dX8_isKept_19 rfl 3 rfl ?_
    refine v_aload_n X dX8_isKept_20 rfl 1 rfl ?_
    refine v_get X kcX8 fl_X8_306 dX8_isKept_21 0 rfl rfl ?_
    refine v_getN X kcX7 fl_X8_260 dX8_isKept_24 1 rfl rfl ?_
    refine v_iload_n X dX8_isKept_27 rfl 2 rfl ?_
    refine v_iald X dX8_isKept_28 3 rfl (by omega) (by decide) ?_
    refine v_roI1 X (rn_S X k_X8_bit ml_X8_274 dX8_isKept_29 (c_X8_bit l E s (on c) (by omega) (by omega)) rfl (by decide) (by decide) (by omega) (by omega) (Nat.le_of_ble_eq_true rfl)) [] rfl rfl ?_
    refine v_istore X dX8_isKept_32 (by decide) (lv' := [(4, .int (nI (s.testBit (on c)).toNat)), (3, .int (nI 0)), (0, .ref k), (1, .int (nI c)), (2, .int (nI s))]) rfl ?_
    refine v_aload_n X dX8_isKept_34 rfl 2 rfl ?_
    refine v_get X kcX8 fl_X8_306 dX8_isKept_35 0 rfl rfl ?_
    refine v_getN X kcX7 fl_X8_263 dX8_isKept_38 1 rfl rfl ?_
    refine v_iload_n X dX8_isKept_41 rfl 3 rfl ?_
    refine v_iald X dX8_isKept_42 4 rfl (by omega) (by decide) ?_
    refine v_bipush X dX8_isKept_43 (v := (-2)) (by decide) ?_
    rcases htw with htw | ⟨b, hb, htw⟩
    · refine V.cast (st' := [.int (-2), .int (-2)]) rfl (by rw [htw]) rfl ?_
      refine v_icmp_eq X dX8_isKept_45 (tgt := 68) (by decide) (fun h45 => ?_) (fun h45 => ?_)
      · refine v_iconst X dX8_isKept_68 (v := nI 0) (by decide) ?_
        refine v_istore X dX8_isKept_69 (by decide) (lv' := [(5, .int (nI 0)), (4, .int (nI (s.testBit (on c)).toNat)), (3, .int (nI 0)), (0, .ref k), (1, .int (nI c)), (2, .int (nI s))]) rfl ?_
        refine v_aload_n X dX8_isKept_71 rfl 3 rfl ?_
        refine v_get X kcX8 fl_X8_306 dX8_isKept_72 0 rfl rfl ?_
        refine v_getN X kcX7 fl_X8_257 dX8_isKept_75 1 rfl rfl ?_
        refine v_iload_n X dX8_isKept_78 rfl 4 rfl ?_
        refine v_iald X dX8_isKept_79 2 rfl (by omega) (by decide) ?_
        rcases (show fo c = 0 ∨ fo c = 1 ∨ fo c = 2 ∨ fo c = 3 ∨ fo c = 4 ∨ fo c = 5 by omega) with hsw | hsw | hsw | hsw | hsw | hsw
        · refine v_eqi (x' := nI 0) (congrArg nI hsw) ?_
          refine v_swIn X dX8_isKept_80 (by decide) (by decide) (off := 36) (by decide) (tgt := 116) (by decide) ?_
          refine v_iload X dX8_isKept_116 1 rfl ?_
          refine v_iload_n X dX8_isKept_118 rfl 2 rfl ?_
          refine v_icmp_eq X dX8_isKept_119 (tgt := 126) (by decide) (fun h119 => ?_) (fun h119 => ?_)
          · refine v_iconst X dX8_isKept_126 (v := nI 0) (by decide) ?_
            exact v_zret X Y dX8_isKept_127 (by decide) (roI_of (by rw [hFs, hFt, ck_eq hfo _ hs, swI_tb hon hs, htw, swI_m2, Nat.zero_testBit, hsw]; revert h10 h119; cases t.testBit c <;> cases s.testBit (on c) <;> decide)) (by omega) (by omega)
          · refine v_iconst X dX8_isKept_122 (v := nI 1) (by decide) ?_
            refine v_goto X dX8_isKept_123 (tgt := 127) (by decide) ?_
            exact v_zret X Y dX8_isKept_127 (by decide) (roI_of (by rw [hFs, hFt, ck_eq hfo _ hs, swI_tb hon hs, htw, swI_m2, Nat.zero_testBit, hsw]; revert h10 h119; cases t.testBit c <;> cases s.testBit (on c) <;> decide)) (by omega) (by omega)
        · refine v_eqi (x' := nI 1) (congrArg nI hsw) ?_
          refine v_swIn X dX8_isKept_80 (by decide) (by decide) (off := 48) (by decide) (tgt := 128) (by decide) ?_
          refine v_iload X dX8_isKept_128 1 rfl ?_
          refine v_iload_n X dX8_isKept_130 rfl 2 rfl ?_
          refine v_icmp_ne X dX8_isKept_131 (tgt := 138) (by decide) (fun h131 => ?_) (fun h131 => ?_)
          · refine v_iconst X dX8_isKept_138 (v := nI 0) (by decide) ?_
            exact v_zret X Y dX8_isKept_139 (by decide) (roI_of (by rw [hFs, hFt, ck_eq hfo _ hs, swI_tb hon hs, htw, swI_m2, Nat.zero_testBit, hsw]; revert h10 h131; cases t.testBit c <;> cases s.testBit (on c) <;> decide)) (by omega) (by omega)
          · refine v_iconst X dX8_isKept_134 (v := nI 1) (by decide) ?_
            refine v_goto X dX8_isKept_135 (tgt := 139) (by decide) ?_
            exact v_zret X Y dX8_isKept_139 (by decide) (roI_of (by rw [hFs, hFt, ck_eq hfo _ hs, swI_tb hon hs, htw, swI_m2, Nat.zero_testBit, hsw]; revert h10 h131; cases t.testBit c <;> cases s.testBit (on c) <;> decide)) (by omega) (by omega)
        · refine v_eqi (x' := nI 2) (congrArg nI hsw) ?_
          refine v_swIn X dX8_isKept_80 (by decide) (by decide) (off := 60) (by decide) (tgt := 140) (by decide) ?_
          refine v_iload_n X dX8_isKept_140 rfl 2 rfl ?_
          refine v_ifN_eq X dX8_isKept_141 (tgt := 162) (by decide) (by decide) (fun h141 => ?_) (fun h141 => ?_)
          · refine v_iload X dX8_isKept_162 0 rfl ?_
            refine v_ifN_ne X dX8_isKept_164 (tgt := 172) (by decide) (by decide) (fun h164 => ?_) (fun h164 => ?_)
            · exfalso; omega
            · refine v_iload X dX8_isKept_167 1 rfl ?_
              refine v_ifB_ne X dX8_isKept_169 (tgt := 176) (by decide) (fun h169 => ?_) (fun h169 => ?_)
              · refine v_iconst X dX8_isKept_176 (v := nI 0) (by decide) ?_
                exact v_zret X Y dX8_isKept_177 (by decide) (roI_of (by rw [hFs, hFt, ck_eq hfo _ hs, swI_tb hon hs, htw, swI_m2, Nat.zero_testBit, hsw]; revert h10 h141 h164 h169; cases t.testBit c <;> cases s.testBit (on c) <;> decide)) (by omega) (by omega)
              · refine v_iconst X dX8_isKept_172 (v := nI 1) (by decide) ?_
                refine v_goto X dX8_isKept_173 (tgt := 177) (by decide) ?_
                exact v_zret X Y dX8_isKept_177 (by decide) (roI_of (by rw [hFs, hFt, ck_eq hfo _ hs, swI_tb hon hs, htw, swI_m2, Nat.zero_testBit, hsw]; revert h10 h141 h164 h169; cases t.testBit c <;> cases s.testBit (on c) <;> decide)) (by omega) (by omega)
          · exfalso; omega
        · refine v_eqi (x' := nI 3) (congrArg nI hsw) ?_
          refine v_swIn X dX8_isKept_80 (by decide) (by decide) (off := 98) (by decide) (tgt := 178) (by decide) ?_
          refine v_iload_n X dX8_isKept_178 rfl 2 rfl ?_
          refine v_ifN_eq X dX8_isKept_179 (tgt := 200) (by decide) (by decide) (fun h179 => ?_) (fun h179 => ?_)
          · refine v_iload X dX8_isKept_200 1 rfl ?_
            refine v_ifB_ne X dX8_isKept_202 (tgt := 210) (by decide) (fun h202 => ?_) (fun h202 => ?_)
            · refine v_iconst X dX8_isKept_210 (v := nI 1) (by decide) ?_
              refine v_goto X dX8_isKept_211 (tgt := 215) (by decide) ?_
              exact v_zret X Y dX8_isKept_215 (by decide) (roI_of (by rw [hFs, hFt, ck_eq hfo _ hs, swI_tb hon hs, htw, swI_m2, Nat.zero_testBit, hsw]; revert h10 h179 h202; cases t.testBit c <;> cases s.testBit (on c) <;> decide)) (by omega) (by omega)
            · refine v_iload X dX8_isKept_205 0 rfl ?_
              refine v_ifN_eq X dX8_isKept_207 (tgt := 214) (by decide) (by decide) (fun h207 => ?_) (fun h207 => ?_)
              · refine v_iconst X dX8_isKept_214 (v := nI 0) (by decide) ?_
                exact v_zret X Y dX8_isKept_215 (by decide) (roI_of (by rw [hFs, hFt, ck_eq hfo _ hs, swI_tb hon hs, htw, swI_m2, Nat.zero_testBit, hsw]; revert h10 h179 h202 h207; cases t.testBit c <;> cases s.testBit (on c) <;> decide)) (by omega) (by omega)
              · exfalso; omega
          · exfalso; omega
        · refine v_eqi (x' := nI 4) (congrArg nI hsw) ?_
          refine v_swIn X dX8_isKept_80 (by decide) (by decide) (off := 136) (by decide) (tgt := 216) (by decide) ?_
          refine v_iload_n X dX8_isKept_216 rfl 2 rfl ?_
          refine v_ifN_eq X dX8_isKept_217 (tgt := 238) (by decide) (by decide) (fun h217 => ?_) (fun h217 => ?_)
          · refine v_iload X dX8_isKept_238 1 rfl ?_
            refine v_ifB_eq X dX8_isKept_240 (tgt := 248) (by decide) (fun h240 => ?_) (fun h240 => ?_)
            · refine v_iconst X dX8_isKept_248 (v := nI 1) (by decide) ?_
              refine v_goto X dX8_isKept_249 (tgt := 253) (by decide) ?_
              exact v_zret X Y dX8_isKept_253 (by decide) (roI_of (by rw [hFs, hFt, ck_eq hfo _ hs, swI_tb hon hs, htw, swI_m2, Nat.zero_testBit, hsw]; revert h10 h217 h240; cases t.testBit c <;> cases s.testBit (on c) <;> decide)) (by omega) (by omega)
            · refine v_iload X dX8_isKept_243 0 rfl ?_
              refine v_ifN_ne X dX8_isKept_245 (tgt := 252) (by decide) (by decide) (fun h245 => ?_) (fun h245 => ?_)
              · exfalso; omega
              · refine v_iconst X dX8_isKept_248 (v := nI 1) (by decide) ?_
                refine v_goto X dX8_isKept_249 (tgt := 253) (by decide) ?_
                exact v_zret X Y dX8_isKept_253 (by decide) (roI_of (by rw [hFs, hFt, ck_eq hfo _ hs, swI_tb hon hs, htw, swI_m2, Nat.zero_testBit, hsw]; revert h10 h217 h240 h245; cases t.testBit c <;> cases s.testBit (on c) <;> decide)) (by omega) (by omega)
          · exfalso; omega
        · refine v_eqi (x' := nI 5) (congrArg nI hsw) ?_
          refine v_swOut X dX8_isKept_80 (Or.inr (by decide)) (tgt := 254) (by decide) ?_
          refine v_iload X dX8_isKept_254 1 rfl ?_
          refine v_iload X dX8_isKept_256 0 rfl ?_
          refine v_icmp_eq X dX8_isKept_258 (tgt := 265) (by decide) (fun h258 => ?_) (fun h258 => ?_)
          · refine v_iconst X dX8_isKept_265 (v := nI 0) (by decide) ?_
            refine v_iload_n X dX8_isKept_266 rfl 2 rfl ?_
            refine v_icmpN_eq X dX8_isKept_267 (tgt := 274) (by decide) (by decide) (by decide) (fun h267 => ?_) (fun h267 => ?_)
            · refine v_iconst X dX8_isKept_274 (v := nI 0) (by decide) ?_
              exact v_zret X Y dX8_isKept_275 (by decide) (roI_of (by rw [hFs, hFt, ck_eq hfo _ hs, swI_tb hon hs, htw, swI_m2, Nat.zero_testBit, hsw]; revert h10 h258 h267; cases t.testBit c <;> cases s.testBit (on c) <;> decide)) (by omega) (by omega)
            · refine v_iconst X dX8_isKept_270 (v := nI 1) (by decide) ?_
              refine v_goto X dX8_isKept_271 (tgt := 275) (by decide) ?_
              exact v_zret X Y dX8_isKept_275 (by decide) (roI_of (by rw [hFs, hFt, ck_eq hfo _ hs, swI_tb hon hs, htw, swI_m2, Nat.zero_testBit, hsw]; revert h10 h258 h267; cases t.testBit c <;> cases s.testBit (on c) <;> decide)) (by omega) (by omega)
          · refine v_iconst X dX8_isKept_261 (v := nI 1) (by decide) ?_
            refine v_goto X dX8_isKept_262 (tgt := 266) (by decide) ?_
            refine v_iload_n X dX8_isKept_266 rfl 2 rfl ?_
            refine v_icmpN_eq X dX8_isKept_267 (tgt := 274) (by decide) (by decide) (by decide) (fun h267 => ?_) (fun h267 => ?_)
            · refine v_iconst X dX8_isKept_274 (v := nI 0) (by decide) ?_
              exact v_zret X Y dX8_isKept_275 (by decide) (roI_of (by rw [hFs, hFt, ck_eq hfo _ hs, swI_tb hon hs, htw, swI_m2, Nat.zero_testBit, hsw]; revert h10 h258 h267; cases t.testBit c <;> cases s.testBit (on c) <;> decide)) (by omega) (by omega)
            · refine v_iconst X dX8_isKept_270 (v := nI 1) (by decide) ?_
              refine v_goto X dX8_isKept_271 (tgt := 275) (by decide) ?_
              exact v_zret X Y dX8_isKept_275 (by decide) (roI_of (by rw [hFs, hFt, ck_eq hfo _ hs, swI_tb hon hs, htw, swI_m2, Nat.zero_testBit, hsw]; revert h10 h258 h267; cases t.testBit c <;> cases s.testBit (on c) <;> decide)) (by omega) (by omega)
      · exact absurd rfl h45
    · refine V.cast (st' := [.int (-2), .int (nI b)]) rfl (by rw [htw]) rfl ?_
      refine v_icmp_eq X dX8_isKept_45 (tgt := 68) (by decide) (fun h45 => ?_) (fun h45 => ?_)
      · exact (nm2 h45 (by omega)).elim
      · refine v_iload_n X dX8_isKept_48 rfl 4 rfl ?_
        refine v_aload_n X dX8_isKept_49 rfl 2 rfl ?_
        refine v_get X kcX8 fl_X8_306 dX8_isKept_50 0 rfl rfl ?_
        refine v_getN X kcX7 fl_X8_263 dX8_isKept_53 1 rfl rfl ?_
        refine v_iload_n X dX8_isKept_56 rfl 3 rfl ?_
        refine v_iald X dX8_isKept_57 4 rfl (by omega) (by decide) ?_
        refine v_eqi (x' := nI b) htw ?_
        refine v_roI1 X (rn_S X k_X8_bit ml_X8_274 dX8_isKept_58 (c_X8_bit l E s b (by omega) (by omega)) rfl (by decide) (by decide) (by omega) (by omega) (Nat.le_of_ble_eq_true rfl)) [] rfl rfl ?_
        refine v_ifB_eq X dX8_isKept_61 (tgt := 68) (by decide) (fun h61 => ?_) (fun h61 => ?_)
        · refine v_iconst X dX8_isKept_68 (v := nI 0) (by decide) ?_
          refine v_istore X dX8_isKept_69 (by decide) (lv' := [(5, .int (nI 0)), (4, .int (nI (s.testBit (on c)).toNat)), (3, .int (nI 0)), (0, .ref k), (1, .int (nI c)), (2, .int (nI s))]) rfl ?_
          refine v_aload_n X dX8_isKept_71 rfl 3 rfl ?_
          refine v_get X kcX8 fl_X8_306 dX8_isKept_72 0 rfl rfl ?_
          refine v_getN X kcX7 fl_X8_257 dX8_isKept_75 1 rfl rfl ?_
          refine v_iload_n X dX8_isKept_78 rfl 4 rfl ?_
          refine v_iald X dX8_isKept_79 2 rfl (by omega) (by decide) ?_
          rcases (show fo c = 0 ∨ fo c = 1 ∨ fo c = 2 ∨ fo c = 3 ∨ fo c = 4 ∨ fo c = 5 by omega) with hsw | hsw | hsw | hsw | hsw | hsw
          · refine v_eqi (x' := nI 0) (congrArg nI hsw) ?_
            refine v_swIn X dX8_isKept_80 (by decide) (by decide) (off := 36) (by decide) (tgt := 116) (by decide) ?_
            refine v_iload X dX8_isKept_116 1 rfl ?_
            refine v_iload_n X dX8_isKept_118 rfl 2 rfl ?_
            refine v_icmp_eq X dX8_isKept_119 (tgt := 126) (by decide) (fun h119 => ?_) (fun h119 => ?_)
            · refine v_iconst X dX8_isKept_126 (v := nI 0) (by decide) ?_
              exact v_zret X Y dX8_isKept_127 (by decide) (roI_of (by rw [hFs, hFt, ck_eq hfo _ hs, swI_tb hon hs, htw, swI_tb hb hs, hsw]; revert h10 h61 h119; cases t.testBit c <;> cases s.testBit (on c) <;> cases s.testBit b <;> decide)) (by omega) (by omega)
            · refine v_iconst X dX8_isKept_122 (v := nI 1) (by decide) ?_
              refine v_goto X dX8_isKept_123 (tgt := 127) (by decide) ?_
              exact v_zret X Y dX8_isKept_127 (by decide) (roI_of (by rw [hFs, hFt, ck_eq hfo _ hs, swI_tb hon hs, htw, swI_tb hb hs, hsw]; revert h10 h61 h119; cases t.testBit c <;> cases s.testBit (on c) <;> cases s.testBit b <;> decide)) (by omega) (by omega)
          · refine v_eqi (x' := nI 1) (congrArg nI hsw) ?_
            refine v_swIn X dX8_isKept_80 (by decide) (by decide) (off := 48) (by decide) (tgt := 128) (by decide) ?_
            refine v_iload X dX8_isKept_128 1 rfl ?_
            refine v_iload_n X dX8_isKept_130 rfl 2 rfl ?_
            refine v_icmp_ne X dX8_isKept_131 (tgt := 138) (by decide) (fun h131 => ?_) (fun h131 => ?_)
            · refine v_iconst X dX8_isKept_138 (v := nI 0) (by decide) ?_
              exact v_zret X Y dX8_isKept_139 (by decide) (roI_of (by rw [hFs, hFt, ck_eq hfo _ hs, swI_tb hon hs, htw, swI_tb hb hs, hsw]; revert h10 h61 h131; cases t.testBit c <;> cases s.testBit (on c) <;> cases s.testBit b <;> decide)) (by omega) (by omega)
            · refine v_iconst X dX8_isKept_134 (v := nI 1) (by decide) ?_
              refine v_goto X dX8_isKept_135 (tgt := 139) (by decide) ?_
              exact v_zret X Y dX8_isKept_139 (by decide) (roI_of (by rw [hFs, hFt, ck_eq hfo _ hs, swI_tb hon hs, htw, swI_tb hb hs, hsw]; revert h10 h61 h131; cases t.testBit c <;> cases s.testBit (on c) <;> cases s.testBit b <;> decide)) (by omega) (by omega)
          · refine v_eqi (x' := nI 2) (congrArg nI hsw) ?_
            refine v_swIn X dX8_isKept_80 (by decide) (by decide) (off := 60) (by decide) (tgt := 140) (by decide) ?_
            refine v_iload_n X dX8_isKept_140 rfl 2 rfl ?_
            refine v_ifN_eq X dX8_isKept_141 (tgt := 162) (by decide) (by decide) (fun h141 => ?_) (fun h141 => ?_)
            · refine v_iload X dX8_isKept_162 0 rfl ?_
              refine v_ifN_ne X dX8_isKept_164 (tgt := 172) (by decide) (by decide) (fun h164 => ?_) (fun h164 => ?_)
              · exfalso; omega
              · refine v_iload X dX8_isKept_167 1 rfl ?_
                refine v_ifB_ne X dX8_isKept_169 (tgt := 176) (by decide) (fun h169 => ?_) (fun h169 => ?_)
                · refine v_iconst X dX8_isKept_176 (v := nI 0) (by decide) ?_
                  exact v_zret X Y dX8_isKept_177 (by decide) (roI_of (by rw [hFs, hFt, ck_eq hfo _ hs, swI_tb hon hs, htw, swI_tb hb hs, hsw]; revert h10 h61 h141 h164 h169; cases t.testBit c <;> cases s.testBit (on c) <;> cases s.testBit b <;> decide)) (by omega) (by omega)
                · refine v_iconst X dX8_isKept_172 (v := nI 1) (by decide) ?_
                  refine v_goto X dX8_isKept_173 (tgt := 177) (by decide) ?_
                  exact v_zret X Y dX8_isKept_177 (by decide) (roI_of (by rw [hFs, hFt, ck_eq hfo _ hs, swI_tb hon hs, htw, swI_tb hb hs, hsw]; revert h10 h61 h141 h164 h169; cases t.testBit c <;> cases s.testBit (on c) <;> cases s.testBit b <;> decide)) (by omega) (by omega)
            · exfalso; omega
          · refine v_eqi (x' := nI 3) (congrArg nI hsw) ?_
            refine v_swIn X dX8_isKept_80 (by decide) (by decide) (off := 98) (by decide) (tgt := 178) (by decide) ?_
            refine v_iload_n X dX8_isKept_178 rfl 2 rfl ?_
            refine v_ifN_eq X dX8_isKept_179 (tgt := 200) (by decide) (by decide) (fun h179 => ?_) (fun h179 => ?_)
            · refine v_iload X dX8_isKept_200 1 rfl ?_
              refine v_ifB_ne X dX8_isKept_202 (tgt := 210) (by decide) (fun h202 => ?_) (fun h202 => ?_)
              · refine v_iconst X dX8_isKept_210 (v := nI 1) (by decide) ?_
                refine v_goto X dX8_isKept_211 (tgt := 215) (by decide) ?_
                exact v_zret X Y dX8_isKept_215 (by decide) (roI_of (by rw [hFs, hFt, ck_eq hfo _ hs, swI_tb hon hs, htw, swI_tb hb hs, hsw]; revert h10 h61 h179 h202; cases t.testBit c <;> cases s.testBit (on c) <;> cases s.testBit b <;> decide)) (by omega) (by omega)
              · refine v_iload X dX8_isKept_205 0 rfl ?_
                refine v_ifN_eq X dX8_isKept_207 (tgt := 214) (by decide) (by decide) (fun h207 => ?_) (fun h207 => ?_)
                · refine v_iconst X dX8_isKept_214 (v := nI 0) (by decide) ?_
                  exact v_zret X Y dX8_isKept_215 (by decide) (roI_of (by rw [hFs, hFt, ck_eq hfo _ hs, swI_tb hon hs, htw, swI_tb hb hs, hsw]; revert h10 h61 h179 h202 h207; cases t.testBit c <;> cases s.testBit (on c) <;> cases s.testBit b <;> decide)) (by omega) (by omega)
                · exfalso; omega
            · exfalso; omega
          · refine v_eqi (x' := nI 4) (congrArg nI hsw) ?_
            refine v_swIn X dX8_isKept_80 (by decide) (by decide) (off := 136) (by decide) (tgt := 216) (by decide) ?_
            refine v_iload_n X dX8_isKept_216 rfl 2 rfl ?_
            refine v_ifN_eq X dX8_isKept_217 (tgt := 238) (by decide) (by decide) (fun h217 => ?_) (fun h217 => ?_)
            · refine v_iload X dX8_isKept_238 1 rfl ?_
              refine v_ifB_eq X dX8_isKept_240 (tgt := 248) (by decide) (fun h240 => ?_) (fun h240 => ?_)
              · refine v_iconst X dX8_isKept_248 (v := nI 1) (by decide) ?_
                refine v_goto X dX8_isKept_249 (tgt := 253) (by decide) ?_
                exact v_zret X Y dX8_isKept_253 (by decide) (roI_of (by rw [hFs, hFt, ck_eq hfo _ hs, swI_tb hon hs, htw, swI_tb hb hs, hsw]; revert h10 h61 h217 h240; cases t.testBit c <;> cases s.testBit (on c) <;> cases s.testBit b <;> decide)) (by omega) (by omega)
              · refine v_iload X dX8_isKept_243 0 rfl ?_
                refine v_ifN_ne X dX8_isKept_245 (tgt := 252) (by decide) (by decide) (fun h245 => ?_) (fun h245 => ?_)
                · exfalso; omega
                · refine v_iconst X dX8_isKept_248 (v := nI 1) (by decide) ?_
                  refine v_goto X dX8_isKept_249 (tgt := 253) (by decide) ?_
                  exact v_zret X Y dX8_isKept_253 (by decide) (roI_of (by rw [hFs, hFt, ck_eq hfo _ hs, swI_tb hon hs, htw, swI_tb hb hs, hsw]; revert h10 h61 h217 h240 h245; cases t.testBit c <;> cases s.testBit (on c) <;> cases s.testBit b <;> decide)) (by omega) (by omega)
            · exfalso; omega
          · refine v_eqi (x' := nI 5) (congrArg nI hsw) ?_
            refine v_swOut X dX8_isKept_80 (Or.inr (by decide)) (tgt := 254) (by decide) ?_
            refine v_iload X dX8_isKept_254 1 rfl ?_
            refine v_iload X dX8_isKept_256 0 rfl ?_
            refine v_icmp_eq X dX8_isKept_258 (tgt := 265) (by decide) (fun h258 => ?_) (fun h258 => ?_)
            · refine v_iconst X dX8_isKept_265 (v := nI 0) (by decide) ?_
              refine v_iload_n X dX8_isKept_266 rfl 2 rfl ?_
              refine v_icmpN_eq X dX8_isKept_267 (tgt := 274) (by decide) (by decide) (by decide) (fun h267 => ?_) (fun h267 => ?_)
              · refine v_iconst X dX8_isKept_274 (v := nI 0) (by decide) ?_
                exact v_zret X Y dX8_isKept_275 (by decide) (roI_of (by rw [hFs, hFt, ck_eq hfo _ hs, swI_tb hon hs, htw, swI_tb hb hs, hsw]; revert h10 h61 h258 h267; cases t.testBit c <;> cases s.testBit (on c) <;> cases s.testBit b <;> decide)) (by omega) (by omega)
              · refine v_iconst X dX8_isKept_270 (v := nI 1) (by decide) ?_
                refine v_goto X dX8_isKept_271 (tgt := 275) (by decide) ?_
                exact v_zret X Y dX8_isKept_275 (by decide) (roI_of (by rw [hFs, hFt, ck_eq hfo _ hs, swI_tb hon hs, htw, swI_tb hb hs, hsw]; revert h10 h61 h258 h267; cases t.testBit c <;> cases s.testBit (on c) <;> cases s.testBit b <;> decide)) (by omega) (by omega)
            · refine v_iconst X dX8_isKept_261 (v := nI 1) (by decide) ?_
              refine v_goto X dX8_isKept_262 (tgt := 266) (by decide) ?_
              refine v_iload_n X dX8_isKept_266 rfl 2 rfl ?_
              refine v_icmpN_eq X dX8_isKept_267 (tgt := 274) (by decide) (by decide) (by decide) (fun h267 => ?_) (fun h267 => ?_)
              · refine v_iconst X dX8_isKept_274 (v := nI 0) (by decide) ?_
                exact v_zret X Y dX8_isKept_275 (by decide) (roI_of (by rw [hFs, hFt, ck_eq hfo _ hs, swI_tb hon hs, htw, swI_tb hb hs, hsw]; revert h10 h61 h258 h267; cases t.testBit c <;> cases s.testBit (on c) <;> cases s.testBit b <;> decide)) (by omega) (by omega)
              · refine v_iconst X dX8_isKept_270 (v := nI 1) (by decide) ?_
                refine v_goto X dX8_isKept_271 (tgt := 275) (by decide) ?_
                exact v_zret X Y dX8_isKept_275 (by decide) (roI_of (by rw [hFs, hFt, ck_eq hfo _ hs, swI_tb hon hs, htw, swI_tb hb hs, hsw]; revert h10 h61 h258 h267; cases t.testBit c <;> cases s.testBit (on c) <;> cases s.testBit b <;> decide)) (by omega) (by omega)
        · refine v_iconst X dX8_isKept_64 (v := nI 1) (by decide) ?_
          refine v_goto X dX8_isKept_65 (tgt := 69) (by decide) ?_
          refine v_istore X dX8_isKept_69 (by decide) (lv' := [(5, .int (nI 1)), (4, .int (nI (s.testBit (on c)).toNat)), (3, .int (nI 0)), (0, .ref k), (1, .int (nI c)), (2, .int (nI s))]) rfl ?_
          refine v_aload_n X dX8_isKept_71 rfl 3 rfl ?_
          refine v_get X kcX8 fl_X8_306 dX8_isKept_72 0 rfl rfl ?_
          refine v_getN X kcX7 fl_X8_257 dX8_isKept_75 1 rfl rfl ?_
          refine v_iload_n X dX8_isKept_78 rfl 4 rfl ?_
          refine v_iald X dX8_isKept_79 2 rfl (by omega) (by decide) ?_
          rcases (show fo c = 0 ∨ fo c = 1 ∨ fo c = 2 ∨ fo c = 3 ∨ fo c = 4 ∨ fo c = 5 by omega) with hsw | hsw | hsw | hsw | hsw | hsw
          · refine v_eqi (x' := nI 0) (congrArg nI hsw) ?_
            refine v_swIn X dX8_isKept_80 (by decide) (by decide) (off := 36) (by decide) (tgt := 116) (by decide) ?_
            refine v_iload X dX8_isKept_116 1 rfl ?_
            refine v_iload_n X dX8_isKept_118 rfl 2 rfl ?_
            refine v_icmp_eq X dX8_isKept_119 (tgt := 126) (by decide) (fun h119 => ?_) (fun h119 => ?_)
            · refine v_iconst X dX8_isKept_126 (v := nI 0) (by decide) ?_
              exact v_zret X Y dX8_isKept_127 (by decide) (roI_of (by rw [hFs, hFt, ck_eq hfo _ hs, swI_tb hon hs, htw, swI_tb hb hs, hsw]; revert h10 h61 h119; cases t.testBit c <;> cases s.testBit (on c) <;> cases s.testBit b <;> decide)) (by omega) (by omega)
            · refine v_iconst X dX8_isKept_122 (v := nI 1) (by decide) ?_
              refine v_goto X dX8_isKept_123 (tgt := 127) (by decide) ?_
              exact v_zret X Y dX8_isKept_127 (by decide) (roI_of (by rw [hFs, hFt, ck_eq hfo _ hs, swI_tb hon hs, htw, swI_tb hb hs, hsw]; revert h10 h61 h119; cases t.testBit c <;> cases s.testBit (on c) <;> cases s.testBit b <;> decide)) (by omega) (by omega)
          · refine v_eqi (x' := nI 1) (congrArg nI hsw) ?_
            refine v_swIn X dX8_isKept_80 (by decide) (by decide) (off := 48) (by decide) (tgt := 128) (by decide) ?_
            refine v_iload X dX8_isKept_128 1 rfl ?_
            refine v_iload_n X dX8_isKept_130 rfl 2 rfl ?_
            refine v_icmp_ne X dX8_isKept_131 (tgt := 138) (by decide) (fun h131 => ?_) (fun h131 => ?_)
            · refine v_iconst X dX8_isKept_138 (v := nI 0) (by decide) ?_
              exact v_zret X Y dX8_isKept_139 (by decide) (roI_of (by rw [hFs, hFt, ck_eq hfo _ hs, swI_tb hon hs, htw, swI_tb hb hs, hsw]; revert h10 h61 h131; cases t.testBit c <;> cases s.testBit (on c) <;> cases s.testBit b <;> decide)) (by omega) (by omega)
            · refine v_iconst X dX8_isKept_134 (v := nI 1) (by decide) ?_
              refine v_goto X dX8_isKept_135 (tgt := 139) (by decide) ?_
              exact v_zret X Y dX8_isKept_139 (by decide) (roI_of (by rw [hFs, hFt, ck_eq hfo _ hs, swI_tb hon hs, htw, swI_tb hb hs, hsw]; revert h10 h61 h131; cases t.testBit c <;> cases s.testBit (on c) <;> cases s.testBit b <;> decide)) (by omega) (by omega)
          · refine v_eqi (x' := nI 2) (congrArg nI hsw) ?_
            refine v_swIn X dX8_isKept_80 (by decide) (by decide) (off := 60) (by decide) (tgt := 140) (by decide) ?_
            refine v_iload_n X dX8_isKept_140 rfl 2 rfl ?_
            refine v_ifN_eq X dX8_isKept_141 (tgt := 162) (by decide) (by decide) (fun h141 => ?_) (fun h141 => ?_)
            · refine v_iload X dX8_isKept_162 0 rfl ?_
              refine v_ifN_ne X dX8_isKept_164 (tgt := 172) (by decide) (by decide) (fun h164 => ?_) (fun h164 => ?_)
              · refine v_iconst X dX8_isKept_172 (v := nI 1) (by decide) ?_
                refine v_goto X dX8_isKept_173 (tgt := 177) (by decide) ?_
                exact v_zret X Y dX8_isKept_177 (by decide) (roI_of (by rw [hFs, hFt, ck_eq hfo _ hs, swI_tb hon hs, htw, swI_tb hb hs, hsw]; revert h10 h61 h141 h164; cases t.testBit c <;> cases s.testBit (on c) <;> cases s.testBit b <;> decide)) (by omega) (by omega)
              · exfalso; omega
            · exfalso; omega
          · refine v_eqi (x' := nI 3) (congrArg nI hsw) ?_
            refine v_swIn X dX8_isKept_80 (by decide) (by decide) (off := 98) (by decide) (tgt := 178) (by decide) ?_
            refine v_iload_n X dX8_isKept_178 rfl 2 rfl ?_
            refine v_ifN_eq X dX8_isKept_179 (tgt := 200) (by decide) (by decide) (fun h179 => ?_) (fun h179 => ?_)
            · refine v_iload X dX8_isKept_200 1 rfl ?_
              refine v_ifB_ne X dX8_isKept_202 (tgt := 210) (by decide) (fun h202 => ?_) (fun h202 => ?_)
              · refine v_iconst X dX8_isKept_210 (v := nI 1) (by decide) ?_
                refine v_goto X dX8_isKept_211 (tgt := 215) (by decide) ?_
                exact v_zret X Y dX8_isKept_215 (by decide) (roI_of (by rw [hFs, hFt, ck_eq hfo _ hs, swI_tb hon hs, htw, swI_tb hb hs, hsw]; revert h10 h61 h179 h202; cases t.testBit c <;> cases s.testBit (on c) <;> cases s.testBit b <;> decide)) (by omega) (by omega)
              · refine v_iload X dX8_isKept_205 0 rfl ?_
                refine v_ifN_eq X dX8_isKept_207 (tgt := 214) (by decide) (by decide) (fun h207 => ?_) (fun h207 => ?_)
                · exfalso; omega
                · refine v_iconst X dX8_isKept_210 (v := nI 1) (by decide) ?_
                  refine v_goto X dX8_isKept_211 (tgt := 215) (by decide) ?_
                  exact v_zret X Y dX8_isKept_215 (by decide) (roI_of (by rw [hFs, hFt, ck_eq hfo _ hs, swI_tb hon hs, htw, swI_tb hb hs, hsw]; revert h10 h61 h179 h202 h207; cases t.testBit c <;> cases s.testBit (on c) <;> cases s.testBit b <;> decide)) (by omega) (by omega)
            · exfalso; omega
          · refine v_eqi (x' := nI 4) (congrArg nI hsw) ?_
            refine v_swIn X dX8_isKept_80 (by decide) (by decide) (off := 136) (by decide) (tgt := 216) (by decide) ?_
            refine v_iload_n X dX8_isKept_216 rfl 2 rfl ?_
            refine v_ifN_eq X dX8_isKept_217 (tgt := 238) (by decide) (by decide) (fun h217 => ?_) (fun h217 => ?_)
            · refine v_iload X dX8_isKept_238 1 rfl ?_
              refine v_ifB_eq X dX8_isKept_240 (tgt := 248) (by decide) (fun h240 => ?_) (fun h240 => ?_)
              · refine v_iconst X dX8_isKept_248 (v := nI 1) (by decide) ?_
                refine v_goto X dX8_isKept_249 (tgt := 253) (by decide) ?_
                exact v_zret X Y dX8_isKept_253 (by decide) (roI_of (by rw [hFs, hFt, ck_eq hfo _ hs, swI_tb hon hs, htw, swI_tb hb hs, hsw]; revert h10 h61 h217 h240; cases t.testBit c <;> cases s.testBit (on c) <;> cases s.testBit b <;> decide)) (by omega) (by omega)
              · refine v_iload X dX8_isKept_243 0 rfl ?_
                refine v_ifN_ne X dX8_isKept_245 (tgt := 252) (by decide) (by decide) (fun h245 => ?_) (fun h245 => ?_)
                · refine v_iconst X dX8_isKept_252 (v := nI 0) (by decide) ?_
                  exact v_zret X Y dX8_isKept_253 (by decide) (roI_of (by rw [hFs, hFt, ck_eq hfo _ hs, swI_tb hon hs, htw, swI_tb hb hs, hsw]; revert h10 h61 h217 h240 h245; cases t.testBit c <;> cases s.testBit (on c) <;> cases s.testBit b <;> decide)) (by omega) (by omega)
                · exfalso; omega
            · exfalso; omega
          · refine v_eqi (x' := nI 5) (congrArg nI hsw) ?_
            refine v_swOut X dX8_isKept_80 (Or.inr (by decide)) (tgt := 254) (by decide) ?_
            refine v_iload X dX8_isKept_254 1 rfl ?_
            refine v_iload X dX8_isKept_256 0 rfl ?_
            refine v_icmp_eq X dX8_isKept_258 (tgt := 265) (by decide) (fun h258 => ?_) (fun h258 => ?_)
            · refine v_iconst X dX8_isKept_265 (v := nI 0) (by decide) ?_
              refine v_iload_n X dX8_isKept_266 rfl 2 rfl ?_
              refine v_icmpN_eq X dX8_isKept_267 (tgt := 274) (by decide) (by decide) (by decide) (fun h267 => ?_) (fun h267 => ?_)
              · refine v_iconst X dX8_isKept_274 (v := nI 0) (by decide) ?_
                exact v_zret X Y dX8_isKept_275 (by decide) (roI_of (by rw [hFs, hFt, ck_eq hfo _ hs, swI_tb hon hs, htw, swI_tb hb hs, hsw]; revert h10 h61 h258 h267; cases t.testBit c <;> cases s.testBit (on c) <;> cases s.testBit b <;> decide)) (by omega) (by omega)
              · refine v_iconst X dX8_isKept_270 (v := nI 1) (by decide) ?_
                refine v_goto X dX8_isKept_271 (tgt := 275) (by decide) ?_
                exact v_zret X Y dX8_isKept_275 (by decide) (roI_of (by rw [hFs, hFt, ck_eq hfo _ hs, swI_tb hon hs, htw, swI_tb hb hs, hsw]; revert h10 h61 h258 h267; cases t.testBit c <;> cases s.testBit (on c) <;> cases s.testBit b <;> decide)) (by omega) (by omega)
            · refine v_iconst X dX8_isKept_261 (v := nI 1) (by decide) ?_
              refine v_goto X dX8_isKept_262 (tgt := 266) (by decide) ?_
              refine v_iload_n X dX8_isKept_266 rfl 2 rfl ?_
              refine v_icmpN_eq X dX8_isKept_267 (tgt := 274) (by decide) (by decide) (by decide) (fun h267 => ?_) (fun h267 => ?_)
              · refine v_iconst X dX8_isKept_274 (v := nI 0) (by decide) ?_
                exact v_zret X Y dX8_isKept_275 (by decide) (roI_of (by rw [hFs, hFt, ck_eq hfo _ hs, swI_tb hon hs, htw, swI_tb hb hs, hsw]; revert h10 h61 h258 h267; cases t.testBit c <;> cases s.testBit (on c) <;> cases s.testBit b <;> decide)) (by omega) (by omega)
              · refine v_iconst X dX8_isKept_270 (v := nI 1) (by decide) ?_
                refine v_goto X dX8_isKept_271 (tgt := 275) (by decide) ?_
                exact v_zret X Y dX8_isKept_275 (by decide) (roI_of (by rw [hFs, hFt, ck_eq hfo _ hs, swI_tb hon hs, htw, swI_tb hb hs, hsw]; revert h10 h61 h258 h267; cases t.testBit c <;> cases s.testBit (on c) <;> cases s.testBit b <;> decide)) (by omega) (by omega)
  · refine v_iconst X dX8_isKept_13 (v := nI 1) (by decide) ?_
    refine v_goto X dX8_isKept_14 (tgt := 18) (by decide) ?_
    refine v_istore_n X dX8_isKept_18 rfl (by decide) (lv' := [(3, .int (nI 1)), (0, .ref k), (1, .int (nI c)), (2, .int (nI s))]) rfl ?_
    refine v_iload_n X dX8_isKept_19 rfl 3 rfl ?_
    refine v_aload_n X dX8_isKept_20 rfl 1 rfl ?_
    refine v_get X kcX8 fl_X8_306 dX8_isKept_21 0 rfl rfl ?_
    refine v_getN X kcX7 fl_X8_260 dX8_isKept_24 1 rfl rfl ?_
    refine v_iload_n X dX8_isKept_27 rfl 2 rfl ?_
    refine v_iald X dX8_isKept_28 3 rfl (by omega) (by decide) ?_
    refine v_roI1 X (rn_S X k_X8_bit ml_X8_274 dX8_isKept_29 (c_X8_bit l E s (on c) (by omega) (by omega)) rfl (by decide) (by decide) (by omega) (by omega) (Nat.le_of_ble_eq_true rfl)) [] rfl rfl ?_
    refine v_istore X dX8_isKept_32 (by decide) (lv' := [(4, .int (nI (s.testBit (on c)).toNat)), (3, .int (nI 1)), (0, .ref k), (1, .int (nI c)), (2, .int (nI s))]) rfl ?_
    refine v_aload_n X dX8_isKept_34 rfl 2 rfl ?_
    refine v_get X kcX8 fl_X8_306 dX8_isKept_35 0 rfl rfl ?_
    refine v_getN X kcX7 fl_X8_263 dX8_isKept_38 1 rfl rfl ?_
    refine v_iload_n X dX8_isKept_41 rfl 3 rfl ?_
    refine v_iald X dX8_isKept_42 4 rfl (by omega) (by decide) ?_
    refine v_bipush X dX8_isKept_43 (v := (-2)) (by decide) ?_
    rcases htw with htw | ⟨b, hb, htw⟩
    · refine V.cast (st' := [.int (-2), .int (-2)]) rfl (by rw [htw]) rfl ?_
      refine v_icmp_eq X dX8_isKept_45 (tgt := 68) (by decide) (fun h45 => ?_) (fun h45 => ?_)
      · refine v_iconst X dX8_isKept_68 (v := nI 0) (by decide) ?_
        refine v_istore X dX8_isKept_69 (by decide) (lv' := [(5, .int (nI 0)), (4, .int (nI (s.testBit (on c)).toNat)), (3, .int (nI 1)), (0, .ref k), (1, .int (nI c)), (2, .int (nI s))]) rfl ?_
        refine v_aload_n X dX8_isKept_71 rfl 3 rfl ?_
        refine v_get X kcX8 fl_X8_306 dX8_isKept_72 0 rfl rfl ?_
        refine v_getN X kcX7 fl_X8_257 dX8_isKept_75 1 rfl rfl ?_
        refine v_iload_n X dX8_isKept_78 rfl 4 rfl ?_
        refine v_iald X dX8_isKept_79 2 rfl (by omega) (by decide) ?_
        rcases (show fo c = 0 ∨ fo c = 1 ∨ fo c = 2 ∨ fo c = 3 ∨ fo c = 4 ∨ fo c = 5 by omega) with hsw | hsw | hsw | hsw | hsw | hsw
        · refine v_eqi (x' := nI 0) (congrArg nI hsw) ?_
          refine v_swIn X dX8_isKept_80 (by decide) (by decide) (off := 36) (by decide) (tgt := 116) (by decide) ?_
          refine v_iload X dX8_isKept_116 1 rfl ?_
          refine v_iload_n X dX8_isKept_118 rfl 2 rfl ?_
          refine v_icmp_eq X dX8_isKept_119 (tgt := 126) (by decide) (fun h119 => ?_) (fun h119 => ?_)
          · refine v_iconst X dX8_isKept_126 (v := nI 0) (by decide) ?_
            exact v_zret X Y dX8_isKept_127 (by decide) (roI_of (by rw [hFs, hFt, ck_eq hfo _ hs, swI_tb hon hs, htw, swI_m2, Nat.zero_testBit, hsw]; revert h10 h119; cases t.testBit c <;> cases s.testBit (on c) <;> decide)) (by omega) (by omega)
          · refine v_iconst X dX8_isKept_122 (v := nI 1) (by decide) ?_
            refine v_goto X dX8_isKept_123 (tgt := 127) (by decide) ?_
            exact v_zret X Y dX8_isKept_127 (by decide) (roI_of (by rw [hFs, hFt, ck_eq hfo _ hs, swI_tb hon hs, htw, swI_m2, Nat.zero_testBit, hsw]; revert h10 h119; cases t.testBit c <;> cases s.testBit (on c) <;> decide)) (by omega) (by omega)
        · refine v_eqi (x' := nI 1) (congrArg nI hsw) ?_
          refine v_swIn X dX8_isKept_80 (by decide) (by decide) (off := 48) (by decide) (tgt := 128) (by decide) ?_
          refine v_iload X dX8_isKept_128 1 rfl ?_
          refine v_iload_n X dX8_isKept_130 rfl 2 rfl ?_
          refine v_icmp_ne X dX8_isKept_131 (tgt := 138) (by decide) (fun h131 => ?_) (fun h131 => ?_)
          · refine v_iconst X dX8_isKept_138 (v := nI 0) (by decide) ?_
            exact v_zret X Y dX8_isKept_139 (by decide) (roI_of (by rw [hFs, hFt, ck_eq hfo _ hs, swI_tb hon hs, htw, swI_m2, Nat.zero_testBit, hsw]; revert h10 h131; cases t.testBit c <;> cases s.testBit (on c) <;> decide)) (by omega) (by omega)
          · refine v_iconst X dX8_isKept_134 (v := nI 1) (by decide) ?_
            refine v_goto X dX8_isKept_135 (tgt := 139) (by decide) ?_
            exact v_zret X Y dX8_isKept_139 (by decide) (roI_of (by rw [hFs, hFt, ck_eq hfo _ hs, swI_tb hon hs, htw, swI_m2, Nat.zero_testBit, hsw]; revert h10 h131; cases t.testBit c <;> cases s.testBit (on c) <;> decide)) (by omega) (by omega)
        · refine v_eqi (x' := nI 2) (congrArg nI hsw) ?_
          refine v_swIn X dX8_isKept_80 (by decide) (by decide) (off := 60) (by decide) (tgt := 140) (by decide) ?_
          refine v_iload_n X dX8_isKept_140 rfl 2 rfl ?_
          refine v_ifN_eq X dX8_isKept_141 (tgt := 162) (by decide) (by decide) (fun h141 => ?_) (fun h141 => ?_)
          · exfalso; omega
          · refine v_iload X dX8_isKept_144 1 rfl ?_
            refine v_ifB_ne X dX8_isKept_146 (tgt := 154) (by decide) (fun h146 => ?_) (fun h146 => ?_)
            · refine v_iconst X dX8_isKept_154 (v := nI 1) (by decide) ?_
              refine v_goto X dX8_isKept_155 (tgt := 177) (by decide) ?_
              exact v_zret X Y dX8_isKept_177 (by decide) (roI_of (by rw [hFs, hFt, ck_eq hfo _ hs, swI_tb hon hs, htw, swI_m2, Nat.zero_testBit, hsw]; revert h10 h141 h146; cases t.testBit c <;> cases s.testBit (on c) <;> decide)) (by omega) (by omega)
            · refine v_iload X dX8_isKept_149 0 rfl ?_
              refine v_ifN_ne X dX8_isKept_151 (tgt := 158) (by decide) (by decide) (fun h151 => ?_) (fun h151 => ?_)
              · exfalso; omega
              · refine v_iconst X dX8_isKept_154 (v := nI 1) (by decide) ?_
                refine v_goto X dX8_isKept_155 (tgt := 177) (by decide) ?_
                exact v_zret X Y dX8_isKept_177 (by decide) (roI_of (by rw [hFs, hFt, ck_eq hfo _ hs, swI_tb hon hs, htw, swI_m2, Nat.zero_testBit, hsw]; revert h10 h141 h146 h151; cases t.testBit c <;> cases s.testBit (on c) <;> decide)) (by omega) (by omega)
        · refine v_eqi (x' := nI 3) (congrArg nI hsw) ?_
          refine v_swIn X dX8_isKept_80 (by decide) (by decide) (off := 98) (by decide) (tgt := 178) (by decide) ?_
          refine v_iload_n X dX8_isKept_178 rfl 2 rfl ?_
          refine v_ifN_eq X dX8_isKept_179 (tgt := 200) (by decide) (by decide) (fun h179 => ?_) (fun h179 => ?_)
          · exfalso; omega
          · refine v_iload X dX8_isKept_182 1 rfl ?_
            refine v_ifB_eq X dX8_isKept_184 (tgt := 192) (by decide) (fun h184 => ?_) (fun h184 => ?_)
            · refine v_iconst X dX8_isKept_192 (v := nI 1) (by decide) ?_
              refine v_goto X dX8_isKept_193 (tgt := 215) (by decide) ?_
              exact v_zret X Y dX8_isKept_215 (by decide) (roI_of (by rw [hFs, hFt, ck_eq hfo _ hs, swI_tb hon hs, htw, swI_m2, Nat.zero_testBit, hsw]; revert h10 h179 h184; cases t.testBit c <;> cases s.testBit (on c) <;> decide)) (by omega) (by omega)
            · refine v_iload X dX8_isKept_187 0 rfl ?_
              refine v_ifN_ne X dX8_isKept_189 (tgt := 196) (by decide) (by decide) (fun h189 => ?_) (fun h189 => ?_)
              · exfalso; omega
              · refine v_iconst X dX8_isKept_192 (v := nI 1) (by decide) ?_
                refine v_goto X dX8_isKept_193 (tgt := 215) (by decide) ?_
                exact v_zret X Y dX8_isKept_215 (by decide) (roI_of (by rw [hFs, hFt, ck_eq hfo _ hs, swI_tb hon hs, htw, swI_m2, Nat.zero_testBit, hsw]; revert h10 h179 h184 h189; cases t.testBit c <;> cases s.testBit (on c) <;> decide)) (by omega) (by omega)
        · refine v_eqi (x' := nI 4) (congrArg nI hsw) ?_
          refine v_swIn X dX8_isKept_80 (by decide) (by decide) (off := 136) (by decide) (tgt := 216) (by decide) ?_
          refine v_iload_n X dX8_isKept_216 rfl 2 rfl ?_
          refine v_ifN_eq X dX8_isKept_217 (tgt := 238) (by decide) (by decide) (fun h217 => ?_) (fun h217 => ?_)
          · exfalso; omega
          · refine v_iload X dX8_isKept_220 1 rfl ?_
            refine v_ifB_ne X dX8_isKept_222 (tgt := 230) (by decide) (fun h222 => ?_) (fun h222 => ?_)
            · refine v_iconst X dX8_isKept_230 (v := nI 1) (by decide) ?_
              refine v_goto X dX8_isKept_231 (tgt := 253) (by decide) ?_
              exact v_zret X Y dX8_isKept_253 (by decide) (roI_of (by rw [hFs, hFt, ck_eq hfo _ hs, swI_tb hon hs, htw, swI_m2, Nat.zero_testBit, hsw]; revert h10 h217 h222; cases t.testBit c <;> cases s.testBit (on c) <;> decide)) (by omega) (by omega)
            · refine v_iload X dX8_isKept_225 0 rfl ?_
              refine v_ifN_eq X dX8_isKept_227 (tgt := 234) (by decide) (by decide) (fun h227 => ?_) (fun h227 => ?_)
              · refine v_iconst X dX8_isKept_234 (v := nI 0) (by decide) ?_
                refine v_goto X dX8_isKept_235 (tgt := 253) (by decide) ?_
                exact v_zret X Y dX8_isKept_253 (by decide) (roI_of (by rw [hFs, hFt, ck_eq hfo _ hs, swI_tb hon hs, htw, swI_m2, Nat.zero_testBit, hsw]; revert h10 h217 h222 h227; cases t.testBit c <;> cases s.testBit (on c) <;> decide)) (by omega) (by omega)
              · exfalso; omega
        · refine v_eqi (x' := nI 5) (congrArg nI hsw) ?_
          refine v_swOut X dX8_isKept_80 (Or.inr (by decide)) (tgt := 254) (by decide) ?_
          refine v_iload X dX8_isKept_254 1 rfl ?_
          refine v_iload X dX8_isKept_256 0 rfl ?_
          refine v_icmp_eq X dX8_isKept_258 (tgt := 265) (by decide) (fun h258 => ?_) (fun h258 => ?_)
          · refine v_iconst X dX8_isKept_265 (v := nI 0) (by decide) ?_
            refine v_iload_n X dX8_isKept_266 rfl 2 rfl ?_
            refine v_icmpN_eq X dX8_isKept_267 (tgt := 274) (by decide) (by decide) (by decide) (fun h267 => ?_) (fun h267 => ?_)
            · refine v_iconst X dX8_isKept_274 (v := nI 0) (by decide) ?_
              exact v_zret X Y dX8_isKept_275 (by decide) (roI_of (by rw [hFs, hFt, ck_eq hfo _ hs, swI_tb hon hs, htw, swI_m2, Nat.zero_testBit, hsw]; revert h10 h258 h267; cases t.testBit c <;> cases s.testBit (on c) <;> decide)) (by omega) (by omega)
            · refine v_iconst X dX8_isKept_270 (v := nI 1) (by decide) ?_
              refine v_goto X dX8_isKept_271 (tgt := 275) (by decide) ?_
              exact v_zret X Y dX8_isKept_275 (by decide) (roI_of (by rw [hFs, hFt, ck_eq hfo _ hs, swI_tb hon hs, htw, swI_m2, Nat.zero_testBit, hsw]; revert h10 h258 h267; cases t.testBit c <;> cases s.testBit (on c) <;> decide)) (by omega) (by omega)
          · refine v_iconst X dX8_isKept_261 (v := nI 1) (by decide) ?_
            refine v_goto X dX8_isKept_262 (tgt := 266) (by decide) ?_
            refine v_iload_n X dX8_isKept_266 rfl 2 rfl ?_
            refine v_icmpN_eq X dX8_isKept_267 (tgt := 274) (by decide) (by decide) (by decide) (fun h267 => ?_) (fun h267 => ?_)
            · refine v_iconst X dX8_isKept_274 (v := nI 0) (by decide) ?_
              exact v_zret X Y dX8_isKept_275 (by decide) (roI_of (by rw [hFs, hFt, ck_eq hfo _ hs, swI_tb hon hs, htw, swI_m2, Nat.zero_testBit, hsw]; revert h10 h258 h267; cases t.testBit c <;> cases s.testBit (on c) <;> decide)) (by omega) (by omega)
            · refine v_iconst X dX8_isKept_270 (v := nI 1) (by decide) ?_
              refine v_goto X dX8_isKept_271 (tgt := 275) (by decide) ?_
              exact v_zret X Y dX8_isKept_275 (by decide) (roI_of (by rw [hFs, hFt, ck_eq hfo _ hs, swI_tb hon hs, htw, swI_m2, Nat.zero_testBit, hsw]; revert h10 h258 h267; cases t.testBit c <;> cases s.testBit (on c) <;> decide)) (by omega) (by omega)
      · exact absurd rfl h45
    · refine V.cast (st' := [.int (-2), .int (nI b)]) rfl (by rw [htw]) rfl ?_
      refine v_icmp_eq X dX8_isKept_45 (tgt := 68) (by decide) (fun h45 => ?_) (fun h45 => ?_)
      · exact (nm2 h45 (by omega)).elim
      · refine v_iload_n X dX8_isKept_48 rfl 4 rfl ?_
        refine v_aload_n X dX8_isKept_49 rfl 2 rfl ?_
        refine v_get X kcX8 fl_X8_306 dX8_isKept_50 0 rfl rfl ?_
        refine v_getN X kcX7 fl_X8_263 dX8_isKept_53 1 rfl rfl ?_
        refine v_iload_n X dX8_isKept_56 rfl 3 rfl ?_
        refine v_iald X dX8_isKept_57 4 rfl (by omega) (by decide) ?_
        refine v_eqi (x' := nI b) htw ?_
        refine v_roI1 X (rn_S X k_X8_bit ml_X8_274 dX8_isKept_58 (c_X8_bit l E s b (by omega) (by omega)) rfl (by decide) (by decide) (by omega) (by omega) (Nat.le_of_ble_eq_true rfl)) [] rfl rfl ?_
        refine v_ifB_eq X dX8_isKept_61 (tgt := 68) (by decide) (fun h61 => ?_) (fun h61 => ?_)
        · refine v_iconst X dX8_isKept_68 (v := nI 0) (by decide) ?_
          refine v_istore X dX8_isKept_69 (by decide) (lv' := [(5, .int (nI 0)), (4, .int (nI (s.testBit (on c)).toNat)), (3, .int (nI 1)), (0, .ref k), (1, .int (nI c)), (2, .int (nI s))]) rfl ?_
          refine v_aload_n X dX8_isKept_71 rfl 3 rfl ?_
          refine v_get X kcX8 fl_X8_306 dX8_isKept_72 0 rfl rfl ?_
          refine v_getN X kcX7 fl_X8_257 dX8_isKept_75 1 rfl rfl ?_
          refine v_iload_n X dX8_isKept_78 rfl 4 rfl ?_
          refine v_iald X dX8_isKept_79 2 rfl (by omega) (by decide) ?_
          rcases (show fo c = 0 ∨ fo c = 1 ∨ fo c = 2 ∨ fo c = 3 ∨ fo c = 4 ∨ fo c = 5 by omega) with hsw | hsw | hsw | hsw | hsw | hsw
          · refine v_eqi (x' := nI 0) (congrArg nI hsw) ?_
            refine v_swIn X dX8_isKept_80 (by decide) (by decide) (off := 36) (by decide) (tgt := 116) (by decide) ?_
            refine v_iload X dX8_isKept_116 1 rfl ?_
            refine v_iload_n X dX8_isKept_118 rfl 2 rfl ?_
            refine v_icmp_eq X dX8_isKept_119 (tgt := 126) (by decide) (fun h119 => ?_) (fun h119 => ?_)
            · refine v_iconst X dX8_isKept_126 (v := nI 0) (by decide) ?_
              exact v_zret X Y dX8_isKept_127 (by decide) (roI_of (by rw [hFs, hFt, ck_eq hfo _ hs, swI_tb hon hs, htw, swI_tb hb hs, hsw]; revert h10 h61 h119; cases t.testBit c <;> cases s.testBit (on c) <;> cases s.testBit b <;> decide)) (by omega) (by omega)
            · refine v_iconst X dX8_isKept_122 (v := nI 1) (by decide) ?_
              refine v_goto X dX8_isKept_123 (tgt := 127) (by decide) ?_
              exact v_zret X Y dX8_isKept_127 (by decide) (roI_of (by rw [hFs, hFt, ck_eq hfo _ hs, swI_tb hon hs, htw, swI_tb hb hs, hsw]; revert h10 h61 h119; cases t.testBit c <;> cases s.testBit (on c) <;> cases s.testBit b <;> decide)) (by omega) (by omega)
          · refine v_eqi (x' := nI 1) (congrArg nI hsw) ?_
            refine v_swIn X dX8_isKept_80 (by decide) (by decide) (off := 48) (by decide) (tgt := 128) (by decide) ?_
            refine v_iload X dX8_isKept_128 1 rfl ?_
            refine v_iload_n X dX8_isKept_130 rfl 2 rfl ?_
            refine v_icmp_ne X dX8_isKept_131 (tgt := 138) (by decide) (fun h131 => ?_) (fun h131 => ?_)
            · refine v_iconst X dX8_isKept_138 (v := nI 0) (by decide) ?_
              exact v_zret X Y dX8_isKept_139 (by decide) (roI_of (by rw [hFs, hFt, ck_eq hfo _ hs, swI_tb hon hs, htw, swI_tb hb hs, hsw]; revert h10 h61 h131; cases t.testBit c <;> cases s.testBit (on c) <;> cases s.testBit b <;> decide)) (by omega) (by omega)
            · refine v_iconst X dX8_isKept_134 (v := nI 1) (by decide) ?_
              refine v_goto X dX8_isKept_135 (tgt := 139) (by decide) ?_
              exact v_zret X Y dX8_isKept_139 (by decide) (roI_of (by rw [hFs, hFt, ck_eq hfo _ hs, swI_tb hon hs, htw, swI_tb hb hs, hsw]; revert h10 h61 h131; cases t.testBit c <;> cases s.testBit (on c) <;> cases s.testBit b <;> decide)) (by omega) (by omega)
          · refine v_eqi (x' := nI 2) (congrArg nI hsw) ?_
            refine v_swIn X dX8_isKept_80 (by decide) (by decide) (off := 60) (by decide) (tgt := 140) (by decide) ?_
            refine v_iload_n X dX8_isKept_140 rfl 2 rfl ?_
            refine v_ifN_eq X dX8_isKept_141 (tgt := 162) (by decide) (by decide) (fun h141 => ?_) (fun h141 => ?_)
            · exfalso; omega
            · refine v_iload X dX8_isKept_144 1 rfl ?_
              refine v_ifB_ne X dX8_isKept_146 (tgt := 154) (by decide) (fun h146 => ?_) (fun h146 => ?_)
              · refine v_iconst X dX8_isKept_154 (v := nI 1) (by decide) ?_
                refine v_goto X dX8_isKept_155 (tgt := 177) (by decide) ?_
                exact v_zret X Y dX8_isKept_177 (by decide) (roI_of (by rw [hFs, hFt, ck_eq hfo _ hs, swI_tb hon hs, htw, swI_tb hb hs, hsw]; revert h10 h61 h141 h146; cases t.testBit c <;> cases s.testBit (on c) <;> cases s.testBit b <;> decide)) (by omega) (by omega)
              · refine v_iload X dX8_isKept_149 0 rfl ?_
                refine v_ifN_ne X dX8_isKept_151 (tgt := 158) (by decide) (by decide) (fun h151 => ?_) (fun h151 => ?_)
                · exfalso; omega
                · refine v_iconst X dX8_isKept_154 (v := nI 1) (by decide) ?_
                  refine v_goto X dX8_isKept_155 (tgt := 177) (by decide) ?_
                  exact v_zret X Y dX8_isKept_177 (by decide) (roI_of (by rw [hFs, hFt, ck_eq hfo _ hs, swI_tb hon hs, htw, swI_tb hb hs, hsw]; revert h10 h61 h141 h146 h151; cases t.testBit c <;> cases s.testBit (on c) <;> cases s.testBit b <;> decide)) (by omega) (by omega)
          · refine v_eqi (x' := nI 3) (congrArg nI hsw) ?_
            refine v_swIn X dX8_isKept_80 (by decide) (by decide) (off := 98) (by decide) (tgt := 178) (by decide) ?_
            refine v_iload_n X dX8_isKept_178 rfl 2 rfl ?_
            refine v_ifN_eq X dX8_isKept_179 (tgt := 200) (by decide) (by decide) (fun h179 => ?_) (fun h179 => ?_)
            · exfalso; omega
            · refine v_iload X dX8_isKept_182 1 rfl ?_
              refine v_ifB_eq X dX8_isKept_184 (tgt := 192) (by decide) (fun h184 => ?_) (fun h184 => ?_)
              · refine v_iconst X dX8_isKept_192 (v := nI 1) (by decide) ?_
                refine v_goto X dX8_isKept_193 (tgt := 215) (by decide) ?_
                exact v_zret X Y dX8_isKept_215 (by decide) (roI_of (by rw [hFs, hFt, ck_eq hfo _ hs, swI_tb hon hs, htw, swI_tb hb hs, hsw]; revert h10 h61 h179 h184; cases t.testBit c <;> cases s.testBit (on c) <;> cases s.testBit b <;> decide)) (by omega) (by omega)
              · refine v_iload X dX8_isKept_187 0 rfl ?_
                refine v_ifN_ne X dX8_isKept_189 (tgt := 196) (by decide) (by decide) (fun h189 => ?_) (fun h189 => ?_)
                · exfalso; omega
                · refine v_iconst X dX8_isKept_192 (v := nI 1) (by decide) ?_
                  refine v_goto X dX8_isKept_193 (tgt := 215) (by decide) ?_
                  exact v_zret X Y dX8_isKept_215 (by decide) (roI_of (by rw [hFs, hFt, ck_eq hfo _ hs, swI_tb hon hs, htw, swI_tb hb hs, hsw]; revert h10 h61 h179 h184 h189; cases t.testBit c <;> cases s.testBit (on c) <;> cases s.testBit b <;> decide)) (by omega) (by omega)
          · refine v_eqi (x' := nI 4) (congrArg nI hsw) ?_
            refine v_swIn X dX8_isKept_80 (by decide) (by decide) (off := 136) (by decide) (tgt := 216) (by decide) ?_
            refine v_iload_n X dX8_isKept_216 rfl 2 rfl ?_
            refine v_ifN_eq X dX8_isKept_217 (tgt := 238) (by decide) (by decide) (fun h217 => ?_) (fun h217 => ?_)
            · exfalso; omega
            · refine v_iload X dX8_isKept_220 1 rfl ?_
              refine v_ifB_ne X dX8_isKept_222 (tgt := 230) (by decide) (fun h222 => ?_) (fun h222 => ?_)
              · refine v_iconst X dX8_isKept_230 (v := nI 1) (by decide) ?_
                refine v_goto X dX8_isKept_231 (tgt := 253) (by decide) ?_
                exact v_zret X Y dX8_isKept_253 (by decide) (roI_of (by rw [hFs, hFt, ck_eq hfo _ hs, swI_tb hon hs, htw, swI_tb hb hs, hsw]; revert h10 h61 h217 h222; cases t.testBit c <;> cases s.testBit (on c) <;> cases s.testBit b <;> decide)) (by omega) (by omega)
              · refine v_iload X dX8_isKept_225 0 rfl ?_
                refine v_ifN_eq X dX8_isKept_227 (tgt := 234) (by decide) (by decide) (fun h227 => ?_) (fun h227 => ?_)
                · refine v_iconst X dX8_isKept_234 (v := nI 0) (by decide) ?_
                  refine v_goto X dX8_isKept_235 (tgt := 253) (by decide) ?_
                  exact v_zret X Y dX8_isKept_253 (by decide) (roI_of (by rw [hFs, hFt, ck_eq hfo _ hs, swI_tb hon hs, htw, swI_tb hb hs, hsw]; revert h10 h61 h217 h222 h227; cases t.testBit c <;> cases s.testBit (on c) <;> cases s.testBit b <;> decide)) (by omega) (by omega)
                · exfalso; omega
          · refine v_eqi (x' := nI 5) (congrArg nI hsw) ?_
            refine v_swOut X dX8_isKept_80 (Or.inr (by decide)) (tgt := 254) (by decide) ?_
            refine v_iload X dX8_isKept_254 1 rfl ?_
            refine v_iload X dX8_isKept_256 0 rfl ?_
            refine v_icmp_eq X dX8_isKept_258 (tgt := 265) (by decide) (fun h258 => ?_) (fun h258 => ?_)
            · refine v_iconst X dX8_isKept_265 (v := nI 0) (by decide) ?_
              refine v_iload_n X dX8_isKept_266 rfl 2 rfl ?_
              refine v_icmpN_eq X dX8_isKept_267 (tgt := 274) (by decide) (by decide) (by decide) (fun h267 => ?_) (fun h267 => ?_)
              · refine v_iconst X dX8_isKept_274 (v := nI 0) (by decide) ?_
                exact v_zret X Y dX8_isKept_275 (by decide) (roI_of (by rw [hFs, hFt, ck_eq hfo _ hs, swI_tb hon hs, htw, swI_tb hb hs, hsw]; revert h10 h61 h258 h267; cases t.testBit c <;> cases s.testBit (on c) <;> cases s.testBit b <;> decide)) (by omega) (by omega)
              · refine v_iconst X dX8_isKept_270 (v := nI 1) (by decide) ?_
                refine v_goto X dX8_isKept_271 (tgt := 275) (by decide) ?_
                exact v_zret X Y dX8_isKept_275 (by decide) (roI_of (by rw [hFs, hFt, ck_eq hfo _ hs, swI_tb hon hs, htw, swI_tb hb hs, hsw]; revert h10 h61 h258 h267; cases t.testBit c <;> cases s.testBit (on c) <;> cases s.testBit b <;> decide)) (by omega) (by omega)
            · refine v_iconst X dX8_isKept_261 (v := nI 1) (by decide) ?_
              refine v_goto X dX8_isKept_262 (tgt := 266) (by decide) ?_
              refine v_iload_n X dX8_isKept_266 rfl 2 rfl ?_
              refine v_icmpN_eq X dX8_isKept_267 (tgt := 274) (by decide) (by decide) (by decide) (fun h267 => ?_) (fun h267 => ?_)
              · refine v_iconst X dX8_isKept_274 (v := nI 0) (by decide) ?_
                exact v_zret X Y dX8_isKept_275 (by decide) (roI_of (by rw [hFs, hFt, ck_eq hfo _ hs, swI_tb hon hs, htw, swI_tb hb hs, hsw]; revert h10 h61 h258 h267; cases t.testBit c <;> cases s.testBit (on c) <;> cases s.testBit b <;> decide)) (by omega) (by omega)
              · refine v_iconst X dX8_isKept_270 (v := nI 1) (by decide) ?_
                refine v_goto X dX8_isKept_271 (tgt := 275) (by decide) ?_
                exact v_zret X Y dX8_isKept_275 (by decide) (roI_of (by rw [hFs, hFt, ck_eq hfo _ hs, swI_tb hon hs, htw, swI_tb hb hs, hsw]; revert h10 h61 h258 h267; cases t.testBit c <;> cases s.testBit (on c) <;> cases s.testBit b <;> decide)) (by omega) (by omega)
        · refine v_iconst X dX8_isKept_64 (v := nI 1) (by decide) ?_
          refine v_goto X dX8_isKept_65 (tgt := 69) (by decide) ?_
          refine v_istore X dX8_isKept_69 (by decide) (lv' := [(5, .int (nI 1)), (4, .int (nI (s.testBit (on c)).toNat)), (3, .int (nI 1)), (0, .ref k), (1, .int (nI c)), (2, .int (nI s))]) rfl ?_
          refine v_aload_n X dX8_isKept_71 rfl 3 rfl ?_
          refine v_get X kcX8 fl_X8_306 dX8_isKept_72 0 rfl rfl ?_
          refine v_getN X kcX7 fl_X8_257 dX8_isKept_75 1 rfl rfl ?_
          refine v_iload_n X dX8_isKept_78 rfl 4 rfl ?_
          refine v_iald X dX8_isKept_79 2 rfl (by omega) (by decide) ?_
          rcases (show fo c = 0 ∨ fo c = 1 ∨ fo c = 2 ∨ fo c = 3 ∨ fo c = 4 ∨ fo c = 5 by omega) with hsw | hsw | hsw | hsw | hsw | hsw
          · refine v_eqi (x' := nI 0) (congrArg nI hsw) ?_
            refine v_swIn X dX8_isKept_80 (by decide) (by decide) (off := 36) (by decide) (tgt := 116) (by decide) ?_
            refine v_iload X dX8_isKept_116 1 rfl ?_
            refine v_iload_n X dX8_isKept_118 rfl 2 rfl ?_
            refine v_icmp_eq X dX8_isKept_119 (tgt := 126) (by decide) (fun h119 => ?_) (fun h119 => ?_)
            · refine v_iconst X dX8_isKept_126 (v := nI 0) (by decide) ?_
              exact v_zret X Y dX8_isKept_127 (by decide) (roI_of (by rw [hFs, hFt, ck_eq hfo _ hs, swI_tb hon hs, htw, swI_tb hb hs, hsw]; revert h10 h61 h119; cases t.testBit c <;> cases s.testBit (on c) <;> cases s.testBit b <;> decide)) (by omega) (by omega)
            · refine v_iconst X dX8_isKept_122 (v := nI 1) (by decide) ?_
              refine v_goto X dX8_isKept_123 (tgt := 127) (by decide) ?_
              exact v_zret X Y dX8_isKept_127 (by decide) (roI_of (by rw [hFs, hFt, ck_eq hfo _ hs, swI_tb hon hs, htw, swI_tb hb hs, hsw]; revert h10 h61 h119; cases t.testBit c <;> cases s.testBit (on c) <;> cases s.testBit b <;> decide)) (by omega) (by omega)
          · refine v_eqi (x' := nI 1) (congrArg nI hsw) ?_
            refine v_swIn X dX8_isKept_80 (by decide) (by decide) (off := 48) (by decide) (tgt := 128) (by decide) ?_
            refine v_iload X dX8_isKept_128 1 rfl ?_
            refine v_iload_n X dX8_isKept_130 rfl 2 rfl ?_
            refine v_icmp_ne X dX8_isKept_131 (tgt := 138) (by decide) (fun h131 => ?_) (fun h131 => ?_)
            · refine v_iconst X dX8_isKept_138 (v := nI 0) (by decide) ?_
              exact v_zret X Y dX8_isKept_139 (by decide) (roI_of (by rw [hFs, hFt, ck_eq hfo _ hs, swI_tb hon hs, htw, swI_tb hb hs, hsw]; revert h10 h61 h131; cases t.testBit c <;> cases s.testBit (on c) <;> cases s.testBit b <;> decide)) (by omega) (by omega)
            · refine v_iconst X dX8_isKept_134 (v := nI 1) (by decide) ?_
              refine v_goto X dX8_isKept_135 (tgt := 139) (by decide) ?_
              exact v_zret X Y dX8_isKept_139 (by decide) (roI_of (by rw [hFs, hFt, ck_eq hfo _ hs, swI_tb hon hs, htw, swI_tb hb hs, hsw]; revert h10 h61 h131; cases t.testBit c <;> cases s.testBit (on c) <;> cases s.testBit b <;> decide)) (by omega) (by omega)
          · refine v_eqi (x' := nI 2) (congrArg nI hsw) ?_
            refine v_swIn X dX8_isKept_80 (by decide) (by decide) (off := 60) (by decide) (tgt := 140) (by decide) ?_
            refine v_iload_n X dX8_isKept_140 rfl 2 rfl ?_
            refine v_ifN_eq X dX8_isKept_141 (tgt := 162) (by decide) (by decide) (fun h141 => ?_) (fun h141 => ?_)
            · exfalso; omega
            · refine v_iload X dX8_isKept_144 1 rfl ?_
              refine v_ifB_ne X dX8_isKept_146 (tgt := 154) (by decide) (fun h146 => ?_) (fun h146 => ?_)
              · refine v_iconst X dX8_isKept_154 (v := nI 1) (by decide) ?_
                refine v_goto X dX8_isKept_155 (tgt := 177) (by decide) ?_
                exact v_zret X Y dX8_isKept_177 (by decide) (roI_of (by rw [hFs, hFt, ck_eq hfo _ hs, swI_tb hon hs, htw, swI_tb hb hs, hsw]; revert h10 h61 h141 h146; cases t.testBit c <;> cases s.testBit (on c) <;> cases s.testBit b <;> decide)) (by omega) (by omega)
              · refine v_iload X dX8_isKept_149 0 rfl ?_
                refine v_ifN_ne X dX8_isKept_151 (tgt := 158) (by decide) (by decide) (fun h151 => ?_) (fun h151 => ?_)
                · refine v_iconst X dX8_isKept_158 (v := nI 0) (by decide) ?_
                  refine v_goto X dX8_isKept_159 (tgt := 177) (by decide) ?_
                  exact v_zret X Y dX8_isKept_177 (by decide) (roI_of (by rw [hFs, hFt, ck_eq hfo _ hs, swI_tb hon hs, htw, swI_tb hb hs, hsw]; revert h10 h61 h141 h146 h151; cases t.testBit c <;> cases s.testBit (on c) <;> cases s.testBit b <;> decide)) (by omega) (by omega)
                · exfalso; omega
          · refine v_eqi (x' := nI 3) (congrArg nI hsw) ?_
            refine v_swIn X dX8_isKept_80 (by decide) (by decide) (off := 98) (by decide) (tgt := 178) (by decide) ?_
            refine v_iload_n X dX8_isKept_178 rfl 2 rfl ?_
            refine v_ifN_eq X dX8_isKept_179 (tgt := 200) (by decide) (by decide) (fun h179 => ?_) (fun h179 => ?_)
            · exfalso; omega
            · refine v_iload X dX8_isKept_182 1 rfl ?_
              refine v_ifB_eq X dX8_isKept_184 (tgt := 192) (by decide) (fun h184 => ?_) (fun h184 => ?_)
              · refine v_iconst X dX8_isKept_192 (v := nI 1) (by decide) ?_
                refine v_goto X dX8_isKept_193 (tgt := 215) (by decide) ?_
                exact v_zret X Y dX8_isKept_215 (by decide) (roI_of (by rw [hFs, hFt, ck_eq hfo _ hs, swI_tb hon hs, htw, swI_tb hb hs, hsw]; revert h10 h61 h179 h184; cases t.testBit c <;> cases s.testBit (on c) <;> cases s.testBit b <;> decide)) (by omega) (by omega)
              · refine v_iload X dX8_isKept_187 0 rfl ?_
                refine v_ifN_ne X dX8_isKept_189 (tgt := 196) (by decide) (by decide) (fun h189 => ?_) (fun h189 => ?_)
                · refine v_iconst X dX8_isKept_196 (v := nI 0) (by decide) ?_
                  refine v_goto X dX8_isKept_197 (tgt := 215) (by decide) ?_
                  exact v_zret X Y dX8_isKept_215 (by decide) (roI_of (by rw [hFs, hFt, ck_eq hfo _ hs, swI_tb hon hs, htw, swI_tb hb hs, hsw]; revert h10 h61 h179 h184 h189; cases t.testBit c <;> cases s.testBit (on c) <;> cases s.testBit b <;> decide)) (by omega) (by omega)
                · exfalso; omega
          · refine v_eqi (x' := nI 4) (congrArg nI hsw) ?_
            refine v_swIn X dX8_isKept_80 (by decide) (by decide) (off := 136) (by decide) (tgt := 216) (by decide) ?_
            refine v_iload_n X dX8_isKept_216 rfl 2 rfl ?_
            refine v_ifN_eq X dX8_isKept_217 (tgt := 238) (by decide) (by decide) (fun h217 => ?_) (fun h217 => ?_)
            · exfalso; omega
            · refine v_iload X dX8_isKept_220 1 rfl ?_
              refine v_ifB_ne X dX8_isKept_222 (tgt := 230) (by decide) (fun h222 => ?_) (fun h222 => ?_)
              · refine v_iconst X dX8_isKept_230 (v := nI 1) (by decide) ?_
                refine v_goto X dX8_isKept_231 (tgt := 253) (by decide) ?_
                exact v_zret X Y dX8_isKept_253 (by decide) (roI_of (by rw [hFs, hFt, ck_eq hfo _ hs, swI_tb hon hs, htw, swI_tb hb hs, hsw]; revert h10 h61 h217 h222; cases t.testBit c <;> cases s.testBit (on c) <;> cases s.testBit b <;> decide)) (by omega) (by omega)
              · refine v_iload X dX8_isKept_225 0 rfl ?_
                refine v_ifN_eq X dX8_isKept_227 (tgt := 234) (by decide) (by decide) (fun h227 => ?_) (fun h227 => ?_)
                · exfalso; omega
                · refine v_iconst X dX8_isKept_230 (v := nI 1) (by decide) ?_
                  refine v_goto X dX8_isKept_231 (tgt := 253) (by decide) ?_
                  exact v_zret X Y dX8_isKept_253 (by decide) (roI_of (by rw [hFs, hFt, ck_eq hfo _ hs, swI_tb hon hs, htw, swI_tb hb hs, hsw]; revert h10 h61 h217 h222 h227; cases t.testBit c <;> cases s.testBit (on c) <;> cases s.testBit b <;> decide)) (by omega) (by omega)
          · refine v_eqi (x' := nI 5) (congrArg nI hsw) ?_
            refine v_swOut X dX8_isKept_80 (Or.inr (by decide)) (tgt := 254) (by decide) ?_
            refine v_iload X dX8_isKept_254 1 rfl ?_
            refine v_iload X dX8_isKept_256 0 rfl ?_
            refine v_icmp_eq X dX8_isKept_258 (tgt := 265) (by decide) (fun h258 => ?_) (fun h258 => ?_)
            · refine v_iconst X dX8_isKept_265 (v := nI 0) (by decide) ?_
              refine v_iload_n X dX8_isKept_266 rfl 2 rfl ?_
              refine v_icmpN_eq X dX8_isKept_267 (tgt := 274) (by decide) (by decide) (by decide) (fun h267 => ?_) (fun h267 => ?_)
              · refine v_iconst X dX8_isKept_274 (v := nI 0) (by decide) ?_
                exact v_zret X Y dX8_isKept_275 (by decide) (roI_of (by rw [hFs, hFt, ck_eq hfo _ hs, swI_tb hon hs, htw, swI_tb hb hs, hsw]; revert h10 h61 h258 h267; cases t.testBit c <;> cases s.testBit (on c) <;> cases s.testBit b <;> decide)) (by omega) (by omega)
              · refine v_iconst X dX8_isKept_270 (v := nI 1) (by decide) ?_
                refine v_goto X dX8_isKept_271 (tgt := 275) (by decide) ?_
                exact v_zret X Y dX8_isKept_275 (by decide) (roI_of (by rw [hFs, hFt, ck_eq hfo _ hs, swI_tb hon hs, htw, swI_tb hb hs, hsw]; revert h10 h61 h258 h267; cases t.testBit c <;> cases s.testBit (on c) <;> cases s.testBit b <;> decide)) (by omega) (by omega)
            · refine v_iconst X dX8_isKept_261 (v := nI 1) (by decide) ?_
              refine v_goto X dX8_isKept_262 (tgt := 266) (by decide) ?_
              refine v_iload_n X dX8_isKept_266 rfl 2 rfl ?_
              refine v_icmpN_eq X dX8_isKept_267 (tgt := 274) (by decide) (by decide) (by decide) (fun h267 => ?_) (fun h267 => ?_)
              · refine v_iconst X dX8_isKept_274 (v := nI 0) (by decide) ?_
                exact v_zret X Y dX8_isKept_275 (by decide) (roI_of (by rw [hFs, hFt, ck_eq hfo _ hs, swI_tb hon hs, htw, swI_tb hb hs, hsw]; revert h10 h61 h258 h267; cases t.testBit c <;> cases s.testBit (on c) <;> cases s.testBit b <;> decide)) (by omega) (by omega)
              · refine v_iconst X dX8_isKept_270 (v := nI 1) (by decide) ?_
                refine v_goto X dX8_isKept_271 (tgt := 275) (by decide) ?_
                exact v_zret X Y dX8_isKept_275 (by decide) (roI_of (by rw [hFs, hFt, ck_eq hfo _ hs, swI_tb hon hs, htw, swI_tb hb hs, hsw]; revert h10 h61 h258 h267; cases t.testBit c <;> cases s.testBit (on c) <;> cases s.testBit b <;> decide)) (by omega) (by omega)
set_option maxRecDepth 100000 in
set_option maxHeartbeats 4000000 in
theorem c_X8_lays (l : Launch) (E : Et) (k : Nat) (th : Nat) (tr : Nat) (wh : Int32) (g : Nat) (rr : Option Nat) (q : Nat → Nat) (z : Nat → Nat) (nb : Int32) (wa : Int32) (wd : Int64) (ev : Nat) (al : Int32) (wl : Int64) (cy : Nat → Nat) (kp : Nat) (nc : Nat) (cb : Nat → Nat) (fo : Nat → Nat) (on : Nat → Nat) (tw : Nat → Int32) (mn : Nat → Int32) (ink : Nat → Nat) (t : Nat) (dd : Nat) (Fs : Nat → Nat) (Ft : Nat → Nat) (kf : Nat → Nat) (hd : cy 4 ≤ 6) (hcl : cy 5 ≤ 8) (hfo : ∀ c, c < cy 5 → fo c ≤ 5) (hon : ∀ c, c < cy 5 → on c < 6) (htw : ∀ c, c < cy 5 → okT (tw c)) (hFs : ∀ c, c < cy 5 → Fs c = strN (fo c) (swI (nI (on c))) (swI (tw c))) (hFt : ∀ c, c < cy 5 → Ft c = turN (fo c) (swI (nI (on c))) (swI (tw c))) : Ct l E yX8_lays cX8_lays 3 none 2 0 0 [.ref k] [ob k 8 [.int (nI th), .int (nI tr), .int wh, .ref g, va_rf rr, .ref (q 5), .int (nI (z 6)), .int (nI (z 7)), .int (nI (z 8)), .int (nI (z 9)), .int (nI (z 10)), .int nb, .int (nI (z 12)), .int wa, .long wd, .ref (q 15), .ref (q 16), .ref (q 17), .ref (q 18), .int (nI (z 19)), .int (nI (z 20)), .ref (q 21), .long (lN ev), .ref (q 23), .ref (q 24), .int (nI (z 25)), .ref (q 26), .int al, .long wl, .int (nI (z 29))], ob g 7 [.int (nI (cy 0)), .int (nI (cy 1)), .int (nI (cy 2)), .int (nI (cy 3)), .int (nI (cy 4)), .int (nI (cy 5)), .int (nI (cy 6)), .int (nI (cy 7)), .int (nI kp), .int (nI nc), .ref (cb 0), .ref (cb 1), .ref (cb 2), .ref (cb 3), .ref (cb 4), .ref (cb 5), .ref (cb 6), .ref (cb 7), .ref (cb 8), .ref (cb 9), .ref (cb 10), .ref (cb 11)], aN E (cb 2) 8 fo, aN E (cb 3) 8 on, aI E (cb 4) 8 tw, aI E (q 16) 25 (xF mn ink t dd), aM E (q 21) 8 kf] (wrV [ob k 8 [.int (nI th), .int (nI tr), .int wh, .ref g, va_rf rr, .ref (q 5), .int (nI (z 6)), .int (nI (z 7)), .int (nI (z 8)), .int (nI (z 9)), .int (nI (z 10)), .int nb, .int (nI (z 12)), .int wa, .long wd, .ref (q 15), .ref (q 16), .ref (q 17), .ref (q 18), .int (nI (z 19)), .int (nI (z 20)), .ref (q 21), .long (lN (allS (cy 4))), .ref (q 23), .ref (q 24), .int (nI (z 25)), .ref (q 26), .int al, .long wl, .int (nI (z 29))], ob g 7 [.int (nI (cy 0)), .int (nI (cy 1)), .int (nI (cy 2)), .int (nI (cy 3)), .int (nI (cy 4)), .int (nI (cy 5)), .int (nI (cy 6)), .int (nI (cy 7)), .int (nI kp), .int (nI nc), .ref (cb 0), .ref (cb 1), .ref (cb 2), .ref (cb 3), .ref (cb 4), .ref (cb 5), .ref (cb 6), .ref (cb 7), .ref (cb 8), .ref (cb 9), .ref (cb 10), .ref (cb 11)], aN E (cb 2) 8 fo, aN E (cb 3) 8 on, aI E (cb 4) 8 tw, aI E (q 16) 25 (xF mn ink t dd), aM E (q 21) 8 (lyF Fs Ft t (cy 4) kf (cy 5))]) := by
  refine Ct.intro (by decide +kernel) (Nat.le_of_ble_eq_true rfl) (lv := [(0, .ref k)]) rfl ?_
  intro Z X Y
  have h64 : 2 ^ cy 4 ≤ 64 := pow64 hd
  refine v_aload_n X dX8_lays_0 rfl 0 rfl ?_
  refine v_lconst X dX8_lays_1 (v := lN 0) (by decide) ?_
  refine v_put X kcX8 fl_X8_320 dX8_lays_2 0 rfl (ws' := [ob k 8 [.int (nI th), .int (nI tr), .int wh, .ref g, va_rf rr, .ref (q 5), .int (nI (z 6)), .int (nI (z 7)), .int (nI (z 8)), .int (nI (z 9)), .int (nI (z 10)), .int nb, .int (nI (z 12)), .int wa, .long wd, .ref (q 15), .ref (q 16), .ref (q 17), .ref (q 18), .int (nI (z 19)), .int (nI (z 20)), .ref (q 21), .long (lN 0), .ref (q 23), .ref (q 24), .int (nI (z 25)), .ref (q 26), .int al, .long wl, .int (nI (z 29))], ob g 7 [.int (nI (cy 0)), .int (nI (cy 1)), .int (nI (cy 2)), .int (nI (cy 3)), .int (nI (cy 4)), .int (nI (cy 5)), .int (nI (cy 6)), .int (nI (cy 7)), .int (nI kp), .int (nI nc), .ref (cb 0), .ref (cb 1), .ref (cb 2), .ref (cb 3), .ref (cb 4), .ref (cb 5), .ref (cb 6), .ref (cb 7), .ref (cb 8), .ref (cb 9), .ref (cb 10), .ref (cb 11)], aN E (cb 2) 8 fo, aN E (cb 3) 8 on, aI E (cb 4) 8 tw, aI E (q 16) 25 (xF mn ink t dd), aM E (q 21) 8 kf]) rfl rfl ?_
  refine v_iconst X dX8_lays_5 (v := nI 0) (by decide) ?_
  refine v_istore_n X dX8_lays_6 rfl (by decide) (lv' := [(1, .int (nI 0)), (0, .ref k)]) rfl ?_
  have L7 : ∀ (j7 : Nat) (vs : Nat) (ve : Nat), (vs ≤ 2 ^ cy 4 ∧ ve = bbits (fun _ => true) vs) → 2 ^ cy 4 - vs < j7 → V E Z 7 [(0, .ref k), (1, .int (nI vs))] [] [ob k 8 [.int (nI th), .int (nI tr), .int wh, .ref g, va_rf rr, .ref (q 5), .int (nI (z 6)), .int (nI (z 7)), .int (nI (z 8)), .int (nI (z 9)), .int (nI (z 10)), .int nb, .int (nI (z 12)), .int wa, .long wd, .ref (q 15), .ref (q 16), .ref (q 17), .ref (q 18), .int (nI (z 19)), .int (nI (z 20)), .ref (q 21), .long (lN ve), .ref (q 23), .ref (q 24), .int (nI (z 25)), .ref (q 26), .int al, .long wl, .int (nI (z 29))], ob g 7 [.int (nI (cy 0)), .int (nI (cy 1)), .int (nI (cy 2)), .int (nI (cy 3)), .int (nI (cy 4)), .int (nI (cy 5)), .int (nI (cy 6)), .int (nI (cy 7)), .int (nI kp), .int (nI nc), .ref (cb 0), .ref (cb 1), .ref (cb 2), .ref (cb 3), .ref (cb 4), .ref (cb 5), .ref (cb 6), .ref (cb 7), .ref (cb 8), .ref (cb 9), .ref (cb 10), .ref (cb 11)], aN E (cb 2) 8 fo, aN E (cb 3) 8 on, aI E (cb 4) 8 tw, aI E (q 16) 25 (xF mn ink t dd), aM E (q 21) 8 kf] 0 0 := by
    intro j7
    induction j7 with
    | zero => intro vs ve hI hM; exact absurd hM (Nat.not_lt_zero _)
    | succ j7 ih7 =>
      intro vs ve hI7 hM7
      obtain ⟨hc, hb⟩ := id hI7
      refine v_iload_n X dX8_lays_7 rfl 1 rfl ?_
      refine v_iconst X dX8_lays_8 (v := nI 1) (by decide) ?_
      refine v_aload_n X dX8_lays_9 rfl 0 rfl ?_
      refine v_get X kcX8 fl_X8_306 dX8_lays_10 0 rfl rfl ?_
      refine v_getN X kcX7 fl_X8_183 dX8_lays_13 1 rfl rfl ?_
      refine v_ishl X dX8_lays_16 ?_
      refine v_eqi (x' := nI (2 ^ (cy 4))) (nI_shl1 (by omega)) ?_
      refine v_icmpN_ge X dX8_lays_17 (tgt := 38) (by decide) (by omega) (by omega) (fun h17 => ?_) (fun h17 => ?_)
      · obtain rfl : ve = allS (cy 4) := by rw [hb, show vs = 2 ^ cy 4 by omega, ev_all]
        refine v_iconst X dX8_lays_38 (v := nI 0) (by decide) ?_
        refine v_istore_n X dX8_lays_39 rfl (by decide) (lv' := [(1, .int (nI 0)), (0, .ref k)]) rfl ?_
        have L40 : ∀ (j40 : Nat) (vc : Nat) (vg : Nat → Nat), (vc ≤ cy 5 ∧ vg = lyF Fs Ft t (cy 4) kf vc) → cy 5 - vc < j40 → V E Z 40 [(0, .ref k), (1, .int (nI vc))] [] [ob k 8 [.int (nI th), .int (nI tr), .int wh, .ref g, va_rf rr, .ref (q 5), .int (nI (z 6)), .int (nI (z 7)), .int (nI (z 8)), .int (nI (z 9)), .int (nI (z 10)), .int nb, .int (nI (z 12)), .int wa, .long wd, .ref (q 15), .ref (q 16), .ref (q 17), .ref (q 18), .int (nI (z 19)), .int (nI (z 20)), .ref (q 21), .long (lN (allS (cy 4))), .ref (q 23), .ref (q 24), .int (nI (z 25)), .ref (q 26), .int al, .long wl, .int (nI (z 29))], ob g 7 [.int (nI (cy 0)), .int (nI (cy 1)), .int (nI (cy 2)), .int (nI (cy 3)), .int (nI (cy 4)), .int (nI (cy 5)), .int (nI (cy 6)), .int (nI (cy 7)), .int (nI kp), .int (nI nc), .ref (cb 0), .ref (cb 1), .ref (cb 2), .ref (cb 3), .ref (cb 4), .ref (cb 5), .ref (cb 6), .ref (cb 7), .ref (cb 8), .ref (cb 9), .ref (cb 10), .ref (cb 11)], aN E (cb 2) 8 fo, aN E (cb 3) 8 on, aI E (cb 4) 8 tw, aI E (q 16) 25 (xF mn ink t dd), aM E (q 21) 8 vg] 0 0 := by
          intro j40
          induction j40 with
          | zero => intro vc vg hI hM; exact absurd hM (Nat.not_lt_zero _)
          | succ j40 ih40 =>
            intro vc vg hI40 hM40
            obtain ⟨hcc, hg⟩ := id hI40
            refine v_iload_n X dX8_lays_40 rfl 1 rfl ?_
            refine v_aload_n X dX8_lays_41 rfl 0 rfl ?_
            refine v_get X kcX8 fl_X8_306 dX8_lays_42 0 rfl rfl ?_
            refine v_getN X kcX7 fl_X8_240 dX8_lays_45 1 rfl rfl ?_
            refine v_icmpN_ge X dX8_lays_48 (tgt := 106) (by decide) (by omega) (by omega) (fun h48 => ?_) (fun h48 => ?_)
            · obtain rfl : vc = cy 5 := by omega
              subst hg
              exact v_vret X Y dX8_lays_106 (wrV_of rfl) (by omega) (by omega)
            · refine v_aload_n X dX8_lays_51 rfl 0 rfl ?_
              refine v_get X kcX8 fl_X8_30 dX8_lays_52 0 rfl rfl ?_
              refine v_iload_n X dX8_lays_55 rfl 1 rfl ?_
              refine v_lconst X dX8_lays_56 (v := lN 0) (by decide) ?_
              refine v_last X dX8_lays_57 6 rfl (by omega) (by decide) (ws' := [ob k 8 [.int (nI th), .int (nI tr), .int wh, .ref g, va_rf rr, .ref (q 5), .int (nI (z 6)), .int (nI (z 7)), .int (nI (z 8)), .int (nI (z 9)), .int (nI (z 10)), .int nb, .int (nI (z 12)), .int wa, .long wd, .ref (q 15), .ref (q 16), .ref (q 17), .ref (q 18), .int (nI (z 19)), .int (nI (z 20)), .ref (q 21), .long (lN (allS (cy 4))), .ref (q 23), .ref (q 24), .int (nI (z 25)), .ref (q 26), .int al, .long wl, .int (nI (z 29))], ob g 7 [.int (nI (cy 0)), .int (nI (cy 1)), .int (nI (cy 2)), .int (nI (cy 3)), .int (nI (cy 4)), .int (nI (cy 5)), .int (nI (cy 6)), .int (nI (cy 7)), .int (nI kp), .int (nI nc), .ref (cb 0), .ref (cb 1), .ref (cb 2), .ref (cb 3), .ref (cb 4), .ref (cb 5), .ref (cb 6), .ref (cb 7), .ref (cb 8), .ref (cb 9), .ref (cb 10), .ref (cb 11)], aN E (cb 2) 8 fo, aN E (cb 3) 8 on, aI E (cb 4) 8 tw, aI E (q 16) 25 (xF mn ink t dd), aM E (q 21) 8 (upN vg vc 0)]) (by rw [upd_lN]; rfl) ?_
              refine v_iconst X dX8_lays_58 (v := nI 0) (by decide) ?_
              refine v_istore_n X dX8_lays_59 rfl (by decide) (lv' := [(2, .int (nI 0)), (0, .ref k), (1, .int (nI vc))]) rfl ?_
              have L60 : ∀ (j60 : Nat) (vs : Nat) (vh : Nat → Nat), (vs ≤ 2 ^ cy 4 ∧ vh = upN vg vc (bbits (fun s => (if t.testBit vc = true then Ft vc else Fs vc).testBit s) vs)) → 2 ^ cy 4 - vs < j60 → V E Z 60 [(0, .ref k), (1, .int (nI vc)), (2, .int (nI vs))] [] [ob k 8 [.int (nI th), .int (nI tr), .int wh, .ref g, va_rf rr, .ref (q 5), .int (nI (z 6)), .int (nI (z 7)), .int (nI (z 8)), .int (nI (z 9)), .int (nI (z 10)), .int nb, .int (nI (z 12)), .int wa, .long wd, .ref (q 15), .ref (q 16), .ref (q 17), .ref (q 18), .int (nI (z 19)), .int (nI (z 20)), .ref (q 21), .long (lN (allS (cy 4))), .ref (q 23), .ref (q 24), .int (nI (z 25)), .ref (q 26), .int al, .long wl, .int (nI (z 29))], ob g 7 [.int (nI (cy 0)), .int (nI (cy 1)), .int (nI (cy 2)), .int (nI (cy 3)), .int (nI (cy 4)), .int (nI (cy 5)), .int (nI (cy 6)), .int (nI (cy 7)), .int (nI kp), .int (nI nc), .ref (cb 0), .ref (cb 1), .ref (cb 2), .ref (cb 3), .ref (cb 4), .ref (cb 5), .ref (cb 6), .ref (cb 7), .ref (cb 8), .ref (cb 9), .ref (cb 10), .ref (cb 11)], aN E (cb 2) 8 fo, aN E (cb 3) 8 on, aI E (cb 4) 8 tw, aI E (q 16) 25 (xF mn ink t dd), aM E (q 21) 8 vh] 0 0 := by
                intro j60
                induction j60 with
                | zero => intro vs vh hI hM; exact absurd hM (Nat.not_lt_zero _)
                | succ j60 ih60 =>
                  intro vs vh hI60 hM60
                  obtain ⟨hc, hg2⟩ := id hI60
                  refine v_iload_n X dX8_lays_60 rfl 2 rfl ?_
                  refine v_iconst X dX8_lays_61 (v := nI 1) (by decide) ?_
                  refine v_aload_n X dX8_lays_62 rfl 0 rfl ?_
                  refine v_get X kcX8 fl_X8_306 dX8_lays_63 0 rfl rfl ?_
                  refine v_getN X kcX7 fl_X8_183 dX8_lays_66 1 rfl rfl ?_
                  refine v_ishl X dX8_lays_69 ?_
                  refine v_eqi (x' := nI (2 ^ (cy 4))) (nI_shl1 (by omega)) ?_
                  refine v_icmpN_ge X dX8_lays_70 (tgt := 100) (by decide) (by omega) (by omega) (fun h70 => ?_) (fun h70 => ?_)
                  · refine v_iinc X dX8_lays_100 1 rfl (v := nI (vc + 1)) (nI_inc vc) (by decide) (lv' := [(1, .int (nI (vc + 1))), (0, .ref k), (2, .int (nI vs))]) rfl ?_
                    refine v_goto X dX8_lays_103 (tgt := 40) (by decide) ?_
                    refine V.lvs [1, 0] rfl ?_
                    exact ih40 (vc + 1) vh (⟨by omega, by rw [hg2, hg, show vs = 2 ^ cy 4 by omega]; exact lyF_at _ _ _ _ _ _ _ rfl⟩) (by omega)
                  · refine v_aload_n X dX8_lays_73 rfl 0 rfl ?_
                    refine v_iload_n X dX8_lays_74 rfl 1 rfl ?_
                    refine v_iload_n X dX8_lays_75 rfl 2 rfl ?_
                    refine v_roI1 X (rn_V X k_X8_isKept ml_X8_323 dX8_lays_76 (c_X8_isKept l E k th tr wh g rr q z nb wa wd (allS (cy 4)) al wl cy kp nc cb fo on tw Fs Ft mn ink t dd vc vs (by omega) (by omega) (hfo vc (by omega)) (hon vc (by omega)) (htw vc (by omega)) (hFs vc (by omega)) (hFt vc (by omega))) rfl 0 rfl rfl (by decide) (by decide) (by omega) (by omega) (Nat.le_of_ble_eq_true rfl)) [0, 1, 2, 3, 4, 5] rfl rfl ?_
                    refine v_ifB_eq X dX8_lays_79 (tgt := 94) (by decide) (fun h79 => ?_) (fun h79 => ?_)
                    · refine v_iinc X dX8_lays_94 2 rfl (v := nI (vs + 1)) (nI_inc vs) (by decide) (lv' := [(2, .int (nI (vs + 1))), (0, .ref k), (1, .int (nI vc))]) rfl ?_
                      refine v_goto X dX8_lays_97 (tgt := 60) (by decide) ?_
                      refine V.lvs [1, 2, 0] rfl ?_
                      exact ih60 (vs + 1) vh (⟨by omega, by rw [hg2, bbits_no h79]⟩) (by omega)
                    · refine v_aload_n X dX8_lays_82 rfl 0 rfl ?_
                      refine v_get X kcX8 fl_X8_30 dX8_lays_83 0 rfl rfl ?_
                      refine v_iload_n X dX8_lays_86 rfl 1 rfl ?_
                      refine v_dup2 X dX8_lays_87 rfl rfl ?_
                      refine v_lald X dX8_lays_88 6 rfl (by omega) (by decide) ?_
                      refine v_eql (x' := lN (bbits (fun s => (if t.testBit vc = true then Ft vc else Fs vc).testBit s) vs)) (by rw [hg2, upN_at]) ?_
                      refine v_lconst X dX8_lays_89 (v := lN 1) (by decide) ?_
                      refine v_iload_n X dX8_lays_90 rfl 2 rfl ?_
                      refine v_lshl X dX8_lays_91 (v := lN (1 * 2 ^ vs)) (wb_shl _ (by omega)) ?_
                      refine v_lor X dX8_lays_92 ?_
                      refine v_eql (x' := lN ((bbits (fun s => (if t.testBit vc = true then Ft vc else Fs vc).testBit s) vs) ||| (1 * 2 ^ vs))) (fb_orL _ _) ?_
                      refine v_last X dX8_lays_93 6 rfl (by omega) (by decide) (ws' := [ob k 8 [.int (nI th), .int (nI tr), .int wh, .ref g, va_rf rr, .ref (q 5), .int (nI (z 6)), .int (nI (z 7)), .int (nI (z 8)), .int (nI (z 9)), .int (nI (z 10)), .int nb, .int (nI (z 12)), .int wa, .long wd, .ref (q 15), .ref (q 16), .ref (q 17), .ref (q 18), .int (nI (z 19)), .int (nI (z 20)), .ref (q 21), .long (lN (allS (cy 4))), .ref (q 23), .ref (q 24), .int (nI (z 25)), .ref (q 26), .int al, .long wl, .int (nI (z 29))], ob g 7 [.int (nI (cy 0)), .int (nI (cy 1)), .int (nI (cy 2)), .int (nI (cy 3)), .int (nI (cy 4)), .int (nI (cy 5)), .int (nI (cy 6)), .int (nI (cy 7)), .int (nI kp), .int (nI nc), .ref (cb 0), .ref (cb 1), .ref (cb 2), .ref (cb 3), .ref (cb 4), .ref (cb 5), .ref (cb 6), .ref (cb 7), .ref (cb 8), .ref (cb 9), .ref (cb 10), .ref (cb 11)], aN E (cb 2) 8 fo, aN E (cb 3) 8 on, aI E (cb 4) 8 tw, aI E (q 16) 25 (xF mn ink t dd), aM E (q 21) 8 (upN vh vc ((bbits (fun s => (if t.testBit vc = true then Ft vc else Fs vc).testBit s) vs) ||| (1 * 2 ^ vs)))]) (by rw [upd_lN]; rfl) ?_
                      refine v_iinc X dX8_lays_94 2 rfl (v := nI (vs + 1)) (nI_inc vs) (by decide) (lv' := [(2, .int (nI (vs + 1))), (0, .ref k), (1, .int (nI vc))]) rfl ?_
                      refine v_goto X dX8_lays_97 (tgt := 60) (by decide) ?_
                      refine V.lvs [1, 2, 0] rfl ?_
                      exact ih60 (vs + 1) (upN vh vc ((bbits (fun s => (if t.testBit vc = true then Ft vc else Fs vc).testBit s) vs) ||| (1 * 2 ^ vs))) (⟨by omega, by rw [hg2, upN_up, Nat.one_mul, bbits_yes h79]⟩) (by omega)
              refine V.lvs [1, 2, 0] rfl ?_
              exact L60 _ 0 (upN vg vc 0) (⟨Nat.zero_le _, rfl⟩) (Nat.lt_succ_self _)
        refine V.lvs [1, 0] rfl ?_
        exact L40 _ 0 kf (⟨Nat.zero_le _, rfl⟩) (Nat.lt_succ_self _)
      · refine v_aload_n X dX8_lays_20 rfl 0 rfl ?_
        refine v_dup X dX8_lays_21 rfl ?_
        refine v_get X kcX8 fl_X8_320 dX8_lays_22 0 rfl rfl ?_
        refine v_lconst X dX8_lays_25 (v := lN 1) (by decide) ?_
        refine v_iload_n X dX8_lays_26 rfl 1 rfl ?_
        refine v_lshl X dX8_lays_27 (v := lN (1 * 2 ^ vs)) (wb_shl _ (by omega)) ?_
        refine v_lor X dX8_lays_28 ?_
        refine v_eql (x' := lN (ve ||| (1 * 2 ^ vs))) (fb_orL _ _) ?_
        refine v_put X kcX8 fl_X8_320 dX8_lays_29 0 rfl (ws' := [ob k 8 [.int (nI th), .int (nI tr), .int wh, .ref g, va_rf rr, .ref (q 5), .int (nI (z 6)), .int (nI (z 7)), .int (nI (z 8)), .int (nI (z 9)), .int (nI (z 10)), .int nb, .int (nI (z 12)), .int wa, .long wd, .ref (q 15), .ref (q 16), .ref (q 17), .ref (q 18), .int (nI (z 19)), .int (nI (z 20)), .ref (q 21), .long (lN (ve ||| (1 * 2 ^ vs))), .ref (q 23), .ref (q 24), .int (nI (z 25)), .ref (q 26), .int al, .long wl, .int (nI (z 29))], ob g 7 [.int (nI (cy 0)), .int (nI (cy 1)), .int (nI (cy 2)), .int (nI (cy 3)), .int (nI (cy 4)), .int (nI (cy 5)), .int (nI (cy 6)), .int (nI (cy 7)), .int (nI kp), .int (nI nc), .ref (cb 0), .ref (cb 1), .ref (cb 2), .ref (cb 3), .ref (cb 4), .ref (cb 5), .ref (cb 6), .ref (cb 7), .ref (cb 8), .ref (cb 9), .ref (cb 10), .ref (cb 11)], aN E (cb 2) 8 fo, aN E (cb 3) 8 on, aI E (cb 4) 8 tw, aI E (q 16) 25 (xF mn ink t dd), aM E (q 21) 8 kf]) rfl rfl ?_
        refine v_iinc X dX8_lays_32 1 rfl (v := nI (vs + 1)) (nI_inc vs) (by decide) (lv' := [(1, .int (nI (vs + 1))), (0, .ref k)]) rfl ?_
        refine v_goto X dX8_lays_35 (tgt := 7) (by decide) ?_
        refine V.lvs [1, 0] rfl ?_
        exact ih7 (vs + 1) (ve ||| (1 * 2 ^ vs)) (⟨by omega, by rw [Nat.one_mul, hb]; exact (bbits_yes rfl).symm⟩) (by omega)
  refine V.lvs [1, 0] rfl ?_
  exact L7 _ 0 0 (⟨Nat.zero_le _, rfl⟩) (Nat.lt_succ_self _)
set_option maxRecDepth 100000 in
set_option maxHeartbeats 4000000 in
theorem c_X8_worksLaid (l : Launch) (E : Et) (k : Nat) (th : Nat) (tr : Nat) (wh : Int32) (g : Nat) (rr : Option Nat) (q : Nat → Nat) (z : Nat → Nat) (nb : Int32) (wa : Int32) (wd : Int64) (ev : Nat) (al : Int32) (wl : Int64) (cy : Nat → Nat) (kp : Nat) (nc : Nat) (cb : Nat → Nat) (fo : Nat → Nat) (on : Nat → Nat) (tw : Nat → Int32) (xf : Nat → Int32) (mn : Nat → Int32) (ink : Nat → Nat) (t : Nat) (dd : Nat) (Fs : Nat → Nat) (Ft : Nat → Nat) (kf : Nat → Nat) (hd : cy 4 ≤ 6) (hcl : cy 5 ≤ 8) (hfo : ∀ c, c < cy 5 → fo c ≤ 5) (hon : ∀ c, c < cy 5 → on c < 6) (htw : ∀ c, c < cy 5 → okT (tw c)) (hFs : ∀ c, c < cy 5 → Fs c = strN (fo c) (swI (nI (on c))) (swI (tw c))) (hFt : ∀ c, c < cy 5 → Ft c = turN (fo c) (swI (nI (on c))) (swI (tw c))) : Ct l E yX8_worksLaid cX8_worksLaid 1 none 3 0 0 [.ref k] [ob k 8 [.int (nI th), .int (nI tr), .int wh, .ref g, va_rf rr, .ref (q 5), .int (nI (z 6)), .int (nI (z 7)), .int (nI (z 8)), .int (nI (z 9)), .int (nI (z 10)), .int nb, .int (nI (z 12)), .int wa, .long wd, .ref (q 15), .ref (q 16), .ref (q 17), .ref (q 18), .int (nI (z 19)), .int (nI (z 20)), .ref (q 21), .long (lN ev), .ref (q 23), .ref (q 24), .int (nI (z 25)), .ref (q 26), .int al, .long wl, .int (nI (z 29))], ob g 7 [.int (nI (cy 0)), .int (nI (cy 1)), .int (nI (cy 2)), .int (nI (cy 3)), .int (nI (cy 4)), .int (nI (cy 5)), .int (nI (cy 6)), .int (nI (cy 7)), .int (nI kp), .int (nI nc), .ref (cb 0), .ref (cb 1), .ref (cb 2), .ref (cb 3), .ref (cb 4), .ref (cb 5), .ref (cb 6), .ref (cb 7), .ref (cb 8), .ref (cb 9), .ref (cb 10), .ref (cb 11)], aN E (cb 2) 8 fo, aN E (cb 3) 8 on, aI E (cb 4) 8 tw, aI E (q 15) 25 (xF mn ink t dd), aI E (q 16) 25 xf, aM E (q 21) 8 kf] (wrV [ob k 8 [.int (nI th), .int (nI tr), .int wh, .ref g, va_rf rr, .ref (q 5), .int (nI (z 6)), .int (nI (z 7)), .int (nI (z 8)), .int (nI (z 9)), .int (nI (z 10)), .int nb, .int (nI (z 12)), .int wa, .long wd, .ref (q 15), .ref (q 16), .ref (q 17), .ref (q 18), .int (nI (z 19)), .int (nI (z 20)), .ref (q 21), .long (lN (allS (cy 4))), .ref (q 23), .ref (q 24), .int (nI (z 25)), .ref (q 26), .int al, .long wl, .int (nI (z 29))], ob g 7 [.int (nI (cy 0)), .int (nI (cy 1)), .int (nI (cy 2)), .int (nI (cy 3)), .int (nI (cy 4)), .int (nI (cy 5)), .int (nI (cy 6)), .int (nI (cy 7)), .int (nI kp), .int (nI nc), .ref (cb 0), .ref (cb 1), .ref (cb 2), .ref (cb 3), .ref (cb 4), .ref (cb 5), .ref (cb 6), .ref (cb 7), .ref (cb 8), .ref (cb 9), .ref (cb 10), .ref (cb 11)], aN E (cb 2) 8 fo, aN E (cb 3) 8 on, aI E (cb 4) 8 tw, aI E (q 15) 25 (xF mn ink t dd), aI E (q 16) 25 (xF mn ink t dd), aM E (q 21) 8 (lyF Fs Ft t (cy 4) kf (cy 5))]) := by
  refine Ct.intro (by decide +kernel) (Nat.le_of_ble_eq_true rfl) (lv := [(0, .ref k)]) rfl ?_
  intro Z X Y
  refine v_aload_n X dX8_worksLaid_0 rfl 0 rfl ?_
  refine v_wrV1 X (rn_V X k_X8_works ml_X8_326 dX8_worksLaid_1 (c_X8_works l E k th tr wh g rr q z nb wa wd ev al wl xf (xF mn ink t dd) ) rfl 0 rfl rfl (by decide) (by decide) (by omega) (by omega) (Nat.le_of_ble_eq_true rfl)) [0, 5, 6] rfl rfl (ws' := [ob k 8 [.int (nI th), .int (nI tr), .int wh, .ref g, va_rf rr, .ref (q 5), .int (nI (z 6)), .int (nI (z 7)), .int (nI (z 8)), .int (nI (z 9)), .int (nI (z 10)), .int nb, .int (nI (z 12)), .int wa, .long wd, .ref (q 15), .ref (q 16), .ref (q 17), .ref (q 18), .int (nI (z 19)), .int (nI (z 20)), .ref (q 21), .long (lN ev), .ref (q 23), .ref (q 24), .int (nI (z 25)), .ref (q 26), .int al, .long wl, .int (nI (z 29))], ob g 7 [.int (nI (cy 0)), .int (nI (cy 1)), .int (nI (cy 2)), .int (nI (cy 3)), .int (nI (cy 4)), .int (nI (cy 5)), .int (nI (cy 6)), .int (nI (cy 7)), .int (nI kp), .int (nI nc), .ref (cb 0), .ref (cb 1), .ref (cb 2), .ref (cb 3), .ref (cb 4), .ref (cb 5), .ref (cb 6), .ref (cb 7), .ref (cb 8), .ref (cb 9), .ref (cb 10), .ref (cb 11)], aN E (cb 2) 8 fo, aN E (cb 3) 8 on, aI E (cb 4) 8 tw, aI E (q 15) 25 (xF mn ink t dd), aI E (q 16) 25 (xF mn ink t dd), aM E (q 21) 8 kf]) rfl rfl ?_
  refine v_aload_n X dX8_worksLaid_4 rfl 0 rfl ?_
  refine v_wrV1 X (rn_V X k_X8_lays ml_X8_329 dX8_worksLaid_5 (c_X8_lays l E k th tr wh g rr q z nb wa wd ev al wl cy kp nc cb fo on tw mn ink t dd Fs Ft kf (by first | assumption | omega) (by first | assumption | omega) (by first | assumption | omega) (by first | assumption | omega) (by first | assumption | omega) (by first | assumption | omega) (by first | assumption | omega)) rfl 0 rfl rfl (by decide) (by decide) (by omega) (by omega) (Nat.le_of_ble_eq_true rfl)) [0, 1, 2, 3, 4, 6, 7] rfl rfl (ws' := [ob k 8 [.int (nI th), .int (nI tr), .int wh, .ref g, va_rf rr, .ref (q 5), .int (nI (z 6)), .int (nI (z 7)), .int (nI (z 8)), .int (nI (z 9)), .int (nI (z 10)), .int nb, .int (nI (z 12)), .int wa, .long wd, .ref (q 15), .ref (q 16), .ref (q 17), .ref (q 18), .int (nI (z 19)), .int (nI (z 20)), .ref (q 21), .long (lN (allS (cy 4))), .ref (q 23), .ref (q 24), .int (nI (z 25)), .ref (q 26), .int al, .long wl, .int (nI (z 29))], ob g 7 [.int (nI (cy 0)), .int (nI (cy 1)), .int (nI (cy 2)), .int (nI (cy 3)), .int (nI (cy 4)), .int (nI (cy 5)), .int (nI (cy 6)), .int (nI (cy 7)), .int (nI kp), .int (nI nc), .ref (cb 0), .ref (cb 1), .ref (cb 2), .ref (cb 3), .ref (cb 4), .ref (cb 5), .ref (cb 6), .ref (cb 7), .ref (cb 8), .ref (cb 9), .ref (cb 10), .ref (cb 11)], aN E (cb 2) 8 fo, aN E (cb 3) 8 on, aI E (cb 4) 8 tw, aI E (q 15) 25 (xF mn ink t dd), aI E (q 16) 25 (xF mn ink t dd), aM E (q 21) 8 (lyF Fs Ft t (cy 4) kf (cy 5))]) rfl rfl ?_
  exact v_vret X Y dX8_worksLaid_8 (wrV_of rfl) (by omega) (by omega)
