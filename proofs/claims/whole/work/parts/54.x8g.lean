set_option maxRecDepth 100000 in
set_option maxHeartbeats 4000000 in
theorem c_X8_lost (l : Launch) (E : Et) (k : Nat) (th : Nat) (tr : Nat) (wh : Int32) (g : Nat) (q : Nat → Nat) (z : Nat → Nat) (nb : Int32) (wa : Int32) (wd : Int64) (ev : Nat) (wl : Int64) (n : Nat)  : Ct l E yX8_lost cX8_lost 2 (some .int) 1 0 0 [.ref k, .int (nI n)] [ob k 8 [.int (nI th), .int (nI tr), .int wh, .ref g, .ref (q 4), .ref (q 5), .int (nI (z 6)), .int (nI (z 7)), .int (nI (z 8)), .int (nI (z 9)), .int (nI (z 10)), .int nb, .int (nI (z 12)), .int wa, .long wd, .ref (q 15), .ref (q 16), .ref (q 17), .ref (q 18), .int (nI (z 19)), .int (nI (z 20)), .ref (q 21), .long (lN ev), .ref (q 23), .ref (q 24), .int (nI (z 25)), .ref (q 26), .int (nI (z 27)), .long wl, .int (nI (z 29))]] (wrI [ob k 8 [.int (nI th), .int (nI n), .int (-1), .ref g, .ref (q 4), .ref (q 5), .int (nI (z 6)), .int (nI (z 7)), .int (nI (z 8)), .int (nI (z 9)), .int (nI (z 10)), .int nb, .int (nI (z 12)), .int wa, .long wd, .ref (q 15), .ref (q 16), .ref (q 17), .ref (q 18), .int (nI (z 19)), .int (nI (z 20)), .ref (q 21), .long (lN ev), .ref (q 23), .ref (q 24), .int (nI (z 25)), .ref (q 26), .int (nI (z 27)), .long wl, .int (nI (z 29))]] (-100)) := by
  refine Ct.intro (by decide +kernel) (Nat.le_of_ble_eq_true rfl) (lv := [(0, .ref k), (1, .int (nI n))]) rfl ?_
  intro Z X Y
  refine v_aload_n X dX8_lost_0 rfl 0 rfl ?_
  refine v_iload_n X dX8_lost_1 rfl 1 rfl ?_
  refine v_wrI1 X (rn_V X k_X8_refused ml_X8_49 dX8_lost_2 (c_X8_refused l E k th tr wh g q z nb wa wd ev wl n ) rfl 0 rfl rfl (by decide) (by decide) (by omega) (by omega) (Nat.le_of_ble_eq_true rfl)) [0] rfl rfl (ws' := [ob k 8 [.int (nI th), .int (nI n), .int (-1), .ref g, .ref (q 4), .ref (q 5), .int (nI (z 6)), .int (nI (z 7)), .int (nI (z 8)), .int (nI (z 9)), .int (nI (z 10)), .int nb, .int (nI (z 12)), .int wa, .long wd, .ref (q 15), .ref (q 16), .ref (q 17), .ref (q 18), .int (nI (z 19)), .int (nI (z 20)), .ref (q 21), .long (lN ev), .ref (q 23), .ref (q 24), .int (nI (z 25)), .ref (q 26), .int (nI (z 27)), .long wl, .int (nI (z 29))]]) rfl rfl ?_
  refine v_pop X dX8_lost_5 rfl ?_
  refine v_bipush X dX8_lost_6 (v := (-100)) (by decide) ?_
  exact v_iret X Y dX8_lost_8 (wrI_of rfl rfl) (by omega) (by omega)
set_option maxRecDepth 100000 in
set_option maxHeartbeats 4000000 in
theorem c_X8_many (l : Launch) (E : Et) (a : Nat) (ha : a < 2 ^ 64) : Ct l E yX8_many cX8_many 5 (some .int) 0 0 0 [.long (lN a)] [] (roI [] (nI (cnt (fun k => a.testBit k) 64))) := by
  refine Ct.intro (by decide +kernel) (Nat.le_of_ble_eq_true rfl) (lv := [(0, .long (lN a))]) rfl ?_
  intro Z X Y
  refine v_iconst X dX8_many_0 (v := nI 0) (by decide) ?_
  refine v_istore_n X dX8_many_1 rfl (by decide) (lv' := [(2, .int (nI 0)), (0, .long (lN a))]) rfl ?_
  refine v_lload_n X dX8_many_2 rfl 1 rfl ?_
  refine v_lstore_n X dX8_many_3 rfl (by decide) (lv' := [(3, .long (lN a)), (2, .int (nI 0)), (0, .long (lN a))]) rfl ?_
  have L4 : ∀ (j4 : Nat) (vb : Nat) (vn : Nat), (vb < 2 ^ 64 ∧ vn + cnt (fun k => vb.testBit k) 64 = cnt (fun k => a.testBit k) 64) → vb < j4 → V E Z 4 [(0, .long (lN a)), (2, .int (nI vn)), (3, .long (lN vb))] [] [] 0 0 := by
    intro j4
    induction j4 with
    | zero => intro vb vn hI hM; exact absurd hM (Nat.not_lt_zero _)
    | succ j4 ih4 =>
      intro vb vn hI4 hM4
      obtain ⟨hc, hb⟩ := id hI4
      refine v_lload_n X dX8_many_4 rfl 2 rfl ?_
      refine v_lconst X dX8_many_5 (v := lN 0) (by decide) ?_
      refine v_lcmp X dX8_many_6 ?_
      refine v_ifLN_eq X dX8_many_7 (tgt := 22) (by decide) hc (by decide) (fun h7 => ?_) (fun h7 => ?_)
      · refine v_iload_n X dX8_many_22 rfl 1 rfl ?_
        exact v_iret X Y dX8_many_23 (roI_of (by subst h7; rw [← hb, cnt64_0]; rfl)) (by omega) (by omega)
      · refine v_iinc X dX8_many_10 1 rfl (v := nI (vn + 1)) (nI_inc vn) (by decide) (lv' := [(2, .int (nI (vn + 1))), (0, .long (lN a)), (3, .long (lN vb))]) rfl ?_
        refine v_lload_n X dX8_many_13 rfl 2 rfl ?_
        refine v_lload_n X dX8_many_14 rfl 2 rfl ?_
        refine v_lconst X dX8_many_15 (v := lN 1) (by decide) ?_
        refine v_lsub X dX8_many_16 ?_
        refine v_eql (x' := lN (vb - 1)) (lN_sub (by omega)) ?_
        refine v_land X dX8_many_17 ?_
        refine v_eql (x' := lN (vb &&& (vb - 1))) (fb_andL _ _) ?_
        refine v_lstore_n X dX8_many_18 rfl (by decide) (lv' := [(3, .long (lN (vb &&& (vb - 1)))), (2, .int (nI (vn + 1))), (0, .long (lN a))]) rfl ?_
        refine v_goto X dX8_many_19 (tgt := 4) (by decide) ?_
        refine V.lvs [2, 1, 0] rfl ?_
        exact ih4 (vb &&& (vb - 1)) (vn + 1) (⟨Nat.lt_of_le_of_lt Nat.and_le_left hc, by have := low64 hc h7; omega⟩) (by have : vb &&& (vb - 1) ≤ vb - 1 := Nat.and_le_right; omega)
  refine V.lvs [2, 1, 0] rfl ?_
  exact L4 _ a 0 (⟨ha, Nat.zero_add _⟩) (Nat.lt_succ_self _)
set_option maxRecDepth 100000 in
set_option maxHeartbeats 4000000 in
theorem c_X8_holds (l : Launch) (E : Et) (a : Nat) (i : Nat) (ha : a < 2 ^ 64) (hi : i < 64) : Ct l E yX8_holds cX8_holds 3 (some .boolean) 0 0 0 [.long (lN a), .int (nI i)] [] (roI [] (nI (a.testBit i).toNat)) := by
  refine Ct.intro (by decide +kernel) (Nat.le_of_ble_eq_true rfl) (lv := [(0, .long (lN a)), (2, .int (nI i))]) rfl ?_
  intro Z X Y
  refine v_lload_n X dX8_holds_0 rfl 0 rfl ?_
  refine v_iload_n X dX8_holds_1 rfl 1 rfl ?_
  refine v_lshr X dX8_holds_2 (v := lN a >>> ((nI i).toInt64 &&& 63)) rfl ?_
  refine v_lconst X dX8_holds_3 (v := lN 1) (by decide) ?_
  refine v_land X dX8_holds_4 ?_
  refine v_eql (x' := lN ((a.testBit i).toNat)) (lN_hold ha hi) ?_
  refine v_lconst X dX8_holds_5 (v := lN 1) (by decide) ?_
  refine v_lcmp X dX8_holds_6 ?_
  refine v_ifLN_ne X dX8_holds_7 (tgt := 14) (by decide) (by cases (a.testBit i) <;> decide) (by decide) (fun h7 => ?_) (fun h7 => ?_)
  · refine v_iconst X dX8_holds_14 (v := nI 0) (by decide) ?_
    exact v_zret X Y dX8_holds_15 (by decide) (roI_of (by cases hq : a.testBit i <;> simp_all)) (by omega) (by omega)
  · refine v_iconst X dX8_holds_10 (v := nI 1) (by decide) ?_
    refine v_goto X dX8_holds_11 (tgt := 15) (by decide) ?_
    exact v_zret X Y dX8_holds_15 (by decide) (roI_of (by cases hq : a.testBit i <;> simp_all)) (by omega) (by omega)
set_option maxRecDepth 100000 in
set_option maxHeartbeats 4000000 in
theorem c_X8_common (l : Launch) (E : Et) (u : Nat) (w : Nat) (hu : u < 2 ^ 63) (hw : w < 2 ^ 63) : Ct l E yX8_common cX8_common 10 (some .long) 0 0 0 [.long (lN u), .long (lN w)] [] (roL [] (lN (Nat.gcd u w))) := by
  refine Ct.intro (by decide +kernel) (Nat.le_of_ble_eq_true rfl) (lv := [(0, .long (lN u)), (2, .long (lN w))]) rfl ?_
  intro Z X Y
  refine v_lload_n X dX8_common_0 rfl 0 rfl ?_
  refine v_lstore X dX8_common_1 (by decide) (lv' := [(4, .long (lN u)), (0, .long (lN u)), (2, .long (lN w))]) rfl ?_
  refine v_lload_n X dX8_common_3 rfl 2 rfl ?_
  refine v_lstore X dX8_common_4 (by decide) (lv' := [(6, .long (lN w)), (4, .long (lN u)), (0, .long (lN u)), (2, .long (lN w))]) rfl ?_
  have L6 : ∀ (j6 : Nat) (vx : Nat) (vy : Nat), (vx < 2 ^ 63 ∧ vy < 2 ^ 63 ∧ Nat.gcd vx vy = Nat.gcd u w) → vy < j6 → V E Z 6 [(0, .long (lN u)), (2, .long (lN w)), (4, .long (lN vx)), (6, .long (lN vy))] [] [] 0 0 := by
    intro j6
    induction j6 with
    | zero => intro vx vy hI hM; exact absurd hM (Nat.not_lt_zero _)
    | succ j6 ih6 =>
      intro vx vy hI6 hM6
      obtain ⟨hvx, hvy, hq⟩ := id hI6
      refine v_lload X dX8_common_6 3 rfl ?_
      refine v_lconst X dX8_common_8 (v := lN 0) (by decide) ?_
      refine v_lcmp X dX8_common_9 ?_
      refine v_ifLN_eq X dX8_common_10 (tgt := 31) (by decide) (by omega) (by decide) (fun h10 => ?_) (fun h10 => ?_)
      · refine v_lload X dX8_common_31 2 rfl ?_
        exact v_lret X Y dX8_common_33 (roL_of (by rw [← hq, h10, Nat.gcd_zero_right])) (by omega) (by omega)
      · refine v_lload X dX8_common_13 2 rfl ?_
        refine v_lload X dX8_common_15 3 rfl ?_
        refine v_lrem X dX8_common_17 (lN_ne0 hvy h10) ?_
        refine v_eql (x' := lN (vx % vy)) (lN_rem hvx h10 hvy) ?_
        refine v_lstore X dX8_common_18 (by decide) (lv' := [(8, .long (lN (vx % vy))), (0, .long (lN u)), (2, .long (lN w)), (4, .long (lN vx)), (6, .long (lN vy))]) rfl ?_
        refine v_lload X dX8_common_20 4 rfl ?_
        refine v_lstore X dX8_common_22 (by decide) (lv' := [(4, .long (lN vy)), (8, .long (lN (vx % vy))), (0, .long (lN u)), (2, .long (lN w)), (6, .long (lN vy))]) rfl ?_
        refine v_lload X dX8_common_24 1 rfl ?_
        refine v_lstore X dX8_common_26 (by decide) (lv' := [(6, .long (lN (vx % vy))), (4, .long (lN vy)), (8, .long (lN (vx % vy))), (0, .long (lN u)), (2, .long (lN w))]) rfl ?_
        refine v_goto X dX8_common_28 (tgt := 6) (by decide) ?_
        refine V.lvs [3, 4, 1, 0] rfl ?_
        exact ih6 vy (vx % vy) (⟨hvy, Nat.lt_of_le_of_lt (Nat.mod_le _ _) hvx, by rw [← hq, Nat.gcd_comm vx vy, Nat.gcd_rec vy vx, Nat.gcd_comm]⟩) (by have := Nat.mod_lt vx (Nat.pos_of_ne_zero h10); omega)
  refine V.lvs [2, 3, 1, 0] rfl ?_
  exact L6 _ u w (⟨hu, hw, rfl⟩) (Nat.lt_succ_self _)
set_option maxRecDepth 100000 in
set_option maxHeartbeats 4000000 in
theorem c_X8_fraction (l : Launch) (E : Et) (k : Nat) (th : Nat) (tr : Nat) (wh : Int32) (g : Nat) (q : Nat → Nat) (z : Nat → Nat) (nb : Int32) (wa : Int32) (wd : Int64) (ev : Nat) (wl : Int64) (u : Nat) (w : Nat) (b : Bool) (hu : u < 2 ^ 63) (hw : w < 2 ^ 63) (hz : w = 0 → u = 0) : Ct l E yX8_fraction cX8_fraction 6 (some .long) 1 0 0 [.ref k, .long (lN u), .long (lN w), .int (nI (b).toNat)] [ob k 8 [.int (nI th), .int (nI tr), .int wh, .ref g, .ref (q 4), .ref (q 5), .int (nI (z 6)), .int (nI (z 7)), .int (nI (z 8)), .int (nI (z 9)), .int (nI (z 10)), .int nb, .int (nI (z 12)), .int wa, .long wd, .ref (q 15), .ref (q 16), .ref (q 17), .ref (q 18), .int (nI (z 19)), .int (nI (z 20)), .ref (q 21), .long (lN ev), .ref (q 23), .ref (q 24), .int (nI (z 25)), .ref (q 26), .int (nI (z 27)), .long wl, .int (nI (z 29))]] (wrL [ob k 8 [.int (nI th), .int (nI 0), .int (-1), .ref g, .ref (q 4), .ref (q 5), .int (nI (z 6)), .int (nI (z 7)), .int (nI (z 8)), .int (nI (z 9)), .int (nI (z 10)), .int nb, .int (nI (z 12)), .int wa, .long wd, .ref (q 15), .ref (q 16), .ref (q 17), .ref (q 18), .int (nI (z 19)), .int (nI (z 20)), .ref (q 21), .long (lN ev), .ref (q 23), .ref (q 24), .int (nI (z 25)), .ref (q 26), .int (nI (z 27)), .long wl, .int (nI (z 29))]] (lN (lowT u w b))) := by
  refine Ct.intro (by decide +kernel) (Nat.le_of_ble_eq_true rfl) (lv := [(0, .ref k), (1, .long (lN u)), (3, .long (lN w)), (5, .int (nI (b).toNat))]) rfl ?_
  intro Z X Y
  refine v_aload_n X dX8_fraction_0 rfl 0 rfl ?_
  refine v_iconst X dX8_fraction_1 (v := nI 0) (by decide) ?_
  refine v_wrI1 X (rn_V X k_X8_good ml_X8_53 dX8_fraction_2 (c_X8_good l E k th tr wh g q z nb wa wd ev wl (nI 0) ) rfl 0 rfl rfl (by decide) (by decide) (by omega) (by omega) (Nat.le_of_ble_eq_true rfl)) [0] rfl rfl (ws' := [ob k 8 [.int (nI th), .int (nI 0), .int (-1), .ref g, .ref (q 4), .ref (q 5), .int (nI (z 6)), .int (nI (z 7)), .int (nI (z 8)), .int (nI (z 9)), .int (nI (z 10)), .int nb, .int (nI (z 12)), .int wa, .long wd, .ref (q 15), .ref (q 16), .ref (q 17), .ref (q 18), .int (nI (z 19)), .int (nI (z 20)), .ref (q 21), .long (lN ev), .ref (q 23), .ref (q 24), .int (nI (z 25)), .ref (q 26), .int (nI (z 27)), .long wl, .int (nI (z 29))]]) rfl rfl ?_
  refine v_pop X dX8_fraction_5 rfl ?_
  refine v_lload_n X dX8_fraction_6 rfl 2 rfl ?_
  refine v_lconst X dX8_fraction_7 (v := lN 0) (by decide) ?_
  refine v_lcmp X dX8_fraction_8 ?_
  refine v_ifLN_ne X dX8_fraction_9 (tgt := 23) (by decide) (by omega) (by decide) (fun h9 => ?_) (fun h9 => ?_)
  · have hg : ¬ Nat.gcd u w = 0 := fun q => h9 (Nat.eq_zero_of_gcd_eq_zero_right q)
    have hg63 : Nat.gcd u w < 2 ^ 63 := Nat.lt_of_le_of_lt (Nat.gcd_le_right _ (Nat.pos_of_ne_zero h9)) hw
    refine v_iload X dX8_fraction_23 3 rfl ?_
    refine v_ifB_eq X dX8_fraction_25 (tgt := 32) (by decide) (fun h25 => ?_) (fun h25 => ?_)
    · refine v_lload_n X dX8_fraction_32 rfl 1 rfl ?_
      refine v_lload_n X dX8_fraction_33 rfl 1 rfl ?_
      refine v_lload_n X dX8_fraction_34 rfl 2 rfl ?_
      refine v_roL1 X (rn_S X k_X8_common ml_X8_56 dX8_fraction_35 (c_X8_common l E u w (by first | assumption | omega) (by first | assumption | omega)) rfl (by decide) (by decide) (by omega) (by omega) (Nat.le_of_ble_eq_true rfl)) [] rfl rfl ?_
      refine v_ldiv X dX8_fraction_38 (lN_ne0 hg63 hg) ?_
      refine v_eql (x' := lN (u / Nat.gcd u w)) (lN_div hu hg hg63) ?_
      exact v_lret X Y dX8_fraction_39 (wrL_of rfl (by rw [lowT, Nat.gcd_comm w u, if_neg hg, h25]; rfl)) (by omega) (by omega)
    · refine v_lload_n X dX8_fraction_28 rfl 2 rfl ?_
      refine v_goto X dX8_fraction_29 (tgt := 33) (by decide) ?_
      refine v_lload_n X dX8_fraction_33 rfl 1 rfl ?_
      refine v_lload_n X dX8_fraction_34 rfl 2 rfl ?_
      refine v_roL1 X (rn_S X k_X8_common ml_X8_56 dX8_fraction_35 (c_X8_common l E u w (by first | assumption | omega) (by first | assumption | omega)) rfl (by decide) (by decide) (by omega) (by omega) (Nat.le_of_ble_eq_true rfl)) [] rfl rfl ?_
      refine v_ldiv X dX8_fraction_38 (lN_ne0 hg63 hg) ?_
      refine v_eql (x' := lN (w / Nat.gcd u w)) (lN_div hw hg hg63) ?_
      exact v_lret X Y dX8_fraction_39 (wrL_of rfl (by rw [lowT, Nat.gcd_comm w u, if_neg hg, h25]; rfl)) (by omega) (by omega)
  · refine v_iload X dX8_fraction_12 3 rfl ?_
    refine v_ifB_eq X dX8_fraction_14 (tgt := 21) (by decide) (fun h14 => ?_) (fun h14 => ?_)
    · refine v_lconst X dX8_fraction_21 (v := lN 0) (by decide) ?_
      exact v_lret X Y dX8_fraction_22 (wrL_of rfl (by rw [h9, hz h9, h14]; rfl)) (by omega) (by omega)
    · refine v_lconst X dX8_fraction_17 (v := lN 1) (by decide) ?_
      refine v_goto X dX8_fraction_18 (tgt := 22) (by decide) ?_
      exact v_lret X Y dX8_fraction_22 (wrL_of rfl (by rw [h9, hz h9, h14]; rfl)) (by omega) (by omega)
