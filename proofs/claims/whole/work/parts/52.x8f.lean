set_option maxRecDepth 100000 in
set_option maxHeartbeats 4000000 in
theorem c_X8_inkOf (l : Launch) (E : Et) (k : Nat) (th : Nat) (tr : Nat) (wh : Int32) (g : Nat) (rr : Option Nat) (q : Nat → Nat) (z : Nat → Nat) (nb : Int32) (wa : Int32) (wd : Int64) (ev : Nat) (al : Int32) (wl : Int64) (cy : Nat → Nat) (kp : Nat) (nc : Nat) (cb : Nat → Nat) (mn : Nat → Int32) (ink : Nat → Nat) (t : Nat) (dd : Nat) (bs : Nat) (hcl : cy 5 ≤ 8) (hbs : bs < 2 ^ 31) : Ct l E yX8_inkOf cX8_inkOf 4 (some .int) 1 0 0 [.ref k, .int (nI bs)] [ob k 8 [.int (nI th), .int (nI tr), .int wh, .ref g, va_rf rr, .ref (q 5), .int (nI (z 6)), .int (nI (z 7)), .int (nI (z 8)), .int (nI (z 9)), .int (nI (z 10)), .int nb, .int (nI (z 12)), .int wa, .long wd, .ref (q 15), .ref (q 16), .ref (q 17), .ref (q 18), .int (nI (z 19)), .int (nI (z 20)), .ref (q 21), .long (lN ev), .ref (q 23), .ref (q 24), .int (nI (z 25)), .ref (q 26), .int al, .long wl, .int (nI (z 29))], ob g 7 [.int (nI (cy 0)), .int (nI (cy 1)), .int (nI (cy 2)), .int (nI (cy 3)), .int (nI (cy 4)), .int (nI (cy 5)), .int (nI (cy 6)), .int (nI (cy 7)), .int (nI kp), .int (nI nc), .ref (cb 0), .ref (cb 1), .ref (cb 2), .ref (cb 3), .ref (cb 4), .ref (cb 5), .ref (cb 6), .ref (cb 7), .ref (cb 8), .ref (cb 9), .ref (cb 10), .ref (cb 11)], aI E (q 16) 25 (xF mn ink t dd)] (roI [ob k 8 [.int (nI th), .int (nI tr), .int wh, .ref g, va_rf rr, .ref (q 5), .int (nI (z 6)), .int (nI (z 7)), .int (nI (z 8)), .int (nI (z 9)), .int (nI (z 10)), .int nb, .int (nI (z 12)), .int wa, .long wd, .ref (q 15), .ref (q 16), .ref (q 17), .ref (q 18), .int (nI (z 19)), .int (nI (z 20)), .ref (q 21), .long (lN ev), .ref (q 23), .ref (q 24), .int (nI (z 25)), .ref (q 26), .int al, .long wl, .int (nI (z 29))], ob g 7 [.int (nI (cy 0)), .int (nI (cy 1)), .int (nI (cy 2)), .int (nI (cy 3)), .int (nI (cy 4)), .int (nI (cy 5)), .int (nI (cy 6)), .int (nI (cy 7)), .int (nI kp), .int (nI nc), .ref (cb 0), .ref (cb 1), .ref (cb 2), .ref (cb 3), .ref (cb 4), .ref (cb 5), .ref (cb 6), .ref (cb 7), .ref (cb 8), .ref (cb 9), .ref (cb 10), .ref (cb 11)], aI E (q 16) 25 (xF mn ink t dd)] (nI (fb_sm (fun c => if bs.testBit c then ink c else 0) (cy 5)))) := by
  refine Ct.intro (by decide +kernel) (Nat.le_of_ble_eq_true rfl) (lv := [(0, .ref k), (1, .int (nI bs))]) rfl ?_
  intro Z X Y
  refine v_iconst X dX8_inkOf_0 (v := nI 0) (by decide) ?_
  refine v_istore_n X dX8_inkOf_1 rfl (by decide) (lv' := [(2, .int (nI 0)), (0, .ref k), (1, .int (nI bs))]) rfl ?_
  refine v_iconst X dX8_inkOf_2 (v := nI 0) (by decide) ?_
  refine v_istore_n X dX8_inkOf_3 rfl (by decide) (lv' := [(3, .int (nI 0)), (2, .int (nI 0)), (0, .ref k), (1, .int (nI bs))]) rfl ?_
  have L4 : ∀ (j4 : Nat) (vc : Nat) (vb : Nat), (vc ≤ cy 5 ∧ vb = fb_sm (fun c => if bs.testBit c then ink c else 0) vc) → cy 5 - vc < j4 → V E Z 4 [(0, .ref k), (1, .int (nI bs)), (2, .int (nI vb)), (3, .int (nI vc))] [] [ob k 8 [.int (nI th), .int (nI tr), .int wh, .ref g, va_rf rr, .ref (q 5), .int (nI (z 6)), .int (nI (z 7)), .int (nI (z 8)), .int (nI (z 9)), .int (nI (z 10)), .int nb, .int (nI (z 12)), .int wa, .long wd, .ref (q 15), .ref (q 16), .ref (q 17), .ref (q 18), .int (nI (z 19)), .int (nI (z 20)), .ref (q 21), .long (lN ev), .ref (q 23), .ref (q 24), .int (nI (z 25)), .ref (q 26), .int al, .long wl, .int (nI (z 29))], ob g 7 [.int (nI (cy 0)), .int (nI (cy 1)), .int (nI (cy 2)), .int (nI (cy 3)), .int (nI (cy 4)), .int (nI (cy 5)), .int (nI (cy 6)), .int (nI (cy 7)), .int (nI kp), .int (nI nc), .ref (cb 0), .ref (cb 1), .ref (cb 2), .ref (cb 3), .ref (cb 4), .ref (cb 5), .ref (cb 6), .ref (cb 7), .ref (cb 8), .ref (cb 9), .ref (cb 10), .ref (cb 11)], aI E (q 16) 25 (xF mn ink t dd)] 0 0 := by
    intro j4
    induction j4 with
    | zero => intro vc vb hI hM; exact absurd hM (Nat.not_lt_zero _)
    | succ j4 ih4 =>
      intro vc vb hI4 hM4
      obtain ⟨hc, hb⟩ := id hI4
      refine v_iload_n X dX8_inkOf_4 rfl 3 rfl ?_
      refine v_aload_n X dX8_inkOf_5 rfl 0 rfl ?_
      refine v_get X kcX8 fl_X8_306 dX8_inkOf_6 0 rfl rfl ?_
      refine v_getN X kcX7 fl_X8_240 dX8_inkOf_9 1 rfl rfl ?_
      refine v_icmpN_ge X dX8_inkOf_12 (tgt := 45) (by decide) (by omega) (by omega) (fun h12 => ?_) (fun h12 => ?_)
      · refine v_iload_n X dX8_inkOf_45 rfl 2 rfl ?_
        exact v_iret X Y dX8_inkOf_46 (roI_of (by rw [hb, show vc = cy 5 by omega])) (by omega) (by omega)
      · refine v_iload_n X dX8_inkOf_15 rfl 2 rfl ?_
        refine v_iload_n X dX8_inkOf_16 rfl 1 rfl ?_
        refine v_iload_n X dX8_inkOf_17 rfl 3 rfl ?_
        refine v_roI1 X (rn_S X k_X8_bit ml_X8_274 dX8_inkOf_18 (c_X8_bit l E bs vc (by omega) (by omega)) rfl (by decide) (by decide) (by omega) (by omega) (Nat.le_of_ble_eq_true rfl)) [] rfl rfl ?_
        refine v_ifB_eq X dX8_inkOf_21 (tgt := 36) (by decide) (fun h21 => ?_) (fun h21 => ?_)
        · refine v_iconst X dX8_inkOf_36 (v := nI 0) (by decide) ?_
          refine v_iadd X dX8_inkOf_37 ?_
          refine v_eqi (x' := nI (vb + 0)) (nI_add _ _) ?_
          refine v_istore_n X dX8_inkOf_38 rfl (by decide) (lv' := [(2, .int (nI (vb + 0))), (0, .ref k), (1, .int (nI bs)), (3, .int (nI vc))]) rfl ?_
          refine v_iinc X dX8_inkOf_39 3 rfl (v := nI (vc + 1)) (nI_inc vc) (by decide) (lv' := [(3, .int (nI (vc + 1))), (2, .int (nI (vb + 0))), (0, .ref k), (1, .int (nI bs))]) rfl ?_
          refine v_goto X dX8_inkOf_42 (tgt := 4) (by decide) ?_
          refine V.lvs [2, 3, 1, 0] rfl ?_
          exact ih4 (vc + 1) (vb + 0) (⟨by omega, by rw [hb, fb_sm]; simp [h21]⟩) (by omega)
        · refine v_aload_n X dX8_inkOf_24 rfl 0 rfl ?_
          refine v_get X kcX8 fl_X8_21 dX8_inkOf_25 0 rfl rfl ?_
          refine v_bipush X dX8_inkOf_28 (v := nI 8) (by decide) ?_
          refine v_iload_n X dX8_inkOf_30 rfl 3 rfl ?_
          refine v_iadd X dX8_inkOf_31 ?_
          refine v_eqi (x' := nI (8 + vc)) (nI_add _ _) ?_
          refine v_iald X dX8_inkOf_32 2 rfl (by omega) (by decide) ?_
          refine v_eqi (x' := nI (ink vc)) (xF_i (by omega)) ?_
          refine v_goto X dX8_inkOf_33 (tgt := 37) (by decide) ?_
          refine v_iadd X dX8_inkOf_37 ?_
          refine v_eqi (x' := nI (vb + (ink vc))) (nI_add _ _) ?_
          refine v_istore_n X dX8_inkOf_38 rfl (by decide) (lv' := [(2, .int (nI (vb + (ink vc)))), (0, .ref k), (1, .int (nI bs)), (3, .int (nI vc))]) rfl ?_
          refine v_iinc X dX8_inkOf_39 3 rfl (v := nI (vc + 1)) (nI_inc vc) (by decide) (lv' := [(3, .int (nI (vc + 1))), (2, .int (nI (vb + (ink vc)))), (0, .ref k), (1, .int (nI bs))]) rfl ?_
          refine v_goto X dX8_inkOf_42 (tgt := 4) (by decide) ?_
          refine V.lvs [2, 3, 1, 0] rfl ?_
          exact ih4 (vc + 1) (vb + (ink vc)) (⟨by omega, by rw [hb, fb_sm]; simp [h21]⟩) (by omega)
  refine V.lvs [2, 3, 1, 0] rfl ?_
  exact L4 _ 0 0 (⟨by omega, rfl⟩) (Nat.lt_succ_self _)
set_option maxRecDepth 100000 in
set_option maxHeartbeats 4000000 in
theorem c_X8_refusesDays (l : Launch) (E : Et) (k : Nat) (th : Nat) (tr : Nat) (wh : Int32) (g : Nat) (rr : Option Nat) (q : Nat → Nat) (z : Nat → Nat) (nb : Int32) (wa : Int32) (wd : Int64) (ev : Nat) (al : Int32) (wl : Int64) (b : Bool) (n : Int32)  : Ct l E yX8_refusesDays cX8_refusesDays 3 (some .int) 1 0 0 [.ref k, .int (nI (b).toNat), .int n] [ob k 8 [.int (nI th), .int (nI tr), .int wh, .ref g, va_rf rr, .ref (q 5), .int (nI (z 6)), .int (nI (z 7)), .int (nI (z 8)), .int (nI (z 9)), .int (nI (z 10)), .int nb, .int (nI (z 12)), .int wa, .long wd, .ref (q 15), .ref (q 16), .ref (q 17), .ref (q 18), .int (nI (z 19)), .int (nI (z 20)), .ref (q 21), .long (lN ev), .ref (q 23), .ref (q 24), .int (nI (z 25)), .ref (q 26), .int al, .long wl, .int (nI (z 29))]] (roI [ob k 8 [.int (nI th), .int (nI tr), .int wh, .ref g, va_rf rr, .ref (q 5), .int (nI (z 6)), .int (nI (z 7)), .int (nI (z 8)), .int (nI (z 9)), .int (nI (z 10)), .int nb, .int (nI (z 12)), .int wa, .long wd, .ref (q 15), .ref (q 16), .ref (q 17), .ref (q 18), .int (nI (z 19)), .int (nI (z 20)), .ref (q 21), .long (lN ev), .ref (q 23), .ref (q 24), .int (nI (z 25)), .ref (q 26), .int al, .long wl, .int (nI (z 29))]] (nI (if b then (if nI 0 ≤ n ∧ n ≤ nI 60 then 0 else 2) else 1))) := by
  refine Ct.intro (by decide +kernel) (Nat.le_of_ble_eq_true rfl) (lv := [(0, .ref k), (1, .int (nI (b).toNat)), (2, .int n)]) rfl ?_
  intro Z X Y
  refine v_iload_n X dX8_refusesDays_0 rfl 1 rfl ?_
  refine v_ifB_ne X dX8_refusesDays_1 (tgt := 8) (by decide) (fun h1 => ?_) (fun h1 => ?_)
  · refine v_iload_n X dX8_refusesDays_8 rfl 2 rfl ?_
    refine v_iconst X dX8_refusesDays_9 (v := nI 0) (by decide) ?_
    refine v_bipush X dX8_refusesDays_10 (v := nI 60) (by decide) ?_
    refine v_roI1 X (rn_S X k_X8_in ml_X8_126 dX8_refusesDays_12 (c_X8_in l E n (nI 0) (nI 60) ) rfl (by decide) (by decide) (by omega) (by omega) (Nat.le_of_ble_eq_true rfl)) [] rfl rfl ?_
    refine v_ifB_eq X dX8_refusesDays_15 (tgt := 22) (by decide) (fun h15 => ?_) (fun h15 => ?_)
    · refine v_iconst X dX8_refusesDays_22 (v := nI 2) (by decide) ?_
      exact v_iret X Y dX8_refusesDays_23 (roI_of (by rw [h1, if_pos rfl, if_neg (of_decide_eq_false h15)])) (by omega) (by omega)
    · refine v_iconst X dX8_refusesDays_18 (v := nI 0) (by decide) ?_
      refine v_goto X dX8_refusesDays_19 (tgt := 23) (by decide) ?_
      exact v_iret X Y dX8_refusesDays_23 (roI_of (by rw [h1, if_pos rfl, if_pos (of_decide_eq_true h15)])) (by omega) (by omega)
  · refine v_iconst X dX8_refusesDays_4 (v := nI 1) (by decide) ?_
    refine v_goto X dX8_refusesDays_5 (tgt := 23) (by decide) ?_
    exact v_iret X Y dX8_refusesDays_23 (roI_of (by rw [h1]; rfl)) (by omega) (by omega)
