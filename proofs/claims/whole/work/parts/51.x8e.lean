set_option maxRecDepth 100000 in
set_option maxHeartbeats 4000000 in
theorem c_X8_keepAll (l : Launch) (E : Et) (k : Nat) (th : Nat) (tr : Nat) (wh : Int32) (g : Nat) (rr : Option Nat) (q : Nat → Nat) (z : Nat → Nat) (nb : Int32) (wa : Int32) (wd : Int64) (ev : Nat) (al : Int32) (wl : Int64) (cy : Nat → Nat) (kp : Nat) (nc : Nat) (cb : Nat → Nat) (kf : Nat → Nat) (bs : Nat) (hcl : cy 5 ≤ 8) (hbs : bs < 2 ^ 31) : Ct l E yX8_keepAll cX8_keepAll 5 (some .long) 1 0 0 [.ref k, .int (nI bs)] [ob k 8 [.int (nI th), .int (nI tr), .int wh, .ref g, va_rf rr, .ref (q 5), .int (nI (z 6)), .int (nI (z 7)), .int (nI (z 8)), .int (nI (z 9)), .int (nI (z 10)), .int nb, .int (nI (z 12)), .int wa, .long wd, .ref (q 15), .ref (q 16), .ref (q 17), .ref (q 18), .int (nI (z 19)), .int (nI (z 20)), .ref (q 21), .long (lN ev), .ref (q 23), .ref (q 24), .int (nI (z 25)), .ref (q 26), .int al, .long wl, .int (nI (z 29))], ob g 7 [.int (nI (cy 0)), .int (nI (cy 1)), .int (nI (cy 2)), .int (nI (cy 3)), .int (nI (cy 4)), .int (nI (cy 5)), .int (nI (cy 6)), .int (nI (cy 7)), .int (nI kp), .int (nI nc), .ref (cb 0), .ref (cb 1), .ref (cb 2), .ref (cb 3), .ref (cb 4), .ref (cb 5), .ref (cb 6), .ref (cb 7), .ref (cb 8), .ref (cb 9), .ref (cb 10), .ref (cb 11)], aM E (q 21) 8 kf] (roL [ob k 8 [.int (nI th), .int (nI tr), .int wh, .ref g, va_rf rr, .ref (q 5), .int (nI (z 6)), .int (nI (z 7)), .int (nI (z 8)), .int (nI (z 9)), .int (nI (z 10)), .int nb, .int (nI (z 12)), .int wa, .long wd, .ref (q 15), .ref (q 16), .ref (q 17), .ref (q 18), .int (nI (z 19)), .int (nI (z 20)), .ref (q 21), .long (lN ev), .ref (q 23), .ref (q 24), .int (nI (z 25)), .ref (q 26), .int al, .long wl, .int (nI (z 29))], ob g 7 [.int (nI (cy 0)), .int (nI (cy 1)), .int (nI (cy 2)), .int (nI (cy 3)), .int (nI (cy 4)), .int (nI (cy 5)), .int (nI (cy 6)), .int (nI (cy 7)), .int (nI kp), .int (nI nc), .ref (cb 0), .ref (cb 1), .ref (cb 2), .ref (cb 3), .ref (cb 4), .ref (cb 5), .ref (cb 6), .ref (cb 7), .ref (cb 8), .ref (cb 9), .ref (cb 10), .ref (cb 11)], aM E (q 21) 8 kf] (lN (foldN (fun c s => if (bs).testBit c then s &&& kf c else s) ev (cy 5)))) := by
  refine Ct.intro (by decide +kernel) (Nat.le_of_ble_eq_true rfl) (lv := [(0, .ref k), (1, .int (nI bs))]) rfl ?_
  intro Z X Y
  refine v_aload_n X dX8_keepAll_0 rfl 0 rfl ?_
  refine v_get X kcX8 fl_X8_320 dX8_keepAll_1 0 rfl rfl ?_
  refine v_lstore_n X dX8_keepAll_4 rfl (by decide) (lv' := [(2, .long (lN ev)), (0, .ref k), (1, .int (nI bs))]) rfl ?_
  refine v_iconst X dX8_keepAll_5 (v := nI 0) (by decide) ?_
  refine v_istore X dX8_keepAll_6 (by decide) (lv' := [(4, .int (nI 0)), (2, .long (lN ev)), (0, .ref k), (1, .int (nI bs))]) rfl ?_
  have L8 : ∀ (j8 : Nat) (vc : Nat) (vs : Nat), (vc ≤ cy 5 ∧ vs = foldN (fun c s => if (bs).testBit c then s &&& kf c else s) ev vc) → cy 5 - vc < j8 → V E Z 8 [(0, .ref k), (1, .int (nI bs)), (2, .long (lN vs)), (4, .int (nI vc))] [] [ob k 8 [.int (nI th), .int (nI tr), .int wh, .ref g, va_rf rr, .ref (q 5), .int (nI (z 6)), .int (nI (z 7)), .int (nI (z 8)), .int (nI (z 9)), .int (nI (z 10)), .int nb, .int (nI (z 12)), .int wa, .long wd, .ref (q 15), .ref (q 16), .ref (q 17), .ref (q 18), .int (nI (z 19)), .int (nI (z 20)), .ref (q 21), .long (lN ev), .ref (q 23), .ref (q 24), .int (nI (z 25)), .ref (q 26), .int al, .long wl, .int (nI (z 29))], ob g 7 [.int (nI (cy 0)), .int (nI (cy 1)), .int (nI (cy 2)), .int (nI (cy 3)), .int (nI (cy 4)), .int (nI (cy 5)), .int (nI (cy 6)), .int (nI (cy 7)), .int (nI kp), .int (nI nc), .ref (cb 0), .ref (cb 1), .ref (cb 2), .ref (cb 3), .ref (cb 4), .ref (cb 5), .ref (cb 6), .ref (cb 7), .ref (cb 8), .ref (cb 9), .ref (cb 10), .ref (cb 11)], aM E (q 21) 8 kf] 0 0 := by
    intro j8
    induction j8 with
    | zero => intro vc vs hI hM; exact absurd hM (Nat.not_lt_zero _)
    | succ j8 ih8 =>
      intro vc vs hI8 hM8
      obtain ⟨hc, hb⟩ := id hI8
      refine v_iload X dX8_keepAll_8 3 rfl ?_
      refine v_aload_n X dX8_keepAll_10 rfl 0 rfl ?_
      refine v_get X kcX8 fl_X8_306 dX8_keepAll_11 0 rfl rfl ?_
      refine v_getN X kcX7 fl_X8_240 dX8_keepAll_14 1 rfl rfl ?_
      refine v_icmpN_ge X dX8_keepAll_17 (tgt := 45) (by decide) (by omega) (by omega) (fun h17 => ?_) (fun h17 => ?_)
      · refine v_lload_n X dX8_keepAll_45 rfl 2 rfl ?_
        exact v_lret X Y dX8_keepAll_46 (roL_of (by rw [hb, show vc = cy 5 by omega])) (by omega) (by omega)
      · refine v_iload_n X dX8_keepAll_20 rfl 1 rfl ?_
        refine v_iload X dX8_keepAll_21 3 rfl ?_
        refine v_roI1 X (rn_S X k_X8_bit ml_X8_274 dX8_keepAll_23 (c_X8_bit l E bs vc (by omega) (by omega)) rfl (by decide) (by decide) (by omega) (by omega) (Nat.le_of_ble_eq_true rfl)) [] rfl rfl ?_
        refine v_ifB_eq X dX8_keepAll_26 (tgt := 39) (by decide) (fun h26 => ?_) (fun h26 => ?_)
        · refine v_iinc X dX8_keepAll_39 3 rfl (v := nI (vc + 1)) (nI_inc vc) (by decide) (lv' := [(4, .int (nI (vc + 1))), (0, .ref k), (1, .int (nI bs)), (2, .long (lN vs))]) rfl ?_
          refine v_goto X dX8_keepAll_42 (tgt := 8) (by decide) ?_
          refine V.lvs [1, 2, 3, 0] rfl ?_
          exact ih8 (vc + 1) vs (⟨by omega, by rw [hb, foldN, h26]; rfl⟩) (by omega)
        · refine v_lload_n X dX8_keepAll_29 rfl 2 rfl ?_
          refine v_aload_n X dX8_keepAll_30 rfl 0 rfl ?_
          refine v_get X kcX8 fl_X8_30 dX8_keepAll_31 0 rfl rfl ?_
          refine v_iload X dX8_keepAll_34 3 rfl ?_
          refine v_lald X dX8_keepAll_36 2 rfl (by omega) (by decide) ?_
          refine v_land X dX8_keepAll_37 ?_
          refine v_eql (x' := lN (vs &&& (kf vc))) (fb_andL _ _) ?_
          refine v_lstore_n X dX8_keepAll_38 rfl (by decide) (lv' := [(2, .long (lN (vs &&& (kf vc)))), (0, .ref k), (1, .int (nI bs)), (4, .int (nI vc))]) rfl ?_
          refine v_iinc X dX8_keepAll_39 3 rfl (v := nI (vc + 1)) (nI_inc vc) (by decide) (lv' := [(4, .int (nI (vc + 1))), (2, .long (lN (vs &&& (kf vc)))), (0, .ref k), (1, .int (nI bs))]) rfl ?_
          refine v_goto X dX8_keepAll_42 (tgt := 8) (by decide) ?_
          refine V.lvs [2, 3, 1, 0] rfl ?_
          exact ih8 (vc + 1) (vs &&& (kf vc)) (⟨by omega, by rw [hb, foldN, h26]; rfl⟩) (by omega)
  refine V.lvs [2, 3, 1, 0] rfl ?_
  exact L8 _ 0 ev (⟨by omega, rfl⟩) (Nat.lt_succ_self _)
