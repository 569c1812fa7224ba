theorem c_X8_bindingB (l : Launch) (E : Et) (k : Nat) (th : Nat) (tr : Nat) (wh : Int32) (g : Nat) (rr : Option Nat) (q : Nat → Nat) (z : Nat → Nat) (nb : Int32) (wa : Int32) (wd : Int64) (ev : Nat) (al : Int32) (wl : Int64) (cy : Nat → Nat) (kp : Nat) (nc : Nat) (cb : Nat → Nat) (mn : Nat → Int32) (ink : Nat → Nat) (t : Nat) (dd : Nat) (m : Int32) (hcl : cy 5 ≤ 8) (hink : ∀ c, ink c ≤ 40) (hz : ∀ c, cy 5 ≤ c → ink c = 0) : Ct l E yX8_binding cX8_binding 4 (some .int) 0 0 0 [.ref k, .int m] [ob k 8 [.int (nI th), .int (nI tr), .int wh, .ref g, va_rf rr, .ref (q 5), .int (nI (z 6)), .int (nI (z 7)), .int (nI (z 8)), .int (nI (z 9)), .int (nI (z 10)), .int nb, .int (nI (z 12)), .int wa, .long wd, .ref (q 15), .ref (q 16), .ref (q 17), .ref (q 18), .int (nI (z 19)), .int (nI (z 20)), .ref (q 21), .long (lN ev), .ref (q 23), .ref (q 24), .int (nI (z 25)), .ref (q 26), .int al, .long wl, .int (nI (z 29))], ob g 7 [.int (nI (cy 0)), .int (nI (cy 1)), .int (nI (cy 2)), .int (nI (cy 3)), .int (nI (cy 4)), .int (nI (cy 5)), .int (nI (cy 6)), .int (nI (cy 7)), .int (nI kp), .int (nI nc), .ref (cb 0), .ref (cb 1), .ref (cb 2), .ref (cb 3), .ref (cb 4), .ref (cb 5), .ref (cb 6), .ref (cb 7), .ref (cb 8), .ref (cb 9), .ref (cb 10), .ref (cb 11)], aI E (q 16) 25 (xF mn ink t dd)] (roI [ob k 8 [.int (nI th), .int (nI tr), .int wh, .ref g, va_rf rr, .ref (q 5), .int (nI (z 6)), .int (nI (z 7)), .int (nI (z 8)), .int (nI (z 9)), .int (nI (z 10)), .int nb, .int (nI (z 12)), .int wa, .long wd, .ref (q 15), .ref (q 16), .ref (q 17), .ref (q 18), .int (nI (z 19)), .int (nI (z 20)), .ref (q 21), .long (lN ev), .ref (q 23), .ref (q 24), .int (nI (z 25)), .ref (q 26), .int al, .long wl, .int (nI (z 29))], ob g 7 [.int (nI (cy 0)), .int (nI (cy 1)), .int (nI (cy 2)), .int (nI (cy 3)), .int (nI (cy 4)), .int (nI (cy 5)), .int (nI (cy 6)), .int (nI (cy 7)), .int (nI kp), .int (nI nc), .ref (cb 0), .ref (cb 1), .ref (cb 2), .ref (cb 3), .ref (cb 4), .ref (cb 5), .ref (cb 6), .ref (cb 7), .ref (cb 8), .ref (cb 9), .ref (cb 10), .ref (cb 11)], aI E (q 16) 25 (xF mn ink t dd)] (nI (bdN ink mn m 0))) := by
  have h := c_X8_binding l E k th tr wh g rr q z nb wa wd ev al wl cy kp nc cb mn ink t dd m hcl hink
  rw [bd_e hcl hz] at h
  exact h
theorem c_X8_keepAllL (l : Launch) (E : Et) (k : Nat) (th : Nat) (tr : Nat) (wh : Int32) (g : Nat) (rr : Option Nat) (q : Nat → Nat) (z : Nat → Nat) (nb : Int32) (wa : Int32) (wd : Int64) (al : Int32) (wl : Int64) (cy : Nat → Nat) (kp : Nat) (nc : Nat) (cb : Nat → Nat) (Fs : Nat → Nat) (Ft : Nat → Nat) (kf : Nat → Nat) (t : Nat) (bs : Nat) (hcl : cy 5 ≤ 8) (hbs : bs < 2 ^ 31) : Ct l E yX8_keepAll cX8_keepAll 5 (some .long) 1 0 0 [.ref k, .int (nI bs)] [ob k 8 [.int (nI th), .int (nI tr), .int wh, .ref g, va_rf rr, .ref (q 5), .int (nI (z 6)), .int (nI (z 7)), .int (nI (z 8)), .int (nI (z 9)), .int (nI (z 10)), .int nb, .int (nI (z 12)), .int wa, .long wd, .ref (q 15), .ref (q 16), .ref (q 17), .ref (q 18), .int (nI (z 19)), .int (nI (z 20)), .ref (q 21), .long (lN (allS (cy 4))), .ref (q 23), .ref (q 24), .int (nI (z 25)), .ref (q 26), .int al, .long wl, .int (nI (z 29))], ob g 7 [.int (nI (cy 0)), .int (nI (cy 1)), .int (nI (cy 2)), .int (nI (cy 3)), .int (nI (cy 4)), .int (nI (cy 5)), .int (nI (cy 6)), .int (nI (cy 7)), .int (nI kp), .int (nI nc), .ref (cb 0), .ref (cb 1), .ref (cb 2), .ref (cb 3), .ref (cb 4), .ref (cb 5), .ref (cb 6), .ref (cb 7), .ref (cb 8), .ref (cb 9), .ref (cb 10), .ref (cb 11)], aM E (q 21) 8 (lyF Fs Ft t (cy 4) kf (cy 5))] (roL [ob k 8 [.int (nI th), .int (nI tr), .int wh, .ref g, va_rf rr, .ref (q 5), .int (nI (z 6)), .int (nI (z 7)), .int (nI (z 8)), .int (nI (z 9)), .int (nI (z 10)), .int nb, .int (nI (z 12)), .int wa, .long wd, .ref (q 15), .ref (q 16), .ref (q 17), .ref (q 18), .int (nI (z 19)), .int (nI (z 20)), .ref (q 21), .long (lN (allS (cy 4))), .ref (q 23), .ref (q 24), .int (nI (z 25)), .ref (q 26), .int al, .long wl, .int (nI (z 29))], ob g 7 [.int (nI (cy 0)), .int (nI (cy 1)), .int (nI (cy 2)), .int (nI (cy 3)), .int (nI (cy 4)), .int (nI (cy 5)), .int (nI (cy 6)), .int (nI (cy 7)), .int (nI kp), .int (nI nc), .ref (cb 0), .ref (cb 1), .ref (cb 2), .ref (cb 3), .ref (cb 4), .ref (cb 5), .ref (cb 6), .ref (cb 7), .ref (cb 8), .ref (cb 9), .ref (cb 10), .ref (cb 11)], aM E (q 21) 8 (lyF Fs Ft t (cy 4) kf (cy 5))] (lN (kpN cy Fs Ft t bs))) := by
  have h := c_X8_keepAll l E k th tr wh g rr q z nb wa wd (allS (cy 4)) al wl cy kp nc cb (lyF Fs Ft t (cy 4) kf (cy 5)) bs hcl hbs
  rw [ka_e _ (Nat.le_refl _)] at h
  exact h
theorem c_X8_inkOfB (l : Launch) (E : Et) (k : Nat) (th : Nat) (tr : Nat) (wh : Int32) (g : Nat) (rr : Option Nat) (q : Nat → Nat) (z : Nat → Nat) (nb : Int32) (wa : Int32) (wd : Int64) (ev : Nat) (al : Int32) (wl : Int64) (cy : Nat → Nat) (kp : Nat) (nc : Nat) (cb : Nat → Nat) (mn : Nat → Int32) (ink : Nat → Nat) (t : Nat) (dd : Nat) (bs : Nat) (hcl : cy 5 ≤ 8) (hbs : bs < 2 ^ 31) (hz : ∀ c, cy 5 ≤ c → ink c = 0) : Ct l E yX8_inkOf cX8_inkOf 4 (some .int) 1 0 0 [.ref k, .int (nI bs)] [ob k 8 [.int (nI th), .int (nI tr), .int wh, .ref g, va_rf rr, .ref (q 5), .int (nI (z 6)), .int (nI (z 7)), .int (nI (z 8)), .int (nI (z 9)), .int (nI (z 10)), .int nb, .int (nI (z 12)), .int wa, .long wd, .ref (q 15), .ref (q 16), .ref (q 17), .ref (q 18), .int (nI (z 19)), .int (nI (z 20)), .ref (q 21), .long (lN ev), .ref (q 23), .ref (q 24), .int (nI (z 25)), .ref (q 26), .int al, .long wl, .int (nI (z 29))], ob g 7 [.int (nI (cy 0)), .int (nI (cy 1)), .int (nI (cy 2)), .int (nI (cy 3)), .int (nI (cy 4)), .int (nI (cy 5)), .int (nI (cy 6)), .int (nI (cy 7)), .int (nI kp), .int (nI nc), .ref (cb 0), .ref (cb 1), .ref (cb 2), .ref (cb 3), .ref (cb 4), .ref (cb 5), .ref (cb 6), .ref (cb 7), .ref (cb 8), .ref (cb 9), .ref (cb 10), .ref (cb 11)], aI E (q 16) 25 (xF mn ink t dd)] (roI [ob k 8 [.int (nI th), .int (nI tr), .int wh, .ref g, va_rf rr, .ref (q 5), .int (nI (z 6)), .int (nI (z 7)), .int (nI (z 8)), .int (nI (z 9)), .int (nI (z 10)), .int nb, .int (nI (z 12)), .int wa, .long wd, .ref (q 15), .ref (q 16), .ref (q 17), .ref (q 18), .int (nI (z 19)), .int (nI (z 20)), .ref (q 21), .long (lN ev), .ref (q 23), .ref (q 24), .int (nI (z 25)), .ref (q 26), .int al, .long wl, .int (nI (z 29))], ob g 7 [.int (nI (cy 0)), .int (nI (cy 1)), .int (nI (cy 2)), .int (nI (cy 3)), .int (nI (cy 4)), .int (nI (cy 5)), .int (nI (cy 6)), .int (nI (cy 7)), .int (nI kp), .int (nI nc), .ref (cb 0), .ref (cb 1), .ref (cb 2), .ref (cb 3), .ref (cb 4), .ref (cb 5), .ref (cb 6), .ref (cb 7), .ref (cb 8), .ref (cb 9), .ref (cb 10), .ref (cb 11)], aI E (q 16) 25 (xF mn ink t dd)] (nI (inkS ink bs))) := by
  have h := c_X8_inkOf l E k th tr wh g rr q z nb wa wd ev al wl cy kp nc cb mn ink t dd bs hcl hbs
  rw [inkS_e hcl hz] at h
  exact h
set_option maxRecDepth 100000 in
set_option maxHeartbeats 4000000 in
theorem c_X8_waysOf (l : Launch) (E : Et) (k : Nat) (th : Nat) (tr : Nat) (wh : Int32) (g : Nat) (rr : Option Nat) (q : Nat → Nat) (z : Nat → Nat) (nb : Int32) (wa : Int32) (wd : Int64) (al : Int32) (wl : Int64) (cy : Nat → Nat) (kp : Nat) (nc : Nat) (cb : Nat → Nat) (mn : Nat → Int32) (ink : Nat → Nat) (t : Nat) (dd : Nat) (Fs : Nat → Nat) (Ft : Nat → Nat) (kf : Nat → Nat) (m : Int32) (hd : cy 4 ≤ 6) (hcl : cy 5 ≤ 8) (hink : ∀ c, ink c ≤ 40) (hz : ∀ c, cy 5 ≤ c → ink c = 0) : Ct l E yX8_waysOf cX8_waysOf 2 (some .long) 2 0 0 [.ref k, .int m] [ob k 8 [.int (nI th), .int (nI tr), .int wh, .ref g, va_rf rr, .ref (q 5), .int (nI (z 6)), .int (nI (z 7)), .int (nI (z 8)), .int (nI (z 9)), .int (nI (z 10)), .int nb, .int (nI (z 12)), .int wa, .long wd, .ref (q 15), .ref (q 16), .ref (q 17), .ref (q 18), .int (nI (z 19)), .int (nI (z 20)), .ref (q 21), .long (lN (allS (cy 4))), .ref (q 23), .ref (q 24), .int (nI (z 25)), .ref (q 26), .int al, .long wl, .int (nI (z 29))], ob g 7 [.int (nI (cy 0)), .int (nI (cy 1)), .int (nI (cy 2)), .int (nI (cy 3)), .int (nI (cy 4)), .int (nI (cy 5)), .int (nI (cy 6)), .int (nI (cy 7)), .int (nI kp), .int (nI nc), .ref (cb 0), .ref (cb 1), .ref (cb 2), .ref (cb 3), .ref (cb 4), .ref (cb 5), .ref (cb 6), .ref (cb 7), .ref (cb 8), .ref (cb 9), .ref (cb 10), .ref (cb 11)], aI E (q 16) 25 (xF mn ink t dd), aM E (q 21) 8 (lyF Fs Ft t (cy 4) kf (cy 5))] (roL [ob k 8 [.int (nI th), .int (nI tr), .int wh, .ref g, va_rf rr, .ref (q 5), .int (nI (z 6)), .int (nI (z 7)), .int (nI (z 8)), .int (nI (z 9)), .int (nI (z 10)), .int nb, .int (nI (z 12)), .int wa, .long wd, .ref (q 15), .ref (q 16), .ref (q 17), .ref (q 18), .int (nI (z 19)), .int (nI (z 20)), .ref (q 21), .long (lN (allS (cy 4))), .ref (q 23), .ref (q 24), .int (nI (z 25)), .ref (q 26), .int al, .long wl, .int (nI (z 29))], ob g 7 [.int (nI (cy 0)), .int (nI (cy 1)), .int (nI (cy 2)), .int (nI (cy 3)), .int (nI (cy 4)), .int (nI (cy 5)), .int (nI (cy 6)), .int (nI (cy 7)), .int (nI kp), .int (nI nc), .ref (cb 0), .ref (cb 1), .ref (cb 2), .ref (cb 3), .ref (cb 4), .ref (cb 5), .ref (cb 6), .ref (cb 7), .ref (cb 8), .ref (cb 9), .ref (cb 10), .ref (cb 11)], aI E (q 16) 25 (xF mn ink t dd), aM E (q 21) 8 (lyF Fs Ft t (cy 4) kf (cy 5))] (lN (kpN cy Fs Ft t (bdN ink mn m 0)))) := by
  refine Ct.intro (by decide +kernel) (Nat.le_of_ble_eq_true rfl) (lv := [(0, .ref k), (1, .int m)]) rfl ?_
  intro Z X Y
  refine v_aload_n X dX8_waysOf_0 rfl 0 rfl ?_
  refine v_aload_n X dX8_waysOf_1 rfl 0 rfl ?_
  refine v_iload_n X dX8_waysOf_2 rfl 1 rfl ?_
  refine v_roI1 X (rn_V X k_X8_binding ml_X8_332 dX8_waysOf_3 (c_X8_bindingB l E k th tr wh g rr q z nb wa wd (allS (cy 4)) al wl cy kp nc cb mn ink t dd m (by first | assumption | omega) (by first | assumption | omega) (by first | assumption | omega)) rfl 0 rfl rfl (by decide) (by decide) (by omega) (by omega) (Nat.le_of_ble_eq_true rfl)) [0, 1, 2] rfl rfl ?_
  refine v_roL1 X (rn_V X k_X8_keepAll ml_X8_335 dX8_waysOf_6 (c_X8_keepAllL l E k th tr wh g rr q z nb wa wd al wl cy kp nc cb Fs Ft kf t (bdN ink mn m 0) (by first | assumption | omega) (Nat.lt_trans (bdN_lt _ _ _ _) (by decide))) rfl 0 rfl rfl (by decide) (by decide) (by omega) (by omega) (Nat.le_of_ble_eq_true rfl)) [0, 1, 3] rfl rfl ?_
  exact v_lret X Y dX8_waysOf_9 (roL_of rfl) (by omega) (by omega)
set_option maxRecDepth 100000 in
set_option maxHeartbeats 4000000 in
theorem c_X8_isStuck (l : Launch) (E : Et) (k : Nat) (th : Nat) (tr : Nat) (wh : Int32) (g : Nat) (rr : Option Nat) (q : Nat → Nat) (z : Nat → Nat) (nb : Int32) (wa : Int32) (wd : Int64) (al : Int32) (wl : Int64) (cy : Nat → Nat) (kp : Nat) (nc : Nat) (cb : Nat → Nat) (mn : Nat → Int32) (ink : Nat → Nat) (t : Nat) (dd : Nat) (Fs : Nat → Nat) (Ft : Nat → Nat) (kf : Nat → Nat) (m : Int32) (hd : cy 4 ≤ 6) (hcl : cy 5 ≤ 8) (hink : ∀ c, ink c ≤ 40) (hz : ∀ c, cy 5 ≤ c → ink c = 0) : Ct l E yX8_isStuck cX8_isStuck 2 (some .boolean) 3 0 0 [.ref k, .int m] [ob k 8 [.int (nI th), .int (nI tr), .int wh, .ref g, va_rf rr, .ref (q 5), .int (nI (z 6)), .int (nI (z 7)), .int (nI (z 8)), .int (nI (z 9)), .int (nI (z 10)), .int nb, .int (nI (z 12)), .int wa, .long wd, .ref (q 15), .ref (q 16), .ref (q 17), .ref (q 18), .int (nI (z 19)), .int (nI (z 20)), .ref (q 21), .long (lN (allS (cy 4))), .ref (q 23), .ref (q 24), .int (nI (z 25)), .ref (q 26), .int al, .long wl, .int (nI (z 29))], ob g 7 [.int (nI (cy 0)), .int (nI (cy 1)), .int (nI (cy 2)), .int (nI (cy 3)), .int (nI (cy 4)), .int (nI (cy 5)), .int (nI (cy 6)), .int (nI (cy 7)), .int (nI kp), .int (nI nc), .ref (cb 0), .ref (cb 1), .ref (cb 2), .ref (cb 3), .ref (cb 4), .ref (cb 5), .ref (cb 6), .ref (cb 7), .ref (cb 8), .ref (cb 9), .ref (cb 10), .ref (cb 11)], aI E (q 16) 25 (xF mn ink t dd), aM E (q 21) 8 (lyF Fs Ft t (cy 4) kf (cy 5))] (roI [ob k 8 [.int (nI th), .int (nI tr), .int wh, .ref g, va_rf rr, .ref (q 5), .int (nI (z 6)), .int (nI (z 7)), .int (nI (z 8)), .int (nI (z 9)), .int (nI (z 10)), .int nb, .int (nI (z 12)), .int wa, .long wd, .ref (q 15), .ref (q 16), .ref (q 17), .ref (q 18), .int (nI (z 19)), .int (nI (z 20)), .ref (q 21), .long (lN (allS (cy 4))), .ref (q 23), .ref (q 24), .int (nI (z 25)), .ref (q 26), .int al, .long wl, .int (nI (z 29))], ob g 7 [.int (nI (cy 0)), .int (nI (cy 1)), .int (nI (cy 2)), .int (nI (cy 3)), .int (nI (cy 4)), .int (nI (cy 5)), .int (nI (cy 6)), .int (nI (cy 7)), .int (nI kp), .int (nI nc), .ref (cb 0), .ref (cb 1), .ref (cb 2), .ref (cb 3), .ref (cb 4), .ref (cb 5), .ref (cb 6), .ref (cb 7), .ref (cb 8), .ref (cb 9), .ref (cb 10), .ref (cb 11)], aI E (q 16) 25 (xF mn ink t dd), aM E (q 21) 8 (lyF Fs Ft t (cy 4) kf (cy 5))] (nI (decide (kpN cy Fs Ft t (bdN ink mn m 0) = 0)).toNat)) := by
  refine Ct.intro (by decide +kernel) (Nat.le_of_ble_eq_true rfl) (lv := [(0, .ref k), (1, .int m)]) rfl ?_
  intro Z X Y
  refine v_aload_n X dX8_isStuck_0 rfl 0 rfl ?_
  refine v_iload_n X dX8_isStuck_1 rfl 1 rfl ?_
  refine v_roL1 X (rn_V X k_X8_waysOf ml_X8_339 dX8_isStuck_2 (c_X8_waysOf l E k th tr wh g rr q z nb wa wd al wl cy kp nc cb mn ink t dd Fs Ft kf m (by first | assumption | omega) (by first | assumption | omega) (by first | assumption | omega) (by first | assumption | omega)) rfl 0 rfl rfl (by decide) (by decide) (by omega) (by omega) (Nat.le_of_ble_eq_true rfl)) [0, 1, 2, 3] rfl rfl ?_
  refine v_lconst X dX8_isStuck_5 (v := lN 0) (by decide) ?_
  refine v_lcmp X dX8_isStuck_6 ?_
  refine v_ifLN_ne X dX8_isStuck_7 (tgt := 14) (by decide) (kpN_lt hd _ _ _ _) (by decide) (fun h7 => ?_) (fun h7 => ?_)
  · refine v_iconst X dX8_isStuck_14 (v := nI 0) (by decide) ?_
    exact v_zret X Y dX8_isStuck_15 (by decide) (roI_of (bo0 (decide_eq_false h7))) (by omega) (by omega)
  · refine v_iconst X dX8_isStuck_10 (v := nI 1) (by decide) ?_
    refine v_goto X dX8_isStuck_11 (tgt := 15) (by decide) ?_
    exact v_zret X Y dX8_isStuck_15 (by decide) (roI_of (bo1 (decide_eq_true h7))) (by omega) (by omega)
set_option maxRecDepth 100000 in
set_option maxHeartbeats 4000000 in
theorem c_X8_bindingAll (l : Launch) (E : Et) (k : Nat) (th : Nat) (tr : Nat) (wh : Int32) (g : Nat) (rr : Option Nat) (q : Nat → Nat) (z : Nat → Nat) (nb : Int32) (wa : Int32) (wd : Int64) (ev : Nat) (al : Int32) (wl : Int64) (cy : Nat → Nat) (kp : Nat) (nc : Nat) (cb : Nat → Nat) (mn : Nat → Int32) (ink : Nat → Nat) (t : Nat) (dd : Nat) (hcl : cy 5 ≤ 8) (hink : ∀ c, ink c ≤ 40) (hz : ∀ c, cy 5 ≤ c → ink c = 0) : Ct l E yX8_bindingAll cX8_bindingAll 3 (some .int) 0 0 0 [.ref k] [ob k 8 [.int (nI th), .int (nI tr), .int wh, .ref g, va_rf rr, .ref (q 5), .int (nI (z 6)), .int (nI (z 7)), .int (nI (z 8)), .int (nI (z 9)), .int (nI (z 10)), .int nb, .int (nI (z 12)), .int wa, .long wd, .ref (q 15), .ref (q 16), .ref (q 17), .ref (q 18), .int (nI (z 19)), .int (nI (z 20)), .ref (q 21), .long (lN ev), .ref (q 23), .ref (q 24), .int (nI (z 25)), .ref (q 26), .int al, .long wl, .int (nI (z 29))], ob g 7 [.int (nI (cy 0)), .int (nI (cy 1)), .int (nI (cy 2)), .int (nI (cy 3)), .int (nI (cy 4)), .int (nI (cy 5)), .int (nI (cy 6)), .int (nI (cy 7)), .int (nI kp), .int (nI nc), .ref (cb 0), .ref (cb 1), .ref (cb 2), .ref (cb 3), .ref (cb 4), .ref (cb 5), .ref (cb 6), .ref (cb 7), .ref (cb 8), .ref (cb 9), .ref (cb 10), .ref (cb 11)], aI E (q 16) 25 (xF mn ink t dd)] (roI [ob k 8 [.int (nI th), .int (nI tr), .int wh, .ref g, va_rf rr, .ref (q 5), .int (nI (z 6)), .int (nI (z 7)), .int (nI (z 8)), .int (nI (z 9)), .int (nI (z 10)), .int nb, .int (nI (z 12)), .int wa, .long wd, .ref (q 15), .ref (q 16), .ref (q 17), .ref (q 18), .int (nI (z 19)), .int (nI (z 20)), .ref (q 21), .long (lN ev), .ref (q 23), .ref (q 24), .int (nI (z 25)), .ref (q 26), .int al, .long wl, .int (nI (z 29))], ob g 7 [.int (nI (cy 0)), .int (nI (cy 1)), .int (nI (cy 2)), .int (nI (cy 3)), .int (nI (cy 4)), .int (nI (cy 5)), .int (nI (cy 6)), .int (nI (cy 7)), .int (nI kp), .int (nI nc), .ref (cb 0), .ref (cb 1), .ref (cb 2), .ref (cb 3), .ref (cb 4), .ref (cb 5), .ref (cb 6), .ref (cb 7), .ref (cb 8), .ref (cb 9), .ref (cb 10), .ref (cb 11)], aI E (q 16) 25 (xF mn ink t dd)] (nI (bbits (fun cx => decide (0 < ink cx)) 8))) := by
  refine Ct.intro (by decide +kernel) (Nat.le_of_ble_eq_true rfl) (lv := [(0, .ref k)]) rfl ?_
  intro Z X Y
  refine v_iconst X dX8_bindingAll_0 (v := nI 0) (by decide) ?_
  refine v_istore_n X dX8_bindingAll_1 rfl (by decide) (lv' := [(1, .int (nI 0)), (0, .ref k)]) rfl ?_
  refine v_iconst X dX8_bindingAll_2 (v := nI 0) (by decide) ?_
  refine v_istore_n X dX8_bindingAll_3 rfl (by decide) (lv' := [(2, .int (nI 0)), (1, .int (nI 0)), (0, .ref k)]) rfl ?_
  have L4 : ∀ (j4 : Nat) (vc : Nat) (vb : Nat), (vc ≤ cy 5 ∧ vb = bbits (fun c => decide (0 < ink c)) vc) → cy 5 - vc < j4 → V E Z 4 [(0, .ref k), (1, .int (nI vb)), (2, .int (nI vc))] [] [ob k 8 [.int (nI th), .int (nI tr), .int wh, .ref g, va_rf rr, .ref (q 5), .int (nI (z 6)), .int (nI (z 7)), .int (nI (z 8)), .int (nI (z 9)), .int (nI (z 10)), .int nb, .int (nI (z 12)), .int wa, .long wd, .ref (q 15), .ref (q 16), .ref (q 17), .ref (q 18), .int (nI (z 19)), .int (nI (z 20)), .ref (q 21), .long (lN ev), .ref (q 23), .ref (q 24), .int (nI (z 25)), .ref (q 26), .int al, .long wl, .int (nI (z 29))], ob g 7 [.int (nI (cy 0)), .int (nI (cy 1)), .int (nI (cy 2)), .int (nI (cy 3)), .int (nI (cy 4)), .int (nI (cy 5)), .int (nI (cy 6)), .int (nI (cy 7)), .int (nI kp), .int (nI nc), .ref (cb 0), .ref (cb 1), .ref (cb 2), .ref (cb 3), .ref (cb 4), .ref (cb 5), .ref (cb 6), .ref (cb 7), .ref (cb 8), .ref (cb 9), .ref (cb 10), .ref (cb 11)], aI E (q 16) 25 (xF mn ink t dd)] 0 0 := by
    intro j4
    induction j4 with
    | zero => intro vc vb hI hM; exact absurd hM (Nat.not_lt_zero _)
    | succ j4 ih4 =>
      intro vc vb hI4 hM4
      obtain ⟨hc, hb⟩ := id hI4
      refine v_iload_n X dX8_bindingAll_4 rfl 2 rfl ?_
      refine v_aload_n X dX8_bindingAll_5 rfl 0 rfl ?_
      refine v_get X kcX8 fl_X8_306 dX8_bindingAll_6 0 rfl rfl ?_
      refine v_getN X kcX7 fl_X8_240 dX8_bindingAll_9 1 rfl rfl ?_
      refine v_icmpN_ge X dX8_bindingAll_12 (tgt := 43) (by decide) (by omega) (by omega) (fun h12 => ?_) (fun h12 => ?_)
      · refine v_iload_n X dX8_bindingAll_43 rfl 1 rfl ?_
        exact v_iret X Y dX8_bindingAll_44 (roI_of (by rw [hb, show vc = cy 5 by omega, bind_e hcl hz])) (by omega) (by omega)
      · refine v_iload_n X dX8_bindingAll_15 rfl 1 rfl ?_
        refine v_aload_n X dX8_bindingAll_16 rfl 0 rfl ?_
        refine v_get X kcX8 fl_X8_21 dX8_bindingAll_17 0 rfl rfl ?_
        refine v_bipush X dX8_bindingAll_20 (v := nI 8) (by decide) ?_
        refine v_iload_n X dX8_bindingAll_22 rfl 2 rfl ?_
        refine v_iadd X dX8_bindingAll_23 ?_
        refine v_eqi (x' := nI (8 + vc)) (nI_add _ _) ?_
        refine v_iald X dX8_bindingAll_24 2 rfl (by omega) (by decide) ?_
        refine v_eqi (x' := nI (ink vc)) (xF_i (by omega)) ?_
        refine v_ifN_le X dX8_bindingAll_25 (tgt := 34) (by decide) (Nat.lt_of_le_of_lt (hink _) (by decide)) (fun h25 => ?_) (fun h25 => ?_)
        · refine v_iconst X dX8_bindingAll_34 (v := nI 0) (by decide) ?_
          refine v_ior X dX8_bindingAll_35 ?_
          refine v_eqi (x' := nI (vb ||| 0)) (fa_or _ _) ?_
          refine v_istore_n X dX8_bindingAll_36 rfl (by decide) (lv' := [(1, .int (nI (vb ||| 0))), (0, .ref k), (2, .int (nI vc))]) rfl ?_
          refine v_iinc X dX8_bindingAll_37 2 rfl (v := nI (vc + 1)) (nI_inc vc) (by decide) (lv' := [(2, .int (nI (vc + 1))), (1, .int (nI (vb ||| 0))), (0, .ref k)]) rfl ?_
          refine v_goto X dX8_bindingAll_40 (tgt := 4) (by decide) ?_
          refine V.lvs [2, 1, 0] rfl ?_
          exact ih4 (vc + 1) (vb ||| 0) (⟨by omega, by rw [hb]; exact (Nat.or_zero _).trans (bbits_no (decide_eq_false (by omega))).symm⟩) (by omega)
        · refine v_iconst X dX8_bindingAll_28 (v := nI 1) (by decide) ?_
          refine v_iload_n X dX8_bindingAll_29 rfl 2 rfl ?_
          refine v_ishl X dX8_bindingAll_30 ?_
          refine v_eqi (x' := nI (2 ^ vc)) (nI_shl1 (by omega)) ?_
          refine v_goto X dX8_bindingAll_31 (tgt := 35) (by decide) ?_
          refine v_ior X dX8_bindingAll_35 ?_
          refine v_eqi (x' := nI (vb ||| (2 ^ vc))) (fa_or _ _) ?_
          refine v_istore_n X dX8_bindingAll_36 rfl (by decide) (lv' := [(1, .int (nI (vb ||| (2 ^ vc)))), (0, .ref k), (2, .int (nI vc))]) rfl ?_
          refine v_iinc X dX8_bindingAll_37 2 rfl (v := nI (vc + 1)) (nI_inc vc) (by decide) (lv' := [(2, .int (nI (vc + 1))), (1, .int (nI (vb ||| (2 ^ vc)))), (0, .ref k)]) rfl ?_
          refine v_goto X dX8_bindingAll_40 (tgt := 4) (by decide) ?_
          refine V.lvs [2, 1, 0] rfl ?_
          exact ih4 (vc + 1) (vb ||| (2 ^ vc)) (⟨by omega, by rw [hb]; exact (bbits_yes (decide_eq_true (by omega))).symm⟩) (by omega)
  refine V.lvs [2, 1, 0] rfl ?_
  exact L4 _ 0 0 (⟨by omega, rfl⟩) (Nat.lt_succ_self _)
set_option maxRecDepth 100000 in
set_option maxHeartbeats 4000000 in
theorem c_X8_days (l : Launch) (E : Et) (k : Nat) (th : Nat) (tr : Nat) (wh : Int32) (g : Nat) (rr : Option Nat) (q : Nat → Nat) (z : Nat → Nat) (nb : Int32) (wa : Int32) (wd : Int64) (ev : Nat) (al : Int32) (wl : Int64) (cy : Nat → Nat) (kp : Nat) (nc : Nat) (cb : Nat → Nat) (mn : Nat → Int32) (ink : Nat → Nat) (t : Nat) (dd : Nat) (n : Nat) (hcl : cy 5 ≤ 8) (hink : ∀ c, ink c ≤ 40) (hz : ∀ c, cy 5 ≤ c → ink c = 0) (hn : n ≤ 60) : Ct l E yX8_days cX8_days 3 none 0 0 0 [.ref k, .int (nI n)] [ob k 8 [.int (nI th), .int (nI tr), .int wh, .ref g, va_rf rr, .ref (q 5), .int (nI (z 6)), .int (nI (z 7)), .int (nI (z 8)), .int (nI (z 9)), .int (nI (z 10)), .int nb, .int (nI (z 12)), .int wa, .long wd, .ref (q 15), .ref (q 16), .ref (q 17), .ref (q 18), .int (nI (z 19)), .int (nI (z 20)), .ref (q 21), .long (lN ev), .ref (q 23), .ref (q 24), .int (nI (z 25)), .ref (q 26), .int al, .long wl, .int (nI (z 29))], ob g 7 [.int (nI (cy 0)), .int (nI (cy 1)), .int (nI (cy 2)), .int (nI (cy 3)), .int (nI (cy 4)), .int (nI (cy 5)), .int (nI (cy 6)), .int (nI (cy 7)), .int (nI kp), .int (nI nc), .ref (cb 0), .ref (cb 1), .ref (cb 2), .ref (cb 3), .ref (cb 4), .ref (cb 5), .ref (cb 6), .ref (cb 7), .ref (cb 8), .ref (cb 9), .ref (cb 10), .ref (cb 11)], aI E (q 16) 25 (xF mn ink t dd)] (wrV [ob k 8 [.int (nI th), .int (nI tr), .int wh, .ref g, va_rf rr, .ref (q 5), .int (nI (z 6)), .int (nI (z 7)), .int (nI (z 8)), .int (nI (z 9)), .int (nI (z 10)), .int nb, .int (nI (z 12)), .int wa, .long wd, .ref (q 15), .ref (q 16), .ref (q 17), .ref (q 18), .int (nI (z 19)), .int (nI (z 20)), .ref (q 21), .long (lN ev), .ref (q 23), .ref (q 24), .int (nI (z 25)), .ref (q 26), .int al, .long wl, .int (nI (z 29))], ob g 7 [.int (nI (cy 0)), .int (nI (cy 1)), .int (nI (cy 2)), .int (nI (cy 3)), .int (nI (cy 4)), .int (nI (cy 5)), .int (nI (cy 6)), .int (nI (cy 7)), .int (nI kp), .int (nI nc), .ref (cb 0), .ref (cb 1), .ref (cb 2), .ref (cb 3), .ref (cb 4), .ref (cb 5), .ref (cb 6), .ref (cb 7), .ref (cb 8), .ref (cb 9), .ref (cb 10), .ref (cb 11)], aI E (q 16) 25 (xF mn (fun c => ink c - n) t (dd + n))]) := by
  refine Ct.intro (by decide +kernel) (Nat.le_of_ble_eq_true rfl) (lv := [(0, .ref k), (1, .int (nI n))]) rfl ?_
  intro Z X Y
  refine v_aload_n X dX8_days_0 rfl 0 rfl ?_
  refine v_get X kcX8 fl_X8_21 dX8_days_1 0 rfl rfl ?_
  refine v_bipush X dX8_days_4 (v := nI 24) (by decide) ?_
  refine v_dup2 X dX8_days_6 rfl rfl ?_
  refine v_iald X dX8_days_7 2 rfl (by decide) (by decide) ?_
  refine v_eqi (x' := nI dd) xF_d ?_
  refine v_iload_n X dX8_days_8 rfl 1 rfl ?_
  refine v_iadd X dX8_days_9 ?_
  refine v_eqi (x' := nI (dd + n)) (nI_add _ _) ?_
  refine v_iast X dX8_days_10 2 rfl (by decide) (by decide) (ws' := [ob k 8 [.int (nI th), .int (nI tr), .int wh, .ref g, va_rf rr, .ref (q 5), .int (nI (z 6)), .int (nI (z 7)), .int (nI (z 8)), .int (nI (z 9)), .int (nI (z 10)), .int nb, .int (nI (z 12)), .int wa, .long wd, .ref (q 15), .ref (q 16), .ref (q 17), .ref (q 18), .int (nI (z 19)), .int (nI (z 20)), .ref (q 21), .long (lN ev), .ref (q 23), .ref (q 24), .int (nI (z 25)), .ref (q 26), .int al, .long wl, .int (nI (z 29))], ob g 7 [.int (nI (cy 0)), .int (nI (cy 1)), .int (nI (cy 2)), .int (nI (cy 3)), .int (nI (cy 4)), .int (nI (cy 5)), .int (nI (cy 6)), .int (nI (cy 7)), .int (nI kp), .int (nI nc), .ref (cb 0), .ref (cb 1), .ref (cb 2), .ref (cb 3), .ref (cb 4), .ref (cb 5), .ref (cb 6), .ref (cb 7), .ref (cb 8), .ref (cb 9), .ref (cb 10), .ref (cb 11)], aI E (q 16) 25 (upd (xF mn ink t dd) 24 (nI (dd + n)))]) rfl ?_
  refine V.arI 2 rfl (g' := xF mn (dyN ink n 0) t (dd + n)) (xF_upD) (ws' := [ob k 8 [.int (nI th), .int (nI tr), .int wh, .ref g, va_rf rr, .ref (q 5), .int (nI (z 6)), .int (nI (z 7)), .int (nI (z 8)), .int (nI (z 9)), .int (nI (z 10)), .int nb, .int (nI (z 12)), .int wa, .long wd, .ref (q 15), .ref (q 16), .ref (q 17), .ref (q 18), .int (nI (z 19)), .int (nI (z 20)), .ref (q 21), .long (lN ev), .ref (q 23), .ref (q 24), .int (nI (z 25)), .ref (q 26), .int al, .long wl, .int (nI (z 29))], ob g 7 [.int (nI (cy 0)), .int (nI (cy 1)), .int (nI (cy 2)), .int (nI (cy 3)), .int (nI (cy 4)), .int (nI (cy 5)), .int (nI (cy 6)), .int (nI (cy 7)), .int (nI kp), .int (nI nc), .ref (cb 0), .ref (cb 1), .ref (cb 2), .ref (cb 3), .ref (cb 4), .ref (cb 5), .ref (cb 6), .ref (cb 7), .ref (cb 8), .ref (cb 9), .ref (cb 10), .ref (cb 11)], aI E (q 16) 25 (xF mn (dyN ink n 0) t (dd + n))]) rfl ?_
  refine v_iconst X dX8_days_11 (v := nI 0) (by decide) ?_
  refine v_istore_n X dX8_days_12 rfl (by decide) (lv' := [(2, .int (nI 0)), (0, .ref k), (1, .int (nI n))]) rfl ?_
  have L13 : ∀ (j13 : Nat) (vc : Nat) (vg : Nat → Int32), (vc ≤ cy 5 ∧ vg = xF mn (dyN ink n vc) t (dd + n)) → cy 5 - vc < j13 → V E Z 13 [(0, .ref k), (1, .int (nI n)), (2, .int (nI vc))] [] [ob k 8 [.int (nI th), .int (nI tr), .int wh, .ref g, va_rf rr, .ref (q 5), .int (nI (z 6)), .int (nI (z 7)), .int (nI (z 8)), .int (nI (z 9)), .int (nI (z 10)), .int nb, .int (nI (z 12)), .int wa, .long wd, .ref (q 15), .ref (q 16), .ref (q 17), .ref (q 18), .int (nI (z 19)), .int (nI (z 20)), .ref (q 21), .long (lN ev), .ref (q 23), .ref (q 24), .int (nI (z 25)), .ref (q 26), .int al, .long wl, .int (nI (z 29))], ob g 7 [.int (nI (cy 0)), .int (nI (cy 1)), .int (nI (cy 2)), .int (nI (cy 3)), .int (nI (cy 4)), .int (nI (cy 5)), .int (nI (cy 6)), .int (nI (cy 7)), .int (nI kp), .int (nI nc), .ref (cb 0), .ref (cb 1), .ref (cb 2), .ref (cb 3), .ref (cb 4), .ref (cb 5), .ref (cb 6), .ref (cb 7), .ref (cb 8), .ref (cb 9), .ref (cb 10), .ref (cb 11)], aI E (q 16) 25 vg] 0 0 := by
    intro j13
    induction j13 with
    | zero => intro vc vg hI hM; exact absurd hM (Nat.not_lt_zero _)
    | succ j13 ih13 =>
      intro vc vg hI13 hM13
      obtain ⟨hc, hg⟩ := id hI13
      refine v_iload_n X dX8_days_13 rfl 2 rfl ?_
      refine v_aload_n X dX8_days_14 rfl 0 rfl ?_
      refine v_get X kcX8 fl_X8_306 dX8_days_15 0 rfl rfl ?_
      refine v_getN X kcX7 fl_X8_240 dX8_days_18 1 rfl rfl ?_
      refine v_icmpN_ge X dX8_days_21 (tgt := 67) (by decide) (by omega) (by omega) (fun h21 => ?_) (fun h21 => ?_)
      · obtain rfl : vc = cy 5 := by omega
        rw [dyN_e n hz] at hg
        subst hg
        exact v_vret X Y dX8_days_67 (wrV_of rfl) (by omega) (by omega)
      · refine v_aload_n X dX8_days_24 rfl 0 rfl ?_
        refine v_get X kcX8 fl_X8_21 dX8_days_25 0 rfl rfl ?_
        refine v_bipush X dX8_days_28 (v := nI 8) (by decide) ?_
        refine v_iload_n X dX8_days_30 rfl 2 rfl ?_
        refine v_iadd X dX8_days_31 ?_
        refine v_eqi (x' := nI (8 + vc)) (nI_add _ _) ?_
        refine v_aload_n X dX8_days_32 rfl 0 rfl ?_
        refine v_get X kcX8 fl_X8_21 dX8_days_33 0 rfl rfl ?_
        refine v_bipush X dX8_days_36 (v := nI 8) (by decide) ?_
        refine v_iload_n X dX8_days_38 rfl 2 rfl ?_
        refine v_iadd X dX8_days_39 ?_
        refine v_eqi (x' := nI (8 + vc)) (nI_add _ _) ?_
        refine v_iald X dX8_days_40 2 rfl (by omega) (by decide) ?_
        refine v_eqi (x' := nI (ink vc)) (by rw [hg, xF_i (by omega), dyN_at]) ?_
        refine v_iload_n X dX8_days_41 rfl 1 rfl ?_
        refine v_icmpN_le X dX8_days_42 (tgt := 59) (by decide) (Nat.lt_of_le_of_lt (hink _) (by decide)) (by omega) (fun h42 => ?_) (fun h42 => ?_)
        · refine v_iconst X dX8_days_59 (v := nI 0) (by decide) ?_
          refine v_iast X dX8_days_60 2 rfl (by omega) (by decide) (ws' := [ob k 8 [.int (nI th), .int (nI tr), .int wh, .ref g, va_rf rr, .ref (q 5), .int (nI (z 6)), .int (nI (z 7)), .int (nI (z 8)), .int (nI (z 9)), .int (nI (z 10)), .int nb, .int (nI (z 12)), .int wa, .long wd, .ref (q 15), .ref (q 16), .ref (q 17), .ref (q 18), .int (nI (z 19)), .int (nI (z 20)), .ref (q 21), .long (lN ev), .ref (q 23), .ref (q 24), .int (nI (z 25)), .ref (q 26), .int al, .long wl, .int (nI (z 29))], ob g 7 [.int (nI (cy 0)), .int (nI (cy 1)), .int (nI (cy 2)), .int (nI (cy 3)), .int (nI (cy 4)), .int (nI (cy 5)), .int (nI (cy 6)), .int (nI (cy 7)), .int (nI kp), .int (nI nc), .ref (cb 0), .ref (cb 1), .ref (cb 2), .ref (cb 3), .ref (cb 4), .ref (cb 5), .ref (cb 6), .ref (cb 7), .ref (cb 8), .ref (cb 9), .ref (cb 10), .ref (cb 11)], aI E (q 16) 25 (upd vg (8 + vc) (nI 0))]) rfl ?_
          refine v_iinc X dX8_days_61 2 rfl (v := nI (vc + 1)) (nI_inc vc) (by decide) (lv' := [(2, .int (nI (vc + 1))), (0, .ref k), (1, .int (nI n))]) rfl ?_
          refine v_goto X dX8_days_64 (tgt := 13) (by decide) ?_
          refine V.lvs [1, 2, 0] rfl ?_
          exact ih13 (vc + 1) (upd vg (8 + vc) (nI 0)) (⟨by omega, by rw [hg, xF_upI (by omega), show 0 = ink vc - n by omega, dyN_s]⟩) (by omega)
        · refine v_aload_n X dX8_days_45 rfl 0 rfl ?_
          refine v_get X kcX8 fl_X8_21 dX8_days_46 0 rfl rfl ?_
          refine v_bipush X dX8_days_49 (v := nI 8) (by decide) ?_
          refine v_iload_n X dX8_days_51 rfl 2 rfl ?_
          refine v_iadd X dX8_days_52 ?_
          refine v_eqi (x' := nI (8 + vc)) (nI_add _ _) ?_
          refine v_iald X dX8_days_53 2 rfl (by omega) (by decide) ?_
          refine v_eqi (x' := nI (ink vc)) (by rw [hg, xF_i (by omega), dyN_at]) ?_
          refine v_iload_n X dX8_days_54 rfl 1 rfl ?_
          refine v_isub X dX8_days_55 ?_
          refine v_eqi (x' := nI ((ink vc) - n)) (pk_sub (by omega)) ?_
          refine v_goto X dX8_days_56 (tgt := 60) (by decide) ?_
          refine v_iast X dX8_days_60 2 rfl (by omega) (by decide) (ws' := [ob k 8 [.int (nI th), .int (nI tr), .int wh, .ref g, va_rf rr, .ref (q 5), .int (nI (z 6)), .int (nI (z 7)), .int (nI (z 8)), .int (nI (z 9)), .int (nI (z 10)), .int nb, .int (nI (z 12)), .int wa, .long wd, .ref (q 15), .ref (q 16), .ref (q 17), .ref (q 18), .int (nI (z 19)), .int (nI (z 20)), .ref (q 21), .long (lN ev), .ref (q 23), .ref (q 24), .int (nI (z 25)), .ref (q 26), .int al, .long wl, .int (nI (z 29))], ob g 7 [.int (nI (cy 0)), .int (nI (cy 1)), .int (nI (cy 2)), .int (nI (cy 3)), .int (nI (cy 4)), .int (nI (cy 5)), .int (nI (cy 6)), .int (nI (cy 7)), .int (nI kp), .int (nI nc), .ref (cb 0), .ref (cb 1), .ref (cb 2), .ref (cb 3), .ref (cb 4), .ref (cb 5), .ref (cb 6), .ref (cb 7), .ref (cb 8), .ref (cb 9), .ref (cb 10), .ref (cb 11)], aI E (q 16) 25 (upd vg (8 + vc) (nI ((ink vc) - n)))]) rfl ?_
          refine v_iinc X dX8_days_61 2 rfl (v := nI (vc + 1)) (nI_inc vc) (by decide) (lv' := [(2, .int (nI (vc + 1))), (0, .ref k), (1, .int (nI n))]) rfl ?_
          refine v_goto X dX8_days_64 (tgt := 13) (by decide) ?_
          refine V.lvs [1, 2, 0] rfl ?_
          exact ih13 (vc + 1) (upd vg (8 + vc) (nI ((ink vc) - n))) (⟨by omega, by rw [hg, xF_upI (by omega), dyN_s]⟩) (by omega)
  refine V.lvs [1, 2, 0] rfl ?_
  exact L13 _ 0 (xF mn (dyN ink n 0) t (dd + n)) (⟨by omega, rfl⟩) (Nat.lt_succ_self _)
set_option maxRecDepth 100000 in
set_option maxHeartbeats 4000000 in
theorem c_X8_presses (l : Launch) (E : Et) (k : Nat) (th : Nat) (tr : Nat) (wh : Int32) (g : Nat) (rr : Option Nat) (q : Nat → Nat) (z : Nat → Nat) (nb : Int32) (wa : Int32) (wd : Int64) (ev : Nat) (al : Int32) (wl : Int64) (cy : Nat → Nat) (kp : Nat) (nc : Nat) (cb : Nat → Nat) (ik : Nat → Nat) (mn : Nat → Int32) (ink : Nat → Nat) (t : Nat) (dd : Nat) (c : Nat) (m : Int32) (hcl : cy 5 ≤ 8) (hink : ∀ c, ink c ≤ 40) (hz : ∀ c, cy 5 ≤ c → ink c = 0) (hbl : cy 0 ≤ 9) (hc : c < cy 5) : Ct l E yX8_presses cX8_presses 4 none 0 0 0 [.ref k, .int (nI c), .int m] [ob k 8 [.int (nI th), .int (nI tr), .int wh, .ref g, va_rf rr, .ref (q 5), .int (nI (z 6)), .int (nI (z 7)), .int (nI (z 8)), .int (nI (z 9)), .int (nI (z 10)), .int nb, .int (nI (z 12)), .int wa, .long wd, .ref (q 15), .ref (q 16), .ref (q 17), .ref (q 18), .int (nI (z 19)), .int (nI (z 20)), .ref (q 21), .long (lN ev), .ref (q 23), .ref (q 24), .int (nI (z 25)), .ref (q 26), .int al, .long wl, .int (nI (z 29))], ob g 7 [.int (nI (cy 0)), .int (nI (cy 1)), .int (nI (cy 2)), .int (nI (cy 3)), .int (nI (cy 4)), .int (nI (cy 5)), .int (nI (cy 6)), .int (nI (cy 7)), .int (nI kp), .int (nI nc), .ref (cb 0), .ref (cb 1), .ref (cb 2), .ref (cb 3), .ref (cb 4), .ref (cb 5), .ref (cb 6), .ref (cb 7), .ref (cb 8), .ref (cb 9), .ref (cb 10), .ref (cb 11)], aN E (cb 1) 8 ik, aI E (q 16) 25 (xF mn ink t dd)] (wrV [ob k 8 [.int (nI th), .int (nI tr), .int wh, .ref g, va_rf rr, .ref (q 5), .int (nI (z 6)), .int (nI (z 7)), .int (nI (z 8)), .int (nI (z 9)), .int (nI (z 10)), .int nb, .int (nI (z 12)), .int wa, .long wd, .ref (q 15), .ref (q 16), .ref (q 17), .ref (q 18), .int (nI (z 19)), .int (nI (z 20)), .ref (q 21), .long (lN ev), .ref (q 23), .ref (q 24), .int (nI (z 25)), .ref (q 26), .int al, .long wl, .int (nI (z 29))], ob g 7 [.int (nI (cy 0)), .int (nI (cy 1)), .int (nI (cy 2)), .int (nI (cy 3)), .int (nI (cy 4)), .int (nI (cy 5)), .int (nI (cy 6)), .int (nI (cy 7)), .int (nI kp), .int (nI nc), .ref (cb 0), .ref (cb 1), .ref (cb 2), .ref (cb 3), .ref (cb 4), .ref (cb 5), .ref (cb 6), .ref (cb 7), .ref (cb 8), .ref (cb 9), .ref (cb 10), .ref (cb 11)], aN E (cb 1) 8 ik, aI E (q 16) 25 (xF (upd mn c m) (upN (blurN ink mn c m (cy 0)) c (ik c)) t dd)]) := by
  refine Ct.intro (by decide +kernel) (Nat.le_of_ble_eq_true rfl) (lv := [(0, .ref k), (1, .int (nI c)), (2, .int m)]) rfl ?_
  intro Z X Y
  refine v_iconst X dX8_presses_0 (v := nI 0) (by decide) ?_
  refine v_istore_n X dX8_presses_1 rfl (by decide) (lv' := [(3, .int (nI 0)), (0, .ref k), (1, .int (nI c)), (2, .int m)]) rfl ?_
  have L2 : ∀ (j2 : Nat) (vc : Nat) (vg : Nat → Int32), (vc ≤ cy 5 ∧ vg = xF mn (blN ink mn c m (cy 0) vc) t dd) → cy 5 - vc < j2 → V E Z 2 [(0, .ref k), (1, .int (nI c)), (2, .int m), (3, .int (nI vc))] [] [ob k 8 [.int (nI th), .int (nI tr), .int wh, .ref g, va_rf rr, .ref (q 5), .int (nI (z 6)), .int (nI (z 7)), .int (nI (z 8)), .int (nI (z 9)), .int (nI (z 10)), .int nb, .int (nI (z 12)), .int wa, .long wd, .ref (q 15), .ref (q 16), .ref (q 17), .ref (q 18), .int (nI (z 19)), .int (nI (z 20)), .ref (q 21), .long (lN ev), .ref (q 23), .ref (q 24), .int (nI (z 25)), .ref (q 26), .int al, .long wl, .int (nI (z 29))], ob g 7 [.int (nI (cy 0)), .int (nI (cy 1)), .int (nI (cy 2)), .int (nI (cy 3)), .int (nI (cy 4)), .int (nI (cy 5)), .int (nI (cy 6)), .int (nI (cy 7)), .int (nI kp), .int (nI nc), .ref (cb 0), .ref (cb 1), .ref (cb 2), .ref (cb 3), .ref (cb 4), .ref (cb 5), .ref (cb 6), .ref (cb 7), .ref (cb 8), .ref (cb 9), .ref (cb 10), .ref (cb 11)], aN E (cb 1) 8 ik, aI E (q 16) 25 vg] 0 0 := by
    intro j2
    induction j2 with
    | zero => intro vc vg hI hM; exact absurd hM (Nat.not_lt_zero _)
    | succ j2 ih2 =>
      intro vc vg hI2 hM2
      obtain ⟨hcc, hg⟩ := id hI2
      refine v_iload_n X dX8_presses_2 rfl 3 rfl ?_
      refine v_aload_n X dX8_presses_3 rfl 0 rfl ?_
      refine v_get X kcX8 fl_X8_306 dX8_presses_4 0 rfl rfl ?_
      refine v_getN X kcX7 fl_X8_240 dX8_presses_7 1 rfl rfl ?_
      refine v_icmpN_ge X dX8_presses_10 (tgt := 83) (by decide) (by omega) (by omega) (fun h10 => ?_) (fun h10 => ?_)
      · obtain rfl : vc = cy 5 := by omega
        rw [blN_e hz] at hg
        subst hg
        refine v_aload_n X dX8_presses_83 rfl 0 rfl ?_
        refine v_get X kcX8 fl_X8_21 dX8_presses_84 0 rfl rfl ?_
        refine v_iload_n X dX8_presses_87 rfl 1 rfl ?_
        refine v_iload_n X dX8_presses_88 rfl 2 rfl ?_
        refine v_iast X dX8_presses_89 3 rfl (by omega) (by decide) (ws' := [ob k 8 [.int (nI th), .int (nI tr), .int wh, .ref g, va_rf rr, .ref (q 5), .int (nI (z 6)), .int (nI (z 7)), .int (nI (z 8)), .int (nI (z 9)), .int (nI (z 10)), .int nb, .int (nI (z 12)), .int wa, .long wd, .ref (q 15), .ref (q 16), .ref (q 17), .ref (q 18), .int (nI (z 19)), .int (nI (z 20)), .ref (q 21), .long (lN ev), .ref (q 23), .ref (q 24), .int (nI (z 25)), .ref (q 26), .int al, .long wl, .int (nI (z 29))], ob g 7 [.int (nI (cy 0)), .int (nI (cy 1)), .int (nI (cy 2)), .int (nI (cy 3)), .int (nI (cy 4)), .int (nI (cy 5)), .int (nI (cy 6)), .int (nI (cy 7)), .int (nI kp), .int (nI nc), .ref (cb 0), .ref (cb 1), .ref (cb 2), .ref (cb 3), .ref (cb 4), .ref (cb 5), .ref (cb 6), .ref (cb 7), .ref (cb 8), .ref (cb 9), .ref (cb 10), .ref (cb 11)], aN E (cb 1) 8 ik, aI E (q 16) 25 (upd (xF mn (blurN ink mn c m (cy 0)) t dd) c m)]) rfl ?_
        refine v_aload_n X dX8_presses_90 rfl 0 rfl ?_
        refine v_get X kcX8 fl_X8_21 dX8_presses_91 0 rfl rfl ?_
        refine v_bipush X dX8_presses_94 (v := nI 8) (by decide) ?_
        refine v_iload_n X dX8_presses_96 rfl 1 rfl ?_
        refine v_iadd X dX8_presses_97 ?_
        refine v_eqi (x' := nI (8 + c)) (nI_add _ _) ?_
        refine v_aload_n X dX8_presses_98 rfl 0 rfl ?_
        refine v_get X kcX8 fl_X8_306 dX8_presses_99 0 rfl rfl ?_
        refine v_getN X kcX7 fl_X8_255 dX8_presses_102 1 rfl rfl ?_
        refine v_iload_n X dX8_presses_105 rfl 1 rfl ?_
        refine v_iald X dX8_presses_106 2 rfl (by omega) (by decide) ?_
        refine v_iast X dX8_presses_107 3 rfl (by omega) (by decide) (ws' := [ob k 8 [.int (nI th), .int (nI tr), .int wh, .ref g, va_rf rr, .ref (q 5), .int (nI (z 6)), .int (nI (z 7)), .int (nI (z 8)), .int (nI (z 9)), .int (nI (z 10)), .int nb, .int (nI (z 12)), .int wa, .long wd, .ref (q 15), .ref (q 16), .ref (q 17), .ref (q 18), .int (nI (z 19)), .int (nI (z 20)), .ref (q 21), .long (lN ev), .ref (q 23), .ref (q 24), .int (nI (z 25)), .ref (q 26), .int al, .long wl, .int (nI (z 29))], ob g 7 [.int (nI (cy 0)), .int (nI (cy 1)), .int (nI (cy 2)), .int (nI (cy 3)), .int (nI (cy 4)), .int (nI (cy 5)), .int (nI (cy 6)), .int (nI (cy 7)), .int (nI kp), .int (nI nc), .ref (cb 0), .ref (cb 1), .ref (cb 2), .ref (cb 3), .ref (cb 4), .ref (cb 5), .ref (cb 6), .ref (cb 7), .ref (cb 8), .ref (cb 9), .ref (cb 10), .ref (cb 11)], aN E (cb 1) 8 ik, aI E (q 16) 25 (upd (upd (xF mn (blurN ink mn c m (cy 0)) t dd) c m) (8 + c) (nI (ik c)))]) rfl ?_
        refine V.arI 3 rfl (g' := xF (upd mn c m) (upN (blurN ink mn c m (cy 0)) c (ik c)) t dd) (fun j _ => by rw [xF_upM (by omega), xF_upI (by omega)]) (ws' := [ob k 8 [.int (nI th), .int (nI tr), .int wh, .ref g, va_rf rr, .ref (q 5), .int (nI (z 6)), .int (nI (z 7)), .int (nI (z 8)), .int (nI (z 9)), .int (nI (z 10)), .int nb, .int (nI (z 12)), .int wa, .long wd, .ref (q 15), .ref (q 16), .ref (q 17), .ref (q 18), .int (nI (z 19)), .int (nI (z 20)), .ref (q 21), .long (lN ev), .ref (q 23), .ref (q 24), .int (nI (z 25)), .ref (q 26), .int al, .long wl, .int (nI (z 29))], ob g 7 [.int (nI (cy 0)), .int (nI (cy 1)), .int (nI (cy 2)), .int (nI (cy 3)), .int (nI (cy 4)), .int (nI (cy 5)), .int (nI (cy 6)), .int (nI (cy 7)), .int (nI kp), .int (nI nc), .ref (cb 0), .ref (cb 1), .ref (cb 2), .ref (cb 3), .ref (cb 4), .ref (cb 5), .ref (cb 6), .ref (cb 7), .ref (cb 8), .ref (cb 9), .ref (cb 10), .ref (cb 11)], aN E (cb 1) 8 ik, aI E (q 16) 25 (xF (upd mn c m) (upN (blurN ink mn c m (cy 0)) c (ik c)) t dd)]) rfl ?_
        exact v_vret X Y dX8_presses_108 (wrV_of rfl) (by omega) (by omega)
      · refine v_iload_n X dX8_presses_13 rfl 3 rfl ?_
        refine v_iload_n X dX8_presses_14 rfl 1 rfl ?_
        refine v_icmpN_eq X dX8_presses_15 (tgt := 77) (by decide) (by omega) (by omega) (fun h15 => ?_) (fun h15 => ?_)
        · refine v_iinc X dX8_presses_77 3 rfl (v := nI (vc + 1)) (nI_inc vc) (by decide) (lv' := [(3, .int (nI (vc + 1))), (0, .ref k), (1, .int (nI c)), (2, .int m)]) rfl ?_
          refine v_goto X dX8_presses_80 (tgt := 2) (by decide) ?_
          refine V.lvs [1, 2, 3, 0] rfl ?_
          exact ih2 (vc + 1) vg (⟨by omega, by rw [hg, blN_no (fun q => q.1 h15)]⟩) (by omega)
        · refine v_aload_n X dX8_presses_18 rfl 0 rfl ?_
          refine v_get X kcX8 fl_X8_21 dX8_presses_19 0 rfl rfl ?_
          refine v_iload_n X dX8_presses_22 rfl 3 rfl ?_
          refine v_iald X dX8_presses_23 3 rfl (by omega) (by decide) ?_
          refine v_eqi (x' := mn vc) (by rw [hg, xF_m (by omega)]) ?_
          refine v_iload_n X dX8_presses_24 rfl 2 rfl ?_
          refine v_icmp_ne X dX8_presses_25 (tgt := 77) (by decide) (fun h25 => ?_) (fun h25 => ?_)
          · refine v_iinc X dX8_presses_77 3 rfl (v := nI (vc + 1)) (nI_inc vc) (by decide) (lv' := [(3, .int (nI (vc + 1))), (0, .ref k), (1, .int (nI c)), (2, .int m)]) rfl ?_
            refine v_goto X dX8_presses_80 (tgt := 2) (by decide) ?_
            refine V.lvs [1, 2, 3, 0] rfl ?_
            exact ih2 (vc + 1) vg (⟨by omega, by rw [hg, blN_no (fun q => h25 q.2)]⟩) (by omega)
          · refine v_aload_n X dX8_presses_28 rfl 0 rfl ?_
            refine v_get X kcX8 fl_X8_21 dX8_presses_29 0 rfl rfl ?_
            refine v_bipush X dX8_presses_32 (v := nI 8) (by decide) ?_
            refine v_iload_n X dX8_presses_34 rfl 3 rfl ?_
            refine v_iadd X dX8_presses_35 ?_
            refine v_eqi (x' := nI (8 + vc)) (nI_add _ _) ?_
            refine v_aload_n X dX8_presses_36 rfl 0 rfl ?_
            refine v_get X kcX8 fl_X8_21 dX8_presses_37 0 rfl rfl ?_
            refine v_bipush X dX8_presses_40 (v := nI 8) (by decide) ?_
            refine v_iload_n X dX8_presses_42 rfl 3 rfl ?_
            refine v_iadd X dX8_presses_43 ?_
            refine v_eqi (x' := nI (8 + vc)) (nI_add _ _) ?_
            refine v_iald X dX8_presses_44 3 rfl (by omega) (by decide) ?_
            refine v_eqi (x' := nI (ink vc)) (by rw [hg, xF_i (by omega), blN_at]) ?_
            refine v_aload_n X dX8_presses_45 rfl 0 rfl ?_
            refine v_get X kcX8 fl_X8_306 dX8_presses_46 0 rfl rfl ?_
            refine v_getN X kcX7 fl_X8_146 dX8_presses_49 1 rfl rfl ?_
            refine v_icmpN_le X dX8_presses_52 (tgt := 75) (by decide) (Nat.lt_of_le_of_lt (hink _) (by decide)) (by omega) (fun h52 => ?_) (fun h52 => ?_)
            · refine v_iconst X dX8_presses_75 (v := nI 0) (by decide) ?_
              refine v_iast X dX8_presses_76 3 rfl (by omega) (by decide) (ws' := [ob k 8 [.int (nI th), .int (nI tr), .int wh, .ref g, va_rf rr, .ref (q 5), .int (nI (z 6)), .int (nI (z 7)), .int (nI (z 8)), .int (nI (z 9)), .int (nI (z 10)), .int nb, .int (nI (z 12)), .int wa, .long wd, .ref (q 15), .ref (q 16), .ref (q 17), .ref (q 18), .int (nI (z 19)), .int (nI (z 20)), .ref (q 21), .long (lN ev), .ref (q 23), .ref (q 24), .int (nI (z 25)), .ref (q 26), .int al, .long wl, .int (nI (z 29))], ob g 7 [.int (nI (cy 0)), .int (nI (cy 1)), .int (nI (cy 2)), .int (nI (cy 3)), .int (nI (cy 4)), .int (nI (cy 5)), .int (nI (cy 6)), .int (nI (cy 7)), .int (nI kp), .int (nI nc), .ref (cb 0), .ref (cb 1), .ref (cb 2), .ref (cb 3), .ref (cb 4), .ref (cb 5), .ref (cb 6), .ref (cb 7), .ref (cb 8), .ref (cb 9), .ref (cb 10), .ref (cb 11)], aN E (cb 1) 8 ik, aI E (q 16) 25 (upd vg (8 + vc) (nI 0))]) rfl ?_
              refine v_iinc X dX8_presses_77 3 rfl (v := nI (vc + 1)) (nI_inc vc) (by decide) (lv' := [(3, .int (nI (vc + 1))), (0, .ref k), (1, .int (nI c)), (2, .int m)]) rfl ?_
              refine v_goto X dX8_presses_80 (tgt := 2) (by decide) ?_
              refine V.lvs [1, 2, 3, 0] rfl ?_
              exact ih2 (vc + 1) (upd vg (8 + vc) (nI 0)) (⟨by omega, by rw [hg, xF_upI (by omega), ← blN_yes h15 h25, show ink vc - cy 0 = 0 by omega]⟩) (by omega)
            · refine v_aload_n X dX8_presses_55 rfl 0 rfl ?_
              refine v_get X kcX8 fl_X8_21 dX8_presses_56 0 rfl rfl ?_
              refine v_bipush X dX8_presses_59 (v := nI 8) (by decide) ?_
              refine v_iload_n X dX8_presses_61 rfl 3 rfl ?_
              refine v_iadd X dX8_presses_62 ?_
              refine v_eqi (x' := nI (8 + vc)) (nI_add _ _) ?_
              refine v_iald X dX8_presses_63 3 rfl (by omega) (by decide) ?_
              refine v_eqi (x' := nI (ink vc)) (by rw [hg, xF_i (by omega), blN_at]) ?_
              refine v_aload_n X dX8_presses_64 rfl 0 rfl ?_
              refine v_get X kcX8 fl_X8_306 dX8_presses_65 0 rfl rfl ?_
              refine v_getN X kcX7 fl_X8_146 dX8_presses_68 1 rfl rfl ?_
              refine v_isub X dX8_presses_71 ?_
              refine v_eqi (x' := nI ((ink vc) - (cy 0))) (pk_sub (by omega)) ?_
              refine v_goto X dX8_presses_72 (tgt := 76) (by decide) ?_
              refine v_iast X dX8_presses_76 3 rfl (by omega) (by decide) (ws' := [ob k 8 [.int (nI th), .int (nI tr), .int wh, .ref g, va_rf rr, .ref (q 5), .int (nI (z 6)), .int (nI (z 7)), .int (nI (z 8)), .int (nI (z 9)), .int (nI (z 10)), .int nb, .int (nI (z 12)), .int wa, .long wd, .ref (q 15), .ref (q 16), .ref (q 17), .ref (q 18), .int (nI (z 19)), .int (nI (z 20)), .ref (q 21), .long (lN ev), .ref (q 23), .ref (q 24), .int (nI (z 25)), .ref (q 26), .int al, .long wl, .int (nI (z 29))], ob g 7 [.int (nI (cy 0)), .int (nI (cy 1)), .int (nI (cy 2)), .int (nI (cy 3)), .int (nI (cy 4)), .int (nI (cy 5)), .int (nI (cy 6)), .int (nI (cy 7)), .int (nI kp), .int (nI nc), .ref (cb 0), .ref (cb 1), .ref (cb 2), .ref (cb 3), .ref (cb 4), .ref (cb 5), .ref (cb 6), .ref (cb 7), .ref (cb 8), .ref (cb 9), .ref (cb 10), .ref (cb 11)], aN E (cb 1) 8 ik, aI E (q 16) 25 (upd vg (8 + vc) (nI ((ink vc) - (cy 0))))]) rfl ?_
              refine v_iinc X dX8_presses_77 3 rfl (v := nI (vc + 1)) (nI_inc vc) (by decide) (lv' := [(3, .int (nI (vc + 1))), (0, .ref k), (1, .int (nI c)), (2, .int m)]) rfl ?_
              refine v_goto X dX8_presses_80 (tgt := 2) (by decide) ?_
              refine V.lvs [1, 2, 3, 0] rfl ?_
              exact ih2 (vc + 1) (upd vg (8 + vc) (nI ((ink vc) - (cy 0)))) (⟨by omega, by rw [hg, xF_upI (by omega), blN_yes h15 h25]⟩) (by omega)
  refine V.lvs [1, 2, 3, 0] rfl ?_
  exact L2 _ 0 (xF mn ink t dd) (⟨by omega, rfl⟩) (Nat.lt_succ_self _)
set_option maxRecDepth 100000 in
set_option maxHeartbeats 4000000 in
theorem c_X8_asTold (l : Launch) (E : Et) (k : Nat) (th : Nat) (tr : Nat) (wh : Int32) (g : Nat) (rr : Option Nat) (q : Nat → Nat) (z : Nat → Nat) (nb : Int32) (wa : Int32) (wd : Int64) (ev : Nat) (al : Int32) (wl : Int64) (cy : Nat → Nat) (kp : Nat) (nc : Nat) (cb : Nat → Nat) (mc : Nat → Nat) (ik : Nat → Nat) (xf : Nat → Int32) (hcl : cy 5 ≤ 8) (hbl : cy 0 ≤ 9) (hik : ∀ c, c < cy 5 → ik c ≤ 40) : Ct l E yX8_asTold cX8_asTold 2 none 1 0 0 [.ref k] [ob k 8 [.int (nI th), .int (nI tr), .int wh, .ref g, va_rf rr, .ref (q 5), .int (nI (z 6)), .int (nI (z 7)), .int (nI (z 8)), .int (nI (z 9)), .int (nI (z 10)), .int nb, .int (nI (z 12)), .int wa, .long wd, .ref (q 15), .ref (q 16), .ref (q 17), .ref (q 18), .int (nI (z 19)), .int (nI (z 20)), .ref (q 21), .long (lN ev), .ref (q 23), .ref (q 24), .int (nI (z 25)), .ref (q 26), .int al, .long wl, .int (nI (z 29))], ob g 7 [.int (nI (cy 0)), .int (nI (cy 1)), .int (nI (cy 2)), .int (nI (cy 3)), .int (nI (cy 4)), .int (nI (cy 5)), .int (nI (cy 6)), .int (nI (cy 7)), .int (nI kp), .int (nI nc), .ref (cb 0), .ref (cb 1), .ref (cb 2), .ref (cb 3), .ref (cb 4), .ref (cb 5), .ref (cb 6), .ref (cb 7), .ref (cb 8), .ref (cb 9), .ref (cb 10), .ref (cb 11)], aN E (cb 0) 8 mc, aN E (cb 1) 8 ik, aI E (q 16) 25 xf] (wrV [ob k 8 [.int (nI th), .int (nI tr), .int wh, .ref g, va_rf rr, .ref (q 5), .int (nI (z 6)), .int (nI (z 7)), .int (nI (z 8)), .int (nI (z 9)), .int (nI (z 10)), .int nb, .int (nI (z 12)), .int wa, .long wd, .ref (q 15), .ref (q 16), .ref (q 17), .ref (q 18), .int (nI (z 19)), .int (nI (z 20)), .ref (q 21), .long (lN ev), .ref (q 23), .ref (q 24), .int (nI (z 25)), .ref (q 26), .int al, .long wl, .int (nI (z 29))], ob g 7 [.int (nI (cy 0)), .int (nI (cy 1)), .int (nI (cy 2)), .int (nI (cy 3)), .int (nI (cy 4)), .int (nI (cy 5)), .int (nI (cy 6)), .int (nI (cy 7)), .int (nI kp), .int (nI nc), .ref (cb 0), .ref (cb 1), .ref (cb 2), .ref (cb 3), .ref (cb 4), .ref (cb 5), .ref (cb 6), .ref (cb 7), .ref (cb 8), .ref (cb 9), .ref (cb 10), .ref (cb 11)], aN E (cb 0) 8 mc, aN E (cb 1) 8 ik, aI E (q 16) 25 (xF (stF (cy 0) mc ik (cy 5)).2 (stF (cy 0) mc ik (cy 5)).1 0 0)]) := by
  refine Ct.intro (by decide +kernel) (Nat.le_of_ble_eq_true rfl) (lv := [(0, .ref k)]) rfl ?_
  intro Z X Y
  refine v_iconst X dX8_asTold_0 (v := nI 0) (by decide) ?_
  refine v_istore_n X dX8_asTold_1 rfl (by decide) (lv' := [(1, .int (nI 0)), (0, .ref k)]) rfl ?_
  have L2 : ∀ (j2 : Nat) (vk : Nat) (vg : Nat → Int32), (vk ≤ 25 ∧ ∀ j, j < vk → vg j = xF (fun _ => (-1)) (fun _ => 0) 0 0 j) → 25 - vk < j2 → V E Z 2 [(0, .ref k), (1, .int (nI vk))] [] [ob k 8 [.int (nI th), .int (nI tr), .int wh, .ref g, va_rf rr, .ref (q 5), .int (nI (z 6)), .int (nI (z 7)), .int (nI (z 8)), .int (nI (z 9)), .int (nI (z 10)), .int nb, .int (nI (z 12)), .int wa, .long wd, .ref (q 15), .ref (q 16), .ref (q 17), .ref (q 18), .int (nI (z 19)), .int (nI (z 20)), .ref (q 21), .long (lN ev), .ref (q 23), .ref (q 24), .int (nI (z 25)), .ref (q 26), .int al, .long wl, .int (nI (z 29))], ob g 7 [.int (nI (cy 0)), .int (nI (cy 1)), .int (nI (cy 2)), .int (nI (cy 3)), .int (nI (cy 4)), .int (nI (cy 5)), .int (nI (cy 6)), .int (nI (cy 7)), .int (nI kp), .int (nI nc), .ref (cb 0), .ref (cb 1), .ref (cb 2), .ref (cb 3), .ref (cb 4), .ref (cb 5), .ref (cb 6), .ref (cb 7), .ref (cb 8), .ref (cb 9), .ref (cb 10), .ref (cb 11)], aN E (cb 0) 8 mc, aN E (cb 1) 8 ik, aI E (q 16) 25 vg] 0 0 := by
    intro j2
    induction j2 with
    | zero => intro vk vg hI hM; exact absurd hM (Nat.not_lt_zero _)
    | succ j2 ih2 =>
      intro vk vg hI2 hM2
      obtain ⟨hck, hg⟩ := id hI2
      refine v_iload_n X dX8_asTold_2 rfl 1 rfl ?_
      refine v_bipush X dX8_asTold_3 (v := nI 25) (by decide) ?_
      refine v_icmpN_ge X dX8_asTold_5 (tgt := 31) (by decide) (by omega) (by decide) (fun h5 => ?_) (fun h5 => ?_)
      · refine V.arI 4 rfl (g' := xF (fun _ => (-1)) (fun _ => 0) 0 0) (fun j hj => hg j (by omega)) (ws' := [ob k 8 [.int (nI th), .int (nI tr), .int wh, .ref g, va_rf rr, .ref (q 5), .int (nI (z 6)), .int (nI (z 7)), .int (nI (z 8)), .int (nI (z 9)), .int (nI (z 10)), .int nb, .int (nI (z 12)), .int wa, .long wd, .ref (q 15), .ref (q 16), .ref (q 17), .ref (q 18), .int (nI (z 19)), .int (nI (z 20)), .ref (q 21), .long (lN ev), .ref (q 23), .ref (q 24), .int (nI (z 25)), .ref (q 26), .int al, .long wl, .int (nI (z 29))], ob g 7 [.int (nI (cy 0)), .int (nI (cy 1)), .int (nI (cy 2)), .int (nI (cy 3)), .int (nI (cy 4)), .int (nI (cy 5)), .int (nI (cy 6)), .int (nI (cy 7)), .int (nI kp), .int (nI nc), .ref (cb 0), .ref (cb 1), .ref (cb 2), .ref (cb 3), .ref (cb 4), .ref (cb 5), .ref (cb 6), .ref (cb 7), .ref (cb 8), .ref (cb 9), .ref (cb 10), .ref (cb 11)], aN E (cb 0) 8 mc, aN E (cb 1) 8 ik, aI E (q 16) 25 (xF (fun _ => (-1)) (fun _ => 0) 0 0)]) rfl ?_
        refine v_iconst X dX8_asTold_31 (v := nI 0) (by decide) ?_
        refine v_istore_n X dX8_asTold_32 rfl (by decide) (lv' := [(1, .int (nI 0)), (0, .ref k)]) rfl ?_
        have L33 : ∀ (j33 : Nat) (vc : Nat), (vc ≤ cy 5) → cy 5 - vc < j33 → V E Z 33 [(0, .ref k), (1, .int (nI vc))] [] [ob k 8 [.int (nI th), .int (nI tr), .int wh, .ref g, va_rf rr, .ref (q 5), .int (nI (z 6)), .int (nI (z 7)), .int (nI (z 8)), .int (nI (z 9)), .int (nI (z 10)), .int nb, .int (nI (z 12)), .int wa, .long wd, .ref (q 15), .ref (q 16), .ref (q 17), .ref (q 18), .int (nI (z 19)), .int (nI (z 20)), .ref (q 21), .long (lN ev), .ref (q 23), .ref (q 24), .int (nI (z 25)), .ref (q 26), .int al, .long wl, .int (nI (z 29))], ob g 7 [.int (nI (cy 0)), .int (nI (cy 1)), .int (nI (cy 2)), .int (nI (cy 3)), .int (nI (cy 4)), .int (nI (cy 5)), .int (nI (cy 6)), .int (nI (cy 7)), .int (nI kp), .int (nI nc), .ref (cb 0), .ref (cb 1), .ref (cb 2), .ref (cb 3), .ref (cb 4), .ref (cb 5), .ref (cb 6), .ref (cb 7), .ref (cb 8), .ref (cb 9), .ref (cb 10), .ref (cb 11)], aN E (cb 0) 8 mc, aN E (cb 1) 8 ik, aI E (q 16) 25 (xF (stF (cy 0) mc ik vc).2 (stF (cy 0) mc ik vc).1 0 0)] 0 0 := by
          intro j33
          induction j33 with
          | zero => intro vc hI hM; exact absurd hM (Nat.not_lt_zero _)
          | succ j33 ih33 =>
            intro vc hI33 hM33
            obtain hcv := id hI33
            refine v_iload_n X dX8_asTold_33 rfl 1 rfl ?_
            refine v_aload_n X dX8_asTold_34 rfl 0 rfl ?_
            refine v_get X kcX8 fl_X8_306 dX8_asTold_35 0 rfl rfl ?_
            refine v_getN X kcX7 fl_X8_240 dX8_asTold_38 1 rfl rfl ?_
            refine v_icmpN_ge X dX8_asTold_41 (tgt := 64) (by decide) (by omega) (by omega) (fun h41 => ?_) (fun h41 => ?_)
            · obtain rfl : vc = cy 5 := by omega
              exact v_vret X Y dX8_asTold_64 (wrV_of rfl) (by omega) (by omega)
            · have hvi : ∀ c, (stF (cy 0) mc ik vc).1 c ≤ 40 := stF_leC (n := cy 5) hik vc (by omega)
              have hvz : ∀ c, vc ≤ c → (stF (cy 0) mc ik vc).1 c = 0 := stF_z vc
              refine v_aload_n X dX8_asTold_44 rfl 0 rfl ?_
              refine v_iload_n X dX8_asTold_45 rfl 1 rfl ?_
              refine v_aload_n X dX8_asTold_46 rfl 0 rfl ?_
              refine v_get X kcX8 fl_X8_306 dX8_asTold_47 0 rfl rfl ?_
              refine v_getN X kcX7 fl_X8_253 dX8_asTold_50 1 rfl rfl ?_
              refine v_iload_n X dX8_asTold_53 rfl 1 rfl ?_
              refine v_iald X dX8_asTold_54 2 rfl (by omega) (by decide) ?_
              refine v_wrV1 X (rn_V X k_X8_presses ml_X8_317 dX8_asTold_55 (c_X8_presses l E k th tr wh g rr q z nb wa wd ev al wl cy kp nc cb ik ((stF (cy 0) mc ik vc).2) ((stF (cy 0) mc ik vc).1) 0 0 vc (nI (mc vc)) (by first | assumption | omega) (hvi) (fun c hc9 => hvz c (by omega)) (by first | assumption | omega) (by first | assumption | omega)) rfl 0 rfl rfl (by decide) (by decide) (by omega) (by omega) (Nat.le_of_ble_eq_true rfl)) [0, 1, 3, 4] rfl rfl (ws' := [ob k 8 [.int (nI th), .int (nI tr), .int wh, .ref g, va_rf rr, .ref (q 5), .int (nI (z 6)), .int (nI (z 7)), .int (nI (z 8)), .int (nI (z 9)), .int (nI (z 10)), .int nb, .int (nI (z 12)), .int wa, .long wd, .ref (q 15), .ref (q 16), .ref (q 17), .ref (q 18), .int (nI (z 19)), .int (nI (z 20)), .ref (q 21), .long (lN ev), .ref (q 23), .ref (q 24), .int (nI (z 25)), .ref (q 26), .int al, .long wl, .int (nI (z 29))], ob g 7 [.int (nI (cy 0)), .int (nI (cy 1)), .int (nI (cy 2)), .int (nI (cy 3)), .int (nI (cy 4)), .int (nI (cy 5)), .int (nI (cy 6)), .int (nI (cy 7)), .int (nI kp), .int (nI nc), .ref (cb 0), .ref (cb 1), .ref (cb 2), .ref (cb 3), .ref (cb 4), .ref (cb 5), .ref (cb 6), .ref (cb 7), .ref (cb 8), .ref (cb 9), .ref (cb 10), .ref (cb 11)], aN E (cb 0) 8 mc, aN E (cb 1) 8 ik, aI E (q 16) 25 (xF (upd ((stF (cy 0) mc ik vc).2) vc (nI (mc vc))) (upN (blurN ((stF (cy 0) mc ik vc).1) ((stF (cy 0) mc ik vc).2) vc (nI (mc vc)) (cy 0)) vc (ik vc)) 0 0)]) rfl rfl ?_
              refine v_iinc X dX8_asTold_58 1 rfl (v := nI (vc + 1)) (nI_inc vc) (by decide) (lv' := [(1, .int (nI (vc + 1))), (0, .ref k)]) rfl ?_
              refine v_goto X dX8_asTold_61 (tgt := 33) (by decide) ?_
              refine V.lvs [1, 0] rfl ?_
              exact ih33 (vc + 1) (by omega) (by omega)
        refine V.lvs [1, 0] rfl ?_
        exact L33 _ 0 (by omega) (Nat.lt_succ_self _)
      · refine v_aload_n X dX8_asTold_8 rfl 0 rfl ?_
        refine v_get X kcX8 fl_X8_21 dX8_asTold_9 0 rfl rfl ?_
        refine v_iload_n X dX8_asTold_12 rfl 1 rfl ?_
        refine v_iload_n X dX8_asTold_13 rfl 1 rfl ?_
        refine v_bipush X dX8_asTold_14 (v := nI 8) (by decide) ?_
        refine v_icmpN_ge X dX8_asTold_16 (tgt := 23) (by decide) (by omega) (by decide) (fun h16 => ?_) (fun h16 => ?_)
        · refine v_iconst X dX8_asTold_23 (v := nI 0) (by decide) ?_
          refine v_iast X dX8_asTold_24 4 rfl (by omega) (by decide) (ws' := [ob k 8 [.int (nI th), .int (nI tr), .int wh, .ref g, va_rf rr, .ref (q 5), .int (nI (z 6)), .int (nI (z 7)), .int (nI (z 8)), .int (nI (z 9)), .int (nI (z 10)), .int nb, .int (nI (z 12)), .int wa, .long wd, .ref (q 15), .ref (q 16), .ref (q 17), .ref (q 18), .int (nI (z 19)), .int (nI (z 20)), .ref (q 21), .long (lN ev), .ref (q 23), .ref (q 24), .int (nI (z 25)), .ref (q 26), .int al, .long wl, .int (nI (z 29))], ob g 7 [.int (nI (cy 0)), .int (nI (cy 1)), .int (nI (cy 2)), .int (nI (cy 3)), .int (nI (cy 4)), .int (nI (cy 5)), .int (nI (cy 6)), .int (nI (cy 7)), .int (nI kp), .int (nI nc), .ref (cb 0), .ref (cb 1), .ref (cb 2), .ref (cb 3), .ref (cb 4), .ref (cb 5), .ref (cb 6), .ref (cb 7), .ref (cb 8), .ref (cb 9), .ref (cb 10), .ref (cb 11)], aN E (cb 0) 8 mc, aN E (cb 1) 8 ik, aI E (q 16) 25 (upd vg vk (nI 0))]) rfl ?_
          refine v_iinc X dX8_asTold_25 1 rfl (v := nI (vk + 1)) (nI_inc vk) (by decide) (lv' := [(1, .int (nI (vk + 1))), (0, .ref k)]) rfl ?_
          refine v_goto X dX8_asTold_28 (tgt := 2) (by decide) ?_
          refine V.lvs [1, 0] rfl ?_
          exact ih2 (vk + 1) (upd vg vk (nI 0)) (⟨by omega, fillI hg (x0_ge h16).symm⟩) (by omega)
        · refine v_iconst X dX8_asTold_19 (v := (-1)) (by decide) ?_
          refine v_goto X dX8_asTold_20 (tgt := 24) (by decide) ?_
          refine v_iast X dX8_asTold_24 4 rfl (by omega) (by decide) (ws' := [ob k 8 [.int (nI th), .int (nI tr), .int wh, .ref g, va_rf rr, .ref (q 5), .int (nI (z 6)), .int (nI (z 7)), .int (nI (z 8)), .int (nI (z 9)), .int (nI (z 10)), .int nb, .int (nI (z 12)), .int wa, .long wd, .ref (q 15), .ref (q 16), .ref (q 17), .ref (q 18), .int (nI (z 19)), .int (nI (z 20)), .ref (q 21), .long (lN ev), .ref (q 23), .ref (q 24), .int (nI (z 25)), .ref (q 26), .int al, .long wl, .int (nI (z 29))], ob g 7 [.int (nI (cy 0)), .int (nI (cy 1)), .int (nI (cy 2)), .int (nI (cy 3)), .int (nI (cy 4)), .int (nI (cy 5)), .int (nI (cy 6)), .int (nI (cy 7)), .int (nI kp), .int (nI nc), .ref (cb 0), .ref (cb 1), .ref (cb 2), .ref (cb 3), .ref (cb 4), .ref (cb 5), .ref (cb 6), .ref (cb 7), .ref (cb 8), .ref (cb 9), .ref (cb 10), .ref (cb 11)], aN E (cb 0) 8 mc, aN E (cb 1) 8 ik, aI E (q 16) 25 (upd vg vk (-1))]) rfl ?_
          refine v_iinc X dX8_asTold_25 1 rfl (v := nI (vk + 1)) (nI_inc vk) (by decide) (lv' := [(1, .int (nI (vk + 1))), (0, .ref k)]) rfl ?_
          refine v_goto X dX8_asTold_28 (tgt := 2) (by decide) ?_
          refine V.lvs [1, 0] rfl ?_
          exact ih2 (vk + 1) (upd vg vk (-1)) (⟨by omega, fillI hg (xF_m (mn := fun _ => (-1)) (c := vk) (by omega)).symm⟩) (by omega)
  refine V.lvs [1, 0] rfl ?_
  exact L2 _ 0 xf (⟨by omega, fun j hj => absurd hj (Nat.not_lt_zero j)⟩) (Nat.lt_succ_self _)
