set_option maxRecDepth 100000 in
set_option maxHeartbeats 4000000 in
theorem c_X8_freeing_few (l : Launch) (E : Et) (k : Nat) (th : Nat) (tr : Nat) (wh : Int32) (g : Nat) (rr : Option Nat) (q : Nat → Nat) (z : Nat → Nat) (nb : Int32) (wa : Int32) (wd : Int64) (al : Int32) (wl : Int64) (cy : Nat → Nat) (kp : Nat) (nc : Nat) (cb : Nat → Nat) (mn : Nat → Int32) (ink : Nat → Nat) (t : Nat) (dd : Nat) (Fs : Nat → Nat) (Ft : Nat → Nat) (kf : Nat → Nat) (m : Int32) (hd : cy 4 ≤ 6) (hcl : cy 5 ≤ 8) (hink : ∀ c, ink c ≤ 40) (hz : ∀ c, cy 5 ≤ c → ink c = 0) : Ct l E yX8_freeing cX8_freeing 6 (some .int) 3 0 0 [.ref k, .int m, .int (nI 1)] [ob k 8 [.int (nI th), .int (nI tr), .int wh, .ref g, va_rf rr, .ref (q 5), .int (nI (z 6)), .int (nI (z 7)), .int (nI (z 8)), .int (nI (z 9)), .int (nI (z 10)), .int nb, .int (nI (z 12)), .int wa, .long wd, .ref (q 15), .ref (q 16), .ref (q 17), .ref (q 18), .int (nI (z 19)), .int (nI (z 20)), .ref (q 21), .long (lN (allS (cy 4))), .ref (q 23), .ref (q 24), .int (nI (z 25)), .ref (q 26), .int al, .long wl, .int (nI (z 29))], ob g 7 [.int (nI (cy 0)), .int (nI (cy 1)), .int (nI (cy 2)), .int (nI (cy 3)), .int (nI (cy 4)), .int (nI (cy 5)), .int (nI (cy 6)), .int (nI (cy 7)), .int (nI kp), .int (nI nc), .ref (cb 0), .ref (cb 1), .ref (cb 2), .ref (cb 3), .ref (cb 4), .ref (cb 5), .ref (cb 6), .ref (cb 7), .ref (cb 8), .ref (cb 9), .ref (cb 10), .ref (cb 11)], aI E (q 16) 25 (xF mn ink t dd), aM E (q 21) 8 (lyF Fs Ft t (cy 4) kf (cy 5))] (roI [ob k 8 [.int (nI th), .int (nI tr), .int wh, .ref g, va_rf rr, .ref (q 5), .int (nI (z 6)), .int (nI (z 7)), .int (nI (z 8)), .int (nI (z 9)), .int (nI (z 10)), .int nb, .int (nI (z 12)), .int wa, .long wd, .ref (q 15), .ref (q 16), .ref (q 17), .ref (q 18), .int (nI (z 19)), .int (nI (z 20)), .ref (q 21), .long (lN (allS (cy 4))), .ref (q 23), .ref (q 24), .int (nI (z 25)), .ref (q 26), .int al, .long wl, .int (nI (z 29))], ob g 7 [.int (nI (cy 0)), .int (nI (cy 1)), .int (nI (cy 2)), .int (nI (cy 3)), .int (nI (cy 4)), .int (nI (cy 5)), .int (nI (cy 6)), .int (nI (cy 7)), .int (nI kp), .int (nI nc), .ref (cb 0), .ref (cb 1), .ref (cb 2), .ref (cb 3), .ref (cb 4), .ref (cb 5), .ref (cb 6), .ref (cb 7), .ref (cb 8), .ref (cb 9), .ref (cb 10), .ref (cb 11)], aI E (q 16) 25 (xF mn ink t dd), aM E (q 21) 8 (lyF Fs Ft t (cy 4) kf (cy 5))] (nI (bestF (fun p => decide (ndf p (bdN ink mn m 0) = 0 ∧ ¬ kpN cy Fs Ft t (ndf (bdN ink mn m 0) p) = 0)) pop8 (bdN ink mn m 0) (bdN ink mn m 0 + 1)))) := by
  refine Ct.intro (by decide +kernel) (Nat.le_of_ble_eq_true rfl) (lv := [(0, .ref k), (1, .int m), (2, .int (nI 1))]) rfl ?_
  intro Z X Y
  have hb256 : bdN ink mn m 0 < 256 := bdN_lt _ _ _ _
  refine v_aload_n X dX8_freeing_0 rfl 0 rfl ?_
  refine v_iload_n X dX8_freeing_1 rfl 1 rfl ?_
  refine v_roI1 X (rn_V X k_X8_binding ml_X8_332 dX8_freeing_2 (c_X8_bindingB l E k th tr wh g rr q z nb wa wd (allS (cy 4)) al wl cy kp nc cb mn ink t dd m (by first | assumption | omega) (by first | assumption | omega) (by first | assumption | omega)) rfl 0 rfl rfl (by decide) (by decide) (by omega) (by omega) (Nat.le_of_ble_eq_true rfl)) [0, 1, 2] rfl rfl ?_
  refine v_istore_n X dX8_freeing_5 rfl (by decide) (lv' := [(3, .int (nI (bdN ink mn m 0))), (0, .ref k), (1, .int m), (2, .int (nI 1))]) rfl ?_
  refine v_iload_n X dX8_freeing_6 rfl 0 rfl ?_
  refine v_istore X dX8_freeing_7 (by decide) (lv' := [(4, .int (nI (bdN ink mn m 0))), (3, .int (nI (bdN ink mn m 0))), (0, .ref k), (1, .int m), (2, .int (nI 1))]) rfl ?_
  refine v_iconst X dX8_freeing_9 (v := nI 0) (by decide) ?_
  refine v_istore X dX8_freeing_10 (by decide) (lv' := [(5, .int (nI 0)), (4, .int (nI (bdN ink mn m 0))), (3, .int (nI (bdN ink mn m 0))), (0, .ref k), (1, .int m), (2, .int (nI 1))]) rfl ?_
  have L12 : ∀ (j12 : Nat) (vp : Nat) (vb : Nat), (vp ≤ bdN ink mn m 0 + 1 ∧ vb = bestF (fun p => decide (ndf p (bdN ink mn m 0) = 0 ∧ ¬ kpN cy Fs Ft t (ndf (bdN ink mn m 0) p) = 0)) pop8 (bdN ink mn m 0) vp) → bdN ink mn m 0 + 1 - vp < j12 → V E Z 12 [(0, .ref k), (1, .int m), (2, .int (nI 1)), (3, .int (nI (bdN ink mn m 0))), (4, .int (nI vb)), (5, .int (nI vp))] [] [ob k 8 [.int (nI th), .int (nI tr), .int wh, .ref g, va_rf rr, .ref (q 5), .int (nI (z 6)), .int (nI (z 7)), .int (nI (z 8)), .int (nI (z 9)), .int (nI (z 10)), .int nb, .int (nI (z 12)), .int wa, .long wd, .ref (q 15), .ref (q 16), .ref (q 17), .ref (q 18), .int (nI (z 19)), .int (nI (z 20)), .ref (q 21), .long (lN (allS (cy 4))), .ref (q 23), .ref (q 24), .int (nI (z 25)), .ref (q 26), .int al, .long wl, .int (nI (z 29))], ob g 7 [.int (nI (cy 0)), .int (nI (cy 1)), .int (nI (cy 2)), .int (nI (cy 3)), .int (nI (cy 4)), .int (nI (cy 5)), .int (nI (cy 6)), .int (nI (cy 7)), .int (nI kp), .int (nI nc), .ref (cb 0), .ref (cb 1), .ref (cb 2), .ref (cb 3), .ref (cb 4), .ref (cb 5), .ref (cb 6), .ref (cb 7), .ref (cb 8), .ref (cb 9), .ref (cb 10), .ref (cb 11)], aI E (q 16) 25 (xF mn ink t dd), aM E (q 21) 8 (lyF Fs Ft t (cy 4) kf (cy 5))] 0 0 := by
    intro j12
    induction j12 with
    | zero => intro vp vb hI hM; exact absurd hM (Nat.not_lt_zero _)
    | succ j12 ih12 =>
      intro vp vb hI12 hM12
      obtain ⟨hc, hb⟩ := id hI12
      refine v_iload X dX8_freeing_12 5 rfl ?_
      refine v_iload_n X dX8_freeing_14 rfl 3 rfl ?_
      refine v_icmpN_gt X dX8_freeing_15 (tgt := 90) (by decide) (by omega) (by omega) (fun h15 => ?_) (fun h15 => ?_)
      · refine v_iload X dX8_freeing_90 4 rfl ?_
        exact v_iret X Y dX8_freeing_92 (roI_of (by (obtain rfl : vp = bdN ink mn m 0 + 1 := (by omega)); rw [hb])) (by omega) (by omega)
      · have hvb : vb ≤ bdN ink mn m 0 := by rw [hb]; exact bestF_le hc
        refine v_iload X dX8_freeing_18 5 rfl ?_
        refine v_iload_n X dX8_freeing_20 rfl 3 rfl ?_
        refine v_iconst X dX8_freeing_21 (v := (-1)) (by decide) ?_
        refine v_ixor X dX8_freeing_22 ?_
        refine v_iand X dX8_freeing_23 ?_
        refine v_eqi (x' := nI (ndf vp (bdN ink mn m 0))) (nI_andn _ _) ?_
        refine v_ifN_ne X dX8_freeing_24 (tgt := 84) (by decide) (Nat.lt_trans (ndf_lt (n := 9) _ (by omega)) (by decide)) (fun h24 => ?_) (fun h24 => ?_)
        · refine v_iinc X dX8_freeing_84 5 rfl (v := nI (vp + 1)) (nI_inc vp) (by decide) (lv' := [(5, .int (nI (vp + 1))), (0, .ref k), (1, .int m), (2, .int (nI 1)), (3, .int (nI (bdN ink mn m 0))), (4, .int (nI vb))]) rfl ?_
          refine v_goto X dX8_freeing_87 (tgt := 12) (by decide) ?_
          refine V.lvs [1, 2, 3, 4, 5, 0] rfl ?_
          exact ih12 (vp + 1) vb (⟨by omega, by rw [hb]; exact (bestF_no (Or.inl (decide_eq_false (fun q => h24 q.1)))).symm⟩) (by omega)
        · refine v_aload_n X dX8_freeing_27 rfl 0 rfl ?_
          refine v_iload_n X dX8_freeing_28 rfl 3 rfl ?_
          refine v_iload X dX8_freeing_29 5 rfl ?_
          refine v_iconst X dX8_freeing_31 (v := (-1)) (by decide) ?_
          refine v_ixor X dX8_freeing_32 ?_
          refine v_iand X dX8_freeing_33 ?_
          refine v_eqi (x' := nI (ndf (bdN ink mn m 0) vp)) (nI_andn _ _) ?_
          refine v_roL1 X (rn_V X k_X8_keepAll ml_X8_335 dX8_freeing_34 (c_X8_keepAllL l E k th tr wh g rr q z nb wa wd al wl cy kp nc cb Fs Ft kf t (ndf (bdN ink mn m 0) vp) (by first | assumption | omega) (Nat.lt_trans (ndf_lt (n := 8) _ hb256) (by decide))) rfl 0 rfl rfl (by decide) (by decide) (by omega) (by omega) (Nat.le_of_ble_eq_true rfl)) [0, 1, 3] rfl rfl ?_
          refine v_lconst X dX8_freeing_37 (v := lN 0) (by decide) ?_
          refine v_lcmp X dX8_freeing_38 ?_
          refine v_ifLN_ne X dX8_freeing_39 (tgt := 45) (by decide) (kpN_lt hd _ _ _ _) (by decide) (fun h39 => ?_) (fun h39 => ?_)
          · refine v_iload_n X dX8_freeing_45 rfl 2 rfl ?_
            refine v_ifN_eq X dX8_freeing_46 (tgt := 65) (by decide) (by decide) (fun h46 => ?_) (fun h46 => ?_)
            · exfalso; omega
            · refine v_iload X dX8_freeing_49 5 rfl ?_
              refine v_roI1 X (rn_S X k_X8_bits ml_X8_368 dX8_freeing_51 (c_X8_bits l E vp (by omega)) rfl (by decide) (by decide) (by omega) (by omega) (Nat.le_of_ble_eq_true rfl)) [] rfl rfl ?_
              refine v_iload X dX8_freeing_54 4 rfl ?_
              refine v_roI1 X (rn_S X k_X8_bits ml_X8_368 dX8_freeing_56 (c_X8_bits l E vb (by omega)) rfl (by decide) (by decide) (by omega) (by omega) (Nat.le_of_ble_eq_true rfl)) [] rfl rfl ?_
              refine v_icmpN_ge X dX8_freeing_59 (tgt := 84) (by decide) (Nat.lt_of_le_of_lt (cnt_le _ _) (by decide)) (Nat.lt_of_le_of_lt (cnt_le _ _) (by decide)) (fun h59 => ?_) (fun h59 => ?_)
              · refine v_iinc X dX8_freeing_84 5 rfl (v := nI (vp + 1)) (nI_inc vp) (by decide) (lv' := [(5, .int (nI (vp + 1))), (0, .ref k), (1, .int m), (2, .int (nI 1)), (3, .int (nI (bdN ink mn m 0))), (4, .int (nI vb))]) rfl ?_
                refine v_goto X dX8_freeing_87 (tgt := 12) (by decide) ?_
                refine V.lvs [1, 2, 3, 4, 5, 0] rfl ?_
                exact ih12 (vp + 1) vb (⟨by omega, by subst hb; exact (bestF_no (Or.inr (Nat.not_lt.mpr h59))).symm⟩) (by omega)
              · refine v_goto X dX8_freeing_62 (tgt := 80) (by decide) ?_
                refine v_iload X dX8_freeing_80 5 rfl ?_
                refine v_istore X dX8_freeing_82 (by decide) (lv' := [(4, .int (nI vp)), (0, .ref k), (1, .int m), (2, .int (nI 1)), (3, .int (nI (bdN ink mn m 0))), (5, .int (nI vp))]) rfl ?_
                refine v_iinc X dX8_freeing_84 5 rfl (v := nI (vp + 1)) (nI_inc vp) (by decide) (lv' := [(5, .int (nI (vp + 1))), (4, .int (nI vp)), (0, .ref k), (1, .int m), (2, .int (nI 1)), (3, .int (nI (bdN ink mn m 0)))]) rfl ?_
                refine v_goto X dX8_freeing_87 (tgt := 12) (by decide) ?_
                refine V.lvs [2, 3, 4, 5, 1, 0] rfl ?_
                exact ih12 (vp + 1) vp (⟨by omega, by subst hb; exact (bestF_yes (decide_eq_true ⟨h24, h39⟩) (Nat.not_le.mp h59)).symm⟩) (by omega)
          · refine v_goto X dX8_freeing_42 (tgt := 84) (by decide) ?_
            refine v_iinc X dX8_freeing_84 5 rfl (v := nI (vp + 1)) (nI_inc vp) (by decide) (lv' := [(5, .int (nI (vp + 1))), (0, .ref k), (1, .int m), (2, .int (nI 1)), (3, .int (nI (bdN ink mn m 0))), (4, .int (nI vb))]) rfl ?_
            refine v_goto X dX8_freeing_87 (tgt := 12) (by decide) ?_
            refine V.lvs [1, 2, 3, 4, 5, 0] rfl ?_
            exact ih12 (vp + 1) vb (⟨by omega, by rw [hb]; exact (bestF_no (Or.inl (decide_eq_false (fun q => q.2 h39)))).symm⟩) (by omega)
  refine V.lvs [3, 4, 5, 2, 1, 0] rfl ?_
  exact L12 _ 0 (bdN ink mn m 0) (⟨by omega, rfl⟩) (Nat.lt_succ_self _)
set_option maxRecDepth 100000 in
set_option maxHeartbeats 4000000 in
theorem c_X8_freeing_ink (l : Launch) (E : Et) (k : Nat) (th : Nat) (tr : Nat) (wh : Int32) (g : Nat) (rr : Option Nat) (q : Nat → Nat) (z : Nat → Nat) (nb : Int32) (wa : Int32) (wd : Int64) (al : Int32) (wl : Int64) (cy : Nat → Nat) (kp : Nat) (nc : Nat) (cb : Nat → Nat) (mn : Nat → Int32) (ink : Nat → Nat) (t : Nat) (dd : Nat) (Fs : Nat → Nat) (Ft : Nat → Nat) (kf : Nat → Nat) (m : Int32) (hd : cy 4 ≤ 6) (hcl : cy 5 ≤ 8) (hink : ∀ c, ink c ≤ 40) (hz : ∀ c, cy 5 ≤ c → ink c = 0) : Ct l E yX8_freeing cX8_freeing 6 (some .int) 3 0 0 [.ref k, .int m, .int (nI 0)] [ob k 8 [.int (nI th), .int (nI tr), .int wh, .ref g, va_rf rr, .ref (q 5), .int (nI (z 6)), .int (nI (z 7)), .int (nI (z 8)), .int (nI (z 9)), .int (nI (z 10)), .int nb, .int (nI (z 12)), .int wa, .long wd, .ref (q 15), .ref (q 16), .ref (q 17), .ref (q 18), .int (nI (z 19)), .int (nI (z 20)), .ref (q 21), .long (lN (allS (cy 4))), .ref (q 23), .ref (q 24), .int (nI (z 25)), .ref (q 26), .int al, .long wl, .int (nI (z 29))], ob g 7 [.int (nI (cy 0)), .int (nI (cy 1)), .int (nI (cy 2)), .int (nI (cy 3)), .int (nI (cy 4)), .int (nI (cy 5)), .int (nI (cy 6)), .int (nI (cy 7)), .int (nI kp), .int (nI nc), .ref (cb 0), .ref (cb 1), .ref (cb 2), .ref (cb 3), .ref (cb 4), .ref (cb 5), .ref (cb 6), .ref (cb 7), .ref (cb 8), .ref (cb 9), .ref (cb 10), .ref (cb 11)], aI E (q 16) 25 (xF mn ink t dd), aM E (q 21) 8 (lyF Fs Ft t (cy 4) kf (cy 5))] (roI [ob k 8 [.int (nI th), .int (nI tr), .int wh, .ref g, va_rf rr, .ref (q 5), .int (nI (z 6)), .int (nI (z 7)), .int (nI (z 8)), .int (nI (z 9)), .int (nI (z 10)), .int nb, .int (nI (z 12)), .int wa, .long wd, .ref (q 15), .ref (q 16), .ref (q 17), .ref (q 18), .int (nI (z 19)), .int (nI (z 20)), .ref (q 21), .long (lN (allS (cy 4))), .ref (q 23), .ref (q 24), .int (nI (z 25)), .ref (q 26), .int al, .long wl, .int (nI (z 29))], ob g 7 [.int (nI (cy 0)), .int (nI (cy 1)), .int (nI (cy 2)), .int (nI (cy 3)), .int (nI (cy 4)), .int (nI (cy 5)), .int (nI (cy 6)), .int (nI (cy 7)), .int (nI kp), .int (nI nc), .ref (cb 0), .ref (cb 1), .ref (cb 2), .ref (cb 3), .ref (cb 4), .ref (cb 5), .ref (cb 6), .ref (cb 7), .ref (cb 8), .ref (cb 9), .ref (cb 10), .ref (cb 11)], aI E (q 16) 25 (xF mn ink t dd), aM E (q 21) 8 (lyF Fs Ft t (cy 4) kf (cy 5))] (nI (bestF (fun p => decide (ndf p (bdN ink mn m 0) = 0 ∧ ¬ kpN cy Fs Ft t (ndf (bdN ink mn m 0) p) = 0)) (inkS ink) (bdN ink mn m 0) (bdN ink mn m 0 + 1)))) := by
  refine Ct.intro (by decide +kernel) (Nat.le_of_ble_eq_true rfl) (lv := [(0, .ref k), (1, .int m), (2, .int (nI 0))]) rfl ?_
  intro Z X Y
  have hb256 : bdN ink mn m 0 < 256 := bdN_lt _ _ _ _
  refine v_aload_n X dX8_freeing_0 rfl 0 rfl ?_
  refine v_iload_n X dX8_freeing_1 rfl 1 rfl ?_
  refine v_roI1 X (rn_V X k_X8_binding ml_X8_332 dX8_freeing_2 (c_X8_bindingB l E k th tr wh g rr q z nb wa wd (allS (cy 4)) al wl cy kp nc cb mn ink t dd m (by first | assumption | omega) (by first | assumption | omega) (by first | assumption | omega)) rfl 0 rfl rfl (by decide) (by decide) (by omega) (by omega) (Nat.le_of_ble_eq_true rfl)) [0, 1, 2] rfl rfl ?_
  refine v_istore_n X dX8_freeing_5 rfl (by decide) (lv' := [(3, .int (nI (bdN ink mn m 0))), (0, .ref k), (1, .int m), (2, .int (nI 0))]) rfl ?_
  refine v_iload_n X dX8_freeing_6 rfl 0 rfl ?_
  refine v_istore X dX8_freeing_7 (by decide) (lv' := [(4, .int (nI (bdN ink mn m 0))), (3, .int (nI (bdN ink mn m 0))), (0, .ref k), (1, .int m), (2, .int (nI 0))]) rfl ?_
  refine v_iconst X dX8_freeing_9 (v := nI 0) (by decide) ?_
  refine v_istore X dX8_freeing_10 (by decide) (lv' := [(5, .int (nI 0)), (4, .int (nI (bdN ink mn m 0))), (3, .int (nI (bdN ink mn m 0))), (0, .ref k), (1, .int m), (2, .int (nI 0))]) rfl ?_
  have L12 : ∀ (j12 : Nat) (vp : Nat) (vb : Nat), (vp ≤ bdN ink mn m 0 + 1 ∧ vb = bestF (fun p => decide (ndf p (bdN ink mn m 0) = 0 ∧ ¬ kpN cy Fs Ft t (ndf (bdN ink mn m 0) p) = 0)) (inkS ink) (bdN ink mn m 0) vp) → bdN ink mn m 0 + 1 - vp < j12 → V E Z 12 [(0, .ref k), (1, .int m), (2, .int (nI 0)), (3, .int (nI (bdN ink mn m 0))), (4, .int (nI vb)), (5, .int (nI vp))] [] [ob k 8 [.int (nI th), .int (nI tr), .int wh, .ref g, va_rf rr, .ref (q 5), .int (nI (z 6)), .int (nI (z 7)), .int (nI (z 8)), .int (nI (z 9)), .int (nI (z 10)), .int nb, .int (nI (z 12)), .int wa, .long wd, .ref (q 15), .ref (q 16), .ref (q 17), .ref (q 18), .int (nI (z 19)), .int (nI (z 20)), .ref (q 21), .long (lN (allS (cy 4))), .ref (q 23), .ref (q 24), .int (nI (z 25)), .ref (q 26), .int al, .long wl, .int (nI (z 29))], ob g 7 [.int (nI (cy 0)), .int (nI (cy 1)), .int (nI (cy 2)), .int (nI (cy 3)), .int (nI (cy 4)), .int (nI (cy 5)), .int (nI (cy 6)), .int (nI (cy 7)), .int (nI kp), .int (nI nc), .ref (cb 0), .ref (cb 1), .ref (cb 2), .ref (cb 3), .ref (cb 4), .ref (cb 5), .ref (cb 6), .ref (cb 7), .ref (cb 8), .ref (cb 9), .ref (cb 10), .ref (cb 11)], aI E (q 16) 25 (xF mn ink t dd), aM E (q 21) 8 (lyF Fs Ft t (cy 4) kf (cy 5))] 0 0 := by
    intro j12
    induction j12 with
    | zero => intro vp vb hI hM; exact absurd hM (Nat.not_lt_zero _)
    | succ j12 ih12 =>
      intro vp vb hI12 hM12
      obtain ⟨hc, hb⟩ := id hI12
      refine v_iload X dX8_freeing_12 5 rfl ?_
      refine v_iload_n X dX8_freeing_14 rfl 3 rfl ?_
      refine v_icmpN_gt X dX8_freeing_15 (tgt := 90) (by decide) (by omega) (by omega) (fun h15 => ?_) (fun h15 => ?_)
      · refine v_iload X dX8_freeing_90 4 rfl ?_
        exact v_iret X Y dX8_freeing_92 (roI_of (by (obtain rfl : vp = bdN ink mn m 0 + 1 := (by omega)); rw [hb])) (by omega) (by omega)
      · have hvb : vb ≤ bdN ink mn m 0 := by rw [hb]; exact bestF_le hc
        refine v_iload X dX8_freeing_18 5 rfl ?_
        refine v_iload_n X dX8_freeing_20 rfl 3 rfl ?_
        refine v_iconst X dX8_freeing_21 (v := (-1)) (by decide) ?_
        refine v_ixor X dX8_freeing_22 ?_
        refine v_iand X dX8_freeing_23 ?_
        refine v_eqi (x' := nI (ndf vp (bdN ink mn m 0))) (nI_andn _ _) ?_
        refine v_ifN_ne X dX8_freeing_24 (tgt := 84) (by decide) (Nat.lt_trans (ndf_lt (n := 9) _ (by omega)) (by decide)) (fun h24 => ?_) (fun h24 => ?_)
        · refine v_iinc X dX8_freeing_84 5 rfl (v := nI (vp + 1)) (nI_inc vp) (by decide) (lv' := [(5, .int (nI (vp + 1))), (0, .ref k), (1, .int m), (2, .int (nI 0)), (3, .int (nI (bdN ink mn m 0))), (4, .int (nI vb))]) rfl ?_
          refine v_goto X dX8_freeing_87 (tgt := 12) (by decide) ?_
          refine V.lvs [1, 2, 3, 4, 5, 0] rfl ?_
          exact ih12 (vp + 1) vb (⟨by omega, by rw [hb]; exact (bestF_no (Or.inl (decide_eq_false (fun q => h24 q.1)))).symm⟩) (by omega)
        · refine v_aload_n X dX8_freeing_27 rfl 0 rfl ?_
          refine v_iload_n X dX8_freeing_28 rfl 3 rfl ?_
          refine v_iload X dX8_freeing_29 5 rfl ?_
          refine v_iconst X dX8_freeing_31 (v := (-1)) (by decide) ?_
          refine v_ixor X dX8_freeing_32 ?_
          refine v_iand X dX8_freeing_33 ?_
          refine v_eqi (x' := nI (ndf (bdN ink mn m 0) vp)) (nI_andn _ _) ?_
          refine v_roL1 X (rn_V X k_X8_keepAll ml_X8_335 dX8_freeing_34 (c_X8_keepAllL l E k th tr wh g rr q z nb wa wd al wl cy kp nc cb Fs Ft kf t (ndf (bdN ink mn m 0) vp) (by first | assumption | omega) (Nat.lt_trans (ndf_lt (n := 8) _ hb256) (by decide))) rfl 0 rfl rfl (by decide) (by decide) (by omega) (by omega) (Nat.le_of_ble_eq_true rfl)) [0, 1, 3] rfl rfl ?_
          refine v_lconst X dX8_freeing_37 (v := lN 0) (by decide) ?_
          refine v_lcmp X dX8_freeing_38 ?_
          refine v_ifLN_ne X dX8_freeing_39 (tgt := 45) (by decide) (kpN_lt hd _ _ _ _) (by decide) (fun h39 => ?_) (fun h39 => ?_)
          · refine v_iload_n X dX8_freeing_45 rfl 2 rfl ?_
            refine v_ifN_eq X dX8_freeing_46 (tgt := 65) (by decide) (by decide) (fun h46 => ?_) (fun h46 => ?_)
            · refine v_aload_n X dX8_freeing_65 rfl 0 rfl ?_
              refine v_iload X dX8_freeing_66 5 rfl ?_
              refine v_roI1 X (rn_V X k_X8_inkOf ml_X8_348 dX8_freeing_68 (c_X8_inkOfB l E k th tr wh g rr q z nb wa wd (allS (cy 4)) al wl cy kp nc cb mn ink t dd vp (by first | assumption | omega) (by omega) (by first | assumption | omega)) rfl 0 rfl rfl (by decide) (by decide) (by omega) (by omega) (Nat.le_of_ble_eq_true rfl)) [0, 1, 2] rfl rfl ?_
              refine v_aload_n X dX8_freeing_71 rfl 0 rfl ?_
              refine v_iload X dX8_freeing_72 4 rfl ?_
              refine v_roI1 X (rn_V X k_X8_inkOf ml_X8_348 dX8_freeing_74 (c_X8_inkOfB l E k th tr wh g rr q z nb wa wd (allS (cy 4)) al wl cy kp nc cb mn ink t dd vb (by first | assumption | omega) (by omega) (by first | assumption | omega)) rfl 0 rfl rfl (by decide) (by decide) (by omega) (by omega) (Nat.le_of_ble_eq_true rfl)) [0, 1, 2] rfl rfl ?_
              refine v_icmpN_ge X dX8_freeing_77 (tgt := 84) (by decide) (Nat.lt_of_le_of_lt (inkS_le hink _) (by decide)) (Nat.lt_of_le_of_lt (inkS_le hink _) (by decide)) (fun h77 => ?_) (fun h77 => ?_)
              · refine v_iinc X dX8_freeing_84 5 rfl (v := nI (vp + 1)) (nI_inc vp) (by decide) (lv' := [(5, .int (nI (vp + 1))), (0, .ref k), (1, .int m), (2, .int (nI 0)), (3, .int (nI (bdN ink mn m 0))), (4, .int (nI vb))]) rfl ?_
                refine v_goto X dX8_freeing_87 (tgt := 12) (by decide) ?_
                refine V.lvs [1, 2, 3, 4, 5, 0] rfl ?_
                exact ih12 (vp + 1) vb (⟨by omega, by subst hb; exact (bestF_no (Or.inr (Nat.not_lt.mpr h77))).symm⟩) (by omega)
              · refine v_iload X dX8_freeing_80 5 rfl ?_
                refine v_istore X dX8_freeing_82 (by decide) (lv' := [(4, .int (nI vp)), (0, .ref k), (1, .int m), (2, .int (nI 0)), (3, .int (nI (bdN ink mn m 0))), (5, .int (nI vp))]) rfl ?_
                refine v_iinc X dX8_freeing_84 5 rfl (v := nI (vp + 1)) (nI_inc vp) (by decide) (lv' := [(5, .int (nI (vp + 1))), (4, .int (nI vp)), (0, .ref k), (1, .int m), (2, .int (nI 0)), (3, .int (nI (bdN ink mn m 0)))]) rfl ?_
                refine v_goto X dX8_freeing_87 (tgt := 12) (by decide) ?_
                refine V.lvs [2, 3, 4, 5, 1, 0] rfl ?_
                exact ih12 (vp + 1) vp (⟨by omega, by subst hb; exact (bestF_yes (decide_eq_true ⟨h24, h39⟩) (Nat.not_le.mp h77)).symm⟩) (by omega)
            · exfalso; omega
          · refine v_goto X dX8_freeing_42 (tgt := 84) (by decide) ?_
            refine v_iinc X dX8_freeing_84 5 rfl (v := nI (vp + 1)) (nI_inc vp) (by decide) (lv' := [(5, .int (nI (vp + 1))), (0, .ref k), (1, .int m), (2, .int (nI 0)), (3, .int (nI (bdN ink mn m 0))), (4, .int (nI vb))]) rfl ?_
            refine v_goto X dX8_freeing_87 (tgt := 12) (by decide) ?_
            refine V.lvs [1, 2, 3, 4, 5, 0] rfl ?_
            exact ih12 (vp + 1) vb (⟨by omega, by rw [hb]; exact (bestF_no (Or.inl (decide_eq_false (fun q => q.2 h39)))).symm⟩) (by omega)
  refine V.lvs [3, 4, 5, 2, 1, 0] rfl ?_
  exact L12 _ 0 (bdN ink mn m 0) (⟨by omega, rfl⟩) (Nat.lt_succ_self _)
set_option maxRecDepth 100000 in
set_option maxHeartbeats 4000000 in
theorem c_X8_idlest (l : Launch) (E : Et) (k : Nat) (th : Nat) (tr : Nat) (wh : Int32) (g : Nat) (rr : Option Nat) (q : Nat → Nat) (z : Nat → Nat) (nb : Int32) (wa : Int32) (wd : Int64) (ev : Nat) (al : Int32) (wl : Int64) (cy : Nat → Nat) (kp : Nat) (nc : Nat) (cb : Nat → Nat) (fo : Nat → Nat) (on : Nat → Nat) (tw : Nat → Int32) (xf : Nat → Int32) (mn : Nat → Int32) (ink : Nat → Nat) (t : Nat) (dd : Nat) (Fs : Nat → Nat) (Ft : Nat → Nat) (kf : Nat → Nat) (m : Int32) (hd : cy 4 ≤ 6) (hcl : cy 5 ≤ 8) (hfo : ∀ c, c < cy 5 → fo c ≤ 5) (hon : ∀ c, c < cy 5 → on c < 6) (htw : ∀ c, c < cy 5 → okT (tw c)) (hFs : ∀ c, c < cy 5 → Fs c = strN (fo c) (swI (nI (on c))) (swI (tw c))) (hFt : ∀ c, c < cy 5 → Ft c = turN (fo c) (swI (nI (on c))) (swI (tw c))) (hink : ∀ c, ink c ≤ 40) (hz : ∀ c, cy 5 ≤ c → ink c = 0) (hok : okM m (cy 3)) : Ct l E yX8_idlest cX8_idlest 6 (some .int) 5 0 0 [.ref k, .int m] [ob k 8 [.int (nI th), .int (nI tr), .int wh, .ref g, va_rf rr, .ref (q 5), .int (nI (z 6)), .int (nI (z 7)), .int (nI (z 8)), .int (nI (z 9)), .int (nI (z 10)), .int nb, .int (nI (z 12)), .int wa, .long wd, .ref (q 15), .ref (q 16), .ref (q 17), .ref (q 18), .int (nI (z 19)), .int (nI (z 20)), .ref (q 21), .long (lN ev), .ref (q 23), .ref (q 24), .int (nI (z 25)), .ref (q 26), .int al, .long wl, .int (nI (z 29))], ob g 7 [.int (nI (cy 0)), .int (nI (cy 1)), .int (nI (cy 2)), .int (nI (cy 3)), .int (nI (cy 4)), .int (nI (cy 5)), .int (nI (cy 6)), .int (nI (cy 7)), .int (nI kp), .int (nI nc), .ref (cb 0), .ref (cb 1), .ref (cb 2), .ref (cb 3), .ref (cb 4), .ref (cb 5), .ref (cb 6), .ref (cb 7), .ref (cb 8), .ref (cb 9), .ref (cb 10), .ref (cb 11)], aN E (cb 2) 8 fo, aN E (cb 3) 8 on, aI E (cb 4) 8 tw, aI E (q 15) 25 (xF mn ink t dd), aI E (q 16) 25 xf, aM E (q 21) 8 kf] (wrI [ob k 8 [.int (nI 0), .int (nI 0), .int (-1), .ref g, va_rf rr, .ref (q 5), .int (nI (z 6)), .int (nI (z 7)), .int (nI (z 8)), .int (nI (z 9)), .int (nI (z 10)), .int nb, .int (nI (z 12)), .int wa, .long wd, .ref (q 15), .ref (q 16), .ref (q 17), .ref (q 18), .int (nI (z 19)), .int (nI (z 20)), .ref (q 21), .long (lN (allS (cy 4))), .ref (q 23), .ref (q 24), .int (nI (z 25)), .ref (q 26), .int al, .long wl, .int (nI (z 29))], ob g 7 [.int (nI (cy 0)), .int (nI (cy 1)), .int (nI (cy 2)), .int (nI (cy 3)), .int (nI (cy 4)), .int (nI (cy 5)), .int (nI (cy 6)), .int (nI (cy 7)), .int (nI kp), .int (nI nc), .ref (cb 0), .ref (cb 1), .ref (cb 2), .ref (cb 3), .ref (cb 4), .ref (cb 5), .ref (cb 6), .ref (cb 7), .ref (cb 8), .ref (cb 9), .ref (cb 10), .ref (cb 11)], aN E (cb 2) 8 fo, aN E (cb 3) 8 on, aI E (cb 4) 8 tw, aI E (q 15) 25 (xF mn ink t dd), aI E (q 16) 25 (xF mn ink t dd), aM E (q 21) 8 (lyF Fs Ft t (cy 4) kf (cy 5))] (optI (bestO (fun s => (kpN cy Fs Ft t (bdN ink mn m 0)).testBit s) (fun p q => decide (pop8 p < pop8 q)) (2 ^ cy 4)))) := by
  refine Ct.intro (by decide +kernel) (Nat.le_of_ble_eq_true rfl) (lv := [(0, .ref k), (1, .int m)]) rfl ?_
  intro Z X Y
  have h64 : 2 ^ cy 4 ≤ 64 := pow64 hd
  refine v_aload_n X dX8_idlest_0 rfl 0 rfl ?_
  refine v_iconst X dX8_idlest_1 (v := nI 0) (by decide) ?_
  refine v_put X kcX8 fl_X8_43 dX8_idlest_2 0 rfl (ws' := [ob k 8 [.int (nI 0), .int (nI tr), .int wh, .ref g, va_rf rr, .ref (q 5), .int (nI (z 6)), .int (nI (z 7)), .int (nI (z 8)), .int (nI (z 9)), .int (nI (z 10)), .int nb, .int (nI (z 12)), .int wa, .long wd, .ref (q 15), .ref (q 16), .ref (q 17), .ref (q 18), .int (nI (z 19)), .int (nI (z 20)), .ref (q 21), .long (lN ev), .ref (q 23), .ref (q 24), .int (nI (z 25)), .ref (q 26), .int al, .long wl, .int (nI (z 29))], ob g 7 [.int (nI (cy 0)), .int (nI (cy 1)), .int (nI (cy 2)), .int (nI (cy 3)), .int (nI (cy 4)), .int (nI (cy 5)), .int (nI (cy 6)), .int (nI (cy 7)), .int (nI kp), .int (nI nc), .ref (cb 0), .ref (cb 1), .ref (cb 2), .ref (cb 3), .ref (cb 4), .ref (cb 5), .ref (cb 6), .ref (cb 7), .ref (cb 8), .ref (cb 9), .ref (cb 10), .ref (cb 11)], aN E (cb 2) 8 fo, aN E (cb 3) 8 on, aI E (cb 4) 8 tw, aI E (q 15) 25 (xF mn ink t dd), aI E (q 16) 25 xf, aM E (q 21) 8 kf]) rfl rfl ?_
  refine v_aload_n X dX8_idlest_5 rfl 0 rfl ?_
  refine v_iload_n X dX8_idlest_6 rfl 1 rfl ?_
  refine v_roI1 X (rn_V X k_X8_isMan ml_X8_345 dX8_idlest_7 (c_X8_isMan l E k 0 tr wh g rr q z nb wa wd ev al wl cy kp nc cb m ) rfl 0 rfl rfl (by decide) (by decide) (by omega) (by omega) (Nat.le_of_ble_eq_true rfl)) [0, 1] rfl rfl ?_
  refine v_ifB_ne X dX8_idlest_10 (tgt := 19) (by decide) (fun h10 => ?_) (fun h10 => ?_)
  · refine v_aload_n X dX8_idlest_19 rfl 0 rfl ?_
    refine v_wrV1 X (rn_V X k_X8_worksLaid ml_X8_354 dX8_idlest_20 (c_X8_worksLaid l E k 0 tr wh g rr q z nb wa wd ev al wl cy kp nc cb fo on tw xf mn ink t dd Fs Ft kf (by first | assumption | omega) (by first | assumption | omega) (by first | assumption | omega) (by first | assumption | omega) (by first | assumption | omega) (by first | assumption | omega) (by first | assumption | omega)) rfl 0 rfl rfl (by decide) (by decide) (by omega) (by omega) (Nat.le_of_ble_eq_true rfl)) [0, 1, 2, 3, 4, 5, 6, 7] rfl rfl (ws' := [ob k 8 [.int (nI 0), .int (nI tr), .int wh, .ref g, va_rf rr, .ref (q 5), .int (nI (z 6)), .int (nI (z 7)), .int (nI (z 8)), .int (nI (z 9)), .int (nI (z 10)), .int nb, .int (nI (z 12)), .int wa, .long wd, .ref (q 15), .ref (q 16), .ref (q 17), .ref (q 18), .int (nI (z 19)), .int (nI (z 20)), .ref (q 21), .long (lN (allS (cy 4))), .ref (q 23), .ref (q 24), .int (nI (z 25)), .ref (q 26), .int al, .long wl, .int (nI (z 29))], ob g 7 [.int (nI (cy 0)), .int (nI (cy 1)), .int (nI (cy 2)), .int (nI (cy 3)), .int (nI (cy 4)), .int (nI (cy 5)), .int (nI (cy 6)), .int (nI (cy 7)), .int (nI kp), .int (nI nc), .ref (cb 0), .ref (cb 1), .ref (cb 2), .ref (cb 3), .ref (cb 4), .ref (cb 5), .ref (cb 6), .ref (cb 7), .ref (cb 8), .ref (cb 9), .ref (cb 10), .ref (cb 11)], aN E (cb 2) 8 fo, aN E (cb 3) 8 on, aI E (cb 4) 8 tw, aI E (q 15) 25 (xF mn ink t dd), aI E (q 16) 25 (xF mn ink t dd), aM E (q 21) 8 (lyF Fs Ft t (cy 4) kf (cy 5))]) rfl rfl ?_
    refine v_aload_n X dX8_idlest_23 rfl 0 rfl ?_
    refine v_iload_n X dX8_idlest_24 rfl 1 rfl ?_
    refine v_roL1 X (rn_V X k_X8_waysOf ml_X8_339 dX8_idlest_25 (c_X8_waysOf l E k 0 tr wh g rr q z nb wa wd al wl cy kp nc cb mn ink t dd Fs Ft kf m (by first | assumption | omega) (by first | assumption | omega) (by first | assumption | omega) (by first | assumption | omega)) rfl 0 rfl rfl (by decide) (by decide) (by omega) (by omega) (Nat.le_of_ble_eq_true rfl)) [0, 1, 6, 7] rfl rfl ?_
    refine v_lstore_n X dX8_idlest_28 rfl (by decide) (lv' := [(2, .long (lN (kpN cy Fs Ft t (bdN ink mn m 0)))), (0, .ref k), (1, .int m)]) rfl ?_
    refine v_bipush X dX8_idlest_29 (v := (-2)) (by decide) ?_
    refine v_istore X dX8_idlest_31 (by decide) (lv' := [(4, .int (-2)), (2, .long (lN (kpN cy Fs Ft t (bdN ink mn m 0)))), (0, .ref k), (1, .int m)]) rfl ?_
    refine v_iconst X dX8_idlest_33 (v := nI 0) (by decide) ?_
    refine v_istore X dX8_idlest_34 (by decide) (lv' := [(5, .int (nI 0)), (4, .int (-2)), (2, .long (lN (kpN cy Fs Ft t (bdN ink mn m 0)))), (0, .ref k), (1, .int m)]) rfl ?_
    have L36 : ∀ (j36 : Nat) (vs : Nat) (vo : Option Nat), (vs ≤ 2 ^ cy 4 ∧ vo = bestO (fun s => (kpN cy Fs Ft t (bdN ink mn m 0)).testBit s) (fun p q => decide (pop8 p < pop8 q)) vs) → 2 ^ cy 4 - vs < j36 → V E Z 36 [(0, .ref k), (1, .int m), (2, .long (lN (kpN cy Fs Ft t (bdN ink mn m 0)))), (4, .int (optI vo)), (5, .int (nI vs))] [] [ob k 8 [.int (nI 0), .int (nI tr), .int wh, .ref g, va_rf rr, .ref (q 5), .int (nI (z 6)), .int (nI (z 7)), .int (nI (z 8)), .int (nI (z 9)), .int (nI (z 10)), .int nb, .int (nI (z 12)), .int wa, .long wd, .ref (q 15), .ref (q 16), .ref (q 17), .ref (q 18), .int (nI (z 19)), .int (nI (z 20)), .ref (q 21), .long (lN (allS (cy 4))), .ref (q 23), .ref (q 24), .int (nI (z 25)), .ref (q 26), .int al, .long wl, .int (nI (z 29))], ob g 7 [.int (nI (cy 0)), .int (nI (cy 1)), .int (nI (cy 2)), .int (nI (cy 3)), .int (nI (cy 4)), .int (nI (cy 5)), .int (nI (cy 6)), .int (nI (cy 7)), .int (nI kp), .int (nI nc), .ref (cb 0), .ref (cb 1), .ref (cb 2), .ref (cb 3), .ref (cb 4), .ref (cb 5), .ref (cb 6), .ref (cb 7), .ref (cb 8), .ref (cb 9), .ref (cb 10), .ref (cb 11)], aN E (cb 2) 8 fo, aN E (cb 3) 8 on, aI E (cb 4) 8 tw, aI E (q 15) 25 (xF mn ink t dd), aI E (q 16) 25 (xF mn ink t dd), aM E (q 21) 8 (lyF Fs Ft t (cy 4) kf (cy 5))] 0 0 := by
      intro j36
      induction j36 with
      | zero => intro vs vo hI hM; exact absurd hM (Nat.not_lt_zero _)
      | succ j36 ih36 =>
        intro vs vo hI36 hM36
        obtain ⟨hc, ho⟩ := id hI36
        rcases vo with _ | vq
        · refine V.cast (lv' := [(0, .ref k), (1, .int m), (2, .long (lN (kpN cy Fs Ft t (bdN ink mn m 0)))), (4, .int (-2)), (5, .int (nI vs))]) rfl rfl rfl ?_
          refine v_iload X dX8_idlest_36 4 rfl ?_
          refine v_iconst X dX8_idlest_38 (v := nI 1) (by decide) ?_
          refine v_aload_n X dX8_idlest_39 rfl 0 rfl ?_
          refine v_get X kcX8 fl_X8_306 dX8_idlest_40 0 rfl rfl ?_
          refine v_getN X kcX7 fl_X8_183 dX8_idlest_43 1 rfl rfl ?_
          refine v_ishl X dX8_idlest_46 ?_
          refine v_eqi (x' := nI (2 ^ (cy 4))) (nI_shl1 (by omega)) ?_
          refine v_icmpN_ge X dX8_idlest_47 (tgt := 89) (by decide) (by omega) (by omega) (fun h47 => ?_) (fun h47 => ?_)
          · refine v_aload_n X dX8_idlest_89 rfl 0 rfl ?_
            refine v_iload X dX8_idlest_90 3 rfl ?_
            refine v_wrI1 X (rn_V X k_X8_good ml_X8_53 dX8_idlest_92 (c_X8_good l E k 0 tr wh g rr q z nb wa wd (allS (cy 4)) al wl (-2) ) rfl 0 rfl rfl (by decide) (by decide) (by omega) (by omega) (Nat.le_of_ble_eq_true rfl)) [0] rfl rfl (ws' := [ob k 8 [.int (nI 0), .int (nI 0), .int (-1), .ref g, va_rf rr, .ref (q 5), .int (nI (z 6)), .int (nI (z 7)), .int (nI (z 8)), .int (nI (z 9)), .int (nI (z 10)), .int nb, .int (nI (z 12)), .int wa, .long wd, .ref (q 15), .ref (q 16), .ref (q 17), .ref (q 18), .int (nI (z 19)), .int (nI (z 20)), .ref (q 21), .long (lN (allS (cy 4))), .ref (q 23), .ref (q 24), .int (nI (z 25)), .ref (q 26), .int al, .long wl, .int (nI (z 29))], ob g 7 [.int (nI (cy 0)), .int (nI (cy 1)), .int (nI (cy 2)), .int (nI (cy 3)), .int (nI (cy 4)), .int (nI (cy 5)), .int (nI (cy 6)), .int (nI (cy 7)), .int (nI kp), .int (nI nc), .ref (cb 0), .ref (cb 1), .ref (cb 2), .ref (cb 3), .ref (cb 4), .ref (cb 5), .ref (cb 6), .ref (cb 7), .ref (cb 8), .ref (cb 9), .ref (cb 10), .ref (cb 11)], aN E (cb 2) 8 fo, aN E (cb 3) 8 on, aI E (cb 4) 8 tw, aI E (q 15) 25 (xF mn ink t dd), aI E (q 16) 25 (xF mn ink t dd), aM E (q 21) 8 (lyF Fs Ft t (cy 4) kf (cy 5))]) rfl rfl ?_
            exact v_iret X Y dX8_idlest_95 (wrI_of rfl ((by rw [show 2 ^ cy 4 = vs by omega, ← ho]; rfl))) (by omega) (by omega)
          · refine v_lload_n X dX8_idlest_50 rfl 2 rfl ?_
            refine v_iload X dX8_idlest_51 4 rfl ?_
            refine v_roI1 X (rn_S X k_X8_holds ml_X8_357 dX8_idlest_53 (c_X8_holds l E (kpN cy Fs Ft t (bdN ink mn m 0)) vs (kpN_lt hd _ _ _ _) (by omega)) rfl (by decide) (by decide) (by omega) (by omega) (Nat.le_of_ble_eq_true rfl)) [] rfl rfl ?_
            refine v_ifB_eq X dX8_idlest_56 (tgt := 83) (by decide) (fun h56 => ?_) (fun h56 => ?_)
            · refine v_iinc X dX8_idlest_83 4 rfl (v := nI (vs + 1)) (nI_inc vs) (by decide) (lv' := [(5, .int (nI (vs + 1))), (0, .ref k), (1, .int m), (2, .long (lN (kpN cy Fs Ft t (bdN ink mn m 0)))), (4, .int (-2))]) rfl ?_
              refine v_goto X dX8_idlest_86 (tgt := 36) (by decide) ?_
              refine V.lvs [1, 2, 3, 4, 0] rfl ?_
              exact ih36 (vs + 1) none (⟨by omega, bestO_no ho (h56)⟩) (by omega)
            · refine v_iload X dX8_idlest_59 3 rfl ?_
              refine v_bipush X dX8_idlest_61 (v := (-2)) (by decide) ?_
              refine v_icmp_eq X dX8_idlest_63 (tgt := 79) (by decide) (fun h63 => ?_) (fun h63 => ?_)
              · refine v_iload X dX8_idlest_79 4 rfl ?_
                refine v_istore X dX8_idlest_81 (by decide) (lv' := [(4, .int (nI vs)), (0, .ref k), (1, .int m), (2, .long (lN (kpN cy Fs Ft t (bdN ink mn m 0)))), (5, .int (nI vs))]) rfl ?_
                refine v_iinc X dX8_idlest_83 4 rfl (v := nI (vs + 1)) (nI_inc vs) (by decide) (lv' := [(5, .int (nI (vs + 1))), (4, .int (nI vs)), (0, .ref k), (1, .int m), (2, .long (lN (kpN cy Fs Ft t (bdN ink mn m 0))))]) rfl ?_
                refine v_goto X dX8_idlest_86 (tgt := 36) (by decide) ?_
                refine V.lvs [2, 3, 4, 1, 0] rfl ?_
                exact ih36 (vs + 1) (some vs) (⟨by omega, bestO_0 ho (h56)⟩) (by omega)
              · exact absurd rfl h63
        · have hvq := bestO_lt ho
          refine V.cast (lv' := [(0, .ref k), (1, .int m), (2, .long (lN (kpN cy Fs Ft t (bdN ink mn m 0)))), (4, .int (nI vq)), (5, .int (nI vs))]) rfl rfl rfl ?_
          refine v_iload X dX8_idlest_36 4 rfl ?_
          refine v_iconst X dX8_idlest_38 (v := nI 1) (by decide) ?_
          refine v_aload_n X dX8_idlest_39 rfl 0 rfl ?_
          refine v_get X kcX8 fl_X8_306 dX8_idlest_40 0 rfl rfl ?_
          refine v_getN X kcX7 fl_X8_183 dX8_idlest_43 1 rfl rfl ?_
          refine v_ishl X dX8_idlest_46 ?_
          refine v_eqi (x' := nI (2 ^ (cy 4))) (nI_shl1 (by omega)) ?_
          refine v_icmpN_ge X dX8_idlest_47 (tgt := 89) (by decide) (by omega) (by omega) (fun h47 => ?_) (fun h47 => ?_)
          · refine v_aload_n X dX8_idlest_89 rfl 0 rfl ?_
            refine v_iload X dX8_idlest_90 3 rfl ?_
            refine v_wrI1 X (rn_V X k_X8_good ml_X8_53 dX8_idlest_92 (c_X8_good l E k 0 tr wh g rr q z nb wa wd (allS (cy 4)) al wl (nI vq) ) rfl 0 rfl rfl (by decide) (by decide) (by omega) (by omega) (Nat.le_of_ble_eq_true rfl)) [0] rfl rfl (ws' := [ob k 8 [.int (nI 0), .int (nI 0), .int (-1), .ref g, va_rf rr, .ref (q 5), .int (nI (z 6)), .int (nI (z 7)), .int (nI (z 8)), .int (nI (z 9)), .int (nI (z 10)), .int nb, .int (nI (z 12)), .int wa, .long wd, .ref (q 15), .ref (q 16), .ref (q 17), .ref (q 18), .int (nI (z 19)), .int (nI (z 20)), .ref (q 21), .long (lN (allS (cy 4))), .ref (q 23), .ref (q 24), .int (nI (z 25)), .ref (q 26), .int al, .long wl, .int (nI (z 29))], ob g 7 [.int (nI (cy 0)), .int (nI (cy 1)), .int (nI (cy 2)), .int (nI (cy 3)), .int (nI (cy 4)), .int (nI (cy 5)), .int (nI (cy 6)), .int (nI (cy 7)), .int (nI kp), .int (nI nc), .ref (cb 0), .ref (cb 1), .ref (cb 2), .ref (cb 3), .ref (cb 4), .ref (cb 5), .ref (cb 6), .ref (cb 7), .ref (cb 8), .ref (cb 9), .ref (cb 10), .ref (cb 11)], aN E (cb 2) 8 fo, aN E (cb 3) 8 on, aI E (cb 4) 8 tw, aI E (q 15) 25 (xF mn ink t dd), aI E (q 16) 25 (xF mn ink t dd), aM E (q 21) 8 (lyF Fs Ft t (cy 4) kf (cy 5))]) rfl rfl ?_
            exact v_iret X Y dX8_idlest_95 (wrI_of rfl ((by rw [show 2 ^ cy 4 = vs by omega, ← ho]; rfl))) (by omega) (by omega)
          · refine v_lload_n X dX8_idlest_50 rfl 2 rfl ?_
            refine v_iload X dX8_idlest_51 4 rfl ?_
            refine v_roI1 X (rn_S X k_X8_holds ml_X8_357 dX8_idlest_53 (c_X8_holds l E (kpN cy Fs Ft t (bdN ink mn m 0)) vs (kpN_lt hd _ _ _ _) (by omega)) rfl (by decide) (by decide) (by omega) (by omega) (Nat.le_of_ble_eq_true rfl)) [] rfl rfl ?_
            refine v_ifB_eq X dX8_idlest_56 (tgt := 83) (by decide) (fun h56 => ?_) (fun h56 => ?_)
            · refine v_iinc X dX8_idlest_83 4 rfl (v := nI (vs + 1)) (nI_inc vs) (by decide) (lv' := [(5, .int (nI (vs + 1))), (0, .ref k), (1, .int m), (2, .long (lN (kpN cy Fs Ft t (bdN ink mn m 0)))), (4, .int (nI vq))]) rfl ?_
              refine v_goto X dX8_idlest_86 (tgt := 36) (by decide) ?_
              refine V.lvs [1, 2, 3, 4, 0] rfl ?_
              exact ih36 (vs + 1) (some vq) (⟨by omega, bestO_no ho (h56)⟩) (by omega)
            · refine v_iload X dX8_idlest_59 3 rfl ?_
              refine v_bipush X dX8_idlest_61 (v := (-2)) (by decide) ?_
              refine v_icmp_eq X dX8_idlest_63 (tgt := 79) (by decide) (fun h63 => ?_) (fun h63 => ?_)
              · exact (nm2 h63 (by omega)).elim
              · refine v_iload X dX8_idlest_66 4 rfl ?_
                refine v_roI1 X (rn_S X k_X8_bits ml_X8_368 dX8_idlest_68 (c_X8_bits l E vs (by omega)) rfl (by decide) (by decide) (by omega) (by omega) (Nat.le_of_ble_eq_true rfl)) [] rfl rfl ?_
                refine v_iload X dX8_idlest_71 3 rfl ?_
                refine v_roI1 X (rn_S X k_X8_bits ml_X8_368 dX8_idlest_73 (c_X8_bits l E vq (by omega)) rfl (by decide) (by decide) (by omega) (by omega) (Nat.le_of_ble_eq_true rfl)) [] rfl rfl ?_
                refine v_icmpN_ge X dX8_idlest_76 (tgt := 83) (by decide) (Nat.lt_of_le_of_lt (cnt_le _ _) (by decide)) (Nat.lt_of_le_of_lt (cnt_le _ _) (by decide)) (fun h76 => ?_) (fun h76 => ?_)
                · refine v_iinc X dX8_idlest_83 4 rfl (v := nI (vs + 1)) (nI_inc vs) (by decide) (lv' := [(5, .int (nI (vs + 1))), (0, .ref k), (1, .int m), (2, .long (lN (kpN cy Fs Ft t (bdN ink mn m 0)))), (4, .int (nI vq))]) rfl ?_
                  refine v_goto X dX8_idlest_86 (tgt := 36) (by decide) ?_
                  refine V.lvs [1, 2, 3, 4, 0] rfl ?_
                  exact ih36 (vs + 1) (some vq) (⟨by omega, bestO_2 ho (h56) (decide_eq_false (by first | exact Nat.not_lt.mpr h76 | exact h76))⟩) (by omega)
                · refine v_iload X dX8_idlest_79 4 rfl ?_
                  refine v_istore X dX8_idlest_81 (by decide) (lv' := [(4, .int (nI vs)), (0, .ref k), (1, .int m), (2, .long (lN (kpN cy Fs Ft t (bdN ink mn m 0)))), (5, .int (nI vs))]) rfl ?_
                  refine v_iinc X dX8_idlest_83 4 rfl (v := nI (vs + 1)) (nI_inc vs) (by decide) (lv' := [(5, .int (nI (vs + 1))), (4, .int (nI vs)), (0, .ref k), (1, .int m), (2, .long (lN (kpN cy Fs Ft t (bdN ink mn m 0))))]) rfl ?_
                  refine v_goto X dX8_idlest_86 (tgt := 36) (by decide) ?_
                  refine V.lvs [2, 3, 4, 1, 0] rfl ?_
                  exact ih36 (vs + 1) (some vs) (⟨by omega, bestO_1 ho (h56) (decide_eq_true (by first | exact Nat.not_le.mp h76 | exact h76))⟩) (by omega)
    refine V.lvs [3, 4, 2, 1, 0] rfl ?_
    exact L36 _ 0 none (⟨Nat.zero_le _, rfl⟩) (Nat.lt_succ_self _)
  · exact absurd hok (of_decide_eq_false h10)
set_option maxRecDepth 100000 in
set_option maxHeartbeats 4000000 in
theorem c_X8_idlest_no (l : Launch) (E : Et) (k : Nat) (th : Nat) (tr : Nat) (wh : Int32) (g : Nat) (rr : Option Nat) (q : Nat → Nat) (z : Nat → Nat) (nb : Int32) (wa : Int32) (wd : Int64) (ev : Nat) (al : Int32) (wl : Int64) (cy : Nat → Nat) (kp : Nat) (nc : Nat) (cb : Nat → Nat) (m : Int32) (hno : ¬ okM m (cy 3)) : Ct l E yX8_idlest cX8_idlest 6 (some .int) 5 0 0 [.ref k, .int m] [ob k 8 [.int (nI th), .int (nI tr), .int wh, .ref g, va_rf rr, .ref (q 5), .int (nI (z 6)), .int (nI (z 7)), .int (nI (z 8)), .int (nI (z 9)), .int (nI (z 10)), .int nb, .int (nI (z 12)), .int wa, .long wd, .ref (q 15), .ref (q 16), .ref (q 17), .ref (q 18), .int (nI (z 19)), .int (nI (z 20)), .ref (q 21), .long (lN ev), .ref (q 23), .ref (q 24), .int (nI (z 25)), .ref (q 26), .int al, .long wl, .int (nI (z 29))], ob g 7 [.int (nI (cy 0)), .int (nI (cy 1)), .int (nI (cy 2)), .int (nI (cy 3)), .int (nI (cy 4)), .int (nI (cy 5)), .int (nI (cy 6)), .int (nI (cy 7)), .int (nI kp), .int (nI nc), .ref (cb 0), .ref (cb 1), .ref (cb 2), .ref (cb 3), .ref (cb 4), .ref (cb 5), .ref (cb 6), .ref (cb 7), .ref (cb 8), .ref (cb 9), .ref (cb 10), .ref (cb 11)]] (wrI [ob k 8 [.int (nI 0), .int (nI 1), .int (-1), .ref g, va_rf rr, .ref (q 5), .int (nI (z 6)), .int (nI (z 7)), .int (nI (z 8)), .int (nI (z 9)), .int (nI (z 10)), .int nb, .int (nI (z 12)), .int wa, .long wd, .ref (q 15), .ref (q 16), .ref (q 17), .ref (q 18), .int (nI (z 19)), .int (nI (z 20)), .ref (q 21), .long (lN ev), .ref (q 23), .ref (q 24), .int (nI (z 25)), .ref (q 26), .int al, .long wl, .int (nI (z 29))], ob g 7 [.int (nI (cy 0)), .int (nI (cy 1)), .int (nI (cy 2)), .int (nI (cy 3)), .int (nI (cy 4)), .int (nI (cy 5)), .int (nI (cy 6)), .int (nI (cy 7)), .int (nI kp), .int (nI nc), .ref (cb 0), .ref (cb 1), .ref (cb 2), .ref (cb 3), .ref (cb 4), .ref (cb 5), .ref (cb 6), .ref (cb 7), .ref (cb 8), .ref (cb 9), .ref (cb 10), .ref (cb 11)]] (-1)) := by
  refine Ct.intro (by decide +kernel) (Nat.le_of_ble_eq_true rfl) (lv := [(0, .ref k), (1, .int m)]) rfl ?_
  intro Z X Y
  refine v_aload_n X dX8_idlest_0 rfl 0 rfl ?_
  refine v_iconst X dX8_idlest_1 (v := nI 0) (by decide) ?_
  refine v_put X kcX8 fl_X8_43 dX8_idlest_2 0 rfl (ws' := [ob k 8 [.int (nI 0), .int (nI tr), .int wh, .ref g, va_rf rr, .ref (q 5), .int (nI (z 6)), .int (nI (z 7)), .int (nI (z 8)), .int (nI (z 9)), .int (nI (z 10)), .int nb, .int (nI (z 12)), .int wa, .long wd, .ref (q 15), .ref (q 16), .ref (q 17), .ref (q 18), .int (nI (z 19)), .int (nI (z 20)), .ref (q 21), .long (lN ev), .ref (q 23), .ref (q 24), .int (nI (z 25)), .ref (q 26), .int al, .long wl, .int (nI (z 29))], ob g 7 [.int (nI (cy 0)), .int (nI (cy 1)), .int (nI (cy 2)), .int (nI (cy 3)), .int (nI (cy 4)), .int (nI (cy 5)), .int (nI (cy 6)), .int (nI (cy 7)), .int (nI kp), .int (nI nc), .ref (cb 0), .ref (cb 1), .ref (cb 2), .ref (cb 3), .ref (cb 4), .ref (cb 5), .ref (cb 6), .ref (cb 7), .ref (cb 8), .ref (cb 9), .ref (cb 10), .ref (cb 11)]]) rfl rfl ?_
  refine v_aload_n X dX8_idlest_5 rfl 0 rfl ?_
  refine v_iload_n X dX8_idlest_6 rfl 1 rfl ?_
  refine v_roI1 X (rn_V X k_X8_isMan ml_X8_345 dX8_idlest_7 (c_X8_isMan l E k 0 tr wh g rr q z nb wa wd ev al wl cy kp nc cb m ) rfl 0 rfl rfl (by decide) (by decide) (by omega) (by omega) (Nat.le_of_ble_eq_true rfl)) [0, 1] rfl rfl ?_
  refine v_ifB_ne X dX8_idlest_10 (tgt := 19) (by decide) (fun h10 => ?_) (fun h10 => ?_)
  · exact absurd (of_decide_eq_true h10) hno
  · refine v_aload_n X dX8_idlest_13 rfl 0 rfl ?_
    refine v_iconst X dX8_idlest_14 (v := nI 1) (by decide) ?_
    refine v_wrI1 X (rn_V X k_X8_refused ml_X8_49 dX8_idlest_15 (c_X8_refused l E k 0 tr wh g rr q z nb wa wd ev al wl 1 ) rfl 0 rfl rfl (by decide) (by decide) (by omega) (by omega) (Nat.le_of_ble_eq_true rfl)) [0] rfl rfl (ws' := [ob k 8 [.int (nI 0), .int (nI 1), .int (-1), .ref g, va_rf rr, .ref (q 5), .int (nI (z 6)), .int (nI (z 7)), .int (nI (z 8)), .int (nI (z 9)), .int (nI (z 10)), .int nb, .int (nI (z 12)), .int wa, .long wd, .ref (q 15), .ref (q 16), .ref (q 17), .ref (q 18), .int (nI (z 19)), .int (nI (z 20)), .ref (q 21), .long (lN ev), .ref (q 23), .ref (q 24), .int (nI (z 25)), .ref (q 26), .int al, .long wl, .int (nI (z 29))], ob g 7 [.int (nI (cy 0)), .int (nI (cy 1)), .int (nI (cy 2)), .int (nI (cy 3)), .int (nI (cy 4)), .int (nI (cy 5)), .int (nI (cy 6)), .int (nI (cy 7)), .int (nI kp), .int (nI nc), .ref (cb 0), .ref (cb 1), .ref (cb 2), .ref (cb 3), .ref (cb 4), .ref (cb 5), .ref (cb 6), .ref (cb 7), .ref (cb 8), .ref (cb 9), .ref (cb 10), .ref (cb 11)]]) rfl rfl ?_
    exact v_iret X Y dX8_idlest_18 (wrI_of rfl rfl) (by omega) (by omega)
set_option maxRecDepth 100000 in
set_option maxHeartbeats 4000000 in
theorem c_X8_idlest_n (l : Launch) (E : Et) (k : Nat) (th : Nat) (tr : Nat) (wh : Int32) (rr : Option Nat) (q : Nat → Nat) (z : Nat → Nat) (nb : Int32) (wa : Int32) (wd : Int64) (ev : Nat) (al : Int32) (wl : Int64) (m : Int32)  : Ct l E yX8_idlest cX8_idlest 6 (some .int) 5 0 0 [.ref k, .int m] [ob k 8 [.int (nI th), .int (nI tr), .int wh, .null, va_rf rr, .ref (q 5), .int (nI (z 6)), .int (nI (z 7)), .int (nI (z 8)), .int (nI (z 9)), .int (nI (z 10)), .int nb, .int (nI (z 12)), .int wa, .long wd, .ref (q 15), .ref (q 16), .ref (q 17), .ref (q 18), .int (nI (z 19)), .int (nI (z 20)), .ref (q 21), .long (lN ev), .ref (q 23), .ref (q 24), .int (nI (z 25)), .ref (q 26), .int al, .long wl, .int (nI (z 29))]] (wrI [ob k 8 [.int (nI 0), .int (nI 1), .int (-1), .null, va_rf rr, .ref (q 5), .int (nI (z 6)), .int (nI (z 7)), .int (nI (z 8)), .int (nI (z 9)), .int (nI (z 10)), .int nb, .int (nI (z 12)), .int wa, .long wd, .ref (q 15), .ref (q 16), .ref (q 17), .ref (q 18), .int (nI (z 19)), .int (nI (z 20)), .ref (q 21), .long (lN ev), .ref (q 23), .ref (q 24), .int (nI (z 25)), .ref (q 26), .int al, .long wl, .int (nI (z 29))]] (-1)) := by
  refine Ct.intro (by decide +kernel) (Nat.le_of_ble_eq_true rfl) (lv := [(0, .ref k), (1, .int m)]) rfl ?_
  intro Z X Y
  refine v_aload_n X dX8_idlest_0 rfl 0 rfl ?_
  refine v_iconst X dX8_idlest_1 (v := nI 0) (by decide) ?_
  refine v_put X kcX8 fl_X8_43 dX8_idlest_2 0 rfl (ws' := [ob k 8 [.int (nI 0), .int (nI tr), .int wh, .null, va_rf rr, .ref (q 5), .int (nI (z 6)), .int (nI (z 7)), .int (nI (z 8)), .int (nI (z 9)), .int (nI (z 10)), .int nb, .int (nI (z 12)), .int wa, .long wd, .ref (q 15), .ref (q 16), .ref (q 17), .ref (q 18), .int (nI (z 19)), .int (nI (z 20)), .ref (q 21), .long (lN ev), .ref (q 23), .ref (q 24), .int (nI (z 25)), .ref (q 26), .int al, .long wl, .int (nI (z 29))]]) rfl rfl ?_
  refine v_aload_n X dX8_idlest_5 rfl 0 rfl ?_
  refine v_iload_n X dX8_idlest_6 rfl 1 rfl ?_
  refine v_roI1 X (rn_V X k_X8_isMan ml_X8_345 dX8_idlest_7 (c_X8_isMan_n l E k 0 tr wh rr q z nb wa wd ev al wl m ) rfl 0 rfl rfl (by decide) (by decide) (by omega) (by omega) (Nat.le_of_ble_eq_true rfl)) [0] rfl rfl ?_
  refine v_ifN_ne X dX8_idlest_10 (tgt := 19) (by decide) (by decide) (fun h10 => ?_) (fun h10 => ?_)
  · exfalso; omega
  · refine v_aload_n X dX8_idlest_13 rfl 0 rfl ?_
    refine v_iconst X dX8_idlest_14 (v := nI 1) (by decide) ?_
    refine v_wrI1 X (rn_V X k_X8_refused ml_X8_49 dX8_idlest_15 (c_X8_refused_n l E k 0 tr wh rr q z nb wa wd ev al wl 1 ) rfl 0 rfl rfl (by decide) (by decide) (by omega) (by omega) (Nat.le_of_ble_eq_true rfl)) [0] rfl rfl (ws' := [ob k 8 [.int (nI 0), .int (nI 1), .int (-1), .null, va_rf rr, .ref (q 5), .int (nI (z 6)), .int (nI (z 7)), .int (nI (z 8)), .int (nI (z 9)), .int (nI (z 10)), .int nb, .int (nI (z 12)), .int wa, .long wd, .ref (q 15), .ref (q 16), .ref (q 17), .ref (q 18), .int (nI (z 19)), .int (nI (z 20)), .ref (q 21), .long (lN ev), .ref (q 23), .ref (q 24), .int (nI (z 25)), .ref (q 26), .int al, .long wl, .int (nI (z 29))]]) rfl rfl ?_
    exact v_iret X Y dX8_idlest_18 (wrI_of rfl rfl) (by omega) (by omega)
set_option maxRecDepth 100000 in
set_option maxHeartbeats 4000000 in
theorem c_X8_stuck (l : Launch) (E : Et) (k : Nat) (th : Nat) (tr : Nat) (wh : Int32) (g : Nat) (rr : Option Nat) (q : Nat → Nat) (z : Nat → Nat) (nb : Int32) (wa : Int32) (wd : Int64) (ev : Nat) (al : Int32) (wl : Int64) (cy : Nat → Nat) (kp : Nat) (nc : Nat) (cb : Nat → Nat) (fo : Nat → Nat) (on : Nat → Nat) (tw : Nat → Int32) (xf : Nat → Int32) (mn : Nat → Int32) (ink : Nat → Nat) (t : Nat) (dd : Nat) (Fs : Nat → Nat) (Ft : Nat → Nat) (kf : Nat → Nat) (hd : cy 4 ≤ 6) (hcl : cy 5 ≤ 8) (hfo : ∀ c, c < cy 5 → fo c ≤ 5) (hon : ∀ c, c < cy 5 → on c < 6) (htw : ∀ c, c < cy 5 → okT (tw c)) (hFs : ∀ c, c < cy 5 → Fs c = strN (fo c) (swI (nI (on c))) (swI (tw c))) (hFt : ∀ c, c < cy 5 → Ft c = turN (fo c) (swI (nI (on c))) (swI (tw c))) (hink : ∀ c, ink c ≤ 40) (hz : ∀ c, cy 5 ≤ c → ink c = 0) (hmen : cy 3 ≤ 4) : Ct l E yX8_stuck cX8_stuck 3 (some .int) 5 0 0 [.ref k] [ob k 8 [.int (nI th), .int (nI tr), .int wh, .ref g, va_rf rr, .ref (q 5), .int (nI (z 6)), .int (nI (z 7)), .int (nI (z 8)), .int (nI (z 9)), .int (nI (z 10)), .int nb, .int (nI (z 12)), .int wa, .long wd, .ref (q 15), .ref (q 16), .ref (q 17), .ref (q 18), .int (nI (z 19)), .int (nI (z 20)), .ref (q 21), .long (lN ev), .ref (q 23), .ref (q 24), .int (nI (z 25)), .ref (q 26), .int al, .long wl, .int (nI (z 29))], ob g 7 [.int (nI (cy 0)), .int (nI (cy 1)), .int (nI (cy 2)), .int (nI (cy 3)), .int (nI (cy 4)), .int (nI (cy 5)), .int (nI (cy 6)), .int (nI (cy 7)), .int (nI kp), .int (nI nc), .ref (cb 0), .ref (cb 1), .ref (cb 2), .ref (cb 3), .ref (cb 4), .ref (cb 5), .ref (cb 6), .ref (cb 7), .ref (cb 8), .ref (cb 9), .ref (cb 10), .ref (cb 11)], aN E (cb 2) 8 fo, aN E (cb 3) 8 on, aI E (cb 4) 8 tw, aI E (q 15) 25 (xF mn ink t dd), aI E (q 16) 25 xf, aM E (q 21) 8 kf] (wrI [ob k 8 [.int (nI 0), .int (nI 0), .int (-1), .ref g, va_rf rr, .ref (q 5), .int (nI (z 6)), .int (nI (z 7)), .int (nI (z 8)), .int (nI (z 9)), .int (nI (z 10)), .int nb, .int (nI (z 12)), .int wa, .long wd, .ref (q 15), .ref (q 16), .ref (q 17), .ref (q 18), .int (nI (z 19)), .int (nI (z 20)), .ref (q 21), .long (lN (allS (cy 4))), .ref (q 23), .ref (q 24), .int (nI (z 25)), .ref (q 26), .int al, .long wl, .int (nI (z 29))], ob g 7 [.int (nI (cy 0)), .int (nI (cy 1)), .int (nI (cy 2)), .int (nI (cy 3)), .int (nI (cy 4)), .int (nI (cy 5)), .int (nI (cy 6)), .int (nI (cy 7)), .int (nI kp), .int (nI nc), .ref (cb 0), .ref (cb 1), .ref (cb 2), .ref (cb 3), .ref (cb 4), .ref (cb 5), .ref (cb 6), .ref (cb 7), .ref (cb 8), .ref (cb 9), .ref (cb 10), .ref (cb 11)], aN E (cb 2) 8 fo, aN E (cb 3) 8 on, aI E (cb 4) 8 tw, aI E (q 15) 25 (xF mn ink t dd), aI E (q 16) 25 (xF mn ink t dd), aM E (q 21) 8 (lyF Fs Ft t (cy 4) kf (cy 5))] (nI (bbits (fun m => decide (kpN cy Fs Ft t (bdN ink mn (nI m) 0) = 0)) (cy 3)))) := by
  refine Ct.intro (by decide +kernel) (Nat.le_of_ble_eq_true rfl) (lv := [(0, .ref k)]) rfl ?_
  intro Z X Y
  refine v_aload_n X dX8_stuck_0 rfl 0 rfl ?_
  refine v_iconst X dX8_stuck_1 (v := nI 0) (by decide) ?_
  refine v_put X kcX8 fl_X8_43 dX8_stuck_2 0 rfl (ws' := [ob k 8 [.int (nI 0), .int (nI tr), .int wh, .ref g, va_rf rr, .ref (q 5), .int (nI (z 6)), .int (nI (z 7)), .int (nI (z 8)), .int (nI (z 9)), .int (nI (z 10)), .int nb, .int (nI (z 12)), .int wa, .long wd, .ref (q 15), .ref (q 16), .ref (q 17), .ref (q 18), .int (nI (z 19)), .int (nI (z 20)), .ref (q 21), .long (lN ev), .ref (q 23), .ref (q 24), .int (nI (z 25)), .ref (q 26), .int al, .long wl, .int (nI (z 29))], ob g 7 [.int (nI (cy 0)), .int (nI (cy 1)), .int (nI (cy 2)), .int (nI (cy 3)), .int (nI (cy 4)), .int (nI (cy 5)), .int (nI (cy 6)), .int (nI (cy 7)), .int (nI kp), .int (nI nc), .ref (cb 0), .ref (cb 1), .ref (cb 2), .ref (cb 3), .ref (cb 4), .ref (cb 5), .ref (cb 6), .ref (cb 7), .ref (cb 8), .ref (cb 9), .ref (cb 10), .ref (cb 11)], aN E (cb 2) 8 fo, aN E (cb 3) 8 on, aI E (cb 4) 8 tw, aI E (q 15) 25 (xF mn ink t dd), aI E (q 16) 25 xf, aM E (q 21) 8 kf]) rfl rfl ?_
  refine v_aload_n X dX8_stuck_5 rfl 0 rfl ?_
  refine v_get X kcX8 fl_X8_306 dX8_stuck_6 0 rfl rfl ?_
  refine v_ifnonnull X dX8_stuck_9 (tgt := 18) (by decide) ?_
  refine v_aload_n X dX8_stuck_18 rfl 0 rfl ?_
  refine v_wrV1 X (rn_V X k_X8_worksLaid ml_X8_354 dX8_stuck_19 (c_X8_worksLaid l E k 0 tr wh g rr q z nb wa wd ev al wl cy kp nc cb fo on tw xf mn ink t dd Fs Ft kf (by first | assumption | omega) (by first | assumption | omega) (by first | assumption | omega) (by first | assumption | omega) (by first | assumption | omega) (by first | assumption | omega) (by first | assumption | omega)) rfl 0 rfl rfl (by decide) (by decide) (by omega) (by omega) (Nat.le_of_ble_eq_true rfl)) [0, 1, 2, 3, 4, 5, 6, 7] rfl rfl (ws' := [ob k 8 [.int (nI 0), .int (nI tr), .int wh, .ref g, va_rf rr, .ref (q 5), .int (nI (z 6)), .int (nI (z 7)), .int (nI (z 8)), .int (nI (z 9)), .int (nI (z 10)), .int nb, .int (nI (z 12)), .int wa, .long wd, .ref (q 15), .ref (q 16), .ref (q 17), .ref (q 18), .int (nI (z 19)), .int (nI (z 20)), .ref (q 21), .long (lN (allS (cy 4))), .ref (q 23), .ref (q 24), .int (nI (z 25)), .ref (q 26), .int al, .long wl, .int (nI (z 29))], ob g 7 [.int (nI (cy 0)), .int (nI (cy 1)), .int (nI (cy 2)), .int (nI (cy 3)), .int (nI (cy 4)), .int (nI (cy 5)), .int (nI (cy 6)), .int (nI (cy 7)), .int (nI kp), .int (nI nc), .ref (cb 0), .ref (cb 1), .ref (cb 2), .ref (cb 3), .ref (cb 4), .ref (cb 5), .ref (cb 6), .ref (cb 7), .ref (cb 8), .ref (cb 9), .ref (cb 10), .ref (cb 11)], aN E (cb 2) 8 fo, aN E (cb 3) 8 on, aI E (cb 4) 8 tw, aI E (q 15) 25 (xF mn ink t dd), aI E (q 16) 25 (xF mn ink t dd), aM E (q 21) 8 (lyF Fs Ft t (cy 4) kf (cy 5))]) rfl rfl ?_
  refine v_iconst X dX8_stuck_22 (v := nI 0) (by decide) ?_
  refine v_istore_n X dX8_stuck_23 rfl (by decide) (lv' := [(1, .int (nI 0)), (0, .ref k)]) rfl ?_
  refine v_iconst X dX8_stuck_24 (v := nI 0) (by decide) ?_
  refine v_istore_n X dX8_stuck_25 rfl (by decide) (lv' := [(2, .int (nI 0)), (1, .int (nI 0)), (0, .ref k)]) rfl ?_
  have L26 : ∀ (j26 : Nat) (vm : Nat) (vb : Nat), (vm ≤ cy 3 ∧ vb = bbits (fun m => decide (kpN cy Fs Ft t (bdN ink mn (nI m) 0) = 0)) vm) → cy 3 - vm < j26 → V E Z 26 [(0, .ref k), (1, .int (nI vb)), (2, .int (nI vm))] [] [ob k 8 [.int (nI 0), .int (nI tr), .int wh, .ref g, va_rf rr, .ref (q 5), .int (nI (z 6)), .int (nI (z 7)), .int (nI (z 8)), .int (nI (z 9)), .int (nI (z 10)), .int nb, .int (nI (z 12)), .int wa, .long wd, .ref (q 15), .ref (q 16), .ref (q 17), .ref (q 18), .int (nI (z 19)), .int (nI (z 20)), .ref (q 21), .long (lN (allS (cy 4))), .ref (q 23), .ref (q 24), .int (nI (z 25)), .ref (q 26), .int al, .long wl, .int (nI (z 29))], ob g 7 [.int (nI (cy 0)), .int (nI (cy 1)), .int (nI (cy 2)), .int (nI (cy 3)), .int (nI (cy 4)), .int (nI (cy 5)), .int (nI (cy 6)), .int (nI (cy 7)), .int (nI kp), .int (nI nc), .ref (cb 0), .ref (cb 1), .ref (cb 2), .ref (cb 3), .ref (cb 4), .ref (cb 5), .ref (cb 6), .ref (cb 7), .ref (cb 8), .ref (cb 9), .ref (cb 10), .ref (cb 11)], aN E (cb 2) 8 fo, aN E (cb 3) 8 on, aI E (cb 4) 8 tw, aI E (q 15) 25 (xF mn ink t dd), aI E (q 16) 25 (xF mn ink t dd), aM E (q 21) 8 (lyF Fs Ft t (cy 4) kf (cy 5))] 0 0 := by
    intro j26
    induction j26 with
    | zero => intro vm vb hI hM; exact absurd hM (Nat.not_lt_zero _)
    | succ j26 ih26 =>
      intro vm vb hI26 hM26
      obtain ⟨hc, hb⟩ := id hI26
      refine v_iload_n X dX8_stuck_26 rfl 2 rfl ?_
      refine v_aload_n X dX8_stuck_27 rfl 0 rfl ?_
      refine v_get X kcX8 fl_X8_306 dX8_stuck_28 0 rfl rfl ?_
      refine v_getN X kcX7 fl_X8_180 dX8_stuck_31 1 rfl rfl ?_
      refine v_icmpN_ge X dX8_stuck_34 (tgt := 61) (by decide) (by omega) (by omega) (fun h34 => ?_) (fun h34 => ?_)
      · refine v_aload_n X dX8_stuck_61 rfl 0 rfl ?_
        refine v_iload_n X dX8_stuck_62 rfl 1 rfl ?_
        refine v_wrI1 X (rn_V X k_X8_good ml_X8_53 dX8_stuck_63 (c_X8_good l E k 0 tr wh g rr q z nb wa wd (allS (cy 4)) al wl (nI vb) ) rfl 0 rfl rfl (by decide) (by decide) (by omega) (by omega) (Nat.le_of_ble_eq_true rfl)) [0] rfl rfl (ws' := [ob k 8 [.int (nI 0), .int (nI 0), .int (-1), .ref g, va_rf rr, .ref (q 5), .int (nI (z 6)), .int (nI (z 7)), .int (nI (z 8)), .int (nI (z 9)), .int (nI (z 10)), .int nb, .int (nI (z 12)), .int wa, .long wd, .ref (q 15), .ref (q 16), .ref (q 17), .ref (q 18), .int (nI (z 19)), .int (nI (z 20)), .ref (q 21), .long (lN (allS (cy 4))), .ref (q 23), .ref (q 24), .int (nI (z 25)), .ref (q 26), .int al, .long wl, .int (nI (z 29))], ob g 7 [.int (nI (cy 0)), .int (nI (cy 1)), .int (nI (cy 2)), .int (nI (cy 3)), .int (nI (cy 4)), .int (nI (cy 5)), .int (nI (cy 6)), .int (nI (cy 7)), .int (nI kp), .int (nI nc), .ref (cb 0), .ref (cb 1), .ref (cb 2), .ref (cb 3), .ref (cb 4), .ref (cb 5), .ref (cb 6), .ref (cb 7), .ref (cb 8), .ref (cb 9), .ref (cb 10), .ref (cb 11)], aN E (cb 2) 8 fo, aN E (cb 3) 8 on, aI E (cb 4) 8 tw, aI E (q 15) 25 (xF mn ink t dd), aI E (q 16) 25 (xF mn ink t dd), aM E (q 21) 8 (lyF Fs Ft t (cy 4) kf (cy 5))]) rfl rfl ?_
        exact v_iret X Y dX8_stuck_66 (wrI_of rfl (by rw [show cy 3 = vm by omega, ← hb])) (by omega) (by omega)
      · refine v_iload_n X dX8_stuck_37 rfl 1 rfl ?_
        refine v_aload_n X dX8_stuck_38 rfl 0 rfl ?_
        refine v_iload_n X dX8_stuck_39 rfl 2 rfl ?_
        refine v_roI1 X (rn_V X k_X8_isStuck ml_X8_371 dX8_stuck_40 (c_X8_isStuck l E k 0 tr wh g rr q z nb wa wd al wl cy kp nc cb mn ink t dd Fs Ft kf (nI vm) (by first | assumption | omega) (by first | assumption | omega) (by first | assumption | omega) (by first | assumption | omega)) rfl 0 rfl rfl (by decide) (by decide) (by omega) (by omega) (Nat.le_of_ble_eq_true rfl)) [0, 1, 6, 7] rfl rfl ?_
        refine v_ifB_eq X dX8_stuck_43 (tgt := 52) (by decide) (fun h43 => ?_) (fun h43 => ?_)
        · refine v_iconst X dX8_stuck_52 (v := nI 0) (by decide) ?_
          refine v_ior X dX8_stuck_53 ?_
          refine v_eqi (x' := nI (vb ||| 0)) (fa_or _ _) ?_
          refine v_istore_n X dX8_stuck_54 rfl (by decide) (lv' := [(1, .int (nI (vb ||| 0))), (0, .ref k), (2, .int (nI vm))]) rfl ?_
          refine v_iinc X dX8_stuck_55 2 rfl (v := nI (vm + 1)) (nI_inc vm) (by decide) (lv' := [(2, .int (nI (vm + 1))), (1, .int (nI (vb ||| 0))), (0, .ref k)]) rfl ?_
          refine v_goto X dX8_stuck_58 (tgt := 26) (by decide) ?_
          refine V.lvs [2, 1, 0] rfl ?_
          exact ih26 (vm + 1) (vb ||| 0) (⟨by omega, by rw [hb]; exact (Nat.or_zero _).trans (bbits_no h43).symm⟩) (by omega)
        · refine v_iconst X dX8_stuck_46 (v := nI 1) (by decide) ?_
          refine v_iload_n X dX8_stuck_47 rfl 2 rfl ?_
          refine v_ishl X dX8_stuck_48 ?_
          refine v_eqi (x' := nI (2 ^ vm)) (nI_shl1 (by omega)) ?_
          refine v_goto X dX8_stuck_49 (tgt := 53) (by decide) ?_
          refine v_ior X dX8_stuck_53 ?_
          refine v_eqi (x' := nI (vb ||| (2 ^ vm))) (fa_or _ _) ?_
          refine v_istore_n X dX8_stuck_54 rfl (by decide) (lv' := [(1, .int (nI (vb ||| (2 ^ vm)))), (0, .ref k), (2, .int (nI vm))]) rfl ?_
          refine v_iinc X dX8_stuck_55 2 rfl (v := nI (vm + 1)) (nI_inc vm) (by decide) (lv' := [(2, .int (nI (vm + 1))), (1, .int (nI (vb ||| (2 ^ vm)))), (0, .ref k)]) rfl ?_
          refine v_goto X dX8_stuck_58 (tgt := 26) (by decide) ?_
          refine V.lvs [2, 1, 0] rfl ?_
          exact ih26 (vm + 1) (vb ||| (2 ^ vm)) (⟨by omega, by rw [hb]; exact (bbits_yes h43).symm⟩) (by omega)
  refine V.lvs [2, 1, 0] rfl ?_
  exact L26 _ 0 0 (⟨by omega, rfl⟩) (Nat.lt_succ_self _)
set_option maxRecDepth 100000 in
set_option maxHeartbeats 4000000 in
theorem c_X8_stuck_n (l : Launch) (E : Et) (k : Nat) (th : Nat) (tr : Nat) (wh : Int32) (rr : Option Nat) (q : Nat → Nat) (z : Nat → Nat) (nb : Int32) (wa : Int32) (wd : Int64) (ev : Nat) (al : Int32) (wl : Int64)  : Ct l E yX8_stuck cX8_stuck 3 (some .int) 5 0 0 [.ref k] [ob k 8 [.int (nI th), .int (nI tr), .int wh, .null, va_rf rr, .ref (q 5), .int (nI (z 6)), .int (nI (z 7)), .int (nI (z 8)), .int (nI (z 9)), .int (nI (z 10)), .int nb, .int (nI (z 12)), .int wa, .long wd, .ref (q 15), .ref (q 16), .ref (q 17), .ref (q 18), .int (nI (z 19)), .int (nI (z 20)), .ref (q 21), .long (lN ev), .ref (q 23), .ref (q 24), .int (nI (z 25)), .ref (q 26), .int al, .long wl, .int (nI (z 29))]] (wrI [ob k 8 [.int (nI 0), .int (nI 1), .int (-1), .null, va_rf rr, .ref (q 5), .int (nI (z 6)), .int (nI (z 7)), .int (nI (z 8)), .int (nI (z 9)), .int (nI (z 10)), .int nb, .int (nI (z 12)), .int wa, .long wd, .ref (q 15), .ref (q 16), .ref (q 17), .ref (q 18), .int (nI (z 19)), .int (nI (z 20)), .ref (q 21), .long (lN ev), .ref (q 23), .ref (q 24), .int (nI (z 25)), .ref (q 26), .int al, .long wl, .int (nI (z 29))]] (-1)) := by
  refine Ct.intro (by decide +kernel) (Nat.le_of_ble_eq_true rfl) (lv := [(0, .ref k)]) rfl ?_
  intro Z X Y
  refine v_aload_n X dX8_stuck_0 rfl 0 rfl ?_
  refine v_iconst X dX8_stuck_1 (v := nI 0) (by decide) ?_
  refine v_put X kcX8 fl_X8_43 dX8_stuck_2 0 rfl (ws' := [ob k 8 [.int (nI 0), .int (nI tr), .int wh, .null, va_rf rr, .ref (q 5), .int (nI (z 6)), .int (nI (z 7)), .int (nI (z 8)), .int (nI (z 9)), .int (nI (z 10)), .int nb, .int (nI (z 12)), .int wa, .long wd, .ref (q 15), .ref (q 16), .ref (q 17), .ref (q 18), .int (nI (z 19)), .int (nI (z 20)), .ref (q 21), .long (lN ev), .ref (q 23), .ref (q 24), .int (nI (z 25)), .ref (q 26), .int al, .long wl, .int (nI (z 29))]]) rfl rfl ?_
  refine v_aload_n X dX8_stuck_5 rfl 0 rfl ?_
  refine v_get X kcX8 fl_X8_306 dX8_stuck_6 0 rfl rfl ?_
  refine v_ifnonnullN X dX8_stuck_9 ?_
  refine v_aload_n X dX8_stuck_12 rfl 0 rfl ?_
  refine v_iconst X dX8_stuck_13 (v := nI 1) (by decide) ?_
  refine v_wrI1 X (rn_V X k_X8_refused ml_X8_49 dX8_stuck_14 (c_X8_refused_n l E k 0 tr wh rr q z nb wa wd ev al wl 1 ) rfl 0 rfl rfl (by decide) (by decide) (by omega) (by omega) (Nat.le_of_ble_eq_true rfl)) [0] rfl rfl (ws' := [ob k 8 [.int (nI 0), .int (nI 1), .int (-1), .null, va_rf rr, .ref (q 5), .int (nI (z 6)), .int (nI (z 7)), .int (nI (z 8)), .int (nI (z 9)), .int (nI (z 10)), .int nb, .int (nI (z 12)), .int wa, .long wd, .ref (q 15), .ref (q 16), .ref (q 17), .ref (q 18), .int (nI (z 19)), .int (nI (z 20)), .ref (q 21), .long (lN ev), .ref (q 23), .ref (q 24), .int (nI (z 25)), .ref (q 26), .int al, .long wl, .int (nI (z 29))]]) rfl rfl ?_
  exact v_iret X Y dX8_stuck_17 (wrI_of rfl rfl) (by omega) (by omega)
set_option maxRecDepth 100000 in
set_option maxHeartbeats 4000000 in
theorem c_X8_mostBound (l : Launch) (E : Et) (k : Nat) (th : Nat) (tr : Nat) (wh : Int32) (g : Nat) (rr : Option Nat) (q : Nat → Nat) (z : Nat → Nat) (nb : Int32) (wa : Int32) (wd : Int64) (ev : Nat) (al : Int32) (wl : Int64) (cy : Nat → Nat) (kp : Nat) (nc : Nat) (cb : Nat → Nat) (fo : Nat → Nat) (on : Nat → Nat) (tw : Nat → Int32) (xf : Nat → Int32) (mn : Nat → Int32) (ink : Nat → Nat) (t : Nat) (dd : Nat) (Fs : Nat → Nat) (Ft : Nat → Nat) (kf : Nat → Nat) (hd : cy 4 ≤ 6) (hcl : cy 5 ≤ 8) (hfo : ∀ c, c < cy 5 → fo c ≤ 5) (hon : ∀ c, c < cy 5 → on c < 6) (htw : ∀ c, c < cy 5 → okT (tw c)) (hFs : ∀ c, c < cy 5 → Fs c = strN (fo c) (swI (nI (on c))) (swI (tw c))) (hFt : ∀ c, c < cy 5 → Ft c = turN (fo c) (swI (nI (on c))) (swI (tw c))) (hink : ∀ c, ink c ≤ 40) (hz : ∀ c, cy 5 ≤ c → ink c = 0) (hmen : cy 3 ≤ 4) (hm1 : 1 ≤ cy 3) : Ct l E yX8_mostBound cX8_mostBound 3 (some .int) 5 0 0 [.ref k] [ob k 8 [.int (nI th), .int (nI tr), .int wh, .ref g, va_rf rr, .ref (q 5), .int (nI (z 6)), .int (nI (z 7)), .int (nI (z 8)), .int (nI (z 9)), .int (nI (z 10)), .int nb, .int (nI (z 12)), .int wa, .long wd, .ref (q 15), .ref (q 16), .ref (q 17), .ref (q 18), .int (nI (z 19)), .int (nI (z 20)), .ref (q 21), .long (lN ev), .ref (q 23), .ref (q 24), .int (nI (z 25)), .ref (q 26), .int al, .long wl, .int (nI (z 29))], ob g 7 [.int (nI (cy 0)), .int (nI (cy 1)), .int (nI (cy 2)), .int (nI (cy 3)), .int (nI (cy 4)), .int (nI (cy 5)), .int (nI (cy 6)), .int (nI (cy 7)), .int (nI kp), .int (nI nc), .ref (cb 0), .ref (cb 1), .ref (cb 2), .ref (cb 3), .ref (cb 4), .ref (cb 5), .ref (cb 6), .ref (cb 7), .ref (cb 8), .ref (cb 9), .ref (cb 10), .ref (cb 11)], aN E (cb 2) 8 fo, aN E (cb 3) 8 on, aI E (cb 4) 8 tw, aI E (q 15) 25 (xF mn ink t dd), aI E (q 16) 25 xf, aM E (q 21) 8 kf] (wrI [ob k 8 [.int (nI 0), .int (nI 0), .int (-1), .ref g, va_rf rr, .ref (q 5), .int (nI (z 6)), .int (nI (z 7)), .int (nI (z 8)), .int (nI (z 9)), .int (nI (z 10)), .int nb, .int (nI (z 12)), .int wa, .long wd, .ref (q 15), .ref (q 16), .ref (q 17), .ref (q 18), .int (nI (z 19)), .int (nI (z 20)), .ref (q 21), .long (lN (allS (cy 4))), .ref (q 23), .ref (q 24), .int (nI (z 25)), .ref (q 26), .int al, .long wl, .int (nI (z 29))], ob g 7 [.int (nI (cy 0)), .int (nI (cy 1)), .int (nI (cy 2)), .int (nI (cy 3)), .int (nI (cy 4)), .int (nI (cy 5)), .int (nI (cy 6)), .int (nI (cy 7)), .int (nI kp), .int (nI nc), .ref (cb 0), .ref (cb 1), .ref (cb 2), .ref (cb 3), .ref (cb 4), .ref (cb 5), .ref (cb 6), .ref (cb 7), .ref (cb 8), .ref (cb 9), .ref (cb 10), .ref (cb 11)], aN E (cb 2) 8 fo, aN E (cb 3) 8 on, aI E (cb 4) 8 tw, aI E (q 15) 25 (xF mn ink t dd), aI E (q 16) 25 (xF mn ink t dd), aM E (q 21) 8 (lyF Fs Ft t (cy 4) kf (cy 5))] (nI (mbF (fun m => pop64 (kpN cy Fs Ft t (bdN ink mn (nI m) 0))) (cy 3)))) := by
  refine Ct.intro (by decide +kernel) (Nat.le_of_ble_eq_true rfl) (lv := [(0, .ref k)]) rfl ?_
  intro Z X Y
  refine v_aload_n X dX8_mostBound_0 rfl 0 rfl ?_
  refine v_iconst X dX8_mostBound_1 (v := nI 0) (by decide) ?_
  refine v_put X kcX8 fl_X8_43 dX8_mostBound_2 0 rfl (ws' := [ob k 8 [.int (nI 0), .int (nI tr), .int wh, .ref g, va_rf rr, .ref (q 5), .int (nI (z 6)), .int (nI (z 7)), .int (nI (z 8)), .int (nI (z 9)), .int (nI (z 10)), .int nb, .int (nI (z 12)), .int wa, .long wd, .ref (q 15), .ref (q 16), .ref (q 17), .ref (q 18), .int (nI (z 19)), .int (nI (z 20)), .ref (q 21), .long (lN ev), .ref (q 23), .ref (q 24), .int (nI (z 25)), .ref (q 26), .int al, .long wl, .int (nI (z 29))], ob g 7 [.int (nI (cy 0)), .int (nI (cy 1)), .int (nI (cy 2)), .int (nI (cy 3)), .int (nI (cy 4)), .int (nI (cy 5)), .int (nI (cy 6)), .int (nI (cy 7)), .int (nI kp), .int (nI nc), .ref (cb 0), .ref (cb 1), .ref (cb 2), .ref (cb 3), .ref (cb 4), .ref (cb 5), .ref (cb 6), .ref (cb 7), .ref (cb 8), .ref (cb 9), .ref (cb 10), .ref (cb 11)], aN E (cb 2) 8 fo, aN E (cb 3) 8 on, aI E (cb 4) 8 tw, aI E (q 15) 25 (xF mn ink t dd), aI E (q 16) 25 xf, aM E (q 21) 8 kf]) rfl rfl ?_
  refine v_aload_n X dX8_mostBound_5 rfl 0 rfl ?_
  refine v_get X kcX8 fl_X8_306 dX8_mostBound_6 0 rfl rfl ?_
  refine v_ifnonnull X dX8_mostBound_9 (tgt := 18) (by decide) ?_
  refine v_aload_n X dX8_mostBound_18 rfl 0 rfl ?_
  refine v_wrV1 X (rn_V X k_X8_worksLaid ml_X8_354 dX8_mostBound_19 (c_X8_worksLaid l E k 0 tr wh g rr q z nb wa wd ev al wl cy kp nc cb fo on tw xf mn ink t dd Fs Ft kf (by first | assumption | omega) (by first | assumption | omega) (by first | assumption | omega) (by first | assumption | omega) (by first | assumption | omega) (by first | assumption | omega) (by first | assumption | omega)) rfl 0 rfl rfl (by decide) (by decide) (by omega) (by omega) (Nat.le_of_ble_eq_true rfl)) [0, 1, 2, 3, 4, 5, 6, 7] rfl rfl (ws' := [ob k 8 [.int (nI 0), .int (nI tr), .int wh, .ref g, va_rf rr, .ref (q 5), .int (nI (z 6)), .int (nI (z 7)), .int (nI (z 8)), .int (nI (z 9)), .int (nI (z 10)), .int nb, .int (nI (z 12)), .int wa, .long wd, .ref (q 15), .ref (q 16), .ref (q 17), .ref (q 18), .int (nI (z 19)), .int (nI (z 20)), .ref (q 21), .long (lN (allS (cy 4))), .ref (q 23), .ref (q 24), .int (nI (z 25)), .ref (q 26), .int al, .long wl, .int (nI (z 29))], ob g 7 [.int (nI (cy 0)), .int (nI (cy 1)), .int (nI (cy 2)), .int (nI (cy 3)), .int (nI (cy 4)), .int (nI (cy 5)), .int (nI (cy 6)), .int (nI (cy 7)), .int (nI kp), .int (nI nc), .ref (cb 0), .ref (cb 1), .ref (cb 2), .ref (cb 3), .ref (cb 4), .ref (cb 5), .ref (cb 6), .ref (cb 7), .ref (cb 8), .ref (cb 9), .ref (cb 10), .ref (cb 11)], aN E (cb 2) 8 fo, aN E (cb 3) 8 on, aI E (cb 4) 8 tw, aI E (q 15) 25 (xF mn ink t dd), aI E (q 16) 25 (xF mn ink t dd), aM E (q 21) 8 (lyF Fs Ft t (cy 4) kf (cy 5))]) rfl rfl ?_
  refine v_iconst X dX8_mostBound_22 (v := nI 0) (by decide) ?_
  refine v_istore_n X dX8_mostBound_23 rfl (by decide) (lv' := [(1, .int (nI 0)), (0, .ref k)]) rfl ?_
  refine v_iconst X dX8_mostBound_24 (v := nI 1) (by decide) ?_
  refine v_istore_n X dX8_mostBound_25 rfl (by decide) (lv' := [(2, .int (nI 1)), (1, .int (nI 0)), (0, .ref k)]) rfl ?_
  have L26 : ∀ (j26 : Nat) (vm : Nat) (vb : Nat), (vm ≤ cy 3 ∧ vb = mbF (fun m => pop64 (kpN cy Fs Ft t (bdN ink mn (nI m) 0))) vm) → cy 3 - vm < j26 → V E Z 26 [(0, .ref k), (1, .int (nI vb)), (2, .int (nI vm))] [] [ob k 8 [.int (nI 0), .int (nI tr), .int wh, .ref g, va_rf rr, .ref (q 5), .int (nI (z 6)), .int (nI (z 7)), .int (nI (z 8)), .int (nI (z 9)), .int (nI (z 10)), .int nb, .int (nI (z 12)), .int wa, .long wd, .ref (q 15), .ref (q 16), .ref (q 17), .ref (q 18), .int (nI (z 19)), .int (nI (z 20)), .ref (q 21), .long (lN (allS (cy 4))), .ref (q 23), .ref (q 24), .int (nI (z 25)), .ref (q 26), .int al, .long wl, .int (nI (z 29))], ob g 7 [.int (nI (cy 0)), .int (nI (cy 1)), .int (nI (cy 2)), .int (nI (cy 3)), .int (nI (cy 4)), .int (nI (cy 5)), .int (nI (cy 6)), .int (nI (cy 7)), .int (nI kp), .int (nI nc), .ref (cb 0), .ref (cb 1), .ref (cb 2), .ref (cb 3), .ref (cb 4), .ref (cb 5), .ref (cb 6), .ref (cb 7), .ref (cb 8), .ref (cb 9), .ref (cb 10), .ref (cb 11)], aN E (cb 2) 8 fo, aN E (cb 3) 8 on, aI E (cb 4) 8 tw, aI E (q 15) 25 (xF mn ink t dd), aI E (q 16) 25 (xF mn ink t dd), aM E (q 21) 8 (lyF Fs Ft t (cy 4) kf (cy 5))] 0 0 := by
    intro j26
    induction j26 with
    | zero => intro vm vb hI hM; exact absurd hM (Nat.not_lt_zero _)
    | succ j26 ih26 =>
      intro vm vb hI26 hM26
      obtain ⟨hc, hb⟩ := id hI26
      refine v_iload_n X dX8_mostBound_26 rfl 2 rfl ?_
      refine v_aload_n X dX8_mostBound_27 rfl 0 rfl ?_
      refine v_get X kcX8 fl_X8_306 dX8_mostBound_28 0 rfl rfl ?_
      refine v_getN X kcX7 fl_X8_180 dX8_mostBound_31 1 rfl rfl ?_
      refine v_icmpN_ge X dX8_mostBound_34 (tgt := 64) (by decide) (by omega) (by omega) (fun h34 => ?_) (fun h34 => ?_)
      · refine v_aload_n X dX8_mostBound_64 rfl 0 rfl ?_
        refine v_iload_n X dX8_mostBound_65 rfl 1 rfl ?_
        refine v_wrI1 X (rn_V X k_X8_good ml_X8_53 dX8_mostBound_66 (c_X8_good l E k 0 tr wh g rr q z nb wa wd (allS (cy 4)) al wl (nI vb) ) rfl 0 rfl rfl (by decide) (by decide) (by omega) (by omega) (Nat.le_of_ble_eq_true rfl)) [0] rfl rfl (ws' := [ob k 8 [.int (nI 0), .int (nI 0), .int (-1), .ref g, va_rf rr, .ref (q 5), .int (nI (z 6)), .int (nI (z 7)), .int (nI (z 8)), .int (nI (z 9)), .int (nI (z 10)), .int nb, .int (nI (z 12)), .int wa, .long wd, .ref (q 15), .ref (q 16), .ref (q 17), .ref (q 18), .int (nI (z 19)), .int (nI (z 20)), .ref (q 21), .long (lN (allS (cy 4))), .ref (q 23), .ref (q 24), .int (nI (z 25)), .ref (q 26), .int al, .long wl, .int (nI (z 29))], ob g 7 [.int (nI (cy 0)), .int (nI (cy 1)), .int (nI (cy 2)), .int (nI (cy 3)), .int (nI (cy 4)), .int (nI (cy 5)), .int (nI (cy 6)), .int (nI (cy 7)), .int (nI kp), .int (nI nc), .ref (cb 0), .ref (cb 1), .ref (cb 2), .ref (cb 3), .ref (cb 4), .ref (cb 5), .ref (cb 6), .ref (cb 7), .ref (cb 8), .ref (cb 9), .ref (cb 10), .ref (cb 11)], aN E (cb 2) 8 fo, aN E (cb 3) 8 on, aI E (cb 4) 8 tw, aI E (q 15) 25 (xF mn ink t dd), aI E (q 16) 25 (xF mn ink t dd), aM E (q 21) 8 (lyF Fs Ft t (cy 4) kf (cy 5))]) rfl rfl ?_
        exact v_iret X Y dX8_mostBound_69 (wrI_of rfl (by rw [show cy 3 = vm by omega, ← hb])) (by omega) (by omega)
      · refine v_aload_n X dX8_mostBound_37 rfl 0 rfl ?_
        refine v_iload_n X dX8_mostBound_38 rfl 2 rfl ?_
        refine v_roL1 X (rn_V X k_X8_waysOf ml_X8_339 dX8_mostBound_39 (c_X8_waysOf l E k 0 tr wh g rr q z nb wa wd al wl cy kp nc cb mn ink t dd Fs Ft kf (nI vm) (by first | assumption | omega) (by first | assumption | omega) (by first | assumption | omega) (by first | assumption | omega)) rfl 0 rfl rfl (by decide) (by decide) (by omega) (by omega) (Nat.le_of_ble_eq_true rfl)) [0, 1, 6, 7] rfl rfl ?_
        refine v_roI1 X (rn_S X k_X8_many ml_X8_361 dX8_mostBound_42 (c_X8_many l E (kpN cy Fs Ft t (bdN ink mn (nI vm) 0)) (kpN_lt hd _ _ _ _)) rfl (by decide) (by decide) (by omega) (by omega) (Nat.le_of_ble_eq_true rfl)) [] rfl rfl ?_
        refine v_aload_n X dX8_mostBound_45 rfl 0 rfl ?_
        refine v_iload_n X dX8_mostBound_46 rfl 1 rfl ?_
        refine v_roL1 X (rn_V X k_X8_waysOf ml_X8_339 dX8_mostBound_47 (c_X8_waysOf l E k 0 tr wh g rr q z nb wa wd al wl cy kp nc cb mn ink t dd Fs Ft kf (nI vb) (by first | assumption | omega) (by first | assumption | omega) (by first | assumption | omega) (by first | assumption | omega)) rfl 0 rfl rfl (by decide) (by decide) (by omega) (by omega) (Nat.le_of_ble_eq_true rfl)) [0, 1, 6, 7] rfl rfl ?_
        refine v_roI1 X (rn_S X k_X8_many ml_X8_361 dX8_mostBound_50 (c_X8_many l E (kpN cy Fs Ft t (bdN ink mn (nI vb) 0)) (kpN_lt hd _ _ _ _)) rfl (by decide) (by decide) (by omega) (by omega) (Nat.le_of_ble_eq_true rfl)) [] rfl rfl ?_
        refine v_icmpN_ge X dX8_mostBound_53 (tgt := 58) (by decide) (Nat.lt_of_le_of_lt (pop64_le _) (by decide)) (Nat.lt_of_le_of_lt (pop64_le _) (by decide)) (fun h53 => ?_) (fun h53 => ?_)
        · refine v_iinc X dX8_mostBound_58 2 rfl (v := nI (vm + 1)) (nI_inc vm) (by decide) (lv' := [(2, .int (nI (vm + 1))), (0, .ref k), (1, .int (nI vb))]) rfl ?_
          refine v_goto X dX8_mostBound_61 (tgt := 26) (by decide) ?_
          refine V.lvs [1, 2, 0] rfl ?_
          exact ih26 (vm + 1) vb (⟨by omega, by subst hb; exact (mbF_no (Nat.not_lt.mpr h53)).symm⟩) (by omega)
        · refine v_iload_n X dX8_mostBound_56 rfl 2 rfl ?_
          refine v_istore_n X dX8_mostBound_57 rfl (by decide) (lv' := [(1, .int (nI vm)), (0, .ref k), (2, .int (nI vm))]) rfl ?_
          refine v_iinc X dX8_mostBound_58 2 rfl (v := nI (vm + 1)) (nI_inc vm) (by decide) (lv' := [(2, .int (nI (vm + 1))), (1, .int (nI vm)), (0, .ref k)]) rfl ?_
          refine v_goto X dX8_mostBound_61 (tgt := 26) (by decide) ?_
          refine V.lvs [2, 1, 0] rfl ?_
          exact ih26 (vm + 1) vm (⟨by omega, by subst hb; exact (mbF_yes (Nat.not_le.mp h53)).symm⟩) (by omega)
  refine V.lvs [2, 1, 0] rfl ?_
  exact L26 _ 1 0 (⟨by omega, (mbF_1 _).symm⟩) (Nat.lt_succ_self _)
set_option maxRecDepth 100000 in
set_option maxHeartbeats 4000000 in
theorem c_X8_mostBound_n (l : Launch) (E : Et) (k : Nat) (th : Nat) (tr : Nat) (wh : Int32) (rr : Option Nat) (q : Nat → Nat) (z : Nat → Nat) (nb : Int32) (wa : Int32) (wd : Int64) (ev : Nat) (al : Int32) (wl : Int64)  : Ct l E yX8_mostBound cX8_mostBound 3 (some .int) 5 0 0 [.ref k] [ob k 8 [.int (nI th), .int (nI tr), .int wh, .null, va_rf rr, .ref (q 5), .int (nI (z 6)), .int (nI (z 7)), .int (nI (z 8)), .int (nI (z 9)), .int (nI (z 10)), .int nb, .int (nI (z 12)), .int wa, .long wd, .ref (q 15), .ref (q 16), .ref (q 17), .ref (q 18), .int (nI (z 19)), .int (nI (z 20)), .ref (q 21), .long (lN ev), .ref (q 23), .ref (q 24), .int (nI (z 25)), .ref (q 26), .int al, .long wl, .int (nI (z 29))]] (wrI [ob k 8 [.int (nI 0), .int (nI 1), .int (-1), .null, va_rf rr, .ref (q 5), .int (nI (z 6)), .int (nI (z 7)), .int (nI (z 8)), .int (nI (z 9)), .int (nI (z 10)), .int nb, .int (nI (z 12)), .int wa, .long wd, .ref (q 15), .ref (q 16), .ref (q 17), .ref (q 18), .int (nI (z 19)), .int (nI (z 20)), .ref (q 21), .long (lN ev), .ref (q 23), .ref (q 24), .int (nI (z 25)), .ref (q 26), .int al, .long wl, .int (nI (z 29))]] (-1)) := by
  refine Ct.intro (by decide +kernel) (Nat.le_of_ble_eq_true rfl) (lv := [(0, .ref k)]) rfl ?_
  intro Z X Y
  refine v_aload_n X dX8_mostBound_0 rfl 0 rfl ?_
  refine v_iconst X dX8_mostBound_1 (v := nI 0) (by decide) ?_
  refine v_put X kcX8 fl_X8_43 dX8_mostBound_2 0 rfl (ws' := [ob k 8 [.int (nI 0), .int (nI tr), .int wh, .null, va_rf rr, .ref (q 5), .int (nI (z 6)), .int (nI (z 7)), .int (nI (z 8)), .int (nI (z 9)), .int (nI (z 10)), .int nb, .int (nI (z 12)), .int wa, .long wd, .ref (q 15), .ref (q 16), .ref (q 17), .ref (q 18), .int (nI (z 19)), .int (nI (z 20)), .ref (q 21), .long (lN ev), .ref (q 23), .ref (q 24), .int (nI (z 25)), .ref (q 26), .int al, .long wl, .int (nI (z 29))]]) rfl rfl ?_
  refine v_aload_n X dX8_mostBound_5 rfl 0 rfl ?_
  refine v_get X kcX8 fl_X8_306 dX8_mostBound_6 0 rfl rfl ?_
  refine v_ifnonnullN X dX8_mostBound_9 ?_
  refine v_aload_n X dX8_mostBound_12 rfl 0 rfl ?_
  refine v_iconst X dX8_mostBound_13 (v := nI 1) (by decide) ?_
  refine v_wrI1 X (rn_V X k_X8_refused ml_X8_49 dX8_mostBound_14 (c_X8_refused_n l E k 0 tr wh rr q z nb wa wd ev al wl 1 ) rfl 0 rfl rfl (by decide) (by decide) (by omega) (by omega) (Nat.le_of_ble_eq_true rfl)) [0] rfl rfl (ws' := [ob k 8 [.int (nI 0), .int (nI 1), .int (-1), .null, va_rf rr, .ref (q 5), .int (nI (z 6)), .int (nI (z 7)), .int (nI (z 8)), .int (nI (z 9)), .int (nI (z 10)), .int nb, .int (nI (z 12)), .int wa, .long wd, .ref (q 15), .ref (q 16), .ref (q 17), .ref (q 18), .int (nI (z 19)), .int (nI (z 20)), .ref (q 21), .long (lN ev), .ref (q 23), .ref (q 24), .int (nI (z 25)), .ref (q 26), .int al, .long wl, .int (nI (z 29))]]) rfl rfl ?_
  exact v_iret X Y dX8_mostBound_17 (wrI_of rfl rfl) (by omega) (by omega)
set_option maxRecDepth 100000 in
set_option maxHeartbeats 4000000 in
theorem c_X8_bar (l : Launch) (E : Et) (k : Nat) (th : Nat) (tr : Nat) (wh : Int32) (g : Nat) (rr : Option Nat) (q : Nat → Nat) (z : Nat → Nat) (nb : Int32) (wa : Int32) (wd : Int64) (ev : Nat) (al : Int32) (wl : Int64) (cy : Nat → Nat) (kp : Nat) (nc : Nat) (cb : Nat → Nat) (fo : Nat → Nat) (on : Nat → Nat) (tw : Nat → Int32) (xf : Nat → Int32) (mn : Nat → Int32) (ink : Nat → Nat) (t : Nat) (dd : Nat) (Fs : Nat → Nat) (Ft : Nat → Nat) (kf : Nat → Nat) (m : Int32) (hd : cy 4 ≤ 6) (hcl : cy 5 ≤ 8) (hfo : ∀ c, c < cy 5 → fo c ≤ 5) (hon : ∀ c, c < cy 5 → on c < 6) (htw : ∀ c, c < cy 5 → okT (tw c)) (hFs : ∀ c, c < cy 5 → Fs c = strN (fo c) (swI (nI (on c))) (swI (tw c))) (hFt : ∀ c, c < cy 5 → Ft c = turN (fo c) (swI (nI (on c))) (swI (tw c))) (hink : ∀ c, ink c ≤ 40) (hz : ∀ c, cy 5 ≤ c → ink c = 0) (hok : okM m (cy 3)) : Ct l E yX8_bar cX8_bar 5 (some .int) 5 0 0 [.ref k, .int m] [ob k 8 [.int (nI th), .int (nI tr), .int wh, .ref g, va_rf rr, .ref (q 5), .int (nI (z 6)), .int (nI (z 7)), .int (nI (z 8)), .int (nI (z 9)), .int (nI (z 10)), .int nb, .int (nI (z 12)), .int wa, .long wd, .ref (q 15), .ref (q 16), .ref (q 17), .ref (q 18), .int (nI (z 19)), .int (nI (z 20)), .ref (q 21), .long (lN ev), .ref (q 23), .ref (q 24), .int (nI (z 25)), .ref (q 26), .int al, .long wl, .int (nI (z 29))], ob g 7 [.int (nI (cy 0)), .int (nI (cy 1)), .int (nI (cy 2)), .int (nI (cy 3)), .int (nI (cy 4)), .int (nI (cy 5)), .int (nI (cy 6)), .int (nI (cy 7)), .int (nI kp), .int (nI nc), .ref (cb 0), .ref (cb 1), .ref (cb 2), .ref (cb 3), .ref (cb 4), .ref (cb 5), .ref (cb 6), .ref (cb 7), .ref (cb 8), .ref (cb 9), .ref (cb 10), .ref (cb 11)], aN E (cb 2) 8 fo, aN E (cb 3) 8 on, aI E (cb 4) 8 tw, aI E (q 15) 25 (xF mn ink t dd), aI E (q 16) 25 xf, aM E (q 21) 8 kf] (wrI [ob k 8 [.int (nI 0), .int (nI 0), .int (-1), .ref g, va_rf rr, .ref (q 5), .int (nI (z 6)), .int (nI (z 7)), .int (nI (z 8)), .int (nI (z 9)), .int (nI (z 10)), .int nb, .int (nI (z 12)), .int wa, .long wd, .ref (q 15), .ref (q 16), .ref (q 17), .ref (q 18), .int (nI (z 19)), .int (nI (z 20)), .ref (q 21), .long (lN (allS (cy 4))), .ref (q 23), .ref (q 24), .int (nI (z 25)), .ref (q 26), .int al, .long wl, .int (nI (z 29))], ob g 7 [.int (nI (cy 0)), .int (nI (cy 1)), .int (nI (cy 2)), .int (nI (cy 3)), .int (nI (cy 4)), .int (nI (cy 5)), .int (nI (cy 6)), .int (nI (cy 7)), .int (nI kp), .int (nI nc), .ref (cb 0), .ref (cb 1), .ref (cb 2), .ref (cb 3), .ref (cb 4), .ref (cb 5), .ref (cb 6), .ref (cb 7), .ref (cb 8), .ref (cb 9), .ref (cb 10), .ref (cb 11)], aN E (cb 2) 8 fo, aN E (cb 3) 8 on, aI E (cb 4) 8 tw, aI E (q 15) 25 (xF mn ink t dd), aI E (q 16) 25 (xF mn ink t dd), aM E (q 21) 8 (lyF Fs Ft t (cy 4) kf (cy 5))] (optI (bestO (fun p => decide (ndf p (bdN ink mn m 0) = 0 ∧ kpN cy Fs Ft t p = 0)) (fun p q => decide (pop8 p < pop8 q)) (bdN ink mn m 0 + 1)))) := by
  refine Ct.intro (by decide +kernel) (Nat.le_of_ble_eq_true rfl) (lv := [(0, .ref k), (1, .int m)]) rfl ?_
  intro Z X Y
  have hb256 : bdN ink mn m 0 < 256 := bdN_lt _ _ _ _
  refine v_aload_n X dX8_bar_0 rfl 0 rfl ?_
  refine v_iconst X dX8_bar_1 (v := nI 0) (by decide) ?_
  refine v_put X kcX8 fl_X8_43 dX8_bar_2 0 rfl (ws' := [ob k 8 [.int (nI 0), .int (nI tr), .int wh, .ref g, va_rf rr, .ref (q 5), .int (nI (z 6)), .int (nI (z 7)), .int (nI (z 8)), .int (nI (z 9)), .int (nI (z 10)), .int nb, .int (nI (z 12)), .int wa, .long wd, .ref (q 15), .ref (q 16), .ref (q 17), .ref (q 18), .int (nI (z 19)), .int (nI (z 20)), .ref (q 21), .long (lN ev), .ref (q 23), .ref (q 24), .int (nI (z 25)), .ref (q 26), .int al, .long wl, .int (nI (z 29))], ob g 7 [.int (nI (cy 0)), .int (nI (cy 1)), .int (nI (cy 2)), .int (nI (cy 3)), .int (nI (cy 4)), .int (nI (cy 5)), .int (nI (cy 6)), .int (nI (cy 7)), .int (nI kp), .int (nI nc), .ref (cb 0), .ref (cb 1), .ref (cb 2), .ref (cb 3), .ref (cb 4), .ref (cb 5), .ref (cb 6), .ref (cb 7), .ref (cb 8), .ref (cb 9), .ref (cb 10), .ref (cb 11)], aN E (cb 2) 8 fo, aN E (cb 3) 8 on, aI E (cb 4) 8 tw, aI E (q 15) 25 (xF mn ink t dd), aI E (q 16) 25 xf, aM E (q 21) 8 kf]) rfl rfl ?_
  refine v_aload_n X dX8_bar_5 rfl 0 rfl ?_
  refine v_iload_n X dX8_bar_6 rfl 1 rfl ?_
  refine v_roI1 X (rn_V X k_X8_isMan ml_X8_345 dX8_bar_7 (c_X8_isMan l E k 0 tr wh g rr q z nb wa wd ev al wl cy kp nc cb m ) rfl 0 rfl rfl (by decide) (by decide) (by omega) (by omega) (Nat.le_of_ble_eq_true rfl)) [0, 1] rfl rfl ?_
  refine v_ifB_ne X dX8_bar_10 (tgt := 19) (by decide) (fun h10 => ?_) (fun h10 => ?_)
  · refine v_aload_n X dX8_bar_19 rfl 0 rfl ?_
    refine v_wrV1 X (rn_V X k_X8_worksLaid ml_X8_354 dX8_bar_20 (c_X8_worksLaid l E k 0 tr wh g rr q z nb wa wd ev al wl cy kp nc cb fo on tw xf mn ink t dd Fs Ft kf (by first | assumption | omega) (by first | assumption | omega) (by first | assumption | omega) (by first | assumption | omega) (by first | assumption | omega) (by first | assumption | omega) (by first | assumption | omega)) rfl 0 rfl rfl (by decide) (by decide) (by omega) (by omega) (Nat.le_of_ble_eq_true rfl)) [0, 1, 2, 3, 4, 5, 6, 7] rfl rfl (ws' := [ob k 8 [.int (nI 0), .int (nI tr), .int wh, .ref g, va_rf rr, .ref (q 5), .int (nI (z 6)), .int (nI (z 7)), .int (nI (z 8)), .int (nI (z 9)), .int (nI (z 10)), .int nb, .int (nI (z 12)), .int wa, .long wd, .ref (q 15), .ref (q 16), .ref (q 17), .ref (q 18), .int (nI (z 19)), .int (nI (z 20)), .ref (q 21), .long (lN (allS (cy 4))), .ref (q 23), .ref (q 24), .int (nI (z 25)), .ref (q 26), .int al, .long wl, .int (nI (z 29))], ob g 7 [.int (nI (cy 0)), .int (nI (cy 1)), .int (nI (cy 2)), .int (nI (cy 3)), .int (nI (cy 4)), .int (nI (cy 5)), .int (nI (cy 6)), .int (nI (cy 7)), .int (nI kp), .int (nI nc), .ref (cb 0), .ref (cb 1), .ref (cb 2), .ref (cb 3), .ref (cb 4), .ref (cb 5), .ref (cb 6), .ref (cb 7), .ref (cb 8), .ref (cb 9), .ref (cb 10), .ref (cb 11)], aN E (cb 2) 8 fo, aN E (cb 3) 8 on, aI E (cb 4) 8 tw, aI E (q 15) 25 (xF mn ink t dd), aI E (q 16) 25 (xF mn ink t dd), aM E (q 21) 8 (lyF Fs Ft t (cy 4) kf (cy 5))]) rfl rfl ?_
    refine v_aload_n X dX8_bar_23 rfl 0 rfl ?_
    refine v_iload_n X dX8_bar_24 rfl 1 rfl ?_
    refine v_roI1 X (rn_V X k_X8_binding ml_X8_332 dX8_bar_25 (c_X8_bindingB l E k 0 tr wh g rr q z nb wa wd (allS (cy 4)) al wl cy kp nc cb mn ink t dd m (by first | assumption | omega) (by first | assumption | omega) (by first | assumption | omega)) rfl 0 rfl rfl (by decide) (by decide) (by omega) (by omega) (Nat.le_of_ble_eq_true rfl)) [0, 1, 6] rfl rfl ?_
    refine v_istore_n X dX8_bar_28 rfl (by decide) (lv' := [(2, .int (nI (bdN ink mn m 0))), (0, .ref k), (1, .int m)]) rfl ?_
    refine v_bipush X dX8_bar_29 (v := (-2)) (by decide) ?_
    refine v_istore_n X dX8_bar_31 rfl (by decide) (lv' := [(3, .int (-2)), (2, .int (nI (bdN ink mn m 0))), (0, .ref k), (1, .int m)]) rfl ?_
    refine v_iconst X dX8_bar_32 (v := nI 0) (by decide) ?_
    refine v_istore X dX8_bar_33 (by decide) (lv' := [(4, .int (nI 0)), (3, .int (-2)), (2, .int (nI (bdN ink mn m 0))), (0, .ref k), (1, .int m)]) rfl ?_
    have L35 : ∀ (j35 : Nat) (vp : Nat) (vo : Option Nat), (vp ≤ bdN ink mn m 0 + 1 ∧ vo = bestO (fun p => decide (ndf p (bdN ink mn m 0) = 0 ∧ kpN cy Fs Ft t p = 0)) (fun p q => decide (pop8 p < pop8 q)) vp) → bdN ink mn m 0 + 1 - vp < j35 → V E Z 35 [(0, .ref k), (1, .int m), (2, .int (nI (bdN ink mn m 0))), (3, .int (optI vo)), (4, .int (nI vp))] [] [ob k 8 [.int (nI 0), .int (nI tr), .int wh, .ref g, va_rf rr, .ref (q 5), .int (nI (z 6)), .int (nI (z 7)), .int (nI (z 8)), .int (nI (z 9)), .int (nI (z 10)), .int nb, .int (nI (z 12)), .int wa, .long wd, .ref (q 15), .ref (q 16), .ref (q 17), .ref (q 18), .int (nI (z 19)), .int (nI (z 20)), .ref (q 21), .long (lN (allS (cy 4))), .ref (q 23), .ref (q 24), .int (nI (z 25)), .ref (q 26), .int al, .long wl, .int (nI (z 29))], ob g 7 [.int (nI (cy 0)), .int (nI (cy 1)), .int (nI (cy 2)), .int (nI (cy 3)), .int (nI (cy 4)), .int (nI (cy 5)), .int (nI (cy 6)), .int (nI (cy 7)), .int (nI kp), .int (nI nc), .ref (cb 0), .ref (cb 1), .ref (cb 2), .ref (cb 3), .ref (cb 4), .ref (cb 5), .ref (cb 6), .ref (cb 7), .ref (cb 8), .ref (cb 9), .ref (cb 10), .ref (cb 11)], aN E (cb 2) 8 fo, aN E (cb 3) 8 on, aI E (cb 4) 8 tw, aI E (q 15) 25 (xF mn ink t dd), aI E (q 16) 25 (xF mn ink t dd), aM E (q 21) 8 (lyF Fs Ft t (cy 4) kf (cy 5))] 0 0 := by
      intro j35
      induction j35 with
      | zero => intro vp vo hI hM; exact absurd hM (Nat.not_lt_zero _)
      | succ j35 ih35 =>
        intro vp vo hI35 hM35
        obtain ⟨hc, ho⟩ := id hI35
        rcases vo with _ | vq
        · refine V.cast (lv' := [(0, .ref k), (1, .int m), (2, .int (nI (bdN ink mn m 0))), (3, .int (-2)), (4, .int (nI vp))]) rfl rfl rfl ?_
          refine v_iload X dX8_bar_35 4 rfl ?_
          refine v_iload_n X dX8_bar_37 rfl 2 rfl ?_
          refine v_icmpN_gt X dX8_bar_38 (tgt := 91) (by decide) (by omega) (by omega) (fun h38 => ?_) (fun h38 => ?_)
          · refine v_aload_n X dX8_bar_91 rfl 0 rfl ?_
            refine v_iload_n X dX8_bar_92 rfl 3 rfl ?_
            refine v_wrI1 X (rn_V X k_X8_good ml_X8_53 dX8_bar_93 (c_X8_good l E k 0 tr wh g rr q z nb wa wd (allS (cy 4)) al wl (-2) ) rfl 0 rfl rfl (by decide) (by decide) (by omega) (by omega) (Nat.le_of_ble_eq_true rfl)) [0] rfl rfl (ws' := [ob k 8 [.int (nI 0), .int (nI 0), .int (-1), .ref g, va_rf rr, .ref (q 5), .int (nI (z 6)), .int (nI (z 7)), .int (nI (z 8)), .int (nI (z 9)), .int (nI (z 10)), .int nb, .int (nI (z 12)), .int wa, .long wd, .ref (q 15), .ref (q 16), .ref (q 17), .ref (q 18), .int (nI (z 19)), .int (nI (z 20)), .ref (q 21), .long (lN (allS (cy 4))), .ref (q 23), .ref (q 24), .int (nI (z 25)), .ref (q 26), .int al, .long wl, .int (nI (z 29))], ob g 7 [.int (nI (cy 0)), .int (nI (cy 1)), .int (nI (cy 2)), .int (nI (cy 3)), .int (nI (cy 4)), .int (nI (cy 5)), .int (nI (cy 6)), .int (nI (cy 7)), .int (nI kp), .int (nI nc), .ref (cb 0), .ref (cb 1), .ref (cb 2), .ref (cb 3), .ref (cb 4), .ref (cb 5), .ref (cb 6), .ref (cb 7), .ref (cb 8), .ref (cb 9), .ref (cb 10), .ref (cb 11)], aN E (cb 2) 8 fo, aN E (cb 3) 8 on, aI E (cb 4) 8 tw, aI E (q 15) 25 (xF mn ink t dd), aI E (q 16) 25 (xF mn ink t dd), aM E (q 21) 8 (lyF Fs Ft t (cy 4) kf (cy 5))]) rfl rfl ?_
            exact v_iret X Y dX8_bar_96 (wrI_of rfl ((by rw [show bdN ink mn m 0 + 1 = vp by omega, ← ho]; rfl))) (by omega) (by omega)
          · refine v_iload X dX8_bar_41 4 rfl ?_
            refine v_iload_n X dX8_bar_43 rfl 2 rfl ?_
            refine v_iconst X dX8_bar_44 (v := (-1)) (by decide) ?_
            refine v_ixor X dX8_bar_45 ?_
            refine v_iand X dX8_bar_46 ?_
            refine v_eqi (x' := nI (ndf vp (bdN ink mn m 0))) (nI_andn _ _) ?_
            refine v_ifN_ne X dX8_bar_47 (tgt := 85) (by decide) (Nat.lt_trans (ndf_lt (n := 9) _ (by omega)) (by decide)) (fun h47 => ?_) (fun h47 => ?_)
            · refine v_iinc X dX8_bar_85 4 rfl (v := nI (vp + 1)) (nI_inc vp) (by decide) (lv' := [(4, .int (nI (vp + 1))), (0, .ref k), (1, .int m), (2, .int (nI (bdN ink mn m 0))), (3, .int (-2))]) rfl ?_
              refine v_goto X dX8_bar_88 (tgt := 35) (by decide) ?_
              refine V.lvs [1, 2, 3, 4, 0] rfl ?_
              exact ih35 (vp + 1) none (⟨by omega, bestO_no ho (decide_eq_false (fun q => h47 q.1))⟩) (by omega)
            · refine v_aload_n X dX8_bar_50 rfl 0 rfl ?_
              refine v_iload X dX8_bar_51 4 rfl ?_
              refine v_roL1 X (rn_V X k_X8_keepAll ml_X8_335 dX8_bar_53 (c_X8_keepAllL l E k 0 tr wh g rr q z nb wa wd al wl cy kp nc cb Fs Ft kf t vp (by first | assumption | omega) (by omega)) rfl 0 rfl rfl (by decide) (by decide) (by omega) (by omega) (Nat.le_of_ble_eq_true rfl)) [0, 1, 7] rfl rfl ?_
              refine v_lconst X dX8_bar_56 (v := lN 0) (by decide) ?_
              refine v_lcmp X dX8_bar_57 ?_
              refine v_ifLN_eq X dX8_bar_58 (tgt := 64) (by decide) (kpN_lt hd _ _ _ _) (by decide) (fun h58 => ?_) (fun h58 => ?_)
              · refine v_iload_n X dX8_bar_64 rfl 3 rfl ?_
                refine v_bipush X dX8_bar_65 (v := (-2)) (by decide) ?_
                refine v_icmp_eq X dX8_bar_67 (tgt := 82) (by decide) (fun h67 => ?_) (fun h67 => ?_)
                · refine v_iload X dX8_bar_82 4 rfl ?_
                  refine v_istore_n X dX8_bar_84 rfl (by decide) (lv' := [(3, .int (nI vp)), (0, .ref k), (1, .int m), (2, .int (nI (bdN ink mn m 0))), (4, .int (nI vp))]) rfl ?_
                  refine v_iinc X dX8_bar_85 4 rfl (v := nI (vp + 1)) (nI_inc vp) (by decide) (lv' := [(4, .int (nI (vp + 1))), (3, .int (nI vp)), (0, .ref k), (1, .int m), (2, .int (nI (bdN ink mn m 0)))]) rfl ?_
                  refine v_goto X dX8_bar_88 (tgt := 35) (by decide) ?_
                  refine V.lvs [2, 3, 4, 1, 0] rfl ?_
                  exact ih35 (vp + 1) (some vp) (⟨by omega, bestO_0 ho (decide_eq_true ⟨h47, h58⟩)⟩) (by omega)
                · exact absurd rfl h67
              · refine v_goto X dX8_bar_61 (tgt := 85) (by decide) ?_
                refine v_iinc X dX8_bar_85 4 rfl (v := nI (vp + 1)) (nI_inc vp) (by decide) (lv' := [(4, .int (nI (vp + 1))), (0, .ref k), (1, .int m), (2, .int (nI (bdN ink mn m 0))), (3, .int (-2))]) rfl ?_
                refine v_goto X dX8_bar_88 (tgt := 35) (by decide) ?_
                refine V.lvs [1, 2, 3, 4, 0] rfl ?_
                exact ih35 (vp + 1) none (⟨by omega, bestO_no ho (decide_eq_false (fun q => h58 q.2))⟩) (by omega)
        · have hvq := bestO_lt ho
          refine V.cast (lv' := [(0, .ref k), (1, .int m), (2, .int (nI (bdN ink mn m 0))), (3, .int (nI vq)), (4, .int (nI vp))]) rfl rfl rfl ?_
          refine v_iload X dX8_bar_35 4 rfl ?_
          refine v_iload_n X dX8_bar_37 rfl 2 rfl ?_
          refine v_icmpN_gt X dX8_bar_38 (tgt := 91) (by decide) (by omega) (by omega) (fun h38 => ?_) (fun h38 => ?_)
          · refine v_aload_n X dX8_bar_91 rfl 0 rfl ?_
            refine v_iload_n X dX8_bar_92 rfl 3 rfl ?_
            refine v_wrI1 X (rn_V X k_X8_good ml_X8_53 dX8_bar_93 (c_X8_good l E k 0 tr wh g rr q z nb wa wd (allS (cy 4)) al wl (nI vq) ) rfl 0 rfl rfl (by decide) (by decide) (by omega) (by omega) (Nat.le_of_ble_eq_true rfl)) [0] rfl rfl (ws' := [ob k 8 [.int (nI 0), .int (nI 0), .int (-1), .ref g, va_rf rr, .ref (q 5), .int (nI (z 6)), .int (nI (z 7)), .int (nI (z 8)), .int (nI (z 9)), .int (nI (z 10)), .int nb, .int (nI (z 12)), .int wa, .long wd, .ref (q 15), .ref (q 16), .ref (q 17), .ref (q 18), .int (nI (z 19)), .int (nI (z 20)), .ref (q 21), .long (lN (allS (cy 4))), .ref (q 23), .ref (q 24), .int (nI (z 25)), .ref (q 26), .int al, .long wl, .int (nI (z 29))], ob g 7 [.int (nI (cy 0)), .int (nI (cy 1)), .int (nI (cy 2)), .int (nI (cy 3)), .int (nI (cy 4)), .int (nI (cy 5)), .int (nI (cy 6)), .int (nI (cy 7)), .int (nI kp), .int (nI nc), .ref (cb 0), .ref (cb 1), .ref (cb 2), .ref (cb 3), .ref (cb 4), .ref (cb 5), .ref (cb 6), .ref (cb 7), .ref (cb 8), .ref (cb 9), .ref (cb 10), .ref (cb 11)], aN E (cb 2) 8 fo, aN E (cb 3) 8 on, aI E (cb 4) 8 tw, aI E (q 15) 25 (xF mn ink t dd), aI E (q 16) 25 (xF mn ink t dd), aM E (q 21) 8 (lyF Fs Ft t (cy 4) kf (cy 5))]) rfl rfl ?_
            exact v_iret X Y dX8_bar_96 (wrI_of rfl ((by rw [show bdN ink mn m 0 + 1 = vp by omega, ← ho]; rfl))) (by omega) (by omega)
          · refine v_iload X dX8_bar_41 4 rfl ?_
            refine v_iload_n X dX8_bar_43 rfl 2 rfl ?_
            refine v_iconst X dX8_bar_44 (v := (-1)) (by decide) ?_
            refine v_ixor X dX8_bar_45 ?_
            refine v_iand X dX8_bar_46 ?_
            refine v_eqi (x' := nI (ndf vp (bdN ink mn m 0))) (nI_andn _ _) ?_
            refine v_ifN_ne X dX8_bar_47 (tgt := 85) (by decide) (Nat.lt_trans (ndf_lt (n := 9) _ (by omega)) (by decide)) (fun h47 => ?_) (fun h47 => ?_)
            · refine v_iinc X dX8_bar_85 4 rfl (v := nI (vp + 1)) (nI_inc vp) (by decide) (lv' := [(4, .int (nI (vp + 1))), (0, .ref k), (1, .int m), (2, .int (nI (bdN ink mn m 0))), (3, .int (nI vq))]) rfl ?_
              refine v_goto X dX8_bar_88 (tgt := 35) (by decide) ?_
              refine V.lvs [1, 2, 3, 4, 0] rfl ?_
              exact ih35 (vp + 1) (some vq) (⟨by omega, bestO_no ho (decide_eq_false (fun q => h47 q.1))⟩) (by omega)
            · refine v_aload_n X dX8_bar_50 rfl 0 rfl ?_
              refine v_iload X dX8_bar_51 4 rfl ?_
              refine v_roL1 X (rn_V X k_X8_keepAll ml_X8_335 dX8_bar_53 (c_X8_keepAllL l E k 0 tr wh g rr q z nb wa wd al wl cy kp nc cb Fs Ft kf t vp (by first | assumption | omega) (by omega)) rfl 0 rfl rfl (by decide) (by decide) (by omega) (by omega) (Nat.le_of_ble_eq_true rfl)) [0, 1, 7] rfl rfl ?_
              refine v_lconst X dX8_bar_56 (v := lN 0) (by decide) ?_
              refine v_lcmp X dX8_bar_57 ?_
              refine v_ifLN_eq X dX8_bar_58 (tgt := 64) (by decide) (kpN_lt hd _ _ _ _) (by decide) (fun h58 => ?_) (fun h58 => ?_)
              · refine v_iload_n X dX8_bar_64 rfl 3 rfl ?_
                refine v_bipush X dX8_bar_65 (v := (-2)) (by decide) ?_
                refine v_icmp_eq X dX8_bar_67 (tgt := 82) (by decide) (fun h67 => ?_) (fun h67 => ?_)
                · exact (nm2 h67 (by omega)).elim
                · refine v_iload X dX8_bar_70 4 rfl ?_
                  refine v_roI1 X (rn_S X k_X8_bits ml_X8_368 dX8_bar_72 (c_X8_bits l E vp (by omega)) rfl (by decide) (by decide) (by omega) (by omega) (Nat.le_of_ble_eq_true rfl)) [] rfl rfl ?_
                  refine v_iload_n X dX8_bar_75 rfl 3 rfl ?_
                  refine v_roI1 X (rn_S X k_X8_bits ml_X8_368 dX8_bar_76 (c_X8_bits l E vq (by omega)) rfl (by decide) (by decide) (by omega) (by omega) (Nat.le_of_ble_eq_true rfl)) [] rfl rfl ?_
                  refine v_icmpN_ge X dX8_bar_79 (tgt := 85) (by decide) (Nat.lt_of_le_of_lt (cnt_le _ _) (by decide)) (Nat.lt_of_le_of_lt (cnt_le _ _) (by decide)) (fun h79 => ?_) (fun h79 => ?_)
                  · refine v_iinc X dX8_bar_85 4 rfl (v := nI (vp + 1)) (nI_inc vp) (by decide) (lv' := [(4, .int (nI (vp + 1))), (0, .ref k), (1, .int m), (2, .int (nI (bdN ink mn m 0))), (3, .int (nI vq))]) rfl ?_
                    refine v_goto X dX8_bar_88 (tgt := 35) (by decide) ?_
                    refine V.lvs [1, 2, 3, 4, 0] rfl ?_
                    exact ih35 (vp + 1) (some vq) (⟨by omega, bestO_2 ho (decide_eq_true ⟨h47, h58⟩) (decide_eq_false (by first | exact Nat.not_lt.mpr h79 | exact h79))⟩) (by omega)
                  · refine v_iload X dX8_bar_82 4 rfl ?_
                    refine v_istore_n X dX8_bar_84 rfl (by decide) (lv' := [(3, .int (nI vp)), (0, .ref k), (1, .int m), (2, .int (nI (bdN ink mn m 0))), (4, .int (nI vp))]) rfl ?_
                    refine v_iinc X dX8_bar_85 4 rfl (v := nI (vp + 1)) (nI_inc vp) (by decide) (lv' := [(4, .int (nI (vp + 1))), (3, .int (nI vp)), (0, .ref k), (1, .int m), (2, .int (nI (bdN ink mn m 0)))]) rfl ?_
                    refine v_goto X dX8_bar_88 (tgt := 35) (by decide) ?_
                    refine V.lvs [2, 3, 4, 1, 0] rfl ?_
                    exact ih35 (vp + 1) (some vp) (⟨by omega, bestO_1 ho (decide_eq_true ⟨h47, h58⟩) (decide_eq_true (by first | exact Nat.not_le.mp h79 | exact h79))⟩) (by omega)
              · refine v_goto X dX8_bar_61 (tgt := 85) (by decide) ?_
                refine v_iinc X dX8_bar_85 4 rfl (v := nI (vp + 1)) (nI_inc vp) (by decide) (lv' := [(4, .int (nI (vp + 1))), (0, .ref k), (1, .int m), (2, .int (nI (bdN ink mn m 0))), (3, .int (nI vq))]) rfl ?_
                refine v_goto X dX8_bar_88 (tgt := 35) (by decide) ?_
                refine V.lvs [1, 2, 3, 4, 0] rfl ?_
                exact ih35 (vp + 1) (some vq) (⟨by omega, bestO_no ho (decide_eq_false (fun q => h58 q.2))⟩) (by omega)
    refine V.lvs [3, 4, 2, 1, 0] rfl ?_
    exact L35 _ 0 none (⟨by omega, rfl⟩) (Nat.lt_succ_self _)
  · exact absurd hok (of_decide_eq_false h10)
set_option maxRecDepth 100000 in
set_option maxHeartbeats 4000000 in
theorem c_X8_bar_no (l : Launch) (E : Et) (k : Nat) (th : Nat) (tr : Nat) (wh : Int32) (g : Nat) (rr : Option Nat) (q : Nat → Nat) (z : Nat → Nat) (nb : Int32) (wa : Int32) (wd : Int64) (ev : Nat) (al : Int32) (wl : Int64) (cy : Nat → Nat) (kp : Nat) (nc : Nat) (cb : Nat → Nat) (m : Int32) (hno : ¬ okM m (cy 3)) : Ct l E yX8_bar cX8_bar 5 (some .int) 5 0 0 [.ref k, .int m] [ob k 8 [.int (nI th), .int (nI tr), .int wh, .ref g, va_rf rr, .ref (q 5), .int (nI (z 6)), .int (nI (z 7)), .int (nI (z 8)), .int (nI (z 9)), .int (nI (z 10)), .int nb, .int (nI (z 12)), .int wa, .long wd, .ref (q 15), .ref (q 16), .ref (q 17), .ref (q 18), .int (nI (z 19)), .int (nI (z 20)), .ref (q 21), .long (lN ev), .ref (q 23), .ref (q 24), .int (nI (z 25)), .ref (q 26), .int al, .long wl, .int (nI (z 29))], ob g 7 [.int (nI (cy 0)), .int (nI (cy 1)), .int (nI (cy 2)), .int (nI (cy 3)), .int (nI (cy 4)), .int (nI (cy 5)), .int (nI (cy 6)), .int (nI (cy 7)), .int (nI kp), .int (nI nc), .ref (cb 0), .ref (cb 1), .ref (cb 2), .ref (cb 3), .ref (cb 4), .ref (cb 5), .ref (cb 6), .ref (cb 7), .ref (cb 8), .ref (cb 9), .ref (cb 10), .ref (cb 11)]] (wrI [ob k 8 [.int (nI 0), .int (nI 1), .int (-1), .ref g, va_rf rr, .ref (q 5), .int (nI (z 6)), .int (nI (z 7)), .int (nI (z 8)), .int (nI (z 9)), .int (nI (z 10)), .int nb, .int (nI (z 12)), .int wa, .long wd, .ref (q 15), .ref (q 16), .ref (q 17), .ref (q 18), .int (nI (z 19)), .int (nI (z 20)), .ref (q 21), .long (lN ev), .ref (q 23), .ref (q 24), .int (nI (z 25)), .ref (q 26), .int al, .long wl, .int (nI (z 29))], ob g 7 [.int (nI (cy 0)), .int (nI (cy 1)), .int (nI (cy 2)), .int (nI (cy 3)), .int (nI (cy 4)), .int (nI (cy 5)), .int (nI (cy 6)), .int (nI (cy 7)), .int (nI kp), .int (nI nc), .ref (cb 0), .ref (cb 1), .ref (cb 2), .ref (cb 3), .ref (cb 4), .ref (cb 5), .ref (cb 6), .ref (cb 7), .ref (cb 8), .ref (cb 9), .ref (cb 10), .ref (cb 11)]] (-1)) := by
  refine Ct.intro (by decide +kernel) (Nat.le_of_ble_eq_true rfl) (lv := [(0, .ref k), (1, .int m)]) rfl ?_
  intro Z X Y
  refine v_aload_n X dX8_bar_0 rfl 0 rfl ?_
  refine v_iconst X dX8_bar_1 (v := nI 0) (by decide) ?_
  refine v_put X kcX8 fl_X8_43 dX8_bar_2 0 rfl (ws' := [ob k 8 [.int (nI 0), .int (nI tr), .int wh, .ref g, va_rf rr, .ref (q 5), .int (nI (z 6)), .int (nI (z 7)), .int (nI (z 8)), .int (nI (z 9)), .int (nI (z 10)), .int nb, .int (nI (z 12)), .int wa, .long wd, .ref (q 15), .ref (q 16), .ref (q 17), .ref (q 18), .int (nI (z 19)), .int (nI (z 20)), .ref (q 21), .long (lN ev), .ref (q 23), .ref (q 24), .int (nI (z 25)), .ref (q 26), .int al, .long wl, .int (nI (z 29))], ob g 7 [.int (nI (cy 0)), .int (nI (cy 1)), .int (nI (cy 2)), .int (nI (cy 3)), .int (nI (cy 4)), .int (nI (cy 5)), .int (nI (cy 6)), .int (nI (cy 7)), .int (nI kp), .int (nI nc), .ref (cb 0), .ref (cb 1), .ref (cb 2), .ref (cb 3), .ref (cb 4), .ref (cb 5), .ref (cb 6), .ref (cb 7), .ref (cb 8), .ref (cb 9), .ref (cb 10), .ref (cb 11)]]) rfl rfl ?_
  refine v_aload_n X dX8_bar_5 rfl 0 rfl ?_
  refine v_iload_n X dX8_bar_6 rfl 1 rfl ?_
  refine v_roI1 X (rn_V X k_X8_isMan ml_X8_345 dX8_bar_7 (c_X8_isMan l E k 0 tr wh g rr q z nb wa wd ev al wl cy kp nc cb m ) rfl 0 rfl rfl (by decide) (by decide) (by omega) (by omega) (Nat.le_of_ble_eq_true rfl)) [0, 1] rfl rfl ?_
  refine v_ifB_ne X dX8_bar_10 (tgt := 19) (by decide) (fun h10 => ?_) (fun h10 => ?_)
  · exact absurd (of_decide_eq_true h10) hno
  · refine v_aload_n X dX8_bar_13 rfl 0 rfl ?_
    refine v_iconst X dX8_bar_14 (v := nI 1) (by decide) ?_
    refine v_wrI1 X (rn_V X k_X8_refused ml_X8_49 dX8_bar_15 (c_X8_refused l E k 0 tr wh g rr q z nb wa wd ev al wl 1 ) rfl 0 rfl rfl (by decide) (by decide) (by omega) (by omega) (Nat.le_of_ble_eq_true rfl)) [0] rfl rfl (ws' := [ob k 8 [.int (nI 0), .int (nI 1), .int (-1), .ref g, va_rf rr, .ref (q 5), .int (nI (z 6)), .int (nI (z 7)), .int (nI (z 8)), .int (nI (z 9)), .int (nI (z 10)), .int nb, .int (nI (z 12)), .int wa, .long wd, .ref (q 15), .ref (q 16), .ref (q 17), .ref (q 18), .int (nI (z 19)), .int (nI (z 20)), .ref (q 21), .long (lN ev), .ref (q 23), .ref (q 24), .int (nI (z 25)), .ref (q 26), .int al, .long wl, .int (nI (z 29))], ob g 7 [.int (nI (cy 0)), .int (nI (cy 1)), .int (nI (cy 2)), .int (nI (cy 3)), .int (nI (cy 4)), .int (nI (cy 5)), .int (nI (cy 6)), .int (nI (cy 7)), .int (nI kp), .int (nI nc), .ref (cb 0), .ref (cb 1), .ref (cb 2), .ref (cb 3), .ref (cb 4), .ref (cb 5), .ref (cb 6), .ref (cb 7), .ref (cb 8), .ref (cb 9), .ref (cb 10), .ref (cb 11)]]) rfl rfl ?_
    exact v_iret X Y dX8_bar_18 (wrI_of rfl rfl) (by omega) (by omega)
set_option maxRecDepth 100000 in
set_option maxHeartbeats 4000000 in
theorem c_X8_bar_n (l : Launch) (E : Et) (k : Nat) (th : Nat) (tr : Nat) (wh : Int32) (rr : Option Nat) (q : Nat → Nat) (z : Nat → Nat) (nb : Int32) (wa : Int32) (wd : Int64) (ev : Nat) (al : Int32) (wl : Int64) (m : Int32)  : Ct l E yX8_bar cX8_bar 5 (some .int) 5 0 0 [.ref k, .int m] [ob k 8 [.int (nI th), .int (nI tr), .int wh, .null, va_rf rr, .ref (q 5), .int (nI (z 6)), .int (nI (z 7)), .int (nI (z 8)), .int (nI (z 9)), .int (nI (z 10)), .int nb, .int (nI (z 12)), .int wa, .long wd, .ref (q 15), .ref (q 16), .ref (q 17), .ref (q 18), .int (nI (z 19)), .int (nI (z 20)), .ref (q 21), .long (lN ev), .ref (q 23), .ref (q 24), .int (nI (z 25)), .ref (q 26), .int al, .long wl, .int (nI (z 29))]] (wrI [ob k 8 [.int (nI 0), .int (nI 1), .int (-1), .null, va_rf rr, .ref (q 5), .int (nI (z 6)), .int (nI (z 7)), .int (nI (z 8)), .int (nI (z 9)), .int (nI (z 10)), .int nb, .int (nI (z 12)), .int wa, .long wd, .ref (q 15), .ref (q 16), .ref (q 17), .ref (q 18), .int (nI (z 19)), .int (nI (z 20)), .ref (q 21), .long (lN ev), .ref (q 23), .ref (q 24), .int (nI (z 25)), .ref (q 26), .int al, .long wl, .int (nI (z 29))]] (-1)) := by
  refine Ct.intro (by decide +kernel) (Nat.le_of_ble_eq_true rfl) (lv := [(0, .ref k), (1, .int m)]) rfl ?_
  intro Z X Y
  refine v_aload_n X dX8_bar_0 rfl 0 rfl ?_
  refine v_iconst X dX8_bar_1 (v := nI 0) (by decide) ?_
  refine v_put X kcX8 fl_X8_43 dX8_bar_2 0 rfl (ws' := [ob k 8 [.int (nI 0), .int (nI tr), .int wh, .null, va_rf rr, .ref (q 5), .int (nI (z 6)), .int (nI (z 7)), .int (nI (z 8)), .int (nI (z 9)), .int (nI (z 10)), .int nb, .int (nI (z 12)), .int wa, .long wd, .ref (q 15), .ref (q 16), .ref (q 17), .ref (q 18), .int (nI (z 19)), .int (nI (z 20)), .ref (q 21), .long (lN ev), .ref (q 23), .ref (q 24), .int (nI (z 25)), .ref (q 26), .int al, .long wl, .int (nI (z 29))]]) rfl rfl ?_
  refine v_aload_n X dX8_bar_5 rfl 0 rfl ?_
  refine v_iload_n X dX8_bar_6 rfl 1 rfl ?_
  refine v_roI1 X (rn_V X k_X8_isMan ml_X8_345 dX8_bar_7 (c_X8_isMan_n l E k 0 tr wh rr q z nb wa wd ev al wl m ) rfl 0 rfl rfl (by decide) (by decide) (by omega) (by omega) (Nat.le_of_ble_eq_true rfl)) [0] rfl rfl ?_
  refine v_ifN_ne X dX8_bar_10 (tgt := 19) (by decide) (by decide) (fun h10 => ?_) (fun h10 => ?_)
  · exfalso; omega
  · refine v_aload_n X dX8_bar_13 rfl 0 rfl ?_
    refine v_iconst X dX8_bar_14 (v := nI 1) (by decide) ?_
    refine v_wrI1 X (rn_V X k_X8_refused ml_X8_49 dX8_bar_15 (c_X8_refused_n l E k 0 tr wh rr q z nb wa wd ev al wl 1 ) rfl 0 rfl rfl (by decide) (by decide) (by omega) (by omega) (Nat.le_of_ble_eq_true rfl)) [0] rfl rfl (ws' := [ob k 8 [.int (nI 0), .int (nI 1), .int (-1), .null, va_rf rr, .ref (q 5), .int (nI (z 6)), .int (nI (z 7)), .int (nI (z 8)), .int (nI (z 9)), .int (nI (z 10)), .int nb, .int (nI (z 12)), .int wa, .long wd, .ref (q 15), .ref (q 16), .ref (q 17), .ref (q 18), .int (nI (z 19)), .int (nI (z 20)), .ref (q 21), .long (lN ev), .ref (q 23), .ref (q 24), .int (nI (z 25)), .ref (q 26), .int al, .long wl, .int (nI (z 29))]]) rfl rfl ?_
    exact v_iret X Y dX8_bar_18 (wrI_of rfl rfl) (by omega) (by omega)
set_option maxRecDepth 100000 in
set_option maxHeartbeats 4000000 in
theorem c_X8_free (l : Launch) (E : Et) (k : Nat) (th : Nat) (tr : Nat) (wh : Int32) (g : Nat) (rr : Option Nat) (q : Nat → Nat) (z : Nat → Nat) (nb : Int32) (wa : Int32) (wd : Int64) (ev : Nat) (al : Int32) (wl : Int64) (cy : Nat → Nat) (kp : Nat) (nc : Nat) (cb : Nat → Nat) (fo : Nat → Nat) (on : Nat → Nat) (tw : Nat → Int32) (xf : Nat → Int32) (mn : Nat → Int32) (ink : Nat → Nat) (t : Nat) (dd : Nat) (Fs : Nat → Nat) (Ft : Nat → Nat) (kf : Nat → Nat) (m : Int32) (hd : cy 4 ≤ 6) (hcl : cy 5 ≤ 8) (hfo : ∀ c, c < cy 5 → fo c ≤ 5) (hon : ∀ c, c < cy 5 → on c < 6) (htw : ∀ c, c < cy 5 → okT (tw c)) (hFs : ∀ c, c < cy 5 → Fs c = strN (fo c) (swI (nI (on c))) (swI (tw c))) (hFt : ∀ c, c < cy 5 → Ft c = turN (fo c) (swI (nI (on c))) (swI (tw c))) (hink : ∀ c, ink c ≤ 40) (hz : ∀ c, cy 5 ≤ c → ink c = 0) (hok : okM m (cy 3)) : Ct l E yX8_free cX8_free 2 (some .int) 5 0 0 [.ref k, .int m] [ob k 8 [.int (nI th), .int (nI tr), .int wh, .ref g, va_rf rr, .ref (q 5), .int (nI (z 6)), .int (nI (z 7)), .int (nI (z 8)), .int (nI (z 9)), .int (nI (z 10)), .int nb, .int (nI (z 12)), .int wa, .long wd, .ref (q 15), .ref (q 16), .ref (q 17), .ref (q 18), .int (nI (z 19)), .int (nI (z 20)), .ref (q 21), .long (lN ev), .ref (q 23), .ref (q 24), .int (nI (z 25)), .ref (q 26), .int al, .long wl, .int (nI (z 29))], ob g 7 [.int (nI (cy 0)), .int (nI (cy 1)), .int (nI (cy 2)), .int (nI (cy 3)), .int (nI (cy 4)), .int (nI (cy 5)), .int (nI (cy 6)), .int (nI (cy 7)), .int (nI kp), .int (nI nc), .ref (cb 0), .ref (cb 1), .ref (cb 2), .ref (cb 3), .ref (cb 4), .ref (cb 5), .ref (cb 6), .ref (cb 7), .ref (cb 8), .ref (cb 9), .ref (cb 10), .ref (cb 11)], aN E (cb 2) 8 fo, aN E (cb 3) 8 on, aI E (cb 4) 8 tw, aI E (q 15) 25 (xF mn ink t dd), aI E (q 16) 25 xf, aM E (q 21) 8 kf] (wrI [ob k 8 [.int (nI 0), .int (nI 0), .int (-1), .ref g, va_rf rr, .ref (q 5), .int (nI (z 6)), .int (nI (z 7)), .int (nI (z 8)), .int (nI (z 9)), .int (nI (z 10)), .int nb, .int (nI (z 12)), .int wa, .long wd, .ref (q 15), .ref (q 16), .ref (q 17), .ref (q 18), .int (nI (z 19)), .int (nI (z 20)), .ref (q 21), .long (lN (allS (cy 4))), .ref (q 23), .ref (q 24), .int (nI (z 25)), .ref (q 26), .int al, .long wl, .int (nI (z 29))], ob g 7 [.int (nI (cy 0)), .int (nI (cy 1)), .int (nI (cy 2)), .int (nI (cy 3)), .int (nI (cy 4)), .int (nI (cy 5)), .int (nI (cy 6)), .int (nI (cy 7)), .int (nI kp), .int (nI nc), .ref (cb 0), .ref (cb 1), .ref (cb 2), .ref (cb 3), .ref (cb 4), .ref (cb 5), .ref (cb 6), .ref (cb 7), .ref (cb 8), .ref (cb 9), .ref (cb 10), .ref (cb 11)], aN E (cb 2) 8 fo, aN E (cb 3) 8 on, aI E (cb 4) 8 tw, aI E (q 15) 25 (xF mn ink t dd), aI E (q 16) 25 (xF mn ink t dd), aM E (q 21) 8 (lyF Fs Ft t (cy 4) kf (cy 5))] (nI (bestF (fun p => decide (ndf p (bdN ink mn m 0) = 0 ∧ ¬ kpN cy Fs Ft t (ndf (bdN ink mn m 0) p) = 0)) pop8 (bdN ink mn m 0) (bdN ink mn m 0 + 1)))) := by
  refine Ct.intro (by decide +kernel) (Nat.le_of_ble_eq_true rfl) (lv := [(0, .ref k), (1, .int m)]) rfl ?_
  intro Z X Y
  refine v_aload_n X dX8_free_0 rfl 0 rfl ?_
  refine v_iconst X dX8_free_1 (v := nI 0) (by decide) ?_
  refine v_put X kcX8 fl_X8_43 dX8_free_2 0 rfl (ws' := [ob k 8 [.int (nI 0), .int (nI tr), .int wh, .ref g, va_rf rr, .ref (q 5), .int (nI (z 6)), .int (nI (z 7)), .int (nI (z 8)), .int (nI (z 9)), .int (nI (z 10)), .int nb, .int (nI (z 12)), .int wa, .long wd, .ref (q 15), .ref (q 16), .ref (q 17), .ref (q 18), .int (nI (z 19)), .int (nI (z 20)), .ref (q 21), .long (lN ev), .ref (q 23), .ref (q 24), .int (nI (z 25)), .ref (q 26), .int al, .long wl, .int (nI (z 29))], ob g 7 [.int (nI (cy 0)), .int (nI (cy 1)), .int (nI (cy 2)), .int (nI (cy 3)), .int (nI (cy 4)), .int (nI (cy 5)), .int (nI (cy 6)), .int (nI (cy 7)), .int (nI kp), .int (nI nc), .ref (cb 0), .ref (cb 1), .ref (cb 2), .ref (cb 3), .ref (cb 4), .ref (cb 5), .ref (cb 6), .ref (cb 7), .ref (cb 8), .ref (cb 9), .ref (cb 10), .ref (cb 11)], aN E (cb 2) 8 fo, aN E (cb 3) 8 on, aI E (cb 4) 8 tw, aI E (q 15) 25 (xF mn ink t dd), aI E (q 16) 25 xf, aM E (q 21) 8 kf]) rfl rfl ?_
  refine v_aload_n X dX8_free_5 rfl 0 rfl ?_
  refine v_iload_n X dX8_free_6 rfl 1 rfl ?_
  refine v_roI1 X (rn_V X k_X8_isMan ml_X8_345 dX8_free_7 (c_X8_isMan l E k 0 tr wh g rr q z nb wa wd ev al wl cy kp nc cb m ) rfl 0 rfl rfl (by decide) (by decide) (by omega) (by omega) (Nat.le_of_ble_eq_true rfl)) [0, 1] rfl rfl ?_
  refine v_ifB_ne X dX8_free_10 (tgt := 19) (by decide) (fun h10 => ?_) (fun h10 => ?_)
  · refine v_aload_n X dX8_free_19 rfl 0 rfl ?_
    refine v_wrV1 X (rn_V X k_X8_worksLaid ml_X8_354 dX8_free_20 (c_X8_worksLaid l E k 0 tr wh g rr q z nb wa wd ev al wl cy kp nc cb fo on tw xf mn ink t dd Fs Ft kf (by first | assumption | omega) (by first | assumption | omega) (by first | assumption | omega) (by first | assumption | omega) (by first | assumption | omega) (by first | assumption | omega) (by first | assumption | omega)) rfl 0 rfl rfl (by decide) (by decide) (by omega) (by omega) (Nat.le_of_ble_eq_true rfl)) [0, 1, 2, 3, 4, 5, 6, 7] rfl rfl (ws' := [ob k 8 [.int (nI 0), .int (nI tr), .int wh, .ref g, va_rf rr, .ref (q 5), .int (nI (z 6)), .int (nI (z 7)), .int (nI (z 8)), .int (nI (z 9)), .int (nI (z 10)), .int nb, .int (nI (z 12)), .int wa, .long wd, .ref (q 15), .ref (q 16), .ref (q 17), .ref (q 18), .int (nI (z 19)), .int (nI (z 20)), .ref (q 21), .long (lN (allS (cy 4))), .ref (q 23), .ref (q 24), .int (nI (z 25)), .ref (q 26), .int al, .long wl, .int (nI (z 29))], ob g 7 [.int (nI (cy 0)), .int (nI (cy 1)), .int (nI (cy 2)), .int (nI (cy 3)), .int (nI (cy 4)), .int (nI (cy 5)), .int (nI (cy 6)), .int (nI (cy 7)), .int (nI kp), .int (nI nc), .ref (cb 0), .ref (cb 1), .ref (cb 2), .ref (cb 3), .ref (cb 4), .ref (cb 5), .ref (cb 6), .ref (cb 7), .ref (cb 8), .ref (cb 9), .ref (cb 10), .ref (cb 11)], aN E (cb 2) 8 fo, aN E (cb 3) 8 on, aI E (cb 4) 8 tw, aI E (q 15) 25 (xF mn ink t dd), aI E (q 16) 25 (xF mn ink t dd), aM E (q 21) 8 (lyF Fs Ft t (cy 4) kf (cy 5))]) rfl rfl ?_
    refine v_aload_n X dX8_free_23 rfl 0 rfl ?_
    refine v_aload_n X dX8_free_24 rfl 0 rfl ?_
    refine v_iload_n X dX8_free_25 rfl 1 rfl ?_
    refine v_iconst X dX8_free_26 (v := nI 1) (by decide) ?_
    refine v_roI1 X (rn_V X k_X8_freeing ml_X8_374 dX8_free_27 (c_X8_freeing_few l E k 0 tr wh g rr q z nb wa wd al wl cy kp nc cb mn ink t dd Fs Ft kf m (by first | assumption | omega) (by first | assumption | omega) (by first | assumption | omega) (by first | assumption | omega)) rfl 0 rfl rfl (by decide) (by decide) (by omega) (by omega) (Nat.le_of_ble_eq_true rfl)) [0, 1, 6, 7] rfl rfl ?_
    refine v_wrI1 X (rn_V X k_X8_good ml_X8_53 dX8_free_30 (c_X8_good l E k 0 tr wh g rr q z nb wa wd (allS (cy 4)) al wl (nI (bestF (fun p => decide (ndf p (bdN ink mn m 0) = 0 ∧ ¬ kpN cy Fs Ft t (ndf (bdN ink mn m 0) p) = 0)) pop8 (bdN ink mn m 0) (bdN ink mn m 0 + 1))) ) rfl 0 rfl rfl (by decide) (by decide) (by omega) (by omega) (Nat.le_of_ble_eq_true rfl)) [0] rfl rfl (ws' := [ob k 8 [.int (nI 0), .int (nI 0), .int (-1), .ref g, va_rf rr, .ref (q 5), .int (nI (z 6)), .int (nI (z 7)), .int (nI (z 8)), .int (nI (z 9)), .int (nI (z 10)), .int nb, .int (nI (z 12)), .int wa, .long wd, .ref (q 15), .ref (q 16), .ref (q 17), .ref (q 18), .int (nI (z 19)), .int (nI (z 20)), .ref (q 21), .long (lN (allS (cy 4))), .ref (q 23), .ref (q 24), .int (nI (z 25)), .ref (q 26), .int al, .long wl, .int (nI (z 29))], ob g 7 [.int (nI (cy 0)), .int (nI (cy 1)), .int (nI (cy 2)), .int (nI (cy 3)), .int (nI (cy 4)), .int (nI (cy 5)), .int (nI (cy 6)), .int (nI (cy 7)), .int (nI kp), .int (nI nc), .ref (cb 0), .ref (cb 1), .ref (cb 2), .ref (cb 3), .ref (cb 4), .ref (cb 5), .ref (cb 6), .ref (cb 7), .ref (cb 8), .ref (cb 9), .ref (cb 10), .ref (cb 11)], aN E (cb 2) 8 fo, aN E (cb 3) 8 on, aI E (cb 4) 8 tw, aI E (q 15) 25 (xF mn ink t dd), aI E (q 16) 25 (xF mn ink t dd), aM E (q 21) 8 (lyF Fs Ft t (cy 4) kf (cy 5))]) rfl rfl ?_
    exact v_iret X Y dX8_free_33 (wrI_of rfl (rfl)) (by omega) (by omega)
  · exact absurd hok (of_decide_eq_false h10)
set_option maxRecDepth 100000 in
set_option maxHeartbeats 4000000 in
theorem c_X8_free_no (l : Launch) (E : Et) (k : Nat) (th : Nat) (tr : Nat) (wh : Int32) (g : Nat) (rr : Option Nat) (q : Nat → Nat) (z : Nat → Nat) (nb : Int32) (wa : Int32) (wd : Int64) (ev : Nat) (al : Int32) (wl : Int64) (cy : Nat → Nat) (kp : Nat) (nc : Nat) (cb : Nat → Nat) (m : Int32) (hno : ¬ okM m (cy 3)) : Ct l E yX8_free cX8_free 2 (some .int) 5 0 0 [.ref k, .int m] [ob k 8 [.int (nI th), .int (nI tr), .int wh, .ref g, va_rf rr, .ref (q 5), .int (nI (z 6)), .int (nI (z 7)), .int (nI (z 8)), .int (nI (z 9)), .int (nI (z 10)), .int nb, .int (nI (z 12)), .int wa, .long wd, .ref (q 15), .ref (q 16), .ref (q 17), .ref (q 18), .int (nI (z 19)), .int (nI (z 20)), .ref (q 21), .long (lN ev), .ref (q 23), .ref (q 24), .int (nI (z 25)), .ref (q 26), .int al, .long wl, .int (nI (z 29))], ob g 7 [.int (nI (cy 0)), .int (nI (cy 1)), .int (nI (cy 2)), .int (nI (cy 3)), .int (nI (cy 4)), .int (nI (cy 5)), .int (nI (cy 6)), .int (nI (cy 7)), .int (nI kp), .int (nI nc), .ref (cb 0), .ref (cb 1), .ref (cb 2), .ref (cb 3), .ref (cb 4), .ref (cb 5), .ref (cb 6), .ref (cb 7), .ref (cb 8), .ref (cb 9), .ref (cb 10), .ref (cb 11)]] (wrI [ob k 8 [.int (nI 0), .int (nI 1), .int (-1), .ref g, va_rf rr, .ref (q 5), .int (nI (z 6)), .int (nI (z 7)), .int (nI (z 8)), .int (nI (z 9)), .int (nI (z 10)), .int nb, .int (nI (z 12)), .int wa, .long wd, .ref (q 15), .ref (q 16), .ref (q 17), .ref (q 18), .int (nI (z 19)), .int (nI (z 20)), .ref (q 21), .long (lN ev), .ref (q 23), .ref (q 24), .int (nI (z 25)), .ref (q 26), .int al, .long wl, .int (nI (z 29))], ob g 7 [.int (nI (cy 0)), .int (nI (cy 1)), .int (nI (cy 2)), .int (nI (cy 3)), .int (nI (cy 4)), .int (nI (cy 5)), .int (nI (cy 6)), .int (nI (cy 7)), .int (nI kp), .int (nI nc), .ref (cb 0), .ref (cb 1), .ref (cb 2), .ref (cb 3), .ref (cb 4), .ref (cb 5), .ref (cb 6), .ref (cb 7), .ref (cb 8), .ref (cb 9), .ref (cb 10), .ref (cb 11)]] (-1)) := by
  refine Ct.intro (by decide +kernel) (Nat.le_of_ble_eq_true rfl) (lv := [(0, .ref k), (1, .int m)]) rfl ?_
  intro Z X Y
  refine v_aload_n X dX8_free_0 rfl 0 rfl ?_
  refine v_iconst X dX8_free_1 (v := nI 0) (by decide) ?_
  refine v_put X kcX8 fl_X8_43 dX8_free_2 0 rfl (ws' := [ob k 8 [.int (nI 0), .int (nI tr), .int wh, .ref g, va_rf rr, .ref (q 5), .int (nI (z 6)), .int (nI (z 7)), .int (nI (z 8)), .int (nI (z 9)), .int (nI (z 10)), .int nb, .int (nI (z 12)), .int wa, .long wd, .ref (q 15), .ref (q 16), .ref (q 17), .ref (q 18), .int (nI (z 19)), .int (nI (z 20)), .ref (q 21), .long (lN ev), .ref (q 23), .ref (q 24), .int (nI (z 25)), .ref (q 26), .int al, .long wl, .int (nI (z 29))], ob g 7 [.int (nI (cy 0)), .int (nI (cy 1)), .int (nI (cy 2)), .int (nI (cy 3)), .int (nI (cy 4)), .int (nI (cy 5)), .int (nI (cy 6)), .int (nI (cy 7)), .int (nI kp), .int (nI nc), .ref (cb 0), .ref (cb 1), .ref (cb 2), .ref (cb 3), .ref (cb 4), .ref (cb 5), .ref (cb 6), .ref (cb 7), .ref (cb 8), .ref (cb 9), .ref (cb 10), .ref (cb 11)]]) rfl rfl ?_
  refine v_aload_n X dX8_free_5 rfl 0 rfl ?_
  refine v_iload_n X dX8_free_6 rfl 1 rfl ?_
  refine v_roI1 X (rn_V X k_X8_isMan ml_X8_345 dX8_free_7 (c_X8_isMan l E k 0 tr wh g rr q z nb wa wd ev al wl cy kp nc cb m ) rfl 0 rfl rfl (by decide) (by decide) (by omega) (by omega) (Nat.le_of_ble_eq_true rfl)) [0, 1] rfl rfl ?_
  refine v_ifB_ne X dX8_free_10 (tgt := 19) (by decide) (fun h10 => ?_) (fun h10 => ?_)
  · exact absurd (of_decide_eq_true h10) hno
  · refine v_aload_n X dX8_free_13 rfl 0 rfl ?_
    refine v_iconst X dX8_free_14 (v := nI 1) (by decide) ?_
    refine v_wrI1 X (rn_V X k_X8_refused ml_X8_49 dX8_free_15 (c_X8_refused l E k 0 tr wh g rr q z nb wa wd ev al wl 1 ) rfl 0 rfl rfl (by decide) (by decide) (by omega) (by omega) (Nat.le_of_ble_eq_true rfl)) [0] rfl rfl (ws' := [ob k 8 [.int (nI 0), .int (nI 1), .int (-1), .ref g, va_rf rr, .ref (q 5), .int (nI (z 6)), .int (nI (z 7)), .int (nI (z 8)), .int (nI (z 9)), .int (nI (z 10)), .int nb, .int (nI (z 12)), .int wa, .long wd, .ref (q 15), .ref (q 16), .ref (q 17), .ref (q 18), .int (nI (z 19)), .int (nI (z 20)), .ref (q 21), .long (lN ev), .ref (q 23), .ref (q 24), .int (nI (z 25)), .ref (q 26), .int al, .long wl, .int (nI (z 29))], ob g 7 [.int (nI (cy 0)), .int (nI (cy 1)), .int (nI (cy 2)), .int (nI (cy 3)), .int (nI (cy 4)), .int (nI (cy 5)), .int (nI (cy 6)), .int (nI (cy 7)), .int (nI kp), .int (nI nc), .ref (cb 0), .ref (cb 1), .ref (cb 2), .ref (cb 3), .ref (cb 4), .ref (cb 5), .ref (cb 6), .ref (cb 7), .ref (cb 8), .ref (cb 9), .ref (cb 10), .ref (cb 11)]]) rfl rfl ?_
    exact v_iret X Y dX8_free_18 (wrI_of rfl rfl) (by omega) (by omega)
set_option maxRecDepth 100000 in
set_option maxHeartbeats 4000000 in
theorem c_X8_free_n (l : Launch) (E : Et) (k : Nat) (th : Nat) (tr : Nat) (wh : Int32) (rr : Option Nat) (q : Nat → Nat) (z : Nat → Nat) (nb : Int32) (wa : Int32) (wd : Int64) (ev : Nat) (al : Int32) (wl : Int64) (m : Int32)  : Ct l E yX8_free cX8_free 2 (some .int) 5 0 0 [.ref k, .int m] [ob k 8 [.int (nI th), .int (nI tr), .int wh, .null, va_rf rr, .ref (q 5), .int (nI (z 6)), .int (nI (z 7)), .int (nI (z 8)), .int (nI (z 9)), .int (nI (z 10)), .int nb, .int (nI (z 12)), .int wa, .long wd, .ref (q 15), .ref (q 16), .ref (q 17), .ref (q 18), .int (nI (z 19)), .int (nI (z 20)), .ref (q 21), .long (lN ev), .ref (q 23), .ref (q 24), .int (nI (z 25)), .ref (q 26), .int al, .long wl, .int (nI (z 29))]] (wrI [ob k 8 [.int (nI 0), .int (nI 1), .int (-1), .null, va_rf rr, .ref (q 5), .int (nI (z 6)), .int (nI (z 7)), .int (nI (z 8)), .int (nI (z 9)), .int (nI (z 10)), .int nb, .int (nI (z 12)), .int wa, .long wd, .ref (q 15), .ref (q 16), .ref (q 17), .ref (q 18), .int (nI (z 19)), .int (nI (z 20)), .ref (q 21), .long (lN ev), .ref (q 23), .ref (q 24), .int (nI (z 25)), .ref (q 26), .int al, .long wl, .int (nI (z 29))]] (-1)) := by
  refine Ct.intro (by decide +kernel) (Nat.le_of_ble_eq_true rfl) (lv := [(0, .ref k), (1, .int m)]) rfl ?_
  intro Z X Y
  refine v_aload_n X dX8_free_0 rfl 0 rfl ?_
  refine v_iconst X dX8_free_1 (v := nI 0) (by decide) ?_
  refine v_put X kcX8 fl_X8_43 dX8_free_2 0 rfl (ws' := [ob k 8 [.int (nI 0), .int (nI tr), .int wh, .null, va_rf rr, .ref (q 5), .int (nI (z 6)), .int (nI (z 7)), .int (nI (z 8)), .int (nI (z 9)), .int (nI (z 10)), .int nb, .int (nI (z 12)), .int wa, .long wd, .ref (q 15), .ref (q 16), .ref (q 17), .ref (q 18), .int (nI (z 19)), .int (nI (z 20)), .ref (q 21), .long (lN ev), .ref (q 23), .ref (q 24), .int (nI (z 25)), .ref (q 26), .int al, .long wl, .int (nI (z 29))]]) rfl rfl ?_
  refine v_aload_n X dX8_free_5 rfl 0 rfl ?_
  refine v_iload_n X dX8_free_6 rfl 1 rfl ?_
  refine v_roI1 X (rn_V X k_X8_isMan ml_X8_345 dX8_free_7 (c_X8_isMan_n l E k 0 tr wh rr q z nb wa wd ev al wl m ) rfl 0 rfl rfl (by decide) (by decide) (by omega) (by omega) (Nat.le_of_ble_eq_true rfl)) [0] rfl rfl ?_
  refine v_ifN_ne X dX8_free_10 (tgt := 19) (by decide) (by decide) (fun h10 => ?_) (fun h10 => ?_)
  · exfalso; omega
  · refine v_aload_n X dX8_free_13 rfl 0 rfl ?_
    refine v_iconst X dX8_free_14 (v := nI 1) (by decide) ?_
    refine v_wrI1 X (rn_V X k_X8_refused ml_X8_49 dX8_free_15 (c_X8_refused_n l E k 0 tr wh rr q z nb wa wd ev al wl 1 ) rfl 0 rfl rfl (by decide) (by decide) (by omega) (by omega) (Nat.le_of_ble_eq_true rfl)) [0] rfl rfl (ws' := [ob k 8 [.int (nI 0), .int (nI 1), .int (-1), .null, va_rf rr, .ref (q 5), .int (nI (z 6)), .int (nI (z 7)), .int (nI (z 8)), .int (nI (z 9)), .int (nI (z 10)), .int nb, .int (nI (z 12)), .int wa, .long wd, .ref (q 15), .ref (q 16), .ref (q 17), .ref (q 18), .int (nI (z 19)), .int (nI (z 20)), .ref (q 21), .long (lN ev), .ref (q 23), .ref (q 24), .int (nI (z 25)), .ref (q 26), .int al, .long wl, .int (nI (z 29))]]) rfl rfl ?_
    exact v_iret X Y dX8_free_18 (wrI_of rfl rfl) (by omega) (by omega)
set_option maxRecDepth 100000 in
set_option maxHeartbeats 4000000 in
theorem c_X8_cheap (l : Launch) (E : Et) (k : Nat) (th : Nat) (tr : Nat) (wh : Int32) (g : Nat) (rr : Option Nat) (q : Nat → Nat) (z : Nat → Nat) (nb : Int32) (wa : Int32) (wd : Int64) (ev : Nat) (al : Int32) (wl : Int64) (cy : Nat → Nat) (kp : Nat) (nc : Nat) (cb : Nat → Nat) (fo : Nat → Nat) (on : Nat → Nat) (tw : Nat → Int32) (xf : Nat → Int32) (mn : Nat → Int32) (ink : Nat → Nat) (t : Nat) (dd : Nat) (Fs : Nat → Nat) (Ft : Nat → Nat) (kf : Nat → Nat) (m : Int32) (hd : cy 4 ≤ 6) (hcl : cy 5 ≤ 8) (hfo : ∀ c, c < cy 5 → fo c ≤ 5) (hon : ∀ c, c < cy 5 → on c < 6) (htw : ∀ c, c < cy 5 → okT (tw c)) (hFs : ∀ c, c < cy 5 → Fs c = strN (fo c) (swI (nI (on c))) (swI (tw c))) (hFt : ∀ c, c < cy 5 → Ft c = turN (fo c) (swI (nI (on c))) (swI (tw c))) (hink : ∀ c, ink c ≤ 40) (hz : ∀ c, cy 5 ≤ c → ink c = 0) (hok : okM m (cy 3)) : Ct l E yX8_cheap cX8_cheap 2 (some .int) 5 0 0 [.ref k, .int m] [ob k 8 [.int (nI th), .int (nI tr), .int wh, .ref g, va_rf rr, .ref (q 5), .int (nI (z 6)), .int (nI (z 7)), .int (nI (z 8)), .int (nI (z 9)), .int (nI (z 10)), .int nb, .int (nI (z 12)), .int wa, .long wd, .ref (q 15), .ref (q 16), .ref (q 17), .ref (q 18), .int (nI (z 19)), .int (nI (z 20)), .ref (q 21), .long (lN ev), .ref (q 23), .ref (q 24), .int (nI (z 25)), .ref (q 26), .int al, .long wl, .int (nI (z 29))], ob g 7 [.int (nI (cy 0)), .int (nI (cy 1)), .int (nI (cy 2)), .int (nI (cy 3)), .int (nI (cy 4)), .int (nI (cy 5)), .int (nI (cy 6)), .int (nI (cy 7)), .int (nI kp), .int (nI nc), .ref (cb 0), .ref (cb 1), .ref (cb 2), .ref (cb 3), .ref (cb 4), .ref (cb 5), .ref (cb 6), .ref (cb 7), .ref (cb 8), .ref (cb 9), .ref (cb 10), .ref (cb 11)], aN E (cb 2) 8 fo, aN E (cb 3) 8 on, aI E (cb 4) 8 tw, aI E (q 15) 25 (xF mn ink t dd), aI E (q 16) 25 xf, aM E (q 21) 8 kf] (wrI [ob k 8 [.int (nI 0), .int (nI 0), .int (-1), .ref g, va_rf rr, .ref (q 5), .int (nI (z 6)), .int (nI (z 7)), .int (nI (z 8)), .int (nI (z 9)), .int (nI (z 10)), .int nb, .int (nI (z 12)), .int wa, .long wd, .ref (q 15), .ref (q 16), .ref (q 17), .ref (q 18), .int (nI (z 19)), .int (nI (z 20)), .ref (q 21), .long (lN (allS (cy 4))), .ref (q 23), .ref (q 24), .int (nI (z 25)), .ref (q 26), .int al, .long wl, .int (nI (z 29))], ob g 7 [.int (nI (cy 0)), .int (nI (cy 1)), .int (nI (cy 2)), .int (nI (cy 3)), .int (nI (cy 4)), .int (nI (cy 5)), .int (nI (cy 6)), .int (nI (cy 7)), .int (nI kp), .int (nI nc), .ref (cb 0), .ref (cb 1), .ref (cb 2), .ref (cb 3), .ref (cb 4), .ref (cb 5), .ref (cb 6), .ref (cb 7), .ref (cb 8), .ref (cb 9), .ref (cb 10), .ref (cb 11)], aN E (cb 2) 8 fo, aN E (cb 3) 8 on, aI E (cb 4) 8 tw, aI E (q 15) 25 (xF mn ink t dd), aI E (q 16) 25 (xF mn ink t dd), aM E (q 21) 8 (lyF Fs Ft t (cy 4) kf (cy 5))] (nI (bestF (fun p => decide (ndf p (bdN ink mn m 0) = 0 ∧ ¬ kpN cy Fs Ft t (ndf (bdN ink mn m 0) p) = 0)) (inkS ink) (bdN ink mn m 0) (bdN ink mn m 0 + 1)))) := by
  refine Ct.intro (by decide +kernel) (Nat.le_of_ble_eq_true rfl) (lv := [(0, .ref k), (1, .int m)]) rfl ?_
  intro Z X Y
  refine v_aload_n X dX8_cheap_0 rfl 0 rfl ?_
  refine v_iconst X dX8_cheap_1 (v := nI 0) (by decide) ?_
  refine v_put X kcX8 fl_X8_43 dX8_cheap_2 0 rfl (ws' := [ob k 8 [.int (nI 0), .int (nI tr), .int wh, .ref g, va_rf rr, .ref (q 5), .int (nI (z 6)), .int (nI (z 7)), .int (nI (z 8)), .int (nI (z 9)), .int (nI (z 10)), .int nb, .int (nI (z 12)), .int wa, .long wd, .ref (q 15), .ref (q 16), .ref (q 17), .ref (q 18), .int (nI (z 19)), .int (nI (z 20)), .ref (q 21), .long (lN ev), .ref (q 23), .ref (q 24), .int (nI (z 25)), .ref (q 26), .int al, .long wl, .int (nI (z 29))], ob g 7 [.int (nI (cy 0)), .int (nI (cy 1)), .int (nI (cy 2)), .int (nI (cy 3)), .int (nI (cy 4)), .int (nI (cy 5)), .int (nI (cy 6)), .int (nI (cy 7)), .int (nI kp), .int (nI nc), .ref (cb 0), .ref (cb 1), .ref (cb 2), .ref (cb 3), .ref (cb 4), .ref (cb 5), .ref (cb 6), .ref (cb 7), .ref (cb 8), .ref (cb 9), .ref (cb 10), .ref (cb 11)], aN E (cb 2) 8 fo, aN E (cb 3) 8 on, aI E (cb 4) 8 tw, aI E (q 15) 25 (xF mn ink t dd), aI E (q 16) 25 xf, aM E (q 21) 8 kf]) rfl rfl ?_
  refine v_aload_n X dX8_cheap_5 rfl 0 rfl ?_
  refine v_iload_n X dX8_cheap_6 rfl 1 rfl ?_
  refine v_roI1 X (rn_V X k_X8_isMan ml_X8_345 dX8_cheap_7 (c_X8_isMan l E k 0 tr wh g rr q z nb wa wd ev al wl cy kp nc cb m ) rfl 0 rfl rfl (by decide) (by decide) (by omega) (by omega) (Nat.le_of_ble_eq_true rfl)) [0, 1] rfl rfl ?_
  refine v_ifB_ne X dX8_cheap_10 (tgt := 19) (by decide) (fun h10 => ?_) (fun h10 => ?_)
  · refine v_aload_n X dX8_cheap_19 rfl 0 rfl ?_
    refine v_wrV1 X (rn_V X k_X8_worksLaid ml_X8_354 dX8_cheap_20 (c_X8_worksLaid l E k 0 tr wh g rr q z nb wa wd ev al wl cy kp nc cb fo on tw xf mn ink t dd Fs Ft kf (by first | assumption | omega) (by first | assumption | omega) (by first | assumption | omega) (by first | assumption | omega) (by first | assumption | omega) (by first | assumption | omega) (by first | assumption | omega)) rfl 0 rfl rfl (by decide) (by decide) (by omega) (by omega) (Nat.le_of_ble_eq_true rfl)) [0, 1, 2, 3, 4, 5, 6, 7] rfl rfl (ws' := [ob k 8 [.int (nI 0), .int (nI tr), .int wh, .ref g, va_rf rr, .ref (q 5), .int (nI (z 6)), .int (nI (z 7)), .int (nI (z 8)), .int (nI (z 9)), .int (nI (z 10)), .int nb, .int (nI (z 12)), .int wa, .long wd, .ref (q 15), .ref (q 16), .ref (q 17), .ref (q 18), .int (nI (z 19)), .int (nI (z 20)), .ref (q 21), .long (lN (allS (cy 4))), .ref (q 23), .ref (q 24), .int (nI (z 25)), .ref (q 26), .int al, .long wl, .int (nI (z 29))], ob g 7 [.int (nI (cy 0)), .int (nI (cy 1)), .int (nI (cy 2)), .int (nI (cy 3)), .int (nI (cy 4)), .int (nI (cy 5)), .int (nI (cy 6)), .int (nI (cy 7)), .int (nI kp), .int (nI nc), .ref (cb 0), .ref (cb 1), .ref (cb 2), .ref (cb 3), .ref (cb 4), .ref (cb 5), .ref (cb 6), .ref (cb 7), .ref (cb 8), .ref (cb 9), .ref (cb 10), .ref (cb 11)], aN E (cb 2) 8 fo, aN E (cb 3) 8 on, aI E (cb 4) 8 tw, aI E (q 15) 25 (xF mn ink t dd), aI E (q 16) 25 (xF mn ink t dd), aM E (q 21) 8 (lyF Fs Ft t (cy 4) kf (cy 5))]) rfl rfl ?_
    refine v_aload_n X dX8_cheap_23 rfl 0 rfl ?_
    refine v_aload_n X dX8_cheap_24 rfl 0 rfl ?_
    refine v_iload_n X dX8_cheap_25 rfl 1 rfl ?_
    refine v_iconst X dX8_cheap_26 (v := nI 0) (by decide) ?_
    refine v_roI1 X (rn_V X k_X8_freeing ml_X8_374 dX8_cheap_27 (c_X8_freeing_ink l E k 0 tr wh g rr q z nb wa wd al wl cy kp nc cb mn ink t dd Fs Ft kf m (by first | assumption | omega) (by first | assumption | omega) (by first | assumption | omega) (by first | assumption | omega)) rfl 0 rfl rfl (by decide) (by decide) (by omega) (by omega) (Nat.le_of_ble_eq_true rfl)) [0, 1, 6, 7] rfl rfl ?_
    refine v_wrI1 X (rn_V X k_X8_good ml_X8_53 dX8_cheap_30 (c_X8_good l E k 0 tr wh g rr q z nb wa wd (allS (cy 4)) al wl (nI (bestF (fun p => decide (ndf p (bdN ink mn m 0) = 0 ∧ ¬ kpN cy Fs Ft t (ndf (bdN ink mn m 0) p) = 0)) (inkS ink) (bdN ink mn m 0) (bdN ink mn m 0 + 1))) ) rfl 0 rfl rfl (by decide) (by decide) (by omega) (by omega) (Nat.le_of_ble_eq_true rfl)) [0] rfl rfl (ws' := [ob k 8 [.int (nI 0), .int (nI 0), .int (-1), .ref g, va_rf rr, .ref (q 5), .int (nI (z 6)), .int (nI (z 7)), .int (nI (z 8)), .int (nI (z 9)), .int (nI (z 10)), .int nb, .int (nI (z 12)), .int wa, .long wd, .ref (q 15), .ref (q 16), .ref (q 17), .ref (q 18), .int (nI (z 19)), .int (nI (z 20)), .ref (q 21), .long (lN (allS (cy 4))), .ref (q 23), .ref (q 24), .int (nI (z 25)), .ref (q 26), .int al, .long wl, .int (nI (z 29))], ob g 7 [.int (nI (cy 0)), .int (nI (cy 1)), .int (nI (cy 2)), .int (nI (cy 3)), .int (nI (cy 4)), .int (nI (cy 5)), .int (nI (cy 6)), .int (nI (cy 7)), .int (nI kp), .int (nI nc), .ref (cb 0), .ref (cb 1), .ref (cb 2), .ref (cb 3), .ref (cb 4), .ref (cb 5), .ref (cb 6), .ref (cb 7), .ref (cb 8), .ref (cb 9), .ref (cb 10), .ref (cb 11)], aN E (cb 2) 8 fo, aN E (cb 3) 8 on, aI E (cb 4) 8 tw, aI E (q 15) 25 (xF mn ink t dd), aI E (q 16) 25 (xF mn ink t dd), aM E (q 21) 8 (lyF Fs Ft t (cy 4) kf (cy 5))]) rfl rfl ?_
    exact v_iret X Y dX8_cheap_33 (wrI_of rfl (rfl)) (by omega) (by omega)
  · exact absurd hok (of_decide_eq_false h10)
set_option maxRecDepth 100000 in
set_option maxHeartbeats 4000000 in
theorem c_X8_cheap_no (l : Launch) (E : Et) (k : Nat) (th : Nat) (tr : Nat) (wh : Int32) (g : Nat) (rr : Option Nat) (q : Nat → Nat) (z : Nat → Nat) (nb : Int32) (wa : Int32) (wd : Int64) (ev : Nat) (al : Int32) (wl : Int64) (cy : Nat → Nat) (kp : Nat) (nc : Nat) (cb : Nat → Nat) (m : Int32) (hno : ¬ okM m (cy 3)) : Ct l E yX8_cheap cX8_cheap 2 (some .int) 5 0 0 [.ref k, .int m] [ob k 8 [.int (nI th), .int (nI tr), .int wh, .ref g, va_rf rr, .ref (q 5), .int (nI (z 6)), .int (nI (z 7)), .int (nI (z 8)), .int (nI (z 9)), .int (nI (z 10)), .int nb, .int (nI (z 12)), .int wa, .long wd, .ref (q 15), .ref (q 16), .ref (q 17), .ref (q 18), .int (nI (z 19)), .int (nI (z 20)), .ref (q 21), .long (lN ev), .ref (q 23), .ref (q 24), .int (nI (z 25)), .ref (q 26), .int al, .long wl, .int (nI (z 29))], ob g 7 [.int (nI (cy 0)), .int (nI (cy 1)), .int (nI (cy 2)), .int (nI (cy 3)), .int (nI (cy 4)), .int (nI (cy 5)), .int (nI (cy 6)), .int (nI (cy 7)), .int (nI kp), .int (nI nc), .ref (cb 0), .ref (cb 1), .ref (cb 2), .ref (cb 3), .ref (cb 4), .ref (cb 5), .ref (cb 6), .ref (cb 7), .ref (cb 8), .ref (cb 9), .ref (cb 10), .ref (cb 11)]] (wrI [ob k 8 [.int (nI 0), .int (nI 1), .int (-1), .ref g, va_rf rr, .ref (q 5), .int (nI (z 6)), .int (nI (z 7)), .int (nI (z 8)), .int (nI (z 9)), .int (nI (z 10)), .int nb, .int (nI (z 12)), .int wa, .long wd, .ref (q 15), .ref (q 16), .ref (q 17), .ref (q 18), .int (nI (z 19)), .int (nI (z 20)), .ref (q 21), .long (lN ev), .ref (q 23), .ref (q 24), .int (nI (z 25)), .ref (q 26), .int al, .long wl, .int (nI (z 29))], ob g 7 [.int (nI (cy 0)), .int (nI (cy 1)), .int (nI (cy 2)), .int (nI (cy 3)), .int (nI (cy 4)), .int (nI (cy 5)), .int (nI (cy 6)), .int (nI (cy 7)), .int (nI kp), .int (nI nc), .ref (cb 0), .ref (cb 1), .ref (cb 2), .ref (cb 3), .ref (cb 4), .ref (cb 5), .ref (cb 6), .ref (cb 7), .ref (cb 8), .ref (cb 9), .ref (cb 10), .ref (cb 11)]] (-1)) := by
  refine Ct.intro (by decide +kernel) (Nat.le_of_ble_eq_true rfl) (lv := [(0, .ref k), (1, .int m)]) rfl ?_
  intro Z X Y
  refine v_aload_n X dX8_cheap_0 rfl 0 rfl ?_
  refine v_iconst X dX8_cheap_1 (v := nI 0) (by decide) ?_
  refine v_put X kcX8 fl_X8_43 dX8_cheap_2 0 rfl (ws' := [ob k 8 [.int (nI 0), .int (nI tr), .int wh, .ref g, va_rf rr, .ref (q 5), .int (nI (z 6)), .int (nI (z 7)), .int (nI (z 8)), .int (nI (z 9)), .int (nI (z 10)), .int nb, .int (nI (z 12)), .int wa, .long wd, .ref (q 15), .ref (q 16), .ref (q 17), .ref (q 18), .int (nI (z 19)), .int (nI (z 20)), .ref (q 21), .long (lN ev), .ref (q 23), .ref (q 24), .int (nI (z 25)), .ref (q 26), .int al, .long wl, .int (nI (z 29))], ob g 7 [.int (nI (cy 0)), .int (nI (cy 1)), .int (nI (cy 2)), .int (nI (cy 3)), .int (nI (cy 4)), .int (nI (cy 5)), .int (nI (cy 6)), .int (nI (cy 7)), .int (nI kp), .int (nI nc), .ref (cb 0), .ref (cb 1), .ref (cb 2), .ref (cb 3), .ref (cb 4), .ref (cb 5), .ref (cb 6), .ref (cb 7), .ref (cb 8), .ref (cb 9), .ref (cb 10), .ref (cb 11)]]) rfl rfl ?_
  refine v_aload_n X dX8_cheap_5 rfl 0 rfl ?_
  refine v_iload_n X dX8_cheap_6 rfl 1 rfl ?_
  refine v_roI1 X (rn_V X k_X8_isMan ml_X8_345 dX8_cheap_7 (c_X8_isMan l E k 0 tr wh g rr q z nb wa wd ev al wl cy kp nc cb m ) rfl 0 rfl rfl (by decide) (by decide) (by omega) (by omega) (Nat.le_of_ble_eq_true rfl)) [0, 1] rfl rfl ?_
  refine v_ifB_ne X dX8_cheap_10 (tgt := 19) (by decide) (fun h10 => ?_) (fun h10 => ?_)
  · exact absurd (of_decide_eq_true h10) hno
  · refine v_aload_n X dX8_cheap_13 rfl 0 rfl ?_
    refine v_iconst X dX8_cheap_14 (v := nI 1) (by decide) ?_
    refine v_wrI1 X (rn_V X k_X8_refused ml_X8_49 dX8_cheap_15 (c_X8_refused l E k 0 tr wh g rr q z nb wa wd ev al wl 1 ) rfl 0 rfl rfl (by decide) (by decide) (by omega) (by omega) (Nat.le_of_ble_eq_true rfl)) [0] rfl rfl (ws' := [ob k 8 [.int (nI 0), .int (nI 1), .int (-1), .ref g, va_rf rr, .ref (q 5), .int (nI (z 6)), .int (nI (z 7)), .int (nI (z 8)), .int (nI (z 9)), .int (nI (z 10)), .int nb, .int (nI (z 12)), .int wa, .long wd, .ref (q 15), .ref (q 16), .ref (q 17), .ref (q 18), .int (nI (z 19)), .int (nI (z 20)), .ref (q 21), .long (lN ev), .ref (q 23), .ref (q 24), .int (nI (z 25)), .ref (q 26), .int al, .long wl, .int (nI (z 29))], ob g 7 [.int (nI (cy 0)), .int (nI (cy 1)), .int (nI (cy 2)), .int (nI (cy 3)), .int (nI (cy 4)), .int (nI (cy 5)), .int (nI (cy 6)), .int (nI (cy 7)), .int (nI kp), .int (nI nc), .ref (cb 0), .ref (cb 1), .ref (cb 2), .ref (cb 3), .ref (cb 4), .ref (cb 5), .ref (cb 6), .ref (cb 7), .ref (cb 8), .ref (cb 9), .ref (cb 10), .ref (cb 11)]]) rfl rfl ?_
    exact v_iret X Y dX8_cheap_18 (wrI_of rfl rfl) (by omega) (by omega)
set_option maxRecDepth 100000 in
set_option maxHeartbeats 4000000 in
theorem c_X8_cheap_n (l : Launch) (E : Et) (k : Nat) (th : Nat) (tr : Nat) (wh : Int32) (rr : Option Nat) (q : Nat → Nat) (z : Nat → Nat) (nb : Int32) (wa : Int32) (wd : Int64) (ev : Nat) (al : Int32) (wl : Int64) (m : Int32)  : Ct l E yX8_cheap cX8_cheap 2 (some .int) 5 0 0 [.ref k, .int m] [ob k 8 [.int (nI th), .int (nI tr), .int wh, .null, va_rf rr, .ref (q 5), .int (nI (z 6)), .int (nI (z 7)), .int (nI (z 8)), .int (nI (z 9)), .int (nI (z 10)), .int nb, .int (nI (z 12)), .int wa, .long wd, .ref (q 15), .ref (q 16), .ref (q 17), .ref (q 18), .int (nI (z 19)), .int (nI (z 20)), .ref (q 21), .long (lN ev), .ref (q 23), .ref (q 24), .int (nI (z 25)), .ref (q 26), .int al, .long wl, .int (nI (z 29))]] (wrI [ob k 8 [.int (nI 0), .int (nI 1), .int (-1), .null, va_rf rr, .ref (q 5), .int (nI (z 6)), .int (nI (z 7)), .int (nI (z 8)), .int (nI (z 9)), .int (nI (z 10)), .int nb, .int (nI (z 12)), .int wa, .long wd, .ref (q 15), .ref (q 16), .ref (q 17), .ref (q 18), .int (nI (z 19)), .int (nI (z 20)), .ref (q 21), .long (lN ev), .ref (q 23), .ref (q 24), .int (nI (z 25)), .ref (q 26), .int al, .long wl, .int (nI (z 29))]] (-1)) := by
  refine Ct.intro (by decide +kernel) (Nat.le_of_ble_eq_true rfl) (lv := [(0, .ref k), (1, .int m)]) rfl ?_
  intro Z X Y
  refine v_aload_n X dX8_cheap_0 rfl 0 rfl ?_
  refine v_iconst X dX8_cheap_1 (v := nI 0) (by decide) ?_
  refine v_put X kcX8 fl_X8_43 dX8_cheap_2 0 rfl (ws' := [ob k 8 [.int (nI 0), .int (nI tr), .int wh, .null, va_rf rr, .ref (q 5), .int (nI (z 6)), .int (nI (z 7)), .int (nI (z 8)), .int (nI (z 9)), .int (nI (z 10)), .int nb, .int (nI (z 12)), .int wa, .long wd, .ref (q 15), .ref (q 16), .ref (q 17), .ref (q 18), .int (nI (z 19)), .int (nI (z 20)), .ref (q 21), .long (lN ev), .ref (q 23), .ref (q 24), .int (nI (z 25)), .ref (q 26), .int al, .long wl, .int (nI (z 29))]]) rfl rfl ?_
  refine v_aload_n X dX8_cheap_5 rfl 0 rfl ?_
  refine v_iload_n X dX8_cheap_6 rfl 1 rfl ?_
  refine v_roI1 X (rn_V X k_X8_isMan ml_X8_345 dX8_cheap_7 (c_X8_isMan_n l E k 0 tr wh rr q z nb wa wd ev al wl m ) rfl 0 rfl rfl (by decide) (by decide) (by omega) (by omega) (Nat.le_of_ble_eq_true rfl)) [0] rfl rfl ?_
  refine v_ifN_ne X dX8_cheap_10 (tgt := 19) (by decide) (by decide) (fun h10 => ?_) (fun h10 => ?_)
  · exfalso; omega
  · refine v_aload_n X dX8_cheap_13 rfl 0 rfl ?_
    refine v_iconst X dX8_cheap_14 (v := nI 1) (by decide) ?_
    refine v_wrI1 X (rn_V X k_X8_refused ml_X8_49 dX8_cheap_15 (c_X8_refused_n l E k 0 tr wh rr q z nb wa wd ev al wl 1 ) rfl 0 rfl rfl (by decide) (by decide) (by omega) (by omega) (Nat.le_of_ble_eq_true rfl)) [0] rfl rfl (ws' := [ob k 8 [.int (nI 0), .int (nI 1), .int (-1), .null, va_rf rr, .ref (q 5), .int (nI (z 6)), .int (nI (z 7)), .int (nI (z 8)), .int (nI (z 9)), .int (nI (z 10)), .int nb, .int (nI (z 12)), .int wa, .long wd, .ref (q 15), .ref (q 16), .ref (q 17), .ref (q 18), .int (nI (z 19)), .int (nI (z 20)), .ref (q 21), .long (lN ev), .ref (q 23), .ref (q 24), .int (nI (z 25)), .ref (q 26), .int al, .long wl, .int (nI (z 29))]]) rfl rfl ?_
    exact v_iret X Y dX8_cheap_18 (wrI_of rfl rfl) (by omega) (by omega)
set_option maxRecDepth 100000 in
set_option maxHeartbeats 4000000 in
theorem c_X8_price (l : Launch) (E : Et) (k : Nat) (th : Nat) (tr : Nat) (wh : Int32) (g : Nat) (rr : Option Nat) (q : Nat → Nat) (z : Nat → Nat) (nb : Int32) (wa : Int32) (wd : Int64) (ev : Nat) (al : Int32) (wl : Int64) (cy : Nat → Nat) (kp : Nat) (nc : Nat) (cb : Nat → Nat) (fo : Nat → Nat) (on : Nat → Nat) (tw : Nat → Int32) (xf : Nat → Int32) (mn : Nat → Int32) (ink : Nat → Nat) (t : Nat) (dd : Nat) (Fs : Nat → Nat) (Ft : Nat → Nat) (kf : Nat → Nat) (m : Int32) (hd : cy 4 ≤ 6) (hcl : cy 5 ≤ 8) (hfo : ∀ c, c < cy 5 → fo c ≤ 5) (hon : ∀ c, c < cy 5 → on c < 6) (htw : ∀ c, c < cy 5 → okT (tw c)) (hFs : ∀ c, c < cy 5 → Fs c = strN (fo c) (swI (nI (on c))) (swI (tw c))) (hFt : ∀ c, c < cy 5 → Ft c = turN (fo c) (swI (nI (on c))) (swI (tw c))) (hink : ∀ c, ink c ≤ 40) (hz : ∀ c, cy 5 ≤ c → ink c = 0) (hok : okM m (cy 3)) : Ct l E yX8_price cX8_price 2 (some .int) 5 0 0 [.ref k, .int m] [ob k 8 [.int (nI th), .int (nI tr), .int wh, .ref g, va_rf rr, .ref (q 5), .int (nI (z 6)), .int (nI (z 7)), .int (nI (z 8)), .int (nI (z 9)), .int (nI (z 10)), .int nb, .int (nI (z 12)), .int wa, .long wd, .ref (q 15), .ref (q 16), .ref (q 17), .ref (q 18), .int (nI (z 19)), .int (nI (z 20)), .ref (q 21), .long (lN ev), .ref (q 23), .ref (q 24), .int (nI (z 25)), .ref (q 26), .int al, .long wl, .int (nI (z 29))], ob g 7 [.int (nI (cy 0)), .int (nI (cy 1)), .int (nI (cy 2)), .int (nI (cy 3)), .int (nI (cy 4)), .int (nI (cy 5)), .int (nI (cy 6)), .int (nI (cy 7)), .int (nI kp), .int (nI nc), .ref (cb 0), .ref (cb 1), .ref (cb 2), .ref (cb 3), .ref (cb 4), .ref (cb 5), .ref (cb 6), .ref (cb 7), .ref (cb 8), .ref (cb 9), .ref (cb 10), .ref (cb 11)], aN E (cb 2) 8 fo, aN E (cb 3) 8 on, aI E (cb 4) 8 tw, aI E (q 15) 25 (xF mn ink t dd), aI E (q 16) 25 xf, aM E (q 21) 8 kf] (wrI [ob k 8 [.int (nI 0), .int (nI 0), .int (-1), .ref g, va_rf rr, .ref (q 5), .int (nI (z 6)), .int (nI (z 7)), .int (nI (z 8)), .int (nI (z 9)), .int (nI (z 10)), .int nb, .int (nI (z 12)), .int wa, .long wd, .ref (q 15), .ref (q 16), .ref (q 17), .ref (q 18), .int (nI (z 19)), .int (nI (z 20)), .ref (q 21), .long (lN (allS (cy 4))), .ref (q 23), .ref (q 24), .int (nI (z 25)), .ref (q 26), .int al, .long wl, .int (nI (z 29))], ob g 7 [.int (nI (cy 0)), .int (nI (cy 1)), .int (nI (cy 2)), .int (nI (cy 3)), .int (nI (cy 4)), .int (nI (cy 5)), .int (nI (cy 6)), .int (nI (cy 7)), .int (nI kp), .int (nI nc), .ref (cb 0), .ref (cb 1), .ref (cb 2), .ref (cb 3), .ref (cb 4), .ref (cb 5), .ref (cb 6), .ref (cb 7), .ref (cb 8), .ref (cb 9), .ref (cb 10), .ref (cb 11)], aN E (cb 2) 8 fo, aN E (cb 3) 8 on, aI E (cb 4) 8 tw, aI E (q 15) 25 (xF mn ink t dd), aI E (q 16) 25 (xF mn ink t dd), aM E (q 21) 8 (lyF Fs Ft t (cy 4) kf (cy 5))] (nI (inkS ink (bestF (fun p => decide (ndf p (bdN ink mn m 0) = 0 ∧ ¬ kpN cy Fs Ft t (ndf (bdN ink mn m 0) p) = 0)) (inkS ink) (bdN ink mn m 0) (bdN ink mn m 0 + 1))))) := by
  refine Ct.intro (by decide +kernel) (Nat.le_of_ble_eq_true rfl) (lv := [(0, .ref k), (1, .int m)]) rfl ?_
  intro Z X Y
  refine v_aload_n X dX8_price_0 rfl 0 rfl ?_
  refine v_iconst X dX8_price_1 (v := nI 0) (by decide) ?_
  refine v_put X kcX8 fl_X8_43 dX8_price_2 0 rfl (ws' := [ob k 8 [.int (nI 0), .int (nI tr), .int wh, .ref g, va_rf rr, .ref (q 5), .int (nI (z 6)), .int (nI (z 7)), .int (nI (z 8)), .int (nI (z 9)), .int (nI (z 10)), .int nb, .int (nI (z 12)), .int wa, .long wd, .ref (q 15), .ref (q 16), .ref (q 17), .ref (q 18), .int (nI (z 19)), .int (nI (z 20)), .ref (q 21), .long (lN ev), .ref (q 23), .ref (q 24), .int (nI (z 25)), .ref (q 26), .int al, .long wl, .int (nI (z 29))], ob g 7 [.int (nI (cy 0)), .int (nI (cy 1)), .int (nI (cy 2)), .int (nI (cy 3)), .int (nI (cy 4)), .int (nI (cy 5)), .int (nI (cy 6)), .int (nI (cy 7)), .int (nI kp), .int (nI nc), .ref (cb 0), .ref (cb 1), .ref (cb 2), .ref (cb 3), .ref (cb 4), .ref (cb 5), .ref (cb 6), .ref (cb 7), .ref (cb 8), .ref (cb 9), .ref (cb 10), .ref (cb 11)], aN E (cb 2) 8 fo, aN E (cb 3) 8 on, aI E (cb 4) 8 tw, aI E (q 15) 25 (xF mn ink t dd), aI E (q 16) 25 xf, aM E (q 21) 8 kf]) rfl rfl ?_
  refine v_aload_n X dX8_price_5 rfl 0 rfl ?_
  refine v_iload_n X dX8_price_6 rfl 1 rfl ?_
  refine v_roI1 X (rn_V X k_X8_isMan ml_X8_345 dX8_price_7 (c_X8_isMan l E k 0 tr wh g rr q z nb wa wd ev al wl cy kp nc cb m ) rfl 0 rfl rfl (by decide) (by decide) (by omega) (by omega) (Nat.le_of_ble_eq_true rfl)) [0, 1] rfl rfl ?_
  refine v_ifB_ne X dX8_price_10 (tgt := 19) (by decide) (fun h10 => ?_) (fun h10 => ?_)
  · refine v_aload_n X dX8_price_19 rfl 0 rfl ?_
    refine v_wrV1 X (rn_V X k_X8_worksLaid ml_X8_354 dX8_price_20 (c_X8_worksLaid l E k 0 tr wh g rr q z nb wa wd ev al wl cy kp nc cb fo on tw xf mn ink t dd Fs Ft kf (by first | assumption | omega) (by first | assumption | omega) (by first | assumption | omega) (by first | assumption | omega) (by first | assumption | omega) (by first | assumption | omega) (by first | assumption | omega)) rfl 0 rfl rfl (by decide) (by decide) (by omega) (by omega) (Nat.le_of_ble_eq_true rfl)) [0, 1, 2, 3, 4, 5, 6, 7] rfl rfl (ws' := [ob k 8 [.int (nI 0), .int (nI tr), .int wh, .ref g, va_rf rr, .ref (q 5), .int (nI (z 6)), .int (nI (z 7)), .int (nI (z 8)), .int (nI (z 9)), .int (nI (z 10)), .int nb, .int (nI (z 12)), .int wa, .long wd, .ref (q 15), .ref (q 16), .ref (q 17), .ref (q 18), .int (nI (z 19)), .int (nI (z 20)), .ref (q 21), .long (lN (allS (cy 4))), .ref (q 23), .ref (q 24), .int (nI (z 25)), .ref (q 26), .int al, .long wl, .int (nI (z 29))], ob g 7 [.int (nI (cy 0)), .int (nI (cy 1)), .int (nI (cy 2)), .int (nI (cy 3)), .int (nI (cy 4)), .int (nI (cy 5)), .int (nI (cy 6)), .int (nI (cy 7)), .int (nI kp), .int (nI nc), .ref (cb 0), .ref (cb 1), .ref (cb 2), .ref (cb 3), .ref (cb 4), .ref (cb 5), .ref (cb 6), .ref (cb 7), .ref (cb 8), .ref (cb 9), .ref (cb 10), .ref (cb 11)], aN E (cb 2) 8 fo, aN E (cb 3) 8 on, aI E (cb 4) 8 tw, aI E (q 15) 25 (xF mn ink t dd), aI E (q 16) 25 (xF mn ink t dd), aM E (q 21) 8 (lyF Fs Ft t (cy 4) kf (cy 5))]) rfl rfl ?_
    refine v_aload_n X dX8_price_23 rfl 0 rfl ?_
    refine v_aload_n X dX8_price_24 rfl 0 rfl ?_
    refine v_aload_n X dX8_price_25 rfl 0 rfl ?_
    refine v_iload_n X dX8_price_26 rfl 1 rfl ?_
    refine v_iconst X dX8_price_27 (v := nI 0) (by decide) ?_
    refine v_roI1 X (rn_V X k_X8_freeing ml_X8_374 dX8_price_28 (c_X8_freeing_ink l E k 0 tr wh g rr q z nb wa wd al wl cy kp nc cb mn ink t dd Fs Ft kf m (by first | assumption | omega) (by first | assumption | omega) (by first | assumption | omega) (by first | assumption | omega)) rfl 0 rfl rfl (by decide) (by decide) (by omega) (by omega) (Nat.le_of_ble_eq_true rfl)) [0, 1, 6, 7] rfl rfl ?_
    refine v_roI1 X (rn_V X k_X8_inkOf ml_X8_348 dX8_price_31 (c_X8_inkOfB l E k 0 tr wh g rr q z nb wa wd (allS (cy 4)) al wl cy kp nc cb mn ink t dd (bestF (fun p => decide (ndf p (bdN ink mn m 0) = 0 ∧ ¬ kpN cy Fs Ft t (ndf (bdN ink mn m 0) p) = 0)) (inkS ink) (bdN ink mn m 0) (bdN ink mn m 0 + 1)) (by first | assumption | omega) (Nat.lt_of_le_of_lt (bestF_le (Nat.le_refl _)) (Nat.lt_trans (bdN_lt _ _ _ _) (by decide))) (by first | assumption | omega)) rfl 0 rfl rfl (by decide) (by decide) (by omega) (by omega) (Nat.le_of_ble_eq_true rfl)) [0, 1, 6] rfl rfl ?_
    refine v_wrI1 X (rn_V X k_X8_good ml_X8_53 dX8_price_34 (c_X8_good l E k 0 tr wh g rr q z nb wa wd (allS (cy 4)) al wl (nI (inkS ink (bestF (fun p => decide (ndf p (bdN ink mn m 0) = 0 ∧ ¬ kpN cy Fs Ft t (ndf (bdN ink mn m 0) p) = 0)) (inkS ink) (bdN ink mn m 0) (bdN ink mn m 0 + 1)))) ) rfl 0 rfl rfl (by decide) (by decide) (by omega) (by omega) (Nat.le_of_ble_eq_true rfl)) [0] rfl rfl (ws' := [ob k 8 [.int (nI 0), .int (nI 0), .int (-1), .ref g, va_rf rr, .ref (q 5), .int (nI (z 6)), .int (nI (z 7)), .int (nI (z 8)), .int (nI (z 9)), .int (nI (z 10)), .int nb, .int (nI (z 12)), .int wa, .long wd, .ref (q 15), .ref (q 16), .ref (q 17), .ref (q 18), .int (nI (z 19)), .int (nI (z 20)), .ref (q 21), .long (lN (allS (cy 4))), .ref (q 23), .ref (q 24), .int (nI (z 25)), .ref (q 26), .int al, .long wl, .int (nI (z 29))], ob g 7 [.int (nI (cy 0)), .int (nI (cy 1)), .int (nI (cy 2)), .int (nI (cy 3)), .int (nI (cy 4)), .int (nI (cy 5)), .int (nI (cy 6)), .int (nI (cy 7)), .int (nI kp), .int (nI nc), .ref (cb 0), .ref (cb 1), .ref (cb 2), .ref (cb 3), .ref (cb 4), .ref (cb 5), .ref (cb 6), .ref (cb 7), .ref (cb 8), .ref (cb 9), .ref (cb 10), .ref (cb 11)], aN E (cb 2) 8 fo, aN E (cb 3) 8 on, aI E (cb 4) 8 tw, aI E (q 15) 25 (xF mn ink t dd), aI E (q 16) 25 (xF mn ink t dd), aM E (q 21) 8 (lyF Fs Ft t (cy 4) kf (cy 5))]) rfl rfl ?_
    exact v_iret X Y dX8_price_37 (wrI_of rfl (rfl)) (by omega) (by omega)
  · exact absurd hok (of_decide_eq_false h10)
set_option maxRecDepth 100000 in
set_option maxHeartbeats 4000000 in
theorem c_X8_price_no (l : Launch) (E : Et) (k : Nat) (th : Nat) (tr : Nat) (wh : Int32) (g : Nat) (rr : Option Nat) (q : Nat → Nat) (z : Nat → Nat) (nb : Int32) (wa : Int32) (wd : Int64) (ev : Nat) (al : Int32) (wl : Int64) (cy : Nat → Nat) (kp : Nat) (nc : Nat) (cb : Nat → Nat) (m : Int32) (hno : ¬ okM m (cy 3)) : Ct l E yX8_price cX8_price 2 (some .int) 5 0 0 [.ref k, .int m] [ob k 8 [.int (nI th), .int (nI tr), .int wh, .ref g, va_rf rr, .ref (q 5), .int (nI (z 6)), .int (nI (z 7)), .int (nI (z 8)), .int (nI (z 9)), .int (nI (z 10)), .int nb, .int (nI (z 12)), .int wa, .long wd, .ref (q 15), .ref (q 16), .ref (q 17), .ref (q 18), .int (nI (z 19)), .int (nI (z 20)), .ref (q 21), .long (lN ev), .ref (q 23), .ref (q 24), .int (nI (z 25)), .ref (q 26), .int al, .long wl, .int (nI (z 29))], ob g 7 [.int (nI (cy 0)), .int (nI (cy 1)), .int (nI (cy 2)), .int (nI (cy 3)), .int (nI (cy 4)), .int (nI (cy 5)), .int (nI (cy 6)), .int (nI (cy 7)), .int (nI kp), .int (nI nc), .ref (cb 0), .ref (cb 1), .ref (cb 2), .ref (cb 3), .ref (cb 4), .ref (cb 5), .ref (cb 6), .ref (cb 7), .ref (cb 8), .ref (cb 9), .ref (cb 10), .ref (cb 11)]] (wrI [ob k 8 [.int (nI 0), .int (nI 1), .int (-1), .ref g, va_rf rr, .ref (q 5), .int (nI (z 6)), .int (nI (z 7)), .int (nI (z 8)), .int (nI (z 9)), .int (nI (z 10)), .int nb, .int (nI (z 12)), .int wa, .long wd, .ref (q 15), .ref (q 16), .ref (q 17), .ref (q 18), .int (nI (z 19)), .int (nI (z 20)), .ref (q 21), .long (lN ev), .ref (q 23), .ref (q 24), .int (nI (z 25)), .ref (q 26), .int al, .long wl, .int (nI (z 29))], ob g 7 [.int (nI (cy 0)), .int (nI (cy 1)), .int (nI (cy 2)), .int (nI (cy 3)), .int (nI (cy 4)), .int (nI (cy 5)), .int (nI (cy 6)), .int (nI (cy 7)), .int (nI kp), .int (nI nc), .ref (cb 0), .ref (cb 1), .ref (cb 2), .ref (cb 3), .ref (cb 4), .ref (cb 5), .ref (cb 6), .ref (cb 7), .ref (cb 8), .ref (cb 9), .ref (cb 10), .ref (cb 11)]] (-1)) := by
  refine Ct.intro (by decide +kernel) (Nat.le_of_ble_eq_true rfl) (lv := [(0, .ref k), (1, .int m)]) rfl ?_
  intro Z X Y
  refine v_aload_n X dX8_price_0 rfl 0 rfl ?_
  refine v_iconst X dX8_price_1 (v := nI 0) (by decide) ?_
  refine v_put X kcX8 fl_X8_43 dX8_price_2 0 rfl (ws' := [ob k 8 [.int (nI 0), .int (nI tr), .int wh, .ref g, va_rf rr, .ref (q 5), .int (nI (z 6)), .int (nI (z 7)), .int (nI (z 8)), .int (nI (z 9)), .int (nI (z 10)), .int nb, .int (nI (z 12)), .int wa, .long wd, .ref (q 15), .ref (q 16), .ref (q 17), .ref (q 18), .int (nI (z 19)), .int (nI (z 20)), .ref (q 21), .long (lN ev), .ref (q 23), .ref (q 24), .int (nI (z 25)), .ref (q 26), .int al, .long wl, .int (nI (z 29))], ob g 7 [.int (nI (cy 0)), .int (nI (cy 1)), .int (nI (cy 2)), .int (nI (cy 3)), .int (nI (cy 4)), .int (nI (cy 5)), .int (nI (cy 6)), .int (nI (cy 7)), .int (nI kp), .int (nI nc), .ref (cb 0), .ref (cb 1), .ref (cb 2), .ref (cb 3), .ref (cb 4), .ref (cb 5), .ref (cb 6), .ref (cb 7), .ref (cb 8), .ref (cb 9), .ref (cb 10), .ref (cb 11)]]) rfl rfl ?_
  refine v_aload_n X dX8_price_5 rfl 0 rfl ?_
  refine v_iload_n X dX8_price_6 rfl 1 rfl ?_
  refine v_roI1 X (rn_V X k_X8_isMan ml_X8_345 dX8_price_7 (c_X8_isMan l E k 0 tr wh g rr q z nb wa wd ev al wl cy kp nc cb m ) rfl 0 rfl rfl (by decide) (by decide) (by omega) (by omega) (Nat.le_of_ble_eq_true rfl)) [0, 1] rfl rfl ?_
  refine v_ifB_ne X dX8_price_10 (tgt := 19) (by decide) (fun h10 => ?_) (fun h10 => ?_)
  · exact absurd (of_decide_eq_true h10) hno
  · refine v_aload_n X dX8_price_13 rfl 0 rfl ?_
    refine v_iconst X dX8_price_14 (v := nI 1) (by decide) ?_
    refine v_wrI1 X (rn_V X k_X8_refused ml_X8_49 dX8_price_15 (c_X8_refused l E k 0 tr wh g rr q z nb wa wd ev al wl 1 ) rfl 0 rfl rfl (by decide) (by decide) (by omega) (by omega) (Nat.le_of_ble_eq_true rfl)) [0] rfl rfl (ws' := [ob k 8 [.int (nI 0), .int (nI 1), .int (-1), .ref g, va_rf rr, .ref (q 5), .int (nI (z 6)), .int (nI (z 7)), .int (nI (z 8)), .int (nI (z 9)), .int (nI (z 10)), .int nb, .int (nI (z 12)), .int wa, .long wd, .ref (q 15), .ref (q 16), .ref (q 17), .ref (q 18), .int (nI (z 19)), .int (nI (z 20)), .ref (q 21), .long (lN ev), .ref (q 23), .ref (q 24), .int (nI (z 25)), .ref (q 26), .int al, .long wl, .int (nI (z 29))], ob g 7 [.int (nI (cy 0)), .int (nI (cy 1)), .int (nI (cy 2)), .int (nI (cy 3)), .int (nI (cy 4)), .int (nI (cy 5)), .int (nI (cy 6)), .int (nI (cy 7)), .int (nI kp), .int (nI nc), .ref (cb 0), .ref (cb 1), .ref (cb 2), .ref (cb 3), .ref (cb 4), .ref (cb 5), .ref (cb 6), .ref (cb 7), .ref (cb 8), .ref (cb 9), .ref (cb 10), .ref (cb 11)]]) rfl rfl ?_
    exact v_iret X Y dX8_price_18 (wrI_of rfl rfl) (by omega) (by omega)
set_option maxRecDepth 100000 in
set_option maxHeartbeats 4000000 in
theorem c_X8_price_n (l : Launch) (E : Et) (k : Nat) (th : Nat) (tr : Nat) (wh : Int32) (rr : Option Nat) (q : Nat → Nat) (z : Nat → Nat) (nb : Int32) (wa : Int32) (wd : Int64) (ev : Nat) (al : Int32) (wl : Int64) (m : Int32)  : Ct l E yX8_price cX8_price 2 (some .int) 5 0 0 [.ref k, .int m] [ob k 8 [.int (nI th), .int (nI tr), .int wh, .null, va_rf rr, .ref (q 5), .int (nI (z 6)), .int (nI (z 7)), .int (nI (z 8)), .int (nI (z 9)), .int (nI (z 10)), .int nb, .int (nI (z 12)), .int wa, .long wd, .ref (q 15), .ref (q 16), .ref (q 17), .ref (q 18), .int (nI (z 19)), .int (nI (z 20)), .ref (q 21), .long (lN ev), .ref (q 23), .ref (q 24), .int (nI (z 25)), .ref (q 26), .int al, .long wl, .int (nI (z 29))]] (wrI [ob k 8 [.int (nI 0), .int (nI 1), .int (-1), .null, va_rf rr, .ref (q 5), .int (nI (z 6)), .int (nI (z 7)), .int (nI (z 8)), .int (nI (z 9)), .int (nI (z 10)), .int nb, .int (nI (z 12)), .int wa, .long wd, .ref (q 15), .ref (q 16), .ref (q 17), .ref (q 18), .int (nI (z 19)), .int (nI (z 20)), .ref (q 21), .long (lN ev), .ref (q 23), .ref (q 24), .int (nI (z 25)), .ref (q 26), .int al, .long wl, .int (nI (z 29))]] (-1)) := by
  refine Ct.intro (by decide +kernel) (Nat.le_of_ble_eq_true rfl) (lv := [(0, .ref k), (1, .int m)]) rfl ?_
  intro Z X Y
  refine v_aload_n X dX8_price_0 rfl 0 rfl ?_
  refine v_iconst X dX8_price_1 (v := nI 0) (by decide) ?_
  refine v_put X kcX8 fl_X8_43 dX8_price_2 0 rfl (ws' := [ob k 8 [.int (nI 0), .int (nI tr), .int wh, .null, va_rf rr, .ref (q 5), .int (nI (z 6)), .int (nI (z 7)), .int (nI (z 8)), .int (nI (z 9)), .int (nI (z 10)), .int nb, .int (nI (z 12)), .int wa, .long wd, .ref (q 15), .ref (q 16), .ref (q 17), .ref (q 18), .int (nI (z 19)), .int (nI (z 20)), .ref (q 21), .long (lN ev), .ref (q 23), .ref (q 24), .int (nI (z 25)), .ref (q 26), .int al, .long wl, .int (nI (z 29))]]) rfl rfl ?_
  refine v_aload_n X dX8_price_5 rfl 0 rfl ?_
  refine v_iload_n X dX8_price_6 rfl 1 rfl ?_
  refine v_roI1 X (rn_V X k_X8_isMan ml_X8_345 dX8_price_7 (c_X8_isMan_n l E k 0 tr wh rr q z nb wa wd ev al wl m ) rfl 0 rfl rfl (by decide) (by decide) (by omega) (by omega) (Nat.le_of_ble_eq_true rfl)) [0] rfl rfl ?_
  refine v_ifN_ne X dX8_price_10 (tgt := 19) (by decide) (by decide) (fun h10 => ?_) (fun h10 => ?_)
  · exfalso; omega
  · refine v_aload_n X dX8_price_13 rfl 0 rfl ?_
    refine v_iconst X dX8_price_14 (v := nI 1) (by decide) ?_
    refine v_wrI1 X (rn_V X k_X8_refused ml_X8_49 dX8_price_15 (c_X8_refused_n l E k 0 tr wh rr q z nb wa wd ev al wl 1 ) rfl 0 rfl rfl (by decide) (by decide) (by omega) (by omega) (Nat.le_of_ble_eq_true rfl)) [0] rfl rfl (ws' := [ob k 8 [.int (nI 0), .int (nI 1), .int (-1), .null, va_rf rr, .ref (q 5), .int (nI (z 6)), .int (nI (z 7)), .int (nI (z 8)), .int (nI (z 9)), .int (nI (z 10)), .int nb, .int (nI (z 12)), .int wa, .long wd, .ref (q 15), .ref (q 16), .ref (q 17), .ref (q 18), .int (nI (z 19)), .int (nI (z 20)), .ref (q 21), .long (lN ev), .ref (q 23), .ref (q 24), .int (nI (z 25)), .ref (q 26), .int al, .long wl, .int (nI (z 29))]]) rfl rfl ?_
    exact v_iret X Y dX8_price_18 (wrI_of rfl rfl) (by omega) (by omega)
set_option maxRecDepth 100000 in
set_option maxHeartbeats 4000000 in
theorem c_X8_idle (l : Launch) (E : Et) (k : Nat) (th : Nat) (tr : Nat) (wh : Int32) (g : Nat) (rr : Option Nat) (q : Nat → Nat) (z : Nat → Nat) (nb : Int32) (wa : Int32) (wd : Int64) (ev : Nat) (al : Int32) (wl : Int64) (cy : Nat → Nat) (kp : Nat) (nc : Nat) (cb : Nat → Nat) (fo : Nat → Nat) (on : Nat → Nat) (tw : Nat → Int32) (xf : Nat → Int32) (mn : Nat → Int32) (ink : Nat → Nat) (t : Nat) (dd : Nat) (Fs : Nat → Nat) (Ft : Nat → Nat) (kf : Nat → Nat) (m : Int32) (hd : cy 4 ≤ 6) (hcl : cy 5 ≤ 8) (hfo : ∀ c, c < cy 5 → fo c ≤ 5) (hon : ∀ c, c < cy 5 → on c < 6) (htw : ∀ c, c < cy 5 → okT (tw c)) (hFs : ∀ c, c < cy 5 → Fs c = strN (fo c) (swI (nI (on c))) (swI (tw c))) (hFt : ∀ c, c < cy 5 → Ft c = turN (fo c) (swI (nI (on c))) (swI (tw c))) (hink : ∀ c, ink c ≤ 40) (hz : ∀ c, cy 5 ≤ c → ink c = 0) (hok : okM m (cy 3)) : Ct l E yX8_idle cX8_idle 5 (some .int) 5 0 0 [.ref k, .int m] [ob k 8 [.int (nI th), .int (nI tr), .int wh, .ref g, va_rf rr, .ref (q 5), .int (nI (z 6)), .int (nI (z 7)), .int (nI (z 8)), .int (nI (z 9)), .int (nI (z 10)), .int nb, .int (nI (z 12)), .int wa, .long wd, .ref (q 15), .ref (q 16), .ref (q 17), .ref (q 18), .int (nI (z 19)), .int (nI (z 20)), .ref (q 21), .long (lN ev), .ref (q 23), .ref (q 24), .int (nI (z 25)), .ref (q 26), .int al, .long wl, .int (nI (z 29))], ob g 7 [.int (nI (cy 0)), .int (nI (cy 1)), .int (nI (cy 2)), .int (nI (cy 3)), .int (nI (cy 4)), .int (nI (cy 5)), .int (nI (cy 6)), .int (nI (cy 7)), .int (nI kp), .int (nI nc), .ref (cb 0), .ref (cb 1), .ref (cb 2), .ref (cb 3), .ref (cb 4), .ref (cb 5), .ref (cb 6), .ref (cb 7), .ref (cb 8), .ref (cb 9), .ref (cb 10), .ref (cb 11)], aN E (cb 2) 8 fo, aN E (cb 3) 8 on, aI E (cb 4) 8 tw, aI E (q 15) 25 (xF mn ink t dd), aI E (q 16) 25 xf, aM E (q 21) 8 kf] (wrI [ob k 8 [.int (nI 0), .int (nI 0), .int (-1), .ref g, va_rf rr, .ref (q 5), .int (nI (z 6)), .int (nI (z 7)), .int (nI (z 8)), .int (nI (z 9)), .int (nI (z 10)), .int nb, .int (nI (z 12)), .int wa, .long wd, .ref (q 15), .ref (q 16), .ref (q 17), .ref (q 18), .int (nI (z 19)), .int (nI (z 20)), .ref (q 21), .long (lN (allS (cy 4))), .ref (q 23), .ref (q 24), .int (nI (z 25)), .ref (q 26), .int al, .long wl, .int (nI (z 29))], ob g 7 [.int (nI (cy 0)), .int (nI (cy 1)), .int (nI (cy 2)), .int (nI (cy 3)), .int (nI (cy 4)), .int (nI (cy 5)), .int (nI (cy 6)), .int (nI (cy 7)), .int (nI kp), .int (nI nc), .ref (cb 0), .ref (cb 1), .ref (cb 2), .ref (cb 3), .ref (cb 4), .ref (cb 5), .ref (cb 6), .ref (cb 7), .ref (cb 8), .ref (cb 9), .ref (cb 10), .ref (cb 11)], aN E (cb 2) 8 fo, aN E (cb 3) 8 on, aI E (cb 4) 8 tw, aI E (q 15) 25 (xF mn ink t dd), aI E (q 16) 25 (xF mn ink t dd), aM E (q 21) 8 (lyF Fs Ft t (cy 4) kf (cy 5))] (nI (bbits (fun c => decide ((bdN ink mn m 0).testBit c = true ∧ kpN cy Fs Ft t (ndf (bdN ink mn m 0) (2 ^ c)) = kpN cy Fs Ft t (bdN ink mn m 0))) (cy 5)))) := by
  refine Ct.intro (by decide +kernel) (Nat.le_of_ble_eq_true rfl) (lv := [(0, .ref k), (1, .int m)]) rfl ?_
  intro Z X Y
  have hb256 : bdN ink mn m 0 < 256 := bdN_lt _ _ _ _
  refine v_aload_n X dX8_idle_0 rfl 0 rfl ?_
  refine v_iconst X dX8_idle_1 (v := nI 0) (by decide) ?_
  refine v_put X kcX8 fl_X8_43 dX8_idle_2 0 rfl (ws' := [ob k 8 [.int (nI 0), .int (nI tr), .int wh, .ref g, va_rf rr, .ref (q 5), .int (nI (z 6)), .int (nI (z 7)), .int (nI (z 8)), .int (nI (z 9)), .int (nI (z 10)), .int nb, .int (nI (z 12)), .int wa, .long wd, .ref (q 15), .ref (q 16), .ref (q 17), .ref (q 18), .int (nI (z 19)), .int (nI (z 20)), .ref (q 21), .long (lN ev), .ref (q 23), .ref (q 24), .int (nI (z 25)), .ref (q 26), .int al, .long wl, .int (nI (z 29))], ob g 7 [.int (nI (cy 0)), .int (nI (cy 1)), .int (nI (cy 2)), .int (nI (cy 3)), .int (nI (cy 4)), .int (nI (cy 5)), .int (nI (cy 6)), .int (nI (cy 7)), .int (nI kp), .int (nI nc), .ref (cb 0), .ref (cb 1), .ref (cb 2), .ref (cb 3), .ref (cb 4), .ref (cb 5), .ref (cb 6), .ref (cb 7), .ref (cb 8), .ref (cb 9), .ref (cb 10), .ref (cb 11)], aN E (cb 2) 8 fo, aN E (cb 3) 8 on, aI E (cb 4) 8 tw, aI E (q 15) 25 (xF mn ink t dd), aI E (q 16) 25 xf, aM E (q 21) 8 kf]) rfl rfl ?_
  refine v_aload_n X dX8_idle_5 rfl 0 rfl ?_
  refine v_iload_n X dX8_idle_6 rfl 1 rfl ?_
  refine v_roI1 X (rn_V X k_X8_isMan ml_X8_345 dX8_idle_7 (c_X8_isMan l E k 0 tr wh g rr q z nb wa wd ev al wl cy kp nc cb m ) rfl 0 rfl rfl (by decide) (by decide) (by omega) (by omega) (Nat.le_of_ble_eq_true rfl)) [0, 1] rfl rfl ?_
  refine v_ifB_ne X dX8_idle_10 (tgt := 19) (by decide) (fun h10 => ?_) (fun h10 => ?_)
  · refine v_aload_n X dX8_idle_19 rfl 0 rfl ?_
    refine v_wrV1 X (rn_V X k_X8_worksLaid ml_X8_354 dX8_idle_20 (c_X8_worksLaid l E k 0 tr wh g rr q z nb wa wd ev al wl cy kp nc cb fo on tw xf mn ink t dd Fs Ft kf (by first | assumption | omega) (by first | assumption | omega) (by first | assumption | omega) (by first | assumption | omega) (by first | assumption | omega) (by first | assumption | omega) (by first | assumption | omega)) rfl 0 rfl rfl (by decide) (by decide) (by omega) (by omega) (Nat.le_of_ble_eq_true rfl)) [0, 1, 2, 3, 4, 5, 6, 7] rfl rfl (ws' := [ob k 8 [.int (nI 0), .int (nI tr), .int wh, .ref g, va_rf rr, .ref (q 5), .int (nI (z 6)), .int (nI (z 7)), .int (nI (z 8)), .int (nI (z 9)), .int (nI (z 10)), .int nb, .int (nI (z 12)), .int wa, .long wd, .ref (q 15), .ref (q 16), .ref (q 17), .ref (q 18), .int (nI (z 19)), .int (nI (z 20)), .ref (q 21), .long (lN (allS (cy 4))), .ref (q 23), .ref (q 24), .int (nI (z 25)), .ref (q 26), .int al, .long wl, .int (nI (z 29))], ob g 7 [.int (nI (cy 0)), .int (nI (cy 1)), .int (nI (cy 2)), .int (nI (cy 3)), .int (nI (cy 4)), .int (nI (cy 5)), .int (nI (cy 6)), .int (nI (cy 7)), .int (nI kp), .int (nI nc), .ref (cb 0), .ref (cb 1), .ref (cb 2), .ref (cb 3), .ref (cb 4), .ref (cb 5), .ref (cb 6), .ref (cb 7), .ref (cb 8), .ref (cb 9), .ref (cb 10), .ref (cb 11)], aN E (cb 2) 8 fo, aN E (cb 3) 8 on, aI E (cb 4) 8 tw, aI E (q 15) 25 (xF mn ink t dd), aI E (q 16) 25 (xF mn ink t dd), aM E (q 21) 8 (lyF Fs Ft t (cy 4) kf (cy 5))]) rfl rfl ?_
    refine v_aload_n X dX8_idle_23 rfl 0 rfl ?_
    refine v_iload_n X dX8_idle_24 rfl 1 rfl ?_
    refine v_roI1 X (rn_V X k_X8_binding ml_X8_332 dX8_idle_25 (c_X8_bindingB l E k 0 tr wh g rr q z nb wa wd (allS (cy 4)) al wl cy kp nc cb mn ink t dd m (by first | assumption | omega) (by first | assumption | omega) (by first | assumption | omega)) rfl 0 rfl rfl (by decide) (by decide) (by omega) (by omega) (Nat.le_of_ble_eq_true rfl)) [0, 1, 6] rfl rfl ?_
    refine v_istore_n X dX8_idle_28 rfl (by decide) (lv' := [(2, .int (nI (bdN ink mn m 0))), (0, .ref k), (1, .int m)]) rfl ?_
    refine v_iconst X dX8_idle_29 (v := nI 0) (by decide) ?_
    refine v_istore_n X dX8_idle_30 rfl (by decide) (lv' := [(3, .int (nI 0)), (2, .int (nI (bdN ink mn m 0))), (0, .ref k), (1, .int m)]) rfl ?_
    refine v_iconst X dX8_idle_31 (v := nI 0) (by decide) ?_
    refine v_istore X dX8_idle_32 (by decide) (lv' := [(4, .int (nI 0)), (3, .int (nI 0)), (2, .int (nI (bdN ink mn m 0))), (0, .ref k), (1, .int m)]) rfl ?_
    have L34 : ∀ (j34 : Nat) (vc : Nat) (vb : Nat), (vc ≤ cy 5 ∧ vb = bbits (fun c => decide ((bdN ink mn m 0).testBit c = true ∧ kpN cy Fs Ft t (ndf (bdN ink mn m 0) (2 ^ c)) = kpN cy Fs Ft t (bdN ink mn m 0))) vc) → cy 5 - vc < j34 → V E Z 34 [(0, .ref k), (1, .int m), (2, .int (nI (bdN ink mn m 0))), (3, .int (nI vb)), (4, .int (nI vc))] [] [ob k 8 [.int (nI 0), .int (nI tr), .int wh, .ref g, va_rf rr, .ref (q 5), .int (nI (z 6)), .int (nI (z 7)), .int (nI (z 8)), .int (nI (z 9)), .int (nI (z 10)), .int nb, .int (nI (z 12)), .int wa, .long wd, .ref (q 15), .ref (q 16), .ref (q 17), .ref (q 18), .int (nI (z 19)), .int (nI (z 20)), .ref (q 21), .long (lN (allS (cy 4))), .ref (q 23), .ref (q 24), .int (nI (z 25)), .ref (q 26), .int al, .long wl, .int (nI (z 29))], ob g 7 [.int (nI (cy 0)), .int (nI (cy 1)), .int (nI (cy 2)), .int (nI (cy 3)), .int (nI (cy 4)), .int (nI (cy 5)), .int (nI (cy 6)), .int (nI (cy 7)), .int (nI kp), .int (nI nc), .ref (cb 0), .ref (cb 1), .ref (cb 2), .ref (cb 3), .ref (cb 4), .ref (cb 5), .ref (cb 6), .ref (cb 7), .ref (cb 8), .ref (cb 9), .ref (cb 10), .ref (cb 11)], aN E (cb 2) 8 fo, aN E (cb 3) 8 on, aI E (cb 4) 8 tw, aI E (q 15) 25 (xF mn ink t dd), aI E (q 16) 25 (xF mn ink t dd), aM E (q 21) 8 (lyF Fs Ft t (cy 4) kf (cy 5))] 0 0 := by
      intro j34
      induction j34 with
      | zero => intro vc vb hI hM; exact absurd hM (Nat.not_lt_zero _)
      | succ j34 ih34 =>
        intro vc vb hI34 hM34
        obtain ⟨hc, hb⟩ := id hI34
        refine v_iload X dX8_idle_34 4 rfl ?_
        refine v_aload_n X dX8_idle_36 rfl 0 rfl ?_
        refine v_get X kcX8 fl_X8_306 dX8_idle_37 0 rfl rfl ?_
        refine v_getN X kcX7 fl_X8_240 dX8_idle_40 1 rfl rfl ?_
        refine v_icmpN_ge X dX8_idle_43 (tgt := 93) (by decide) (by omega) (by omega) (fun h43 => ?_) (fun h43 => ?_)
        · refine v_aload_n X dX8_idle_93 rfl 0 rfl ?_
          refine v_iload_n X dX8_idle_94 rfl 3 rfl ?_
          refine v_wrI1 X (rn_V X k_X8_good ml_X8_53 dX8_idle_95 (c_X8_good l E k 0 tr wh g rr q z nb wa wd (allS (cy 4)) al wl (nI vb) ) rfl 0 rfl rfl (by decide) (by decide) (by omega) (by omega) (Nat.le_of_ble_eq_true rfl)) [0] rfl rfl (ws' := [ob k 8 [.int (nI 0), .int (nI 0), .int (-1), .ref g, va_rf rr, .ref (q 5), .int (nI (z 6)), .int (nI (z 7)), .int (nI (z 8)), .int (nI (z 9)), .int (nI (z 10)), .int nb, .int (nI (z 12)), .int wa, .long wd, .ref (q 15), .ref (q 16), .ref (q 17), .ref (q 18), .int (nI (z 19)), .int (nI (z 20)), .ref (q 21), .long (lN (allS (cy 4))), .ref (q 23), .ref (q 24), .int (nI (z 25)), .ref (q 26), .int al, .long wl, .int (nI (z 29))], ob g 7 [.int (nI (cy 0)), .int (nI (cy 1)), .int (nI (cy 2)), .int (nI (cy 3)), .int (nI (cy 4)), .int (nI (cy 5)), .int (nI (cy 6)), .int (nI (cy 7)), .int (nI kp), .int (nI nc), .ref (cb 0), .ref (cb 1), .ref (cb 2), .ref (cb 3), .ref (cb 4), .ref (cb 5), .ref (cb 6), .ref (cb 7), .ref (cb 8), .ref (cb 9), .ref (cb 10), .ref (cb 11)], aN E (cb 2) 8 fo, aN E (cb 3) 8 on, aI E (cb 4) 8 tw, aI E (q 15) 25 (xF mn ink t dd), aI E (q 16) 25 (xF mn ink t dd), aM E (q 21) 8 (lyF Fs Ft t (cy 4) kf (cy 5))]) rfl rfl ?_
          exact v_iret X Y dX8_idle_98 (wrI_of rfl ((by rw [show cy 5 = vc by omega, ← hb]))) (by omega) (by omega)
        · refine v_iload_n X dX8_idle_46 rfl 3 rfl ?_
          refine v_iload_n X dX8_idle_47 rfl 2 rfl ?_
          refine v_iload X dX8_idle_48 4 rfl ?_
          refine v_roI1 X (rn_S X k_X8_bit ml_X8_274 dX8_idle_50 (c_X8_bit l E (bdN ink mn m 0) vc (Nat.lt_trans hb256 (by decide)) (by omega)) rfl (by decide) (by decide) (by omega) (by omega) (Nat.le_of_ble_eq_true rfl)) [] rfl rfl ?_
          refine v_ifB_eq X dX8_idle_53 (tgt := 84) (by decide) (fun h53 => ?_) (fun h53 => ?_)
          · refine v_iconst X dX8_idle_84 (v := nI 0) (by decide) ?_
            refine v_ior X dX8_idle_85 ?_
            refine v_eqi (x' := nI (vb ||| 0)) (fa_or _ _) ?_
            refine v_istore_n X dX8_idle_86 rfl (by decide) (lv' := [(3, .int (nI (vb ||| 0))), (0, .ref k), (1, .int m), (2, .int (nI (bdN ink mn m 0))), (4, .int (nI vc))]) rfl ?_
            refine v_iinc X dX8_idle_87 4 rfl (v := nI (vc + 1)) (nI_inc vc) (by decide) (lv' := [(4, .int (nI (vc + 1))), (3, .int (nI (vb ||| 0))), (0, .ref k), (1, .int m), (2, .int (nI (bdN ink mn m 0)))]) rfl ?_
            refine v_goto X dX8_idle_90 (tgt := 34) (by decide) ?_
            refine V.lvs [2, 3, 4, 1, 0] rfl ?_
            exact ih34 (vc + 1) (vb ||| 0) (⟨by omega, by rw [hb]; exact (Nat.or_zero _).trans (bbits_no (decide_eq_false (fun q => by rw [h53] at q; exact absurd q.1 (by decide)))).symm⟩) (by omega)
          · refine v_aload_n X dX8_idle_56 rfl 0 rfl ?_
            refine v_iload_n X dX8_idle_57 rfl 2 rfl ?_
            refine v_iconst X dX8_idle_58 (v := nI 1) (by decide) ?_
            refine v_iload X dX8_idle_59 4 rfl ?_
            refine v_ishl X dX8_idle_61 ?_
            refine v_eqi (x' := nI (2 ^ vc)) (nI_shl1 (by omega)) ?_
            refine v_iconst X dX8_idle_62 (v := (-1)) (by decide) ?_
            refine v_ixor X dX8_idle_63 ?_
            refine v_iand X dX8_idle_64 ?_
            refine v_eqi (x' := nI (ndf (bdN ink mn m 0) (2 ^ vc))) (nI_andn _ _) ?_
            refine v_roL1 X (rn_V X k_X8_keepAll ml_X8_335 dX8_idle_65 (c_X8_keepAllL l E k 0 tr wh g rr q z nb wa wd al wl cy kp nc cb Fs Ft kf t (ndf (bdN ink mn m 0) (2 ^ vc)) (by first | assumption | omega) (Nat.lt_trans (ndf_lt (n := 8) _ hb256) (by decide))) rfl 0 rfl rfl (by decide) (by decide) (by omega) (by omega) (Nat.le_of_ble_eq_true rfl)) [0, 1, 7] rfl rfl ?_
            refine v_aload_n X dX8_idle_68 rfl 0 rfl ?_
            refine v_iload_n X dX8_idle_69 rfl 2 rfl ?_
            refine v_roL1 X (rn_V X k_X8_keepAll ml_X8_335 dX8_idle_70 (c_X8_keepAllL l E k 0 tr wh g rr q z nb wa wd al wl cy kp nc cb Fs Ft kf t (bdN ink mn m 0) (by first | assumption | omega) (by omega)) rfl 0 rfl rfl (by decide) (by decide) (by omega) (by omega) (Nat.le_of_ble_eq_true rfl)) [0, 1, 7] rfl rfl ?_
            refine v_lcmp X dX8_idle_73 ?_
            refine v_ifLN_ne X dX8_idle_74 (tgt := 84) (by decide) (kpN_lt hd _ _ _ _) (kpN_lt hd _ _ _ _) (fun h74 => ?_) (fun h74 => ?_)
            · refine v_iconst X dX8_idle_84 (v := nI 0) (by decide) ?_
              refine v_ior X dX8_idle_85 ?_
              refine v_eqi (x' := nI (vb ||| 0)) (fa_or _ _) ?_
              refine v_istore_n X dX8_idle_86 rfl (by decide) (lv' := [(3, .int (nI (vb ||| 0))), (0, .ref k), (1, .int m), (2, .int (nI (bdN ink mn m 0))), (4, .int (nI vc))]) rfl ?_
              refine v_iinc X dX8_idle_87 4 rfl (v := nI (vc + 1)) (nI_inc vc) (by decide) (lv' := [(4, .int (nI (vc + 1))), (3, .int (nI (vb ||| 0))), (0, .ref k), (1, .int m), (2, .int (nI (bdN ink mn m 0)))]) rfl ?_
              refine v_goto X dX8_idle_90 (tgt := 34) (by decide) ?_
              refine V.lvs [2, 3, 4, 1, 0] rfl ?_
              exact ih34 (vc + 1) (vb ||| 0) (⟨by omega, by rw [hb]; exact (Nat.or_zero _).trans (bbits_no (decide_eq_false (fun q => h74 q.2))).symm⟩) (by omega)
            · refine v_iconst X dX8_idle_77 (v := nI 1) (by decide) ?_
              refine v_iload X dX8_idle_78 4 rfl ?_
              refine v_ishl X dX8_idle_80 ?_
              refine v_eqi (x' := nI (2 ^ vc)) (nI_shl1 (by omega)) ?_
              refine v_goto X dX8_idle_81 (tgt := 85) (by decide) ?_
              refine v_ior X dX8_idle_85 ?_
              refine v_eqi (x' := nI (vb ||| (2 ^ vc))) (fa_or _ _) ?_
              refine v_istore_n X dX8_idle_86 rfl (by decide) (lv' := [(3, .int (nI (vb ||| (2 ^ vc)))), (0, .ref k), (1, .int m), (2, .int (nI (bdN ink mn m 0))), (4, .int (nI vc))]) rfl ?_
              refine v_iinc X dX8_idle_87 4 rfl (v := nI (vc + 1)) (nI_inc vc) (by decide) (lv' := [(4, .int (nI (vc + 1))), (3, .int (nI (vb ||| (2 ^ vc)))), (0, .ref k), (1, .int m), (2, .int (nI (bdN ink mn m 0)))]) rfl ?_
              refine v_goto X dX8_idle_90 (tgt := 34) (by decide) ?_
              refine V.lvs [2, 3, 4, 1, 0] rfl ?_
              exact ih34 (vc + 1) (vb ||| (2 ^ vc)) (⟨by omega, by rw [hb]; exact (bbits_yes (decide_eq_true ⟨h53, h74⟩)).symm⟩) (by omega)
    refine V.lvs [3, 4, 2, 1, 0] rfl ?_
    exact L34 _ 0 0 (⟨by omega, rfl⟩) (Nat.lt_succ_self _)
  · exact absurd hok (of_decide_eq_false h10)
set_option maxRecDepth 100000 in
set_option maxHeartbeats 4000000 in
theorem c_X8_idle_no (l : Launch) (E : Et) (k : Nat) (th : Nat) (tr : Nat) (wh : Int32) (g : Nat) (rr : Option Nat) (q : Nat → Nat) (z : Nat → Nat) (nb : Int32) (wa : Int32) (wd : Int64) (ev : Nat) (al : Int32) (wl : Int64) (cy : Nat → Nat) (kp : Nat) (nc : Nat) (cb : Nat → Nat) (m : Int32) (hno : ¬ okM m (cy 3)) : Ct l E yX8_idle cX8_idle 5 (some .int) 5 0 0 [.ref k, .int m] [ob k 8 [.int (nI th), .int (nI tr), .int wh, .ref g, va_rf rr, .ref (q 5), .int (nI (z 6)), .int (nI (z 7)), .int (nI (z 8)), .int (nI (z 9)), .int (nI (z 10)), .int nb, .int (nI (z 12)), .int wa, .long wd, .ref (q 15), .ref (q 16), .ref (q 17), .ref (q 18), .int (nI (z 19)), .int (nI (z 20)), .ref (q 21), .long (lN ev), .ref (q 23), .ref (q 24), .int (nI (z 25)), .ref (q 26), .int al, .long wl, .int (nI (z 29))], ob g 7 [.int (nI (cy 0)), .int (nI (cy 1)), .int (nI (cy 2)), .int (nI (cy 3)), .int (nI (cy 4)), .int (nI (cy 5)), .int (nI (cy 6)), .int (nI (cy 7)), .int (nI kp), .int (nI nc), .ref (cb 0), .ref (cb 1), .ref (cb 2), .ref (cb 3), .ref (cb 4), .ref (cb 5), .ref (cb 6), .ref (cb 7), .ref (cb 8), .ref (cb 9), .ref (cb 10), .ref (cb 11)]] (wrI [ob k 8 [.int (nI 0), .int (nI 1), .int (-1), .ref g, va_rf rr, .ref (q 5), .int (nI (z 6)), .int (nI (z 7)), .int (nI (z 8)), .int (nI (z 9)), .int (nI (z 10)), .int nb, .int (nI (z 12)), .int wa, .long wd, .ref (q 15), .ref (q 16), .ref (q 17), .ref (q 18), .int (nI (z 19)), .int (nI (z 20)), .ref (q 21), .long (lN ev), .ref (q 23), .ref (q 24), .int (nI (z 25)), .ref (q 26), .int al, .long wl, .int (nI (z 29))], ob g 7 [.int (nI (cy 0)), .int (nI (cy 1)), .int (nI (cy 2)), .int (nI (cy 3)), .int (nI (cy 4)), .int (nI (cy 5)), .int (nI (cy 6)), .int (nI (cy 7)), .int (nI kp), .int (nI nc), .ref (cb 0), .ref (cb 1), .ref (cb 2), .ref (cb 3), .ref (cb 4), .ref (cb 5), .ref (cb 6), .ref (cb 7), .ref (cb 8), .ref (cb 9), .ref (cb 10), .ref (cb 11)]] (-1)) := by
  refine Ct.intro (by decide +kernel) (Nat.le_of_ble_eq_true rfl) (lv := [(0, .ref k), (1, .int m)]) rfl ?_
  intro Z X Y
  refine v_aload_n X dX8_idle_0 rfl 0 rfl ?_
  refine v_iconst X dX8_idle_1 (v := nI 0) (by decide) ?_
  refine v_put X kcX8 fl_X8_43 dX8_idle_2 0 rfl (ws' := [ob k 8 [.int (nI 0), .int (nI tr), .int wh, .ref g, va_rf rr, .ref (q 5), .int (nI (z 6)), .int (nI (z 7)), .int (nI (z 8)), .int (nI (z 9)), .int (nI (z 10)), .int nb, .int (nI (z 12)), .int wa, .long wd, .ref (q 15), .ref (q 16), .ref (q 17), .ref (q 18), .int (nI (z 19)), .int (nI (z 20)), .ref (q 21), .long (lN ev), .ref (q 23), .ref (q 24), .int (nI (z 25)), .ref (q 26), .int al, .long wl, .int (nI (z 29))], ob g 7 [.int (nI (cy 0)), .int (nI (cy 1)), .int (nI (cy 2)), .int (nI (cy 3)), .int (nI (cy 4)), .int (nI (cy 5)), .int (nI (cy 6)), .int (nI (cy 7)), .int (nI kp), .int (nI nc), .ref (cb 0), .ref (cb 1), .ref (cb 2), .ref (cb 3), .ref (cb 4), .ref (cb 5), .ref (cb 6), .ref (cb 7), .ref (cb 8), .ref (cb 9), .ref (cb 10), .ref (cb 11)]]) rfl rfl ?_
  refine v_aload_n X dX8_idle_5 rfl 0 rfl ?_
  refine v_iload_n X dX8_idle_6 rfl 1 rfl ?_
  refine v_roI1 X (rn_V X k_X8_isMan ml_X8_345 dX8_idle_7 (c_X8_isMan l E k 0 tr wh g rr q z nb wa wd ev al wl cy kp nc cb m ) rfl 0 rfl rfl (by decide) (by decide) (by omega) (by omega) (Nat.le_of_ble_eq_true rfl)) [0, 1] rfl rfl ?_
  refine v_ifB_ne X dX8_idle_10 (tgt := 19) (by decide) (fun h10 => ?_) (fun h10 => ?_)
  · exact absurd (of_decide_eq_true h10) hno
  · refine v_aload_n X dX8_idle_13 rfl 0 rfl ?_
    refine v_iconst X dX8_idle_14 (v := nI 1) (by decide) ?_
    refine v_wrI1 X (rn_V X k_X8_refused ml_X8_49 dX8_idle_15 (c_X8_refused l E k 0 tr wh g rr q z nb wa wd ev al wl 1 ) rfl 0 rfl rfl (by decide) (by decide) (by omega) (by omega) (Nat.le_of_ble_eq_true rfl)) [0] rfl rfl (ws' := [ob k 8 [.int (nI 0), .int (nI 1), .int (-1), .ref g, va_rf rr, .ref (q 5), .int (nI (z 6)), .int (nI (z 7)), .int (nI (z 8)), .int (nI (z 9)), .int (nI (z 10)), .int nb, .int (nI (z 12)), .int wa, .long wd, .ref (q 15), .ref (q 16), .ref (q 17), .ref (q 18), .int (nI (z 19)), .int (nI (z 20)), .ref (q 21), .long (lN ev), .ref (q 23), .ref (q 24), .int (nI (z 25)), .ref (q 26), .int al, .long wl, .int (nI (z 29))], ob g 7 [.int (nI (cy 0)), .int (nI (cy 1)), .int (nI (cy 2)), .int (nI (cy 3)), .int (nI (cy 4)), .int (nI (cy 5)), .int (nI (cy 6)), .int (nI (cy 7)), .int (nI kp), .int (nI nc), .ref (cb 0), .ref (cb 1), .ref (cb 2), .ref (cb 3), .ref (cb 4), .ref (cb 5), .ref (cb 6), .ref (cb 7), .ref (cb 8), .ref (cb 9), .ref (cb 10), .ref (cb 11)]]) rfl rfl ?_
    exact v_iret X Y dX8_idle_18 (wrI_of rfl rfl) (by omega) (by omega)
set_option maxRecDepth 100000 in
set_option maxHeartbeats 4000000 in
theorem c_X8_idle_n (l : Launch) (E : Et) (k : Nat) (th : Nat) (tr : Nat) (wh : Int32) (rr : Option Nat) (q : Nat → Nat) (z : Nat → Nat) (nb : Int32) (wa : Int32) (wd : Int64) (ev : Nat) (al : Int32) (wl : Int64) (m : Int32)  : Ct l E yX8_idle cX8_idle 5 (some .int) 5 0 0 [.ref k, .int m] [ob k 8 [.int (nI th), .int (nI tr), .int wh, .null, va_rf rr, .ref (q 5), .int (nI (z 6)), .int (nI (z 7)), .int (nI (z 8)), .int (nI (z 9)), .int (nI (z 10)), .int nb, .int (nI (z 12)), .int wa, .long wd, .ref (q 15), .ref (q 16), .ref (q 17), .ref (q 18), .int (nI (z 19)), .int (nI (z 20)), .ref (q 21), .long (lN ev), .ref (q 23), .ref (q 24), .int (nI (z 25)), .ref (q 26), .int al, .long wl, .int (nI (z 29))]] (wrI [ob k 8 [.int (nI 0), .int (nI 1), .int (-1), .null, va_rf rr, .ref (q 5), .int (nI (z 6)), .int (nI (z 7)), .int (nI (z 8)), .int (nI (z 9)), .int (nI (z 10)), .int nb, .int (nI (z 12)), .int wa, .long wd, .ref (q 15), .ref (q 16), .ref (q 17), .ref (q 18), .int (nI (z 19)), .int (nI (z 20)), .ref (q 21), .long (lN ev), .ref (q 23), .ref (q 24), .int (nI (z 25)), .ref (q 26), .int al, .long wl, .int (nI (z 29))]] (-1)) := by
  refine Ct.intro (by decide +kernel) (Nat.le_of_ble_eq_true rfl) (lv := [(0, .ref k), (1, .int m)]) rfl ?_
  intro Z X Y
  refine v_aload_n X dX8_idle_0 rfl 0 rfl ?_
  refine v_iconst X dX8_idle_1 (v := nI 0) (by decide) ?_
  refine v_put X kcX8 fl_X8_43 dX8_idle_2 0 rfl (ws' := [ob k 8 [.int (nI 0), .int (nI tr), .int wh, .null, va_rf rr, .ref (q 5), .int (nI (z 6)), .int (nI (z 7)), .int (nI (z 8)), .int (nI (z 9)), .int (nI (z 10)), .int nb, .int (nI (z 12)), .int wa, .long wd, .ref (q 15), .ref (q 16), .ref (q 17), .ref (q 18), .int (nI (z 19)), .int (nI (z 20)), .ref (q 21), .long (lN ev), .ref (q 23), .ref (q 24), .int (nI (z 25)), .ref (q 26), .int al, .long wl, .int (nI (z 29))]]) rfl rfl ?_
  refine v_aload_n X dX8_idle_5 rfl 0 rfl ?_
  refine v_iload_n X dX8_idle_6 rfl 1 rfl ?_
  refine v_roI1 X (rn_V X k_X8_isMan ml_X8_345 dX8_idle_7 (c_X8_isMan_n l E k 0 tr wh rr q z nb wa wd ev al wl m ) rfl 0 rfl rfl (by decide) (by decide) (by omega) (by omega) (Nat.le_of_ble_eq_true rfl)) [0] rfl rfl ?_
  refine v_ifN_ne X dX8_idle_10 (tgt := 19) (by decide) (by decide) (fun h10 => ?_) (fun h10 => ?_)
  · exfalso; omega
  · refine v_aload_n X dX8_idle_13 rfl 0 rfl ?_
    refine v_iconst X dX8_idle_14 (v := nI 1) (by decide) ?_
    refine v_wrI1 X (rn_V X k_X8_refused ml_X8_49 dX8_idle_15 (c_X8_refused_n l E k 0 tr wh rr q z nb wa wd ev al wl 1 ) rfl 0 rfl rfl (by decide) (by decide) (by omega) (by omega) (Nat.le_of_ble_eq_true rfl)) [0] rfl rfl (ws' := [ob k 8 [.int (nI 0), .int (nI 1), .int (-1), .null, va_rf rr, .ref (q 5), .int (nI (z 6)), .int (nI (z 7)), .int (nI (z 8)), .int (nI (z 9)), .int (nI (z 10)), .int nb, .int (nI (z 12)), .int wa, .long wd, .ref (q 15), .ref (q 16), .ref (q 17), .ref (q 18), .int (nI (z 19)), .int (nI (z 20)), .ref (q 21), .long (lN ev), .ref (q 23), .ref (q 24), .int (nI (z 25)), .ref (q 26), .int al, .long wl, .int (nI (z 29))]]) rfl rfl ?_
    exact v_iret X Y dX8_idle_18 (wrI_of rfl rfl) (by omega) (by omega)
set_option maxRecDepth 100000 in
set_option maxHeartbeats 4000000 in
theorem c_X8_heaviest (l : Launch) (E : Et) (k : Nat) (th : Nat) (tr : Nat) (wh : Int32) (g : Nat) (rr : Option Nat) (q : Nat → Nat) (z : Nat → Nat) (nb : Int32) (wa : Int32) (wd : Int64) (ev : Nat) (al : Int32) (wl : Int64) (cy : Nat → Nat) (kp : Nat) (nc : Nat) (cb : Nat → Nat) (fo : Nat → Nat) (on : Nat → Nat) (tw : Nat → Int32) (xf : Nat → Int32) (mn : Nat → Int32) (ink : Nat → Nat) (t : Nat) (dd : Nat) (Fs : Nat → Nat) (Ft : Nat → Nat) (kf : Nat → Nat) (m : Int32) (hd : cy 4 ≤ 6) (hcl : cy 5 ≤ 8) (hfo : ∀ c, c < cy 5 → fo c ≤ 5) (hon : ∀ c, c < cy 5 → on c < 6) (htw : ∀ c, c < cy 5 → okT (tw c)) (hFs : ∀ c, c < cy 5 → Fs c = strN (fo c) (swI (nI (on c))) (swI (tw c))) (hFt : ∀ c, c < cy 5 → Ft c = turN (fo c) (swI (nI (on c))) (swI (tw c))) (hink : ∀ c, ink c ≤ 40) (hz : ∀ c, cy 5 ≤ c → ink c = 0) (hok : okM m (cy 3)) : Ct l E yX8_heaviest cX8_heaviest 7 (some .int) 5 0 0 [.ref k, .int m] [ob k 8 [.int (nI th), .int (nI tr), .int wh, .ref g, va_rf rr, .ref (q 5), .int (nI (z 6)), .int (nI (z 7)), .int (nI (z 8)), .int (nI (z 9)), .int (nI (z 10)), .int nb, .int (nI (z 12)), .int wa, .long wd, .ref (q 15), .ref (q 16), .ref (q 17), .ref (q 18), .int (nI (z 19)), .int (nI (z 20)), .ref (q 21), .long (lN ev), .ref (q 23), .ref (q 24), .int (nI (z 25)), .ref (q 26), .int al, .long wl, .int (nI (z 29))], ob g 7 [.int (nI (cy 0)), .int (nI (cy 1)), .int (nI (cy 2)), .int (nI (cy 3)), .int (nI (cy 4)), .int (nI (cy 5)), .int (nI (cy 6)), .int (nI (cy 7)), .int (nI kp), .int (nI nc), .ref (cb 0), .ref (cb 1), .ref (cb 2), .ref (cb 3), .ref (cb 4), .ref (cb 5), .ref (cb 6), .ref (cb 7), .ref (cb 8), .ref (cb 9), .ref (cb 10), .ref (cb 11)], aN E (cb 2) 8 fo, aN E (cb 3) 8 on, aI E (cb 4) 8 tw, aI E (q 15) 25 (xF mn ink t dd), aI E (q 16) 25 xf, aM E (q 21) 8 kf] (wrI [ob k 8 [.int (nI 0), .int (nI 0), .int (-1), .ref g, va_rf rr, .ref (q 5), .int (nI (z 6)), .int (nI (z 7)), .int (nI (z 8)), .int (nI (z 9)), .int (nI (z 10)), .int nb, .int (nI (z 12)), .int wa, .long wd, .ref (q 15), .ref (q 16), .ref (q 17), .ref (q 18), .int (nI (z 19)), .int (nI (z 20)), .ref (q 21), .long (lN (allS (cy 4))), .ref (q 23), .ref (q 24), .int (nI (z 25)), .ref (q 26), .int al, .long wl, .int (nI (z 29))], ob g 7 [.int (nI (cy 0)), .int (nI (cy 1)), .int (nI (cy 2)), .int (nI (cy 3)), .int (nI (cy 4)), .int (nI (cy 5)), .int (nI (cy 6)), .int (nI (cy 7)), .int (nI kp), .int (nI nc), .ref (cb 0), .ref (cb 1), .ref (cb 2), .ref (cb 3), .ref (cb 4), .ref (cb 5), .ref (cb 6), .ref (cb 7), .ref (cb 8), .ref (cb 9), .ref (cb 10), .ref (cb 11)], aN E (cb 2) 8 fo, aN E (cb 3) 8 on, aI E (cb 4) 8 tw, aI E (q 15) 25 (xF mn ink t dd), aI E (q 16) 25 (xF mn ink t dd), aM E (q 21) 8 (lyF Fs Ft t (cy 4) kf (cy 5))] (optI (bestO (fun c => (bdN ink mn m 0).testBit c) (fun p q => decide (pop64 (kpN cy Fs Ft t (ndf (bdN ink mn m 0) (2 ^ q))) < pop64 (kpN cy Fs Ft t (ndf (bdN ink mn m 0) (2 ^ p))))) (cy 5)))) := by
  refine Ct.intro (by decide +kernel) (Nat.le_of_ble_eq_true rfl) (lv := [(0, .ref k), (1, .int m)]) rfl ?_
  intro Z X Y
  have hb256 : bdN ink mn m 0 < 256 := bdN_lt _ _ _ _
  refine v_aload_n X dX8_heaviest_0 rfl 0 rfl ?_
  refine v_iconst X dX8_heaviest_1 (v := nI 0) (by decide) ?_
  refine v_put X kcX8 fl_X8_43 dX8_heaviest_2 0 rfl (ws' := [ob k 8 [.int (nI 0), .int (nI tr), .int wh, .ref g, va_rf rr, .ref (q 5), .int (nI (z 6)), .int (nI (z 7)), .int (nI (z 8)), .int (nI (z 9)), .int (nI (z 10)), .int nb, .int (nI (z 12)), .int wa, .long wd, .ref (q 15), .ref (q 16), .ref (q 17), .ref (q 18), .int (nI (z 19)), .int (nI (z 20)), .ref (q 21), .long (lN ev), .ref (q 23), .ref (q 24), .int (nI (z 25)), .ref (q 26), .int al, .long wl, .int (nI (z 29))], ob g 7 [.int (nI (cy 0)), .int (nI (cy 1)), .int (nI (cy 2)), .int (nI (cy 3)), .int (nI (cy 4)), .int (nI (cy 5)), .int (nI (cy 6)), .int (nI (cy 7)), .int (nI kp), .int (nI nc), .ref (cb 0), .ref (cb 1), .ref (cb 2), .ref (cb 3), .ref (cb 4), .ref (cb 5), .ref (cb 6), .ref (cb 7), .ref (cb 8), .ref (cb 9), .ref (cb 10), .ref (cb 11)], aN E (cb 2) 8 fo, aN E (cb 3) 8 on, aI E (cb 4) 8 tw, aI E (q 15) 25 (xF mn ink t dd), aI E (q 16) 25 xf, aM E (q 21) 8 kf]) rfl rfl ?_
  refine v_aload_n X dX8_heaviest_5 rfl 0 rfl ?_
  refine v_iload_n X dX8_heaviest_6 rfl 1 rfl ?_
  refine v_roI1 X (rn_V X k_X8_isMan ml_X8_345 dX8_heaviest_7 (c_X8_isMan l E k 0 tr wh g rr q z nb wa wd ev al wl cy kp nc cb m ) rfl 0 rfl rfl (by decide) (by decide) (by omega) (by omega) (Nat.le_of_ble_eq_true rfl)) [0, 1] rfl rfl ?_
  refine v_ifB_ne X dX8_heaviest_10 (tgt := 19) (by decide) (fun h10 => ?_) (fun h10 => ?_)
  · refine v_aload_n X dX8_heaviest_19 rfl 0 rfl ?_
    refine v_wrV1 X (rn_V X k_X8_worksLaid ml_X8_354 dX8_heaviest_20 (c_X8_worksLaid l E k 0 tr wh g rr q z nb wa wd ev al wl cy kp nc cb fo on tw xf mn ink t dd Fs Ft kf (by first | assumption | omega) (by first | assumption | omega) (by first | assumption | omega) (by first | assumption | omega) (by first | assumption | omega) (by first | assumption | omega) (by first | assumption | omega)) rfl 0 rfl rfl (by decide) (by decide) (by omega) (by omega) (Nat.le_of_ble_eq_true rfl)) [0, 1, 2, 3, 4, 5, 6, 7] rfl rfl (ws' := [ob k 8 [.int (nI 0), .int (nI tr), .int wh, .ref g, va_rf rr, .ref (q 5), .int (nI (z 6)), .int (nI (z 7)), .int (nI (z 8)), .int (nI (z 9)), .int (nI (z 10)), .int nb, .int (nI (z 12)), .int wa, .long wd, .ref (q 15), .ref (q 16), .ref (q 17), .ref (q 18), .int (nI (z 19)), .int (nI (z 20)), .ref (q 21), .long (lN (allS (cy 4))), .ref (q 23), .ref (q 24), .int (nI (z 25)), .ref (q 26), .int al, .long wl, .int (nI (z 29))], ob g 7 [.int (nI (cy 0)), .int (nI (cy 1)), .int (nI (cy 2)), .int (nI (cy 3)), .int (nI (cy 4)), .int (nI (cy 5)), .int (nI (cy 6)), .int (nI (cy 7)), .int (nI kp), .int (nI nc), .ref (cb 0), .ref (cb 1), .ref (cb 2), .ref (cb 3), .ref (cb 4), .ref (cb 5), .ref (cb 6), .ref (cb 7), .ref (cb 8), .ref (cb 9), .ref (cb 10), .ref (cb 11)], aN E (cb 2) 8 fo, aN E (cb 3) 8 on, aI E (cb 4) 8 tw, aI E (q 15) 25 (xF mn ink t dd), aI E (q 16) 25 (xF mn ink t dd), aM E (q 21) 8 (lyF Fs Ft t (cy 4) kf (cy 5))]) rfl rfl ?_
    refine v_aload_n X dX8_heaviest_23 rfl 0 rfl ?_
    refine v_iload_n X dX8_heaviest_24 rfl 1 rfl ?_
    refine v_roI1 X (rn_V X k_X8_binding ml_X8_332 dX8_heaviest_25 (c_X8_bindingB l E k 0 tr wh g rr q z nb wa wd (allS (cy 4)) al wl cy kp nc cb mn ink t dd m (by first | assumption | omega) (by first | assumption | omega) (by first | assumption | omega)) rfl 0 rfl rfl (by decide) (by decide) (by omega) (by omega) (Nat.le_of_ble_eq_true rfl)) [0, 1, 6] rfl rfl ?_
    refine v_istore_n X dX8_heaviest_28 rfl (by decide) (lv' := [(2, .int (nI (bdN ink mn m 0))), (0, .ref k), (1, .int m)]) rfl ?_
    refine v_bipush X dX8_heaviest_29 (v := (-2)) (by decide) ?_
    refine v_istore_n X dX8_heaviest_31 rfl (by decide) (lv' := [(3, .int (-2)), (2, .int (nI (bdN ink mn m 0))), (0, .ref k), (1, .int m)]) rfl ?_
    refine v_iconst X dX8_heaviest_32 (v := (-1)) (by decide) ?_
    refine v_istore X dX8_heaviest_33 (by decide) (lv' := [(4, .int (-1)), (3, .int (-2)), (2, .int (nI (bdN ink mn m 0))), (0, .ref k), (1, .int m)]) rfl ?_
    refine v_iconst X dX8_heaviest_35 (v := nI 0) (by decide) ?_
    refine v_istore X dX8_heaviest_36 (by decide) (lv' := [(5, .int (nI 0)), (4, .int (-1)), (3, .int (-2)), (2, .int (nI (bdN ink mn m 0))), (0, .ref k), (1, .int m)]) rfl ?_
    have L38 : ∀ (j38 : Nat) (vc : Nat) (vo : Option Nat), (vc ≤ cy 5 ∧ vo = bestO (fun c => (bdN ink mn m 0).testBit c) (fun p q => decide (pop64 (kpN cy Fs Ft t (ndf (bdN ink mn m 0) (2 ^ q))) < pop64 (kpN cy Fs Ft t (ndf (bdN ink mn m 0) (2 ^ p))))) vc) → cy 5 - vc < j38 → V E Z 38 [(0, .ref k), (1, .int m), (2, .int (nI (bdN ink mn m 0))), (3, .int (optI vo)), (4, .int (hvI (fun c => pop64 (kpN cy Fs Ft t (ndf (bdN ink mn m 0) (2 ^ c)))) vo)), (5, .int (nI vc))] [] [ob k 8 [.int (nI 0), .int (nI tr), .int wh, .ref g, va_rf rr, .ref (q 5), .int (nI (z 6)), .int (nI (z 7)), .int (nI (z 8)), .int (nI (z 9)), .int (nI (z 10)), .int nb, .int (nI (z 12)), .int wa, .long wd, .ref (q 15), .ref (q 16), .ref (q 17), .ref (q 18), .int (nI (z 19)), .int (nI (z 20)), .ref (q 21), .long (lN (allS (cy 4))), .ref (q 23), .ref (q 24), .int (nI (z 25)), .ref (q 26), .int al, .long wl, .int (nI (z 29))], ob g 7 [.int (nI (cy 0)), .int (nI (cy 1)), .int (nI (cy 2)), .int (nI (cy 3)), .int (nI (cy 4)), .int (nI (cy 5)), .int (nI (cy 6)), .int (nI (cy 7)), .int (nI kp), .int (nI nc), .ref (cb 0), .ref (cb 1), .ref (cb 2), .ref (cb 3), .ref (cb 4), .ref (cb 5), .ref (cb 6), .ref (cb 7), .ref (cb 8), .ref (cb 9), .ref (cb 10), .ref (cb 11)], aN E (cb 2) 8 fo, aN E (cb 3) 8 on, aI E (cb 4) 8 tw, aI E (q 15) 25 (xF mn ink t dd), aI E (q 16) 25 (xF mn ink t dd), aM E (q 21) 8 (lyF Fs Ft t (cy 4) kf (cy 5))] 0 0 := by
      intro j38
      induction j38 with
      | zero => intro vc vo hI hM; exact absurd hM (Nat.not_lt_zero _)
      | succ j38 ih38 =>
        intro vc vo hI38 hM38
        obtain ⟨hc, ho⟩ := id hI38
        rcases vo with _ | vq
        · refine V.cast (lv' := [(0, .ref k), (1, .int m), (2, .int (nI (bdN ink mn m 0))), (3, .int (-2)), (4, .int (-1)), (5, .int (nI vc))]) rfl rfl rfl ?_
          refine v_iload X dX8_heaviest_38 5 rfl ?_
          refine v_aload_n X dX8_heaviest_40 rfl 0 rfl ?_
          refine v_get X kcX8 fl_X8_306 dX8_heaviest_41 0 rfl rfl ?_
          refine v_getN X kcX7 fl_X8_240 dX8_heaviest_44 1 rfl rfl ?_
          refine v_icmpN_ge X dX8_heaviest_47 (tgt := 103) (by decide) (by omega) (by omega) (fun h47 => ?_) (fun h47 => ?_)
          · refine v_aload_n X dX8_heaviest_103 rfl 0 rfl ?_
            refine v_iload_n X dX8_heaviest_104 rfl 3 rfl ?_
            refine v_wrI1 X (rn_V X k_X8_good ml_X8_53 dX8_heaviest_105 (c_X8_good l E k 0 tr wh g rr q z nb wa wd (allS (cy 4)) al wl (-2) ) rfl 0 rfl rfl (by decide) (by decide) (by omega) (by omega) (Nat.le_of_ble_eq_true rfl)) [0] rfl rfl (ws' := [ob k 8 [.int (nI 0), .int (nI 0), .int (-1), .ref g, va_rf rr, .ref (q 5), .int (nI (z 6)), .int (nI (z 7)), .int (nI (z 8)), .int (nI (z 9)), .int (nI (z 10)), .int nb, .int (nI (z 12)), .int wa, .long wd, .ref (q 15), .ref (q 16), .ref (q 17), .ref (q 18), .int (nI (z 19)), .int (nI (z 20)), .ref (q 21), .long (lN (allS (cy 4))), .ref (q 23), .ref (q 24), .int (nI (z 25)), .ref (q 26), .int al, .long wl, .int (nI (z 29))], ob g 7 [.int (nI (cy 0)), .int (nI (cy 1)), .int (nI (cy 2)), .int (nI (cy 3)), .int (nI (cy 4)), .int (nI (cy 5)), .int (nI (cy 6)), .int (nI (cy 7)), .int (nI kp), .int (nI nc), .ref (cb 0), .ref (cb 1), .ref (cb 2), .ref (cb 3), .ref (cb 4), .ref (cb 5), .ref (cb 6), .ref (cb 7), .ref (cb 8), .ref (cb 9), .ref (cb 10), .ref (cb 11)], aN E (cb 2) 8 fo, aN E (cb 3) 8 on, aI E (cb 4) 8 tw, aI E (q 15) 25 (xF mn ink t dd), aI E (q 16) 25 (xF mn ink t dd), aM E (q 21) 8 (lyF Fs Ft t (cy 4) kf (cy 5))]) rfl rfl ?_
            exact v_iret X Y dX8_heaviest_108 (wrI_of rfl ((by rw [show cy 5 = vc by omega, ← ho]; rfl))) (by omega) (by omega)
          · refine v_iload_n X dX8_heaviest_50 rfl 2 rfl ?_
            refine v_iload X dX8_heaviest_51 5 rfl ?_
            refine v_roI1 X (rn_S X k_X8_bit ml_X8_274 dX8_heaviest_53 (c_X8_bit l E (bdN ink mn m 0) vc (Nat.lt_trans hb256 (by decide)) (by omega)) rfl (by decide) (by decide) (by omega) (by omega) (Nat.le_of_ble_eq_true rfl)) [] rfl rfl ?_
            refine v_ifB_eq X dX8_heaviest_56 (tgt := 77) (by decide) (fun h56 => ?_) (fun h56 => ?_)
            · refine v_iconst X dX8_heaviest_77 (v := (-1)) (by decide) ?_
              refine v_istore X dX8_heaviest_78 (by decide) (lv' := [(6, .int (-1)), (0, .ref k), (1, .int m), (2, .int (nI (bdN ink mn m 0))), (3, .int (-2)), (4, .int (-1)), (5, .int (nI vc))]) rfl ?_
              refine v_iload X dX8_heaviest_80 0 rfl ?_
              refine v_iload X dX8_heaviest_82 5 rfl ?_
              refine v_icmp_gt X dX8_heaviest_84 (tgt := 90) (by decide) (fun h84 => ?_) (fun h84 => ?_)
              · exact absurd h84 (by decide)
              · refine v_goto X dX8_heaviest_87 (tgt := 97) (by decide) ?_
                refine v_iinc X dX8_heaviest_97 6 rfl (v := nI (vc + 1)) (nI_inc vc) (by decide) (lv' := [(5, .int (nI (vc + 1))), (6, .int (-1)), (0, .ref k), (1, .int m), (2, .int (nI (bdN ink mn m 0))), (3, .int (-2)), (4, .int (-1))]) rfl ?_
                refine v_goto X dX8_heaviest_100 (tgt := 38) (by decide) ?_
                refine V.lvs [2, 3, 4, 5, 6, 0] rfl ?_
                exact ih38 (vc + 1) none (⟨by omega, bestO_no ho h56⟩) (by omega)
            · refine v_aload_n X dX8_heaviest_59 rfl 0 rfl ?_
              refine v_iload_n X dX8_heaviest_60 rfl 2 rfl ?_
              refine v_iconst X dX8_heaviest_61 (v := nI 1) (by decide) ?_
              refine v_iload X dX8_heaviest_62 5 rfl ?_
              refine v_ishl X dX8_heaviest_64 ?_
              refine v_eqi (x' := nI (2 ^ vc)) (nI_shl1 (by omega)) ?_
              refine v_iconst X dX8_heaviest_65 (v := (-1)) (by decide) ?_
              refine v_ixor X dX8_heaviest_66 ?_
              refine v_iand X dX8_heaviest_67 ?_
              refine v_eqi (x' := nI (ndf (bdN ink mn m 0) (2 ^ vc))) (nI_andn _ _) ?_
              refine v_roL1 X (rn_V X k_X8_keepAll ml_X8_335 dX8_heaviest_68 (c_X8_keepAllL l E k 0 tr wh g rr q z nb wa wd al wl cy kp nc cb Fs Ft kf t (ndf (bdN ink mn m 0) (2 ^ vc)) (by first | assumption | omega) (Nat.lt_trans (ndf_lt (n := 8) _ hb256) (by decide))) rfl 0 rfl rfl (by decide) (by decide) (by omega) (by omega) (Nat.le_of_ble_eq_true rfl)) [0, 1, 7] rfl rfl ?_
              refine v_roI1 X (rn_S X k_X8_many ml_X8_361 dX8_heaviest_71 (c_X8_many l E (kpN cy Fs Ft t (ndf (bdN ink mn m 0) (2 ^ vc))) (kpN_lt hd _ _ _ _)) rfl (by decide) (by decide) (by omega) (by omega) (Nat.le_of_ble_eq_true rfl)) [] rfl rfl ?_
              refine v_goto X dX8_heaviest_74 (tgt := 78) (by decide) ?_
              refine v_istore X dX8_heaviest_78 (by decide) (lv' := [(6, .int (nI (cnt (fun k => (kpN cy Fs Ft t (ndf (bdN ink mn m 0) (2 ^ vc))).testBit k) 64))), (0, .ref k), (1, .int m), (2, .int (nI (bdN ink mn m 0))), (3, .int (-2)), (4, .int (-1)), (5, .int (nI vc))]) rfl ?_
              refine v_iload X dX8_heaviest_80 0 rfl ?_
              refine v_iload X dX8_heaviest_82 5 rfl ?_
              refine v_icmp_gt X dX8_heaviest_84 (tgt := 90) (by decide) (fun h84 => ?_) (fun h84 => ?_)
              · refine v_iload X dX8_heaviest_90 0 rfl ?_
                refine v_istore X dX8_heaviest_92 (by decide) (lv' := [(4, .int (nI (cnt (fun k => (kpN cy Fs Ft t (ndf (bdN ink mn m 0) (2 ^ vc))).testBit k) 64))), (6, .int (nI (cnt (fun k => (kpN cy Fs Ft t (ndf (bdN ink mn m 0) (2 ^ vc))).testBit k) 64))), (0, .ref k), (1, .int m), (2, .int (nI (bdN ink mn m 0))), (3, .int (-2)), (5, .int (nI vc))]) rfl ?_
                refine v_iload X dX8_heaviest_94 6 rfl ?_
                refine v_istore_n X dX8_heaviest_96 rfl (by decide) (lv' := [(3, .int (nI vc)), (4, .int (nI (cnt (fun k => (kpN cy Fs Ft t (ndf (bdN ink mn m 0) (2 ^ vc))).testBit k) 64))), (6, .int (nI (cnt (fun k => (kpN cy Fs Ft t (ndf (bdN ink mn m 0) (2 ^ vc))).testBit k) 64))), (0, .ref k), (1, .int m), (2, .int (nI (bdN ink mn m 0))), (5, .int (nI vc))]) rfl ?_
                refine v_iinc X dX8_heaviest_97 6 rfl (v := nI (vc + 1)) (nI_inc vc) (by decide) (lv' := [(5, .int (nI (vc + 1))), (3, .int (nI vc)), (4, .int (nI (cnt (fun k => (kpN cy Fs Ft t (ndf (bdN ink mn m 0) (2 ^ vc))).testBit k) 64))), (6, .int (nI (cnt (fun k => (kpN cy Fs Ft t (ndf (bdN ink mn m 0) (2 ^ vc))).testBit k) 64))), (0, .ref k), (1, .int m), (2, .int (nI (bdN ink mn m 0)))]) rfl ?_
                refine v_goto X dX8_heaviest_100 (tgt := 38) (by decide) ?_
                refine V.lvs [4, 5, 6, 1, 2, 0] rfl ?_
                exact ih38 (vc + 1) (some vc) (⟨by omega, bestO_0 ho h56⟩) (by omega)
              · exact (np1 (Int32.not_lt.mp h84) (Nat.lt_of_le_of_lt (pop64_le _) (by decide))).elim
        · have hvq := bestO_lt ho
          refine V.cast (lv' := [(0, .ref k), (1, .int m), (2, .int (nI (bdN ink mn m 0))), (3, .int (nI vq)), (4, .int (nI (pop64 (kpN cy Fs Ft t (ndf (bdN ink mn m 0) (2 ^ vq)))))), (5, .int (nI vc))]) rfl rfl rfl ?_
          refine v_iload X dX8_heaviest_38 5 rfl ?_
          refine v_aload_n X dX8_heaviest_40 rfl 0 rfl ?_
          refine v_get X kcX8 fl_X8_306 dX8_heaviest_41 0 rfl rfl ?_
          refine v_getN X kcX7 fl_X8_240 dX8_heaviest_44 1 rfl rfl ?_
          refine v_icmpN_ge X dX8_heaviest_47 (tgt := 103) (by decide) (by omega) (by omega) (fun h47 => ?_) (fun h47 => ?_)
          · refine v_aload_n X dX8_heaviest_103 rfl 0 rfl ?_
            refine v_iload_n X dX8_heaviest_104 rfl 3 rfl ?_
            refine v_wrI1 X (rn_V X k_X8_good ml_X8_53 dX8_heaviest_105 (c_X8_good l E k 0 tr wh g rr q z nb wa wd (allS (cy 4)) al wl (nI vq) ) rfl 0 rfl rfl (by decide) (by decide) (by omega) (by omega) (Nat.le_of_ble_eq_true rfl)) [0] rfl rfl (ws' := [ob k 8 [.int (nI 0), .int (nI 0), .int (-1), .ref g, va_rf rr, .ref (q 5), .int (nI (z 6)), .int (nI (z 7)), .int (nI (z 8)), .int (nI (z 9)), .int (nI (z 10)), .int nb, .int (nI (z 12)), .int wa, .long wd, .ref (q 15), .ref (q 16), .ref (q 17), .ref (q 18), .int (nI (z 19)), .int (nI (z 20)), .ref (q 21), .long (lN (allS (cy 4))), .ref (q 23), .ref (q 24), .int (nI (z 25)), .ref (q 26), .int al, .long wl, .int (nI (z 29))], ob g 7 [.int (nI (cy 0)), .int (nI (cy 1)), .int (nI (cy 2)), .int (nI (cy 3)), .int (nI (cy 4)), .int (nI (cy 5)), .int (nI (cy 6)), .int (nI (cy 7)), .int (nI kp), .int (nI nc), .ref (cb 0), .ref (cb 1), .ref (cb 2), .ref (cb 3), .ref (cb 4), .ref (cb 5), .ref (cb 6), .ref (cb 7), .ref (cb 8), .ref (cb 9), .ref (cb 10), .ref (cb 11)], aN E (cb 2) 8 fo, aN E (cb 3) 8 on, aI E (cb 4) 8 tw, aI E (q 15) 25 (xF mn ink t dd), aI E (q 16) 25 (xF mn ink t dd), aM E (q 21) 8 (lyF Fs Ft t (cy 4) kf (cy 5))]) rfl rfl ?_
            exact v_iret X Y dX8_heaviest_108 (wrI_of rfl ((by rw [show cy 5 = vc by omega, ← ho]; rfl))) (by omega) (by omega)
          · refine v_iload_n X dX8_heaviest_50 rfl 2 rfl ?_
            refine v_iload X dX8_heaviest_51 5 rfl ?_
            refine v_roI1 X (rn_S X k_X8_bit ml_X8_274 dX8_heaviest_53 (c_X8_bit l E (bdN ink mn m 0) vc (Nat.lt_trans hb256 (by decide)) (by omega)) rfl (by decide) (by decide) (by omega) (by omega) (Nat.le_of_ble_eq_true rfl)) [] rfl rfl ?_
            refine v_ifB_eq X dX8_heaviest_56 (tgt := 77) (by decide) (fun h56 => ?_) (fun h56 => ?_)
            · refine v_iconst X dX8_heaviest_77 (v := (-1)) (by decide) ?_
              refine v_istore X dX8_heaviest_78 (by decide) (lv' := [(6, .int (-1)), (0, .ref k), (1, .int m), (2, .int (nI (bdN ink mn m 0))), (3, .int (nI vq)), (4, .int (nI (pop64 (kpN cy Fs Ft t (ndf (bdN ink mn m 0) (2 ^ vq)))))), (5, .int (nI vc))]) rfl ?_
              refine v_iload X dX8_heaviest_80 0 rfl ?_
              refine v_iload X dX8_heaviest_82 5 rfl ?_
              refine v_icmp_gt X dX8_heaviest_84 (tgt := 90) (by decide) (fun h84 => ?_) (fun h84 => ?_)
              · exact (ng1 h84 (Nat.lt_of_le_of_lt (pop64_le _) (by decide))).elim
              · refine v_goto X dX8_heaviest_87 (tgt := 97) (by decide) ?_
                refine v_iinc X dX8_heaviest_97 6 rfl (v := nI (vc + 1)) (nI_inc vc) (by decide) (lv' := [(5, .int (nI (vc + 1))), (6, .int (-1)), (0, .ref k), (1, .int m), (2, .int (nI (bdN ink mn m 0))), (3, .int (nI vq)), (4, .int (nI (pop64 (kpN cy Fs Ft t (ndf (bdN ink mn m 0) (2 ^ vq))))))]) rfl ?_
                refine v_goto X dX8_heaviest_100 (tgt := 38) (by decide) ?_
                refine V.lvs [2, 3, 4, 5, 6, 0] rfl ?_
                exact ih38 (vc + 1) (some vq) (⟨by omega, bestO_no ho h56⟩) (by omega)
            · refine v_aload_n X dX8_heaviest_59 rfl 0 rfl ?_
              refine v_iload_n X dX8_heaviest_60 rfl 2 rfl ?_
              refine v_iconst X dX8_heaviest_61 (v := nI 1) (by decide) ?_
              refine v_iload X dX8_heaviest_62 5 rfl ?_
              refine v_ishl X dX8_heaviest_64 ?_
              refine v_eqi (x' := nI (2 ^ vc)) (nI_shl1 (by omega)) ?_
              refine v_iconst X dX8_heaviest_65 (v := (-1)) (by decide) ?_
              refine v_ixor X dX8_heaviest_66 ?_
              refine v_iand X dX8_heaviest_67 ?_
              refine v_eqi (x' := nI (ndf (bdN ink mn m 0) (2 ^ vc))) (nI_andn _ _) ?_
              refine v_roL1 X (rn_V X k_X8_keepAll ml_X8_335 dX8_heaviest_68 (c_X8_keepAllL l E k 0 tr wh g rr q z nb wa wd al wl cy kp nc cb Fs Ft kf t (ndf (bdN ink mn m 0) (2 ^ vc)) (by first | assumption | omega) (Nat.lt_trans (ndf_lt (n := 8) _ hb256) (by decide))) rfl 0 rfl rfl (by decide) (by decide) (by omega) (by omega) (Nat.le_of_ble_eq_true rfl)) [0, 1, 7] rfl rfl ?_
              refine v_roI1 X (rn_S X k_X8_many ml_X8_361 dX8_heaviest_71 (c_X8_many l E (kpN cy Fs Ft t (ndf (bdN ink mn m 0) (2 ^ vc))) (kpN_lt hd _ _ _ _)) rfl (by decide) (by decide) (by omega) (by omega) (Nat.le_of_ble_eq_true rfl)) [] rfl rfl ?_
              refine v_goto X dX8_heaviest_74 (tgt := 78) (by decide) ?_
              refine v_istore X dX8_heaviest_78 (by decide) (lv' := [(6, .int (nI (cnt (fun k => (kpN cy Fs Ft t (ndf (bdN ink mn m 0) (2 ^ vc))).testBit k) 64))), (0, .ref k), (1, .int m), (2, .int (nI (bdN ink mn m 0))), (3, .int (nI vq)), (4, .int (nI (pop64 (kpN cy Fs Ft t (ndf (bdN ink mn m 0) (2 ^ vq)))))), (5, .int (nI vc))]) rfl ?_
              refine v_iload X dX8_heaviest_80 0 rfl ?_
              refine v_iload X dX8_heaviest_82 5 rfl ?_
              refine v_icmpN_gt X dX8_heaviest_84 (tgt := 90) (by decide) (Nat.lt_of_le_of_lt (pop64_le _) (by decide)) (Nat.lt_of_le_of_lt (pop64_le _) (by decide)) (fun h84 => ?_) (fun h84 => ?_)
              · refine v_iload X dX8_heaviest_90 0 rfl ?_
                refine v_istore X dX8_heaviest_92 (by decide) (lv' := [(4, .int (nI (cnt (fun k => (kpN cy Fs Ft t (ndf (bdN ink mn m 0) (2 ^ vc))).testBit k) 64))), (6, .int (nI (cnt (fun k => (kpN cy Fs Ft t (ndf (bdN ink mn m 0) (2 ^ vc))).testBit k) 64))), (0, .ref k), (1, .int m), (2, .int (nI (bdN ink mn m 0))), (3, .int (nI vq)), (5, .int (nI vc))]) rfl ?_
                refine v_iload X dX8_heaviest_94 6 rfl ?_
                refine v_istore_n X dX8_heaviest_96 rfl (by decide) (lv' := [(3, .int (nI vc)), (4, .int (nI (cnt (fun k => (kpN cy Fs Ft t (ndf (bdN ink mn m 0) (2 ^ vc))).testBit k) 64))), (6, .int (nI (cnt (fun k => (kpN cy Fs Ft t (ndf (bdN ink mn m 0) (2 ^ vc))).testBit k) 64))), (0, .ref k), (1, .int m), (2, .int (nI (bdN ink mn m 0))), (5, .int (nI vc))]) rfl ?_
                refine v_iinc X dX8_heaviest_97 6 rfl (v := nI (vc + 1)) (nI_inc vc) (by decide) (lv' := [(5, .int (nI (vc + 1))), (3, .int (nI vc)), (4, .int (nI (cnt (fun k => (kpN cy Fs Ft t (ndf (bdN ink mn m 0) (2 ^ vc))).testBit k) 64))), (6, .int (nI (cnt (fun k => (kpN cy Fs Ft t (ndf (bdN ink mn m 0) (2 ^ vc))).testBit k) 64))), (0, .ref k), (1, .int m), (2, .int (nI (bdN ink mn m 0)))]) rfl ?_
                refine v_goto X dX8_heaviest_100 (tgt := 38) (by decide) ?_
                refine V.lvs [4, 5, 6, 1, 2, 0] rfl ?_
                exact ih38 (vc + 1) (some vc) (⟨by omega, bestO_1 ho h56 (decide_eq_true h84)⟩) (by omega)
              · refine v_goto X dX8_heaviest_87 (tgt := 97) (by decide) ?_
                refine v_iinc X dX8_heaviest_97 6 rfl (v := nI (vc + 1)) (nI_inc vc) (by decide) (lv' := [(5, .int (nI (vc + 1))), (6, .int (nI (cnt (fun k => (kpN cy Fs Ft t (ndf (bdN ink mn m 0) (2 ^ vc))).testBit k) 64))), (0, .ref k), (1, .int m), (2, .int (nI (bdN ink mn m 0))), (3, .int (nI vq)), (4, .int (nI (pop64 (kpN cy Fs Ft t (ndf (bdN ink mn m 0) (2 ^ vq))))))]) rfl ?_
                refine v_goto X dX8_heaviest_100 (tgt := 38) (by decide) ?_
                refine V.lvs [2, 3, 4, 5, 6, 0] rfl ?_
                exact ih38 (vc + 1) (some vq) (⟨by omega, bestO_2 ho h56 (decide_eq_false h84)⟩) (by omega)
    refine V.lvs [4, 5, 3, 2, 1, 0] rfl ?_
    exact L38 _ 0 none (⟨by omega, rfl⟩) (Nat.lt_succ_self _)
  · exact absurd hok (of_decide_eq_false h10)
set_option maxRecDepth 100000 in
set_option maxHeartbeats 4000000 in
theorem c_X8_heaviest_no (l : Launch) (E : Et) (k : Nat) (th : Nat) (tr : Nat) (wh : Int32) (g : Nat) (rr : Option Nat) (q : Nat → Nat) (z : Nat → Nat) (nb : Int32) (wa : Int32) (wd : Int64) (ev : Nat) (al : Int32) (wl : Int64) (cy : Nat → Nat) (kp : Nat) (nc : Nat) (cb : Nat → Nat) (m : Int32) (hno : ¬ okM m (cy 3)) : Ct l E yX8_heaviest cX8_heaviest 7 (some .int) 5 0 0 [.ref k, .int m] [ob k 8 [.int (nI th), .int (nI tr), .int wh, .ref g, va_rf rr, .ref (q 5), .int (nI (z 6)), .int (nI (z 7)), .int (nI (z 8)), .int (nI (z 9)), .int (nI (z 10)), .int nb, .int (nI (z 12)), .int wa, .long wd, .ref (q 15), .ref (q 16), .ref (q 17), .ref (q 18), .int (nI (z 19)), .int (nI (z 20)), .ref (q 21), .long (lN ev), .ref (q 23), .ref (q 24), .int (nI (z 25)), .ref (q 26), .int al, .long wl, .int (nI (z 29))], ob g 7 [.int (nI (cy 0)), .int (nI (cy 1)), .int (nI (cy 2)), .int (nI (cy 3)), .int (nI (cy 4)), .int (nI (cy 5)), .int (nI (cy 6)), .int (nI (cy 7)), .int (nI kp), .int (nI nc), .ref (cb 0), .ref (cb 1), .ref (cb 2), .ref (cb 3), .ref (cb 4), .ref (cb 5), .ref (cb 6), .ref (cb 7), .ref (cb 8), .ref (cb 9), .ref (cb 10), .ref (cb 11)]] (wrI [ob k 8 [.int (nI 0), .int (nI 1), .int (-1), .ref g, va_rf rr, .ref (q 5), .int (nI (z 6)), .int (nI (z 7)), .int (nI (z 8)), .int (nI (z 9)), .int (nI (z 10)), .int nb, .int (nI (z 12)), .int wa, .long wd, .ref (q 15), .ref (q 16), .ref (q 17), .ref (q 18), .int (nI (z 19)), .int (nI (z 20)), .ref (q 21), .long (lN ev), .ref (q 23), .ref (q 24), .int (nI (z 25)), .ref (q 26), .int al, .long wl, .int (nI (z 29))], ob g 7 [.int (nI (cy 0)), .int (nI (cy 1)), .int (nI (cy 2)), .int (nI (cy 3)), .int (nI (cy 4)), .int (nI (cy 5)), .int (nI (cy 6)), .int (nI (cy 7)), .int (nI kp), .int (nI nc), .ref (cb 0), .ref (cb 1), .ref (cb 2), .ref (cb 3), .ref (cb 4), .ref (cb 5), .ref (cb 6), .ref (cb 7), .ref (cb 8), .ref (cb 9), .ref (cb 10), .ref (cb 11)]] (-1)) := by
  refine Ct.intro (by decide +kernel) (Nat.le_of_ble_eq_true rfl) (lv := [(0, .ref k), (1, .int m)]) rfl ?_
  intro Z X Y
  refine v_aload_n X dX8_heaviest_0 rfl 0 rfl ?_
  refine v_iconst X dX8_heaviest_1 (v := nI 0) (by decide) ?_
  refine v_put X kcX8 fl_X8_43 dX8_heaviest_2 0 rfl (ws' := [ob k 8 [.int (nI 0), .int (nI tr), .int wh, .ref g, va_rf rr, .ref (q 5), .int (nI (z 6)), .int (nI (z 7)), .int (nI (z 8)), .int (nI (z 9)), .int (nI (z 10)), .int nb, .int (nI (z 12)), .int wa, .long wd, .ref (q 15), .ref (q 16), .ref (q 17), .ref (q 18), .int (nI (z 19)), .int (nI (z 20)), .ref (q 21), .long (lN ev), .ref (q 23), .ref (q 24), .int (nI (z 25)), .ref (q 26), .int al, .long wl, .int (nI (z 29))], ob g 7 [.int (nI (cy 0)), .int (nI (cy 1)), .int (nI (cy 2)), .int (nI (cy 3)), .int (nI (cy 4)), .int (nI (cy 5)), .int (nI (cy 6)), .int (nI (cy 7)), .int (nI kp), .int (nI nc), .ref (cb 0), .ref (cb 1), .ref (cb 2), .ref (cb 3), .ref (cb 4), .ref (cb 5), .ref (cb 6), .ref (cb 7), .ref (cb 8), .ref (cb 9), .ref (cb 10), .ref (cb 11)]]) rfl rfl ?_
  refine v_aload_n X dX8_heaviest_5 rfl 0 rfl ?_
  refine v_iload_n X dX8_heaviest_6 rfl 1 rfl ?_
  refine v_roI1 X (rn_V X k_X8_isMan ml_X8_345 dX8_heaviest_7 (c_X8_isMan l E k 0 tr wh g rr q z nb wa wd ev al wl cy kp nc cb m ) rfl 0 rfl rfl (by decide) (by decide) (by omega) (by omega) (Nat.le_of_ble_eq_true rfl)) [0, 1] rfl rfl ?_
  refine v_ifB_ne X dX8_heaviest_10 (tgt := 19) (by decide) (fun h10 => ?_) (fun h10 => ?_)
  · exact absurd (of_decide_eq_true h10) hno
  · refine v_aload_n X dX8_heaviest_13 rfl 0 rfl ?_
    refine v_iconst X dX8_heaviest_14 (v := nI 1) (by decide) ?_
    refine v_wrI1 X (rn_V X k_X8_refused ml_X8_49 dX8_heaviest_15 (c_X8_refused l E k 0 tr wh g rr q z nb wa wd ev al wl 1 ) rfl 0 rfl rfl (by decide) (by decide) (by omega) (by omega) (Nat.le_of_ble_eq_true rfl)) [0] rfl rfl (ws' := [ob k 8 [.int (nI 0), .int (nI 1), .int (-1), .ref g, va_rf rr, .ref (q 5), .int (nI (z 6)), .int (nI (z 7)), .int (nI (z 8)), .int (nI (z 9)), .int (nI (z 10)), .int nb, .int (nI (z 12)), .int wa, .long wd, .ref (q 15), .ref (q 16), .ref (q 17), .ref (q 18), .int (nI (z 19)), .int (nI (z 20)), .ref (q 21), .long (lN ev), .ref (q 23), .ref (q 24), .int (nI (z 25)), .ref (q 26), .int al, .long wl, .int (nI (z 29))], ob g 7 [.int (nI (cy 0)), .int (nI (cy 1)), .int (nI (cy 2)), .int (nI (cy 3)), .int (nI (cy 4)), .int (nI (cy 5)), .int (nI (cy 6)), .int (nI (cy 7)), .int (nI kp), .int (nI nc), .ref (cb 0), .ref (cb 1), .ref (cb 2), .ref (cb 3), .ref (cb 4), .ref (cb 5), .ref (cb 6), .ref (cb 7), .ref (cb 8), .ref (cb 9), .ref (cb 10), .ref (cb 11)]]) rfl rfl ?_
    exact v_iret X Y dX8_heaviest_18 (wrI_of rfl rfl) (by omega) (by omega)
set_option maxRecDepth 100000 in
set_option maxHeartbeats 4000000 in
theorem c_X8_heaviest_n (l : Launch) (E : Et) (k : Nat) (th : Nat) (tr : Nat) (wh : Int32) (rr : Option Nat) (q : Nat → Nat) (z : Nat → Nat) (nb : Int32) (wa : Int32) (wd : Int64) (ev : Nat) (al : Int32) (wl : Int64) (m : Int32)  : Ct l E yX8_heaviest cX8_heaviest 7 (some .int) 5 0 0 [.ref k, .int m] [ob k 8 [.int (nI th), .int (nI tr), .int wh, .null, va_rf rr, .ref (q 5), .int (nI (z 6)), .int (nI (z 7)), .int (nI (z 8)), .int (nI (z 9)), .int (nI (z 10)), .int nb, .int (nI (z 12)), .int wa, .long wd, .ref (q 15), .ref (q 16), .ref (q 17), .ref (q 18), .int (nI (z 19)), .int (nI (z 20)), .ref (q 21), .long (lN ev), .ref (q 23), .ref (q 24), .int (nI (z 25)), .ref (q 26), .int al, .long wl, .int (nI (z 29))]] (wrI [ob k 8 [.int (nI 0), .int (nI 1), .int (-1), .null, va_rf rr, .ref (q 5), .int (nI (z 6)), .int (nI (z 7)), .int (nI (z 8)), .int (nI (z 9)), .int (nI (z 10)), .int nb, .int (nI (z 12)), .int wa, .long wd, .ref (q 15), .ref (q 16), .ref (q 17), .ref (q 18), .int (nI (z 19)), .int (nI (z 20)), .ref (q 21), .long (lN ev), .ref (q 23), .ref (q 24), .int (nI (z 25)), .ref (q 26), .int al, .long wl, .int (nI (z 29))]] (-1)) := by
  refine Ct.intro (by decide +kernel) (Nat.le_of_ble_eq_true rfl) (lv := [(0, .ref k), (1, .int m)]) rfl ?_
  intro Z X Y
  refine v_aload_n X dX8_heaviest_0 rfl 0 rfl ?_
  refine v_iconst X dX8_heaviest_1 (v := nI 0) (by decide) ?_
  refine v_put X kcX8 fl_X8_43 dX8_heaviest_2 0 rfl (ws' := [ob k 8 [.int (nI 0), .int (nI tr), .int wh, .null, va_rf rr, .ref (q 5), .int (nI (z 6)), .int (nI (z 7)), .int (nI (z 8)), .int (nI (z 9)), .int (nI (z 10)), .int nb, .int (nI (z 12)), .int wa, .long wd, .ref (q 15), .ref (q 16), .ref (q 17), .ref (q 18), .int (nI (z 19)), .int (nI (z 20)), .ref (q 21), .long (lN ev), .ref (q 23), .ref (q 24), .int (nI (z 25)), .ref (q 26), .int al, .long wl, .int (nI (z 29))]]) rfl rfl ?_
  refine v_aload_n X dX8_heaviest_5 rfl 0 rfl ?_
  refine v_iload_n X dX8_heaviest_6 rfl 1 rfl ?_
  refine v_roI1 X (rn_V X k_X8_isMan ml_X8_345 dX8_heaviest_7 (c_X8_isMan_n l E k 0 tr wh rr q z nb wa wd ev al wl m ) rfl 0 rfl rfl (by decide) (by decide) (by omega) (by omega) (Nat.le_of_ble_eq_true rfl)) [0] rfl rfl ?_
  refine v_ifN_ne X dX8_heaviest_10 (tgt := 19) (by decide) (by decide) (fun h10 => ?_) (fun h10 => ?_)
  · exfalso; omega
  · refine v_aload_n X dX8_heaviest_13 rfl 0 rfl ?_
    refine v_iconst X dX8_heaviest_14 (v := nI 1) (by decide) ?_
    refine v_wrI1 X (rn_V X k_X8_refused ml_X8_49 dX8_heaviest_15 (c_X8_refused_n l E k 0 tr wh rr q z nb wa wd ev al wl 1 ) rfl 0 rfl rfl (by decide) (by decide) (by omega) (by omega) (Nat.le_of_ble_eq_true rfl)) [0] rfl rfl (ws' := [ob k 8 [.int (nI 0), .int (nI 1), .int (-1), .null, va_rf rr, .ref (q 5), .int (nI (z 6)), .int (nI (z 7)), .int (nI (z 8)), .int (nI (z 9)), .int (nI (z 10)), .int nb, .int (nI (z 12)), .int wa, .long wd, .ref (q 15), .ref (q 16), .ref (q 17), .ref (q 18), .int (nI (z 19)), .int (nI (z 20)), .ref (q 21), .long (lN ev), .ref (q 23), .ref (q 24), .int (nI (z 25)), .ref (q 26), .int al, .long wl, .int (nI (z 29))]]) rfl rfl ?_
    exact v_iret X Y dX8_heaviest_18 (wrI_of rfl rfl) (by omega) (by omega)
set_option maxRecDepth 100000 in
set_option maxHeartbeats 4000000 in
theorem c_X8_feared (l : Launch) (E : Et) (k : Nat) (th : Nat) (tr : Nat) (wh : Int32) (g : Nat) (rr : Option Nat) (q : Nat → Nat) (z : Nat → Nat) (nb : Int32) (wa : Int32) (wd : Int64) (ev : Nat) (al : Int32) (wl : Int64) (cy : Nat → Nat) (kp : Nat) (nc : Nat) (cb : Nat → Nat) (fo : Nat → Nat) (on : Nat → Nat) (tw : Nat → Int32) (xf : Nat → Int32) (mn : Nat → Int32) (ink : Nat → Nat) (t : Nat) (dd : Nat) (Fs : Nat → Nat) (Ft : Nat → Nat) (kf : Nat → Nat) (m : Int32) (hd : cy 4 ≤ 6) (hcl : cy 5 ≤ 8) (hfo : ∀ c, c < cy 5 → fo c ≤ 5) (hon : ∀ c, c < cy 5 → on c < 6) (htw : ∀ c, c < cy 5 → okT (tw c)) (hFs : ∀ c, c < cy 5 → Fs c = strN (fo c) (swI (nI (on c))) (swI (tw c))) (hFt : ∀ c, c < cy 5 → Ft c = turN (fo c) (swI (nI (on c))) (swI (tw c))) (hink : ∀ c, ink c ≤ 40) (hz : ∀ c, cy 5 ≤ c → ink c = 0) (hok : okM m (cy 3)) : Ct l E yX8_feared cX8_feared 6 (some .int) 5 0 0 [.ref k, .int m] [ob k 8 [.int (nI th), .int (nI tr), .int wh, .ref g, va_rf rr, .ref (q 5), .int (nI (z 6)), .int (nI (z 7)), .int (nI (z 8)), .int (nI (z 9)), .int (nI (z 10)), .int nb, .int (nI (z 12)), .int wa, .long wd, .ref (q 15), .ref (q 16), .ref (q 17), .ref (q 18), .int (nI (z 19)), .int (nI (z 20)), .ref (q 21), .long (lN ev), .ref (q 23), .ref (q 24), .int (nI (z 25)), .ref (q 26), .int al, .long wl, .int (nI (z 29))], ob g 7 [.int (nI (cy 0)), .int (nI (cy 1)), .int (nI (cy 2)), .int (nI (cy 3)), .int (nI (cy 4)), .int (nI (cy 5)), .int (nI (cy 6)), .int (nI (cy 7)), .int (nI kp), .int (nI nc), .ref (cb 0), .ref (cb 1), .ref (cb 2), .ref (cb 3), .ref (cb 4), .ref (cb 5), .ref (cb 6), .ref (cb 7), .ref (cb 8), .ref (cb 9), .ref (cb 10), .ref (cb 11)], aN E (cb 2) 8 fo, aN E (cb 3) 8 on, aI E (cb 4) 8 tw, aI E (q 15) 25 (xF mn ink t dd), aI E (q 16) 25 xf, aM E (q 21) 8 kf] (wrI [ob k 8 [.int (nI 0), .int (nI 0), .int (-1), .ref g, va_rf rr, .ref (q 5), .int (nI (z 6)), .int (nI (z 7)), .int (nI (z 8)), .int (nI (z 9)), .int (nI (z 10)), .int nb, .int (nI (z 12)), .int wa, .long wd, .ref (q 15), .ref (q 16), .ref (q 17), .ref (q 18), .int (nI (z 19)), .int (nI (z 20)), .ref (q 21), .long (lN (allS (cy 4))), .ref (q 23), .ref (q 24), .int (nI (z 25)), .ref (q 26), .int al, .long wl, .int (nI (z 29))], ob g 7 [.int (nI (cy 0)), .int (nI (cy 1)), .int (nI (cy 2)), .int (nI (cy 3)), .int (nI (cy 4)), .int (nI (cy 5)), .int (nI (cy 6)), .int (nI (cy 7)), .int (nI kp), .int (nI nc), .ref (cb 0), .ref (cb 1), .ref (cb 2), .ref (cb 3), .ref (cb 4), .ref (cb 5), .ref (cb 6), .ref (cb 7), .ref (cb 8), .ref (cb 9), .ref (cb 10), .ref (cb 11)], aN E (cb 2) 8 fo, aN E (cb 3) 8 on, aI E (cb 4) 8 tw, aI E (q 15) 25 (xF mn ink t dd), aI E (q 16) 25 (xF mn ink t dd), aM E (q 21) 8 (lyF Fs Ft t (cy 4) kf (cy 5))] (nI (bbits (fun c => decide (¬ kpN cy Fs Ft t (bdN ink mn m 0) = 0 ∧ (ndf (bbits (fun c => decide (0 < ink c)) 8) (bbits (fun c => decide (mn c = m)) 8)).testBit c = true ∧ kpN cy Fs Ft t (bdN ink mn m 0 ||| 2 ^ c) = 0)) (cy 5)))) := by
  refine Ct.intro (by decide +kernel) (Nat.le_of_ble_eq_true rfl) (lv := [(0, .ref k), (1, .int m)]) rfl ?_
  intro Z X Y
  have hb256 : bdN ink mn m 0 < 256 := bdN_lt _ _ _ _
  refine v_aload_n X dX8_feared_0 rfl 0 rfl ?_
  refine v_iconst X dX8_feared_1 (v := nI 0) (by decide) ?_
  refine v_put X kcX8 fl_X8_43 dX8_feared_2 0 rfl (ws' := [ob k 8 [.int (nI 0), .int (nI tr), .int wh, .ref g, va_rf rr, .ref (q 5), .int (nI (z 6)), .int (nI (z 7)), .int (nI (z 8)), .int (nI (z 9)), .int (nI (z 10)), .int nb, .int (nI (z 12)), .int wa, .long wd, .ref (q 15), .ref (q 16), .ref (q 17), .ref (q 18), .int (nI (z 19)), .int (nI (z 20)), .ref (q 21), .long (lN ev), .ref (q 23), .ref (q 24), .int (nI (z 25)), .ref (q 26), .int al, .long wl, .int (nI (z 29))], ob g 7 [.int (nI (cy 0)), .int (nI (cy 1)), .int (nI (cy 2)), .int (nI (cy 3)), .int (nI (cy 4)), .int (nI (cy 5)), .int (nI (cy 6)), .int (nI (cy 7)), .int (nI kp), .int (nI nc), .ref (cb 0), .ref (cb 1), .ref (cb 2), .ref (cb 3), .ref (cb 4), .ref (cb 5), .ref (cb 6), .ref (cb 7), .ref (cb 8), .ref (cb 9), .ref (cb 10), .ref (cb 11)], aN E (cb 2) 8 fo, aN E (cb 3) 8 on, aI E (cb 4) 8 tw, aI E (q 15) 25 (xF mn ink t dd), aI E (q 16) 25 xf, aM E (q 21) 8 kf]) rfl rfl ?_
  refine v_aload_n X dX8_feared_5 rfl 0 rfl ?_
  refine v_iload_n X dX8_feared_6 rfl 1 rfl ?_
  refine v_roI1 X (rn_V X k_X8_isMan ml_X8_345 dX8_feared_7 (c_X8_isMan l E k 0 tr wh g rr q z nb wa wd ev al wl cy kp nc cb m ) rfl 0 rfl rfl (by decide) (by decide) (by omega) (by omega) (Nat.le_of_ble_eq_true rfl)) [0, 1] rfl rfl ?_
  refine v_ifB_ne X dX8_feared_10 (tgt := 19) (by decide) (fun h10 => ?_) (fun h10 => ?_)
  · refine v_aload_n X dX8_feared_19 rfl 0 rfl ?_
    refine v_wrV1 X (rn_V X k_X8_worksLaid ml_X8_354 dX8_feared_20 (c_X8_worksLaid l E k 0 tr wh g rr q z nb wa wd ev al wl cy kp nc cb fo on tw xf mn ink t dd Fs Ft kf (by first | assumption | omega) (by first | assumption | omega) (by first | assumption | omega) (by first | assumption | omega) (by first | assumption | omega) (by first | assumption | omega) (by first | assumption | omega)) rfl 0 rfl rfl (by decide) (by decide) (by omega) (by omega) (Nat.le_of_ble_eq_true rfl)) [0, 1, 2, 3, 4, 5, 6, 7] rfl rfl (ws' := [ob k 8 [.int (nI 0), .int (nI tr), .int wh, .ref g, va_rf rr, .ref (q 5), .int (nI (z 6)), .int (nI (z 7)), .int (nI (z 8)), .int (nI (z 9)), .int (nI (z 10)), .int nb, .int (nI (z 12)), .int wa, .long wd, .ref (q 15), .ref (q 16), .ref (q 17), .ref (q 18), .int (nI (z 19)), .int (nI (z 20)), .ref (q 21), .long (lN (allS (cy 4))), .ref (q 23), .ref (q 24), .int (nI (z 25)), .ref (q 26), .int al, .long wl, .int (nI (z 29))], ob g 7 [.int (nI (cy 0)), .int (nI (cy 1)), .int (nI (cy 2)), .int (nI (cy 3)), .int (nI (cy 4)), .int (nI (cy 5)), .int (nI (cy 6)), .int (nI (cy 7)), .int (nI kp), .int (nI nc), .ref (cb 0), .ref (cb 1), .ref (cb 2), .ref (cb 3), .ref (cb 4), .ref (cb 5), .ref (cb 6), .ref (cb 7), .ref (cb 8), .ref (cb 9), .ref (cb 10), .ref (cb 11)], aN E (cb 2) 8 fo, aN E (cb 3) 8 on, aI E (cb 4) 8 tw, aI E (q 15) 25 (xF mn ink t dd), aI E (q 16) 25 (xF mn ink t dd), aM E (q 21) 8 (lyF Fs Ft t (cy 4) kf (cy 5))]) rfl rfl ?_
    refine v_aload_n X dX8_feared_23 rfl 0 rfl ?_
    refine v_iload_n X dX8_feared_24 rfl 1 rfl ?_
    refine v_roI1 X (rn_V X k_X8_binding ml_X8_332 dX8_feared_25 (c_X8_bindingB l E k 0 tr wh g rr q z nb wa wd (allS (cy 4)) al wl cy kp nc cb mn ink t dd m (by first | assumption | omega) (by first | assumption | omega) (by first | assumption | omega)) rfl 0 rfl rfl (by decide) (by decide) (by omega) (by omega) (Nat.le_of_ble_eq_true rfl)) [0, 1, 6] rfl rfl ?_
    refine v_istore_n X dX8_feared_28 rfl (by decide) (lv' := [(2, .int (nI (bdN ink mn m 0))), (0, .ref k), (1, .int m)]) rfl ?_
    refine v_aload_n X dX8_feared_29 rfl 1 rfl ?_
    refine v_roI1 X (rn_V X k_X8_bindingAll ml_X8_378 dX8_feared_30 (c_X8_bindingAll l E k 0 tr wh g rr q z nb wa wd (allS (cy 4)) al wl cy kp nc cb mn ink t dd (by first | assumption | omega) (by first | assumption | omega) (by first | assumption | omega)) rfl 0 rfl rfl (by decide) (by decide) (by omega) (by omega) (Nat.le_of_ble_eq_true rfl)) [0, 1, 6] rfl rfl ?_
    refine v_iload_n X dX8_feared_33 rfl 0 rfl ?_
    refine v_iconst X dX8_feared_34 (v := (-1)) (by decide) ?_
    refine v_ixor X dX8_feared_35 ?_
    refine v_iand X dX8_feared_36 ?_
    refine v_eqi (x' := nI (ndf (bbits (fun cx => decide (0 < ink cx)) 8) (bdN ink mn m 0))) (nI_andn _ _) ?_
    refine v_istore_n X dX8_feared_37 rfl (by decide) (lv' := [(3, .int (nI (ndf (bbits (fun cx => decide (0 < ink cx)) 8) (bdN ink mn m 0)))), (2, .int (nI (bdN ink mn m 0))), (0, .ref k), (1, .int m)]) rfl ?_
    refine v_iconst X dX8_feared_38 (v := nI 0) (by decide) ?_
    refine v_istore X dX8_feared_39 (by decide) (lv' := [(4, .int (nI 0)), (3, .int (nI (ndf (bbits (fun cx => decide (0 < ink cx)) 8) (bdN ink mn m 0)))), (2, .int (nI (bdN ink mn m 0))), (0, .ref k), (1, .int m)]) rfl ?_
    refine v_iconst X dX8_feared_41 (v := nI 0) (by decide) ?_
    refine v_istore X dX8_feared_42 (by decide) (lv' := [(5, .int (nI 0)), (4, .int (nI 0)), (3, .int (nI (ndf (bbits (fun cx => decide (0 < ink cx)) 8) (bdN ink mn m 0)))), (2, .int (nI (bdN ink mn m 0))), (0, .ref k), (1, .int m)]) rfl ?_
    have L44 : ∀ (j44 : Nat) (vc : Nat) (vb : Nat), (vc ≤ cy 5 ∧ vb = bbits (fun c => decide (¬ kpN cy Fs Ft t (bdN ink mn m 0) = 0 ∧ (ndf (bbits (fun c => decide (0 < ink c)) 8) (bbits (fun c => decide (mn c = m)) 8)).testBit c = true ∧ kpN cy Fs Ft t (bdN ink mn m 0 ||| 2 ^ c) = 0)) vc) → cy 5 - vc < j44 → V E Z 44 [(0, .ref k), (1, .int m), (2, .int (nI (bdN ink mn m 0))), (3, .int (nI (ndf (bbits (fun c => decide (0 < ink c)) 8) (bdN ink mn m 0)))), (4, .int (nI vb)), (5, .int (nI vc))] [] [ob k 8 [.int (nI 0), .int (nI tr), .int wh, .ref g, va_rf rr, .ref (q 5), .int (nI (z 6)), .int (nI (z 7)), .int (nI (z 8)), .int (nI (z 9)), .int (nI (z 10)), .int nb, .int (nI (z 12)), .int wa, .long wd, .ref (q 15), .ref (q 16), .ref (q 17), .ref (q 18), .int (nI (z 19)), .int (nI (z 20)), .ref (q 21), .long (lN (allS (cy 4))), .ref (q 23), .ref (q 24), .int (nI (z 25)), .ref (q 26), .int al, .long wl, .int (nI (z 29))], ob g 7 [.int (nI (cy 0)), .int (nI (cy 1)), .int (nI (cy 2)), .int (nI (cy 3)), .int (nI (cy 4)), .int (nI (cy 5)), .int (nI (cy 6)), .int (nI (cy 7)), .int (nI kp), .int (nI nc), .ref (cb 0), .ref (cb 1), .ref (cb 2), .ref (cb 3), .ref (cb 4), .ref (cb 5), .ref (cb 6), .ref (cb 7), .ref (cb 8), .ref (cb 9), .ref (cb 10), .ref (cb 11)], aN E (cb 2) 8 fo, aN E (cb 3) 8 on, aI E (cb 4) 8 tw, aI E (q 15) 25 (xF mn ink t dd), aI E (q 16) 25 (xF mn ink t dd), aM E (q 21) 8 (lyF Fs Ft t (cy 4) kf (cy 5))] 0 0 := by
      intro j44
      induction j44 with
      | zero => intro vc vb hI hM; exact absurd hM (Nat.not_lt_zero _)
      | succ j44 ih44 =>
        intro vc vb hI44 hM44
        obtain ⟨hc, hb⟩ := id hI44
        refine v_iload X dX8_feared_44 5 rfl ?_
        refine v_aload_n X dX8_feared_46 rfl 0 rfl ?_
        refine v_get X kcX8 fl_X8_306 dX8_feared_47 0 rfl rfl ?_
        refine v_getN X kcX7 fl_X8_240 dX8_feared_50 1 rfl rfl ?_
        refine v_icmpN_ge X dX8_feared_53 (tgt := 107) (by decide) (by omega) (by omega) (fun h53 => ?_) (fun h53 => ?_)
        · refine v_aload_n X dX8_feared_107 rfl 0 rfl ?_
          refine v_iload X dX8_feared_108 4 rfl ?_
          refine v_wrI1 X (rn_V X k_X8_good ml_X8_53 dX8_feared_110 (c_X8_good l E k 0 tr wh g rr q z nb wa wd (allS (cy 4)) al wl (nI vb) ) rfl 0 rfl rfl (by decide) (by decide) (by omega) (by omega) (Nat.le_of_ble_eq_true rfl)) [0] rfl rfl (ws' := [ob k 8 [.int (nI 0), .int (nI 0), .int (-1), .ref g, va_rf rr, .ref (q 5), .int (nI (z 6)), .int (nI (z 7)), .int (nI (z 8)), .int (nI (z 9)), .int (nI (z 10)), .int nb, .int (nI (z 12)), .int wa, .long wd, .ref (q 15), .ref (q 16), .ref (q 17), .ref (q 18), .int (nI (z 19)), .int (nI (z 20)), .ref (q 21), .long (lN (allS (cy 4))), .ref (q 23), .ref (q 24), .int (nI (z 25)), .ref (q 26), .int al, .long wl, .int (nI (z 29))], ob g 7 [.int (nI (cy 0)), .int (nI (cy 1)), .int (nI (cy 2)), .int (nI (cy 3)), .int (nI (cy 4)), .int (nI (cy 5)), .int (nI (cy 6)), .int (nI (cy 7)), .int (nI kp), .int (nI nc), .ref (cb 0), .ref (cb 1), .ref (cb 2), .ref (cb 3), .ref (cb 4), .ref (cb 5), .ref (cb 6), .ref (cb 7), .ref (cb 8), .ref (cb 9), .ref (cb 10), .ref (cb 11)], aN E (cb 2) 8 fo, aN E (cb 3) 8 on, aI E (cb 4) 8 tw, aI E (q 15) 25 (xF mn ink t dd), aI E (q 16) 25 (xF mn ink t dd), aM E (q 21) 8 (lyF Fs Ft t (cy 4) kf (cy 5))]) rfl rfl ?_
          exact v_iret X Y dX8_feared_113 (wrI_of rfl ((by rw [show cy 5 = vc by omega, ← hb]))) (by omega) (by omega)
        · refine v_aload_n X dX8_feared_56 rfl 0 rfl ?_
          refine v_iload_n X dX8_feared_57 rfl 1 rfl ?_
          refine v_roI1 X (rn_V X k_X8_isStuck ml_X8_371 dX8_feared_58 (c_X8_isStuck l E k 0 tr wh g rr q z nb wa wd al wl cy kp nc cb mn ink t dd Fs Ft kf m (by first | assumption | omega) (by first | assumption | omega) (by first | assumption | omega) (by first | assumption | omega)) rfl 0 rfl rfl (by decide) (by decide) (by omega) (by omega) (Nat.le_of_ble_eq_true rfl)) [0, 1, 6, 7] rfl rfl ?_
          refine v_ifB_ne X dX8_feared_61 (tgt := 107) (by decide) (fun h61 => ?_) (fun h61 => ?_)
          · refine v_aload_n X dX8_feared_107 rfl 0 rfl ?_
            refine v_iload X dX8_feared_108 4 rfl ?_
            refine v_wrI1 X (rn_V X k_X8_good ml_X8_53 dX8_feared_110 (c_X8_good l E k 0 tr wh g rr q z nb wa wd (allS (cy 4)) al wl (nI vb) ) rfl 0 rfl rfl (by decide) (by decide) (by omega) (by omega) (Nat.le_of_ble_eq_true rfl)) [0] rfl rfl (ws' := [ob k 8 [.int (nI 0), .int (nI 0), .int (-1), .ref g, va_rf rr, .ref (q 5), .int (nI (z 6)), .int (nI (z 7)), .int (nI (z 8)), .int (nI (z 9)), .int (nI (z 10)), .int nb, .int (nI (z 12)), .int wa, .long wd, .ref (q 15), .ref (q 16), .ref (q 17), .ref (q 18), .int (nI (z 19)), .int (nI (z 20)), .ref (q 21), .long (lN (allS (cy 4))), .ref (q 23), .ref (q 24), .int (nI (z 25)), .ref (q 26), .int al, .long wl, .int (nI (z 29))], ob g 7 [.int (nI (cy 0)), .int (nI (cy 1)), .int (nI (cy 2)), .int (nI (cy 3)), .int (nI (cy 4)), .int (nI (cy 5)), .int (nI (cy 6)), .int (nI (cy 7)), .int (nI kp), .int (nI nc), .ref (cb 0), .ref (cb 1), .ref (cb 2), .ref (cb 3), .ref (cb 4), .ref (cb 5), .ref (cb 6), .ref (cb 7), .ref (cb 8), .ref (cb 9), .ref (cb 10), .ref (cb 11)], aN E (cb 2) 8 fo, aN E (cb 3) 8 on, aI E (cb 4) 8 tw, aI E (q 15) 25 (xF mn ink t dd), aI E (q 16) 25 (xF mn ink t dd), aM E (q 21) 8 (lyF Fs Ft t (cy 4) kf (cy 5))]) rfl rfl ?_
            exact v_iret X Y dX8_feared_113 (wrI_of rfl ((by rw [hb]; exact congrArg nI ((bbits_zero.mpr (fun j _ => decide_eq_false (fun q => q.1 (of_decide_eq_true h61)))).trans (bbits_zero.mpr (fun j _ => decide_eq_false (fun q => q.1 (of_decide_eq_true h61)))).symm)))) (by omega) (by omega)
          · refine v_iload X dX8_feared_64 4 rfl ?_
            refine v_iload_n X dX8_feared_66 rfl 3 rfl ?_
            refine v_iload X dX8_feared_67 5 rfl ?_
            refine v_roI1 X (rn_S X k_X8_bit ml_X8_274 dX8_feared_69 (c_X8_bit l E (ndf (bbits (fun c => decide (0 < ink c)) 8) (bdN ink mn m 0)) vc (Nat.lt_trans (ndf_lt (n := 8) _ (bbits_lt _ 8)) (by decide)) (by omega)) rfl (by decide) (by decide) (by omega) (by omega) (Nat.le_of_ble_eq_true rfl)) [] rfl rfl ?_
            refine v_ifB_eq X dX8_feared_72 (tgt := 97) (by decide) (fun h72 => ?_) (fun h72 => ?_)
            · refine v_iconst X dX8_feared_97 (v := nI 0) (by decide) ?_
              refine v_ior X dX8_feared_98 ?_
              refine v_eqi (x' := nI (vb ||| 0)) (fa_or _ _) ?_
              refine v_istore X dX8_feared_99 (by decide) (lv' := [(4, .int (nI (vb ||| 0))), (0, .ref k), (1, .int m), (2, .int (nI (bdN ink mn m 0))), (3, .int (nI (ndf (bbits (fun c => decide (0 < ink c)) 8) (bdN ink mn m 0)))), (5, .int (nI vc))]) rfl ?_
              refine v_iinc X dX8_feared_101 5 rfl (v := nI (vc + 1)) (nI_inc vc) (by decide) (lv' := [(5, .int (nI (vc + 1))), (4, .int (nI (vb ||| 0))), (0, .ref k), (1, .int m), (2, .int (nI (bdN ink mn m 0))), (3, .int (nI (ndf (bbits (fun c => decide (0 < ink c)) 8) (bdN ink mn m 0))))]) rfl ?_
              refine v_goto X dX8_feared_104 (tgt := 44) (by decide) ?_
              refine V.lvs [2, 3, 4, 5, 1, 0] rfl ?_
              exact ih44 (vc + 1) (vb ||| 0) (⟨by omega, by rw [hb]; exact (Nat.or_zero _).trans (bbits_no (decide_eq_false (fun q => by rw [← oth_e, h72] at q; exact absurd q.2.1 (by decide)))).symm⟩) (by omega)
            · refine v_aload_n X dX8_feared_75 rfl 0 rfl ?_
              refine v_iload_n X dX8_feared_76 rfl 2 rfl ?_
              refine v_iconst X dX8_feared_77 (v := nI 1) (by decide) ?_
              refine v_iload X dX8_feared_78 5 rfl ?_
              refine v_ishl X dX8_feared_80 ?_
              refine v_eqi (x' := nI (2 ^ vc)) (nI_shl1 (by omega)) ?_
              refine v_ior X dX8_feared_81 ?_
              refine v_eqi (x' := nI ((bdN ink mn m 0) ||| (2 ^ vc))) (fa_or _ _) ?_
              refine v_roL1 X (rn_V X k_X8_keepAll ml_X8_335 dX8_feared_82 (c_X8_keepAllL l E k 0 tr wh g rr q z nb wa wd al wl cy kp nc cb Fs Ft kf t ((bdN ink mn m 0) ||| (2 ^ vc)) (by first | assumption | omega) (Nat.lt_trans (or_256 hb256 (by omega)) (by decide))) rfl 0 rfl rfl (by decide) (by decide) (by omega) (by omega) (Nat.le_of_ble_eq_true rfl)) [0, 1, 7] rfl rfl ?_
              refine v_lconst X dX8_feared_85 (v := lN 0) (by decide) ?_
              refine v_lcmp X dX8_feared_86 ?_
              refine v_ifLN_ne X dX8_feared_87 (tgt := 97) (by decide) (kpN_lt hd _ _ _ _) (by decide) (fun h87 => ?_) (fun h87 => ?_)
              · refine v_iconst X dX8_feared_97 (v := nI 0) (by decide) ?_
                refine v_ior X dX8_feared_98 ?_
                refine v_eqi (x' := nI (vb ||| 0)) (fa_or _ _) ?_
                refine v_istore X dX8_feared_99 (by decide) (lv' := [(4, .int (nI (vb ||| 0))), (0, .ref k), (1, .int m), (2, .int (nI (bdN ink mn m 0))), (3, .int (nI (ndf (bbits (fun c => decide (0 < ink c)) 8) (bdN ink mn m 0)))), (5, .int (nI vc))]) rfl ?_
                refine v_iinc X dX8_feared_101 5 rfl (v := nI (vc + 1)) (nI_inc vc) (by decide) (lv' := [(5, .int (nI (vc + 1))), (4, .int (nI (vb ||| 0))), (0, .ref k), (1, .int m), (2, .int (nI (bdN ink mn m 0))), (3, .int (nI (ndf (bbits (fun c => decide (0 < ink c)) 8) (bdN ink mn m 0))))]) rfl ?_
                refine v_goto X dX8_feared_104 (tgt := 44) (by decide) ?_
                refine V.lvs [2, 3, 4, 5, 1, 0] rfl ?_
                exact ih44 (vc + 1) (vb ||| 0) (⟨by omega, by rw [hb]; exact (Nat.or_zero _).trans (bbits_no (decide_eq_false (fun q => h87 q.2.2))).symm⟩) (by omega)
              · refine v_iconst X dX8_feared_90 (v := nI 1) (by decide) ?_
                refine v_iload X dX8_feared_91 5 rfl ?_
                refine v_ishl X dX8_feared_93 ?_
                refine v_eqi (x' := nI (2 ^ vc)) (nI_shl1 (by omega)) ?_
                refine v_goto X dX8_feared_94 (tgt := 98) (by decide) ?_
                refine v_ior X dX8_feared_98 ?_
                refine v_eqi (x' := nI (vb ||| (2 ^ vc))) (fa_or _ _) ?_
                refine v_istore X dX8_feared_99 (by decide) (lv' := [(4, .int (nI (vb ||| (2 ^ vc)))), (0, .ref k), (1, .int m), (2, .int (nI (bdN ink mn m 0))), (3, .int (nI (ndf (bbits (fun c => decide (0 < ink c)) 8) (bdN ink mn m 0)))), (5, .int (nI vc))]) rfl ?_
                refine v_iinc X dX8_feared_101 5 rfl (v := nI (vc + 1)) (nI_inc vc) (by decide) (lv' := [(5, .int (nI (vc + 1))), (4, .int (nI (vb ||| (2 ^ vc)))), (0, .ref k), (1, .int m), (2, .int (nI (bdN ink mn m 0))), (3, .int (nI (ndf (bbits (fun c => decide (0 < ink c)) 8) (bdN ink mn m 0))))]) rfl ?_
                refine v_goto X dX8_feared_104 (tgt := 44) (by decide) ?_
                refine V.lvs [2, 3, 4, 5, 1, 0] rfl ?_
                exact ih44 (vc + 1) (vb ||| (2 ^ vc)) (⟨by omega, by rw [hb]; exact (bbits_yes (decide_eq_true ⟨of_decide_eq_false h61, by rw [← oth_e]; exact h72, h87⟩)).symm⟩) (by omega)
    refine V.lvs [4, 5, 3, 2, 1, 0] rfl ?_
    exact L44 _ 0 0 (⟨by omega, rfl⟩) (Nat.lt_succ_self _)
  · exact absurd hok (of_decide_eq_false h10)
set_option maxRecDepth 100000 in
set_option maxHeartbeats 4000000 in
theorem c_X8_feared_no (l : Launch) (E : Et) (k : Nat) (th : Nat) (tr : Nat) (wh : Int32) (g : Nat) (rr : Option Nat) (q : Nat → Nat) (z : Nat → Nat) (nb : Int32) (wa : Int32) (wd : Int64) (ev : Nat) (al : Int32) (wl : Int64) (cy : Nat → Nat) (kp : Nat) (nc : Nat) (cb : Nat → Nat) (m : Int32) (hno : ¬ okM m (cy 3)) : Ct l E yX8_feared cX8_feared 6 (some .int) 5 0 0 [.ref k, .int m] [ob k 8 [.int (nI th), .int (nI tr), .int wh, .ref g, va_rf rr, .ref (q 5), .int (nI (z 6)), .int (nI (z 7)), .int (nI (z 8)), .int (nI (z 9)), .int (nI (z 10)), .int nb, .int (nI (z 12)), .int wa, .long wd, .ref (q 15), .ref (q 16), .ref (q 17), .ref (q 18), .int (nI (z 19)), .int (nI (z 20)), .ref (q 21), .long (lN ev), .ref (q 23), .ref (q 24), .int (nI (z 25)), .ref (q 26), .int al, .long wl, .int (nI (z 29))], ob g 7 [.int (nI (cy 0)), .int (nI (cy 1)), .int (nI (cy 2)), .int (nI (cy 3)), .int (nI (cy 4)), .int (nI (cy 5)), .int (nI (cy 6)), .int (nI (cy 7)), .int (nI kp), .int (nI nc), .ref (cb 0), .ref (cb 1), .ref (cb 2), .ref (cb 3), .ref (cb 4), .ref (cb 5), .ref (cb 6), .ref (cb 7), .ref (cb 8), .ref (cb 9), .ref (cb 10), .ref (cb 11)]] (wrI [ob k 8 [.int (nI 0), .int (nI 1), .int (-1), .ref g, va_rf rr, .ref (q 5), .int (nI (z 6)), .int (nI (z 7)), .int (nI (z 8)), .int (nI (z 9)), .int (nI (z 10)), .int nb, .int (nI (z 12)), .int wa, .long wd, .ref (q 15), .ref (q 16), .ref (q 17), .ref (q 18), .int (nI (z 19)), .int (nI (z 20)), .ref (q 21), .long (lN ev), .ref (q 23), .ref (q 24), .int (nI (z 25)), .ref (q 26), .int al, .long wl, .int (nI (z 29))], ob g 7 [.int (nI (cy 0)), .int (nI (cy 1)), .int (nI (cy 2)), .int (nI (cy 3)), .int (nI (cy 4)), .int (nI (cy 5)), .int (nI (cy 6)), .int (nI (cy 7)), .int (nI kp), .int (nI nc), .ref (cb 0), .ref (cb 1), .ref (cb 2), .ref (cb 3), .ref (cb 4), .ref (cb 5), .ref (cb 6), .ref (cb 7), .ref (cb 8), .ref (cb 9), .ref (cb 10), .ref (cb 11)]] (-1)) := by
  refine Ct.intro (by decide +kernel) (Nat.le_of_ble_eq_true rfl) (lv := [(0, .ref k), (1, .int m)]) rfl ?_
  intro Z X Y
  refine v_aload_n X dX8_feared_0 rfl 0 rfl ?_
  refine v_iconst X dX8_feared_1 (v := nI 0) (by decide) ?_
  refine v_put X kcX8 fl_X8_43 dX8_feared_2 0 rfl (ws' := [ob k 8 [.int (nI 0), .int (nI tr), .int wh, .ref g, va_rf rr, .ref (q 5), .int (nI (z 6)), .int (nI (z 7)), .int (nI (z 8)), .int (nI (z 9)), .int (nI (z 10)), .int nb, .int (nI (z 12)), .int wa, .long wd, .ref (q 15), .ref (q 16), .ref (q 17), .ref (q 18), .int (nI (z 19)), .int (nI (z 20)), .ref (q 21), .long (lN ev), .ref (q 23), .ref (q 24), .int (nI (z 25)), .ref (q 26), .int al, .long wl, .int (nI (z 29))], ob g 7 [.int (nI (cy 0)), .int (nI (cy 1)), .int (nI (cy 2)), .int (nI (cy 3)), .int (nI (cy 4)), .int (nI (cy 5)), .int (nI (cy 6)), .int (nI (cy 7)), .int (nI kp), .int (nI nc), .ref (cb 0), .ref (cb 1), .ref (cb 2), .ref (cb 3), .ref (cb 4), .ref (cb 5), .ref (cb 6), .ref (cb 7), .ref (cb 8), .ref (cb 9), .ref (cb 10), .ref (cb 11)]]) rfl rfl ?_
  refine v_aload_n X dX8_feared_5 rfl 0 rfl ?_
  refine v_iload_n X dX8_feared_6 rfl 1 rfl ?_
  refine v_roI1 X (rn_V X k_X8_isMan ml_X8_345 dX8_feared_7 (c_X8_isMan l E k 0 tr wh g rr q z nb wa wd ev al wl cy kp nc cb m ) rfl 0 rfl rfl (by decide) (by decide) (by omega) (by omega) (Nat.le_of_ble_eq_true rfl)) [0, 1] rfl rfl ?_
  refine v_ifB_ne X dX8_feared_10 (tgt := 19) (by decide) (fun h10 => ?_) (fun h10 => ?_)
  · exact absurd (of_decide_eq_true h10) hno
  · refine v_aload_n X dX8_feared_13 rfl 0 rfl ?_
    refine v_iconst X dX8_feared_14 (v := nI 1) (by decide) ?_
    refine v_wrI1 X (rn_V X k_X8_refused ml_X8_49 dX8_feared_15 (c_X8_refused l E k 0 tr wh g rr q z nb wa wd ev al wl 1 ) rfl 0 rfl rfl (by decide) (by decide) (by omega) (by omega) (Nat.le_of_ble_eq_true rfl)) [0] rfl rfl (ws' := [ob k 8 [.int (nI 0), .int (nI 1), .int (-1), .ref g, va_rf rr, .ref (q 5), .int (nI (z 6)), .int (nI (z 7)), .int (nI (z 8)), .int (nI (z 9)), .int (nI (z 10)), .int nb, .int (nI (z 12)), .int wa, .long wd, .ref (q 15), .ref (q 16), .ref (q 17), .ref (q 18), .int (nI (z 19)), .int (nI (z 20)), .ref (q 21), .long (lN ev), .ref (q 23), .ref (q 24), .int (nI (z 25)), .ref (q 26), .int al, .long wl, .int (nI (z 29))], ob g 7 [.int (nI (cy 0)), .int (nI (cy 1)), .int (nI (cy 2)), .int (nI (cy 3)), .int (nI (cy 4)), .int (nI (cy 5)), .int (nI (cy 6)), .int (nI (cy 7)), .int (nI kp), .int (nI nc), .ref (cb 0), .ref (cb 1), .ref (cb 2), .ref (cb 3), .ref (cb 4), .ref (cb 5), .ref (cb 6), .ref (cb 7), .ref (cb 8), .ref (cb 9), .ref (cb 10), .ref (cb 11)]]) rfl rfl ?_
    exact v_iret X Y dX8_feared_18 (wrI_of rfl rfl) (by omega) (by omega)
set_option maxRecDepth 100000 in
set_option maxHeartbeats 4000000 in
theorem c_X8_feared_n (l : Launch) (E : Et) (k : Nat) (th : Nat) (tr : Nat) (wh : Int32) (rr : Option Nat) (q : Nat → Nat) (z : Nat → Nat) (nb : Int32) (wa : Int32) (wd : Int64) (ev : Nat) (al : Int32) (wl : Int64) (m : Int32)  : Ct l E yX8_feared cX8_feared 6 (some .int) 5 0 0 [.ref k, .int m] [ob k 8 [.int (nI th), .int (nI tr), .int wh, .null, va_rf rr, .ref (q 5), .int (nI (z 6)), .int (nI (z 7)), .int (nI (z 8)), .int (nI (z 9)), .int (nI (z 10)), .int nb, .int (nI (z 12)), .int wa, .long wd, .ref (q 15), .ref (q 16), .ref (q 17), .ref (q 18), .int (nI (z 19)), .int (nI (z 20)), .ref (q 21), .long (lN ev), .ref (q 23), .ref (q 24), .int (nI (z 25)), .ref (q 26), .int al, .long wl, .int (nI (z 29))]] (wrI [ob k 8 [.int (nI 0), .int (nI 1), .int (-1), .null, va_rf rr, .ref (q 5), .int (nI (z 6)), .int (nI (z 7)), .int (nI (z 8)), .int (nI (z 9)), .int (nI (z 10)), .int nb, .int (nI (z 12)), .int wa, .long wd, .ref (q 15), .ref (q 16), .ref (q 17), .ref (q 18), .int (nI (z 19)), .int (nI (z 20)), .ref (q 21), .long (lN ev), .ref (q 23), .ref (q 24), .int (nI (z 25)), .ref (q 26), .int al, .long wl, .int (nI (z 29))]] (-1)) := by
  refine Ct.intro (by decide +kernel) (Nat.le_of_ble_eq_true rfl) (lv := [(0, .ref k), (1, .int m)]) rfl ?_
  intro Z X Y
  refine v_aload_n X dX8_feared_0 rfl 0 rfl ?_
  refine v_iconst X dX8_feared_1 (v := nI 0) (by decide) ?_
  refine v_put X kcX8 fl_X8_43 dX8_feared_2 0 rfl (ws' := [ob k 8 [.int (nI 0), .int (nI tr), .int wh, .null, va_rf rr, .ref (q 5), .int (nI (z 6)), .int (nI (z 7)), .int (nI (z 8)), .int (nI (z 9)), .int (nI (z 10)), .int nb, .int (nI (z 12)), .int wa, .long wd, .ref (q 15), .ref (q 16), .ref (q 17), .ref (q 18), .int (nI (z 19)), .int (nI (z 20)), .ref (q 21), .long (lN ev), .ref (q 23), .ref (q 24), .int (nI (z 25)), .ref (q 26), .int al, .long wl, .int (nI (z 29))]]) rfl rfl ?_
  refine v_aload_n X dX8_feared_5 rfl 0 rfl ?_
  refine v_iload_n X dX8_feared_6 rfl 1 rfl ?_
  refine v_roI1 X (rn_V X k_X8_isMan ml_X8_345 dX8_feared_7 (c_X8_isMan_n l E k 0 tr wh rr q z nb wa wd ev al wl m ) rfl 0 rfl rfl (by decide) (by decide) (by omega) (by omega) (Nat.le_of_ble_eq_true rfl)) [0] rfl rfl ?_
  refine v_ifN_ne X dX8_feared_10 (tgt := 19) (by decide) (by decide) (fun h10 => ?_) (fun h10 => ?_)
  · exfalso; omega
  · refine v_aload_n X dX8_feared_13 rfl 0 rfl ?_
    refine v_iconst X dX8_feared_14 (v := nI 1) (by decide) ?_
    refine v_wrI1 X (rn_V X k_X8_refused ml_X8_49 dX8_feared_15 (c_X8_refused_n l E k 0 tr wh rr q z nb wa wd ev al wl 1 ) rfl 0 rfl rfl (by decide) (by decide) (by omega) (by omega) (Nat.le_of_ble_eq_true rfl)) [0] rfl rfl (ws' := [ob k 8 [.int (nI 0), .int (nI 1), .int (-1), .null, va_rf rr, .ref (q 5), .int (nI (z 6)), .int (nI (z 7)), .int (nI (z 8)), .int (nI (z 9)), .int (nI (z 10)), .int nb, .int (nI (z 12)), .int wa, .long wd, .ref (q 15), .ref (q 16), .ref (q 17), .ref (q 18), .int (nI (z 19)), .int (nI (z 20)), .ref (q 21), .long (lN ev), .ref (q 23), .ref (q 24), .int (nI (z 25)), .ref (q 26), .int al, .long wl, .int (nI (z 29))]]) rfl rfl ?_
    exact v_iret X Y dX8_feared_18 (wrI_of rfl rfl) (by omega) (by omega)
set_option maxRecDepth 100000 in
set_option maxHeartbeats 4000000 in
theorem c_X8_together (l : Launch) (E : Et) (k : Nat) (th : Nat) (tr : Nat) (wh : Int32) (g : Nat) (rr : Option Nat) (q : Nat → Nat) (z : Nat → Nat) (nb : Int32) (wa : Int32) (wd : Int64) (ev : Nat) (al : Int32) (wl : Int64) (cy : Nat → Nat) (kp : Nat) (nc : Nat) (cb : Nat → Nat) (fo : Nat → Nat) (on : Nat → Nat) (tw : Nat → Int32) (xf : Nat → Int32) (mn : Nat → Int32) (ink : Nat → Nat) (t : Nat) (dd : Nat) (Fs : Nat → Nat) (Ft : Nat → Nat) (kf : Nat → Nat) (hd : cy 4 ≤ 6) (hcl : cy 5 ≤ 8) (hfo : ∀ c, c < cy 5 → fo c ≤ 5) (hon : ∀ c, c < cy 5 → on c < 6) (htw : ∀ c, c < cy 5 → okT (tw c)) (hFs : ∀ c, c < cy 5 → Fs c = strN (fo c) (swI (nI (on c))) (swI (tw c))) (hFt : ∀ c, c < cy 5 → Ft c = turN (fo c) (swI (nI (on c))) (swI (tw c))) (hink : ∀ c, ink c ≤ 40) (hz : ∀ c, cy 5 ≤ c → ink c = 0) : Ct l E yX8_together cX8_together 4 (some .int) 5 0 0 [.ref k] [ob k 8 [.int (nI th), .int (nI tr), .int wh, .ref g, va_rf rr, .ref (q 5), .int (nI (z 6)), .int (nI (z 7)), .int (nI (z 8)), .int (nI (z 9)), .int (nI (z 10)), .int nb, .int (nI (z 12)), .int wa, .long wd, .ref (q 15), .ref (q 16), .ref (q 17), .ref (q 18), .int (nI (z 19)), .int (nI (z 20)), .ref (q 21), .long (lN ev), .ref (q 23), .ref (q 24), .int (nI (z 25)), .ref (q 26), .int al, .long wl, .int (nI (z 29))], ob g 7 [.int (nI (cy 0)), .int (nI (cy 1)), .int (nI (cy 2)), .int (nI (cy 3)), .int (nI (cy 4)), .int (nI (cy 5)), .int (nI (cy 6)), .int (nI (cy 7)), .int (nI kp), .int (nI nc), .ref (cb 0), .ref (cb 1), .ref (cb 2), .ref (cb 3), .ref (cb 4), .ref (cb 5), .ref (cb 6), .ref (cb 7), .ref (cb 8), .ref (cb 9), .ref (cb 10), .ref (cb 11)], aN E (cb 2) 8 fo, aN E (cb 3) 8 on, aI E (cb 4) 8 tw, aI E (q 15) 25 (xF mn ink t dd), aI E (q 16) 25 xf, aM E (q 21) 8 kf] (wrI [ob k 8 [.int (nI 0), .int (nI 0), .int (-1), .ref g, va_rf rr, .ref (q 5), .int (nI (z 6)), .int (nI (z 7)), .int (nI (z 8)), .int (nI (z 9)), .int (nI (z 10)), .int nb, .int (nI (z 12)), .int wa, .long wd, .ref (q 15), .ref (q 16), .ref (q 17), .ref (q 18), .int (nI (z 19)), .int (nI (z 20)), .ref (q 21), .long (lN (allS (cy 4))), .ref (q 23), .ref (q 24), .int (nI (z 25)), .ref (q 26), .int al, .long wl, .int (nI (z 29))], ob g 7 [.int (nI (cy 0)), .int (nI (cy 1)), .int (nI (cy 2)), .int (nI (cy 3)), .int (nI (cy 4)), .int (nI (cy 5)), .int (nI (cy 6)), .int (nI (cy 7)), .int (nI kp), .int (nI nc), .ref (cb 0), .ref (cb 1), .ref (cb 2), .ref (cb 3), .ref (cb 4), .ref (cb 5), .ref (cb 6), .ref (cb 7), .ref (cb 8), .ref (cb 9), .ref (cb 10), .ref (cb 11)], aN E (cb 2) 8 fo, aN E (cb 3) 8 on, aI E (cb 4) 8 tw, aI E (q 15) 25 (xF mn ink t dd), aI E (q 16) 25 (xF mn ink t dd), aM E (q 21) 8 (lyF Fs Ft t (cy 4) kf (cy 5))] (nI (togF (fun p => decide (ndf p (bbits (fun c => decide (0 < ink c)) 8) = 0 ∧ ¬ kpN cy Fs Ft t p = 0)) (bbits (fun c => decide (0 < ink c)) 8 + 1)))) := by
  refine Ct.intro (by decide +kernel) (Nat.le_of_ble_eq_true rfl) (lv := [(0, .ref k)]) rfl ?_
  intro Z X Y
  have hb256 : bbits (fun c => decide (0 < ink c)) 8 < 256 := bbits_lt _ 8
  refine v_aload_n X dX8_together_0 rfl 0 rfl ?_
  refine v_iconst X dX8_together_1 (v := nI 0) (by decide) ?_
  refine v_put X kcX8 fl_X8_43 dX8_together_2 0 rfl (ws' := [ob k 8 [.int (nI 0), .int (nI tr), .int wh, .ref g, va_rf rr, .ref (q 5), .int (nI (z 6)), .int (nI (z 7)), .int (nI (z 8)), .int (nI (z 9)), .int (nI (z 10)), .int nb, .int (nI (z 12)), .int wa, .long wd, .ref (q 15), .ref (q 16), .ref (q 17), .ref (q 18), .int (nI (z 19)), .int (nI (z 20)), .ref (q 21), .long (lN ev), .ref (q 23), .ref (q 24), .int (nI (z 25)), .ref (q 26), .int al, .long wl, .int (nI (z 29))], ob g 7 [.int (nI (cy 0)), .int (nI (cy 1)), .int (nI (cy 2)), .int (nI (cy 3)), .int (nI (cy 4)), .int (nI (cy 5)), .int (nI (cy 6)), .int (nI (cy 7)), .int (nI kp), .int (nI nc), .ref (cb 0), .ref (cb 1), .ref (cb 2), .ref (cb 3), .ref (cb 4), .ref (cb 5), .ref (cb 6), .ref (cb 7), .ref (cb 8), .ref (cb 9), .ref (cb 10), .ref (cb 11)], aN E (cb 2) 8 fo, aN E (cb 3) 8 on, aI E (cb 4) 8 tw, aI E (q 15) 25 (xF mn ink t dd), aI E (q 16) 25 xf, aM E (q 21) 8 kf]) rfl rfl ?_
  refine v_aload_n X dX8_together_5 rfl 0 rfl ?_
  refine v_get X kcX8 fl_X8_306 dX8_together_6 0 rfl rfl ?_
  refine v_ifnonnull X dX8_together_9 (tgt := 18) (by decide) ?_
  refine v_aload_n X dX8_together_18 rfl 0 rfl ?_
  refine v_wrV1 X (rn_V X k_X8_worksLaid ml_X8_354 dX8_together_19 (c_X8_worksLaid l E k 0 tr wh g rr q z nb wa wd ev al wl cy kp nc cb fo on tw xf mn ink t dd Fs Ft kf (by first | assumption | omega) (by first | assumption | omega) (by first | assumption | omega) (by first | assumption | omega) (by first | assumption | omega) (by first | assumption | omega) (by first | assumption | omega)) rfl 0 rfl rfl (by decide) (by decide) (by omega) (by omega) (Nat.le_of_ble_eq_true rfl)) [0, 1, 2, 3, 4, 5, 6, 7] rfl rfl (ws' := [ob k 8 [.int (nI 0), .int (nI tr), .int wh, .ref g, va_rf rr, .ref (q 5), .int (nI (z 6)), .int (nI (z 7)), .int (nI (z 8)), .int (nI (z 9)), .int (nI (z 10)), .int nb, .int (nI (z 12)), .int wa, .long wd, .ref (q 15), .ref (q 16), .ref (q 17), .ref (q 18), .int (nI (z 19)), .int (nI (z 20)), .ref (q 21), .long (lN (allS (cy 4))), .ref (q 23), .ref (q 24), .int (nI (z 25)), .ref (q 26), .int al, .long wl, .int (nI (z 29))], ob g 7 [.int (nI (cy 0)), .int (nI (cy 1)), .int (nI (cy 2)), .int (nI (cy 3)), .int (nI (cy 4)), .int (nI (cy 5)), .int (nI (cy 6)), .int (nI (cy 7)), .int (nI kp), .int (nI nc), .ref (cb 0), .ref (cb 1), .ref (cb 2), .ref (cb 3), .ref (cb 4), .ref (cb 5), .ref (cb 6), .ref (cb 7), .ref (cb 8), .ref (cb 9), .ref (cb 10), .ref (cb 11)], aN E (cb 2) 8 fo, aN E (cb 3) 8 on, aI E (cb 4) 8 tw, aI E (q 15) 25 (xF mn ink t dd), aI E (q 16) 25 (xF mn ink t dd), aM E (q 21) 8 (lyF Fs Ft t (cy 4) kf (cy 5))]) rfl rfl ?_
  refine v_aload_n X dX8_together_22 rfl 0 rfl ?_
  refine v_roI1 X (rn_V X k_X8_bindingAll ml_X8_378 dX8_together_23 (c_X8_bindingAll l E k 0 tr wh g rr q z nb wa wd (allS (cy 4)) al wl cy kp nc cb mn ink t dd (by first | assumption | omega) (by first | assumption | omega) (by first | assumption | omega)) rfl 0 rfl rfl (by decide) (by decide) (by omega) (by omega) (Nat.le_of_ble_eq_true rfl)) [0, 1, 6] rfl rfl ?_
  refine v_istore_n X dX8_together_26 rfl (by decide) (lv' := [(1, .int (nI (bbits (fun cx => decide (0 < ink cx)) 8))), (0, .ref k)]) rfl ?_
  refine v_iconst X dX8_together_27 (v := nI 0) (by decide) ?_
  refine v_istore_n X dX8_together_28 rfl (by decide) (lv' := [(2, .int (nI 0)), (1, .int (nI (bbits (fun cx => decide (0 < ink cx)) 8))), (0, .ref k)]) rfl ?_
  refine v_iconst X dX8_together_29 (v := nI 0) (by decide) ?_
  refine v_istore_n X dX8_together_30 rfl (by decide) (lv' := [(3, .int (nI 0)), (2, .int (nI 0)), (1, .int (nI (bbits (fun cx => decide (0 < ink cx)) 8))), (0, .ref k)]) rfl ?_
  have L31 : ∀ (j31 : Nat) (vp : Nat) (vb : Nat), (vp ≤ bbits (fun c => decide (0 < ink c)) 8 + 1 ∧ vb = togF (fun p => decide (ndf p (bbits (fun c => decide (0 < ink c)) 8) = 0 ∧ ¬ kpN cy Fs Ft t p = 0)) vp) → bbits (fun c => decide (0 < ink c)) 8 + 1 - vp < j31 → V E Z 31 [(0, .ref k), (1, .int (nI (bbits (fun c => decide (0 < ink c)) 8))), (2, .int (nI vb)), (3, .int (nI vp))] [] [ob k 8 [.int (nI 0), .int (nI tr), .int wh, .ref g, va_rf rr, .ref (q 5), .int (nI (z 6)), .int (nI (z 7)), .int (nI (z 8)), .int (nI (z 9)), .int (nI (z 10)), .int nb, .int (nI (z 12)), .int wa, .long wd, .ref (q 15), .ref (q 16), .ref (q 17), .ref (q 18), .int (nI (z 19)), .int (nI (z 20)), .ref (q 21), .long (lN (allS (cy 4))), .ref (q 23), .ref (q 24), .int (nI (z 25)), .ref (q 26), .int al, .long wl, .int (nI (z 29))], ob g 7 [.int (nI (cy 0)), .int (nI (cy 1)), .int (nI (cy 2)), .int (nI (cy 3)), .int (nI (cy 4)), .int (nI (cy 5)), .int (nI (cy 6)), .int (nI (cy 7)), .int (nI kp), .int (nI nc), .ref (cb 0), .ref (cb 1), .ref (cb 2), .ref (cb 3), .ref (cb 4), .ref (cb 5), .ref (cb 6), .ref (cb 7), .ref (cb 8), .ref (cb 9), .ref (cb 10), .ref (cb 11)], aN E (cb 2) 8 fo, aN E (cb 3) 8 on, aI E (cb 4) 8 tw, aI E (q 15) 25 (xF mn ink t dd), aI E (q 16) 25 (xF mn ink t dd), aM E (q 21) 8 (lyF Fs Ft t (cy 4) kf (cy 5))] 0 0 := by
    intro j31
    induction j31 with
    | zero => intro vp vb hI hM; exact absurd hM (Nat.not_lt_zero _)
    | succ j31 ih31 =>
      intro vp vb hI31 hM31
      obtain ⟨hc, hb⟩ := id hI31
      refine v_iload_n X dX8_together_31 rfl 3 rfl ?_
      refine v_iload_n X dX8_together_32 rfl 1 rfl ?_
      refine v_icmpN_gt X dX8_together_33 (tgt := 73) (by decide) (by omega) (by omega) (fun h33 => ?_) (fun h33 => ?_)
      · refine v_aload_n X dX8_together_73 rfl 0 rfl ?_
        refine v_iload_n X dX8_together_74 rfl 2 rfl ?_
        refine v_wrI1 X (rn_V X k_X8_good ml_X8_53 dX8_together_75 (c_X8_good l E k 0 tr wh g rr q z nb wa wd (allS (cy 4)) al wl (nI vb) ) rfl 0 rfl rfl (by decide) (by decide) (by omega) (by omega) (Nat.le_of_ble_eq_true rfl)) [0] rfl rfl (ws' := [ob k 8 [.int (nI 0), .int (nI 0), .int (-1), .ref g, va_rf rr, .ref (q 5), .int (nI (z 6)), .int (nI (z 7)), .int (nI (z 8)), .int (nI (z 9)), .int (nI (z 10)), .int nb, .int (nI (z 12)), .int wa, .long wd, .ref (q 15), .ref (q 16), .ref (q 17), .ref (q 18), .int (nI (z 19)), .int (nI (z 20)), .ref (q 21), .long (lN (allS (cy 4))), .ref (q 23), .ref (q 24), .int (nI (z 25)), .ref (q 26), .int al, .long wl, .int (nI (z 29))], ob g 7 [.int (nI (cy 0)), .int (nI (cy 1)), .int (nI (cy 2)), .int (nI (cy 3)), .int (nI (cy 4)), .int (nI (cy 5)), .int (nI (cy 6)), .int (nI (cy 7)), .int (nI kp), .int (nI nc), .ref (cb 0), .ref (cb 1), .ref (cb 2), .ref (cb 3), .ref (cb 4), .ref (cb 5), .ref (cb 6), .ref (cb 7), .ref (cb 8), .ref (cb 9), .ref (cb 10), .ref (cb 11)], aN E (cb 2) 8 fo, aN E (cb 3) 8 on, aI E (cb 4) 8 tw, aI E (q 15) 25 (xF mn ink t dd), aI E (q 16) 25 (xF mn ink t dd), aM E (q 21) 8 (lyF Fs Ft t (cy 4) kf (cy 5))]) rfl rfl ?_
        exact v_iret X Y dX8_together_78 (wrI_of rfl (by rw [show bbits (fun c => decide (0 < ink c)) 8 + 1 = vp by omega, ← hb])) (by omega) (by omega)
      · have hvb : vb ≤ vp := by rw [hb]; exact togF_le
        refine v_iload_n X dX8_together_36 rfl 3 rfl ?_
        refine v_iload_n X dX8_together_37 rfl 1 rfl ?_
        refine v_iconst X dX8_together_38 (v := (-1)) (by decide) ?_
        refine v_ixor X dX8_together_39 ?_
        refine v_iand X dX8_together_40 ?_
        refine v_eqi (x' := nI (ndf vp (bbits (fun c => decide (0 < ink c)) 8))) (nI_andn _ _) ?_
        refine v_ifN_ne X dX8_together_41 (tgt := 67) (by decide) (Nat.lt_trans (ndf_lt (n := 9) _ (by omega)) (by decide)) (fun h41 => ?_) (fun h41 => ?_)
        · refine v_iinc X dX8_together_67 3 rfl (v := nI (vp + 1)) (nI_inc vp) (by decide) (lv' := [(3, .int (nI (vp + 1))), (0, .ref k), (1, .int (nI (bbits (fun c => decide (0 < ink c)) 8))), (2, .int (nI vb))]) rfl ?_
          refine v_goto X dX8_together_70 (tgt := 31) (by decide) ?_
          refine V.lvs [1, 2, 3, 0] rfl ?_
          exact ih31 (vp + 1) vb (⟨by omega, by rw [hb]; exact (togF_no (Or.inl (decide_eq_false (fun q => h41 q.1)))).symm⟩) (by omega)
        · refine v_aload_n X dX8_together_44 rfl 0 rfl ?_
          refine v_iload_n X dX8_together_45 rfl 3 rfl ?_
          refine v_roL1 X (rn_V X k_X8_keepAll ml_X8_335 dX8_together_46 (c_X8_keepAllL l E k 0 tr wh g rr q z nb wa wd al wl cy kp nc cb Fs Ft kf t vp (by first | assumption | omega) (by omega)) rfl 0 rfl rfl (by decide) (by decide) (by omega) (by omega) (Nat.le_of_ble_eq_true rfl)) [0, 1, 7] rfl rfl ?_
          refine v_lconst X dX8_together_49 (v := lN 0) (by decide) ?_
          refine v_lcmp X dX8_together_50 ?_
          refine v_ifLN_eq X dX8_together_51 (tgt := 67) (by decide) (kpN_lt hd _ _ _ _) (by decide) (fun h51 => ?_) (fun h51 => ?_)
          · refine v_iinc X dX8_together_67 3 rfl (v := nI (vp + 1)) (nI_inc vp) (by decide) (lv' := [(3, .int (nI (vp + 1))), (0, .ref k), (1, .int (nI (bbits (fun c => decide (0 < ink c)) 8))), (2, .int (nI vb))]) rfl ?_
            refine v_goto X dX8_together_70 (tgt := 31) (by decide) ?_
            refine V.lvs [1, 2, 3, 0] rfl ?_
            exact ih31 (vp + 1) vb (⟨by omega, by rw [hb]; exact (togF_no (Or.inl (decide_eq_false (fun q => q.2 h51)))).symm⟩) (by omega)
          · refine v_iload_n X dX8_together_54 rfl 3 rfl ?_
            refine v_roI1 X (rn_S X k_X8_bits ml_X8_368 dX8_together_55 (c_X8_bits l E vp (by omega)) rfl (by decide) (by decide) (by omega) (by omega) (Nat.le_of_ble_eq_true rfl)) [] rfl rfl ?_
            refine v_iload_n X dX8_together_58 rfl 2 rfl ?_
            refine v_roI1 X (rn_S X k_X8_bits ml_X8_368 dX8_together_59 (c_X8_bits l E vb (by omega)) rfl (by decide) (by decide) (by omega) (by omega) (Nat.le_of_ble_eq_true rfl)) [] rfl rfl ?_
            refine v_icmpN_le X dX8_together_62 (tgt := 67) (by decide) (Nat.lt_of_le_of_lt (cnt_le _ _) (by decide)) (Nat.lt_of_le_of_lt (cnt_le _ _) (by decide)) (fun h62 => ?_) (fun h62 => ?_)
            · refine v_iinc X dX8_together_67 3 rfl (v := nI (vp + 1)) (nI_inc vp) (by decide) (lv' := [(3, .int (nI (vp + 1))), (0, .ref k), (1, .int (nI (bbits (fun c => decide (0 < ink c)) 8))), (2, .int (nI vb))]) rfl ?_
              refine v_goto X dX8_together_70 (tgt := 31) (by decide) ?_
              refine V.lvs [1, 2, 3, 0] rfl ?_
              exact ih31 (vp + 1) vb (⟨by omega, by subst hb; exact (togF_no (Or.inr (Nat.not_lt.mpr h62))).symm⟩) (by omega)
            · refine v_iload_n X dX8_together_65 rfl 3 rfl ?_
              refine v_istore_n X dX8_together_66 rfl (by decide) (lv' := [(2, .int (nI vp)), (0, .ref k), (1, .int (nI (bbits (fun c => decide (0 < ink c)) 8))), (3, .int (nI vp))]) rfl ?_
              refine v_iinc X dX8_together_67 3 rfl (v := nI (vp + 1)) (nI_inc vp) (by decide) (lv' := [(3, .int (nI (vp + 1))), (2, .int (nI vp)), (0, .ref k), (1, .int (nI (bbits (fun c => decide (0 < ink c)) 8)))]) rfl ?_
              refine v_goto X dX8_together_70 (tgt := 31) (by decide) ?_
              refine V.lvs [2, 3, 1, 0] rfl ?_
              exact ih31 (vp + 1) vp (⟨by omega, by subst hb; exact (togF_yes (decide_eq_true ⟨h41, h51⟩) (Nat.not_le.mp h62)).symm⟩) (by omega)
  refine V.lvs [3, 2, 1, 0] rfl ?_
  exact L31 _ 0 0 (⟨by omega, rfl⟩) (Nat.lt_succ_self _)
set_option maxRecDepth 100000 in
set_option maxHeartbeats 4000000 in
theorem c_X8_together_n (l : Launch) (E : Et) (k : Nat) (th : Nat) (tr : Nat) (wh : Int32) (rr : Option Nat) (q : Nat → Nat) (z : Nat → Nat) (nb : Int32) (wa : Int32) (wd : Int64) (ev : Nat) (al : Int32) (wl : Int64)  : Ct l E yX8_together cX8_together 4 (some .int) 5 0 0 [.ref k] [ob k 8 [.int (nI th), .int (nI tr), .int wh, .null, va_rf rr, .ref (q 5), .int (nI (z 6)), .int (nI (z 7)), .int (nI (z 8)), .int (nI (z 9)), .int (nI (z 10)), .int nb, .int (nI (z 12)), .int wa, .long wd, .ref (q 15), .ref (q 16), .ref (q 17), .ref (q 18), .int (nI (z 19)), .int (nI (z 20)), .ref (q 21), .long (lN ev), .ref (q 23), .ref (q 24), .int (nI (z 25)), .ref (q 26), .int al, .long wl, .int (nI (z 29))]] (wrI [ob k 8 [.int (nI 0), .int (nI 1), .int (-1), .null, va_rf rr, .ref (q 5), .int (nI (z 6)), .int (nI (z 7)), .int (nI (z 8)), .int (nI (z 9)), .int (nI (z 10)), .int nb, .int (nI (z 12)), .int wa, .long wd, .ref (q 15), .ref (q 16), .ref (q 17), .ref (q 18), .int (nI (z 19)), .int (nI (z 20)), .ref (q 21), .long (lN ev), .ref (q 23), .ref (q 24), .int (nI (z 25)), .ref (q 26), .int al, .long wl, .int (nI (z 29))]] (-1)) := by
  refine Ct.intro (by decide +kernel) (Nat.le_of_ble_eq_true rfl) (lv := [(0, .ref k)]) rfl ?_
  intro Z X Y
  refine v_aload_n X dX8_together_0 rfl 0 rfl ?_
  refine v_iconst X dX8_together_1 (v := nI 0) (by decide) ?_
  refine v_put X kcX8 fl_X8_43 dX8_together_2 0 rfl (ws' := [ob k 8 [.int (nI 0), .int (nI tr), .int wh, .null, va_rf rr, .ref (q 5), .int (nI (z 6)), .int (nI (z 7)), .int (nI (z 8)), .int (nI (z 9)), .int (nI (z 10)), .int nb, .int (nI (z 12)), .int wa, .long wd, .ref (q 15), .ref (q 16), .ref (q 17), .ref (q 18), .int (nI (z 19)), .int (nI (z 20)), .ref (q 21), .long (lN ev), .ref (q 23), .ref (q 24), .int (nI (z 25)), .ref (q 26), .int al, .long wl, .int (nI (z 29))]]) rfl rfl ?_
  refine v_aload_n X dX8_together_5 rfl 0 rfl ?_
  refine v_get X kcX8 fl_X8_306 dX8_together_6 0 rfl rfl ?_
  refine v_ifnonnullN X dX8_together_9 ?_
  refine v_aload_n X dX8_together_12 rfl 0 rfl ?_
  refine v_iconst X dX8_together_13 (v := nI 1) (by decide) ?_
  refine v_wrI1 X (rn_V X k_X8_refused ml_X8_49 dX8_together_14 (c_X8_refused_n l E k 0 tr wh rr q z nb wa wd ev al wl 1 ) rfl 0 rfl rfl (by decide) (by decide) (by omega) (by omega) (Nat.le_of_ble_eq_true rfl)) [0] rfl rfl (ws' := [ob k 8 [.int (nI 0), .int (nI 1), .int (-1), .null, va_rf rr, .ref (q 5), .int (nI (z 6)), .int (nI (z 7)), .int (nI (z 8)), .int (nI (z 9)), .int (nI (z 10)), .int nb, .int (nI (z 12)), .int wa, .long wd, .ref (q 15), .ref (q 16), .ref (q 17), .ref (q 18), .int (nI (z 19)), .int (nI (z 20)), .ref (q 21), .long (lN ev), .ref (q 23), .ref (q 24), .int (nI (z 25)), .ref (q 26), .int al, .long wl, .int (nI (z 29))]]) rfl rfl ?_
  exact v_iret X Y dX8_together_17 (wrI_of rfl rfl) (by omega) (by omega)
